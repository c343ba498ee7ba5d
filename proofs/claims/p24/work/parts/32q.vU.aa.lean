theorem zSet_swap (f : zRw) {r r' x x' : Nat} {v v' : Int32} (h : r ≠ r') : zSet (zSet f r x v) r' x' v' = zSet (zSet f r' x' v') r x v := by
  funext q y
  rw [zSet_a, zSet_a, zSet_a, zSet_a]
  by_cases a : q = r' ∧ y = x'
  · rw [if_pos a, if_neg (fun o => h (o.1.symm.trans a.1)), if_pos a]
  · rw [if_neg a]
    by_cases b : q = r ∧ y = x
    · rw [if_pos b, if_pos b]
    · rw [if_neg b, if_neg b, if_neg a]
/-! what a line of the town leaves of the model's row -/
def zTgm (m m2 : Nat → Int32) : Prop := ∀ i : Nat, (i < 3 ∨ 9 ≤ i ∧ i ≤ 10 ∨ 139 ≤ i) → m2 i = m i
theorem zTg_r (m : Nat → Int32) : zTgm m m := fun _ _ => rfl
theorem zTg_t {a b c : Nat → Int32} (h : zTgm a b) (k : zTgm b c) : zTgm a c := fun i hi => (k i hi).trans (h i hi)
theorem zTg_u {m f f1 : Nat → Int32} {i : Nat} {v : Int32} (h : zTgm m f) (e : f1 = upd f i v) (hi : 3 ≤ i ∧ i < 9 ∨ 11 ≤ i ∧ i < 139) : zTgm m f1 := fun j hj => by
  rw [e, pk_un (by omega)]; exact h j hj
theorem zSm_6 {m f1 f2 f3 f4 f5 f6 : Nat → Int32} {tp : Nat → Int32} {x : Nat} {b u d : Int32} {xx yy zz : Int} (hx : x < 8) (ex : x = (m 3).toInt.toNat) (hb : Int32.ofInt xx = b) (hu : Int32.ofInt yy = u) (hd : Int32.ofInt zz = d) (e1 : f1 = upd m (11 + 5 * x) b) (e2 : f2 = upd f1 (12 + 5 * x) u) (e3 : f3 = upd f2 (13 + 5 * x) 0) (e4 : f4 = upd f3 (14 + 5 * x) d) (e5 : f5 = upd f4 (15 + 5 * x) (-1)) (e6 : f6 = upd f5 3 (m 3 + 1)) : zSR (zSm f6) (zTl1 tp (0, xx, yy, zz) (zSm m)) := by
  unfold zSm
  rw [zTl1_0, hb, hu, hd, ← ex]
  have g : ∀ i : Nat, 4 ≤ i → i < 9 → f6 i = m i := fun i h1 h2 => by
    rw [e6, pk_un (by omega), e5, pk_un (by omega), e4, pk_un (by omega), e3, pk_un (by omega), e2, pk_un (by omega), e1, pk_un (by omega)]
  refine ⟨by rw [e6, pk_us], g 4 (by decide) (by decide), g 5 (by decide) (by decide), g 6 (by decide) (by decide), g 7 (by decide) (by decide), g 8 (by decide) (by decide), ?_⟩
  have h5 : zEq (zV f5) (zSet (zSet (zSet (zSet (zSet (zV m) 0 x b) 1 x u) 2 x 0) 4 x d) 3 x (-1)) := by
    rw [e5]; refine zEq_t (zVp3 hx) (zSet_c ?_ rfl)
    rw [e4]; refine zEq_t (zVp4 hx) (zSet_c ?_ rfl)
    rw [e3]; refine zEq_t (zVp2 hx) (zSet_c ?_ rfl)
    rw [e2]; refine zEq_t (zVp1 hx) (zSet_c ?_ rfl)
    rw [e1]; exact zVp0 hx
  rw [e6]
  refine zEq_t (zVo (Or.inl (by decide))) (zEq_t h5 ?_)
  unfold zPer
  rw [zSet_swap (zSet (zSet (zSet (zV m) 0 x b) 1 x u) 2 x 0) (r := 4) (r' := 3) (by decide)]; exact zEq_r _
theorem zSm_5 {m f1 f2 f3 f4 f5 : Nat → Int32} {tp : Nat → Int32} {w : Nat} {c d g : Int32} {xx yy zz : Int} (hw : w < 6) (ex : w = (m 4).toInt.toNat) (hb : Int32.ofInt xx = c) (hu : Int32.ofInt yy = d) (hd : Int32.ofInt zz = g) (e1 : f1 = upd m (115 + 4 * w) c) (e2 : f2 = upd f1 (116 + 4 * w) d) (e3 : f3 = upd f2 (117 + 4 * w) g) (e4 : f4 = upd f3 (118 + 4 * w) 0) (e5 : f5 = upd f4 4 (m 4 + 1)) : zSR (zSm f5) (zTl1 tp (1, xx, yy, zz) (zSm m)) := by
  unfold zSm
  rw [zTl1_1, hb, hu, hd, ← ex]
  have g' : ∀ i : Nat, i < 9 → ¬ i = 4 → f5 i = m i := fun i h1 h2 => by
    rw [e5, pk_un (by omega), e4, pk_un (by omega), e3, pk_un (by omega), e2, pk_un (by omega), e1, pk_un (by omega)]
  refine ⟨g' 3 (by decide) (by decide), by rw [e5, pk_us], g' 5 (by decide) (by decide), g' 6 (by decide) (by decide), g' 7 (by decide) (by decide), g' 8 (by decide) (by decide), ?_⟩
  rw [e5]
  refine zEq_t (zVo (Or.inl (by decide))) ?_
  unfold zWrk
  rw [e4]; refine zEq_t (zVp9 hw) (zSet_c ?_ rfl)
  rw [e3]; refine zEq_t (zVp8 hw) (zSet_c ?_ rfl)
  rw [e2]; refine zEq_t (zVp7 hw) (zSet_c ?_ rfl)
  rw [e1]; exact zVp6 hw
theorem zSm_o {m m2 : Nat → Int32} {w : Nat} {v : Int32} {k : Int} {tp : Nat → Int32} (e : m2 = upd m w v) (hk : w = 5 ∧ k = 4 ∨ w = 6 ∧ k = 5 ∨ w = 7 ∧ k = 6 ∨ w = 8 ∧ k = 7) : zSR (zSm m2) (zTl1 tp (k, v.toInt, 0, 0) (zSm m)) := by
  subst e
  unfold zSm
  rcases hk with ⟨a, b⟩ | ⟨a, b⟩ | ⟨a, b⟩ | ⟨a, b⟩ <;> subst a <;> subst b
  · rw [zTl1_4, zoi]; exact ⟨rfl, rfl, rfl, rfl, rfl, rfl, zVo (Or.inl (by decide))⟩
  · rw [zTl1_5, zoi]; exact ⟨rfl, rfl, rfl, rfl, rfl, rfl, zVo (Or.inl (by decide))⟩
  · rw [zTl1_6, zoi]; exact ⟨rfl, rfl, rfl, rfl, rfl, rfl, zVo (Or.inl (by decide))⟩
  · rw [zTl1_7, zoi]; exact ⟨rfl, rfl, rfl, rfl, rfl, rfl, zVo (Or.inl (by decide))⟩
theorem zSm_h {m m2 : Nat → Int32} {x w : Nat} {v : Int32} {k : Int} {tp : Nat → Int32} (e : m2 = upd m w v) (hw : w = 13 + 5 * x) (hx : x < 8) (hk : k = (x : Int)) : zSR (zSm m2) (zTl1 tp (3, k, v.toInt, 0) (zSm m)) := by
  subst e; subst hw; subst hk
  unfold zSm
  rw [zTl1_3, zoi]
  exact ⟨pk_un (by omega), pk_un (by omega), pk_un (by omega), pk_un (by omega), pk_un (by omega), pk_un (by omega), zVp2 hx⟩
theorem zTQ_o {f : Nat → Int32} {n lo hi lo' hi' a p k : Int} {m m2 : Nat → Int32} {w : Nat} (e1 : lo' = lo) (e2 : hi' = hi) (h : ∃ v, zNu f n (zbg f n a) lo' hi' v ∧ m2 = upd m w v) (e : p = znx f n (zbg f n a)) (hk : w = 5 ∧ k = 4 ∨ w = 6 ∧ k = 5 ∨ w = 7 ∧ k = 6 ∨ w = 8 ∧ k = 7) : zTQ (fun r => zNN f n lo hi (zbg f n a) (zKo k) r) f (zbg f n p) (zSm m) (zSm m2) := by
  obtain ⟨v, h, em⟩ := h
  subst e1; subst e2
  exact ⟨(k, v.toInt, 0, 0), Or.inl ⟨v, h, congrArg (fun q9 => zTs.ok q9 _) (zNt_b e).symm⟩, zSm_o em hk⟩
theorem zTQ_s {f : Nat → Int32} {n hi lo' hi' l2 h2' a a1 p : Int} {x : Int32} {m m2 : Nat → Int32} {w : Nat} (e1 : lo' = 0) (e2 : hi' = hi - 1) (h1 : zNu f n (zbg f n a) lo' hi' x) (m1 : a1 = znx f n (zbg f n a)) (e3 : l2 = 0) (e4 : h2' = 99) (h2 : ∃ v, zNu f n (zbg f n a1) l2 h2' v ∧ m2 = upd m w v) (m3 : p = znx f n (zbg f n a1)) (hw : w = 13 + 5 * x.toInt.toNat) (hx : 0 ≤ x.toInt ∧ x.toInt < 8) : zTQ (fun r => zKsh f n hi (zbg f n a) r) f (zbg f n p) (zSm m) (zSm m2) := by
  obtain ⟨v, h2, em⟩ := h2
  subst e1; subst e2; subst e3; subst e4
  refine ⟨(3, x.toInt, v.toInt, 0), Or.inl ⟨x, h1, Or.inl ⟨v, zNu_b (zNt_b m1) h2, ?_⟩⟩, zSm_h em hw (by omega) (by omega)⟩
  exact congrArg (fun q9 => zTs.ok q9 _) (zNt_b (m3.trans (congrArg (znx f n) (zNt_b m1).symm))).symm
/-- the trusts of one, so many by now -/
def zMt (m m2 : Nat → Int32) (tp : Nat → Int32) (x b : Nat) (k : Int) : Prop := (∀ i : Nat, ¬ (51 ≤ i ∧ i < 115) → m2 i = m i) ∧ zEq (zV m2) (zTrs tp x b k.toNat (zV m))
theorem zMt_0 {m : Nat → Int32} {tp : Nat → Int32} {x b : Nat} {k : Int} (hk : k = 0) : zMt m m tp x b k := by subst hk; exact ⟨fun _ _ => rfl, by rw [show (0 : Int).toNat = 0 from rfl, zTrs_0]; exact zEq_r _⟩
theorem zMt_s {m f f1 : Nat → Int32} {tp : Nat → Int32} {x b j : Nat} {k k' : Int} {v : Int32} (h : zMt m f tp x b k) (hk : k' = k + 1) (h0 : 0 ≤ k ∧ k < 8) (hx : x < 8) (e : f1 = upd f j v) (hj : j = 51 + (8 * x + k.toNat)) (hv : v = tp (b + k.toNat) - 48) : zMt m f1 tp x b k' := by
  subst e; subst hj; subst hk
  refine ⟨fun i hi => by rw [pk_un (by omega)]; exact h.1 i hi, ?_⟩
  rw [show (k + 1).toNat = k.toNat + 1 by omega]
  refine zEq_t (zVp5 hx (by omega)) (zEq_t (zSet_c h.2 hv) ?_)
  by_cases q : k.toNat = x
  · rw [zTrs_x q]; subst q; exact zSet_dg hx
  · rw [zTrs_s (by omega) q]; exact zEq_r _
theorem zMt_S {m m2 : Nat → Int32} {tp : Nat → Int32} {x : Nat} {b k y z : Int} (h : zMt m m2 tp x b.toNat k) (hk : k = (m 3).toInt) (hy : y.toNat = x) : zSR (zSm m2) (zTl1 tp (2, y, b, z) (zSm m)) := by
  subst hk; subst hy
  unfold zSm
  rw [zTl1_2]
  exact ⟨h.1 3 (by decide), h.1 4 (by decide), h.1 5 (by decide), h.1 6 (by decide), h.1 7 (by decide), h.1 8 (by decide), h.2⟩
theorem zMt_g {m m2 : Nat → Int32} {tp : Nat → Int32} {x b : Nat} {k : Int} (h : zMt m m2 tp x b k) : zTgm m m2 := fun i hi => h.1 i (by omega)
def zTwV (f : Nat → Int32) (n t : Int) (s0 s : zTst) : Prop := (n ≤ zbg f n t ∧ zSR s s0) ∨ (¬ n ≤ zbg f n t ∧ zEv f n 14 s0 (zbg f n t) s)
def zTdV (f : Nat → Int32) (n t : Int) (s0 : zTst) (g fl c a : Int) (s : zTst) : Prop := (fl = -1 → ¬ g = 0 → zJv f n 14 s0 (zbg f n t) (14 - c).toNat s (zbg f n a)) ∧ (fl = -1 → g = 0 → zTwV f n t s0 s)
theorem zTdV_x {f : Nat → Int32} {n t : Int} {s0 s : zTst} {g fl c a : Int} (h : ¬ fl = -1) : zTdV f n t s0 g fl c a s := ⟨fun q => absurd q h, fun q => absurd q h⟩
theorem zTdV_i1 {f : Nat → Int32} {n t : Int} {s0 : zTst} {g fl c a : Int} (hg : ¬ g = 0) (hc : c = 0) (sk : zSk f n t a) : zTdV f n t s0 g fl c a s0 := by
  have e : zbg f n t = a := zbg_sk sk
  refine ⟨fun _ _ => ?_, fun _ q => absurd q hg⟩
  rw [zbg_fx sk, ← e]; exact zJv_0 (by omega)
theorem zTdV_i0 {f : Nat → Int32} {n t : Int} {s0 : zTst} {g fl c a : Int} (hg : g = 0) (sk : zSk f n t a) (h : n ≤ a) : zTdV f n t s0 g fl c a s0 := by
  have e : zbg f n t = a := zbg_sk sk
  exact ⟨fun _ q => absurd hg q, fun _ _ => Or.inl ⟨by omega, zSR_r _⟩⟩
theorem zTQ_en {f : Nat → Int32} {n p w b q : Int} {s s2 : zTst} (h0 : 0 ≤ b) (h : zTQ (zTLine f n p w b) f q s s2) : q ≤ n := by
  obtain ⟨c, hc, _⟩ := h
  exact zTLine_en h0 hc
theorem zTdV_c {f : Nat → Int32} {n t p w b1 a a2 b2 g fl c g' fl' c' a' : Int} {s0 s s2 : zTst} (V : zTdV f n t s0 g fl c a s) (h1 : fl = -1) (hg : ¬ g = 0) (h14 : ¬ c = 14) (B : 0 ≤ c ∧ c ≤ 14) (N : ¬ n ≤ zbg f n t) (sk : zSk f n a b1) (hp : p = s.1.toInt) (hw : w = s.2.1.toInt) (hl : zTQ (zTLine f n p w (zbg f n b1)) f (zbg f n a2) s s2) (sk2 : zSk f n a2 b2) (he : b2 = n) (hg' : g' = 0) : zTdV f n t s0 g' fl' c' a' s2 := by
  have e : zbg f n a = b1 := zbg_sk sk
  have e2 : zbg f n a2 = b2 := zbg_sk sk2
  rw [zbg_fx sk, ← e] at hl
  exact ⟨fun _ q => absurd hg' q, fun _ _ => Or.inr ⟨N, zJv_e (V.1 h1 hg) (by omega) hp hw hl (by omega)⟩⟩
theorem zTdV_d {f : Nat → Int32} {n t p w b1 a a2 b2 b3 k g fl c g' fl' c' a' : Int} {s0 s s2 : zTst} (V : zTdV f n t s0 g fl c a s) (h1 : fl = -1) (hg : ¬ g = 0) (h14 : ¬ c = 14) (B : 0 ≤ c ∧ c ≤ 14) (sk : zSk f n a b1) (hp : p = s.1.toInt) (hw : w = s.2.1.toInt) (hl : zTQ (zTLine f n p w (zbg f n b1)) f (zbg f n a2) s s2) (sk2 : zSk f n a2 b2) (ne : ¬ b2 = n) (sk3 : zSk f n b2 b3) (hs : zisS f n b3 k) (hk : k = 59) (hg' : ¬ g' = 0) (hc : c' = c + 1) (ha : a' = b3 + 1) : zTdV f n t s0 g' fl' c' a' s2 := by
  subst hk
  have e : zbg f n a = b1 := zbg_sk sk
  have e2 : zbg f n a2 = b2 := zbg_sk sk2
  have e3 : zbg f n b2 = b3 := zbg_sk sk3
  have e4 : zbg f n b2 = b2 := zbg_fx sk2
  rw [zbg_fx sk, ← e] at hl
  have le := zTQ_en (zbg_0 f n a) hl
  have e5 : b3 = zbg f n a2 := by omega
  rw [e5] at hs ha
  exact ⟨fun _ _ => zJv_s (k' := (14 - c').toNat) (V.1 h1 hg) (by omega) hp hw hl (by omega) hs (zMvb (by rw [zisS_nx hs, ha])), fun _ q => absurd q hg'⟩
theorem zTd_xV {f : Nat → Int32} {n t P W g a p w c : Int} {fl : Int32} {s0 s : zTst} (h : zTd f n t P W g fl.toInt c a p w) (V : zTdV f n t s0 g fl.toInt c a s) (x : g = 0 ∨ ¬ fl.toInt = -1) : (-1) = fl ∧ zTwR f n t P W p w ∧ zTwV f n t s0 s ∨ 0 ≤ fl.toInt ∧ zTwB f n t P W fl.toInt := by
  rcases zTd_x h x with ⟨a, b⟩ | h
  · subst a
    exact Or.inl ⟨rfl, b, V.2 (by decide) (x.resolve_right (fun q => q (by decide)))⟩
  · exact Or.inr h
set_option maxRecDepth 100000 in
set_option maxHeartbeats 4000000 in
theorem m_personLineG (l : Launch) (g : zG) (o : Nat) (a : Nat → Nat) (th : Int32) (hi : Int32) (ac : Int32) (tp : Int32) (en : Int32) (tA : Int32) (de : Int32) (iD : Int32) (iO : Int32) (tU : Int32) (fm : Nat → Int32) (fk : Nat → Int32) (fa : Nat → Int32) (fc : Nat → Int32) (ft : Nat → Int32) (ff : Nat → Int32) (fb : Nat → Int32) (fi : Nat → Int32) (b0 : Int32) (rfm : rM fm) (hen : 0 ≤ en.toInt ∧ en.toInt ≤ 400) (htA : 0 ≤ tA.toInt ∧ tA.toInt ≤ en.toInt + 7 - de.toInt) (hde : 0 ≤ de.toInt ∧ de.toInt ≤ 6) (hb0 : 0 ≤ b0.toInt) (hat : tA.toInt = znx ft en.toInt b0.toInt) : zM' g l yX12_personLine (Cond.code yX12_personLine cX12_personLine 6 none :: zB) ({ frames := 6, cells := 0, slots := 0, locals := 131 } : Room) [.ref o, .int b0] [bMo g o a th hi ac tp (-1) en tA (-1) de iD iO tU fm fk fa fc ft ff fb fi] (fun u : Int32 × Int32 × (Nat → Int32) => (fun (at2 : Int32) (fl2 : Int32) (fm2 : Nat → Int32) => none) (u.1) (u.2.1) (u.2.2)) (fun u : Int32 × Int32 × (Nat → Int32) => (fun (at2 : Int32) (fl2 : Int32) (fm2 : Nat → Int32) => (rM fm2) ∧ (0 ≤ at2.toInt ∧ at2.toInt ≤ en.toInt + 7 - de.toInt) ∧ (tA.toInt ≤ at2.toInt) ∧ ((fm2 0).toInt = (fm 0).toInt) ∧ (zTgm fm fm2) ∧ ((-1) = fl2 ∧ zTO (zTPerson ft en.toInt (fm 3).toInt b0.toInt) (zbg ft en.toInt at2.toInt) (fm 3).toInt (fm2 3).toInt (fm 4).toInt (fm2 4).toInt ∧ zTQ (zTPerson ft en.toInt (fm 3).toInt b0.toInt) ft (zbg ft en.toInt at2.toInt) (zSm fm) (zSm fm2) ∨ 0 ≤ fl2.toInt ∧ zTPerson ft en.toInt (fm 3).toInt b0.toInt (.bad fl2.toInt))) (u.1) (u.2.1) (u.2.2)) (fun u : Int32 × Int32 × (Nat → Int32) => (fun (at2 : Int32) (fl2 : Int32) (fm2 : Nat → Int32) => [bMo g o a th hi ac tp (-1) en at2 fl2 de iD iO tU fm2 fk fa fc ft ff fb fi]) (u.1) (u.2.1) (u.2.2)) := by
  refine zM'.of (cc := cX12_personLine) (maxL := 6) (rt := none) (by decide) rfl (Nat.le_of_ble_eq_true rfl) ?_
  intro p e s m args below meth c A ls St hr hlocks hin hK hT hA hP hD hS hl
  obtain ⟨hx, hb, hml, hown, hts⟩ := id St
  have hl : lv_has ls 6 [(0, .ref o), (1, .int b0)] := hl
  have hrm3 := rM3 rfm
  have hrm4 := rM4 rfm
  have hrs3 := zpe1 hrm3
  refine lv_aload_n hx hb dX12_personLine_0 rfl (lv_at hl 0 rfl) ?_
  refine va_get (D := g.1) (ci := 10) (v := .ref (a 0)) (C := RX12) (T := TX12) (N := 20) hx hb hts izRX12 hown hK hP 0 rfl rfl 1 (by decide) (hts _ k815) (fun _ h9 => h9) rfl dX12_personLine_1 ?_
  refine lv_iconst (v := 3) hx hb dX12_personLine_4 (by decide) ?_
  refine va_iald hx hb hK hP 1 0 rfl rfl (zin rfl) dX12_personLine_5 ?_
  refine ztop (r := (fm 3)) rfl ?_
  refine lv_bipush (v := 8) hx hb dX12_personLine_6 (by decide) ?_
  refine lv_icmp_ne (tgt := 16) hx hb dX12_personLine_8 (by decide) (fun cb9 => ?_) (fun cb9 => ?_)
  · skip
    have c1 : ¬ (fm 3).toInt = 8 := zne cb9 rfl (by decide)
    have n2 : (fm 3).toInt ≤ 7 := zN2 c1 (rM3 rfm).2 (by decide)
    refine lv_aload_n hx hb dX12_personLine_16 rfl (lv_at hl 0 rfl) ?_
    refine lv_iconst (v := 0) hx hb dX12_personLine_17 (by decide) ?_
    refine lv_bipush (v := 99) hx hb dX12_personLine_18 (by decide) ?_
    have hL0 : (0 : Int32).toInt = 0 := by decide
    have hL99 : (99 : Int32).toInt = 99 := by decide
    refine mcallV' (g := g) (q0 := 0) (ci := 10) (As := [.int 0, .int 99]) (rest := []) St hK hT hA hP hD hS hl.1 [0] [] rfl rfl rfl (m_figuresF l g o a th hi ac tp en tA de iD iO tU fm fk fa fc ft ff fb fi 0 99 hen htA hde) (cwV 2 hts (zgL (zl4 k902 k903 k904 k839) k898) rfl rfl rfl (by decide +kernel) ⟨Nat.le_of_ble_eq_true rfl, Nat.le_of_ble_eq_true rfl⟩) rfl rfl rfl rfl (Nat.le_of_ble_eq_true rfl) dX12_personLine_20 ⟨(Nat.le_of_ble_eq_true rfl), (Nat.le_of_ble_eq_true rfl)⟩ (fun u_ H locs hq6 hP hD hS => ?_)
    obtain ⟨at2_3, fl2_4, r_5⟩ := u_
    replace hq6 : (0 ≤ at2_3.toInt ∧ at2_3.toInt ≤ en.toInt + 7 - de.toInt) ∧ (tA.toInt ≤ at2_3.toInt) ∧ (zNu ft en.toInt (zbg ft en.toInt tA.toInt) (0 : Int32).toInt (99 : Int32).toInt r_5 ∧ at2_3.toInt = znx ft en.toInt (zbg ft en.toInt tA.toInt) ∧ (-1) = fl2_4 ∨ fl2_4.toInt = zbg ft en.toInt tA.toInt ∧ ¬ ∃ v9, zNu ft en.toInt (zbg ft en.toInt tA.toInt) (0 : Int32).toInt (99 : Int32).toInt v9) := hq6
    have hP : va_P g.1 vwCl (List.flatten [bMo g o a th hi ac tp (-1) en at2_3 fl2_4 de iD iO tU fm fk fa fc ft ff fb fi]) H := hP
    have hD : va_D A (List.flatten [bMo g o a th hi ac tp (-1) en at2_3 fl2_4 de iD iO tU fm fk fa fc ft ff fb fi]) := hD
    refine W.widen (k := 0) (n := 0) (Nat.le_of_ble_eq_true rfl) (Nat.le_of_ble_eq_true rfl) ?_
    refine W.eq (g2 := F0 m 23 ls [.int r_5]) rfl ?_
    obtain ⟨hq6_0, hq6_1, hq6_2⟩ := hq6
    rcases hq6_2 with ⟨hq6_k, hq6_km, rfl⟩ | ⟨hq6_k, hq6_km⟩
    · skip
      have w7 : 0 ≤ r_5.toInt ∧ r_5.toInt ≤ 99 := ⟨(by have h9 := hq6_k.2.2.1; omega), (by have h9 := hq6_k.2.2.2; omega)⟩
      refine lv_istore_n (lv' := [(2, .int r_5), (0, .ref o), (1, .int b0)]) hx hb dX12_personLine_23 rfl hl (by decide) rfl (fun ls hl => ?_)
      refine lv_aload_n hx hb dX12_personLine_24 rfl (lv_at hl 1 rfl) ?_
      refine va_ldcS (q := g.2 62) hx hb hown (zra26 hT.2.1) dX12_personLine_25 ?_
      refine lv_iconst (v := 0) hx hb dX12_personLine_27 (by decide) ?_
      refine lv_sipush (v := 999) hx hb dX12_personLine_28 (by decide) ?_
      have hL999 : (999 : Int32).toInt = 999 := by decide
      refine mcallV' (g := g) (q0 := 0) (ci := 10) (As := [.ref (g.2 62), .int 0, .int 999]) (rest := []) St hK hT hA hP hD hS hl.1 [0] [] rfl rfl rfl (m_afterF l g o a th hi ac tp en at2_3 de iD iO tU fm fk fa fc ft ff fb fi 0 999 (g.2 62) 26 zqa26 hen hq6_0 hde rfl zla26 zna26 (zlitB zla26)) (cwV 3 hts (zgL (zl4 k906 k907 k908 k839) k905) rfl rfl rfl (by decide +kernel) ⟨Nat.le_of_ble_eq_true rfl, Nat.le_of_ble_eq_true rfl⟩) rfl rfl rfl rfl (Nat.le_of_ble_eq_true rfl) dX12_personLine_31 ⟨(Nat.le_of_ble_eq_true rfl), (Nat.le_of_ble_eq_true rfl)⟩ (fun u_ H locs hq11 hP hD hS => ?_)
      obtain ⟨at2_8, fl2_9, r_10⟩ := u_
      replace hq11 : (0 ≤ at2_8.toInt ∧ at2_8.toInt ≤ en.toInt + 7 - de.toInt) ∧ (at2_3.toInt ≤ at2_8.toInt) ∧ (zisW ft en.toInt (zbg ft en.toInt at2_3.toInt) zqa26.2.2.2 ∧ zNu ft en.toInt (znt ft en.toInt (zbg ft en.toInt at2_3.toInt)) (0 : Int32).toInt (999 : Int32).toInt r_10 ∧ at2_8.toInt = znx ft en.toInt (znt ft en.toInt (zbg ft en.toInt at2_3.toInt)) ∧ (-1) = fl2_9 ∨ zisW ft en.toInt (zbg ft en.toInt at2_3.toInt) zqa26.2.2.2 ∧ (¬ ∃ v9, zNu ft en.toInt (znt ft en.toInt (zbg ft en.toInt at2_3.toInt)) (0 : Int32).toInt (999 : Int32).toInt v9) ∧ fl2_9.toInt = znt ft en.toInt (zbg ft en.toInt at2_3.toInt) ∨ ¬ zisW ft en.toInt (zbg ft en.toInt at2_3.toInt) zqa26.2.2.2 ∧ fl2_9.toInt = zbg ft en.toInt at2_3.toInt) := hq11
      have hP : va_P g.1 vwCl (List.flatten [bMo g o a th hi ac tp (-1) en at2_8 fl2_9 de iD iO tU fm fk fa fc ft ff fb fi]) H := hP
      have hD : va_D A (List.flatten [bMo g o a th hi ac tp (-1) en at2_8 fl2_9 de iD iO tU fm fk fa fc ft ff fb fi]) := hD
      refine W.widen (k := 0) (n := 0) (Nat.le_of_ble_eq_true rfl) (Nat.le_of_ble_eq_true rfl) ?_
      refine W.eq (g2 := F0 m 34 ls [.int r_10]) rfl ?_
      obtain ⟨hq11_0, hq11_1, hq11_2⟩ := hq11
      rcases hq11_2 with ⟨hq11_k, hq11_kn, hq11_km, rfl⟩ | ⟨hq11_k, hq11_kn, hq11_km⟩ | ⟨hq11_k, hq11_km⟩
      · skip
        have w12 : 0 ≤ r_10.toInt ∧ r_10.toInt ≤ 999 := ⟨(by have h9 := hq11_kn.2.2.1; omega), (by have h9 := hq11_kn.2.2.2; omega)⟩
        refine lv_istore_n (lv' := [(3, .int r_10), (2, .int r_5), (0, .ref o), (1, .int b0)]) hx hb dX12_personLine_34 rfl hl (by decide) rfl (fun ls hl => ?_)
        refine lv_aload_n hx hb dX12_personLine_35 rfl (lv_at hl 2 rfl) ?_
        refine va_get (D := g.1) (ci := 10) (v := .int (-1)) (C := RX12) (T := TX12) (N := 20) hx hb hts izRX12 hown hK hP 0 rfl rfl 12 (by decide) (hts _ k820) (fun _ h9 => h9) rfl dX12_personLine_36 ?_
        refine lv_iconst (v := (-1)) hx hb dX12_personLine_39 (by decide) ?_
        refine lv_icmp_ne (tgt := 56) hx hb dX12_personLine_40 (by decide) (fun c13 => absurd (by decide) c13) (fun _ => ?_)
        refine lv_aload_n hx hb dX12_personLine_43 rfl (lv_at hl 2 rfl) ?_
        refine va_ldcS (q := g.2 64) hx hb hown (zra27 hT.2.1) dX12_personLine_44 ?_
        refine mcallV' (g := g) (q0 := 0) (ci := 10) (As := [.ref (g.2 64)]) (rest := []) St hK hT hA hP hD hS hl.1 [0] [] rfl rfl rfl (m_hasF l g o a th hi ac tp en at2_8 (-1) de iD iO tU fm fk fa fc ft ff fb fi (g.2 64) 27 zqa27 hen hq11_0 hde rfl zla27 zna27 (zlitB zla27)) (cwV 1 hts (zgL (zl4 k899 k900 k901 k839) k889) rfl rfl rfl (by decide +kernel) ⟨Nat.le_of_ble_eq_true rfl, Nat.le_of_ble_eq_true rfl⟩) rfl rfl rfl rfl (Nat.le_of_ble_eq_true rfl) dX12_personLine_46 ⟨(Nat.le_of_ble_eq_true rfl), (Nat.le_of_ble_eq_true rfl)⟩ (fun u_ H locs hq16 hP hD hS => ?_)
        obtain ⟨at2_14, r_15⟩ := u_
        replace hq16 : (0 ≤ at2_14.toInt ∧ at2_14.toInt ≤ en.toInt + 7 - de.toInt) ∧ (at2_8.toInt ≤ at2_14.toInt) ∧ (r_15 = 1 ∧ zisW ft en.toInt (zbg ft en.toInt at2_8.toInt) zqa27.2.2.2 ∧ at2_14.toInt = znx ft en.toInt (zbg ft en.toInt at2_8.toInt) ∧ at2_8.toInt < at2_14.toInt ∧ at2_14.toInt ≤ en.toInt ∨ r_15 = 0 ∧ ¬ zisW ft en.toInt (zbg ft en.toInt at2_8.toInt) zqa27.2.2.2 ∧ at2_14.toInt = zbg ft en.toInt at2_8.toInt) := hq16
        have hP : va_P g.1 vwCl (List.flatten [bMo g o a th hi ac tp (-1) en at2_14 (-1) de iD iO tU fm fk fa fc ft ff fb fi]) H := hP
        have hD : va_D A (List.flatten [bMo g o a th hi ac tp (-1) en at2_14 (-1) de iD iO tU fm fk fa fc ft ff fb fi]) := hD
        refine W.widen (k := 0) (n := 0) (Nat.le_of_ble_eq_true rfl) (Nat.le_of_ble_eq_true rfl) ?_
        refine W.eq (g2 := F0 m 49 ls [.int r_15]) rfl ?_
        obtain ⟨hq16_0, hq16_1, hq16_2⟩ := hq16
        rcases hq16_2 with ⟨rfl, hq16_k, hq16_km⟩ | ⟨rfl, hq16_k, hq16_km⟩
        · skip
          refine lv_if_eq (tgt := 56) hx hb dX12_personLine_49 (by decide) (fun c17 => absurd c17 (by decide)) (fun _ => ?_)
          refine lv_iconst (v := 1) hx hb dX12_personLine_52 (by decide) ?_
          refine lv_goto (tgt := 57) hx hb dX12_personLine_53 (by decide) ?_
          refine lv_istore (lv' := [(4, .int 1), (3, .int r_10), (2, .int r_5), (0, .ref o), (1, .int b0)]) hx hb dX12_personLine_57 hl (by decide) rfl (fun ls hl => ?_)
          refine lv_aload_n hx hb dX12_personLine_59 rfl (lv_at hl 3 rfl) ?_
          refine va_get (D := g.1) (ci := 10) (v := .int (-1)) (C := RX12) (T := TX12) (N := 20) hx hb hts izRX12 hown hK hP 0 rfl rfl 12 (by decide) (hts _ k820) (fun _ h9 => h9) rfl dX12_personLine_60 ?_
          refine lv_iconst (v := (-1)) hx hb dX12_personLine_63 (by decide) ?_
          refine lv_icmp_eq (tgt := 68) hx hb dX12_personLine_64 (by decide) (fun _ => ?_) (fun c18 => absurd (by decide) c18)
          refine lv_aload_n hx hb dX12_personLine_68 rfl (lv_at hl 3 rfl) ?_
          refine va_get (D := g.1) (ci := 10) (v := .ref (a 0)) (C := RX12) (T := TX12) (N := 20) hx hb hts izRX12 hown hK hP 0 rfl rfl 1 (by decide) (hts _ k815) (fun _ h9 => h9) rfl dX12_personLine_69 ?_
          refine lv_iconst (v := 3) hx hb dX12_personLine_72 (by decide) ?_
          refine va_iald hx hb hK hP 1 0 rfl rfl (zin rfl) dX12_personLine_73 ?_
          refine ztop (r := (fm 3)) rfl ?_
          refine lv_istore (lv' := [(5, .int (fm 3)), (4, .int 1), (3, .int r_10), (2, .int r_5), (0, .ref o), (1, .int b0)]) hx hb dX12_personLine_74 hl (by decide) rfl (fun ls hl => ?_)
          have w19 : 0 ≤ (fm 3).toInt ∧ (fm 3).toInt ≤ 7 := by omega
          refine lv_aload_n hx hb dX12_personLine_76 rfl (lv_at hl 4 rfl) ?_
          refine lv_iload hx hb dX12_personLine_77 (lv_at hl 0 rfl) ?_
          refine lv_iconst (v := 0) hx hb dX12_personLine_79 (by decide) ?_
          refine lv_iload_n hx hb dX12_personLine_80 rfl (lv_at hl 3 rfl) ?_
          refine mcallV' (g := g) (q0 := 0) (ci := 10) (As := [.int (fm 3), .int 0, .int r_5]) (rest := []) St hK hT hA hP hD hS hl.1 [0] [] rfl rfl rfl (m_put0F l g o a th hi ac tp (-1) en at2_14 (-1) de iD iO tU fm fk fa fc ft ff fb fi (fm 3) r_5 rfm (⟨w19.1, w19.2⟩)) (cwV 3 hts (zgL (zl4 k909 k910 k911 k839) k832) rfl rfl rfl (by decide +kernel) ⟨Nat.le_of_ble_eq_true rfl, Nat.le_of_ble_eq_true rfl⟩) rfl rfl rfl rfl (Nat.le_of_ble_eq_true rfl) dX12_personLine_81 ⟨(Nat.le_of_ble_eq_true rfl), (Nat.le_of_ble_eq_true rfl)⟩ (fun fm2_20 H locs hq21 hP hD hS => ?_)
          replace hq21 : (rM fm2_20) ∧ (fm2_20 = upd fm (11 + 5 * (fm 3).toInt.toNat) r_5) := hq21
          have hP : va_P g.1 vwCl (List.flatten [bMo g o a th hi ac tp (-1) en at2_14 (-1) de iD iO tU fm2_20 fk fa fc ft ff fb fi]) H := hP
          have hD : va_D A (List.flatten [bMo g o a th hi ac tp (-1) en at2_14 (-1) de iD iO tU fm2_20 fk fa fc ft ff fb fi]) := hD
          refine W.widen (k := 0) (n := 0) (Nat.le_of_ble_eq_true rfl) (Nat.le_of_ble_eq_true rfl) ?_
          refine W.eq (g2 := F0 m 84 ls []) rfl ?_
          obtain ⟨rfm2_20, hq21_1⟩ := hq21
          refine lv_aload_n hx hb dX12_personLine_84 rfl (lv_at hl 4 rfl) ?_
          refine lv_iload hx hb dX12_personLine_85 (lv_at hl 0 rfl) ?_
          refine lv_iconst (v := 1) hx hb dX12_personLine_87 (by decide) ?_
          refine lv_iload_n hx hb dX12_personLine_88 rfl (lv_at hl 2 rfl) ?_
          refine mcallV' (g := g) (q0 := 0) (ci := 10) (As := [.int (fm 3), .int 1, .int r_10]) (rest := []) St hK hT hA hP hD hS hl.1 [0] [] rfl rfl rfl (m_put1F l g o a th hi ac tp (-1) en at2_14 (-1) de iD iO tU fm2_20 fk fa fc ft ff fb fi (fm 3) r_10 rfm2_20 (⟨w19.1, w19.2⟩)) (cwV 3 hts (zgL (zl4 k909 k910 k911 k839) k832) rfl rfl rfl (by decide +kernel) ⟨Nat.le_of_ble_eq_true rfl, Nat.le_of_ble_eq_true rfl⟩) rfl rfl rfl rfl (Nat.le_of_ble_eq_true rfl) dX12_personLine_89 ⟨(Nat.le_of_ble_eq_true rfl), (Nat.le_of_ble_eq_true rfl)⟩ (fun fm2_22 H locs hq23 hP hD hS => ?_)
          replace hq23 : (rM fm2_22) ∧ (fm2_22 = upd fm2_20 (12 + 5 * (fm 3).toInt.toNat) r_10) := hq23
          have hP : va_P g.1 vwCl (List.flatten [bMo g o a th hi ac tp (-1) en at2_14 (-1) de iD iO tU fm2_22 fk fa fc ft ff fb fi]) H := hP
          have hD : va_D A (List.flatten [bMo g o a th hi ac tp (-1) en at2_14 (-1) de iD iO tU fm2_22 fk fa fc ft ff fb fi]) := hD
          refine W.widen (k := 0) (n := 0) (Nat.le_of_ble_eq_true rfl) (Nat.le_of_ble_eq_true rfl) ?_
          refine W.eq (g2 := F0 m 92 ls []) rfl ?_
          obtain ⟨rfm2_22, hq23_1⟩ := hq23
          refine lv_aload_n hx hb dX12_personLine_92 rfl (lv_at hl 4 rfl) ?_
          refine lv_iload hx hb dX12_personLine_93 (lv_at hl 0 rfl) ?_
          refine lv_iconst (v := 2) hx hb dX12_personLine_95 (by decide) ?_
          refine lv_iconst (v := 0) hx hb dX12_personLine_96 (by decide) ?_
          refine mcallV' (g := g) (q0 := 0) (ci := 10) (As := [.int (fm 3), .int 2, .int 0]) (rest := []) St hK hT hA hP hD hS hl.1 [0] [] rfl rfl rfl (m_put2F l g o a th hi ac tp (-1) en at2_14 (-1) de iD iO tU fm2_22 fk fa fc ft ff fb fi (fm 3) 0 rfm2_22 (⟨w19.1, w19.2⟩)) (cwV 3 hts (zgL (zl4 k909 k910 k911 k839) k832) rfl rfl rfl (by decide +kernel) ⟨Nat.le_of_ble_eq_true rfl, Nat.le_of_ble_eq_true rfl⟩) rfl rfl rfl rfl (Nat.le_of_ble_eq_true rfl) dX12_personLine_97 ⟨(Nat.le_of_ble_eq_true rfl), (Nat.le_of_ble_eq_true rfl)⟩ (fun fm2_24 H locs hq25 hP hD hS => ?_)
          replace hq25 : (rM fm2_24) ∧ (fm2_24 = upd fm2_22 (13 + 5 * (fm 3).toInt.toNat) 0) := hq25
          have hP : va_P g.1 vwCl (List.flatten [bMo g o a th hi ac tp (-1) en at2_14 (-1) de iD iO tU fm2_24 fk fa fc ft ff fb fi]) H := hP
          have hD : va_D A (List.flatten [bMo g o a th hi ac tp (-1) en at2_14 (-1) de iD iO tU fm2_24 fk fa fc ft ff fb fi]) := hD
          refine W.widen (k := 0) (n := 0) (Nat.le_of_ble_eq_true rfl) (Nat.le_of_ble_eq_true rfl) ?_
          refine W.eq (g2 := F0 m 100 ls []) rfl ?_
          obtain ⟨rfm2_24, hq25_1⟩ := hq25
          refine lv_aload_n hx hb dX12_personLine_100 rfl (lv_at hl 4 rfl) ?_
          refine lv_iload hx hb dX12_personLine_101 (lv_at hl 0 rfl) ?_
          refine lv_iconst (v := 3) hx hb dX12_personLine_103 (by decide) ?_
          refine lv_iload hx hb dX12_personLine_104 (lv_at hl 1 rfl) ?_
          refine lv_if_eq (tgt := 113) hx hb dX12_personLine_106 (by decide) (fun c26 => absurd c26 (by decide)) (fun _ => ?_)
          refine lv_iconst (v := 1) hx hb dX12_personLine_109 (by decide) ?_
          refine lv_goto (tgt := 114) hx hb dX12_personLine_110 (by decide) ?_
          refine mcallV' (g := g) (q0 := 0) (ci := 10) (As := [.int (fm 3), .int 3, .int 1]) (rest := []) St hK hT hA hP hD hS hl.1 [0] [] rfl rfl rfl (m_put4F l g o a th hi ac tp (-1) en at2_14 (-1) de iD iO tU fm2_24 fk fa fc ft ff fb fi (fm 3) 1 rfm2_24 (⟨w19.1, w19.2⟩)) (cwV 3 hts (zgL (zl4 k909 k910 k911 k839) k832) rfl rfl rfl (by decide +kernel) ⟨Nat.le_of_ble_eq_true rfl, Nat.le_of_ble_eq_true rfl⟩) rfl rfl rfl rfl (Nat.le_of_ble_eq_true rfl) dX12_personLine_114 ⟨(Nat.le_of_ble_eq_true rfl), (Nat.le_of_ble_eq_true rfl)⟩ (fun fm2_27 H locs hq28 hP hD hS => ?_)
          replace hq28 : (rM fm2_27) ∧ (fm2_27 = upd fm2_24 (14 + 5 * (fm 3).toInt.toNat) 1) := hq28
          have hP : va_P g.1 vwCl (List.flatten [bMo g o a th hi ac tp (-1) en at2_14 (-1) de iD iO tU fm2_27 fk fa fc ft ff fb fi]) H := hP
          have hD : va_D A (List.flatten [bMo g o a th hi ac tp (-1) en at2_14 (-1) de iD iO tU fm2_27 fk fa fc ft ff fb fi]) := hD
          refine W.widen (k := 0) (n := 0) (Nat.le_of_ble_eq_true rfl) (Nat.le_of_ble_eq_true rfl) ?_
          refine W.eq (g2 := F0 m 117 ls []) rfl ?_
          obtain ⟨rfm2_27, hq28_1⟩ := hq28
          refine lv_aload_n hx hb dX12_personLine_117 rfl (lv_at hl 4 rfl) ?_
          refine lv_iload hx hb dX12_personLine_118 (lv_at hl 0 rfl) ?_
          refine lv_iconst (v := 4) hx hb dX12_personLine_120 (by decide) ?_
          refine lv_iconst (v := (-1)) hx hb dX12_personLine_121 (by decide) ?_
          refine mcallV' (g := g) (q0 := 0) (ci := 10) (As := [.int (fm 3), .int 4, .int (-1)]) (rest := []) St hK hT hA hP hD hS hl.1 [0] [] rfl rfl rfl (m_put3F l g o a th hi ac tp (-1) en at2_14 (-1) de iD iO tU fm2_27 fk fa fc ft ff fb fi (fm 3) (-1) rfm2_27 (⟨w19.1, w19.2⟩)) (cwV 3 hts (zgL (zl4 k909 k910 k911 k839) k832) rfl rfl rfl (by decide +kernel) ⟨Nat.le_of_ble_eq_true rfl, Nat.le_of_ble_eq_true rfl⟩) rfl rfl rfl rfl (Nat.le_of_ble_eq_true rfl) dX12_personLine_122 ⟨(Nat.le_of_ble_eq_true rfl), (Nat.le_of_ble_eq_true rfl)⟩ (fun fm2_29 H locs hq30 hP hD hS => ?_)
          replace hq30 : (rM fm2_29) ∧ (fm2_29 = upd fm2_27 (15 + 5 * (fm 3).toInt.toNat) (-1)) := hq30
          have hP : va_P g.1 vwCl (List.flatten [bMo g o a th hi ac tp (-1) en at2_14 (-1) de iD iO tU fm2_29 fk fa fc ft ff fb fi]) H := hP
          have hD : va_D A (List.flatten [bMo g o a th hi ac tp (-1) en at2_14 (-1) de iD iO tU fm2_29 fk fa fc ft ff fb fi]) := hD
          refine W.widen (k := 0) (n := 0) (Nat.le_of_ble_eq_true rfl) (Nat.le_of_ble_eq_true rfl) ?_
          refine W.eq (g2 := F0 m 125 ls []) rfl ?_
          obtain ⟨rfm2_29, hq30_1⟩ := hq30
          refine lv_aload_n hx hb dX12_personLine_125 rfl (lv_at hl 4 rfl) ?_
          refine va_get (D := g.1) (ci := 10) (v := .ref (a 0)) (C := RX12) (T := TX12) (N := 20) hx hb hts izRX12 hown hK hP 0 rfl rfl 1 (by decide) (hts _ k815) (fun _ h9 => h9) rfl dX12_personLine_126 ?_
          refine lv_iconst (v := 3) hx hb dX12_personLine_129 (by decide) ?_
          refine lv_dup2_11 hx hb dX12_personLine_130 rfl rfl ?_
          refine va_iald hx hb hK hP 1 0 rfl rfl (zin rfl) dX12_personLine_131 ?_
          refine ztop (r := (fm 3)) (by show fm2_29 3 = (fm 3); rw [hq30_1]; refine Eq.trans (pk_un (by omega)) ?_; rw [hq28_1]; refine Eq.trans (pk_un (by omega)) ?_; rw [hq25_1]; refine Eq.trans (pk_un (by omega)) ?_; rw [hq23_1]; refine Eq.trans (pk_un (by omega)) ?_; rw [hq21_1]; refine Eq.trans (pk_un (by omega)) ?_; exact rfl) ?_
          refine lv_iconst (v := 1) hx hb dX12_personLine_132 (by decide) ?_
          refine lv_iadd hx hb dX12_personLine_133 ?_
          refine va_iast hx hb hK hP hD hS 1 0 rfl rfl (zin rfl) dX12_personLine_134 (fun H locs hP hD hS => ?_)
          obtain ⟨fm_31, rfm_31, efm_31, hP, hD⟩ : ∃ fm_31 : Nat → Int32, rM fm_31 ∧ fm_31 = upd fm2_29 3 ((fm 3) + 1) ∧ va_P g.1 vwCl (List.flatten [bMo g o a th hi ac tp (-1) en at2_14 (-1) de iD iO tU fm_31 fk fa fc ft ff fb fi]) H ∧ va_D A (List.flatten [bMo g o a th hi ac tp (-1) en at2_14 (-1) de iD iO tU fm_31 fk fa fc ft ff fb fi]) := ⟨upd fm2_29 3 ((fm 3) + 1), (rM_s3 rfm2_29 (show 0 ≤ ((fm 3) + 1).toInt ∧ ((fm 3) + 1).toInt ≤ 8 from (by omega))), rfl, hP, hD⟩
          have hfm_31_0 : (fm_31 0).toInt = (fm 0).toInt := by rw [efm_31, pk_un (by omega), hq30_1, pk_un (by omega), hq28_1, pk_un (by omega), hq25_1, pk_un (by omega), hq23_1, pk_un (by omega), hq21_1, pk_un (by omega)]
          have hfm_31_3 : (fm_31 3).toInt = (fm 3).toInt + 1 := by rw [efm_31, pk_us]; exact zpe1 (by omega)
          have hfm_31_4 : (fm_31 4).toInt = (fm 4).toInt := by rw [efm_31, pk_un (by omega), hq30_1, pk_un (by omega), hq28_1, pk_un (by omega), hq25_1, pk_un (by omega), hq23_1, pk_un (by omega), hq21_1, pk_un (by omega)]
          have hP : va_P g.1 vwCl (List.flatten [bMo g o a th hi ac tp (-1) en at2_14 (-1) de iD iO tU fm_31 fk fa fc ft ff fb fi]) H := hP
          have hD : va_D A (List.flatten [bMo g o a th hi ac tp (-1) en at2_14 (-1) de iD iO tU fm_31 fk fa fc ft ff fb fi]) := hD
          exact mret_v hx hb hr hlocks hS (Nat.le_of_ble_eq_true rfl) (Nat.le_of_ble_eq_true rfl) dX12_personLine_135 (at2_14, -1, fm_31) rfl (show (rM fm_31) ∧ (0 ≤ at2_14.toInt ∧ at2_14.toInt ≤ en.toInt + 7 - de.toInt) ∧ (tA.toInt ≤ at2_14.toInt) ∧ ((fm_31 0).toInt = (fm 0).toInt) ∧ (zTgm fm fm_31) ∧ ((-1) = (-1) ∧ zTO (zTPerson ft en.toInt (fm 3).toInt b0.toInt) (zbg ft en.toInt at2_14.toInt) (fm 3).toInt (fm_31 3).toInt (fm 4).toInt (fm_31 4).toInt ∧ zTQ (zTPerson ft en.toInt (fm 3).toInt b0.toInt) ft (zbg ft en.toInt at2_14.toInt) (zSm fm) (zSm fm_31) ∨ 0 ≤ ((-1) : Int32).toInt ∧ zTPerson ft en.toInt (fm 3).toInt b0.toInt (.bad ((-1) : Int32).toInt)) from ⟨(by first | assumption | omega | exact Or.inl (by decide) | exact Or.inr (by omega) | decide), (by first | assumption | omega | exact Or.inl (by decide) | exact Or.inr (by omega) | decide), (by first | assumption | omega | exact Or.inl (by decide) | exact Or.inr (by omega) | decide), (by first | assumption | omega | exact Or.inl (by decide) | exact Or.inr (by omega) | decide), (zTg_u (zTg_u (zTg_u (zTg_u (zTg_u (zTg_u (zTg_r _) hq21_1 (by omega)) hq23_1 (by omega)) hq25_1 (by omega)) hq28_1 (by omega)) hq30_1 (by omega)) efm_31 (by omega)), (Or.inl ⟨rfl, ⟨_, zTP_iM (by omega) (zNN_yM (by decide) (by decide) (zNu_b (zNt_b hat) hq6_k) (show zW1 _ _ _ _ _ _ from zW1_yM (zW_b (zNt_b (hq6_km.trans (congrArg (znx ft en.toInt) (zNt_b hat).symm))) hq11_k) (show zNN _ _ _ _ _ _ _ from zNN_yM (by decide) (by decide) (zNu_b (congrArg (znt ft en.toInt) (zNt_b (hq6_km.trans (congrArg (znx ft en.toInt) (zNt_b hat).symm)))) hq11_kn) (zKp3_yM (hq11_km.trans (congrArg (znx ft en.toInt) (congrArg (znt ft en.toInt) (zNt_b (hq6_km.trans (congrArg (znx ft en.toInt) (zNt_b hat).symm)))).symm)) hq16_k hq16_km.1)))), zcp_y (by omega), zcw_n (by decide) (by omega)⟩, ⟨_, zTP_iM (by omega) (zNN_yM (by decide) (by decide) (zNu_b (zNt_b hat) hq6_k) (show zW1 _ _ _ _ _ _ from zW1_yM (zW_b (zNt_b (hq6_km.trans (congrArg (znx ft en.toInt) (zNt_b hat).symm))) hq11_k) (show zNN _ _ _ _ _ _ _ from zNN_yM (by decide) (by decide) (zNu_b (congrArg (znt ft en.toInt) (zNt_b (hq6_km.trans (congrArg (znx ft en.toInt) (zNt_b hat).symm)))) hq11_kn) (zKp3_yM (hq11_km.trans (congrArg (znx ft en.toInt) (congrArg (znt ft en.toInt) (zNt_b (hq6_km.trans (congrArg (znx ft en.toInt) (zNt_b hat).symm)))).symm)) hq16_k hq16_km.1)))), zSm_6 (by omega) rfl (zoi _) (zoi _) (by decide) hq21_1 hq23_1 hq25_1 hq28_1 hq30_1 efm_31⟩⟩)⟩) hP hD
        · skip
          refine lv_if_eq (tgt := 56) hx hb dX12_personLine_49 (by decide) (fun _ => ?_) (fun c32 => absurd (by decide) c32)
          refine lv_iconst (v := 0) hx hb dX12_personLine_56 (by decide) ?_
          refine lv_istore (lv' := [(4, .int 0), (3, .int r_10), (2, .int r_5), (0, .ref o), (1, .int b0)]) hx hb dX12_personLine_57 hl (by decide) rfl (fun ls hl => ?_)
          refine lv_aload_n hx hb dX12_personLine_59 rfl (lv_at hl 3 rfl) ?_
          refine va_get (D := g.1) (ci := 10) (v := .int (-1)) (C := RX12) (T := TX12) (N := 20) hx hb hts izRX12 hown hK hP 0 rfl rfl 12 (by decide) (hts _ k820) (fun _ h9 => h9) rfl dX12_personLine_60 ?_
          refine lv_iconst (v := (-1)) hx hb dX12_personLine_63 (by decide) ?_
          refine lv_icmp_eq (tgt := 68) hx hb dX12_personLine_64 (by decide) (fun _ => ?_) (fun c33 => absurd (by decide) c33)
          refine lv_aload_n hx hb dX12_personLine_68 rfl (lv_at hl 3 rfl) ?_
          refine va_get (D := g.1) (ci := 10) (v := .ref (a 0)) (C := RX12) (T := TX12) (N := 20) hx hb hts izRX12 hown hK hP 0 rfl rfl 1 (by decide) (hts _ k815) (fun _ h9 => h9) rfl dX12_personLine_69 ?_
          refine lv_iconst (v := 3) hx hb dX12_personLine_72 (by decide) ?_
          refine va_iald hx hb hK hP 1 0 rfl rfl (zin rfl) dX12_personLine_73 ?_
          refine ztop (r := (fm 3)) rfl ?_
          refine lv_istore (lv' := [(5, .int (fm 3)), (4, .int 0), (3, .int r_10), (2, .int r_5), (0, .ref o), (1, .int b0)]) hx hb dX12_personLine_74 hl (by decide) rfl (fun ls hl => ?_)
          have w34 : 0 ≤ (fm 3).toInt ∧ (fm 3).toInt ≤ 7 := by omega
          refine lv_aload_n hx hb dX12_personLine_76 rfl (lv_at hl 4 rfl) ?_
          refine lv_iload hx hb dX12_personLine_77 (lv_at hl 0 rfl) ?_
          refine lv_iconst (v := 0) hx hb dX12_personLine_79 (by decide) ?_
          refine lv_iload_n hx hb dX12_personLine_80 rfl (lv_at hl 3 rfl) ?_
          refine mcallV' (g := g) (q0 := 0) (ci := 10) (As := [.int (fm 3), .int 0, .int r_5]) (rest := []) St hK hT hA hP hD hS hl.1 [0] [] rfl rfl rfl (m_put0F l g o a th hi ac tp (-1) en at2_14 (-1) de iD iO tU fm fk fa fc ft ff fb fi (fm 3) r_5 rfm (⟨w34.1, w34.2⟩)) (cwV 3 hts (zgL (zl4 k909 k910 k911 k839) k832) rfl rfl rfl (by decide +kernel) ⟨Nat.le_of_ble_eq_true rfl, Nat.le_of_ble_eq_true rfl⟩) rfl rfl rfl rfl (Nat.le_of_ble_eq_true rfl) dX12_personLine_81 ⟨(Nat.le_of_ble_eq_true rfl), (Nat.le_of_ble_eq_true rfl)⟩ (fun fm2_35 H locs hq36 hP hD hS => ?_)
          replace hq36 : (rM fm2_35) ∧ (fm2_35 = upd fm (11 + 5 * (fm 3).toInt.toNat) r_5) := hq36
          have hP : va_P g.1 vwCl (List.flatten [bMo g o a th hi ac tp (-1) en at2_14 (-1) de iD iO tU fm2_35 fk fa fc ft ff fb fi]) H := hP
          have hD : va_D A (List.flatten [bMo g o a th hi ac tp (-1) en at2_14 (-1) de iD iO tU fm2_35 fk fa fc ft ff fb fi]) := hD
          refine W.widen (k := 0) (n := 0) (Nat.le_of_ble_eq_true rfl) (Nat.le_of_ble_eq_true rfl) ?_
          refine W.eq (g2 := F0 m 84 ls []) rfl ?_
          obtain ⟨rfm2_35, hq36_1⟩ := hq36
          refine lv_aload_n hx hb dX12_personLine_84 rfl (lv_at hl 4 rfl) ?_
          refine lv_iload hx hb dX12_personLine_85 (lv_at hl 0 rfl) ?_
          refine lv_iconst (v := 1) hx hb dX12_personLine_87 (by decide) ?_
          refine lv_iload_n hx hb dX12_personLine_88 rfl (lv_at hl 2 rfl) ?_
          refine mcallV' (g := g) (q0 := 0) (ci := 10) (As := [.int (fm 3), .int 1, .int r_10]) (rest := []) St hK hT hA hP hD hS hl.1 [0] [] rfl rfl rfl (m_put1F l g o a th hi ac tp (-1) en at2_14 (-1) de iD iO tU fm2_35 fk fa fc ft ff fb fi (fm 3) r_10 rfm2_35 (⟨w34.1, w34.2⟩)) (cwV 3 hts (zgL (zl4 k909 k910 k911 k839) k832) rfl rfl rfl (by decide +kernel) ⟨Nat.le_of_ble_eq_true rfl, Nat.le_of_ble_eq_true rfl⟩) rfl rfl rfl rfl (Nat.le_of_ble_eq_true rfl) dX12_personLine_89 ⟨(Nat.le_of_ble_eq_true rfl), (Nat.le_of_ble_eq_true rfl)⟩ (fun fm2_37 H locs hq38 hP hD hS => ?_)
          replace hq38 : (rM fm2_37) ∧ (fm2_37 = upd fm2_35 (12 + 5 * (fm 3).toInt.toNat) r_10) := hq38
          have hP : va_P g.1 vwCl (List.flatten [bMo g o a th hi ac tp (-1) en at2_14 (-1) de iD iO tU fm2_37 fk fa fc ft ff fb fi]) H := hP
          have hD : va_D A (List.flatten [bMo g o a th hi ac tp (-1) en at2_14 (-1) de iD iO tU fm2_37 fk fa fc ft ff fb fi]) := hD
          refine W.widen (k := 0) (n := 0) (Nat.le_of_ble_eq_true rfl) (Nat.le_of_ble_eq_true rfl) ?_
          refine W.eq (g2 := F0 m 92 ls []) rfl ?_
          obtain ⟨rfm2_37, hq38_1⟩ := hq38
          refine lv_aload_n hx hb dX12_personLine_92 rfl (lv_at hl 4 rfl) ?_
          refine lv_iload hx hb dX12_personLine_93 (lv_at hl 0 rfl) ?_
          refine lv_iconst (v := 2) hx hb dX12_personLine_95 (by decide) ?_
          refine lv_iconst (v := 0) hx hb dX12_personLine_96 (by decide) ?_
          refine mcallV' (g := g) (q0 := 0) (ci := 10) (As := [.int (fm 3), .int 2, .int 0]) (rest := []) St hK hT hA hP hD hS hl.1 [0] [] rfl rfl rfl (m_put2F l g o a th hi ac tp (-1) en at2_14 (-1) de iD iO tU fm2_37 fk fa fc ft ff fb fi (fm 3) 0 rfm2_37 (⟨w34.1, w34.2⟩)) (cwV 3 hts (zgL (zl4 k909 k910 k911 k839) k832) rfl rfl rfl (by decide +kernel) ⟨Nat.le_of_ble_eq_true rfl, Nat.le_of_ble_eq_true rfl⟩) rfl rfl rfl rfl (Nat.le_of_ble_eq_true rfl) dX12_personLine_97 ⟨(Nat.le_of_ble_eq_true rfl), (Nat.le_of_ble_eq_true rfl)⟩ (fun fm2_39 H locs hq40 hP hD hS => ?_)
          replace hq40 : (rM fm2_39) ∧ (fm2_39 = upd fm2_37 (13 + 5 * (fm 3).toInt.toNat) 0) := hq40
          have hP : va_P g.1 vwCl (List.flatten [bMo g o a th hi ac tp (-1) en at2_14 (-1) de iD iO tU fm2_39 fk fa fc ft ff fb fi]) H := hP
          have hD : va_D A (List.flatten [bMo g o a th hi ac tp (-1) en at2_14 (-1) de iD iO tU fm2_39 fk fa fc ft ff fb fi]) := hD
          refine W.widen (k := 0) (n := 0) (Nat.le_of_ble_eq_true rfl) (Nat.le_of_ble_eq_true rfl) ?_
          refine W.eq (g2 := F0 m 100 ls []) rfl ?_
          obtain ⟨rfm2_39, hq40_1⟩ := hq40
          refine lv_aload_n hx hb dX12_personLine_100 rfl (lv_at hl 4 rfl) ?_
          refine lv_iload hx hb dX12_personLine_101 (lv_at hl 0 rfl) ?_
          refine lv_iconst (v := 3) hx hb dX12_personLine_103 (by decide) ?_
          refine lv_iload hx hb dX12_personLine_104 (lv_at hl 1 rfl) ?_
          refine lv_if_eq (tgt := 113) hx hb dX12_personLine_106 (by decide) (fun _ => ?_) (fun c41 => absurd (by decide) c41)
          refine lv_iconst (v := 0) hx hb dX12_personLine_113 (by decide) ?_
          refine mcallV' (g := g) (q0 := 0) (ci := 10) (As := [.int (fm 3), .int 3, .int 0]) (rest := []) St hK hT hA hP hD hS hl.1 [0] [] rfl rfl rfl (m_put4F l g o a th hi ac tp (-1) en at2_14 (-1) de iD iO tU fm2_39 fk fa fc ft ff fb fi (fm 3) 0 rfm2_39 (⟨w34.1, w34.2⟩)) (cwV 3 hts (zgL (zl4 k909 k910 k911 k839) k832) rfl rfl rfl (by decide +kernel) ⟨Nat.le_of_ble_eq_true rfl, Nat.le_of_ble_eq_true rfl⟩) rfl rfl rfl rfl (Nat.le_of_ble_eq_true rfl) dX12_personLine_114 ⟨(Nat.le_of_ble_eq_true rfl), (Nat.le_of_ble_eq_true rfl)⟩ (fun fm2_42 H locs hq43 hP hD hS => ?_)
          replace hq43 : (rM fm2_42) ∧ (fm2_42 = upd fm2_39 (14 + 5 * (fm 3).toInt.toNat) 0) := hq43
          have hP : va_P g.1 vwCl (List.flatten [bMo g o a th hi ac tp (-1) en at2_14 (-1) de iD iO tU fm2_42 fk fa fc ft ff fb fi]) H := hP
          have hD : va_D A (List.flatten [bMo g o a th hi ac tp (-1) en at2_14 (-1) de iD iO tU fm2_42 fk fa fc ft ff fb fi]) := hD
          refine W.widen (k := 0) (n := 0) (Nat.le_of_ble_eq_true rfl) (Nat.le_of_ble_eq_true rfl) ?_
          refine W.eq (g2 := F0 m 117 ls []) rfl ?_
          obtain ⟨rfm2_42, hq43_1⟩ := hq43
          refine lv_aload_n hx hb dX12_personLine_117 rfl (lv_at hl 4 rfl) ?_
          refine lv_iload hx hb dX12_personLine_118 (lv_at hl 0 rfl) ?_
          refine lv_iconst (v := 4) hx hb dX12_personLine_120 (by decide) ?_
          refine lv_iconst (v := (-1)) hx hb dX12_personLine_121 (by decide) ?_
          refine mcallV' (g := g) (q0 := 0) (ci := 10) (As := [.int (fm 3), .int 4, .int (-1)]) (rest := []) St hK hT hA hP hD hS hl.1 [0] [] rfl rfl rfl (m_put3F l g o a th hi ac tp (-1) en at2_14 (-1) de iD iO tU fm2_42 fk fa fc ft ff fb fi (fm 3) (-1) rfm2_42 (⟨w34.1, w34.2⟩)) (cwV 3 hts (zgL (zl4 k909 k910 k911 k839) k832) rfl rfl rfl (by decide +kernel) ⟨Nat.le_of_ble_eq_true rfl, Nat.le_of_ble_eq_true rfl⟩) rfl rfl rfl rfl (Nat.le_of_ble_eq_true rfl) dX12_personLine_122 ⟨(Nat.le_of_ble_eq_true rfl), (Nat.le_of_ble_eq_true rfl)⟩ (fun fm2_44 H locs hq45 hP hD hS => ?_)
          replace hq45 : (rM fm2_44) ∧ (fm2_44 = upd fm2_42 (15 + 5 * (fm 3).toInt.toNat) (-1)) := hq45
          have hP : va_P g.1 vwCl (List.flatten [bMo g o a th hi ac tp (-1) en at2_14 (-1) de iD iO tU fm2_44 fk fa fc ft ff fb fi]) H := hP
          have hD : va_D A (List.flatten [bMo g o a th hi ac tp (-1) en at2_14 (-1) de iD iO tU fm2_44 fk fa fc ft ff fb fi]) := hD
          refine W.widen (k := 0) (n := 0) (Nat.le_of_ble_eq_true rfl) (Nat.le_of_ble_eq_true rfl) ?_
          refine W.eq (g2 := F0 m 125 ls []) rfl ?_
          obtain ⟨rfm2_44, hq45_1⟩ := hq45
          refine lv_aload_n hx hb dX12_personLine_125 rfl (lv_at hl 4 rfl) ?_
          refine va_get (D := g.1) (ci := 10) (v := .ref (a 0)) (C := RX12) (T := TX12) (N := 20) hx hb hts izRX12 hown hK hP 0 rfl rfl 1 (by decide) (hts _ k815) (fun _ h9 => h9) rfl dX12_personLine_126 ?_
          refine lv_iconst (v := 3) hx hb dX12_personLine_129 (by decide) ?_
          refine lv_dup2_11 hx hb dX12_personLine_130 rfl rfl ?_
          refine va_iald hx hb hK hP 1 0 rfl rfl (zin rfl) dX12_personLine_131 ?_
          refine ztop (r := (fm 3)) (by show fm2_44 3 = (fm 3); rw [hq45_1]; refine Eq.trans (pk_un (by omega)) ?_; rw [hq43_1]; refine Eq.trans (pk_un (by omega)) ?_; rw [hq40_1]; refine Eq.trans (pk_un (by omega)) ?_; rw [hq38_1]; refine Eq.trans (pk_un (by omega)) ?_; rw [hq36_1]; refine Eq.trans (pk_un (by omega)) ?_; exact rfl) ?_
          refine lv_iconst (v := 1) hx hb dX12_personLine_132 (by decide) ?_
          refine lv_iadd hx hb dX12_personLine_133 ?_
          refine va_iast hx hb hK hP hD hS 1 0 rfl rfl (zin rfl) dX12_personLine_134 (fun H locs hP hD hS => ?_)
          obtain ⟨fm_46, rfm_46, efm_46, hP, hD⟩ : ∃ fm_46 : Nat → Int32, rM fm_46 ∧ fm_46 = upd fm2_44 3 ((fm 3) + 1) ∧ va_P g.1 vwCl (List.flatten [bMo g o a th hi ac tp (-1) en at2_14 (-1) de iD iO tU fm_46 fk fa fc ft ff fb fi]) H ∧ va_D A (List.flatten [bMo g o a th hi ac tp (-1) en at2_14 (-1) de iD iO tU fm_46 fk fa fc ft ff fb fi]) := ⟨upd fm2_44 3 ((fm 3) + 1), (rM_s3 rfm2_44 (show 0 ≤ ((fm 3) + 1).toInt ∧ ((fm 3) + 1).toInt ≤ 8 from (by omega))), rfl, hP, hD⟩
          have hfm_46_0 : (fm_46 0).toInt = (fm 0).toInt := by rw [efm_46, pk_un (by omega), hq45_1, pk_un (by omega), hq43_1, pk_un (by omega), hq40_1, pk_un (by omega), hq38_1, pk_un (by omega), hq36_1, pk_un (by omega)]
          have hfm_46_3 : (fm_46 3).toInt = (fm 3).toInt + 1 := by rw [efm_46, pk_us]; exact zpe1 (by omega)
          have hfm_46_4 : (fm_46 4).toInt = (fm 4).toInt := by rw [efm_46, pk_un (by omega), hq45_1, pk_un (by omega), hq43_1, pk_un (by omega), hq40_1, pk_un (by omega), hq38_1, pk_un (by omega), hq36_1, pk_un (by omega)]
          have hP : va_P g.1 vwCl (List.flatten [bMo g o a th hi ac tp (-1) en at2_14 (-1) de iD iO tU fm_46 fk fa fc ft ff fb fi]) H := hP
          have hD : va_D A (List.flatten [bMo g o a th hi ac tp (-1) en at2_14 (-1) de iD iO tU fm_46 fk fa fc ft ff fb fi]) := hD
          exact mret_v hx hb hr hlocks hS (Nat.le_of_ble_eq_true rfl) (Nat.le_of_ble_eq_true rfl) dX12_personLine_135 (at2_14, -1, fm_46) rfl (show (rM fm_46) ∧ (0 ≤ at2_14.toInt ∧ at2_14.toInt ≤ en.toInt + 7 - de.toInt) ∧ (tA.toInt ≤ at2_14.toInt) ∧ ((fm_46 0).toInt = (fm 0).toInt) ∧ (zTgm fm fm_46) ∧ ((-1) = (-1) ∧ zTO (zTPerson ft en.toInt (fm 3).toInt b0.toInt) (zbg ft en.toInt at2_14.toInt) (fm 3).toInt (fm_46 3).toInt (fm 4).toInt (fm_46 4).toInt ∧ zTQ (zTPerson ft en.toInt (fm 3).toInt b0.toInt) ft (zbg ft en.toInt at2_14.toInt) (zSm fm) (zSm fm_46) ∨ 0 ≤ ((-1) : Int32).toInt ∧ zTPerson ft en.toInt (fm 3).toInt b0.toInt (.bad ((-1) : Int32).toInt)) from ⟨(by first | assumption | omega | exact Or.inl (by decide) | exact Or.inr (by omega) | decide), (by first | assumption | omega | exact Or.inl (by decide) | exact Or.inr (by omega) | decide), (by first | assumption | omega | exact Or.inl (by decide) | exact Or.inr (by omega) | decide), (by first | assumption | omega | exact Or.inl (by decide) | exact Or.inr (by omega) | decide), (zTg_u (zTg_u (zTg_u (zTg_u (zTg_u (zTg_u (zTg_r _) hq36_1 (by omega)) hq38_1 (by omega)) hq40_1 (by omega)) hq43_1 (by omega)) hq45_1 (by omega)) efm_46 (by omega)), (Or.inl ⟨rfl, ⟨_, zTP_iM (by omega) (zNN_yM (by decide) (by decide) (zNu_b (zNt_b hat) hq6_k) (show zW1 _ _ _ _ _ _ from zW1_yM (zW_b (zNt_b (hq6_km.trans (congrArg (znx ft en.toInt) (zNt_b hat).symm))) hq11_k) (show zNN _ _ _ _ _ _ _ from zNN_yM (by decide) (by decide) (zNu_b (congrArg (znt ft en.toInt) (zNt_b (hq6_km.trans (congrArg (znx ft en.toInt) (zNt_b hat).symm)))) hq11_kn) (zKp3_nM (hq11_km.trans (congrArg (znx ft en.toInt) (congrArg (znt ft en.toInt) (zNt_b (hq6_km.trans (congrArg (znx ft en.toInt) (zNt_b hat).symm)))).symm)) hq16_k hq16_km)))), zcp_y (by omega), zcw_n (by decide) (by omega)⟩, ⟨_, zTP_iM (by omega) (zNN_yM (by decide) (by decide) (zNu_b (zNt_b hat) hq6_k) (show zW1 _ _ _ _ _ _ from zW1_yM (zW_b (zNt_b (hq6_km.trans (congrArg (znx ft en.toInt) (zNt_b hat).symm))) hq11_k) (show zNN _ _ _ _ _ _ _ from zNN_yM (by decide) (by decide) (zNu_b (congrArg (znt ft en.toInt) (zNt_b (hq6_km.trans (congrArg (znx ft en.toInt) (zNt_b hat).symm)))) hq11_kn) (zKp3_nM (hq11_km.trans (congrArg (znx ft en.toInt) (congrArg (znt ft en.toInt) (zNt_b (hq6_km.trans (congrArg (znx ft en.toInt) (zNt_b hat).symm)))).symm)) hq16_k hq16_km)))), zSm_6 (by omega) rfl (zoi _) (zoi _) (by decide) hq36_1 hq38_1 hq40_1 hq43_1 hq45_1 efm_46⟩⟩)⟩) hP hD
      · skip
        have w47 : 0 ≤ fl2_9.toInt := zB0 hq11_km
        refine lv_istore_n (lv' := [(3, .int r_10), (2, .int r_5), (0, .ref o), (1, .int b0)]) hx hb dX12_personLine_34 rfl hl (by decide) rfl (fun ls hl => ?_)
        refine lv_aload_n hx hb dX12_personLine_35 rfl (lv_at hl 2 rfl) ?_
        refine va_get (D := g.1) (ci := 10) (v := .int fl2_9) (C := RX12) (T := TX12) (N := 20) hx hb hts izRX12 hown hK hP 0 rfl rfl 12 (by decide) (hts _ k820) (fun _ h9 => h9) rfl dX12_personLine_36 ?_
        refine lv_iconst (v := (-1)) hx hb dX12_personLine_39 (by decide) ?_
        refine lv_icmp_ne (tgt := 56) hx hb dX12_personLine_40 (by decide) (fun cb9 => ?_) (fun cb9 => ?_)
        · skip
          have c48 : ¬ fl2_9.toInt = (-1) := zne cb9 rfl (by decide)
          refine lv_iconst (v := 0) hx hb dX12_personLine_56 (by decide) ?_
          refine lv_istore (lv' := [(4, .int 0), (3, .int r_10), (2, .int r_5), (0, .ref o), (1, .int b0)]) hx hb dX12_personLine_57 hl (by decide) rfl (fun ls hl => ?_)
          refine lv_aload_n hx hb dX12_personLine_59 rfl (lv_at hl 3 rfl) ?_
          refine va_get (D := g.1) (ci := 10) (v := .int fl2_9) (C := RX12) (T := TX12) (N := 20) hx hb hts izRX12 hown hK hP 0 rfl rfl 12 (by decide) (hts _ k820) (fun _ h9 => h9) rfl dX12_personLine_60 ?_
          refine lv_iconst (v := (-1)) hx hb dX12_personLine_63 (by decide) ?_
          refine lv_icmp_eq (tgt := 68) hx hb dX12_personLine_64 (by decide) (fun cb9 => ?_) (fun cb9 => ?_)
          · skip
            exact absurd (show fl2_9.toInt = (-1) from zeq cb9 rfl (by decide)) (zDeq2 (a := 0) (b := (-1)) w47 (Int.le_refl _) (by decide))
          · skip
            have c50 : ¬ fl2_9.toInt = (-1) := zne cb9 rfl (by decide)
            have hP : va_P g.1 vwCl (List.flatten [bMo g o a th hi ac tp (-1) en at2_8 fl2_9 de iD iO tU fm fk fa fc ft ff fb fi]) H := hP
            have hD : va_D A (List.flatten [bMo g o a th hi ac tp (-1) en at2_8 fl2_9 de iD iO tU fm fk fa fc ft ff fb fi]) := hD
            exact mret_v hx hb hr hlocks hS (Nat.le_of_ble_eq_true rfl) (Nat.le_of_ble_eq_true rfl) dX12_personLine_67 (at2_8, fl2_9, fm) rfl (show (rM fm) ∧ (0 ≤ at2_8.toInt ∧ at2_8.toInt ≤ en.toInt + 7 - de.toInt) ∧ (tA.toInt ≤ at2_8.toInt) ∧ ((fm 0).toInt = (fm 0).toInt) ∧ (zTgm fm fm) ∧ ((-1) = fl2_9 ∧ zTO (zTPerson ft en.toInt (fm 3).toInt b0.toInt) (zbg ft en.toInt at2_8.toInt) (fm 3).toInt (fm 3).toInt (fm 4).toInt (fm 4).toInt ∧ zTQ (zTPerson ft en.toInt (fm 3).toInt b0.toInt) ft (zbg ft en.toInt at2_8.toInt) (zSm fm) (zSm fm) ∨ 0 ≤ fl2_9.toInt ∧ zTPerson ft en.toInt (fm 3).toInt b0.toInt (.bad fl2_9.toInt)) from ⟨(by first | assumption | omega | exact Or.inl (by decide) | exact Or.inr (by omega) | decide), (by first | assumption | omega | exact Or.inl (by decide) | exact Or.inr (by omega) | decide), (by first | assumption | omega | exact Or.inl (by decide) | exact Or.inr (by omega) | decide), (by first | assumption | omega | exact Or.inl (by decide) | exact Or.inr (by omega) | decide), (zTg_r _), (Or.inr ⟨(by omega), zTP_iM (by omega) (zNN_yM (by decide) (by decide) (zNu_b (zNt_b hat) hq6_k) (show zW1 _ _ _ _ _ _ from zW1_yM (zW_b (zNt_b (hq6_km.trans (congrArg (znx ft en.toInt) (zNt_b hat).symm))) hq11_k) (show zNN _ _ _ _ _ _ _ from zNN_bM (by decide) (by decide) (zNn_b (congrArg (znt ft en.toInt) (zNt_b (hq6_km.trans (congrArg (znx ft en.toInt) (zNt_b hat).symm)))) hq11_kn) (hq11_km.trans (congrArg (znt ft en.toInt) (zNt_b (hq6_km.trans (congrArg (znx ft en.toInt) (zNt_b hat).symm)))).symm))))⟩)⟩) hP hD
        · skip
          exact absurd (show fl2_9.toInt = (-1) from zeq cb9 rfl (by decide)) (zDeq2 (a := 0) (b := (-1)) w47 (Int.le_refl _) (by decide))
      · skip
        have w52 : 0 ≤ fl2_9.toInt := zB0 hq11_km
        refine lv_istore_n (lv' := [(3, .int r_10), (2, .int r_5), (0, .ref o), (1, .int b0)]) hx hb dX12_personLine_34 rfl hl (by decide) rfl (fun ls hl => ?_)
        refine lv_aload_n hx hb dX12_personLine_35 rfl (lv_at hl 2 rfl) ?_
        refine va_get (D := g.1) (ci := 10) (v := .int fl2_9) (C := RX12) (T := TX12) (N := 20) hx hb hts izRX12 hown hK hP 0 rfl rfl 12 (by decide) (hts _ k820) (fun _ h9 => h9) rfl dX12_personLine_36 ?_
        refine lv_iconst (v := (-1)) hx hb dX12_personLine_39 (by decide) ?_
        refine lv_icmp_ne (tgt := 56) hx hb dX12_personLine_40 (by decide) (fun cb9 => ?_) (fun cb9 => ?_)
        · skip
          have c53 : ¬ fl2_9.toInt = (-1) := zne cb9 rfl (by decide)
          refine lv_iconst (v := 0) hx hb dX12_personLine_56 (by decide) ?_
          refine lv_istore (lv' := [(4, .int 0), (3, .int r_10), (2, .int r_5), (0, .ref o), (1, .int b0)]) hx hb dX12_personLine_57 hl (by decide) rfl (fun ls hl => ?_)
          refine lv_aload_n hx hb dX12_personLine_59 rfl (lv_at hl 3 rfl) ?_
          refine va_get (D := g.1) (ci := 10) (v := .int fl2_9) (C := RX12) (T := TX12) (N := 20) hx hb hts izRX12 hown hK hP 0 rfl rfl 12 (by decide) (hts _ k820) (fun _ h9 => h9) rfl dX12_personLine_60 ?_
          refine lv_iconst (v := (-1)) hx hb dX12_personLine_63 (by decide) ?_
          refine lv_icmp_eq (tgt := 68) hx hb dX12_personLine_64 (by decide) (fun cb9 => ?_) (fun cb9 => ?_)
          · skip
            exact absurd (show fl2_9.toInt = (-1) from zeq cb9 rfl (by decide)) (zDeq2 (a := 0) (b := (-1)) w52 (Int.le_refl _) (by decide))
          · skip
            have c55 : ¬ fl2_9.toInt = (-1) := zne cb9 rfl (by decide)
            have hP : va_P g.1 vwCl (List.flatten [bMo g o a th hi ac tp (-1) en at2_8 fl2_9 de iD iO tU fm fk fa fc ft ff fb fi]) H := hP
            have hD : va_D A (List.flatten [bMo g o a th hi ac tp (-1) en at2_8 fl2_9 de iD iO tU fm fk fa fc ft ff fb fi]) := hD
            exact mret_v hx hb hr hlocks hS (Nat.le_of_ble_eq_true rfl) (Nat.le_of_ble_eq_true rfl) dX12_personLine_67 (at2_8, fl2_9, fm) rfl (show (rM fm) ∧ (0 ≤ at2_8.toInt ∧ at2_8.toInt ≤ en.toInt + 7 - de.toInt) ∧ (tA.toInt ≤ at2_8.toInt) ∧ ((fm 0).toInt = (fm 0).toInt) ∧ (zTgm fm fm) ∧ ((-1) = fl2_9 ∧ zTO (zTPerson ft en.toInt (fm 3).toInt b0.toInt) (zbg ft en.toInt at2_8.toInt) (fm 3).toInt (fm 3).toInt (fm 4).toInt (fm 4).toInt ∧ zTQ (zTPerson ft en.toInt (fm 3).toInt b0.toInt) ft (zbg ft en.toInt at2_8.toInt) (zSm fm) (zSm fm) ∨ 0 ≤ fl2_9.toInt ∧ zTPerson ft en.toInt (fm 3).toInt b0.toInt (.bad fl2_9.toInt)) from ⟨(by first | assumption | omega | exact Or.inl (by decide) | exact Or.inr (by omega) | decide), (by first | assumption | omega | exact Or.inl (by decide) | exact Or.inr (by omega) | decide), (by first | assumption | omega | exact Or.inl (by decide) | exact Or.inr (by omega) | decide), (by first | assumption | omega | exact Or.inl (by decide) | exact Or.inr (by omega) | decide), (zTg_r _), (Or.inr ⟨(by omega), zTP_iM (by omega) (zNN_yM (by decide) (by decide) (zNu_b (zNt_b hat) hq6_k) (show zW1 _ _ _ _ _ _ from zW1_n (hq11_km.trans (zNt_b (hq6_km.trans (congrArg (znx ft en.toInt) (zNt_b hat).symm))).symm) (zWn_b (zNt_b (hq6_km.trans (congrArg (znx ft en.toInt) (zNt_b hat).symm))) hq11_k)))⟩)⟩) hP hD
        · skip
          exact absurd (show fl2_9.toInt = (-1) from zeq cb9 rfl (by decide)) (zDeq2 (a := 0) (b := (-1)) w52 (Int.le_refl _) (by decide))
    · skip
      have w57 : 0 ≤ fl2_4.toInt := zB0 hq6_k
      refine lv_istore_n (lv' := [(2, .int r_5), (0, .ref o), (1, .int b0)]) hx hb dX12_personLine_23 rfl hl (by decide) rfl (fun ls hl => ?_)
      refine lv_aload_n hx hb dX12_personLine_24 rfl (lv_at hl 1 rfl) ?_
      refine va_ldcS (q := g.2 62) hx hb hown (zra26 hT.2.1) dX12_personLine_25 ?_
      refine lv_iconst (v := 0) hx hb dX12_personLine_27 (by decide) ?_
      refine lv_sipush (v := 999) hx hb dX12_personLine_28 (by decide) ?_
      refine mcallV' (g := g) (q0 := 0) (ci := 10) (As := [.ref (g.2 62), .int 0, .int 999]) (rest := []) St hK hT hA hP hD hS hl.1 [0] [] rfl rfl rfl (m_afterX l g o a th hi ac tp en at2_3 fl2_4 de iD iO tU fm fk fa fc ft ff fb fi 0 999 (g.2 62) 26 zqa26 hen hq6_0 hde w57 rfl zla26 zna26 (zlitB zla26)) (cwV 3 hts (zgL (zl4 k906 k907 k908 k839) k905) rfl rfl rfl (by decide +kernel) ⟨Nat.le_of_ble_eq_true rfl, Nat.le_of_ble_eq_true rfl⟩) rfl rfl rfl rfl (Nat.le_of_ble_eq_true rfl) dX12_personLine_31 ⟨(Nat.le_of_ble_eq_true rfl), (Nat.le_of_ble_eq_true rfl)⟩ (fun _u H locs hq58 hP hD hS => ?_)
      have hP : va_P g.1 vwCl (List.flatten [bMo g o a th hi ac tp (-1) en at2_3 fl2_4 de iD iO tU fm fk fa fc ft ff fb fi]) H := hP
      have hD : va_D A (List.flatten [bMo g o a th hi ac tp (-1) en at2_3 fl2_4 de iD iO tU fm fk fa fc ft ff fb fi]) := hD
      refine W.widen (k := 0) (n := 0) (Nat.le_of_ble_eq_true rfl) (Nat.le_of_ble_eq_true rfl) ?_
      refine W.eq (g2 := F0 m 34 ls [.int 0]) rfl ?_
      refine lv_istore_n (lv' := [(3, .int 0), (2, .int r_5), (0, .ref o), (1, .int b0)]) hx hb dX12_personLine_34 rfl hl (by decide) rfl (fun ls hl => ?_)
      refine lv_aload_n hx hb dX12_personLine_35 rfl (lv_at hl 2 rfl) ?_
      refine va_get (D := g.1) (ci := 10) (v := .int fl2_4) (C := RX12) (T := TX12) (N := 20) hx hb hts izRX12 hown hK hP 0 rfl rfl 12 (by decide) (hts _ k820) (fun _ h9 => h9) rfl dX12_personLine_36 ?_
      refine lv_iconst (v := (-1)) hx hb dX12_personLine_39 (by decide) ?_
      refine lv_icmp_ne (tgt := 56) hx hb dX12_personLine_40 (by decide) (fun cb9 => ?_) (fun cb9 => ?_)
      · skip
        have c59 : ¬ fl2_4.toInt = (-1) := zne cb9 rfl (by decide)
        refine lv_iconst (v := 0) hx hb dX12_personLine_56 (by decide) ?_
        refine lv_istore (lv' := [(4, .int 0), (3, .int 0), (2, .int r_5), (0, .ref o), (1, .int b0)]) hx hb dX12_personLine_57 hl (by decide) rfl (fun ls hl => ?_)
        refine lv_aload_n hx hb dX12_personLine_59 rfl (lv_at hl 3 rfl) ?_
        refine va_get (D := g.1) (ci := 10) (v := .int fl2_4) (C := RX12) (T := TX12) (N := 20) hx hb hts izRX12 hown hK hP 0 rfl rfl 12 (by decide) (hts _ k820) (fun _ h9 => h9) rfl dX12_personLine_60 ?_
        refine lv_iconst (v := (-1)) hx hb dX12_personLine_63 (by decide) ?_
        refine lv_icmp_eq (tgt := 68) hx hb dX12_personLine_64 (by decide) (fun cb9 => ?_) (fun cb9 => ?_)
        · skip
          exact absurd (show fl2_4.toInt = (-1) from zeq cb9 rfl (by decide)) (zDeq2 (a := 0) (b := (-1)) w57 (Int.le_refl _) (by decide))
        · skip
          have c61 : ¬ fl2_4.toInt = (-1) := zne cb9 rfl (by decide)
          have hP : va_P g.1 vwCl (List.flatten [bMo g o a th hi ac tp (-1) en at2_3 fl2_4 de iD iO tU fm fk fa fc ft ff fb fi]) H := hP
          have hD : va_D A (List.flatten [bMo g o a th hi ac tp (-1) en at2_3 fl2_4 de iD iO tU fm fk fa fc ft ff fb fi]) := hD
          exact mret_v hx hb hr hlocks hS (Nat.le_of_ble_eq_true rfl) (Nat.le_of_ble_eq_true rfl) dX12_personLine_67 (at2_3, fl2_4, fm) rfl (show (rM fm) ∧ (0 ≤ at2_3.toInt ∧ at2_3.toInt ≤ en.toInt + 7 - de.toInt) ∧ (tA.toInt ≤ at2_3.toInt) ∧ ((fm 0).toInt = (fm 0).toInt) ∧ (zTgm fm fm) ∧ ((-1) = fl2_4 ∧ zTO (zTPerson ft en.toInt (fm 3).toInt b0.toInt) (zbg ft en.toInt at2_3.toInt) (fm 3).toInt (fm 3).toInt (fm 4).toInt (fm 4).toInt ∧ zTQ (zTPerson ft en.toInt (fm 3).toInt b0.toInt) ft (zbg ft en.toInt at2_3.toInt) (zSm fm) (zSm fm) ∨ 0 ≤ fl2_4.toInt ∧ zTPerson ft en.toInt (fm 3).toInt b0.toInt (.bad fl2_4.toInt)) from ⟨(by first | assumption | omega | exact Or.inl (by decide) | exact Or.inr (by omega) | decide), (by first | assumption | omega | exact Or.inl (by decide) | exact Or.inr (by omega) | decide), (by first | assumption | omega | exact Or.inl (by decide) | exact Or.inr (by omega) | decide), (by first | assumption | omega | exact Or.inl (by decide) | exact Or.inr (by omega) | decide), (zTg_r _), (Or.inr ⟨(by omega), zTP_iM (by omega) (zNN_bM (by decide) (by decide) (zNn_b (zNt_b hat) hq6_km) (hq6_k.trans (zNt_b hat).symm))⟩)⟩) hP hD
      · skip
        exact absurd (show fl2_4.toInt = (-1) from zeq cb9 rfl (by decide)) (zDeq2 (a := 0) (b := (-1)) w57 (Int.le_refl _) (by decide))
  · skip
    have c63 : (fm 3).toInt = 8 := zeq cb9 rfl (by decide)
    have n64 : 8 ≤ (fm 3).toInt := Int.le_trans (Int.le_refl _) (Int.le_of_eq c63.symm)
    refine lv_aload_n hx hb dX12_personLine_11 rfl (lv_at hl 0 rfl) ?_
    refine lv_iload_n hx hb dX12_personLine_12 rfl (lv_at hl 1 rfl) ?_
    refine mcallV' (g := g) (q0 := 0) (ci := 10) (As := [.int b0]) (rest := []) St hK hT hA hP hD hS hl.1 [0] [] rfl rfl rfl (m_wrongF l g o a th hi ac tp (-1) en tA de iD iO tU fm fk fa fc ft ff fb fi b0 ) (cwV 1 hts (zgL (zl4 k895 k896 k897 k839) k890) rfl rfl rfl (by decide +kernel) ⟨Nat.le_of_ble_eq_true rfl, Nat.le_of_ble_eq_true rfl⟩) rfl rfl rfl rfl (Nat.le_of_ble_eq_true rfl) dX12_personLine_13 ⟨(Nat.le_of_ble_eq_true rfl), (Nat.le_of_ble_eq_true rfl)⟩ (fun _u H locs hq65 hP hD hS => ?_)
    have hP : va_P g.1 vwCl (List.flatten [bMo g o a th hi ac tp (-1) en tA b0 de iD iO tU fm fk fa fc ft ff fb fi]) H := hP
    have hD : va_D A (List.flatten [bMo g o a th hi ac tp (-1) en tA b0 de iD iO tU fm fk fa fc ft ff fb fi]) := hD
    refine W.widen (k := 0) (n := 0) (Nat.le_of_ble_eq_true rfl) (Nat.le_of_ble_eq_true rfl) ?_
    refine W.eq (g2 := F0 m 16 ls []) rfl ?_
    refine lv_aload_n hx hb dX12_personLine_16 rfl (lv_at hl 0 rfl) ?_
    refine lv_iconst (v := 0) hx hb dX12_personLine_17 (by decide) ?_
    refine lv_bipush (v := 99) hx hb dX12_personLine_18 (by decide) ?_
    refine mcallV' (g := g) (q0 := 0) (ci := 10) (As := [.int 0, .int 99]) (rest := []) St hK hT hA hP hD hS hl.1 [0] [] rfl rfl rfl (m_figuresX l g o a th hi ac tp en tA b0 de iD iO tU fm fk fa fc ft ff fb fi 0 99 hen htA hde hb0) (cwV 2 hts (zgL (zl4 k902 k903 k904 k839) k898) rfl rfl rfl (by decide +kernel) ⟨Nat.le_of_ble_eq_true rfl, Nat.le_of_ble_eq_true rfl⟩) rfl rfl rfl rfl (Nat.le_of_ble_eq_true rfl) dX12_personLine_20 ⟨(Nat.le_of_ble_eq_true rfl), (Nat.le_of_ble_eq_true rfl)⟩ (fun _u H locs hq66 hP hD hS => ?_)
    have hP : va_P g.1 vwCl (List.flatten [bMo g o a th hi ac tp (-1) en tA b0 de iD iO tU fm fk fa fc ft ff fb fi]) H := hP
    have hD : va_D A (List.flatten [bMo g o a th hi ac tp (-1) en tA b0 de iD iO tU fm fk fa fc ft ff fb fi]) := hD
    refine W.widen (k := 0) (n := 0) (Nat.le_of_ble_eq_true rfl) (Nat.le_of_ble_eq_true rfl) ?_
    refine W.eq (g2 := F0 m 23 ls [.int 0]) rfl ?_
    refine lv_istore_n (lv' := [(2, .int 0), (0, .ref o), (1, .int b0)]) hx hb dX12_personLine_23 rfl hl (by decide) rfl (fun ls hl => ?_)
    refine lv_aload_n hx hb dX12_personLine_24 rfl (lv_at hl 1 rfl) ?_
    refine va_ldcS (q := g.2 62) hx hb hown (zra26 hT.2.1) dX12_personLine_25 ?_
    refine lv_iconst (v := 0) hx hb dX12_personLine_27 (by decide) ?_
    refine lv_sipush (v := 999) hx hb dX12_personLine_28 (by decide) ?_
    refine mcallV' (g := g) (q0 := 0) (ci := 10) (As := [.ref (g.2 62), .int 0, .int 999]) (rest := []) St hK hT hA hP hD hS hl.1 [0] [] rfl rfl rfl (m_afterX l g o a th hi ac tp en tA b0 de iD iO tU fm fk fa fc ft ff fb fi 0 999 (g.2 62) 26 zqa26 hen htA hde hb0 rfl zla26 zna26 (zlitB zla26)) (cwV 3 hts (zgL (zl4 k906 k907 k908 k839) k905) rfl rfl rfl (by decide +kernel) ⟨Nat.le_of_ble_eq_true rfl, Nat.le_of_ble_eq_true rfl⟩) rfl rfl rfl rfl (Nat.le_of_ble_eq_true rfl) dX12_personLine_31 ⟨(Nat.le_of_ble_eq_true rfl), (Nat.le_of_ble_eq_true rfl)⟩ (fun _u H locs hq67 hP hD hS => ?_)
    have hP : va_P g.1 vwCl (List.flatten [bMo g o a th hi ac tp (-1) en tA b0 de iD iO tU fm fk fa fc ft ff fb fi]) H := hP
    have hD : va_D A (List.flatten [bMo g o a th hi ac tp (-1) en tA b0 de iD iO tU fm fk fa fc ft ff fb fi]) := hD
    refine W.widen (k := 0) (n := 0) (Nat.le_of_ble_eq_true rfl) (Nat.le_of_ble_eq_true rfl) ?_
    refine W.eq (g2 := F0 m 34 ls [.int 0]) rfl ?_
    refine lv_istore_n (lv' := [(3, .int 0), (2, .int 0), (0, .ref o), (1, .int b0)]) hx hb dX12_personLine_34 rfl hl (by decide) rfl (fun ls hl => ?_)
    refine lv_aload_n hx hb dX12_personLine_35 rfl (lv_at hl 2 rfl) ?_
    refine va_get (D := g.1) (ci := 10) (v := .int b0) (C := RX12) (T := TX12) (N := 20) hx hb hts izRX12 hown hK hP 0 rfl rfl 12 (by decide) (hts _ k820) (fun _ h9 => h9) rfl dX12_personLine_36 ?_
    refine lv_iconst (v := (-1)) hx hb dX12_personLine_39 (by decide) ?_
    refine lv_icmp_ne (tgt := 56) hx hb dX12_personLine_40 (by decide) (fun cb9 => ?_) (fun cb9 => ?_)
    · skip
      have c68 : ¬ b0.toInt = (-1) := zne cb9 rfl (by decide)
      refine lv_iconst (v := 0) hx hb dX12_personLine_56 (by decide) ?_
      refine lv_istore (lv' := [(4, .int 0), (3, .int 0), (2, .int 0), (0, .ref o), (1, .int b0)]) hx hb dX12_personLine_57 hl (by decide) rfl (fun ls hl => ?_)
      refine lv_aload_n hx hb dX12_personLine_59 rfl (lv_at hl 3 rfl) ?_
      refine va_get (D := g.1) (ci := 10) (v := .int b0) (C := RX12) (T := TX12) (N := 20) hx hb hts izRX12 hown hK hP 0 rfl rfl 12 (by decide) (hts _ k820) (fun _ h9 => h9) rfl dX12_personLine_60 ?_
      refine lv_iconst (v := (-1)) hx hb dX12_personLine_63 (by decide) ?_
      refine lv_icmp_eq (tgt := 68) hx hb dX12_personLine_64 (by decide) (fun cb9 => ?_) (fun cb9 => ?_)
      · skip
        exact absurd (show b0.toInt = (-1) from zeq cb9 rfl (by decide)) (zDeq2 (a := 0) (b := (-1)) hb0 (Int.le_refl _) (by decide))
      · skip
        have c70 : ¬ b0.toInt = (-1) := zne cb9 rfl (by decide)
        have hP : va_P g.1 vwCl (List.flatten [bMo g o a th hi ac tp (-1) en tA b0 de iD iO tU fm fk fa fc ft ff fb fi]) H := hP
        have hD : va_D A (List.flatten [bMo g o a th hi ac tp (-1) en tA b0 de iD iO tU fm fk fa fc ft ff fb fi]) := hD
        exact mret_v hx hb hr hlocks hS (Nat.le_of_ble_eq_true rfl) (Nat.le_of_ble_eq_true rfl) dX12_personLine_67 (tA, b0, fm) rfl (show (rM fm) ∧ (0 ≤ tA.toInt ∧ tA.toInt ≤ en.toInt + 7 - de.toInt) ∧ (tA.toInt ≤ tA.toInt) ∧ ((fm 0).toInt = (fm 0).toInt) ∧ (zTgm fm fm) ∧ ((-1) = b0 ∧ zTO (zTPerson ft en.toInt (fm 3).toInt b0.toInt) (zbg ft en.toInt tA.toInt) (fm 3).toInt (fm 3).toInt (fm 4).toInt (fm 4).toInt ∧ zTQ (zTPerson ft en.toInt (fm 3).toInt b0.toInt) ft (zbg ft en.toInt tA.toInt) (zSm fm) (zSm fm) ∨ 0 ≤ b0.toInt ∧ zTPerson ft en.toInt (fm 3).toInt b0.toInt (.bad b0.toInt)) from ⟨(by first | assumption | omega | exact Or.inl (by decide) | exact Or.inr (by omega) | decide), (by first | assumption | omega | exact Or.inl (by decide) | exact Or.inr (by omega) | decide), (by first | assumption | omega | exact Or.inl (by decide) | exact Or.inr (by omega) | decide), (by first | assumption | omega | exact Or.inl (by decide) | exact Or.inr (by omega) | decide), (zTg_r _), (Or.inr ⟨(by omega), zTP_f (by omega) rfl⟩)⟩) hP hD
    · skip
      exact absurd (show b0.toInt = (-1) from zeq cb9 rfl (by decide)) (zDeq2 (a := 0) (b := (-1)) hb0 (Int.le_refl _) (by decide))
set_option maxRecDepth 100000 in
set_option maxHeartbeats 4000000 in
theorem m_workLineG (l : Launch) (g : zG) (o : Nat) (a : Nat → Nat) (th : Int32) (hi : Int32) (ac : Int32) (tp : Int32) (en : Int32) (tA : Int32) (de : Int32) (iD : Int32) (iO : Int32) (tU : Int32) (fm : Nat → Int32) (fk : Nat → Int32) (fa : Nat → Int32) (fc : Nat → Int32) (ft : Nat → Int32) (ff : Nat → Int32) (fb : Nat → Int32) (fi : Nat → Int32) (b0 : Int32) (rfm : rM fm) (hen : 0 ≤ en.toInt ∧ en.toInt ≤ 400) (htA : 0 ≤ tA.toInt ∧ tA.toInt ≤ en.toInt + 7 - de.toInt) (hde : 0 ≤ de.toInt ∧ de.toInt ≤ 6) (hb0 : 0 ≤ b0.toInt) (hat : tA.toInt = znx ft en.toInt b0.toInt) : zM' g l yX12_workLine (Cond.code yX12_workLine cX12_workLine 6 none :: zB) ({ frames := 6, cells := 0, slots := 0, locals := 131 } : Room) [.ref o, .int b0] [bMo g o a th hi ac tp (-1) en tA (-1) de iD iO tU fm fk fa fc ft ff fb fi] (fun u : Int32 × Int32 × (Nat → Int32) => (fun (at2 : Int32) (fl2 : Int32) (fm2 : Nat → Int32) => none) (u.1) (u.2.1) (u.2.2)) (fun u : Int32 × Int32 × (Nat → Int32) => (fun (at2 : Int32) (fl2 : Int32) (fm2 : Nat → Int32) => (rM fm2) ∧ (0 ≤ at2.toInt ∧ at2.toInt ≤ en.toInt + 7 - de.toInt) ∧ (tA.toInt ≤ at2.toInt) ∧ ((fm2 0).toInt = (fm 0).toInt) ∧ (zTgm fm fm2) ∧ ((-1) = fl2 ∧ zTO (zTWork ft en.toInt (fm 4).toInt b0.toInt) (zbg ft en.toInt at2.toInt) (fm 3).toInt (fm2 3).toInt (fm 4).toInt (fm2 4).toInt ∧ zTQ (zTWork ft en.toInt (fm 4).toInt b0.toInt) ft (zbg ft en.toInt at2.toInt) (zSm fm) (zSm fm2) ∨ 0 ≤ fl2.toInt ∧ zTWork ft en.toInt (fm 4).toInt b0.toInt (.bad fl2.toInt))) (u.1) (u.2.1) (u.2.2)) (fun u : Int32 × Int32 × (Nat → Int32) => (fun (at2 : Int32) (fl2 : Int32) (fm2 : Nat → Int32) => [bMo g o a th hi ac tp (-1) en at2 fl2 de iD iO tU fm2 fk fa fc ft ff fb fi]) (u.1) (u.2.1) (u.2.2)) := by
  refine zM'.of (cc := cX12_workLine) (maxL := 6) (rt := none) (by decide) rfl (Nat.le_of_ble_eq_true rfl) ?_
  intro p e s m args below meth c A ls St hr hlocks hin hK hT hA hP hD hS hl
  obtain ⟨hx, hb, hml, hown, hts⟩ := id St
  have hl : lv_has ls 6 [(0, .ref o), (1, .int b0)] := hl
  have hrm3 := rM3 rfm
  have hrm4 := rM4 rfm
  have hrs4 : (fm 4 + 1).toInt = (fm 4).toInt + 1 := zpe1 (by omega)
  refine lv_aload_n hx hb dX12_workLine_0 rfl (lv_at hl 0 rfl) ?_
  refine va_get (D := g.1) (ci := 10) (v := .ref (a 0)) (C := RX12) (T := TX12) (N := 20) hx hb hts izRX12 hown hK hP 0 rfl rfl 1 (by decide) (hts _ k815) (fun _ h9 => h9) rfl dX12_workLine_1 ?_
  refine lv_iconst (v := 4) hx hb dX12_workLine_4 (by decide) ?_
  refine va_iald hx hb hK hP 1 0 rfl rfl (zin rfl) dX12_workLine_5 ?_
  refine ztop (r := (fm 4)) rfl ?_
  refine lv_bipush (v := 6) hx hb dX12_workLine_6 (by decide) ?_
  refine lv_icmp_ne (tgt := 16) hx hb dX12_workLine_8 (by decide) (fun cb9 => ?_) (fun cb9 => ?_)
  · skip
    have c1 : ¬ (fm 4).toInt = 6 := zne cb9 rfl (by decide)
    have n2 : (fm 4).toInt ≤ 5 := zN2 c1 (rM4 rfm).2 (by decide)
    refine lv_aload_n hx hb dX12_workLine_16 rfl (lv_at hl 0 rfl) ?_
    refine lv_iconst (v := 1) hx hb dX12_workLine_17 (by decide) ?_
    refine lv_bipush (v := 99) hx hb dX12_workLine_18 (by decide) ?_
    have hL1 : (1 : Int32).toInt = 1 := by decide
    have hL99 : (99 : Int32).toInt = 99 := by decide
    refine mcallV' (g := g) (q0 := 0) (ci := 10) (As := [.int 1, .int 99]) (rest := []) St hK hT hA hP hD hS hl.1 [0] [] rfl rfl rfl (m_figuresF l g o a th hi ac tp en tA de iD iO tU fm fk fa fc ft ff fb fi 1 99 hen htA hde) (cwV 2 hts (zgL (zl4 k902 k903 k904 k839) k898) rfl rfl rfl (by decide +kernel) ⟨Nat.le_of_ble_eq_true rfl, Nat.le_of_ble_eq_true rfl⟩) rfl rfl rfl rfl (Nat.le_of_ble_eq_true rfl) dX12_workLine_20 ⟨(Nat.le_of_ble_eq_true rfl), (Nat.le_of_ble_eq_true rfl)⟩ (fun u_ H locs hq6 hP hD hS => ?_)
    obtain ⟨at2_3, fl2_4, r_5⟩ := u_
    replace hq6 : (0 ≤ at2_3.toInt ∧ at2_3.toInt ≤ en.toInt + 7 - de.toInt) ∧ (tA.toInt ≤ at2_3.toInt) ∧ (zNu ft en.toInt (zbg ft en.toInt tA.toInt) (1 : Int32).toInt (99 : Int32).toInt r_5 ∧ at2_3.toInt = znx ft en.toInt (zbg ft en.toInt tA.toInt) ∧ (-1) = fl2_4 ∨ fl2_4.toInt = zbg ft en.toInt tA.toInt ∧ ¬ ∃ v9, zNu ft en.toInt (zbg ft en.toInt tA.toInt) (1 : Int32).toInt (99 : Int32).toInt v9) := hq6
    have hP : va_P g.1 vwCl (List.flatten [bMo g o a th hi ac tp (-1) en at2_3 fl2_4 de iD iO tU fm fk fa fc ft ff fb fi]) H := hP
    have hD : va_D A (List.flatten [bMo g o a th hi ac tp (-1) en at2_3 fl2_4 de iD iO tU fm fk fa fc ft ff fb fi]) := hD
    refine W.widen (k := 0) (n := 0) (Nat.le_of_ble_eq_true rfl) (Nat.le_of_ble_eq_true rfl) ?_
    refine W.eq (g2 := F0 m 23 ls [.int r_5]) rfl ?_
    obtain ⟨hq6_0, hq6_1, hq6_2⟩ := hq6
    rcases hq6_2 with ⟨hq6_k, hq6_km, rfl⟩ | ⟨hq6_k, hq6_km⟩
    · skip
      have w7 : 1 ≤ r_5.toInt ∧ r_5.toInt ≤ 99 := ⟨(by have h9 := hq6_k.2.2.1; omega), (by have h9 := hq6_k.2.2.2; omega)⟩
      refine lv_istore_n (lv' := [(2, .int r_5), (0, .ref o), (1, .int b0)]) hx hb dX12_workLine_23 rfl hl (by decide) rfl (fun ls hl => ?_)
      refine lv_aload_n hx hb dX12_workLine_24 rfl (lv_at hl 1 rfl) ?_
      refine va_ldcS (q := g.2 66) hx hb hown (zra28 hT.2.1) dX12_workLine_25 ?_
      refine lv_iconst (v := 0) hx hb dX12_workLine_27 (by decide) ?_
      refine lv_sipush (v := 799) hx hb dX12_workLine_28 (by decide) ?_
      have hL0 : (0 : Int32).toInt = 0 := by decide
      have hL799 : (799 : Int32).toInt = 799 := by decide
      refine mcallV' (g := g) (q0 := 0) (ci := 10) (As := [.ref (g.2 66), .int 0, .int 799]) (rest := []) St hK hT hA hP hD hS hl.1 [0] [] rfl rfl rfl (m_afterF l g o a th hi ac tp en at2_3 de iD iO tU fm fk fa fc ft ff fb fi 0 799 (g.2 66) 28 zqa28 hen hq6_0 hde rfl zla28 zna28 (zlitB zla28)) (cwV 3 hts (zgL (zl4 k906 k907 k908 k839) k905) rfl rfl rfl (by decide +kernel) ⟨Nat.le_of_ble_eq_true rfl, Nat.le_of_ble_eq_true rfl⟩) rfl rfl rfl rfl (Nat.le_of_ble_eq_true rfl) dX12_workLine_31 ⟨(Nat.le_of_ble_eq_true rfl), (Nat.le_of_ble_eq_true rfl)⟩ (fun u_ H locs hq11 hP hD hS => ?_)
      obtain ⟨at2_8, fl2_9, r_10⟩ := u_
      replace hq11 : (0 ≤ at2_8.toInt ∧ at2_8.toInt ≤ en.toInt + 7 - de.toInt) ∧ (at2_3.toInt ≤ at2_8.toInt) ∧ (zisW ft en.toInt (zbg ft en.toInt at2_3.toInt) zqa28.2.2.2 ∧ zNu ft en.toInt (znt ft en.toInt (zbg ft en.toInt at2_3.toInt)) (0 : Int32).toInt (799 : Int32).toInt r_10 ∧ at2_8.toInt = znx ft en.toInt (znt ft en.toInt (zbg ft en.toInt at2_3.toInt)) ∧ (-1) = fl2_9 ∨ zisW ft en.toInt (zbg ft en.toInt at2_3.toInt) zqa28.2.2.2 ∧ (¬ ∃ v9, zNu ft en.toInt (znt ft en.toInt (zbg ft en.toInt at2_3.toInt)) (0 : Int32).toInt (799 : Int32).toInt v9) ∧ fl2_9.toInt = znt ft en.toInt (zbg ft en.toInt at2_3.toInt) ∨ ¬ zisW ft en.toInt (zbg ft en.toInt at2_3.toInt) zqa28.2.2.2 ∧ fl2_9.toInt = zbg ft en.toInt at2_3.toInt) := hq11
      have hP : va_P g.1 vwCl (List.flatten [bMo g o a th hi ac tp (-1) en at2_8 fl2_9 de iD iO tU fm fk fa fc ft ff fb fi]) H := hP
      have hD : va_D A (List.flatten [bMo g o a th hi ac tp (-1) en at2_8 fl2_9 de iD iO tU fm fk fa fc ft ff fb fi]) := hD
      refine W.widen (k := 0) (n := 0) (Nat.le_of_ble_eq_true rfl) (Nat.le_of_ble_eq_true rfl) ?_
      refine W.eq (g2 := F0 m 34 ls [.int r_10]) rfl ?_
      obtain ⟨hq11_0, hq11_1, hq11_2⟩ := hq11
      rcases hq11_2 with ⟨hq11_k, hq11_kn, hq11_km, rfl⟩ | ⟨hq11_k, hq11_kn, hq11_km⟩ | ⟨hq11_k, hq11_km⟩
      · skip
        have w12 : 0 ≤ r_10.toInt ∧ r_10.toInt ≤ 799 := ⟨(by have h9 := hq11_kn.2.2.1; omega), (by have h9 := hq11_kn.2.2.2; omega)⟩
        refine lv_istore_n (lv' := [(3, .int r_10), (2, .int r_5), (0, .ref o), (1, .int b0)]) hx hb dX12_workLine_34 rfl hl (by decide) rfl (fun ls hl => ?_)
        refine lv_aload_n hx hb dX12_workLine_35 rfl (lv_at hl 2 rfl) ?_
        refine va_ldcS (q := g.2 68) hx hb hown (zra29 hT.2.1) dX12_workLine_36 ?_
        refine lv_iconst (v := 0) hx hb dX12_workLine_38 (by decide) ?_
        refine lv_bipush (v := 20) hx hb dX12_workLine_39 (by decide) ?_
        have hL20 : (20 : Int32).toInt = 20 := by decide
        refine mcallV' (g := g) (q0 := 0) (ci := 10) (As := [.ref (g.2 68), .int 0, .int 20]) (rest := []) St hK hT hA hP hD hS hl.1 [0] [] rfl rfl rfl (m_afterF l g o a th hi ac tp en at2_8 de iD iO tU fm fk fa fc ft ff fb fi 0 20 (g.2 68) 29 zqa29 hen hq11_0 hde rfl zla29 zna29 (zlitB zla29)) (cwV 3 hts (zgL (zl4 k906 k907 k908 k839) k905) rfl rfl rfl (by decide +kernel) ⟨Nat.le_of_ble_eq_true rfl, Nat.le_of_ble_eq_true rfl⟩) rfl rfl rfl rfl (Nat.le_of_ble_eq_true rfl) dX12_workLine_41 ⟨(Nat.le_of_ble_eq_true rfl), (Nat.le_of_ble_eq_true rfl)⟩ (fun u_ H locs hq16 hP hD hS => ?_)
        obtain ⟨at2_13, fl2_14, r_15⟩ := u_
        replace hq16 : (0 ≤ at2_13.toInt ∧ at2_13.toInt ≤ en.toInt + 7 - de.toInt) ∧ (at2_8.toInt ≤ at2_13.toInt) ∧ (zisW ft en.toInt (zbg ft en.toInt at2_8.toInt) zqa29.2.2.2 ∧ zNu ft en.toInt (znt ft en.toInt (zbg ft en.toInt at2_8.toInt)) (0 : Int32).toInt (20 : Int32).toInt r_15 ∧ at2_13.toInt = znx ft en.toInt (znt ft en.toInt (zbg ft en.toInt at2_8.toInt)) ∧ (-1) = fl2_14 ∨ zisW ft en.toInt (zbg ft en.toInt at2_8.toInt) zqa29.2.2.2 ∧ (¬ ∃ v9, zNu ft en.toInt (znt ft en.toInt (zbg ft en.toInt at2_8.toInt)) (0 : Int32).toInt (20 : Int32).toInt v9) ∧ fl2_14.toInt = znt ft en.toInt (zbg ft en.toInt at2_8.toInt) ∨ ¬ zisW ft en.toInt (zbg ft en.toInt at2_8.toInt) zqa29.2.2.2 ∧ fl2_14.toInt = zbg ft en.toInt at2_8.toInt) := hq16
        have hP : va_P g.1 vwCl (List.flatten [bMo g o a th hi ac tp (-1) en at2_13 fl2_14 de iD iO tU fm fk fa fc ft ff fb fi]) H := hP
        have hD : va_D A (List.flatten [bMo g o a th hi ac tp (-1) en at2_13 fl2_14 de iD iO tU fm fk fa fc ft ff fb fi]) := hD
        refine W.widen (k := 0) (n := 0) (Nat.le_of_ble_eq_true rfl) (Nat.le_of_ble_eq_true rfl) ?_
        refine W.eq (g2 := F0 m 44 ls [.int r_15]) rfl ?_
        obtain ⟨hq16_0, hq16_1, hq16_2⟩ := hq16
        rcases hq16_2 with ⟨hq16_k, hq16_kn, hq16_km, rfl⟩ | ⟨hq16_k, hq16_kn, hq16_km⟩ | ⟨hq16_k, hq16_km⟩
        · skip
          have w17 : 0 ≤ r_15.toInt ∧ r_15.toInt ≤ 20 := ⟨(by have h9 := hq16_kn.2.2.1; omega), (by have h9 := hq16_kn.2.2.2; omega)⟩
          refine lv_istore (lv' := [(4, .int r_15), (3, .int r_10), (2, .int r_5), (0, .ref o), (1, .int b0)]) hx hb dX12_workLine_44 hl (by decide) rfl (fun ls hl => ?_)
          refine lv_aload_n hx hb dX12_workLine_46 rfl (lv_at hl 3 rfl) ?_
          refine va_get (D := g.1) (ci := 10) (v := .int (-1)) (C := RX12) (T := TX12) (N := 20) hx hb hts izRX12 hown hK hP 0 rfl rfl 12 (by decide) (hts _ k820) (fun _ h9 => h9) rfl dX12_workLine_47 ?_
          refine lv_iconst (v := (-1)) hx hb dX12_workLine_50 (by decide) ?_
          refine lv_icmp_eq (tgt := 55) hx hb dX12_workLine_51 (by decide) (fun _ => ?_) (fun c18 => absurd (by decide) c18)
          refine lv_aload_n hx hb dX12_workLine_55 rfl (lv_at hl 3 rfl) ?_
          refine va_get (D := g.1) (ci := 10) (v := .ref (a 0)) (C := RX12) (T := TX12) (N := 20) hx hb hts izRX12 hown hK hP 0 rfl rfl 1 (by decide) (hts _ k815) (fun _ h9 => h9) rfl dX12_workLine_56 ?_
          refine lv_iconst (v := 4) hx hb dX12_workLine_59 (by decide) ?_
          refine va_iald hx hb hK hP 1 0 rfl rfl (zin rfl) dX12_workLine_60 ?_
          refine ztop (r := (fm 4)) rfl ?_
          refine lv_istore (lv' := [(5, .int (fm 4)), (4, .int r_15), (3, .int r_10), (2, .int r_5), (0, .ref o), (1, .int b0)]) hx hb dX12_workLine_61 hl (by decide) rfl (fun ls hl => ?_)
          refine lv_aload_n hx hb dX12_workLine_63 rfl (lv_at hl 4 rfl) ?_
          refine lv_iload hx hb dX12_workLine_64 (lv_at hl 0 rfl) ?_
          refine lv_iconst (v := 0) hx hb dX12_workLine_66 (by decide) ?_
          refine lv_iload_n hx hb dX12_workLine_67 rfl (lv_at hl 3 rfl) ?_
          refine mcallV' (g := g) (q0 := 0) (ci := 10) (As := [.int (fm 4), .int 0, .int r_5]) (rest := []) St hK hT hA hP hD hS hl.1 [0] [] rfl rfl rfl (m_putW0F l g o a th hi ac tp (-1) en at2_13 (-1) de iD iO tU fm fk fa fc ft ff fb fi (fm 4) r_5 rfm (by first | assumption | omega | decide | exact Or.inl (by decide) | exact Or.inr (by decide))) (cwV 3 hts (zgL (zl4 k914 k915 k916 k839) k834) rfl rfl rfl (by decide +kernel) ⟨Nat.le_of_ble_eq_true rfl, Nat.le_of_ble_eq_true rfl⟩) rfl rfl rfl rfl (Nat.le_of_ble_eq_true rfl) dX12_workLine_68 ⟨(Nat.le_of_ble_eq_true rfl), (Nat.le_of_ble_eq_true rfl)⟩ (fun fm2_19 H locs hq20 hP hD hS => ?_)
          replace hq20 : (rM fm2_19) ∧ (fm2_19 = upd fm (115 + 4 * (fm 4).toInt.toNat) r_5) := hq20
          have hP : va_P g.1 vwCl (List.flatten [bMo g o a th hi ac tp (-1) en at2_13 (-1) de iD iO tU fm2_19 fk fa fc ft ff fb fi]) H := hP
          have hD : va_D A (List.flatten [bMo g o a th hi ac tp (-1) en at2_13 (-1) de iD iO tU fm2_19 fk fa fc ft ff fb fi]) := hD
          refine W.widen (k := 0) (n := 0) (Nat.le_of_ble_eq_true rfl) (Nat.le_of_ble_eq_true rfl) ?_
          refine W.eq (g2 := F0 m 71 ls []) rfl ?_
          obtain ⟨rfm2_19, hq20_1⟩ := hq20
          refine lv_aload_n hx hb dX12_workLine_71 rfl (lv_at hl 4 rfl) ?_
          refine lv_iload hx hb dX12_workLine_72 (lv_at hl 0 rfl) ?_
          refine lv_iconst (v := 1) hx hb dX12_workLine_74 (by decide) ?_
          refine lv_iload_n hx hb dX12_workLine_75 rfl (lv_at hl 2 rfl) ?_
          refine mcallV' (g := g) (q0 := 0) (ci := 10) (As := [.int (fm 4), .int 1, .int r_10]) (rest := []) St hK hT hA hP hD hS hl.1 [0] [] rfl rfl rfl (m_putW1F l g o a th hi ac tp (-1) en at2_13 (-1) de iD iO tU fm2_19 fk fa fc ft ff fb fi (fm 4) r_10 rfm2_19 (by first | assumption | omega | decide | exact Or.inl (by decide) | exact Or.inr (by decide))) (cwV 3 hts (zgL (zl4 k914 k915 k916 k839) k834) rfl rfl rfl (by decide +kernel) ⟨Nat.le_of_ble_eq_true rfl, Nat.le_of_ble_eq_true rfl⟩) rfl rfl rfl rfl (Nat.le_of_ble_eq_true rfl) dX12_workLine_76 ⟨(Nat.le_of_ble_eq_true rfl), (Nat.le_of_ble_eq_true rfl)⟩ (fun fm2_21 H locs hq22 hP hD hS => ?_)
          replace hq22 : (rM fm2_21) ∧ (fm2_21 = upd fm2_19 (116 + 4 * (fm 4).toInt.toNat) r_10) := hq22
          have hP : va_P g.1 vwCl (List.flatten [bMo g o a th hi ac tp (-1) en at2_13 (-1) de iD iO tU fm2_21 fk fa fc ft ff fb fi]) H := hP
          have hD : va_D A (List.flatten [bMo g o a th hi ac tp (-1) en at2_13 (-1) de iD iO tU fm2_21 fk fa fc ft ff fb fi]) := hD
          refine W.widen (k := 0) (n := 0) (Nat.le_of_ble_eq_true rfl) (Nat.le_of_ble_eq_true rfl) ?_
          refine W.eq (g2 := F0 m 79 ls []) rfl ?_
          obtain ⟨rfm2_21, hq22_1⟩ := hq22
          refine lv_aload_n hx hb dX12_workLine_79 rfl (lv_at hl 4 rfl) ?_
          refine lv_iload hx hb dX12_workLine_80 (lv_at hl 0 rfl) ?_
          refine lv_iconst (v := 2) hx hb dX12_workLine_82 (by decide) ?_
          refine lv_iload hx hb dX12_workLine_83 (lv_at hl 1 rfl) ?_
          refine mcallV' (g := g) (q0 := 0) (ci := 10) (As := [.int (fm 4), .int 2, .int r_15]) (rest := []) St hK hT hA hP hD hS hl.1 [0] [] rfl rfl rfl (m_putW2F l g o a th hi ac tp (-1) en at2_13 (-1) de iD iO tU fm2_21 fk fa fc ft ff fb fi (fm 4) r_15 rfm2_21 (by first | assumption | omega | decide | exact Or.inl (by decide) | exact Or.inr (by decide))) (cwV 3 hts (zgL (zl4 k914 k915 k916 k839) k834) rfl rfl rfl (by decide +kernel) ⟨Nat.le_of_ble_eq_true rfl, Nat.le_of_ble_eq_true rfl⟩) rfl rfl rfl rfl (Nat.le_of_ble_eq_true rfl) dX12_workLine_85 ⟨(Nat.le_of_ble_eq_true rfl), (Nat.le_of_ble_eq_true rfl)⟩ (fun fm2_23 H locs hq24 hP hD hS => ?_)
          replace hq24 : (rM fm2_23) ∧ (fm2_23 = upd fm2_21 (117 + 4 * (fm 4).toInt.toNat) r_15) := hq24
          have hP : va_P g.1 vwCl (List.flatten [bMo g o a th hi ac tp (-1) en at2_13 (-1) de iD iO tU fm2_23 fk fa fc ft ff fb fi]) H := hP
          have hD : va_D A (List.flatten [bMo g o a th hi ac tp (-1) en at2_13 (-1) de iD iO tU fm2_23 fk fa fc ft ff fb fi]) := hD
          refine W.widen (k := 0) (n := 0) (Nat.le_of_ble_eq_true rfl) (Nat.le_of_ble_eq_true rfl) ?_
          refine W.eq (g2 := F0 m 88 ls []) rfl ?_
          obtain ⟨rfm2_23, hq24_1⟩ := hq24
          refine lv_aload_n hx hb dX12_workLine_88 rfl (lv_at hl 4 rfl) ?_
          refine lv_iload hx hb dX12_workLine_89 (lv_at hl 0 rfl) ?_
          refine lv_iconst (v := 3) hx hb dX12_workLine_91 (by decide) ?_
          refine lv_iconst (v := 0) hx hb dX12_workLine_92 (by decide) ?_
          refine mcallV' (g := g) (q0 := 0) (ci := 10) (As := [.int (fm 4), .int 3, .int 0]) (rest := []) St hK hT hA hP hD hS hl.1 [0] [] rfl rfl rfl (m_putW3F l g o a th hi ac tp (-1) en at2_13 (-1) de iD iO tU fm2_23 fk fa fc ft ff fb fi (fm 4) 0 rfm2_23 (by first | assumption | omega | decide | exact Or.inl (by decide) | exact Or.inr (by decide))) (cwV 3 hts (zgL (zl4 k914 k915 k916 k839) k834) rfl rfl rfl (by decide +kernel) ⟨Nat.le_of_ble_eq_true rfl, Nat.le_of_ble_eq_true rfl⟩) rfl rfl rfl rfl (Nat.le_of_ble_eq_true rfl) dX12_workLine_93 ⟨(Nat.le_of_ble_eq_true rfl), (Nat.le_of_ble_eq_true rfl)⟩ (fun fm2_25 H locs hq26 hP hD hS => ?_)
          replace hq26 : (rM fm2_25) ∧ (fm2_25 = upd fm2_23 (118 + 4 * (fm 4).toInt.toNat) 0) := hq26
          have hP : va_P g.1 vwCl (List.flatten [bMo g o a th hi ac tp (-1) en at2_13 (-1) de iD iO tU fm2_25 fk fa fc ft ff fb fi]) H := hP
          have hD : va_D A (List.flatten [bMo g o a th hi ac tp (-1) en at2_13 (-1) de iD iO tU fm2_25 fk fa fc ft ff fb fi]) := hD
          refine W.widen (k := 0) (n := 0) (Nat.le_of_ble_eq_true rfl) (Nat.le_of_ble_eq_true rfl) ?_
          refine W.eq (g2 := F0 m 96 ls []) rfl ?_
          obtain ⟨rfm2_25, hq26_1⟩ := hq26
          refine lv_aload_n hx hb dX12_workLine_96 rfl (lv_at hl 4 rfl) ?_
          refine va_get (D := g.1) (ci := 10) (v := .ref (a 0)) (C := RX12) (T := TX12) (N := 20) hx hb hts izRX12 hown hK hP 0 rfl rfl 1 (by decide) (hts _ k815) (fun _ h9 => h9) rfl dX12_workLine_97 ?_
          refine lv_iconst (v := 4) hx hb dX12_workLine_100 (by decide) ?_
          refine lv_dup2_11 hx hb dX12_workLine_101 rfl rfl ?_
          refine va_iald hx hb hK hP 1 0 rfl rfl (zin rfl) dX12_workLine_102 ?_
          refine ztop (r := (fm 4)) (by show fm2_25 4 = (fm 4); rw [hq26_1]; refine Eq.trans (pk_un (by omega)) ?_; rw [hq24_1]; refine Eq.trans (pk_un (by omega)) ?_; rw [hq22_1]; refine Eq.trans (pk_un (by omega)) ?_; rw [hq20_1]; refine Eq.trans (pk_un (by omega)) ?_; exact rfl) ?_
          refine lv_iconst (v := 1) hx hb dX12_workLine_103 (by decide) ?_
          refine lv_iadd hx hb dX12_workLine_104 ?_
          refine va_iast hx hb hK hP hD hS 1 0 rfl rfl (zin rfl) dX12_workLine_105 (fun H locs hP hD hS => ?_)
          obtain ⟨fm_27, rfm_27, efm_27, hP, hD⟩ : ∃ fm_27 : Nat → Int32, rM fm_27 ∧ fm_27 = upd fm2_25 4 ((fm 4) + 1) ∧ va_P g.1 vwCl (List.flatten [bMo g o a th hi ac tp (-1) en at2_13 (-1) de iD iO tU fm_27 fk fa fc ft ff fb fi]) H ∧ va_D A (List.flatten [bMo g o a th hi ac tp (-1) en at2_13 (-1) de iD iO tU fm_27 fk fa fc ft ff fb fi]) := ⟨upd fm2_25 4 ((fm 4) + 1), (rM_s4 rfm2_25 (show 0 ≤ ((fm 4) + 1).toInt ∧ ((fm 4) + 1).toInt ≤ 6 from (by omega))), rfl, hP, hD⟩
          have hfm_27_0 : (fm_27 0).toInt = (fm 0).toInt := by rw [efm_27, pk_un (by omega), hq26_1, pk_un (by omega), hq24_1, pk_un (by omega), hq22_1, pk_un (by omega), hq20_1, pk_un (by omega)]
          have hfm_27_3 : (fm_27 3).toInt = (fm 3).toInt := by rw [efm_27, pk_un (by omega), hq26_1, pk_un (by omega), hq24_1, pk_un (by omega), hq22_1, pk_un (by omega), hq20_1, pk_un (by omega)]
          have hfm_27_4 : (fm_27 4).toInt = (fm 4).toInt + 1 := by rw [efm_27, pk_us]; exact zpe1 (by omega)
          have hP : va_P g.1 vwCl (List.flatten [bMo g o a th hi ac tp (-1) en at2_13 (-1) de iD iO tU fm_27 fk fa fc ft ff fb fi]) H := hP
          have hD : va_D A (List.flatten [bMo g o a th hi ac tp (-1) en at2_13 (-1) de iD iO tU fm_27 fk fa fc ft ff fb fi]) := hD
          exact mret_v hx hb hr hlocks hS (Nat.le_of_ble_eq_true rfl) (Nat.le_of_ble_eq_true rfl) dX12_workLine_106 (at2_13, -1, fm_27) rfl (show (rM fm_27) ∧ (0 ≤ at2_13.toInt ∧ at2_13.toInt ≤ en.toInt + 7 - de.toInt) ∧ (tA.toInt ≤ at2_13.toInt) ∧ ((fm_27 0).toInt = (fm 0).toInt) ∧ (zTgm fm fm_27) ∧ ((-1) = (-1) ∧ zTO (zTWork ft en.toInt (fm 4).toInt b0.toInt) (zbg ft en.toInt at2_13.toInt) (fm 3).toInt (fm_27 3).toInt (fm 4).toInt (fm_27 4).toInt ∧ zTQ (zTWork ft en.toInt (fm 4).toInt b0.toInt) ft (zbg ft en.toInt at2_13.toInt) (zSm fm) (zSm fm_27) ∨ 0 ≤ ((-1) : Int32).toInt ∧ zTWork ft en.toInt (fm 4).toInt b0.toInt (.bad ((-1) : Int32).toInt)) from ⟨(by first | assumption | omega | exact Or.inl (by decide) | exact Or.inr (by omega) | decide), (by first | assumption | omega | exact Or.inl (by decide) | exact Or.inr (by omega) | decide), (by first | assumption | omega | exact Or.inl (by decide) | exact Or.inr (by omega) | decide), (by first | assumption | omega | exact Or.inl (by decide) | exact Or.inr (by omega) | decide), (zTg_u (zTg_u (zTg_u (zTg_u (zTg_u (zTg_r _) hq20_1 (by omega)) hq22_1 (by omega)) hq24_1 (by omega)) hq26_1 (by omega)) efm_27 (by omega)), (Or.inl ⟨rfl, ⟨(1, r_5.toInt, r_10.toInt, r_15.toInt), zTW_iM (by omega) (zNN_yM (by decide) (by decide) (zNu_b (zNt_b hat) hq6_k) (show zW1 _ _ _ _ _ _ from zW1_yM (zW_b (zNt_b (hq6_km.trans (congrArg (znx ft en.toInt) (zNt_b hat).symm))) hq11_k) (show zNN _ _ _ _ _ _ _ from zNN_yM (by decide) (by decide) (zNu_b (congrArg (znt ft en.toInt) (zNt_b (hq6_km.trans (congrArg (znx ft en.toInt) (zNt_b hat).symm)))) hq11_kn) (show zW1 _ _ _ _ _ _ from zW1_yM (zW_b (zNt_b (hq11_km.trans (congrArg (znx ft en.toInt) (congrArg (znt ft en.toInt) (zNt_b (hq6_km.trans (congrArg (znx ft en.toInt) (zNt_b hat).symm)))).symm))) hq16_k) (show zNN _ _ _ _ _ _ _ from zNN_yM (by decide) (by decide) (zNu_b (congrArg (znt ft en.toInt) (zNt_b (hq11_km.trans (congrArg (znx ft en.toInt) (congrArg (znt ft en.toInt) (zNt_b (hq6_km.trans (congrArg (znx ft en.toInt) (zNt_b hat).symm)))).symm)))) hq16_kn) (show zKw5 _ _ _ _ _ from congrArg (fun q9 => zTs.ok q9 _) (zNt_b (hq16_km.trans (congrArg (znx ft en.toInt) (congrArg (znt ft en.toInt) (zNt_b (hq11_km.trans (congrArg (znx ft en.toInt) (congrArg (znt ft en.toInt) (zNt_b (hq6_km.trans (congrArg (znx ft en.toInt) (zNt_b hat).symm)))).symm)))).symm))).symm)))))), zcp_n (by decide) (by omega), zcw_y (by omega)⟩, ⟨(1, r_5.toInt, r_10.toInt, r_15.toInt), zTW_iM (by omega) (zNN_yM (by decide) (by decide) (zNu_b (zNt_b hat) hq6_k) (show zW1 _ _ _ _ _ _ from zW1_yM (zW_b (zNt_b (hq6_km.trans (congrArg (znx ft en.toInt) (zNt_b hat).symm))) hq11_k) (show zNN _ _ _ _ _ _ _ from zNN_yM (by decide) (by decide) (zNu_b (congrArg (znt ft en.toInt) (zNt_b (hq6_km.trans (congrArg (znx ft en.toInt) (zNt_b hat).symm)))) hq11_kn) (show zW1 _ _ _ _ _ _ from zW1_yM (zW_b (zNt_b (hq11_km.trans (congrArg (znx ft en.toInt) (congrArg (znt ft en.toInt) (zNt_b (hq6_km.trans (congrArg (znx ft en.toInt) (zNt_b hat).symm)))).symm))) hq16_k) (show zNN _ _ _ _ _ _ _ from zNN_yM (by decide) (by decide) (zNu_b (congrArg (znt ft en.toInt) (zNt_b (hq11_km.trans (congrArg (znx ft en.toInt) (congrArg (znt ft en.toInt) (zNt_b (hq6_km.trans (congrArg (znx ft en.toInt) (zNt_b hat).symm)))).symm)))) hq16_kn) (show zKw5 _ _ _ _ _ from congrArg (fun q9 => zTs.ok q9 _) (zNt_b (hq16_km.trans (congrArg (znx ft en.toInt) (congrArg (znt ft en.toInt) (zNt_b (hq11_km.trans (congrArg (znx ft en.toInt) (congrArg (znt ft en.toInt) (zNt_b (hq6_km.trans (congrArg (znx ft en.toInt) (zNt_b hat).symm)))).symm)))).symm))).symm)))))), zSm_5 (by omega) rfl (zoi _) (zoi _) (zoi _) hq20_1 hq22_1 hq24_1 hq26_1 efm_27⟩⟩)⟩) hP hD
        · skip
          have w28 : 0 ≤ fl2_14.toInt := zB0 hq16_km
          refine lv_istore (lv' := [(4, .int r_15), (3, .int r_10), (2, .int r_5), (0, .ref o), (1, .int b0)]) hx hb dX12_workLine_44 hl (by decide) rfl (fun ls hl => ?_)
          refine lv_aload_n hx hb dX12_workLine_46 rfl (lv_at hl 3 rfl) ?_
          refine va_get (D := g.1) (ci := 10) (v := .int fl2_14) (C := RX12) (T := TX12) (N := 20) hx hb hts izRX12 hown hK hP 0 rfl rfl 12 (by decide) (hts _ k820) (fun _ h9 => h9) rfl dX12_workLine_47 ?_
          refine lv_iconst (v := (-1)) hx hb dX12_workLine_50 (by decide) ?_
          refine lv_icmp_eq (tgt := 55) hx hb dX12_workLine_51 (by decide) (fun cb9 => ?_) (fun cb9 => ?_)
          · skip
            exact absurd (show fl2_14.toInt = (-1) from zeq cb9 rfl (by decide)) (zDeq2 (a := 0) (b := (-1)) w28 (Int.le_refl _) (by decide))
          · skip
            have c30 : ¬ fl2_14.toInt = (-1) := zne cb9 rfl (by decide)
            have hP : va_P g.1 vwCl (List.flatten [bMo g o a th hi ac tp (-1) en at2_13 fl2_14 de iD iO tU fm fk fa fc ft ff fb fi]) H := hP
            have hD : va_D A (List.flatten [bMo g o a th hi ac tp (-1) en at2_13 fl2_14 de iD iO tU fm fk fa fc ft ff fb fi]) := hD
            exact mret_v hx hb hr hlocks hS (Nat.le_of_ble_eq_true rfl) (Nat.le_of_ble_eq_true rfl) dX12_workLine_54 (at2_13, fl2_14, fm) rfl (show (rM fm) ∧ (0 ≤ at2_13.toInt ∧ at2_13.toInt ≤ en.toInt + 7 - de.toInt) ∧ (tA.toInt ≤ at2_13.toInt) ∧ ((fm 0).toInt = (fm 0).toInt) ∧ (zTgm fm fm) ∧ ((-1) = fl2_14 ∧ zTO (zTWork ft en.toInt (fm 4).toInt b0.toInt) (zbg ft en.toInt at2_13.toInt) (fm 3).toInt (fm 3).toInt (fm 4).toInt (fm 4).toInt ∧ zTQ (zTWork ft en.toInt (fm 4).toInt b0.toInt) ft (zbg ft en.toInt at2_13.toInt) (zSm fm) (zSm fm) ∨ 0 ≤ fl2_14.toInt ∧ zTWork ft en.toInt (fm 4).toInt b0.toInt (.bad fl2_14.toInt)) from ⟨(by first | assumption | omega | exact Or.inl (by decide) | exact Or.inr (by omega) | decide), (by first | assumption | omega | exact Or.inl (by decide) | exact Or.inr (by omega) | decide), (by first | assumption | omega | exact Or.inl (by decide) | exact Or.inr (by omega) | decide), (by first | assumption | omega | exact Or.inl (by decide) | exact Or.inr (by omega) | decide), (zTg_r _), (Or.inr ⟨(by omega), zTW_iM (by omega) (zNN_yM (by decide) (by decide) (zNu_b (zNt_b hat) hq6_k) (show zW1 _ _ _ _ _ _ from zW1_yM (zW_b (zNt_b (hq6_km.trans (congrArg (znx ft en.toInt) (zNt_b hat).symm))) hq11_k) (show zNN _ _ _ _ _ _ _ from zNN_yM (by decide) (by decide) (zNu_b (congrArg (znt ft en.toInt) (zNt_b (hq6_km.trans (congrArg (znx ft en.toInt) (zNt_b hat).symm)))) hq11_kn) (show zW1 _ _ _ _ _ _ from zW1_yM (zW_b (zNt_b (hq11_km.trans (congrArg (znx ft en.toInt) (congrArg (znt ft en.toInt) (zNt_b (hq6_km.trans (congrArg (znx ft en.toInt) (zNt_b hat).symm)))).symm))) hq16_k) (show zNN _ _ _ _ _ _ _ from zNN_bM (by decide) (by decide) (zNn_b (congrArg (znt ft en.toInt) (zNt_b (hq11_km.trans (congrArg (znx ft en.toInt) (congrArg (znt ft en.toInt) (zNt_b (hq6_km.trans (congrArg (znx ft en.toInt) (zNt_b hat).symm)))).symm)))) hq16_kn) (hq16_km.trans (congrArg (znt ft en.toInt) (zNt_b (hq11_km.trans (congrArg (znx ft en.toInt) (congrArg (znt ft en.toInt) (zNt_b (hq6_km.trans (congrArg (znx ft en.toInt) (zNt_b hat).symm)))).symm)))).symm))))))⟩)⟩) hP hD
        · skip
          have w31 : 0 ≤ fl2_14.toInt := zB0 hq16_km
          refine lv_istore (lv' := [(4, .int r_15), (3, .int r_10), (2, .int r_5), (0, .ref o), (1, .int b0)]) hx hb dX12_workLine_44 hl (by decide) rfl (fun ls hl => ?_)
          refine lv_aload_n hx hb dX12_workLine_46 rfl (lv_at hl 3 rfl) ?_
          refine va_get (D := g.1) (ci := 10) (v := .int fl2_14) (C := RX12) (T := TX12) (N := 20) hx hb hts izRX12 hown hK hP 0 rfl rfl 12 (by decide) (hts _ k820) (fun _ h9 => h9) rfl dX12_workLine_47 ?_
          refine lv_iconst (v := (-1)) hx hb dX12_workLine_50 (by decide) ?_
          refine lv_icmp_eq (tgt := 55) hx hb dX12_workLine_51 (by decide) (fun cb9 => ?_) (fun cb9 => ?_)
          · skip
            exact absurd (show fl2_14.toInt = (-1) from zeq cb9 rfl (by decide)) (zDeq2 (a := 0) (b := (-1)) w31 (Int.le_refl _) (by decide))
          · skip
            have c33 : ¬ fl2_14.toInt = (-1) := zne cb9 rfl (by decide)
            have hP : va_P g.1 vwCl (List.flatten [bMo g o a th hi ac tp (-1) en at2_13 fl2_14 de iD iO tU fm fk fa fc ft ff fb fi]) H := hP
            have hD : va_D A (List.flatten [bMo g o a th hi ac tp (-1) en at2_13 fl2_14 de iD iO tU fm fk fa fc ft ff fb fi]) := hD
            exact mret_v hx hb hr hlocks hS (Nat.le_of_ble_eq_true rfl) (Nat.le_of_ble_eq_true rfl) dX12_workLine_54 (at2_13, fl2_14, fm) rfl (show (rM fm) ∧ (0 ≤ at2_13.toInt ∧ at2_13.toInt ≤ en.toInt + 7 - de.toInt) ∧ (tA.toInt ≤ at2_13.toInt) ∧ ((fm 0).toInt = (fm 0).toInt) ∧ (zTgm fm fm) ∧ ((-1) = fl2_14 ∧ zTO (zTWork ft en.toInt (fm 4).toInt b0.toInt) (zbg ft en.toInt at2_13.toInt) (fm 3).toInt (fm 3).toInt (fm 4).toInt (fm 4).toInt ∧ zTQ (zTWork ft en.toInt (fm 4).toInt b0.toInt) ft (zbg ft en.toInt at2_13.toInt) (zSm fm) (zSm fm) ∨ 0 ≤ fl2_14.toInt ∧ zTWork ft en.toInt (fm 4).toInt b0.toInt (.bad fl2_14.toInt)) from ⟨(by first | assumption | omega | exact Or.inl (by decide) | exact Or.inr (by omega) | decide), (by first | assumption | omega | exact Or.inl (by decide) | exact Or.inr (by omega) | decide), (by first | assumption | omega | exact Or.inl (by decide) | exact Or.inr (by omega) | decide), (by first | assumption | omega | exact Or.inl (by decide) | exact Or.inr (by omega) | decide), (zTg_r _), (Or.inr ⟨(by omega), zTW_iM (by omega) (zNN_yM (by decide) (by decide) (zNu_b (zNt_b hat) hq6_k) (show zW1 _ _ _ _ _ _ from zW1_yM (zW_b (zNt_b (hq6_km.trans (congrArg (znx ft en.toInt) (zNt_b hat).symm))) hq11_k) (show zNN _ _ _ _ _ _ _ from zNN_yM (by decide) (by decide) (zNu_b (congrArg (znt ft en.toInt) (zNt_b (hq6_km.trans (congrArg (znx ft en.toInt) (zNt_b hat).symm)))) hq11_kn) (show zW1 _ _ _ _ _ _ from zW1_n (hq16_km.trans (zNt_b (hq11_km.trans (congrArg (znx ft en.toInt) (congrArg (znt ft en.toInt) (zNt_b (hq6_km.trans (congrArg (znx ft en.toInt) (zNt_b hat).symm)))).symm))).symm) (zWn_b (zNt_b (hq11_km.trans (congrArg (znx ft en.toInt) (congrArg (znt ft en.toInt) (zNt_b (hq6_km.trans (congrArg (znx ft en.toInt) (zNt_b hat).symm)))).symm))) hq16_k)))))⟩)⟩) hP hD
      · skip
        have w34 : 0 ≤ fl2_9.toInt := zB0 hq11_km
        refine lv_istore_n (lv' := [(3, .int r_10), (2, .int r_5), (0, .ref o), (1, .int b0)]) hx hb dX12_workLine_34 rfl hl (by decide) rfl (fun ls hl => ?_)
        refine lv_aload_n hx hb dX12_workLine_35 rfl (lv_at hl 2 rfl) ?_
        refine va_ldcS (q := g.2 68) hx hb hown (zra29 hT.2.1) dX12_workLine_36 ?_
        refine lv_iconst (v := 0) hx hb dX12_workLine_38 (by decide) ?_
        refine lv_bipush (v := 20) hx hb dX12_workLine_39 (by decide) ?_
        refine mcallV' (g := g) (q0 := 0) (ci := 10) (As := [.ref (g.2 68), .int 0, .int 20]) (rest := []) St hK hT hA hP hD hS hl.1 [0] [] rfl rfl rfl (m_afterX l g o a th hi ac tp en at2_8 fl2_9 de iD iO tU fm fk fa fc ft ff fb fi 0 20 (g.2 68) 29 zqa29 hen hq11_0 hde w34 rfl zla29 zna29 (zlitB zla29)) (cwV 3 hts (zgL (zl4 k906 k907 k908 k839) k905) rfl rfl rfl (by decide +kernel) ⟨Nat.le_of_ble_eq_true rfl, Nat.le_of_ble_eq_true rfl⟩) rfl rfl rfl rfl (Nat.le_of_ble_eq_true rfl) dX12_workLine_41 ⟨(Nat.le_of_ble_eq_true rfl), (Nat.le_of_ble_eq_true rfl)⟩ (fun _u H locs hq35 hP hD hS => ?_)
        have hP : va_P g.1 vwCl (List.flatten [bMo g o a th hi ac tp (-1) en at2_8 fl2_9 de iD iO tU fm fk fa fc ft ff fb fi]) H := hP
        have hD : va_D A (List.flatten [bMo g o a th hi ac tp (-1) en at2_8 fl2_9 de iD iO tU fm fk fa fc ft ff fb fi]) := hD
        refine W.widen (k := 0) (n := 0) (Nat.le_of_ble_eq_true rfl) (Nat.le_of_ble_eq_true rfl) ?_
        refine W.eq (g2 := F0 m 44 ls [.int 0]) rfl ?_
        refine lv_istore (lv' := [(4, .int 0), (3, .int r_10), (2, .int r_5), (0, .ref o), (1, .int b0)]) hx hb dX12_workLine_44 hl (by decide) rfl (fun ls hl => ?_)
        refine lv_aload_n hx hb dX12_workLine_46 rfl (lv_at hl 3 rfl) ?_
        refine va_get (D := g.1) (ci := 10) (v := .int fl2_9) (C := RX12) (T := TX12) (N := 20) hx hb hts izRX12 hown hK hP 0 rfl rfl 12 (by decide) (hts _ k820) (fun _ h9 => h9) rfl dX12_workLine_47 ?_
        refine lv_iconst (v := (-1)) hx hb dX12_workLine_50 (by decide) ?_
        refine lv_icmp_eq (tgt := 55) hx hb dX12_workLine_51 (by decide) (fun cb9 => ?_) (fun cb9 => ?_)
        · skip
          exact absurd (show fl2_9.toInt = (-1) from zeq cb9 rfl (by decide)) (zDeq2 (a := 0) (b := (-1)) w34 (Int.le_refl _) (by decide))
        · skip
          have c37 : ¬ fl2_9.toInt = (-1) := zne cb9 rfl (by decide)
          have hP : va_P g.1 vwCl (List.flatten [bMo g o a th hi ac tp (-1) en at2_8 fl2_9 de iD iO tU fm fk fa fc ft ff fb fi]) H := hP
          have hD : va_D A (List.flatten [bMo g o a th hi ac tp (-1) en at2_8 fl2_9 de iD iO tU fm fk fa fc ft ff fb fi]) := hD
          exact mret_v hx hb hr hlocks hS (Nat.le_of_ble_eq_true rfl) (Nat.le_of_ble_eq_true rfl) dX12_workLine_54 (at2_8, fl2_9, fm) rfl (show (rM fm) ∧ (0 ≤ at2_8.toInt ∧ at2_8.toInt ≤ en.toInt + 7 - de.toInt) ∧ (tA.toInt ≤ at2_8.toInt) ∧ ((fm 0).toInt = (fm 0).toInt) ∧ (zTgm fm fm) ∧ ((-1) = fl2_9 ∧ zTO (zTWork ft en.toInt (fm 4).toInt b0.toInt) (zbg ft en.toInt at2_8.toInt) (fm 3).toInt (fm 3).toInt (fm 4).toInt (fm 4).toInt ∧ zTQ (zTWork ft en.toInt (fm 4).toInt b0.toInt) ft (zbg ft en.toInt at2_8.toInt) (zSm fm) (zSm fm) ∨ 0 ≤ fl2_9.toInt ∧ zTWork ft en.toInt (fm 4).toInt b0.toInt (.bad fl2_9.toInt)) from ⟨(by first | assumption | omega | exact Or.inl (by decide) | exact Or.inr (by omega) | decide), (by first | assumption | omega | exact Or.inl (by decide) | exact Or.inr (by omega) | decide), (by first | assumption | omega | exact Or.inl (by decide) | exact Or.inr (by omega) | decide), (by first | assumption | omega | exact Or.inl (by decide) | exact Or.inr (by omega) | decide), (zTg_r _), (Or.inr ⟨(by omega), zTW_iM (by omega) (zNN_yM (by decide) (by decide) (zNu_b (zNt_b hat) hq6_k) (show zW1 _ _ _ _ _ _ from zW1_yM (zW_b (zNt_b (hq6_km.trans (congrArg (znx ft en.toInt) (zNt_b hat).symm))) hq11_k) (show zNN _ _ _ _ _ _ _ from zNN_bM (by decide) (by decide) (zNn_b (congrArg (znt ft en.toInt) (zNt_b (hq6_km.trans (congrArg (znx ft en.toInt) (zNt_b hat).symm)))) hq11_kn) (hq11_km.trans (congrArg (znt ft en.toInt) (zNt_b (hq6_km.trans (congrArg (znx ft en.toInt) (zNt_b hat).symm)))).symm))))⟩)⟩) hP hD
      · skip
        have w38 : 0 ≤ fl2_9.toInt := zB0 hq11_km
        refine lv_istore_n (lv' := [(3, .int r_10), (2, .int r_5), (0, .ref o), (1, .int b0)]) hx hb dX12_workLine_34 rfl hl (by decide) rfl (fun ls hl => ?_)
        refine lv_aload_n hx hb dX12_workLine_35 rfl (lv_at hl 2 rfl) ?_
        refine va_ldcS (q := g.2 68) hx hb hown (zra29 hT.2.1) dX12_workLine_36 ?_
        refine lv_iconst (v := 0) hx hb dX12_workLine_38 (by decide) ?_
        refine lv_bipush (v := 20) hx hb dX12_workLine_39 (by decide) ?_
        refine mcallV' (g := g) (q0 := 0) (ci := 10) (As := [.ref (g.2 68), .int 0, .int 20]) (rest := []) St hK hT hA hP hD hS hl.1 [0] [] rfl rfl rfl (m_afterX l g o a th hi ac tp en at2_8 fl2_9 de iD iO tU fm fk fa fc ft ff fb fi 0 20 (g.2 68) 29 zqa29 hen hq11_0 hde w38 rfl zla29 zna29 (zlitB zla29)) (cwV 3 hts (zgL (zl4 k906 k907 k908 k839) k905) rfl rfl rfl (by decide +kernel) ⟨Nat.le_of_ble_eq_true rfl, Nat.le_of_ble_eq_true rfl⟩) rfl rfl rfl rfl (Nat.le_of_ble_eq_true rfl) dX12_workLine_41 ⟨(Nat.le_of_ble_eq_true rfl), (Nat.le_of_ble_eq_true rfl)⟩ (fun _u H locs hq39 hP hD hS => ?_)
        have hP : va_P g.1 vwCl (List.flatten [bMo g o a th hi ac tp (-1) en at2_8 fl2_9 de iD iO tU fm fk fa fc ft ff fb fi]) H := hP
        have hD : va_D A (List.flatten [bMo g o a th hi ac tp (-1) en at2_8 fl2_9 de iD iO tU fm fk fa fc ft ff fb fi]) := hD
        refine W.widen (k := 0) (n := 0) (Nat.le_of_ble_eq_true rfl) (Nat.le_of_ble_eq_true rfl) ?_
        refine W.eq (g2 := F0 m 44 ls [.int 0]) rfl ?_
        refine lv_istore (lv' := [(4, .int 0), (3, .int r_10), (2, .int r_5), (0, .ref o), (1, .int b0)]) hx hb dX12_workLine_44 hl (by decide) rfl (fun ls hl => ?_)
        refine lv_aload_n hx hb dX12_workLine_46 rfl (lv_at hl 3 rfl) ?_
        refine va_get (D := g.1) (ci := 10) (v := .int fl2_9) (C := RX12) (T := TX12) (N := 20) hx hb hts izRX12 hown hK hP 0 rfl rfl 12 (by decide) (hts _ k820) (fun _ h9 => h9) rfl dX12_workLine_47 ?_
        refine lv_iconst (v := (-1)) hx hb dX12_workLine_50 (by decide) ?_
        refine lv_icmp_eq (tgt := 55) hx hb dX12_workLine_51 (by decide) (fun cb9 => ?_) (fun cb9 => ?_)
        · skip
          exact absurd (show fl2_9.toInt = (-1) from zeq cb9 rfl (by decide)) (zDeq2 (a := 0) (b := (-1)) w38 (Int.le_refl _) (by decide))
        · skip
          have c41 : ¬ fl2_9.toInt = (-1) := zne cb9 rfl (by decide)
          have hP : va_P g.1 vwCl (List.flatten [bMo g o a th hi ac tp (-1) en at2_8 fl2_9 de iD iO tU fm fk fa fc ft ff fb fi]) H := hP
          have hD : va_D A (List.flatten [bMo g o a th hi ac tp (-1) en at2_8 fl2_9 de iD iO tU fm fk fa fc ft ff fb fi]) := hD
          exact mret_v hx hb hr hlocks hS (Nat.le_of_ble_eq_true rfl) (Nat.le_of_ble_eq_true rfl) dX12_workLine_54 (at2_8, fl2_9, fm) rfl (show (rM fm) ∧ (0 ≤ at2_8.toInt ∧ at2_8.toInt ≤ en.toInt + 7 - de.toInt) ∧ (tA.toInt ≤ at2_8.toInt) ∧ ((fm 0).toInt = (fm 0).toInt) ∧ (zTgm fm fm) ∧ ((-1) = fl2_9 ∧ zTO (zTWork ft en.toInt (fm 4).toInt b0.toInt) (zbg ft en.toInt at2_8.toInt) (fm 3).toInt (fm 3).toInt (fm 4).toInt (fm 4).toInt ∧ zTQ (zTWork ft en.toInt (fm 4).toInt b0.toInt) ft (zbg ft en.toInt at2_8.toInt) (zSm fm) (zSm fm) ∨ 0 ≤ fl2_9.toInt ∧ zTWork ft en.toInt (fm 4).toInt b0.toInt (.bad fl2_9.toInt)) from ⟨(by first | assumption | omega | exact Or.inl (by decide) | exact Or.inr (by omega) | decide), (by first | assumption | omega | exact Or.inl (by decide) | exact Or.inr (by omega) | decide), (by first | assumption | omega | exact Or.inl (by decide) | exact Or.inr (by omega) | decide), (by first | assumption | omega | exact Or.inl (by decide) | exact Or.inr (by omega) | decide), (zTg_r _), (Or.inr ⟨(by omega), zTW_iM (by omega) (zNN_yM (by decide) (by decide) (zNu_b (zNt_b hat) hq6_k) (show zW1 _ _ _ _ _ _ from zW1_n (hq11_km.trans (zNt_b (hq6_km.trans (congrArg (znx ft en.toInt) (zNt_b hat).symm))).symm) (zWn_b (zNt_b (hq6_km.trans (congrArg (znx ft en.toInt) (zNt_b hat).symm))) hq11_k)))⟩)⟩) hP hD
    · skip
      have w42 : 0 ≤ fl2_4.toInt := zB0 hq6_k
      refine lv_istore_n (lv' := [(2, .int r_5), (0, .ref o), (1, .int b0)]) hx hb dX12_workLine_23 rfl hl (by decide) rfl (fun ls hl => ?_)
      refine lv_aload_n hx hb dX12_workLine_24 rfl (lv_at hl 1 rfl) ?_
      refine va_ldcS (q := g.2 66) hx hb hown (zra28 hT.2.1) dX12_workLine_25 ?_
      refine lv_iconst (v := 0) hx hb dX12_workLine_27 (by decide) ?_
      refine lv_sipush (v := 799) hx hb dX12_workLine_28 (by decide) ?_
      refine mcallV' (g := g) (q0 := 0) (ci := 10) (As := [.ref (g.2 66), .int 0, .int 799]) (rest := []) St hK hT hA hP hD hS hl.1 [0] [] rfl rfl rfl (m_afterX l g o a th hi ac tp en at2_3 fl2_4 de iD iO tU fm fk fa fc ft ff fb fi 0 799 (g.2 66) 28 zqa28 hen hq6_0 hde w42 rfl zla28 zna28 (zlitB zla28)) (cwV 3 hts (zgL (zl4 k906 k907 k908 k839) k905) rfl rfl rfl (by decide +kernel) ⟨Nat.le_of_ble_eq_true rfl, Nat.le_of_ble_eq_true rfl⟩) rfl rfl rfl rfl (Nat.le_of_ble_eq_true rfl) dX12_workLine_31 ⟨(Nat.le_of_ble_eq_true rfl), (Nat.le_of_ble_eq_true rfl)⟩ (fun _u H locs hq43 hP hD hS => ?_)
      have hP : va_P g.1 vwCl (List.flatten [bMo g o a th hi ac tp (-1) en at2_3 fl2_4 de iD iO tU fm fk fa fc ft ff fb fi]) H := hP
      have hD : va_D A (List.flatten [bMo g o a th hi ac tp (-1) en at2_3 fl2_4 de iD iO tU fm fk fa fc ft ff fb fi]) := hD
      refine W.widen (k := 0) (n := 0) (Nat.le_of_ble_eq_true rfl) (Nat.le_of_ble_eq_true rfl) ?_
      refine W.eq (g2 := F0 m 34 ls [.int 0]) rfl ?_
      refine lv_istore_n (lv' := [(3, .int 0), (2, .int r_5), (0, .ref o), (1, .int b0)]) hx hb dX12_workLine_34 rfl hl (by decide) rfl (fun ls hl => ?_)
      refine lv_aload_n hx hb dX12_workLine_35 rfl (lv_at hl 2 rfl) ?_
      refine va_ldcS (q := g.2 68) hx hb hown (zra29 hT.2.1) dX12_workLine_36 ?_
      refine lv_iconst (v := 0) hx hb dX12_workLine_38 (by decide) ?_
      refine lv_bipush (v := 20) hx hb dX12_workLine_39 (by decide) ?_
      refine mcallV' (g := g) (q0 := 0) (ci := 10) (As := [.ref (g.2 68), .int 0, .int 20]) (rest := []) St hK hT hA hP hD hS hl.1 [0] [] rfl rfl rfl (m_afterX l g o a th hi ac tp en at2_3 fl2_4 de iD iO tU fm fk fa fc ft ff fb fi 0 20 (g.2 68) 29 zqa29 hen hq6_0 hde w42 rfl zla29 zna29 (zlitB zla29)) (cwV 3 hts (zgL (zl4 k906 k907 k908 k839) k905) rfl rfl rfl (by decide +kernel) ⟨Nat.le_of_ble_eq_true rfl, Nat.le_of_ble_eq_true rfl⟩) rfl rfl rfl rfl (Nat.le_of_ble_eq_true rfl) dX12_workLine_41 ⟨(Nat.le_of_ble_eq_true rfl), (Nat.le_of_ble_eq_true rfl)⟩ (fun _u H locs hq44 hP hD hS => ?_)
      have hP : va_P g.1 vwCl (List.flatten [bMo g o a th hi ac tp (-1) en at2_3 fl2_4 de iD iO tU fm fk fa fc ft ff fb fi]) H := hP
      have hD : va_D A (List.flatten [bMo g o a th hi ac tp (-1) en at2_3 fl2_4 de iD iO tU fm fk fa fc ft ff fb fi]) := hD
      refine W.widen (k := 0) (n := 0) (Nat.le_of_ble_eq_true rfl) (Nat.le_of_ble_eq_true rfl) ?_
      refine W.eq (g2 := F0 m 44 ls [.int 0]) rfl ?_
      refine lv_istore (lv' := [(4, .int 0), (3, .int 0), (2, .int r_5), (0, .ref o), (1, .int b0)]) hx hb dX12_workLine_44 hl (by decide) rfl (fun ls hl => ?_)
      refine lv_aload_n hx hb dX12_workLine_46 rfl (lv_at hl 3 rfl) ?_
      refine va_get (D := g.1) (ci := 10) (v := .int fl2_4) (C := RX12) (T := TX12) (N := 20) hx hb hts izRX12 hown hK hP 0 rfl rfl 12 (by decide) (hts _ k820) (fun _ h9 => h9) rfl dX12_workLine_47 ?_
      refine lv_iconst (v := (-1)) hx hb dX12_workLine_50 (by decide) ?_
      refine lv_icmp_eq (tgt := 55) hx hb dX12_workLine_51 (by decide) (fun cb9 => ?_) (fun cb9 => ?_)
      · skip
        exact absurd (show fl2_4.toInt = (-1) from zeq cb9 rfl (by decide)) (zDeq2 (a := 0) (b := (-1)) w42 (Int.le_refl _) (by decide))
      · skip
        have c46 : ¬ fl2_4.toInt = (-1) := zne cb9 rfl (by decide)
        have hP : va_P g.1 vwCl (List.flatten [bMo g o a th hi ac tp (-1) en at2_3 fl2_4 de iD iO tU fm fk fa fc ft ff fb fi]) H := hP
        have hD : va_D A (List.flatten [bMo g o a th hi ac tp (-1) en at2_3 fl2_4 de iD iO tU fm fk fa fc ft ff fb fi]) := hD
        exact mret_v hx hb hr hlocks hS (Nat.le_of_ble_eq_true rfl) (Nat.le_of_ble_eq_true rfl) dX12_workLine_54 (at2_3, fl2_4, fm) rfl (show (rM fm) ∧ (0 ≤ at2_3.toInt ∧ at2_3.toInt ≤ en.toInt + 7 - de.toInt) ∧ (tA.toInt ≤ at2_3.toInt) ∧ ((fm 0).toInt = (fm 0).toInt) ∧ (zTgm fm fm) ∧ ((-1) = fl2_4 ∧ zTO (zTWork ft en.toInt (fm 4).toInt b0.toInt) (zbg ft en.toInt at2_3.toInt) (fm 3).toInt (fm 3).toInt (fm 4).toInt (fm 4).toInt ∧ zTQ (zTWork ft en.toInt (fm 4).toInt b0.toInt) ft (zbg ft en.toInt at2_3.toInt) (zSm fm) (zSm fm) ∨ 0 ≤ fl2_4.toInt ∧ zTWork ft en.toInt (fm 4).toInt b0.toInt (.bad fl2_4.toInt)) from ⟨(by first | assumption | omega | exact Or.inl (by decide) | exact Or.inr (by omega) | decide), (by first | assumption | omega | exact Or.inl (by decide) | exact Or.inr (by omega) | decide), (by first | assumption | omega | exact Or.inl (by decide) | exact Or.inr (by omega) | decide), (by first | assumption | omega | exact Or.inl (by decide) | exact Or.inr (by omega) | decide), (zTg_r _), (Or.inr ⟨(by omega), zTW_iM (by omega) (zNN_bM (by decide) (by decide) (zNn_b (zNt_b hat) hq6_km) (hq6_k.trans (zNt_b hat).symm))⟩)⟩) hP hD
  · skip
    have c47 : (fm 4).toInt = 6 := zeq cb9 rfl (by decide)
    have n48 : 6 ≤ (fm 4).toInt := Int.le_trans (Int.le_refl _) (Int.le_of_eq c47.symm)
    refine lv_aload_n hx hb dX12_workLine_11 rfl (lv_at hl 0 rfl) ?_
    refine lv_iload_n hx hb dX12_workLine_12 rfl (lv_at hl 1 rfl) ?_
    refine mcallV' (g := g) (q0 := 0) (ci := 10) (As := [.int b0]) (rest := []) St hK hT hA hP hD hS hl.1 [0] [] rfl rfl rfl (m_wrongF l g o a th hi ac tp (-1) en tA de iD iO tU fm fk fa fc ft ff fb fi b0 ) (cwV 1 hts (zgL (zl4 k895 k896 k897 k839) k890) rfl rfl rfl (by decide +kernel) ⟨Nat.le_of_ble_eq_true rfl, Nat.le_of_ble_eq_true rfl⟩) rfl rfl rfl rfl (Nat.le_of_ble_eq_true rfl) dX12_workLine_13 ⟨(Nat.le_of_ble_eq_true rfl), (Nat.le_of_ble_eq_true rfl)⟩ (fun _u H locs hq49 hP hD hS => ?_)
    have hP : va_P g.1 vwCl (List.flatten [bMo g o a th hi ac tp (-1) en tA b0 de iD iO tU fm fk fa fc ft ff fb fi]) H := hP
    have hD : va_D A (List.flatten [bMo g o a th hi ac tp (-1) en tA b0 de iD iO tU fm fk fa fc ft ff fb fi]) := hD
    refine W.widen (k := 0) (n := 0) (Nat.le_of_ble_eq_true rfl) (Nat.le_of_ble_eq_true rfl) ?_
    refine W.eq (g2 := F0 m 16 ls []) rfl ?_
    refine lv_aload_n hx hb dX12_workLine_16 rfl (lv_at hl 0 rfl) ?_
    refine lv_iconst (v := 1) hx hb dX12_workLine_17 (by decide) ?_
    refine lv_bipush (v := 99) hx hb dX12_workLine_18 (by decide) ?_
    refine mcallV' (g := g) (q0 := 0) (ci := 10) (As := [.int 1, .int 99]) (rest := []) St hK hT hA hP hD hS hl.1 [0] [] rfl rfl rfl (m_figuresX l g o a th hi ac tp en tA b0 de iD iO tU fm fk fa fc ft ff fb fi 1 99 hen htA hde hb0) (cwV 2 hts (zgL (zl4 k902 k903 k904 k839) k898) rfl rfl rfl (by decide +kernel) ⟨Nat.le_of_ble_eq_true rfl, Nat.le_of_ble_eq_true rfl⟩) rfl rfl rfl rfl (Nat.le_of_ble_eq_true rfl) dX12_workLine_20 ⟨(Nat.le_of_ble_eq_true rfl), (Nat.le_of_ble_eq_true rfl)⟩ (fun _u H locs hq50 hP hD hS => ?_)
    have hP : va_P g.1 vwCl (List.flatten [bMo g o a th hi ac tp (-1) en tA b0 de iD iO tU fm fk fa fc ft ff fb fi]) H := hP
    have hD : va_D A (List.flatten [bMo g o a th hi ac tp (-1) en tA b0 de iD iO tU fm fk fa fc ft ff fb fi]) := hD
    refine W.widen (k := 0) (n := 0) (Nat.le_of_ble_eq_true rfl) (Nat.le_of_ble_eq_true rfl) ?_
    refine W.eq (g2 := F0 m 23 ls [.int 0]) rfl ?_
    refine lv_istore_n (lv' := [(2, .int 0), (0, .ref o), (1, .int b0)]) hx hb dX12_workLine_23 rfl hl (by decide) rfl (fun ls hl => ?_)
    refine lv_aload_n hx hb dX12_workLine_24 rfl (lv_at hl 1 rfl) ?_
    refine va_ldcS (q := g.2 66) hx hb hown (zra28 hT.2.1) dX12_workLine_25 ?_
    refine lv_iconst (v := 0) hx hb dX12_workLine_27 (by decide) ?_
    refine lv_sipush (v := 799) hx hb dX12_workLine_28 (by decide) ?_
    refine mcallV' (g := g) (q0 := 0) (ci := 10) (As := [.ref (g.2 66), .int 0, .int 799]) (rest := []) St hK hT hA hP hD hS hl.1 [0] [] rfl rfl rfl (m_afterX l g o a th hi ac tp en tA b0 de iD iO tU fm fk fa fc ft ff fb fi 0 799 (g.2 66) 28 zqa28 hen htA hde hb0 rfl zla28 zna28 (zlitB zla28)) (cwV 3 hts (zgL (zl4 k906 k907 k908 k839) k905) rfl rfl rfl (by decide +kernel) ⟨Nat.le_of_ble_eq_true rfl, Nat.le_of_ble_eq_true rfl⟩) rfl rfl rfl rfl (Nat.le_of_ble_eq_true rfl) dX12_workLine_31 ⟨(Nat.le_of_ble_eq_true rfl), (Nat.le_of_ble_eq_true rfl)⟩ (fun _u H locs hq51 hP hD hS => ?_)
    have hP : va_P g.1 vwCl (List.flatten [bMo g o a th hi ac tp (-1) en tA b0 de iD iO tU fm fk fa fc ft ff fb fi]) H := hP
    have hD : va_D A (List.flatten [bMo g o a th hi ac tp (-1) en tA b0 de iD iO tU fm fk fa fc ft ff fb fi]) := hD
    refine W.widen (k := 0) (n := 0) (Nat.le_of_ble_eq_true rfl) (Nat.le_of_ble_eq_true rfl) ?_
    refine W.eq (g2 := F0 m 34 ls [.int 0]) rfl ?_
    refine lv_istore_n (lv' := [(3, .int 0), (2, .int 0), (0, .ref o), (1, .int b0)]) hx hb dX12_workLine_34 rfl hl (by decide) rfl (fun ls hl => ?_)
    refine lv_aload_n hx hb dX12_workLine_35 rfl (lv_at hl 2 rfl) ?_
    refine va_ldcS (q := g.2 68) hx hb hown (zra29 hT.2.1) dX12_workLine_36 ?_
    refine lv_iconst (v := 0) hx hb dX12_workLine_38 (by decide) ?_
    refine lv_bipush (v := 20) hx hb dX12_workLine_39 (by decide) ?_
    refine mcallV' (g := g) (q0 := 0) (ci := 10) (As := [.ref (g.2 68), .int 0, .int 20]) (rest := []) St hK hT hA hP hD hS hl.1 [0] [] rfl rfl rfl (m_afterX l g o a th hi ac tp en tA b0 de iD iO tU fm fk fa fc ft ff fb fi 0 20 (g.2 68) 29 zqa29 hen htA hde hb0 rfl zla29 zna29 (zlitB zla29)) (cwV 3 hts (zgL (zl4 k906 k907 k908 k839) k905) rfl rfl rfl (by decide +kernel) ⟨Nat.le_of_ble_eq_true rfl, Nat.le_of_ble_eq_true rfl⟩) rfl rfl rfl rfl (Nat.le_of_ble_eq_true rfl) dX12_workLine_41 ⟨(Nat.le_of_ble_eq_true rfl), (Nat.le_of_ble_eq_true rfl)⟩ (fun _u H locs hq52 hP hD hS => ?_)
    have hP : va_P g.1 vwCl (List.flatten [bMo g o a th hi ac tp (-1) en tA b0 de iD iO tU fm fk fa fc ft ff fb fi]) H := hP
    have hD : va_D A (List.flatten [bMo g o a th hi ac tp (-1) en tA b0 de iD iO tU fm fk fa fc ft ff fb fi]) := hD
    refine W.widen (k := 0) (n := 0) (Nat.le_of_ble_eq_true rfl) (Nat.le_of_ble_eq_true rfl) ?_
    refine W.eq (g2 := F0 m 44 ls [.int 0]) rfl ?_
    refine lv_istore (lv' := [(4, .int 0), (3, .int 0), (2, .int 0), (0, .ref o), (1, .int b0)]) hx hb dX12_workLine_44 hl (by decide) rfl (fun ls hl => ?_)
    refine lv_aload_n hx hb dX12_workLine_46 rfl (lv_at hl 3 rfl) ?_
    refine va_get (D := g.1) (ci := 10) (v := .int b0) (C := RX12) (T := TX12) (N := 20) hx hb hts izRX12 hown hK hP 0 rfl rfl 12 (by decide) (hts _ k820) (fun _ h9 => h9) rfl dX12_workLine_47 ?_
    refine lv_iconst (v := (-1)) hx hb dX12_workLine_50 (by decide) ?_
    refine lv_icmp_eq (tgt := 55) hx hb dX12_workLine_51 (by decide) (fun cb9 => ?_) (fun cb9 => ?_)
    · skip
      exact absurd (show b0.toInt = (-1) from zeq cb9 rfl (by decide)) (zDeq2 (a := 0) (b := (-1)) hb0 (Int.le_refl _) (by decide))
    · skip
      have c54 : ¬ b0.toInt = (-1) := zne cb9 rfl (by decide)
      have hP : va_P g.1 vwCl (List.flatten [bMo g o a th hi ac tp (-1) en tA b0 de iD iO tU fm fk fa fc ft ff fb fi]) H := hP
      have hD : va_D A (List.flatten [bMo g o a th hi ac tp (-1) en tA b0 de iD iO tU fm fk fa fc ft ff fb fi]) := hD
      exact mret_v hx hb hr hlocks hS (Nat.le_of_ble_eq_true rfl) (Nat.le_of_ble_eq_true rfl) dX12_workLine_54 (tA, b0, fm) rfl (show (rM fm) ∧ (0 ≤ tA.toInt ∧ tA.toInt ≤ en.toInt + 7 - de.toInt) ∧ (tA.toInt ≤ tA.toInt) ∧ ((fm 0).toInt = (fm 0).toInt) ∧ (zTgm fm fm) ∧ ((-1) = b0 ∧ zTO (zTWork ft en.toInt (fm 4).toInt b0.toInt) (zbg ft en.toInt tA.toInt) (fm 3).toInt (fm 3).toInt (fm 4).toInt (fm 4).toInt ∧ zTQ (zTWork ft en.toInt (fm 4).toInt b0.toInt) ft (zbg ft en.toInt tA.toInt) (zSm fm) (zSm fm) ∨ 0 ≤ b0.toInt ∧ zTWork ft en.toInt (fm 4).toInt b0.toInt (.bad b0.toInt)) from ⟨(by first | assumption | omega | exact Or.inl (by decide) | exact Or.inr (by omega) | decide), (by first | assumption | omega | exact Or.inl (by decide) | exact Or.inr (by omega) | decide), (by first | assumption | omega | exact Or.inl (by decide) | exact Or.inr (by omega) | decide), (by first | assumption | omega | exact Or.inl (by decide) | exact Or.inr (by omega) | decide), (zTg_r _), (Or.inr ⟨(by omega), zTW_f (by omega) rfl⟩)⟩) hP hD
set_option maxRecDepth 100000 in
set_option maxHeartbeats 4000000 in
theorem m_tellsG (l : Launch) (g : zG) (o : Nat) (a : Nat → Nat) (th : Int32) (hi : Int32) (ac : Int32) (tp : Int32) (en : Int32) (tA : Int32) (de : Int32) (iD : Int32) (iO : Int32) (tU : Int32) (fm : Nat → Int32) (fk : Nat → Int32) (fa : Nat → Int32) (fc : Nat → Int32) (ft : Nat → Int32) (ff : Nat → Int32) (fb : Nat → Int32) (fi : Nat → Int32) (wh : Int32) (lw : Int32) (hg : Int32) (rfm : rM fm) (hen : 0 ≤ en.toInt ∧ en.toInt ≤ 400) (htA : 0 ≤ tA.toInt ∧ tA.toInt ≤ en.toInt + 7 - de.toInt) (hde : 0 ≤ de.toInt ∧ de.toInt ≤ 6) (hwh : 5 ≤ wh.toInt ∧ wh.toInt ≤ 50 ∧ ¬ wh.toInt = 9 ∧ ¬ wh.toInt = 10) : zM' g l yX12_tells (Cond.code yX12_tells cX12_tells 5 none :: zB) ({ frames := 4, cells := 0, slots := 0, locals := 85 } : Room) [.ref o, .int wh, .int lw, .int hg] [bMo g o a th hi ac tp (-1) en tA (-1) de iD iO tU fm fk fa fc ft ff fb fi] (fun u : Int32 × Int32 × (Nat → Int32) => (fun (at2 : Int32) (fl2 : Int32) (fm2 : Nat → Int32) => none) (u.1) (u.2.1) (u.2.2)) (fun u : Int32 × Int32 × (Nat → Int32) => (fun (at2 : Int32) (fl2 : Int32) (fm2 : Nat → Int32) => (rM fm2) ∧ (0 ≤ at2.toInt ∧ at2.toInt ≤ en.toInt + 7 - de.toInt) ∧ (tA.toInt ≤ at2.toInt) ∧ ((fm2 0).toInt = (fm 0).toInt ∧ (fm2 3).toInt = (fm 3).toInt ∧ (fm2 4).toInt = (fm 4).toInt) ∧ (zTgm fm fm2) ∧ ((-1) = fl2 ∧ (∃ v9, zNu ft en.toInt (zbg ft en.toInt tA.toInt) lw.toInt hg.toInt v9) ∧ at2.toInt = znx ft en.toInt (zbg ft en.toInt tA.toInt) ∧ (∃ v9, zNu ft en.toInt (zbg ft en.toInt tA.toInt) lw.toInt hg.toInt v9 ∧ fm2 = upd fm wh.toInt.toNat v9) ∨ fl2.toInt = zbg ft en.toInt tA.toInt ∧ ¬ ∃ v9, zNu ft en.toInt (zbg ft en.toInt tA.toInt) lw.toInt hg.toInt v9)) (u.1) (u.2.1) (u.2.2)) (fun u : Int32 × Int32 × (Nat → Int32) => (fun (at2 : Int32) (fl2 : Int32) (fm2 : Nat → Int32) => [bMo g o a th hi ac tp (-1) en at2 fl2 de iD iO tU fm2 fk fa fc ft ff fb fi]) (u.1) (u.2.1) (u.2.2)) := by
  refine zM'.of (cc := cX12_tells) (maxL := 5) (rt := none) (by decide) rfl (Nat.le_of_ble_eq_true rfl) ?_
  intro p e s m args below meth c A ls St hr hlocks hin hK hT hA hP hD hS hl
  obtain ⟨hx, hb, hml, hown, hts⟩ := id St
  have hl : lv_has ls 5 [(0, .ref o), (1, .int wh), (2, .int lw), (3, .int hg)] := hl
  refine lv_aload_n hx hb dX12_tells_0 rfl (lv_at hl 0 rfl) ?_
  refine lv_iload_n hx hb dX12_tells_1 rfl (lv_at hl 2 rfl) ?_
  refine lv_iload_n hx hb dX12_tells_2 rfl (lv_at hl 3 rfl) ?_
  refine mcallV' (g := g) (q0 := 0) (ci := 10) (As := [.int lw, .int hg]) (rest := []) St hK hT hA hP hD hS hl.1 [0] [] rfl rfl rfl (m_figuresF l g o a th hi ac tp en tA de iD iO tU fm fk fa fc ft ff fb fi lw hg hen htA hde) (cwV 2 hts (zgL (zl4 k902 k903 k904 k839) k898) rfl rfl rfl (by decide +kernel) ⟨Nat.le_of_ble_eq_true rfl, Nat.le_of_ble_eq_true rfl⟩) rfl rfl rfl rfl (Nat.le_of_ble_eq_true rfl) dX12_tells_3 ⟨(Nat.le_of_ble_eq_true rfl), (Nat.le_of_ble_eq_true rfl)⟩ (fun u_ H locs hq4 hP hD hS => ?_)
  obtain ⟨at2_1, fl2_2, r_3⟩ := u_
  replace hq4 : (0 ≤ at2_1.toInt ∧ at2_1.toInt ≤ en.toInt + 7 - de.toInt) ∧ (tA.toInt ≤ at2_1.toInt) ∧ (zNu ft en.toInt (zbg ft en.toInt tA.toInt) lw.toInt hg.toInt r_3 ∧ at2_1.toInt = znx ft en.toInt (zbg ft en.toInt tA.toInt) ∧ (-1) = fl2_2 ∨ fl2_2.toInt = zbg ft en.toInt tA.toInt ∧ ¬ ∃ v9, zNu ft en.toInt (zbg ft en.toInt tA.toInt) lw.toInt hg.toInt v9) := hq4
  have hP : va_P g.1 vwCl (List.flatten [bMo g o a th hi ac tp (-1) en at2_1 fl2_2 de iD iO tU fm fk fa fc ft ff fb fi]) H := hP
  have hD : va_D A (List.flatten [bMo g o a th hi ac tp (-1) en at2_1 fl2_2 de iD iO tU fm fk fa fc ft ff fb fi]) := hD
  refine W.widen (k := 0) (n := 0) (Nat.le_of_ble_eq_true rfl) (Nat.le_of_ble_eq_true rfl) ?_
  refine W.eq (g2 := F0 m 6 ls [.int r_3]) rfl ?_
  obtain ⟨hq4_0, hq4_1, hq4_2⟩ := hq4
  rcases hq4_2 with ⟨hq4_k, hq4_km, rfl⟩ | ⟨hq4_k, hq4_km⟩
  · skip
    refine lv_istore (lv' := [(4, .int r_3), (0, .ref o), (1, .int wh), (2, .int lw), (3, .int hg)]) hx hb dX12_tells_6 hl (by decide) rfl (fun ls hl => ?_)
    refine lv_aload_n hx hb dX12_tells_8 rfl (lv_at hl 1 rfl) ?_
    refine va_get (D := g.1) (ci := 10) (v := .int (-1)) (C := RX12) (T := TX12) (N := 20) hx hb hts izRX12 hown hK hP 0 rfl rfl 12 (by decide) (hts _ k820) (fun _ h9 => h9) rfl dX12_tells_9 ?_
    refine lv_iconst (v := (-1)) hx hb dX12_tells_12 (by decide) ?_
    refine lv_icmp_ne (tgt := 24) hx hb dX12_tells_13 (by decide) (fun c6 => absurd (by decide) c6) (fun _ => ?_)
    refine lv_aload_n hx hb dX12_tells_16 rfl (lv_at hl 1 rfl) ?_
    refine va_get (D := g.1) (ci := 10) (v := .ref (a 0)) (C := RX12) (T := TX12) (N := 20) hx hb hts izRX12 hown hK hP 0 rfl rfl 1 (by decide) (hts _ k815) (fun _ h9 => h9) rfl dX12_tells_17 ?_
    refine lv_iload_n hx hb dX12_tells_20 rfl (lv_at hl 2 rfl) ?_
    refine lv_iload hx hb dX12_tells_21 (lv_at hl 0 rfl) ?_
    refine va_iast hx hb hK hP hD hS 1 0 rfl rfl (zinI (by omega) (by omega)) dX12_tells_23 (fun H locs hP hD hS => ?_)
    obtain ⟨fm_7, rfm_7, efm_7, hP, hD⟩ : ∃ fm_7 : Nat → Int32, rM fm_7 ∧ fm_7 = upd fm wh.toInt.toNat r_3 ∧ va_P g.1 vwCl (List.flatten [bMo g o a th hi ac tp (-1) en at2_1 (-1) de iD iO tU fm_7 fk fa fc ft ff fb fi]) H ∧ va_D A (List.flatten [bMo g o a th hi ac tp (-1) en at2_1 (-1) de iD iO tU fm_7 fk fa fc ft ff fb fi]) := ⟨upd fm wh.toNatClampNeg r_3, (rM_st (j := wh.toInt) (w := r_3.toInt) rfm rfl rfl (by omega)), rfl, hP, hD⟩
    have hfm_7_0 : (fm_7 0).toInt = (fm 0).toInt := by rw [efm_7, pk_un (by omega)]
    have hfm_7_3 : (fm_7 3).toInt = (fm 3).toInt := by rw [efm_7, pk_un (by omega)]
    have hfm_7_4 : (fm_7 4).toInt = (fm 4).toInt := by rw [efm_7, pk_un (by omega)]
    have hP : va_P g.1 vwCl (List.flatten [bMo g o a th hi ac tp (-1) en at2_1 (-1) de iD iO tU fm_7 fk fa fc ft ff fb fi]) H := hP
    have hD : va_D A (List.flatten [bMo g o a th hi ac tp (-1) en at2_1 (-1) de iD iO tU fm_7 fk fa fc ft ff fb fi]) := hD
    exact mret_v hx hb hr hlocks hS (Nat.le_of_ble_eq_true rfl) (Nat.le_of_ble_eq_true rfl) dX12_tells_24 (at2_1, -1, fm_7) rfl (show (rM fm_7) ∧ (0 ≤ at2_1.toInt ∧ at2_1.toInt ≤ en.toInt + 7 - de.toInt) ∧ (tA.toInt ≤ at2_1.toInt) ∧ ((fm_7 0).toInt = (fm 0).toInt ∧ (fm_7 3).toInt = (fm 3).toInt ∧ (fm_7 4).toInt = (fm 4).toInt) ∧ (zTgm fm fm_7) ∧ ((-1) = (-1) ∧ (∃ v9, zNu ft en.toInt (zbg ft en.toInt tA.toInt) lw.toInt hg.toInt v9) ∧ at2_1.toInt = znx ft en.toInt (zbg ft en.toInt tA.toInt) ∧ (∃ v9, zNu ft en.toInt (zbg ft en.toInt tA.toInt) lw.toInt hg.toInt v9 ∧ fm_7 = upd fm wh.toInt.toNat v9) ∨ ((-1) : Int32).toInt = zbg ft en.toInt tA.toInt ∧ ¬ ∃ v9, zNu ft en.toInt (zbg ft en.toInt tA.toInt) lw.toInt hg.toInt v9) from ⟨(by first | assumption | omega | exact Or.inl (by decide) | exact Or.inr (by omega) | decide), (by first | assumption | omega | exact Or.inl (by decide) | exact Or.inr (by omega) | decide), (by first | assumption | omega | exact Or.inl (by decide) | exact Or.inr (by omega) | decide), (by first | assumption | omega | exact Or.inl (by decide) | exact Or.inr (by omega) | decide), (zTg_u (zTg_r _) efm_7 (by omega)), (Or.inl ⟨rfl, ⟨_, hq4_k⟩, hq4_km, ⟨_, hq4_k, efm_7⟩⟩)⟩) hP hD
  · skip
    refine lv_istore (lv' := [(4, .int r_3), (0, .ref o), (1, .int wh), (2, .int lw), (3, .int hg)]) hx hb dX12_tells_6 hl (by decide) rfl (fun ls hl => ?_)
    have w8 : 0 ≤ fl2_2.toInt := zB0 hq4_k
    refine lv_aload_n hx hb dX12_tells_8 rfl (lv_at hl 1 rfl) ?_
    refine va_get (D := g.1) (ci := 10) (v := .int fl2_2) (C := RX12) (T := TX12) (N := 20) hx hb hts izRX12 hown hK hP 0 rfl rfl 12 (by decide) (hts _ k820) (fun _ h9 => h9) rfl dX12_tells_9 ?_
    refine lv_iconst (v := (-1)) hx hb dX12_tells_12 (by decide) ?_
    refine lv_icmp_ne (tgt := 24) hx hb dX12_tells_13 (by decide) (fun cb9 => ?_) (fun cb9 => ?_)
    · skip
      have c9 : ¬ fl2_2.toInt = (-1) := zne cb9 rfl (by decide)
      have hP : va_P g.1 vwCl (List.flatten [bMo g o a th hi ac tp (-1) en at2_1 fl2_2 de iD iO tU fm fk fa fc ft ff fb fi]) H := hP
      have hD : va_D A (List.flatten [bMo g o a th hi ac tp (-1) en at2_1 fl2_2 de iD iO tU fm fk fa fc ft ff fb fi]) := hD
      exact mret_v hx hb hr hlocks hS (Nat.le_of_ble_eq_true rfl) (Nat.le_of_ble_eq_true rfl) dX12_tells_24 (at2_1, fl2_2, fm) rfl (show (rM fm) ∧ (0 ≤ at2_1.toInt ∧ at2_1.toInt ≤ en.toInt + 7 - de.toInt) ∧ (tA.toInt ≤ at2_1.toInt) ∧ ((fm 0).toInt = (fm 0).toInt ∧ (fm 3).toInt = (fm 3).toInt ∧ (fm 4).toInt = (fm 4).toInt) ∧ (zTgm fm fm) ∧ ((-1) = fl2_2 ∧ (∃ v9, zNu ft en.toInt (zbg ft en.toInt tA.toInt) lw.toInt hg.toInt v9) ∧ at2_1.toInt = znx ft en.toInt (zbg ft en.toInt tA.toInt) ∧ (∃ v9, zNu ft en.toInt (zbg ft en.toInt tA.toInt) lw.toInt hg.toInt v9 ∧ fm = upd fm wh.toInt.toNat v9) ∨ fl2_2.toInt = zbg ft en.toInt tA.toInt ∧ ¬ ∃ v9, zNu ft en.toInt (zbg ft en.toInt tA.toInt) lw.toInt hg.toInt v9) from ⟨(by first | assumption | omega | exact Or.inl (by decide) | exact Or.inr (by omega) | decide), (by first | assumption | omega | exact Or.inl (by decide) | exact Or.inr (by omega) | decide), (by first | assumption | omega | exact Or.inl (by decide) | exact Or.inr (by omega) | decide), (by first | assumption | omega | exact Or.inl (by decide) | exact Or.inr (by omega) | decide), (zTg_r _), (Or.inr ⟨hq4_k, hq4_km⟩)⟩) hP hD
    · skip
      exact absurd (show fl2_2.toInt = (-1) from zeq cb9 rfl (by decide)) (zDeq2 (a := 0) (b := (-1)) w8 (Int.le_refl _) (by decide))
set_option maxRecDepth 100000 in
set_option maxHeartbeats 4000000 in
theorem m_trustsLineG (l : Launch) (g : zG) (o : Nat) (a : Nat → Nat) (th : Int32) (hi : Int32) (ac : Int32) (tp : Int32) (en : Int32) (tA : Int32) (de : Int32) (iD : Int32) (iO : Int32) (tU : Int32) (fm : Nat → Int32) (fk : Nat → Int32) (fa : Nat → Int32) (fc : Nat → Int32) (ft : Nat → Int32) (ff : Nat → Int32) (fb : Nat → Int32) (fi : Nat → Int32) (rfm : rM fm) (hen : 0 ≤ en.toInt ∧ en.toInt ≤ 400) (htA : 0 ≤ tA.toInt ∧ tA.toInt ≤ en.toInt + 7 - de.toInt) (hde : 0 ≤ de.toInt ∧ de.toInt ≤ 6) : zM' g l yX12_trustsLine (Cond.code yX12_trustsLine cX12_trustsLine 5 none :: zB) ({ frames := 4, cells := 0, slots := 0, locals := 85 } : Room) [.ref o] [bMo g o a th hi ac tp (-1) en tA (-1) de iD iO tU fm fk fa fc ft ff fb fi] (fun u : Int32 × Int32 × (Nat → Int32) => (fun (at2 : Int32) (fl2 : Int32) (fm2 : Nat → Int32) => none) (u.1) (u.2.1) (u.2.2)) (fun u : Int32 × Int32 × (Nat → Int32) => (fun (at2 : Int32) (fl2 : Int32) (fm2 : Nat → Int32) => (rM fm2) ∧ (0 ≤ at2.toInt ∧ at2.toInt ≤ en.toInt + 7 - de.toInt) ∧ (tA.toInt ≤ at2.toInt) ∧ ((fm2 0).toInt = (fm 0).toInt) ∧ (zTgm fm fm2) ∧ ((-1) = fl2 ∧ zTO (zKtr ft en.toInt (fm 3).toInt (zbg ft en.toInt tA.toInt)) (zbg ft en.toInt at2.toInt) (fm 3).toInt (fm2 3).toInt (fm 4).toInt (fm2 4).toInt ∧ zTQ (zKtr ft en.toInt (fm 3).toInt (zbg ft en.toInt tA.toInt)) ft (zbg ft en.toInt at2.toInt) (zSm fm) (zSm fm2) ∨ 0 ≤ fl2.toInt ∧ zKtr ft en.toInt (fm 3).toInt (zbg ft en.toInt tA.toInt) (.bad fl2.toInt))) (u.1) (u.2.1) (u.2.2)) (fun u : Int32 × Int32 × (Nat → Int32) => (fun (at2 : Int32) (fl2 : Int32) (fm2 : Nat → Int32) => [bMo g o a th hi ac tp (-1) en at2 fl2 de iD iO tU fm2 fk fa fc ft ff fb fi]) (u.1) (u.2.1) (u.2.2)) := by
  refine zM'.of (cc := cX12_trustsLine) (maxL := 5) (rt := none) (by decide) rfl (Nat.le_of_ble_eq_true rfl) ?_
  intro p e s m args below meth c A ls St hr hlocks hin hK hT hA hP hD hS hl
  obtain ⟨hx, hb, hml, hown, hts⟩ := id St
  have hl : lv_has ls 5 [(0, .ref o)] := hl
  have hrm3 := rM3 rfm
  have hrm4 := rM4 rfm
  refine lv_aload_n hx hb dX12_trustsLine_0 rfl (lv_at hl 0 rfl) ?_
  refine lv_iconst (v := 0) hx hb dX12_trustsLine_1 (by decide) ?_
  refine lv_aload_n hx hb dX12_trustsLine_2 rfl (lv_at hl 0 rfl) ?_
  refine va_get (D := g.1) (ci := 10) (v := .ref (a 0)) (C := RX12) (T := TX12) (N := 20) hx hb hts izRX12 hown hK hP 0 rfl rfl 1 (by decide) (hts _ k815) (fun _ h9 => h9) rfl dX12_trustsLine_3 ?_
  refine lv_iconst (v := 3) hx hb dX12_trustsLine_6 (by decide) ?_
  refine va_iald hx hb hK hP 1 0 rfl rfl (zin rfl) dX12_trustsLine_7 ?_
  refine ztop (r := (fm 3)) rfl ?_
  refine lv_iconst (v := 1) hx hb dX12_trustsLine_8 (by decide) ?_
  refine lv_isub hx hb dX12_trustsLine_9 ?_
  refine zg3 (zsubK (i := (fm 3).toInt) (j := 1) (a' := (-1)) (b' := 7) rfl (by decide) (rM3 rfm).1 (rM3 rfm).2 (Int.le_refl _) (Int.le_refl _) (by decide)) (fun x_1 hx_1 => ?_)
  have hL0 : (0 : Int32).toInt = 0 := by decide
  refine mcallV' (g := g) (q0 := 0) (ci := 10) (As := [.int 0, .int x_1]) (rest := []) St hK hT hA hP hD hS hl.1 [0] [] rfl rfl rfl (m_figuresF l g o a th hi ac tp en tA de iD iO tU fm fk fa fc ft ff fb fi 0 x_1 hen htA hde) (cwV 2 hts (zgL (zl4 k902 k903 k904 k839) k898) rfl rfl rfl (by decide +kernel) ⟨Nat.le_of_ble_eq_true rfl, Nat.le_of_ble_eq_true rfl⟩) rfl rfl rfl rfl (Nat.le_of_ble_eq_true rfl) dX12_trustsLine_10 ⟨(Nat.le_of_ble_eq_true rfl), (Nat.le_of_ble_eq_true rfl)⟩ (fun u_ H locs hq5 hP hD hS => ?_)
  obtain ⟨at2_2, fl2_3, r_4⟩ := u_
  replace hq5 : (0 ≤ at2_2.toInt ∧ at2_2.toInt ≤ en.toInt + 7 - de.toInt) ∧ (tA.toInt ≤ at2_2.toInt) ∧ (zNu ft en.toInt (zbg ft en.toInt tA.toInt) (0 : Int32).toInt x_1.toInt r_4 ∧ at2_2.toInt = znx ft en.toInt (zbg ft en.toInt tA.toInt) ∧ (-1) = fl2_3 ∨ fl2_3.toInt = zbg ft en.toInt tA.toInt ∧ ¬ ∃ v9, zNu ft en.toInt (zbg ft en.toInt tA.toInt) (0 : Int32).toInt x_1.toInt v9) := hq5
  have hP : va_P g.1 vwCl (List.flatten [bMo g o a th hi ac tp (-1) en at2_2 fl2_3 de iD iO tU fm fk fa fc ft ff fb fi]) H := hP
  have hD : va_D A (List.flatten [bMo g o a th hi ac tp (-1) en at2_2 fl2_3 de iD iO tU fm fk fa fc ft ff fb fi]) := hD
  refine W.widen (k := 0) (n := 0) (Nat.le_of_ble_eq_true rfl) (Nat.le_of_ble_eq_true rfl) ?_
  refine W.eq (g2 := F0 m 13 ls [.int r_4]) rfl ?_
  obtain ⟨hq5_0, hq5_1, hq5_2⟩ := hq5
  rcases hq5_2 with ⟨hq5_k, hq5_km, rfl⟩ | ⟨hq5_k, hq5_km⟩
  · skip
    have w6 : 0 ≤ r_4.toInt ∧ r_4.toInt ≤ 7 := ⟨(by have h9 := hq5_k.2.2.1; omega), (by have h9 := hq5_k.2.2.2; omega)⟩
    refine lv_istore_n (lv' := [(1, .int r_4), (0, .ref o)]) hx hb dX12_trustsLine_13 rfl hl (by decide) rfl (fun ls hl => ?_)
    refine lv_aload_n hx hb dX12_trustsLine_14 rfl (lv_at hl 1 rfl) ?_
    refine mcallV' (g := g) (q0 := 0) (ci := 10) (As := []) (rest := []) St hK hT hA hP hD hS hl.1 [0] [] rfl rfl rfl (m_hereF l g o a th hi ac tp en at2_2 (-1) de iD iO tU fm fk fa fc ft ff fb fi hen hq5_0 hde) (cwV 0 hts (zgL (zl4 k892 k893 k894 k839) k891) rfl rfl rfl (by decide +kernel) ⟨Nat.le_of_ble_eq_true rfl, Nat.le_of_ble_eq_true rfl⟩) rfl rfl rfl rfl (Nat.le_of_ble_eq_true rfl) dX12_trustsLine_15 ⟨(Nat.le_of_ble_eq_true rfl), (Nat.le_of_ble_eq_true rfl)⟩ (fun at2_7 H locs hq8 hP hD hS => ?_)
    replace hq8 : (0 ≤ at2_7.toInt ∧ at2_7.toInt ≤ en.toInt + 7 - de.toInt) ∧ (at2_2.toInt ≤ at2_7.toInt) ∧ (zSk ft en.toInt at2_2.toInt at2_7.toInt) := hq8
    have hP : va_P g.1 vwCl (List.flatten [bMo g o a th hi ac tp (-1) en at2_7 (-1) de iD iO tU fm fk fa fc ft ff fb fi]) H := hP
    have hD : va_D A (List.flatten [bMo g o a th hi ac tp (-1) en at2_7 (-1) de iD iO tU fm fk fa fc ft ff fb fi]) := hD
    refine W.widen (k := 0) (n := 0) (Nat.le_of_ble_eq_true rfl) (Nat.le_of_ble_eq_true rfl) ?_
    refine W.eq (g2 := F0 m 18 ls [.int at2_7]) rfl ?_
    obtain ⟨hq8_0, hq8_1, hq8_2⟩ := hq8
    refine lv_istore_n (lv' := [(2, .int at2_7), (1, .int r_4), (0, .ref o)]) hx hb dX12_trustsLine_18 rfl hl (by decide) rfl (fun ls hl => ?_)
    refine lv_iconst (v := 0) hx hb dX12_trustsLine_19 (by decide) ?_
    refine lv_istore_n (lv' := [(3, .int 0), (2, .int at2_7), (1, .int r_4), (0, .ref o)]) hx hb dX12_trustsLine_20 rfl hl (by decide) rfl (fun ls hl => ?_)
    have hl := lv_sub (l' := [(0, .ref o), (1, .int r_4), (2, .int at2_7), (3, .int 0)]) hl [3, 2, 1, 0] rfl
    have LP21_13 : ∀ (kf : Nat) (x_9 : Int32), (0 ≤ x_9.toInt ∧ x_9.toInt ≤ 400) → (x_9.toInt = 0 ∨ at2_7.toInt + x_9.toInt ≤ en.toInt) → (zw zcD ft en.toInt.toNat at2_7.toInt.toNat = zw zcD ft en.toInt.toNat (at2_7.toInt + x_9.toInt).toNat) → ∀ (H : Heap) (locs : List Loc) (ls : Array Slot), ((400 - x_9.toInt).toNat) < kf → va_P g.1 vwCl (List.flatten [bMo g o a th hi ac tp (-1) en at2_7 (-1) de iD iO tU fm fk fa fc ft ff fb fi]) H → va_D A (List.flatten [bMo g o a th hi ac tp (-1) en at2_7 (-1) de iD iO tU fm fk fa fc ft ff fb fi]) → va_S A s.heap H locs → lv_has ls 5 [(0, .ref o), (1, .int r_4), (2, .int at2_7), (3, .int x_9)] → W p l e ({ frames := 4, cells := 0, slots := 0, locals := 85 } : Room) s m args below meth c H locs (0) (0) (zF g (fun u : Int32 × Int32 × (Nat → Int32) => (fun (at2 : Int32) (fl2 : Int32) (fm2 : Nat → Int32) => none) (u.1) (u.2.1) (u.2.2)) (fun u : Int32 × Int32 × (Nat → Int32) => (fun (at2 : Int32) (fl2 : Int32) (fm2 : Nat → Int32) => (rM fm2) ∧ (0 ≤ at2.toInt ∧ at2.toInt ≤ en.toInt + 7 - de.toInt) ∧ (tA.toInt ≤ at2.toInt) ∧ ((fm2 0).toInt = (fm 0).toInt) ∧ (zTgm fm fm2) ∧ ((-1) = fl2 ∧ zTO (zKtr ft en.toInt (fm 3).toInt (zbg ft en.toInt tA.toInt)) (zbg ft en.toInt at2.toInt) (fm 3).toInt (fm2 3).toInt (fm 4).toInt (fm2 4).toInt ∧ zTQ (zKtr ft en.toInt (fm 3).toInt (zbg ft en.toInt tA.toInt)) ft (zbg ft en.toInt at2.toInt) (zSm fm) (zSm fm2) ∨ 0 ≤ fl2.toInt ∧ zKtr ft en.toInt (fm 3).toInt (zbg ft en.toInt tA.toInt) (.bad fl2.toInt))) (u.1) (u.2.1) (u.2.2)) (fun u : Int32 × Int32 × (Nat → Int32) => (fun (at2 : Int32) (fl2 : Int32) (fm2 : Nat → Int32) => [bMo g o a th hi ac tp (-1) en at2 fl2 de iD iO tU fm2 fk fa fc ft ff fb fi]) (u.1) (u.2.1) (u.2.2)) ({ frames := 4, cells := 0, slots := 0, locals := 85 } : Room) below args s A) (F0 m 21 ls []) := by
      intro kf
      induction kf with
      | zero => intro x_9 i10 i11 i12 H locs ls hk; exact absurd hk (Nat.not_lt_zero _)
      | succ kf ih21_14 =>
        intro x_9 i10 i11 i12 H locs ls hk21_14 hP hD hS hl
        refine lv_aload_n hx hb dX12_trustsLine_21 rfl (lv_at hl 0 rfl) ?_
        refine va_get (D := g.1) (ci := 10) (v := .int (-1)) (C := RX12) (T := TX12) (N := 20) hx hb hts izRX12 hown hK hP 0 rfl rfl 12 (by decide) (hts _ k820) (fun _ h9 => h9) rfl dX12_trustsLine_22 ?_
        refine lv_iconst (v := (-1)) hx hb dX12_trustsLine_25 (by decide) ?_
        refine lv_icmp_ne (tgt := 62) hx hb dX12_trustsLine_26 (by decide) (fun c15 => absurd (by decide) c15) (fun _ => ?_)
        refine lv_iload_n hx hb dX12_trustsLine_29 rfl (lv_at hl 2 rfl) ?_
        refine lv_iload_n hx hb dX12_trustsLine_30 rfl (lv_at hl 3 rfl) ?_
        refine lv_iadd hx hb dX12_trustsLine_31 ?_
        refine zgv (zadd (i := at2_7.toInt) (j := x_9.toInt) rfl rfl (by omega)) (fun x_16 hx_16 => ?_)
        refine lv_aload_n hx hb dX12_trustsLine_32 rfl (lv_at hl 0 rfl) ?_
        refine va_get (D := g.1) (ci := 10) (v := .int en) (C := RX12) (T := TX12) (N := 20) hx hb hts izRX12 hown hK hP 0 rfl rfl 10 (by decide) (hts _ k879) (fun _ h9 => h9) rfl dX12_trustsLine_33 ?_
        refine lv_icmp_ge (tgt := 62) hx hb dX12_trustsLine_36 (by decide) (fun cb9 => ?_) (fun cb9 => ?_)
        · skip
          have c17 : en.toInt ≤ x_16.toInt := zle cb9 rfl rfl
          refine lv_iload_n hx hb dX12_trustsLine_62 rfl (lv_at hl 3 rfl) ?_
          refine lv_aload_n hx hb dX12_trustsLine_63 rfl (lv_at hl 0 rfl) ?_
          refine va_get (D := g.1) (ci := 10) (v := .ref (a 0)) (C := RX12) (T := TX12) (N := 20) hx hb hts izRX12 hown hK hP 0 rfl rfl 1 (by decide) (hts _ k815) (fun _ h9 => h9) rfl dX12_trustsLine_64 ?_
          refine lv_iconst (v := 3) hx hb dX12_trustsLine_67 (by decide) ?_
          refine va_iald hx hb hK hP 1 0 rfl rfl (zin rfl) dX12_trustsLine_68 ?_
          refine ztop (r := (fm 3)) rfl ?_
          refine lv_icmp_eq (tgt := 77) hx hb dX12_trustsLine_69 (by decide) (fun cb9 => ?_) (fun cb9 => ?_)
          · skip
            have c18 : x_9.toInt = (fm 3).toInt := zeq cb9 rfl rfl
            have n19 : x_9.toInt ≤ 8 := Int.le_trans (Int.le_of_eq c18) (rM3 rfm).2
            refine lv_aload_n hx hb dX12_trustsLine_77 rfl (lv_at hl 0 rfl) ?_
            refine va_get (D := g.1) (ci := 10) (v := .int (-1)) (C := RX12) (T := TX12) (N := 20) hx hb hts izRX12 hown hK hP 0 rfl rfl 12 (by decide) (hts _ k820) (fun _ h9 => h9) rfl dX12_trustsLine_78 ?_
            refine lv_iconst (v := (-1)) hx hb dX12_trustsLine_81 (by decide) ?_
            refine lv_icmp_eq (tgt := 86) hx hb dX12_trustsLine_82 (by decide) (fun _ => ?_) (fun c20 => absurd (by decide) c20)
            have w21 : 0 ≤ r_4.toInt ∧ r_4.toInt ≤ 7 := by omega
            refine lv_iconst (v := 0) hx hb dX12_trustsLine_86 (by decide) ?_
            refine lv_istore (lv' := [(4, .int 0), (0, .ref o), (1, .int r_4), (2, .int at2_7), (3, .int x_9)]) hx hb dX12_trustsLine_87 hl (by decide) rfl (fun ls hl => ?_)
            have hl := lv_sub (l' := [(0, .ref o), (1, .int r_4), (2, .int at2_7), (3, .int x_9), (4, .int 0)]) hl [1, 2, 3, 4, 0] rfl
            have LP89_27 : ∀ (kf : Nat) (x_22 : Int32) (fm_23 : Nat → Int32), (0 ≤ x_22.toInt ∧ x_22.toInt ≤ 8) → (rM fm_23) → (x_22.toInt ≤ x_9.toInt) → (zMt fm fm_23 ft r_4.toInt.toNat at2_7.toInt.toNat x_22.toInt) → ∀ (H : Heap) (locs : List Loc) (ls : Array Slot), ((9 - x_22.toInt).toNat) < kf → va_P g.1 vwCl (List.flatten [bMo g o a th hi ac tp (-1) en at2_7 (-1) de iD iO tU fm_23 fk fa fc ft ff fb fi]) H → va_D A (List.flatten [bMo g o a th hi ac tp (-1) en at2_7 (-1) de iD iO tU fm_23 fk fa fc ft ff fb fi]) → va_S A s.heap H locs → lv_has ls 5 [(0, .ref o), (1, .int r_4), (2, .int at2_7), (3, .int x_9), (4, .int x_22)] → W p l e ({ frames := 4, cells := 0, slots := 0, locals := 85 } : Room) s m args below meth c H locs (0) (0) (zF g (fun u : Int32 × Int32 × (Nat → Int32) => (fun (at2 : Int32) (fl2 : Int32) (fm2 : Nat → Int32) => none) (u.1) (u.2.1) (u.2.2)) (fun u : Int32 × Int32 × (Nat → Int32) => (fun (at2 : Int32) (fl2 : Int32) (fm2 : Nat → Int32) => (rM fm2) ∧ (0 ≤ at2.toInt ∧ at2.toInt ≤ en.toInt + 7 - de.toInt) ∧ (tA.toInt ≤ at2.toInt) ∧ ((fm2 0).toInt = (fm 0).toInt) ∧ (zTgm fm fm2) ∧ ((-1) = fl2 ∧ zTO (zKtr ft en.toInt (fm 3).toInt (zbg ft en.toInt tA.toInt)) (zbg ft en.toInt at2.toInt) (fm 3).toInt (fm2 3).toInt (fm 4).toInt (fm2 4).toInt ∧ zTQ (zKtr ft en.toInt (fm 3).toInt (zbg ft en.toInt tA.toInt)) ft (zbg ft en.toInt at2.toInt) (zSm fm) (zSm fm2) ∨ 0 ≤ fl2.toInt ∧ zKtr ft en.toInt (fm 3).toInt (zbg ft en.toInt tA.toInt) (.bad fl2.toInt))) (u.1) (u.2.1) (u.2.2)) (fun u : Int32 × Int32 × (Nat → Int32) => (fun (at2 : Int32) (fl2 : Int32) (fm2 : Nat → Int32) => [bMo g o a th hi ac tp (-1) en at2 fl2 de iD iO tU fm2 fk fa fc ft ff fb fi]) (u.1) (u.2.1) (u.2.2)) ({ frames := 4, cells := 0, slots := 0, locals := 85 } : Room) below args s A) (F0 m 89 ls []) := by
              intro kf
              induction kf with
              | zero => intro x_22 fm_23 i24 rfm_23 i25 i26 H locs ls hk; exact absurd hk (Nat.not_lt_zero _)
              | succ kf ih89_28 =>
                intro x_22 fm_23 i24 rfm_23 i25 i26 H locs ls hk89_28 hP hD hS hl
                refine lv_iload hx hb dX12_trustsLine_89 (lv_at hl 4 rfl) ?_
                refine lv_iload_n hx hb dX12_trustsLine_91 rfl (lv_at hl 3 rfl) ?_
                refine lv_icmp_ge (tgt := 127) hx hb dX12_trustsLine_92 (by decide) (fun cb9 => ?_) (fun cb9 => ?_)
                · skip
                  have c29 : x_9.toInt ≤ x_22.toInt := zle cb9 rfl rfl
                  refine lv_aload_n hx hb dX12_trustsLine_127 rfl (lv_at hl 0 rfl) ?_
                  refine lv_iload_n hx hb dX12_trustsLine_128 rfl (lv_at hl 2 rfl) ?_
                  refine lv_iload_n hx hb dX12_trustsLine_129 rfl (lv_at hl 3 rfl) ?_
                  refine lv_iadd hx hb dX12_trustsLine_130 ?_
                  refine zgv (zadd (i := at2_7.toInt) (j := x_9.toInt) rfl rfl (by omega)) (fun x_30 hx_30 => ?_)
                  refine va_put (D := g.1) (ci := 10) (v := .int x_30) (ty := .int) (C := RX12) (T := TX12) (N := 20) hx hb hts izRX12 tyX12 tyX12_ok nmX12 hown hK hP hD hS 0 rfl rfl 11 (by decide) (hts _ k878) (fun _ h9 => h9) rfl (by decide +kernel) rfl rfl (Nat.le_of_ble_eq_true rfl) dX12_trustsLine_131 (fun H locs hP hD hS => ?_)
                  have hP : va_P g.1 vwCl (List.flatten [bMo g o a th hi ac tp (-1) en x_30 (-1) de iD iO tU fm_23 fk fa fc ft ff fb fi]) H := hP
                  have hD : va_D A (List.flatten [bMo g o a th hi ac tp (-1) en x_30 (-1) de iD iO tU fm_23 fk fa fc ft ff fb fi]) := hD
                  have hfm_23_0 : (fm_23 0).toInt = (fm 0).toInt := by rw [i26.1 0 (by decide)]
                  have hfm_23_3 : (fm_23 3).toInt = (fm 3).toInt := by rw [i26.1 3 (by decide)]
                  have hfm_23_4 : (fm_23 4).toInt = (fm 4).toInt := by rw [i26.1 4 (by decide)]
                  have hP : va_P g.1 vwCl (List.flatten [bMo g o a th hi ac tp (-1) en x_30 (-1) de iD iO tU fm_23 fk fa fc ft ff fb fi]) H := hP
                  have hD : va_D A (List.flatten [bMo g o a th hi ac tp (-1) en x_30 (-1) de iD iO tU fm_23 fk fa fc ft ff fb fi]) := hD
                  exact mret_v hx hb hr hlocks hS (Nat.le_of_ble_eq_true rfl) (Nat.le_of_ble_eq_true rfl) dX12_trustsLine_134 (x_30, -1, fm_23) rfl (show (rM fm_23) ∧ (0 ≤ x_30.toInt ∧ x_30.toInt ≤ en.toInt + 7 - de.toInt) ∧ (tA.toInt ≤ x_30.toInt) ∧ ((fm_23 0).toInt = (fm 0).toInt) ∧ (zTgm fm fm_23) ∧ ((-1) = (-1) ∧ zTO (zKtr ft en.toInt (fm 3).toInt (zbg ft en.toInt tA.toInt)) (zbg ft en.toInt x_30.toInt) (fm 3).toInt (fm_23 3).toInt (fm 4).toInt (fm_23 4).toInt ∧ zTQ (zKtr ft en.toInt (fm 3).toInt (zbg ft en.toInt tA.toInt)) ft (zbg ft en.toInt x_30.toInt) (zSm fm) (zSm fm_23) ∨ 0 ≤ ((-1) : Int32).toInt ∧ zKtr ft en.toInt (fm 3).toInt (zbg ft en.toInt tA.toInt) (.bad ((-1) : Int32).toInt)) from ⟨(by first | assumption | omega | exact Or.inl (by decide) | exact Or.inr (by omega) | decide), (by first | assumption | omega | exact Or.inl (by decide) | exact Or.inr (by omega) | decide), (by first | assumption | omega | exact Or.inl (by decide) | exact Or.inr (by omega) | decide), (by first | assumption | omega | exact Or.inl (by decide) | exact Or.inr (by omega) | decide), (zMt_g i26), (Or.inl ⟨rfl, ⟨_, zNN_yM (by decide) (by omega) hq5_k (zKt2_b ((zNt_b hq5_km).trans (zbg_sk hq8_2)) (zdg_y (by omega) (by have h9 := hq5_k.2.2.1; have h8 := hq5_k.2.2.2; omega) (zdg_e1 i12 (by omega) (by omega)) (by omega) (by omega))), zcp_n (by decide) (by omega), zcw_n (by decide) (by omega)⟩, ⟨_, zNN_yM (by decide) (by omega) hq5_k (zKt2_b ((zNt_b hq5_km).trans (zbg_sk hq8_2)) (zdg_y (by omega) (by have h9 := hq5_k.2.2.1; have h8 := hq5_k.2.2.2; omega) (zdg_e1 i12 (by omega) (by omega)) (by omega) (by omega))), zMt_S i26 (by omega) rfl⟩⟩)⟩) hP hD
                · skip
                  have c31 : x_22.toInt < x_9.toInt := zlti (Int32.not_le.mp cb9) rfl rfl
                  have n32 : x_22.toInt ≤ 7 := zL1 (b := 8) c31 n19 (by decide)
                  have n33 : 1 ≤ x_9.toInt := zL2 (a := 0) c31 i24.1 (by decide)
                  refine lv_aload_n hx hb dX12_trustsLine_95 rfl (lv_at hl 0 rfl) ?_
                  refine va_get (D := g.1) (ci := 10) (v := .ref (a 0)) (C := RX12) (T := TX12) (N := 20) hx hb hts izRX12 hown hK hP 0 rfl rfl 1 (by decide) (hts _ k815) (fun _ h9 => h9) rfl dX12_trustsLine_96 ?_
                  refine lv_bipush (v := 51) hx hb dX12_trustsLine_99 (by decide) ?_
                  refine lv_bipush (v := 8) hx hb dX12_trustsLine_101 (by decide) ?_
                  refine lv_iload_n hx hb dX12_trustsLine_103 rfl (lv_at hl 1 rfl) ?_
                  refine lv_imul hx hb dX12_trustsLine_104 ?_
                  refine zg3 (zmulKL (i := r_4.toInt) (n := 8) (a' := 0) (b' := 56) rfl (by decide) w21.1 w21.2 (by decide) (by decide)) (fun x_34 hx_34 => ?_)
                  refine lv_iadd hx hb dX12_trustsLine_105 ?_
                  refine zg3 (zaddK (i := 51) (j := x_34.toInt) (a' := 51) (b' := 107) (by decide) rfl (Int.le_refl _) (Int.le_refl _) hx_34.2.1 hx_34.2.2 (by decide)) (fun x_35 hx_35 => ?_)
                  refine lv_iload hx hb dX12_trustsLine_106 (lv_at hl 4 rfl) ?_
                  refine lv_iadd hx hb dX12_trustsLine_108 ?_
                  refine zg3 (zaddK (i := x_35.toInt) (j := x_22.toInt) (a' := 51) (b' := 114) rfl rfl hx_35.2.1 hx_35.2.2 i24.1 n32 (by decide)) (fun x_36 hx_36 => ?_)
                  refine lv_aload_n hx hb dX12_trustsLine_109 rfl (lv_at hl 0 rfl) ?_
                  refine lv_iload_n hx hb dX12_trustsLine_110 rfl (lv_at hl 2 rfl) ?_
                  refine lv_iload hx hb dX12_trustsLine_111 (lv_at hl 4 rfl) ?_
                  refine lv_iadd hx hb dX12_trustsLine_113 ?_
                  refine zgv (zadd (i := at2_7.toInt) (j := x_22.toInt) rfl rfl (by omega)) (fun x_37 hx_37 => ?_)
                  refine mcallV' (g := g) (q0 := 0) (ci := 10) (As := [.int x_37]) (rest := [.int x_36, .ref (a 0)]) St hK hT hA hP hD hS hl.1 [0] [] rfl rfl rfl (m_letterF l g o a th hi ac tp en at2_7 (-1) de iD iO tU fm_23 fk fa fc ft ff fb fi x_37 (by first | assumption | omega | decide | exact Or.inl (by decide) | exact Or.inr (by decide))) (cwV 1 hts (zgL (zl4 k880 k881 k882 k839) k875) rfl rfl rfl (by decide +kernel) ⟨Nat.le_of_ble_eq_true rfl, Nat.le_of_ble_eq_true rfl⟩) rfl rfl rfl rfl (Nat.le_of_ble_eq_true rfl) dX12_trustsLine_114 ⟨(Nat.le_of_ble_eq_true rfl), (Nat.le_of_ble_eq_true rfl)⟩ (fun _u H locs hq38 hP hD hS => ?_)
                  have hP : va_P g.1 vwCl (List.flatten [bMo g o a th hi ac tp (-1) en at2_7 (-1) de iD iO tU fm_23 fk fa fc ft ff fb fi]) H := hP
                  have hD : va_D A (List.flatten [bMo g o a th hi ac tp (-1) en at2_7 (-1) de iD iO tU fm_23 fk fa fc ft ff fb fi]) := hD
                  refine W.widen (k := 0) (n := 0) (Nat.le_of_ble_eq_true rfl) (Nat.le_of_ble_eq_true rfl) ?_
                  refine W.eq (g2 := F0 m 117 ls [.int (ft x_37.toNatClampNeg), .int x_36, .ref (a 0)]) rfl ?_
                  refine lv_bipush (v := 48) hx hb dX12_trustsLine_117 (by decide) ?_
                  refine lv_isub hx hb dX12_trustsLine_119 ?_
                  refine va_iast hx hb hK hP hD hS 1 0 rfl rfl (zinK (a := 51) (b := 114) hx_36.2.1 hx_36.2.2 (by decide)) dX12_trustsLine_120 (fun H locs hP hD hS => ?_)
                  obtain ⟨fm_39, rfm_39, efm_39, hP, hD⟩ : ∃ fm_39 : Nat → Int32, rM fm_39 ∧ fm_39 = upd fm_23 x_36.toInt.toNat ((ft x_37.toNatClampNeg) - 48) ∧ va_P g.1 vwCl (List.flatten [bMo g o a th hi ac tp (-1) en at2_7 (-1) de iD iO tU fm_39 fk fa fc ft ff fb fi]) H ∧ va_D A (List.flatten [bMo g o a th hi ac tp (-1) en at2_7 (-1) de iD iO tU fm_39 fk fa fc ft ff fb fi]) := ⟨upd fm_23 x_36.toNatClampNeg ((ft x_37.toNatClampNeg) - 48), (rM_stB rfm_23 (Int.le_trans (by decide) hx_36.2.1)), rfl, hP, hD⟩
                  refine ziinc3 (n' := 1) (a' := 1) (b' := 8) (lv' := fun v9 => [(4, .int v9), (0, .ref o), (1, .int r_4), (2, .int at2_7), (3, .int x_9)]) hx hb dX12_trustsLine_121 hl (k := 4) rfl (by decide) (fun _ => rfl) (zaddK (i := x_22.toInt) (j := 1) rfl (by decide) i24.1 n32 (Int.le_refl _) (Int.le_refl _) (by decide)) (fun x_40 ls hx_40 hl => ?_)
                  refine lv_goto (tgt := 89) hx hb dX12_trustsLine_124 (by decide) ?_
                  have hl := lv_sub (l' := [(0, .ref o), (1, .int r_4), (2, .int at2_7), (3, .int x_9), (4, .int x_40)]) hl [1, 2, 3, 4, 0] rfl
                  have hP : va_P g.1 vwCl (List.flatten [bMo g o a th hi ac tp (-1) en at2_7 (-1) de iD iO tU fm_39 fk fa fc ft ff fb fi]) H := hP
                  have hD : va_D A (List.flatten [bMo g o a th hi ac tp (-1) en at2_7 (-1) de iD iO tU fm_39 fk fa fc ft ff fb fi]) := hD
                  exact ih89_28 x_40 fm_39 ⟨(Int.le_trans (by decide) hx_40.2.1), hx_40.2.2⟩ rfm_39 (by first | omega | assumption | decide) (zMt_s i26 hx_40.1 (by omega) (by omega) efm_39 (by omega) (congrArg (fun q => ft q - 48) (by first | omega | (rw [zcl]; omega)))) H _ ls (zmK hx_40.1 (by decide) n32 (by decide) hk89_28)  hP hD hS (lv_sub hl [0, 1, 2, 3, 4] rfl)
            have hP : va_P g.1 vwCl (List.flatten [bMo g o a th hi ac tp (-1) en at2_7 (-1) de iD iO tU fm fk fa fc ft ff fb fi]) H := hP
            have hD : va_D A (List.flatten [bMo g o a th hi ac tp (-1) en at2_7 (-1) de iD iO tU fm fk fa fc ft ff fb fi]) := hD
            exact LP89_27 _ 0 fm (by decide) rfm (by first | omega | assumption | decide) (zMt_0 (by decide)) H _ ls (Nat.lt_succ_self _)  hP hD hS (lv_sub hl [0, 1, 2, 3, 4] rfl)
          · skip
            have c41 : ¬ x_9.toInt = (fm 3).toInt := zne cb9 rfl rfl
            refine lv_aload_n hx hb dX12_trustsLine_72 rfl (lv_at hl 0 rfl) ?_
            refine lv_iload_n hx hb dX12_trustsLine_73 rfl (lv_at hl 2 rfl) ?_
            refine mcallV' (g := g) (q0 := 0) (ci := 10) (As := [.int at2_7]) (rest := []) St hK hT hA hP hD hS hl.1 [0] [] rfl rfl rfl (m_wrongF l g o a th hi ac tp (-1) en at2_7 de iD iO tU fm fk fa fc ft ff fb fi at2_7 ) (cwV 1 hts (zgL (zl4 k895 k896 k897 k839) k890) rfl rfl rfl (by decide +kernel) ⟨Nat.le_of_ble_eq_true rfl, Nat.le_of_ble_eq_true rfl⟩) rfl rfl rfl rfl (Nat.le_of_ble_eq_true rfl) dX12_trustsLine_74 ⟨(Nat.le_of_ble_eq_true rfl), (Nat.le_of_ble_eq_true rfl)⟩ (fun _u H locs hq42 hP hD hS => ?_)
            have hP : va_P g.1 vwCl (List.flatten [bMo g o a th hi ac tp (-1) en at2_7 at2_7 de iD iO tU fm fk fa fc ft ff fb fi]) H := hP
            have hD : va_D A (List.flatten [bMo g o a th hi ac tp (-1) en at2_7 at2_7 de iD iO tU fm fk fa fc ft ff fb fi]) := hD
            refine W.widen (k := 0) (n := 0) (Nat.le_of_ble_eq_true rfl) (Nat.le_of_ble_eq_true rfl) ?_
            refine W.eq (g2 := F0 m 77 ls []) rfl ?_
            refine lv_aload_n hx hb dX12_trustsLine_77 rfl (lv_at hl 0 rfl) ?_
            refine va_get (D := g.1) (ci := 10) (v := .int at2_7) (C := RX12) (T := TX12) (N := 20) hx hb hts izRX12 hown hK hP 0 rfl rfl 12 (by decide) (hts _ k820) (fun _ h9 => h9) rfl dX12_trustsLine_78 ?_
            refine lv_iconst (v := (-1)) hx hb dX12_trustsLine_81 (by decide) ?_
            refine lv_icmp_eq (tgt := 86) hx hb dX12_trustsLine_82 (by decide) (fun cb9 => ?_) (fun cb9 => ?_)
            · skip
              exact absurd (show at2_7.toInt = (-1) from zeq cb9 rfl (by decide)) (by omega)
            · skip
              have c44 : ¬ at2_7.toInt = (-1) := zne cb9 rfl (by decide)
              have hP : va_P g.1 vwCl (List.flatten [bMo g o a th hi ac tp (-1) en at2_7 at2_7 de iD iO tU fm fk fa fc ft ff fb fi]) H := hP
              have hD : va_D A (List.flatten [bMo g o a th hi ac tp (-1) en at2_7 at2_7 de iD iO tU fm fk fa fc ft ff fb fi]) := hD
              exact mret_v hx hb hr hlocks hS (Nat.le_of_ble_eq_true rfl) (Nat.le_of_ble_eq_true rfl) dX12_trustsLine_85 (at2_7, at2_7, fm) rfl (show (rM fm) ∧ (0 ≤ at2_7.toInt ∧ at2_7.toInt ≤ en.toInt + 7 - de.toInt) ∧ (tA.toInt ≤ at2_7.toInt) ∧ ((fm 0).toInt = (fm 0).toInt) ∧ (zTgm fm fm) ∧ ((-1) = at2_7 ∧ zTO (zKtr ft en.toInt (fm 3).toInt (zbg ft en.toInt tA.toInt)) (zbg ft en.toInt at2_7.toInt) (fm 3).toInt (fm 3).toInt (fm 4).toInt (fm 4).toInt ∧ zTQ (zKtr ft en.toInt (fm 3).toInt (zbg ft en.toInt tA.toInt)) ft (zbg ft en.toInt at2_7.toInt) (zSm fm) (zSm fm) ∨ 0 ≤ at2_7.toInt ∧ zKtr ft en.toInt (fm 3).toInt (zbg ft en.toInt tA.toInt) (.bad at2_7.toInt)) from ⟨(by first | assumption | omega | exact Or.inl (by decide) | exact Or.inr (by omega) | decide), (by first | assumption | omega | exact Or.inl (by decide) | exact Or.inr (by omega) | decide), (by first | assumption | omega | exact Or.inl (by decide) | exact Or.inr (by omega) | decide), (by first | assumption | omega | exact Or.inl (by decide) | exact Or.inr (by omega) | decide), (zTg_r _), (Or.inr ⟨(by omega), zNN_yM (by decide) (by omega) hq5_k (zKt2_bn ((zNt_b hq5_km).trans (zbg_sk hq8_2)) (zdg_n (by omega) (by omega) (zdg_e1 i12 (by omega) (by omega)) (by omega) rfl))⟩)⟩) hP hD
        · skip
          have c45 : x_16.toInt < en.toInt := zlti (Int32.not_le.mp cb9) rfl rfl
          have n46 : x_16.toInt ≤ 399 := zL1 (b := 400) c45 hen.2 (by decide)
          refine lv_aload_n hx hb dX12_trustsLine_39 rfl (lv_at hl 0 rfl) ?_
          refine lv_iload_n hx hb dX12_trustsLine_40 rfl (lv_at hl 2 rfl) ?_
          refine lv_iload_n hx hb dX12_trustsLine_41 rfl (lv_at hl 3 rfl) ?_
          refine lv_iadd hx hb dX12_trustsLine_42 ?_
          refine zgv (zadd (i := at2_7.toInt) (j := x_9.toInt) rfl rfl (by omega)) (fun x_47 hx_47 => ?_)
          refine mcallV' (g := g) (q0 := 0) (ci := 10) (As := [.int x_47]) (rest := []) St hK hT hA hP hD hS hl.1 [0] [] rfl rfl rfl (m_letterF l g o a th hi ac tp en at2_7 (-1) de iD iO tU fm fk fa fc ft ff fb fi x_47 (by first | assumption | omega | decide | exact Or.inl (by decide) | exact Or.inr (by decide))) (cwV 1 hts (zgL (zl4 k880 k881 k882 k839) k875) rfl rfl rfl (by decide +kernel) ⟨Nat.le_of_ble_eq_true rfl, Nat.le_of_ble_eq_true rfl⟩) rfl rfl rfl rfl (Nat.le_of_ble_eq_true rfl) dX12_trustsLine_43 ⟨(Nat.le_of_ble_eq_true rfl), (Nat.le_of_ble_eq_true rfl)⟩ (fun _u H locs hq48 hP hD hS => ?_)
          have hP : va_P g.1 vwCl (List.flatten [bMo g o a th hi ac tp (-1) en at2_7 (-1) de iD iO tU fm fk fa fc ft ff fb fi]) H := hP
          have hD : va_D A (List.flatten [bMo g o a th hi ac tp (-1) en at2_7 (-1) de iD iO tU fm fk fa fc ft ff fb fi]) := hD
          refine W.widen (k := 0) (n := 0) (Nat.le_of_ble_eq_true rfl) (Nat.le_of_ble_eq_true rfl) ?_
          refine W.eq (g2 := F0 m 46 ls [.int (ft x_47.toNatClampNeg)]) rfl ?_
          refine lv_bipush (v := 48) hx hb dX12_trustsLine_46 (by decide) ?_
          refine lv_bipush (v := 57) hx hb dX12_trustsLine_48 (by decide) ?_
          have hL48 : (48 : Int32).toInt = 48 := by decide
          have hL57 : (57 : Int32).toInt = 57 := by decide
          refine mcallS' (g := g) (As := [.int (ft x_47.toNatClampNeg), .int 48, .int 57]) (rest := []) St hK hT hA hP hD hS hl.1 [] [0] rfl rfl rfl (m_isIn l g (ft x_47.toNatClampNeg) 48 57 ) (va_cwS 3 hts (zgL (zl3 k837 k838 k839) k826) rfl rfl rfl (by decide +kernel) ⟨Nat.le_of_ble_eq_true rfl, Nat.le_of_ble_eq_true rfl⟩) rfl rfl (Nat.le_of_ble_eq_true rfl) dX12_trustsLine_50 ⟨(Nat.le_of_ble_eq_true rfl), (Nat.le_of_ble_eq_true rfl)⟩ (fun q_49 H locs hq50 hP hD hS => ?_)
          replace hq50 : (q_49 = 1 ∧ (48 : Int32).toInt ≤ (ft x_47.toNatClampNeg).toInt ∧ (ft x_47.toNatClampNeg).toInt ≤ (57 : Int32).toInt ∨ q_49 = 0 ∧ ((ft x_47.toNatClampNeg).toInt < (48 : Int32).toInt ∨ (57 : Int32).toInt < (ft x_47.toNatClampNeg).toInt)) := hq50
          have hP : va_P g.1 vwCl (List.flatten [bMo g o a th hi ac tp (-1) en at2_7 (-1) de iD iO tU fm fk fa fc ft ff fb fi]) H := hP
          have hD : va_D A (List.flatten [bMo g o a th hi ac tp (-1) en at2_7 (-1) de iD iO tU fm fk fa fc ft ff fb fi]) := hD
          refine W.widen (k := 0) (n := 0) (Nat.le_of_ble_eq_true rfl) (Nat.le_of_ble_eq_true rfl) ?_
          refine W.eq (g2 := F0 m 53 ls [.int q_49]) rfl ?_
          rcases hq50 with ⟨rfl, hq50_k⟩ | ⟨rfl, hq50_k⟩
          · skip
            refine lv_if_eq (tgt := 62) hx hb dX12_trustsLine_53 (by decide) (fun c51 => absurd c51 (by decide)) (fun _ => ?_)
            refine ziinc3 (n' := 1) (a' := 1) (b' := 401) (lv' := fun v9 => [(3, .int v9), (0, .ref o), (1, .int r_4), (2, .int at2_7)]) hx hb dX12_trustsLine_56 hl (k := 3) rfl (by decide) (fun _ => rfl) (zaddK (i := x_9.toInt) (j := 1) rfl (by decide) i10.1 i10.2 (Int.le_refl _) (Int.le_refl _) (by decide)) (fun x_52 ls hx_52 hl => ?_)
            refine lv_goto (tgt := 21) hx hb dX12_trustsLine_59 (by decide) ?_
            have hl := lv_sub (l' := [(0, .ref o), (1, .int r_4), (2, .int at2_7), (3, .int x_52)]) hl [1, 2, 3, 0] rfl
            have hP : va_P g.1 vwCl (List.flatten [bMo g o a th hi ac tp (-1) en at2_7 (-1) de iD iO tU fm fk fa fc ft ff fb fi]) H := hP
            have hD : va_D A (List.flatten [bMo g o a th hi ac tp (-1) en at2_7 (-1) de iD iO tU fm fk fa fc ft ff fb fi]) := hD
            exact ih21_14 x_52 (by first | omega | assumption | decide) (by first | omega | assumption | decide) (zdg_s x_47 i12 (by omega) (by omega) (by omega) (zcD_t (by omega) (by omega)) (by omega)) H _ ls (by omega)  hP hD hS (lv_sub hl [0, 1, 2, 3] rfl)
          · skip
            refine lv_if_eq (tgt := 62) hx hb dX12_trustsLine_53 (by decide) (fun _ => ?_) (fun c53 => absurd (by decide) c53)
            refine lv_iload_n hx hb dX12_trustsLine_62 rfl (lv_at hl 3 rfl) ?_
            refine lv_aload_n hx hb dX12_trustsLine_63 rfl (lv_at hl 0 rfl) ?_
            refine va_get (D := g.1) (ci := 10) (v := .ref (a 0)) (C := RX12) (T := TX12) (N := 20) hx hb hts izRX12 hown hK hP 0 rfl rfl 1 (by decide) (hts _ k815) (fun _ h9 => h9) rfl dX12_trustsLine_64 ?_
            refine lv_iconst (v := 3) hx hb dX12_trustsLine_67 (by decide) ?_
            refine va_iald hx hb hK hP 1 0 rfl rfl (zin rfl) dX12_trustsLine_68 ?_
            refine ztop (r := (fm 3)) rfl ?_
            refine lv_icmp_eq (tgt := 77) hx hb dX12_trustsLine_69 (by decide) (fun cb9 => ?_) (fun cb9 => ?_)
            · skip
              have c54 : x_9.toInt = (fm 3).toInt := zeq cb9 rfl rfl
              have n55 : x_9.toInt ≤ 8 := Int.le_trans (Int.le_of_eq c54) (rM3 rfm).2
              refine lv_aload_n hx hb dX12_trustsLine_77 rfl (lv_at hl 0 rfl) ?_
              refine va_get (D := g.1) (ci := 10) (v := .int (-1)) (C := RX12) (T := TX12) (N := 20) hx hb hts izRX12 hown hK hP 0 rfl rfl 12 (by decide) (hts _ k820) (fun _ h9 => h9) rfl dX12_trustsLine_78 ?_
              refine lv_iconst (v := (-1)) hx hb dX12_trustsLine_81 (by decide) ?_
              refine lv_icmp_eq (tgt := 86) hx hb dX12_trustsLine_82 (by decide) (fun _ => ?_) (fun c56 => absurd (by decide) c56)
              have w57 : 0 ≤ r_4.toInt ∧ r_4.toInt ≤ 7 := by omega
              refine lv_iconst (v := 0) hx hb dX12_trustsLine_86 (by decide) ?_
              refine lv_istore (lv' := [(4, .int 0), (0, .ref o), (1, .int r_4), (2, .int at2_7), (3, .int x_9)]) hx hb dX12_trustsLine_87 hl (by decide) rfl (fun ls hl => ?_)
              have hl := lv_sub (l' := [(0, .ref o), (1, .int r_4), (2, .int at2_7), (3, .int x_9), (4, .int 0)]) hl [1, 2, 3, 4, 0] rfl
              have LP89_63 : ∀ (kf : Nat) (x_58 : Int32) (fm_59 : Nat → Int32), (0 ≤ x_58.toInt ∧ x_58.toInt ≤ 8) → (rM fm_59) → (x_58.toInt ≤ x_9.toInt) → (zMt fm fm_59 ft r_4.toInt.toNat at2_7.toInt.toNat x_58.toInt) → ∀ (H : Heap) (locs : List Loc) (ls : Array Slot), ((9 - x_58.toInt).toNat) < kf → va_P g.1 vwCl (List.flatten [bMo g o a th hi ac tp (-1) en at2_7 (-1) de iD iO tU fm_59 fk fa fc ft ff fb fi]) H → va_D A (List.flatten [bMo g o a th hi ac tp (-1) en at2_7 (-1) de iD iO tU fm_59 fk fa fc ft ff fb fi]) → va_S A s.heap H locs → lv_has ls 5 [(0, .ref o), (1, .int r_4), (2, .int at2_7), (3, .int x_9), (4, .int x_58)] → W p l e ({ frames := 4, cells := 0, slots := 0, locals := 85 } : Room) s m args below meth c H locs (0) (0) (zF g (fun u : Int32 × Int32 × (Nat → Int32) => (fun (at2 : Int32) (fl2 : Int32) (fm2 : Nat → Int32) => none) (u.1) (u.2.1) (u.2.2)) (fun u : Int32 × Int32 × (Nat → Int32) => (fun (at2 : Int32) (fl2 : Int32) (fm2 : Nat → Int32) => (rM fm2) ∧ (0 ≤ at2.toInt ∧ at2.toInt ≤ en.toInt + 7 - de.toInt) ∧ (tA.toInt ≤ at2.toInt) ∧ ((fm2 0).toInt = (fm 0).toInt) ∧ (zTgm fm fm2) ∧ ((-1) = fl2 ∧ zTO (zKtr ft en.toInt (fm 3).toInt (zbg ft en.toInt tA.toInt)) (zbg ft en.toInt at2.toInt) (fm 3).toInt (fm2 3).toInt (fm 4).toInt (fm2 4).toInt ∧ zTQ (zKtr ft en.toInt (fm 3).toInt (zbg ft en.toInt tA.toInt)) ft (zbg ft en.toInt at2.toInt) (zSm fm) (zSm fm2) ∨ 0 ≤ fl2.toInt ∧ zKtr ft en.toInt (fm 3).toInt (zbg ft en.toInt tA.toInt) (.bad fl2.toInt))) (u.1) (u.2.1) (u.2.2)) (fun u : Int32 × Int32 × (Nat → Int32) => (fun (at2 : Int32) (fl2 : Int32) (fm2 : Nat → Int32) => [bMo g o a th hi ac tp (-1) en at2 fl2 de iD iO tU fm2 fk fa fc ft ff fb fi]) (u.1) (u.2.1) (u.2.2)) ({ frames := 4, cells := 0, slots := 0, locals := 85 } : Room) below args s A) (F0 m 89 ls []) := by
                intro kf
                induction kf with
                | zero => intro x_58 fm_59 i60 rfm_59 i61 i62 H locs ls hk; exact absurd hk (Nat.not_lt_zero _)
                | succ kf ih89_64 =>
                  intro x_58 fm_59 i60 rfm_59 i61 i62 H locs ls hk89_64 hP hD hS hl
                  refine lv_iload hx hb dX12_trustsLine_89 (lv_at hl 4 rfl) ?_
                  refine lv_iload_n hx hb dX12_trustsLine_91 rfl (lv_at hl 3 rfl) ?_
                  refine lv_icmp_ge (tgt := 127) hx hb dX12_trustsLine_92 (by decide) (fun cb9 => ?_) (fun cb9 => ?_)
                  · skip
                    have c65 : x_9.toInt ≤ x_58.toInt := zle cb9 rfl rfl
                    refine lv_aload_n hx hb dX12_trustsLine_127 rfl (lv_at hl 0 rfl) ?_
                    refine lv_iload_n hx hb dX12_trustsLine_128 rfl (lv_at hl 2 rfl) ?_
                    refine lv_iload_n hx hb dX12_trustsLine_129 rfl (lv_at hl 3 rfl) ?_
                    refine lv_iadd hx hb dX12_trustsLine_130 ?_
                    refine zgv (zadd (i := at2_7.toInt) (j := x_9.toInt) rfl rfl (by omega)) (fun x_66 hx_66 => ?_)
                    refine va_put (D := g.1) (ci := 10) (v := .int x_66) (ty := .int) (C := RX12) (T := TX12) (N := 20) hx hb hts izRX12 tyX12 tyX12_ok nmX12 hown hK hP hD hS 0 rfl rfl 11 (by decide) (hts _ k878) (fun _ h9 => h9) rfl (by decide +kernel) rfl rfl (Nat.le_of_ble_eq_true rfl) dX12_trustsLine_131 (fun H locs hP hD hS => ?_)
                    have hP : va_P g.1 vwCl (List.flatten [bMo g o a th hi ac tp (-1) en x_66 (-1) de iD iO tU fm_59 fk fa fc ft ff fb fi]) H := hP
                    have hD : va_D A (List.flatten [bMo g o a th hi ac tp (-1) en x_66 (-1) de iD iO tU fm_59 fk fa fc ft ff fb fi]) := hD
                    have hfm_59_0 : (fm_59 0).toInt = (fm 0).toInt := by rw [i62.1 0 (by decide)]
                    have hfm_59_3 : (fm_59 3).toInt = (fm 3).toInt := by rw [i62.1 3 (by decide)]
                    have hfm_59_4 : (fm_59 4).toInt = (fm 4).toInt := by rw [i62.1 4 (by decide)]
                    have hP : va_P g.1 vwCl (List.flatten [bMo g o a th hi ac tp (-1) en x_66 (-1) de iD iO tU fm_59 fk fa fc ft ff fb fi]) H := hP
                    have hD : va_D A (List.flatten [bMo g o a th hi ac tp (-1) en x_66 (-1) de iD iO tU fm_59 fk fa fc ft ff fb fi]) := hD
                    exact mret_v hx hb hr hlocks hS (Nat.le_of_ble_eq_true rfl) (Nat.le_of_ble_eq_true rfl) dX12_trustsLine_134 (x_66, -1, fm_59) rfl (show (rM fm_59) ∧ (0 ≤ x_66.toInt ∧ x_66.toInt ≤ en.toInt + 7 - de.toInt) ∧ (tA.toInt ≤ x_66.toInt) ∧ ((fm_59 0).toInt = (fm 0).toInt) ∧ (zTgm fm fm_59) ∧ ((-1) = (-1) ∧ zTO (zKtr ft en.toInt (fm 3).toInt (zbg ft en.toInt tA.toInt)) (zbg ft en.toInt x_66.toInt) (fm 3).toInt (fm_59 3).toInt (fm 4).toInt (fm_59 4).toInt ∧ zTQ (zKtr ft en.toInt (fm 3).toInt (zbg ft en.toInt tA.toInt)) ft (zbg ft en.toInt x_66.toInt) (zSm fm) (zSm fm_59) ∨ 0 ≤ ((-1) : Int32).toInt ∧ zKtr ft en.toInt (fm 3).toInt (zbg ft en.toInt tA.toInt) (.bad ((-1) : Int32).toInt)) from ⟨(by first | assumption | omega | exact Or.inl (by decide) | exact Or.inr (by omega) | decide), (by first | assumption | omega | exact Or.inl (by decide) | exact Or.inr (by omega) | decide), (by first | assumption | omega | exact Or.inl (by decide) | exact Or.inr (by omega) | decide), (by first | assumption | omega | exact Or.inl (by decide) | exact Or.inr (by omega) | decide), (zMt_g i62), (Or.inl ⟨rfl, ⟨_, zNN_yM (by decide) (by omega) hq5_k (zKt2_b ((zNt_b hq5_km).trans (zbg_sk hq8_2)) (zdg_y (by omega) (by have h9 := hq5_k.2.2.1; have h8 := hq5_k.2.2.2; omega) (zdg_e2 x_47 i12 (by omega) (zcD_f (by omega))) (by omega) (by omega))), zcp_n (by decide) (by omega), zcw_n (by decide) (by omega)⟩, ⟨_, zNN_yM (by decide) (by omega) hq5_k (zKt2_b ((zNt_b hq5_km).trans (zbg_sk hq8_2)) (zdg_y (by omega) (by have h9 := hq5_k.2.2.1; have h8 := hq5_k.2.2.2; omega) (zdg_e2 x_47 i12 (by omega) (zcD_f (by omega))) (by omega) (by omega))), zMt_S i62 (by omega) rfl⟩⟩)⟩) hP hD
                  · skip
                    have c67 : x_58.toInt < x_9.toInt := zlti (Int32.not_le.mp cb9) rfl rfl
                    have n68 : x_58.toInt ≤ 7 := zL1 (b := 8) c67 n55 (by decide)
                    have n69 : 1 ≤ x_9.toInt := zL2 (a := 0) c67 i60.1 (by decide)
                    refine lv_aload_n hx hb dX12_trustsLine_95 rfl (lv_at hl 0 rfl) ?_
                    refine va_get (D := g.1) (ci := 10) (v := .ref (a 0)) (C := RX12) (T := TX12) (N := 20) hx hb hts izRX12 hown hK hP 0 rfl rfl 1 (by decide) (hts _ k815) (fun _ h9 => h9) rfl dX12_trustsLine_96 ?_
                    refine lv_bipush (v := 51) hx hb dX12_trustsLine_99 (by decide) ?_
                    refine lv_bipush (v := 8) hx hb dX12_trustsLine_101 (by decide) ?_
                    refine lv_iload_n hx hb dX12_trustsLine_103 rfl (lv_at hl 1 rfl) ?_
                    refine lv_imul hx hb dX12_trustsLine_104 ?_
                    refine zg3 (zmulKL (i := r_4.toInt) (n := 8) (a' := 0) (b' := 56) rfl (by decide) w57.1 w57.2 (by decide) (by decide)) (fun x_70 hx_70 => ?_)
                    refine lv_iadd hx hb dX12_trustsLine_105 ?_
                    refine zg3 (zaddK (i := 51) (j := x_70.toInt) (a' := 51) (b' := 107) (by decide) rfl (Int.le_refl _) (Int.le_refl _) hx_70.2.1 hx_70.2.2 (by decide)) (fun x_71 hx_71 => ?_)
                    refine lv_iload hx hb dX12_trustsLine_106 (lv_at hl 4 rfl) ?_
                    refine lv_iadd hx hb dX12_trustsLine_108 ?_
                    refine zg3 (zaddK (i := x_71.toInt) (j := x_58.toInt) (a' := 51) (b' := 114) rfl rfl hx_71.2.1 hx_71.2.2 i60.1 n68 (by decide)) (fun x_72 hx_72 => ?_)
                    refine lv_aload_n hx hb dX12_trustsLine_109 rfl (lv_at hl 0 rfl) ?_
                    refine lv_iload_n hx hb dX12_trustsLine_110 rfl (lv_at hl 2 rfl) ?_
                    refine lv_iload hx hb dX12_trustsLine_111 (lv_at hl 4 rfl) ?_
                    refine lv_iadd hx hb dX12_trustsLine_113 ?_
                    refine zgv (zadd (i := at2_7.toInt) (j := x_58.toInt) rfl rfl (by omega)) (fun x_73 hx_73 => ?_)
                    refine mcallV' (g := g) (q0 := 0) (ci := 10) (As := [.int x_73]) (rest := [.int x_72, .ref (a 0)]) St hK hT hA hP hD hS hl.1 [0] [] rfl rfl rfl (m_letterF l g o a th hi ac tp en at2_7 (-1) de iD iO tU fm_59 fk fa fc ft ff fb fi x_73 (by first | assumption | omega | decide | exact Or.inl (by decide) | exact Or.inr (by decide))) (cwV 1 hts (zgL (zl4 k880 k881 k882 k839) k875) rfl rfl rfl (by decide +kernel) ⟨Nat.le_of_ble_eq_true rfl, Nat.le_of_ble_eq_true rfl⟩) rfl rfl rfl rfl (Nat.le_of_ble_eq_true rfl) dX12_trustsLine_114 ⟨(Nat.le_of_ble_eq_true rfl), (Nat.le_of_ble_eq_true rfl)⟩ (fun _u H locs hq74 hP hD hS => ?_)
                    have hP : va_P g.1 vwCl (List.flatten [bMo g o a th hi ac tp (-1) en at2_7 (-1) de iD iO tU fm_59 fk fa fc ft ff fb fi]) H := hP
                    have hD : va_D A (List.flatten [bMo g o a th hi ac tp (-1) en at2_7 (-1) de iD iO tU fm_59 fk fa fc ft ff fb fi]) := hD
                    refine W.widen (k := 0) (n := 0) (Nat.le_of_ble_eq_true rfl) (Nat.le_of_ble_eq_true rfl) ?_
                    refine W.eq (g2 := F0 m 117 ls [.int (ft x_73.toNatClampNeg), .int x_72, .ref (a 0)]) rfl ?_
                    refine lv_bipush (v := 48) hx hb dX12_trustsLine_117 (by decide) ?_
                    refine lv_isub hx hb dX12_trustsLine_119 ?_
                    refine va_iast hx hb hK hP hD hS 1 0 rfl rfl (zinK (a := 51) (b := 114) hx_72.2.1 hx_72.2.2 (by decide)) dX12_trustsLine_120 (fun H locs hP hD hS => ?_)
                    obtain ⟨fm_75, rfm_75, efm_75, hP, hD⟩ : ∃ fm_75 : Nat → Int32, rM fm_75 ∧ fm_75 = upd fm_59 x_72.toInt.toNat ((ft x_73.toNatClampNeg) - 48) ∧ va_P g.1 vwCl (List.flatten [bMo g o a th hi ac tp (-1) en at2_7 (-1) de iD iO tU fm_75 fk fa fc ft ff fb fi]) H ∧ va_D A (List.flatten [bMo g o a th hi ac tp (-1) en at2_7 (-1) de iD iO tU fm_75 fk fa fc ft ff fb fi]) := ⟨upd fm_59 x_72.toNatClampNeg ((ft x_73.toNatClampNeg) - 48), (rM_stB rfm_59 (Int.le_trans (by decide) hx_72.2.1)), rfl, hP, hD⟩
                    refine ziinc3 (n' := 1) (a' := 1) (b' := 8) (lv' := fun v9 => [(4, .int v9), (0, .ref o), (1, .int r_4), (2, .int at2_7), (3, .int x_9)]) hx hb dX12_trustsLine_121 hl (k := 4) rfl (by decide) (fun _ => rfl) (zaddK (i := x_58.toInt) (j := 1) rfl (by decide) i60.1 n68 (Int.le_refl _) (Int.le_refl _) (by decide)) (fun x_76 ls hx_76 hl => ?_)
                    refine lv_goto (tgt := 89) hx hb dX12_trustsLine_124 (by decide) ?_
                    have hl := lv_sub (l' := [(0, .ref o), (1, .int r_4), (2, .int at2_7), (3, .int x_9), (4, .int x_76)]) hl [1, 2, 3, 4, 0] rfl
                    have hP : va_P g.1 vwCl (List.flatten [bMo g o a th hi ac tp (-1) en at2_7 (-1) de iD iO tU fm_75 fk fa fc ft ff fb fi]) H := hP
                    have hD : va_D A (List.flatten [bMo g o a th hi ac tp (-1) en at2_7 (-1) de iD iO tU fm_75 fk fa fc ft ff fb fi]) := hD
                    exact ih89_64 x_76 fm_75 ⟨(Int.le_trans (by decide) hx_76.2.1), hx_76.2.2⟩ rfm_75 (by first | omega | assumption | decide) (zMt_s i62 hx_76.1 (by omega) (by omega) efm_75 (by omega) (congrArg (fun q => ft q - 48) (by first | omega | (rw [zcl]; omega)))) H _ ls (zmK hx_76.1 (by decide) n68 (by decide) hk89_64)  hP hD hS (lv_sub hl [0, 1, 2, 3, 4] rfl)
              have hP : va_P g.1 vwCl (List.flatten [bMo g o a th hi ac tp (-1) en at2_7 (-1) de iD iO tU fm fk fa fc ft ff fb fi]) H := hP
              have hD : va_D A (List.flatten [bMo g o a th hi ac tp (-1) en at2_7 (-1) de iD iO tU fm fk fa fc ft ff fb fi]) := hD
              exact LP89_63 _ 0 fm (by decide) rfm (by first | omega | assumption | decide) (zMt_0 (by decide)) H _ ls (Nat.lt_succ_self _)  hP hD hS (lv_sub hl [0, 1, 2, 3, 4] rfl)
            · skip
              have c77 : ¬ x_9.toInt = (fm 3).toInt := zne cb9 rfl rfl
              refine lv_aload_n hx hb dX12_trustsLine_72 rfl (lv_at hl 0 rfl) ?_
              refine lv_iload_n hx hb dX12_trustsLine_73 rfl (lv_at hl 2 rfl) ?_
              refine mcallV' (g := g) (q0 := 0) (ci := 10) (As := [.int at2_7]) (rest := []) St hK hT hA hP hD hS hl.1 [0] [] rfl rfl rfl (m_wrongF l g o a th hi ac tp (-1) en at2_7 de iD iO tU fm fk fa fc ft ff fb fi at2_7 ) (cwV 1 hts (zgL (zl4 k895 k896 k897 k839) k890) rfl rfl rfl (by decide +kernel) ⟨Nat.le_of_ble_eq_true rfl, Nat.le_of_ble_eq_true rfl⟩) rfl rfl rfl rfl (Nat.le_of_ble_eq_true rfl) dX12_trustsLine_74 ⟨(Nat.le_of_ble_eq_true rfl), (Nat.le_of_ble_eq_true rfl)⟩ (fun _u H locs hq78 hP hD hS => ?_)
              have hP : va_P g.1 vwCl (List.flatten [bMo g o a th hi ac tp (-1) en at2_7 at2_7 de iD iO tU fm fk fa fc ft ff fb fi]) H := hP
              have hD : va_D A (List.flatten [bMo g o a th hi ac tp (-1) en at2_7 at2_7 de iD iO tU fm fk fa fc ft ff fb fi]) := hD
              refine W.widen (k := 0) (n := 0) (Nat.le_of_ble_eq_true rfl) (Nat.le_of_ble_eq_true rfl) ?_
              refine W.eq (g2 := F0 m 77 ls []) rfl ?_
              refine lv_aload_n hx hb dX12_trustsLine_77 rfl (lv_at hl 0 rfl) ?_
              refine va_get (D := g.1) (ci := 10) (v := .int at2_7) (C := RX12) (T := TX12) (N := 20) hx hb hts izRX12 hown hK hP 0 rfl rfl 12 (by decide) (hts _ k820) (fun _ h9 => h9) rfl dX12_trustsLine_78 ?_
              refine lv_iconst (v := (-1)) hx hb dX12_trustsLine_81 (by decide) ?_
              refine lv_icmp_eq (tgt := 86) hx hb dX12_trustsLine_82 (by decide) (fun cb9 => ?_) (fun cb9 => ?_)
              · skip
                exact absurd (show at2_7.toInt = (-1) from zeq cb9 rfl (by decide)) (by omega)
              · skip
                have c80 : ¬ at2_7.toInt = (-1) := zne cb9 rfl (by decide)
                have hP : va_P g.1 vwCl (List.flatten [bMo g o a th hi ac tp (-1) en at2_7 at2_7 de iD iO tU fm fk fa fc ft ff fb fi]) H := hP
                have hD : va_D A (List.flatten [bMo g o a th hi ac tp (-1) en at2_7 at2_7 de iD iO tU fm fk fa fc ft ff fb fi]) := hD
                exact mret_v hx hb hr hlocks hS (Nat.le_of_ble_eq_true rfl) (Nat.le_of_ble_eq_true rfl) dX12_trustsLine_85 (at2_7, at2_7, fm) rfl (show (rM fm) ∧ (0 ≤ at2_7.toInt ∧ at2_7.toInt ≤ en.toInt + 7 - de.toInt) ∧ (tA.toInt ≤ at2_7.toInt) ∧ ((fm 0).toInt = (fm 0).toInt) ∧ (zTgm fm fm) ∧ ((-1) = at2_7 ∧ zTO (zKtr ft en.toInt (fm 3).toInt (zbg ft en.toInt tA.toInt)) (zbg ft en.toInt at2_7.toInt) (fm 3).toInt (fm 3).toInt (fm 4).toInt (fm 4).toInt ∧ zTQ (zKtr ft en.toInt (fm 3).toInt (zbg ft en.toInt tA.toInt)) ft (zbg ft en.toInt at2_7.toInt) (zSm fm) (zSm fm) ∨ 0 ≤ at2_7.toInt ∧ zKtr ft en.toInt (fm 3).toInt (zbg ft en.toInt tA.toInt) (.bad at2_7.toInt)) from ⟨(by first | assumption | omega | exact Or.inl (by decide) | exact Or.inr (by omega) | decide), (by first | assumption | omega | exact Or.inl (by decide) | exact Or.inr (by omega) | decide), (by first | assumption | omega | exact Or.inl (by decide) | exact Or.inr (by omega) | decide), (by first | assumption | omega | exact Or.inl (by decide) | exact Or.inr (by omega) | decide), (zTg_r _), (Or.inr ⟨(by omega), zNN_yM (by decide) (by omega) hq5_k (zKt2_bn ((zNt_b hq5_km).trans (zbg_sk hq8_2)) (zdg_n (by omega) (by omega) (zdg_e2 x_47 i12 (by omega) (zcD_f (by omega))) (by omega) rfl))⟩)⟩) hP hD
    have hP : va_P g.1 vwCl (List.flatten [bMo g o a th hi ac tp (-1) en at2_7 (-1) de iD iO tU fm fk fa fc ft ff fb fi]) H := hP
    have hD : va_D A (List.flatten [bMo g o a th hi ac tp (-1) en at2_7 (-1) de iD iO tU fm fk fa fc ft ff fb fi]) := hD
    exact LP21_13 _ 0 (by decide) (by first | omega | assumption | decide) (zdg_0 (by decide)) H _ ls (Nat.lt_succ_self _)  hP hD hS (lv_sub hl [0, 1, 2, 3] rfl)
  · skip
    have w81 : 0 ≤ fl2_3.toInt := zB0 hq5_k
    refine lv_istore_n (lv' := [(1, .int r_4), (0, .ref o)]) hx hb dX12_trustsLine_13 rfl hl (by decide) rfl (fun ls hl => ?_)
    refine lv_aload_n hx hb dX12_trustsLine_14 rfl (lv_at hl 1 rfl) ?_
    refine mcallV' (g := g) (q0 := 0) (ci := 10) (As := []) (rest := []) St hK hT hA hP hD hS hl.1 [0] [] rfl rfl rfl (m_hereF l g o a th hi ac tp en at2_2 fl2_3 de iD iO tU fm fk fa fc ft ff fb fi hen hq5_0 hde) (cwV 0 hts (zgL (zl4 k892 k893 k894 k839) k891) rfl rfl rfl (by decide +kernel) ⟨Nat.le_of_ble_eq_true rfl, Nat.le_of_ble_eq_true rfl⟩) rfl rfl rfl rfl (Nat.le_of_ble_eq_true rfl) dX12_trustsLine_15 ⟨(Nat.le_of_ble_eq_true rfl), (Nat.le_of_ble_eq_true rfl)⟩ (fun at2_82 H locs hq83 hP hD hS => ?_)
    replace hq83 : (0 ≤ at2_82.toInt ∧ at2_82.toInt ≤ en.toInt + 7 - de.toInt) ∧ (at2_2.toInt ≤ at2_82.toInt) ∧ (zSk ft en.toInt at2_2.toInt at2_82.toInt) := hq83
    have hP : va_P g.1 vwCl (List.flatten [bMo g o a th hi ac tp (-1) en at2_82 fl2_3 de iD iO tU fm fk fa fc ft ff fb fi]) H := hP
    have hD : va_D A (List.flatten [bMo g o a th hi ac tp (-1) en at2_82 fl2_3 de iD iO tU fm fk fa fc ft ff fb fi]) := hD
    refine W.widen (k := 0) (n := 0) (Nat.le_of_ble_eq_true rfl) (Nat.le_of_ble_eq_true rfl) ?_
    refine W.eq (g2 := F0 m 18 ls [.int at2_82]) rfl ?_
    obtain ⟨hq83_0, hq83_1, hq83_2⟩ := hq83
    refine lv_istore_n (lv' := [(2, .int at2_82), (1, .int r_4), (0, .ref o)]) hx hb dX12_trustsLine_18 rfl hl (by decide) rfl (fun ls hl => ?_)
    refine lv_iconst (v := 0) hx hb dX12_trustsLine_19 (by decide) ?_
    refine lv_istore_n (lv' := [(3, .int 0), (2, .int at2_82), (1, .int r_4), (0, .ref o)]) hx hb dX12_trustsLine_20 rfl hl (by decide) rfl (fun ls hl => ?_)
    have hl := lv_sub (l' := [(0, .ref o), (1, .int r_4), (2, .int at2_82), (3, .int 0)]) hl [3, 2, 1, 0] rfl
    have LP21_88 : ∀ (kf : Nat) (x_84 : Int32), (0 ≤ x_84.toInt ∧ x_84.toInt ≤ 400) → (x_84.toInt = 0 ∨ at2_82.toInt + x_84.toInt ≤ en.toInt) → (zw zcD ft en.toInt.toNat at2_82.toInt.toNat = zw zcD ft en.toInt.toNat (at2_82.toInt + x_84.toInt).toNat) → ∀ (H : Heap) (locs : List Loc) (ls : Array Slot), ((400 - x_84.toInt).toNat) < kf → va_P g.1 vwCl (List.flatten [bMo g o a th hi ac tp (-1) en at2_82 fl2_3 de iD iO tU fm fk fa fc ft ff fb fi]) H → va_D A (List.flatten [bMo g o a th hi ac tp (-1) en at2_82 fl2_3 de iD iO tU fm fk fa fc ft ff fb fi]) → va_S A s.heap H locs → lv_has ls 5 [(0, .ref o), (1, .int r_4), (2, .int at2_82), (3, .int x_84)] → W p l e ({ frames := 4, cells := 0, slots := 0, locals := 85 } : Room) s m args below meth c H locs (0) (0) (zF g (fun u : Int32 × Int32 × (Nat → Int32) => (fun (at2 : Int32) (fl2 : Int32) (fm2 : Nat → Int32) => none) (u.1) (u.2.1) (u.2.2)) (fun u : Int32 × Int32 × (Nat → Int32) => (fun (at2 : Int32) (fl2 : Int32) (fm2 : Nat → Int32) => (rM fm2) ∧ (0 ≤ at2.toInt ∧ at2.toInt ≤ en.toInt + 7 - de.toInt) ∧ (tA.toInt ≤ at2.toInt) ∧ ((fm2 0).toInt = (fm 0).toInt) ∧ (zTgm fm fm2) ∧ ((-1) = fl2 ∧ zTO (zKtr ft en.toInt (fm 3).toInt (zbg ft en.toInt tA.toInt)) (zbg ft en.toInt at2.toInt) (fm 3).toInt (fm2 3).toInt (fm 4).toInt (fm2 4).toInt ∧ zTQ (zKtr ft en.toInt (fm 3).toInt (zbg ft en.toInt tA.toInt)) ft (zbg ft en.toInt at2.toInt) (zSm fm) (zSm fm2) ∨ 0 ≤ fl2.toInt ∧ zKtr ft en.toInt (fm 3).toInt (zbg ft en.toInt tA.toInt) (.bad fl2.toInt))) (u.1) (u.2.1) (u.2.2)) (fun u : Int32 × Int32 × (Nat → Int32) => (fun (at2 : Int32) (fl2 : Int32) (fm2 : Nat → Int32) => [bMo g o a th hi ac tp (-1) en at2 fl2 de iD iO tU fm2 fk fa fc ft ff fb fi]) (u.1) (u.2.1) (u.2.2)) ({ frames := 4, cells := 0, slots := 0, locals := 85 } : Room) below args s A) (F0 m 21 ls []) := by
      intro kf
      induction kf with
      | zero => intro x_84 i85 i86 i87 H locs ls hk; exact absurd hk (Nat.not_lt_zero _)
      | succ kf ih21_89 =>
        intro x_84 i85 i86 i87 H locs ls hk21_89 hP hD hS hl
        refine lv_aload_n hx hb dX12_trustsLine_21 rfl (lv_at hl 0 rfl) ?_
        refine va_get (D := g.1) (ci := 10) (v := .int fl2_3) (C := RX12) (T := TX12) (N := 20) hx hb hts izRX12 hown hK hP 0 rfl rfl 12 (by decide) (hts _ k820) (fun _ h9 => h9) rfl dX12_trustsLine_22 ?_
        refine lv_iconst (v := (-1)) hx hb dX12_trustsLine_25 (by decide) ?_
        refine lv_icmp_ne (tgt := 62) hx hb dX12_trustsLine_26 (by decide) (fun cb9 => ?_) (fun cb9 => ?_)
        · skip
          have c90 : ¬ fl2_3.toInt = (-1) := zne cb9 rfl (by decide)
          refine lv_iload_n hx hb dX12_trustsLine_62 rfl (lv_at hl 3 rfl) ?_
          refine lv_aload_n hx hb dX12_trustsLine_63 rfl (lv_at hl 0 rfl) ?_
          refine va_get (D := g.1) (ci := 10) (v := .ref (a 0)) (C := RX12) (T := TX12) (N := 20) hx hb hts izRX12 hown hK hP 0 rfl rfl 1 (by decide) (hts _ k815) (fun _ h9 => h9) rfl dX12_trustsLine_64 ?_
          refine lv_iconst (v := 3) hx hb dX12_trustsLine_67 (by decide) ?_
          refine va_iald hx hb hK hP 1 0 rfl rfl (zin rfl) dX12_trustsLine_68 ?_
          refine ztop (r := (fm 3)) rfl ?_
          refine lv_icmp_eq (tgt := 77) hx hb dX12_trustsLine_69 (by decide) (fun cb9 => ?_) (fun cb9 => ?_)
          · skip
            have c91 : x_84.toInt = (fm 3).toInt := zeq cb9 rfl rfl
            have n92 : x_84.toInt ≤ 8 := Int.le_trans (Int.le_of_eq c91) (rM3 rfm).2
            refine lv_aload_n hx hb dX12_trustsLine_77 rfl (lv_at hl 0 rfl) ?_
            refine va_get (D := g.1) (ci := 10) (v := .int fl2_3) (C := RX12) (T := TX12) (N := 20) hx hb hts izRX12 hown hK hP 0 rfl rfl 12 (by decide) (hts _ k820) (fun _ h9 => h9) rfl dX12_trustsLine_78 ?_
            refine lv_iconst (v := (-1)) hx hb dX12_trustsLine_81 (by decide) ?_
            refine lv_icmp_eq (tgt := 86) hx hb dX12_trustsLine_82 (by decide) (fun cb9 => ?_) (fun cb9 => ?_)
            · skip
              exact absurd (show fl2_3.toInt = (-1) from zeq cb9 rfl (by decide)) (zDeq2 (a := 0) (b := (-1)) w81 (Int.le_refl _) (by decide))
            · skip
              have c94 : ¬ fl2_3.toInt = (-1) := zne cb9 rfl (by decide)
              have hP : va_P g.1 vwCl (List.flatten [bMo g o a th hi ac tp (-1) en at2_82 fl2_3 de iD iO tU fm fk fa fc ft ff fb fi]) H := hP
              have hD : va_D A (List.flatten [bMo g o a th hi ac tp (-1) en at2_82 fl2_3 de iD iO tU fm fk fa fc ft ff fb fi]) := hD
              exact mret_v hx hb hr hlocks hS (Nat.le_of_ble_eq_true rfl) (Nat.le_of_ble_eq_true rfl) dX12_trustsLine_85 (at2_82, fl2_3, fm) rfl (show (rM fm) ∧ (0 ≤ at2_82.toInt ∧ at2_82.toInt ≤ en.toInt + 7 - de.toInt) ∧ (tA.toInt ≤ at2_82.toInt) ∧ ((fm 0).toInt = (fm 0).toInt) ∧ (zTgm fm fm) ∧ ((-1) = fl2_3 ∧ zTO (zKtr ft en.toInt (fm 3).toInt (zbg ft en.toInt tA.toInt)) (zbg ft en.toInt at2_82.toInt) (fm 3).toInt (fm 3).toInt (fm 4).toInt (fm 4).toInt ∧ zTQ (zKtr ft en.toInt (fm 3).toInt (zbg ft en.toInt tA.toInt)) ft (zbg ft en.toInt at2_82.toInt) (zSm fm) (zSm fm) ∨ 0 ≤ fl2_3.toInt ∧ zKtr ft en.toInt (fm 3).toInt (zbg ft en.toInt tA.toInt) (.bad fl2_3.toInt)) from ⟨(by first | assumption | omega | exact Or.inl (by decide) | exact Or.inr (by omega) | decide), (by first | assumption | omega | exact Or.inl (by decide) | exact Or.inr (by omega) | decide), (by first | assumption | omega | exact Or.inl (by decide) | exact Or.inr (by omega) | decide), (by first | assumption | omega | exact Or.inl (by decide) | exact Or.inr (by omega) | decide), (zTg_r _), (Or.inr ⟨(by omega), zNN_bM (by decide) (by omega) hq5_km hq5_k⟩)⟩) hP hD
          · skip
            have c95 : ¬ x_84.toInt = (fm 3).toInt := zne cb9 rfl rfl
            refine lv_aload_n hx hb dX12_trustsLine_72 rfl (lv_at hl 0 rfl) ?_
            refine lv_iload_n hx hb dX12_trustsLine_73 rfl (lv_at hl 2 rfl) ?_
            refine mcallV' (g := g) (q0 := 0) (ci := 10) (As := [.int at2_82]) (rest := []) St hK hT hA hP hD hS hl.1 [0] [] rfl rfl rfl (m_wrongX l g o a th hi ac tp (-1) en at2_82 fl2_3 de iD iO tU fm fk fa fc ft ff fb fi at2_82 w81) (cwV 1 hts (zgL (zl4 k895 k896 k897 k839) k890) rfl rfl rfl (by decide +kernel) ⟨Nat.le_of_ble_eq_true rfl, Nat.le_of_ble_eq_true rfl⟩) rfl rfl rfl rfl (Nat.le_of_ble_eq_true rfl) dX12_trustsLine_74 ⟨(Nat.le_of_ble_eq_true rfl), (Nat.le_of_ble_eq_true rfl)⟩ (fun _u H locs hq96 hP hD hS => ?_)
            have hP : va_P g.1 vwCl (List.flatten [bMo g o a th hi ac tp (-1) en at2_82 fl2_3 de iD iO tU fm fk fa fc ft ff fb fi]) H := hP
            have hD : va_D A (List.flatten [bMo g o a th hi ac tp (-1) en at2_82 fl2_3 de iD iO tU fm fk fa fc ft ff fb fi]) := hD
            refine W.widen (k := 0) (n := 0) (Nat.le_of_ble_eq_true rfl) (Nat.le_of_ble_eq_true rfl) ?_
            refine W.eq (g2 := F0 m 77 ls []) rfl ?_
            refine lv_aload_n hx hb dX12_trustsLine_77 rfl (lv_at hl 0 rfl) ?_
            refine va_get (D := g.1) (ci := 10) (v := .int fl2_3) (C := RX12) (T := TX12) (N := 20) hx hb hts izRX12 hown hK hP 0 rfl rfl 12 (by decide) (hts _ k820) (fun _ h9 => h9) rfl dX12_trustsLine_78 ?_
            refine lv_iconst (v := (-1)) hx hb dX12_trustsLine_81 (by decide) ?_
            refine lv_icmp_eq (tgt := 86) hx hb dX12_trustsLine_82 (by decide) (fun cb9 => ?_) (fun cb9 => ?_)
            · skip
              exact absurd (show fl2_3.toInt = (-1) from zeq cb9 rfl (by decide)) (zDeq2 (a := 0) (b := (-1)) w81 (Int.le_refl _) (by decide))
            · skip
              have c98 : ¬ fl2_3.toInt = (-1) := zne cb9 rfl (by decide)
              have hP : va_P g.1 vwCl (List.flatten [bMo g o a th hi ac tp (-1) en at2_82 fl2_3 de iD iO tU fm fk fa fc ft ff fb fi]) H := hP
              have hD : va_D A (List.flatten [bMo g o a th hi ac tp (-1) en at2_82 fl2_3 de iD iO tU fm fk fa fc ft ff fb fi]) := hD
              exact mret_v hx hb hr hlocks hS (Nat.le_of_ble_eq_true rfl) (Nat.le_of_ble_eq_true rfl) dX12_trustsLine_85 (at2_82, fl2_3, fm) rfl (show (rM fm) ∧ (0 ≤ at2_82.toInt ∧ at2_82.toInt ≤ en.toInt + 7 - de.toInt) ∧ (tA.toInt ≤ at2_82.toInt) ∧ ((fm 0).toInt = (fm 0).toInt) ∧ (zTgm fm fm) ∧ ((-1) = fl2_3 ∧ zTO (zKtr ft en.toInt (fm 3).toInt (zbg ft en.toInt tA.toInt)) (zbg ft en.toInt at2_82.toInt) (fm 3).toInt (fm 3).toInt (fm 4).toInt (fm 4).toInt ∧ zTQ (zKtr ft en.toInt (fm 3).toInt (zbg ft en.toInt tA.toInt)) ft (zbg ft en.toInt at2_82.toInt) (zSm fm) (zSm fm) ∨ 0 ≤ fl2_3.toInt ∧ zKtr ft en.toInt (fm 3).toInt (zbg ft en.toInt tA.toInt) (.bad fl2_3.toInt)) from ⟨(by first | assumption | omega | exact Or.inl (by decide) | exact Or.inr (by omega) | decide), (by first | assumption | omega | exact Or.inl (by decide) | exact Or.inr (by omega) | decide), (by first | assumption | omega | exact Or.inl (by decide) | exact Or.inr (by omega) | decide), (by first | assumption | omega | exact Or.inl (by decide) | exact Or.inr (by omega) | decide), (zTg_r _), (Or.inr ⟨(by omega), zNN_bM (by decide) (by omega) hq5_km hq5_k⟩)⟩) hP hD
        · skip
          exact absurd (show fl2_3.toInt = (-1) from zeq cb9 rfl (by decide)) (zDeq2 (a := 0) (b := (-1)) w81 (Int.le_refl _) (by decide))
    have hP : va_P g.1 vwCl (List.flatten [bMo g o a th hi ac tp (-1) en at2_82 fl2_3 de iD iO tU fm fk fa fc ft ff fb fi]) H := hP
    have hD : va_D A (List.flatten [bMo g o a th hi ac tp (-1) en at2_82 fl2_3 de iD iO tU fm fk fa fc ft ff fb fi]) := hD
    exact LP21_88 _ 0 (by decide) (by first | omega | assumption | decide) (zdg_0 (by decide)) H _ ls (Nat.lt_succ_self _)  hP hD hS (lv_sub hl [0, 1, 2, 3] rfl)
set_option maxRecDepth 100000 in
set_option maxHeartbeats 4000000 in
theorem m_townLineG (l : Launch) (g : zG) (o : Nat) (a : Nat → Nat) (th : Int32) (hi : Int32) (ac : Int32) (tp : Int32) (en : Int32) (tA : Int32) (de : Int32) (iD : Int32) (iO : Int32) (tU : Int32) (fm : Nat → Int32) (fk : Nat → Int32) (fa : Nat → Int32) (fc : Nat → Int32) (ft : Nat → Int32) (ff : Nat → Int32) (fb : Nat → Int32) (fi : Nat → Int32) (rfm : rM fm) (hen : 0 ≤ en.toInt ∧ en.toInt ≤ 400) (htA : 0 ≤ tA.toInt ∧ tA.toInt ≤ en.toInt + 7 - de.toInt) (hde : 0 ≤ de.toInt ∧ de.toInt ≤ 6) : zM' g l yX12_townLine (Cond.code yX12_townLine cX12_townLine 3 none :: zB) ({ frames := 7, cells := 0, slots := 0, locals := 156 } : Room) [.ref o] [bMo g o a th hi ac tp (-1) en tA (-1) de iD iO tU fm fk fa fc ft ff fb fi] (fun u : Int32 × Int32 × (Nat → Int32) => (fun (at2 : Int32) (fl2 : Int32) (fm2 : Nat → Int32) => none) (u.1) (u.2.1) (u.2.2)) (fun u : Int32 × Int32 × (Nat → Int32) => (fun (at2 : Int32) (fl2 : Int32) (fm2 : Nat → Int32) => (rM fm2) ∧ (0 ≤ at2.toInt ∧ at2.toInt ≤ en.toInt + 7 - de.toInt) ∧ (tA.toInt ≤ at2.toInt) ∧ ((fm2 0).toInt = (fm 0).toInt) ∧ (zTgm fm fm2) ∧ ((-1) = fl2 ∧ zTO (zTLine ft en.toInt (fm 3).toInt (fm 4).toInt (zbg ft en.toInt tA.toInt)) (zbg ft en.toInt at2.toInt) (fm 3).toInt (fm2 3).toInt (fm 4).toInt (fm2 4).toInt ∧ zTQ (zTLine ft en.toInt (fm 3).toInt (fm 4).toInt (zbg ft en.toInt tA.toInt)) ft (zbg ft en.toInt at2.toInt) (zSm fm) (zSm fm2) ∨ 0 ≤ fl2.toInt ∧ zTLine ft en.toInt (fm 3).toInt (fm 4).toInt (zbg ft en.toInt tA.toInt) (.bad fl2.toInt))) (u.1) (u.2.1) (u.2.2)) (fun u : Int32 × Int32 × (Nat → Int32) => (fun (at2 : Int32) (fl2 : Int32) (fm2 : Nat → Int32) => [bMo g o a th hi ac tp (-1) en at2 fl2 de iD iO tU fm2 fk fa fc ft ff fb fi]) (u.1) (u.2.1) (u.2.2)) := by
  refine zM'.of (cc := cX12_townLine) (maxL := 3) (rt := none) (by decide) rfl (Nat.le_of_ble_eq_true rfl) ?_
  intro p e s m args below meth c A ls St hr hlocks hin hK hT hA hP hD hS hl
  obtain ⟨hx, hb, hml, hown, hts⟩ := id St
  have hl : lv_has ls 3 [(0, .ref o)] := hl
  have hrm3 := rM3 rfm
  have hrm4 := rM4 rfm
  refine lv_aload_n hx hb dX12_townLine_0 rfl (lv_at hl 0 rfl) ?_
  refine mcallV' (g := g) (q0 := 0) (ci := 10) (As := []) (rest := []) St hK hT hA hP hD hS hl.1 [0] [] rfl rfl rfl (m_hereF l g o a th hi ac tp en tA (-1) de iD iO tU fm fk fa fc ft ff fb fi hen htA hde) (cwV 0 hts (zgL (zl4 k892 k893 k894 k839) k891) rfl rfl rfl (by decide +kernel) ⟨Nat.le_of_ble_eq_true rfl, Nat.le_of_ble_eq_true rfl⟩) rfl rfl rfl rfl (Nat.le_of_ble_eq_true rfl) dX12_townLine_1 ⟨(Nat.le_of_ble_eq_true rfl), (Nat.le_of_ble_eq_true rfl)⟩ (fun at2_1 H locs hq2 hP hD hS => ?_)
  replace hq2 : (0 ≤ at2_1.toInt ∧ at2_1.toInt ≤ en.toInt + 7 - de.toInt) ∧ (tA.toInt ≤ at2_1.toInt) ∧ (zSk ft en.toInt tA.toInt at2_1.toInt) := hq2
  have hP : va_P g.1 vwCl (List.flatten [bMo g o a th hi ac tp (-1) en at2_1 (-1) de iD iO tU fm fk fa fc ft ff fb fi]) H := hP
  have hD : va_D A (List.flatten [bMo g o a th hi ac tp (-1) en at2_1 (-1) de iD iO tU fm fk fa fc ft ff fb fi]) := hD
  refine W.widen (k := 0) (n := 0) (Nat.le_of_ble_eq_true rfl) (Nat.le_of_ble_eq_true rfl) ?_
  refine W.eq (g2 := F0 m 4 ls [.int at2_1]) rfl ?_
  obtain ⟨hq2_0, hq2_1, hq2_2⟩ := hq2
  refine lv_istore_n (lv' := [(1, .int at2_1), (0, .ref o)]) hx hb dX12_townLine_4 rfl hl (by decide) rfl (fun ls hl => ?_)
  refine lv_aload_n hx hb dX12_townLine_5 rfl (lv_at hl 1 rfl) ?_
  refine va_ldcS (q := g.2 70) hx hb hown (zra30 hT.2.1) dX12_townLine_6 ?_
  refine mcallV' (g := g) (q0 := 0) (ci := 10) (As := [.ref (g.2 70)]) (rest := []) St hK hT hA hP hD hS hl.1 [0] [] rfl rfl rfl (m_hasF l g o a th hi ac tp en at2_1 (-1) de iD iO tU fm fk fa fc ft ff fb fi (g.2 70) 30 zqa30 hen hq2_0 hde rfl zla30 zna30 (zlitB zla30)) (cwV 1 hts (zgL (zl4 k899 k900 k901 k839) k889) rfl rfl rfl (by decide +kernel) ⟨Nat.le_of_ble_eq_true rfl, Nat.le_of_ble_eq_true rfl⟩) rfl rfl rfl rfl (Nat.le_of_ble_eq_true rfl) dX12_townLine_8 ⟨(Nat.le_of_ble_eq_true rfl), (Nat.le_of_ble_eq_true rfl)⟩ (fun u_ H locs hq5 hP hD hS => ?_)
  obtain ⟨at2_3, r_4⟩ := u_
  replace hq5 : (0 ≤ at2_3.toInt ∧ at2_3.toInt ≤ en.toInt + 7 - de.toInt) ∧ (at2_1.toInt ≤ at2_3.toInt) ∧ (r_4 = 1 ∧ zisW ft en.toInt (zbg ft en.toInt at2_1.toInt) zqa30.2.2.2 ∧ at2_3.toInt = znx ft en.toInt (zbg ft en.toInt at2_1.toInt) ∧ at2_1.toInt < at2_3.toInt ∧ at2_3.toInt ≤ en.toInt ∨ r_4 = 0 ∧ ¬ zisW ft en.toInt (zbg ft en.toInt at2_1.toInt) zqa30.2.2.2 ∧ at2_3.toInt = zbg ft en.toInt at2_1.toInt) := hq5
  have hP : va_P g.1 vwCl (List.flatten [bMo g o a th hi ac tp (-1) en at2_3 (-1) de iD iO tU fm fk fa fc ft ff fb fi]) H := hP
  have hD : va_D A (List.flatten [bMo g o a th hi ac tp (-1) en at2_3 (-1) de iD iO tU fm fk fa fc ft ff fb fi]) := hD
  refine W.widen (k := 0) (n := 0) (Nat.le_of_ble_eq_true rfl) (Nat.le_of_ble_eq_true rfl) ?_
  refine W.eq (g2 := F0 m 11 ls [.int r_4]) rfl ?_
  obtain ⟨hq5_0, hq5_1, hq5_2⟩ := hq5
  rcases hq5_2 with ⟨rfl, hq5_k, hq5_km⟩ | ⟨rfl, hq5_k, hq5_km⟩
  · skip
    refine lv_if_eq (tgt := 22) hx hb dX12_townLine_11 (by decide) (fun c6 => absurd c6 (by decide)) (fun _ => ?_)
    refine lv_aload_n hx hb dX12_townLine_14 rfl (lv_at hl 1 rfl) ?_
    refine lv_iload_n hx hb dX12_townLine_15 rfl (lv_at hl 0 rfl) ?_
    refine mcallV' (g := g) (q0 := 0) (ci := 10) (As := [.int at2_1]) (rest := []) St hK hT hA hP hD hS hl.1 [0] [] rfl rfl rfl (m_personLineG l g o a th hi ac tp en at2_3 de iD iO tU fm fk fa fc ft ff fb fi at2_1 rfm hen hq5_0 hde (by first | assumption | omega | decide | exact Or.inl (by decide) | exact Or.inr (by decide)) (zBat (show _ = zbg ft en.toInt tA.toInt from hq2_2) (zBx (show _ = zbg ft en.toInt tA.toInt from hq2_2) hq5_km.1))) (cwV 1 hts (zgL (zl4 k919 k920 k921 k839) k912) rfl rfl rfl (by decide +kernel) ⟨Nat.le_of_ble_eq_true rfl, Nat.le_of_ble_eq_true rfl⟩) rfl rfl rfl rfl (Nat.le_of_ble_eq_true rfl) dX12_townLine_16 ⟨(Nat.le_of_ble_eq_true rfl), (Nat.le_of_ble_eq_true rfl)⟩ (fun u_ H locs hq10 hP hD hS => ?_)
    obtain ⟨at2_7, fl2_8, fm2_9⟩ := u_
    replace hq10 : (rM fm2_9) ∧ (0 ≤ at2_7.toInt ∧ at2_7.toInt ≤ en.toInt + 7 - de.toInt) ∧ (at2_3.toInt ≤ at2_7.toInt) ∧ ((fm2_9 0).toInt = (fm 0).toInt) ∧ (zTgm fm fm2_9) ∧ ((-1) = fl2_8 ∧ zTO (zTPerson ft en.toInt (fm 3).toInt at2_1.toInt) (zbg ft en.toInt at2_7.toInt) (fm 3).toInt (fm2_9 3).toInt (fm 4).toInt (fm2_9 4).toInt ∧ zTQ (zTPerson ft en.toInt (fm 3).toInt at2_1.toInt) ft (zbg ft en.toInt at2_7.toInt) (zSm fm) (zSm fm2_9) ∨ 0 ≤ fl2_8.toInt ∧ zTPerson ft en.toInt (fm 3).toInt at2_1.toInt (.bad fl2_8.toInt)) := hq10
    have hP : va_P g.1 vwCl (List.flatten [bMo g o a th hi ac tp (-1) en at2_7 fl2_8 de iD iO tU fm2_9 fk fa fc ft ff fb fi]) H := hP
    have hD : va_D A (List.flatten [bMo g o a th hi ac tp (-1) en at2_7 fl2_8 de iD iO tU fm2_9 fk fa fc ft ff fb fi]) := hD
    refine W.widen (k := 0) (n := 0) (Nat.le_of_ble_eq_true rfl) (Nat.le_of_ble_eq_true rfl) ?_
    refine W.eq (g2 := F0 m 19 ls []) rfl ?_
    obtain ⟨rfm2_9, hq10_1, hq10_2, hq10_3, hq10_4, hq10_5⟩ := hq10
    rcases hq10_5 with ⟨rfl, hq10_k, hq10_kc⟩ | ⟨hq10_k, hq10_km⟩
    · skip
      refine lv_goto (tgt := 197) hx hb dX12_townLine_19 (by decide) ?_
      have hP : va_P g.1 vwCl (List.flatten [bMo g o a th hi ac tp (-1) en at2_7 (-1) de iD iO tU fm2_9 fk fa fc ft ff fb fi]) H := hP
      have hD : va_D A (List.flatten [bMo g o a th hi ac tp (-1) en at2_7 (-1) de iD iO tU fm2_9 fk fa fc ft ff fb fi]) := hD
      exact mret_v hx hb hr hlocks hS (Nat.le_of_ble_eq_true rfl) (Nat.le_of_ble_eq_true rfl) dX12_townLine_197 (at2_7, -1, fm2_9) rfl (show (rM fm2_9) ∧ (0 ≤ at2_7.toInt ∧ at2_7.toInt ≤ en.toInt + 7 - de.toInt) ∧ (tA.toInt ≤ at2_7.toInt) ∧ ((fm2_9 0).toInt = (fm 0).toInt) ∧ (zTgm fm fm2_9) ∧ ((-1) = (-1) ∧ zTO (zTLine ft en.toInt (fm 3).toInt (fm 4).toInt (zbg ft en.toInt tA.toInt)) (zbg ft en.toInt at2_7.toInt) (fm 3).toInt (fm2_9 3).toInt (fm 4).toInt (fm2_9 4).toInt ∧ zTQ (zTLine ft en.toInt (fm 3).toInt (fm 4).toInt (zbg ft en.toInt tA.toInt)) ft (zbg ft en.toInt at2_7.toInt) (zSm fm) (zSm fm2_9) ∨ 0 ≤ ((-1) : Int32).toInt ∧ zTLine ft en.toInt (fm 3).toInt (fm 4).toInt (zbg ft en.toInt tA.toInt) (.bad ((-1) : Int32).toInt)) from ⟨(by first | assumption | omega | exact Or.inl (by decide) | exact Or.inr (by omega) | decide), (by first | assumption | omega | exact Or.inl (by decide) | exact Or.inr (by omega) | decide), (by first | assumption | omega | exact Or.inl (by decide) | exact Or.inr (by omega) | decide), (by first | assumption | omega | exact Or.inl (by decide) | exact Or.inr (by omega) | decide), hq10_4, (Or.inl ⟨rfl, zTO_i hq10_k (fun _ h9 => zTL_k (k := 0) (by decide) (zBy (show _ = zbg ft en.toInt tA.toInt from hq2_2) hq5_k) (zTP_b (show _ = zbg ft en.toInt tA.toInt from hq2_2) h9)), zTQ_i hq10_kc (fun _ h9 => zTL_k (k := 0) (by decide) (zBy (show _ = zbg ft en.toInt tA.toInt from hq2_2) hq5_k) (zTP_b (show _ = zbg ft en.toInt tA.toInt from hq2_2) h9))⟩)⟩) hP hD
    · skip
      refine lv_goto (tgt := 197) hx hb dX12_townLine_19 (by decide) ?_
      have hP : va_P g.1 vwCl (List.flatten [bMo g o a th hi ac tp (-1) en at2_7 fl2_8 de iD iO tU fm2_9 fk fa fc ft ff fb fi]) H := hP
      have hD : va_D A (List.flatten [bMo g o a th hi ac tp (-1) en at2_7 fl2_8 de iD iO tU fm2_9 fk fa fc ft ff fb fi]) := hD
      exact mret_v hx hb hr hlocks hS (Nat.le_of_ble_eq_true rfl) (Nat.le_of_ble_eq_true rfl) dX12_townLine_197 (at2_7, fl2_8, fm2_9) rfl (show (rM fm2_9) ∧ (0 ≤ at2_7.toInt ∧ at2_7.toInt ≤ en.toInt + 7 - de.toInt) ∧ (tA.toInt ≤ at2_7.toInt) ∧ ((fm2_9 0).toInt = (fm 0).toInt) ∧ (zTgm fm fm2_9) ∧ ((-1) = fl2_8 ∧ zTO (zTLine ft en.toInt (fm 3).toInt (fm 4).toInt (zbg ft en.toInt tA.toInt)) (zbg ft en.toInt at2_7.toInt) (fm 3).toInt (fm2_9 3).toInt (fm 4).toInt (fm2_9 4).toInt ∧ zTQ (zTLine ft en.toInt (fm 3).toInt (fm 4).toInt (zbg ft en.toInt tA.toInt)) ft (zbg ft en.toInt at2_7.toInt) (zSm fm) (zSm fm2_9) ∨ 0 ≤ fl2_8.toInt ∧ zTLine ft en.toInt (fm 3).toInt (fm 4).toInt (zbg ft en.toInt tA.toInt) (.bad fl2_8.toInt)) from ⟨(by first | assumption | omega | exact Or.inl (by decide) | exact Or.inr (by omega) | decide), (by first | assumption | omega | exact Or.inl (by decide) | exact Or.inr (by omega) | decide), (by first | assumption | omega | exact Or.inl (by decide) | exact Or.inr (by omega) | decide), (by first | assumption | omega | exact Or.inl (by decide) | exact Or.inr (by omega) | decide), hq10_4, (Or.inr ⟨(by omega), zTL_k (k := 0) (by decide) (zBy (show _ = zbg ft en.toInt tA.toInt from hq2_2) hq5_k) (zTP_b (show _ = zbg ft en.toInt tA.toInt from hq2_2) hq10_km)⟩)⟩) hP hD
  · skip
    refine lv_if_eq (tgt := 22) hx hb dX12_townLine_11 (by decide) (fun _ => ?_) (fun c11 => absurd (by decide) c11)
    refine lv_aload_n hx hb dX12_townLine_22 rfl (lv_at hl 1 rfl) ?_
    refine va_ldcS (q := g.2 72) hx hb hown (zra31 hT.2.1) dX12_townLine_23 ?_
    refine mcallV' (g := g) (q0 := 0) (ci := 10) (As := [.ref (g.2 72)]) (rest := []) St hK hT hA hP hD hS hl.1 [0] [] rfl rfl rfl (m_hasF l g o a th hi ac tp en at2_3 (-1) de iD iO tU fm fk fa fc ft ff fb fi (g.2 72) 31 zqa31 hen hq5_0 hde rfl zla31 zna31 (zlitB zla31)) (cwV 1 hts (zgL (zl4 k899 k900 k901 k839) k889) rfl rfl rfl (by decide +kernel) ⟨Nat.le_of_ble_eq_true rfl, Nat.le_of_ble_eq_true rfl⟩) rfl rfl rfl rfl (Nat.le_of_ble_eq_true rfl) dX12_townLine_25 ⟨(Nat.le_of_ble_eq_true rfl), (Nat.le_of_ble_eq_true rfl)⟩ (fun u_ H locs hq14 hP hD hS => ?_)
    obtain ⟨at2_12, r_13⟩ := u_
    replace hq14 : (0 ≤ at2_12.toInt ∧ at2_12.toInt ≤ en.toInt + 7 - de.toInt) ∧ (at2_3.toInt ≤ at2_12.toInt) ∧ (r_13 = 1 ∧ zisW ft en.toInt (zbg ft en.toInt at2_3.toInt) zqa31.2.2.2 ∧ at2_12.toInt = znx ft en.toInt (zbg ft en.toInt at2_3.toInt) ∧ at2_3.toInt < at2_12.toInt ∧ at2_12.toInt ≤ en.toInt ∨ r_13 = 0 ∧ ¬ zisW ft en.toInt (zbg ft en.toInt at2_3.toInt) zqa31.2.2.2 ∧ at2_12.toInt = zbg ft en.toInt at2_3.toInt) := hq14
    have hP : va_P g.1 vwCl (List.flatten [bMo g o a th hi ac tp (-1) en at2_12 (-1) de iD iO tU fm fk fa fc ft ff fb fi]) H := hP
    have hD : va_D A (List.flatten [bMo g o a th hi ac tp (-1) en at2_12 (-1) de iD iO tU fm fk fa fc ft ff fb fi]) := hD
    refine W.widen (k := 0) (n := 0) (Nat.le_of_ble_eq_true rfl) (Nat.le_of_ble_eq_true rfl) ?_
    refine W.eq (g2 := F0 m 28 ls [.int r_13]) rfl ?_
    obtain ⟨hq14_0, hq14_1, hq14_2⟩ := hq14
    rcases hq14_2 with ⟨rfl, hq14_k, hq14_km⟩ | ⟨rfl, hq14_k, hq14_km⟩
    · skip
      refine lv_if_eq (tgt := 38) hx hb dX12_townLine_28 (by decide) (fun c15 => absurd c15 (by decide)) (fun _ => ?_)
      refine lv_aload_n hx hb dX12_townLine_31 rfl (lv_at hl 1 rfl) ?_
      refine mcallV' (g := g) (q0 := 0) (ci := 10) (As := []) (rest := []) St hK hT hA hP hD hS hl.1 [0] [] rfl rfl rfl (m_trustsLineG l g o a th hi ac tp en at2_12 de iD iO tU fm fk fa fc ft ff fb fi rfm hen hq14_0 hde) (cwV 0 hts (zgL (zl4 k922 k923 k924 k839) k913) rfl rfl rfl (by decide +kernel) ⟨Nat.le_of_ble_eq_true rfl, Nat.le_of_ble_eq_true rfl⟩) rfl rfl rfl rfl (Nat.le_of_ble_eq_true rfl) dX12_townLine_32 ⟨(Nat.le_of_ble_eq_true rfl), (Nat.le_of_ble_eq_true rfl)⟩ (fun u_ H locs hq19 hP hD hS => ?_)
      obtain ⟨at2_16, fl2_17, fm2_18⟩ := u_
      replace hq19 : (rM fm2_18) ∧ (0 ≤ at2_16.toInt ∧ at2_16.toInt ≤ en.toInt + 7 - de.toInt) ∧ (at2_12.toInt ≤ at2_16.toInt) ∧ ((fm2_18 0).toInt = (fm 0).toInt) ∧ (zTgm fm fm2_18) ∧ ((-1) = fl2_17 ∧ zTO (zKtr ft en.toInt (fm 3).toInt (zbg ft en.toInt at2_12.toInt)) (zbg ft en.toInt at2_16.toInt) (fm 3).toInt (fm2_18 3).toInt (fm 4).toInt (fm2_18 4).toInt ∧ zTQ (zKtr ft en.toInt (fm 3).toInt (zbg ft en.toInt at2_12.toInt)) ft (zbg ft en.toInt at2_16.toInt) (zSm fm) (zSm fm2_18) ∨ 0 ≤ fl2_17.toInt ∧ zKtr ft en.toInt (fm 3).toInt (zbg ft en.toInt at2_12.toInt) (.bad fl2_17.toInt)) := hq19
      have hP : va_P g.1 vwCl (List.flatten [bMo g o a th hi ac tp (-1) en at2_16 fl2_17 de iD iO tU fm2_18 fk fa fc ft ff fb fi]) H := hP
      have hD : va_D A (List.flatten [bMo g o a th hi ac tp (-1) en at2_16 fl2_17 de iD iO tU fm2_18 fk fa fc ft ff fb fi]) := hD
      refine W.widen (k := 0) (n := 0) (Nat.le_of_ble_eq_true rfl) (Nat.le_of_ble_eq_true rfl) ?_
      refine W.eq (g2 := F0 m 35 ls []) rfl ?_
      obtain ⟨rfm2_18, hq19_1, hq19_2, hq19_3, hq19_4, hq19_5⟩ := hq19
      rcases hq19_5 with ⟨rfl, hq19_k, hq19_kc⟩ | ⟨hq19_k, hq19_km⟩
      · skip
        refine lv_goto (tgt := 197) hx hb dX12_townLine_35 (by decide) ?_
        have hP : va_P g.1 vwCl (List.flatten [bMo g o a th hi ac tp (-1) en at2_16 (-1) de iD iO tU fm2_18 fk fa fc ft ff fb fi]) H := hP
        have hD : va_D A (List.flatten [bMo g o a th hi ac tp (-1) en at2_16 (-1) de iD iO tU fm2_18 fk fa fc ft ff fb fi]) := hD
        exact mret_v hx hb hr hlocks hS (Nat.le_of_ble_eq_true rfl) (Nat.le_of_ble_eq_true rfl) dX12_townLine_197 (at2_16, -1, fm2_18) rfl (show (rM fm2_18) ∧ (0 ≤ at2_16.toInt ∧ at2_16.toInt ≤ en.toInt + 7 - de.toInt) ∧ (tA.toInt ≤ at2_16.toInt) ∧ ((fm2_18 0).toInt = (fm 0).toInt) ∧ (zTgm fm fm2_18) ∧ ((-1) = (-1) ∧ zTO (zTLine ft en.toInt (fm 3).toInt (fm 4).toInt (zbg ft en.toInt tA.toInt)) (zbg ft en.toInt at2_16.toInt) (fm 3).toInt (fm2_18 3).toInt (fm 4).toInt (fm2_18 4).toInt ∧ zTQ (zTLine ft en.toInt (fm 3).toInt (fm 4).toInt (zbg ft en.toInt tA.toInt)) ft (zbg ft en.toInt at2_16.toInt) (zSm fm) (zSm fm2_18) ∨ 0 ≤ ((-1) : Int32).toInt ∧ zTLine ft en.toInt (fm 3).toInt (fm 4).toInt (zbg ft en.toInt tA.toInt) (.bad ((-1) : Int32).toInt)) from ⟨(by first | assumption | omega | exact Or.inl (by decide) | exact Or.inr (by omega) | decide), (by first | assumption | omega | exact Or.inl (by decide) | exact Or.inr (by omega) | decide), (by first | assumption | omega | exact Or.inl (by decide) | exact Or.inr (by omega) | decide), (by first | assumption | omega | exact Or.inl (by decide) | exact Or.inr (by omega) | decide), hq19_4, (Or.inl ⟨rfl, zTO_i hq19_k (fun _ h9 => zTL_mM 0 (by decide) (zBy (zBe (show _ = zbg ft en.toInt tA.toInt from hq2_2) hq5_km) hq14_k) (zBx (zBe (show _ = zbg ft en.toInt tA.toInt from hq2_2) hq5_km) hq14_km.1) h9), zTQ_i hq19_kc (fun _ h9 => zTL_mM 0 (by decide) (zBy (zBe (show _ = zbg ft en.toInt tA.toInt from hq2_2) hq5_km) hq14_k) (zBx (zBe (show _ = zbg ft en.toInt tA.toInt from hq2_2) hq5_km) hq14_km.1) h9)⟩)⟩) hP hD
      · skip
        refine lv_goto (tgt := 197) hx hb dX12_townLine_35 (by decide) ?_
        have hP : va_P g.1 vwCl (List.flatten [bMo g o a th hi ac tp (-1) en at2_16 fl2_17 de iD iO tU fm2_18 fk fa fc ft ff fb fi]) H := hP
        have hD : va_D A (List.flatten [bMo g o a th hi ac tp (-1) en at2_16 fl2_17 de iD iO tU fm2_18 fk fa fc ft ff fb fi]) := hD
        exact mret_v hx hb hr hlocks hS (Nat.le_of_ble_eq_true rfl) (Nat.le_of_ble_eq_true rfl) dX12_townLine_197 (at2_16, fl2_17, fm2_18) rfl (show (rM fm2_18) ∧ (0 ≤ at2_16.toInt ∧ at2_16.toInt ≤ en.toInt + 7 - de.toInt) ∧ (tA.toInt ≤ at2_16.toInt) ∧ ((fm2_18 0).toInt = (fm 0).toInt) ∧ (zTgm fm fm2_18) ∧ ((-1) = fl2_17 ∧ zTO (zTLine ft en.toInt (fm 3).toInt (fm 4).toInt (zbg ft en.toInt tA.toInt)) (zbg ft en.toInt at2_16.toInt) (fm 3).toInt (fm2_18 3).toInt (fm 4).toInt (fm2_18 4).toInt ∧ zTQ (zTLine ft en.toInt (fm 3).toInt (fm 4).toInt (zbg ft en.toInt tA.toInt)) ft (zbg ft en.toInt at2_16.toInt) (zSm fm) (zSm fm2_18) ∨ 0 ≤ fl2_17.toInt ∧ zTLine ft en.toInt (fm 3).toInt (fm 4).toInt (zbg ft en.toInt tA.toInt) (.bad fl2_17.toInt)) from ⟨(by first | assumption | omega | exact Or.inl (by decide) | exact Or.inr (by omega) | decide), (by first | assumption | omega | exact Or.inl (by decide) | exact Or.inr (by omega) | decide), (by first | assumption | omega | exact Or.inl (by decide) | exact Or.inr (by omega) | decide), (by first | assumption | omega | exact Or.inl (by decide) | exact Or.inr (by omega) | decide), hq19_4, (Or.inr ⟨(by omega), zTL_mM 0 (by decide) (zBy (zBe (show _ = zbg ft en.toInt tA.toInt from hq2_2) hq5_km) hq14_k) (zBx (zBe (show _ = zbg ft en.toInt tA.toInt from hq2_2) hq5_km) hq14_km.1) hq19_km⟩)⟩) hP hD
    · skip
      refine lv_if_eq (tgt := 38) hx hb dX12_townLine_28 (by decide) (fun _ => ?_) (fun c20 => absurd (by decide) c20)
      refine lv_aload_n hx hb dX12_townLine_38 rfl (lv_at hl 1 rfl) ?_
      refine va_ldcS (q := g.2 74) hx hb hown (zra32 hT.2.1) dX12_townLine_39 ?_
      refine mcallV' (g := g) (q0 := 0) (ci := 10) (As := [.ref (g.2 74)]) (rest := []) St hK hT hA hP hD hS hl.1 [0] [] rfl rfl rfl (m_hasF l g o a th hi ac tp en at2_12 (-1) de iD iO tU fm fk fa fc ft ff fb fi (g.2 74) 32 zqa32 hen hq14_0 hde rfl zla32 zna32 (zlitB zla32)) (cwV 1 hts (zgL (zl4 k899 k900 k901 k839) k889) rfl rfl rfl (by decide +kernel) ⟨Nat.le_of_ble_eq_true rfl, Nat.le_of_ble_eq_true rfl⟩) rfl rfl rfl rfl (Nat.le_of_ble_eq_true rfl) dX12_townLine_41 ⟨(Nat.le_of_ble_eq_true rfl), (Nat.le_of_ble_eq_true rfl)⟩ (fun u_ H locs hq23 hP hD hS => ?_)
      obtain ⟨at2_21, r_22⟩ := u_
      replace hq23 : (0 ≤ at2_21.toInt ∧ at2_21.toInt ≤ en.toInt + 7 - de.toInt) ∧ (at2_12.toInt ≤ at2_21.toInt) ∧ (r_22 = 1 ∧ zisW ft en.toInt (zbg ft en.toInt at2_12.toInt) zqa32.2.2.2 ∧ at2_21.toInt = znx ft en.toInt (zbg ft en.toInt at2_12.toInt) ∧ at2_12.toInt < at2_21.toInt ∧ at2_21.toInt ≤ en.toInt ∨ r_22 = 0 ∧ ¬ zisW ft en.toInt (zbg ft en.toInt at2_12.toInt) zqa32.2.2.2 ∧ at2_21.toInt = zbg ft en.toInt at2_12.toInt) := hq23
      have hP : va_P g.1 vwCl (List.flatten [bMo g o a th hi ac tp (-1) en at2_21 (-1) de iD iO tU fm fk fa fc ft ff fb fi]) H := hP
      have hD : va_D A (List.flatten [bMo g o a th hi ac tp (-1) en at2_21 (-1) de iD iO tU fm fk fa fc ft ff fb fi]) := hD
      refine W.widen (k := 0) (n := 0) (Nat.le_of_ble_eq_true rfl) (Nat.le_of_ble_eq_true rfl) ?_
      refine W.eq (g2 := F0 m 44 ls [.int r_22]) rfl ?_
      obtain ⟨hq23_0, hq23_1, hq23_2⟩ := hq23
      rcases hq23_2 with ⟨rfl, hq23_k, hq23_km⟩ | ⟨rfl, hq23_k, hq23_km⟩
      · skip
        refine lv_if_eq (tgt := 55) hx hb dX12_townLine_44 (by decide) (fun c24 => absurd c24 (by decide)) (fun _ => ?_)
        refine lv_aload_n hx hb dX12_townLine_47 rfl (lv_at hl 1 rfl) ?_
        refine lv_iload_n hx hb dX12_townLine_48 rfl (lv_at hl 0 rfl) ?_
        refine mcallV' (g := g) (q0 := 0) (ci := 10) (As := [.int at2_1]) (rest := []) St hK hT hA hP hD hS hl.1 [0] [] rfl rfl rfl (m_workLineG l g o a th hi ac tp en at2_21 de iD iO tU fm fk fa fc ft ff fb fi at2_1 rfm hen hq23_0 hde (by first | assumption | omega | decide | exact Or.inl (by decide) | exact Or.inr (by decide)) (zBat (show _ = zbg ft en.toInt tA.toInt from hq2_2) (zBx (zBe (zBe (show _ = zbg ft en.toInt tA.toInt from hq2_2) hq5_km) hq14_km) hq23_km.1))) (cwV 1 hts (zgL (zl4 k925 k926 k927 k839) k917) rfl rfl rfl (by decide +kernel) ⟨Nat.le_of_ble_eq_true rfl, Nat.le_of_ble_eq_true rfl⟩) rfl rfl rfl rfl (Nat.le_of_ble_eq_true rfl) dX12_townLine_49 ⟨(Nat.le_of_ble_eq_true rfl), (Nat.le_of_ble_eq_true rfl)⟩ (fun u_ H locs hq28 hP hD hS => ?_)
        obtain ⟨at2_25, fl2_26, fm2_27⟩ := u_
        replace hq28 : (rM fm2_27) ∧ (0 ≤ at2_25.toInt ∧ at2_25.toInt ≤ en.toInt + 7 - de.toInt) ∧ (at2_21.toInt ≤ at2_25.toInt) ∧ ((fm2_27 0).toInt = (fm 0).toInt) ∧ (zTgm fm fm2_27) ∧ ((-1) = fl2_26 ∧ zTO (zTWork ft en.toInt (fm 4).toInt at2_1.toInt) (zbg ft en.toInt at2_25.toInt) (fm 3).toInt (fm2_27 3).toInt (fm 4).toInt (fm2_27 4).toInt ∧ zTQ (zTWork ft en.toInt (fm 4).toInt at2_1.toInt) ft (zbg ft en.toInt at2_25.toInt) (zSm fm) (zSm fm2_27) ∨ 0 ≤ fl2_26.toInt ∧ zTWork ft en.toInt (fm 4).toInt at2_1.toInt (.bad fl2_26.toInt)) := hq28
        have hP : va_P g.1 vwCl (List.flatten [bMo g o a th hi ac tp (-1) en at2_25 fl2_26 de iD iO tU fm2_27 fk fa fc ft ff fb fi]) H := hP
        have hD : va_D A (List.flatten [bMo g o a th hi ac tp (-1) en at2_25 fl2_26 de iD iO tU fm2_27 fk fa fc ft ff fb fi]) := hD
        refine W.widen (k := 0) (n := 0) (Nat.le_of_ble_eq_true rfl) (Nat.le_of_ble_eq_true rfl) ?_
        refine W.eq (g2 := F0 m 52 ls []) rfl ?_
        obtain ⟨rfm2_27, hq28_1, hq28_2, hq28_3, hq28_4, hq28_5⟩ := hq28
        rcases hq28_5 with ⟨rfl, hq28_k, hq28_kc⟩ | ⟨hq28_k, hq28_km⟩
        · skip
          refine lv_goto (tgt := 197) hx hb dX12_townLine_52 (by decide) ?_
          have hP : va_P g.1 vwCl (List.flatten [bMo g o a th hi ac tp (-1) en at2_25 (-1) de iD iO tU fm2_27 fk fa fc ft ff fb fi]) H := hP
          have hD : va_D A (List.flatten [bMo g o a th hi ac tp (-1) en at2_25 (-1) de iD iO tU fm2_27 fk fa fc ft ff fb fi]) := hD
          exact mret_v hx hb hr hlocks hS (Nat.le_of_ble_eq_true rfl) (Nat.le_of_ble_eq_true rfl) dX12_townLine_197 (at2_25, -1, fm2_27) rfl (show (rM fm2_27) ∧ (0 ≤ at2_25.toInt ∧ at2_25.toInt ≤ en.toInt + 7 - de.toInt) ∧ (tA.toInt ≤ at2_25.toInt) ∧ ((fm2_27 0).toInt = (fm 0).toInt) ∧ (zTgm fm fm2_27) ∧ ((-1) = (-1) ∧ zTO (zTLine ft en.toInt (fm 3).toInt (fm 4).toInt (zbg ft en.toInt tA.toInt)) (zbg ft en.toInt at2_25.toInt) (fm 3).toInt (fm2_27 3).toInt (fm 4).toInt (fm2_27 4).toInt ∧ zTQ (zTLine ft en.toInt (fm 3).toInt (fm 4).toInt (zbg ft en.toInt tA.toInt)) ft (zbg ft en.toInt at2_25.toInt) (zSm fm) (zSm fm2_27) ∨ 0 ≤ ((-1) : Int32).toInt ∧ zTLine ft en.toInt (fm 3).toInt (fm 4).toInt (zbg ft en.toInt tA.toInt) (.bad ((-1) : Int32).toInt)) from ⟨(by first | assumption | omega | exact Or.inl (by decide) | exact Or.inr (by omega) | decide), (by first | assumption | omega | exact Or.inl (by decide) | exact Or.inr (by omega) | decide), (by first | assumption | omega | exact Or.inl (by decide) | exact Or.inr (by omega) | decide), (by first | assumption | omega | exact Or.inl (by decide) | exact Or.inr (by omega) | decide), hq28_4, (Or.inl ⟨rfl, zTO_i hq28_k (fun _ h9 => zTL_k (k := 1) (by decide) (zBy (zBe (zBe (show _ = zbg ft en.toInt tA.toInt from hq2_2) hq5_km) hq14_km) hq23_k) (zTW_b (show _ = zbg ft en.toInt tA.toInt from hq2_2) h9)), zTQ_i hq28_kc (fun _ h9 => zTL_k (k := 1) (by decide) (zBy (zBe (zBe (show _ = zbg ft en.toInt tA.toInt from hq2_2) hq5_km) hq14_km) hq23_k) (zTW_b (show _ = zbg ft en.toInt tA.toInt from hq2_2) h9))⟩)⟩) hP hD
        · skip
          refine lv_goto (tgt := 197) hx hb dX12_townLine_52 (by decide) ?_
          have hP : va_P g.1 vwCl (List.flatten [bMo g o a th hi ac tp (-1) en at2_25 fl2_26 de iD iO tU fm2_27 fk fa fc ft ff fb fi]) H := hP
          have hD : va_D A (List.flatten [bMo g o a th hi ac tp (-1) en at2_25 fl2_26 de iD iO tU fm2_27 fk fa fc ft ff fb fi]) := hD
          exact mret_v hx hb hr hlocks hS (Nat.le_of_ble_eq_true rfl) (Nat.le_of_ble_eq_true rfl) dX12_townLine_197 (at2_25, fl2_26, fm2_27) rfl (show (rM fm2_27) ∧ (0 ≤ at2_25.toInt ∧ at2_25.toInt ≤ en.toInt + 7 - de.toInt) ∧ (tA.toInt ≤ at2_25.toInt) ∧ ((fm2_27 0).toInt = (fm 0).toInt) ∧ (zTgm fm fm2_27) ∧ ((-1) = fl2_26 ∧ zTO (zTLine ft en.toInt (fm 3).toInt (fm 4).toInt (zbg ft en.toInt tA.toInt)) (zbg ft en.toInt at2_25.toInt) (fm 3).toInt (fm2_27 3).toInt (fm 4).toInt (fm2_27 4).toInt ∧ zTQ (zTLine ft en.toInt (fm 3).toInt (fm 4).toInt (zbg ft en.toInt tA.toInt)) ft (zbg ft en.toInt at2_25.toInt) (zSm fm) (zSm fm2_27) ∨ 0 ≤ fl2_26.toInt ∧ zTLine ft en.toInt (fm 3).toInt (fm 4).toInt (zbg ft en.toInt tA.toInt) (.bad fl2_26.toInt)) from ⟨(by first | assumption | omega | exact Or.inl (by decide) | exact Or.inr (by omega) | decide), (by first | assumption | omega | exact Or.inl (by decide) | exact Or.inr (by omega) | decide), (by first | assumption | omega | exact Or.inl (by decide) | exact Or.inr (by omega) | decide), (by first | assumption | omega | exact Or.inl (by decide) | exact Or.inr (by omega) | decide), hq28_4, (Or.inr ⟨(by omega), zTL_k (k := 1) (by decide) (zBy (zBe (zBe (show _ = zbg ft en.toInt tA.toInt from hq2_2) hq5_km) hq14_km) hq23_k) (zTW_b (show _ = zbg ft en.toInt tA.toInt from hq2_2) hq28_km)⟩)⟩) hP hD
      · skip
        refine lv_if_eq (tgt := 55) hx hb dX12_townLine_44 (by decide) (fun _ => ?_) (fun c29 => absurd (by decide) c29)
        refine lv_aload_n hx hb dX12_townLine_55 rfl (lv_at hl 1 rfl) ?_
        refine va_ldcS (q := g.2 76) hx hb hown (zra33 hT.2.1) dX12_townLine_56 ?_
        refine mcallV' (g := g) (q0 := 0) (ci := 10) (As := [.ref (g.2 76)]) (rest := []) St hK hT hA hP hD hS hl.1 [0] [] rfl rfl rfl (m_hasF l g o a th hi ac tp en at2_21 (-1) de iD iO tU fm fk fa fc ft ff fb fi (g.2 76) 33 zqa33 hen hq23_0 hde rfl zla33 zna33 (zlitB zla33)) (cwV 1 hts (zgL (zl4 k899 k900 k901 k839) k889) rfl rfl rfl (by decide +kernel) ⟨Nat.le_of_ble_eq_true rfl, Nat.le_of_ble_eq_true rfl⟩) rfl rfl rfl rfl (Nat.le_of_ble_eq_true rfl) dX12_townLine_58 ⟨(Nat.le_of_ble_eq_true rfl), (Nat.le_of_ble_eq_true rfl)⟩ (fun u_ H locs hq32 hP hD hS => ?_)
        obtain ⟨at2_30, r_31⟩ := u_
        replace hq32 : (0 ≤ at2_30.toInt ∧ at2_30.toInt ≤ en.toInt + 7 - de.toInt) ∧ (at2_21.toInt ≤ at2_30.toInt) ∧ (r_31 = 1 ∧ zisW ft en.toInt (zbg ft en.toInt at2_21.toInt) zqa33.2.2.2 ∧ at2_30.toInt = znx ft en.toInt (zbg ft en.toInt at2_21.toInt) ∧ at2_21.toInt < at2_30.toInt ∧ at2_30.toInt ≤ en.toInt ∨ r_31 = 0 ∧ ¬ zisW ft en.toInt (zbg ft en.toInt at2_21.toInt) zqa33.2.2.2 ∧ at2_30.toInt = zbg ft en.toInt at2_21.toInt) := hq32
        have hP : va_P g.1 vwCl (List.flatten [bMo g o a th hi ac tp (-1) en at2_30 (-1) de iD iO tU fm fk fa fc ft ff fb fi]) H := hP
        have hD : va_D A (List.flatten [bMo g o a th hi ac tp (-1) en at2_30 (-1) de iD iO tU fm fk fa fc ft ff fb fi]) := hD
        refine W.widen (k := 0) (n := 0) (Nat.le_of_ble_eq_true rfl) (Nat.le_of_ble_eq_true rfl) ?_
        refine W.eq (g2 := F0 m 61 ls [.int r_31]) rfl ?_
        obtain ⟨hq32_0, hq32_1, hq32_2⟩ := hq32
        rcases hq32_2 with ⟨rfl, hq32_k, hq32_km⟩ | ⟨rfl, hq32_k, hq32_km⟩
        · skip
          refine lv_if_eq (tgt := 76) hx hb dX12_townLine_61 (by decide) (fun c33 => absurd c33 (by decide)) (fun _ => ?_)
          refine lv_aload_n hx hb dX12_townLine_64 rfl (lv_at hl 1 rfl) ?_
          refine lv_iconst (v := 5) hx hb dX12_townLine_65 (by decide) ?_
          refine lv_iconst (v := 0) hx hb dX12_townLine_66 (by decide) ?_
          refine lv_sipush (v := 999) hx hb dX12_townLine_67 (by decide) ?_
          have hL0 : (0 : Int32).toInt = 0 := by decide
          have hL5 : (5 : Int32).toInt = 5 := by decide
          have hL999 : (999 : Int32).toInt = 999 := by decide
          refine mcallV' (g := g) (q0 := 0) (ci := 10) (As := [.int 5, .int 0, .int 999]) (rest := []) St hK hT hA hP hD hS hl.1 [0] [] rfl rfl rfl (m_tellsG l g o a th hi ac tp en at2_30 de iD iO tU fm fk fa fc ft ff fb fi 5 0 999 rfm hen hq32_0 hde (by first | assumption | omega | decide | exact Or.inl (by decide) | exact Or.inr (by decide))) (cwV 3 hts (zgL (zl4 k928 k929 k930 k839) k918) rfl rfl rfl (by decide +kernel) ⟨Nat.le_of_ble_eq_true rfl, Nat.le_of_ble_eq_true rfl⟩) rfl rfl rfl rfl (Nat.le_of_ble_eq_true rfl) dX12_townLine_70 ⟨(Nat.le_of_ble_eq_true rfl), (Nat.le_of_ble_eq_true rfl)⟩ (fun u_ H locs hq37 hP hD hS => ?_)
          obtain ⟨at2_34, fl2_35, fm2_36⟩ := u_
          replace hq37 : (rM fm2_36) ∧ (0 ≤ at2_34.toInt ∧ at2_34.toInt ≤ en.toInt + 7 - de.toInt) ∧ (at2_30.toInt ≤ at2_34.toInt) ∧ ((fm2_36 0).toInt = (fm 0).toInt ∧ (fm2_36 3).toInt = (fm 3).toInt ∧ (fm2_36 4).toInt = (fm 4).toInt) ∧ (zTgm fm fm2_36) ∧ ((-1) = fl2_35 ∧ (∃ v9, zNu ft en.toInt (zbg ft en.toInt at2_30.toInt) (0 : Int32).toInt (999 : Int32).toInt v9) ∧ at2_34.toInt = znx ft en.toInt (zbg ft en.toInt at2_30.toInt) ∧ (∃ v9, zNu ft en.toInt (zbg ft en.toInt at2_30.toInt) (0 : Int32).toInt (999 : Int32).toInt v9 ∧ fm2_36 = upd fm (5 : Int32).toInt.toNat v9) ∨ fl2_35.toInt = zbg ft en.toInt at2_30.toInt ∧ ¬ ∃ v9, zNu ft en.toInt (zbg ft en.toInt at2_30.toInt) (0 : Int32).toInt (999 : Int32).toInt v9) := hq37
          have hP : va_P g.1 vwCl (List.flatten [bMo g o a th hi ac tp (-1) en at2_34 fl2_35 de iD iO tU fm2_36 fk fa fc ft ff fb fi]) H := hP
          have hD : va_D A (List.flatten [bMo g o a th hi ac tp (-1) en at2_34 fl2_35 de iD iO tU fm2_36 fk fa fc ft ff fb fi]) := hD
          refine W.widen (k := 0) (n := 0) (Nat.le_of_ble_eq_true rfl) (Nat.le_of_ble_eq_true rfl) ?_
          refine W.eq (g2 := F0 m 73 ls []) rfl ?_
          obtain ⟨rfm2_36, hq37_1, hq37_2, hq37_3, hq37_4, hq37_5⟩ := hq37
          rcases hq37_5 with ⟨rfl, hq37_k, hq37_km, hq37_kc⟩ | ⟨hq37_k, hq37_km⟩
          · skip
            refine lv_goto (tgt := 197) hx hb dX12_townLine_73 (by decide) ?_
            have hP : va_P g.1 vwCl (List.flatten [bMo g o a th hi ac tp (-1) en at2_34 (-1) de iD iO tU fm2_36 fk fa fc ft ff fb fi]) H := hP
            have hD : va_D A (List.flatten [bMo g o a th hi ac tp (-1) en at2_34 (-1) de iD iO tU fm2_36 fk fa fc ft ff fb fi]) := hD
            exact mret_v hx hb hr hlocks hS (Nat.le_of_ble_eq_true rfl) (Nat.le_of_ble_eq_true rfl) dX12_townLine_197 (at2_34, -1, fm2_36) rfl (show (rM fm2_36) ∧ (0 ≤ at2_34.toInt ∧ at2_34.toInt ≤ en.toInt + 7 - de.toInt) ∧ (tA.toInt ≤ at2_34.toInt) ∧ ((fm2_36 0).toInt = (fm 0).toInt) ∧ (zTgm fm fm2_36) ∧ ((-1) = (-1) ∧ zTO (zTLine ft en.toInt (fm 3).toInt (fm 4).toInt (zbg ft en.toInt tA.toInt)) (zbg ft en.toInt at2_34.toInt) (fm 3).toInt (fm2_36 3).toInt (fm 4).toInt (fm2_36 4).toInt ∧ zTQ (zTLine ft en.toInt (fm 3).toInt (fm 4).toInt (zbg ft en.toInt tA.toInt)) ft (zbg ft en.toInt at2_34.toInt) (zSm fm) (zSm fm2_36) ∨ 0 ≤ ((-1) : Int32).toInt ∧ zTLine ft en.toInt (fm 3).toInt (fm 4).toInt (zbg ft en.toInt tA.toInt) (.bad ((-1) : Int32).toInt)) from ⟨(by first | assumption | omega | exact Or.inl (by decide) | exact Or.inr (by omega) | decide), (by first | assumption | omega | exact Or.inl (by decide) | exact Or.inr (by omega) | decide), (by first | assumption | omega | exact Or.inl (by decide) | exact Or.inr (by omega) | decide), (by first | assumption | omega | exact Or.inl (by decide) | exact Or.inr (by omega) | decide), hq37_4, (Or.inl ⟨rfl, zTO_i (zTO_o (lo := 0) (hi := 999) (k := 4) (by decide) (by decide) hq37_k hq37_km (by decide) (by decide) (by omega) (by omega)) (fun _ h9 => zTL_mM 2 (by decide) (zBy (zBe (zBe (zBe (show _ = zbg ft en.toInt tA.toInt from hq2_2) hq5_km) hq14_km) hq23_km) hq32_k) (zBx (zBe (zBe (zBe (show _ = zbg ft en.toInt tA.toInt from hq2_2) hq5_km) hq14_km) hq23_km) hq32_km.1) (show zTX _ _ _ 4 _ _ from h9)), zTQ_i (zTQ_o (lo := 0) (hi := 999) (k := 4) (by decide) (by decide) hq37_kc hq37_km (by first | exact Or.inl ⟨rfl, rfl⟩ | exact Or.inr (Or.inl ⟨rfl, rfl⟩) | exact Or.inr (Or.inr (Or.inl ⟨rfl, rfl⟩)) | exact Or.inr (Or.inr (Or.inr ⟨rfl, rfl⟩)))) (fun _ h9 => zTL_mM 2 (by decide) (zBy (zBe (zBe (zBe (show _ = zbg ft en.toInt tA.toInt from hq2_2) hq5_km) hq14_km) hq23_km) hq32_k) (zBx (zBe (zBe (zBe (show _ = zbg ft en.toInt tA.toInt from hq2_2) hq5_km) hq14_km) hq23_km) hq32_km.1) (show zTX _ _ _ 4 _ _ from h9))⟩)⟩) hP hD
          · skip
            have w38 : 0 ≤ fl2_35.toInt := zB0 hq37_k
            refine lv_goto (tgt := 197) hx hb dX12_townLine_73 (by decide) ?_
            have hP : va_P g.1 vwCl (List.flatten [bMo g o a th hi ac tp (-1) en at2_34 fl2_35 de iD iO tU fm2_36 fk fa fc ft ff fb fi]) H := hP
            have hD : va_D A (List.flatten [bMo g o a th hi ac tp (-1) en at2_34 fl2_35 de iD iO tU fm2_36 fk fa fc ft ff fb fi]) := hD
            exact mret_v hx hb hr hlocks hS (Nat.le_of_ble_eq_true rfl) (Nat.le_of_ble_eq_true rfl) dX12_townLine_197 (at2_34, fl2_35, fm2_36) rfl (show (rM fm2_36) ∧ (0 ≤ at2_34.toInt ∧ at2_34.toInt ≤ en.toInt + 7 - de.toInt) ∧ (tA.toInt ≤ at2_34.toInt) ∧ ((fm2_36 0).toInt = (fm 0).toInt) ∧ (zTgm fm fm2_36) ∧ ((-1) = fl2_35 ∧ zTO (zTLine ft en.toInt (fm 3).toInt (fm 4).toInt (zbg ft en.toInt tA.toInt)) (zbg ft en.toInt at2_34.toInt) (fm 3).toInt (fm2_36 3).toInt (fm 4).toInt (fm2_36 4).toInt ∧ zTQ (zTLine ft en.toInt (fm 3).toInt (fm 4).toInt (zbg ft en.toInt tA.toInt)) ft (zbg ft en.toInt at2_34.toInt) (zSm fm) (zSm fm2_36) ∨ 0 ≤ fl2_35.toInt ∧ zTLine ft en.toInt (fm 3).toInt (fm 4).toInt (zbg ft en.toInt tA.toInt) (.bad fl2_35.toInt)) from ⟨(by first | assumption | omega | exact Or.inl (by decide) | exact Or.inr (by omega) | decide), (by first | assumption | omega | exact Or.inl (by decide) | exact Or.inr (by omega) | decide), (by first | assumption | omega | exact Or.inl (by decide) | exact Or.inr (by omega) | decide), (by first | assumption | omega | exact Or.inl (by decide) | exact Or.inr (by omega) | decide), hq37_4, (Or.inr ⟨(by omega), zTL_mM 2 (by decide) (zBy (zBe (zBe (zBe (show _ = zbg ft en.toInt tA.toInt from hq2_2) hq5_km) hq14_km) hq23_km) hq32_k) (zBx (zBe (zBe (zBe (show _ = zbg ft en.toInt tA.toInt from hq2_2) hq5_km) hq14_km) hq23_km) hq32_km.1) (show zTX _ _ _ 4 _ _ from (show zNN _ _ _ _ _ _ _ from zNN_bM (by decide) (by decide) hq37_km hq37_k))⟩)⟩) hP hD
        · skip
          refine lv_if_eq (tgt := 76) hx hb dX12_townLine_61 (by decide) (fun _ => ?_) (fun c39 => absurd (by decide) c39)
          refine lv_aload_n hx hb dX12_townLine_76 rfl (lv_at hl 1 rfl) ?_
          refine va_ldcS (q := g.2 78) hx hb hown (zra34 hT.2.1) dX12_townLine_77 ?_
          refine mcallV' (g := g) (q0 := 0) (ci := 10) (As := [.ref (g.2 78)]) (rest := []) St hK hT hA hP hD hS hl.1 [0] [] rfl rfl rfl (m_hasF l g o a th hi ac tp en at2_30 (-1) de iD iO tU fm fk fa fc ft ff fb fi (g.2 78) 34 zqa34 hen hq32_0 hde rfl zla34 zna34 (zlitB zla34)) (cwV 1 hts (zgL (zl4 k899 k900 k901 k839) k889) rfl rfl rfl (by decide +kernel) ⟨Nat.le_of_ble_eq_true rfl, Nat.le_of_ble_eq_true rfl⟩) rfl rfl rfl rfl (Nat.le_of_ble_eq_true rfl) dX12_townLine_79 ⟨(Nat.le_of_ble_eq_true rfl), (Nat.le_of_ble_eq_true rfl)⟩ (fun u_ H locs hq42 hP hD hS => ?_)
          obtain ⟨at2_40, r_41⟩ := u_
          replace hq42 : (0 ≤ at2_40.toInt ∧ at2_40.toInt ≤ en.toInt + 7 - de.toInt) ∧ (at2_30.toInt ≤ at2_40.toInt) ∧ (r_41 = 1 ∧ zisW ft en.toInt (zbg ft en.toInt at2_30.toInt) zqa34.2.2.2 ∧ at2_40.toInt = znx ft en.toInt (zbg ft en.toInt at2_30.toInt) ∧ at2_30.toInt < at2_40.toInt ∧ at2_40.toInt ≤ en.toInt ∨ r_41 = 0 ∧ ¬ zisW ft en.toInt (zbg ft en.toInt at2_30.toInt) zqa34.2.2.2 ∧ at2_40.toInt = zbg ft en.toInt at2_30.toInt) := hq42
          have hP : va_P g.1 vwCl (List.flatten [bMo g o a th hi ac tp (-1) en at2_40 (-1) de iD iO tU fm fk fa fc ft ff fb fi]) H := hP
          have hD : va_D A (List.flatten [bMo g o a th hi ac tp (-1) en at2_40 (-1) de iD iO tU fm fk fa fc ft ff fb fi]) := hD
          refine W.widen (k := 0) (n := 0) (Nat.le_of_ble_eq_true rfl) (Nat.le_of_ble_eq_true rfl) ?_
          refine W.eq (g2 := F0 m 82 ls [.int r_41]) rfl ?_
          obtain ⟨hq42_0, hq42_1, hq42_2⟩ := hq42
          rcases hq42_2 with ⟨rfl, hq42_k, hq42_km⟩ | ⟨rfl, hq42_k, hq42_km⟩
          · skip
            refine lv_if_eq (tgt := 97) hx hb dX12_townLine_82 (by decide) (fun c43 => absurd c43 (by decide)) (fun _ => ?_)
            refine lv_aload_n hx hb dX12_townLine_85 rfl (lv_at hl 1 rfl) ?_
            refine lv_bipush (v := 6) hx hb dX12_townLine_86 (by decide) ?_
            refine lv_iconst (v := 1) hx hb dX12_townLine_88 (by decide) ?_
            refine lv_bipush (v := 30) hx hb dX12_townLine_89 (by decide) ?_
            have hL1 : (1 : Int32).toInt = 1 := by decide
            have hL6 : (6 : Int32).toInt = 6 := by decide
            have hL30 : (30 : Int32).toInt = 30 := by decide
            refine mcallV' (g := g) (q0 := 0) (ci := 10) (As := [.int 6, .int 1, .int 30]) (rest := []) St hK hT hA hP hD hS hl.1 [0] [] rfl rfl rfl (m_tellsG l g o a th hi ac tp en at2_40 de iD iO tU fm fk fa fc ft ff fb fi 6 1 30 rfm hen hq42_0 hde (by first | assumption | omega | decide | exact Or.inl (by decide) | exact Or.inr (by decide))) (cwV 3 hts (zgL (zl4 k928 k929 k930 k839) k918) rfl rfl rfl (by decide +kernel) ⟨Nat.le_of_ble_eq_true rfl, Nat.le_of_ble_eq_true rfl⟩) rfl rfl rfl rfl (Nat.le_of_ble_eq_true rfl) dX12_townLine_91 ⟨(Nat.le_of_ble_eq_true rfl), (Nat.le_of_ble_eq_true rfl)⟩ (fun u_ H locs hq47 hP hD hS => ?_)
            obtain ⟨at2_44, fl2_45, fm2_46⟩ := u_
            replace hq47 : (rM fm2_46) ∧ (0 ≤ at2_44.toInt ∧ at2_44.toInt ≤ en.toInt + 7 - de.toInt) ∧ (at2_40.toInt ≤ at2_44.toInt) ∧ ((fm2_46 0).toInt = (fm 0).toInt ∧ (fm2_46 3).toInt = (fm 3).toInt ∧ (fm2_46 4).toInt = (fm 4).toInt) ∧ (zTgm fm fm2_46) ∧ ((-1) = fl2_45 ∧ (∃ v9, zNu ft en.toInt (zbg ft en.toInt at2_40.toInt) (1 : Int32).toInt (30 : Int32).toInt v9) ∧ at2_44.toInt = znx ft en.toInt (zbg ft en.toInt at2_40.toInt) ∧ (∃ v9, zNu ft en.toInt (zbg ft en.toInt at2_40.toInt) (1 : Int32).toInt (30 : Int32).toInt v9 ∧ fm2_46 = upd fm (6 : Int32).toInt.toNat v9) ∨ fl2_45.toInt = zbg ft en.toInt at2_40.toInt ∧ ¬ ∃ v9, zNu ft en.toInt (zbg ft en.toInt at2_40.toInt) (1 : Int32).toInt (30 : Int32).toInt v9) := hq47
            have hP : va_P g.1 vwCl (List.flatten [bMo g o a th hi ac tp (-1) en at2_44 fl2_45 de iD iO tU fm2_46 fk fa fc ft ff fb fi]) H := hP
            have hD : va_D A (List.flatten [bMo g o a th hi ac tp (-1) en at2_44 fl2_45 de iD iO tU fm2_46 fk fa fc ft ff fb fi]) := hD
            refine W.widen (k := 0) (n := 0) (Nat.le_of_ble_eq_true rfl) (Nat.le_of_ble_eq_true rfl) ?_
            refine W.eq (g2 := F0 m 94 ls []) rfl ?_
            obtain ⟨rfm2_46, hq47_1, hq47_2, hq47_3, hq47_4, hq47_5⟩ := hq47
            rcases hq47_5 with ⟨rfl, hq47_k, hq47_km, hq47_kc⟩ | ⟨hq47_k, hq47_km⟩
            · skip
              refine lv_goto (tgt := 197) hx hb dX12_townLine_94 (by decide) ?_
              have hP : va_P g.1 vwCl (List.flatten [bMo g o a th hi ac tp (-1) en at2_44 (-1) de iD iO tU fm2_46 fk fa fc ft ff fb fi]) H := hP
              have hD : va_D A (List.flatten [bMo g o a th hi ac tp (-1) en at2_44 (-1) de iD iO tU fm2_46 fk fa fc ft ff fb fi]) := hD
              exact mret_v hx hb hr hlocks hS (Nat.le_of_ble_eq_true rfl) (Nat.le_of_ble_eq_true rfl) dX12_townLine_197 (at2_44, -1, fm2_46) rfl (show (rM fm2_46) ∧ (0 ≤ at2_44.toInt ∧ at2_44.toInt ≤ en.toInt + 7 - de.toInt) ∧ (tA.toInt ≤ at2_44.toInt) ∧ ((fm2_46 0).toInt = (fm 0).toInt) ∧ (zTgm fm fm2_46) ∧ ((-1) = (-1) ∧ zTO (zTLine ft en.toInt (fm 3).toInt (fm 4).toInt (zbg ft en.toInt tA.toInt)) (zbg ft en.toInt at2_44.toInt) (fm 3).toInt (fm2_46 3).toInt (fm 4).toInt (fm2_46 4).toInt ∧ zTQ (zTLine ft en.toInt (fm 3).toInt (fm 4).toInt (zbg ft en.toInt tA.toInt)) ft (zbg ft en.toInt at2_44.toInt) (zSm fm) (zSm fm2_46) ∨ 0 ≤ ((-1) : Int32).toInt ∧ zTLine ft en.toInt (fm 3).toInt (fm 4).toInt (zbg ft en.toInt tA.toInt) (.bad ((-1) : Int32).toInt)) from ⟨(by first | assumption | omega | exact Or.inl (by decide) | exact Or.inr (by omega) | decide), (by first | assumption | omega | exact Or.inl (by decide) | exact Or.inr (by omega) | decide), (by first | assumption | omega | exact Or.inl (by decide) | exact Or.inr (by omega) | decide), (by first | assumption | omega | exact Or.inl (by decide) | exact Or.inr (by omega) | decide), hq47_4, (Or.inl ⟨rfl, zTO_i (zTO_o (lo := 1) (hi := 30) (k := 5) (by decide) (by decide) hq47_k hq47_km (by decide) (by decide) (by omega) (by omega)) (fun _ h9 => zTL_mM 3 (by decide) (zBy (zBe (zBe (zBe (zBe (show _ = zbg ft en.toInt tA.toInt from hq2_2) hq5_km) hq14_km) hq23_km) hq32_km) hq42_k) (zBx (zBe (zBe (zBe (zBe (show _ = zbg ft en.toInt tA.toInt from hq2_2) hq5_km) hq14_km) hq23_km) hq32_km) hq42_km.1) (show zTX _ _ _ 5 _ _ from h9)), zTQ_i (zTQ_o (lo := 1) (hi := 30) (k := 5) (by decide) (by decide) hq47_kc hq47_km (by first | exact Or.inl ⟨rfl, rfl⟩ | exact Or.inr (Or.inl ⟨rfl, rfl⟩) | exact Or.inr (Or.inr (Or.inl ⟨rfl, rfl⟩)) | exact Or.inr (Or.inr (Or.inr ⟨rfl, rfl⟩)))) (fun _ h9 => zTL_mM 3 (by decide) (zBy (zBe (zBe (zBe (zBe (show _ = zbg ft en.toInt tA.toInt from hq2_2) hq5_km) hq14_km) hq23_km) hq32_km) hq42_k) (zBx (zBe (zBe (zBe (zBe (show _ = zbg ft en.toInt tA.toInt from hq2_2) hq5_km) hq14_km) hq23_km) hq32_km) hq42_km.1) (show zTX _ _ _ 5 _ _ from h9))⟩)⟩) hP hD
            · skip
              have w48 : 0 ≤ fl2_45.toInt := zB0 hq47_k
              refine lv_goto (tgt := 197) hx hb dX12_townLine_94 (by decide) ?_
              have hP : va_P g.1 vwCl (List.flatten [bMo g o a th hi ac tp (-1) en at2_44 fl2_45 de iD iO tU fm2_46 fk fa fc ft ff fb fi]) H := hP
              have hD : va_D A (List.flatten [bMo g o a th hi ac tp (-1) en at2_44 fl2_45 de iD iO tU fm2_46 fk fa fc ft ff fb fi]) := hD
              exact mret_v hx hb hr hlocks hS (Nat.le_of_ble_eq_true rfl) (Nat.le_of_ble_eq_true rfl) dX12_townLine_197 (at2_44, fl2_45, fm2_46) rfl (show (rM fm2_46) ∧ (0 ≤ at2_44.toInt ∧ at2_44.toInt ≤ en.toInt + 7 - de.toInt) ∧ (tA.toInt ≤ at2_44.toInt) ∧ ((fm2_46 0).toInt = (fm 0).toInt) ∧ (zTgm fm fm2_46) ∧ ((-1) = fl2_45 ∧ zTO (zTLine ft en.toInt (fm 3).toInt (fm 4).toInt (zbg ft en.toInt tA.toInt)) (zbg ft en.toInt at2_44.toInt) (fm 3).toInt (fm2_46 3).toInt (fm 4).toInt (fm2_46 4).toInt ∧ zTQ (zTLine ft en.toInt (fm 3).toInt (fm 4).toInt (zbg ft en.toInt tA.toInt)) ft (zbg ft en.toInt at2_44.toInt) (zSm fm) (zSm fm2_46) ∨ 0 ≤ fl2_45.toInt ∧ zTLine ft en.toInt (fm 3).toInt (fm 4).toInt (zbg ft en.toInt tA.toInt) (.bad fl2_45.toInt)) from ⟨(by first | assumption | omega | exact Or.inl (by decide) | exact Or.inr (by omega) | decide), (by first | assumption | omega | exact Or.inl (by decide) | exact Or.inr (by omega) | decide), (by first | assumption | omega | exact Or.inl (by decide) | exact Or.inr (by omega) | decide), (by first | assumption | omega | exact Or.inl (by decide) | exact Or.inr (by omega) | decide), hq47_4, (Or.inr ⟨(by omega), zTL_mM 3 (by decide) (zBy (zBe (zBe (zBe (zBe (show _ = zbg ft en.toInt tA.toInt from hq2_2) hq5_km) hq14_km) hq23_km) hq32_km) hq42_k) (zBx (zBe (zBe (zBe (zBe (show _ = zbg ft en.toInt tA.toInt from hq2_2) hq5_km) hq14_km) hq23_km) hq32_km) hq42_km.1) (show zTX _ _ _ 5 _ _ from (show zNN _ _ _ _ _ _ _ from zNN_bM (by decide) (by decide) hq47_km hq47_k))⟩)⟩) hP hD
          · skip
            refine lv_if_eq (tgt := 97) hx hb dX12_townLine_82 (by decide) (fun _ => ?_) (fun c49 => absurd (by decide) c49)
            refine lv_aload_n hx hb dX12_townLine_97 rfl (lv_at hl 1 rfl) ?_
            refine va_ldcS (q := g.2 80) hx hb hown (zra35 hT.2.1) dX12_townLine_98 ?_
            refine mcallV' (g := g) (q0 := 0) (ci := 10) (As := [.ref (g.2 80)]) (rest := []) St hK hT hA hP hD hS hl.1 [0] [] rfl rfl rfl (m_hasF l g o a th hi ac tp en at2_40 (-1) de iD iO tU fm fk fa fc ft ff fb fi (g.2 80) 35 zqa35 hen hq42_0 hde rfl zla35 zna35 (zlitB zla35)) (cwV 1 hts (zgL (zl4 k899 k900 k901 k839) k889) rfl rfl rfl (by decide +kernel) ⟨Nat.le_of_ble_eq_true rfl, Nat.le_of_ble_eq_true rfl⟩) rfl rfl rfl rfl (Nat.le_of_ble_eq_true rfl) dX12_townLine_100 ⟨(Nat.le_of_ble_eq_true rfl), (Nat.le_of_ble_eq_true rfl)⟩ (fun u_ H locs hq52 hP hD hS => ?_)
            obtain ⟨at2_50, r_51⟩ := u_
            replace hq52 : (0 ≤ at2_50.toInt ∧ at2_50.toInt ≤ en.toInt + 7 - de.toInt) ∧ (at2_40.toInt ≤ at2_50.toInt) ∧ (r_51 = 1 ∧ zisW ft en.toInt (zbg ft en.toInt at2_40.toInt) zqa35.2.2.2 ∧ at2_50.toInt = znx ft en.toInt (zbg ft en.toInt at2_40.toInt) ∧ at2_40.toInt < at2_50.toInt ∧ at2_50.toInt ≤ en.toInt ∨ r_51 = 0 ∧ ¬ zisW ft en.toInt (zbg ft en.toInt at2_40.toInt) zqa35.2.2.2 ∧ at2_50.toInt = zbg ft en.toInt at2_40.toInt) := hq52
            have hP : va_P g.1 vwCl (List.flatten [bMo g o a th hi ac tp (-1) en at2_50 (-1) de iD iO tU fm fk fa fc ft ff fb fi]) H := hP
            have hD : va_D A (List.flatten [bMo g o a th hi ac tp (-1) en at2_50 (-1) de iD iO tU fm fk fa fc ft ff fb fi]) := hD
            refine W.widen (k := 0) (n := 0) (Nat.le_of_ble_eq_true rfl) (Nat.le_of_ble_eq_true rfl) ?_
            refine W.eq (g2 := F0 m 103 ls [.int r_51]) rfl ?_
            obtain ⟨hq52_0, hq52_1, hq52_2⟩ := hq52
            rcases hq52_2 with ⟨rfl, hq52_k, hq52_km⟩ | ⟨rfl, hq52_k, hq52_km⟩
            · skip
              refine lv_if_eq (tgt := 118) hx hb dX12_townLine_103 (by decide) (fun c53 => absurd c53 (by decide)) (fun _ => ?_)
              refine lv_aload_n hx hb dX12_townLine_106 rfl (lv_at hl 1 rfl) ?_
              refine lv_bipush (v := 7) hx hb dX12_townLine_107 (by decide) ?_
              refine lv_iconst (v := 0) hx hb dX12_townLine_109 (by decide) ?_
              refine lv_bipush (v := 100) hx hb dX12_townLine_110 (by decide) ?_
              have hL0 : (0 : Int32).toInt = 0 := by decide
              have hL7 : (7 : Int32).toInt = 7 := by decide
              have hL100 : (100 : Int32).toInt = 100 := by decide
              refine mcallV' (g := g) (q0 := 0) (ci := 10) (As := [.int 7, .int 0, .int 100]) (rest := []) St hK hT hA hP hD hS hl.1 [0] [] rfl rfl rfl (m_tellsG l g o a th hi ac tp en at2_50 de iD iO tU fm fk fa fc ft ff fb fi 7 0 100 rfm hen hq52_0 hde (by first | assumption | omega | decide | exact Or.inl (by decide) | exact Or.inr (by decide))) (cwV 3 hts (zgL (zl4 k928 k929 k930 k839) k918) rfl rfl rfl (by decide +kernel) ⟨Nat.le_of_ble_eq_true rfl, Nat.le_of_ble_eq_true rfl⟩) rfl rfl rfl rfl (Nat.le_of_ble_eq_true rfl) dX12_townLine_112 ⟨(Nat.le_of_ble_eq_true rfl), (Nat.le_of_ble_eq_true rfl)⟩ (fun u_ H locs hq57 hP hD hS => ?_)
              obtain ⟨at2_54, fl2_55, fm2_56⟩ := u_
              replace hq57 : (rM fm2_56) ∧ (0 ≤ at2_54.toInt ∧ at2_54.toInt ≤ en.toInt + 7 - de.toInt) ∧ (at2_50.toInt ≤ at2_54.toInt) ∧ ((fm2_56 0).toInt = (fm 0).toInt ∧ (fm2_56 3).toInt = (fm 3).toInt ∧ (fm2_56 4).toInt = (fm 4).toInt) ∧ (zTgm fm fm2_56) ∧ ((-1) = fl2_55 ∧ (∃ v9, zNu ft en.toInt (zbg ft en.toInt at2_50.toInt) (0 : Int32).toInt (100 : Int32).toInt v9) ∧ at2_54.toInt = znx ft en.toInt (zbg ft en.toInt at2_50.toInt) ∧ (∃ v9, zNu ft en.toInt (zbg ft en.toInt at2_50.toInt) (0 : Int32).toInt (100 : Int32).toInt v9 ∧ fm2_56 = upd fm (7 : Int32).toInt.toNat v9) ∨ fl2_55.toInt = zbg ft en.toInt at2_50.toInt ∧ ¬ ∃ v9, zNu ft en.toInt (zbg ft en.toInt at2_50.toInt) (0 : Int32).toInt (100 : Int32).toInt v9) := hq57
              have hP : va_P g.1 vwCl (List.flatten [bMo g o a th hi ac tp (-1) en at2_54 fl2_55 de iD iO tU fm2_56 fk fa fc ft ff fb fi]) H := hP
              have hD : va_D A (List.flatten [bMo g o a th hi ac tp (-1) en at2_54 fl2_55 de iD iO tU fm2_56 fk fa fc ft ff fb fi]) := hD
              refine W.widen (k := 0) (n := 0) (Nat.le_of_ble_eq_true rfl) (Nat.le_of_ble_eq_true rfl) ?_
              refine W.eq (g2 := F0 m 115 ls []) rfl ?_
              obtain ⟨rfm2_56, hq57_1, hq57_2, hq57_3, hq57_4, hq57_5⟩ := hq57
              rcases hq57_5 with ⟨rfl, hq57_k, hq57_km, hq57_kc⟩ | ⟨hq57_k, hq57_km⟩
              · skip
                refine lv_goto (tgt := 197) hx hb dX12_townLine_115 (by decide) ?_
                have hP : va_P g.1 vwCl (List.flatten [bMo g o a th hi ac tp (-1) en at2_54 (-1) de iD iO tU fm2_56 fk fa fc ft ff fb fi]) H := hP
                have hD : va_D A (List.flatten [bMo g o a th hi ac tp (-1) en at2_54 (-1) de iD iO tU fm2_56 fk fa fc ft ff fb fi]) := hD
                exact mret_v hx hb hr hlocks hS (Nat.le_of_ble_eq_true rfl) (Nat.le_of_ble_eq_true rfl) dX12_townLine_197 (at2_54, -1, fm2_56) rfl (show (rM fm2_56) ∧ (0 ≤ at2_54.toInt ∧ at2_54.toInt ≤ en.toInt + 7 - de.toInt) ∧ (tA.toInt ≤ at2_54.toInt) ∧ ((fm2_56 0).toInt = (fm 0).toInt) ∧ (zTgm fm fm2_56) ∧ ((-1) = (-1) ∧ zTO (zTLine ft en.toInt (fm 3).toInt (fm 4).toInt (zbg ft en.toInt tA.toInt)) (zbg ft en.toInt at2_54.toInt) (fm 3).toInt (fm2_56 3).toInt (fm 4).toInt (fm2_56 4).toInt ∧ zTQ (zTLine ft en.toInt (fm 3).toInt (fm 4).toInt (zbg ft en.toInt tA.toInt)) ft (zbg ft en.toInt at2_54.toInt) (zSm fm) (zSm fm2_56) ∨ 0 ≤ ((-1) : Int32).toInt ∧ zTLine ft en.toInt (fm 3).toInt (fm 4).toInt (zbg ft en.toInt tA.toInt) (.bad ((-1) : Int32).toInt)) from ⟨(by first | assumption | omega | exact Or.inl (by decide) | exact Or.inr (by omega) | decide), (by first | assumption | omega | exact Or.inl (by decide) | exact Or.inr (by omega) | decide), (by first | assumption | omega | exact Or.inl (by decide) | exact Or.inr (by omega) | decide), (by first | assumption | omega | exact Or.inl (by decide) | exact Or.inr (by omega) | decide), hq57_4, (Or.inl ⟨rfl, zTO_i (zTO_o (lo := 0) (hi := 100) (k := 6) (by decide) (by decide) hq57_k hq57_km (by decide) (by decide) (by omega) (by omega)) (fun _ h9 => zTL_mM 4 (by decide) (zBy (zBe (zBe (zBe (zBe (zBe (show _ = zbg ft en.toInt tA.toInt from hq2_2) hq5_km) hq14_km) hq23_km) hq32_km) hq42_km) hq52_k) (zBx (zBe (zBe (zBe (zBe (zBe (show _ = zbg ft en.toInt tA.toInt from hq2_2) hq5_km) hq14_km) hq23_km) hq32_km) hq42_km) hq52_km.1) (show zTX _ _ _ 6 _ _ from h9)), zTQ_i (zTQ_o (lo := 0) (hi := 100) (k := 6) (by decide) (by decide) hq57_kc hq57_km (by first | exact Or.inl ⟨rfl, rfl⟩ | exact Or.inr (Or.inl ⟨rfl, rfl⟩) | exact Or.inr (Or.inr (Or.inl ⟨rfl, rfl⟩)) | exact Or.inr (Or.inr (Or.inr ⟨rfl, rfl⟩)))) (fun _ h9 => zTL_mM 4 (by decide) (zBy (zBe (zBe (zBe (zBe (zBe (show _ = zbg ft en.toInt tA.toInt from hq2_2) hq5_km) hq14_km) hq23_km) hq32_km) hq42_km) hq52_k) (zBx (zBe (zBe (zBe (zBe (zBe (show _ = zbg ft en.toInt tA.toInt from hq2_2) hq5_km) hq14_km) hq23_km) hq32_km) hq42_km) hq52_km.1) (show zTX _ _ _ 6 _ _ from h9))⟩)⟩) hP hD
              · skip
                have w58 : 0 ≤ fl2_55.toInt := zB0 hq57_k
                refine lv_goto (tgt := 197) hx hb dX12_townLine_115 (by decide) ?_
                have hP : va_P g.1 vwCl (List.flatten [bMo g o a th hi ac tp (-1) en at2_54 fl2_55 de iD iO tU fm2_56 fk fa fc ft ff fb fi]) H := hP
                have hD : va_D A (List.flatten [bMo g o a th hi ac tp (-1) en at2_54 fl2_55 de iD iO tU fm2_56 fk fa fc ft ff fb fi]) := hD
                exact mret_v hx hb hr hlocks hS (Nat.le_of_ble_eq_true rfl) (Nat.le_of_ble_eq_true rfl) dX12_townLine_197 (at2_54, fl2_55, fm2_56) rfl (show (rM fm2_56) ∧ (0 ≤ at2_54.toInt ∧ at2_54.toInt ≤ en.toInt + 7 - de.toInt) ∧ (tA.toInt ≤ at2_54.toInt) ∧ ((fm2_56 0).toInt = (fm 0).toInt) ∧ (zTgm fm fm2_56) ∧ ((-1) = fl2_55 ∧ zTO (zTLine ft en.toInt (fm 3).toInt (fm 4).toInt (zbg ft en.toInt tA.toInt)) (zbg ft en.toInt at2_54.toInt) (fm 3).toInt (fm2_56 3).toInt (fm 4).toInt (fm2_56 4).toInt ∧ zTQ (zTLine ft en.toInt (fm 3).toInt (fm 4).toInt (zbg ft en.toInt tA.toInt)) ft (zbg ft en.toInt at2_54.toInt) (zSm fm) (zSm fm2_56) ∨ 0 ≤ fl2_55.toInt ∧ zTLine ft en.toInt (fm 3).toInt (fm 4).toInt (zbg ft en.toInt tA.toInt) (.bad fl2_55.toInt)) from ⟨(by first | assumption | omega | exact Or.inl (by decide) | exact Or.inr (by omega) | decide), (by first | assumption | omega | exact Or.inl (by decide) | exact Or.inr (by omega) | decide), (by first | assumption | omega | exact Or.inl (by decide) | exact Or.inr (by omega) | decide), (by first | assumption | omega | exact Or.inl (by decide) | exact Or.inr (by omega) | decide), hq57_4, (Or.inr ⟨(by omega), zTL_mM 4 (by decide) (zBy (zBe (zBe (zBe (zBe (zBe (show _ = zbg ft en.toInt tA.toInt from hq2_2) hq5_km) hq14_km) hq23_km) hq32_km) hq42_km) hq52_k) (zBx (zBe (zBe (zBe (zBe (zBe (show _ = zbg ft en.toInt tA.toInt from hq2_2) hq5_km) hq14_km) hq23_km) hq32_km) hq42_km) hq52_km.1) (show zTX _ _ _ 6 _ _ from (show zNN _ _ _ _ _ _ _ from zNN_bM (by decide) (by decide) hq57_km hq57_k))⟩)⟩) hP hD
            · skip
              refine lv_if_eq (tgt := 118) hx hb dX12_townLine_103 (by decide) (fun _ => ?_) (fun c59 => absurd (by decide) c59)
              refine lv_aload_n hx hb dX12_townLine_118 rfl (lv_at hl 1 rfl) ?_
              refine va_ldcS (q := g.2 82) hx hb hown (zra36 hT.2.1) dX12_townLine_119 ?_
              refine mcallV' (g := g) (q0 := 0) (ci := 10) (As := [.ref (g.2 82)]) (rest := []) St hK hT hA hP hD hS hl.1 [0] [] rfl rfl rfl (m_hasF l g o a th hi ac tp en at2_50 (-1) de iD iO tU fm fk fa fc ft ff fb fi (g.2 82) 36 zqa36 hen hq52_0 hde rfl zla36 zna36 (zlitB zla36)) (cwV 1 hts (zgL (zl4 k899 k900 k901 k839) k889) rfl rfl rfl (by decide +kernel) ⟨Nat.le_of_ble_eq_true rfl, Nat.le_of_ble_eq_true rfl⟩) rfl rfl rfl rfl (Nat.le_of_ble_eq_true rfl) dX12_townLine_121 ⟨(Nat.le_of_ble_eq_true rfl), (Nat.le_of_ble_eq_true rfl)⟩ (fun u_ H locs hq62 hP hD hS => ?_)
              obtain ⟨at2_60, r_61⟩ := u_
              replace hq62 : (0 ≤ at2_60.toInt ∧ at2_60.toInt ≤ en.toInt + 7 - de.toInt) ∧ (at2_50.toInt ≤ at2_60.toInt) ∧ (r_61 = 1 ∧ zisW ft en.toInt (zbg ft en.toInt at2_50.toInt) zqa36.2.2.2 ∧ at2_60.toInt = znx ft en.toInt (zbg ft en.toInt at2_50.toInt) ∧ at2_50.toInt < at2_60.toInt ∧ at2_60.toInt ≤ en.toInt ∨ r_61 = 0 ∧ ¬ zisW ft en.toInt (zbg ft en.toInt at2_50.toInt) zqa36.2.2.2 ∧ at2_60.toInt = zbg ft en.toInt at2_50.toInt) := hq62
              have hP : va_P g.1 vwCl (List.flatten [bMo g o a th hi ac tp (-1) en at2_60 (-1) de iD iO tU fm fk fa fc ft ff fb fi]) H := hP
              have hD : va_D A (List.flatten [bMo g o a th hi ac tp (-1) en at2_60 (-1) de iD iO tU fm fk fa fc ft ff fb fi]) := hD
              refine W.widen (k := 0) (n := 0) (Nat.le_of_ble_eq_true rfl) (Nat.le_of_ble_eq_true rfl) ?_
              refine W.eq (g2 := F0 m 124 ls [.int r_61]) rfl ?_
              obtain ⟨hq62_0, hq62_1, hq62_2⟩ := hq62
              rcases hq62_2 with ⟨rfl, hq62_k, hq62_km⟩ | ⟨rfl, hq62_k, hq62_km⟩
              · skip
                refine lv_if_eq (tgt := 167) hx hb dX12_townLine_124 (by decide) (fun c63 => absurd c63 (by decide)) (fun _ => ?_)
                refine lv_aload_n hx hb dX12_townLine_127 rfl (lv_at hl 1 rfl) ?_
                refine lv_iconst (v := 0) hx hb dX12_townLine_128 (by decide) ?_
                refine lv_aload_n hx hb dX12_townLine_129 rfl (lv_at hl 1 rfl) ?_
                refine va_get (D := g.1) (ci := 10) (v := .ref (a 0)) (C := RX12) (T := TX12) (N := 20) hx hb hts izRX12 hown hK hP 0 rfl rfl 1 (by decide) (hts _ k815) (fun _ h9 => h9) rfl dX12_townLine_130 ?_
                refine lv_iconst (v := 3) hx hb dX12_townLine_133 (by decide) ?_
                refine va_iald hx hb hK hP 1 0 rfl rfl (zin rfl) dX12_townLine_134 ?_
                refine ztop (r := (fm 3)) rfl ?_
                refine lv_iconst (v := 1) hx hb dX12_townLine_135 (by decide) ?_
                refine lv_isub hx hb dX12_townLine_136 ?_
                refine zg3 (zsubK (i := (fm 3).toInt) (j := 1) (a' := (-1)) (b' := 7) rfl (by decide) (rM3 rfm).1 (rM3 rfm).2 (Int.le_refl _) (Int.le_refl _) (by decide)) (fun x_64 hx_64 => ?_)
                have hL0 : (0 : Int32).toInt = 0 := by decide
                refine mcallV' (g := g) (q0 := 0) (ci := 10) (As := [.int 0, .int x_64]) (rest := []) St hK hT hA hP hD hS hl.1 [0] [] rfl rfl rfl (m_figuresF l g o a th hi ac tp en at2_60 de iD iO tU fm fk fa fc ft ff fb fi 0 x_64 hen hq62_0 hde) (cwV 2 hts (zgL (zl4 k902 k903 k904 k839) k898) rfl rfl rfl (by decide +kernel) ⟨Nat.le_of_ble_eq_true rfl, Nat.le_of_ble_eq_true rfl⟩) rfl rfl rfl rfl (Nat.le_of_ble_eq_true rfl) dX12_townLine_137 ⟨(Nat.le_of_ble_eq_true rfl), (Nat.le_of_ble_eq_true rfl)⟩ (fun u_ H locs hq68 hP hD hS => ?_)
                obtain ⟨at2_65, fl2_66, r_67⟩ := u_
                replace hq68 : (0 ≤ at2_65.toInt ∧ at2_65.toInt ≤ en.toInt + 7 - de.toInt) ∧ (at2_60.toInt ≤ at2_65.toInt) ∧ (zNu ft en.toInt (zbg ft en.toInt at2_60.toInt) (0 : Int32).toInt x_64.toInt r_67 ∧ at2_65.toInt = znx ft en.toInt (zbg ft en.toInt at2_60.toInt) ∧ (-1) = fl2_66 ∨ fl2_66.toInt = zbg ft en.toInt at2_60.toInt ∧ ¬ ∃ v9, zNu ft en.toInt (zbg ft en.toInt at2_60.toInt) (0 : Int32).toInt x_64.toInt v9) := hq68
                have hP : va_P g.1 vwCl (List.flatten [bMo g o a th hi ac tp (-1) en at2_65 fl2_66 de iD iO tU fm fk fa fc ft ff fb fi]) H := hP
                have hD : va_D A (List.flatten [bMo g o a th hi ac tp (-1) en at2_65 fl2_66 de iD iO tU fm fk fa fc ft ff fb fi]) := hD
                refine W.widen (k := 0) (n := 0) (Nat.le_of_ble_eq_true rfl) (Nat.le_of_ble_eq_true rfl) ?_
                refine W.eq (g2 := F0 m 140 ls [.int r_67]) rfl ?_
                obtain ⟨hq68_0, hq68_1, hq68_2⟩ := hq68
                rcases hq68_2 with ⟨hq68_k, hq68_km, rfl⟩ | ⟨hq68_k, hq68_km⟩
                · skip
                  have w69 : 0 ≤ r_67.toInt ∧ r_67.toInt ≤ 7 := ⟨(by have h9 := hq68_k.2.2.1; omega), (by have h9 := hq68_k.2.2.2; omega)⟩
                  refine lv_istore_n (lv' := [(2, .int r_67), (1, .int at2_1), (0, .ref o)]) hx hb dX12_townLine_140 rfl hl (by decide) rfl (fun ls hl => ?_)
                  refine lv_aload_n hx hb dX12_townLine_141 rfl (lv_at hl 2 rfl) ?_
                  refine va_get (D := g.1) (ci := 10) (v := .int (-1)) (C := RX12) (T := TX12) (N := 20) hx hb hts izRX12 hown hK hP 0 rfl rfl 12 (by decide) (hts _ k820) (fun _ h9 => h9) rfl dX12_townLine_142 ?_
                  refine lv_iconst (v := (-1)) hx hb dX12_townLine_145 (by decide) ?_
                  refine lv_icmp_ne (tgt := 164) hx hb dX12_townLine_146 (by decide) (fun c70 => absurd (by decide) c70) (fun _ => ?_)
                  refine lv_aload_n hx hb dX12_townLine_149 rfl (lv_at hl 2 rfl) ?_
                  refine lv_bipush (v := 11) hx hb dX12_townLine_150 (by decide) ?_
                  refine lv_iconst (v := 5) hx hb dX12_townLine_152 (by decide) ?_
                  refine lv_iload_n hx hb dX12_townLine_153 rfl (lv_at hl 0 rfl) ?_
                  refine lv_imul hx hb dX12_townLine_154 ?_
                  refine zg3 (zmulKL (i := r_67.toInt) (n := 5) (a' := 0) (b' := 35) rfl (by decide) w69.1 w69.2 (by decide) (by decide)) (fun x_71 hx_71 => ?_)
                  refine lv_iadd hx hb dX12_townLine_155 ?_
                  refine zg3 (zaddK (i := 11) (j := x_71.toInt) (a' := 11) (b' := 46) (by decide) rfl (Int.le_refl _) (Int.le_refl _) hx_71.2.1 hx_71.2.2 (by decide)) (fun x_72 hx_72 => ?_)
                  refine lv_iconst (v := 2) hx hb dX12_townLine_156 (by decide) ?_
                  refine lv_iadd hx hb dX12_townLine_157 ?_
                  refine zg3 (zaddK (i := x_72.toInt) (j := 2) (a' := 13) (b' := 48) rfl (by decide) hx_72.2.1 hx_72.2.2 (Int.le_refl _) (Int.le_refl _) (by decide)) (fun x_73 hx_73 => ?_)
                  refine lv_iconst (v := 0) hx hb dX12_townLine_158 (by decide) ?_
                  refine lv_bipush (v := 99) hx hb dX12_townLine_159 (by decide) ?_
                  have hL99 : (99 : Int32).toInt = 99 := by decide
                  refine mcallV' (g := g) (q0 := 0) (ci := 10) (As := [.int x_73, .int 0, .int 99]) (rest := []) St hK hT hA hP hD hS hl.1 [0] [] rfl rfl rfl (m_tellsG l g o a th hi ac tp en at2_65 de iD iO tU fm fk fa fc ft ff fb fi x_73 0 99 rfm hen hq68_0 hde (by first | assumption | omega | decide | exact Or.inl (by decide) | exact Or.inr (by decide))) (cwV 3 hts (zgL (zl4 k928 k929 k930 k839) k918) rfl rfl rfl (by decide +kernel) ⟨Nat.le_of_ble_eq_true rfl, Nat.le_of_ble_eq_true rfl⟩) rfl rfl rfl rfl (Nat.le_of_ble_eq_true rfl) dX12_townLine_161 ⟨(Nat.le_of_ble_eq_true rfl), (Nat.le_of_ble_eq_true rfl)⟩ (fun u_ H locs hq77 hP hD hS => ?_)
                  obtain ⟨at2_74, fl2_75, fm2_76⟩ := u_
                  replace hq77 : (rM fm2_76) ∧ (0 ≤ at2_74.toInt ∧ at2_74.toInt ≤ en.toInt + 7 - de.toInt) ∧ (at2_65.toInt ≤ at2_74.toInt) ∧ ((fm2_76 0).toInt = (fm 0).toInt ∧ (fm2_76 3).toInt = (fm 3).toInt ∧ (fm2_76 4).toInt = (fm 4).toInt) ∧ (zTgm fm fm2_76) ∧ ((-1) = fl2_75 ∧ (∃ v9, zNu ft en.toInt (zbg ft en.toInt at2_65.toInt) (0 : Int32).toInt (99 : Int32).toInt v9) ∧ at2_74.toInt = znx ft en.toInt (zbg ft en.toInt at2_65.toInt) ∧ (∃ v9, zNu ft en.toInt (zbg ft en.toInt at2_65.toInt) (0 : Int32).toInt (99 : Int32).toInt v9 ∧ fm2_76 = upd fm x_73.toInt.toNat v9) ∨ fl2_75.toInt = zbg ft en.toInt at2_65.toInt ∧ ¬ ∃ v9, zNu ft en.toInt (zbg ft en.toInt at2_65.toInt) (0 : Int32).toInt (99 : Int32).toInt v9) := hq77
                  have hP : va_P g.1 vwCl (List.flatten [bMo g o a th hi ac tp (-1) en at2_74 fl2_75 de iD iO tU fm2_76 fk fa fc ft ff fb fi]) H := hP
                  have hD : va_D A (List.flatten [bMo g o a th hi ac tp (-1) en at2_74 fl2_75 de iD iO tU fm2_76 fk fa fc ft ff fb fi]) := hD
                  refine W.widen (k := 0) (n := 0) (Nat.le_of_ble_eq_true rfl) (Nat.le_of_ble_eq_true rfl) ?_
                  refine W.eq (g2 := F0 m 164 ls []) rfl ?_
                  obtain ⟨rfm2_76, hq77_1, hq77_2, hq77_3, hq77_4, hq77_5⟩ := hq77
                  rcases hq77_5 with ⟨rfl, hq77_k, hq77_km, hq77_kc⟩ | ⟨hq77_k, hq77_km⟩
                  · skip
                    refine lv_goto (tgt := 197) hx hb dX12_townLine_164 (by decide) ?_
                    have hP : va_P g.1 vwCl (List.flatten [bMo g o a th hi ac tp (-1) en at2_74 (-1) de iD iO tU fm2_76 fk fa fc ft ff fb fi]) H := hP
                    have hD : va_D A (List.flatten [bMo g o a th hi ac tp (-1) en at2_74 (-1) de iD iO tU fm2_76 fk fa fc ft ff fb fi]) := hD
                    exact mret_v hx hb hr hlocks hS (Nat.le_of_ble_eq_true rfl) (Nat.le_of_ble_eq_true rfl) dX12_townLine_197 (at2_74, -1, fm2_76) rfl (show (rM fm2_76) ∧ (0 ≤ at2_74.toInt ∧ at2_74.toInt ≤ en.toInt + 7 - de.toInt) ∧ (tA.toInt ≤ at2_74.toInt) ∧ ((fm2_76 0).toInt = (fm 0).toInt) ∧ (zTgm fm fm2_76) ∧ ((-1) = (-1) ∧ zTO (zTLine ft en.toInt (fm 3).toInt (fm 4).toInt (zbg ft en.toInt tA.toInt)) (zbg ft en.toInt at2_74.toInt) (fm 3).toInt (fm2_76 3).toInt (fm 4).toInt (fm2_76 4).toInt ∧ zTQ (zTLine ft en.toInt (fm 3).toInt (fm 4).toInt (zbg ft en.toInt tA.toInt)) ft (zbg ft en.toInt at2_74.toInt) (zSm fm) (zSm fm2_76) ∨ 0 ≤ ((-1) : Int32).toInt ∧ zTLine ft en.toInt (fm 3).toInt (fm 4).toInt (zbg ft en.toInt tA.toInt) (.bad ((-1) : Int32).toInt)) from ⟨(by first | assumption | omega | exact Or.inl (by decide) | exact Or.inr (by omega) | decide), (by first | assumption | omega | exact Or.inl (by decide) | exact Or.inr (by omega) | decide), (by first | assumption | omega | exact Or.inl (by decide) | exact Or.inr (by omega) | decide), (by first | assumption | omega | exact Or.inl (by decide) | exact Or.inr (by omega) | decide), hq77_4, (Or.inl ⟨rfl, zTO_i (zTO_s (by decide) (by omega) hq68_k hq68_km (by decide) (by decide) hq77_k hq77_km (by omega) (by omega)) (fun _ h9 => zTL_mM 1 (by decide) (zBy (zBe (zBe (zBe (zBe (zBe (zBe (show _ = zbg ft en.toInt tA.toInt from hq2_2) hq5_km) hq14_km) hq23_km) hq32_km) hq42_km) hq52_km) hq62_k) (zBx (zBe (zBe (zBe (zBe (zBe (zBe (show _ = zbg ft en.toInt tA.toInt from hq2_2) hq5_km) hq14_km) hq23_km) hq32_km) hq42_km) hq52_km) hq62_km.1) (show zTX _ _ _ 3 _ _ from h9)), zTQ_i (zTQ_s (by decide) (by omega) hq68_k hq68_km (by decide) (by decide) hq77_kc hq77_km (by omega) (by omega)) (fun _ h9 => zTL_mM 1 (by decide) (zBy (zBe (zBe (zBe (zBe (zBe (zBe (show _ = zbg ft en.toInt tA.toInt from hq2_2) hq5_km) hq14_km) hq23_km) hq32_km) hq42_km) hq52_km) hq62_k) (zBx (zBe (zBe (zBe (zBe (zBe (zBe (show _ = zbg ft en.toInt tA.toInt from hq2_2) hq5_km) hq14_km) hq23_km) hq32_km) hq42_km) hq52_km) hq62_km.1) (show zTX _ _ _ 3 _ _ from h9))⟩)⟩) hP hD
                  · skip
                    have w78 : 0 ≤ fl2_75.toInt := zB0 hq77_k
                    refine lv_goto (tgt := 197) hx hb dX12_townLine_164 (by decide) ?_
                    have hP : va_P g.1 vwCl (List.flatten [bMo g o a th hi ac tp (-1) en at2_74 fl2_75 de iD iO tU fm2_76 fk fa fc ft ff fb fi]) H := hP
                    have hD : va_D A (List.flatten [bMo g o a th hi ac tp (-1) en at2_74 fl2_75 de iD iO tU fm2_76 fk fa fc ft ff fb fi]) := hD
                    exact mret_v hx hb hr hlocks hS (Nat.le_of_ble_eq_true rfl) (Nat.le_of_ble_eq_true rfl) dX12_townLine_197 (at2_74, fl2_75, fm2_76) rfl (show (rM fm2_76) ∧ (0 ≤ at2_74.toInt ∧ at2_74.toInt ≤ en.toInt + 7 - de.toInt) ∧ (tA.toInt ≤ at2_74.toInt) ∧ ((fm2_76 0).toInt = (fm 0).toInt) ∧ (zTgm fm fm2_76) ∧ ((-1) = fl2_75 ∧ zTO (zTLine ft en.toInt (fm 3).toInt (fm 4).toInt (zbg ft en.toInt tA.toInt)) (zbg ft en.toInt at2_74.toInt) (fm 3).toInt (fm2_76 3).toInt (fm 4).toInt (fm2_76 4).toInt ∧ zTQ (zTLine ft en.toInt (fm 3).toInt (fm 4).toInt (zbg ft en.toInt tA.toInt)) ft (zbg ft en.toInt at2_74.toInt) (zSm fm) (zSm fm2_76) ∨ 0 ≤ fl2_75.toInt ∧ zTLine ft en.toInt (fm 3).toInt (fm 4).toInt (zbg ft en.toInt tA.toInt) (.bad fl2_75.toInt)) from ⟨(by first | assumption | omega | exact Or.inl (by decide) | exact Or.inr (by omega) | decide), (by first | assumption | omega | exact Or.inl (by decide) | exact Or.inr (by omega) | decide), (by first | assumption | omega | exact Or.inl (by decide) | exact Or.inr (by omega) | decide), (by first | assumption | omega | exact Or.inl (by decide) | exact Or.inr (by omega) | decide), hq77_4, (Or.inr ⟨(by omega), zTL_mM 1 (by decide) (zBy (zBe (zBe (zBe (zBe (zBe (zBe (show _ = zbg ft en.toInt tA.toInt from hq2_2) hq5_km) hq14_km) hq23_km) hq32_km) hq42_km) hq52_km) hq62_k) (zBx (zBe (zBe (zBe (zBe (zBe (zBe (show _ = zbg ft en.toInt tA.toInt from hq2_2) hq5_km) hq14_km) hq23_km) hq32_km) hq42_km) hq52_km) hq62_km.1) (show zTX _ _ _ 3 _ _ from (show zNN _ _ _ _ _ _ _ from zNN_yM (by decide) (by omega) hq68_k (show zNN _ _ _ _ _ _ _ from zNN_bM (by decide) (by decide) (zNn_b (zNt_b hq68_km) hq77_km) (hq77_k.trans (zNt_b hq68_km).symm))))⟩)⟩) hP hD
                · skip
                  have w79 : 0 ≤ fl2_66.toInt := zB0 hq68_k
                  refine lv_istore_n (lv' := [(2, .int r_67), (1, .int at2_1), (0, .ref o)]) hx hb dX12_townLine_140 rfl hl (by decide) rfl (fun ls hl => ?_)
                  refine lv_aload_n hx hb dX12_townLine_141 rfl (lv_at hl 2 rfl) ?_
                  refine va_get (D := g.1) (ci := 10) (v := .int fl2_66) (C := RX12) (T := TX12) (N := 20) hx hb hts izRX12 hown hK hP 0 rfl rfl 12 (by decide) (hts _ k820) (fun _ h9 => h9) rfl dX12_townLine_142 ?_
                  refine lv_iconst (v := (-1)) hx hb dX12_townLine_145 (by decide) ?_
                  refine lv_icmp_ne (tgt := 164) hx hb dX12_townLine_146 (by decide) (fun cb9 => ?_) (fun cb9 => ?_)
                  · skip
                    have c80 : ¬ fl2_66.toInt = (-1) := zne cb9 rfl (by decide)
                    refine lv_goto (tgt := 197) hx hb dX12_townLine_164 (by decide) ?_
                    have hP : va_P g.1 vwCl (List.flatten [bMo g o a th hi ac tp (-1) en at2_65 fl2_66 de iD iO tU fm fk fa fc ft ff fb fi]) H := hP
                    have hD : va_D A (List.flatten [bMo g o a th hi ac tp (-1) en at2_65 fl2_66 de iD iO tU fm fk fa fc ft ff fb fi]) := hD
                    exact mret_v hx hb hr hlocks hS (Nat.le_of_ble_eq_true rfl) (Nat.le_of_ble_eq_true rfl) dX12_townLine_197 (at2_65, fl2_66, fm) rfl (show (rM fm) ∧ (0 ≤ at2_65.toInt ∧ at2_65.toInt ≤ en.toInt + 7 - de.toInt) ∧ (tA.toInt ≤ at2_65.toInt) ∧ ((fm 0).toInt = (fm 0).toInt) ∧ (zTgm fm fm) ∧ ((-1) = fl2_66 ∧ zTO (zTLine ft en.toInt (fm 3).toInt (fm 4).toInt (zbg ft en.toInt tA.toInt)) (zbg ft en.toInt at2_65.toInt) (fm 3).toInt (fm 3).toInt (fm 4).toInt (fm 4).toInt ∧ zTQ (zTLine ft en.toInt (fm 3).toInt (fm 4).toInt (zbg ft en.toInt tA.toInt)) ft (zbg ft en.toInt at2_65.toInt) (zSm fm) (zSm fm) ∨ 0 ≤ fl2_66.toInt ∧ zTLine ft en.toInt (fm 3).toInt (fm 4).toInt (zbg ft en.toInt tA.toInt) (.bad fl2_66.toInt)) from ⟨(by first | assumption | omega | exact Or.inl (by decide) | exact Or.inr (by omega) | decide), (by first | assumption | omega | exact Or.inl (by decide) | exact Or.inr (by omega) | decide), (by first | assumption | omega | exact Or.inl (by decide) | exact Or.inr (by omega) | decide), (by first | assumption | omega | exact Or.inl (by decide) | exact Or.inr (by omega) | decide), (zTg_r _), (Or.inr ⟨(by omega), zTL_mM 1 (by decide) (zBy (zBe (zBe (zBe (zBe (zBe (zBe (show _ = zbg ft en.toInt tA.toInt from hq2_2) hq5_km) hq14_km) hq23_km) hq32_km) hq42_km) hq52_km) hq62_k) (zBx (zBe (zBe (zBe (zBe (zBe (zBe (show _ = zbg ft en.toInt tA.toInt from hq2_2) hq5_km) hq14_km) hq23_km) hq32_km) hq42_km) hq52_km) hq62_km.1) (show zTX _ _ _ 3 _ _ from (show zNN _ _ _ _ _ _ _ from zNN_bM (by decide) (by omega) hq68_km hq68_k))⟩)⟩) hP hD
                  · skip
                    exact absurd (show fl2_66.toInt = (-1) from zeq cb9 rfl (by decide)) (zDeq2 (a := 0) (b := (-1)) w79 (Int.le_refl _) (by decide))
              · skip
                refine lv_if_eq (tgt := 167) hx hb dX12_townLine_124 (by decide) (fun _ => ?_) (fun c82 => absurd (by decide) c82)
                refine lv_aload_n hx hb dX12_townLine_167 rfl (lv_at hl 1 rfl) ?_
                refine va_ldcS (q := g.2 84) hx hb hown (zra37 hT.2.1) dX12_townLine_168 ?_
                refine mcallV' (g := g) (q0 := 0) (ci := 10) (As := [.ref (g.2 84)]) (rest := []) St hK hT hA hP hD hS hl.1 [0] [] rfl rfl rfl (m_hasF l g o a th hi ac tp en at2_60 (-1) de iD iO tU fm fk fa fc ft ff fb fi (g.2 84) 37 zqa37 hen hq62_0 hde rfl zla37 zna37 (zlitB zla37)) (cwV 1 hts (zgL (zl4 k899 k900 k901 k839) k889) rfl rfl rfl (by decide +kernel) ⟨Nat.le_of_ble_eq_true rfl, Nat.le_of_ble_eq_true rfl⟩) rfl rfl rfl rfl (Nat.le_of_ble_eq_true rfl) dX12_townLine_170 ⟨(Nat.le_of_ble_eq_true rfl), (Nat.le_of_ble_eq_true rfl)⟩ (fun u_ H locs hq85 hP hD hS => ?_)
                obtain ⟨at2_83, r_84⟩ := u_
                replace hq85 : (0 ≤ at2_83.toInt ∧ at2_83.toInt ≤ en.toInt + 7 - de.toInt) ∧ (at2_60.toInt ≤ at2_83.toInt) ∧ (r_84 = 1 ∧ zisW ft en.toInt (zbg ft en.toInt at2_60.toInt) zqa37.2.2.2 ∧ at2_83.toInt = znx ft en.toInt (zbg ft en.toInt at2_60.toInt) ∧ at2_60.toInt < at2_83.toInt ∧ at2_83.toInt ≤ en.toInt ∨ r_84 = 0 ∧ ¬ zisW ft en.toInt (zbg ft en.toInt at2_60.toInt) zqa37.2.2.2 ∧ at2_83.toInt = zbg ft en.toInt at2_60.toInt) := hq85
                have hP : va_P g.1 vwCl (List.flatten [bMo g o a th hi ac tp (-1) en at2_83 (-1) de iD iO tU fm fk fa fc ft ff fb fi]) H := hP
                have hD : va_D A (List.flatten [bMo g o a th hi ac tp (-1) en at2_83 (-1) de iD iO tU fm fk fa fc ft ff fb fi]) := hD
                refine W.widen (k := 0) (n := 0) (Nat.le_of_ble_eq_true rfl) (Nat.le_of_ble_eq_true rfl) ?_
                refine W.eq (g2 := F0 m 173 ls [.int r_84]) rfl ?_
                obtain ⟨hq85_0, hq85_1, hq85_2⟩ := hq85
                rcases hq85_2 with ⟨rfl, hq85_k, hq85_km⟩ | ⟨rfl, hq85_k, hq85_km⟩
                · skip
                  refine lv_if_eq (tgt := 189) hx hb dX12_townLine_173 (by decide) (fun c86 => absurd c86 (by decide)) (fun _ => ?_)
                  refine lv_aload_n hx hb dX12_townLine_176 rfl (lv_at hl 1 rfl) ?_
                  refine lv_bipush (v := 8) hx hb dX12_townLine_177 (by decide) ?_
                  refine lv_iconst (v := 0) hx hb dX12_townLine_179 (by decide) ?_
                  refine lv_sipush (v := 999) hx hb dX12_townLine_180 (by decide) ?_
                  have hL0 : (0 : Int32).toInt = 0 := by decide
                  have hL8 : (8 : Int32).toInt = 8 := by decide
                  have hL999 : (999 : Int32).toInt = 999 := by decide
                  refine mcallV' (g := g) (q0 := 0) (ci := 10) (As := [.int 8, .int 0, .int 999]) (rest := []) St hK hT hA hP hD hS hl.1 [0] [] rfl rfl rfl (m_tellsG l g o a th hi ac tp en at2_83 de iD iO tU fm fk fa fc ft ff fb fi 8 0 999 rfm hen hq85_0 hde (by first | assumption | omega | decide | exact Or.inl (by decide) | exact Or.inr (by decide))) (cwV 3 hts (zgL (zl4 k928 k929 k930 k839) k918) rfl rfl rfl (by decide +kernel) ⟨Nat.le_of_ble_eq_true rfl, Nat.le_of_ble_eq_true rfl⟩) rfl rfl rfl rfl (Nat.le_of_ble_eq_true rfl) dX12_townLine_183 ⟨(Nat.le_of_ble_eq_true rfl), (Nat.le_of_ble_eq_true rfl)⟩ (fun u_ H locs hq90 hP hD hS => ?_)
                  obtain ⟨at2_87, fl2_88, fm2_89⟩ := u_
                  replace hq90 : (rM fm2_89) ∧ (0 ≤ at2_87.toInt ∧ at2_87.toInt ≤ en.toInt + 7 - de.toInt) ∧ (at2_83.toInt ≤ at2_87.toInt) ∧ ((fm2_89 0).toInt = (fm 0).toInt ∧ (fm2_89 3).toInt = (fm 3).toInt ∧ (fm2_89 4).toInt = (fm 4).toInt) ∧ (zTgm fm fm2_89) ∧ ((-1) = fl2_88 ∧ (∃ v9, zNu ft en.toInt (zbg ft en.toInt at2_83.toInt) (0 : Int32).toInt (999 : Int32).toInt v9) ∧ at2_87.toInt = znx ft en.toInt (zbg ft en.toInt at2_83.toInt) ∧ (∃ v9, zNu ft en.toInt (zbg ft en.toInt at2_83.toInt) (0 : Int32).toInt (999 : Int32).toInt v9 ∧ fm2_89 = upd fm (8 : Int32).toInt.toNat v9) ∨ fl2_88.toInt = zbg ft en.toInt at2_83.toInt ∧ ¬ ∃ v9, zNu ft en.toInt (zbg ft en.toInt at2_83.toInt) (0 : Int32).toInt (999 : Int32).toInt v9) := hq90
                  have hP : va_P g.1 vwCl (List.flatten [bMo g o a th hi ac tp (-1) en at2_87 fl2_88 de iD iO tU fm2_89 fk fa fc ft ff fb fi]) H := hP
                  have hD : va_D A (List.flatten [bMo g o a th hi ac tp (-1) en at2_87 fl2_88 de iD iO tU fm2_89 fk fa fc ft ff fb fi]) := hD
                  refine W.widen (k := 0) (n := 0) (Nat.le_of_ble_eq_true rfl) (Nat.le_of_ble_eq_true rfl) ?_
                  refine W.eq (g2 := F0 m 186 ls []) rfl ?_
                  obtain ⟨rfm2_89, hq90_1, hq90_2, hq90_3, hq90_4, hq90_5⟩ := hq90
                  rcases hq90_5 with ⟨rfl, hq90_k, hq90_km, hq90_kc⟩ | ⟨hq90_k, hq90_km⟩
                  · skip
                    refine lv_goto (tgt := 197) hx hb dX12_townLine_186 (by decide) ?_
                    have hP : va_P g.1 vwCl (List.flatten [bMo g o a th hi ac tp (-1) en at2_87 (-1) de iD iO tU fm2_89 fk fa fc ft ff fb fi]) H := hP
                    have hD : va_D A (List.flatten [bMo g o a th hi ac tp (-1) en at2_87 (-1) de iD iO tU fm2_89 fk fa fc ft ff fb fi]) := hD
                    exact mret_v hx hb hr hlocks hS (Nat.le_of_ble_eq_true rfl) (Nat.le_of_ble_eq_true rfl) dX12_townLine_197 (at2_87, -1, fm2_89) rfl (show (rM fm2_89) ∧ (0 ≤ at2_87.toInt ∧ at2_87.toInt ≤ en.toInt + 7 - de.toInt) ∧ (tA.toInt ≤ at2_87.toInt) ∧ ((fm2_89 0).toInt = (fm 0).toInt) ∧ (zTgm fm fm2_89) ∧ ((-1) = (-1) ∧ zTO (zTLine ft en.toInt (fm 3).toInt (fm 4).toInt (zbg ft en.toInt tA.toInt)) (zbg ft en.toInt at2_87.toInt) (fm 3).toInt (fm2_89 3).toInt (fm 4).toInt (fm2_89 4).toInt ∧ zTQ (zTLine ft en.toInt (fm 3).toInt (fm 4).toInt (zbg ft en.toInt tA.toInt)) ft (zbg ft en.toInt at2_87.toInt) (zSm fm) (zSm fm2_89) ∨ 0 ≤ ((-1) : Int32).toInt ∧ zTLine ft en.toInt (fm 3).toInt (fm 4).toInt (zbg ft en.toInt tA.toInt) (.bad ((-1) : Int32).toInt)) from ⟨(by first | assumption | omega | exact Or.inl (by decide) | exact Or.inr (by omega) | decide), (by first | assumption | omega | exact Or.inl (by decide) | exact Or.inr (by omega) | decide), (by first | assumption | omega | exact Or.inl (by decide) | exact Or.inr (by omega) | decide), (by first | assumption | omega | exact Or.inl (by decide) | exact Or.inr (by omega) | decide), hq90_4, (Or.inl ⟨rfl, zTO_i (zTO_o (lo := 0) (hi := 999) (k := 7) (by decide) (by decide) hq90_k hq90_km (by decide) (by decide) (by omega) (by omega)) (fun _ h9 => zTL_mM 5 (by decide) (zBy (zBe (zBe (zBe (zBe (zBe (zBe (zBe (show _ = zbg ft en.toInt tA.toInt from hq2_2) hq5_km) hq14_km) hq23_km) hq32_km) hq42_km) hq52_km) hq62_km) hq85_k) (zBx (zBe (zBe (zBe (zBe (zBe (zBe (zBe (show _ = zbg ft en.toInt tA.toInt from hq2_2) hq5_km) hq14_km) hq23_km) hq32_km) hq42_km) hq52_km) hq62_km) hq85_km.1) (show zTX _ _ _ 7 _ _ from h9)), zTQ_i (zTQ_o (lo := 0) (hi := 999) (k := 7) (by decide) (by decide) hq90_kc hq90_km (by first | exact Or.inl ⟨rfl, rfl⟩ | exact Or.inr (Or.inl ⟨rfl, rfl⟩) | exact Or.inr (Or.inr (Or.inl ⟨rfl, rfl⟩)) | exact Or.inr (Or.inr (Or.inr ⟨rfl, rfl⟩)))) (fun _ h9 => zTL_mM 5 (by decide) (zBy (zBe (zBe (zBe (zBe (zBe (zBe (zBe (show _ = zbg ft en.toInt tA.toInt from hq2_2) hq5_km) hq14_km) hq23_km) hq32_km) hq42_km) hq52_km) hq62_km) hq85_k) (zBx (zBe (zBe (zBe (zBe (zBe (zBe (zBe (show _ = zbg ft en.toInt tA.toInt from hq2_2) hq5_km) hq14_km) hq23_km) hq32_km) hq42_km) hq52_km) hq62_km) hq85_km.1) (show zTX _ _ _ 7 _ _ from h9))⟩)⟩) hP hD
                  · skip
                    have w91 : 0 ≤ fl2_88.toInt := zB0 hq90_k
                    refine lv_goto (tgt := 197) hx hb dX12_townLine_186 (by decide) ?_
                    have hP : va_P g.1 vwCl (List.flatten [bMo g o a th hi ac tp (-1) en at2_87 fl2_88 de iD iO tU fm2_89 fk fa fc ft ff fb fi]) H := hP
                    have hD : va_D A (List.flatten [bMo g o a th hi ac tp (-1) en at2_87 fl2_88 de iD iO tU fm2_89 fk fa fc ft ff fb fi]) := hD
                    exact mret_v hx hb hr hlocks hS (Nat.le_of_ble_eq_true rfl) (Nat.le_of_ble_eq_true rfl) dX12_townLine_197 (at2_87, fl2_88, fm2_89) rfl (show (rM fm2_89) ∧ (0 ≤ at2_87.toInt ∧ at2_87.toInt ≤ en.toInt + 7 - de.toInt) ∧ (tA.toInt ≤ at2_87.toInt) ∧ ((fm2_89 0).toInt = (fm 0).toInt) ∧ (zTgm fm fm2_89) ∧ ((-1) = fl2_88 ∧ zTO (zTLine ft en.toInt (fm 3).toInt (fm 4).toInt (zbg ft en.toInt tA.toInt)) (zbg ft en.toInt at2_87.toInt) (fm 3).toInt (fm2_89 3).toInt (fm 4).toInt (fm2_89 4).toInt ∧ zTQ (zTLine ft en.toInt (fm 3).toInt (fm 4).toInt (zbg ft en.toInt tA.toInt)) ft (zbg ft en.toInt at2_87.toInt) (zSm fm) (zSm fm2_89) ∨ 0 ≤ fl2_88.toInt ∧ zTLine ft en.toInt (fm 3).toInt (fm 4).toInt (zbg ft en.toInt tA.toInt) (.bad fl2_88.toInt)) from ⟨(by first | assumption | omega | exact Or.inl (by decide) | exact Or.inr (by omega) | decide), (by first | assumption | omega | exact Or.inl (by decide) | exact Or.inr (by omega) | decide), (by first | assumption | omega | exact Or.inl (by decide) | exact Or.inr (by omega) | decide), (by first | assumption | omega | exact Or.inl (by decide) | exact Or.inr (by omega) | decide), hq90_4, (Or.inr ⟨(by omega), zTL_mM 5 (by decide) (zBy (zBe (zBe (zBe (zBe (zBe (zBe (zBe (show _ = zbg ft en.toInt tA.toInt from hq2_2) hq5_km) hq14_km) hq23_km) hq32_km) hq42_km) hq52_km) hq62_km) hq85_k) (zBx (zBe (zBe (zBe (zBe (zBe (zBe (zBe (show _ = zbg ft en.toInt tA.toInt from hq2_2) hq5_km) hq14_km) hq23_km) hq32_km) hq42_km) hq52_km) hq62_km) hq85_km.1) (show zTX _ _ _ 7 _ _ from (show zNN _ _ _ _ _ _ _ from zNN_bM (by decide) (by decide) hq90_km hq90_k))⟩)⟩) hP hD
                · skip
                  refine lv_if_eq (tgt := 189) hx hb dX12_townLine_173 (by decide) (fun _ => ?_) (fun c92 => absurd (by decide) c92)
                  refine lv_aload_n hx hb dX12_townLine_189 rfl (lv_at hl 1 rfl) ?_
                  refine lv_aload_n hx hb dX12_townLine_190 rfl (lv_at hl 1 rfl) ?_
                  refine va_get (D := g.1) (ci := 10) (v := .int at2_83) (C := RX12) (T := TX12) (N := 20) hx hb hts izRX12 hown hK hP 0 rfl rfl 11 (by decide) (hts _ k878) (fun _ h9 => h9) rfl dX12_townLine_191 ?_
                  refine mcallV' (g := g) (q0 := 0) (ci := 10) (As := [.int at2_83]) (rest := []) St hK hT hA hP hD hS hl.1 [0] [] rfl rfl rfl (m_wrongF l g o a th hi ac tp (-1) en at2_83 de iD iO tU fm fk fa fc ft ff fb fi at2_83 ) (cwV 1 hts (zgL (zl4 k895 k896 k897 k839) k890) rfl rfl rfl (by decide +kernel) ⟨Nat.le_of_ble_eq_true rfl, Nat.le_of_ble_eq_true rfl⟩) rfl rfl rfl rfl (Nat.le_of_ble_eq_true rfl) dX12_townLine_194 ⟨(Nat.le_of_ble_eq_true rfl), (Nat.le_of_ble_eq_true rfl)⟩ (fun _u H locs hq93 hP hD hS => ?_)
                  have hP : va_P g.1 vwCl (List.flatten [bMo g o a th hi ac tp (-1) en at2_83 at2_83 de iD iO tU fm fk fa fc ft ff fb fi]) H := hP
                  have hD : va_D A (List.flatten [bMo g o a th hi ac tp (-1) en at2_83 at2_83 de iD iO tU fm fk fa fc ft ff fb fi]) := hD
                  refine W.widen (k := 0) (n := 0) (Nat.le_of_ble_eq_true rfl) (Nat.le_of_ble_eq_true rfl) ?_
                  refine W.eq (g2 := F0 m 197 ls []) rfl ?_
                  have hP : va_P g.1 vwCl (List.flatten [bMo g o a th hi ac tp (-1) en at2_83 at2_83 de iD iO tU fm fk fa fc ft ff fb fi]) H := hP
                  have hD : va_D A (List.flatten [bMo g o a th hi ac tp (-1) en at2_83 at2_83 de iD iO tU fm fk fa fc ft ff fb fi]) := hD
                  exact mret_v hx hb hr hlocks hS (Nat.le_of_ble_eq_true rfl) (Nat.le_of_ble_eq_true rfl) dX12_townLine_197 (at2_83, at2_83, fm) rfl (show (rM fm) ∧ (0 ≤ at2_83.toInt ∧ at2_83.toInt ≤ en.toInt + 7 - de.toInt) ∧ (tA.toInt ≤ at2_83.toInt) ∧ ((fm 0).toInt = (fm 0).toInt) ∧ (zTgm fm fm) ∧ ((-1) = at2_83 ∧ zTO (zTLine ft en.toInt (fm 3).toInt (fm 4).toInt (zbg ft en.toInt tA.toInt)) (zbg ft en.toInt at2_83.toInt) (fm 3).toInt (fm 3).toInt (fm 4).toInt (fm 4).toInt ∧ zTQ (zTLine ft en.toInt (fm 3).toInt (fm 4).toInt (zbg ft en.toInt tA.toInt)) ft (zbg ft en.toInt at2_83.toInt) (zSm fm) (zSm fm) ∨ 0 ≤ at2_83.toInt ∧ zTLine ft en.toInt (fm 3).toInt (fm 4).toInt (zbg ft en.toInt tA.toInt) (.bad at2_83.toInt)) from ⟨(by first | assumption | omega | exact Or.inl (by decide) | exact Or.inr (by omega) | decide), (by first | assumption | omega | exact Or.inl (by decide) | exact Or.inr (by omega) | decide), (by first | assumption | omega | exact Or.inl (by decide) | exact Or.inr (by omega) | decide), (by first | assumption | omega | exact Or.inl (by decide) | exact Or.inr (by omega) | decide), (zTg_r _), (Or.inr ⟨(by omega), zTL_no (zBe (zBe (zBe (zBe (zBe (zBe (zBe (zBe (show _ = zbg ft en.toInt tA.toInt from hq2_2) hq5_km) hq14_km) hq23_km) hq32_km) hq42_km) hq52_km) hq62_km) hq85_km) (zBw (show _ = zbg ft en.toInt tA.toInt from hq2_2) hq5_k) (zBw (zBe (zBe (show _ = zbg ft en.toInt tA.toInt from hq2_2) hq5_km) hq14_km) hq23_k) (zBw (zBe (show _ = zbg ft en.toInt tA.toInt from hq2_2) hq5_km) hq14_k) (zBw (zBe (zBe (zBe (zBe (zBe (zBe (show _ = zbg ft en.toInt tA.toInt from hq2_2) hq5_km) hq14_km) hq23_km) hq32_km) hq42_km) hq52_km) hq62_k) (zBw (zBe (zBe (zBe (show _ = zbg ft en.toInt tA.toInt from hq2_2) hq5_km) hq14_km) hq23_km) hq32_k) (zBw (zBe (zBe (zBe (zBe (show _ = zbg ft en.toInt tA.toInt from hq2_2) hq5_km) hq14_km) hq23_km) hq32_km) hq42_k) (zBw (zBe (zBe (zBe (zBe (zBe (show _ = zbg ft en.toInt tA.toInt from hq2_2) hq5_km) hq14_km) hq23_km) hq32_km) hq42_km) hq52_k) (zBw (zBe (zBe (zBe (zBe (zBe (zBe (zBe (show _ = zbg ft en.toInt tA.toInt from hq2_2) hq5_km) hq14_km) hq23_km) hq32_km) hq42_km) hq52_km) hq62_km) hq85_k)⟩)⟩) hP hD
