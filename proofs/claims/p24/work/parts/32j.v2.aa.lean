theorem zUpI {f : Nat → Int32} {j : Nat} {i v : Int32} (h : i.toInt = (j : Int)) : upd f i.toNatClampNeg v = upd f j v := by rw [zcl, h, Int.toNat_natCast]
theorem zFo_n {op : Int32 → Int32 → Int32} {g : Nat → Int32} {n k : Int32} {N : Nat} (h : n = zFo op g k.toInt.toNat) (e : k.toInt = (N : Int)) : n = zFo op g N := by rw [e, Int.toNat_natCast] at h; exact h
/-- beliefs and trusts within their bounds -/
def zRg (f : zRw) : Prop := (∀ x, x < 8 → 0 ≤ (f 0 x).toInt ∧ (f 0 x).toInt ≤ 99) ∧ ∀ x o, x < 8 → o < 8 → x ≠ o → 0 ≤ (f 5 (8 * x + o)).toInt ∧ (f 5 (8 * x + o)).toInt ≤ 9
theorem zRg_c {f f' : zRw} (h : zRg f) (e : zEq f f') : zRg f' := ⟨fun x hx => by rw [← e.1 0 x (by decide) hx]; exact h.1 x hx, fun x o hx ho hn => by rw [← e.2.1 x o hx ho hn]; exact h.2 x o hx ho hn⟩
theorem zmulB {a b : Int32} (ha : 0 ≤ a.toInt ∧ a.toInt ≤ 9) (hb : -99 ≤ b.toInt ∧ b.toInt ≤ 99) : (a * b).toInt = a.toInt * b.toInt ∧ -891 ≤ a.toInt * b.toInt ∧ a.toInt * b.toInt ≤ 891 := by
  have h1 : a.toInt * b.toInt ≤ 891 := by
    rcases (show b.toInt ≤ 0 ∨ 0 ≤ b.toInt by omega) with q | q
    · have := Int.mul_nonpos_of_nonneg_of_nonpos ha.1 q; omega
    · have := Int.mul_le_mul ha.2 hb.2 q (by decide : (0 : Int) ≤ 9); omega
  have h2 : -891 ≤ a.toInt * b.toInt := by
    rcases (show b.toInt ≤ 0 ∨ 0 ≤ b.toInt by omega) with q | q
    · have := Int.mul_le_mul ha.2 (show -b.toInt ≤ 99 by omega) (by omega) (by decide : (0 : Int) ≤ 9)
      rw [Int.mul_neg] at this; omega
    · have := Int.mul_nonneg ha.1 q; omega
  exact ⟨zmul rfl rfl (by omega), h2, h1⟩
theorem zPlS_b {f : zRw} {n x : Nat} (h : zRg f) (hx : x < 8) : ∀ k : Nat, k ≤ n → n ≤ 8 → -(891 * (k : Int)) ≤ (zSu (fun o => if o = x then 0 else if (f 3 o).toInt = -1 then f 5 (8 * x + o) * (f 0 o - f 0 x) else 0) k).toInt ∧ (zSu (fun o => if o = x then 0 else if (f 3 o).toInt = -1 then f 5 (8 * x + o) * (f 0 o - f 0 x) else 0) k).toInt ≤ 891 * (k : Int)
  | 0, _, _ => by
    show -(891 * ((0 : Nat) : Int)) ≤ (0 : Int32).toInt ∧ (0 : Int32).toInt ≤ 891 * ((0 : Nat) : Int)
    rw [zi0]; omega
  | k + 1, hk, hn => by
    have ih := zPlS_b h hx k (by omega) hn
    show -(891 * ((k + 1 : Nat) : Int)) ≤ (zSu _ k + (if k = x then 0 else if (f 3 k).toInt = -1 then f 5 (8 * x + k) * (f 0 k - f 0 x) else 0)).toInt ∧ (zSu _ k + (if k = x then 0 else if (f 3 k).toInt = -1 then f 5 (8 * x + k) * (f 0 k - f 0 x) else 0)).toInt ≤ 891 * ((k + 1 : Nat) : Int)
    have hg : -891 ≤ (if k = x then 0 else if (f 3 k).toInt = -1 then f 5 (8 * x + k) * (f 0 k - f 0 x) else 0 : Int32).toInt ∧ (if k = x then 0 else if (f 3 k).toInt = -1 then f 5 (8 * x + k) * (f 0 k - f 0 x) else 0 : Int32).toInt ≤ 891 := by
      by_cases q : k = x
      · rw [if_pos q, zi0]; omega
      · rw [if_neg q]
        by_cases p : (f 3 k).toInt = -1
        · rw [if_pos p]
          have a := h.1 k (by omega)
          have b := h.1 x hx
          have c := h.2 x k hx (by omega) (fun e => q e.symm)
          have d := zsub (x := f 0 k) (y := f 0 x) rfl rfl (by omega)
          have m := zmulB (b := f 0 k - f 0 x) c (by omega)
          rw [m.1]; exact m.2
        · rw [if_neg p, zi0]; omega
    rw [zadd rfl rfl (by omega)]
    omega
theorem zneg40 {x : Int32} (h : -1000000 ≤ x.toInt ∧ x.toInt < 0) : -(-x / 40) = x / 40 := by
  have h1 : (-x).toInt = -x.toInt := zneg rfl (by omega)
  apply Int32.toInt_inj.mp
  have e40 : (40 : Int32).toInt = 40 := by decide
  have d1 := Int32.toInt_div (-x) 40
  have d2 := Int32.toInt_div x 40
  rw [e40, h1] at d1
  rw [e40] at d2
  have t1 : (-x.toInt).tdiv 40 = -(x.toInt.tdiv 40) := Int.neg_tdiv ..
  have b1 : -1000000 ≤ x.toInt.tdiv 40 ∧ x.toInt.tdiv 40 ≤ 0 := by
    have := Int.neg_tdiv (-x.toInt) 40
    rw [Int.neg_neg] at this
    have q0 : 0 ≤ (-x.toInt).tdiv 40 := Int.tdiv_nonneg (by omega) (by decide)
    have q1 : (-x.toInt).tdiv 40 ≤ -x.toInt := Int.tdiv_le_self _ (by omega)
    omega
  rw [t1] at d1
  have m1 : (-(x.toInt.tdiv 40)).bmod (2 ^ 32) = -(x.toInt.tdiv 40) := zbm (by omega) (by omega)
  have m2 : (x.toInt.tdiv 40).bmod (2 ^ 32) = x.toInt.tdiv 40 := zbm (by omega) (by omega)
  rw [m1] at d1
  rw [m2] at d2
  rw [zneg rfl (by omega), d1, d2]; omega
theorem zpl_n {f : zRw} {n x : Nat} {a : Int32} (h : zRg f) (hx : x < 8) (hn : n ≤ 8) (e : a = zPlS f n x) (c : a.toInt < 0) : -(-a / 40) = zPull f n x := by
  have b := zPlS_b h hx n (Nat.le_refl _) hn
  unfold zPull
  rw [← e]
  refine zneg40 ⟨?_, c⟩
  rw [e]; unfold zPlS; omega
theorem zDw_u (sd : Int32) : ((zDr sd).toUInt32 >>> ((16 : Int32).toUInt32 &&& Int32.toUInt32 31)).toInt32 &&& 32767 = zDw sd := by
  unfold zDw
  rw [pk_and _ (m := 32767) 15 (by decide), pk_and _ (m := 32767) 15 (by decide)]
  refine congrArg nI ?_
  have a := pk_ushr (zDr sd) 16 16 (by decide)
  have b := pk_shr (zDr sd) ((16 : Int32) &&& 31) 16 (by decide)
  rw [a]
  generalize zDr sd = x at b ⊢
  have z : ∀ y : Int32, y.toBitVec.toNat = (y.toInt % 2 ^ 32).toNat := fun y => by
    have t := BitVec.toInt_eq_toNat_cond y.toBitVec
    have l := y.toBitVec.isLt
    show _ = (y.toBitVec.toInt % 2 ^ 32).toNat
    rw [t]
    split <;> omega
  have c := z (x >>> ((16 : Int32) &&& 31))
  have d := z x
  rw [c, b, d, Int.shiftRight_eq_div_pow]
  have h1 := Int32.toInt_lt x
  have h2 := Int32.le_toInt x
  omega
def zLo (m m2 : Nat → Int32) : Prop := ∀ i, (i < 139 ∨ 379 ≤ i) → ¬ i = 9 → m2 i = m i
theorem zLo_r (m : Nat → Int32) : zLo m m := fun _ _ _ => rfl
theorem zLo_u {m f f1 : Nat → Int32} {i : Nat} {v : Int32} (h : zLo m f) (e : f1 = upd f i v) (hi : i = 9 ∨ 139 ≤ i ∧ i < 379) : zLo m f1 := fun j a b => by
  rw [e, pk_un (by omega)]; exact h j a b
theorem zLo_v {m m2 : Nat → Int32} (h : zLo m m2) : zEq (zV m2) (zV m) := zV_of (fun i a b => h i (Or.inl (by omega)) (by omega))
/-- the works leave but the chest, the works, the log as it was -/
def zBk (m m2 : Nat → Int32) : Prop := ∀ i, (i < 115 ∨ 379 ≤ i) → ¬ i = 5 → ¬ i = 9 → m2 i = m i
theorem zBk_r (m : Nat → Int32) : zBk m m := fun _ _ _ _ => rfl
theorem zBk_u {m f f1 : Nat → Int32} {i : Nat} {v : Int32} (h : zBk m f) (e : f1 = upd f i v) (hi : i = 5 ∨ 115 ≤ i ∧ i < 379) : zBk m f1 := fun j a b c => by
  rw [e, pk_un (by omega)]; exact h j a b c
theorem zBk_l {m f f1 : Nat → Int32} (h : zBk m f) (e : zLo f f1) : zBk m f1 := fun j a b c => (e j (by omega) c).trans (h j a b c)
theorem zBk_bel {m m2 : Nat → Int32} {n : Nat} (h : zBk m m2) (hn : n ≤ 8) : zBel (zV m2) n = zBel (zV m) n := zFo_c n (fun i hi => by
  show (if (zV m2 3 i).toInt = -1 then zV m2 0 i else 0) = (if (zV m 3 i).toInt = -1 then zV m 0 i else 0)
  rw [show zV m2 3 i = zV m 3 i from h (15 + 5 * i) (by omega) (by omega) (by omega), show zV m2 0 i = zV m 0 i from h (11 + 5 * i) (by omega) (by omega) (by omega)])
theorem zKR_t {a b c : zKs} (h : zKR a b) (k : zKR b c) : zKR a c := ⟨h.1.trans k.1, zEq_t h.2.1 k.2.1, h.2.2.trans k.2.2⟩
theorem zKR_s {bl : Int32} {s a a' : zKs} {k k' : Int32} (h : zKR a (zIt (zKW1 bl) s k.toInt.toNat)) (hk : k'.toInt = k.toInt + 1) (h0 : 0 ≤ k.toInt) (h6 : k.toInt < 6) (e : zKR a' (zKW1 bl k.toInt.toNat a)) : zKR a' (zIt (zKW1 bl) s k'.toInt.toNat) := by
  rw [show k'.toInt.toNat = k.toInt.toNat + 1 by omega]
  exact zKR_t e (zKW1_c (by omega) h)
/-- one work of the model -/
theorem zMa1 {bl q : Int32} {m m1 m2 m3 : Nat → Int32} {w : Nat} (hw : w < 6) (h9 : (zV m 9 w).toInt = 0) (h7 : (zV m 7 w).toInt ≤ bl.toInt) (h6 : (zV m 6 w).toInt ≤ (m 5).toInt) (e1 : m1 = upd m 5 (m 5 - zV m 6 w)) (e2 : m2 = upd m1 (118 + 4 * w) 1) (e3 : zLo m2 m3) : zKR (m3 5, zV m3, q) (zKW1 bl w (m 5, zV m, q)) := by
  unfold zKW1
  rw [if_pos ⟨h9, h7, h6⟩]
  refine ⟨?_, ?_, rfl⟩
  · show m3 5 = m 5 - zV m 6 w
    rw [e3 5 (by omega) (by omega), e2, pk_un (by omega), e1, pk_us]
  · refine zEq_t (zLo_v e3) ?_
    rw [e2]
    refine zEq_t (zVp9 hw) (zSet_c ?_ rfl)
    rw [e1]; exact zVo (by omega)
theorem zMb1 {bl q : Int32} {m m2 m3 : Nat → Int32} {w : Nat} (hw : w < 6) (h9 : (zV m 9 w).toInt = 1) (h7 : bl.toInt < (zV m 7 w).toInt) (e2 : m2 = upd m (118 + 4 * w) 2) (e3 : zLo m2 m3) : zKR (m3 5, zV m3, q + 1) (zKW1 bl w (m 5, zV m, q)) := by
  rw [← zKb h9 h7 rfl]
  refine ⟨?_, ?_, rfl⟩
  · show m3 5 = m 5
    rw [e3 5 (by omega) (by omega), e2, pk_un (by omega)]
  · refine zEq_t (zLo_v e3) ?_
    rw [e2]; exact zVp9 hw
theorem zMc1 {bl q : Int32} {m m1 : Nat → Int32} {w : Nat} (h9 : (zV m 9 w).toInt = 1) (h7 : (zV m 7 w).toInt ≤ bl.toInt) (e1 : m1 = upd m 5 (zCap (m 5 + zV m 8 w))) : zKR (m1 5, zV m1, q) (zKW1 bl w (m 5, zV m, q)) := by
  rw [← zKc h9 (by omega)]
  refine ⟨by show m1 5 = _; rw [e1, pk_us], ?_, rfl⟩
  rw [e1]; exact zVo (by omega)
theorem zMn1 {bl q : Int32} {m : Nat → Int32} {w : Nat} (hA : ¬ ((zV m 9 w).toInt = 0 ∧ (zV m 7 w).toInt ≤ bl.toInt ∧ (zV m 6 w).toInt ≤ (m 5).toInt)) (hB : ¬ (zV m 9 w).toInt = 1) : zKR (m 5, zV m, q) (zKW1 bl w (m 5, zV m, q)) := by
  rw [← zKn hA hB]; exact ⟨rfl, zEq_r _, rfl⟩
/-- what days leave as it was -/
def zQk (m m2 : Nat → Int32) : Prop := ∀ i, (i < 9 ∨ 51 ≤ i ∧ i < 139 ∨ 379 ≤ i) → m2 i = m i
theorem zQk_r (m : Nat → Int32) : zQk m m := fun _ _ => rfl
theorem zQk_u {m f f1 : Nat → Int32} {i : Nat} {v : Int32} (h : zQk m f) (e : f1 = upd f i v) (hi : 9 ≤ i ∧ i < 51) : zQk m f1 := fun j a => by
  rw [e, pk_un (by omega)]; exact h j a
theorem zQk_l {m f f1 : Nat → Int32} (h : zQk m f) (e : zLo f f1) : zQk m f1 := fun j a => (e j (by omega) (by omega)).trans (h j a)
theorem zQk_t {m f f1 : Nat → Int32} (h : zQk m f) (e : zQk f f1) : zQk m f1 := fun j a => (e j a).trans (h j a)
theorem zCR_t {a b c : zCs} (h : zCR a b) (k : zCR b c) : zCR a c := ⟨zEq_t h.1 k.1, h.2.trans k.2⟩
theorem zSpM {x : Nat} {w : Bool} {o : Nat} {m m1 : Nat → Int32} {v : Int32} (hx : x < 8) (ho : o < 8) (h : ¬ o = x) (c : (zV m 3 o).toInt = -1) (e : m1 = upd m (11 + 5 * o) (zCl (zV m 0 o + v))) (hv : v = if w = true then zV m 5 (8 * o + x) else -zV m 5 (8 * o + x)) : zEq (zV m1) (zSp1 x w o (zV m)) := by
  subst hv; subst e
  have q : zSp1 x w o (zV m) = _ := (if_neg h).trans (if_pos c)
  rw [q]; exact zVp0 ho
theorem zSpM_s {x : Nat} {w : Bool} {s : zRw} {a a' : Nat → Int32} {k k' : Int32} (hx : x < 8) (h : zEq (zV a) (zIt (zSp1 x w) s k.toInt.toNat)) (hk : k'.toInt = k.toInt + 1) (h0 : 0 ≤ k.toInt) (h8 : k.toInt < 8) (e : zEq (zV a') (zSp1 x w k.toInt.toNat (zV a))) : zEq (zV a') (zIt (zSp1 x w) s k'.toInt.toNat) := by
  rw [show k'.toInt.toNat = k.toInt.toNat + 1 by omega]
  exact zEq_t e (zSp1_c hx (by omega) h)
theorem zRe0 {pe x : Nat} {m m1 : Nat → Int32} {tl : Int32} (hx : x < 8) (h3 : ¬ (zV m 3 x).toInt = -1) (hd : (zV m 3 x).toInt ≤ (m 8).toInt) (t : tl.toInt = 0) (e : m1 = upd m (15 + 5 * x) (-1)) : zCR (zV m1, m1 10) (zCB1 pe (m 8) (m 7) tl x (zV m, m 10)) := by
  rw [← zCBc h3 hd t rfl]
  refine ⟨?_, ?_⟩
  · rw [e]; exact zVp3 hx
  · show m1 10 = m 10
    rw [e, pk_un (by omega)]
theorem zRe1 {pe x : Nat} {w : Bool} {m m1 m2 m3 m4 m5 : Nat → Int32} {tl v : Int32} (hp : pe ≤ 8) (hx : x < 8) (h3 : ¬ (zV m 3 x).toInt = -1) (hd : (zV m 3 x).toInt ≤ (m 8).toInt) (t : ¬ tl.toInt = 0) (e1 : m1 = upd m 10 (zDr (m 10))) (hw : zWa (m 7) (m 10) = w) (e2 : zEq (zV m2) (zIt (zSp1 x w) (zV m1) pe)) (k2 : m2 10 = m1 10) (e3 : m3 = upd m2 (15 + 5 * x) (-1)) (e4 : m4 = upd m3 (11 + 5 * x) v) (hv : v = if w = true then 99 else 0) (e5 : zLo m4 m5) : zCR (zV m5, m5 10) (zCB1 pe (m 8) (m 7) tl x (zV m, m 10)) := by
  rw [← zCBd h3 hd t rfl hw rfl]
  refine ⟨?_, ?_⟩
  · refine zEq_t (zLo_v e5) ?_
    rw [e4]
    unfold zSpr
    refine zEq_t (zVp0 hx) (zSet_c ?_ hv)
    rw [e3, zSpI_t]
    refine zEq_t (zVp3 hx) (zSet_c (zEq_t e2 ?_) rfl)
    rw [e1]
    exact zIt_c (R := zEq) (F := zSp1 x w) (F' := zSp1 x w) (s := zV (upd m 10 (zDr (m 10)))) (s' := zV m) (zVo (by omega)) pe (fun k a a' hk h => zSp1_c hx (by omega) h)
  · show m5 10 = zDr (m 10)
    rw [e5 10 (by omega) (by omega), e4, pk_un (by omega), e3, pk_un (by omega), k2, e1, pk_us]
theorem zWaM_t {tr sd : Int32} (h : (zDw sd - zDw sd / 100 * 100).toInt < tr.toInt) : zWa tr sd = true := zWa_t h
set_option maxRecDepth 100000 in
set_option maxHeartbeats 4000000 in
theorem m_of0F (l : Launch) (g : zG) (o : Nat) (a : Nat → Nat) (th : Int32) (hi : Int32) (ac : Int32) (tp : Int32) (ba : Int32) (en : Int32) (tA : Int32) (fl : Int32) (de : Int32) (iD : Int32) (iO : Int32) (tU : Int32) (fm : Nat → Int32) (fk : Nat → Int32) (fa : Nat → Int32) (fc : Nat → Int32) (ft : Nat → Int32) (ff : Nat → Int32) (fb : Nat → Int32) (fi : Nat → Int32) (x : Int32) (b_x : 0 ≤ x.toInt ∧ x.toInt ≤ 7) : zM' g l yX12_of (Cond.code yX12_of cX12_of 3 (some .int) :: zB) ({ frames := 0, cells := 0, slots := 0, locals := 0 } : Room) [.ref o, .int x, .int 0] [bMo g o a th hi ac tp ba en tA fl de iD iO tU fm fk fa fc ft ff fb fi] (fun _ : Unit => some (.int (zV fm 0 x.toInt.toNat))) (fun _ : Unit => True) (fun _ : Unit => [bMo g o a th hi ac tp ba en tA fl de iD iO tU fm fk fa fc ft ff fb fi]) := by
  refine zM'.of (cc := cX12_of) (maxL := 3) (rt := (some .int)) (by decide) rfl (Nat.le_of_ble_eq_true rfl) ?_
  intro p e s m args below meth c A ls St hr hlocks hin hK hT hA hP hD hS hl
  obtain ⟨hx, hb, hml, hown, hts⟩ := id St
  have hl : lv_has ls 3 [(0, .ref o), (1, .int x), (2, .int 0)] := hl
  refine lv_aload_n hx hb dX12_of_0 rfl (lv_at hl 0 rfl) ?_
  refine va_get (D := g.1) (ci := 10) (v := .ref (a 0)) (C := RX12) (T := TX12) (N := 20) hx hb hts izRX12 hown hK hP 0 rfl rfl 1 (by decide) (hts _ k815) (fun _ h9 => h9) rfl dX12_of_1 ?_
  refine lv_bipush (v := 11) hx hb dX12_of_4 (by decide) ?_
  refine lv_iconst (v := 5) hx hb dX12_of_6 (by decide) ?_
  refine lv_iload_n hx hb dX12_of_7 rfl (lv_at hl 1 rfl) ?_
  refine lv_imul hx hb dX12_of_8 ?_
  refine zg3 (zmulKL (i := x.toInt) (n := 5) (a' := 0) (b' := 35) rfl (by decide) b_x.1 b_x.2 (by decide) (by decide)) (fun x_1 hx_1 => ?_)
  refine lv_iadd hx hb dX12_of_9 ?_
  refine zg3 (zaddK (i := 11) (j := x_1.toInt) (a' := 11) (b' := 46) (by decide) rfl (Int.le_refl _) (Int.le_refl _) hx_1.2.1 hx_1.2.2 (by decide)) (fun x_2 hx_2 => ?_)
  refine lv_iload_n hx hb dX12_of_10 rfl (lv_at hl 2 rfl) ?_
  refine lv_iadd hx hb dX12_of_11 ?_
  refine zg3 (zaddK (i := x_2.toInt) (j := 0) (a' := 11) (b' := 46) rfl (by decide) hx_2.2.1 hx_2.2.2 (Int.le_refl _) (Int.le_refl _) (by decide)) (fun x_3 hx_3 => ?_)
  refine va_iald hx hb hK hP 1 0 rfl rfl (zinK (a := 11) (b := 46) hx_3.2.1 hx_3.2.2 (by decide)) dX12_of_12 ?_
  refine ztop (r := (fm (11 + 5 * x.toInt.toNat))) (zixF (by omega)) ?_
  refine ztop (r := (zV fm 0 x.toInt.toNat)) rfl ?_
  have hP : va_P g.1 vwCl (List.flatten [bMo g o a th hi ac tp ba en tA fl de iD iO tU fm fk fa fc ft ff fb fi]) s.heap := hP
  have hD : va_D A (List.flatten [bMo g o a th hi ac tp ba en tA fl de iD iO tU fm fk fa fc ft ff fb fi]) := hD
  exact mret_i hx hb hr hlocks hS (Nat.le_of_ble_eq_true rfl) (Nat.le_of_ble_eq_true rfl) dX12_of_13 () rfl trivial hP hD
set_option maxRecDepth 100000 in
set_option maxHeartbeats 4000000 in
theorem m_put0F (l : Launch) (g : zG) (o : Nat) (a : Nat → Nat) (th : Int32) (hi : Int32) (ac : Int32) (tp : Int32) (ba : Int32) (en : Int32) (tA : Int32) (fl : Int32) (de : Int32) (iD : Int32) (iO : Int32) (tU : Int32) (fm : Nat → Int32) (fk : Nat → Int32) (fa : Nat → Int32) (fc : Nat → Int32) (ft : Nat → Int32) (ff : Nat → Int32) (fb : Nat → Int32) (fi : Nat → Int32) (x : Int32) (v : Int32) (rfm : rM fm) (b_x : 0 ≤ x.toInt ∧ x.toInt ≤ 7) : zM' g l yX12_put (Cond.code yX12_put cX12_put 4 none :: zB) ({ frames := 0, cells := 0, slots := 0, locals := 0 } : Room) [.ref o, .int x, .int 0, .int v] [bMo g o a th hi ac tp ba en tA fl de iD iO tU fm fk fa fc ft ff fb fi] (fun (fm2 : Nat → Int32) => none) (fun (fm2 : Nat → Int32) => (rM fm2) ∧ (fm2 = upd fm (11 + 5 * x.toInt.toNat) v)) (fun (fm2 : Nat → Int32) => [bMo g o a th hi ac tp ba en tA fl de iD iO tU fm2 fk fa fc ft ff fb fi]) := by
  refine zM'.of (cc := cX12_put) (maxL := 4) (rt := none) (by decide) rfl (Nat.le_of_ble_eq_true rfl) ?_
  intro p e s m args below meth c A ls St hr hlocks hin hK hT hA hP hD hS hl
  obtain ⟨hx, hb, hml, hown, hts⟩ := id St
  have hl : lv_has ls 4 [(0, .ref o), (1, .int x), (2, .int 0), (3, .int v)] := hl
  have hrm3 := rM3 rfm
  have hrm4 := rM4 rfm
  refine lv_aload_n hx hb dX12_put_0 rfl (lv_at hl 0 rfl) ?_
  refine va_get (D := g.1) (ci := 10) (v := .ref (a 0)) (C := RX12) (T := TX12) (N := 20) hx hb hts izRX12 hown hK hP 0 rfl rfl 1 (by decide) (hts _ k815) (fun _ h9 => h9) rfl dX12_put_1 ?_
  refine lv_bipush (v := 11) hx hb dX12_put_4 (by decide) ?_
  refine lv_iconst (v := 5) hx hb dX12_put_6 (by decide) ?_
  refine lv_iload_n hx hb dX12_put_7 rfl (lv_at hl 1 rfl) ?_
  refine lv_imul hx hb dX12_put_8 ?_
  refine zg3 (zmulKL (i := x.toInt) (n := 5) (a' := 0) (b' := 35) rfl (by decide) b_x.1 b_x.2 (by decide) (by decide)) (fun x_1 hx_1 => ?_)
  refine lv_iadd hx hb dX12_put_9 ?_
  refine zg3 (zaddK (i := 11) (j := x_1.toInt) (a' := 11) (b' := 46) (by decide) rfl (Int.le_refl _) (Int.le_refl _) hx_1.2.1 hx_1.2.2 (by decide)) (fun x_2 hx_2 => ?_)
  refine lv_iload_n hx hb dX12_put_10 rfl (lv_at hl 2 rfl) ?_
  refine lv_iadd hx hb dX12_put_11 ?_
  refine zg3 (zaddK (i := x_2.toInt) (j := 0) (a' := 11) (b' := 46) rfl (by decide) hx_2.2.1 hx_2.2.2 (Int.le_refl _) (Int.le_refl _) (by decide)) (fun x_3 hx_3 => ?_)
  refine lv_iload_n hx hb dX12_put_12 rfl (lv_at hl 3 rfl) ?_
  refine va_iast hx hb hK hP hD hS 1 0 rfl rfl (zinK (a := 11) (b := 46) hx_3.2.1 hx_3.2.2 (by decide)) dX12_put_13 (fun H locs hP hD hS => ?_)
  obtain ⟨fm_4, rfm_4, efm_4, hP, hD⟩ : ∃ fm_4 : Nat → Int32, rM fm_4 ∧ fm_4 = upd fm (11 + 5 * x.toInt.toNat) v ∧ va_P g.1 vwCl (List.flatten [bMo g o a th hi ac tp ba en tA fl de iD iO tU fm_4 fk fa fc ft ff fb fi]) H ∧ va_D A (List.flatten [bMo g o a th hi ac tp ba en tA fl de iD iO tU fm_4 fk fa fc ft ff fb fi]) := ⟨upd fm x_3.toNatClampNeg v, (rM_stB rfm hx_3.2.1), (zUpI (by omega)), hP, hD⟩
  have hP : va_P g.1 vwCl (List.flatten [bMo g o a th hi ac tp ba en tA fl de iD iO tU fm_4 fk fa fc ft ff fb fi]) H := hP
  have hD : va_D A (List.flatten [bMo g o a th hi ac tp ba en tA fl de iD iO tU fm_4 fk fa fc ft ff fb fi]) := hD
  exact mret_v hx hb hr hlocks hS (Nat.le_of_ble_eq_true rfl) (Nat.le_of_ble_eq_true rfl) dX12_put_14 (fm_4) rfl (show (rM fm_4) ∧ (fm_4 = upd fm (11 + 5 * x.toInt.toNat) v) from ⟨(by assumption), (by rw [efm_4])⟩) hP hD
set_option maxRecDepth 100000 in
set_option maxHeartbeats 4000000 in
theorem m_of1F (l : Launch) (g : zG) (o : Nat) (a : Nat → Nat) (th : Int32) (hi : Int32) (ac : Int32) (tp : Int32) (ba : Int32) (en : Int32) (tA : Int32) (fl : Int32) (de : Int32) (iD : Int32) (iO : Int32) (tU : Int32) (fm : Nat → Int32) (fk : Nat → Int32) (fa : Nat → Int32) (fc : Nat → Int32) (ft : Nat → Int32) (ff : Nat → Int32) (fb : Nat → Int32) (fi : Nat → Int32) (x : Int32) (b_x : 0 ≤ x.toInt ∧ x.toInt ≤ 7) : zM' g l yX12_of (Cond.code yX12_of cX12_of 3 (some .int) :: zB) ({ frames := 0, cells := 0, slots := 0, locals := 0 } : Room) [.ref o, .int x, .int 1] [bMo g o a th hi ac tp ba en tA fl de iD iO tU fm fk fa fc ft ff fb fi] (fun _ : Unit => some (.int (zV fm 1 x.toInt.toNat))) (fun _ : Unit => True) (fun _ : Unit => [bMo g o a th hi ac tp ba en tA fl de iD iO tU fm fk fa fc ft ff fb fi]) := by
  refine zM'.of (cc := cX12_of) (maxL := 3) (rt := (some .int)) (by decide) rfl (Nat.le_of_ble_eq_true rfl) ?_
  intro p e s m args below meth c A ls St hr hlocks hin hK hT hA hP hD hS hl
  obtain ⟨hx, hb, hml, hown, hts⟩ := id St
  have hl : lv_has ls 3 [(0, .ref o), (1, .int x), (2, .int 1)] := hl
  refine lv_aload_n hx hb dX12_of_0 rfl (lv_at hl 0 rfl) ?_
  refine va_get (D := g.1) (ci := 10) (v := .ref (a 0)) (C := RX12) (T := TX12) (N := 20) hx hb hts izRX12 hown hK hP 0 rfl rfl 1 (by decide) (hts _ k815) (fun _ h9 => h9) rfl dX12_of_1 ?_
  refine lv_bipush (v := 11) hx hb dX12_of_4 (by decide) ?_
  refine lv_iconst (v := 5) hx hb dX12_of_6 (by decide) ?_
  refine lv_iload_n hx hb dX12_of_7 rfl (lv_at hl 1 rfl) ?_
  refine lv_imul hx hb dX12_of_8 ?_
  refine zg3 (zmulKL (i := x.toInt) (n := 5) (a' := 0) (b' := 35) rfl (by decide) b_x.1 b_x.2 (by decide) (by decide)) (fun x_1 hx_1 => ?_)
  refine lv_iadd hx hb dX12_of_9 ?_
  refine zg3 (zaddK (i := 11) (j := x_1.toInt) (a' := 11) (b' := 46) (by decide) rfl (Int.le_refl _) (Int.le_refl _) hx_1.2.1 hx_1.2.2 (by decide)) (fun x_2 hx_2 => ?_)
  refine lv_iload_n hx hb dX12_of_10 rfl (lv_at hl 2 rfl) ?_
  refine lv_iadd hx hb dX12_of_11 ?_
  refine zg3 (zaddK (i := x_2.toInt) (j := 1) (a' := 12) (b' := 47) rfl (by decide) hx_2.2.1 hx_2.2.2 (Int.le_refl _) (Int.le_refl _) (by decide)) (fun x_3 hx_3 => ?_)
  refine va_iald hx hb hK hP 1 0 rfl rfl (zinK (a := 12) (b := 47) hx_3.2.1 hx_3.2.2 (by decide)) dX12_of_12 ?_
  refine ztop (r := (fm (12 + 5 * x.toInt.toNat))) (zixF (by omega)) ?_
  refine ztop (r := (zV fm 1 x.toInt.toNat)) rfl ?_
  have hP : va_P g.1 vwCl (List.flatten [bMo g o a th hi ac tp ba en tA fl de iD iO tU fm fk fa fc ft ff fb fi]) s.heap := hP
  have hD : va_D A (List.flatten [bMo g o a th hi ac tp ba en tA fl de iD iO tU fm fk fa fc ft ff fb fi]) := hD
  exact mret_i hx hb hr hlocks hS (Nat.le_of_ble_eq_true rfl) (Nat.le_of_ble_eq_true rfl) dX12_of_13 () rfl trivial hP hD
set_option maxRecDepth 100000 in
set_option maxHeartbeats 4000000 in
theorem m_put1F (l : Launch) (g : zG) (o : Nat) (a : Nat → Nat) (th : Int32) (hi : Int32) (ac : Int32) (tp : Int32) (ba : Int32) (en : Int32) (tA : Int32) (fl : Int32) (de : Int32) (iD : Int32) (iO : Int32) (tU : Int32) (fm : Nat → Int32) (fk : Nat → Int32) (fa : Nat → Int32) (fc : Nat → Int32) (ft : Nat → Int32) (ff : Nat → Int32) (fb : Nat → Int32) (fi : Nat → Int32) (x : Int32) (v : Int32) (rfm : rM fm) (b_x : 0 ≤ x.toInt ∧ x.toInt ≤ 7) : zM' g l yX12_put (Cond.code yX12_put cX12_put 4 none :: zB) ({ frames := 0, cells := 0, slots := 0, locals := 0 } : Room) [.ref o, .int x, .int 1, .int v] [bMo g o a th hi ac tp ba en tA fl de iD iO tU fm fk fa fc ft ff fb fi] (fun (fm2 : Nat → Int32) => none) (fun (fm2 : Nat → Int32) => (rM fm2) ∧ (fm2 = upd fm (12 + 5 * x.toInt.toNat) v)) (fun (fm2 : Nat → Int32) => [bMo g o a th hi ac tp ba en tA fl de iD iO tU fm2 fk fa fc ft ff fb fi]) := by
  refine zM'.of (cc := cX12_put) (maxL := 4) (rt := none) (by decide) rfl (Nat.le_of_ble_eq_true rfl) ?_
  intro p e s m args below meth c A ls St hr hlocks hin hK hT hA hP hD hS hl
  obtain ⟨hx, hb, hml, hown, hts⟩ := id St
  have hl : lv_has ls 4 [(0, .ref o), (1, .int x), (2, .int 1), (3, .int v)] := hl
  have hrm3 := rM3 rfm
  have hrm4 := rM4 rfm
  refine lv_aload_n hx hb dX12_put_0 rfl (lv_at hl 0 rfl) ?_
  refine va_get (D := g.1) (ci := 10) (v := .ref (a 0)) (C := RX12) (T := TX12) (N := 20) hx hb hts izRX12 hown hK hP 0 rfl rfl 1 (by decide) (hts _ k815) (fun _ h9 => h9) rfl dX12_put_1 ?_
  refine lv_bipush (v := 11) hx hb dX12_put_4 (by decide) ?_
  refine lv_iconst (v := 5) hx hb dX12_put_6 (by decide) ?_
  refine lv_iload_n hx hb dX12_put_7 rfl (lv_at hl 1 rfl) ?_
  refine lv_imul hx hb dX12_put_8 ?_
  refine zg3 (zmulKL (i := x.toInt) (n := 5) (a' := 0) (b' := 35) rfl (by decide) b_x.1 b_x.2 (by decide) (by decide)) (fun x_1 hx_1 => ?_)
  refine lv_iadd hx hb dX12_put_9 ?_
  refine zg3 (zaddK (i := 11) (j := x_1.toInt) (a' := 11) (b' := 46) (by decide) rfl (Int.le_refl _) (Int.le_refl _) hx_1.2.1 hx_1.2.2 (by decide)) (fun x_2 hx_2 => ?_)
  refine lv_iload_n hx hb dX12_put_10 rfl (lv_at hl 2 rfl) ?_
  refine lv_iadd hx hb dX12_put_11 ?_
  refine zg3 (zaddK (i := x_2.toInt) (j := 1) (a' := 12) (b' := 47) rfl (by decide) hx_2.2.1 hx_2.2.2 (Int.le_refl _) (Int.le_refl _) (by decide)) (fun x_3 hx_3 => ?_)
  refine lv_iload_n hx hb dX12_put_12 rfl (lv_at hl 3 rfl) ?_
  refine va_iast hx hb hK hP hD hS 1 0 rfl rfl (zinK (a := 12) (b := 47) hx_3.2.1 hx_3.2.2 (by decide)) dX12_put_13 (fun H locs hP hD hS => ?_)
  obtain ⟨fm_4, rfm_4, efm_4, hP, hD⟩ : ∃ fm_4 : Nat → Int32, rM fm_4 ∧ fm_4 = upd fm (12 + 5 * x.toInt.toNat) v ∧ va_P g.1 vwCl (List.flatten [bMo g o a th hi ac tp ba en tA fl de iD iO tU fm_4 fk fa fc ft ff fb fi]) H ∧ va_D A (List.flatten [bMo g o a th hi ac tp ba en tA fl de iD iO tU fm_4 fk fa fc ft ff fb fi]) := ⟨upd fm x_3.toNatClampNeg v, (rM_stB rfm (Int.le_trans (by decide) hx_3.2.1)), (zUpI (by omega)), hP, hD⟩
  have hP : va_P g.1 vwCl (List.flatten [bMo g o a th hi ac tp ba en tA fl de iD iO tU fm_4 fk fa fc ft ff fb fi]) H := hP
  have hD : va_D A (List.flatten [bMo g o a th hi ac tp ba en tA fl de iD iO tU fm_4 fk fa fc ft ff fb fi]) := hD
  exact mret_v hx hb hr hlocks hS (Nat.le_of_ble_eq_true rfl) (Nat.le_of_ble_eq_true rfl) dX12_put_14 (fm_4) rfl (show (rM fm_4) ∧ (fm_4 = upd fm (12 + 5 * x.toInt.toNat) v) from ⟨(by assumption), (by rw [efm_4])⟩) hP hD
set_option maxRecDepth 100000 in
set_option maxHeartbeats 4000000 in
theorem m_of2F (l : Launch) (g : zG) (o : Nat) (a : Nat → Nat) (th : Int32) (hi : Int32) (ac : Int32) (tp : Int32) (ba : Int32) (en : Int32) (tA : Int32) (fl : Int32) (de : Int32) (iD : Int32) (iO : Int32) (tU : Int32) (fm : Nat → Int32) (fk : Nat → Int32) (fa : Nat → Int32) (fc : Nat → Int32) (ft : Nat → Int32) (ff : Nat → Int32) (fb : Nat → Int32) (fi : Nat → Int32) (x : Int32) (b_x : 0 ≤ x.toInt ∧ x.toInt ≤ 7) : zM' g l yX12_of (Cond.code yX12_of cX12_of 3 (some .int) :: zB) ({ frames := 0, cells := 0, slots := 0, locals := 0 } : Room) [.ref o, .int x, .int 2] [bMo g o a th hi ac tp ba en tA fl de iD iO tU fm fk fa fc ft ff fb fi] (fun _ : Unit => some (.int (zV fm 2 x.toInt.toNat))) (fun _ : Unit => True) (fun _ : Unit => [bMo g o a th hi ac tp ba en tA fl de iD iO tU fm fk fa fc ft ff fb fi]) := by
  refine zM'.of (cc := cX12_of) (maxL := 3) (rt := (some .int)) (by decide) rfl (Nat.le_of_ble_eq_true rfl) ?_
  intro p e s m args below meth c A ls St hr hlocks hin hK hT hA hP hD hS hl
  obtain ⟨hx, hb, hml, hown, hts⟩ := id St
  have hl : lv_has ls 3 [(0, .ref o), (1, .int x), (2, .int 2)] := hl
  refine lv_aload_n hx hb dX12_of_0 rfl (lv_at hl 0 rfl) ?_
  refine va_get (D := g.1) (ci := 10) (v := .ref (a 0)) (C := RX12) (T := TX12) (N := 20) hx hb hts izRX12 hown hK hP 0 rfl rfl 1 (by decide) (hts _ k815) (fun _ h9 => h9) rfl dX12_of_1 ?_
  refine lv_bipush (v := 11) hx hb dX12_of_4 (by decide) ?_
  refine lv_iconst (v := 5) hx hb dX12_of_6 (by decide) ?_
  refine lv_iload_n hx hb dX12_of_7 rfl (lv_at hl 1 rfl) ?_
  refine lv_imul hx hb dX12_of_8 ?_
  refine zg3 (zmulKL (i := x.toInt) (n := 5) (a' := 0) (b' := 35) rfl (by decide) b_x.1 b_x.2 (by decide) (by decide)) (fun x_1 hx_1 => ?_)
  refine lv_iadd hx hb dX12_of_9 ?_
  refine zg3 (zaddK (i := 11) (j := x_1.toInt) (a' := 11) (b' := 46) (by decide) rfl (Int.le_refl _) (Int.le_refl _) hx_1.2.1 hx_1.2.2 (by decide)) (fun x_2 hx_2 => ?_)
  refine lv_iload_n hx hb dX12_of_10 rfl (lv_at hl 2 rfl) ?_
  refine lv_iadd hx hb dX12_of_11 ?_
  refine zg3 (zaddK (i := x_2.toInt) (j := 2) (a' := 13) (b' := 48) rfl (by decide) hx_2.2.1 hx_2.2.2 (Int.le_refl _) (Int.le_refl _) (by decide)) (fun x_3 hx_3 => ?_)
  refine va_iald hx hb hK hP 1 0 rfl rfl (zinK (a := 13) (b := 48) hx_3.2.1 hx_3.2.2 (by decide)) dX12_of_12 ?_
  refine ztop (r := (fm (13 + 5 * x.toInt.toNat))) (zixF (by omega)) ?_
  refine ztop (r := (zV fm 2 x.toInt.toNat)) rfl ?_
  have hP : va_P g.1 vwCl (List.flatten [bMo g o a th hi ac tp ba en tA fl de iD iO tU fm fk fa fc ft ff fb fi]) s.heap := hP
  have hD : va_D A (List.flatten [bMo g o a th hi ac tp ba en tA fl de iD iO tU fm fk fa fc ft ff fb fi]) := hD
  exact mret_i hx hb hr hlocks hS (Nat.le_of_ble_eq_true rfl) (Nat.le_of_ble_eq_true rfl) dX12_of_13 () rfl trivial hP hD
set_option maxRecDepth 100000 in
set_option maxHeartbeats 4000000 in
theorem m_put2F (l : Launch) (g : zG) (o : Nat) (a : Nat → Nat) (th : Int32) (hi : Int32) (ac : Int32) (tp : Int32) (ba : Int32) (en : Int32) (tA : Int32) (fl : Int32) (de : Int32) (iD : Int32) (iO : Int32) (tU : Int32) (fm : Nat → Int32) (fk : Nat → Int32) (fa : Nat → Int32) (fc : Nat → Int32) (ft : Nat → Int32) (ff : Nat → Int32) (fb : Nat → Int32) (fi : Nat → Int32) (x : Int32) (v : Int32) (rfm : rM fm) (b_x : 0 ≤ x.toInt ∧ x.toInt ≤ 7) : zM' g l yX12_put (Cond.code yX12_put cX12_put 4 none :: zB) ({ frames := 0, cells := 0, slots := 0, locals := 0 } : Room) [.ref o, .int x, .int 2, .int v] [bMo g o a th hi ac tp ba en tA fl de iD iO tU fm fk fa fc ft ff fb fi] (fun (fm2 : Nat → Int32) => none) (fun (fm2 : Nat → Int32) => (rM fm2) ∧ (fm2 = upd fm (13 + 5 * x.toInt.toNat) v)) (fun (fm2 : Nat → Int32) => [bMo g o a th hi ac tp ba en tA fl de iD iO tU fm2 fk fa fc ft ff fb fi]) := by
  refine zM'.of (cc := cX12_put) (maxL := 4) (rt := none) (by decide) rfl (Nat.le_of_ble_eq_true rfl) ?_
  intro p e s m args below meth c A ls St hr hlocks hin hK hT hA hP hD hS hl
  obtain ⟨hx, hb, hml, hown, hts⟩ := id St
  have hl : lv_has ls 4 [(0, .ref o), (1, .int x), (2, .int 2), (3, .int v)] := hl
  have hrm3 := rM3 rfm
  have hrm4 := rM4 rfm
  refine lv_aload_n hx hb dX12_put_0 rfl (lv_at hl 0 rfl) ?_
  refine va_get (D := g.1) (ci := 10) (v := .ref (a 0)) (C := RX12) (T := TX12) (N := 20) hx hb hts izRX12 hown hK hP 0 rfl rfl 1 (by decide) (hts _ k815) (fun _ h9 => h9) rfl dX12_put_1 ?_
  refine lv_bipush (v := 11) hx hb dX12_put_4 (by decide) ?_
  refine lv_iconst (v := 5) hx hb dX12_put_6 (by decide) ?_
  refine lv_iload_n hx hb dX12_put_7 rfl (lv_at hl 1 rfl) ?_
  refine lv_imul hx hb dX12_put_8 ?_
  refine zg3 (zmulKL (i := x.toInt) (n := 5) (a' := 0) (b' := 35) rfl (by decide) b_x.1 b_x.2 (by decide) (by decide)) (fun x_1 hx_1 => ?_)
  refine lv_iadd hx hb dX12_put_9 ?_
  refine zg3 (zaddK (i := 11) (j := x_1.toInt) (a' := 11) (b' := 46) (by decide) rfl (Int.le_refl _) (Int.le_refl _) hx_1.2.1 hx_1.2.2 (by decide)) (fun x_2 hx_2 => ?_)
  refine lv_iload_n hx hb dX12_put_10 rfl (lv_at hl 2 rfl) ?_
  refine lv_iadd hx hb dX12_put_11 ?_
  refine zg3 (zaddK (i := x_2.toInt) (j := 2) (a' := 13) (b' := 48) rfl (by decide) hx_2.2.1 hx_2.2.2 (Int.le_refl _) (Int.le_refl _) (by decide)) (fun x_3 hx_3 => ?_)
  refine lv_iload_n hx hb dX12_put_12 rfl (lv_at hl 3 rfl) ?_
  refine va_iast hx hb hK hP hD hS 1 0 rfl rfl (zinK (a := 13) (b := 48) hx_3.2.1 hx_3.2.2 (by decide)) dX12_put_13 (fun H locs hP hD hS => ?_)
  obtain ⟨fm_4, rfm_4, efm_4, hP, hD⟩ : ∃ fm_4 : Nat → Int32, rM fm_4 ∧ fm_4 = upd fm (13 + 5 * x.toInt.toNat) v ∧ va_P g.1 vwCl (List.flatten [bMo g o a th hi ac tp ba en tA fl de iD iO tU fm_4 fk fa fc ft ff fb fi]) H ∧ va_D A (List.flatten [bMo g o a th hi ac tp ba en tA fl de iD iO tU fm_4 fk fa fc ft ff fb fi]) := ⟨upd fm x_3.toNatClampNeg v, (rM_stB rfm (Int.le_trans (by decide) hx_3.2.1)), (zUpI (by omega)), hP, hD⟩
  have hP : va_P g.1 vwCl (List.flatten [bMo g o a th hi ac tp ba en tA fl de iD iO tU fm_4 fk fa fc ft ff fb fi]) H := hP
  have hD : va_D A (List.flatten [bMo g o a th hi ac tp ba en tA fl de iD iO tU fm_4 fk fa fc ft ff fb fi]) := hD
  exact mret_v hx hb hr hlocks hS (Nat.le_of_ble_eq_true rfl) (Nat.le_of_ble_eq_true rfl) dX12_put_14 (fm_4) rfl (show (rM fm_4) ∧ (fm_4 = upd fm (13 + 5 * x.toInt.toNat) v) from ⟨(by assumption), (by rw [efm_4])⟩) hP hD
set_option maxRecDepth 100000 in
set_option maxHeartbeats 4000000 in
theorem m_of4F (l : Launch) (g : zG) (o : Nat) (a : Nat → Nat) (th : Int32) (hi : Int32) (ac : Int32) (tp : Int32) (ba : Int32) (en : Int32) (tA : Int32) (fl : Int32) (de : Int32) (iD : Int32) (iO : Int32) (tU : Int32) (fm : Nat → Int32) (fk : Nat → Int32) (fa : Nat → Int32) (fc : Nat → Int32) (ft : Nat → Int32) (ff : Nat → Int32) (fb : Nat → Int32) (fi : Nat → Int32) (x : Int32) (b_x : 0 ≤ x.toInt ∧ x.toInt ≤ 7) : zM' g l yX12_of (Cond.code yX12_of cX12_of 3 (some .int) :: zB) ({ frames := 0, cells := 0, slots := 0, locals := 0 } : Room) [.ref o, .int x, .int 3] [bMo g o a th hi ac tp ba en tA fl de iD iO tU fm fk fa fc ft ff fb fi] (fun _ : Unit => some (.int (zV fm 4 x.toInt.toNat))) (fun _ : Unit => True) (fun _ : Unit => [bMo g o a th hi ac tp ba en tA fl de iD iO tU fm fk fa fc ft ff fb fi]) := by
  refine zM'.of (cc := cX12_of) (maxL := 3) (rt := (some .int)) (by decide) rfl (Nat.le_of_ble_eq_true rfl) ?_
  intro p e s m args below meth c A ls St hr hlocks hin hK hT hA hP hD hS hl
  obtain ⟨hx, hb, hml, hown, hts⟩ := id St
  have hl : lv_has ls 3 [(0, .ref o), (1, .int x), (2, .int 3)] := hl
  refine lv_aload_n hx hb dX12_of_0 rfl (lv_at hl 0 rfl) ?_
  refine va_get (D := g.1) (ci := 10) (v := .ref (a 0)) (C := RX12) (T := TX12) (N := 20) hx hb hts izRX12 hown hK hP 0 rfl rfl 1 (by decide) (hts _ k815) (fun _ h9 => h9) rfl dX12_of_1 ?_
  refine lv_bipush (v := 11) hx hb dX12_of_4 (by decide) ?_
  refine lv_iconst (v := 5) hx hb dX12_of_6 (by decide) ?_
  refine lv_iload_n hx hb dX12_of_7 rfl (lv_at hl 1 rfl) ?_
  refine lv_imul hx hb dX12_of_8 ?_
  refine zg3 (zmulKL (i := x.toInt) (n := 5) (a' := 0) (b' := 35) rfl (by decide) b_x.1 b_x.2 (by decide) (by decide)) (fun x_1 hx_1 => ?_)
  refine lv_iadd hx hb dX12_of_9 ?_
  refine zg3 (zaddK (i := 11) (j := x_1.toInt) (a' := 11) (b' := 46) (by decide) rfl (Int.le_refl _) (Int.le_refl _) hx_1.2.1 hx_1.2.2 (by decide)) (fun x_2 hx_2 => ?_)
  refine lv_iload_n hx hb dX12_of_10 rfl (lv_at hl 2 rfl) ?_
  refine lv_iadd hx hb dX12_of_11 ?_
  refine zg3 (zaddK (i := x_2.toInt) (j := 3) (a' := 14) (b' := 49) rfl (by decide) hx_2.2.1 hx_2.2.2 (Int.le_refl _) (Int.le_refl _) (by decide)) (fun x_3 hx_3 => ?_)
  refine va_iald hx hb hK hP 1 0 rfl rfl (zinK (a := 14) (b := 49) hx_3.2.1 hx_3.2.2 (by decide)) dX12_of_12 ?_
  refine ztop (r := (fm (14 + 5 * x.toInt.toNat))) (zixF (by omega)) ?_
  refine ztop (r := (zV fm 4 x.toInt.toNat)) rfl ?_
  have hP : va_P g.1 vwCl (List.flatten [bMo g o a th hi ac tp ba en tA fl de iD iO tU fm fk fa fc ft ff fb fi]) s.heap := hP
  have hD : va_D A (List.flatten [bMo g o a th hi ac tp ba en tA fl de iD iO tU fm fk fa fc ft ff fb fi]) := hD
  exact mret_i hx hb hr hlocks hS (Nat.le_of_ble_eq_true rfl) (Nat.le_of_ble_eq_true rfl) dX12_of_13 () rfl trivial hP hD
set_option maxRecDepth 100000 in
set_option maxHeartbeats 4000000 in
theorem m_put4F (l : Launch) (g : zG) (o : Nat) (a : Nat → Nat) (th : Int32) (hi : Int32) (ac : Int32) (tp : Int32) (ba : Int32) (en : Int32) (tA : Int32) (fl : Int32) (de : Int32) (iD : Int32) (iO : Int32) (tU : Int32) (fm : Nat → Int32) (fk : Nat → Int32) (fa : Nat → Int32) (fc : Nat → Int32) (ft : Nat → Int32) (ff : Nat → Int32) (fb : Nat → Int32) (fi : Nat → Int32) (x : Int32) (v : Int32) (rfm : rM fm) (b_x : 0 ≤ x.toInt ∧ x.toInt ≤ 7) : zM' g l yX12_put (Cond.code yX12_put cX12_put 4 none :: zB) ({ frames := 0, cells := 0, slots := 0, locals := 0 } : Room) [.ref o, .int x, .int 3, .int v] [bMo g o a th hi ac tp ba en tA fl de iD iO tU fm fk fa fc ft ff fb fi] (fun (fm2 : Nat → Int32) => none) (fun (fm2 : Nat → Int32) => (rM fm2) ∧ (fm2 = upd fm (14 + 5 * x.toInt.toNat) v)) (fun (fm2 : Nat → Int32) => [bMo g o a th hi ac tp ba en tA fl de iD iO tU fm2 fk fa fc ft ff fb fi]) := by
  refine zM'.of (cc := cX12_put) (maxL := 4) (rt := none) (by decide) rfl (Nat.le_of_ble_eq_true rfl) ?_
  intro p e s m args below meth c A ls St hr hlocks hin hK hT hA hP hD hS hl
  obtain ⟨hx, hb, hml, hown, hts⟩ := id St
  have hl : lv_has ls 4 [(0, .ref o), (1, .int x), (2, .int 3), (3, .int v)] := hl
  have hrm3 := rM3 rfm
  have hrm4 := rM4 rfm
  refine lv_aload_n hx hb dX12_put_0 rfl (lv_at hl 0 rfl) ?_
  refine va_get (D := g.1) (ci := 10) (v := .ref (a 0)) (C := RX12) (T := TX12) (N := 20) hx hb hts izRX12 hown hK hP 0 rfl rfl 1 (by decide) (hts _ k815) (fun _ h9 => h9) rfl dX12_put_1 ?_
  refine lv_bipush (v := 11) hx hb dX12_put_4 (by decide) ?_
  refine lv_iconst (v := 5) hx hb dX12_put_6 (by decide) ?_
  refine lv_iload_n hx hb dX12_put_7 rfl (lv_at hl 1 rfl) ?_
  refine lv_imul hx hb dX12_put_8 ?_
  refine zg3 (zmulKL (i := x.toInt) (n := 5) (a' := 0) (b' := 35) rfl (by decide) b_x.1 b_x.2 (by decide) (by decide)) (fun x_1 hx_1 => ?_)
  refine lv_iadd hx hb dX12_put_9 ?_
  refine zg3 (zaddK (i := 11) (j := x_1.toInt) (a' := 11) (b' := 46) (by decide) rfl (Int.le_refl _) (Int.le_refl _) hx_1.2.1 hx_1.2.2 (by decide)) (fun x_2 hx_2 => ?_)
  refine lv_iload_n hx hb dX12_put_10 rfl (lv_at hl 2 rfl) ?_
  refine lv_iadd hx hb dX12_put_11 ?_
  refine zg3 (zaddK (i := x_2.toInt) (j := 3) (a' := 14) (b' := 49) rfl (by decide) hx_2.2.1 hx_2.2.2 (Int.le_refl _) (Int.le_refl _) (by decide)) (fun x_3 hx_3 => ?_)
  refine lv_iload_n hx hb dX12_put_12 rfl (lv_at hl 3 rfl) ?_
  refine va_iast hx hb hK hP hD hS 1 0 rfl rfl (zinK (a := 14) (b := 49) hx_3.2.1 hx_3.2.2 (by decide)) dX12_put_13 (fun H locs hP hD hS => ?_)
  obtain ⟨fm_4, rfm_4, efm_4, hP, hD⟩ : ∃ fm_4 : Nat → Int32, rM fm_4 ∧ fm_4 = upd fm (14 + 5 * x.toInt.toNat) v ∧ va_P g.1 vwCl (List.flatten [bMo g o a th hi ac tp ba en tA fl de iD iO tU fm_4 fk fa fc ft ff fb fi]) H ∧ va_D A (List.flatten [bMo g o a th hi ac tp ba en tA fl de iD iO tU fm_4 fk fa fc ft ff fb fi]) := ⟨upd fm x_3.toNatClampNeg v, (rM_stB rfm (Int.le_trans (by decide) hx_3.2.1)), (zUpI (by omega)), hP, hD⟩
  have hP : va_P g.1 vwCl (List.flatten [bMo g o a th hi ac tp ba en tA fl de iD iO tU fm_4 fk fa fc ft ff fb fi]) H := hP
  have hD : va_D A (List.flatten [bMo g o a th hi ac tp ba en tA fl de iD iO tU fm_4 fk fa fc ft ff fb fi]) := hD
  exact mret_v hx hb hr hlocks hS (Nat.le_of_ble_eq_true rfl) (Nat.le_of_ble_eq_true rfl) dX12_put_14 (fm_4) rfl (show (rM fm_4) ∧ (fm_4 = upd fm (14 + 5 * x.toInt.toNat) v) from ⟨(by assumption), (by rw [efm_4])⟩) hP hD
set_option maxRecDepth 100000 in
set_option maxHeartbeats 4000000 in
theorem m_of3F (l : Launch) (g : zG) (o : Nat) (a : Nat → Nat) (th : Int32) (hi : Int32) (ac : Int32) (tp : Int32) (ba : Int32) (en : Int32) (tA : Int32) (fl : Int32) (de : Int32) (iD : Int32) (iO : Int32) (tU : Int32) (fm : Nat → Int32) (fk : Nat → Int32) (fa : Nat → Int32) (fc : Nat → Int32) (ft : Nat → Int32) (ff : Nat → Int32) (fb : Nat → Int32) (fi : Nat → Int32) (x : Int32) (b_x : 0 ≤ x.toInt ∧ x.toInt ≤ 7) : zM' g l yX12_of (Cond.code yX12_of cX12_of 3 (some .int) :: zB) ({ frames := 0, cells := 0, slots := 0, locals := 0 } : Room) [.ref o, .int x, .int 4] [bMo g o a th hi ac tp ba en tA fl de iD iO tU fm fk fa fc ft ff fb fi] (fun _ : Unit => some (.int (zV fm 3 x.toInt.toNat))) (fun _ : Unit => True) (fun _ : Unit => [bMo g o a th hi ac tp ba en tA fl de iD iO tU fm fk fa fc ft ff fb fi]) := by
  refine zM'.of (cc := cX12_of) (maxL := 3) (rt := (some .int)) (by decide) rfl (Nat.le_of_ble_eq_true rfl) ?_
  intro p e s m args below meth c A ls St hr hlocks hin hK hT hA hP hD hS hl
  obtain ⟨hx, hb, hml, hown, hts⟩ := id St
  have hl : lv_has ls 3 [(0, .ref o), (1, .int x), (2, .int 4)] := hl
  refine lv_aload_n hx hb dX12_of_0 rfl (lv_at hl 0 rfl) ?_
  refine va_get (D := g.1) (ci := 10) (v := .ref (a 0)) (C := RX12) (T := TX12) (N := 20) hx hb hts izRX12 hown hK hP 0 rfl rfl 1 (by decide) (hts _ k815) (fun _ h9 => h9) rfl dX12_of_1 ?_
  refine lv_bipush (v := 11) hx hb dX12_of_4 (by decide) ?_
  refine lv_iconst (v := 5) hx hb dX12_of_6 (by decide) ?_
  refine lv_iload_n hx hb dX12_of_7 rfl (lv_at hl 1 rfl) ?_
  refine lv_imul hx hb dX12_of_8 ?_
  refine zg3 (zmulKL (i := x.toInt) (n := 5) (a' := 0) (b' := 35) rfl (by decide) b_x.1 b_x.2 (by decide) (by decide)) (fun x_1 hx_1 => ?_)
  refine lv_iadd hx hb dX12_of_9 ?_
  refine zg3 (zaddK (i := 11) (j := x_1.toInt) (a' := 11) (b' := 46) (by decide) rfl (Int.le_refl _) (Int.le_refl _) hx_1.2.1 hx_1.2.2 (by decide)) (fun x_2 hx_2 => ?_)
  refine lv_iload_n hx hb dX12_of_10 rfl (lv_at hl 2 rfl) ?_
  refine lv_iadd hx hb dX12_of_11 ?_
  refine zg3 (zaddK (i := x_2.toInt) (j := 4) (a' := 15) (b' := 50) rfl (by decide) hx_2.2.1 hx_2.2.2 (Int.le_refl _) (Int.le_refl _) (by decide)) (fun x_3 hx_3 => ?_)
  refine va_iald hx hb hK hP 1 0 rfl rfl (zinK (a := 15) (b := 50) hx_3.2.1 hx_3.2.2 (by decide)) dX12_of_12 ?_
  refine ztop (r := (fm (15 + 5 * x.toInt.toNat))) (zixF (by omega)) ?_
  refine ztop (r := (zV fm 3 x.toInt.toNat)) rfl ?_
  have hP : va_P g.1 vwCl (List.flatten [bMo g o a th hi ac tp ba en tA fl de iD iO tU fm fk fa fc ft ff fb fi]) s.heap := hP
  have hD : va_D A (List.flatten [bMo g o a th hi ac tp ba en tA fl de iD iO tU fm fk fa fc ft ff fb fi]) := hD
  exact mret_i hx hb hr hlocks hS (Nat.le_of_ble_eq_true rfl) (Nat.le_of_ble_eq_true rfl) dX12_of_13 () rfl trivial hP hD
set_option maxRecDepth 100000 in
set_option maxHeartbeats 4000000 in
theorem m_put3F (l : Launch) (g : zG) (o : Nat) (a : Nat → Nat) (th : Int32) (hi : Int32) (ac : Int32) (tp : Int32) (ba : Int32) (en : Int32) (tA : Int32) (fl : Int32) (de : Int32) (iD : Int32) (iO : Int32) (tU : Int32) (fm : Nat → Int32) (fk : Nat → Int32) (fa : Nat → Int32) (fc : Nat → Int32) (ft : Nat → Int32) (ff : Nat → Int32) (fb : Nat → Int32) (fi : Nat → Int32) (x : Int32) (v : Int32) (rfm : rM fm) (b_x : 0 ≤ x.toInt ∧ x.toInt ≤ 7) : zM' g l yX12_put (Cond.code yX12_put cX12_put 4 none :: zB) ({ frames := 0, cells := 0, slots := 0, locals := 0 } : Room) [.ref o, .int x, .int 4, .int v] [bMo g o a th hi ac tp ba en tA fl de iD iO tU fm fk fa fc ft ff fb fi] (fun (fm2 : Nat → Int32) => none) (fun (fm2 : Nat → Int32) => (rM fm2) ∧ (fm2 = upd fm (15 + 5 * x.toInt.toNat) v)) (fun (fm2 : Nat → Int32) => [bMo g o a th hi ac tp ba en tA fl de iD iO tU fm2 fk fa fc ft ff fb fi]) := by
  refine zM'.of (cc := cX12_put) (maxL := 4) (rt := none) (by decide) rfl (Nat.le_of_ble_eq_true rfl) ?_
  intro p e s m args below meth c A ls St hr hlocks hin hK hT hA hP hD hS hl
  obtain ⟨hx, hb, hml, hown, hts⟩ := id St
  have hl : lv_has ls 4 [(0, .ref o), (1, .int x), (2, .int 4), (3, .int v)] := hl
  have hrm3 := rM3 rfm
  have hrm4 := rM4 rfm
  refine lv_aload_n hx hb dX12_put_0 rfl (lv_at hl 0 rfl) ?_
  refine va_get (D := g.1) (ci := 10) (v := .ref (a 0)) (C := RX12) (T := TX12) (N := 20) hx hb hts izRX12 hown hK hP 0 rfl rfl 1 (by decide) (hts _ k815) (fun _ h9 => h9) rfl dX12_put_1 ?_
  refine lv_bipush (v := 11) hx hb dX12_put_4 (by decide) ?_
  refine lv_iconst (v := 5) hx hb dX12_put_6 (by decide) ?_
  refine lv_iload_n hx hb dX12_put_7 rfl (lv_at hl 1 rfl) ?_
  refine lv_imul hx hb dX12_put_8 ?_
  refine zg3 (zmulKL (i := x.toInt) (n := 5) (a' := 0) (b' := 35) rfl (by decide) b_x.1 b_x.2 (by decide) (by decide)) (fun x_1 hx_1 => ?_)
  refine lv_iadd hx hb dX12_put_9 ?_
  refine zg3 (zaddK (i := 11) (j := x_1.toInt) (a' := 11) (b' := 46) (by decide) rfl (Int.le_refl _) (Int.le_refl _) hx_1.2.1 hx_1.2.2 (by decide)) (fun x_2 hx_2 => ?_)
  refine lv_iload_n hx hb dX12_put_10 rfl (lv_at hl 2 rfl) ?_
  refine lv_iadd hx hb dX12_put_11 ?_
  refine zg3 (zaddK (i := x_2.toInt) (j := 4) (a' := 15) (b' := 50) rfl (by decide) hx_2.2.1 hx_2.2.2 (Int.le_refl _) (Int.le_refl _) (by decide)) (fun x_3 hx_3 => ?_)
  refine lv_iload_n hx hb dX12_put_12 rfl (lv_at hl 3 rfl) ?_
  refine va_iast hx hb hK hP hD hS 1 0 rfl rfl (zinK (a := 15) (b := 50) hx_3.2.1 hx_3.2.2 (by decide)) dX12_put_13 (fun H locs hP hD hS => ?_)
  obtain ⟨fm_4, rfm_4, efm_4, hP, hD⟩ : ∃ fm_4 : Nat → Int32, rM fm_4 ∧ fm_4 = upd fm (15 + 5 * x.toInt.toNat) v ∧ va_P g.1 vwCl (List.flatten [bMo g o a th hi ac tp ba en tA fl de iD iO tU fm_4 fk fa fc ft ff fb fi]) H ∧ va_D A (List.flatten [bMo g o a th hi ac tp ba en tA fl de iD iO tU fm_4 fk fa fc ft ff fb fi]) := ⟨upd fm x_3.toNatClampNeg v, (rM_stB rfm (Int.le_trans (by decide) hx_3.2.1)), (zUpI (by omega)), hP, hD⟩
  have hP : va_P g.1 vwCl (List.flatten [bMo g o a th hi ac tp ba en tA fl de iD iO tU fm_4 fk fa fc ft ff fb fi]) H := hP
  have hD : va_D A (List.flatten [bMo g o a th hi ac tp ba en tA fl de iD iO tU fm_4 fk fa fc ft ff fb fi]) := hD
  exact mret_v hx hb hr hlocks hS (Nat.le_of_ble_eq_true rfl) (Nat.le_of_ble_eq_true rfl) dX12_put_14 (fm_4) rfl (show (rM fm_4) ∧ (fm_4 = upd fm (15 + 5 * x.toInt.toNat) v) from ⟨(by assumption), (by rw [efm_4])⟩) hP hD
set_option maxRecDepth 100000 in
set_option maxHeartbeats 4000000 in
theorem m_ofW0F (l : Launch) (g : zG) (o : Nat) (a : Nat → Nat) (th : Int32) (hi : Int32) (ac : Int32) (tp : Int32) (ba : Int32) (en : Int32) (tA : Int32) (fl : Int32) (de : Int32) (iD : Int32) (iO : Int32) (tU : Int32) (fm : Nat → Int32) (fk : Nat → Int32) (fa : Nat → Int32) (fc : Nat → Int32) (ft : Nat → Int32) (ff : Nat → Int32) (fb : Nat → Int32) (fi : Nat → Int32) (w : Int32) (b_w : 0 ≤ w.toInt ∧ w.toInt ≤ 5) : zM' g l yX12_ofWork (Cond.code yX12_ofWork cX12_ofWork 3 (some .int) :: zB) ({ frames := 0, cells := 0, slots := 0, locals := 0 } : Room) [.ref o, .int w, .int 0] [bMo g o a th hi ac tp ba en tA fl de iD iO tU fm fk fa fc ft ff fb fi] (fun _ : Unit => some (.int (zV fm 6 w.toInt.toNat))) (fun _ : Unit => True) (fun _ : Unit => [bMo g o a th hi ac tp ba en tA fl de iD iO tU fm fk fa fc ft ff fb fi]) := by
  refine zM'.of (cc := cX12_ofWork) (maxL := 3) (rt := (some .int)) (by decide) rfl (Nat.le_of_ble_eq_true rfl) ?_
  intro p e s m args below meth c A ls St hr hlocks hin hK hT hA hP hD hS hl
  obtain ⟨hx, hb, hml, hown, hts⟩ := id St
  have hl : lv_has ls 3 [(0, .ref o), (1, .int w), (2, .int 0)] := hl
  refine lv_aload_n hx hb dX12_ofWork_0 rfl (lv_at hl 0 rfl) ?_
  refine va_get (D := g.1) (ci := 10) (v := .ref (a 0)) (C := RX12) (T := TX12) (N := 20) hx hb hts izRX12 hown hK hP 0 rfl rfl 1 (by decide) (hts _ k815) (fun _ h9 => h9) rfl dX12_ofWork_1 ?_
  refine lv_bipush (v := 115) hx hb dX12_ofWork_4 (by decide) ?_
  refine lv_iconst (v := 4) hx hb dX12_ofWork_6 (by decide) ?_
  refine lv_iload_n hx hb dX12_ofWork_7 rfl (lv_at hl 1 rfl) ?_
  refine lv_imul hx hb dX12_ofWork_8 ?_
  refine zg3 (zmulKL (i := w.toInt) (n := 4) (a' := 0) (b' := 20) rfl (by decide) b_w.1 b_w.2 (by decide) (by decide)) (fun x_1 hx_1 => ?_)
  refine lv_iadd hx hb dX12_ofWork_9 ?_
  refine zg3 (zaddK (i := 115) (j := x_1.toInt) (a' := 115) (b' := 135) (by decide) rfl (Int.le_refl _) (Int.le_refl _) hx_1.2.1 hx_1.2.2 (by decide)) (fun x_2 hx_2 => ?_)
  refine lv_iload_n hx hb dX12_ofWork_10 rfl (lv_at hl 2 rfl) ?_
  refine lv_iadd hx hb dX12_ofWork_11 ?_
  refine zg3 (zaddK (i := x_2.toInt) (j := 0) (a' := 115) (b' := 135) rfl (by decide) hx_2.2.1 hx_2.2.2 (Int.le_refl _) (Int.le_refl _) (by decide)) (fun x_3 hx_3 => ?_)
  refine va_iald hx hb hK hP 1 0 rfl rfl (zinK (a := 115) (b := 135) hx_3.2.1 hx_3.2.2 (by decide)) dX12_ofWork_12 ?_
  refine ztop (r := (fm (115 + 4 * w.toInt.toNat))) (zixF (by omega)) ?_
  refine ztop (r := (zV fm 6 w.toInt.toNat)) rfl ?_
  have hP : va_P g.1 vwCl (List.flatten [bMo g o a th hi ac tp ba en tA fl de iD iO tU fm fk fa fc ft ff fb fi]) s.heap := hP
  have hD : va_D A (List.flatten [bMo g o a th hi ac tp ba en tA fl de iD iO tU fm fk fa fc ft ff fb fi]) := hD
  exact mret_i hx hb hr hlocks hS (Nat.le_of_ble_eq_true rfl) (Nat.le_of_ble_eq_true rfl) dX12_ofWork_13 () rfl trivial hP hD
set_option maxRecDepth 100000 in
set_option maxHeartbeats 4000000 in
theorem m_putW0F (l : Launch) (g : zG) (o : Nat) (a : Nat → Nat) (th : Int32) (hi : Int32) (ac : Int32) (tp : Int32) (ba : Int32) (en : Int32) (tA : Int32) (fl : Int32) (de : Int32) (iD : Int32) (iO : Int32) (tU : Int32) (fm : Nat → Int32) (fk : Nat → Int32) (fa : Nat → Int32) (fc : Nat → Int32) (ft : Nat → Int32) (ff : Nat → Int32) (fb : Nat → Int32) (fi : Nat → Int32) (w : Int32) (v : Int32) (rfm : rM fm) (b_w : 0 ≤ w.toInt ∧ w.toInt ≤ 5) : zM' g l yX12_putWork (Cond.code yX12_putWork cX12_putWork 4 none :: zB) ({ frames := 0, cells := 0, slots := 0, locals := 0 } : Room) [.ref o, .int w, .int 0, .int v] [bMo g o a th hi ac tp ba en tA fl de iD iO tU fm fk fa fc ft ff fb fi] (fun (fm2 : Nat → Int32) => none) (fun (fm2 : Nat → Int32) => (rM fm2) ∧ (fm2 = upd fm (115 + 4 * w.toInt.toNat) v)) (fun (fm2 : Nat → Int32) => [bMo g o a th hi ac tp ba en tA fl de iD iO tU fm2 fk fa fc ft ff fb fi]) := by
  refine zM'.of (cc := cX12_putWork) (maxL := 4) (rt := none) (by decide) rfl (Nat.le_of_ble_eq_true rfl) ?_
  intro p e s m args below meth c A ls St hr hlocks hin hK hT hA hP hD hS hl
  obtain ⟨hx, hb, hml, hown, hts⟩ := id St
  have hl : lv_has ls 4 [(0, .ref o), (1, .int w), (2, .int 0), (3, .int v)] := hl
  have hrm3 := rM3 rfm
  have hrm4 := rM4 rfm
  refine lv_aload_n hx hb dX12_putWork_0 rfl (lv_at hl 0 rfl) ?_
  refine va_get (D := g.1) (ci := 10) (v := .ref (a 0)) (C := RX12) (T := TX12) (N := 20) hx hb hts izRX12 hown hK hP 0 rfl rfl 1 (by decide) (hts _ k815) (fun _ h9 => h9) rfl dX12_putWork_1 ?_
  refine lv_bipush (v := 115) hx hb dX12_putWork_4 (by decide) ?_
  refine lv_iconst (v := 4) hx hb dX12_putWork_6 (by decide) ?_
  refine lv_iload_n hx hb dX12_putWork_7 rfl (lv_at hl 1 rfl) ?_
  refine lv_imul hx hb dX12_putWork_8 ?_
  refine zg3 (zmulKL (i := w.toInt) (n := 4) (a' := 0) (b' := 20) rfl (by decide) b_w.1 b_w.2 (by decide) (by decide)) (fun x_1 hx_1 => ?_)
  refine lv_iadd hx hb dX12_putWork_9 ?_
  refine zg3 (zaddK (i := 115) (j := x_1.toInt) (a' := 115) (b' := 135) (by decide) rfl (Int.le_refl _) (Int.le_refl _) hx_1.2.1 hx_1.2.2 (by decide)) (fun x_2 hx_2 => ?_)
  refine lv_iload_n hx hb dX12_putWork_10 rfl (lv_at hl 2 rfl) ?_
  refine lv_iadd hx hb dX12_putWork_11 ?_
  refine zg3 (zaddK (i := x_2.toInt) (j := 0) (a' := 115) (b' := 135) rfl (by decide) hx_2.2.1 hx_2.2.2 (Int.le_refl _) (Int.le_refl _) (by decide)) (fun x_3 hx_3 => ?_)
  refine lv_iload_n hx hb dX12_putWork_12 rfl (lv_at hl 3 rfl) ?_
  refine va_iast hx hb hK hP hD hS 1 0 rfl rfl (zinK (a := 115) (b := 135) hx_3.2.1 hx_3.2.2 (by decide)) dX12_putWork_13 (fun H locs hP hD hS => ?_)
  obtain ⟨fm_4, rfm_4, efm_4, hP, hD⟩ : ∃ fm_4 : Nat → Int32, rM fm_4 ∧ fm_4 = upd fm (115 + 4 * w.toInt.toNat) v ∧ va_P g.1 vwCl (List.flatten [bMo g o a th hi ac tp ba en tA fl de iD iO tU fm_4 fk fa fc ft ff fb fi]) H ∧ va_D A (List.flatten [bMo g o a th hi ac tp ba en tA fl de iD iO tU fm_4 fk fa fc ft ff fb fi]) := ⟨upd fm x_3.toNatClampNeg v, (rM_stB rfm (Int.le_trans (by decide) hx_3.2.1)), (zUpI (by omega)), hP, hD⟩
  have hP : va_P g.1 vwCl (List.flatten [bMo g o a th hi ac tp ba en tA fl de iD iO tU fm_4 fk fa fc ft ff fb fi]) H := hP
  have hD : va_D A (List.flatten [bMo g o a th hi ac tp ba en tA fl de iD iO tU fm_4 fk fa fc ft ff fb fi]) := hD
  exact mret_v hx hb hr hlocks hS (Nat.le_of_ble_eq_true rfl) (Nat.le_of_ble_eq_true rfl) dX12_putWork_14 (fm_4) rfl (show (rM fm_4) ∧ (fm_4 = upd fm (115 + 4 * w.toInt.toNat) v) from ⟨(by assumption), (by rw [efm_4])⟩) hP hD
set_option maxRecDepth 100000 in
set_option maxHeartbeats 4000000 in
theorem m_ofW1F (l : Launch) (g : zG) (o : Nat) (a : Nat → Nat) (th : Int32) (hi : Int32) (ac : Int32) (tp : Int32) (ba : Int32) (en : Int32) (tA : Int32) (fl : Int32) (de : Int32) (iD : Int32) (iO : Int32) (tU : Int32) (fm : Nat → Int32) (fk : Nat → Int32) (fa : Nat → Int32) (fc : Nat → Int32) (ft : Nat → Int32) (ff : Nat → Int32) (fb : Nat → Int32) (fi : Nat → Int32) (w : Int32) (b_w : 0 ≤ w.toInt ∧ w.toInt ≤ 5) : zM' g l yX12_ofWork (Cond.code yX12_ofWork cX12_ofWork 3 (some .int) :: zB) ({ frames := 0, cells := 0, slots := 0, locals := 0 } : Room) [.ref o, .int w, .int 1] [bMo g o a th hi ac tp ba en tA fl de iD iO tU fm fk fa fc ft ff fb fi] (fun _ : Unit => some (.int (zV fm 7 w.toInt.toNat))) (fun _ : Unit => True) (fun _ : Unit => [bMo g o a th hi ac tp ba en tA fl de iD iO tU fm fk fa fc ft ff fb fi]) := by
  refine zM'.of (cc := cX12_ofWork) (maxL := 3) (rt := (some .int)) (by decide) rfl (Nat.le_of_ble_eq_true rfl) ?_
  intro p e s m args below meth c A ls St hr hlocks hin hK hT hA hP hD hS hl
  obtain ⟨hx, hb, hml, hown, hts⟩ := id St
  have hl : lv_has ls 3 [(0, .ref o), (1, .int w), (2, .int 1)] := hl
  refine lv_aload_n hx hb dX12_ofWork_0 rfl (lv_at hl 0 rfl) ?_
  refine va_get (D := g.1) (ci := 10) (v := .ref (a 0)) (C := RX12) (T := TX12) (N := 20) hx hb hts izRX12 hown hK hP 0 rfl rfl 1 (by decide) (hts _ k815) (fun _ h9 => h9) rfl dX12_ofWork_1 ?_
  refine lv_bipush (v := 115) hx hb dX12_ofWork_4 (by decide) ?_
  refine lv_iconst (v := 4) hx hb dX12_ofWork_6 (by decide) ?_
  refine lv_iload_n hx hb dX12_ofWork_7 rfl (lv_at hl 1 rfl) ?_
  refine lv_imul hx hb dX12_ofWork_8 ?_
  refine zg3 (zmulKL (i := w.toInt) (n := 4) (a' := 0) (b' := 20) rfl (by decide) b_w.1 b_w.2 (by decide) (by decide)) (fun x_1 hx_1 => ?_)
  refine lv_iadd hx hb dX12_ofWork_9 ?_
  refine zg3 (zaddK (i := 115) (j := x_1.toInt) (a' := 115) (b' := 135) (by decide) rfl (Int.le_refl _) (Int.le_refl _) hx_1.2.1 hx_1.2.2 (by decide)) (fun x_2 hx_2 => ?_)
  refine lv_iload_n hx hb dX12_ofWork_10 rfl (lv_at hl 2 rfl) ?_
  refine lv_iadd hx hb dX12_ofWork_11 ?_
  refine zg3 (zaddK (i := x_2.toInt) (j := 1) (a' := 116) (b' := 136) rfl (by decide) hx_2.2.1 hx_2.2.2 (Int.le_refl _) (Int.le_refl _) (by decide)) (fun x_3 hx_3 => ?_)
  refine va_iald hx hb hK hP 1 0 rfl rfl (zinK (a := 116) (b := 136) hx_3.2.1 hx_3.2.2 (by decide)) dX12_ofWork_12 ?_
  refine ztop (r := (fm (116 + 4 * w.toInt.toNat))) (zixF (by omega)) ?_
  refine ztop (r := (zV fm 7 w.toInt.toNat)) rfl ?_
  have hP : va_P g.1 vwCl (List.flatten [bMo g o a th hi ac tp ba en tA fl de iD iO tU fm fk fa fc ft ff fb fi]) s.heap := hP
  have hD : va_D A (List.flatten [bMo g o a th hi ac tp ba en tA fl de iD iO tU fm fk fa fc ft ff fb fi]) := hD
  exact mret_i hx hb hr hlocks hS (Nat.le_of_ble_eq_true rfl) (Nat.le_of_ble_eq_true rfl) dX12_ofWork_13 () rfl trivial hP hD
set_option maxRecDepth 100000 in
set_option maxHeartbeats 4000000 in
theorem m_putW1F (l : Launch) (g : zG) (o : Nat) (a : Nat → Nat) (th : Int32) (hi : Int32) (ac : Int32) (tp : Int32) (ba : Int32) (en : Int32) (tA : Int32) (fl : Int32) (de : Int32) (iD : Int32) (iO : Int32) (tU : Int32) (fm : Nat → Int32) (fk : Nat → Int32) (fa : Nat → Int32) (fc : Nat → Int32) (ft : Nat → Int32) (ff : Nat → Int32) (fb : Nat → Int32) (fi : Nat → Int32) (w : Int32) (v : Int32) (rfm : rM fm) (b_w : 0 ≤ w.toInt ∧ w.toInt ≤ 5) : zM' g l yX12_putWork (Cond.code yX12_putWork cX12_putWork 4 none :: zB) ({ frames := 0, cells := 0, slots := 0, locals := 0 } : Room) [.ref o, .int w, .int 1, .int v] [bMo g o a th hi ac tp ba en tA fl de iD iO tU fm fk fa fc ft ff fb fi] (fun (fm2 : Nat → Int32) => none) (fun (fm2 : Nat → Int32) => (rM fm2) ∧ (fm2 = upd fm (116 + 4 * w.toInt.toNat) v)) (fun (fm2 : Nat → Int32) => [bMo g o a th hi ac tp ba en tA fl de iD iO tU fm2 fk fa fc ft ff fb fi]) := by
  refine zM'.of (cc := cX12_putWork) (maxL := 4) (rt := none) (by decide) rfl (Nat.le_of_ble_eq_true rfl) ?_
  intro p e s m args below meth c A ls St hr hlocks hin hK hT hA hP hD hS hl
  obtain ⟨hx, hb, hml, hown, hts⟩ := id St
  have hl : lv_has ls 4 [(0, .ref o), (1, .int w), (2, .int 1), (3, .int v)] := hl
  have hrm3 := rM3 rfm
  have hrm4 := rM4 rfm
  refine lv_aload_n hx hb dX12_putWork_0 rfl (lv_at hl 0 rfl) ?_
  refine va_get (D := g.1) (ci := 10) (v := .ref (a 0)) (C := RX12) (T := TX12) (N := 20) hx hb hts izRX12 hown hK hP 0 rfl rfl 1 (by decide) (hts _ k815) (fun _ h9 => h9) rfl dX12_putWork_1 ?_
  refine lv_bipush (v := 115) hx hb dX12_putWork_4 (by decide) ?_
  refine lv_iconst (v := 4) hx hb dX12_putWork_6 (by decide) ?_
  refine lv_iload_n hx hb dX12_putWork_7 rfl (lv_at hl 1 rfl) ?_
  refine lv_imul hx hb dX12_putWork_8 ?_
  refine zg3 (zmulKL (i := w.toInt) (n := 4) (a' := 0) (b' := 20) rfl (by decide) b_w.1 b_w.2 (by decide) (by decide)) (fun x_1 hx_1 => ?_)
  refine lv_iadd hx hb dX12_putWork_9 ?_
  refine zg3 (zaddK (i := 115) (j := x_1.toInt) (a' := 115) (b' := 135) (by decide) rfl (Int.le_refl _) (Int.le_refl _) hx_1.2.1 hx_1.2.2 (by decide)) (fun x_2 hx_2 => ?_)
  refine lv_iload_n hx hb dX12_putWork_10 rfl (lv_at hl 2 rfl) ?_
  refine lv_iadd hx hb dX12_putWork_11 ?_
  refine zg3 (zaddK (i := x_2.toInt) (j := 1) (a' := 116) (b' := 136) rfl (by decide) hx_2.2.1 hx_2.2.2 (Int.le_refl _) (Int.le_refl _) (by decide)) (fun x_3 hx_3 => ?_)
  refine lv_iload_n hx hb dX12_putWork_12 rfl (lv_at hl 3 rfl) ?_
  refine va_iast hx hb hK hP hD hS 1 0 rfl rfl (zinK (a := 116) (b := 136) hx_3.2.1 hx_3.2.2 (by decide)) dX12_putWork_13 (fun H locs hP hD hS => ?_)
  obtain ⟨fm_4, rfm_4, efm_4, hP, hD⟩ : ∃ fm_4 : Nat → Int32, rM fm_4 ∧ fm_4 = upd fm (116 + 4 * w.toInt.toNat) v ∧ va_P g.1 vwCl (List.flatten [bMo g o a th hi ac tp ba en tA fl de iD iO tU fm_4 fk fa fc ft ff fb fi]) H ∧ va_D A (List.flatten [bMo g o a th hi ac tp ba en tA fl de iD iO tU fm_4 fk fa fc ft ff fb fi]) := ⟨upd fm x_3.toNatClampNeg v, (rM_stB rfm (Int.le_trans (by decide) hx_3.2.1)), (zUpI (by omega)), hP, hD⟩
  have hP : va_P g.1 vwCl (List.flatten [bMo g o a th hi ac tp ba en tA fl de iD iO tU fm_4 fk fa fc ft ff fb fi]) H := hP
  have hD : va_D A (List.flatten [bMo g o a th hi ac tp ba en tA fl de iD iO tU fm_4 fk fa fc ft ff fb fi]) := hD
  exact mret_v hx hb hr hlocks hS (Nat.le_of_ble_eq_true rfl) (Nat.le_of_ble_eq_true rfl) dX12_putWork_14 (fm_4) rfl (show (rM fm_4) ∧ (fm_4 = upd fm (116 + 4 * w.toInt.toNat) v) from ⟨(by assumption), (by rw [efm_4])⟩) hP hD
set_option maxRecDepth 100000 in
set_option maxHeartbeats 4000000 in
theorem m_ofW2F (l : Launch) (g : zG) (o : Nat) (a : Nat → Nat) (th : Int32) (hi : Int32) (ac : Int32) (tp : Int32) (ba : Int32) (en : Int32) (tA : Int32) (fl : Int32) (de : Int32) (iD : Int32) (iO : Int32) (tU : Int32) (fm : Nat → Int32) (fk : Nat → Int32) (fa : Nat → Int32) (fc : Nat → Int32) (ft : Nat → Int32) (ff : Nat → Int32) (fb : Nat → Int32) (fi : Nat → Int32) (w : Int32) (b_w : 0 ≤ w.toInt ∧ w.toInt ≤ 5) : zM' g l yX12_ofWork (Cond.code yX12_ofWork cX12_ofWork 3 (some .int) :: zB) ({ frames := 0, cells := 0, slots := 0, locals := 0 } : Room) [.ref o, .int w, .int 2] [bMo g o a th hi ac tp ba en tA fl de iD iO tU fm fk fa fc ft ff fb fi] (fun _ : Unit => some (.int (zV fm 8 w.toInt.toNat))) (fun _ : Unit => True) (fun _ : Unit => [bMo g o a th hi ac tp ba en tA fl de iD iO tU fm fk fa fc ft ff fb fi]) := by
  refine zM'.of (cc := cX12_ofWork) (maxL := 3) (rt := (some .int)) (by decide) rfl (Nat.le_of_ble_eq_true rfl) ?_
  intro p e s m args below meth c A ls St hr hlocks hin hK hT hA hP hD hS hl
  obtain ⟨hx, hb, hml, hown, hts⟩ := id St
  have hl : lv_has ls 3 [(0, .ref o), (1, .int w), (2, .int 2)] := hl
  refine lv_aload_n hx hb dX12_ofWork_0 rfl (lv_at hl 0 rfl) ?_
  refine va_get (D := g.1) (ci := 10) (v := .ref (a 0)) (C := RX12) (T := TX12) (N := 20) hx hb hts izRX12 hown hK hP 0 rfl rfl 1 (by decide) (hts _ k815) (fun _ h9 => h9) rfl dX12_ofWork_1 ?_
  refine lv_bipush (v := 115) hx hb dX12_ofWork_4 (by decide) ?_
  refine lv_iconst (v := 4) hx hb dX12_ofWork_6 (by decide) ?_
  refine lv_iload_n hx hb dX12_ofWork_7 rfl (lv_at hl 1 rfl) ?_
  refine lv_imul hx hb dX12_ofWork_8 ?_
  refine zg3 (zmulKL (i := w.toInt) (n := 4) (a' := 0) (b' := 20) rfl (by decide) b_w.1 b_w.2 (by decide) (by decide)) (fun x_1 hx_1 => ?_)
  refine lv_iadd hx hb dX12_ofWork_9 ?_
  refine zg3 (zaddK (i := 115) (j := x_1.toInt) (a' := 115) (b' := 135) (by decide) rfl (Int.le_refl _) (Int.le_refl _) hx_1.2.1 hx_1.2.2 (by decide)) (fun x_2 hx_2 => ?_)
  refine lv_iload_n hx hb dX12_ofWork_10 rfl (lv_at hl 2 rfl) ?_
  refine lv_iadd hx hb dX12_ofWork_11 ?_
  refine zg3 (zaddK (i := x_2.toInt) (j := 2) (a' := 117) (b' := 137) rfl (by decide) hx_2.2.1 hx_2.2.2 (Int.le_refl _) (Int.le_refl _) (by decide)) (fun x_3 hx_3 => ?_)
  refine va_iald hx hb hK hP 1 0 rfl rfl (zinK (a := 117) (b := 137) hx_3.2.1 hx_3.2.2 (by decide)) dX12_ofWork_12 ?_
  refine ztop (r := (fm (117 + 4 * w.toInt.toNat))) (zixF (by omega)) ?_
  refine ztop (r := (zV fm 8 w.toInt.toNat)) rfl ?_
  have hP : va_P g.1 vwCl (List.flatten [bMo g o a th hi ac tp ba en tA fl de iD iO tU fm fk fa fc ft ff fb fi]) s.heap := hP
  have hD : va_D A (List.flatten [bMo g o a th hi ac tp ba en tA fl de iD iO tU fm fk fa fc ft ff fb fi]) := hD
  exact mret_i hx hb hr hlocks hS (Nat.le_of_ble_eq_true rfl) (Nat.le_of_ble_eq_true rfl) dX12_ofWork_13 () rfl trivial hP hD
set_option maxRecDepth 100000 in
set_option maxHeartbeats 4000000 in
theorem m_putW2F (l : Launch) (g : zG) (o : Nat) (a : Nat → Nat) (th : Int32) (hi : Int32) (ac : Int32) (tp : Int32) (ba : Int32) (en : Int32) (tA : Int32) (fl : Int32) (de : Int32) (iD : Int32) (iO : Int32) (tU : Int32) (fm : Nat → Int32) (fk : Nat → Int32) (fa : Nat → Int32) (fc : Nat → Int32) (ft : Nat → Int32) (ff : Nat → Int32) (fb : Nat → Int32) (fi : Nat → Int32) (w : Int32) (v : Int32) (rfm : rM fm) (b_w : 0 ≤ w.toInt ∧ w.toInt ≤ 5) : zM' g l yX12_putWork (Cond.code yX12_putWork cX12_putWork 4 none :: zB) ({ frames := 0, cells := 0, slots := 0, locals := 0 } : Room) [.ref o, .int w, .int 2, .int v] [bMo g o a th hi ac tp ba en tA fl de iD iO tU fm fk fa fc ft ff fb fi] (fun (fm2 : Nat → Int32) => none) (fun (fm2 : Nat → Int32) => (rM fm2) ∧ (fm2 = upd fm (117 + 4 * w.toInt.toNat) v)) (fun (fm2 : Nat → Int32) => [bMo g o a th hi ac tp ba en tA fl de iD iO tU fm2 fk fa fc ft ff fb fi]) := by
  refine zM'.of (cc := cX12_putWork) (maxL := 4) (rt := none) (by decide) rfl (Nat.le_of_ble_eq_true rfl) ?_
  intro p e s m args below meth c A ls St hr hlocks hin hK hT hA hP hD hS hl
  obtain ⟨hx, hb, hml, hown, hts⟩ := id St
  have hl : lv_has ls 4 [(0, .ref o), (1, .int w), (2, .int 2), (3, .int v)] := hl
  have hrm3 := rM3 rfm
  have hrm4 := rM4 rfm
  refine lv_aload_n hx hb dX12_putWork_0 rfl (lv_at hl 0 rfl) ?_
  refine va_get (D := g.1) (ci := 10) (v := .ref (a 0)) (C := RX12) (T := TX12) (N := 20) hx hb hts izRX12 hown hK hP 0 rfl rfl 1 (by decide) (hts _ k815) (fun _ h9 => h9) rfl dX12_putWork_1 ?_
  refine lv_bipush (v := 115) hx hb dX12_putWork_4 (by decide) ?_
  refine lv_iconst (v := 4) hx hb dX12_putWork_6 (by decide) ?_
  refine lv_iload_n hx hb dX12_putWork_7 rfl (lv_at hl 1 rfl) ?_
  refine lv_imul hx hb dX12_putWork_8 ?_
  refine zg3 (zmulKL (i := w.toInt) (n := 4) (a' := 0) (b' := 20) rfl (by decide) b_w.1 b_w.2 (by decide) (by decide)) (fun x_1 hx_1 => ?_)
  refine lv_iadd hx hb dX12_putWork_9 ?_
  refine zg3 (zaddK (i := 115) (j := x_1.toInt) (a' := 115) (b' := 135) (by decide) rfl (Int.le_refl _) (Int.le_refl _) hx_1.2.1 hx_1.2.2 (by decide)) (fun x_2 hx_2 => ?_)
  refine lv_iload_n hx hb dX12_putWork_10 rfl (lv_at hl 2 rfl) ?_
  refine lv_iadd hx hb dX12_putWork_11 ?_
  refine zg3 (zaddK (i := x_2.toInt) (j := 2) (a' := 117) (b' := 137) rfl (by decide) hx_2.2.1 hx_2.2.2 (Int.le_refl _) (Int.le_refl _) (by decide)) (fun x_3 hx_3 => ?_)
  refine lv_iload_n hx hb dX12_putWork_12 rfl (lv_at hl 3 rfl) ?_
  refine va_iast hx hb hK hP hD hS 1 0 rfl rfl (zinK (a := 117) (b := 137) hx_3.2.1 hx_3.2.2 (by decide)) dX12_putWork_13 (fun H locs hP hD hS => ?_)
  obtain ⟨fm_4, rfm_4, efm_4, hP, hD⟩ : ∃ fm_4 : Nat → Int32, rM fm_4 ∧ fm_4 = upd fm (117 + 4 * w.toInt.toNat) v ∧ va_P g.1 vwCl (List.flatten [bMo g o a th hi ac tp ba en tA fl de iD iO tU fm_4 fk fa fc ft ff fb fi]) H ∧ va_D A (List.flatten [bMo g o a th hi ac tp ba en tA fl de iD iO tU fm_4 fk fa fc ft ff fb fi]) := ⟨upd fm x_3.toNatClampNeg v, (rM_stB rfm (Int.le_trans (by decide) hx_3.2.1)), (zUpI (by omega)), hP, hD⟩
  have hP : va_P g.1 vwCl (List.flatten [bMo g o a th hi ac tp ba en tA fl de iD iO tU fm_4 fk fa fc ft ff fb fi]) H := hP
  have hD : va_D A (List.flatten [bMo g o a th hi ac tp ba en tA fl de iD iO tU fm_4 fk fa fc ft ff fb fi]) := hD
  exact mret_v hx hb hr hlocks hS (Nat.le_of_ble_eq_true rfl) (Nat.le_of_ble_eq_true rfl) dX12_putWork_14 (fm_4) rfl (show (rM fm_4) ∧ (fm_4 = upd fm (117 + 4 * w.toInt.toNat) v) from ⟨(by assumption), (by rw [efm_4])⟩) hP hD
set_option maxRecDepth 100000 in
set_option maxHeartbeats 4000000 in
theorem m_ofW3F (l : Launch) (g : zG) (o : Nat) (a : Nat → Nat) (th : Int32) (hi : Int32) (ac : Int32) (tp : Int32) (ba : Int32) (en : Int32) (tA : Int32) (fl : Int32) (de : Int32) (iD : Int32) (iO : Int32) (tU : Int32) (fm : Nat → Int32) (fk : Nat → Int32) (fa : Nat → Int32) (fc : Nat → Int32) (ft : Nat → Int32) (ff : Nat → Int32) (fb : Nat → Int32) (fi : Nat → Int32) (w : Int32) (b_w : 0 ≤ w.toInt ∧ w.toInt ≤ 5) : zM' g l yX12_ofWork (Cond.code yX12_ofWork cX12_ofWork 3 (some .int) :: zB) ({ frames := 0, cells := 0, slots := 0, locals := 0 } : Room) [.ref o, .int w, .int 3] [bMo g o a th hi ac tp ba en tA fl de iD iO tU fm fk fa fc ft ff fb fi] (fun _ : Unit => some (.int (zV fm 9 w.toInt.toNat))) (fun _ : Unit => True) (fun _ : Unit => [bMo g o a th hi ac tp ba en tA fl de iD iO tU fm fk fa fc ft ff fb fi]) := by
  refine zM'.of (cc := cX12_ofWork) (maxL := 3) (rt := (some .int)) (by decide) rfl (Nat.le_of_ble_eq_true rfl) ?_
  intro p e s m args below meth c A ls St hr hlocks hin hK hT hA hP hD hS hl
  obtain ⟨hx, hb, hml, hown, hts⟩ := id St
  have hl : lv_has ls 3 [(0, .ref o), (1, .int w), (2, .int 3)] := hl
  refine lv_aload_n hx hb dX12_ofWork_0 rfl (lv_at hl 0 rfl) ?_
  refine va_get (D := g.1) (ci := 10) (v := .ref (a 0)) (C := RX12) (T := TX12) (N := 20) hx hb hts izRX12 hown hK hP 0 rfl rfl 1 (by decide) (hts _ k815) (fun _ h9 => h9) rfl dX12_ofWork_1 ?_
  refine lv_bipush (v := 115) hx hb dX12_ofWork_4 (by decide) ?_
  refine lv_iconst (v := 4) hx hb dX12_ofWork_6 (by decide) ?_
  refine lv_iload_n hx hb dX12_ofWork_7 rfl (lv_at hl 1 rfl) ?_
  refine lv_imul hx hb dX12_ofWork_8 ?_
  refine zg3 (zmulKL (i := w.toInt) (n := 4) (a' := 0) (b' := 20) rfl (by decide) b_w.1 b_w.2 (by decide) (by decide)) (fun x_1 hx_1 => ?_)
  refine lv_iadd hx hb dX12_ofWork_9 ?_
  refine zg3 (zaddK (i := 115) (j := x_1.toInt) (a' := 115) (b' := 135) (by decide) rfl (Int.le_refl _) (Int.le_refl _) hx_1.2.1 hx_1.2.2 (by decide)) (fun x_2 hx_2 => ?_)
  refine lv_iload_n hx hb dX12_ofWork_10 rfl (lv_at hl 2 rfl) ?_
  refine lv_iadd hx hb dX12_ofWork_11 ?_
  refine zg3 (zaddK (i := x_2.toInt) (j := 3) (a' := 118) (b' := 138) rfl (by decide) hx_2.2.1 hx_2.2.2 (Int.le_refl _) (Int.le_refl _) (by decide)) (fun x_3 hx_3 => ?_)
  refine va_iald hx hb hK hP 1 0 rfl rfl (zinK (a := 118) (b := 138) hx_3.2.1 hx_3.2.2 (by decide)) dX12_ofWork_12 ?_
  refine ztop (r := (fm (118 + 4 * w.toInt.toNat))) (zixF (by omega)) ?_
  refine ztop (r := (zV fm 9 w.toInt.toNat)) rfl ?_
  have hP : va_P g.1 vwCl (List.flatten [bMo g o a th hi ac tp ba en tA fl de iD iO tU fm fk fa fc ft ff fb fi]) s.heap := hP
  have hD : va_D A (List.flatten [bMo g o a th hi ac tp ba en tA fl de iD iO tU fm fk fa fc ft ff fb fi]) := hD
  exact mret_i hx hb hr hlocks hS (Nat.le_of_ble_eq_true rfl) (Nat.le_of_ble_eq_true rfl) dX12_ofWork_13 () rfl trivial hP hD
set_option maxRecDepth 100000 in
set_option maxHeartbeats 4000000 in
theorem m_putW3F (l : Launch) (g : zG) (o : Nat) (a : Nat → Nat) (th : Int32) (hi : Int32) (ac : Int32) (tp : Int32) (ba : Int32) (en : Int32) (tA : Int32) (fl : Int32) (de : Int32) (iD : Int32) (iO : Int32) (tU : Int32) (fm : Nat → Int32) (fk : Nat → Int32) (fa : Nat → Int32) (fc : Nat → Int32) (ft : Nat → Int32) (ff : Nat → Int32) (fb : Nat → Int32) (fi : Nat → Int32) (w : Int32) (v : Int32) (rfm : rM fm) (b_w : 0 ≤ w.toInt ∧ w.toInt ≤ 5) : zM' g l yX12_putWork (Cond.code yX12_putWork cX12_putWork 4 none :: zB) ({ frames := 0, cells := 0, slots := 0, locals := 0 } : Room) [.ref o, .int w, .int 3, .int v] [bMo g o a th hi ac tp ba en tA fl de iD iO tU fm fk fa fc ft ff fb fi] (fun (fm2 : Nat → Int32) => none) (fun (fm2 : Nat → Int32) => (rM fm2) ∧ (fm2 = upd fm (118 + 4 * w.toInt.toNat) v)) (fun (fm2 : Nat → Int32) => [bMo g o a th hi ac tp ba en tA fl de iD iO tU fm2 fk fa fc ft ff fb fi]) := by
  refine zM'.of (cc := cX12_putWork) (maxL := 4) (rt := none) (by decide) rfl (Nat.le_of_ble_eq_true rfl) ?_
  intro p e s m args below meth c A ls St hr hlocks hin hK hT hA hP hD hS hl
  obtain ⟨hx, hb, hml, hown, hts⟩ := id St
  have hl : lv_has ls 4 [(0, .ref o), (1, .int w), (2, .int 3), (3, .int v)] := hl
  have hrm3 := rM3 rfm
  have hrm4 := rM4 rfm
  refine lv_aload_n hx hb dX12_putWork_0 rfl (lv_at hl 0 rfl) ?_
  refine va_get (D := g.1) (ci := 10) (v := .ref (a 0)) (C := RX12) (T := TX12) (N := 20) hx hb hts izRX12 hown hK hP 0 rfl rfl 1 (by decide) (hts _ k815) (fun _ h9 => h9) rfl dX12_putWork_1 ?_
  refine lv_bipush (v := 115) hx hb dX12_putWork_4 (by decide) ?_
  refine lv_iconst (v := 4) hx hb dX12_putWork_6 (by decide) ?_
  refine lv_iload_n hx hb dX12_putWork_7 rfl (lv_at hl 1 rfl) ?_
  refine lv_imul hx hb dX12_putWork_8 ?_
  refine zg3 (zmulKL (i := w.toInt) (n := 4) (a' := 0) (b' := 20) rfl (by decide) b_w.1 b_w.2 (by decide) (by decide)) (fun x_1 hx_1 => ?_)
  refine lv_iadd hx hb dX12_putWork_9 ?_
  refine zg3 (zaddK (i := 115) (j := x_1.toInt) (a' := 115) (b' := 135) (by decide) rfl (Int.le_refl _) (Int.le_refl _) hx_1.2.1 hx_1.2.2 (by decide)) (fun x_2 hx_2 => ?_)
  refine lv_iload_n hx hb dX12_putWork_10 rfl (lv_at hl 2 rfl) ?_
  refine lv_iadd hx hb dX12_putWork_11 ?_
  refine zg3 (zaddK (i := x_2.toInt) (j := 3) (a' := 118) (b' := 138) rfl (by decide) hx_2.2.1 hx_2.2.2 (Int.le_refl _) (Int.le_refl _) (by decide)) (fun x_3 hx_3 => ?_)
  refine lv_iload_n hx hb dX12_putWork_12 rfl (lv_at hl 3 rfl) ?_
  refine va_iast hx hb hK hP hD hS 1 0 rfl rfl (zinK (a := 118) (b := 138) hx_3.2.1 hx_3.2.2 (by decide)) dX12_putWork_13 (fun H locs hP hD hS => ?_)
  obtain ⟨fm_4, rfm_4, efm_4, hP, hD⟩ : ∃ fm_4 : Nat → Int32, rM fm_4 ∧ fm_4 = upd fm (118 + 4 * w.toInt.toNat) v ∧ va_P g.1 vwCl (List.flatten [bMo g o a th hi ac tp ba en tA fl de iD iO tU fm_4 fk fa fc ft ff fb fi]) H ∧ va_D A (List.flatten [bMo g o a th hi ac tp ba en tA fl de iD iO tU fm_4 fk fa fc ft ff fb fi]) := ⟨upd fm x_3.toNatClampNeg v, (rM_stB rfm (Int.le_trans (by decide) hx_3.2.1)), (zUpI (by omega)), hP, hD⟩
  have hP : va_P g.1 vwCl (List.flatten [bMo g o a th hi ac tp ba en tA fl de iD iO tU fm_4 fk fa fc ft ff fb fi]) H := hP
  have hD : va_D A (List.flatten [bMo g o a th hi ac tp ba en tA fl de iD iO tU fm_4 fk fa fc ft ff fb fi]) := hD
  exact mret_v hx hb hr hlocks hS (Nat.le_of_ble_eq_true rfl) (Nat.le_of_ble_eq_true rfl) dX12_putWork_14 (fm_4) rfl (show (rM fm_4) ∧ (fm_4 = upd fm (118 + 4 * w.toInt.toNat) v) from ⟨(by assumption), (by rw [efm_4])⟩) hP hD
set_option maxRecDepth 100000 in
set_option maxHeartbeats 4000000 in
theorem m_trustOfF (l : Launch) (g : zG) (o : Nat) (a : Nat → Nat) (th : Int32) (hi : Int32) (ac : Int32) (tp : Int32) (ba : Int32) (en : Int32) (tA : Int32) (fl : Int32) (de : Int32) (iD : Int32) (iO : Int32) (tU : Int32) (fm : Nat → Int32) (fk : Nat → Int32) (fa : Nat → Int32) (fc : Nat → Int32) (ft : Nat → Int32) (ff : Nat → Int32) (fb : Nat → Int32) (fi : Nat → Int32) (x : Int32) (x2 : Int32) (b_x : 0 ≤ x.toInt ∧ x.toInt ≤ 7) (b_x2 : 0 ≤ x2.toInt ∧ x2.toInt ≤ 7) : zM' g l yX12_trustOf (Cond.code yX12_trustOf cX12_trustOf 3 (some .int) :: zB) ({ frames := 0, cells := 0, slots := 0, locals := 0 } : Room) [.ref o, .int x, .int x2] [bMo g o a th hi ac tp ba en tA fl de iD iO tU fm fk fa fc ft ff fb fi] (fun _ : Unit => some (.int (zV fm 5 (8 * x.toInt.toNat + x2.toInt.toNat)))) (fun _ : Unit => True) (fun _ : Unit => [bMo g o a th hi ac tp ba en tA fl de iD iO tU fm fk fa fc ft ff fb fi]) := by
  refine zM'.of (cc := cX12_trustOf) (maxL := 3) (rt := (some .int)) (by decide) rfl (Nat.le_of_ble_eq_true rfl) ?_
  intro p e s m args below meth c A ls St hr hlocks hin hK hT hA hP hD hS hl
  obtain ⟨hx, hb, hml, hown, hts⟩ := id St
  have hl : lv_has ls 3 [(0, .ref o), (1, .int x), (2, .int x2)] := hl
  refine lv_aload_n hx hb dX12_trustOf_0 rfl (lv_at hl 0 rfl) ?_
  refine va_get (D := g.1) (ci := 10) (v := .ref (a 0)) (C := RX12) (T := TX12) (N := 20) hx hb hts izRX12 hown hK hP 0 rfl rfl 1 (by decide) (hts _ k815) (fun _ h9 => h9) rfl dX12_trustOf_1 ?_
  refine lv_bipush (v := 51) hx hb dX12_trustOf_4 (by decide) ?_
  refine lv_bipush (v := 8) hx hb dX12_trustOf_6 (by decide) ?_
  refine lv_iload_n hx hb dX12_trustOf_8 rfl (lv_at hl 1 rfl) ?_
  refine lv_imul hx hb dX12_trustOf_9 ?_
  refine zg3 (zmulKL (i := x.toInt) (n := 8) (a' := 0) (b' := 56) rfl (by decide) b_x.1 b_x.2 (by decide) (by decide)) (fun x_1 hx_1 => ?_)
  refine lv_iadd hx hb dX12_trustOf_10 ?_
  refine zg3 (zaddK (i := 51) (j := x_1.toInt) (a' := 51) (b' := 107) (by decide) rfl (Int.le_refl _) (Int.le_refl _) hx_1.2.1 hx_1.2.2 (by decide)) (fun x_2 hx_2 => ?_)
  refine lv_iload_n hx hb dX12_trustOf_11 rfl (lv_at hl 2 rfl) ?_
  refine lv_iadd hx hb dX12_trustOf_12 ?_
  refine zg3 (zaddK (i := x_2.toInt) (j := x2.toInt) (a' := 51) (b' := 114) rfl rfl hx_2.2.1 hx_2.2.2 b_x2.1 b_x2.2 (by decide)) (fun x_3 hx_3 => ?_)
  refine va_iald hx hb hK hP 1 0 rfl rfl (zinK (a := 51) (b := 114) hx_3.2.1 hx_3.2.2 (by decide)) dX12_trustOf_13 ?_
  refine ztop (r := (fm (51 + (8 * x.toInt.toNat + x2.toInt.toNat)))) (zixF (by omega)) ?_
  refine ztop (r := (zV fm 5 (8 * x.toInt.toNat + x2.toInt.toNat))) rfl ?_
  have hP : va_P g.1 vwCl (List.flatten [bMo g o a th hi ac tp ba en tA fl de iD iO tU fm fk fa fc ft ff fb fi]) s.heap := hP
  have hD : va_D A (List.flatten [bMo g o a th hi ac tp ba en tA fl de iD iO tU fm fk fa fc ft ff fb fi]) := hD
  exact mret_i hx hb hr hlocks hS (Nat.le_of_ble_eq_true rfl) (Nat.le_of_ble_eq_true rfl) dX12_trustOf_14 () rfl trivial hP hD
set_option maxRecDepth 100000 in
set_option maxHeartbeats 4000000 in
theorem m_isHereG (l : Launch) (g : zG) (o : Nat) (a : Nat → Nat) (th : Int32) (hi : Int32) (ac : Int32) (tp : Int32) (ba : Int32) (en : Int32) (tA : Int32) (fl : Int32) (de : Int32) (iD : Int32) (iO : Int32) (tU : Int32) (fm : Nat → Int32) (fk : Nat → Int32) (fa : Nat → Int32) (fc : Nat → Int32) (ft : Nat → Int32) (ff : Nat → Int32) (fb : Nat → Int32) (fi : Nat → Int32) (x : Int32) (b_x : 0 ≤ x.toInt ∧ x.toInt ≤ 7) : zM' g l yX12_isHere (Cond.code yX12_isHere cX12_isHere 2 (some .boolean) :: zB) ({ frames := 1, cells := 0, slots := 0, locals := 22 } : Room) [.ref o, .int x] [bMo g o a th hi ac tp ba en tA fl de iD iO tU fm fk fa fc ft ff fb fi] (fun (q : Int32) => some (.int q)) (fun (q : Int32) => (q = 1 ∧ (zV fm 3 x.toInt.toNat).toInt = -1 ∨ q = 0 ∧ ¬ (zV fm 3 x.toInt.toNat).toInt = -1)) (fun (q : Int32) => [bMo g o a th hi ac tp ba en tA fl de iD iO tU fm fk fa fc ft ff fb fi]) := by
  refine zM'.of (cc := cX12_isHere) (maxL := 2) (rt := (some .boolean)) (by decide) rfl (Nat.le_of_ble_eq_true rfl) ?_
  intro p e s m args below meth c A ls St hr hlocks hin hK hT hA hP hD hS hl
  obtain ⟨hx, hb, hml, hown, hts⟩ := id St
  have hl : lv_has ls 2 [(0, .ref o), (1, .int x)] := hl
  refine lv_aload_n hx hb dX12_isHere_0 rfl (lv_at hl 0 rfl) ?_
  refine lv_iload_n hx hb dX12_isHere_1 rfl (lv_at hl 1 rfl) ?_
  refine lv_iconst (v := 4) hx hb dX12_isHere_2 (by decide) ?_
  refine mcallV' (g := g) (q0 := 0) (ci := 10) (As := [.int x, .int 4]) (rest := []) St hK hT hA hP hD hS hl.1 [0] [] rfl rfl rfl (m_of3F l g o a th hi ac tp ba en tA fl de iD iO tU fm fk fa fc ft ff fb fi x b_x) (cwV 2 hts (zgL (zl4 k842 k843 k844 k839) k831) rfl rfl rfl (by decide +kernel) ⟨Nat.le_of_ble_eq_true rfl, Nat.le_of_ble_eq_true rfl⟩) rfl rfl rfl rfl (Nat.le_of_ble_eq_true rfl) dX12_isHere_3 ⟨(Nat.le_of_ble_eq_true rfl), (Nat.le_of_ble_eq_true rfl)⟩ (fun _u H locs hq1 hP hD hS => ?_)
  have hP : va_P g.1 vwCl (List.flatten [bMo g o a th hi ac tp ba en tA fl de iD iO tU fm fk fa fc ft ff fb fi]) H := hP
  have hD : va_D A (List.flatten [bMo g o a th hi ac tp ba en tA fl de iD iO tU fm fk fa fc ft ff fb fi]) := hD
  refine W.widen (k := 0) (n := 0) (Nat.le_of_ble_eq_true rfl) (Nat.le_of_ble_eq_true rfl) ?_
  refine W.eq (g2 := F0 m 6 ls [.int (zV fm 3 x.toInt.toNat)]) rfl ?_
  refine lv_iconst (v := (-1)) hx hb dX12_isHere_6 (by decide) ?_
  refine lv_icmp_ne (tgt := 14) hx hb dX12_isHere_7 (by decide) (fun cb9 => ?_) (fun cb9 => ?_)
  · skip
    have c2 : ¬ (zV fm 3 x.toInt.toNat).toInt = (-1) := zne cb9 rfl (by decide)
    refine lv_iconst (v := 0) hx hb dX12_isHere_14 (by decide) ?_
    have hP : va_P g.1 vwCl (List.flatten [bMo g o a th hi ac tp ba en tA fl de iD iO tU fm fk fa fc ft ff fb fi]) H := hP
    have hD : va_D A (List.flatten [bMo g o a th hi ac tp ba en tA fl de iD iO tU fm fk fa fc ft ff fb fi]) := hD
    exact mret_z hx hb hr hlocks hS (Nat.le_of_ble_eq_true rfl) (Nat.le_of_ble_eq_true rfl) dX12_isHere_15 ((0 : Int32)) rfl (by decide) (show (0 = 1 ∧ (zV fm 3 x.toInt.toNat).toInt = -1 ∨ 0 = 0 ∧ ¬ (zV fm 3 x.toInt.toNat).toInt = -1) from (by first | exact Or.inl ⟨rfl, by omega⟩ | exact Or.inr ⟨rfl, by omega⟩)) hP hD
  · skip
    have c3 : (zV fm 3 x.toInt.toNat).toInt = (-1) := zeq cb9 rfl (by decide)
    have n4 : (-1) ≤ (zV fm 3 x.toInt.toNat).toInt := Int.le_trans (Int.le_refl _) (Int.le_of_eq c3.symm)
    have n5 : (zV fm 3 x.toInt.toNat).toInt ≤ (-1) := Int.le_trans (Int.le_of_eq c3) (Int.le_refl _)
    refine lv_iconst (v := 1) hx hb dX12_isHere_10 (by decide) ?_
    refine lv_goto (tgt := 15) hx hb dX12_isHere_11 (by decide) ?_
    have hP : va_P g.1 vwCl (List.flatten [bMo g o a th hi ac tp ba en tA fl de iD iO tU fm fk fa fc ft ff fb fi]) H := hP
    have hD : va_D A (List.flatten [bMo g o a th hi ac tp ba en tA fl de iD iO tU fm fk fa fc ft ff fb fi]) := hD
    exact mret_z hx hb hr hlocks hS (Nat.le_of_ble_eq_true rfl) (Nat.le_of_ble_eq_true rfl) dX12_isHere_15 ((1 : Int32)) rfl (by decide) (show (1 = 1 ∧ (zV fm 3 x.toInt.toNat).toInt = -1 ∨ 1 = 0 ∧ ¬ (zV fm 3 x.toInt.toNat).toInt = -1) from (by first | exact Or.inl ⟨rfl, by omega⟩ | exact Or.inr ⟨rfl, by omega⟩)) hP hD
set_option maxRecDepth 100000 in
set_option maxHeartbeats 4000000 in
theorem m_bitsF (l : Launch) (g : zG) (st0 : Int32)  : zM' g l yX12_bits (Cond.code yX12_bits cX12_bits 3 (some .int) :: zB) ({ frames := 0, cells := 0, slots := 0, locals := 0 } : Room) [.int st0] [] (fun _ : Unit => some (.int (zPop st0))) (fun _ : Unit => True) (fun _ : Unit => []) := by
  refine zM'.of (cc := cX12_bits) (maxL := 3) (rt := (some .int)) (by decide) rfl (Nat.le_of_ble_eq_true rfl) ?_
  intro p e s m args below meth c A ls St hr hlocks hin hK hT hA hP hD hS hl
  obtain ⟨hx, hb, hml, hown, hts⟩ := id St
  have hl : lv_has ls 3 [(0, .int st0)] := hl
  refine lv_iconst (v := 0) hx hb dX12_bits_0 (by decide) ?_
  refine lv_istore_n (lv' := [(1, .int 0), (0, .int st0)]) hx hb dX12_bits_1 rfl hl (by decide) rfl (fun ls hl => ?_)
  refine lv_iconst (v := 0) hx hb dX12_bits_2 (by decide) ?_
  refine lv_istore_n (lv' := [(2, .int 0), (1, .int 0), (0, .int st0)]) hx hb dX12_bits_3 rfl hl (by decide) rfl (fun ls hl => ?_)
  have hl := lv_sub (l' := [(0, .int st0), (1, .int 0), (2, .int 0)]) hl [2, 1, 0] rfl
  have LP4_6 : ∀ (kf : Nat) (x_1 : Int32) (x_2 : Int32), (0 ≤ x_2.toInt ∧ x_2.toInt ≤ 31) → (x_1 = zSu (fun k => (st0 >>> (nI k &&& 31)) &&& 1) x_2.toInt.toNat) → (x_2.toInt ≤ 31) → ∀ (H : Heap) (locs : List Loc) (ls : Array Slot), ((32 - x_2.toInt).toNat) < kf → va_P g.1 vwCl (List.flatten []) H → va_D A (List.flatten []) → va_S A s.heap H locs → lv_has ls 3 [(0, .int st0), (1, .int x_1), (2, .int x_2)] → W p l e ({ frames := 0, cells := 0, slots := 0, locals := 0 } : Room) s m args below meth c H locs (0) (0) (zF g (fun _ : Unit => some (.int (zPop st0))) (fun _ : Unit => True) (fun _ : Unit => []) ({ frames := 0, cells := 0, slots := 0, locals := 0 } : Room) below args s A) (F0 m 4 ls []) := by
    intro kf
    induction kf with
    | zero => intro x_1 x_2 i3 i4 i5 H locs ls hk; exact absurd hk (Nat.not_lt_zero _)
    | succ kf ih4_7 =>
      intro x_1 x_2 i3 i4 i5 H locs ls hk4_7 hP hD hS hl
      refine lv_iload_n hx hb dX12_bits_4 rfl (lv_at hl 2 rfl) ?_
      refine lv_bipush (v := 31) hx hb dX12_bits_5 (by decide) ?_
      refine lv_icmp_ge (tgt := 24) hx hb dX12_bits_7 (by decide) (fun cb9 => ?_) (fun cb9 => ?_)
      · skip
        have c8 : 31 ≤ x_2.toInt := zle cb9 (by decide) rfl
        have n9 : 31 ≤ x_2.toInt := Int.le_trans (Int.le_refl _) c8
        refine lv_iload_n hx hb dX12_bits_24 rfl (lv_at hl 1 rfl) ?_
        refine ztop (r := (zPop st0)) (zFo_n i4 (by omega)) ?_
        have hP : va_P g.1 vwCl (List.flatten []) H := hP
        have hD : va_D A (List.flatten []) := hD
        exact mret_i hx hb hr hlocks hS (Nat.le_of_ble_eq_true rfl) (Nat.le_of_ble_eq_true rfl) dX12_bits_25 () rfl trivial hP hD
      · skip
        have c10 : x_2.toInt < 31 := zlti (Int32.not_le.mp cb9) rfl (by decide)
        have n11 : x_2.toInt ≤ 30 := zL1 (b := 31) c10 (Int.le_refl _) (by decide)
        refine lv_iload_n hx hb dX12_bits_10 rfl (lv_at hl 1 rfl) ?_
        refine lv_iload_n hx hb dX12_bits_11 rfl (lv_at hl 0 rfl) ?_
        refine lv_iload_n hx hb dX12_bits_12 rfl (lv_at hl 2 rfl) ?_
        refine lv_ishr hx hb dX12_bits_13 ?_
        refine lv_iconst (v := 1) hx hb dX12_bits_14 (by decide) ?_
        refine lv_iand hx hb dX12_bits_15 ?_
        refine lv_iadd hx hb dX12_bits_16 ?_
        refine lv_istore_n (lv' := [(1, .int (x_1 + ((st0 >>> (x_2 &&& 31)) &&& 1))), (0, .int st0), (2, .int x_2)]) hx hb dX12_bits_17 rfl hl (by decide) rfl (fun ls hl => ?_)
        refine ziinc3 (n' := 1) (a' := 1) (b' := 31) (lv' := fun v9 => [(2, .int v9), (1, .int (x_1 + ((st0 >>> (x_2 &&& 31)) &&& 1))), (0, .int st0)]) hx hb dX12_bits_18 hl (k := 2) rfl (by decide) (fun _ => rfl) (zaddK (i := x_2.toInt) (j := 1) rfl (by decide) i3.1 n11 (Int.le_refl _) (Int.le_refl _) (by decide)) (fun x_12 ls hx_12 hl => ?_)
        refine lv_goto (tgt := 4) hx hb dX12_bits_21 (by decide) ?_
        have hl := lv_sub (l' := [(0, .int st0), (1, .int (x_1 + ((st0 >>> (x_2 &&& 31)) &&& 1))), (2, .int x_12)]) hl [2, 1, 0] rfl
        have hP : va_P g.1 vwCl (List.flatten []) H := hP
        have hD : va_D A (List.flatten []) := hD
        exact ih4_7 (x_1 + ((st0 >>> (x_2 &&& 31)) &&& 1)) x_12 ⟨(Int.le_trans (by decide) hx_12.2.1), hx_12.2.2⟩ (zFo_s i4 hx_12.1 (by omega) (by show _ = _ + ((st0 >>> (nI x_2.toInt.toNat &&& 31)) &&& 1); rw [← znat (by omega)])) (by first | omega | assumption | decide) H _ ls (zmK hx_12.1 (by decide) n11 (by decide) hk4_7)  hP hD hS (lv_sub hl [0, 1, 2] rfl)
  have hL0 : (0 : Int32).toInt = 0 := by decide
  have hP : va_P g.1 vwCl (List.flatten []) s.heap := hP
  have hD : va_D A (List.flatten []) := hD
  exact LP4_6 _ 0 0 (by decide) (zFo_0 (by decide) (by decide)) (by first | omega | assumption | decide) s.heap _ ls (Nat.lt_succ_self _)  hP hD hS (lv_sub hl [0, 1, 2] rfl)
set_option maxRecDepth 100000 in
set_option maxHeartbeats 4000000 in
theorem m_lesser9 (l : Launch) (g : zG) (x2 : Int32)  : zM' g l yX12_lesser (Cond.code yX12_lesser cX12_lesser 2 (some .int) :: zB) ({ frames := 0, cells := 0, slots := 0, locals := 0 } : Room) [.int 9999, .int x2] [] (fun _ : Unit => some (.int (zCap x2))) (fun _ : Unit => True) (fun _ : Unit => []) := by
  refine zM'.of (cc := cX12_lesser) (maxL := 2) (rt := (some .int)) (by decide) rfl (Nat.le_of_ble_eq_true rfl) ?_
  intro p e s m args below meth c A ls St hr hlocks hin hK hT hA hP hD hS hl
  obtain ⟨hx, hb, hml, hown, hts⟩ := id St
  have hl : lv_has ls 2 [(0, .int 9999), (1, .int x2)] := hl
  refine lv_iload_n hx hb dX12_lesser_0 rfl (lv_at hl 0 rfl) ?_
  refine lv_iload_n hx hb dX12_lesser_1 rfl (lv_at hl 1 rfl) ?_
  refine lv_icmp_ge (tgt := 9) hx hb dX12_lesser_2 (by decide) (fun cb9 => ?_) (fun cb9 => ?_)
  · skip
    have c1 : x2.toInt ≤ 9999 := zle cb9 rfl (by decide)
    have n2 : x2.toInt ≤ 9999 := Int.le_trans c1 (Int.le_refl _)
    refine lv_iload_n hx hb dX12_lesser_9 rfl (lv_at hl 1 rfl) ?_
    refine ztop (r := (zCap x2)) (zCap_of (by first | omega | exact Or.inr ⟨by omega, zi9k⟩)) ?_
    have hP : va_P g.1 vwCl (List.flatten []) s.heap := hP
    have hD : va_D A (List.flatten []) := hD
    exact mret_i hx hb hr hlocks hS (Nat.le_of_ble_eq_true rfl) (Nat.le_of_ble_eq_true rfl) dX12_lesser_10 () rfl trivial hP hD
  · skip
    have c3 : 9999 < x2.toInt := zlti (Int32.not_le.mp cb9) (by decide) rfl
    have n4 : 10000 ≤ x2.toInt := zL2 (a := 9999) c3 (Int.le_refl _) (by decide)
    refine lv_iload_n hx hb dX12_lesser_5 rfl (lv_at hl 0 rfl) ?_
    refine lv_goto (tgt := 10) hx hb dX12_lesser_6 (by decide) ?_
    refine ztop (r := (zCap x2)) (zCap_of (by first | omega | exact Or.inr ⟨by omega, zi9k⟩)) ?_
    have hP : va_P g.1 vwCl (List.flatten []) s.heap := hP
    have hD : va_D A (List.flatten []) := hD
    exact mret_i hx hb hr hlocks hS (Nat.le_of_ble_eq_true rfl) (Nat.le_of_ble_eq_true rfl) dX12_lesser_10 () rfl trivial hP hD
set_option maxRecDepth 100000 in
set_option maxHeartbeats 4000000 in
theorem m_hereOnesG (l : Launch) (g : zG) (o : Nat) (a : Nat → Nat) (th : Int32) (hi : Int32) (ac : Int32) (tp : Int32) (ba : Int32) (en : Int32) (tA : Int32) (fl : Int32) (de : Int32) (iD : Int32) (iO : Int32) (tU : Int32) (fm : Nat → Int32) (fk : Nat → Int32) (fa : Nat → Int32) (fc : Nat → Int32) (ft : Nat → Int32) (ff : Nat → Int32) (fb : Nat → Int32) (fi : Nat → Int32) (rfm : rM fm) : zM' g l yX12_hereOnes (Cond.code yX12_hereOnes cX12_hereOnes 3 (some .int) :: zB) ({ frames := 2, cells := 0, slots := 0, locals := 43 } : Room) [.ref o] [bMo g o a th hi ac tp ba en tA fl de iD iO tU fm fk fa fc ft ff fb fi] (fun _ : Unit => some (.int (zHs (zV fm) (fm 3).toInt.toNat))) (fun _ : Unit => True) (fun _ : Unit => [bMo g o a th hi ac tp ba en tA fl de iD iO tU fm fk fa fc ft ff fb fi]) := by
  refine zM'.of (cc := cX12_hereOnes) (maxL := 3) (rt := (some .int)) (by decide) rfl (Nat.le_of_ble_eq_true rfl) ?_
  intro p e s m args below meth c A ls St hr hlocks hin hK hT hA hP hD hS hl
  obtain ⟨hx, hb, hml, hown, hts⟩ := id St
  have hl : lv_has ls 3 [(0, .ref o)] := hl
  have hrm3 := rM3 rfm
  have hrm4 := rM4 rfm
  refine lv_iconst (v := 0) hx hb dX12_hereOnes_0 (by decide) ?_
  refine lv_istore_n (lv' := [(1, .int 0), (0, .ref o)]) hx hb dX12_hereOnes_1 rfl hl (by decide) rfl (fun ls hl => ?_)
  refine lv_iconst (v := 0) hx hb dX12_hereOnes_2 (by decide) ?_
  refine lv_istore_n (lv' := [(2, .int 0), (1, .int 0), (0, .ref o)]) hx hb dX12_hereOnes_3 rfl hl (by decide) rfl (fun ls hl => ?_)
  have hl := lv_sub (l' := [(0, .ref o), (1, .int 0), (2, .int 0)]) hl [2, 1, 0] rfl
  have LP4_6 : ∀ (kf : Nat) (x_1 : Int32) (x_2 : Int32), (0 ≤ x_2.toInt ∧ x_2.toInt ≤ 8) → (x_1 = zOf (fun x => if ((zV fm) 3 x).toInt = -1 then zBit x else 0) x_2.toInt.toNat) → (x_2.toInt ≤ (fm 3).toInt) → ∀ (H : Heap) (locs : List Loc) (ls : Array Slot), ((9 - x_2.toInt).toNat) < kf → va_P g.1 vwCl (List.flatten [bMo g o a th hi ac tp ba en tA fl de iD iO tU fm fk fa fc ft ff fb fi]) H → va_D A (List.flatten [bMo g o a th hi ac tp ba en tA fl de iD iO tU fm fk fa fc ft ff fb fi]) → va_S A s.heap H locs → lv_has ls 3 [(0, .ref o), (1, .int x_1), (2, .int x_2)] → W p l e ({ frames := 2, cells := 0, slots := 0, locals := 43 } : Room) s m args below meth c H locs (0) (0) (zF g (fun _ : Unit => some (.int (zHs (zV fm) (fm 3).toInt.toNat))) (fun _ : Unit => True) (fun _ : Unit => [bMo g o a th hi ac tp ba en tA fl de iD iO tU fm fk fa fc ft ff fb fi]) ({ frames := 2, cells := 0, slots := 0, locals := 43 } : Room) below args s A) (F0 m 4 ls []) := by
    intro kf
    induction kf with
    | zero => intro x_1 x_2 i3 i4 i5 H locs ls hk; exact absurd hk (Nat.not_lt_zero _)
    | succ kf ih4_7 =>
      intro x_1 x_2 i3 i4 i5 H locs ls hk4_7 hP hD hS hl
      refine lv_iload_n hx hb dX12_hereOnes_4 rfl (lv_at hl 2 rfl) ?_
      refine lv_aload_n hx hb dX12_hereOnes_5 rfl (lv_at hl 0 rfl) ?_
      refine va_get (D := g.1) (ci := 10) (v := .ref (a 0)) (C := RX12) (T := TX12) (N := 20) hx hb hts izRX12 hown hK hP 0 rfl rfl 1 (by decide) (hts _ k815) (fun _ h9 => h9) rfl dX12_hereOnes_6 ?_
      refine lv_iconst (v := 3) hx hb dX12_hereOnes_9 (by decide) ?_
      refine va_iald hx hb hK hP 1 0 rfl rfl (zin rfl) dX12_hereOnes_10 ?_
      refine ztop (r := (fm 3)) rfl ?_
      refine lv_icmp_ge (tgt := 38) hx hb dX12_hereOnes_11 (by decide) (fun cb9 => ?_) (fun cb9 => ?_)
      · skip
        have c8 : (fm 3).toInt ≤ x_2.toInt := zle cb9 rfl rfl
        refine lv_iload_n hx hb dX12_hereOnes_38 rfl (lv_at hl 1 rfl) ?_
        refine ztop (r := (zHs (zV fm) (fm 3).toInt.toNat)) (zFo_x i4 (by omega)) ?_
        have hP : va_P g.1 vwCl (List.flatten [bMo g o a th hi ac tp ba en tA fl de iD iO tU fm fk fa fc ft ff fb fi]) H := hP
        have hD : va_D A (List.flatten [bMo g o a th hi ac tp ba en tA fl de iD iO tU fm fk fa fc ft ff fb fi]) := hD
        exact mret_i hx hb hr hlocks hS (Nat.le_of_ble_eq_true rfl) (Nat.le_of_ble_eq_true rfl) dX12_hereOnes_39 () rfl trivial hP hD
      · skip
        have c9 : x_2.toInt < (fm 3).toInt := zlti (Int32.not_le.mp cb9) rfl rfl
        have n10 : x_2.toInt ≤ 7 := zL1 (b := 8) c9 (rM3 rfm).2 (by decide)
        have n11 : 1 ≤ (fm 3).toInt := zL2 (a := 0) c9 i3.1 (by decide)
        refine lv_iload_n hx hb dX12_hereOnes_14 rfl (lv_at hl 1 rfl) ?_
        refine lv_aload_n hx hb dX12_hereOnes_15 rfl (lv_at hl 0 rfl) ?_
        refine lv_iload_n hx hb dX12_hereOnes_16 rfl (lv_at hl 2 rfl) ?_
        refine mcallV' (g := g) (q0 := 0) (ci := 10) (As := [.int x_2]) (rest := [.int x_1]) St hK hT hA hP hD hS hl.1 [0] [] rfl rfl rfl (m_isHereG l g o a th hi ac tp ba en tA fl de iD iO tU fm fk fa fc ft ff fb fi x_2 (⟨i3.1, n10⟩)) (cwV 1 hts (zgL (zl4 k846 k847 k848 k839) k841) rfl rfl rfl (by decide +kernel) ⟨Nat.le_of_ble_eq_true rfl, Nat.le_of_ble_eq_true rfl⟩) rfl rfl rfl rfl (Nat.le_of_ble_eq_true rfl) dX12_hereOnes_17 ⟨(Nat.le_of_ble_eq_true rfl), (Nat.le_of_ble_eq_true rfl)⟩ (fun q_12 H locs hq13 hP hD hS => ?_)
        replace hq13 : (q_12 = 1 ∧ (zV fm 3 x_2.toInt.toNat).toInt = -1 ∨ q_12 = 0 ∧ ¬ (zV fm 3 x_2.toInt.toNat).toInt = -1) := hq13
        have hP : va_P g.1 vwCl (List.flatten [bMo g o a th hi ac tp ba en tA fl de iD iO tU fm fk fa fc ft ff fb fi]) H := hP
        have hD : va_D A (List.flatten [bMo g o a th hi ac tp ba en tA fl de iD iO tU fm fk fa fc ft ff fb fi]) := hD
        refine W.widen (k := 0) (n := 0) (Nat.le_of_ble_eq_true rfl) (Nat.le_of_ble_eq_true rfl) ?_
        refine W.eq (g2 := F0 m 20 ls [.int q_12, .int x_1]) rfl ?_
        rcases hq13 with ⟨rfl, hq13_k⟩ | ⟨rfl, hq13_k⟩
        · skip
          refine lv_if_eq (tgt := 29) hx hb dX12_hereOnes_20 (by decide) (fun c14 => absurd c14 (by decide)) (fun _ => ?_)
          refine lv_iconst (v := 1) hx hb dX12_hereOnes_23 (by decide) ?_
          refine lv_iload_n hx hb dX12_hereOnes_24 rfl (lv_at hl 2 rfl) ?_
          refine lv_ishl hx hb dX12_hereOnes_25 ?_
          refine ztop (r := (zBit x_2.toInt.toNat)) (zBit_k i3.1) ?_
          refine lv_goto (tgt := 30) hx hb dX12_hereOnes_26 (by decide) ?_
          refine lv_ior hx hb dX12_hereOnes_30 ?_
          refine lv_istore_n (lv' := [(1, .int (x_1 ||| (zBit x_2.toInt.toNat))), (0, .ref o), (2, .int x_2)]) hx hb dX12_hereOnes_31 rfl hl (by decide) rfl (fun ls hl => ?_)
          refine ziinc3 (n' := 1) (a' := 1) (b' := 8) (lv' := fun v9 => [(2, .int v9), (1, .int (x_1 ||| (zBit x_2.toInt.toNat))), (0, .ref o)]) hx hb dX12_hereOnes_32 hl (k := 2) rfl (by decide) (fun _ => rfl) (zaddK (i := x_2.toInt) (j := 1) rfl (by decide) i3.1 n10 (Int.le_refl _) (Int.le_refl _) (by decide)) (fun x_15 ls hx_15 hl => ?_)
          refine lv_goto (tgt := 4) hx hb dX12_hereOnes_35 (by decide) ?_
          have hl := lv_sub (l' := [(0, .ref o), (1, .int (x_1 ||| (zBit x_2.toInt.toNat))), (2, .int x_15)]) hl [2, 1, 0] rfl
          have hP : va_P g.1 vwCl (List.flatten [bMo g o a th hi ac tp ba en tA fl de iD iO tU fm fk fa fc ft ff fb fi]) H := hP
          have hD : va_D A (List.flatten [bMo g o a th hi ac tp ba en tA fl de iD iO tU fm fk fa fc ft ff fb fi]) := hD
          exact ih4_7 (x_1 ||| (zBit x_2.toInt.toNat)) x_15 ⟨(Int.le_trans (by decide) hx_15.2.1), hx_15.2.2⟩ (zFo_s i4 hx_15.1 (by omega) (by (try dsimp only); (repeat' split) <;> first | rfl | exact (Int32.add_zero _).symm | exact Int32.or_zero.symm | (exfalso; omega))) (by first | omega | assumption | decide) H _ ls (zmK hx_15.1 (by decide) n10 (by decide) hk4_7)  hP hD hS (lv_sub hl [0, 1, 2] rfl)
        · skip
          refine lv_if_eq (tgt := 29) hx hb dX12_hereOnes_20 (by decide) (fun _ => ?_) (fun c16 => absurd (by decide) c16)
          refine lv_iconst (v := 0) hx hb dX12_hereOnes_29 (by decide) ?_
          refine lv_ior hx hb dX12_hereOnes_30 ?_
          refine lv_istore_n (lv' := [(1, .int (x_1 ||| 0)), (0, .ref o), (2, .int x_2)]) hx hb dX12_hereOnes_31 rfl hl (by decide) rfl (fun ls hl => ?_)
          refine ziinc3 (n' := 1) (a' := 1) (b' := 8) (lv' := fun v9 => [(2, .int v9), (1, .int (x_1 ||| 0)), (0, .ref o)]) hx hb dX12_hereOnes_32 hl (k := 2) rfl (by decide) (fun _ => rfl) (zaddK (i := x_2.toInt) (j := 1) rfl (by decide) i3.1 n10 (Int.le_refl _) (Int.le_refl _) (by decide)) (fun x_17 ls hx_17 hl => ?_)
          refine lv_goto (tgt := 4) hx hb dX12_hereOnes_35 (by decide) ?_
          have hl := lv_sub (l' := [(0, .ref o), (1, .int (x_1 ||| 0)), (2, .int x_17)]) hl [2, 1, 0] rfl
          have hP : va_P g.1 vwCl (List.flatten [bMo g o a th hi ac tp ba en tA fl de iD iO tU fm fk fa fc ft ff fb fi]) H := hP
          have hD : va_D A (List.flatten [bMo g o a th hi ac tp ba en tA fl de iD iO tU fm fk fa fc ft ff fb fi]) := hD
          exact ih4_7 (x_1 ||| 0) x_17 ⟨(Int.le_trans (by decide) hx_17.2.1), hx_17.2.2⟩ (zFo_s i4 hx_17.1 (by omega) (by (try dsimp only); (repeat' split) <;> first | rfl | exact (Int32.add_zero _).symm | exact Int32.or_zero.symm | (exfalso; omega))) (by first | omega | assumption | decide) H _ ls (zmK hx_17.1 (by decide) n10 (by decide) hk4_7)  hP hD hS (lv_sub hl [0, 1, 2] rfl)
  have hL0 : (0 : Int32).toInt = 0 := by decide
  have hP : va_P g.1 vwCl (List.flatten [bMo g o a th hi ac tp ba en tA fl de iD iO tU fm fk fa fc ft ff fb fi]) s.heap := hP
  have hD : va_D A (List.flatten [bMo g o a th hi ac tp ba en tA fl de iD iO tU fm fk fa fc ft ff fb fi]) := hD
  exact LP4_6 _ 0 0 (by decide) (zFo_0 (by decide) (by decide)) (by first | omega | assumption | decide) s.heap _ ls (Nat.lt_succ_self _)  hP hD hS (lv_sub hl [0, 1, 2] rfl)
set_option maxRecDepth 100000 in
set_option maxHeartbeats 4000000 in
theorem m_believedG (l : Launch) (g : zG) (o : Nat) (a : Nat → Nat) (th : Int32) (hi : Int32) (ac : Int32) (tp : Int32) (ba : Int32) (en : Int32) (tA : Int32) (fl : Int32) (de : Int32) (iD : Int32) (iO : Int32) (tU : Int32) (fm : Nat → Int32) (fk : Nat → Int32) (fa : Nat → Int32) (fc : Nat → Int32) (ft : Nat → Int32) (ff : Nat → Int32) (fb : Nat → Int32) (fi : Nat → Int32) (rfm : rM fm) : zM' g l yX12_believed (Cond.code yX12_believed cX12_believed 3 (some .int) :: zB) ({ frames := 2, cells := 0, slots := 0, locals := 43 } : Room) [.ref o] [bMo g o a th hi ac tp ba en tA fl de iD iO tU fm fk fa fc ft ff fb fi] (fun _ : Unit => some (.int (zBel (zV fm) (fm 3).toInt.toNat))) (fun _ : Unit => True) (fun _ : Unit => [bMo g o a th hi ac tp ba en tA fl de iD iO tU fm fk fa fc ft ff fb fi]) := by
  refine zM'.of (cc := cX12_believed) (maxL := 3) (rt := (some .int)) (by decide) rfl (Nat.le_of_ble_eq_true rfl) ?_
  intro p e s m args below meth c A ls St hr hlocks hin hK hT hA hP hD hS hl
  obtain ⟨hx, hb, hml, hown, hts⟩ := id St
  have hl : lv_has ls 3 [(0, .ref o)] := hl
  have hrm3 := rM3 rfm
  have hrm4 := rM4 rfm
  refine lv_iconst (v := 0) hx hb dX12_believed_0 (by decide) ?_
  refine lv_istore_n (lv' := [(1, .int 0), (0, .ref o)]) hx hb dX12_believed_1 rfl hl (by decide) rfl (fun ls hl => ?_)
  refine lv_iconst (v := 0) hx hb dX12_believed_2 (by decide) ?_
  refine lv_istore_n (lv' := [(2, .int 0), (1, .int 0), (0, .ref o)]) hx hb dX12_believed_3 rfl hl (by decide) rfl (fun ls hl => ?_)
  have hl := lv_sub (l' := [(0, .ref o), (1, .int 0), (2, .int 0)]) hl [2, 1, 0] rfl
  have LP4_6 : ∀ (kf : Nat) (x_1 : Int32) (x_2 : Int32), (0 ≤ x_2.toInt ∧ x_2.toInt ≤ 8) → (x_1 = zSu (fun x => if ((zV fm) 3 x).toInt = -1 then (zV fm) 0 x else 0) x_2.toInt.toNat) → (x_2.toInt ≤ (fm 3).toInt) → ∀ (H : Heap) (locs : List Loc) (ls : Array Slot), ((9 - x_2.toInt).toNat) < kf → va_P g.1 vwCl (List.flatten [bMo g o a th hi ac tp ba en tA fl de iD iO tU fm fk fa fc ft ff fb fi]) H → va_D A (List.flatten [bMo g o a th hi ac tp ba en tA fl de iD iO tU fm fk fa fc ft ff fb fi]) → va_S A s.heap H locs → lv_has ls 3 [(0, .ref o), (1, .int x_1), (2, .int x_2)] → W p l e ({ frames := 2, cells := 0, slots := 0, locals := 43 } : Room) s m args below meth c H locs (0) (0) (zF g (fun _ : Unit => some (.int (zBel (zV fm) (fm 3).toInt.toNat))) (fun _ : Unit => True) (fun _ : Unit => [bMo g o a th hi ac tp ba en tA fl de iD iO tU fm fk fa fc ft ff fb fi]) ({ frames := 2, cells := 0, slots := 0, locals := 43 } : Room) below args s A) (F0 m 4 ls []) := by
    intro kf
    induction kf with
    | zero => intro x_1 x_2 i3 i4 i5 H locs ls hk; exact absurd hk (Nat.not_lt_zero _)
    | succ kf ih4_7 =>
      intro x_1 x_2 i3 i4 i5 H locs ls hk4_7 hP hD hS hl
      refine lv_iload_n hx hb dX12_believed_4 rfl (lv_at hl 2 rfl) ?_
      refine lv_aload_n hx hb dX12_believed_5 rfl (lv_at hl 0 rfl) ?_
      refine va_get (D := g.1) (ci := 10) (v := .ref (a 0)) (C := RX12) (T := TX12) (N := 20) hx hb hts izRX12 hown hK hP 0 rfl rfl 1 (by decide) (hts _ k815) (fun _ h9 => h9) rfl dX12_believed_6 ?_
      refine lv_iconst (v := 3) hx hb dX12_believed_9 (by decide) ?_
      refine va_iald hx hb hK hP 1 0 rfl rfl (zin rfl) dX12_believed_10 ?_
      refine ztop (r := (fm 3)) rfl ?_
      refine lv_icmp_ge (tgt := 41) hx hb dX12_believed_11 (by decide) (fun cb9 => ?_) (fun cb9 => ?_)
      · skip
        have c8 : (fm 3).toInt ≤ x_2.toInt := zle cb9 rfl rfl
        refine lv_iload_n hx hb dX12_believed_41 rfl (lv_at hl 1 rfl) ?_
        refine ztop (r := (zBel (zV fm) (fm 3).toInt.toNat)) (zFo_x i4 (by omega)) ?_
        have hP : va_P g.1 vwCl (List.flatten [bMo g o a th hi ac tp ba en tA fl de iD iO tU fm fk fa fc ft ff fb fi]) H := hP
        have hD : va_D A (List.flatten [bMo g o a th hi ac tp ba en tA fl de iD iO tU fm fk fa fc ft ff fb fi]) := hD
        exact mret_i hx hb hr hlocks hS (Nat.le_of_ble_eq_true rfl) (Nat.le_of_ble_eq_true rfl) dX12_believed_42 () rfl trivial hP hD
      · skip
        have c9 : x_2.toInt < (fm 3).toInt := zlti (Int32.not_le.mp cb9) rfl rfl
        have n10 : x_2.toInt ≤ 7 := zL1 (b := 8) c9 (rM3 rfm).2 (by decide)
        have n11 : 1 ≤ (fm 3).toInt := zL2 (a := 0) c9 i3.1 (by decide)
        refine lv_iload_n hx hb dX12_believed_14 rfl (lv_at hl 1 rfl) ?_
        refine lv_aload_n hx hb dX12_believed_15 rfl (lv_at hl 0 rfl) ?_
        refine lv_iload_n hx hb dX12_believed_16 rfl (lv_at hl 2 rfl) ?_
        refine mcallV' (g := g) (q0 := 0) (ci := 10) (As := [.int x_2]) (rest := [.int x_1]) St hK hT hA hP hD hS hl.1 [0] [] rfl rfl rfl (m_isHereG l g o a th hi ac tp ba en tA fl de iD iO tU fm fk fa fc ft ff fb fi x_2 (⟨i3.1, n10⟩)) (cwV 1 hts (zgL (zl4 k846 k847 k848 k839) k841) rfl rfl rfl (by decide +kernel) ⟨Nat.le_of_ble_eq_true rfl, Nat.le_of_ble_eq_true rfl⟩) rfl rfl rfl rfl (Nat.le_of_ble_eq_true rfl) dX12_believed_17 ⟨(Nat.le_of_ble_eq_true rfl), (Nat.le_of_ble_eq_true rfl)⟩ (fun q_12 H locs hq13 hP hD hS => ?_)
        replace hq13 : (q_12 = 1 ∧ (zV fm 3 x_2.toInt.toNat).toInt = -1 ∨ q_12 = 0 ∧ ¬ (zV fm 3 x_2.toInt.toNat).toInt = -1) := hq13
        have hP : va_P g.1 vwCl (List.flatten [bMo g o a th hi ac tp ba en tA fl de iD iO tU fm fk fa fc ft ff fb fi]) H := hP
        have hD : va_D A (List.flatten [bMo g o a th hi ac tp ba en tA fl de iD iO tU fm fk fa fc ft ff fb fi]) := hD
        refine W.widen (k := 0) (n := 0) (Nat.le_of_ble_eq_true rfl) (Nat.le_of_ble_eq_true rfl) ?_
        refine W.eq (g2 := F0 m 20 ls [.int q_12, .int x_1]) rfl ?_
        rcases hq13 with ⟨rfl, hq13_k⟩ | ⟨rfl, hq13_k⟩
        · skip
          refine lv_if_eq (tgt := 32) hx hb dX12_believed_20 (by decide) (fun c14 => absurd c14 (by decide)) (fun _ => ?_)
          refine lv_aload_n hx hb dX12_believed_23 rfl (lv_at hl 0 rfl) ?_
          refine lv_iload_n hx hb dX12_believed_24 rfl (lv_at hl 2 rfl) ?_
          refine lv_iconst (v := 0) hx hb dX12_believed_25 (by decide) ?_
          refine mcallV' (g := g) (q0 := 0) (ci := 10) (As := [.int x_2, .int 0]) (rest := [.int x_1]) St hK hT hA hP hD hS hl.1 [0] [] rfl rfl rfl (m_of0F l g o a th hi ac tp ba en tA fl de iD iO tU fm fk fa fc ft ff fb fi x_2 (⟨i3.1, n10⟩)) (cwV 2 hts (zgL (zl4 k842 k843 k844 k839) k831) rfl rfl rfl (by decide +kernel) ⟨Nat.le_of_ble_eq_true rfl, Nat.le_of_ble_eq_true rfl⟩) rfl rfl rfl rfl (Nat.le_of_ble_eq_true rfl) dX12_believed_26 ⟨(Nat.le_of_ble_eq_true rfl), (Nat.le_of_ble_eq_true rfl)⟩ (fun _u H locs hq15 hP hD hS => ?_)
          have hP : va_P g.1 vwCl (List.flatten [bMo g o a th hi ac tp ba en tA fl de iD iO tU fm fk fa fc ft ff fb fi]) H := hP
          have hD : va_D A (List.flatten [bMo g o a th hi ac tp ba en tA fl de iD iO tU fm fk fa fc ft ff fb fi]) := hD
          refine W.widen (k := 0) (n := 0) (Nat.le_of_ble_eq_true rfl) (Nat.le_of_ble_eq_true rfl) ?_
          refine W.eq (g2 := F0 m 29 ls [.int (zV fm 0 x_2.toInt.toNat), .int x_1]) rfl ?_
          refine lv_goto (tgt := 33) hx hb dX12_believed_29 (by decide) ?_
          refine lv_iadd hx hb dX12_believed_33 ?_
          refine lv_istore_n (lv' := [(1, .int (x_1 + (zV fm 0 x_2.toInt.toNat))), (0, .ref o), (2, .int x_2)]) hx hb dX12_believed_34 rfl hl (by decide) rfl (fun ls hl => ?_)
          refine ziinc3 (n' := 1) (a' := 1) (b' := 8) (lv' := fun v9 => [(2, .int v9), (1, .int (x_1 + (zV fm 0 x_2.toInt.toNat))), (0, .ref o)]) hx hb dX12_believed_35 hl (k := 2) rfl (by decide) (fun _ => rfl) (zaddK (i := x_2.toInt) (j := 1) rfl (by decide) i3.1 n10 (Int.le_refl _) (Int.le_refl _) (by decide)) (fun x_16 ls hx_16 hl => ?_)
          refine lv_goto (tgt := 4) hx hb dX12_believed_38 (by decide) ?_
          have hl := lv_sub (l' := [(0, .ref o), (1, .int (x_1 + (zV fm 0 x_2.toInt.toNat))), (2, .int x_16)]) hl [2, 1, 0] rfl
          have hP : va_P g.1 vwCl (List.flatten [bMo g o a th hi ac tp ba en tA fl de iD iO tU fm fk fa fc ft ff fb fi]) H := hP
          have hD : va_D A (List.flatten [bMo g o a th hi ac tp ba en tA fl de iD iO tU fm fk fa fc ft ff fb fi]) := hD
          exact ih4_7 (x_1 + (zV fm 0 x_2.toInt.toNat)) x_16 ⟨(Int.le_trans (by decide) hx_16.2.1), hx_16.2.2⟩ (zFo_s i4 hx_16.1 (by omega) (by (try dsimp only); (repeat' split) <;> first | rfl | exact (Int32.add_zero _).symm | exact Int32.or_zero.symm | (exfalso; omega))) (by first | omega | assumption | decide) H _ ls (zmK hx_16.1 (by decide) n10 (by decide) hk4_7)  hP hD hS (lv_sub hl [0, 1, 2] rfl)
        · skip
          refine lv_if_eq (tgt := 32) hx hb dX12_believed_20 (by decide) (fun _ => ?_) (fun c17 => absurd (by decide) c17)
          refine lv_iconst (v := 0) hx hb dX12_believed_32 (by decide) ?_
          refine lv_iadd hx hb dX12_believed_33 ?_
          refine lv_istore_n (lv' := [(1, .int (x_1 + 0)), (0, .ref o), (2, .int x_2)]) hx hb dX12_believed_34 rfl hl (by decide) rfl (fun ls hl => ?_)
          refine ziinc3 (n' := 1) (a' := 1) (b' := 8) (lv' := fun v9 => [(2, .int v9), (1, .int (x_1 + 0)), (0, .ref o)]) hx hb dX12_believed_35 hl (k := 2) rfl (by decide) (fun _ => rfl) (zaddK (i := x_2.toInt) (j := 1) rfl (by decide) i3.1 n10 (Int.le_refl _) (Int.le_refl _) (by decide)) (fun x_18 ls hx_18 hl => ?_)
          refine lv_goto (tgt := 4) hx hb dX12_believed_38 (by decide) ?_
          have hl := lv_sub (l' := [(0, .ref o), (1, .int (x_1 + 0)), (2, .int x_18)]) hl [2, 1, 0] rfl
          have hP : va_P g.1 vwCl (List.flatten [bMo g o a th hi ac tp ba en tA fl de iD iO tU fm fk fa fc ft ff fb fi]) H := hP
          have hD : va_D A (List.flatten [bMo g o a th hi ac tp ba en tA fl de iD iO tU fm fk fa fc ft ff fb fi]) := hD
          exact ih4_7 (x_1 + 0) x_18 ⟨(Int.le_trans (by decide) hx_18.2.1), hx_18.2.2⟩ (zFo_s i4 hx_18.1 (by omega) (by (try dsimp only); (repeat' split) <;> first | rfl | exact (Int32.add_zero _).symm | exact Int32.or_zero.symm | (exfalso; omega))) (by first | omega | assumption | decide) H _ ls (zmK hx_18.1 (by decide) n10 (by decide) hk4_7)  hP hD hS (lv_sub hl [0, 1, 2] rfl)
  have hL0 : (0 : Int32).toInt = 0 := by decide
  have hP : va_P g.1 vwCl (List.flatten [bMo g o a th hi ac tp ba en tA fl de iD iO tU fm fk fa fc ft ff fb fi]) s.heap := hP
  have hD : va_D A (List.flatten [bMo g o a th hi ac tp ba en tA fl de iD iO tU fm fk fa fc ft ff fb fi]) := hD
  exact LP4_6 _ 0 0 (by decide) (zFo_0 (by decide) (by decide)) (by first | omega | assumption | decide) s.heap _ ls (Nat.lt_succ_self _)  hP hD hS (lv_sub hl [0, 1, 2] rfl)
set_option maxRecDepth 100000 in
set_option maxHeartbeats 4000000 in
theorem m_worksOfG (l : Launch) (g : zG) (o : Nat) (a : Nat → Nat) (th : Int32) (hi : Int32) (ac : Int32) (tp : Int32) (ba : Int32) (en : Int32) (tA : Int32) (fl : Int32) (de : Int32) (iD : Int32) (iO : Int32) (tU : Int32) (fm : Nat → Int32) (fk : Nat → Int32) (fa : Nat → Int32) (fc : Nat → Int32) (ft : Nat → Int32) (ff : Nat → Int32) (fb : Nat → Int32) (fi : Nat → Int32) (v : Int32) (rfm : rM fm) : zM' g l yX12_worksOf (Cond.code yX12_worksOf cX12_worksOf 4 (some .int) :: zB) ({ frames := 1, cells := 0, slots := 0, locals := 22 } : Room) [.ref o, .int v] [bMo g o a th hi ac tp ba en tA fl de iD iO tU fm fk fa fc ft ff fb fi] (fun _ : Unit => some (.int (zWks (zV fm) (fm 4).toInt.toNat v))) (fun _ : Unit => True) (fun _ : Unit => [bMo g o a th hi ac tp ba en tA fl de iD iO tU fm fk fa fc ft ff fb fi]) := by
  refine zM'.of (cc := cX12_worksOf) (maxL := 4) (rt := (some .int)) (by decide) rfl (Nat.le_of_ble_eq_true rfl) ?_
  intro p e s m args below meth c A ls St hr hlocks hin hK hT hA hP hD hS hl
  obtain ⟨hx, hb, hml, hown, hts⟩ := id St
  have hl : lv_has ls 4 [(0, .ref o), (1, .int v)] := hl
  have hrm3 := rM3 rfm
  have hrm4 := rM4 rfm
  refine lv_iconst (v := 0) hx hb dX12_worksOf_0 (by decide) ?_
  refine lv_istore_n (lv' := [(2, .int 0), (0, .ref o), (1, .int v)]) hx hb dX12_worksOf_1 rfl hl (by decide) rfl (fun ls hl => ?_)
  refine lv_iconst (v := 0) hx hb dX12_worksOf_2 (by decide) ?_
  refine lv_istore_n (lv' := [(3, .int 0), (2, .int 0), (0, .ref o), (1, .int v)]) hx hb dX12_worksOf_3 rfl hl (by decide) rfl (fun ls hl => ?_)
  have hl := lv_sub (l' := [(0, .ref o), (1, .int v), (2, .int 0), (3, .int 0)]) hl [2, 3, 1, 0] rfl
  have LP4_6 : ∀ (kf : Nat) (x_1 : Int32) (x_2 : Int32), (0 ≤ x_2.toInt ∧ x_2.toInt ≤ 6) → (x_1 = zOf (fun w => if ((zV fm) 9 w).toInt = v.toInt then zBit w else 0) x_2.toInt.toNat) → (x_2.toInt ≤ (fm 4).toInt) → ∀ (H : Heap) (locs : List Loc) (ls : Array Slot), ((7 - x_2.toInt).toNat) < kf → va_P g.1 vwCl (List.flatten [bMo g o a th hi ac tp ba en tA fl de iD iO tU fm fk fa fc ft ff fb fi]) H → va_D A (List.flatten [bMo g o a th hi ac tp ba en tA fl de iD iO tU fm fk fa fc ft ff fb fi]) → va_S A s.heap H locs → lv_has ls 4 [(0, .ref o), (1, .int v), (2, .int x_1), (3, .int x_2)] → W p l e ({ frames := 1, cells := 0, slots := 0, locals := 22 } : Room) s m args below meth c H locs (0) (0) (zF g (fun _ : Unit => some (.int (zWks (zV fm) (fm 4).toInt.toNat v))) (fun _ : Unit => True) (fun _ : Unit => [bMo g o a th hi ac tp ba en tA fl de iD iO tU fm fk fa fc ft ff fb fi]) ({ frames := 1, cells := 0, slots := 0, locals := 22 } : Room) below args s A) (F0 m 4 ls []) := by
    intro kf
    induction kf with
    | zero => intro x_1 x_2 i3 i4 i5 H locs ls hk; exact absurd hk (Nat.not_lt_zero _)
    | succ kf ih4_7 =>
      intro x_1 x_2 i3 i4 i5 H locs ls hk4_7 hP hD hS hl
      refine lv_iload_n hx hb dX12_worksOf_4 rfl (lv_at hl 3 rfl) ?_
      refine lv_aload_n hx hb dX12_worksOf_5 rfl (lv_at hl 0 rfl) ?_
      refine va_get (D := g.1) (ci := 10) (v := .ref (a 0)) (C := RX12) (T := TX12) (N := 20) hx hb hts izRX12 hown hK hP 0 rfl rfl 1 (by decide) (hts _ k815) (fun _ h9 => h9) rfl dX12_worksOf_6 ?_
      refine lv_iconst (v := 4) hx hb dX12_worksOf_9 (by decide) ?_
      refine va_iald hx hb hK hP 1 0 rfl rfl (zin rfl) dX12_worksOf_10 ?_
      refine ztop (r := (fm 4)) rfl ?_
      refine lv_icmp_ge (tgt := 40) hx hb dX12_worksOf_11 (by decide) (fun cb9 => ?_) (fun cb9 => ?_)
      · skip
        have c8 : (fm 4).toInt ≤ x_2.toInt := zle cb9 rfl rfl
        refine lv_iload_n hx hb dX12_worksOf_40 rfl (lv_at hl 2 rfl) ?_
        refine ztop (r := (zWks (zV fm) (fm 4).toInt.toNat v)) (zFo_x i4 (by omega)) ?_
        have hP : va_P g.1 vwCl (List.flatten [bMo g o a th hi ac tp ba en tA fl de iD iO tU fm fk fa fc ft ff fb fi]) H := hP
        have hD : va_D A (List.flatten [bMo g o a th hi ac tp ba en tA fl de iD iO tU fm fk fa fc ft ff fb fi]) := hD
        exact mret_i hx hb hr hlocks hS (Nat.le_of_ble_eq_true rfl) (Nat.le_of_ble_eq_true rfl) dX12_worksOf_41 () rfl trivial hP hD
      · skip
        have c9 : x_2.toInt < (fm 4).toInt := zlti (Int32.not_le.mp cb9) rfl rfl
        have n10 : x_2.toInt ≤ 5 := zL1 (b := 6) c9 (rM4 rfm).2 (by decide)
        have n11 : 1 ≤ (fm 4).toInt := zL2 (a := 0) c9 i3.1 (by decide)
        refine lv_iload_n hx hb dX12_worksOf_14 rfl (lv_at hl 2 rfl) ?_
        refine lv_aload_n hx hb dX12_worksOf_15 rfl (lv_at hl 0 rfl) ?_
        refine lv_iload_n hx hb dX12_worksOf_16 rfl (lv_at hl 3 rfl) ?_
        refine lv_iconst (v := 3) hx hb dX12_worksOf_17 (by decide) ?_
        refine mcallV' (g := g) (q0 := 0) (ci := 10) (As := [.int x_2, .int 3]) (rest := [.int x_1]) St hK hT hA hP hD hS hl.1 [0] [] rfl rfl rfl (m_ofW3F l g o a th hi ac tp ba en tA fl de iD iO tU fm fk fa fc ft ff fb fi x_2 (⟨i3.1, n10⟩)) (cwV 2 hts (zgL (zl4 k864 k865 k866 k839) k833) rfl rfl rfl (by decide +kernel) ⟨Nat.le_of_ble_eq_true rfl, Nat.le_of_ble_eq_true rfl⟩) rfl rfl rfl rfl (Nat.le_of_ble_eq_true rfl) dX12_worksOf_18 ⟨(Nat.le_of_ble_eq_true rfl), (Nat.le_of_ble_eq_true rfl)⟩ (fun _u H locs hq12 hP hD hS => ?_)
        have hP : va_P g.1 vwCl (List.flatten [bMo g o a th hi ac tp ba en tA fl de iD iO tU fm fk fa fc ft ff fb fi]) H := hP
        have hD : va_D A (List.flatten [bMo g o a th hi ac tp ba en tA fl de iD iO tU fm fk fa fc ft ff fb fi]) := hD
        refine W.widen (k := 0) (n := 0) (Nat.le_of_ble_eq_true rfl) (Nat.le_of_ble_eq_true rfl) ?_
        refine W.eq (g2 := F0 m 21 ls [.int (zV fm 9 x_2.toInt.toNat), .int x_1]) rfl ?_
        refine lv_iload_n hx hb dX12_worksOf_21 rfl (lv_at hl 1 rfl) ?_
        refine lv_icmp_ne (tgt := 31) hx hb dX12_worksOf_22 (by decide) (fun cb9 => ?_) (fun cb9 => ?_)
        · skip
          have c13 : ¬ (zV fm 9 x_2.toInt.toNat).toInt = v.toInt := zne cb9 rfl rfl
          refine lv_iconst (v := 0) hx hb dX12_worksOf_31 (by decide) ?_
          refine lv_ior hx hb dX12_worksOf_32 ?_
          refine lv_istore_n (lv' := [(2, .int (x_1 ||| 0)), (0, .ref o), (1, .int v), (3, .int x_2)]) hx hb dX12_worksOf_33 rfl hl (by decide) rfl (fun ls hl => ?_)
          refine ziinc3 (n' := 1) (a' := 1) (b' := 6) (lv' := fun v9 => [(3, .int v9), (2, .int (x_1 ||| 0)), (0, .ref o), (1, .int v)]) hx hb dX12_worksOf_34 hl (k := 3) rfl (by decide) (fun _ => rfl) (zaddK (i := x_2.toInt) (j := 1) rfl (by decide) i3.1 n10 (Int.le_refl _) (Int.le_refl _) (by decide)) (fun x_14 ls hx_14 hl => ?_)
          refine lv_goto (tgt := 4) hx hb dX12_worksOf_37 (by decide) ?_
          have hl := lv_sub (l' := [(0, .ref o), (1, .int v), (2, .int (x_1 ||| 0)), (3, .int x_14)]) hl [2, 3, 1, 0] rfl
          have hP : va_P g.1 vwCl (List.flatten [bMo g o a th hi ac tp ba en tA fl de iD iO tU fm fk fa fc ft ff fb fi]) H := hP
          have hD : va_D A (List.flatten [bMo g o a th hi ac tp ba en tA fl de iD iO tU fm fk fa fc ft ff fb fi]) := hD
          exact ih4_7 (x_1 ||| 0) x_14 ⟨(Int.le_trans (by decide) hx_14.2.1), hx_14.2.2⟩ (zFo_s i4 hx_14.1 (by omega) (by (try dsimp only); (repeat' split) <;> first | rfl | exact (Int32.add_zero _).symm | exact Int32.or_zero.symm | (exfalso; omega))) (by first | omega | assumption | decide) H _ ls (zmK hx_14.1 (by decide) n10 (by decide) hk4_7)  hP hD hS (lv_sub hl [0, 1, 2, 3] rfl)
        · skip
          have c15 : (zV fm 9 x_2.toInt.toNat).toInt = v.toInt := zeq cb9 rfl rfl
          refine lv_iconst (v := 1) hx hb dX12_worksOf_25 (by decide) ?_
          refine lv_iload_n hx hb dX12_worksOf_26 rfl (lv_at hl 3 rfl) ?_
          refine lv_ishl hx hb dX12_worksOf_27 ?_
          refine ztop (r := (zBit x_2.toInt.toNat)) (zBit_k i3.1) ?_
          refine lv_goto (tgt := 32) hx hb dX12_worksOf_28 (by decide) ?_
          refine lv_ior hx hb dX12_worksOf_32 ?_
          refine lv_istore_n (lv' := [(2, .int (x_1 ||| (zBit x_2.toInt.toNat))), (0, .ref o), (1, .int v), (3, .int x_2)]) hx hb dX12_worksOf_33 rfl hl (by decide) rfl (fun ls hl => ?_)
          refine ziinc3 (n' := 1) (a' := 1) (b' := 6) (lv' := fun v9 => [(3, .int v9), (2, .int (x_1 ||| (zBit x_2.toInt.toNat))), (0, .ref o), (1, .int v)]) hx hb dX12_worksOf_34 hl (k := 3) rfl (by decide) (fun _ => rfl) (zaddK (i := x_2.toInt) (j := 1) rfl (by decide) i3.1 n10 (Int.le_refl _) (Int.le_refl _) (by decide)) (fun x_16 ls hx_16 hl => ?_)
          refine lv_goto (tgt := 4) hx hb dX12_worksOf_37 (by decide) ?_
          have hl := lv_sub (l' := [(0, .ref o), (1, .int v), (2, .int (x_1 ||| (zBit x_2.toInt.toNat))), (3, .int x_16)]) hl [2, 3, 1, 0] rfl
          have hP : va_P g.1 vwCl (List.flatten [bMo g o a th hi ac tp ba en tA fl de iD iO tU fm fk fa fc ft ff fb fi]) H := hP
          have hD : va_D A (List.flatten [bMo g o a th hi ac tp ba en tA fl de iD iO tU fm fk fa fc ft ff fb fi]) := hD
          exact ih4_7 (x_1 ||| (zBit x_2.toInt.toNat)) x_16 ⟨(Int.le_trans (by decide) hx_16.2.1), hx_16.2.2⟩ (zFo_s i4 hx_16.1 (by omega) (by (try dsimp only); (repeat' split) <;> first | rfl | exact (Int32.add_zero _).symm | exact Int32.or_zero.symm | (exfalso; omega))) (by first | omega | assumption | decide) H _ ls (zmK hx_16.1 (by decide) n10 (by decide) hk4_7)  hP hD hS (lv_sub hl [0, 1, 2, 3] rfl)
  have hL0 : (0 : Int32).toInt = 0 := by decide
  have hP : va_P g.1 vwCl (List.flatten [bMo g o a th hi ac tp ba en tA fl de iD iO tU fm fk fa fc ft ff fb fi]) s.heap := hP
  have hD : va_D A (List.flatten [bMo g o a th hi ac tp ba en tA fl de iD iO tU fm fk fa fc ft ff fb fi]) := hD
  exact LP4_6 _ 0 0 (by decide) (zFo_0 (by decide) (by decide)) (by first | omega | assumption | decide) s.heap _ ls (Nat.lt_succ_self _)  hP hD hS (lv_sub hl [0, 1, 2, 3] rfl)
set_option maxRecDepth 100000 in
set_option maxHeartbeats 4000000 in
theorem m_tiesG (l : Launch) (g : zG) (o : Nat) (a : Nat → Nat) (th : Int32) (hi : Int32) (ac : Int32) (tp : Int32) (ba : Int32) (en : Int32) (tA : Int32) (fl : Int32) (de : Int32) (iD : Int32) (iO : Int32) (tU : Int32) (fm : Nat → Int32) (fk : Nat → Int32) (fa : Nat → Int32) (fc : Nat → Int32) (ft : Nat → Int32) (ff : Nat → Int32) (fb : Nat → Int32) (fi : Nat → Int32) (x : Int32) (rfm : rM fm) (b_x : 0 ≤ x.toInt ∧ x.toInt ≤ 7) : zM' g l yX12_ties (Cond.code yX12_ties cX12_ties 4 (some .int) :: zB) ({ frames := 1, cells := 0, slots := 0, locals := 22 } : Room) [.ref o, .int x] [bMo g o a th hi ac tp ba en tA fl de iD iO tU fm fk fa fc ft ff fb fi] (fun _ : Unit => some (.int (zTie (zV fm) (fm 3).toInt.toNat x.toInt.toNat))) (fun _ : Unit => True) (fun _ : Unit => [bMo g o a th hi ac tp ba en tA fl de iD iO tU fm fk fa fc ft ff fb fi]) := by
  refine zM'.of (cc := cX12_ties) (maxL := 4) (rt := (some .int)) (by decide) rfl (Nat.le_of_ble_eq_true rfl) ?_
  intro p e s m args below meth c A ls St hr hlocks hin hK hT hA hP hD hS hl
  obtain ⟨hx, hb, hml, hown, hts⟩ := id St
  have hl : lv_has ls 4 [(0, .ref o), (1, .int x)] := hl
  have hrm3 := rM3 rfm
  have hrm4 := rM4 rfm
  refine lv_iconst (v := 0) hx hb dX12_ties_0 (by decide) ?_
  refine lv_istore_n (lv' := [(2, .int 0), (0, .ref o), (1, .int x)]) hx hb dX12_ties_1 rfl hl (by decide) rfl (fun ls hl => ?_)
  refine lv_iconst (v := 0) hx hb dX12_ties_2 (by decide) ?_
  refine lv_istore_n (lv' := [(3, .int 0), (2, .int 0), (0, .ref o), (1, .int x)]) hx hb dX12_ties_3 rfl hl (by decide) rfl (fun ls hl => ?_)
  have hl := lv_sub (l' := [(0, .ref o), (1, .int x), (2, .int 0), (3, .int 0)]) hl [2, 3, 1, 0] rfl
  have LP4_6 : ∀ (kf : Nat) (x_1 : Int32) (x_2 : Int32), (0 ≤ x_2.toInt ∧ x_2.toInt ≤ 8) → (x_1 = zSu (fun o => if o = x.toInt.toNat then 0 else if 0 < ((zV fm) 5 (8 * x.toInt.toNat + o)).toInt then 1 else 0) x_2.toInt.toNat) → (x_2.toInt ≤ (fm 3).toInt) → ∀ (H : Heap) (locs : List Loc) (ls : Array Slot), ((9 - x_2.toInt).toNat) < kf → va_P g.1 vwCl (List.flatten [bMo g o a th hi ac tp ba en tA fl de iD iO tU fm fk fa fc ft ff fb fi]) H → va_D A (List.flatten [bMo g o a th hi ac tp ba en tA fl de iD iO tU fm fk fa fc ft ff fb fi]) → va_S A s.heap H locs → lv_has ls 4 [(0, .ref o), (1, .int x), (2, .int x_1), (3, .int x_2)] → W p l e ({ frames := 1, cells := 0, slots := 0, locals := 22 } : Room) s m args below meth c H locs (0) (0) (zF g (fun _ : Unit => some (.int (zTie (zV fm) (fm 3).toInt.toNat x.toInt.toNat))) (fun _ : Unit => True) (fun _ : Unit => [bMo g o a th hi ac tp ba en tA fl de iD iO tU fm fk fa fc ft ff fb fi]) ({ frames := 1, cells := 0, slots := 0, locals := 22 } : Room) below args s A) (F0 m 4 ls []) := by
    intro kf
    induction kf with
    | zero => intro x_1 x_2 i3 i4 i5 H locs ls hk; exact absurd hk (Nat.not_lt_zero _)
    | succ kf ih4_7 =>
      intro x_1 x_2 i3 i4 i5 H locs ls hk4_7 hP hD hS hl
      refine lv_iload_n hx hb dX12_ties_4 rfl (lv_at hl 3 rfl) ?_
      refine lv_aload_n hx hb dX12_ties_5 rfl (lv_at hl 0 rfl) ?_
      refine va_get (D := g.1) (ci := 10) (v := .ref (a 0)) (C := RX12) (T := TX12) (N := 20) hx hb hts izRX12 hown hK hP 0 rfl rfl 1 (by decide) (hts _ k815) (fun _ h9 => h9) rfl dX12_ties_6 ?_
      refine lv_iconst (v := 3) hx hb dX12_ties_9 (by decide) ?_
      refine va_iald hx hb hK hP 1 0 rfl rfl (zin rfl) dX12_ties_10 ?_
      refine ztop (r := (fm 3)) rfl ?_
      refine lv_icmp_ge (tgt := 42) hx hb dX12_ties_11 (by decide) (fun cb9 => ?_) (fun cb9 => ?_)
      · skip
        have c8 : (fm 3).toInt ≤ x_2.toInt := zle cb9 rfl rfl
        refine lv_iload_n hx hb dX12_ties_42 rfl (lv_at hl 2 rfl) ?_
        refine ztop (r := (zTie (zV fm) (fm 3).toInt.toNat x.toInt.toNat)) (zFo_x i4 (by omega)) ?_
        have hP : va_P g.1 vwCl (List.flatten [bMo g o a th hi ac tp ba en tA fl de iD iO tU fm fk fa fc ft ff fb fi]) H := hP
        have hD : va_D A (List.flatten [bMo g o a th hi ac tp ba en tA fl de iD iO tU fm fk fa fc ft ff fb fi]) := hD
        exact mret_i hx hb hr hlocks hS (Nat.le_of_ble_eq_true rfl) (Nat.le_of_ble_eq_true rfl) dX12_ties_43 () rfl trivial hP hD
      · skip
        have c9 : x_2.toInt < (fm 3).toInt := zlti (Int32.not_le.mp cb9) rfl rfl
        have n10 : x_2.toInt ≤ 7 := zL1 (b := 8) c9 (rM3 rfm).2 (by decide)
        have n11 : 1 ≤ (fm 3).toInt := zL2 (a := 0) c9 i3.1 (by decide)
        refine lv_iload_n hx hb dX12_ties_14 rfl (lv_at hl 2 rfl) ?_
        refine lv_iload_n hx hb dX12_ties_15 rfl (lv_at hl 3 rfl) ?_
        refine lv_iload_n hx hb dX12_ties_16 rfl (lv_at hl 1 rfl) ?_
        refine lv_icmp_eq (tgt := 33) hx hb dX12_ties_17 (by decide) (fun cb9 => ?_) (fun cb9 => ?_)
        · skip
          have c12 : x_2.toInt = x.toInt := zeq cb9 rfl rfl
          refine lv_iconst (v := 0) hx hb dX12_ties_33 (by decide) ?_
          refine lv_iadd hx hb dX12_ties_34 ?_
          refine lv_istore_n (lv' := [(2, .int (x_1 + 0)), (0, .ref o), (1, .int x), (3, .int x_2)]) hx hb dX12_ties_35 rfl hl (by decide) rfl (fun ls hl => ?_)
          refine ziinc3 (n' := 1) (a' := 1) (b' := 8) (lv' := fun v9 => [(3, .int v9), (2, .int (x_1 + 0)), (0, .ref o), (1, .int x)]) hx hb dX12_ties_36 hl (k := 3) rfl (by decide) (fun _ => rfl) (zaddK (i := x_2.toInt) (j := 1) rfl (by decide) i3.1 n10 (Int.le_refl _) (Int.le_refl _) (by decide)) (fun x_13 ls hx_13 hl => ?_)
          refine lv_goto (tgt := 4) hx hb dX12_ties_39 (by decide) ?_
          have hl := lv_sub (l' := [(0, .ref o), (1, .int x), (2, .int (x_1 + 0)), (3, .int x_13)]) hl [2, 3, 1, 0] rfl
          have hP : va_P g.1 vwCl (List.flatten [bMo g o a th hi ac tp ba en tA fl de iD iO tU fm fk fa fc ft ff fb fi]) H := hP
          have hD : va_D A (List.flatten [bMo g o a th hi ac tp ba en tA fl de iD iO tU fm fk fa fc ft ff fb fi]) := hD
          exact ih4_7 (x_1 + 0) x_13 ⟨(Int.le_trans (by decide) hx_13.2.1), hx_13.2.2⟩ (zFo_s i4 hx_13.1 (by omega) (by (try dsimp only); (repeat' split) <;> first | rfl | exact (Int32.add_zero _).symm | exact Int32.or_zero.symm | (exfalso; omega))) (by first | omega | assumption | decide) H _ ls (zmK hx_13.1 (by decide) n10 (by decide) hk4_7)  hP hD hS (lv_sub hl [0, 1, 2, 3] rfl)
        · skip
          have c14 : ¬ x_2.toInt = x.toInt := zne cb9 rfl rfl
          refine lv_aload_n hx hb dX12_ties_20 rfl (lv_at hl 0 rfl) ?_
          refine lv_iload_n hx hb dX12_ties_21 rfl (lv_at hl 1 rfl) ?_
          refine lv_iload_n hx hb dX12_ties_22 rfl (lv_at hl 3 rfl) ?_
          refine mcallV' (g := g) (q0 := 0) (ci := 10) (As := [.int x, .int x_2]) (rest := [.int x_1]) St hK hT hA hP hD hS hl.1 [0] [] rfl rfl rfl (m_trustOfF l g o a th hi ac tp ba en tA fl de iD iO tU fm fk fa fc ft ff fb fi x x_2 b_x (⟨i3.1, n10⟩)) (cwV 2 hts (zgL (zl4 k868 k869 k870 k839) k835) rfl rfl rfl (by decide +kernel) ⟨Nat.le_of_ble_eq_true rfl, Nat.le_of_ble_eq_true rfl⟩) rfl rfl rfl rfl (Nat.le_of_ble_eq_true rfl) dX12_ties_23 ⟨(Nat.le_of_ble_eq_true rfl), (Nat.le_of_ble_eq_true rfl)⟩ (fun _u H locs hq15 hP hD hS => ?_)
          have hP : va_P g.1 vwCl (List.flatten [bMo g o a th hi ac tp ba en tA fl de iD iO tU fm fk fa fc ft ff fb fi]) H := hP
          have hD : va_D A (List.flatten [bMo g o a th hi ac tp ba en tA fl de iD iO tU fm fk fa fc ft ff fb fi]) := hD
          refine W.widen (k := 0) (n := 0) (Nat.le_of_ble_eq_true rfl) (Nat.le_of_ble_eq_true rfl) ?_
          refine W.eq (g2 := F0 m 26 ls [.int (zV fm 5 (8 * x.toInt.toNat + x_2.toInt.toNat)), .int x_1]) rfl ?_
          refine lv_if_le (tgt := 33) hx hb dX12_ties_26 (by decide) (fun cb9 => ?_) (fun cb9 => ?_)
          · skip
            have c16 : (zV fm 5 (8 * x.toInt.toNat + x_2.toInt.toNat)).toInt ≤ 0 := zle cb9 rfl (by decide)
            have n17 : (zV fm 5 (8 * x.toInt.toNat + x_2.toInt.toNat)).toInt ≤ 0 := Int.le_trans c16 (Int.le_refl _)
            refine lv_iconst (v := 0) hx hb dX12_ties_33 (by decide) ?_
            refine lv_iadd hx hb dX12_ties_34 ?_
            refine lv_istore_n (lv' := [(2, .int (x_1 + 0)), (0, .ref o), (1, .int x), (3, .int x_2)]) hx hb dX12_ties_35 rfl hl (by decide) rfl (fun ls hl => ?_)
            refine ziinc3 (n' := 1) (a' := 1) (b' := 8) (lv' := fun v9 => [(3, .int v9), (2, .int (x_1 + 0)), (0, .ref o), (1, .int x)]) hx hb dX12_ties_36 hl (k := 3) rfl (by decide) (fun _ => rfl) (zaddK (i := x_2.toInt) (j := 1) rfl (by decide) i3.1 n10 (Int.le_refl _) (Int.le_refl _) (by decide)) (fun x_18 ls hx_18 hl => ?_)
            refine lv_goto (tgt := 4) hx hb dX12_ties_39 (by decide) ?_
            have hl := lv_sub (l' := [(0, .ref o), (1, .int x), (2, .int (x_1 + 0)), (3, .int x_18)]) hl [2, 3, 1, 0] rfl
            have hP : va_P g.1 vwCl (List.flatten [bMo g o a th hi ac tp ba en tA fl de iD iO tU fm fk fa fc ft ff fb fi]) H := hP
            have hD : va_D A (List.flatten [bMo g o a th hi ac tp ba en tA fl de iD iO tU fm fk fa fc ft ff fb fi]) := hD
            exact ih4_7 (x_1 + 0) x_18 ⟨(Int.le_trans (by decide) hx_18.2.1), hx_18.2.2⟩ (zFo_s i4 hx_18.1 (by omega) (by (try dsimp only); (repeat' split) <;> first | rfl | exact (Int32.add_zero _).symm | exact Int32.or_zero.symm | (exfalso; omega))) (by first | omega | assumption | decide) H _ ls (zmK hx_18.1 (by decide) n10 (by decide) hk4_7)  hP hD hS (lv_sub hl [0, 1, 2, 3] rfl)
          · skip
            have c19 : 0 < (zV fm 5 (8 * x.toInt.toNat + x_2.toInt.toNat)).toInt := zlti (Int32.not_le.mp cb9) (by decide) rfl
            have n20 : 1 ≤ (zV fm 5 (8 * x.toInt.toNat + x_2.toInt.toNat)).toInt := zL2 (a := 0) c19 (Int.le_refl _) (by decide)
            refine lv_iconst (v := 1) hx hb dX12_ties_29 (by decide) ?_
            refine lv_goto (tgt := 34) hx hb dX12_ties_30 (by decide) ?_
            refine lv_iadd hx hb dX12_ties_34 ?_
            refine lv_istore_n (lv' := [(2, .int (x_1 + 1)), (0, .ref o), (1, .int x), (3, .int x_2)]) hx hb dX12_ties_35 rfl hl (by decide) rfl (fun ls hl => ?_)
            refine ziinc3 (n' := 1) (a' := 1) (b' := 8) (lv' := fun v9 => [(3, .int v9), (2, .int (x_1 + 1)), (0, .ref o), (1, .int x)]) hx hb dX12_ties_36 hl (k := 3) rfl (by decide) (fun _ => rfl) (zaddK (i := x_2.toInt) (j := 1) rfl (by decide) i3.1 n10 (Int.le_refl _) (Int.le_refl _) (by decide)) (fun x_21 ls hx_21 hl => ?_)
            refine lv_goto (tgt := 4) hx hb dX12_ties_39 (by decide) ?_
            have hl := lv_sub (l' := [(0, .ref o), (1, .int x), (2, .int (x_1 + 1)), (3, .int x_21)]) hl [2, 3, 1, 0] rfl
            have hP : va_P g.1 vwCl (List.flatten [bMo g o a th hi ac tp ba en tA fl de iD iO tU fm fk fa fc ft ff fb fi]) H := hP
            have hD : va_D A (List.flatten [bMo g o a th hi ac tp ba en tA fl de iD iO tU fm fk fa fc ft ff fb fi]) := hD
            exact ih4_7 (x_1 + 1) x_21 ⟨(Int.le_trans (by decide) hx_21.2.1), hx_21.2.2⟩ (zFo_s i4 hx_21.1 (by omega) (by (try dsimp only); (repeat' split) <;> first | rfl | exact (Int32.add_zero _).symm | exact Int32.or_zero.symm | (exfalso; omega))) (by first | omega | assumption | decide) H _ ls (zmK hx_21.1 (by decide) n10 (by decide) hk4_7)  hP hD hS (lv_sub hl [0, 1, 2, 3] rfl)
  have hL0 : (0 : Int32).toInt = 0 := by decide
  have hP : va_P g.1 vwCl (List.flatten [bMo g o a th hi ac tp ba en tA fl de iD iO tU fm fk fa fc ft ff fb fi]) s.heap := hP
  have hD : va_D A (List.flatten [bMo g o a th hi ac tp ba en tA fl de iD iO tU fm fk fa fc ft ff fb fi]) := hD
  exact LP4_6 _ 0 0 (by decide) (zFo_0 (by decide) (by decide)) (by first | omega | assumption | decide) s.heap _ ls (Nat.lt_succ_self _)  hP hD hS (lv_sub hl [0, 1, 2, 3] rfl)
set_option maxRecDepth 100000 in
set_option maxHeartbeats 4000000 in
theorem m_pullG (l : Launch) (g : zG) (o : Nat) (a : Nat → Nat) (th : Int32) (hi : Int32) (ac : Int32) (tp : Int32) (ba : Int32) (en : Int32) (tA : Int32) (fl : Int32) (de : Int32) (iD : Int32) (iO : Int32) (tU : Int32) (fm : Nat → Int32) (fk : Nat → Int32) (fa : Nat → Int32) (fc : Nat → Int32) (ft : Nat → Int32) (ff : Nat → Int32) (fb : Nat → Int32) (fi : Nat → Int32) (x : Int32) (rfm : rM fm) (b_x : 0 ≤ x.toInt ∧ x.toInt ≤ 7) (hrg : zRg (zV fm)) : zM' g l yX12_pull (Cond.code yX12_pull cX12_pull 4 (some .int) :: zB) ({ frames := 2, cells := 0, slots := 0, locals := 43 } : Room) [.ref o, .int x] [bMo g o a th hi ac tp ba en tA fl de iD iO tU fm fk fa fc ft ff fb fi] (fun _ : Unit => some (.int (zPull (zV fm) (fm 3).toInt.toNat x.toInt.toNat))) (fun _ : Unit => True) (fun _ : Unit => [bMo g o a th hi ac tp ba en tA fl de iD iO tU fm fk fa fc ft ff fb fi]) := by
  refine zM'.of (cc := cX12_pull) (maxL := 4) (rt := (some .int)) (by decide) rfl (Nat.le_of_ble_eq_true rfl) ?_
  intro p e s m args below meth c A ls St hr hlocks hin hK hT hA hP hD hS hl
  obtain ⟨hx, hb, hml, hown, hts⟩ := id St
  have hl : lv_has ls 4 [(0, .ref o), (1, .int x)] := hl
  have hrm3 := rM3 rfm
  have hrm4 := rM4 rfm
  refine lv_iconst (v := 0) hx hb dX12_pull_0 (by decide) ?_
  refine lv_istore_n (lv' := [(2, .int 0), (0, .ref o), (1, .int x)]) hx hb dX12_pull_1 rfl hl (by decide) rfl (fun ls hl => ?_)
  refine lv_iconst (v := 0) hx hb dX12_pull_2 (by decide) ?_
  refine lv_istore_n (lv' := [(3, .int 0), (2, .int 0), (0, .ref o), (1, .int x)]) hx hb dX12_pull_3 rfl hl (by decide) rfl (fun ls hl => ?_)
  have hl := lv_sub (l' := [(0, .ref o), (1, .int x), (2, .int 0), (3, .int 0)]) hl [2, 3, 1, 0] rfl
  have LP4_6 : ∀ (kf : Nat) (x_1 : Int32) (x_2 : Int32), (0 ≤ x_2.toInt ∧ x_2.toInt ≤ 8) → (x_1 = zSu (fun o => if o = x.toInt.toNat then 0 else if ((zV fm) 3 o).toInt = -1 then (zV fm) 5 (8 * x.toInt.toNat + o) * ((zV fm) 0 o - (zV fm) 0 x.toInt.toNat) else 0) x_2.toInt.toNat) → (x_2.toInt ≤ (fm 3).toInt) → ∀ (H : Heap) (locs : List Loc) (ls : Array Slot), ((9 - x_2.toInt).toNat) < kf → va_P g.1 vwCl (List.flatten [bMo g o a th hi ac tp ba en tA fl de iD iO tU fm fk fa fc ft ff fb fi]) H → va_D A (List.flatten [bMo g o a th hi ac tp ba en tA fl de iD iO tU fm fk fa fc ft ff fb fi]) → va_S A s.heap H locs → lv_has ls 4 [(0, .ref o), (1, .int x), (2, .int x_1), (3, .int x_2)] → W p l e ({ frames := 2, cells := 0, slots := 0, locals := 43 } : Room) s m args below meth c H locs (0) (0) (zF g (fun _ : Unit => some (.int (zPull (zV fm) (fm 3).toInt.toNat x.toInt.toNat))) (fun _ : Unit => True) (fun _ : Unit => [bMo g o a th hi ac tp ba en tA fl de iD iO tU fm fk fa fc ft ff fb fi]) ({ frames := 2, cells := 0, slots := 0, locals := 43 } : Room) below args s A) (F0 m 4 ls []) := by
    intro kf
    induction kf with
    | zero => intro x_1 x_2 i3 i4 i5 H locs ls hk; exact absurd hk (Nat.not_lt_zero _)
    | succ kf ih4_7 =>
      intro x_1 x_2 i3 i4 i5 H locs ls hk4_7 hP hD hS hl
      refine lv_iload_n hx hb dX12_pull_4 rfl (lv_at hl 3 rfl) ?_
      refine lv_aload_n hx hb dX12_pull_5 rfl (lv_at hl 0 rfl) ?_
      refine va_get (D := g.1) (ci := 10) (v := .ref (a 0)) (C := RX12) (T := TX12) (N := 20) hx hb hts izRX12 hown hK hP 0 rfl rfl 1 (by decide) (hts _ k815) (fun _ h9 => h9) rfl dX12_pull_6 ?_
      refine lv_iconst (v := 3) hx hb dX12_pull_9 (by decide) ?_
      refine va_iald hx hb hK hP 1 0 rfl rfl (zin rfl) dX12_pull_10 ?_
      refine ztop (r := (fm 3)) rfl ?_
      refine lv_icmp_ge (tgt := 60) hx hb dX12_pull_11 (by decide) (fun cb9 => ?_) (fun cb9 => ?_)
      · skip
        have c8 : (fm 3).toInt ≤ x_2.toInt := zle cb9 rfl rfl
        refine lv_iload_n hx hb dX12_pull_60 rfl (lv_at hl 2 rfl) ?_
        refine lv_if_ge (tgt := 73) hx hb dX12_pull_61 (by decide) (fun cb9 => ?_) (fun cb9 => ?_)
        · skip
          have c9 : 0 ≤ x_1.toInt := zle cb9 (by decide) rfl
          have n10 : 0 ≤ x_1.toInt := Int.le_trans (Int.le_refl _) c9
          refine lv_iload_n hx hb dX12_pull_73 rfl (lv_at hl 2 rfl) ?_
          refine lv_bipush (v := 40) hx hb dX12_pull_74 (by decide) ?_
          refine lv_idiv hx hb dX12_pull_76 (by decide) ?_
          refine ztop (r := (zPull (zV fm) (fm 3).toInt.toNat x.toInt.toNat)) (congrArg (fun q => q / 40) (zFo_x i4 (by omega))) ?_
          have hP : va_P g.1 vwCl (List.flatten [bMo g o a th hi ac tp ba en tA fl de iD iO tU fm fk fa fc ft ff fb fi]) H := hP
          have hD : va_D A (List.flatten [bMo g o a th hi ac tp ba en tA fl de iD iO tU fm fk fa fc ft ff fb fi]) := hD
          exact mret_i hx hb hr hlocks hS (Nat.le_of_ble_eq_true rfl) (Nat.le_of_ble_eq_true rfl) dX12_pull_77 () rfl trivial hP hD
        · skip
          have c11 : x_1.toInt < 0 := zlti (Int32.not_le.mp cb9) rfl (by decide)
          have n12 : x_1.toInt ≤ (-1) := zL1 (b := 0) c11 (Int.le_refl _) (by decide)
          refine lv_iload_n hx hb dX12_pull_64 rfl (lv_at hl 2 rfl) ?_
          refine lv_ineg hx hb dX12_pull_65 ?_
          refine lv_bipush (v := 40) hx hb dX12_pull_66 (by decide) ?_
          refine lv_idiv hx hb dX12_pull_68 (by decide) ?_
          refine lv_ineg hx hb dX12_pull_69 ?_
          refine lv_goto (tgt := 77) hx hb dX12_pull_70 (by decide) ?_
          refine ztop (r := (zPull (zV fm) (fm 3).toInt.toNat x.toInt.toNat)) (zpl_n hrg (by omega) (by omega) (zFo_x i4 (by omega)) (by omega)) ?_
          have hP : va_P g.1 vwCl (List.flatten [bMo g o a th hi ac tp ba en tA fl de iD iO tU fm fk fa fc ft ff fb fi]) H := hP
          have hD : va_D A (List.flatten [bMo g o a th hi ac tp ba en tA fl de iD iO tU fm fk fa fc ft ff fb fi]) := hD
          exact mret_i hx hb hr hlocks hS (Nat.le_of_ble_eq_true rfl) (Nat.le_of_ble_eq_true rfl) dX12_pull_77 () rfl trivial hP hD
      · skip
        have c13 : x_2.toInt < (fm 3).toInt := zlti (Int32.not_le.mp cb9) rfl rfl
        have n14 : x_2.toInt ≤ 7 := zL1 (b := 8) c13 (rM3 rfm).2 (by decide)
        have n15 : 1 ≤ (fm 3).toInt := zL2 (a := 0) c13 i3.1 (by decide)
        refine lv_iload_n hx hb dX12_pull_14 rfl (lv_at hl 2 rfl) ?_
        refine lv_iload_n hx hb dX12_pull_15 rfl (lv_at hl 3 rfl) ?_
        refine lv_iload_n hx hb dX12_pull_16 rfl (lv_at hl 1 rfl) ?_
        refine lv_icmp_eq (tgt := 51) hx hb dX12_pull_17 (by decide) (fun cb9 => ?_) (fun cb9 => ?_)
        · skip
          have c16 : x_2.toInt = x.toInt := zeq cb9 rfl rfl
          refine lv_iconst (v := 0) hx hb dX12_pull_51 (by decide) ?_
          refine lv_iadd hx hb dX12_pull_52 ?_
          refine lv_istore_n (lv' := [(2, .int (x_1 + 0)), (0, .ref o), (1, .int x), (3, .int x_2)]) hx hb dX12_pull_53 rfl hl (by decide) rfl (fun ls hl => ?_)
          refine ziinc3 (n' := 1) (a' := 1) (b' := 8) (lv' := fun v9 => [(3, .int v9), (2, .int (x_1 + 0)), (0, .ref o), (1, .int x)]) hx hb dX12_pull_54 hl (k := 3) rfl (by decide) (fun _ => rfl) (zaddK (i := x_2.toInt) (j := 1) rfl (by decide) i3.1 n14 (Int.le_refl _) (Int.le_refl _) (by decide)) (fun x_17 ls hx_17 hl => ?_)
          refine lv_goto (tgt := 4) hx hb dX12_pull_57 (by decide) ?_
          have hl := lv_sub (l' := [(0, .ref o), (1, .int x), (2, .int (x_1 + 0)), (3, .int x_17)]) hl [2, 3, 1, 0] rfl
          have hP : va_P g.1 vwCl (List.flatten [bMo g o a th hi ac tp ba en tA fl de iD iO tU fm fk fa fc ft ff fb fi]) H := hP
          have hD : va_D A (List.flatten [bMo g o a th hi ac tp ba en tA fl de iD iO tU fm fk fa fc ft ff fb fi]) := hD
          exact ih4_7 (x_1 + 0) x_17 ⟨(Int.le_trans (by decide) hx_17.2.1), hx_17.2.2⟩ (zFo_s i4 hx_17.1 (by omega) (by (try dsimp only); (repeat' split) <;> first | rfl | exact (Int32.add_zero _).symm | exact Int32.or_zero.symm | (exfalso; omega))) (by first | omega | assumption | decide) H _ ls (zmK hx_17.1 (by decide) n14 (by decide) hk4_7)  hP hD hS (lv_sub hl [0, 1, 2, 3] rfl)
        · skip
          have c18 : ¬ x_2.toInt = x.toInt := zne cb9 rfl rfl
          refine lv_aload_n hx hb dX12_pull_20 rfl (lv_at hl 0 rfl) ?_
          refine lv_iload_n hx hb dX12_pull_21 rfl (lv_at hl 3 rfl) ?_
          refine mcallV' (g := g) (q0 := 0) (ci := 10) (As := [.int x_2]) (rest := [.int x_1]) St hK hT hA hP hD hS hl.1 [0] [] rfl rfl rfl (m_isHereG l g o a th hi ac tp ba en tA fl de iD iO tU fm fk fa fc ft ff fb fi x_2 (⟨i3.1, n14⟩)) (cwV 1 hts (zgL (zl4 k846 k847 k848 k839) k841) rfl rfl rfl (by decide +kernel) ⟨Nat.le_of_ble_eq_true rfl, Nat.le_of_ble_eq_true rfl⟩) rfl rfl rfl rfl (Nat.le_of_ble_eq_true rfl) dX12_pull_22 ⟨(Nat.le_of_ble_eq_true rfl), (Nat.le_of_ble_eq_true rfl)⟩ (fun q_19 H locs hq20 hP hD hS => ?_)
          replace hq20 : (q_19 = 1 ∧ (zV fm 3 x_2.toInt.toNat).toInt = -1 ∨ q_19 = 0 ∧ ¬ (zV fm 3 x_2.toInt.toNat).toInt = -1) := hq20
          have hP : va_P g.1 vwCl (List.flatten [bMo g o a th hi ac tp ba en tA fl de iD iO tU fm fk fa fc ft ff fb fi]) H := hP
          have hD : va_D A (List.flatten [bMo g o a th hi ac tp ba en tA fl de iD iO tU fm fk fa fc ft ff fb fi]) := hD
          refine W.widen (k := 0) (n := 0) (Nat.le_of_ble_eq_true rfl) (Nat.le_of_ble_eq_true rfl) ?_
          refine W.eq (g2 := F0 m 25 ls [.int q_19, .int x_1]) rfl ?_
          rcases hq20 with ⟨rfl, hq20_k⟩ | ⟨rfl, hq20_k⟩
          · skip
            refine lv_if_eq (tgt := 51) hx hb dX12_pull_25 (by decide) (fun c21 => absurd c21 (by decide)) (fun _ => ?_)
            refine lv_aload_n hx hb dX12_pull_28 rfl (lv_at hl 0 rfl) ?_
            refine lv_iload_n hx hb dX12_pull_29 rfl (lv_at hl 1 rfl) ?_
            refine lv_iload_n hx hb dX12_pull_30 rfl (lv_at hl 3 rfl) ?_
            refine mcallV' (g := g) (q0 := 0) (ci := 10) (As := [.int x, .int x_2]) (rest := [.int x_1]) St hK hT hA hP hD hS hl.1 [0] [] rfl rfl rfl (m_trustOfF l g o a th hi ac tp ba en tA fl de iD iO tU fm fk fa fc ft ff fb fi x x_2 b_x (⟨i3.1, n14⟩)) (cwV 2 hts (zgL (zl4 k868 k869 k870 k839) k835) rfl rfl rfl (by decide +kernel) ⟨Nat.le_of_ble_eq_true rfl, Nat.le_of_ble_eq_true rfl⟩) rfl rfl rfl rfl (Nat.le_of_ble_eq_true rfl) dX12_pull_31 ⟨(Nat.le_of_ble_eq_true rfl), (Nat.le_of_ble_eq_true rfl)⟩ (fun _u H locs hq22 hP hD hS => ?_)
            have hP : va_P g.1 vwCl (List.flatten [bMo g o a th hi ac tp ba en tA fl de iD iO tU fm fk fa fc ft ff fb fi]) H := hP
            have hD : va_D A (List.flatten [bMo g o a th hi ac tp ba en tA fl de iD iO tU fm fk fa fc ft ff fb fi]) := hD
            refine W.widen (k := 0) (n := 0) (Nat.le_of_ble_eq_true rfl) (Nat.le_of_ble_eq_true rfl) ?_
            refine W.eq (g2 := F0 m 34 ls [.int (zV fm 5 (8 * x.toInt.toNat + x_2.toInt.toNat)), .int x_1]) rfl ?_
            refine lv_aload_n hx hb dX12_pull_34 rfl (lv_at hl 0 rfl) ?_
            refine lv_iload_n hx hb dX12_pull_35 rfl (lv_at hl 3 rfl) ?_
            refine lv_iconst (v := 0) hx hb dX12_pull_36 (by decide) ?_
            refine mcallV' (g := g) (q0 := 0) (ci := 10) (As := [.int x_2, .int 0]) (rest := [.int (zV fm 5 (8 * x.toInt.toNat + x_2.toInt.toNat)), .int x_1]) St hK hT hA hP hD hS hl.1 [0] [] rfl rfl rfl (m_of0F l g o a th hi ac tp ba en tA fl de iD iO tU fm fk fa fc ft ff fb fi x_2 (⟨i3.1, n14⟩)) (cwV 2 hts (zgL (zl4 k842 k843 k844 k839) k831) rfl rfl rfl (by decide +kernel) ⟨Nat.le_of_ble_eq_true rfl, Nat.le_of_ble_eq_true rfl⟩) rfl rfl rfl rfl (Nat.le_of_ble_eq_true rfl) dX12_pull_37 ⟨(Nat.le_of_ble_eq_true rfl), (Nat.le_of_ble_eq_true rfl)⟩ (fun _u H locs hq23 hP hD hS => ?_)
            have hP : va_P g.1 vwCl (List.flatten [bMo g o a th hi ac tp ba en tA fl de iD iO tU fm fk fa fc ft ff fb fi]) H := hP
            have hD : va_D A (List.flatten [bMo g o a th hi ac tp ba en tA fl de iD iO tU fm fk fa fc ft ff fb fi]) := hD
            refine W.widen (k := 0) (n := 0) (Nat.le_of_ble_eq_true rfl) (Nat.le_of_ble_eq_true rfl) ?_
            refine W.eq (g2 := F0 m 40 ls [.int (zV fm 0 x_2.toInt.toNat), .int (zV fm 5 (8 * x.toInt.toNat + x_2.toInt.toNat)), .int x_1]) rfl ?_
            refine lv_aload_n hx hb dX12_pull_40 rfl (lv_at hl 0 rfl) ?_
            refine lv_iload_n hx hb dX12_pull_41 rfl (lv_at hl 1 rfl) ?_
            refine lv_iconst (v := 0) hx hb dX12_pull_42 (by decide) ?_
            refine mcallV' (g := g) (q0 := 0) (ci := 10) (As := [.int x, .int 0]) (rest := [.int (zV fm 0 x_2.toInt.toNat), .int (zV fm 5 (8 * x.toInt.toNat + x_2.toInt.toNat)), .int x_1]) St hK hT hA hP hD hS hl.1 [0] [] rfl rfl rfl (m_of0F l g o a th hi ac tp ba en tA fl de iD iO tU fm fk fa fc ft ff fb fi x b_x) (cwV 2 hts (zgL (zl4 k842 k843 k844 k839) k831) rfl rfl rfl (by decide +kernel) ⟨Nat.le_of_ble_eq_true rfl, Nat.le_of_ble_eq_true rfl⟩) rfl rfl rfl rfl (Nat.le_of_ble_eq_true rfl) dX12_pull_43 ⟨(Nat.le_of_ble_eq_true rfl), (Nat.le_of_ble_eq_true rfl)⟩ (fun _u H locs hq24 hP hD hS => ?_)
            have hP : va_P g.1 vwCl (List.flatten [bMo g o a th hi ac tp ba en tA fl de iD iO tU fm fk fa fc ft ff fb fi]) H := hP
            have hD : va_D A (List.flatten [bMo g o a th hi ac tp ba en tA fl de iD iO tU fm fk fa fc ft ff fb fi]) := hD
            refine W.widen (k := 0) (n := 0) (Nat.le_of_ble_eq_true rfl) (Nat.le_of_ble_eq_true rfl) ?_
            refine W.eq (g2 := F0 m 46 ls [.int (zV fm 0 x.toInt.toNat), .int (zV fm 0 x_2.toInt.toNat), .int (zV fm 5 (8 * x.toInt.toNat + x_2.toInt.toNat)), .int x_1]) rfl ?_
            refine lv_isub hx hb dX12_pull_46 ?_
            refine lv_imul hx hb dX12_pull_47 ?_
            refine lv_goto (tgt := 52) hx hb dX12_pull_48 (by decide) ?_
            refine lv_iadd hx hb dX12_pull_52 ?_
            refine lv_istore_n (lv' := [(2, .int (x_1 + ((zV fm 5 (8 * x.toInt.toNat + x_2.toInt.toNat)) * ((zV fm 0 x_2.toInt.toNat) - (zV fm 0 x.toInt.toNat))))), (0, .ref o), (1, .int x), (3, .int x_2)]) hx hb dX12_pull_53 rfl hl (by decide) rfl (fun ls hl => ?_)
            refine ziinc3 (n' := 1) (a' := 1) (b' := 8) (lv' := fun v9 => [(3, .int v9), (2, .int (x_1 + ((zV fm 5 (8 * x.toInt.toNat + x_2.toInt.toNat)) * ((zV fm 0 x_2.toInt.toNat) - (zV fm 0 x.toInt.toNat))))), (0, .ref o), (1, .int x)]) hx hb dX12_pull_54 hl (k := 3) rfl (by decide) (fun _ => rfl) (zaddK (i := x_2.toInt) (j := 1) rfl (by decide) i3.1 n14 (Int.le_refl _) (Int.le_refl _) (by decide)) (fun x_25 ls hx_25 hl => ?_)
            refine lv_goto (tgt := 4) hx hb dX12_pull_57 (by decide) ?_
            have hl := lv_sub (l' := [(0, .ref o), (1, .int x), (2, .int (x_1 + ((zV fm 5 (8 * x.toInt.toNat + x_2.toInt.toNat)) * ((zV fm 0 x_2.toInt.toNat) - (zV fm 0 x.toInt.toNat))))), (3, .int x_25)]) hl [2, 3, 1, 0] rfl
            have hP : va_P g.1 vwCl (List.flatten [bMo g o a th hi ac tp ba en tA fl de iD iO tU fm fk fa fc ft ff fb fi]) H := hP
            have hD : va_D A (List.flatten [bMo g o a th hi ac tp ba en tA fl de iD iO tU fm fk fa fc ft ff fb fi]) := hD
            exact ih4_7 (x_1 + ((zV fm 5 (8 * x.toInt.toNat + x_2.toInt.toNat)) * ((zV fm 0 x_2.toInt.toNat) - (zV fm 0 x.toInt.toNat)))) x_25 ⟨(Int.le_trans (by decide) hx_25.2.1), hx_25.2.2⟩ (zFo_s i4 hx_25.1 (by omega) (by (try dsimp only); (repeat' split) <;> first | rfl | exact (Int32.add_zero _).symm | exact Int32.or_zero.symm | (exfalso; omega))) (by first | omega | assumption | decide) H _ ls (zmK hx_25.1 (by decide) n14 (by decide) hk4_7)  hP hD hS (lv_sub hl [0, 1, 2, 3] rfl)
          · skip
            refine lv_if_eq (tgt := 51) hx hb dX12_pull_25 (by decide) (fun _ => ?_) (fun c26 => absurd (by decide) c26)
            refine lv_iconst (v := 0) hx hb dX12_pull_51 (by decide) ?_
            refine lv_iadd hx hb dX12_pull_52 ?_
            refine lv_istore_n (lv' := [(2, .int (x_1 + 0)), (0, .ref o), (1, .int x), (3, .int x_2)]) hx hb dX12_pull_53 rfl hl (by decide) rfl (fun ls hl => ?_)
            refine ziinc3 (n' := 1) (a' := 1) (b' := 8) (lv' := fun v9 => [(3, .int v9), (2, .int (x_1 + 0)), (0, .ref o), (1, .int x)]) hx hb dX12_pull_54 hl (k := 3) rfl (by decide) (fun _ => rfl) (zaddK (i := x_2.toInt) (j := 1) rfl (by decide) i3.1 n14 (Int.le_refl _) (Int.le_refl _) (by decide)) (fun x_27 ls hx_27 hl => ?_)
            refine lv_goto (tgt := 4) hx hb dX12_pull_57 (by decide) ?_
            have hl := lv_sub (l' := [(0, .ref o), (1, .int x), (2, .int (x_1 + 0)), (3, .int x_27)]) hl [2, 3, 1, 0] rfl
            have hP : va_P g.1 vwCl (List.flatten [bMo g o a th hi ac tp ba en tA fl de iD iO tU fm fk fa fc ft ff fb fi]) H := hP
            have hD : va_D A (List.flatten [bMo g o a th hi ac tp ba en tA fl de iD iO tU fm fk fa fc ft ff fb fi]) := hD
            exact ih4_7 (x_1 + 0) x_27 ⟨(Int.le_trans (by decide) hx_27.2.1), hx_27.2.2⟩ (zFo_s i4 hx_27.1 (by omega) (by (try dsimp only); (repeat' split) <;> first | rfl | exact (Int32.add_zero _).symm | exact Int32.or_zero.symm | (exfalso; omega))) (by first | omega | assumption | decide) H _ ls (zmK hx_27.1 (by decide) n14 (by decide) hk4_7)  hP hD hS (lv_sub hl [0, 1, 2, 3] rfl)
  have hL0 : (0 : Int32).toInt = 0 := by decide
  have hP : va_P g.1 vwCl (List.flatten [bMo g o a th hi ac tp ba en tA fl de iD iO tU fm fk fa fc ft ff fb fi]) s.heap := hP
  have hD : va_D A (List.flatten [bMo g o a th hi ac tp ba en tA fl de iD iO tU fm fk fa fc ft ff fb fi]) := hD
  exact LP4_6 _ 0 0 (by decide) (zFo_0 (by decide) (by decide)) (by first | omega | assumption | decide) s.heap _ ls (Nat.lt_succ_self _)  hP hD hS (lv_sub hl [0, 1, 2, 3] rfl)
set_option maxRecDepth 100000 in
set_option maxHeartbeats 4000000 in
theorem m_meanG (l : Launch) (g : zG) (o : Nat) (a : Nat → Nat) (th : Int32) (hi : Int32) (ac : Int32) (tp : Int32) (ba : Int32) (en : Int32) (tA : Int32) (fl : Int32) (de : Int32) (iD : Int32) (iO : Int32) (tU : Int32) (fm : Nat → Int32) (fk : Nat → Int32) (fa : Nat → Int32) (fc : Nat → Int32) (ft : Nat → Int32) (ff : Nat → Int32) (fb : Nat → Int32) (fi : Nat → Int32) (rfm : rM fm) : zM' g l yX12_mean (Cond.code yX12_mean cX12_mean 2 (some .int) :: zB) ({ frames := 3, cells := 0, slots := 0, locals := 65 } : Room) [.ref o] [bMo g o a th hi ac tp ba en tA fl de iD iO tU fm fk fa fc ft ff fb fi] (fun _ : Unit => some (.int (zMean (zV fm) (fm 3).toInt.toNat))) (fun _ : Unit => True) (fun _ : Unit => [bMo g o a th hi ac tp ba en tA fl de iD iO tU fm fk fa fc ft ff fb fi]) := by
  refine zM'.of (cc := cX12_mean) (maxL := 2) (rt := (some .int)) (by decide) rfl (Nat.le_of_ble_eq_true rfl) ?_
  intro p e s m args below meth c A ls St hr hlocks hin hK hT hA hP hD hS hl
  obtain ⟨hx, hb, hml, hown, hts⟩ := id St
  have hl : lv_has ls 2 [(0, .ref o)] := hl
  have hrm3 := rM3 rfm
  have hrm4 := rM4 rfm
  refine lv_aload_n hx hb dX12_mean_0 rfl (lv_at hl 0 rfl) ?_
  refine mcallV' (g := g) (q0 := 0) (ci := 10) (As := []) (rest := []) St hK hT hA hP hD hS hl.1 [0] [] rfl rfl rfl (m_hereOnesG l g o a th hi ac tp ba en tA fl de iD iO tU fm fk fa fc ft ff fb fi rfm) (cwV 0 hts (zgL (zl4 k851 k852 k853 k839) k845) rfl rfl rfl (by decide +kernel) ⟨Nat.le_of_ble_eq_true rfl, Nat.le_of_ble_eq_true rfl⟩) rfl rfl rfl rfl (Nat.le_of_ble_eq_true rfl) dX12_mean_1 ⟨(Nat.le_of_ble_eq_true rfl), (Nat.le_of_ble_eq_true rfl)⟩ (fun _u H locs hq1 hP hD hS => ?_)
  have hP : va_P g.1 vwCl (List.flatten [bMo g o a th hi ac tp ba en tA fl de iD iO tU fm fk fa fc ft ff fb fi]) H := hP
  have hD : va_D A (List.flatten [bMo g o a th hi ac tp ba en tA fl de iD iO tU fm fk fa fc ft ff fb fi]) := hD
  refine W.widen (k := 0) (n := 0) (Nat.le_of_ble_eq_true rfl) (Nat.le_of_ble_eq_true rfl) ?_
  refine W.eq (g2 := F0 m 4 ls [.int (zHs (zV fm) (fm 3).toInt.toNat)]) rfl ?_
  refine mcallS' (g := g) (As := [.int (zHs (zV fm) (fm 3).toInt.toNat)]) (rest := []) St hK hT hA hP hD hS hl.1 [] [0] rfl rfl rfl (m_bitsF l g (zHs (zV fm) (fm 3).toInt.toNat) ) (va_cwS 1 hts (zgL (zl3 k854 k855 k839) k830) rfl rfl rfl (by decide +kernel) ⟨Nat.le_of_ble_eq_true rfl, Nat.le_of_ble_eq_true rfl⟩) rfl rfl (Nat.le_of_ble_eq_true rfl) dX12_mean_4 ⟨(Nat.le_of_ble_eq_true rfl), (Nat.le_of_ble_eq_true rfl)⟩ (fun _u H locs hq2 hP hD hS => ?_)
  have hP : va_P g.1 vwCl (List.flatten [bMo g o a th hi ac tp ba en tA fl de iD iO tU fm fk fa fc ft ff fb fi]) H := hP
  have hD : va_D A (List.flatten [bMo g o a th hi ac tp ba en tA fl de iD iO tU fm fk fa fc ft ff fb fi]) := hD
  refine W.widen (k := 0) (n := 0) (Nat.le_of_ble_eq_true rfl) (Nat.le_of_ble_eq_true rfl) ?_
  refine W.eq (g2 := F0 m 7 ls [.int (zPop (zHs (zV fm) (fm 3).toInt.toNat))]) rfl ?_
  refine lv_istore_n (lv' := [(1, .int (zPop (zHs (zV fm) (fm 3).toInt.toNat))), (0, .ref o)]) hx hb dX12_mean_7 rfl hl (by decide) rfl (fun ls hl => ?_)
  refine lv_iload_n hx hb dX12_mean_8 rfl (lv_at hl 0 rfl) ?_
  refine lv_if_ne (tgt := 16) hx hb dX12_mean_9 (by decide) (fun cb9 => ?_) (fun cb9 => ?_)
  · skip
    have c3 : ¬ (zPop (zHs (zV fm) (fm 3).toInt.toNat)).toInt = 0 := zne cb9 rfl (by decide)
    refine lv_aload_n hx hb dX12_mean_16 rfl (lv_at hl 1 rfl) ?_
    refine mcallV' (g := g) (q0 := 0) (ci := 10) (As := []) (rest := []) St hK hT hA hP hD hS hl.1 [0] [] rfl rfl rfl (m_believedG l g o a th hi ac tp ba en tA fl de iD iO tU fm fk fa fc ft ff fb fi rfm) (cwV 0 hts (zgL (zl4 k856 k857 k858 k839) k849) rfl rfl rfl (by decide +kernel) ⟨Nat.le_of_ble_eq_true rfl, Nat.le_of_ble_eq_true rfl⟩) rfl rfl rfl rfl (Nat.le_of_ble_eq_true rfl) dX12_mean_17 ⟨(Nat.le_of_ble_eq_true rfl), (Nat.le_of_ble_eq_true rfl)⟩ (fun _u H locs hq4 hP hD hS => ?_)
    have hP : va_P g.1 vwCl (List.flatten [bMo g o a th hi ac tp ba en tA fl de iD iO tU fm fk fa fc ft ff fb fi]) H := hP
    have hD : va_D A (List.flatten [bMo g o a th hi ac tp ba en tA fl de iD iO tU fm fk fa fc ft ff fb fi]) := hD
    refine W.widen (k := 0) (n := 0) (Nat.le_of_ble_eq_true rfl) (Nat.le_of_ble_eq_true rfl) ?_
    refine W.eq (g2 := F0 m 20 ls [.int (zBel (zV fm) (fm 3).toInt.toNat)]) rfl ?_
    refine lv_iload_n hx hb dX12_mean_20 rfl (lv_at hl 0 rfl) ?_
    refine lv_idiv hx hb dX12_mean_21 (zne0 (by omega)) ?_
    refine ztop (r := (zMean (zV fm) (fm 3).toInt.toNat)) (by unfold zMean; rw [if_neg (by omega)]) ?_
    have hP : va_P g.1 vwCl (List.flatten [bMo g o a th hi ac tp ba en tA fl de iD iO tU fm fk fa fc ft ff fb fi]) H := hP
    have hD : va_D A (List.flatten [bMo g o a th hi ac tp ba en tA fl de iD iO tU fm fk fa fc ft ff fb fi]) := hD
    exact mret_i hx hb hr hlocks hS (Nat.le_of_ble_eq_true rfl) (Nat.le_of_ble_eq_true rfl) dX12_mean_22 () rfl trivial hP hD
  · skip
    have c5 : (zPop (zHs (zV fm) (fm 3).toInt.toNat)).toInt = 0 := zeq cb9 rfl (by decide)
    have n6 : 0 ≤ (zPop (zHs (zV fm) (fm 3).toInt.toNat)).toInt := Int.le_trans (Int.le_refl _) (Int.le_of_eq c5.symm)
    have n7 : (zPop (zHs (zV fm) (fm 3).toInt.toNat)).toInt ≤ 0 := Int.le_trans (Int.le_of_eq c5) (Int.le_refl _)
    refine lv_iconst (v := 0) hx hb dX12_mean_12 (by decide) ?_
    refine lv_goto (tgt := 22) hx hb dX12_mean_13 (by decide) ?_
    refine ztop (r := (zMean (zV fm) (fm 3).toInt.toNat)) (by unfold zMean; rw [if_pos (by omega)]) ?_
    have hP : va_P g.1 vwCl (List.flatten [bMo g o a th hi ac tp ba en tA fl de iD iO tU fm fk fa fc ft ff fb fi]) H := hP
    have hD : va_D A (List.flatten [bMo g o a th hi ac tp ba en tA fl de iD iO tU fm fk fa fc ft ff fb fi]) := hD
    exact mret_i hx hb hr hlocks hS (Nat.le_of_ble_eq_true rfl) (Nat.le_of_ble_eq_true rfl) dX12_mean_22 () rfl trivial hP hD
set_option maxRecDepth 100000 in
set_option maxHeartbeats 4000000 in
theorem m_priceNowG (l : Launch) (g : zG) (o : Nat) (a : Nat → Nat) (th : Int32) (hi : Int32) (ac : Int32) (tp : Int32) (ba : Int32) (en : Int32) (tA : Int32) (fl : Int32) (de : Int32) (iD : Int32) (iO : Int32) (tU : Int32) (fm : Nat → Int32) (fk : Nat → Int32) (fa : Nat → Int32) (fc : Nat → Int32) (ft : Nat → Int32) (ff : Nat → Int32) (fb : Nat → Int32) (fi : Nat → Int32) (rfm : rM fm) : zM' g l yX12_priceNow (Cond.code yX12_priceNow cX12_priceNow 1 (some .int) :: zB) ({ frames := 4, cells := 0, slots := 0, locals := 86 } : Room) [.ref o] [bMo g o a th hi ac tp ba en tA fl de iD iO tU fm fk fa fc ft ff fb fi] (fun _ : Unit => some (.int (zPrice (zV fm) (fm 3).toInt.toNat))) (fun _ : Unit => True) (fun _ : Unit => [bMo g o a th hi ac tp ba en tA fl de iD iO tU fm fk fa fc ft ff fb fi]) := by
  refine zM'.of (cc := cX12_priceNow) (maxL := 1) (rt := (some .int)) (by decide) rfl (Nat.le_of_ble_eq_true rfl) ?_
  intro p e s m args below meth c A ls St hr hlocks hin hK hT hA hP hD hS hl
  obtain ⟨hx, hb, hml, hown, hts⟩ := id St
  have hl : lv_has ls 1 [(0, .ref o)] := hl
  have hrm3 := rM3 rfm
  have hrm4 := rM4 rfm
  refine lv_aload_n hx hb dX12_priceNow_0 rfl (lv_at hl 0 rfl) ?_
  refine mcallV' (g := g) (q0 := 0) (ci := 10) (As := []) (rest := []) St hK hT hA hP hD hS hl.1 [0] [] rfl rfl rfl (m_meanG l g o a th hi ac tp ba en tA fl de iD iO tU fm fk fa fc ft ff fb fi rfm) (cwV 0 hts (zgL (zl4 k859 k860 k861 k839) k850) rfl rfl rfl (by decide +kernel) ⟨Nat.le_of_ble_eq_true rfl, Nat.le_of_ble_eq_true rfl⟩) rfl rfl rfl rfl (Nat.le_of_ble_eq_true rfl) dX12_priceNow_1 ⟨(Nat.le_of_ble_eq_true rfl), (Nat.le_of_ble_eq_true rfl)⟩ (fun _u H locs hq1 hP hD hS => ?_)
  have hP : va_P g.1 vwCl (List.flatten [bMo g o a th hi ac tp ba en tA fl de iD iO tU fm fk fa fc ft ff fb fi]) H := hP
  have hD : va_D A (List.flatten [bMo g o a th hi ac tp ba en tA fl de iD iO tU fm fk fa fc ft ff fb fi]) := hD
  refine W.widen (k := 0) (n := 0) (Nat.le_of_ble_eq_true rfl) (Nat.le_of_ble_eq_true rfl) ?_
  refine W.eq (g2 := F0 m 4 ls [.int (zMean (zV fm) (fm 3).toInt.toNat)]) rfl ?_
  refine lv_aload_n hx hb dX12_priceNow_4 rfl (lv_at hl 0 rfl) ?_
  refine mcallV' (g := g) (q0 := 0) (ci := 10) (As := []) (rest := [.int (zMean (zV fm) (fm 3).toInt.toNat)]) St hK hT hA hP hD hS hl.1 [0] [] rfl rfl rfl (m_meanG l g o a th hi ac tp ba en tA fl de iD iO tU fm fk fa fc ft ff fb fi rfm) (cwV 0 hts (zgL (zl4 k859 k860 k861 k839) k850) rfl rfl rfl (by decide +kernel) ⟨Nat.le_of_ble_eq_true rfl, Nat.le_of_ble_eq_true rfl⟩) rfl rfl rfl rfl (Nat.le_of_ble_eq_true rfl) dX12_priceNow_5 ⟨(Nat.le_of_ble_eq_true rfl), (Nat.le_of_ble_eq_true rfl)⟩ (fun _u H locs hq2 hP hD hS => ?_)
  have hP : va_P g.1 vwCl (List.flatten [bMo g o a th hi ac tp ba en tA fl de iD iO tU fm fk fa fc ft ff fb fi]) H := hP
  have hD : va_D A (List.flatten [bMo g o a th hi ac tp ba en tA fl de iD iO tU fm fk fa fc ft ff fb fi]) := hD
  refine W.widen (k := 0) (n := 0) (Nat.le_of_ble_eq_true rfl) (Nat.le_of_ble_eq_true rfl) ?_
  refine W.eq (g2 := F0 m 8 ls [.int (zMean (zV fm) (fm 3).toInt.toNat), .int (zMean (zV fm) (fm 3).toInt.toNat)]) rfl ?_
  refine lv_imul hx hb dX12_priceNow_8 ?_
  refine lv_bipush (v := 50) hx hb dX12_priceNow_9 (by decide) ?_
  refine lv_idiv hx hb dX12_priceNow_11 (by decide) ?_
  refine lv_iconst (v := 1) hx hb dX12_priceNow_12 (by decide) ?_
  refine lv_iadd hx hb dX12_priceNow_13 ?_
  refine ztop (r := (zPrice (zV fm) (fm 3).toInt.toNat)) rfl ?_
  have hP : va_P g.1 vwCl (List.flatten [bMo g o a th hi ac tp ba en tA fl de iD iO tU fm fk fa fc ft ff fb fi]) H := hP
  have hD : va_D A (List.flatten [bMo g o a th hi ac tp ba en tA fl de iD iO tU fm fk fa fc ft ff fb fi]) := hD
  exact mret_i hx hb hr hlocks hS (Nat.le_of_ble_eq_true rfl) (Nat.le_of_ble_eq_true rfl) dX12_priceNow_14 () rfl trivial hP hD
