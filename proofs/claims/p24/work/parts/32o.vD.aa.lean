/-! law of both sides: the class's cells, the model's text -/
def zCe (f g : Nat → Int32) : Prop := ∀ i, i < 400 → f i = g i
theorem zCe_cp (a b : Nat → Int32) : zCe (va_cpy a b 0 0 400) a := fun i hi => by rw [pk_cpy_in (Nat.zero_le _) (by omega), Nat.zero_add, Nat.sub_zero]
theorem zCe_t {a b c : Nat → Int32} (h : zCe a b) (k : zCe b c) : zCe a c := fun i hi => (h i hi).trans (k i hi)
theorem zRun_c {fc fc' : Nat → Int32} {z : Int} {e : Nat → Int32} (h : ∀ i : Nat, (i : Int) < z → fc i = fc' i) : ∀ (n : Nat) (a : Int) (s : zRs), 0 ≤ a → zRun fc z e n a s = zRun fc' z e n a s
  | 0, _, _, _ => rfl
  | n + 1, a, s, h0 => by
    show (if a < z then zRun fc z e n (zNx (fc a.toNat) a s + 1) (zSx e (fc a.toNat) s) else s) = (if a < z then zRun fc' z e n (zNx (fc' a.toNat) a s + 1) (zSx e (fc' a.toNat) s) else s)
    by_cases q : a < z
    · rw [if_pos q, if_pos q, ← h a.toNat (by omega)]
      have g := zNx_ge (fc a.toNat) a s
      exact zRun_c h n _ _ (by omega)
    · rw [if_neg q, if_neg q]
theorem zLwR_c {fc fc' : Nat → Int32} {lz ll : Int32} (h : zCe fc fc') (hz : lz.toInt ≤ 400) : zLwR fc lz ll = zLwR fc' lz ll := by
  funext e
  unfold zLwR
  by_cases q : ll.toInt = -1
  · rw [if_pos q, if_pos q]
  · rw [if_neg q, if_neg q]
    show (zRun fc lz.toInt e _ 0 _).1 = (zRun fc' lz.toInt e _ 0 _).1
    rw [zRun_c (fun i hi => h i (by omega)) _ _ _ (by omega)]
/-- the cells are worth what the text is -/
def zLaK (f : Nat → Int32) (n : Int) (fc : Nat → Int32) (lz ll : Int32) : Prop := ¬ ll.toInt = -1 ∧ ∀ e, zLwV f n e (zLwR fc lz ll e)
theorem zLaK_0 {f fc fc' : Nat → Int32} {n n' b : Int} {lz ll : Int32} (c : zCe fc' fc) (hz : lz.toInt = 0) (hl : ll.toInt = 0) (en : n = n') (hb : b = zbg f n 0) (he : n ≤ b) : zLaK f n' fc' lz ll := by
  subst en; subst hb
  refine ⟨by omega, fun e => Or.inl ⟨he, ?_⟩⟩
  unfold zLwR
  rw [if_neg (by omega), zRu_x (by omega)]
theorem zLaK_1 {f fc fc' : Nat → Int32} {n n' b : Int} {m : Nat} {lz ll : Int32} (c : zCe fc' fc) (h4 : lz.toInt ≤ 400) (hl : 1 ≤ ll.toInt) (en : n = n') (hb : b = zbg f n 0) (he : ¬ n ≤ b) (hm : m = 12) (h : zLaC f n m b fc lz.toInt) : zLaK f n' fc' lz ll := by
  subst en; subst hb; subst hm
  refine ⟨by omega, fun e => Or.inr ⟨he, ?_⟩⟩
  rw [zLwR_c c h4]
  unfold zLwR
  rw [if_neg (by omega)]; exact h e
theorem zLaK_m {f f' fm fm2 fc : Nat → Int32} {n t : Int} {q tp lz ll : Int32} (h : zLaK f n fc lz ll) (ef : f = f') (en : n = t) (et : t = tp.toInt) (h0 : 0 ≤ tp.toInt) (hq : ¬ q.toInt = -1) (k : zCy (upd (upd fm 1 q) 2 tp) fm2 379 f' 0 tp.toInt) : zLm (zLwR fc lz ll) fm2 := by
  subst ef; subst en; subst et
  have e1 : fm2 1 = q := by rw [k.2.2 1 (Or.inl (by decide)), pk_un (by decide), pk_us]
  have e2 : fm2 2 = tp := by rw [k.2.2 2 (Or.inl (by decide)), pk_us]
  refine Or.inr ⟨by rw [e1]; exact hq, f, fun i hi => ?_, ?_⟩
  · rw [e2] at hi
    rw [k.2.1 i hi, Nat.zero_add]
  · rw [e2]; exact h.2
theorem zCy_z {A0 A : Nat → Int32} {o : Nat} {B : Nat → Int32} {p : Nat} {k : Int} (e : A = A0) (hk : k = 0) : zCy A0 A o B p k := by subst e; exact zCy_0 hk
theorem zCy_n {A0 A A2 : Nat → Int32} {o : Nat} {B : Nat → Int32} {p j : Nat} {k k' : Int} {v : Int32} (h : zCy A0 A o B p k) (e : A2 = upd A j v) (hj : (j : Int) = (o : Int) + k) (hv : v = B (p + k.toNat)) (hk : k' = k + 1) : zCy A0 A2 o B p k' := by
  have h0 := h.1
  subst e
  refine ⟨by omega, fun i hi => ?_, fun i hi => ?_⟩
  · by_cases q : i = k.toNat
    · rw [q, show o + k.toNat = j by omega, pk_us]; exact hv
    · rw [pk_un (by omega)]; exact h.2.1 i (by omega)
  · rw [pk_un (by omega)]; exact h.2.2 i (by omega)
set_option maxRecDepth 100000 in
set_option maxHeartbeats 4000000 in
theorem c_l_copyFromC (l : Launch) (g : zG) (lo : Nat) (lc : Nat) (lz : Int32) (ll : Int32) (lm : Int32) (lg : Int32) (ld : Int32) (fc : Nat → Int32) (lo2 : Nat) (lc2 : Nat) (lz2 : Int32) (ll2 : Int32) (lm2 : Int32) (lg2 : Int32) (ld2 : Int32) (fc2 : Nat → Int32) (b_lz2 : 0 ≤ lz2.toInt ∧ lz2.toInt ≤ 400) : zM' g l yX1_copyFrom (Cond.code yX1_copyFrom cX1_copyFrom 2 none :: zB) ({ frames := 1, cells := 0, slots := 0, locals := 40 } : Room) [.ref lo, .ref lo2] [bLaw g lo lc lz ll lm lg ld fc, bLaw g lo2 lc2 lz2 ll2 lm2 lg2 ld2 fc2] (fun (h : Nat → Int32) => none) (fun (h : Nat → Int32) => (zCe h fc2)) (fun (h : Nat → Int32) => [bLaw g lo lc lz2 ll2 lm lg ld h, bLaw g lo2 lc2 lz2 ll2 lm2 lg2 ld2 fc2]) := by
  refine zM'.of (cc := cX1_copyFrom) (maxL := 2) (rt := none) (by decide) rfl (Nat.le_of_ble_eq_true rfl) ?_
  intro p e s m args below meth c A ls St hr hlocks hin hK hT hA hP hD hS hl
  obtain ⟨hx, hb, hml, hown, hts⟩ := id St
  have hl : lv_has ls 2 [(0, .ref lo), (1, .ref lo2)] := hl
  refine lv_aload_n hx hb dX1_copyFrom_0 rfl (lv_at hl 1 rfl) ?_
  refine va_get (D := g.1) (ci := 1) (v := .ref lc2) (C := RX1) (T := TX1) (N := 6) hx hb hts izRX1 hown hK hP 2 rfl rfl 0 (by decide) (hts _ k101) (fun _ h9 => h9) rfl dX1_copyFrom_1 ?_
  refine lv_iconst (v := 0) hx hb dX1_copyFrom_4 (by decide) ?_
  refine lv_aload_n hx hb dX1_copyFrom_5 rfl (lv_at hl 0 rfl) ?_
  refine va_get (D := g.1) (ci := 1) (v := .ref lc) (C := RX1) (T := TX1) (N := 6) hx hb hts izRX1 hown hK hP 0 rfl rfl 0 (by decide) (hts _ k101) (fun _ h9 => h9) rfl dX1_copyFrom_6 ?_
  refine lv_iconst (v := 0) hx hb dX1_copyFrom_9 (by decide) ?_
  refine lv_sipush (v := 400) hx hb dX1_copyFrom_10 (by decide) ?_
  refine va_copyi (D := g.1) (ty := .int) hx hb (by rw [hml]; exact hl.1.symm) hown (hts _ k201) (hts _ k36) (hts _ k37) (hts _ k38) hK hP hD hS 3 1 0 0 rfl rfl rfl rfl rfl (by decide) (by decide) (by decide) (by decide) (by decide) (fun _ _ => rfl) (Nat.le_of_ble_eq_true rfl) (by decide) dX1_copyFrom_13 (fun H locs hP hD hS => ?_)
  have hP : va_P g.1 vwCl (List.flatten [[(lo, .inr (1, [.ref lc, .int lz, .int ll, .int lm, .int lg, .int ld])), (lc, .inl (g.2 0, 400, .inl (va_cpy fc2 fc 0 0 400)))], bLaw g lo2 lc2 lz2 ll2 lm2 lg2 ld2 fc2]) H := hP
  have hD : va_D A (List.flatten [[(lo, .inr (1, [.ref lc, .int lz, .int ll, .int lm, .int lg, .int ld])), (lc, .inl (g.2 0, 400, .inl (va_cpy fc2 fc 0 0 400)))], bLaw g lo2 lc2 lz2 ll2 lm2 lg2 ld2 fc2]) := hD
  refine lv_aload_n hx hb dX1_copyFrom_16 rfl (lv_at hl 0 rfl) ?_
  refine lv_aload_n hx hb dX1_copyFrom_17 rfl (lv_at hl 1 rfl) ?_
  refine va_get (D := g.1) (ci := 1) (v := .int lz2) (C := RX1) (T := TX1) (N := 6) hx hb hts izRX1 hown hK hP 2 rfl rfl 1 (by decide) (hts _ k100) (fun _ h9 => h9) rfl dX1_copyFrom_18 ?_
  refine va_put (D := g.1) (ci := 1) (v := .int lz2) (ty := .int) (C := RX1) (T := TX1) (N := 6) hx hb hts izRX1 tyX1 tyX1_ok nmX1 hown hK hP hD hS 0 rfl rfl 1 (by decide) (hts _ k100) (fun _ h9 => h9) rfl (by decide +kernel) rfl rfl (Nat.le_of_ble_eq_true rfl) dX1_copyFrom_21 (fun H locs hP hD hS => ?_)
  have hP : va_P g.1 vwCl (List.flatten [[(lo, .inr (1, [.ref lc, .int lz2, .int ll, .int lm, .int lg, .int ld])), (lc, .inl (g.2 0, 400, .inl (va_cpy fc2 fc 0 0 400)))], bLaw g lo2 lc2 lz2 ll2 lm2 lg2 ld2 fc2]) H := hP
  have hD : va_D A (List.flatten [[(lo, .inr (1, [.ref lc, .int lz2, .int ll, .int lm, .int lg, .int ld])), (lc, .inl (g.2 0, 400, .inl (va_cpy fc2 fc 0 0 400)))], bLaw g lo2 lc2 lz2 ll2 lm2 lg2 ld2 fc2]) := hD
  refine lv_aload_n hx hb dX1_copyFrom_24 rfl (lv_at hl 0 rfl) ?_
  refine lv_aload_n hx hb dX1_copyFrom_25 rfl (lv_at hl 1 rfl) ?_
  refine va_get (D := g.1) (ci := 1) (v := .int ll2) (C := RX1) (T := TX1) (N := 6) hx hb hts izRX1 hown hK hP 2 rfl rfl 2 (by decide) (hts _ k98) (fun _ h9 => h9) rfl dX1_copyFrom_26 ?_
  refine va_put (D := g.1) (ci := 1) (v := .int ll2) (ty := .int) (C := RX1) (T := TX1) (N := 6) hx hb hts izRX1 tyX1 tyX1_ok nmX1 hown hK hP hD hS 0 rfl rfl 2 (by decide) (hts _ k98) (fun _ h9 => h9) rfl (by decide +kernel) rfl rfl (Nat.le_of_ble_eq_true rfl) dX1_copyFrom_29 (fun H locs hP hD hS => ?_)
  have hP : va_P g.1 vwCl (List.flatten [[(lo, .inr (1, [.ref lc, .int lz2, .int ll2, .int lm, .int lg, .int ld])), (lc, .inl (g.2 0, 400, .inl (va_cpy fc2 fc 0 0 400)))], bLaw g lo2 lc2 lz2 ll2 lm2 lg2 ld2 fc2]) H := hP
  have hD : va_D A (List.flatten [[(lo, .inr (1, [.ref lc, .int lz2, .int ll2, .int lm, .int lg, .int ld])), (lc, .inl (g.2 0, 400, .inl (va_cpy fc2 fc 0 0 400)))], bLaw g lo2 lc2 lz2 ll2 lm2 lg2 ld2 fc2]) := hD
  have hP : va_P g.1 vwCl (List.flatten [bLaw g lo lc lz2 ll2 lm lg ld (va_cpy fc2 fc 0 0 400), bLaw g lo2 lc2 lz2 ll2 lm2 lg2 ld2 fc2]) H := hP
  have hD : va_D A (List.flatten [bLaw g lo lc lz2 ll2 lm lg ld (va_cpy fc2 fc 0 0 400), bLaw g lo2 lc2 lz2 ll2 lm2 lg2 ld2 fc2]) := hD
  exact mret_v hx hb hr hlocks hS (Nat.le_of_ble_eq_true rfl) (Nat.le_of_ble_eq_true rfl) dX1_copyFrom_32 (va_cpy fc2 fc 0 0 400) rfl (show (zCe (va_cpy fc2 fc 0 0 400) fc2) from (zCe_cp _ _)) hP hD
set_option maxRecDepth 100000 in
set_option maxHeartbeats 4000000 in
theorem c_x_lawC (l : Launch) (hfl : l.stackTraces = false) (g : zG) (x : Nat) (ta : Nat) (o : Nat) (lo : Nat) (go : Nat) (tt : Nat) (lt : Nat) (mo : Nat) (fo : Nat) (ro : Nat) (fl9 : Int32) (ab : Nat) (sz : Int32) (ln : Int32) (kd : Int32) (bg : Int32) (nx : Int32) (ft : Int32) (fb : Nat → Int32) (lc : Nat) (lz : Int32) (ll : Int32) (lm : Int32) (lg : Int32) (ld : Int32) (fc : Nat → Int32) (loV : Nat) (lcV : Nat) (lzV : Int32) (llV : Int32) (lmV : Int32) (lgV : Int32) (ldV : Int32) (fcV : Nat → Int32) (qT : Nat) (qL : Nat) (it : Nat) (il : Nat) (ig : Nat) (mh : Int32) (me : Int32) (mx : Int32) (fT : Nat → Option Nat) (fL : Nat → Option Nat) (b_sz : 0 ≤ sz.toInt ∧ sz.toInt ≤ 400) (b_lz : 0 ≤ lz.toInt ∧ lz.toInt ≤ 400) (b_me : 0 ≤ me.toInt ∧ me.toInt ≤ 12) (b_mx : 0 ≤ mx.toInt ∧ mx.toInt ≤ 11) : zX' g l yX11_law (Cond.code yX11_law cX11_law 2 (some .int) :: zB) ({ frames := 28, cells := 1, slots := 6, locals := 622 } : Room) [.ref x] [bDR g x ta o lo go tt lt mo fo ro fl9, bTape g ta ab sz ln kd bg nx ft fb, bLaw g lo lc lz ll lm lg ld fc, bLT g lt ta loV, bLaw g loV lcV lzV llV lmV lgV ldV fcV, bMem g mo qT qL it il ig mh me mx fT fL] (fun u : Int32 × Int32 × Int32 × Int32 × Int32 × Int32 × Int32 × Int32 × (Nat → Int32) × Int32 × Int32 × Int32 × Int32 × Int32 × (Nat → Int32) × Int32 × Int32 => (fun (fl92 : Int32) (ln2 : Int32) (kd2 : Int32) (bg2 : Int32) (nx2 : Int32) (ft2 : Int32) (lz2 : Int32) (ll2 : Int32) (fc2 : Nat → Int32) (lzV2 : Int32) (llV2 : Int32) (lmV2 : Int32) (lgV2 : Int32) (ldV2 : Int32) (fcV2 : Nat → Int32) (me2 : Int32) (q : Int32) => some (.int q)) (u.1) (u.2.1) (u.2.2.1) (u.2.2.2.1) (u.2.2.2.2.1) (u.2.2.2.2.2.1) (u.2.2.2.2.2.2.1) (u.2.2.2.2.2.2.2.1) (u.2.2.2.2.2.2.2.2.1) (u.2.2.2.2.2.2.2.2.2.1) (u.2.2.2.2.2.2.2.2.2.2.1) (u.2.2.2.2.2.2.2.2.2.2.2.1) (u.2.2.2.2.2.2.2.2.2.2.2.2.1) (u.2.2.2.2.2.2.2.2.2.2.2.2.2.1) (u.2.2.2.2.2.2.2.2.2.2.2.2.2.2.1) (u.2.2.2.2.2.2.2.2.2.2.2.2.2.2.2.1) (u.2.2.2.2.2.2.2.2.2.2.2.2.2.2.2.2)) (fun u : Int32 × Int32 × Int32 × Int32 × Int32 × Int32 × Int32 × Int32 × (Nat → Int32) × Int32 × Int32 × Int32 × Int32 × Int32 × (Nat → Int32) × Int32 × Int32 => (fun (fl92 : Int32) (ln2 : Int32) (kd2 : Int32) (bg2 : Int32) (nx2 : Int32) (ft2 : Int32) (lz2 : Int32) (ll2 : Int32) (fc2 : Nat → Int32) (lzV2 : Int32) (llV2 : Int32) (lmV2 : Int32) (lgV2 : Int32) (ldV2 : Int32) (fcV2 : Nat → Int32) (me2 : Int32) (q : Int32) => (0 ≤ lz2.toInt ∧ lz2.toInt ≤ 400) ∧ (0 ≤ lzV2.toInt ∧ lzV2.toInt ≤ 400) ∧ (0 ≤ me2.toInt ∧ me2.toInt ≤ 12) ∧ (zLawR fb sz.toInt 0 q.toInt ∧ fl92.toInt = -1 ∧ me2.toInt = 0 ∧ zLaK fb sz.toInt fc2 lz2 ll2 ∧ ll2.toInt = q.toInt)) (u.1) (u.2.1) (u.2.2.1) (u.2.2.2.1) (u.2.2.2.2.1) (u.2.2.2.2.2.1) (u.2.2.2.2.2.2.1) (u.2.2.2.2.2.2.2.1) (u.2.2.2.2.2.2.2.2.1) (u.2.2.2.2.2.2.2.2.2.1) (u.2.2.2.2.2.2.2.2.2.2.1) (u.2.2.2.2.2.2.2.2.2.2.2.1) (u.2.2.2.2.2.2.2.2.2.2.2.2.1) (u.2.2.2.2.2.2.2.2.2.2.2.2.2.1) (u.2.2.2.2.2.2.2.2.2.2.2.2.2.2.1) (u.2.2.2.2.2.2.2.2.2.2.2.2.2.2.2.1) (u.2.2.2.2.2.2.2.2.2.2.2.2.2.2.2.2)) (fun u : Int32 × Int32 × Int32 × Int32 × Int32 × Int32 × Int32 × Int32 × (Nat → Int32) × Int32 × Int32 × Int32 × Int32 × Int32 × (Nat → Int32) × Int32 × Int32 => (fun (fl92 : Int32) (ln2 : Int32) (kd2 : Int32) (bg2 : Int32) (nx2 : Int32) (ft2 : Int32) (lz2 : Int32) (ll2 : Int32) (fc2 : Nat → Int32) (lzV2 : Int32) (llV2 : Int32) (lmV2 : Int32) (lgV2 : Int32) (ldV2 : Int32) (fcV2 : Nat → Int32) (me2 : Int32) (q : Int32) => [bDR g x ta o lo go tt lt mo fo ro fl92, bTape g ta ab 0 ln2 kd2 bg2 nx2 ft2 fb, bLaw g lo lc lz2 ll2 lm lg ld fc2, bLT g lt ta loV, bLaw g loV lcV lzV2 llV2 lmV2 lgV2 ldV2 fcV2, bMem g mo qT qL it il ig mh me2 mx fT fL]) (u.1) (u.2.1) (u.2.2.1) (u.2.2.2.1) (u.2.2.2.2.1) (u.2.2.2.2.2.1) (u.2.2.2.2.2.2.1) (u.2.2.2.2.2.2.2.1) (u.2.2.2.2.2.2.2.2.1) (u.2.2.2.2.2.2.2.2.2.1) (u.2.2.2.2.2.2.2.2.2.2.1) (u.2.2.2.2.2.2.2.2.2.2.2.1) (u.2.2.2.2.2.2.2.2.2.2.2.2.1) (u.2.2.2.2.2.2.2.2.2.2.2.2.2.1) (u.2.2.2.2.2.2.2.2.2.2.2.2.2.2.1) (u.2.2.2.2.2.2.2.2.2.2.2.2.2.2.2.1) (u.2.2.2.2.2.2.2.2.2.2.2.2.2.2.2.2)) (fun (E : String) => fun u : Int32 × Int32 × Int32 × Int32 × Int32 × Int32 × Int32 × Int32 × (Nat → Int32) × Int32 × Int32 × Int32 × Int32 × Int32 × (Nat → Int32) × Int32 => (fun (fl92 : Int32) (ln2 : Int32) (kd2 : Int32) (bg2 : Int32) (nx2 : Int32) (ft2 : Int32) (lz2 : Int32) (ll2 : Int32) (fc2 : Nat → Int32) (lzV2 : Int32) (llV2 : Int32) (lmV2 : Int32) (lgV2 : Int32) (ldV2 : Int32) (fcV2 : Nat → Int32) (me2 : Int32) => (E = "java/lang/IllegalArgumentException") ∧ (0 ≤ lz2.toInt ∧ lz2.toInt ≤ 400) ∧ (0 ≤ lzV2.toInt ∧ lzV2.toInt ≤ 400) ∧ (0 ≤ me2.toInt ∧ me2.toInt ≤ 12) ∧ (zLawB fb sz.toInt 0 fl92.toInt) ∧ (me2.toInt = me.toInt) ∧ (lz2 = lz ∧ ll2 = ll ∧ fc2 = fc)) (u.1) (u.2.1) (u.2.2.1) (u.2.2.2.1) (u.2.2.2.2.1) (u.2.2.2.2.2.1) (u.2.2.2.2.2.2.1) (u.2.2.2.2.2.2.2.1) (u.2.2.2.2.2.2.2.2.1) (u.2.2.2.2.2.2.2.2.2.1) (u.2.2.2.2.2.2.2.2.2.2.1) (u.2.2.2.2.2.2.2.2.2.2.2.1) (u.2.2.2.2.2.2.2.2.2.2.2.2.1) (u.2.2.2.2.2.2.2.2.2.2.2.2.2.1) (u.2.2.2.2.2.2.2.2.2.2.2.2.2.2.1) (u.2.2.2.2.2.2.2.2.2.2.2.2.2.2.2)) (fun u : Int32 × Int32 × Int32 × Int32 × Int32 × Int32 × Int32 × Int32 × (Nat → Int32) × Int32 × Int32 × Int32 × Int32 × Int32 × (Nat → Int32) × Int32 => (fun (fl92 : Int32) (ln2 : Int32) (kd2 : Int32) (bg2 : Int32) (nx2 : Int32) (ft2 : Int32) (lz2 : Int32) (ll2 : Int32) (fc2 : Nat → Int32) (lzV2 : Int32) (llV2 : Int32) (lmV2 : Int32) (lgV2 : Int32) (ldV2 : Int32) (fcV2 : Nat → Int32) (me2 : Int32) => [bDR g x ta o lo go tt lt mo fo ro fl92, bTape g ta ab 0 ln2 kd2 bg2 nx2 ft2 fb, bLaw g lo lc lz2 ll2 lm lg ld fc2, bLT g lt ta loV, bLaw g loV lcV lzV2 llV2 lmV2 lgV2 ldV2 fcV2, bMem g mo qT qL it il ig mh me2 mx fT fL]) (u.1) (u.2.1) (u.2.2.1) (u.2.2.2.1) (u.2.2.2.2.1) (u.2.2.2.2.2.1) (u.2.2.2.2.2.2.1) (u.2.2.2.2.2.2.2.1) (u.2.2.2.2.2.2.2.2.1) (u.2.2.2.2.2.2.2.2.2.1) (u.2.2.2.2.2.2.2.2.2.2.1) (u.2.2.2.2.2.2.2.2.2.2.2.1) (u.2.2.2.2.2.2.2.2.2.2.2.2.1) (u.2.2.2.2.2.2.2.2.2.2.2.2.2.1) (u.2.2.2.2.2.2.2.2.2.2.2.2.2.2.1) (u.2.2.2.2.2.2.2.2.2.2.2.2.2.2.2)) := by
  refine zX'.of (cc := cX11_law) (maxL := 2) (rt := (some .int)) (by decide) rfl (Nat.le_of_ble_eq_true rfl) ?_
  intro p e s m args below meth c A ls St hr hlocks htab hin hK hT hA hP hD hS hl
  obtain ⟨hx, hb, hml, hown, hts⟩ := id St
  have hl : lv_has ls 2 [(0, .ref x)] := hl
  refine lv_aload_n hx hb dX11_law_0 rfl (lv_at hl 0 rfl) ?_
  refine va_get (D := g.1) (ci := 9) (v := .ref ta) (C := RX11) (T := TX11) (N := 10) hx hb hts izRX11 hown hK hP 0 rfl rfl 0 (by decide) (hts _ k536) (fun _ h9 => h9) rfl dX11_law_1 ?_
  refine lv_aload_n hx hb dX11_law_4 rfl (lv_at hl 0 rfl) ?_
  refine va_get (D := g.1) (ci := 9) (v := .ref ta) (C := RX11) (T := TX11) (N := 10) hx hb hts izRX11 hown hK hP 0 rfl rfl 0 (by decide) (hts _ k536) (fun _ h9 => h9) rfl dX11_law_5 ?_
  refine mcallV' (g := g) (q0 := 0) (ci := 6) (As := []) (rest := [.ref ta]) St hK hT hA hP hD hS hl.1 [1] [0, 2, 3, 4, 5] rfl rfl rfl (c_t_useUp l g ta ab sz ln kd bg nx ft fb ) (cwV 0 hts (zgL (zl4 k583 k584 k585 k277) k424) rfl rfl rfl (by decide +kernel) ⟨Nat.le_of_ble_eq_true rfl, Nat.le_of_ble_eq_true rfl⟩) rfl rfl rfl rfl (Nat.le_of_ble_eq_true rfl) dX11_law_8 ⟨(Nat.le_of_ble_eq_true rfl), (Nat.le_of_ble_eq_true rfl)⟩ (fun _u H locs hq1 hP hD hS => ?_)
  have hP : va_P g.1 vwCl (List.flatten [bDR g x ta o lo go tt lt mo fo ro fl9, bLaw g lo lc lz ll lm lg ld fc, bLT g lt ta loV, bLaw g loV lcV lzV llV lmV lgV ldV fcV, bMem g mo qT qL it il ig mh me mx fT fL, bTape g ta ab 0 ln kd bg nx ft fb]) H := hP
  have hD : va_D A (List.flatten [bDR g x ta o lo go tt lt mo fo ro fl9, bLaw g lo lc lz ll lm lg ld fc, bLT g lt ta loV, bLaw g loV lcV lzV llV lmV lgV ldV fcV, bMem g mo qT qL it il ig mh me mx fT fL, bTape g ta ab 0 ln kd bg nx ft fb]) := hD
  refine W.widen (k := 0) (n := 0) (Nat.le_of_ble_eq_true rfl) (Nat.le_of_ble_eq_true rfl) ?_
  refine W.eq (g2 := F0 m 11 ls [.int sz, .ref ta]) rfl ?_
  refine mcallV' (g := g) (q0 := 0) (ci := 6) (As := [.int sz]) (rest := []) St hK hT hA hP hD hS hl.1 [5] [0, 1, 2, 3, 4] rfl rfl rfl (c_t_openF l g ta ab 0 ln kd bg nx ft fb sz b_sz) (cwV 1 hts (zgL (zl4 k586 k587 k588 k277) k428) rfl rfl rfl (by decide +kernel) ⟨Nat.le_of_ble_eq_true rfl, Nat.le_of_ble_eq_true rfl⟩) rfl rfl rfl rfl (Nat.le_of_ble_eq_true rfl) dX11_law_11 ⟨(Nat.le_of_ble_eq_true rfl), (Nat.le_of_ble_eq_true rfl)⟩ (fun u_ H locs hq6 hP hD hS => ?_)
  obtain ⟨kd2_2, bg2_3, nx2_4, ln2_5⟩ := u_
  replace hq6 : (0 ≤ nx2_4.toInt ∧ nx2_4.toInt ≤ 400) ∧ (0 ≤ bg2_3.toInt ∧ bg2_3.toInt ≤ 400) ∧ (zKd kd2_2.toInt bg2_3.toInt nx2_4.toInt) ∧ (ln2_5.toInt = sz.toInt) ∧ (zSk fb ln2_5.toInt 0 bg2_3.toInt) ∧ (zTk fb ln2_5.toInt kd2_2.toInt bg2_3.toInt nx2_4.toInt) ∧ (0 ≤ ln2_5.toInt ∧ ln2_5.toInt ≤ 400) := hq6
  have hP : va_P g.1 vwCl (List.flatten [bDR g x ta o lo go tt lt mo fo ro fl9, bLaw g lo lc lz ll lm lg ld fc, bLT g lt ta loV, bLaw g loV lcV lzV llV lmV lgV ldV fcV, bMem g mo qT qL it il ig mh me mx fT fL, bTape g ta ab 0 ln2_5 kd2_2 bg2_3 nx2_4 (-1) fb]) H := hP
  have hD : va_D A (List.flatten [bDR g x ta o lo go tt lt mo fo ro fl9, bLaw g lo lc lz ll lm lg ld fc, bLT g lt ta loV, bLaw g loV lcV lzV llV lmV lgV ldV fcV, bMem g mo qT qL it il ig mh me mx fT fL, bTape g ta ab 0 ln2_5 kd2_2 bg2_3 nx2_4 (-1) fb]) := hD
  refine W.widen (k := 0) (n := 0) (Nat.le_of_ble_eq_true rfl) (Nat.le_of_ble_eq_true rfl) ?_
  refine W.eq (g2 := F0 m 14 ls []) rfl ?_
  obtain ⟨hq6_0, hq6_1, hq6_2, hq6_3, hq6_4, hq6_5, hq6_6⟩ := hq6
  refine lv_aload_n hx hb dX11_law_14 rfl (lv_at hl 0 rfl) ?_
  refine va_get (D := g.1) (ci := 9) (v := .ref lt) (C := RX11) (T := TX11) (N := 10) hx hb hts izRX11 hown hK hP 0 rfl rfl 5 (by decide) (hts _ k548) (fun _ h9 => h9) rfl dX11_law_15 ?_
  refine va_get (D := g.1) (ci := 2) (v := .ref loV) (C := RX2) (T := TX2) (N := 2) hx hb hts izRX2 hown hK hP 3 rfl rfl 1 (by decide) (hts _ k596) (fun _ h9 => h9) rfl dX11_law_18 ?_
  refine mcallV' (g := g) (q0 := 0) (ci := 1) (As := []) (rest := []) St hK hT hA hP hD hS hl.1 [3] [0, 1, 2, 4, 5] rfl rfl rfl (c_l_clear l g loV lcV lzV llV lmV lgV ldV fcV ) (cwV 0 hts (zgL (zl4 k598 k599 k600 k85) k199) rfl rfl rfl (by decide +kernel) ⟨Nat.le_of_ble_eq_true rfl, Nat.le_of_ble_eq_true rfl⟩) rfl rfl rfl rfl (Nat.le_of_ble_eq_true rfl) dX11_law_21 ⟨(Nat.le_of_ble_eq_true rfl), (Nat.le_of_ble_eq_true rfl)⟩ (fun _u H locs hq7 hP hD hS => ?_)
  have hP : va_P g.1 vwCl (List.flatten [bDR g x ta o lo go tt lt mo fo ro fl9, bLaw g lo lc lz ll lm lg ld fc, bLT g lt ta loV, bMem g mo qT qL it il ig mh me mx fT fL, bTape g ta ab 0 ln2_5 kd2_2 bg2_3 nx2_4 (-1) fb, bLaw g loV lcV 0 (-1) lmV lgV ldV fcV]) H := hP
  have hD : va_D A (List.flatten [bDR g x ta o lo go tt lt mo fo ro fl9, bLaw g lo lc lz ll lm lg ld fc, bLT g lt ta loV, bMem g mo qT qL it il ig mh me mx fT fL, bTape g ta ab 0 ln2_5 kd2_2 bg2_3 nx2_4 (-1) fb, bLaw g loV lcV 0 (-1) lmV lgV ldV fcV]) := hD
  refine W.widen (k := 0) (n := 0) (Nat.le_of_ble_eq_true rfl) (Nat.le_of_ble_eq_true rfl) ?_
  refine W.eq (g2 := F0 m 24 ls []) rfl ?_
  refine lv_aload_n hx hb dX11_law_24 rfl (lv_at hl 0 rfl) ?_
  refine va_get (D := g.1) (ci := 9) (v := .ref lt) (C := RX11) (T := TX11) (N := 10) hx hb hts izRX11 hown hK hP 0 rfl rfl 5 (by decide) (hts _ k548) (fun _ h9 => h9) rfl dX11_law_25 ?_
  refine lv_bipush (v := 12) hx hb dX11_law_28 (by decide) ?_
  have hL0 : (0 : Int32).toInt = 0 := by decide
  have hL12 : (12 : Int32).toInt = 12 := by decide
  refine mcallU' (g := g) (q0 := 0) (ci := 2) (As := [.int 12]) (rest := []) St hK hT hA hP hD hS hl.1 [2, 4, 5] [0, 1, 3] rfl rfl rfl (c_lt_readLinesC l g lt ta loV ab 0 ln2_5 kd2_2 bg2_3 nx2_4 fb lcV 0 (-1) lmV lgV ldV fcV 12 (by decide) (by decide) hq6_6 hq6_0 hq6_1 hq6_2 hq6_5 (by first | assumption | omega | decide | exact Or.inl (by decide) | exact Or.inr (by decide))) (va_cwU (x := ⟨"DryRiver$LawText", "readLines", "(I)I"⟩) 1 hts (zgL (zl5 k601 k602 k603 k593 k213) k498) rfl rfl rfl rfl (by decide +kernel) ⟨Nat.le_of_ble_eq_true rfl, Nat.le_of_ble_eq_true rfl⟩) rfl rfl rfl rfl (Nat.le_of_ble_eq_true rfl) dX11_law_30 ⟨(Nat.le_of_ble_eq_true rfl), (Nat.le_of_ble_eq_true rfl)⟩ (fun u_ H locs hq15 hP hD hS => ?_)
  obtain ⟨kd2_8, bg2_9, nx2_10, ft2_11, lz2_12, fc2_13, q_14⟩ := u_
  replace hq15 : (0 ≤ lz2_12.toInt ∧ lz2_12.toInt ≤ 400) ∧ (-1 ≤ ft2_11.toInt) ∧ (0 ≤ nx2_10.toInt ∧ nx2_10.toInt ≤ 400) ∧ (0 ≤ bg2_9.toInt ∧ bg2_9.toInt ≤ 400) ∧ (zKd kd2_8.toInt bg2_9.toInt nx2_10.toInt) ∧ (zTk fb ln2_5.toInt kd2_8.toInt bg2_9.toInt nx2_10.toInt) ∧ (q_14 = 0 ∧ ln2_5.toInt ≤ bg2_3.toInt ∧ (-1) = ft2_11 ∧ lz2_12.toInt = 0 ∨ (1 ≤ q_14.toInt ∧ q_14.toInt ≤ (12 : Int32).toInt) ∧ ¬ ln2_5.toInt ≤ bg2_3.toInt ∧ zLines fb ln2_5.toInt (zLLine fb ln2_5.toInt) (12 : Int32).toInt.toNat bg2_3.toInt (.ok ((12 : Int32).toInt - q_14.toInt)) ∧ (-1) = ft2_11 ∧ zLaC fb ln2_5.toInt (12 : Int32).toInt.toNat bg2_3.toInt fc2_13 lz2_12.toInt ∨ q_14 = -1 ∧ ¬ ln2_5.toInt ≤ bg2_3.toInt ∧ zLines fb ln2_5.toInt (zLLine fb ln2_5.toInt) (12 : Int32).toInt.toNat bg2_3.toInt (.bad ft2_11.toInt)) := hq15
  have hP : va_P g.1 vwCl (List.flatten [bDR g x ta o lo go tt lt mo fo ro fl9, bLaw g lo lc lz ll lm lg ld fc, bMem g mo qT qL it il ig mh me mx fT fL, bLT g lt ta loV, bTape g ta ab 0 ln2_5 kd2_8 bg2_9 nx2_10 ft2_11 fb, bLaw g loV lcV lz2_12 (-1) lmV lgV ldV fc2_13]) H := hP
  have hD : va_D A (List.flatten [bDR g x ta o lo go tt lt mo fo ro fl9, bLaw g lo lc lz ll lm lg ld fc, bMem g mo qT qL it il ig mh me mx fT fL, bLT g lt ta loV, bTape g ta ab 0 ln2_5 kd2_8 bg2_9 nx2_10 ft2_11 fb, bLaw g loV lcV lz2_12 (-1) lmV lgV ldV fc2_13]) := hD
  refine W.widen (k := 0) (n := 0) (Nat.le_of_ble_eq_true rfl) (Nat.le_of_ble_eq_true rfl) ?_
  refine W.eq (g2 := F0 m 33 ls [.int q_14]) rfl ?_
  obtain ⟨hq15_0, hq15_1, hq15_2, hq15_3, hq15_4, hq15_5, hq15_6⟩ := hq15
  rcases hq15_6 with ⟨rfl, hq15_k, rfl, hq15_kc⟩ | ⟨hq15_ka, hq15_kb, hq15_k, rfl, hq15_kc⟩ | ⟨rfl, hq15_kb, hq15_k⟩
  · skip
    refine lv_istore_n (lv' := [(1, .int 0), (0, .ref x)]) hx hb dX11_law_33 rfl hl (by decide) rfl (fun ls hl => ?_)
    refine lv_aload_n hx hb dX11_law_34 rfl (lv_at hl 1 rfl) ?_
    refine lv_aload_n hx hb dX11_law_35 rfl (lv_at hl 1 rfl) ?_
    refine va_get (D := g.1) (ci := 9) (v := .ref ta) (C := RX11) (T := TX11) (N := 10) hx hb hts izRX11 hown hK hP 0 rfl rfl 0 (by decide) (hts _ k536) (fun _ h9 => h9) rfl dX11_law_36 ?_
    refine va_get (D := g.1) (ci := 6) (v := .int (-1)) (C := RX6) (T := TX6) (N := 7) hx hb hts izRX6 hown hK hP 7 rfl rfl 6 (by decide) (hts _ k581) (fun _ h9 => h9) rfl dX11_law_39 ?_
    refine va_put (D := g.1) (ci := 9) (v := .int (-1)) (ty := .int) (C := RX11) (T := TX11) (N := 10) hx hb hts izRX11 tyX11 tyX11_ok nmX11 hown hK hP hD hS 0 rfl rfl 9 (by decide) (hts _ k558) (fun _ h9 => h9) rfl (by decide +kernel) rfl rfl (Nat.le_of_ble_eq_true rfl) dX11_law_42 (fun H locs hP hD hS => ?_)
    have hP : va_P g.1 vwCl (List.flatten [bDR g x ta o lo go tt lt mo fo ro (-1), bLaw g lo lc lz ll lm lg ld fc, bMem g mo qT qL it il ig mh me mx fT fL, bLT g lt ta loV, bTape g ta ab 0 ln2_5 kd2_8 bg2_9 nx2_10 (-1) fb, bLaw g loV lcV lz2_12 (-1) lmV lgV ldV fc2_13]) H := hP
    have hD : va_D A (List.flatten [bDR g x ta o lo go tt lt mo fo ro (-1), bLaw g lo lc lz ll lm lg ld fc, bMem g mo qT qL it il ig mh me mx fT fL, bLT g lt ta loV, bTape g ta ab 0 ln2_5 kd2_8 bg2_9 nx2_10 (-1) fb, bLaw g loV lcV lz2_12 (-1) lmV lgV ldV fc2_13]) := hD
    refine lv_iload_n hx hb dX11_law_45 rfl (lv_at hl 0 rfl) ?_
    refine lv_iconst (v := (-1)) hx hb dX11_law_46 (by decide) ?_
    refine lv_icmp_ne (tgt := 60) hx hb dX11_law_47 (by decide) (fun _ => ?_) (fun c16 => absurd c16 (by decide))
    refine lv_aload_n hx hb dX11_law_60 rfl (lv_at hl 1 rfl) ?_
    refine va_get (D := g.1) (ci := 9) (v := .ref lt) (C := RX11) (T := TX11) (N := 10) hx hb hts izRX11 hown hK hP 0 rfl rfl 5 (by decide) (hts _ k548) (fun _ h9 => h9) rfl dX11_law_61 ?_
    refine va_get (D := g.1) (ci := 2) (v := .ref loV) (C := RX2) (T := TX2) (N := 2) hx hb hts izRX2 hown hK hP 6 rfl rfl 1 (by decide) (hts _ k596) (fun _ h9 => h9) rfl dX11_law_64 ?_
    refine lv_iload_n hx hb dX11_law_67 rfl (lv_at hl 0 rfl) ?_
    refine va_put (D := g.1) (ci := 1) (v := .int 0) (ty := .int) (C := RX1) (T := TX1) (N := 6) hx hb hts izRX1 tyX1 tyX1_ok nmX1 hown hK hP hD hS 9 rfl rfl 2 (by decide) (hts _ k597) (fun _ h9 => h9) rfl (by decide +kernel) rfl rfl (Nat.le_of_ble_eq_true rfl) dX11_law_68 (fun H locs hP hD hS => ?_)
    have hP : va_P g.1 vwCl (List.flatten [bDR g x ta o lo go tt lt mo fo ro (-1), bLaw g lo lc lz ll lm lg ld fc, bMem g mo qT qL it il ig mh me mx fT fL, bLT g lt ta loV, bTape g ta ab 0 ln2_5 kd2_8 bg2_9 nx2_10 (-1) fb, bLaw g loV lcV lz2_12 0 lmV lgV ldV fc2_13]) H := hP
    have hD : va_D A (List.flatten [bDR g x ta o lo go tt lt mo fo ro (-1), bLaw g lo lc lz ll lm lg ld fc, bMem g mo qT qL it il ig mh me mx fT fL, bLT g lt ta loV, bTape g ta ab 0 ln2_5 kd2_8 bg2_9 nx2_10 (-1) fb, bLaw g loV lcV lz2_12 0 lmV lgV ldV fc2_13]) := hD
    refine lv_aload_n hx hb dX11_law_71 rfl (lv_at hl 1 rfl) ?_
    refine va_get (D := g.1) (ci := 9) (v := .ref lo) (C := RX11) (T := TX11) (N := 10) hx hb hts izRX11 hown hK hP 0 rfl rfl 2 (by decide) (hts _ k540) (fun _ h9 => h9) rfl dX11_law_72 ?_
    refine lv_aload_n hx hb dX11_law_75 rfl (lv_at hl 1 rfl) ?_
    refine va_get (D := g.1) (ci := 9) (v := .ref lt) (C := RX11) (T := TX11) (N := 10) hx hb hts izRX11 hown hK hP 0 rfl rfl 5 (by decide) (hts _ k548) (fun _ h9 => h9) rfl dX11_law_76 ?_
    refine va_get (D := g.1) (ci := 2) (v := .ref loV) (C := RX2) (T := TX2) (N := 2) hx hb hts izRX2 hown hK hP 6 rfl rfl 1 (by decide) (hts _ k596) (fun _ h9 => h9) rfl dX11_law_79 ?_
    refine mcallV' (g := g) (q0 := 0) (ci := 1) (As := [.ref loV]) (rest := []) St hK hT hA hP hD hS hl.1 [1, 5] [0, 2, 3, 4] rfl rfl rfl (c_l_copyFromC l g lo lc lz ll lm lg ld fc loV lcV lz2_12 0 lmV lgV ldV fc2_13 hq15_0) (cwV 1 hts (zgL (zl4 k604 k372 k373 k85) k200) rfl rfl rfl (by decide +kernel) ⟨Nat.le_of_ble_eq_true rfl, Nat.le_of_ble_eq_true rfl⟩) rfl rfl rfl rfl (Nat.le_of_ble_eq_true rfl) dX11_law_82 ⟨(Nat.le_of_ble_eq_true rfl), (Nat.le_of_ble_eq_true rfl)⟩ (fun h_17 H locs hq18 hP hD hS => ?_)
    replace hq18 : (zCe h_17 fc2_13) := hq18
    have hP : va_P g.1 vwCl (List.flatten [bDR g x ta o lo go tt lt mo fo ro (-1), bMem g mo qT qL it il ig mh me mx fT fL, bLT g lt ta loV, bTape g ta ab 0 ln2_5 kd2_8 bg2_9 nx2_10 (-1) fb, bLaw g lo lc lz2_12 0 lm lg ld h_17, bLaw g loV lcV lz2_12 0 lmV lgV ldV fc2_13]) H := hP
    have hD : va_D A (List.flatten [bDR g x ta o lo go tt lt mo fo ro (-1), bMem g mo qT qL it il ig mh me mx fT fL, bLT g lt ta loV, bTape g ta ab 0 ln2_5 kd2_8 bg2_9 nx2_10 (-1) fb, bLaw g lo lc lz2_12 0 lm lg ld h_17, bLaw g loV lcV lz2_12 0 lmV lgV ldV fc2_13]) := hD
    refine W.widen (k := 0) (n := 0) (Nat.le_of_ble_eq_true rfl) (Nat.le_of_ble_eq_true rfl) ?_
    refine W.eq (g2 := F0 m 85 ls []) rfl ?_
    refine lv_aload_n hx hb dX11_law_85 rfl (lv_at hl 1 rfl) ?_
    refine va_get (D := g.1) (ci := 9) (v := .ref mo) (C := RX11) (T := TX11) (N := 10) hx hb hts izRX11 hown hK hP 0 rfl rfl 6 (by decide) (hts _ k551) (fun _ h9 => h9) rfl dX11_law_86 ?_
    refine mcallV' (g := g) (q0 := 0) (ci := 4) (As := []) (rest := []) St hK hT hA hP hD hS hl.1 [1] [0, 2, 3, 4, 5] rfl rfl rfl (c_m_forget l g mo qT qL it il ig mh me mx fT fL ) (cwV 0 hts (zgL (zl4 k594 k376 k377 k378) k359) rfl rfl rfl (by decide +kernel) ⟨Nat.le_of_ble_eq_true rfl, Nat.le_of_ble_eq_true rfl⟩) rfl rfl rfl rfl (Nat.le_of_ble_eq_true rfl) dX11_law_89 ⟨(Nat.le_of_ble_eq_true rfl), (Nat.le_of_ble_eq_true rfl)⟩ (fun _u H locs hq19 hP hD hS => ?_)
    have hP : va_P g.1 vwCl (List.flatten [bDR g x ta o lo go tt lt mo fo ro (-1), bLT g lt ta loV, bTape g ta ab 0 ln2_5 kd2_8 bg2_9 nx2_10 (-1) fb, bLaw g lo lc lz2_12 0 lm lg ld h_17, bLaw g loV lcV lz2_12 0 lmV lgV ldV fc2_13, bMem g mo qT qL it il ig mh 0 mx fT fL]) H := hP
    have hD : va_D A (List.flatten [bDR g x ta o lo go tt lt mo fo ro (-1), bLT g lt ta loV, bTape g ta ab 0 ln2_5 kd2_8 bg2_9 nx2_10 (-1) fb, bLaw g lo lc lz2_12 0 lm lg ld h_17, bLaw g loV lcV lz2_12 0 lmV lgV ldV fc2_13, bMem g mo qT qL it il ig mh 0 mx fT fL]) := hD
    refine W.widen (k := 0) (n := 0) (Nat.le_of_ble_eq_true rfl) (Nat.le_of_ble_eq_true rfl) ?_
    refine W.eq (g2 := F0 m 92 ls []) rfl ?_
    refine lv_iload_n hx hb dX11_law_92 rfl (lv_at hl 0 rfl) ?_
    have hP : va_P g.1 vwCl (List.flatten [bDR g x ta o lo go tt lt mo fo ro (-1), bLT g lt ta loV, bTape g ta ab 0 ln2_5 kd2_8 bg2_9 nx2_10 (-1) fb, bLaw g lo lc lz2_12 0 lm lg ld h_17, bLaw g loV lcV lz2_12 0 lmV lgV ldV fc2_13, bMem g mo qT qL it il ig mh 0 mx fT fL]) H := hP
    have hD : va_D A (List.flatten [bDR g x ta o lo go tt lt mo fo ro (-1), bLT g lt ta loV, bTape g ta ab 0 ln2_5 kd2_8 bg2_9 nx2_10 (-1) fb, bLaw g lo lc lz2_12 0 lm lg ld h_17, bLaw g loV lcV lz2_12 0 lmV lgV ldV fc2_13, bMem g mo qT qL it il ig mh 0 mx fT fL]) := hD
    obtain ⟨hP, hD⟩ := zord (g := g) (Bs' := [bDR g x ta o lo go tt lt mo fo ro (-1), bTape g ta ab 0 ln2_5 kd2_8 bg2_9 nx2_10 (-1) fb, bLaw g lo lc lz2_12 0 lm lg ld h_17, bLT g lt ta loV, bLaw g loV lcV lz2_12 0 lmV lgV ldV fc2_13, bMem g mo qT qL it il ig mh 0 mx fT fL]) [0, 2, 3, 1, 4, 5] rfl rfl hP hD
    exact zret_i hx hb hr hlocks hS (Nat.le_of_ble_eq_true rfl) (Nat.le_of_ble_eq_true rfl) dX11_law_93 (-1, ln2_5, kd2_8, bg2_9, nx2_10, -1, lz2_12, (0 : Int32), h_17, lz2_12, (0 : Int32), lmV, lgV, ldV, fc2_13, (0 : Int32), (0 : Int32)) rfl (show (0 ≤ lz2_12.toInt ∧ lz2_12.toInt ≤ 400) ∧ (0 ≤ lz2_12.toInt ∧ lz2_12.toInt ≤ 400) ∧ (0 ≤ (0 : Int32).toInt ∧ (0 : Int32).toInt ≤ 12) ∧ (zLawR fb sz.toInt 0 (0 : Int32).toInt ∧ ((-1) : Int32).toInt = -1 ∧ (0 : Int32).toInt = 0 ∧ zLaK fb sz.toInt h_17 lz2_12 0 ∧ (0 : Int32).toInt = (0 : Int32).toInt) from ⟨(by first | assumption | omega | decide), (by first | assumption | omega | decide), (by first | assumption | omega | decide), ⟨(zLawR_c hq6_3 rfl (zLaw_of (m := 12) (k := 12) rfl rfl (show _ = zbg fb _ 0 from hq6_4) (Or.inl ⟨(by decide), hq15_k⟩))), (by decide), (by decide), (zLaK_0 hq18 hq15_kc (by decide) hq6_3 (show _ = zbg fb _ 0 from hq6_4) hq15_k), rfl⟩⟩) hP hD
  · skip
    refine lv_istore_n (lv' := [(1, .int q_14), (0, .ref x)]) hx hb dX11_law_33 rfl hl (by decide) rfl (fun ls hl => ?_)
    refine lv_aload_n hx hb dX11_law_34 rfl (lv_at hl 1 rfl) ?_
    refine lv_aload_n hx hb dX11_law_35 rfl (lv_at hl 1 rfl) ?_
    refine va_get (D := g.1) (ci := 9) (v := .ref ta) (C := RX11) (T := TX11) (N := 10) hx hb hts izRX11 hown hK hP 0 rfl rfl 0 (by decide) (hts _ k536) (fun _ h9 => h9) rfl dX11_law_36 ?_
    refine va_get (D := g.1) (ci := 6) (v := .int (-1)) (C := RX6) (T := TX6) (N := 7) hx hb hts izRX6 hown hK hP 7 rfl rfl 6 (by decide) (hts _ k581) (fun _ h9 => h9) rfl dX11_law_39 ?_
    refine va_put (D := g.1) (ci := 9) (v := .int (-1)) (ty := .int) (C := RX11) (T := TX11) (N := 10) hx hb hts izRX11 tyX11 tyX11_ok nmX11 hown hK hP hD hS 0 rfl rfl 9 (by decide) (hts _ k558) (fun _ h9 => h9) rfl (by decide +kernel) rfl rfl (Nat.le_of_ble_eq_true rfl) dX11_law_42 (fun H locs hP hD hS => ?_)
    have hP : va_P g.1 vwCl (List.flatten [bDR g x ta o lo go tt lt mo fo ro (-1), bLaw g lo lc lz ll lm lg ld fc, bMem g mo qT qL it il ig mh me mx fT fL, bLT g lt ta loV, bTape g ta ab 0 ln2_5 kd2_8 bg2_9 nx2_10 (-1) fb, bLaw g loV lcV lz2_12 (-1) lmV lgV ldV fc2_13]) H := hP
    have hD : va_D A (List.flatten [bDR g x ta o lo go tt lt mo fo ro (-1), bLaw g lo lc lz ll lm lg ld fc, bMem g mo qT qL it il ig mh me mx fT fL, bLT g lt ta loV, bTape g ta ab 0 ln2_5 kd2_8 bg2_9 nx2_10 (-1) fb, bLaw g loV lcV lz2_12 (-1) lmV lgV ldV fc2_13]) := hD
    refine lv_iload_n hx hb dX11_law_45 rfl (lv_at hl 0 rfl) ?_
    refine lv_iconst (v := (-1)) hx hb dX11_law_46 (by decide) ?_
    refine lv_icmp_ne (tgt := 60) hx hb dX11_law_47 (by decide) (fun cb9 => ?_) (fun cb9 => ?_)
    · skip
      have c20 : ¬ q_14.toInt = (-1) := zne cb9 rfl (by decide)
      refine lv_aload_n hx hb dX11_law_60 rfl (lv_at hl 1 rfl) ?_
      refine va_get (D := g.1) (ci := 9) (v := .ref lt) (C := RX11) (T := TX11) (N := 10) hx hb hts izRX11 hown hK hP 0 rfl rfl 5 (by decide) (hts _ k548) (fun _ h9 => h9) rfl dX11_law_61 ?_
      refine va_get (D := g.1) (ci := 2) (v := .ref loV) (C := RX2) (T := TX2) (N := 2) hx hb hts izRX2 hown hK hP 6 rfl rfl 1 (by decide) (hts _ k596) (fun _ h9 => h9) rfl dX11_law_64 ?_
      refine lv_iload_n hx hb dX11_law_67 rfl (lv_at hl 0 rfl) ?_
      refine va_put (D := g.1) (ci := 1) (v := .int q_14) (ty := .int) (C := RX1) (T := TX1) (N := 6) hx hb hts izRX1 tyX1 tyX1_ok nmX1 hown hK hP hD hS 9 rfl rfl 2 (by decide) (hts _ k597) (fun _ h9 => h9) rfl (by decide +kernel) rfl rfl (Nat.le_of_ble_eq_true rfl) dX11_law_68 (fun H locs hP hD hS => ?_)
      have hP : va_P g.1 vwCl (List.flatten [bDR g x ta o lo go tt lt mo fo ro (-1), bLaw g lo lc lz ll lm lg ld fc, bMem g mo qT qL it il ig mh me mx fT fL, bLT g lt ta loV, bTape g ta ab 0 ln2_5 kd2_8 bg2_9 nx2_10 (-1) fb, bLaw g loV lcV lz2_12 q_14 lmV lgV ldV fc2_13]) H := hP
      have hD : va_D A (List.flatten [bDR g x ta o lo go tt lt mo fo ro (-1), bLaw g lo lc lz ll lm lg ld fc, bMem g mo qT qL it il ig mh me mx fT fL, bLT g lt ta loV, bTape g ta ab 0 ln2_5 kd2_8 bg2_9 nx2_10 (-1) fb, bLaw g loV lcV lz2_12 q_14 lmV lgV ldV fc2_13]) := hD
      refine lv_aload_n hx hb dX11_law_71 rfl (lv_at hl 1 rfl) ?_
      refine va_get (D := g.1) (ci := 9) (v := .ref lo) (C := RX11) (T := TX11) (N := 10) hx hb hts izRX11 hown hK hP 0 rfl rfl 2 (by decide) (hts _ k540) (fun _ h9 => h9) rfl dX11_law_72 ?_
      refine lv_aload_n hx hb dX11_law_75 rfl (lv_at hl 1 rfl) ?_
      refine va_get (D := g.1) (ci := 9) (v := .ref lt) (C := RX11) (T := TX11) (N := 10) hx hb hts izRX11 hown hK hP 0 rfl rfl 5 (by decide) (hts _ k548) (fun _ h9 => h9) rfl dX11_law_76 ?_
      refine va_get (D := g.1) (ci := 2) (v := .ref loV) (C := RX2) (T := TX2) (N := 2) hx hb hts izRX2 hown hK hP 6 rfl rfl 1 (by decide) (hts _ k596) (fun _ h9 => h9) rfl dX11_law_79 ?_
      refine mcallV' (g := g) (q0 := 0) (ci := 1) (As := [.ref loV]) (rest := []) St hK hT hA hP hD hS hl.1 [1, 5] [0, 2, 3, 4] rfl rfl rfl (c_l_copyFromC l g lo lc lz ll lm lg ld fc loV lcV lz2_12 q_14 lmV lgV ldV fc2_13 hq15_0) (cwV 1 hts (zgL (zl4 k604 k372 k373 k85) k200) rfl rfl rfl (by decide +kernel) ⟨Nat.le_of_ble_eq_true rfl, Nat.le_of_ble_eq_true rfl⟩) rfl rfl rfl rfl (Nat.le_of_ble_eq_true rfl) dX11_law_82 ⟨(Nat.le_of_ble_eq_true rfl), (Nat.le_of_ble_eq_true rfl)⟩ (fun h_21 H locs hq22 hP hD hS => ?_)
      replace hq22 : (zCe h_21 fc2_13) := hq22
      have hP : va_P g.1 vwCl (List.flatten [bDR g x ta o lo go tt lt mo fo ro (-1), bMem g mo qT qL it il ig mh me mx fT fL, bLT g lt ta loV, bTape g ta ab 0 ln2_5 kd2_8 bg2_9 nx2_10 (-1) fb, bLaw g lo lc lz2_12 q_14 lm lg ld h_21, bLaw g loV lcV lz2_12 q_14 lmV lgV ldV fc2_13]) H := hP
      have hD : va_D A (List.flatten [bDR g x ta o lo go tt lt mo fo ro (-1), bMem g mo qT qL it il ig mh me mx fT fL, bLT g lt ta loV, bTape g ta ab 0 ln2_5 kd2_8 bg2_9 nx2_10 (-1) fb, bLaw g lo lc lz2_12 q_14 lm lg ld h_21, bLaw g loV lcV lz2_12 q_14 lmV lgV ldV fc2_13]) := hD
      refine W.widen (k := 0) (n := 0) (Nat.le_of_ble_eq_true rfl) (Nat.le_of_ble_eq_true rfl) ?_
      refine W.eq (g2 := F0 m 85 ls []) rfl ?_
      refine lv_aload_n hx hb dX11_law_85 rfl (lv_at hl 1 rfl) ?_
      refine va_get (D := g.1) (ci := 9) (v := .ref mo) (C := RX11) (T := TX11) (N := 10) hx hb hts izRX11 hown hK hP 0 rfl rfl 6 (by decide) (hts _ k551) (fun _ h9 => h9) rfl dX11_law_86 ?_
      refine mcallV' (g := g) (q0 := 0) (ci := 4) (As := []) (rest := []) St hK hT hA hP hD hS hl.1 [1] [0, 2, 3, 4, 5] rfl rfl rfl (c_m_forget l g mo qT qL it il ig mh me mx fT fL ) (cwV 0 hts (zgL (zl4 k594 k376 k377 k378) k359) rfl rfl rfl (by decide +kernel) ⟨Nat.le_of_ble_eq_true rfl, Nat.le_of_ble_eq_true rfl⟩) rfl rfl rfl rfl (Nat.le_of_ble_eq_true rfl) dX11_law_89 ⟨(Nat.le_of_ble_eq_true rfl), (Nat.le_of_ble_eq_true rfl)⟩ (fun _u H locs hq23 hP hD hS => ?_)
      have hP : va_P g.1 vwCl (List.flatten [bDR g x ta o lo go tt lt mo fo ro (-1), bLT g lt ta loV, bTape g ta ab 0 ln2_5 kd2_8 bg2_9 nx2_10 (-1) fb, bLaw g lo lc lz2_12 q_14 lm lg ld h_21, bLaw g loV lcV lz2_12 q_14 lmV lgV ldV fc2_13, bMem g mo qT qL it il ig mh 0 mx fT fL]) H := hP
      have hD : va_D A (List.flatten [bDR g x ta o lo go tt lt mo fo ro (-1), bLT g lt ta loV, bTape g ta ab 0 ln2_5 kd2_8 bg2_9 nx2_10 (-1) fb, bLaw g lo lc lz2_12 q_14 lm lg ld h_21, bLaw g loV lcV lz2_12 q_14 lmV lgV ldV fc2_13, bMem g mo qT qL it il ig mh 0 mx fT fL]) := hD
      refine W.widen (k := 0) (n := 0) (Nat.le_of_ble_eq_true rfl) (Nat.le_of_ble_eq_true rfl) ?_
      refine W.eq (g2 := F0 m 92 ls []) rfl ?_
      refine lv_iload_n hx hb dX11_law_92 rfl (lv_at hl 0 rfl) ?_
      have hP : va_P g.1 vwCl (List.flatten [bDR g x ta o lo go tt lt mo fo ro (-1), bLT g lt ta loV, bTape g ta ab 0 ln2_5 kd2_8 bg2_9 nx2_10 (-1) fb, bLaw g lo lc lz2_12 q_14 lm lg ld h_21, bLaw g loV lcV lz2_12 q_14 lmV lgV ldV fc2_13, bMem g mo qT qL it il ig mh 0 mx fT fL]) H := hP
      have hD : va_D A (List.flatten [bDR g x ta o lo go tt lt mo fo ro (-1), bLT g lt ta loV, bTape g ta ab 0 ln2_5 kd2_8 bg2_9 nx2_10 (-1) fb, bLaw g lo lc lz2_12 q_14 lm lg ld h_21, bLaw g loV lcV lz2_12 q_14 lmV lgV ldV fc2_13, bMem g mo qT qL it il ig mh 0 mx fT fL]) := hD
      obtain ⟨hP, hD⟩ := zord (g := g) (Bs' := [bDR g x ta o lo go tt lt mo fo ro (-1), bTape g ta ab 0 ln2_5 kd2_8 bg2_9 nx2_10 (-1) fb, bLaw g lo lc lz2_12 q_14 lm lg ld h_21, bLT g lt ta loV, bLaw g loV lcV lz2_12 q_14 lmV lgV ldV fc2_13, bMem g mo qT qL it il ig mh 0 mx fT fL]) [0, 2, 3, 1, 4, 5] rfl rfl hP hD
      exact zret_i hx hb hr hlocks hS (Nat.le_of_ble_eq_true rfl) (Nat.le_of_ble_eq_true rfl) dX11_law_93 (-1, ln2_5, kd2_8, bg2_9, nx2_10, -1, lz2_12, q_14, h_21, lz2_12, q_14, lmV, lgV, ldV, fc2_13, (0 : Int32), q_14) rfl (show (0 ≤ lz2_12.toInt ∧ lz2_12.toInt ≤ 400) ∧ (0 ≤ lz2_12.toInt ∧ lz2_12.toInt ≤ 400) ∧ (0 ≤ (0 : Int32).toInt ∧ (0 : Int32).toInt ≤ 12) ∧ (zLawR fb sz.toInt 0 q_14.toInt ∧ ((-1) : Int32).toInt = -1 ∧ (0 : Int32).toInt = 0 ∧ zLaK fb sz.toInt h_21 lz2_12 q_14 ∧ q_14.toInt = q_14.toInt) from ⟨(by first | assumption | omega | decide), (by first | assumption | omega | decide), (by first | assumption | omega | decide), ⟨(zLawR_c hq6_3 rfl (zLaw_of (by decide) (by decide) (show _ = zbg fb _ 0 from hq6_4) (Or.inr ⟨hq15_ka, hq15_kb, hq15_k⟩))), (by decide), (by decide), (zLaK_1 hq22 (by omega) (by omega) hq6_3 (show _ = zbg fb _ 0 from hq6_4) hq15_kb (by decide) hq15_kc), rfl⟩⟩) hP hD
    · skip
      exact absurd (show q_14.toInt = (-1) from zeq cb9 rfl (by decide)) (zDeq2 (a := 1) (b := (-1)) hq15_ka.1 (Int.le_refl _) (by decide))
  · skip
    refine lv_istore_n (lv' := [(1, .int (-1)), (0, .ref x)]) hx hb dX11_law_33 rfl hl (by decide) rfl (fun ls hl => ?_)
    refine lv_aload_n hx hb dX11_law_34 rfl (lv_at hl 1 rfl) ?_
    refine lv_aload_n hx hb dX11_law_35 rfl (lv_at hl 1 rfl) ?_
    refine va_get (D := g.1) (ci := 9) (v := .ref ta) (C := RX11) (T := TX11) (N := 10) hx hb hts izRX11 hown hK hP 0 rfl rfl 0 (by decide) (hts _ k536) (fun _ h9 => h9) rfl dX11_law_36 ?_
    refine va_get (D := g.1) (ci := 6) (v := .int ft2_11) (C := RX6) (T := TX6) (N := 7) hx hb hts izRX6 hown hK hP 7 rfl rfl 6 (by decide) (hts _ k581) (fun _ h9 => h9) rfl dX11_law_39 ?_
    refine va_put (D := g.1) (ci := 9) (v := .int ft2_11) (ty := .int) (C := RX11) (T := TX11) (N := 10) hx hb hts izRX11 tyX11 tyX11_ok nmX11 hown hK hP hD hS 0 rfl rfl 9 (by decide) (hts _ k558) (fun _ h9 => h9) rfl (by decide +kernel) rfl rfl (Nat.le_of_ble_eq_true rfl) dX11_law_42 (fun H locs hP hD hS => ?_)
    have hP : va_P g.1 vwCl (List.flatten [bDR g x ta o lo go tt lt mo fo ro ft2_11, bLaw g lo lc lz ll lm lg ld fc, bMem g mo qT qL it il ig mh me mx fT fL, bLT g lt ta loV, bTape g ta ab 0 ln2_5 kd2_8 bg2_9 nx2_10 ft2_11 fb, bLaw g loV lcV lz2_12 (-1) lmV lgV ldV fc2_13]) H := hP
    have hD : va_D A (List.flatten [bDR g x ta o lo go tt lt mo fo ro ft2_11, bLaw g lo lc lz ll lm lg ld fc, bMem g mo qT qL it il ig mh me mx fT fL, bLT g lt ta loV, bTape g ta ab 0 ln2_5 kd2_8 bg2_9 nx2_10 ft2_11 fb, bLaw g loV lcV lz2_12 (-1) lmV lgV ldV fc2_13]) := hD
    refine lv_iload_n hx hb dX11_law_45 rfl (lv_at hl 0 rfl) ?_
    refine lv_iconst (v := (-1)) hx hb dX11_law_46 (by decide) ?_
    refine lv_icmp_ne (tgt := 60) hx hb dX11_law_47 (by decide) (fun c25 => absurd (by decide) c25) (fun _ => ?_)
    have w26 : zLawB fb sz.toInt 0 ft2_11.toInt := zLawB_c hq6_3 rfl (zLawB_of (by decide) (show _ = zbg fb _ 0 from hq6_4) hq15_kb hq15_k)
    obtain ⟨sa27, hsa27⟩ := hT.1.2.2.1 _ (List.mem_of_getElem? (i := 2) rfl)
    have hP : va_P g.1 vwCl (List.flatten [bDR g x ta o lo go tt lt mo fo ro ft2_11, bLaw g lo lc lz ll lm lg ld fc, bMem g mo qT qL it il ig mh me mx fT fL, bLT g lt ta loV, bTape g ta ab 0 ln2_5 kd2_8 bg2_9 nx2_10 ft2_11 fb, bLaw g loV lcV lz2_12 (-1) lmV lgV ldV fc2_13]) H := hP
    have hD : va_D A (List.flatten [bDR g x ta o lo go tt lt mo fo ro ft2_11, bLaw g lo lc lz ll lm lg ld fc, bMem g mo qT qL it il ig mh me mx fT fL, bLT g lt ta loV, bTape g ta ab 0 ln2_5 kd2_8 bg2_9 nx2_10 ft2_11 fb, bLaw g loV lcV lz2_12 (-1) lmV lgV ldV fc2_13]) := hD
    obtain ⟨hP, hD⟩ := zord (g := g) (Bs' := [bDR g x ta o lo go tt lt mo fo ro ft2_11, bTape g ta ab 0 ln2_5 kd2_8 bg2_9 nx2_10 ft2_11 fb, bLaw g lo lc lz ll lm lg ld fc, bLT g lt ta loV, bLaw g loV lcV lz2_12 (-1) lmV lgV ldV fc2_13, bMem g mo qT qL it il ig mh me mx fT fL]) [0, 4, 1, 3, 5, 2] rfl rfl hP hD
    exact vx_throwS (A := A) (names := ["java/lang/RuntimeException", "java/lang/Exception"]) hx hb hfl hown (by decide +kernel) (by decide +kernel) (hts _ k576) (hts _ k577) hsa27 (zhat hat_RX11_110_IllegalArgumentExceptiona hat_RX11_110_IllegalArgumentExceptionb hts (hT.1.2.2.2.2.1 _ (List.mem_of_getElem? (i := 1) rfl))) hat_RX11_110_IllegalArgumentExceptionc hT.1.1 hT.1.2.1 hS (by rw [hml]; exact hl.1) dX11_law_50 dX11_law_53 dX11_law_54 dX11_law_56 dX11_law_59 (fun x hx => (htab x hx).elim) (Nat.le_of_ble_eq_true rfl) (Nat.le_of_ble_eq_true rfl) (Nat.le_of_ble_eq_true rfl) (Nat.le_of_ble_eq_true rfl) hlocks (fun t ht hz hk => ⟨⟨(ft2_11, ln2_5, kd2_8, bg2_9, nx2_10, ft2_11, lz, ll, fc, lz2_12, -1, lmV, lgV, ldV, fc2_13, me), ⟨rfl, (show 0 ≤ lz.toInt ∧ lz.toInt ≤ 400 from b_lz), (show 0 ≤ lz2_12.toInt ∧ lz2_12.toInt ≤ 400 from hq15_0), (show 0 ≤ me.toInt ∧ me.toInt ≤ 12 from b_me), (show zLawB fb sz.toInt 0 ft2_11.toInt from w26), (show me.toInt = me.toInt from (by first | assumption | omega | decide | exact rfl | exact zb01 (by omega) | exact Or.inl (by decide) | exact Or.inr (by first | omega | decide))), (show lz = lz ∧ ll = ll ∧ fc = fc from ⟨rfl, rfl, rfl⟩)⟩, hP.kept (fun k q hq => hk q.1 (hP k q hq).lt), hD⟩, ⟨Nat.le_trans hS.1 hz, fun q h1 h2 => (hk q (Nat.lt_of_lt_of_le h1 hS.1)).trans (hS.2.1 q h1 h2)⟩⟩) hS.2.2 (Nat.le_of_ble_eq_true rfl) (Nat.le_of_ble_eq_true rfl)
set_option maxRecDepth 100000 in
set_option maxHeartbeats 4000000 in
theorem m_lawG (l : Launch) (g : zG) (o : Nat) (a : Nat → Nat) (th : Int32) (hi : Int32) (ac : Int32) (tp : Int32) (ba : Int32) (en : Int32) (tA : Int32) (fl : Int32) (de : Int32) (iD : Int32) (iO : Int32) (tU : Int32) (fm : Nat → Int32) (fk : Nat → Int32) (fa : Nat → Int32) (fc : Nat → Int32) (ft : Nat → Int32) (ff : Nat → Int32) (fb : Nat → Int32) (fi : Nat → Int32) (rfm : rM fm) (hac : 0 ≤ ac.toInt ∧ ac.toInt ≤ 12) (htp : 0 ≤ tp.toInt ∧ tp.toInt ≤ 400) (hiD : 0 ≤ iD.toInt ∧ iD.toInt ≤ 1) (hiO : 0 ≤ iO.toInt ∧ iO.toInt ≤ 1) : zM' g l yX12_law (Cond.code yX12_law cX12_law 3 (some .int) :: zB) ({ frames := 31, cells := 0, slots := 0, locals := 688 } : Room) [.ref o] [bMo g o a th hi ac tp ba en tA fl de iD iO tU fm fk fa fc ft ff fb fi] (fun u : Int32 × Int32 × Int32 × Int32 × (Nat → Int32) × Int32 × Int32 => (fun (th2 : Int32) (at2 : Int32) (fl2 : Int32) (tU2 : Int32) (fm2 : Nat → Int32) (ac2 : Int32) (q : Int32) => some (.int q)) (u.1) (u.2.1) (u.2.2.1) (u.2.2.2.1) (u.2.2.2.2.1) (u.2.2.2.2.2.1) (u.2.2.2.2.2.2)) (fun u : Int32 × Int32 × Int32 × Int32 × (Nat → Int32) × Int32 × Int32 => (fun (th2 : Int32) (at2 : Int32) (fl2 : Int32) (tU2 : Int32) (fm2 : Nat → Int32) (ac2 : Int32) (q : Int32) => (0 ≤ ac2.toInt ∧ ac2.toInt ≤ 12) ∧ (rM fm2) ∧ (th2 = 0 ∧ zLawR ft tp.toInt 0 q.toInt ∧ (-1) = fl2 ∧ ac2.toInt = 0 ∧ zCy (upd (upd fm 1 q) 2 tp) fm2 379 ft 0 tp.toInt ∨ th2 = 1 ∧ zLawB ft tp.toInt 0 fl2.toInt ∧ ac2.toInt = ac.toInt ∧ fm = fm2)) (u.1) (u.2.1) (u.2.2.1) (u.2.2.2.1) (u.2.2.2.2.1) (u.2.2.2.2.2.1) (u.2.2.2.2.2.2)) (fun u : Int32 × Int32 × Int32 × Int32 × (Nat → Int32) × Int32 × Int32 => (fun (th2 : Int32) (at2 : Int32) (fl2 : Int32) (tU2 : Int32) (fm2 : Nat → Int32) (ac2 : Int32) (q : Int32) => [bMo g o a th2 hi ac2 0 (-1) tp at2 fl2 0 iD iO tU2 fm2 fk fa fc ft ff fb fi]) (u.1) (u.2.1) (u.2.2.1) (u.2.2.2.1) (u.2.2.2.2.1) (u.2.2.2.2.2.1) (u.2.2.2.2.2.2)) := by
  refine zM'.of (cc := cX12_law) (maxL := 3) (rt := (some .int)) (by decide) rfl (Nat.le_of_ble_eq_true rfl) ?_
  intro p e s m args below meth c A ls St hr hlocks hin hK hT hA hP hD hS hl
  obtain ⟨hx, hb, hml, hown, hts⟩ := id St
  have hl : lv_has ls 3 [(0, .ref o)] := hl
  have hrm3 := rM3 rfm
  have hrm4 := rM4 rfm
  refine lv_aload_n hx hb dX12_law_0 rfl (lv_at hl 0 rfl) ?_
  refine mcallV' (g := g) (q0 := 0) (ci := 10) (As := []) (rest := []) St hK hT hA hP hD hS hl.1 [0] [] rfl rfl rfl (m_begins l g o a th hi ac tp ba en tA fl de iD iO tU fm fk fa fc ft ff fb fi ) (cwV 0 hts (zgL (zl4 k978 k979 k980 k839) k932) rfl rfl rfl (by decide +kernel) ⟨Nat.le_of_ble_eq_true rfl, Nat.le_of_ble_eq_true rfl⟩) rfl rfl rfl rfl (Nat.le_of_ble_eq_true rfl) dX12_law_1 ⟨(Nat.le_of_ble_eq_true rfl), (Nat.le_of_ble_eq_true rfl)⟩ (fun _u H locs hq1 hP hD hS => ?_)
  have hP : va_P g.1 vwCl (List.flatten [bMo g o a th hi ac 0 (-1) tp 0 (-1) 0 iD iO tU fm fk fa fc ft ff fb fi]) H := hP
  have hD : va_D A (List.flatten [bMo g o a th hi ac 0 (-1) tp 0 (-1) 0 iD iO tU fm fk fa fc ft ff fb fi]) := hD
  refine W.widen (k := 0) (n := 0) (Nat.le_of_ble_eq_true rfl) (Nat.le_of_ble_eq_true rfl) ?_
  refine W.eq (g2 := F0 m 4 ls []) rfl ?_
  refine lv_aload_n hx hb dX12_law_4 rfl (lv_at hl 0 rfl) ?_
  refine lv_iconst (v := 1) hx hb dX12_law_5 (by decide) ?_
  have hL0 : (0 : Int32).toInt = 0 := by decide
  refine mcallV' (g := g) (q0 := 0) (ci := 10) (As := [.int 1]) (rest := []) St hK hT hA hP hD hS hl.1 [0] [] rfl rfl rfl (m_readLF l g o a th hi ac 0 tp 0 iD iO tU fm fk fa fc ft ff fb fi hiD hiO htp (by first | assumption | omega | decide | exact Or.inl (by decide) | exact Or.inr (by decide)) (by first | assumption | omega | decide | exact Or.inl (by decide) | exact Or.inr (by decide))) (cwV 1 hts (zgL (zl4 k981 k982 k983 k839) k971) rfl rfl rfl (by decide +kernel) ⟨Nat.le_of_ble_eq_true rfl, Nat.le_of_ble_eq_true rfl⟩) rfl rfl rfl rfl (Nat.le_of_ble_eq_true rfl) dX12_law_6 ⟨(Nat.le_of_ble_eq_true rfl), (Nat.le_of_ble_eq_true rfl)⟩ (fun u_ H locs hq6 hP hD hS => ?_)
  obtain ⟨at2_2, fl2_3, tU2_4, q_5⟩ := u_
  replace hq6 : (0 ≤ at2_2.toInt ∧ at2_2.toInt ≤ tp.toInt + 7 - 0) ∧ ((0 : Int32).toInt ≤ at2_2.toInt) ∧ ((-1) = fl2_3 ∧ zLawR ft tp.toInt (0 : Int32).toInt q_5.toInt ∨ 0 ≤ fl2_3.toInt ∧ zLawB ft tp.toInt (0 : Int32).toInt fl2_3.toInt) := hq6
  have hP : va_P g.1 vwCl (List.flatten [bMo g o a th hi ac 0 (-1) tp at2_2 fl2_3 0 iD iO tU2_4 fm fk fa fc ft ff fb fi]) H := hP
  have hD : va_D A (List.flatten [bMo g o a th hi ac 0 (-1) tp at2_2 fl2_3 0 iD iO tU2_4 fm fk fa fc ft ff fb fi]) := hD
  refine W.widen (k := 0) (n := 0) (Nat.le_of_ble_eq_true rfl) (Nat.le_of_ble_eq_true rfl) ?_
  refine W.eq (g2 := F0 m 9 ls [.int q_5]) rfl ?_
  obtain ⟨hq6_0, hq6_1, hq6_2⟩ := hq6
  rcases hq6_2 with ⟨rfl, hq6_k⟩ | ⟨hq6_k, hq6_km⟩
  · skip
    refine lv_istore_n (lv' := [(1, .int q_5), (0, .ref o)]) hx hb dX12_law_9 rfl hl (by decide) rfl (fun ls hl => ?_)
    refine lv_aload_n hx hb dX12_law_10 rfl (lv_at hl 1 rfl) ?_
    refine lv_aload_n hx hb dX12_law_11 rfl (lv_at hl 1 rfl) ?_
    refine va_get (D := g.1) (ci := 10) (v := .int (-1)) (C := RX12) (T := TX12) (N := 20) hx hb hts izRX12 hown hK hP 0 rfl rfl 12 (by decide) (hts _ k820) (fun _ h9 => h9) rfl dX12_law_12 ?_
    refine lv_iconst (v := (-1)) hx hb dX12_law_15 (by decide) ?_
    refine lv_icmp_eq (tgt := 23) hx hb dX12_law_16 (by decide) (fun _ => ?_) (fun c7 => absurd (by decide) c7)
    refine lv_iconst (v := 0) hx hb dX12_law_23 (by decide) ?_
    refine va_put (D := g.1) (ci := 10) (v := .int 0) (ty := .int) (C := RX12) (T := TX12) (N := 20) hx hb hts izRX12 tyX12 tyX12_ok nmX12 hown hK hP hD hS 0 rfl rfl 0 (by decide) (hts _ k825) (fun _ h9 => h9) rfl (by decide +kernel) rfl rfl (Nat.le_of_ble_eq_true rfl) dX12_law_24 (fun H locs hP hD hS => ?_)
    have hP : va_P g.1 vwCl (List.flatten [bMo g o a 0 hi ac 0 (-1) tp at2_2 (-1) 0 iD iO tU2_4 fm fk fa fc ft ff fb fi]) H := hP
    have hD : va_D A (List.flatten [bMo g o a 0 hi ac 0 (-1) tp at2_2 (-1) 0 iD iO tU2_4 fm fk fa fc ft ff fb fi]) := hD
    refine lv_aload_n hx hb dX12_law_27 rfl (lv_at hl 1 rfl) ?_
    refine va_get (D := g.1) (ci := 10) (v := .int 0) (C := RX12) (T := TX12) (N := 20) hx hb hts izRX12 hown hK hP 0 rfl rfl 0 (by decide) (hts _ k825) (fun _ h9 => h9) rfl dX12_law_28 ?_
    refine lv_if_le (tgt := 36) hx hb dX12_law_31 (by decide) (fun _ => ?_) (fun c8 => absurd (by decide) c8)
    refine lv_aload_n hx hb dX12_law_36 rfl (lv_at hl 1 rfl) ?_
    refine va_get (D := g.1) (ci := 10) (v := .ref (a 0)) (C := RX12) (T := TX12) (N := 20) hx hb hts izRX12 hown hK hP 0 rfl rfl 1 (by decide) (hts _ k815) (fun _ h9 => h9) rfl dX12_law_37 ?_
    refine lv_iconst (v := 1) hx hb dX12_law_40 (by decide) ?_
    refine lv_iload_n hx hb dX12_law_41 rfl (lv_at hl 0 rfl) ?_
    refine va_iast hx hb hK hP hD hS 1 0 rfl rfl (zin rfl) dX12_law_42 (fun H locs hP hD hS => ?_)
    obtain ⟨fm_9, rfm_9, efm_9, hP, hD⟩ : ∃ fm_9 : Nat → Int32, rM fm_9 ∧ fm_9 = upd fm 1 q_5 ∧ va_P g.1 vwCl (List.flatten [bMo g o a 0 hi ac 0 (-1) tp at2_2 (-1) 0 iD iO tU2_4 fm_9 fk fa fc ft ff fb fi]) H ∧ va_D A (List.flatten [bMo g o a 0 hi ac 0 (-1) tp at2_2 (-1) 0 iD iO tU2_4 fm_9 fk fa fc ft ff fb fi]) := ⟨upd fm 1 q_5, (rM_stL rfm (by decide)), rfl, hP, hD⟩
    refine lv_aload_n hx hb dX12_law_43 rfl (lv_at hl 1 rfl) ?_
    refine va_get (D := g.1) (ci := 10) (v := .ref (a 0)) (C := RX12) (T := TX12) (N := 20) hx hb hts izRX12 hown hK hP 0 rfl rfl 1 (by decide) (hts _ k815) (fun _ h9 => h9) rfl dX12_law_44 ?_
    refine lv_iconst (v := 2) hx hb dX12_law_47 (by decide) ?_
    refine lv_aload_n hx hb dX12_law_48 rfl (lv_at hl 1 rfl) ?_
    refine va_get (D := g.1) (ci := 10) (v := .int tp) (C := RX12) (T := TX12) (N := 20) hx hb hts izRX12 hown hK hP 0 rfl rfl 10 (by decide) (hts _ k879) (fun _ h9 => h9) rfl dX12_law_49 ?_
    refine va_iast hx hb hK hP hD hS 1 0 rfl rfl (zin rfl) dX12_law_52 (fun H locs hP hD hS => ?_)
    obtain ⟨fm_10, rfm_10, efm_10, hP, hD⟩ : ∃ fm_10 : Nat → Int32, rM fm_10 ∧ fm_10 = upd fm_9 2 tp ∧ va_P g.1 vwCl (List.flatten [bMo g o a 0 hi ac 0 (-1) tp at2_2 (-1) 0 iD iO tU2_4 fm_10 fk fa fc ft ff fb fi]) H ∧ va_D A (List.flatten [bMo g o a 0 hi ac 0 (-1) tp at2_2 (-1) 0 iD iO tU2_4 fm_10 fk fa fc ft ff fb fi]) := ⟨upd fm_9 2 tp, (rM_s2 rfm_9 (show 0 ≤ tp.toInt ∧ tp.toInt ≤ 400 from ⟨htp.1, htp.2⟩)), rfl, hP, hD⟩
    refine lv_iconst (v := 0) hx hb dX12_law_53 (by decide) ?_
    refine lv_istore_n (lv' := [(2, .int 0), (1, .int q_5), (0, .ref o)]) hx hb dX12_law_54 rfl hl (by decide) rfl (fun ls hl => ?_)
    have hl := lv_sub (l' := [(0, .ref o), (1, .int q_5), (2, .int 0)]) hl [2, 1, 0] rfl
    have LP55_16 : ∀ (kf : Nat) (x_11 : Int32) (fm_12 : Nat → Int32), (0 ≤ x_11.toInt ∧ x_11.toInt ≤ 400) → (rM fm_12) → (zCy (upd (upd fm 1 q_5) 2 tp) fm_12 379 ft 0 x_11.toInt) → (x_11.toInt ≤ tp.toInt) → ∀ (H : Heap) (locs : List Loc) (ls : Array Slot), ((401 - x_11.toInt).toNat) < kf → va_P g.1 vwCl (List.flatten [bMo g o a 0 hi ac 0 (-1) tp at2_2 (-1) 0 iD iO tU2_4 fm_12 fk fa fc ft ff fb fi]) H → va_D A (List.flatten [bMo g o a 0 hi ac 0 (-1) tp at2_2 (-1) 0 iD iO tU2_4 fm_12 fk fa fc ft ff fb fi]) → va_S A s.heap H locs → lv_has ls 3 [(0, .ref o), (1, .int q_5), (2, .int x_11)] → W p l e ({ frames := 31, cells := 0, slots := 0, locals := 688 } : Room) s m args below meth c H locs (0) (0) (zF g (fun u : Int32 × Int32 × Int32 × Int32 × (Nat → Int32) × Int32 × Int32 => (fun (th2 : Int32) (at2 : Int32) (fl2 : Int32) (tU2 : Int32) (fm2 : Nat → Int32) (ac2 : Int32) (q : Int32) => some (.int q)) (u.1) (u.2.1) (u.2.2.1) (u.2.2.2.1) (u.2.2.2.2.1) (u.2.2.2.2.2.1) (u.2.2.2.2.2.2)) (fun u : Int32 × Int32 × Int32 × Int32 × (Nat → Int32) × Int32 × Int32 => (fun (th2 : Int32) (at2 : Int32) (fl2 : Int32) (tU2 : Int32) (fm2 : Nat → Int32) (ac2 : Int32) (q : Int32) => (0 ≤ ac2.toInt ∧ ac2.toInt ≤ 12) ∧ (rM fm2) ∧ (th2 = 0 ∧ zLawR ft tp.toInt 0 q.toInt ∧ (-1) = fl2 ∧ ac2.toInt = 0 ∧ zCy (upd (upd fm 1 q) 2 tp) fm2 379 ft 0 tp.toInt ∨ th2 = 1 ∧ zLawB ft tp.toInt 0 fl2.toInt ∧ ac2.toInt = ac.toInt ∧ fm = fm2)) (u.1) (u.2.1) (u.2.2.1) (u.2.2.2.1) (u.2.2.2.2.1) (u.2.2.2.2.2.1) (u.2.2.2.2.2.2)) (fun u : Int32 × Int32 × Int32 × Int32 × (Nat → Int32) × Int32 × Int32 => (fun (th2 : Int32) (at2 : Int32) (fl2 : Int32) (tU2 : Int32) (fm2 : Nat → Int32) (ac2 : Int32) (q : Int32) => [bMo g o a th2 hi ac2 0 (-1) tp at2 fl2 0 iD iO tU2 fm2 fk fa fc ft ff fb fi]) (u.1) (u.2.1) (u.2.2.1) (u.2.2.2.1) (u.2.2.2.2.1) (u.2.2.2.2.2.1) (u.2.2.2.2.2.2)) ({ frames := 31, cells := 0, slots := 0, locals := 688 } : Room) below args s A) (F0 m 55 ls []) := by
      intro kf
      induction kf with
      | zero => intro x_11 fm_12 i13 rfm_12 i14 i15 H locs ls hk; exact absurd hk (Nat.not_lt_zero _)
      | succ kf ih55_17 =>
        intro x_11 fm_12 i13 rfm_12 i14 i15 H locs ls hk55_17 hP hD hS hl
        refine lv_iload_n hx hb dX12_law_55 rfl (lv_at hl 2 rfl) ?_
        refine lv_aload_n hx hb dX12_law_56 rfl (lv_at hl 0 rfl) ?_
        refine va_get (D := g.1) (ci := 10) (v := .int tp) (C := RX12) (T := TX12) (N := 20) hx hb hts izRX12 hown hK hP 0 rfl rfl 10 (by decide) (hts _ k879) (fun _ h9 => h9) rfl dX12_law_57 ?_
        refine lv_icmp_ge (tgt := 85) hx hb dX12_law_60 (by decide) (fun cb9 => ?_) (fun cb9 => ?_)
        · skip
          have c18 : tp.toInt ≤ x_11.toInt := zle cb9 rfl rfl
          refine lv_aload_n hx hb dX12_law_85 rfl (lv_at hl 0 rfl) ?_
          refine lv_iconst (v := 0) hx hb dX12_law_86 (by decide) ?_
          refine va_put (D := g.1) (ci := 10) (v := .int 0) (ty := .int) (C := RX12) (T := TX12) (N := 20) hx hb hts izRX12 tyX12 tyX12_ok nmX12 hown hK hP hD hS 0 rfl rfl 6 (by decide) (hts _ k974) (fun _ h9 => h9) rfl (by decide +kernel) rfl rfl (Nat.le_of_ble_eq_true rfl) dX12_law_87 (fun H locs hP hD hS => ?_)
          have hP : va_P g.1 vwCl (List.flatten [bMo g o a 0 hi 0 0 (-1) tp at2_2 (-1) 0 iD iO tU2_4 fm_12 fk fa fc ft ff fb fi]) H := hP
          have hD : va_D A (List.flatten [bMo g o a 0 hi 0 0 (-1) tp at2_2 (-1) 0 iD iO tU2_4 fm_12 fk fa fc ft ff fb fi]) := hD
          refine lv_iload_n hx hb dX12_law_90 rfl (lv_at hl 1 rfl) ?_
          have hP : va_P g.1 vwCl (List.flatten [bMo g o a 0 hi 0 0 (-1) tp at2_2 (-1) 0 iD iO tU2_4 fm_12 fk fa fc ft ff fb fi]) H := hP
          have hD : va_D A (List.flatten [bMo g o a 0 hi 0 0 (-1) tp at2_2 (-1) 0 iD iO tU2_4 fm_12 fk fa fc ft ff fb fi]) := hD
          exact mret_i hx hb hr hlocks hS (Nat.le_of_ble_eq_true rfl) (Nat.le_of_ble_eq_true rfl) dX12_law_91 ((0 : Int32), at2_2, -1, tU2_4, fm_12, (0 : Int32), q_5) rfl (show (0 ≤ (0 : Int32).toInt ∧ (0 : Int32).toInt ≤ 12) ∧ (rM fm_12) ∧ (0 = 0 ∧ zLawR ft tp.toInt 0 q_5.toInt ∧ (-1) = (-1) ∧ (0 : Int32).toInt = 0 ∧ zCy (upd (upd fm 1 q_5) 2 tp) fm_12 379 ft 0 tp.toInt ∨ 0 = 1 ∧ zLawB ft tp.toInt 0 ((-1) : Int32).toInt ∧ (0 : Int32).toInt = ac.toInt ∧ fm = fm_12) from ⟨(by first | assumption | omega | decide), (by first | assumption | omega | decide), (Or.inl ⟨rfl, (zLawR_c rfl (by decide) hq6_k), rfl, (by decide), (zCy_e i14 (by omega))⟩)⟩) hP hD
        · skip
          have c19 : x_11.toInt < tp.toInt := zlti (Int32.not_le.mp cb9) rfl rfl
          have n20 : x_11.toInt ≤ 399 := zL1 (b := 400) c19 htp.2 (by decide)
          have n21 : 1 ≤ tp.toInt := zL2 (a := 0) c19 i13.1 (by decide)
          refine lv_aload_n hx hb dX12_law_63 rfl (lv_at hl 0 rfl) ?_
          refine va_get (D := g.1) (ci := 10) (v := .ref (a 0)) (C := RX12) (T := TX12) (N := 20) hx hb hts izRX12 hown hK hP 0 rfl rfl 1 (by decide) (hts _ k815) (fun _ h9 => h9) rfl dX12_law_64 ?_
          refine lv_sipush (v := 379) hx hb dX12_law_67 (by decide) ?_
          refine lv_iload_n hx hb dX12_law_70 rfl (lv_at hl 2 rfl) ?_
          refine lv_iadd hx hb dX12_law_71 ?_
          refine zg3 (zaddK (i := 379) (j := x_11.toInt) (a' := 379) (b' := 778) (by decide) rfl (Int.le_refl _) (Int.le_refl _) i13.1 n20 (by decide)) (fun x_22 hx_22 => ?_)
          refine lv_aload_n hx hb dX12_law_72 rfl (lv_at hl 0 rfl) ?_
          refine va_get (D := g.1) (ci := 10) (v := .ref (a 4)) (C := RX12) (T := TX12) (N := 20) hx hb hts izRX12 hown hK hP 0 rfl rfl 7 (by decide) (hts _ k819) (fun _ h9 => h9) rfl dX12_law_73 ?_
          refine lv_iload_n hx hb dX12_law_76 rfl (lv_at hl 2 rfl) ?_
          refine va_iald hx hb hK hP 5 0 rfl rfl (zinK (a := 0) (b := 399) i13.1 n20 (by decide)) dX12_law_77 ?_
          refine ztop (r := (ft x_11.toInt.toNat)) rfl ?_
          refine va_iast hx hb hK hP hD hS 1 0 rfl rfl (zinK (a := 379) (b := 778) hx_22.2.1 hx_22.2.2 (by decide)) dX12_law_78 (fun H locs hP hD hS => ?_)
          obtain ⟨fm_23, rfm_23, efm_23, hP, hD⟩ : ∃ fm_23 : Nat → Int32, rM fm_23 ∧ fm_23 = upd fm_12 x_22.toInt.toNat (ft x_11.toInt.toNat) ∧ va_P g.1 vwCl (List.flatten [bMo g o a 0 hi ac 0 (-1) tp at2_2 (-1) 0 iD iO tU2_4 fm_23 fk fa fc ft ff fb fi]) H ∧ va_D A (List.flatten [bMo g o a 0 hi ac 0 (-1) tp at2_2 (-1) 0 iD iO tU2_4 fm_23 fk fa fc ft ff fb fi]) := ⟨upd fm_12 x_22.toNatClampNeg (ft x_11.toInt.toNat), (rM_stB rfm_12 (Int.le_trans (by decide) hx_22.2.1)), rfl, hP, hD⟩
          refine ziinc3 (n' := 1) (a' := 1) (b' := 400) (lv' := fun v9 => [(2, .int v9), (0, .ref o), (1, .int q_5)]) hx hb dX12_law_79 hl (k := 2) rfl (by decide) (fun _ => rfl) (zaddK (i := x_11.toInt) (j := 1) rfl (by decide) i13.1 n20 (Int.le_refl _) (Int.le_refl _) (by decide)) (fun x_24 ls hx_24 hl => ?_)
          refine lv_goto (tgt := 55) hx hb dX12_law_82 (by decide) ?_
          have hl := lv_sub (l' := [(0, .ref o), (1, .int q_5), (2, .int x_24)]) hl [1, 2, 0] rfl
          have hP : va_P g.1 vwCl (List.flatten [bMo g o a 0 hi ac 0 (-1) tp at2_2 (-1) 0 iD iO tU2_4 fm_23 fk fa fc ft ff fb fi]) H := hP
          have hD : va_D A (List.flatten [bMo g o a 0 hi ac 0 (-1) tp at2_2 (-1) 0 iD iO tU2_4 fm_23 fk fa fc ft ff fb fi]) := hD
          exact ih55_17 x_24 fm_23 ⟨(Int.le_trans (by decide) hx_24.2.1), hx_24.2.2⟩ rfm_23 (zCy_n i14 efm_23 (by omega) (congrArg ft (by omega)) (by omega)) (by first | omega | assumption | decide) H _ ls (zmK hx_24.1 (by decide) n20 (by decide) hk55_17)  hP hD hS (lv_sub hl [0, 1, 2] rfl)
    have hP : va_P g.1 vwCl (List.flatten [bMo g o a 0 hi ac 0 (-1) tp at2_2 (-1) 0 iD iO tU2_4 fm_10 fk fa fc ft ff fb fi]) H := hP
    have hD : va_D A (List.flatten [bMo g o a 0 hi ac 0 (-1) tp at2_2 (-1) 0 iD iO tU2_4 fm_10 fk fa fc ft ff fb fi]) := hD
    exact LP55_16 _ 0 fm_10 (by decide) rfm_10 (zCy_z (by rw [efm_10, efm_9]) (by decide)) (by rw [show (0 : Int32).toInt = 0 by decide]; omega) H _ ls (Nat.lt_succ_self _)  hP hD hS (lv_sub hl [0, 1, 2] rfl)
  · skip
    refine lv_istore_n (lv' := [(1, .int q_5), (0, .ref o)]) hx hb dX12_law_9 rfl hl (by decide) rfl (fun ls hl => ?_)
    refine lv_aload_n hx hb dX12_law_10 rfl (lv_at hl 1 rfl) ?_
    refine lv_aload_n hx hb dX12_law_11 rfl (lv_at hl 1 rfl) ?_
    refine va_get (D := g.1) (ci := 10) (v := .int fl2_3) (C := RX12) (T := TX12) (N := 20) hx hb hts izRX12 hown hK hP 0 rfl rfl 12 (by decide) (hts _ k820) (fun _ h9 => h9) rfl dX12_law_12 ?_
    refine lv_iconst (v := (-1)) hx hb dX12_law_15 (by decide) ?_
    refine lv_icmp_eq (tgt := 23) hx hb dX12_law_16 (by decide) (fun cb9 => ?_) (fun cb9 => ?_)
    · skip
      exact absurd (show fl2_3.toInt = (-1) from zeq cb9 rfl (by decide)) (zDeq2 (a := 0) (b := (-1)) hq6_k (Int.le_refl _) (by decide))
    · skip
      have c26 : ¬ fl2_3.toInt = (-1) := zne cb9 rfl (by decide)
      refine lv_iconst (v := 1) hx hb dX12_law_19 (by decide) ?_
      refine lv_goto (tgt := 24) hx hb dX12_law_20 (by decide) ?_
      refine va_put (D := g.1) (ci := 10) (v := .int 1) (ty := .int) (C := RX12) (T := TX12) (N := 20) hx hb hts izRX12 tyX12 tyX12_ok nmX12 hown hK hP hD hS 0 rfl rfl 0 (by decide) (hts _ k825) (fun _ h9 => h9) rfl (by decide +kernel) rfl rfl (Nat.le_of_ble_eq_true rfl) dX12_law_24 (fun H locs hP hD hS => ?_)
      have hP : va_P g.1 vwCl (List.flatten [bMo g o a 1 hi ac 0 (-1) tp at2_2 fl2_3 0 iD iO tU2_4 fm fk fa fc ft ff fb fi]) H := hP
      have hD : va_D A (List.flatten [bMo g o a 1 hi ac 0 (-1) tp at2_2 fl2_3 0 iD iO tU2_4 fm fk fa fc ft ff fb fi]) := hD
      refine lv_aload_n hx hb dX12_law_27 rfl (lv_at hl 1 rfl) ?_
      refine va_get (D := g.1) (ci := 10) (v := .int 1) (C := RX12) (T := TX12) (N := 20) hx hb hts izRX12 hown hK hP 0 rfl rfl 0 (by decide) (hts _ k825) (fun _ h9 => h9) rfl dX12_law_28 ?_
      refine lv_if_le (tgt := 36) hx hb dX12_law_31 (by decide) (fun c27 => absurd c27 (by decide)) (fun _ => ?_)
      refine lv_iconst (v := 0) hx hb dX12_law_34 (by decide) ?_
      have hP : va_P g.1 vwCl (List.flatten [bMo g o a 1 hi ac 0 (-1) tp at2_2 fl2_3 0 iD iO tU2_4 fm fk fa fc ft ff fb fi]) H := hP
      have hD : va_D A (List.flatten [bMo g o a 1 hi ac 0 (-1) tp at2_2 fl2_3 0 iD iO tU2_4 fm fk fa fc ft ff fb fi]) := hD
      exact mret_i hx hb hr hlocks hS (Nat.le_of_ble_eq_true rfl) (Nat.le_of_ble_eq_true rfl) dX12_law_35 ((1 : Int32), at2_2, fl2_3, tU2_4, fm, ac, (0 : Int32)) rfl (show (0 ≤ ac.toInt ∧ ac.toInt ≤ 12) ∧ (rM fm) ∧ (1 = 0 ∧ zLawR ft tp.toInt 0 (0 : Int32).toInt ∧ (-1) = fl2_3 ∧ ac.toInt = 0 ∧ zCy (upd (upd fm 1 0) 2 tp) fm 379 ft 0 tp.toInt ∨ 1 = 1 ∧ zLawB ft tp.toInt 0 fl2_3.toInt ∧ ac.toInt = ac.toInt ∧ fm = fm) from ⟨(by first | assumption | omega | decide), (by first | assumption | omega | decide), (Or.inr ⟨rfl, (zLawB_c rfl (by decide) hq6_km), rfl, rfl⟩)⟩) hP hD
