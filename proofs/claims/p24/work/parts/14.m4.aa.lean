/-! the model's rows of acts -/
theorem rC_p {lo hi : Int} {f : Nat → Int32} {i k q : Nat} {v : Int32} (h : lo ≤ (f q).toInt ∧ (f q).toInt ≤ hi) (hv : q = i → lo ≤ v.toInt ∧ v.toInt ≤ hi) : lo ≤ (upd f i v q).toInt ∧ (upd f i v q).toInt ≤ hi := by
  unfold upd
  by_cases e : q = i
  · rw [if_pos e]; exact hv e
  · rw [if_neg e]; exact h
theorem rC_up {f : Nat → Int32} {i : Nat} {v : Int32} (h : rC f) (hc : ∀ j k : Nat, j < 12 → i = 379 * j + k → (k = 2 → 0 ≤ v.toInt ∧ v.toInt ≤ 400) ∧ (k = 3 → 0 ≤ v.toInt ∧ v.toInt ≤ 8) ∧ (k = 4 → 0 ≤ v.toInt ∧ v.toInt ≤ 6) ∧ (k = 9 → 0 ≤ v.toInt ∧ v.toInt ≤ 60)) : rC (upd f i v) := by
  intro j hj
  obtain ⟨h1, h2, h3, h4⟩ := h j hj
  exact ⟨rC_p (k := 2) h1 (fun e => (hc j 2 hj e.symm).1 rfl), rC_p (k := 3) h2 (fun e => (hc j 3 hj e.symm).2.1 rfl), rC_p (k := 4) h3 (fun e => (hc j 4 hj e.symm).2.2.1 rfl), rC_p (k := 9) h4 (fun e => (hc j 9 hj e.symm).2.2.2 rfl)⟩
theorem rM_at {f : Nat → Int32} (h : rM f) (k : Nat) : (k = 2 → 0 ≤ (f k).toInt ∧ (f k).toInt ≤ 400) ∧ (k = 3 → 0 ≤ (f k).toInt ∧ (f k).toInt ≤ 8) ∧ (k = 4 → 0 ≤ (f k).toInt ∧ (f k).toInt ≤ 6) ∧ (k = 9 → 0 ≤ (f k).toInt ∧ (f k).toInt ≤ 60) :=
  ⟨fun e => e ▸ h.1, fun e => e ▸ h.2.1, fun e => e ▸ h.2.2.1, fun e => e ▸ h.2.2.2⟩
theorem rC_sh {f : Nat → Int32} {i x2 : Int32} (h : rC f) (hx : x2.toInt = i.toInt + 379) (h0 : 0 ≤ i.toInt) (h1 : i.toInt < 4169) : rC (upd f i.toNatClampNeg (f x2.toNatClampNeg)) := by
  refine rC_up h (fun j k hj e => ?_)
  rw [zcl] at e ⊢
  have e2 : x2.toInt.toNat = 379 * (j + 1) + k := by omega
  rw [e2]
  by_cases hj2 : j + 1 < 12
  · exact rM_at (h (j + 1) hj2) k
  · refine ⟨fun q => ?_, fun q => ?_, fun q => ?_, fun q => ?_⟩ <;> (exfalso; omega)
theorem rC_st {f g : Nat → Int32} {i k a : Int32} (h : rC f) (hm : rM g) (hi : i.toInt = 379 * a.toInt + k.toInt) (ha : 0 ≤ a.toInt ∧ a.toInt < 12) (hk : 0 ≤ k.toInt ∧ k.toInt < 379) : rC (upd f i.toNatClampNeg (g k.toNatClampNeg)) := by
  refine rC_up h (fun j q hj e => ?_)
  rw [zcl] at e
  have hq : ∀ z : Nat, z < 379 → q = z → k.toNatClampNeg = z := by
    intro z hz hqz; rw [zcl]; omega
  refine ⟨fun e2 => ?_, fun e2 => ?_, fun e2 => ?_, fun e2 => ?_⟩
  · rw [hq 2 (by omega) e2]; exact hm.1
  · rw [hq 3 (by omega) e2]; exact hm.2.1
  · rw [hq 4 (by omega) e2]; exact hm.2.2.1
  · rw [hq 9 (by omega) e2]; exact hm.2.2.2
theorem rM_cq {f g : Nat → Int32} {i k a : Int32} (hm : rM f) (h : rC g) (hi : i.toInt = 379 * a.toInt + k.toInt) (ha : 0 ≤ a.toInt ∧ a.toInt < 12) (hk : 0 ≤ k.toInt ∧ k.toInt < 379) : rM (upd f k.toNatClampNeg (g i.toNatClampNeg)) := by
  have e : i.toNatClampNeg = 379 * a.toInt.toNat + k.toNatClampNeg := by rw [zcl, zcl]; omega
  rw [e]
  exact rM_up hm (rM_at (h a.toInt.toNat (by omega)) k.toNatClampNeg)

/-! rows copied, exactly -/
def zCy (A0 A : Nat → Int32) (o : Nat) (B : Nat → Int32) (p : Nat) (k : Int) : Prop := 0 ≤ k ∧ (∀ i : Nat, (i : Int) < k → A (o + i) = B (p + i)) ∧ ∀ i : Nat, (i < o ∨ (o : Int) + k ≤ i) → A i = A0 i
theorem zCy_0 {A : Nat → Int32} {o : Nat} {B : Nat → Int32} {p : Nat} {k : Int} (e : k = 0) : zCy A A o B p k := ⟨by omega, fun i h => absurd h (by omega), fun _ _ => rfl⟩
theorem zCy_e {A0 A : Nat → Int32} {o : Nat} {B : Nat → Int32} {p : Nat} {k k' : Int} (h : zCy A0 A o B p k) (e : k' = k) : zCy A0 A o B p k' := by subst e; exact h
theorem zCy_s {A0 A : Nat → Int32} {o : Nat} {B : Nat → Int32} {p : Nat} {k k' : Int} {x v : Int32} (h : zCy A0 A o B p k) (hx : x.toInt = (o : Int) + k) (hv : v = B (p + k.toNat)) (e : k' = k + 1) : zCy A0 (upd A x.toNatClampNeg v) o B p k' := by
  have ex : x.toNatClampNeg = o + k.toNat := by rw [zcl]; have := h.1; omega
  rw [ex]
  refine ⟨by have := h.1; omega, fun i hi => ?_, fun i hi => ?_⟩
  · show upd A (o + k.toNat) v (o + i) = B (p + i)
    unfold upd
    by_cases q : i = k.toNat
    · rw [if_pos (by omega), q]; exact hv
    · rw [if_neg (by omega)]; exact h.2.1 i (by have := h.1; omega)
  · show upd A (o + k.toNat) v i = A0 i
    unfold upd
    have := h.1
    rw [if_neg (by omega)]; exact h.2.2 i (by omega)
theorem zCy_at {A0 A : Nat → Int32} {B : Nat → Int32} {k : Int} (h : zCy A0 A 0 B 0 k) (i : Nat) (hi : (i : Int) < k) : A i = B i := by
  have := h.2.1 i hi
  rw [Nat.zero_add] at this; exact this
/-- the elder ones go one down -/
def zSh (f0 f : Nat → Int32) (k : Int) : Prop := 0 ≤ k ∧ (∀ i : Nat, (i : Int) < k → f i = f0 (i + 379)) ∧ ∀ i : Nat, k ≤ (i : Int) → f i = f0 i
theorem zSh_0 {f : Nat → Int32} {k : Int} (e : k = 0) : zSh f f k := ⟨by omega, fun i h => absurd h (by omega), fun _ _ => rfl⟩
theorem zSh_e {f0 f : Nat → Int32} {k k' : Int} (h : zSh f0 f k) (e : k' = k) : zSh f0 f k' := by subst e; exact h
theorem zSh_s {f0 f : Nat → Int32} {k k' : Int} {x y v : Int32} (h : zSh f0 f k) (hx : x.toInt = k) (hy : y.toInt = k + 379) (hv : v = f y.toNatClampNeg) (e : k' = k + 1) : zSh f0 (upd f x.toNatClampNeg v) k' := by
  have h0 := h.1
  have ex : x.toNatClampNeg = k.toNat := by rw [zcl, hx]
  have ey : y.toNatClampNeg = k.toNat + 379 := by rw [zcl]; omega
  rw [ex]
  refine ⟨by omega, fun i hi => ?_, fun i hi => ?_⟩
  · show upd f k.toNat v i = f0 (i + 379)
    unfold upd
    by_cases q : i = k.toNat
    · rw [if_pos q, hv, ey, q]; exact h.2.2 _ (by omega)
    · rw [if_neg q]; exact h.2.1 i (by omega)
  · show upd f k.toNat v i = f0 i
    unfold upd
    rw [if_neg (by omega)]; exact h.2.2 i (by omega)
/-- what is remembered, behind it: a was how many, fc how they were -/
def zRem (fc fc2 : Nat → Int32) (a a2 : Int) (fm : Nat → Int32) : Prop := (a < 12 ∧ a2 = a + 1 ∧ zCy fc fc2 (379 * a.toNat) fm 0 379) ∨ (a = 12 ∧ a2 = 12 ∧ ∃ f9, zSh fc f9 4169 ∧ zCy f9 fc2 4169 fm 0 379)
theorem zCy_o {A0 A : Nat → Int32} {o o' : Nat} {B : Nat → Int32} {p : Nat} {k : Int} (e : o = o') (h : zCy A0 A o B p k) : zCy A0 A o' B p k := by subst e; exact h
set_option maxRecDepth 100000 in
set_option maxHeartbeats 4000000 in
theorem m_putsAside (l : Launch) (g : zG) (o : Nat) (a : Nat → Nat) (th : Int32) (hi : Int32) (ac : Int32) (tp : Int32) (ba : Int32) (en : Int32) (tA : Int32) (fl : Int32) (de : Int32) (iD : Int32) (iO : Int32) (tU : Int32) (fm : Nat → Int32) (fk : Nat → Int32) (fa : Nat → Int32) (fc : Nat → Int32) (ft : Nat → Int32) (ff : Nat → Int32) (fb : Nat → Int32) (fi : Nat → Int32) (rfm : rM fm) (rfa : rM fa) : zM' g l yX12_putsAside (Cond.code yX12_putsAside cX12_putsAside 2 none :: zB) ({ frames := 0, cells := 0, slots := 0, locals := 0 } : Room) [.ref o] [bMo g o a th hi ac tp ba en tA fl de iD iO tU fm fk fa fc ft ff fb fi] (fun (fa2 : Nat → Int32) => none) (fun (fa2 : Nat → Int32) => (rM fa2) ∧ (zCy fa fa2 0 fm 0 379) ∧ ((fa2 0).toInt = (fm 0).toInt ∧ (fa2 3).toInt = (fm 3).toInt ∧ (fa2 4).toInt = (fm 4).toInt)) (fun (fa2 : Nat → Int32) => [bMo g o a th hi ac tp ba en tA fl de iD iO tU fm fk fa2 fc ft ff fb fi]) := by
  refine zM'.of (cc := cX12_putsAside) (maxL := 2) (rt := none) (by decide) rfl (Nat.le_of_ble_eq_true rfl) ?_
  intro p e s m args below meth c A ls St hr hlocks hin hK hT hA hP hD hS hl
  obtain ⟨hx, hb, hml, hown, hts⟩ := id St
  have hl : lv_has ls 2 [(0, .ref o)] := hl
  refine lv_iconst (v := 0) hx hb dX12_putsAside_0 (by decide) ?_
  refine lv_istore_n (lv' := [(1, .int 0), (0, .ref o)]) hx hb dX12_putsAside_1 rfl hl (by decide) rfl (fun ls hl => ?_)
  have hl := lv_sub (l' := [(0, .ref o), (1, .int 0)]) hl [1, 0] rfl
  have LP2_5 : ∀ (kf : Nat) (x_1 : Int32) (fa_2 : Nat → Int32), (0 ≤ x_1.toInt ∧ x_1.toInt ≤ 379) → (rM fa_2) → (zCy fa fa_2 0 fm 0 x_1.toInt) → ∀ (H : Heap) (locs : List Loc) (ls : Array Slot), ((380 - x_1.toInt).toNat) < kf → va_P g.1 vwCl (List.flatten [bMo g o a th hi ac tp ba en tA fl de iD iO tU fm fk fa_2 fc ft ff fb fi]) H → va_D A (List.flatten [bMo g o a th hi ac tp ba en tA fl de iD iO tU fm fk fa_2 fc ft ff fb fi]) → va_S A s.heap H locs → lv_has ls 2 [(0, .ref o), (1, .int x_1)] → W p l e ({ frames := 0, cells := 0, slots := 0, locals := 0 } : Room) s m args below meth c H locs (0) (0) (zF g (fun (fa2 : Nat → Int32) => none) (fun (fa2 : Nat → Int32) => (rM fa2) ∧ (zCy fa fa2 0 fm 0 379) ∧ ((fa2 0).toInt = (fm 0).toInt ∧ (fa2 3).toInt = (fm 3).toInt ∧ (fa2 4).toInt = (fm 4).toInt)) (fun (fa2 : Nat → Int32) => [bMo g o a th hi ac tp ba en tA fl de iD iO tU fm fk fa2 fc ft ff fb fi]) ({ frames := 0, cells := 0, slots := 0, locals := 0 } : Room) below args s A) (F0 m 2 ls []) := by
    intro kf
    induction kf with
    | zero => intro x_1 fa_2 i3 rfa_2 i4 H locs ls hk; exact absurd hk (Nat.not_lt_zero _)
    | succ kf ih2_6 =>
      intro x_1 fa_2 i3 rfa_2 i4 H locs ls hk2_6 hP hD hS hl
      refine lv_iload_n hx hb dX12_putsAside_2 rfl (lv_at hl 1 rfl) ?_
      refine lv_sipush (v := 379) hx hb dX12_putsAside_3 (by decide) ?_
      refine lv_icmp_ge (tgt := 27) hx hb dX12_putsAside_6 (by decide) (fun cb9 => ?_) (fun cb9 => ?_)
      · skip
        have c7 : 379 ≤ x_1.toInt := zle cb9 (by decide) rfl
        have n8 : 379 ≤ x_1.toInt := Int.le_trans (Int.le_refl _) c7
        have hP : va_P g.1 vwCl (List.flatten [bMo g o a th hi ac tp ba en tA fl de iD iO tU fm fk fa_2 fc ft ff fb fi]) H := hP
        have hD : va_D A (List.flatten [bMo g o a th hi ac tp ba en tA fl de iD iO tU fm fk fa_2 fc ft ff fb fi]) := hD
        exact mret_v hx hb hr hlocks hS (Nat.le_of_ble_eq_true rfl) (Nat.le_of_ble_eq_true rfl) dX12_putsAside_27 (fa_2) rfl (show (rM fa_2) ∧ (zCy fa fa_2 0 fm 0 379) ∧ ((fa_2 0).toInt = (fm 0).toInt ∧ (fa_2 3).toInt = (fm 3).toInt ∧ (fa_2 4).toInt = (fm 4).toInt) from ⟨(by assumption), (zCy_e i4 (by omega)), ⟨(congrArg Int32.toInt (zCy_at (show zCy _ _ _ _ _ 379 from (zCy_e i4 (by omega))) 0 (by decide))), (congrArg Int32.toInt (zCy_at (show zCy _ _ _ _ _ 379 from (zCy_e i4 (by omega))) 3 (by decide))), (congrArg Int32.toInt (zCy_at (show zCy _ _ _ _ _ 379 from (zCy_e i4 (by omega))) 4 (by decide)))⟩⟩) hP hD
      · skip
        have c9 : x_1.toInt < 379 := zlti (Int32.not_le.mp cb9) rfl (by decide)
        have n10 : x_1.toInt ≤ 378 := zL1 (b := 379) c9 (Int.le_refl _) (by decide)
        refine lv_aload_n hx hb dX12_putsAside_9 rfl (lv_at hl 0 rfl) ?_
        refine va_get (D := g.1) (ci := 10) (v := .ref (a 2)) (C := RX12) (T := TX12) (N := 20) hx hb hts izRX12 hown hK hP 0 rfl rfl 4 (by decide) (hts _ k817) (fun _ h9 => h9) rfl dX12_putsAside_10 ?_
        refine lv_iload_n hx hb dX12_putsAside_13 rfl (lv_at hl 1 rfl) ?_
        refine lv_aload_n hx hb dX12_putsAside_14 rfl (lv_at hl 0 rfl) ?_
        refine va_get (D := g.1) (ci := 10) (v := .ref (a 0)) (C := RX12) (T := TX12) (N := 20) hx hb hts izRX12 hown hK hP 0 rfl rfl 1 (by decide) (hts _ k815) (fun _ h9 => h9) rfl dX12_putsAside_15 ?_
        refine lv_iload_n hx hb dX12_putsAside_18 rfl (lv_at hl 1 rfl) ?_
        refine va_iald hx hb hK hP 1 0 rfl rfl (zinK (a := 0) (b := 378) i3.1 n10 (by decide)) dX12_putsAside_19 ?_
        refine va_iast hx hb hK hP hD hS 3 0 rfl rfl (zinK (a := 0) (b := 378) i3.1 n10 (by decide)) dX12_putsAside_20 (fun H locs hP hD hS => ?_)
        obtain ⟨fa_11, ⟨rfa_11, hcfa_11⟩, hP, hD⟩ : ∃ fa_11 : Nat → Int32, (rM fa_11 ∧ zCy fa fa_11 0 fm 0 (x_1.toInt + 1)) ∧ va_P g.1 vwCl (List.flatten [bMo g o a th hi ac tp ba en tA fl de iD iO tU fm fk fa_11 fc ft ff fb fi]) H ∧ va_D A (List.flatten [bMo g o a th hi ac tp ba en tA fl de iD iO tU fm fk fa_11 fc ft ff fb fi]) := ⟨upd fa_2 x_1.toNatClampNeg (fm x_1.toNatClampNeg), ⟨(rM_cp rfa_2 rfm), (zCy_s i4 (by omega) (congrArg fm (by rw [zcl]; omega)) rfl)⟩, hP, hD⟩
        refine ziinc3 (n' := 1) (a' := 1) (b' := 379) (lv' := fun v9 => [(1, .int v9), (0, .ref o)]) hx hb dX12_putsAside_21 hl (k := 1) rfl (by decide) (fun _ => rfl) (zaddK (i := x_1.toInt) (j := 1) rfl (by decide) i3.1 n10 (Int.le_refl _) (Int.le_refl _) (by decide)) (fun x_12 ls hx_12 hl => ?_)
        refine lv_goto (tgt := 2) hx hb dX12_putsAside_24 (by decide) ?_
        have hl := lv_sub (l' := [(0, .ref o), (1, .int x_12)]) hl [1, 0] rfl
        have hP : va_P g.1 vwCl (List.flatten [bMo g o a th hi ac tp ba en tA fl de iD iO tU fm fk fa_11 fc ft ff fb fi]) H := hP
        have hD : va_D A (List.flatten [bMo g o a th hi ac tp ba en tA fl de iD iO tU fm fk fa_11 fc ft ff fb fi]) := hD
        exact ih2_6 x_12 fa_11 ⟨(Int.le_trans (by decide) hx_12.2.1), hx_12.2.2⟩ rfa_11 (zCy_e hcfa_11 (by omega)) H _ ls (zmK hx_12.1 (by decide) n10 (by decide) hk2_6)  hP hD hS (lv_sub hl [0, 1] rfl)
  have hL0 : (0 : Int32).toInt = 0 := by decide
  have hP : va_P g.1 vwCl (List.flatten [bMo g o a th hi ac tp ba en tA fl de iD iO tU fm fk fa fc ft ff fb fi]) s.heap := hP
  have hD : va_D A (List.flatten [bMo g o a th hi ac tp ba en tA fl de iD iO tU fm fk fa fc ft ff fb fi]) := hD
  exact LP2_5 _ 0 fa (by decide) rfa (zCy_0 (by decide)) s.heap _ ls (Nat.lt_succ_self _)  hP hD hS (lv_sub hl [0, 1] rfl)
set_option maxRecDepth 100000 in
set_option maxHeartbeats 4000000 in
theorem m_comesBack (l : Launch) (g : zG) (o : Nat) (a : Nat → Nat) (th : Int32) (hi : Int32) (ac : Int32) (tp : Int32) (ba : Int32) (en : Int32) (tA : Int32) (fl : Int32) (de : Int32) (iD : Int32) (iO : Int32) (tU : Int32) (fm : Nat → Int32) (fk : Nat → Int32) (fa : Nat → Int32) (fc : Nat → Int32) (ft : Nat → Int32) (ff : Nat → Int32) (fb : Nat → Int32) (fi : Nat → Int32) (rfm : rM fm) (rfa : rM fa) : zM' g l yX12_comesBack (Cond.code yX12_comesBack cX12_comesBack 2 none :: zB) ({ frames := 0, cells := 0, slots := 0, locals := 0 } : Room) [.ref o] [bMo g o a th hi ac tp ba en tA fl de iD iO tU fm fk fa fc ft ff fb fi] (fun (fm2 : Nat → Int32) => none) (fun (fm2 : Nat → Int32) => (rM fm2) ∧ (zCy fm fm2 0 fa 0 379) ∧ ((fm2 0).toInt = (fa 0).toInt ∧ (fm2 3).toInt = (fa 3).toInt ∧ (fm2 4).toInt = (fa 4).toInt)) (fun (fm2 : Nat → Int32) => [bMo g o a th hi ac tp ba en tA fl de iD iO tU fm2 fk fa fc ft ff fb fi]) := by
  refine zM'.of (cc := cX12_comesBack) (maxL := 2) (rt := none) (by decide) rfl (Nat.le_of_ble_eq_true rfl) ?_
  intro p e s m args below meth c A ls St hr hlocks hin hK hT hA hP hD hS hl
  obtain ⟨hx, hb, hml, hown, hts⟩ := id St
  have hl : lv_has ls 2 [(0, .ref o)] := hl
  refine lv_iconst (v := 0) hx hb dX12_comesBack_0 (by decide) ?_
  refine lv_istore_n (lv' := [(1, .int 0), (0, .ref o)]) hx hb dX12_comesBack_1 rfl hl (by decide) rfl (fun ls hl => ?_)
  have hl := lv_sub (l' := [(0, .ref o), (1, .int 0)]) hl [1, 0] rfl
  have LP2_5 : ∀ (kf : Nat) (x_1 : Int32) (fm_2 : Nat → Int32), (0 ≤ x_1.toInt ∧ x_1.toInt ≤ 379) → (rM fm_2) → (zCy fm fm_2 0 fa 0 x_1.toInt) → ∀ (H : Heap) (locs : List Loc) (ls : Array Slot), ((380 - x_1.toInt).toNat) < kf → va_P g.1 vwCl (List.flatten [bMo g o a th hi ac tp ba en tA fl de iD iO tU fm_2 fk fa fc ft ff fb fi]) H → va_D A (List.flatten [bMo g o a th hi ac tp ba en tA fl de iD iO tU fm_2 fk fa fc ft ff fb fi]) → va_S A s.heap H locs → lv_has ls 2 [(0, .ref o), (1, .int x_1)] → W p l e ({ frames := 0, cells := 0, slots := 0, locals := 0 } : Room) s m args below meth c H locs (0) (0) (zF g (fun (fm2 : Nat → Int32) => none) (fun (fm2 : Nat → Int32) => (rM fm2) ∧ (zCy fm fm2 0 fa 0 379) ∧ ((fm2 0).toInt = (fa 0).toInt ∧ (fm2 3).toInt = (fa 3).toInt ∧ (fm2 4).toInt = (fa 4).toInt)) (fun (fm2 : Nat → Int32) => [bMo g o a th hi ac tp ba en tA fl de iD iO tU fm2 fk fa fc ft ff fb fi]) ({ frames := 0, cells := 0, slots := 0, locals := 0 } : Room) below args s A) (F0 m 2 ls []) := by
    intro kf
    induction kf with
    | zero => intro x_1 fm_2 i3 rfm_2 i4 H locs ls hk; exact absurd hk (Nat.not_lt_zero _)
    | succ kf ih2_6 =>
      intro x_1 fm_2 i3 rfm_2 i4 H locs ls hk2_6 hP hD hS hl
      refine lv_iload_n hx hb dX12_comesBack_2 rfl (lv_at hl 1 rfl) ?_
      refine lv_sipush (v := 379) hx hb dX12_comesBack_3 (by decide) ?_
      refine lv_icmp_ge (tgt := 27) hx hb dX12_comesBack_6 (by decide) (fun cb9 => ?_) (fun cb9 => ?_)
      · skip
        have c7 : 379 ≤ x_1.toInt := zle cb9 (by decide) rfl
        have n8 : 379 ≤ x_1.toInt := Int.le_trans (Int.le_refl _) c7
        have hP : va_P g.1 vwCl (List.flatten [bMo g o a th hi ac tp ba en tA fl de iD iO tU fm_2 fk fa fc ft ff fb fi]) H := hP
        have hD : va_D A (List.flatten [bMo g o a th hi ac tp ba en tA fl de iD iO tU fm_2 fk fa fc ft ff fb fi]) := hD
        exact mret_v hx hb hr hlocks hS (Nat.le_of_ble_eq_true rfl) (Nat.le_of_ble_eq_true rfl) dX12_comesBack_27 (fm_2) rfl (show (rM fm_2) ∧ (zCy fm fm_2 0 fa 0 379) ∧ ((fm_2 0).toInt = (fa 0).toInt ∧ (fm_2 3).toInt = (fa 3).toInt ∧ (fm_2 4).toInt = (fa 4).toInt) from ⟨(by assumption), (zCy_e i4 (by omega)), ⟨(congrArg Int32.toInt (zCy_at (show zCy _ _ _ _ _ 379 from (zCy_e i4 (by omega))) 0 (by decide))), (congrArg Int32.toInt (zCy_at (show zCy _ _ _ _ _ 379 from (zCy_e i4 (by omega))) 3 (by decide))), (congrArg Int32.toInt (zCy_at (show zCy _ _ _ _ _ 379 from (zCy_e i4 (by omega))) 4 (by decide)))⟩⟩) hP hD
      · skip
        have c9 : x_1.toInt < 379 := zlti (Int32.not_le.mp cb9) rfl (by decide)
        have n10 : x_1.toInt ≤ 378 := zL1 (b := 379) c9 (Int.le_refl _) (by decide)
        refine lv_aload_n hx hb dX12_comesBack_9 rfl (lv_at hl 0 rfl) ?_
        refine va_get (D := g.1) (ci := 10) (v := .ref (a 0)) (C := RX12) (T := TX12) (N := 20) hx hb hts izRX12 hown hK hP 0 rfl rfl 1 (by decide) (hts _ k815) (fun _ h9 => h9) rfl dX12_comesBack_10 ?_
        refine lv_iload_n hx hb dX12_comesBack_13 rfl (lv_at hl 1 rfl) ?_
        refine lv_aload_n hx hb dX12_comesBack_14 rfl (lv_at hl 0 rfl) ?_
        refine va_get (D := g.1) (ci := 10) (v := .ref (a 2)) (C := RX12) (T := TX12) (N := 20) hx hb hts izRX12 hown hK hP 0 rfl rfl 4 (by decide) (hts _ k817) (fun _ h9 => h9) rfl dX12_comesBack_15 ?_
        refine lv_iload_n hx hb dX12_comesBack_18 rfl (lv_at hl 1 rfl) ?_
        refine va_iald hx hb hK hP 3 0 rfl rfl (zinK (a := 0) (b := 378) i3.1 n10 (by decide)) dX12_comesBack_19 ?_
        refine va_iast hx hb hK hP hD hS 1 0 rfl rfl (zinK (a := 0) (b := 378) i3.1 n10 (by decide)) dX12_comesBack_20 (fun H locs hP hD hS => ?_)
        obtain ⟨fm_11, ⟨rfm_11, hcfm_11⟩, hP, hD⟩ : ∃ fm_11 : Nat → Int32, (rM fm_11 ∧ zCy fm fm_11 0 fa 0 (x_1.toInt + 1)) ∧ va_P g.1 vwCl (List.flatten [bMo g o a th hi ac tp ba en tA fl de iD iO tU fm_11 fk fa fc ft ff fb fi]) H ∧ va_D A (List.flatten [bMo g o a th hi ac tp ba en tA fl de iD iO tU fm_11 fk fa fc ft ff fb fi]) := ⟨upd fm_2 x_1.toNatClampNeg (fa x_1.toNatClampNeg), ⟨(rM_cp rfm_2 rfa), (zCy_s i4 (by omega) (congrArg fa (by rw [zcl]; omega)) rfl)⟩, hP, hD⟩
        refine ziinc3 (n' := 1) (a' := 1) (b' := 379) (lv' := fun v9 => [(1, .int v9), (0, .ref o)]) hx hb dX12_comesBack_21 hl (k := 1) rfl (by decide) (fun _ => rfl) (zaddK (i := x_1.toInt) (j := 1) rfl (by decide) i3.1 n10 (Int.le_refl _) (Int.le_refl _) (by decide)) (fun x_12 ls hx_12 hl => ?_)
        refine lv_goto (tgt := 2) hx hb dX12_comesBack_24 (by decide) ?_
        have hl := lv_sub (l' := [(0, .ref o), (1, .int x_12)]) hl [1, 0] rfl
        have hP : va_P g.1 vwCl (List.flatten [bMo g o a th hi ac tp ba en tA fl de iD iO tU fm_11 fk fa fc ft ff fb fi]) H := hP
        have hD : va_D A (List.flatten [bMo g o a th hi ac tp ba en tA fl de iD iO tU fm_11 fk fa fc ft ff fb fi]) := hD
        exact ih2_6 x_12 fm_11 ⟨(Int.le_trans (by decide) hx_12.2.1), hx_12.2.2⟩ rfm_11 (zCy_e hcfm_11 (by omega)) H _ ls (zmK hx_12.1 (by decide) n10 (by decide) hk2_6)  hP hD hS (lv_sub hl [0, 1] rfl)
  have hL0 : (0 : Int32).toInt = 0 := by decide
  have hP : va_P g.1 vwCl (List.flatten [bMo g o a th hi ac tp ba en tA fl de iD iO tU fm fk fa fc ft ff fb fi]) s.heap := hP
  have hD : va_D A (List.flatten [bMo g o a th hi ac tp ba en tA fl de iD iO tU fm fk fa fc ft ff fb fi]) := hD
  exact LP2_5 _ 0 fm (by decide) rfm (zCy_0 (by decide)) s.heap _ ls (Nat.lt_succ_self _)  hP hD hS (lv_sub hl [0, 1] rfl)
set_option maxRecDepth 100000 in
set_option maxHeartbeats 4000000 in
theorem m_begins (l : Launch) (g : zG) (o : Nat) (a : Nat → Nat) (th : Int32) (hi : Int32) (ac : Int32) (tp : Int32) (ba : Int32) (en : Int32) (tA : Int32) (fl : Int32) (de : Int32) (iD : Int32) (iO : Int32) (tU : Int32) (fm : Nat → Int32) (fk : Nat → Int32) (fa : Nat → Int32) (fc : Nat → Int32) (ft : Nat → Int32) (ff : Nat → Int32) (fb : Nat → Int32) (fi : Nat → Int32)  : zM' g l yX12_begins (Cond.code yX12_begins cX12_begins 1 none :: zB) ({ frames := 0, cells := 0, slots := 0, locals := 0 } : Room) [.ref o] [bMo g o a th hi ac tp ba en tA fl de iD iO tU fm fk fa fc ft ff fb fi] (fun _ : Unit => none) (fun _ : Unit => True) (fun _ : Unit => [bMo g o a th hi ac 0 (-1) tp 0 (-1) 0 iD iO tU fm fk fa fc ft ff fb fi]) := by
  refine zM'.of (cc := cX12_begins) (maxL := 1) (rt := none) (by decide) rfl (Nat.le_of_ble_eq_true rfl) ?_
  intro p e s m args below meth c A ls St hr hlocks hin hK hT hA hP hD hS hl
  obtain ⟨hx, hb, hml, hown, hts⟩ := id St
  have hl : lv_has ls 1 [(0, .ref o)] := hl
  refine lv_aload_n hx hb dX12_begins_0 rfl (lv_at hl 0 rfl) ?_
  refine lv_iconst (v := (-1)) hx hb dX12_begins_1 (by decide) ?_
  refine va_put (D := g.1) (ci := 10) (v := .int (-1)) (ty := .int) (C := RX12) (T := TX12) (N := 20) hx hb hts izRX12 tyX12 tyX12_ok nmX12 hown hK hP hD hS 0 rfl rfl 12 (by decide) (hts _ k820) (fun _ h9 => h9) rfl (by decide +kernel) rfl rfl (Nat.le_of_ble_eq_true rfl) dX12_begins_2 (fun H locs hP hD hS => ?_)
  have hP : va_P g.1 vwCl (List.flatten [bMo g o a th hi ac tp ba en tA (-1) de iD iO tU fm fk fa fc ft ff fb fi]) H := hP
  have hD : va_D A (List.flatten [bMo g o a th hi ac tp ba en tA (-1) de iD iO tU fm fk fa fc ft ff fb fi]) := hD
  refine lv_aload_n hx hb dX12_begins_5 rfl (lv_at hl 0 rfl) ?_
  refine lv_iconst (v := (-1)) hx hb dX12_begins_6 (by decide) ?_
  refine va_put (D := g.1) (ci := 10) (v := .int (-1)) (ty := .int) (C := RX12) (T := TX12) (N := 20) hx hb hts izRX12 tyX12 tyX12_ok nmX12 hown hK hP hD hS 0 rfl rfl 9 (by decide) (hts _ k876) (fun _ h9 => h9) rfl (by decide +kernel) rfl rfl (Nat.le_of_ble_eq_true rfl) dX12_begins_7 (fun H locs hP hD hS => ?_)
  have hP : va_P g.1 vwCl (List.flatten [bMo g o a th hi ac tp (-1) en tA (-1) de iD iO tU fm fk fa fc ft ff fb fi]) H := hP
  have hD : va_D A (List.flatten [bMo g o a th hi ac tp (-1) en tA (-1) de iD iO tU fm fk fa fc ft ff fb fi]) := hD
  refine lv_aload_n hx hb dX12_begins_10 rfl (lv_at hl 0 rfl) ?_
  refine lv_aload_n hx hb dX12_begins_11 rfl (lv_at hl 0 rfl) ?_
  refine va_get (D := g.1) (ci := 10) (v := .int tp) (C := RX12) (T := TX12) (N := 20) hx hb hts izRX12 hown hK hP 0 rfl rfl 8 (by decide) (hts _ k873) (fun _ h9 => h9) rfl dX12_begins_12 ?_
  refine va_put (D := g.1) (ci := 10) (v := .int tp) (ty := .int) (C := RX12) (T := TX12) (N := 20) hx hb hts izRX12 tyX12 tyX12_ok nmX12 hown hK hP hD hS 0 rfl rfl 10 (by decide) (hts _ k879) (fun _ h9 => h9) rfl (by decide +kernel) rfl rfl (Nat.le_of_ble_eq_true rfl) dX12_begins_15 (fun H locs hP hD hS => ?_)
  have hP : va_P g.1 vwCl (List.flatten [bMo g o a th hi ac tp (-1) tp tA (-1) de iD iO tU fm fk fa fc ft ff fb fi]) H := hP
  have hD : va_D A (List.flatten [bMo g o a th hi ac tp (-1) tp tA (-1) de iD iO tU fm fk fa fc ft ff fb fi]) := hD
  refine lv_aload_n hx hb dX12_begins_18 rfl (lv_at hl 0 rfl) ?_
  refine lv_iconst (v := 0) hx hb dX12_begins_19 (by decide) ?_
  refine va_put (D := g.1) (ci := 10) (v := .int 0) (ty := .int) (C := RX12) (T := TX12) (N := 20) hx hb hts izRX12 tyX12 tyX12_ok nmX12 hown hK hP hD hS 0 rfl rfl 8 (by decide) (hts _ k873) (fun _ h9 => h9) rfl (by decide +kernel) rfl rfl (Nat.le_of_ble_eq_true rfl) dX12_begins_20 (fun H locs hP hD hS => ?_)
  have hP : va_P g.1 vwCl (List.flatten [bMo g o a th hi ac 0 (-1) tp tA (-1) de iD iO tU fm fk fa fc ft ff fb fi]) H := hP
  have hD : va_D A (List.flatten [bMo g o a th hi ac 0 (-1) tp tA (-1) de iD iO tU fm fk fa fc ft ff fb fi]) := hD
  refine lv_aload_n hx hb dX12_begins_23 rfl (lv_at hl 0 rfl) ?_
  refine lv_iconst (v := 0) hx hb dX12_begins_24 (by decide) ?_
  refine va_put (D := g.1) (ci := 10) (v := .int 0) (ty := .int) (C := RX12) (T := TX12) (N := 20) hx hb hts izRX12 tyX12 tyX12_ok nmX12 hown hK hP hD hS 0 rfl rfl 11 (by decide) (hts _ k878) (fun _ h9 => h9) rfl (by decide +kernel) rfl rfl (Nat.le_of_ble_eq_true rfl) dX12_begins_25 (fun H locs hP hD hS => ?_)
  have hP : va_P g.1 vwCl (List.flatten [bMo g o a th hi ac 0 (-1) tp 0 (-1) de iD iO tU fm fk fa fc ft ff fb fi]) H := hP
  have hD : va_D A (List.flatten [bMo g o a th hi ac 0 (-1) tp 0 (-1) de iD iO tU fm fk fa fc ft ff fb fi]) := hD
  refine lv_aload_n hx hb dX12_begins_28 rfl (lv_at hl 0 rfl) ?_
  refine lv_iconst (v := 0) hx hb dX12_begins_29 (by decide) ?_
  refine va_put (D := g.1) (ci := 10) (v := .int 0) (ty := .int) (C := RX12) (T := TX12) (N := 20) hx hb hts izRX12 tyX12 tyX12_ok nmX12 hown hK hP hD hS 0 rfl rfl 13 (by decide) (hts _ k933) (fun _ h9 => h9) rfl (by decide +kernel) rfl rfl (Nat.le_of_ble_eq_true rfl) dX12_begins_30 (fun H locs hP hD hS => ?_)
  have hP : va_P g.1 vwCl (List.flatten [bMo g o a th hi ac 0 (-1) tp 0 (-1) 0 iD iO tU fm fk fa fc ft ff fb fi]) H := hP
  have hD : va_D A (List.flatten [bMo g o a th hi ac 0 (-1) tp 0 (-1) 0 iD iO tU fm fk fa fc ft ff fb fi]) := hD
  have hP : va_P g.1 vwCl (List.flatten [bMo g o a th hi ac 0 (-1) tp 0 (-1) 0 iD iO tU fm fk fa fc ft ff fb fi]) H := hP
  have hD : va_D A (List.flatten [bMo g o a th hi ac 0 (-1) tp 0 (-1) 0 iD iO tU fm fk fa fc ft ff fb fi]) := hD
  exact mret_v hx hb hr hlocks hS (Nat.le_of_ble_eq_true rfl) (Nat.le_of_ble_eq_true rfl) dX12_begins_33 () rfl trivial hP hD
set_option maxRecDepth 100000 in
set_option maxHeartbeats 4000000 in
theorem m_turnsBy (l : Launch) (g : zG) (o : Nat) (a : Nat → Nat) (th : Int32) (hi : Int32) (ac : Int32) (tp : Int32) (ba : Int32) (en : Int32) (tA : Int32) (fl : Int32) (de : Int32) (iD : Int32) (iO : Int32) (tU : Int32) (fm : Nat → Int32) (fk : Nat → Int32) (fa : Nat → Int32) (fc : Nat → Int32) (ft : Nat → Int32) (ff : Nat → Int32) (fb : Nat → Int32) (fi : Nat → Int32) (x : Int32) (rfm : rM fm) (hiD : 0 ≤ iD.toInt ∧ iD.toInt ≤ 1) (hiO : 0 ≤ iO.toInt ∧ iO.toInt ≤ 1) (b_x : 0 ≤ x.toInt ∧ x.toInt ≤ 7) : zM' g l yX12_turnsBy (Cond.code yX12_turnsBy cX12_turnsBy 4 (some .int) :: zB) ({ frames := 31, cells := 0, slots := 0, locals := 688 } : Room) [.ref o, .int x] [bMo g o a th hi ac tp ba en tA fl de iD iO tU fm fk fa fc ft ff fb fi] (fun u : Int32 × Int32 × Int32 × Int32 × Int32 × Int32 × Int32 × (Nat → Int32) × Int32 => (fun (ba2 : Int32) (en2 : Int32) (at2 : Int32) (de2 : Int32) (iD2 : Int32) (iO2 : Int32) (tU2 : Int32) (ff2 : Nat → Int32) (q : Int32) => some (.int q)) (u.1) (u.2.1) (u.2.2.1) (u.2.2.2.1) (u.2.2.2.2.1) (u.2.2.2.2.2.1) (u.2.2.2.2.2.2.1) (u.2.2.2.2.2.2.2.1) (u.2.2.2.2.2.2.2.2)) (fun u : Int32 × Int32 × Int32 × Int32 × Int32 × Int32 × Int32 × (Nat → Int32) × Int32 => (fun (ba2 : Int32) (en2 : Int32) (at2 : Int32) (de2 : Int32) (iD2 : Int32) (iO2 : Int32) (tU2 : Int32) (ff2 : Nat → Int32) (q : Int32) => (0 ≤ iO2.toInt ∧ iO2.toInt ≤ 1) ∧ (0 ≤ iD2.toInt ∧ iD2.toInt ≤ 1)) (u.1) (u.2.1) (u.2.2.1) (u.2.2.2.1) (u.2.2.2.2.1) (u.2.2.2.2.2.1) (u.2.2.2.2.2.2.1) (u.2.2.2.2.2.2.2.1) (u.2.2.2.2.2.2.2.2)) (fun u : Int32 × Int32 × Int32 × Int32 × Int32 × Int32 × Int32 × (Nat → Int32) × Int32 => (fun (ba2 : Int32) (en2 : Int32) (at2 : Int32) (de2 : Int32) (iD2 : Int32) (iO2 : Int32) (tU2 : Int32) (ff2 : Nat → Int32) (q : Int32) => [bMo g o a th hi ac tp ba2 en2 at2 fl de2 iD2 iO2 tU2 fm fk fa fc ft ff2 fb fi]) (u.1) (u.2.1) (u.2.2.1) (u.2.2.2.1) (u.2.2.2.2.1) (u.2.2.2.2.2.1) (u.2.2.2.2.2.2.1) (u.2.2.2.2.2.2.2.1) (u.2.2.2.2.2.2.2.2)) := by
  refine zM'.of (cc := cX12_turnsBy) (maxL := 4) (rt := (some .int)) (by decide) rfl (Nat.le_of_ble_eq_true rfl) ?_
  intro p e s m args below meth c A ls St hr hlocks hin hK hT hA hP hD hS hl
  obtain ⟨hx, hb, hml, hown, hts⟩ := id St
  have hl : lv_has ls 4 [(0, .ref o), (1, .int x)] := hl
  refine lv_aload_n hx hb dX12_turnsBy_0 rfl (lv_at hl 0 rfl) ?_
  refine va_get (D := g.1) (ci := 10) (v := .ref (a 0)) (C := RX12) (T := TX12) (N := 20) hx hb hts izRX12 hown hK hP 0 rfl rfl 1 (by decide) (hts _ k815) (fun _ h9 => h9) rfl dX12_turnsBy_1 ?_
  refine lv_iconst (v := 1) hx hb dX12_turnsBy_4 (by decide) ?_
  refine va_iald hx hb hK hP 1 0 rfl rfl (zin rfl) dX12_turnsBy_5 ?_
  refine zg (fun x_1 => ?_)
  refine lv_iconst (v := (-1)) hx hb dX12_turnsBy_6 (by decide) ?_
  refine lv_icmp_ne (tgt := 26) hx hb dX12_turnsBy_7 (by decide) (fun cb9 => ?_) (fun cb9 => ?_)
  · skip
    have c2 : ¬ x_1.toInt = (-1) := zne cb9 rfl (by decide)
    refine lv_aload_n hx hb dX12_turnsBy_26 rfl (lv_at hl 0 rfl) ?_
    refine va_get (D := g.1) (ci := 10) (v := .ref (a 5)) (C := RX12) (T := TX12) (N := 20) hx hb hts izRX12 hown hK hP 0 rfl rfl 14 (by decide) (hts _ k821) (fun _ h9 => h9) rfl dX12_turnsBy_27 ?_
    refine lv_iconst (v := 0) hx hb dX12_turnsBy_30 (by decide) ?_
    refine lv_iload_n hx hb dX12_turnsBy_31 rfl (lv_at hl 1 rfl) ?_
    refine va_iast hx hb hK hP hD hS 6 0 rfl rfl (zin rfl) dX12_turnsBy_32 (fun H locs hP hD hS => ?_)
    obtain ⟨ff_3, hP, hD⟩ : ∃ ff_3 : Nat → Int32, va_P g.1 vwCl (List.flatten [bMo g o a th hi ac tp ba en tA fl de iD iO tU fm fk fa fc ft ff_3 fb fi]) H ∧ va_D A (List.flatten [bMo g o a th hi ac tp ba en tA fl de iD iO tU fm fk fa fc ft ff_3 fb fi]) := ⟨upd ff 0 x, hP, hD⟩
    refine lv_aload_n hx hb dX12_turnsBy_33 rfl (lv_at hl 0 rfl) ?_
    refine va_get (D := g.1) (ci := 10) (v := .ref (a 5)) (C := RX12) (T := TX12) (N := 20) hx hb hts izRX12 hown hK hP 0 rfl rfl 14 (by decide) (hts _ k821) (fun _ h9 => h9) rfl dX12_turnsBy_34 ?_
    refine lv_iconst (v := 1) hx hb dX12_turnsBy_37 (by decide) ?_
    refine lv_aload_n hx hb dX12_turnsBy_38 rfl (lv_at hl 0 rfl) ?_
    refine lv_iload_n hx hb dX12_turnsBy_39 rfl (lv_at hl 1 rfl) ?_
    refine lv_iconst (v := 0) hx hb dX12_turnsBy_40 (by decide) ?_
    have hL0 : (0 : Int32).toInt = 0 := by decide
    refine mcallV' (g := g) (q0 := 0) (ci := 10) (As := [.int x, .int 0]) (rest := [.int 1, .ref (a 5)]) St hK hT hA hP hD hS hl.1 [0] [] rfl rfl rfl (m_of l g o a th hi ac tp ba en tA fl de iD iO tU fm fk fa fc ft ff_3 fb fi x 0 b_x (by decide)) (cwV 2 hts (zgL (zl4 k842 k843 k844 k839) k831) rfl rfl rfl (by decide +kernel) ⟨Nat.le_of_ble_eq_true rfl, Nat.le_of_ble_eq_true rfl⟩) rfl rfl rfl rfl (Nat.le_of_ble_eq_true rfl) dX12_turnsBy_41 ⟨(Nat.le_of_ble_eq_true rfl), (Nat.le_of_ble_eq_true rfl)⟩ (fun q_4 H locs hq5 hP hD hS => ?_)
    have hP : va_P g.1 vwCl (List.flatten [bMo g o a th hi ac tp ba en tA fl de iD iO tU fm fk fa fc ft ff_3 fb fi]) H := hP
    have hD : va_D A (List.flatten [bMo g o a th hi ac tp ba en tA fl de iD iO tU fm fk fa fc ft ff_3 fb fi]) := hD
    refine W.widen (k := 0) (n := 0) (Nat.le_of_ble_eq_true rfl) (Nat.le_of_ble_eq_true rfl) ?_
    refine W.eq (g2 := F0 m 44 ls [.int q_4, .int 1, .ref (a 5)]) rfl ?_
    refine va_iast hx hb hK hP hD hS 6 0 rfl rfl (zin rfl) dX12_turnsBy_44 (fun H locs hP hD hS => ?_)
    obtain ⟨ff_6, hP, hD⟩ : ∃ ff_6 : Nat → Int32, va_P g.1 vwCl (List.flatten [bMo g o a th hi ac tp ba en tA fl de iD iO tU fm fk fa fc ft ff_6 fb fi]) H ∧ va_D A (List.flatten [bMo g o a th hi ac tp ba en tA fl de iD iO tU fm fk fa fc ft ff_6 fb fi]) := ⟨upd ff_3 1 q_4, hP, hD⟩
    refine lv_aload_n hx hb dX12_turnsBy_45 rfl (lv_at hl 0 rfl) ?_
    refine va_get (D := g.1) (ci := 10) (v := .ref (a 5)) (C := RX12) (T := TX12) (N := 20) hx hb hts izRX12 hown hK hP 0 rfl rfl 14 (by decide) (hts _ k821) (fun _ h9 => h9) rfl dX12_turnsBy_46 ?_
    refine lv_iconst (v := 2) hx hb dX12_turnsBy_49 (by decide) ?_
    refine lv_aload_n hx hb dX12_turnsBy_50 rfl (lv_at hl 0 rfl) ?_
    refine mcallV' (g := g) (q0 := 0) (ci := 10) (As := []) (rest := [.int 2, .ref (a 5)]) St hK hT hA hP hD hS hl.1 [0] [] rfl rfl rfl (m_mean l g o a th hi ac tp ba en tA fl de iD iO tU fm fk fa fc ft ff_6 fb fi rfm) (cwV 0 hts (zgL (zl4 k859 k860 k861 k839) k850) rfl rfl rfl (by decide +kernel) ⟨Nat.le_of_ble_eq_true rfl, Nat.le_of_ble_eq_true rfl⟩) rfl rfl rfl rfl (Nat.le_of_ble_eq_true rfl) dX12_turnsBy_51 ⟨(Nat.le_of_ble_eq_true rfl), (Nat.le_of_ble_eq_true rfl)⟩ (fun q_7 H locs hq8 hP hD hS => ?_)
    have hP : va_P g.1 vwCl (List.flatten [bMo g o a th hi ac tp ba en tA fl de iD iO tU fm fk fa fc ft ff_6 fb fi]) H := hP
    have hD : va_D A (List.flatten [bMo g o a th hi ac tp ba en tA fl de iD iO tU fm fk fa fc ft ff_6 fb fi]) := hD
    refine W.widen (k := 0) (n := 0) (Nat.le_of_ble_eq_true rfl) (Nat.le_of_ble_eq_true rfl) ?_
    refine W.eq (g2 := F0 m 54 ls [.int q_7, .int 2, .ref (a 5)]) rfl ?_
    refine va_iast hx hb hK hP hD hS 6 0 rfl rfl (zin rfl) dX12_turnsBy_54 (fun H locs hP hD hS => ?_)
    obtain ⟨ff_9, hP, hD⟩ : ∃ ff_9 : Nat → Int32, va_P g.1 vwCl (List.flatten [bMo g o a th hi ac tp ba en tA fl de iD iO tU fm fk fa fc ft ff_9 fb fi]) H ∧ va_D A (List.flatten [bMo g o a th hi ac tp ba en tA fl de iD iO tU fm fk fa fc ft ff_9 fb fi]) := ⟨upd ff_6 2 q_7, hP, hD⟩
    refine lv_aload_n hx hb dX12_turnsBy_55 rfl (lv_at hl 0 rfl) ?_
    refine va_get (D := g.1) (ci := 10) (v := .ref (a 5)) (C := RX12) (T := TX12) (N := 20) hx hb hts izRX12 hown hK hP 0 rfl rfl 14 (by decide) (hts _ k821) (fun _ h9 => h9) rfl dX12_turnsBy_56 ?_
    refine lv_iconst (v := 3) hx hb dX12_turnsBy_59 (by decide) ?_
    refine lv_aload_n hx hb dX12_turnsBy_60 rfl (lv_at hl 0 rfl) ?_
    refine lv_iconst (v := 1) hx hb dX12_turnsBy_61 (by decide) ?_
    refine mcallV' (g := g) (q0 := 0) (ci := 10) (As := [.int 1]) (rest := [.int 3, .ref (a 5)]) St hK hT hA hP hD hS hl.1 [0] [] rfl rfl rfl (m_worksOf l g o a th hi ac tp ba en tA fl de iD iO tU fm fk fa fc ft ff_9 fb fi 1 rfm) (cwV 1 hts (zgL (zl4 k990 k991 k992 k839) k863) rfl rfl rfl (by decide +kernel) ⟨Nat.le_of_ble_eq_true rfl, Nat.le_of_ble_eq_true rfl⟩) rfl rfl rfl rfl (Nat.le_of_ble_eq_true rfl) dX12_turnsBy_62 ⟨(Nat.le_of_ble_eq_true rfl), (Nat.le_of_ble_eq_true rfl)⟩ (fun q_10 H locs hq11 hP hD hS => ?_)
    have hP : va_P g.1 vwCl (List.flatten [bMo g o a th hi ac tp ba en tA fl de iD iO tU fm fk fa fc ft ff_9 fb fi]) H := hP
    have hD : va_D A (List.flatten [bMo g o a th hi ac tp ba en tA fl de iD iO tU fm fk fa fc ft ff_9 fb fi]) := hD
    refine W.widen (k := 0) (n := 0) (Nat.le_of_ble_eq_true rfl) (Nat.le_of_ble_eq_true rfl) ?_
    refine W.eq (g2 := F0 m 65 ls [.int q_10, .int 3, .ref (a 5)]) rfl ?_
    refine mcallS' (g := g) (As := [.int q_10]) (rest := [.int 3, .ref (a 5)]) St hK hT hA hP hD hS hl.1 [] [0] rfl rfl rfl (m_bits l g q_10 ) (va_cwS 1 hts (zgL (zl3 k854 k855 k839) k830) rfl rfl rfl (by decide +kernel) ⟨Nat.le_of_ble_eq_true rfl, Nat.le_of_ble_eq_true rfl⟩) rfl rfl (Nat.le_of_ble_eq_true rfl) dX12_turnsBy_65 ⟨(Nat.le_of_ble_eq_true rfl), (Nat.le_of_ble_eq_true rfl)⟩ (fun q_12 H locs hq13 hP hD hS => ?_)
    have hP : va_P g.1 vwCl (List.flatten [bMo g o a th hi ac tp ba en tA fl de iD iO tU fm fk fa fc ft ff_9 fb fi]) H := hP
    have hD : va_D A (List.flatten [bMo g o a th hi ac tp ba en tA fl de iD iO tU fm fk fa fc ft ff_9 fb fi]) := hD
    refine W.widen (k := 0) (n := 0) (Nat.le_of_ble_eq_true rfl) (Nat.le_of_ble_eq_true rfl) ?_
    refine W.eq (g2 := F0 m 68 ls [.int q_12, .int 3, .ref (a 5)]) rfl ?_
    refine va_iast hx hb hK hP hD hS 6 0 rfl rfl (zin rfl) dX12_turnsBy_68 (fun H locs hP hD hS => ?_)
    obtain ⟨ff_14, hP, hD⟩ : ∃ ff_14 : Nat → Int32, va_P g.1 vwCl (List.flatten [bMo g o a th hi ac tp ba en tA fl de iD iO tU fm fk fa fc ft ff_14 fb fi]) H ∧ va_D A (List.flatten [bMo g o a th hi ac tp ba en tA fl de iD iO tU fm fk fa fc ft ff_14 fb fi]) := ⟨upd ff_9 3 q_12, hP, hD⟩
    refine lv_aload_n hx hb dX12_turnsBy_69 rfl (lv_at hl 0 rfl) ?_
    refine va_get (D := g.1) (ci := 10) (v := .ref (a 5)) (C := RX12) (T := TX12) (N := 20) hx hb hts izRX12 hown hK hP 0 rfl rfl 14 (by decide) (hts _ k821) (fun _ h9 => h9) rfl dX12_turnsBy_70 ?_
    refine lv_iconst (v := 4) hx hb dX12_turnsBy_73 (by decide) ?_
    refine lv_aload_n hx hb dX12_turnsBy_74 rfl (lv_at hl 0 rfl) ?_
    refine lv_iload_n hx hb dX12_turnsBy_75 rfl (lv_at hl 1 rfl) ?_
    refine mcallV' (g := g) (q0 := 0) (ci := 10) (As := [.int x]) (rest := [.int 4, .ref (a 5)]) St hK hT hA hP hD hS hl.1 [0] [] rfl rfl rfl (m_ties l g o a th hi ac tp ba en tA fl de iD iO tU fm fk fa fc ft ff_14 fb fi x rfm b_x) (cwV 1 hts (zgL (zl4 k993 k994 k995 k839) k867) rfl rfl rfl (by decide +kernel) ⟨Nat.le_of_ble_eq_true rfl, Nat.le_of_ble_eq_true rfl⟩) rfl rfl rfl rfl (Nat.le_of_ble_eq_true rfl) dX12_turnsBy_76 ⟨(Nat.le_of_ble_eq_true rfl), (Nat.le_of_ble_eq_true rfl)⟩ (fun q_15 H locs hq16 hP hD hS => ?_)
    have hP : va_P g.1 vwCl (List.flatten [bMo g o a th hi ac tp ba en tA fl de iD iO tU fm fk fa fc ft ff_14 fb fi]) H := hP
    have hD : va_D A (List.flatten [bMo g o a th hi ac tp ba en tA fl de iD iO tU fm fk fa fc ft ff_14 fb fi]) := hD
    refine W.widen (k := 0) (n := 0) (Nat.le_of_ble_eq_true rfl) (Nat.le_of_ble_eq_true rfl) ?_
    refine W.eq (g2 := F0 m 79 ls [.int q_15, .int 4, .ref (a 5)]) rfl ?_
    refine va_iast hx hb hK hP hD hS 6 0 rfl rfl (zin rfl) dX12_turnsBy_79 (fun H locs hP hD hS => ?_)
    obtain ⟨ff_17, hP, hD⟩ : ∃ ff_17 : Nat → Int32, va_P g.1 vwCl (List.flatten [bMo g o a th hi ac tp ba en tA fl de iD iO tU fm fk fa fc ft ff_17 fb fi]) H ∧ va_D A (List.flatten [bMo g o a th hi ac tp ba en tA fl de iD iO tU fm fk fa fc ft ff_17 fb fi]) := ⟨upd ff_14 4 q_15, hP, hD⟩
    refine lv_aload_n hx hb dX12_turnsBy_80 rfl (lv_at hl 0 rfl) ?_
    refine va_get (D := g.1) (ci := 10) (v := .ref (a 5)) (C := RX12) (T := TX12) (N := 20) hx hb hts izRX12 hown hK hP 0 rfl rfl 14 (by decide) (hts _ k821) (fun _ h9 => h9) rfl dX12_turnsBy_81 ?_
    refine lv_iconst (v := 5) hx hb dX12_turnsBy_84 (by decide) ?_
    refine lv_aload_n hx hb dX12_turnsBy_85 rfl (lv_at hl 0 rfl) ?_
    refine va_get (D := g.1) (ci := 10) (v := .ref (a 0)) (C := RX12) (T := TX12) (N := 20) hx hb hts izRX12 hown hK hP 0 rfl rfl 1 (by decide) (hts _ k815) (fun _ h9 => h9) rfl dX12_turnsBy_86 ?_
    refine lv_bipush (v := 8) hx hb dX12_turnsBy_89 (by decide) ?_
    refine va_iald hx hb hK hP 1 0 rfl rfl (zin rfl) dX12_turnsBy_91 ?_
    refine zg (fun x_18 => ?_)
    refine va_iast hx hb hK hP hD hS 6 0 rfl rfl (zin rfl) dX12_turnsBy_92 (fun H locs hP hD hS => ?_)
    obtain ⟨ff_19, hP, hD⟩ : ∃ ff_19 : Nat → Int32, va_P g.1 vwCl (List.flatten [bMo g o a th hi ac tp ba en tA fl de iD iO tU fm fk fa fc ft ff_19 fb fi]) H ∧ va_D A (List.flatten [bMo g o a th hi ac tp ba en tA fl de iD iO tU fm fk fa fc ft ff_19 fb fi]) := ⟨upd ff_17 5 x_18, hP, hD⟩
    refine lv_aload_n hx hb dX12_turnsBy_93 rfl (lv_at hl 0 rfl) ?_
    refine lv_aload_n hx hb dX12_turnsBy_94 rfl (lv_at hl 0 rfl) ?_
    refine lv_iload_n hx hb dX12_turnsBy_95 rfl (lv_at hl 1 rfl) ?_
    refine lv_iconst (v := 3) hx hb dX12_turnsBy_96 (by decide) ?_
    have hL3 : (3 : Int32).toInt = 3 := by decide
    refine mcallV' (g := g) (q0 := 0) (ci := 10) (As := [.int x, .int 3]) (rest := [.ref o]) St hK hT hA hP hD hS hl.1 [0] [] rfl rfl rfl (m_of l g o a th hi ac tp ba en tA fl de iD iO tU fm fk fa fc ft ff_19 fb fi x 3 b_x (by decide)) (cwV 2 hts (zgL (zl4 k842 k843 k844 k839) k831) rfl rfl rfl (by decide +kernel) ⟨Nat.le_of_ble_eq_true rfl, Nat.le_of_ble_eq_true rfl⟩) rfl rfl rfl rfl (Nat.le_of_ble_eq_true rfl) dX12_turnsBy_97 ⟨(Nat.le_of_ble_eq_true rfl), (Nat.le_of_ble_eq_true rfl)⟩ (fun q_20 H locs hq21 hP hD hS => ?_)
    have hP : va_P g.1 vwCl (List.flatten [bMo g o a th hi ac tp ba en tA fl de iD iO tU fm fk fa fc ft ff_19 fb fi]) H := hP
    have hD : va_D A (List.flatten [bMo g o a th hi ac tp ba en tA fl de iD iO tU fm fk fa fc ft ff_19 fb fi]) := hD
    refine W.widen (k := 0) (n := 0) (Nat.le_of_ble_eq_true rfl) (Nat.le_of_ble_eq_true rfl) ?_
    refine W.eq (g2 := F0 m 100 ls [.int q_20, .ref o]) rfl ?_
    refine lv_iconst (v := 1) hx hb dX12_turnsBy_100 (by decide) ?_
    refine lv_icmp_ne (tgt := 108) hx hb dX12_turnsBy_101 (by decide) (fun cb9 => ?_) (fun cb9 => ?_)
    · skip
      have c22 : ¬ q_20.toInt = 1 := zne cb9 rfl (by decide)
      refine lv_iconst (v := 0) hx hb dX12_turnsBy_108 (by decide) ?_
      refine va_put (D := g.1) (ci := 10) (v := .int 0) (ty := .boolean) (C := RX12) (T := TX12) (N := 20) hx hb hts izRX12 tyX12 tyX12_ok nmX12 hown hK hP hD hS 0 rfl rfl 15 (by decide) (hts _ k942) (fun _ h9 => h9) rfl (by decide +kernel) rfl rfl (Nat.le_of_ble_eq_true rfl) dX12_turnsBy_109 (fun H locs hP hD hS => ?_)
      have hP : va_P g.1 vwCl (List.flatten [bMo g o a th hi ac tp ba en tA fl de 0 iO tU fm fk fa fc ft ff_19 fb fi]) H := hP
      have hD : va_D A (List.flatten [bMo g o a th hi ac tp ba en tA fl de 0 iO tU fm fk fa fc ft ff_19 fb fi]) := hD
      refine lv_aload_n hx hb dX12_turnsBy_112 rfl (lv_at hl 0 rfl) ?_
      refine lv_aload_n hx hb dX12_turnsBy_113 rfl (lv_at hl 0 rfl) ?_
      refine lv_iload_n hx hb dX12_turnsBy_114 rfl (lv_at hl 1 rfl) ?_
      refine lv_iconst (v := 2) hx hb dX12_turnsBy_115 (by decide) ?_
      have hL2 : (2 : Int32).toInt = 2 := by decide
      refine mcallV' (g := g) (q0 := 0) (ci := 10) (As := [.int x, .int 2]) (rest := [.ref o]) St hK hT hA hP hD hS hl.1 [0] [] rfl rfl rfl (m_of l g o a th hi ac tp ba en tA fl de 0 iO tU fm fk fa fc ft ff_19 fb fi x 2 b_x (by decide)) (cwV 2 hts (zgL (zl4 k842 k843 k844 k839) k831) rfl rfl rfl (by decide +kernel) ⟨Nat.le_of_ble_eq_true rfl, Nat.le_of_ble_eq_true rfl⟩) rfl rfl rfl rfl (Nat.le_of_ble_eq_true rfl) dX12_turnsBy_116 ⟨(Nat.le_of_ble_eq_true rfl), (Nat.le_of_ble_eq_true rfl)⟩ (fun q_23 H locs hq24 hP hD hS => ?_)
      have hP : va_P g.1 vwCl (List.flatten [bMo g o a th hi ac tp ba en tA fl de 0 iO tU fm fk fa fc ft ff_19 fb fi]) H := hP
      have hD : va_D A (List.flatten [bMo g o a th hi ac tp ba en tA fl de 0 iO tU fm fk fa fc ft ff_19 fb fi]) := hD
      refine W.widen (k := 0) (n := 0) (Nat.le_of_ble_eq_true rfl) (Nat.le_of_ble_eq_true rfl) ?_
      refine W.eq (g2 := F0 m 119 ls [.int q_23, .ref o]) rfl ?_
      refine lv_if_le (tgt := 126) hx hb dX12_turnsBy_119 (by decide) (fun cb9 => ?_) (fun cb9 => ?_)
      · skip
        have c25 : q_23.toInt ≤ 0 := zle cb9 rfl (by decide)
        have n26 : q_23.toInt ≤ 0 := Int.le_trans c25 (Int.le_refl _)
        refine lv_iconst (v := 0) hx hb dX12_turnsBy_126 (by decide) ?_
        refine va_put (D := g.1) (ci := 10) (v := .int 0) (ty := .boolean) (C := RX12) (T := TX12) (N := 20) hx hb hts izRX12 tyX12 tyX12_ok nmX12 hown hK hP hD hS 0 rfl rfl 16 (by decide) (hts _ k943) (fun _ h9 => h9) rfl (by decide +kernel) rfl rfl (Nat.le_of_ble_eq_true rfl) dX12_turnsBy_127 (fun H locs hP hD hS => ?_)
        have hP : va_P g.1 vwCl (List.flatten [bMo g o a th hi ac tp ba en tA fl de 0 0 tU fm fk fa fc ft ff_19 fb fi]) H := hP
        have hD : va_D A (List.flatten [bMo g o a th hi ac tp ba en tA fl de 0 0 tU fm fk fa fc ft ff_19 fb fi]) := hD
        refine lv_aload_n hx hb dX12_turnsBy_130 rfl (lv_at hl 0 rfl) ?_
        refine lv_iconst (v := 0) hx hb dX12_turnsBy_131 (by decide) ?_
        refine va_put (D := g.1) (ci := 10) (v := .int 0) (ty := .int) (C := RX12) (T := TX12) (N := 20) hx hb hts izRX12 tyX12 tyX12_ok nmX12 hown hK hP hD hS 0 rfl rfl 17 (by decide) (hts _ k963) (fun _ h9 => h9) rfl (by decide +kernel) rfl rfl (Nat.le_of_ble_eq_true rfl) dX12_turnsBy_132 (fun H locs hP hD hS => ?_)
        have hP : va_P g.1 vwCl (List.flatten [bMo g o a th hi ac tp ba en tA fl de 0 0 0 fm fk fa fc ft ff_19 fb fi]) H := hP
        have hD : va_D A (List.flatten [bMo g o a th hi ac tp ba en tA fl de 0 0 0 fm fk fa fc ft ff_19 fb fi]) := hD
        refine lv_aload_n hx hb dX12_turnsBy_135 rfl (lv_at hl 0 rfl) ?_
        refine va_get (D := g.1) (ci := 10) (v := .int fl) (C := RX12) (T := TX12) (N := 20) hx hb hts izRX12 hown hK hP 0 rfl rfl 12 (by decide) (hts _ k820) (fun _ h9 => h9) rfl dX12_turnsBy_136 ?_
        refine lv_istore_n (lv' := [(2, .int fl), (0, .ref o), (1, .int x)]) hx hb dX12_turnsBy_139 rfl hl (by decide) rfl (fun ls hl => ?_)
        refine lv_aload_n hx hb dX12_turnsBy_140 rfl (lv_at hl 1 rfl) ?_
        refine lv_iconst (v := (-1)) hx hb dX12_turnsBy_141 (by decide) ?_
        refine va_put (D := g.1) (ci := 10) (v := .int (-1)) (ty := .int) (C := RX12) (T := TX12) (N := 20) hx hb hts izRX12 tyX12 tyX12_ok nmX12 hown hK hP hD hS 0 rfl rfl 12 (by decide) (hts _ k820) (fun _ h9 => h9) rfl (by decide +kernel) rfl rfl (Nat.le_of_ble_eq_true rfl) dX12_turnsBy_142 (fun H locs hP hD hS => ?_)
        have hP : va_P g.1 vwCl (List.flatten [bMo g o a th hi ac tp ba en tA (-1) de 0 0 0 fm fk fa fc ft ff_19 fb fi]) H := hP
        have hD : va_D A (List.flatten [bMo g o a th hi ac tp ba en tA (-1) de 0 0 0 fm fk fa fc ft ff_19 fb fi]) := hD
        refine lv_aload_n hx hb dX12_turnsBy_145 rfl (lv_at hl 1 rfl) ?_
        refine lv_sipush (v := 379) hx hb dX12_turnsBy_146 (by decide) ?_
        refine va_put (D := g.1) (ci := 10) (v := .int 379) (ty := .int) (C := RX12) (T := TX12) (N := 20) hx hb hts izRX12 tyX12 tyX12_ok nmX12 hown hK hP hD hS 0 rfl rfl 9 (by decide) (hts _ k876) (fun _ h9 => h9) rfl (by decide +kernel) rfl rfl (Nat.le_of_ble_eq_true rfl) dX12_turnsBy_149 (fun H locs hP hD hS => ?_)
        have hP : va_P g.1 vwCl (List.flatten [bMo g o a th hi ac tp 379 en tA (-1) de 0 0 0 fm fk fa fc ft ff_19 fb fi]) H := hP
        have hD : va_D A (List.flatten [bMo g o a th hi ac tp 379 en tA (-1) de 0 0 0 fm fk fa fc ft ff_19 fb fi]) := hD
        refine lv_aload_n hx hb dX12_turnsBy_152 rfl (lv_at hl 1 rfl) ?_
        refine lv_aload_n hx hb dX12_turnsBy_153 rfl (lv_at hl 1 rfl) ?_
        refine va_get (D := g.1) (ci := 10) (v := .ref (a 0)) (C := RX12) (T := TX12) (N := 20) hx hb hts izRX12 hown hK hP 0 rfl rfl 1 (by decide) (hts _ k815) (fun _ h9 => h9) rfl dX12_turnsBy_154 ?_
        refine lv_iconst (v := 2) hx hb dX12_turnsBy_157 (by decide) ?_
        refine va_iald hx hb hK hP 1 0 rfl rfl (zin rfl) dX12_turnsBy_158 ?_
        refine zgq (r := fm 2) rfl (rM2 rfm) (fun x_27 hx_27 => ?_)
        refine va_put (D := g.1) (ci := 10) (v := .int x_27) (ty := .int) (C := RX12) (T := TX12) (N := 20) hx hb hts izRX12 tyX12 tyX12_ok nmX12 hown hK hP hD hS 0 rfl rfl 10 (by decide) (hts _ k879) (fun _ h9 => h9) rfl (by decide +kernel) rfl rfl (Nat.le_of_ble_eq_true rfl) dX12_turnsBy_159 (fun H locs hP hD hS => ?_)
        have hP : va_P g.1 vwCl (List.flatten [bMo g o a th hi ac tp 379 x_27 tA (-1) de 0 0 0 fm fk fa fc ft ff_19 fb fi]) H := hP
        have hD : va_D A (List.flatten [bMo g o a th hi ac tp 379 x_27 tA (-1) de 0 0 0 fm fk fa fc ft ff_19 fb fi]) := hD
        refine lv_aload_n hx hb dX12_turnsBy_162 rfl (lv_at hl 1 rfl) ?_
        refine lv_iconst (v := 0) hx hb dX12_turnsBy_163 (by decide) ?_
        refine va_put (D := g.1) (ci := 10) (v := .int 0) (ty := .int) (C := RX12) (T := TX12) (N := 20) hx hb hts izRX12 tyX12 tyX12_ok nmX12 hown hK hP hD hS 0 rfl rfl 11 (by decide) (hts _ k878) (fun _ h9 => h9) rfl (by decide +kernel) rfl rfl (Nat.le_of_ble_eq_true rfl) dX12_turnsBy_164 (fun H locs hP hD hS => ?_)
        have hP : va_P g.1 vwCl (List.flatten [bMo g o a th hi ac tp 379 x_27 0 (-1) de 0 0 0 fm fk fa fc ft ff_19 fb fi]) H := hP
        have hD : va_D A (List.flatten [bMo g o a th hi ac tp 379 x_27 0 (-1) de 0 0 0 fm fk fa fc ft ff_19 fb fi]) := hD
        refine lv_aload_n hx hb dX12_turnsBy_167 rfl (lv_at hl 1 rfl) ?_
        refine lv_iconst (v := 0) hx hb dX12_turnsBy_168 (by decide) ?_
        refine va_put (D := g.1) (ci := 10) (v := .int 0) (ty := .int) (C := RX12) (T := TX12) (N := 20) hx hb hts izRX12 tyX12 tyX12_ok nmX12 hown hK hP hD hS 0 rfl rfl 13 (by decide) (hts _ k933) (fun _ h9 => h9) rfl (by decide +kernel) rfl rfl (Nat.le_of_ble_eq_true rfl) dX12_turnsBy_169 (fun H locs hP hD hS => ?_)
        have hP : va_P g.1 vwCl (List.flatten [bMo g o a th hi ac tp 379 x_27 0 (-1) 0 0 0 0 fm fk fa fc ft ff_19 fb fi]) H := hP
        have hD : va_D A (List.flatten [bMo g o a th hi ac tp 379 x_27 0 (-1) 0 0 0 0 fm fk fa fc ft ff_19 fb fi]) := hD
        refine lv_aload_n hx hb dX12_turnsBy_172 rfl (lv_at hl 1 rfl) ?_
        refine lv_iconst (v := 1) hx hb dX12_turnsBy_173 (by decide) ?_
        have hL379 : (379 : Int32).toInt = 379 := by decide
        refine mcallV' (g := g) (q0 := 0) (ci := 10) (As := [.int 1]) (rest := []) St hK hT hA hP hD hS hl.1 [0] [] rfl rfl rfl (m_readT l g o a th hi ac tp 379 x_27 0 (-1) 0 0 0 fm fk fa fc ft ff_19 fb fi (by decide) (by decide) (by first | assumption | omega | decide | exact Or.inl (by decide) | exact Or.inr (by decide)) (⟨hx_27.1, hx_27.2.1⟩) (by first | assumption | omega | decide | exact Or.inl (by decide) | exact Or.inr (by decide)) (by first | assumption | omega | decide | exact Or.inl (by decide) | exact Or.inr (by decide)) (by first | assumption | omega | decide | exact Or.inl (by decide) | exact Or.inr (by decide))) (cwV 1 hts (zgL (zl4 k981 k982 k983 k839) k971) rfl rfl rfl (by decide +kernel) ⟨Nat.le_of_ble_eq_true rfl, Nat.le_of_ble_eq_true rfl⟩) rfl rfl rfl rfl (Nat.le_of_ble_eq_true rfl) dX12_turnsBy_174 ⟨(Nat.le_of_ble_eq_true rfl), (Nat.le_of_ble_eq_true rfl)⟩ (fun u_ H locs hq32 hP hD hS => ?_)
        obtain ⟨at2_28, fl2_29, tU2_30, q_31⟩ := u_
        replace hq32 : (0 ≤ at2_28.toInt ∧ at2_28.toInt ≤ x_27.toInt + 7 - 0) ∧ ((0 : Int32).toInt ≤ at2_28.toInt) ∧ (-1 ≤ fl2_29.toInt) := hq32
        have hP : va_P g.1 vwCl (List.flatten [bMo g o a th hi ac tp 379 x_27 at2_28 fl2_29 0 0 0 tU2_30 fm fk fa fc ft ff_19 fb fi]) H := hP
        have hD : va_D A (List.flatten [bMo g o a th hi ac tp 379 x_27 at2_28 fl2_29 0 0 0 tU2_30 fm fk fa fc ft ff_19 fb fi]) := hD
        refine W.widen (k := 0) (n := 0) (Nat.le_of_ble_eq_true rfl) (Nat.le_of_ble_eq_true rfl) ?_
        refine W.eq (g2 := F0 m 177 ls [.int q_31]) rfl ?_
        obtain ⟨hq32_0, hq32_1, hq32_2⟩ := hq32
        refine lv_istore_n (lv' := [(3, .int q_31), (2, .int fl), (0, .ref o), (1, .int x)]) hx hb dX12_turnsBy_177 rfl hl (by decide) rfl (fun ls hl => ?_)
        refine lv_aload_n hx hb dX12_turnsBy_178 rfl (lv_at hl 2 rfl) ?_
        refine lv_iload_n hx hb dX12_turnsBy_179 rfl (lv_at hl 1 rfl) ?_
        refine va_put (D := g.1) (ci := 10) (v := .int fl) (ty := .int) (C := RX12) (T := TX12) (N := 20) hx hb hts izRX12 tyX12 tyX12_ok nmX12 hown hK hP hD hS 0 rfl rfl 12 (by decide) (hts _ k820) (fun _ h9 => h9) rfl (by decide +kernel) rfl rfl (Nat.le_of_ble_eq_true rfl) dX12_turnsBy_180 (fun H locs hP hD hS => ?_)
        have hP : va_P g.1 vwCl (List.flatten [bMo g o a th hi ac tp 379 x_27 at2_28 fl 0 0 0 tU2_30 fm fk fa fc ft ff_19 fb fi]) H := hP
        have hD : va_D A (List.flatten [bMo g o a th hi ac tp 379 x_27 at2_28 fl 0 0 0 tU2_30 fm fk fa fc ft ff_19 fb fi]) := hD
        refine lv_aload_n hx hb dX12_turnsBy_183 rfl (lv_at hl 2 rfl) ?_
        refine va_get (D := g.1) (ci := 10) (v := .int tU2_30) (C := RX12) (T := TX12) (N := 20) hx hb hts izRX12 hown hK hP 0 rfl rfl 17 (by decide) (hts _ k963) (fun _ h9 => h9) rfl dX12_turnsBy_184 ?_
        have hP : va_P g.1 vwCl (List.flatten [bMo g o a th hi ac tp 379 x_27 at2_28 fl 0 0 0 tU2_30 fm fk fa fc ft ff_19 fb fi]) H := hP
        have hD : va_D A (List.flatten [bMo g o a th hi ac tp 379 x_27 at2_28 fl 0 0 0 tU2_30 fm fk fa fc ft ff_19 fb fi]) := hD
        exact mret_i hx hb hr hlocks hS (Nat.le_of_ble_eq_true rfl) (Nat.le_of_ble_eq_true rfl) dX12_turnsBy_187 ((379 : Int32), x_27, at2_28, (0 : Int32), (0 : Int32), (0 : Int32), tU2_30, ff_19, tU2_30) rfl (show (0 ≤ (0 : Int32).toInt ∧ (0 : Int32).toInt ≤ 1) ∧ (0 ≤ (0 : Int32).toInt ∧ (0 : Int32).toInt ≤ 1) from ⟨(by first | assumption | omega | decide | exact rfl | exact zb01 (by omega) | exact Or.inl (by decide) | exact Or.inr (by first | omega | decide)), (by first | assumption | omega | decide | exact rfl | exact zb01 (by omega) | exact Or.inl (by decide) | exact Or.inr (by first | omega | decide))⟩) hP hD
      · skip
        have c33 : 0 < q_23.toInt := zlti (Int32.not_le.mp cb9) (by decide) rfl
        have n34 : 1 ≤ q_23.toInt := zL2 (a := 0) c33 (Int.le_refl _) (by decide)
        refine lv_iconst (v := 1) hx hb dX12_turnsBy_122 (by decide) ?_
        refine lv_goto (tgt := 127) hx hb dX12_turnsBy_123 (by decide) ?_
        refine va_put (D := g.1) (ci := 10) (v := .int 1) (ty := .boolean) (C := RX12) (T := TX12) (N := 20) hx hb hts izRX12 tyX12 tyX12_ok nmX12 hown hK hP hD hS 0 rfl rfl 16 (by decide) (hts _ k943) (fun _ h9 => h9) rfl (by decide +kernel) rfl rfl (Nat.le_of_ble_eq_true rfl) dX12_turnsBy_127 (fun H locs hP hD hS => ?_)
        have hP : va_P g.1 vwCl (List.flatten [bMo g o a th hi ac tp ba en tA fl de 0 1 tU fm fk fa fc ft ff_19 fb fi]) H := hP
        have hD : va_D A (List.flatten [bMo g o a th hi ac tp ba en tA fl de 0 1 tU fm fk fa fc ft ff_19 fb fi]) := hD
        refine lv_aload_n hx hb dX12_turnsBy_130 rfl (lv_at hl 0 rfl) ?_
        refine lv_iconst (v := 0) hx hb dX12_turnsBy_131 (by decide) ?_
        refine va_put (D := g.1) (ci := 10) (v := .int 0) (ty := .int) (C := RX12) (T := TX12) (N := 20) hx hb hts izRX12 tyX12 tyX12_ok nmX12 hown hK hP hD hS 0 rfl rfl 17 (by decide) (hts _ k963) (fun _ h9 => h9) rfl (by decide +kernel) rfl rfl (Nat.le_of_ble_eq_true rfl) dX12_turnsBy_132 (fun H locs hP hD hS => ?_)
        have hP : va_P g.1 vwCl (List.flatten [bMo g o a th hi ac tp ba en tA fl de 0 1 0 fm fk fa fc ft ff_19 fb fi]) H := hP
        have hD : va_D A (List.flatten [bMo g o a th hi ac tp ba en tA fl de 0 1 0 fm fk fa fc ft ff_19 fb fi]) := hD
        refine lv_aload_n hx hb dX12_turnsBy_135 rfl (lv_at hl 0 rfl) ?_
        refine va_get (D := g.1) (ci := 10) (v := .int fl) (C := RX12) (T := TX12) (N := 20) hx hb hts izRX12 hown hK hP 0 rfl rfl 12 (by decide) (hts _ k820) (fun _ h9 => h9) rfl dX12_turnsBy_136 ?_
        refine lv_istore_n (lv' := [(2, .int fl), (0, .ref o), (1, .int x)]) hx hb dX12_turnsBy_139 rfl hl (by decide) rfl (fun ls hl => ?_)
        refine lv_aload_n hx hb dX12_turnsBy_140 rfl (lv_at hl 1 rfl) ?_
        refine lv_iconst (v := (-1)) hx hb dX12_turnsBy_141 (by decide) ?_
        refine va_put (D := g.1) (ci := 10) (v := .int (-1)) (ty := .int) (C := RX12) (T := TX12) (N := 20) hx hb hts izRX12 tyX12 tyX12_ok nmX12 hown hK hP hD hS 0 rfl rfl 12 (by decide) (hts _ k820) (fun _ h9 => h9) rfl (by decide +kernel) rfl rfl (Nat.le_of_ble_eq_true rfl) dX12_turnsBy_142 (fun H locs hP hD hS => ?_)
        have hP : va_P g.1 vwCl (List.flatten [bMo g o a th hi ac tp ba en tA (-1) de 0 1 0 fm fk fa fc ft ff_19 fb fi]) H := hP
        have hD : va_D A (List.flatten [bMo g o a th hi ac tp ba en tA (-1) de 0 1 0 fm fk fa fc ft ff_19 fb fi]) := hD
        refine lv_aload_n hx hb dX12_turnsBy_145 rfl (lv_at hl 1 rfl) ?_
        refine lv_sipush (v := 379) hx hb dX12_turnsBy_146 (by decide) ?_
        refine va_put (D := g.1) (ci := 10) (v := .int 379) (ty := .int) (C := RX12) (T := TX12) (N := 20) hx hb hts izRX12 tyX12 tyX12_ok nmX12 hown hK hP hD hS 0 rfl rfl 9 (by decide) (hts _ k876) (fun _ h9 => h9) rfl (by decide +kernel) rfl rfl (Nat.le_of_ble_eq_true rfl) dX12_turnsBy_149 (fun H locs hP hD hS => ?_)
        have hP : va_P g.1 vwCl (List.flatten [bMo g o a th hi ac tp 379 en tA (-1) de 0 1 0 fm fk fa fc ft ff_19 fb fi]) H := hP
        have hD : va_D A (List.flatten [bMo g o a th hi ac tp 379 en tA (-1) de 0 1 0 fm fk fa fc ft ff_19 fb fi]) := hD
        refine lv_aload_n hx hb dX12_turnsBy_152 rfl (lv_at hl 1 rfl) ?_
        refine lv_aload_n hx hb dX12_turnsBy_153 rfl (lv_at hl 1 rfl) ?_
        refine va_get (D := g.1) (ci := 10) (v := .ref (a 0)) (C := RX12) (T := TX12) (N := 20) hx hb hts izRX12 hown hK hP 0 rfl rfl 1 (by decide) (hts _ k815) (fun _ h9 => h9) rfl dX12_turnsBy_154 ?_
        refine lv_iconst (v := 2) hx hb dX12_turnsBy_157 (by decide) ?_
        refine va_iald hx hb hK hP 1 0 rfl rfl (zin rfl) dX12_turnsBy_158 ?_
        refine zgq (r := fm 2) rfl (rM2 rfm) (fun x_35 hx_35 => ?_)
        refine va_put (D := g.1) (ci := 10) (v := .int x_35) (ty := .int) (C := RX12) (T := TX12) (N := 20) hx hb hts izRX12 tyX12 tyX12_ok nmX12 hown hK hP hD hS 0 rfl rfl 10 (by decide) (hts _ k879) (fun _ h9 => h9) rfl (by decide +kernel) rfl rfl (Nat.le_of_ble_eq_true rfl) dX12_turnsBy_159 (fun H locs hP hD hS => ?_)
        have hP : va_P g.1 vwCl (List.flatten [bMo g o a th hi ac tp 379 x_35 tA (-1) de 0 1 0 fm fk fa fc ft ff_19 fb fi]) H := hP
        have hD : va_D A (List.flatten [bMo g o a th hi ac tp 379 x_35 tA (-1) de 0 1 0 fm fk fa fc ft ff_19 fb fi]) := hD
        refine lv_aload_n hx hb dX12_turnsBy_162 rfl (lv_at hl 1 rfl) ?_
        refine lv_iconst (v := 0) hx hb dX12_turnsBy_163 (by decide) ?_
        refine va_put (D := g.1) (ci := 10) (v := .int 0) (ty := .int) (C := RX12) (T := TX12) (N := 20) hx hb hts izRX12 tyX12 tyX12_ok nmX12 hown hK hP hD hS 0 rfl rfl 11 (by decide) (hts _ k878) (fun _ h9 => h9) rfl (by decide +kernel) rfl rfl (Nat.le_of_ble_eq_true rfl) dX12_turnsBy_164 (fun H locs hP hD hS => ?_)
        have hP : va_P g.1 vwCl (List.flatten [bMo g o a th hi ac tp 379 x_35 0 (-1) de 0 1 0 fm fk fa fc ft ff_19 fb fi]) H := hP
        have hD : va_D A (List.flatten [bMo g o a th hi ac tp 379 x_35 0 (-1) de 0 1 0 fm fk fa fc ft ff_19 fb fi]) := hD
        refine lv_aload_n hx hb dX12_turnsBy_167 rfl (lv_at hl 1 rfl) ?_
        refine lv_iconst (v := 0) hx hb dX12_turnsBy_168 (by decide) ?_
        refine va_put (D := g.1) (ci := 10) (v := .int 0) (ty := .int) (C := RX12) (T := TX12) (N := 20) hx hb hts izRX12 tyX12 tyX12_ok nmX12 hown hK hP hD hS 0 rfl rfl 13 (by decide) (hts _ k933) (fun _ h9 => h9) rfl (by decide +kernel) rfl rfl (Nat.le_of_ble_eq_true rfl) dX12_turnsBy_169 (fun H locs hP hD hS => ?_)
        have hP : va_P g.1 vwCl (List.flatten [bMo g o a th hi ac tp 379 x_35 0 (-1) 0 0 1 0 fm fk fa fc ft ff_19 fb fi]) H := hP
        have hD : va_D A (List.flatten [bMo g o a th hi ac tp 379 x_35 0 (-1) 0 0 1 0 fm fk fa fc ft ff_19 fb fi]) := hD
        refine lv_aload_n hx hb dX12_turnsBy_172 rfl (lv_at hl 1 rfl) ?_
        refine lv_iconst (v := 1) hx hb dX12_turnsBy_173 (by decide) ?_
        have hL1 : (1 : Int32).toInt = 1 := by decide
        have hL379 : (379 : Int32).toInt = 379 := by decide
        refine mcallV' (g := g) (q0 := 0) (ci := 10) (As := [.int 1]) (rest := []) St hK hT hA hP hD hS hl.1 [0] [] rfl rfl rfl (m_readT l g o a th hi ac tp 379 x_35 0 (-1) 0 1 0 fm fk fa fc ft ff_19 fb fi (by decide) (by decide) (by first | assumption | omega | decide | exact Or.inl (by decide) | exact Or.inr (by decide)) (⟨hx_35.1, hx_35.2.1⟩) (by first | assumption | omega | decide | exact Or.inl (by decide) | exact Or.inr (by decide)) (by first | assumption | omega | decide | exact Or.inl (by decide) | exact Or.inr (by decide)) (by first | assumption | omega | decide | exact Or.inl (by decide) | exact Or.inr (by decide))) (cwV 1 hts (zgL (zl4 k981 k982 k983 k839) k971) rfl rfl rfl (by decide +kernel) ⟨Nat.le_of_ble_eq_true rfl, Nat.le_of_ble_eq_true rfl⟩) rfl rfl rfl rfl (Nat.le_of_ble_eq_true rfl) dX12_turnsBy_174 ⟨(Nat.le_of_ble_eq_true rfl), (Nat.le_of_ble_eq_true rfl)⟩ (fun u_ H locs hq40 hP hD hS => ?_)
        obtain ⟨at2_36, fl2_37, tU2_38, q_39⟩ := u_
        replace hq40 : (0 ≤ at2_36.toInt ∧ at2_36.toInt ≤ x_35.toInt + 7 - 0) ∧ ((0 : Int32).toInt ≤ at2_36.toInt) ∧ (-1 ≤ fl2_37.toInt) := hq40
        have hP : va_P g.1 vwCl (List.flatten [bMo g o a th hi ac tp 379 x_35 at2_36 fl2_37 0 0 1 tU2_38 fm fk fa fc ft ff_19 fb fi]) H := hP
        have hD : va_D A (List.flatten [bMo g o a th hi ac tp 379 x_35 at2_36 fl2_37 0 0 1 tU2_38 fm fk fa fc ft ff_19 fb fi]) := hD
        refine W.widen (k := 0) (n := 0) (Nat.le_of_ble_eq_true rfl) (Nat.le_of_ble_eq_true rfl) ?_
        refine W.eq (g2 := F0 m 177 ls [.int q_39]) rfl ?_
        obtain ⟨hq40_0, hq40_1, hq40_2⟩ := hq40
        refine lv_istore_n (lv' := [(3, .int q_39), (2, .int fl), (0, .ref o), (1, .int x)]) hx hb dX12_turnsBy_177 rfl hl (by decide) rfl (fun ls hl => ?_)
        refine lv_aload_n hx hb dX12_turnsBy_178 rfl (lv_at hl 2 rfl) ?_
        refine lv_iload_n hx hb dX12_turnsBy_179 rfl (lv_at hl 1 rfl) ?_
        refine va_put (D := g.1) (ci := 10) (v := .int fl) (ty := .int) (C := RX12) (T := TX12) (N := 20) hx hb hts izRX12 tyX12 tyX12_ok nmX12 hown hK hP hD hS 0 rfl rfl 12 (by decide) (hts _ k820) (fun _ h9 => h9) rfl (by decide +kernel) rfl rfl (Nat.le_of_ble_eq_true rfl) dX12_turnsBy_180 (fun H locs hP hD hS => ?_)
        have hP : va_P g.1 vwCl (List.flatten [bMo g o a th hi ac tp 379 x_35 at2_36 fl 0 0 1 tU2_38 fm fk fa fc ft ff_19 fb fi]) H := hP
        have hD : va_D A (List.flatten [bMo g o a th hi ac tp 379 x_35 at2_36 fl 0 0 1 tU2_38 fm fk fa fc ft ff_19 fb fi]) := hD
        refine lv_aload_n hx hb dX12_turnsBy_183 rfl (lv_at hl 2 rfl) ?_
        refine va_get (D := g.1) (ci := 10) (v := .int tU2_38) (C := RX12) (T := TX12) (N := 20) hx hb hts izRX12 hown hK hP 0 rfl rfl 17 (by decide) (hts _ k963) (fun _ h9 => h9) rfl dX12_turnsBy_184 ?_
        have hP : va_P g.1 vwCl (List.flatten [bMo g o a th hi ac tp 379 x_35 at2_36 fl 0 0 1 tU2_38 fm fk fa fc ft ff_19 fb fi]) H := hP
        have hD : va_D A (List.flatten [bMo g o a th hi ac tp 379 x_35 at2_36 fl 0 0 1 tU2_38 fm fk fa fc ft ff_19 fb fi]) := hD
        exact mret_i hx hb hr hlocks hS (Nat.le_of_ble_eq_true rfl) (Nat.le_of_ble_eq_true rfl) dX12_turnsBy_187 ((379 : Int32), x_35, at2_36, (0 : Int32), (0 : Int32), (1 : Int32), tU2_38, ff_19, tU2_38) rfl (show (0 ≤ (1 : Int32).toInt ∧ (1 : Int32).toInt ≤ 1) ∧ (0 ≤ (0 : Int32).toInt ∧ (0 : Int32).toInt ≤ 1) from ⟨(by first | assumption | omega | decide | exact rfl | exact zb01 (by omega) | exact Or.inl (by decide) | exact Or.inr (by first | omega | decide)), (by first | assumption | omega | decide | exact rfl | exact zb01 (by omega) | exact Or.inl (by decide) | exact Or.inr (by first | omega | decide))⟩) hP hD
    · skip
      have c41 : q_20.toInt = 1 := zeq cb9 rfl (by decide)
      have n42 : 1 ≤ q_20.toInt := Int.le_trans (Int.le_refl _) (Int.le_of_eq c41.symm)
      have n43 : q_20.toInt ≤ 1 := Int.le_trans (Int.le_of_eq c41) (Int.le_refl _)
      refine lv_iconst (v := 1) hx hb dX12_turnsBy_104 (by decide) ?_
      refine lv_goto (tgt := 109) hx hb dX12_turnsBy_105 (by decide) ?_
      refine va_put (D := g.1) (ci := 10) (v := .int 1) (ty := .boolean) (C := RX12) (T := TX12) (N := 20) hx hb hts izRX12 tyX12 tyX12_ok nmX12 hown hK hP hD hS 0 rfl rfl 15 (by decide) (hts _ k942) (fun _ h9 => h9) rfl (by decide +kernel) rfl rfl (Nat.le_of_ble_eq_true rfl) dX12_turnsBy_109 (fun H locs hP hD hS => ?_)
      have hP : va_P g.1 vwCl (List.flatten [bMo g o a th hi ac tp ba en tA fl de 1 iO tU fm fk fa fc ft ff_19 fb fi]) H := hP
      have hD : va_D A (List.flatten [bMo g o a th hi ac tp ba en tA fl de 1 iO tU fm fk fa fc ft ff_19 fb fi]) := hD
      refine lv_aload_n hx hb dX12_turnsBy_112 rfl (lv_at hl 0 rfl) ?_
      refine lv_aload_n hx hb dX12_turnsBy_113 rfl (lv_at hl 0 rfl) ?_
      refine lv_iload_n hx hb dX12_turnsBy_114 rfl (lv_at hl 1 rfl) ?_
      refine lv_iconst (v := 2) hx hb dX12_turnsBy_115 (by decide) ?_
      have hL2 : (2 : Int32).toInt = 2 := by decide
      refine mcallV' (g := g) (q0 := 0) (ci := 10) (As := [.int x, .int 2]) (rest := [.ref o]) St hK hT hA hP hD hS hl.1 [0] [] rfl rfl rfl (m_of l g o a th hi ac tp ba en tA fl de 1 iO tU fm fk fa fc ft ff_19 fb fi x 2 b_x (by decide)) (cwV 2 hts (zgL (zl4 k842 k843 k844 k839) k831) rfl rfl rfl (by decide +kernel) ⟨Nat.le_of_ble_eq_true rfl, Nat.le_of_ble_eq_true rfl⟩) rfl rfl rfl rfl (Nat.le_of_ble_eq_true rfl) dX12_turnsBy_116 ⟨(Nat.le_of_ble_eq_true rfl), (Nat.le_of_ble_eq_true rfl)⟩ (fun q_44 H locs hq45 hP hD hS => ?_)
      have hP : va_P g.1 vwCl (List.flatten [bMo g o a th hi ac tp ba en tA fl de 1 iO tU fm fk fa fc ft ff_19 fb fi]) H := hP
      have hD : va_D A (List.flatten [bMo g o a th hi ac tp ba en tA fl de 1 iO tU fm fk fa fc ft ff_19 fb fi]) := hD
      refine W.widen (k := 0) (n := 0) (Nat.le_of_ble_eq_true rfl) (Nat.le_of_ble_eq_true rfl) ?_
      refine W.eq (g2 := F0 m 119 ls [.int q_44, .ref o]) rfl ?_
      refine lv_if_le (tgt := 126) hx hb dX12_turnsBy_119 (by decide) (fun cb9 => ?_) (fun cb9 => ?_)
      · skip
        have c46 : q_44.toInt ≤ 0 := zle cb9 rfl (by decide)
        have n47 : q_44.toInt ≤ 0 := Int.le_trans c46 (Int.le_refl _)
        refine lv_iconst (v := 0) hx hb dX12_turnsBy_126 (by decide) ?_
        refine va_put (D := g.1) (ci := 10) (v := .int 0) (ty := .boolean) (C := RX12) (T := TX12) (N := 20) hx hb hts izRX12 tyX12 tyX12_ok nmX12 hown hK hP hD hS 0 rfl rfl 16 (by decide) (hts _ k943) (fun _ h9 => h9) rfl (by decide +kernel) rfl rfl (Nat.le_of_ble_eq_true rfl) dX12_turnsBy_127 (fun H locs hP hD hS => ?_)
        have hP : va_P g.1 vwCl (List.flatten [bMo g o a th hi ac tp ba en tA fl de 1 0 tU fm fk fa fc ft ff_19 fb fi]) H := hP
        have hD : va_D A (List.flatten [bMo g o a th hi ac tp ba en tA fl de 1 0 tU fm fk fa fc ft ff_19 fb fi]) := hD
        refine lv_aload_n hx hb dX12_turnsBy_130 rfl (lv_at hl 0 rfl) ?_
        refine lv_iconst (v := 0) hx hb dX12_turnsBy_131 (by decide) ?_
        refine va_put (D := g.1) (ci := 10) (v := .int 0) (ty := .int) (C := RX12) (T := TX12) (N := 20) hx hb hts izRX12 tyX12 tyX12_ok nmX12 hown hK hP hD hS 0 rfl rfl 17 (by decide) (hts _ k963) (fun _ h9 => h9) rfl (by decide +kernel) rfl rfl (Nat.le_of_ble_eq_true rfl) dX12_turnsBy_132 (fun H locs hP hD hS => ?_)
        have hP : va_P g.1 vwCl (List.flatten [bMo g o a th hi ac tp ba en tA fl de 1 0 0 fm fk fa fc ft ff_19 fb fi]) H := hP
        have hD : va_D A (List.flatten [bMo g o a th hi ac tp ba en tA fl de 1 0 0 fm fk fa fc ft ff_19 fb fi]) := hD
        refine lv_aload_n hx hb dX12_turnsBy_135 rfl (lv_at hl 0 rfl) ?_
        refine va_get (D := g.1) (ci := 10) (v := .int fl) (C := RX12) (T := TX12) (N := 20) hx hb hts izRX12 hown hK hP 0 rfl rfl 12 (by decide) (hts _ k820) (fun _ h9 => h9) rfl dX12_turnsBy_136 ?_
        refine lv_istore_n (lv' := [(2, .int fl), (0, .ref o), (1, .int x)]) hx hb dX12_turnsBy_139 rfl hl (by decide) rfl (fun ls hl => ?_)
        refine lv_aload_n hx hb dX12_turnsBy_140 rfl (lv_at hl 1 rfl) ?_
        refine lv_iconst (v := (-1)) hx hb dX12_turnsBy_141 (by decide) ?_
        refine va_put (D := g.1) (ci := 10) (v := .int (-1)) (ty := .int) (C := RX12) (T := TX12) (N := 20) hx hb hts izRX12 tyX12 tyX12_ok nmX12 hown hK hP hD hS 0 rfl rfl 12 (by decide) (hts _ k820) (fun _ h9 => h9) rfl (by decide +kernel) rfl rfl (Nat.le_of_ble_eq_true rfl) dX12_turnsBy_142 (fun H locs hP hD hS => ?_)
        have hP : va_P g.1 vwCl (List.flatten [bMo g o a th hi ac tp ba en tA (-1) de 1 0 0 fm fk fa fc ft ff_19 fb fi]) H := hP
        have hD : va_D A (List.flatten [bMo g o a th hi ac tp ba en tA (-1) de 1 0 0 fm fk fa fc ft ff_19 fb fi]) := hD
        refine lv_aload_n hx hb dX12_turnsBy_145 rfl (lv_at hl 1 rfl) ?_
        refine lv_sipush (v := 379) hx hb dX12_turnsBy_146 (by decide) ?_
        refine va_put (D := g.1) (ci := 10) (v := .int 379) (ty := .int) (C := RX12) (T := TX12) (N := 20) hx hb hts izRX12 tyX12 tyX12_ok nmX12 hown hK hP hD hS 0 rfl rfl 9 (by decide) (hts _ k876) (fun _ h9 => h9) rfl (by decide +kernel) rfl rfl (Nat.le_of_ble_eq_true rfl) dX12_turnsBy_149 (fun H locs hP hD hS => ?_)
        have hP : va_P g.1 vwCl (List.flatten [bMo g o a th hi ac tp 379 en tA (-1) de 1 0 0 fm fk fa fc ft ff_19 fb fi]) H := hP
        have hD : va_D A (List.flatten [bMo g o a th hi ac tp 379 en tA (-1) de 1 0 0 fm fk fa fc ft ff_19 fb fi]) := hD
        refine lv_aload_n hx hb dX12_turnsBy_152 rfl (lv_at hl 1 rfl) ?_
        refine lv_aload_n hx hb dX12_turnsBy_153 rfl (lv_at hl 1 rfl) ?_
        refine va_get (D := g.1) (ci := 10) (v := .ref (a 0)) (C := RX12) (T := TX12) (N := 20) hx hb hts izRX12 hown hK hP 0 rfl rfl 1 (by decide) (hts _ k815) (fun _ h9 => h9) rfl dX12_turnsBy_154 ?_
        refine lv_iconst (v := 2) hx hb dX12_turnsBy_157 (by decide) ?_
        refine va_iald hx hb hK hP 1 0 rfl rfl (zin rfl) dX12_turnsBy_158 ?_
        refine zgq (r := fm 2) rfl (rM2 rfm) (fun x_48 hx_48 => ?_)
        refine va_put (D := g.1) (ci := 10) (v := .int x_48) (ty := .int) (C := RX12) (T := TX12) (N := 20) hx hb hts izRX12 tyX12 tyX12_ok nmX12 hown hK hP hD hS 0 rfl rfl 10 (by decide) (hts _ k879) (fun _ h9 => h9) rfl (by decide +kernel) rfl rfl (Nat.le_of_ble_eq_true rfl) dX12_turnsBy_159 (fun H locs hP hD hS => ?_)
        have hP : va_P g.1 vwCl (List.flatten [bMo g o a th hi ac tp 379 x_48 tA (-1) de 1 0 0 fm fk fa fc ft ff_19 fb fi]) H := hP
        have hD : va_D A (List.flatten [bMo g o a th hi ac tp 379 x_48 tA (-1) de 1 0 0 fm fk fa fc ft ff_19 fb fi]) := hD
        refine lv_aload_n hx hb dX12_turnsBy_162 rfl (lv_at hl 1 rfl) ?_
        refine lv_iconst (v := 0) hx hb dX12_turnsBy_163 (by decide) ?_
        refine va_put (D := g.1) (ci := 10) (v := .int 0) (ty := .int) (C := RX12) (T := TX12) (N := 20) hx hb hts izRX12 tyX12 tyX12_ok nmX12 hown hK hP hD hS 0 rfl rfl 11 (by decide) (hts _ k878) (fun _ h9 => h9) rfl (by decide +kernel) rfl rfl (Nat.le_of_ble_eq_true rfl) dX12_turnsBy_164 (fun H locs hP hD hS => ?_)
        have hP : va_P g.1 vwCl (List.flatten [bMo g o a th hi ac tp 379 x_48 0 (-1) de 1 0 0 fm fk fa fc ft ff_19 fb fi]) H := hP
        have hD : va_D A (List.flatten [bMo g o a th hi ac tp 379 x_48 0 (-1) de 1 0 0 fm fk fa fc ft ff_19 fb fi]) := hD
        refine lv_aload_n hx hb dX12_turnsBy_167 rfl (lv_at hl 1 rfl) ?_
        refine lv_iconst (v := 0) hx hb dX12_turnsBy_168 (by decide) ?_
        refine va_put (D := g.1) (ci := 10) (v := .int 0) (ty := .int) (C := RX12) (T := TX12) (N := 20) hx hb hts izRX12 tyX12 tyX12_ok nmX12 hown hK hP hD hS 0 rfl rfl 13 (by decide) (hts _ k933) (fun _ h9 => h9) rfl (by decide +kernel) rfl rfl (Nat.le_of_ble_eq_true rfl) dX12_turnsBy_169 (fun H locs hP hD hS => ?_)
        have hP : va_P g.1 vwCl (List.flatten [bMo g o a th hi ac tp 379 x_48 0 (-1) 0 1 0 0 fm fk fa fc ft ff_19 fb fi]) H := hP
        have hD : va_D A (List.flatten [bMo g o a th hi ac tp 379 x_48 0 (-1) 0 1 0 0 fm fk fa fc ft ff_19 fb fi]) := hD
        refine lv_aload_n hx hb dX12_turnsBy_172 rfl (lv_at hl 1 rfl) ?_
        refine lv_iconst (v := 1) hx hb dX12_turnsBy_173 (by decide) ?_
        have hL1 : (1 : Int32).toInt = 1 := by decide
        have hL379 : (379 : Int32).toInt = 379 := by decide
        refine mcallV' (g := g) (q0 := 0) (ci := 10) (As := [.int 1]) (rest := []) St hK hT hA hP hD hS hl.1 [0] [] rfl rfl rfl (m_readT l g o a th hi ac tp 379 x_48 0 (-1) 1 0 0 fm fk fa fc ft ff_19 fb fi (by decide) (by decide) (by first | assumption | omega | decide | exact Or.inl (by decide) | exact Or.inr (by decide)) (⟨hx_48.1, hx_48.2.1⟩) (by first | assumption | omega | decide | exact Or.inl (by decide) | exact Or.inr (by decide)) (by first | assumption | omega | decide | exact Or.inl (by decide) | exact Or.inr (by decide)) (by first | assumption | omega | decide | exact Or.inl (by decide) | exact Or.inr (by decide))) (cwV 1 hts (zgL (zl4 k981 k982 k983 k839) k971) rfl rfl rfl (by decide +kernel) ⟨Nat.le_of_ble_eq_true rfl, Nat.le_of_ble_eq_true rfl⟩) rfl rfl rfl rfl (Nat.le_of_ble_eq_true rfl) dX12_turnsBy_174 ⟨(Nat.le_of_ble_eq_true rfl), (Nat.le_of_ble_eq_true rfl)⟩ (fun u_ H locs hq53 hP hD hS => ?_)
        obtain ⟨at2_49, fl2_50, tU2_51, q_52⟩ := u_
        replace hq53 : (0 ≤ at2_49.toInt ∧ at2_49.toInt ≤ x_48.toInt + 7 - 0) ∧ ((0 : Int32).toInt ≤ at2_49.toInt) ∧ (-1 ≤ fl2_50.toInt) := hq53
        have hP : va_P g.1 vwCl (List.flatten [bMo g o a th hi ac tp 379 x_48 at2_49 fl2_50 0 1 0 tU2_51 fm fk fa fc ft ff_19 fb fi]) H := hP
        have hD : va_D A (List.flatten [bMo g o a th hi ac tp 379 x_48 at2_49 fl2_50 0 1 0 tU2_51 fm fk fa fc ft ff_19 fb fi]) := hD
        refine W.widen (k := 0) (n := 0) (Nat.le_of_ble_eq_true rfl) (Nat.le_of_ble_eq_true rfl) ?_
        refine W.eq (g2 := F0 m 177 ls [.int q_52]) rfl ?_
        obtain ⟨hq53_0, hq53_1, hq53_2⟩ := hq53
        refine lv_istore_n (lv' := [(3, .int q_52), (2, .int fl), (0, .ref o), (1, .int x)]) hx hb dX12_turnsBy_177 rfl hl (by decide) rfl (fun ls hl => ?_)
        refine lv_aload_n hx hb dX12_turnsBy_178 rfl (lv_at hl 2 rfl) ?_
        refine lv_iload_n hx hb dX12_turnsBy_179 rfl (lv_at hl 1 rfl) ?_
        refine va_put (D := g.1) (ci := 10) (v := .int fl) (ty := .int) (C := RX12) (T := TX12) (N := 20) hx hb hts izRX12 tyX12 tyX12_ok nmX12 hown hK hP hD hS 0 rfl rfl 12 (by decide) (hts _ k820) (fun _ h9 => h9) rfl (by decide +kernel) rfl rfl (Nat.le_of_ble_eq_true rfl) dX12_turnsBy_180 (fun H locs hP hD hS => ?_)
        have hP : va_P g.1 vwCl (List.flatten [bMo g o a th hi ac tp 379 x_48 at2_49 fl 0 1 0 tU2_51 fm fk fa fc ft ff_19 fb fi]) H := hP
        have hD : va_D A (List.flatten [bMo g o a th hi ac tp 379 x_48 at2_49 fl 0 1 0 tU2_51 fm fk fa fc ft ff_19 fb fi]) := hD
        refine lv_aload_n hx hb dX12_turnsBy_183 rfl (lv_at hl 2 rfl) ?_
        refine va_get (D := g.1) (ci := 10) (v := .int tU2_51) (C := RX12) (T := TX12) (N := 20) hx hb hts izRX12 hown hK hP 0 rfl rfl 17 (by decide) (hts _ k963) (fun _ h9 => h9) rfl dX12_turnsBy_184 ?_
        have hP : va_P g.1 vwCl (List.flatten [bMo g o a th hi ac tp 379 x_48 at2_49 fl 0 1 0 tU2_51 fm fk fa fc ft ff_19 fb fi]) H := hP
        have hD : va_D A (List.flatten [bMo g o a th hi ac tp 379 x_48 at2_49 fl 0 1 0 tU2_51 fm fk fa fc ft ff_19 fb fi]) := hD
        exact mret_i hx hb hr hlocks hS (Nat.le_of_ble_eq_true rfl) (Nat.le_of_ble_eq_true rfl) dX12_turnsBy_187 ((379 : Int32), x_48, at2_49, (0 : Int32), (1 : Int32), (0 : Int32), tU2_51, ff_19, tU2_51) rfl (show (0 ≤ (0 : Int32).toInt ∧ (0 : Int32).toInt ≤ 1) ∧ (0 ≤ (1 : Int32).toInt ∧ (1 : Int32).toInt ≤ 1) from ⟨(by first | assumption | omega | decide | exact rfl | exact zb01 (by omega) | exact Or.inl (by decide) | exact Or.inr (by first | omega | decide)), (by first | assumption | omega | decide | exact rfl | exact zb01 (by omega) | exact Or.inl (by decide) | exact Or.inr (by first | omega | decide))⟩) hP hD
      · skip
        have c54 : 0 < q_44.toInt := zlti (Int32.not_le.mp cb9) (by decide) rfl
        have n55 : 1 ≤ q_44.toInt := zL2 (a := 0) c54 (Int.le_refl _) (by decide)
        refine lv_iconst (v := 1) hx hb dX12_turnsBy_122 (by decide) ?_
        refine lv_goto (tgt := 127) hx hb dX12_turnsBy_123 (by decide) ?_
        refine va_put (D := g.1) (ci := 10) (v := .int 1) (ty := .boolean) (C := RX12) (T := TX12) (N := 20) hx hb hts izRX12 tyX12 tyX12_ok nmX12 hown hK hP hD hS 0 rfl rfl 16 (by decide) (hts _ k943) (fun _ h9 => h9) rfl (by decide +kernel) rfl rfl (Nat.le_of_ble_eq_true rfl) dX12_turnsBy_127 (fun H locs hP hD hS => ?_)
        have hP : va_P g.1 vwCl (List.flatten [bMo g o a th hi ac tp ba en tA fl de 1 1 tU fm fk fa fc ft ff_19 fb fi]) H := hP
        have hD : va_D A (List.flatten [bMo g o a th hi ac tp ba en tA fl de 1 1 tU fm fk fa fc ft ff_19 fb fi]) := hD
        refine lv_aload_n hx hb dX12_turnsBy_130 rfl (lv_at hl 0 rfl) ?_
        refine lv_iconst (v := 0) hx hb dX12_turnsBy_131 (by decide) ?_
        refine va_put (D := g.1) (ci := 10) (v := .int 0) (ty := .int) (C := RX12) (T := TX12) (N := 20) hx hb hts izRX12 tyX12 tyX12_ok nmX12 hown hK hP hD hS 0 rfl rfl 17 (by decide) (hts _ k963) (fun _ h9 => h9) rfl (by decide +kernel) rfl rfl (Nat.le_of_ble_eq_true rfl) dX12_turnsBy_132 (fun H locs hP hD hS => ?_)
        have hP : va_P g.1 vwCl (List.flatten [bMo g o a th hi ac tp ba en tA fl de 1 1 0 fm fk fa fc ft ff_19 fb fi]) H := hP
        have hD : va_D A (List.flatten [bMo g o a th hi ac tp ba en tA fl de 1 1 0 fm fk fa fc ft ff_19 fb fi]) := hD
        refine lv_aload_n hx hb dX12_turnsBy_135 rfl (lv_at hl 0 rfl) ?_
        refine va_get (D := g.1) (ci := 10) (v := .int fl) (C := RX12) (T := TX12) (N := 20) hx hb hts izRX12 hown hK hP 0 rfl rfl 12 (by decide) (hts _ k820) (fun _ h9 => h9) rfl dX12_turnsBy_136 ?_
        refine lv_istore_n (lv' := [(2, .int fl), (0, .ref o), (1, .int x)]) hx hb dX12_turnsBy_139 rfl hl (by decide) rfl (fun ls hl => ?_)
        refine lv_aload_n hx hb dX12_turnsBy_140 rfl (lv_at hl 1 rfl) ?_
        refine lv_iconst (v := (-1)) hx hb dX12_turnsBy_141 (by decide) ?_
        refine va_put (D := g.1) (ci := 10) (v := .int (-1)) (ty := .int) (C := RX12) (T := TX12) (N := 20) hx hb hts izRX12 tyX12 tyX12_ok nmX12 hown hK hP hD hS 0 rfl rfl 12 (by decide) (hts _ k820) (fun _ h9 => h9) rfl (by decide +kernel) rfl rfl (Nat.le_of_ble_eq_true rfl) dX12_turnsBy_142 (fun H locs hP hD hS => ?_)
        have hP : va_P g.1 vwCl (List.flatten [bMo g o a th hi ac tp ba en tA (-1) de 1 1 0 fm fk fa fc ft ff_19 fb fi]) H := hP
        have hD : va_D A (List.flatten [bMo g o a th hi ac tp ba en tA (-1) de 1 1 0 fm fk fa fc ft ff_19 fb fi]) := hD
        refine lv_aload_n hx hb dX12_turnsBy_145 rfl (lv_at hl 1 rfl) ?_
        refine lv_sipush (v := 379) hx hb dX12_turnsBy_146 (by decide) ?_
        refine va_put (D := g.1) (ci := 10) (v := .int 379) (ty := .int) (C := RX12) (T := TX12) (N := 20) hx hb hts izRX12 tyX12 tyX12_ok nmX12 hown hK hP hD hS 0 rfl rfl 9 (by decide) (hts _ k876) (fun _ h9 => h9) rfl (by decide +kernel) rfl rfl (Nat.le_of_ble_eq_true rfl) dX12_turnsBy_149 (fun H locs hP hD hS => ?_)
        have hP : va_P g.1 vwCl (List.flatten [bMo g o a th hi ac tp 379 en tA (-1) de 1 1 0 fm fk fa fc ft ff_19 fb fi]) H := hP
        have hD : va_D A (List.flatten [bMo g o a th hi ac tp 379 en tA (-1) de 1 1 0 fm fk fa fc ft ff_19 fb fi]) := hD
        refine lv_aload_n hx hb dX12_turnsBy_152 rfl (lv_at hl 1 rfl) ?_
        refine lv_aload_n hx hb dX12_turnsBy_153 rfl (lv_at hl 1 rfl) ?_
        refine va_get (D := g.1) (ci := 10) (v := .ref (a 0)) (C := RX12) (T := TX12) (N := 20) hx hb hts izRX12 hown hK hP 0 rfl rfl 1 (by decide) (hts _ k815) (fun _ h9 => h9) rfl dX12_turnsBy_154 ?_
        refine lv_iconst (v := 2) hx hb dX12_turnsBy_157 (by decide) ?_
        refine va_iald hx hb hK hP 1 0 rfl rfl (zin rfl) dX12_turnsBy_158 ?_
        refine zgq (r := fm 2) rfl (rM2 rfm) (fun x_56 hx_56 => ?_)
        refine va_put (D := g.1) (ci := 10) (v := .int x_56) (ty := .int) (C := RX12) (T := TX12) (N := 20) hx hb hts izRX12 tyX12 tyX12_ok nmX12 hown hK hP hD hS 0 rfl rfl 10 (by decide) (hts _ k879) (fun _ h9 => h9) rfl (by decide +kernel) rfl rfl (Nat.le_of_ble_eq_true rfl) dX12_turnsBy_159 (fun H locs hP hD hS => ?_)
        have hP : va_P g.1 vwCl (List.flatten [bMo g o a th hi ac tp 379 x_56 tA (-1) de 1 1 0 fm fk fa fc ft ff_19 fb fi]) H := hP
        have hD : va_D A (List.flatten [bMo g o a th hi ac tp 379 x_56 tA (-1) de 1 1 0 fm fk fa fc ft ff_19 fb fi]) := hD
        refine lv_aload_n hx hb dX12_turnsBy_162 rfl (lv_at hl 1 rfl) ?_
        refine lv_iconst (v := 0) hx hb dX12_turnsBy_163 (by decide) ?_
        refine va_put (D := g.1) (ci := 10) (v := .int 0) (ty := .int) (C := RX12) (T := TX12) (N := 20) hx hb hts izRX12 tyX12 tyX12_ok nmX12 hown hK hP hD hS 0 rfl rfl 11 (by decide) (hts _ k878) (fun _ h9 => h9) rfl (by decide +kernel) rfl rfl (Nat.le_of_ble_eq_true rfl) dX12_turnsBy_164 (fun H locs hP hD hS => ?_)
        have hP : va_P g.1 vwCl (List.flatten [bMo g o a th hi ac tp 379 x_56 0 (-1) de 1 1 0 fm fk fa fc ft ff_19 fb fi]) H := hP
        have hD : va_D A (List.flatten [bMo g o a th hi ac tp 379 x_56 0 (-1) de 1 1 0 fm fk fa fc ft ff_19 fb fi]) := hD
        refine lv_aload_n hx hb dX12_turnsBy_167 rfl (lv_at hl 1 rfl) ?_
        refine lv_iconst (v := 0) hx hb dX12_turnsBy_168 (by decide) ?_
        refine va_put (D := g.1) (ci := 10) (v := .int 0) (ty := .int) (C := RX12) (T := TX12) (N := 20) hx hb hts izRX12 tyX12 tyX12_ok nmX12 hown hK hP hD hS 0 rfl rfl 13 (by decide) (hts _ k933) (fun _ h9 => h9) rfl (by decide +kernel) rfl rfl (Nat.le_of_ble_eq_true rfl) dX12_turnsBy_169 (fun H locs hP hD hS => ?_)
        have hP : va_P g.1 vwCl (List.flatten [bMo g o a th hi ac tp 379 x_56 0 (-1) 0 1 1 0 fm fk fa fc ft ff_19 fb fi]) H := hP
        have hD : va_D A (List.flatten [bMo g o a th hi ac tp 379 x_56 0 (-1) 0 1 1 0 fm fk fa fc ft ff_19 fb fi]) := hD
        refine lv_aload_n hx hb dX12_turnsBy_172 rfl (lv_at hl 1 rfl) ?_
        refine lv_iconst (v := 1) hx hb dX12_turnsBy_173 (by decide) ?_
        have hL1 : (1 : Int32).toInt = 1 := by decide
        have hL379 : (379 : Int32).toInt = 379 := by decide
        refine mcallV' (g := g) (q0 := 0) (ci := 10) (As := [.int 1]) (rest := []) St hK hT hA hP hD hS hl.1 [0] [] rfl rfl rfl (m_readT l g o a th hi ac tp 379 x_56 0 (-1) 1 1 0 fm fk fa fc ft ff_19 fb fi (by decide) (by decide) (by first | assumption | omega | decide | exact Or.inl (by decide) | exact Or.inr (by decide)) (⟨hx_56.1, hx_56.2.1⟩) (by first | assumption | omega | decide | exact Or.inl (by decide) | exact Or.inr (by decide)) (by first | assumption | omega | decide | exact Or.inl (by decide) | exact Or.inr (by decide)) (by first | assumption | omega | decide | exact Or.inl (by decide) | exact Or.inr (by decide))) (cwV 1 hts (zgL (zl4 k981 k982 k983 k839) k971) rfl rfl rfl (by decide +kernel) ⟨Nat.le_of_ble_eq_true rfl, Nat.le_of_ble_eq_true rfl⟩) rfl rfl rfl rfl (Nat.le_of_ble_eq_true rfl) dX12_turnsBy_174 ⟨(Nat.le_of_ble_eq_true rfl), (Nat.le_of_ble_eq_true rfl)⟩ (fun u_ H locs hq61 hP hD hS => ?_)
        obtain ⟨at2_57, fl2_58, tU2_59, q_60⟩ := u_
        replace hq61 : (0 ≤ at2_57.toInt ∧ at2_57.toInt ≤ x_56.toInt + 7 - 0) ∧ ((0 : Int32).toInt ≤ at2_57.toInt) ∧ (-1 ≤ fl2_58.toInt) := hq61
        have hP : va_P g.1 vwCl (List.flatten [bMo g o a th hi ac tp 379 x_56 at2_57 fl2_58 0 1 1 tU2_59 fm fk fa fc ft ff_19 fb fi]) H := hP
        have hD : va_D A (List.flatten [bMo g o a th hi ac tp 379 x_56 at2_57 fl2_58 0 1 1 tU2_59 fm fk fa fc ft ff_19 fb fi]) := hD
        refine W.widen (k := 0) (n := 0) (Nat.le_of_ble_eq_true rfl) (Nat.le_of_ble_eq_true rfl) ?_
        refine W.eq (g2 := F0 m 177 ls [.int q_60]) rfl ?_
        obtain ⟨hq61_0, hq61_1, hq61_2⟩ := hq61
        refine lv_istore_n (lv' := [(3, .int q_60), (2, .int fl), (0, .ref o), (1, .int x)]) hx hb dX12_turnsBy_177 rfl hl (by decide) rfl (fun ls hl => ?_)
        refine lv_aload_n hx hb dX12_turnsBy_178 rfl (lv_at hl 2 rfl) ?_
        refine lv_iload_n hx hb dX12_turnsBy_179 rfl (lv_at hl 1 rfl) ?_
        refine va_put (D := g.1) (ci := 10) (v := .int fl) (ty := .int) (C := RX12) (T := TX12) (N := 20) hx hb hts izRX12 tyX12 tyX12_ok nmX12 hown hK hP hD hS 0 rfl rfl 12 (by decide) (hts _ k820) (fun _ h9 => h9) rfl (by decide +kernel) rfl rfl (Nat.le_of_ble_eq_true rfl) dX12_turnsBy_180 (fun H locs hP hD hS => ?_)
        have hP : va_P g.1 vwCl (List.flatten [bMo g o a th hi ac tp 379 x_56 at2_57 fl 0 1 1 tU2_59 fm fk fa fc ft ff_19 fb fi]) H := hP
        have hD : va_D A (List.flatten [bMo g o a th hi ac tp 379 x_56 at2_57 fl 0 1 1 tU2_59 fm fk fa fc ft ff_19 fb fi]) := hD
        refine lv_aload_n hx hb dX12_turnsBy_183 rfl (lv_at hl 2 rfl) ?_
        refine va_get (D := g.1) (ci := 10) (v := .int tU2_59) (C := RX12) (T := TX12) (N := 20) hx hb hts izRX12 hown hK hP 0 rfl rfl 17 (by decide) (hts _ k963) (fun _ h9 => h9) rfl dX12_turnsBy_184 ?_
        have hP : va_P g.1 vwCl (List.flatten [bMo g o a th hi ac tp 379 x_56 at2_57 fl 0 1 1 tU2_59 fm fk fa fc ft ff_19 fb fi]) H := hP
        have hD : va_D A (List.flatten [bMo g o a th hi ac tp 379 x_56 at2_57 fl 0 1 1 tU2_59 fm fk fa fc ft ff_19 fb fi]) := hD
        exact mret_i hx hb hr hlocks hS (Nat.le_of_ble_eq_true rfl) (Nat.le_of_ble_eq_true rfl) dX12_turnsBy_187 ((379 : Int32), x_56, at2_57, (0 : Int32), (1 : Int32), (1 : Int32), tU2_59, ff_19, tU2_59) rfl (show (0 ≤ (1 : Int32).toInt ∧ (1 : Int32).toInt ≤ 1) ∧ (0 ≤ (1 : Int32).toInt ∧ (1 : Int32).toInt ≤ 1) from ⟨(by first | assumption | omega | decide | exact rfl | exact zb01 (by omega) | exact Or.inl (by decide) | exact Or.inr (by first | omega | decide)), (by first | assumption | omega | decide | exact rfl | exact zb01 (by omega) | exact Or.inl (by decide) | exact Or.inr (by first | omega | decide))⟩) hP hD
  · skip
    have c62 : x_1.toInt = (-1) := zeq cb9 rfl (by decide)
    have n63 : (-1) ≤ x_1.toInt := Int.le_trans (Int.le_refl _) (Int.le_of_eq c62.symm)
    have n64 : x_1.toInt ≤ (-1) := Int.le_trans (Int.le_of_eq c62) (Int.le_refl _)
    refine lv_aload_n hx hb dX12_turnsBy_10 rfl (lv_at hl 0 rfl) ?_
    refine lv_iload_n hx hb dX12_turnsBy_11 rfl (lv_at hl 1 rfl) ?_
    refine lv_iconst (v := 3) hx hb dX12_turnsBy_12 (by decide) ?_
    have hL3 : (3 : Int32).toInt = 3 := by decide
    refine mcallV' (g := g) (q0 := 0) (ci := 10) (As := [.int x, .int 3]) (rest := []) St hK hT hA hP hD hS hl.1 [0] [] rfl rfl rfl (m_of l g o a th hi ac tp ba en tA fl de iD iO tU fm fk fa fc ft ff fb fi x 3 b_x (by decide)) (cwV 2 hts (zgL (zl4 k842 k843 k844 k839) k831) rfl rfl rfl (by decide +kernel) ⟨Nat.le_of_ble_eq_true rfl, Nat.le_of_ble_eq_true rfl⟩) rfl rfl rfl rfl (Nat.le_of_ble_eq_true rfl) dX12_turnsBy_13 ⟨(Nat.le_of_ble_eq_true rfl), (Nat.le_of_ble_eq_true rfl)⟩ (fun q_65 H locs hq66 hP hD hS => ?_)
    have hP : va_P g.1 vwCl (List.flatten [bMo g o a th hi ac tp ba en tA fl de iD iO tU fm fk fa fc ft ff fb fi]) H := hP
    have hD : va_D A (List.flatten [bMo g o a th hi ac tp ba en tA fl de iD iO tU fm fk fa fc ft ff fb fi]) := hD
    refine W.widen (k := 0) (n := 0) (Nat.le_of_ble_eq_true rfl) (Nat.le_of_ble_eq_true rfl) ?_
    refine W.eq (g2 := F0 m 16 ls [.int q_65]) rfl ?_
    refine lv_iconst (v := 1) hx hb dX12_turnsBy_16 (by decide) ?_
    refine lv_icmp_ne (tgt := 24) hx hb dX12_turnsBy_17 (by decide) (fun cb9 => ?_) (fun cb9 => ?_)
    · skip
      have c67 : ¬ q_65.toInt = 1 := zne cb9 rfl (by decide)
      refine lv_iconst (v := 0) hx hb dX12_turnsBy_24 (by decide) ?_
      have hP : va_P g.1 vwCl (List.flatten [bMo g o a th hi ac tp ba en tA fl de iD iO tU fm fk fa fc ft ff fb fi]) H := hP
      have hD : va_D A (List.flatten [bMo g o a th hi ac tp ba en tA fl de iD iO tU fm fk fa fc ft ff fb fi]) := hD
      exact mret_i hx hb hr hlocks hS (Nat.le_of_ble_eq_true rfl) (Nat.le_of_ble_eq_true rfl) dX12_turnsBy_25 (ba, en, tA, de, iD, iO, tU, ff, (0 : Int32)) rfl (show (0 ≤ iO.toInt ∧ iO.toInt ≤ 1) ∧ (0 ≤ iD.toInt ∧ iD.toInt ≤ 1) from ⟨hiO, hiD⟩) hP hD
    · skip
      have c68 : q_65.toInt = 1 := zeq cb9 rfl (by decide)
      have n69 : 1 ≤ q_65.toInt := Int.le_trans (Int.le_refl _) (Int.le_of_eq c68.symm)
      have n70 : q_65.toInt ≤ 1 := Int.le_trans (Int.le_of_eq c68) (Int.le_refl _)
      refine lv_iconst (v := (-1)) hx hb dX12_turnsBy_20 (by decide) ?_
      refine lv_goto (tgt := 25) hx hb dX12_turnsBy_21 (by decide) ?_
      have hP : va_P g.1 vwCl (List.flatten [bMo g o a th hi ac tp ba en tA fl de iD iO tU fm fk fa fc ft ff fb fi]) H := hP
      have hD : va_D A (List.flatten [bMo g o a th hi ac tp ba en tA fl de iD iO tU fm fk fa fc ft ff fb fi]) := hD
      exact mret_i hx hb hr hlocks hS (Nat.le_of_ble_eq_true rfl) (Nat.le_of_ble_eq_true rfl) dX12_turnsBy_25 (ba, en, tA, de, iD, iO, tU, ff, -1) rfl (show (0 ≤ iO.toInt ∧ iO.toInt ≤ 1) ∧ (0 ≤ iD.toInt ∧ iD.toInt ≤ 1) from ⟨hiO, hiD⟩) hP hD
set_option maxRecDepth 100000 in
set_option maxHeartbeats 4000000 in
theorem m_remembers (l : Launch) (g : zG) (o : Nat) (a : Nat → Nat) (th : Int32) (hi : Int32) (ac : Int32) (tp : Int32) (ba : Int32) (en : Int32) (tA : Int32) (fl : Int32) (de : Int32) (iD : Int32) (iO : Int32) (tU : Int32) (fm : Nat → Int32) (fk : Nat → Int32) (fa : Nat → Int32) (fc : Nat → Int32) (ft : Nat → Int32) (ff : Nat → Int32) (fb : Nat → Int32) (fi : Nat → Int32) (rfm : rM fm) (rfc : rC fc) (hac : 0 ≤ ac.toInt ∧ ac.toInt ≤ 12) : zM' g l yX12_remembers (Cond.code yX12_remembers cX12_remembers 2 none :: zB) ({ frames := 0, cells := 0, slots := 0, locals := 0 } : Room) [.ref o] [bMo g o a th hi ac tp ba en tA fl de iD iO tU fm fk fa fc ft ff fb fi] (fun u : Int32 × (Nat → Int32) => (fun (ac2 : Int32) (fc2 : Nat → Int32) => none) (u.1) (u.2)) (fun u : Int32 × (Nat → Int32) => (fun (ac2 : Int32) (fc2 : Nat → Int32) => (rC fc2) ∧ (0 ≤ ac2.toInt ∧ ac2.toInt ≤ 12) ∧ (zRem fc fc2 ac.toInt ac2.toInt fm)) (u.1) (u.2)) (fun u : Int32 × (Nat → Int32) => (fun (ac2 : Int32) (fc2 : Nat → Int32) => [bMo g o a th hi ac2 tp ba en tA fl de iD iO tU fm fk fa fc2 ft ff fb fi]) (u.1) (u.2)) := by
  refine zM'.of (cc := cX12_remembers) (maxL := 2) (rt := none) (by decide) rfl (Nat.le_of_ble_eq_true rfl) ?_
  intro p e s m args below meth c A ls St hr hlocks hin hK hT hA hP hD hS hl
  obtain ⟨hx, hb, hml, hown, hts⟩ := id St
  have hl : lv_has ls 2 [(0, .ref o)] := hl
  refine lv_aload_n hx hb dX12_remembers_0 rfl (lv_at hl 0 rfl) ?_
  refine va_get (D := g.1) (ci := 10) (v := .int ac) (C := RX12) (T := TX12) (N := 20) hx hb hts izRX12 hown hK hP 0 rfl rfl 6 (by decide) (hts _ k974) (fun _ h9 => h9) rfl dX12_remembers_1 ?_
  refine lv_bipush (v := 12) hx hb dX12_remembers_4 (by decide) ?_
  refine lv_icmp_ne (tgt := 50) hx hb dX12_remembers_6 (by decide) (fun cb9 => ?_) (fun cb9 => ?_)
  · skip
    have c1 : ¬ ac.toInt = 12 := zne cb9 rfl (by decide)
    have n2 : ac.toInt ≤ 11 := zN2 c1 hac.2 (by decide)
    refine lv_iconst (v := 0) hx hb dX12_remembers_50 (by decide) ?_
    refine lv_istore_n (lv' := [(1, .int 0), (0, .ref o)]) hx hb dX12_remembers_51 rfl hl (by decide) rfl (fun ls hl => ?_)
    have hl := lv_sub (l' := [(0, .ref o), (1, .int 0)]) hl [1, 0] rfl
    have LP52_7 : ∀ (kf : Nat) (x_3 : Int32) (fc_4 : Nat → Int32), (0 ≤ x_3.toInt ∧ x_3.toInt ≤ 379) → (rC fc_4) → (zCy fc fc_4 (379 * ac.toInt.toNat) fm 0 x_3.toInt) → ∀ (H : Heap) (locs : List Loc) (ls : Array Slot), ((380 - x_3.toInt).toNat) < kf → va_P g.1 vwCl (List.flatten [bMo g o a th hi ac tp ba en tA fl de iD iO tU fm fk fa fc_4 ft ff fb fi]) H → va_D A (List.flatten [bMo g o a th hi ac tp ba en tA fl de iD iO tU fm fk fa fc_4 ft ff fb fi]) → va_S A s.heap H locs → lv_has ls 2 [(0, .ref o), (1, .int x_3)] → W p l e ({ frames := 0, cells := 0, slots := 0, locals := 0 } : Room) s m args below meth c H locs (0) (0) (zF g (fun u : Int32 × (Nat → Int32) => (fun (ac2 : Int32) (fc2 : Nat → Int32) => none) (u.1) (u.2)) (fun u : Int32 × (Nat → Int32) => (fun (ac2 : Int32) (fc2 : Nat → Int32) => (rC fc2) ∧ (0 ≤ ac2.toInt ∧ ac2.toInt ≤ 12) ∧ (zRem fc fc2 ac.toInt ac2.toInt fm)) (u.1) (u.2)) (fun u : Int32 × (Nat → Int32) => (fun (ac2 : Int32) (fc2 : Nat → Int32) => [bMo g o a th hi ac2 tp ba en tA fl de iD iO tU fm fk fa fc2 ft ff fb fi]) (u.1) (u.2)) ({ frames := 0, cells := 0, slots := 0, locals := 0 } : Room) below args s A) (F0 m 52 ls []) := by
      intro kf
      induction kf with
      | zero => intro x_3 fc_4 i5 rfc_4 i6 H locs ls hk; exact absurd hk (Nat.not_lt_zero _)
      | succ kf ih52_8 =>
        intro x_3 fc_4 i5 rfc_4 i6 H locs ls hk52_8 hP hD hS hl
        refine lv_iload_n hx hb dX12_remembers_52 rfl (lv_at hl 1 rfl) ?_
        refine lv_sipush (v := 379) hx hb dX12_remembers_53 (by decide) ?_
        refine lv_icmp_ge (tgt := 86) hx hb dX12_remembers_56 (by decide) (fun cb9 => ?_) (fun cb9 => ?_)
        · skip
          have c9 : 379 ≤ x_3.toInt := zle cb9 (by decide) rfl
          have n10 : 379 ≤ x_3.toInt := Int.le_trans (Int.le_refl _) c9
          refine lv_aload_n hx hb dX12_remembers_86 rfl (lv_at hl 0 rfl) ?_
          refine lv_dup hx hb dX12_remembers_87 rfl ?_
          refine va_get (D := g.1) (ci := 10) (v := .int ac) (C := RX12) (T := TX12) (N := 20) hx hb hts izRX12 hown hK hP 0 rfl rfl 6 (by decide) (hts _ k974) (fun _ h9 => h9) rfl dX12_remembers_88 ?_
          refine lv_iconst (v := 1) hx hb dX12_remembers_91 (by decide) ?_
          refine lv_iadd hx hb dX12_remembers_92 ?_
          refine zg3 (zaddK (i := ac.toInt) (j := 1) (a' := 1) (b' := 12) rfl (by decide) hac.1 n2 (Int.le_refl _) (Int.le_refl _) (by decide)) (fun x_11 hx_11 => ?_)
          refine va_put (D := g.1) (ci := 10) (v := .int x_11) (ty := .int) (C := RX12) (T := TX12) (N := 20) hx hb hts izRX12 tyX12 tyX12_ok nmX12 hown hK hP hD hS 0 rfl rfl 6 (by decide) (hts _ k974) (fun _ h9 => h9) rfl (by decide +kernel) rfl rfl (Nat.le_of_ble_eq_true rfl) dX12_remembers_93 (fun H locs hP hD hS => ?_)
          have hP : va_P g.1 vwCl (List.flatten [bMo g o a th hi x_11 tp ba en tA fl de iD iO tU fm fk fa fc_4 ft ff fb fi]) H := hP
          have hD : va_D A (List.flatten [bMo g o a th hi x_11 tp ba en tA fl de iD iO tU fm fk fa fc_4 ft ff fb fi]) := hD
          have hP : va_P g.1 vwCl (List.flatten [bMo g o a th hi x_11 tp ba en tA fl de iD iO tU fm fk fa fc_4 ft ff fb fi]) H := hP
          have hD : va_D A (List.flatten [bMo g o a th hi x_11 tp ba en tA fl de iD iO tU fm fk fa fc_4 ft ff fb fi]) := hD
          exact mret_v hx hb hr hlocks hS (Nat.le_of_ble_eq_true rfl) (Nat.le_of_ble_eq_true rfl) dX12_remembers_96 (x_11, fc_4) rfl (show (rC fc_4) ∧ (0 ≤ x_11.toInt ∧ x_11.toInt ≤ 12) ∧ (zRem fc fc_4 ac.toInt x_11.toInt fm) from ⟨(by first | assumption | omega), (by first | assumption | omega), (Or.inl ⟨(by omega), (by omega), (zCy_e i6 (by omega))⟩)⟩) hP hD
        · skip
          have c12 : x_3.toInt < 379 := zlti (Int32.not_le.mp cb9) rfl (by decide)
          have n13 : x_3.toInt ≤ 378 := zL1 (b := 379) c12 (Int.le_refl _) (by decide)
          refine lv_aload_n hx hb dX12_remembers_59 rfl (lv_at hl 0 rfl) ?_
          refine va_get (D := g.1) (ci := 10) (v := .ref (a 3)) (C := RX12) (T := TX12) (N := 20) hx hb hts izRX12 hown hK hP 0 rfl rfl 5 (by decide) (hts _ k818) (fun _ h9 => h9) rfl dX12_remembers_60 ?_
          refine lv_sipush (v := 379) hx hb dX12_remembers_63 (by decide) ?_
          refine lv_aload_n hx hb dX12_remembers_66 rfl (lv_at hl 0 rfl) ?_
          refine va_get (D := g.1) (ci := 10) (v := .int ac) (C := RX12) (T := TX12) (N := 20) hx hb hts izRX12 hown hK hP 0 rfl rfl 6 (by decide) (hts _ k974) (fun _ h9 => h9) rfl dX12_remembers_67 ?_
          refine lv_imul hx hb dX12_remembers_70 ?_
          refine zg3 (zmulKL (i := ac.toInt) (n := 379) (a' := 0) (b' := 4169) rfl (by decide) hac.1 n2 (by decide) (by decide)) (fun x_14 hx_14 => ?_)
          refine lv_iload_n hx hb dX12_remembers_71 rfl (lv_at hl 1 rfl) ?_
          refine lv_iadd hx hb dX12_remembers_72 ?_
          refine zg3 (zaddK (i := x_14.toInt) (j := x_3.toInt) (a' := 0) (b' := 4547) rfl rfl hx_14.2.1 hx_14.2.2 i5.1 n13 (by decide)) (fun x_15 hx_15 => ?_)
          refine lv_aload_n hx hb dX12_remembers_73 rfl (lv_at hl 0 rfl) ?_
          refine va_get (D := g.1) (ci := 10) (v := .ref (a 0)) (C := RX12) (T := TX12) (N := 20) hx hb hts izRX12 hown hK hP 0 rfl rfl 1 (by decide) (hts _ k815) (fun _ h9 => h9) rfl dX12_remembers_74 ?_
          refine lv_iload_n hx hb dX12_remembers_77 rfl (lv_at hl 1 rfl) ?_
          refine va_iald hx hb hK hP 1 0 rfl rfl (zinK (a := 0) (b := 378) i5.1 n13 (by decide)) dX12_remembers_78 ?_
          refine va_iast hx hb hK hP hD hS 4 0 rfl rfl (zinK (a := 0) (b := 4547) hx_15.2.1 hx_15.2.2 (by decide)) dX12_remembers_79 (fun H locs hP hD hS => ?_)
          obtain ⟨fc_16, ⟨rfc_16, hcfc_16⟩, hP, hD⟩ : ∃ fc_16 : Nat → Int32, (rC fc_16 ∧ zCy fc fc_16 (379 * ac.toInt.toNat) fm 0 (x_3.toInt + 1)) ∧ va_P g.1 vwCl (List.flatten [bMo g o a th hi ac tp ba en tA fl de iD iO tU fm fk fa fc_16 ft ff fb fi]) H ∧ va_D A (List.flatten [bMo g o a th hi ac tp ba en tA fl de iD iO tU fm fk fa fc_16 ft ff fb fi]) := ⟨upd fc_4 x_15.toNatClampNeg (fm x_3.toNatClampNeg), ⟨(rC_st (a := ac) rfc_4 rfm (by omega) (by omega) (by omega)), (zCy_s i6 (by omega) (congrArg fm (by rw [zcl]; omega)) rfl)⟩, hP, hD⟩
          refine ziinc3 (n' := 1) (a' := 1) (b' := 379) (lv' := fun v9 => [(1, .int v9), (0, .ref o)]) hx hb dX12_remembers_80 hl (k := 1) rfl (by decide) (fun _ => rfl) (zaddK (i := x_3.toInt) (j := 1) rfl (by decide) i5.1 n13 (Int.le_refl _) (Int.le_refl _) (by decide)) (fun x_17 ls hx_17 hl => ?_)
          refine lv_goto (tgt := 52) hx hb dX12_remembers_83 (by decide) ?_
          have hl := lv_sub (l' := [(0, .ref o), (1, .int x_17)]) hl [1, 0] rfl
          have hP : va_P g.1 vwCl (List.flatten [bMo g o a th hi ac tp ba en tA fl de iD iO tU fm fk fa fc_16 ft ff fb fi]) H := hP
          have hD : va_D A (List.flatten [bMo g o a th hi ac tp ba en tA fl de iD iO tU fm fk fa fc_16 ft ff fb fi]) := hD
          exact ih52_8 x_17 fc_16 ⟨(Int.le_trans (by decide) hx_17.2.1), hx_17.2.2⟩ rfc_16 (zCy_e hcfc_16 (by omega)) H _ ls (zmK hx_17.1 (by decide) n13 (by decide) hk52_8)  hP hD hS (lv_sub hl [0, 1] rfl)
    have hL0 : (0 : Int32).toInt = 0 := by decide
    have hP : va_P g.1 vwCl (List.flatten [bMo g o a th hi ac tp ba en tA fl de iD iO tU fm fk fa fc ft ff fb fi]) s.heap := hP
    have hD : va_D A (List.flatten [bMo g o a th hi ac tp ba en tA fl de iD iO tU fm fk fa fc ft ff fb fi]) := hD
    exact LP52_7 _ 0 fc (by decide) rfc (zCy_0 (by decide)) s.heap _ ls (Nat.lt_succ_self _)  hP hD hS (lv_sub hl [0, 1] rfl)
  · skip
    have c18 : ac.toInt = 12 := zeq cb9 rfl (by decide)
    have n19 : 12 ≤ ac.toInt := Int.le_trans (Int.le_refl _) (Int.le_of_eq c18.symm)
    refine lv_iconst (v := 0) hx hb dX12_remembers_9 (by decide) ?_
    refine lv_istore_n (lv' := [(1, .int 0), (0, .ref o)]) hx hb dX12_remembers_10 rfl hl (by decide) rfl (fun ls hl => ?_)
    have hl := lv_sub (l' := [(0, .ref o), (1, .int 0)]) hl [1, 0] rfl
    have LP11_24 : ∀ (kf : Nat) (x_20 : Int32) (fc_21 : Nat → Int32), (0 ≤ x_20.toInt ∧ x_20.toInt ≤ 4169) → (rC fc_21) → (zSh fc fc_21 x_20.toInt) → ∀ (H : Heap) (locs : List Loc) (ls : Array Slot), ((4170 - x_20.toInt).toNat) < kf → va_P g.1 vwCl (List.flatten [bMo g o a th hi ac tp ba en tA fl de iD iO tU fm fk fa fc_21 ft ff fb fi]) H → va_D A (List.flatten [bMo g o a th hi ac tp ba en tA fl de iD iO tU fm fk fa fc_21 ft ff fb fi]) → va_S A s.heap H locs → lv_has ls 2 [(0, .ref o), (1, .int x_20)] → W p l e ({ frames := 0, cells := 0, slots := 0, locals := 0 } : Room) s m args below meth c H locs (0) (0) (zF g (fun u : Int32 × (Nat → Int32) => (fun (ac2 : Int32) (fc2 : Nat → Int32) => none) (u.1) (u.2)) (fun u : Int32 × (Nat → Int32) => (fun (ac2 : Int32) (fc2 : Nat → Int32) => (rC fc2) ∧ (0 ≤ ac2.toInt ∧ ac2.toInt ≤ 12) ∧ (zRem fc fc2 ac.toInt ac2.toInt fm)) (u.1) (u.2)) (fun u : Int32 × (Nat → Int32) => (fun (ac2 : Int32) (fc2 : Nat → Int32) => [bMo g o a th hi ac2 tp ba en tA fl de iD iO tU fm fk fa fc2 ft ff fb fi]) (u.1) (u.2)) ({ frames := 0, cells := 0, slots := 0, locals := 0 } : Room) below args s A) (F0 m 11 ls []) := by
      intro kf
      induction kf with
      | zero => intro x_20 fc_21 i22 rfc_21 i23 H locs ls hk; exact absurd hk (Nat.not_lt_zero _)
      | succ kf ih11_25 =>
        intro x_20 fc_21 i22 rfc_21 i23 H locs ls hk11_25 hP hD hS hl
        refine lv_iload_n hx hb dX12_remembers_11 rfl (lv_at hl 1 rfl) ?_
        refine lv_sipush (v := 4169) hx hb dX12_remembers_12 (by decide) ?_
        refine lv_icmp_ge (tgt := 40) hx hb dX12_remembers_15 (by decide) (fun cb9 => ?_) (fun cb9 => ?_)
        · skip
          have c26 : 4169 ≤ x_20.toInt := zle cb9 (by decide) rfl
          have n27 : 4169 ≤ x_20.toInt := Int.le_trans (Int.le_refl _) c26
          have w28 : zSh fc fc_21 4169 := zSh_e i23 (by omega)
          refine lv_aload_n hx hb dX12_remembers_40 rfl (lv_at hl 0 rfl) ?_
          refine lv_dup hx hb dX12_remembers_41 rfl ?_
          refine va_get (D := g.1) (ci := 10) (v := .int ac) (C := RX12) (T := TX12) (N := 20) hx hb hts izRX12 hown hK hP 0 rfl rfl 6 (by decide) (hts _ k974) (fun _ h9 => h9) rfl dX12_remembers_42 ?_
          refine lv_iconst (v := 1) hx hb dX12_remembers_45 (by decide) ?_
          refine lv_isub hx hb dX12_remembers_46 ?_
          refine zg3 (zsubK (i := ac.toInt) (j := 1) (a' := 11) (b' := 11) rfl (by decide) n19 hac.2 (Int.le_refl _) (Int.le_refl _) (by decide)) (fun x_29 hx_29 => ?_)
          refine va_put (D := g.1) (ci := 10) (v := .int x_29) (ty := .int) (C := RX12) (T := TX12) (N := 20) hx hb hts izRX12 tyX12 tyX12_ok nmX12 hown hK hP hD hS 0 rfl rfl 6 (by decide) (hts _ k974) (fun _ h9 => h9) rfl (by decide +kernel) rfl rfl (Nat.le_of_ble_eq_true rfl) dX12_remembers_47 (fun H locs hP hD hS => ?_)
          have hP : va_P g.1 vwCl (List.flatten [bMo g o a th hi x_29 tp ba en tA fl de iD iO tU fm fk fa fc_21 ft ff fb fi]) H := hP
          have hD : va_D A (List.flatten [bMo g o a th hi x_29 tp ba en tA fl de iD iO tU fm fk fa fc_21 ft ff fb fi]) := hD
          refine lv_iconst (v := 0) hx hb dX12_remembers_50 (by decide) ?_
          refine lv_istore_n (lv' := [(1, .int 0), (0, .ref o)]) hx hb dX12_remembers_51 rfl hl (by decide) rfl (fun ls hl => ?_)
          have hl := lv_sub (l' := [(0, .ref o), (1, .int 0)]) hl [1, 0] rfl
          have LP52_34 : ∀ (kf : Nat) (x_30 : Int32) (fc_31 : Nat → Int32), (0 ≤ x_30.toInt ∧ x_30.toInt ≤ 379) → (rC fc_31) → (zCy fc_21 fc_31 (379 * x_29.toInt.toNat) fm 0 x_30.toInt) → ∀ (H : Heap) (locs : List Loc) (ls : Array Slot), ((380 - x_30.toInt).toNat) < kf → va_P g.1 vwCl (List.flatten [bMo g o a th hi x_29 tp ba en tA fl de iD iO tU fm fk fa fc_31 ft ff fb fi]) H → va_D A (List.flatten [bMo g o a th hi x_29 tp ba en tA fl de iD iO tU fm fk fa fc_31 ft ff fb fi]) → va_S A s.heap H locs → lv_has ls 2 [(0, .ref o), (1, .int x_30)] → W p l e ({ frames := 0, cells := 0, slots := 0, locals := 0 } : Room) s m args below meth c H locs (0) (0) (zF g (fun u : Int32 × (Nat → Int32) => (fun (ac2 : Int32) (fc2 : Nat → Int32) => none) (u.1) (u.2)) (fun u : Int32 × (Nat → Int32) => (fun (ac2 : Int32) (fc2 : Nat → Int32) => (rC fc2) ∧ (0 ≤ ac2.toInt ∧ ac2.toInt ≤ 12) ∧ (zRem fc fc2 ac.toInt ac2.toInt fm)) (u.1) (u.2)) (fun u : Int32 × (Nat → Int32) => (fun (ac2 : Int32) (fc2 : Nat → Int32) => [bMo g o a th hi ac2 tp ba en tA fl de iD iO tU fm fk fa fc2 ft ff fb fi]) (u.1) (u.2)) ({ frames := 0, cells := 0, slots := 0, locals := 0 } : Room) below args s A) (F0 m 52 ls []) := by
            intro kf
            induction kf with
            | zero => intro x_30 fc_31 i32 rfc_31 i33 H locs ls hk; exact absurd hk (Nat.not_lt_zero _)
            | succ kf ih52_35 =>
              intro x_30 fc_31 i32 rfc_31 i33 H locs ls hk52_35 hP hD hS hl
              refine lv_iload_n hx hb dX12_remembers_52 rfl (lv_at hl 1 rfl) ?_
              refine lv_sipush (v := 379) hx hb dX12_remembers_53 (by decide) ?_
              refine lv_icmp_ge (tgt := 86) hx hb dX12_remembers_56 (by decide) (fun cb9 => ?_) (fun cb9 => ?_)
              · skip
                have c36 : 379 ≤ x_30.toInt := zle cb9 (by decide) rfl
                have n37 : 379 ≤ x_30.toInt := Int.le_trans (Int.le_refl _) c36
                refine lv_aload_n hx hb dX12_remembers_86 rfl (lv_at hl 0 rfl) ?_
                refine lv_dup hx hb dX12_remembers_87 rfl ?_
                refine va_get (D := g.1) (ci := 10) (v := .int x_29) (C := RX12) (T := TX12) (N := 20) hx hb hts izRX12 hown hK hP 0 rfl rfl 6 (by decide) (hts _ k974) (fun _ h9 => h9) rfl dX12_remembers_88 ?_
                refine lv_iconst (v := 1) hx hb dX12_remembers_91 (by decide) ?_
                refine lv_iadd hx hb dX12_remembers_92 ?_
                refine zg3 (zaddK (i := x_29.toInt) (j := 1) (a' := 12) (b' := 12) rfl (by decide) hx_29.2.1 hx_29.2.2 (Int.le_refl _) (Int.le_refl _) (by decide)) (fun x_38 hx_38 => ?_)
                refine va_put (D := g.1) (ci := 10) (v := .int x_38) (ty := .int) (C := RX12) (T := TX12) (N := 20) hx hb hts izRX12 tyX12 tyX12_ok nmX12 hown hK hP hD hS 0 rfl rfl 6 (by decide) (hts _ k974) (fun _ h9 => h9) rfl (by decide +kernel) rfl rfl (Nat.le_of_ble_eq_true rfl) dX12_remembers_93 (fun H locs hP hD hS => ?_)
                have hP : va_P g.1 vwCl (List.flatten [bMo g o a th hi x_38 tp ba en tA fl de iD iO tU fm fk fa fc_31 ft ff fb fi]) H := hP
                have hD : va_D A (List.flatten [bMo g o a th hi x_38 tp ba en tA fl de iD iO tU fm fk fa fc_31 ft ff fb fi]) := hD
                have hP : va_P g.1 vwCl (List.flatten [bMo g o a th hi x_38 tp ba en tA fl de iD iO tU fm fk fa fc_31 ft ff fb fi]) H := hP
                have hD : va_D A (List.flatten [bMo g o a th hi x_38 tp ba en tA fl de iD iO tU fm fk fa fc_31 ft ff fb fi]) := hD
                exact mret_v hx hb hr hlocks hS (Nat.le_of_ble_eq_true rfl) (Nat.le_of_ble_eq_true rfl) dX12_remembers_96 (x_38, fc_31) rfl (show (rC fc_31) ∧ (0 ≤ x_38.toInt ∧ x_38.toInt ≤ 12) ∧ (zRem fc fc_31 ac.toInt x_38.toInt fm) from ⟨(by first | assumption | omega), (by first | assumption | omega), (Or.inr ⟨(by omega), (by omega), _, w28, zCy_o (by omega) (zCy_e i33 (by omega))⟩)⟩) hP hD
              · skip
                have c39 : x_30.toInt < 379 := zlti (Int32.not_le.mp cb9) rfl (by decide)
                have n40 : x_30.toInt ≤ 378 := zL1 (b := 379) c39 (Int.le_refl _) (by decide)
                refine lv_aload_n hx hb dX12_remembers_59 rfl (lv_at hl 0 rfl) ?_
                refine va_get (D := g.1) (ci := 10) (v := .ref (a 3)) (C := RX12) (T := TX12) (N := 20) hx hb hts izRX12 hown hK hP 0 rfl rfl 5 (by decide) (hts _ k818) (fun _ h9 => h9) rfl dX12_remembers_60 ?_
                refine lv_sipush (v := 379) hx hb dX12_remembers_63 (by decide) ?_
                refine lv_aload_n hx hb dX12_remembers_66 rfl (lv_at hl 0 rfl) ?_
                refine va_get (D := g.1) (ci := 10) (v := .int x_29) (C := RX12) (T := TX12) (N := 20) hx hb hts izRX12 hown hK hP 0 rfl rfl 6 (by decide) (hts _ k974) (fun _ h9 => h9) rfl dX12_remembers_67 ?_
                refine lv_imul hx hb dX12_remembers_70 ?_
                refine zg3 (zmulKL (i := x_29.toInt) (n := 379) (a' := 4169) (b' := 4169) rfl (by decide) hx_29.2.1 hx_29.2.2 (by decide) (by decide)) (fun x_41 hx_41 => ?_)
                refine lv_iload_n hx hb dX12_remembers_71 rfl (lv_at hl 1 rfl) ?_
                refine lv_iadd hx hb dX12_remembers_72 ?_
                refine zg3 (zaddK (i := x_41.toInt) (j := x_30.toInt) (a' := 4169) (b' := 4547) rfl rfl hx_41.2.1 hx_41.2.2 i32.1 n40 (by decide)) (fun x_42 hx_42 => ?_)
                refine lv_aload_n hx hb dX12_remembers_73 rfl (lv_at hl 0 rfl) ?_
                refine va_get (D := g.1) (ci := 10) (v := .ref (a 0)) (C := RX12) (T := TX12) (N := 20) hx hb hts izRX12 hown hK hP 0 rfl rfl 1 (by decide) (hts _ k815) (fun _ h9 => h9) rfl dX12_remembers_74 ?_
                refine lv_iload_n hx hb dX12_remembers_77 rfl (lv_at hl 1 rfl) ?_
                refine va_iald hx hb hK hP 1 0 rfl rfl (zinK (a := 0) (b := 378) i32.1 n40 (by decide)) dX12_remembers_78 ?_
                refine va_iast hx hb hK hP hD hS 4 0 rfl rfl (zinK (a := 4169) (b := 4547) hx_42.2.1 hx_42.2.2 (by decide)) dX12_remembers_79 (fun H locs hP hD hS => ?_)
                obtain ⟨fc_43, ⟨rfc_43, hcfc_43⟩, hP, hD⟩ : ∃ fc_43 : Nat → Int32, (rC fc_43 ∧ zCy fc_21 fc_43 (379 * x_29.toInt.toNat) fm 0 (x_30.toInt + 1)) ∧ va_P g.1 vwCl (List.flatten [bMo g o a th hi x_29 tp ba en tA fl de iD iO tU fm fk fa fc_43 ft ff fb fi]) H ∧ va_D A (List.flatten [bMo g o a th hi x_29 tp ba en tA fl de iD iO tU fm fk fa fc_43 ft ff fb fi]) := ⟨upd fc_31 x_42.toNatClampNeg (fm x_30.toNatClampNeg), ⟨(rC_st (a := x_29) rfc_31 rfm (by omega) (by omega) (by omega)), (zCy_s i33 (by omega) (congrArg fm (by rw [zcl]; omega)) rfl)⟩, hP, hD⟩
                refine ziinc3 (n' := 1) (a' := 1) (b' := 379) (lv' := fun v9 => [(1, .int v9), (0, .ref o)]) hx hb dX12_remembers_80 hl (k := 1) rfl (by decide) (fun _ => rfl) (zaddK (i := x_30.toInt) (j := 1) rfl (by decide) i32.1 n40 (Int.le_refl _) (Int.le_refl _) (by decide)) (fun x_44 ls hx_44 hl => ?_)
                refine lv_goto (tgt := 52) hx hb dX12_remembers_83 (by decide) ?_
                have hl := lv_sub (l' := [(0, .ref o), (1, .int x_44)]) hl [1, 0] rfl
                have hP : va_P g.1 vwCl (List.flatten [bMo g o a th hi x_29 tp ba en tA fl de iD iO tU fm fk fa fc_43 ft ff fb fi]) H := hP
                have hD : va_D A (List.flatten [bMo g o a th hi x_29 tp ba en tA fl de iD iO tU fm fk fa fc_43 ft ff fb fi]) := hD
                exact ih52_35 x_44 fc_43 ⟨(Int.le_trans (by decide) hx_44.2.1), hx_44.2.2⟩ rfc_43 (zCy_e hcfc_43 (by omega)) H _ ls (zmK hx_44.1 (by decide) n40 (by decide) hk52_35)  hP hD hS (lv_sub hl [0, 1] rfl)
          have hL0 : (0 : Int32).toInt = 0 := by decide
          have hP : va_P g.1 vwCl (List.flatten [bMo g o a th hi x_29 tp ba en tA fl de iD iO tU fm fk fa fc_21 ft ff fb fi]) H := hP
          have hD : va_D A (List.flatten [bMo g o a th hi x_29 tp ba en tA fl de iD iO tU fm fk fa fc_21 ft ff fb fi]) := hD
          exact LP52_34 _ 0 fc_21 (by decide) rfc_21 (zCy_0 (by decide)) H _ ls (Nat.lt_succ_self _)  hP hD hS (lv_sub hl [0, 1] rfl)
        · skip
          have c45 : x_20.toInt < 4169 := zlti (Int32.not_le.mp cb9) rfl (by decide)
          have n46 : x_20.toInt ≤ 4168 := zL1 (b := 4169) c45 (Int.le_refl _) (by decide)
          refine lv_aload_n hx hb dX12_remembers_18 rfl (lv_at hl 0 rfl) ?_
          refine va_get (D := g.1) (ci := 10) (v := .ref (a 3)) (C := RX12) (T := TX12) (N := 20) hx hb hts izRX12 hown hK hP 0 rfl rfl 5 (by decide) (hts _ k818) (fun _ h9 => h9) rfl dX12_remembers_19 ?_
          refine lv_iload_n hx hb dX12_remembers_22 rfl (lv_at hl 1 rfl) ?_
          refine lv_aload_n hx hb dX12_remembers_23 rfl (lv_at hl 0 rfl) ?_
          refine va_get (D := g.1) (ci := 10) (v := .ref (a 3)) (C := RX12) (T := TX12) (N := 20) hx hb hts izRX12 hown hK hP 0 rfl rfl 5 (by decide) (hts _ k818) (fun _ h9 => h9) rfl dX12_remembers_24 ?_
          refine lv_iload_n hx hb dX12_remembers_27 rfl (lv_at hl 1 rfl) ?_
          refine lv_sipush (v := 379) hx hb dX12_remembers_28 (by decide) ?_
          refine lv_iadd hx hb dX12_remembers_31 ?_
          refine zg3 (zaddK (i := x_20.toInt) (j := 379) (a' := 379) (b' := 4547) rfl (by decide) i22.1 n46 (Int.le_refl _) (Int.le_refl _) (by decide)) (fun x_47 hx_47 => ?_)
          refine va_iald hx hb hK hP 4 0 rfl rfl (zinK (a := 379) (b := 4547) hx_47.2.1 hx_47.2.2 (by decide)) dX12_remembers_32 ?_
          refine va_iast hx hb hK hP hD hS 4 0 rfl rfl (zinK (a := 0) (b := 4168) i22.1 n46 (by decide)) dX12_remembers_33 (fun H locs hP hD hS => ?_)
          obtain ⟨fc_48, ⟨rfc_48, hcfc_48⟩, hP, hD⟩ : ∃ fc_48 : Nat → Int32, (rC fc_48 ∧ zSh fc fc_48 (x_20.toInt + 1)) ∧ va_P g.1 vwCl (List.flatten [bMo g o a th hi ac tp ba en tA fl de iD iO tU fm fk fa fc_48 ft ff fb fi]) H ∧ va_D A (List.flatten [bMo g o a th hi ac tp ba en tA fl de iD iO tU fm fk fa fc_48 ft ff fb fi]) := ⟨upd fc_21 x_20.toNatClampNeg (fc_21 x_47.toNatClampNeg), ⟨(rC_sh (x2 := x_47) rfc_21 (by omega) (by omega) (by omega)), (zSh_s (y := x_47) i23 rfl (by omega) rfl rfl)⟩, hP, hD⟩
          refine ziinc3 (n' := 1) (a' := 1) (b' := 4169) (lv' := fun v9 => [(1, .int v9), (0, .ref o)]) hx hb dX12_remembers_34 hl (k := 1) rfl (by decide) (fun _ => rfl) (zaddK (i := x_20.toInt) (j := 1) rfl (by decide) i22.1 n46 (Int.le_refl _) (Int.le_refl _) (by decide)) (fun x_49 ls hx_49 hl => ?_)
          refine lv_goto (tgt := 11) hx hb dX12_remembers_37 (by decide) ?_
          have hl := lv_sub (l' := [(0, .ref o), (1, .int x_49)]) hl [1, 0] rfl
          have hP : va_P g.1 vwCl (List.flatten [bMo g o a th hi ac tp ba en tA fl de iD iO tU fm fk fa fc_48 ft ff fb fi]) H := hP
          have hD : va_D A (List.flatten [bMo g o a th hi ac tp ba en tA fl de iD iO tU fm fk fa fc_48 ft ff fb fi]) := hD
          exact ih11_25 x_49 fc_48 ⟨(Int.le_trans (by decide) hx_49.2.1), hx_49.2.2⟩ rfc_48 (zSh_e hcfc_48 (by omega)) H _ ls (zmK hx_49.1 (by decide) n46 (by decide) hk11_25)  hP hD hS (lv_sub hl [0, 1] rfl)
    have hL0 : (0 : Int32).toInt = 0 := by decide
    have hP : va_P g.1 vwCl (List.flatten [bMo g o a th hi ac tp ba en tA fl de iD iO tU fm fk fa fc ft ff fb fi]) s.heap := hP
    have hD : va_D A (List.flatten [bMo g o a th hi ac tp ba en tA fl de iD iO tU fm fk fa fc ft ff fb fi]) := hD
    exact LP11_24 _ 0 fc (by decide) rfc (zSh_0 (by decide)) s.heap _ ls (Nat.lt_succ_self _)  hP hD hS (lv_sub hl [0, 1] rfl)
set_option maxRecDepth 100000 in
set_option maxHeartbeats 4000000 in
theorem m_says (l : Launch) (g : zG) (st0 : Int32) (who : Int32) (wm : Int32)  : zM' g l yX12_says (Cond.code yX12_says cX12_says 3 (some .boolean) :: zB) ({ frames := 1, cells := 0, slots := 0, locals := 21 } : Room) [.int st0, .int who, .int wm] [] (fun (q : Int32) => some (.int q)) (fun (q : Int32) => (q = 0 ∨ q = 1)) (fun (q : Int32) => []) := by
  refine zM'.of (cc := cX12_says) (maxL := 3) (rt := (some .boolean)) (by decide) rfl (Nat.le_of_ble_eq_true rfl) ?_
  intro p e s m args below meth c A ls St hr hlocks hin hK hT hA hP hD hS hl
  obtain ⟨hx, hb, hml, hown, hts⟩ := id St
  have hl : lv_has ls 3 [(0, .int st0), (1, .int who), (2, .int wm)] := hl
  refine lv_iload_n hx hb dX12_says_0 rfl (lv_at hl 0 rfl) ?_
  refine lv_iload_n hx hb dX12_says_1 rfl (lv_at hl 1 rfl) ?_
  refine mcallS' (g := g) (As := [.int st0, .int who]) (rest := []) St hK hT hA hP hD hS hl.1 [] [] rfl rfl rfl (m_isOf l g st0 who ) (va_cwS 2 hts (zgL (zl3 k1062 k1063 k839) k829) rfl rfl rfl (by decide +kernel) ⟨Nat.le_of_ble_eq_true rfl, Nat.le_of_ble_eq_true rfl⟩) rfl rfl (Nat.le_of_ble_eq_true rfl) dX12_says_2 ⟨(Nat.le_of_ble_eq_true rfl), (Nat.le_of_ble_eq_true rfl)⟩ (fun q_1 H locs hq2 hP hD hS => ?_)
  replace hq2 : (q_1 = 0 ∨ q_1 = 1) := hq2
  have hP : va_P g.1 vwCl (List.flatten []) H := hP
  have hD : va_D A (List.flatten []) := hD
  refine W.widen (k := 0) (n := 0) (Nat.le_of_ble_eq_true rfl) (Nat.le_of_ble_eq_true rfl) ?_
  refine W.eq (g2 := F0 m 5 ls [.int q_1]) rfl ?_
  rcases hq2 with rfl | rfl
  · skip
    refine lv_iload_n hx hb dX12_says_5 rfl (lv_at hl 0 rfl) ?_
    refine lv_iload_n hx hb dX12_says_6 rfl (lv_at hl 2 rfl) ?_
    refine mcallS' (g := g) (As := [.int st0, .int wm]) (rest := [.int 0]) St hK hT hA hP hD hS hl.1 [] [] rfl rfl rfl (m_isOf l g st0 wm ) (va_cwS 2 hts (zgL (zl3 k1062 k1063 k839) k829) rfl rfl rfl (by decide +kernel) ⟨Nat.le_of_ble_eq_true rfl, Nat.le_of_ble_eq_true rfl⟩) rfl rfl (Nat.le_of_ble_eq_true rfl) dX12_says_7 ⟨(Nat.le_of_ble_eq_true rfl), (Nat.le_of_ble_eq_true rfl)⟩ (fun q_3 H locs hq4 hP hD hS => ?_)
    replace hq4 : (q_3 = 0 ∨ q_3 = 1) := hq4
    have hP : va_P g.1 vwCl (List.flatten []) H := hP
    have hD : va_D A (List.flatten []) := hD
    refine W.widen (k := 0) (n := 0) (Nat.le_of_ble_eq_true rfl) (Nat.le_of_ble_eq_true rfl) ?_
    refine W.eq (g2 := F0 m 10 ls [.int q_3, .int 0]) rfl ?_
    rcases hq4 with rfl | rfl
    · skip
      refine lv_icmp_ne (tgt := 17) hx hb dX12_says_10 (by decide) (fun c5 => absurd (by decide) c5) (fun _ => ?_)
      refine lv_iconst (v := 1) hx hb dX12_says_13 (by decide) ?_
      refine lv_goto (tgt := 18) hx hb dX12_says_14 (by decide) ?_
      have hP : va_P g.1 vwCl (List.flatten []) H := hP
      have hD : va_D A (List.flatten []) := hD
      exact mret_z hx hb hr hlocks hS (Nat.le_of_ble_eq_true rfl) (Nat.le_of_ble_eq_true rfl) dX12_says_18 ((1 : Int32)) rfl (by decide) (show (1 = 0 ∨ 1 = 1) from (by decide)) hP hD
    · skip
      refine lv_icmp_ne (tgt := 17) hx hb dX12_says_10 (by decide) (fun _ => ?_) (fun c6 => absurd c6 (by decide))
      refine lv_iconst (v := 0) hx hb dX12_says_17 (by decide) ?_
      have hP : va_P g.1 vwCl (List.flatten []) H := hP
      have hD : va_D A (List.flatten []) := hD
      exact mret_z hx hb hr hlocks hS (Nat.le_of_ble_eq_true rfl) (Nat.le_of_ble_eq_true rfl) dX12_says_18 ((0 : Int32)) rfl (by decide) (show (0 = 0 ∨ 0 = 1) from (by decide)) hP hD
  · skip
    refine lv_iload_n hx hb dX12_says_5 rfl (lv_at hl 0 rfl) ?_
    refine lv_iload_n hx hb dX12_says_6 rfl (lv_at hl 2 rfl) ?_
    refine mcallS' (g := g) (As := [.int st0, .int wm]) (rest := [.int 1]) St hK hT hA hP hD hS hl.1 [] [] rfl rfl rfl (m_isOf l g st0 wm ) (va_cwS 2 hts (zgL (zl3 k1062 k1063 k839) k829) rfl rfl rfl (by decide +kernel) ⟨Nat.le_of_ble_eq_true rfl, Nat.le_of_ble_eq_true rfl⟩) rfl rfl (Nat.le_of_ble_eq_true rfl) dX12_says_7 ⟨(Nat.le_of_ble_eq_true rfl), (Nat.le_of_ble_eq_true rfl)⟩ (fun q_7 H locs hq8 hP hD hS => ?_)
    replace hq8 : (q_7 = 0 ∨ q_7 = 1) := hq8
    have hP : va_P g.1 vwCl (List.flatten []) H := hP
    have hD : va_D A (List.flatten []) := hD
    refine W.widen (k := 0) (n := 0) (Nat.le_of_ble_eq_true rfl) (Nat.le_of_ble_eq_true rfl) ?_
    refine W.eq (g2 := F0 m 10 ls [.int q_7, .int 1]) rfl ?_
    rcases hq8 with rfl | rfl
    · skip
      refine lv_icmp_ne (tgt := 17) hx hb dX12_says_10 (by decide) (fun _ => ?_) (fun c9 => absurd c9 (by decide))
      refine lv_iconst (v := 0) hx hb dX12_says_17 (by decide) ?_
      have hP : va_P g.1 vwCl (List.flatten []) H := hP
      have hD : va_D A (List.flatten []) := hD
      exact mret_z hx hb hr hlocks hS (Nat.le_of_ble_eq_true rfl) (Nat.le_of_ble_eq_true rfl) dX12_says_18 ((0 : Int32)) rfl (by decide) (show (0 = 0 ∨ 0 = 1) from (by decide)) hP hD
    · skip
      refine lv_icmp_ne (tgt := 17) hx hb dX12_says_10 (by decide) (fun c10 => absurd (by decide) c10) (fun _ => ?_)
      refine lv_iconst (v := 1) hx hb dX12_says_13 (by decide) ?_
      refine lv_goto (tgt := 18) hx hb dX12_says_14 (by decide) ?_
      have hP : va_P g.1 vwCl (List.flatten []) H := hP
      have hD : va_D A (List.flatten []) := hD
      exact mret_z hx hb hr hlocks hS (Nat.le_of_ble_eq_true rfl) (Nat.le_of_ble_eq_true rfl) dX12_says_18 ((1 : Int32)) rfl (by decide) (show (1 = 0 ∨ 1 = 1) from (by decide)) hP hD
set_option maxRecDepth 100000 in
set_option maxHeartbeats 4000000 in
theorem m_logged (l : Launch) (g : zG) (o : Nat) (a : Nat → Nat) (th : Int32) (hi : Int32) (ac : Int32) (tp : Int32) (ba : Int32) (en : Int32) (tA : Int32) (fl : Int32) (de : Int32) (iD : Int32) (iO : Int32) (tU : Int32) (fm : Nat → Int32) (fk : Nat → Int32) (fa : Nat → Int32) (fc : Nat → Int32) (ft : Nat → Int32) (ff : Nat → Int32) (fb : Nat → Int32) (fi : Nat → Int32) (ago : Int32) (what : Int32) (b_ago : 0 ≤ ago.toInt ∧ ago.toInt ≤ 59) (b_what : 0 ≤ what.toInt ∧ what.toInt ≤ 3) : zM' g l yX12_logged (Cond.code yX12_logged cX12_logged 3 (some .int) :: zB) ({ frames := 0, cells := 0, slots := 0, locals := 0 } : Room) [.ref o, .int ago, .int what] [bMo g o a th hi ac tp ba en tA fl de iD iO tU fm fk fa fc ft ff fb fi] (fun (q : Int32) => some (.int q)) (fun (q : Int32) => True) (fun (q : Int32) => [bMo g o a th hi ac tp ba en tA fl de iD iO tU fm fk fa fc ft ff fb fi]) := by
  refine zM'.of (cc := cX12_logged) (maxL := 3) (rt := (some .int)) (by decide) rfl (Nat.le_of_ble_eq_true rfl) ?_
  intro p e s m args below meth c A ls St hr hlocks hin hK hT hA hP hD hS hl
  obtain ⟨hx, hb, hml, hown, hts⟩ := id St
  have hl : lv_has ls 3 [(0, .ref o), (1, .int ago), (2, .int what)] := hl
  refine lv_aload_n hx hb dX12_logged_0 rfl (lv_at hl 0 rfl) ?_
  refine va_get (D := g.1) (ci := 10) (v := .ref (a 0)) (C := RX12) (T := TX12) (N := 20) hx hb hts izRX12 hown hK hP 0 rfl rfl 1 (by decide) (hts _ k815) (fun _ h9 => h9) rfl dX12_logged_1 ?_
  refine lv_sipush (v := 139) hx hb dX12_logged_4 (by decide) ?_
  refine lv_iconst (v := 4) hx hb dX12_logged_7 (by decide) ?_
  refine lv_iload_n hx hb dX12_logged_8 rfl (lv_at hl 1 rfl) ?_
  refine lv_imul hx hb dX12_logged_9 ?_
  refine zg3 (zmulKL (i := ago.toInt) (n := 4) (a' := 0) (b' := 236) rfl (by decide) b_ago.1 b_ago.2 (by decide) (by decide)) (fun x_1 hx_1 => ?_)
  refine lv_iadd hx hb dX12_logged_10 ?_
  refine zg3 (zaddK (i := 139) (j := x_1.toInt) (a' := 139) (b' := 375) (by decide) rfl (Int.le_refl _) (Int.le_refl _) hx_1.2.1 hx_1.2.2 (by decide)) (fun x_2 hx_2 => ?_)
  refine lv_iload_n hx hb dX12_logged_11 rfl (lv_at hl 2 rfl) ?_
  refine lv_iadd hx hb dX12_logged_12 ?_
  refine zg3 (zaddK (i := x_2.toInt) (j := what.toInt) (a' := 139) (b' := 378) rfl rfl hx_2.2.1 hx_2.2.2 b_what.1 b_what.2 (by decide)) (fun x_3 hx_3 => ?_)
  refine va_iald hx hb hK hP 1 0 rfl rfl (zinK (a := 139) (b := 378) hx_3.2.1 hx_3.2.2 (by decide)) dX12_logged_13 ?_
  refine zg (fun x_4 => ?_)
  have hP : va_P g.1 vwCl (List.flatten [bMo g o a th hi ac tp ba en tA fl de iD iO tU fm fk fa fc ft ff fb fi]) s.heap := hP
  have hD : va_D A (List.flatten [bMo g o a th hi ac tp ba en tA fl de iD iO tU fm fk fa fc ft ff fb fi]) := hD
  exact mret_i hx hb hr hlocks hS (Nat.le_of_ble_eq_true rfl) (Nat.le_of_ble_eq_true rfl) dX12_logged_14 (x_4) rfl trivial hP hD
set_option maxRecDepth 100000 in
set_option maxHeartbeats 4000000 in
theorem m_passes (l : Launch) (g : zG) (o : Nat) (a : Nat → Nat) (th : Int32) (hi : Int32) (ac : Int32) (tp : Int32) (ba : Int32) (en : Int32) (tA : Int32) (fl : Int32) (de : Int32) (iD : Int32) (iO : Int32) (tU : Int32) (fm : Nat → Int32) (fk : Nat → Int32) (fa : Nat → Int32) (fc : Nat → Int32) (ft : Nat → Int32) (ff : Nat → Int32) (fb : Nat → Int32) (fi : Nat → Int32) (st0 : Int32) (n : Int32) (rfm : rM fm) (b_n : 0 ≤ n.toInt ∧ n.toInt ≤ 8) : zM' g l yX12_passes (Cond.code yX12_passes cX12_passes 8 (some .int) :: zB) ({ frames := 1, cells := 0, slots := 0, locals := 22 } : Room) [.ref o, .int st0, .int n] [bMo g o a th hi ac tp ba en tA fl de iD iO tU fm fk fa fc ft ff fb fi] (fun (q : Int32) => some (.int q)) (fun (q : Int32) => True) (fun (q : Int32) => [bMo g o a th hi ac tp ba en tA fl de iD iO tU fm fk fa fc ft ff fb fi]) := by
  refine zM'.of (cc := cX12_passes) (maxL := 8) (rt := (some .int)) (by decide) rfl (Nat.le_of_ble_eq_true rfl) ?_
  intro p e s m args below meth c A ls St hr hlocks hin hK hT hA hP hD hS hl
  obtain ⟨hx, hb, hml, hown, hts⟩ := id St
  have hl : lv_has ls 8 [(0, .ref o), (1, .int st0), (2, .int n)] := hl
  refine lv_iload_n hx hb dX12_passes_0 rfl (lv_at hl 1 rfl) ?_
  refine lv_istore_n (lv' := [(3, .int st0), (0, .ref o), (1, .int st0), (2, .int n)]) hx hb dX12_passes_1 rfl hl (by decide) rfl (fun ls hl => ?_)
  refine lv_iconst (v := 0) hx hb dX12_passes_2 (by decide) ?_
  refine lv_istore (lv' := [(4, .int 0), (3, .int st0), (0, .ref o), (1, .int st0), (2, .int n)]) hx hb dX12_passes_3 hl (by decide) rfl (fun ls hl => ?_)
  have hl := lv_sub (l' := [(0, .ref o), (1, .int st0), (2, .int n), (3, .int st0), (4, .int 0)]) hl [2, 3, 4, 1, 0] rfl
  have LP5_4 : ∀ (kf : Nat) (x_1 : Int32) (x_2 : Int32), (0 ≤ x_2.toInt ∧ x_2.toInt ≤ 8) → ∀ (H : Heap) (locs : List Loc) (ls : Array Slot), ((9 - x_2.toInt).toNat) < kf → va_P g.1 vwCl (List.flatten [bMo g o a th hi ac tp ba en tA fl de iD iO tU fm fk fa fc ft ff fb fi]) H → va_D A (List.flatten [bMo g o a th hi ac tp ba en tA fl de iD iO tU fm fk fa fc ft ff fb fi]) → va_S A s.heap H locs → lv_has ls 8 [(0, .ref o), (1, .int st0), (2, .int n), (3, .int x_1), (4, .int x_2)] → W p l e ({ frames := 1, cells := 0, slots := 0, locals := 22 } : Room) s m args below meth c H locs (0) (0) (zF g (fun (q : Int32) => some (.int q)) (fun (q : Int32) => True) (fun (q : Int32) => [bMo g o a th hi ac tp ba en tA fl de iD iO tU fm fk fa fc ft ff fb fi]) ({ frames := 1, cells := 0, slots := 0, locals := 22 } : Room) below args s A) (F0 m 5 ls []) := by
    intro kf
    induction kf with
    | zero => intro x_1 x_2 i3 H locs ls hk; exact absurd hk (Nat.not_lt_zero _)
    | succ kf ih5_5 =>
      intro x_1 x_2 i3 H locs ls hk5_5 hP hD hS hl
      refine lv_iload hx hb dX12_passes_5 (lv_at hl 4 rfl) ?_
      refine lv_iload_n hx hb dX12_passes_7 rfl (lv_at hl 2 rfl) ?_
      refine lv_icmp_ge (tgt := 95) hx hb dX12_passes_8 (by decide) (fun cb9 => ?_) (fun cb9 => ?_)
      · skip
        have c6 : n.toInt ≤ x_2.toInt := zle cb9 rfl rfl
        refine lv_iload_n hx hb dX12_passes_95 rfl (lv_at hl 3 rfl) ?_
        have hP : va_P g.1 vwCl (List.flatten [bMo g o a th hi ac tp ba en tA fl de iD iO tU fm fk fa fc ft ff fb fi]) H := hP
        have hD : va_D A (List.flatten [bMo g o a th hi ac tp ba en tA fl de iD iO tU fm fk fa fc ft ff fb fi]) := hD
        exact mret_i hx hb hr hlocks hS (Nat.le_of_ble_eq_true rfl) (Nat.le_of_ble_eq_true rfl) dX12_passes_96 (x_1) rfl trivial hP hD
      · skip
        have c7 : x_2.toInt < n.toInt := zlti (Int32.not_le.mp cb9) rfl rfl
        have n8 : x_2.toInt ≤ 7 := zL1 (b := 8) c7 b_n.2 (by decide)
        have n9 : 1 ≤ n.toInt := zL2 (a := 0) c7 i3.1 (by decide)
        refine lv_iload_n hx hb dX12_passes_11 rfl (lv_at hl 3 rfl) ?_
        refine lv_istore (lv' := [(5, .int x_1), (0, .ref o), (1, .int st0), (2, .int n), (3, .int x_1), (4, .int x_2)]) hx hb dX12_passes_12 hl (by decide) rfl (fun ls hl => ?_)
        refine lv_iconst (v := 0) hx hb dX12_passes_14 (by decide) ?_
        refine lv_istore (lv' := [(6, .int 0), (5, .int x_1), (0, .ref o), (1, .int st0), (2, .int n), (3, .int x_1), (4, .int x_2)]) hx hb dX12_passes_15 hl (by decide) rfl (fun ls hl => ?_)
        have hl := lv_sub (l' := [(0, .ref o), (1, .int st0), (2, .int n), (3, .int x_1), (4, .int x_2), (5, .int x_1), (6, .int 0)]) hl [2, 3, 4, 5, 6, 1, 0] rfl
        have LP17_13 : ∀ (kf : Nat) (x_10 : Int32) (x_11 : Int32), (0 ≤ x_11.toInt ∧ x_11.toInt ≤ 8) → ∀ (H : Heap) (locs : List Loc) (ls : Array Slot), ((9 - x_11.toInt).toNat) < kf → va_P g.1 vwCl (List.flatten [bMo g o a th hi ac tp ba en tA fl de iD iO tU fm fk fa fc ft ff fb fi]) H → va_D A (List.flatten [bMo g o a th hi ac tp ba en tA fl de iD iO tU fm fk fa fc ft ff fb fi]) → va_S A s.heap H locs → lv_has ls 8 [(0, .ref o), (1, .int st0), (2, .int n), (3, .int x_10), (4, .int x_2), (5, .int x_1), (6, .int x_11)] → W p l e ({ frames := 1, cells := 0, slots := 0, locals := 22 } : Room) s m args below meth c H locs (0) (0) (zF g (fun (q : Int32) => some (.int q)) (fun (q : Int32) => True) (fun (q : Int32) => [bMo g o a th hi ac tp ba en tA fl de iD iO tU fm fk fa fc ft ff fb fi]) ({ frames := 1, cells := 0, slots := 0, locals := 22 } : Room) below args s A) (F0 m 17 ls []) := by
          intro kf
          induction kf with
          | zero => intro x_10 x_11 i12 H locs ls hk; exact absurd hk (Nat.not_lt_zero _)
          | succ kf ih17_14 =>
            intro x_10 x_11 i12 H locs ls hk17_14 hP hD hS hl
            refine lv_iload hx hb dX12_passes_17 (lv_at hl 6 rfl) ?_
            refine lv_aload_n hx hb dX12_passes_19 rfl (lv_at hl 0 rfl) ?_
            refine va_get (D := g.1) (ci := 10) (v := .ref (a 0)) (C := RX12) (T := TX12) (N := 20) hx hb hts izRX12 hown hK hP 0 rfl rfl 1 (by decide) (hts _ k815) (fun _ h9 => h9) rfl dX12_passes_20 ?_
            refine lv_iconst (v := 3) hx hb dX12_passes_23 (by decide) ?_
            refine va_iald hx hb hK hP 1 0 rfl rfl (zin rfl) dX12_passes_24 ?_
            refine zgq (r := fm 3) rfl (rM3 rfm) (fun x_15 hx_15 => ?_)
            refine lv_icmp_ge (tgt := 89) hx hb dX12_passes_25 (by decide) (fun cb9 => ?_) (fun cb9 => ?_)
            · skip
              have c16 : x_15.toInt ≤ x_11.toInt := zle cb9 rfl rfl
              refine ziinc3 (n' := 1) (a' := 1) (b' := 8) (lv' := fun v9 => [(4, .int v9), (0, .ref o), (1, .int st0), (2, .int n), (3, .int x_10), (5, .int x_1), (6, .int x_11)]) hx hb dX12_passes_89 hl (k := 4) rfl (by decide) (fun _ => rfl) (zaddK (i := x_2.toInt) (j := 1) rfl (by decide) i3.1 n8 (Int.le_refl _) (Int.le_refl _) (by decide)) (fun x_17 ls hx_17 hl => ?_)
              refine lv_goto (tgt := 5) hx hb dX12_passes_92 (by decide) ?_
              have hl := lv_sub (l' := [(0, .ref o), (1, .int st0), (2, .int n), (3, .int x_10), (4, .int x_17), (5, .int x_1), (6, .int x_11)]) hl [1, 2, 3, 4, 0, 5, 6] rfl
              have hP : va_P g.1 vwCl (List.flatten [bMo g o a th hi ac tp ba en tA fl de iD iO tU fm fk fa fc ft ff fb fi]) H := hP
              have hD : va_D A (List.flatten [bMo g o a th hi ac tp ba en tA fl de iD iO tU fm fk fa fc ft ff fb fi]) := hD
              exact ih5_5 x_10 x_17 ⟨(Int.le_trans (by decide) hx_17.2.1), hx_17.2.2⟩ H _ ls (zmK hx_17.1 (by decide) n8 (by decide) hk5_5)  hP hD hS (lv_sub hl [0, 1, 2, 3, 4] rfl)
            · skip
              have c18 : x_11.toInt < x_15.toInt := zlti (Int32.not_le.mp cb9) rfl rfl
              have n19 : x_11.toInt ≤ 7 := zL1 (b := 8) c18 hx_15.2.1 (by decide)
              have n20 : 1 ≤ x_15.toInt := zL2 (a := 0) c18 i12.1 (by decide)
              refine lv_iconst (v := 0) hx hb dX12_passes_28 (by decide) ?_
              refine lv_istore (lv' := [(7, .int 0), (0, .ref o), (1, .int st0), (2, .int n), (3, .int x_10), (4, .int x_2), (5, .int x_1), (6, .int x_11)]) hx hb dX12_passes_29 hl (by decide) rfl (fun ls hl => ?_)
              have hl := lv_sub (l' := [(0, .ref o), (1, .int st0), (2, .int n), (3, .int x_10), (4, .int x_2), (5, .int x_1), (6, .int x_11), (7, .int 0)]) hl [1, 2, 3, 4, 5, 6, 7, 0] rfl
              have LP31_24 : ∀ (kf : Nat) (x_21 : Int32) (x_22 : Int32), (0 ≤ x_22.toInt ∧ x_22.toInt ≤ 8) → ∀ (H : Heap) (locs : List Loc) (ls : Array Slot), ((9 - x_22.toInt).toNat) < kf → va_P g.1 vwCl (List.flatten [bMo g o a th hi ac tp ba en tA fl de iD iO tU fm fk fa fc ft ff fb fi]) H → va_D A (List.flatten [bMo g o a th hi ac tp ba en tA fl de iD iO tU fm fk fa fc ft ff fb fi]) → va_S A s.heap H locs → lv_has ls 8 [(0, .ref o), (1, .int st0), (2, .int n), (3, .int x_21), (4, .int x_2), (5, .int x_1), (6, .int x_11), (7, .int x_22)] → W p l e ({ frames := 1, cells := 0, slots := 0, locals := 22 } : Room) s m args below meth c H locs (0) (0) (zF g (fun (q : Int32) => some (.int q)) (fun (q : Int32) => True) (fun (q : Int32) => [bMo g o a th hi ac tp ba en tA fl de iD iO tU fm fk fa fc ft ff fb fi]) ({ frames := 1, cells := 0, slots := 0, locals := 22 } : Room) below args s A) (F0 m 31 ls []) := by
                intro kf
                induction kf with
                | zero => intro x_21 x_22 i23 H locs ls hk; exact absurd hk (Nat.not_lt_zero _)
                | succ kf ih31_25 =>
                  intro x_21 x_22 i23 H locs ls hk31_25 hP hD hS hl
                  refine lv_iload hx hb dX12_passes_31 (lv_at hl 7 rfl) ?_
                  refine lv_aload_n hx hb dX12_passes_33 rfl (lv_at hl 0 rfl) ?_
                  refine va_get (D := g.1) (ci := 10) (v := .ref (a 0)) (C := RX12) (T := TX12) (N := 20) hx hb hts izRX12 hown hK hP 0 rfl rfl 1 (by decide) (hts _ k815) (fun _ h9 => h9) rfl dX12_passes_34 ?_
                  refine lv_iconst (v := 3) hx hb dX12_passes_37 (by decide) ?_
                  refine va_iald hx hb hK hP 1 0 rfl rfl (zin rfl) dX12_passes_38 ?_
                  refine zgq (r := fm 3) rfl (rM3 rfm) (fun x_26 hx_26 => ?_)
                  refine lv_icmp_ge (tgt := 83) hx hb dX12_passes_39 (by decide) (fun cb9 => ?_) (fun cb9 => ?_)
                  · skip
                    have c27 : x_26.toInt ≤ x_22.toInt := zle cb9 rfl rfl
                    refine ziinc3 (n' := 1) (a' := 1) (b' := 8) (lv' := fun v9 => [(6, .int v9), (0, .ref o), (1, .int st0), (2, .int n), (3, .int x_21), (4, .int x_2), (5, .int x_1), (7, .int x_22)]) hx hb dX12_passes_83 hl (k := 6) rfl (by decide) (fun _ => rfl) (zaddK (i := x_11.toInt) (j := 1) rfl (by decide) i12.1 n19 (Int.le_refl _) (Int.le_refl _) (by decide)) (fun x_28 ls hx_28 hl => ?_)
                    refine lv_goto (tgt := 17) hx hb dX12_passes_86 (by decide) ?_
                    have hl := lv_sub (l' := [(0, .ref o), (1, .int st0), (2, .int n), (3, .int x_21), (4, .int x_2), (5, .int x_1), (6, .int x_28), (7, .int x_22)]) hl [1, 2, 3, 4, 5, 6, 0, 7] rfl
                    have hP : va_P g.1 vwCl (List.flatten [bMo g o a th hi ac tp ba en tA fl de iD iO tU fm fk fa fc ft ff fb fi]) H := hP
                    have hD : va_D A (List.flatten [bMo g o a th hi ac tp ba en tA fl de iD iO tU fm fk fa fc ft ff fb fi]) := hD
                    exact ih17_14 x_21 x_28 ⟨(Int.le_trans (by decide) hx_28.2.1), hx_28.2.2⟩ H _ ls (zmK hx_28.1 (by decide) n19 (by decide) hk17_14)  hP hD hS (lv_sub hl [0, 1, 2, 3, 4, 5, 6] rfl)
                  · skip
                    have c29 : x_22.toInt < x_26.toInt := zlti (Int32.not_le.mp cb9) rfl rfl
                    have n30 : x_22.toInt ≤ 7 := zL1 (b := 8) c29 hx_26.2.1 (by decide)
                    have n31 : 1 ≤ x_26.toInt := zL2 (a := 0) c29 i23.1 (by decide)
                    refine lv_iload hx hb dX12_passes_42 (lv_at hl 6 rfl) ?_
                    refine lv_iload hx hb dX12_passes_44 (lv_at hl 7 rfl) ?_
                    refine lv_icmp_eq (tgt := 77) hx hb dX12_passes_46 (by decide) (fun cb9 => ?_) (fun cb9 => ?_)
                    · skip
                      have c32 : x_11.toInt = x_22.toInt := zeq cb9 rfl rfl
                      refine ziinc3 (n' := 1) (a' := 1) (b' := 8) (lv' := fun v9 => [(7, .int v9), (0, .ref o), (1, .int st0), (2, .int n), (3, .int x_21), (4, .int x_2), (5, .int x_1), (6, .int x_11)]) hx hb dX12_passes_77 hl (k := 7) rfl (by decide) (fun _ => rfl) (zaddK (i := x_22.toInt) (j := 1) rfl (by decide) i23.1 n30 (Int.le_refl _) (Int.le_refl _) (by decide)) (fun x_33 ls hx_33 hl => ?_)
                      refine lv_goto (tgt := 31) hx hb dX12_passes_80 (by decide) ?_
                      have hl := lv_sub (l' := [(0, .ref o), (1, .int st0), (2, .int n), (3, .int x_21), (4, .int x_2), (5, .int x_1), (6, .int x_11), (7, .int x_33)]) hl [1, 2, 3, 4, 5, 6, 7, 0] rfl
                      have hP : va_P g.1 vwCl (List.flatten [bMo g o a th hi ac tp ba en tA fl de iD iO tU fm fk fa fc ft ff fb fi]) H := hP
                      have hD : va_D A (List.flatten [bMo g o a th hi ac tp ba en tA fl de iD iO tU fm fk fa fc ft ff fb fi]) := hD
                      exact ih31_25 x_21 x_33 ⟨(Int.le_trans (by decide) hx_33.2.1), hx_33.2.2⟩ H _ ls (zmK hx_33.1 (by decide) n30 (by decide) hk31_25)  hP hD hS (lv_sub hl [0, 1, 2, 3, 4, 5, 6, 7] rfl)
                    · skip
                      have c34 : ¬ x_11.toInt = x_22.toInt := zne cb9 rfl rfl
                      refine lv_iload hx hb dX12_passes_49 (lv_at hl 5 rfl) ?_
                      refine lv_iload hx hb dX12_passes_51 (lv_at hl 7 rfl) ?_
                      refine mcallS' (g := g) (As := [.int x_1, .int x_22]) (rest := []) St hK hT hA hP hD hS hl.1 [] [0] rfl rfl rfl (m_isOf l g x_1 x_22 ) (va_cwS 2 hts (zgL (zl3 k1062 k1063 k839) k829) rfl rfl rfl (by decide +kernel) ⟨Nat.le_of_ble_eq_true rfl, Nat.le_of_ble_eq_true rfl⟩) rfl rfl (Nat.le_of_ble_eq_true rfl) dX12_passes_53 ⟨(Nat.le_of_ble_eq_true rfl), (Nat.le_of_ble_eq_true rfl)⟩ (fun q_35 H locs hq36 hP hD hS => ?_)
                      replace hq36 : (q_35 = 0 ∨ q_35 = 1) := hq36
                      have hP : va_P g.1 vwCl (List.flatten [bMo g o a th hi ac tp ba en tA fl de iD iO tU fm fk fa fc ft ff fb fi]) H := hP
                      have hD : va_D A (List.flatten [bMo g o a th hi ac tp ba en tA fl de iD iO tU fm fk fa fc ft ff fb fi]) := hD
                      refine W.widen (k := 0) (n := 0) (Nat.le_of_ble_eq_true rfl) (Nat.le_of_ble_eq_true rfl) ?_
                      refine W.eq (g2 := F0 m 56 ls [.int q_35]) rfl ?_
                      rcases hq36 with rfl | rfl
                      · skip
                        refine lv_if_eq (tgt := 77) hx hb dX12_passes_56 (by decide) (fun _ => ?_) (fun c37 => absurd (by decide) c37)
                        refine ziinc3 (n' := 1) (a' := 1) (b' := 8) (lv' := fun v9 => [(7, .int v9), (0, .ref o), (1, .int st0), (2, .int n), (3, .int x_21), (4, .int x_2), (5, .int x_1), (6, .int x_11)]) hx hb dX12_passes_77 hl (k := 7) rfl (by decide) (fun _ => rfl) (zaddK (i := x_22.toInt) (j := 1) rfl (by decide) i23.1 n30 (Int.le_refl _) (Int.le_refl _) (by decide)) (fun x_38 ls hx_38 hl => ?_)
                        refine lv_goto (tgt := 31) hx hb dX12_passes_80 (by decide) ?_
                        have hl := lv_sub (l' := [(0, .ref o), (1, .int st0), (2, .int n), (3, .int x_21), (4, .int x_2), (5, .int x_1), (6, .int x_11), (7, .int x_38)]) hl [1, 2, 3, 4, 5, 6, 7, 0] rfl
                        have hP : va_P g.1 vwCl (List.flatten [bMo g o a th hi ac tp ba en tA fl de iD iO tU fm fk fa fc ft ff fb fi]) H := hP
                        have hD : va_D A (List.flatten [bMo g o a th hi ac tp ba en tA fl de iD iO tU fm fk fa fc ft ff fb fi]) := hD
                        exact ih31_25 x_21 x_38 ⟨(Int.le_trans (by decide) hx_38.2.1), hx_38.2.2⟩ H _ ls (zmK hx_38.1 (by decide) n30 (by decide) hk31_25)  hP hD hS (lv_sub hl [0, 1, 2, 3, 4, 5, 6, 7] rfl)
                      · skip
                        refine lv_if_eq (tgt := 77) hx hb dX12_passes_56 (by decide) (fun c39 => absurd c39 (by decide)) (fun _ => ?_)
                        refine lv_aload_n hx hb dX12_passes_59 rfl (lv_at hl 0 rfl) ?_
                        refine lv_iload hx hb dX12_passes_60 (lv_at hl 6 rfl) ?_
                        refine lv_iload hx hb dX12_passes_62 (lv_at hl 7 rfl) ?_
                        refine mcallV' (g := g) (q0 := 0) (ci := 10) (As := [.int x_11, .int x_22]) (rest := []) St hK hT hA hP hD hS hl.1 [0] [] rfl rfl rfl (m_trustOf l g o a th hi ac tp ba en tA fl de iD iO tU fm fk fa fc ft ff fb fi x_11 x_22 (⟨i12.1, n19⟩) (⟨i23.1, n30⟩)) (cwV 2 hts (zgL (zl4 k868 k869 k870 k839) k835) rfl rfl rfl (by decide +kernel) ⟨Nat.le_of_ble_eq_true rfl, Nat.le_of_ble_eq_true rfl⟩) rfl rfl rfl rfl (Nat.le_of_ble_eq_true rfl) dX12_passes_64 ⟨(Nat.le_of_ble_eq_true rfl), (Nat.le_of_ble_eq_true rfl)⟩ (fun q_40 H locs hq41 hP hD hS => ?_)
                        have hP : va_P g.1 vwCl (List.flatten [bMo g o a th hi ac tp ba en tA fl de iD iO tU fm fk fa fc ft ff fb fi]) H := hP
                        have hD : va_D A (List.flatten [bMo g o a th hi ac tp ba en tA fl de iD iO tU fm fk fa fc ft ff fb fi]) := hD
                        refine W.widen (k := 0) (n := 0) (Nat.le_of_ble_eq_true rfl) (Nat.le_of_ble_eq_true rfl) ?_
                        refine W.eq (g2 := F0 m 67 ls [.int q_40]) rfl ?_
                        refine lv_if_le (tgt := 77) hx hb dX12_passes_67 (by decide) (fun cb9 => ?_) (fun cb9 => ?_)
                        · skip
                          have c42 : q_40.toInt ≤ 0 := zle cb9 rfl (by decide)
                          have n43 : q_40.toInt ≤ 0 := Int.le_trans c42 (Int.le_refl _)
                          refine ziinc3 (n' := 1) (a' := 1) (b' := 8) (lv' := fun v9 => [(7, .int v9), (0, .ref o), (1, .int st0), (2, .int n), (3, .int x_21), (4, .int x_2), (5, .int x_1), (6, .int x_11)]) hx hb dX12_passes_77 hl (k := 7) rfl (by decide) (fun _ => rfl) (zaddK (i := x_22.toInt) (j := 1) rfl (by decide) i23.1 n30 (Int.le_refl _) (Int.le_refl _) (by decide)) (fun x_44 ls hx_44 hl => ?_)
                          refine lv_goto (tgt := 31) hx hb dX12_passes_80 (by decide) ?_
                          have hl := lv_sub (l' := [(0, .ref o), (1, .int st0), (2, .int n), (3, .int x_21), (4, .int x_2), (5, .int x_1), (6, .int x_11), (7, .int x_44)]) hl [1, 2, 3, 4, 5, 6, 7, 0] rfl
                          have hP : va_P g.1 vwCl (List.flatten [bMo g o a th hi ac tp ba en tA fl de iD iO tU fm fk fa fc ft ff fb fi]) H := hP
                          have hD : va_D A (List.flatten [bMo g o a th hi ac tp ba en tA fl de iD iO tU fm fk fa fc ft ff fb fi]) := hD
                          exact ih31_25 x_21 x_44 ⟨(Int.le_trans (by decide) hx_44.2.1), hx_44.2.2⟩ H _ ls (zmK hx_44.1 (by decide) n30 (by decide) hk31_25)  hP hD hS (lv_sub hl [0, 1, 2, 3, 4, 5, 6, 7] rfl)
                        · skip
                          have c45 : 0 < q_40.toInt := zlti (Int32.not_le.mp cb9) (by decide) rfl
                          have n46 : 1 ≤ q_40.toInt := zL2 (a := 0) c45 (Int.le_refl _) (by decide)
                          refine lv_iload_n hx hb dX12_passes_70 rfl (lv_at hl 3 rfl) ?_
                          refine lv_iconst (v := 1) hx hb dX12_passes_71 (by decide) ?_
                          refine lv_iload hx hb dX12_passes_72 (lv_at hl 6 rfl) ?_
                          refine lv_ishl hx hb dX12_passes_74 ?_
                          refine zgb (zshl1 (j := x_11.toInt) rfl 7 128 (by decide) (by decide) ⟨i12.1, n19⟩) (fun x_47 hx_47 => ?_)
                          refine lv_ior hx hb dX12_passes_75 ?_
                          refine zg (fun x_48 => ?_)
                          refine lv_istore_n (lv' := [(3, .int x_48), (0, .ref o), (1, .int st0), (2, .int n), (4, .int x_2), (5, .int x_1), (6, .int x_11), (7, .int x_22)]) hx hb dX12_passes_76 rfl hl (by decide) rfl (fun ls hl => ?_)
                          refine ziinc3 (n' := 1) (a' := 1) (b' := 8) (lv' := fun v9 => [(7, .int v9), (3, .int x_48), (0, .ref o), (1, .int st0), (2, .int n), (4, .int x_2), (5, .int x_1), (6, .int x_11)]) hx hb dX12_passes_77 hl (k := 7) rfl (by decide) (fun _ => rfl) (zaddK (i := x_22.toInt) (j := 1) rfl (by decide) i23.1 n30 (Int.le_refl _) (Int.le_refl _) (by decide)) (fun x_49 ls hx_49 hl => ?_)
                          refine lv_goto (tgt := 31) hx hb dX12_passes_80 (by decide) ?_
                          have hl := lv_sub (l' := [(0, .ref o), (1, .int st0), (2, .int n), (3, .int x_48), (4, .int x_2), (5, .int x_1), (6, .int x_11), (7, .int x_49)]) hl [2, 3, 4, 1, 5, 6, 7, 0] rfl
                          have hP : va_P g.1 vwCl (List.flatten [bMo g o a th hi ac tp ba en tA fl de iD iO tU fm fk fa fc ft ff fb fi]) H := hP
                          have hD : va_D A (List.flatten [bMo g o a th hi ac tp ba en tA fl de iD iO tU fm fk fa fc ft ff fb fi]) := hD
                          exact ih31_25 x_48 x_49 ⟨(Int.le_trans (by decide) hx_49.2.1), hx_49.2.2⟩ H _ ls (zmK hx_49.1 (by decide) n30 (by decide) hk31_25)  hP hD hS (lv_sub hl [0, 1, 2, 3, 4, 5, 6, 7] rfl)
              have hP : va_P g.1 vwCl (List.flatten [bMo g o a th hi ac tp ba en tA fl de iD iO tU fm fk fa fc ft ff fb fi]) H := hP
              have hD : va_D A (List.flatten [bMo g o a th hi ac tp ba en tA fl de iD iO tU fm fk fa fc ft ff fb fi]) := hD
              exact LP31_24 _ x_10 0 (by decide) H _ ls (Nat.lt_succ_self _)  hP hD hS (lv_sub hl [0, 1, 2, 3, 4, 5, 6, 7] rfl)
        have hP : va_P g.1 vwCl (List.flatten [bMo g o a th hi ac tp ba en tA fl de iD iO tU fm fk fa fc ft ff fb fi]) H := hP
        have hD : va_D A (List.flatten [bMo g o a th hi ac tp ba en tA fl de iD iO tU fm fk fa fc ft ff fb fi]) := hD
        exact LP17_13 _ x_1 0 (by decide) H _ ls (Nat.lt_succ_self _)  hP hD hS (lv_sub hl [0, 1, 2, 3, 4, 5, 6] rfl)
  have hP : va_P g.1 vwCl (List.flatten [bMo g o a th hi ac tp ba en tA fl de iD iO tU fm fk fa fc ft ff fb fi]) s.heap := hP
  have hD : va_D A (List.flatten [bMo g o a th hi ac tp ba en tA fl de iD iO tU fm fk fa fc ft ff fb fi]) := hD
  exact LP5_4 _ st0 0 (by decide) s.heap _ ls (Nat.lt_succ_self _)  hP hD hS (lv_sub hl [0, 1, 2, 3, 4] rfl)
set_option maxRecDepth 100000 in
set_option maxHeartbeats 4000000 in
theorem m_circleOf (l : Launch) (g : zG) (o : Nat) (a : Nat → Nat) (th : Int32) (hi : Int32) (ac : Int32) (tp : Int32) (ba : Int32) (en : Int32) (tA : Int32) (fl : Int32) (de : Int32) (iD : Int32) (iO : Int32) (tU : Int32) (fm : Nat → Int32) (fk : Nat → Int32) (fa : Nat → Int32) (fc : Nat → Int32) (ft : Nat → Int32) (ff : Nat → Int32) (fb : Nat → Int32) (fi : Nat → Int32) (x : Int32) (rfm : rM fm) (b_x : 0 ≤ x.toInt ∧ x.toInt ≤ 7) : zM' g l yX12_circleOf (Cond.code yX12_circleOf cX12_circleOf 5 (some .int) :: zB) ({ frames := 2, cells := 0, slots := 0, locals := 49 } : Room) [.ref o, .int x] [bMo g o a th hi ac tp ba en tA fl de iD iO tU fm fk fa fc ft ff fb fi] (fun (q : Int32) => some (.int q)) (fun (q : Int32) => True) (fun (q : Int32) => [bMo g o a th hi ac tp ba en tA fl de iD iO tU fm fk fa fc ft ff fb fi]) := by
  refine zM'.of (cc := cX12_circleOf) (maxL := 5) (rt := (some .int)) (by decide) rfl (Nat.le_of_ble_eq_true rfl) ?_
  intro p e s m args below meth c A ls St hr hlocks hin hK hT hA hP hD hS hl
  obtain ⟨hx, hb, hml, hown, hts⟩ := id St
  have hl : lv_has ls 5 [(0, .ref o), (1, .int x)] := hl
  refine lv_iconst (v := 1) hx hb dX12_circleOf_0 (by decide) ?_
  refine lv_iload_n hx hb dX12_circleOf_1 rfl (lv_at hl 1 rfl) ?_
  refine lv_ishl hx hb dX12_circleOf_2 ?_
  refine zgb (zshl1 (j := x.toInt) rfl 7 128 (by decide) (by decide) ⟨b_x.1, b_x.2⟩) (fun x_1 hx_1 => ?_)
  refine lv_istore_n (lv' := [(2, .int x_1), (0, .ref o), (1, .int x)]) hx hb dX12_circleOf_3 rfl hl (by decide) rfl (fun ls hl => ?_)
  refine lv_aload_n hx hb dX12_circleOf_4 rfl (lv_at hl 1 rfl) ?_
  refine lv_iconst (v := 1) hx hb dX12_circleOf_5 (by decide) ?_
  refine lv_iload_n hx hb dX12_circleOf_6 rfl (lv_at hl 2 rfl) ?_
  refine lv_ishl hx hb dX12_circleOf_7 ?_
  refine zgb (zshl1 (j := x.toInt) rfl 7 128 (by decide) (by decide) ⟨b_x.1, b_x.2⟩) (fun x_2 hx_2 => ?_)
  refine lv_bipush (v := 8) hx hb dX12_circleOf_8 (by decide) ?_
  have hL8 : (8 : Int32).toInt = 8 := by decide
  refine mcallV' (g := g) (q0 := 0) (ci := 10) (As := [.int x_2, .int 8]) (rest := []) St hK hT hA hP hD hS hl.1 [0] [] rfl rfl rfl (m_passes l g o a th hi ac tp ba en tA fl de iD iO tU fm fk fa fc ft ff fb fi x_2 8 rfm (by decide)) (cwV 2 hts (zgL (zl4 k1111 k1112 k1113 k839) k1109) rfl rfl rfl (by decide +kernel) ⟨Nat.le_of_ble_eq_true rfl, Nat.le_of_ble_eq_true rfl⟩) rfl rfl rfl rfl (Nat.le_of_ble_eq_true rfl) dX12_circleOf_10 ⟨(Nat.le_of_ble_eq_true rfl), (Nat.le_of_ble_eq_true rfl)⟩ (fun q_3 H locs hq4 hP hD hS => ?_)
  have hP : va_P g.1 vwCl (List.flatten [bMo g o a th hi ac tp ba en tA fl de iD iO tU fm fk fa fc ft ff fb fi]) H := hP
  have hD : va_D A (List.flatten [bMo g o a th hi ac tp ba en tA fl de iD iO tU fm fk fa fc ft ff fb fi]) := hD
  refine W.widen (k := 0) (n := 0) (Nat.le_of_ble_eq_true rfl) (Nat.le_of_ble_eq_true rfl) ?_
  refine W.eq (g2 := F0 m 13 ls [.int q_3]) rfl ?_
  refine lv_istore_n (lv' := [(3, .int q_3), (2, .int x_1), (0, .ref o), (1, .int x)]) hx hb dX12_circleOf_13 rfl hl (by decide) rfl (fun ls hl => ?_)
  refine lv_iconst (v := 0) hx hb dX12_circleOf_14 (by decide) ?_
  refine lv_istore (lv' := [(4, .int 0), (3, .int q_3), (2, .int x_1), (0, .ref o), (1, .int x)]) hx hb dX12_circleOf_15 hl (by decide) rfl (fun ls hl => ?_)
  have hl := lv_sub (l' := [(0, .ref o), (1, .int x), (2, .int x_1), (3, .int q_3), (4, .int 0)]) hl [3, 4, 2, 1, 0] rfl
  have LP17_8 : ∀ (kf : Nat) (x_5 : Int32) (x_6 : Int32), (0 ≤ x_6.toInt ∧ x_6.toInt ≤ 8) → ∀ (H : Heap) (locs : List Loc) (ls : Array Slot), ((9 - x_6.toInt).toNat) < kf → va_P g.1 vwCl (List.flatten [bMo g o a th hi ac tp ba en tA fl de iD iO tU fm fk fa fc ft ff fb fi]) H → va_D A (List.flatten [bMo g o a th hi ac tp ba en tA fl de iD iO tU fm fk fa fc ft ff fb fi]) → va_S A s.heap H locs → lv_has ls 5 [(0, .ref o), (1, .int x), (2, .int x_5), (3, .int q_3), (4, .int x_6)] → W p l e ({ frames := 2, cells := 0, slots := 0, locals := 49 } : Room) s m args below meth c H locs (0) (0) (zF g (fun (q : Int32) => some (.int q)) (fun (q : Int32) => True) (fun (q : Int32) => [bMo g o a th hi ac tp ba en tA fl de iD iO tU fm fk fa fc ft ff fb fi]) ({ frames := 2, cells := 0, slots := 0, locals := 49 } : Room) below args s A) (F0 m 17 ls []) := by
    intro kf
    induction kf with
    | zero => intro x_5 x_6 i7 H locs ls hk; exact absurd hk (Nat.not_lt_zero _)
    | succ kf ih17_9 =>
      intro x_5 x_6 i7 H locs ls hk17_9 hP hD hS hl
      refine lv_iload hx hb dX12_circleOf_17 (lv_at hl 4 rfl) ?_
      refine lv_aload_n hx hb dX12_circleOf_19 rfl (lv_at hl 0 rfl) ?_
      refine va_get (D := g.1) (ci := 10) (v := .ref (a 0)) (C := RX12) (T := TX12) (N := 20) hx hb hts izRX12 hown hK hP 0 rfl rfl 1 (by decide) (hts _ k815) (fun _ h9 => h9) rfl dX12_circleOf_20 ?_
      refine lv_iconst (v := 3) hx hb dX12_circleOf_23 (by decide) ?_
      refine va_iald hx hb hK hP 1 0 rfl rfl (zin rfl) dX12_circleOf_24 ?_
      refine zgq (r := fm 3) rfl (rM3 rfm) (fun x_10 hx_10 => ?_)
      refine lv_icmp_ge (tgt := 67) hx hb dX12_circleOf_25 (by decide) (fun cb9 => ?_) (fun cb9 => ?_)
      · skip
        have c11 : x_10.toInt ≤ x_6.toInt := zle cb9 rfl rfl
        refine lv_iload_n hx hb dX12_circleOf_67 rfl (lv_at hl 2 rfl) ?_
        have hP : va_P g.1 vwCl (List.flatten [bMo g o a th hi ac tp ba en tA fl de iD iO tU fm fk fa fc ft ff fb fi]) H := hP
        have hD : va_D A (List.flatten [bMo g o a th hi ac tp ba en tA fl de iD iO tU fm fk fa fc ft ff fb fi]) := hD
        exact mret_i hx hb hr hlocks hS (Nat.le_of_ble_eq_true rfl) (Nat.le_of_ble_eq_true rfl) dX12_circleOf_68 (x_5) rfl trivial hP hD
      · skip
        have c12 : x_6.toInt < x_10.toInt := zlti (Int32.not_le.mp cb9) rfl rfl
        have n13 : x_6.toInt ≤ 7 := zL1 (b := 8) c12 hx_10.2.1 (by decide)
        have n14 : 1 ≤ x_10.toInt := zL2 (a := 0) c12 i7.1 (by decide)
        refine lv_iload_n hx hb dX12_circleOf_28 rfl (lv_at hl 3 rfl) ?_
        refine lv_iload hx hb dX12_circleOf_29 (lv_at hl 4 rfl) ?_
        refine mcallS' (g := g) (As := [.int q_3, .int x_6]) (rest := []) St hK hT hA hP hD hS hl.1 [] [0] rfl rfl rfl (m_isOf l g q_3 x_6 ) (va_cwS 2 hts (zgL (zl3 k1062 k1063 k839) k829) rfl rfl rfl (by decide +kernel) ⟨Nat.le_of_ble_eq_true rfl, Nat.le_of_ble_eq_true rfl⟩) rfl rfl (Nat.le_of_ble_eq_true rfl) dX12_circleOf_31 ⟨(Nat.le_of_ble_eq_true rfl), (Nat.le_of_ble_eq_true rfl)⟩ (fun q_15 H locs hq16 hP hD hS => ?_)
        replace hq16 : (q_15 = 0 ∨ q_15 = 1) := hq16
        have hP : va_P g.1 vwCl (List.flatten [bMo g o a th hi ac tp ba en tA fl de iD iO tU fm fk fa fc ft ff fb fi]) H := hP
        have hD : va_D A (List.flatten [bMo g o a th hi ac tp ba en tA fl de iD iO tU fm fk fa fc ft ff fb fi]) := hD
        refine W.widen (k := 0) (n := 0) (Nat.le_of_ble_eq_true rfl) (Nat.le_of_ble_eq_true rfl) ?_
        refine W.eq (g2 := F0 m 34 ls [.int q_15]) rfl ?_
        rcases hq16 with rfl | rfl
        · skip
          refine lv_if_eq (tgt := 61) hx hb dX12_circleOf_34 (by decide) (fun _ => ?_) (fun c17 => absurd (by decide) c17)
          refine ziinc3 (n' := 1) (a' := 1) (b' := 8) (lv' := fun v9 => [(4, .int v9), (0, .ref o), (1, .int x), (2, .int x_5), (3, .int q_3)]) hx hb dX12_circleOf_61 hl (k := 4) rfl (by decide) (fun _ => rfl) (zaddK (i := x_6.toInt) (j := 1) rfl (by decide) i7.1 n13 (Int.le_refl _) (Int.le_refl _) (by decide)) (fun x_18 ls hx_18 hl => ?_)
          refine lv_goto (tgt := 17) hx hb dX12_circleOf_64 (by decide) ?_
          have hl := lv_sub (l' := [(0, .ref o), (1, .int x), (2, .int x_5), (3, .int q_3), (4, .int x_18)]) hl [1, 2, 3, 4, 0] rfl
          have hP : va_P g.1 vwCl (List.flatten [bMo g o a th hi ac tp ba en tA fl de iD iO tU fm fk fa fc ft ff fb fi]) H := hP
          have hD : va_D A (List.flatten [bMo g o a th hi ac tp ba en tA fl de iD iO tU fm fk fa fc ft ff fb fi]) := hD
          exact ih17_9 x_5 x_18 ⟨(Int.le_trans (by decide) hx_18.2.1), hx_18.2.2⟩ H _ ls (zmK hx_18.1 (by decide) n13 (by decide) hk17_9)  hP hD hS (lv_sub hl [0, 1, 2, 3, 4] rfl)
        · skip
          refine lv_if_eq (tgt := 61) hx hb dX12_circleOf_34 (by decide) (fun c19 => absurd c19 (by decide)) (fun _ => ?_)
          refine lv_aload_n hx hb dX12_circleOf_37 rfl (lv_at hl 0 rfl) ?_
          refine lv_iconst (v := 1) hx hb dX12_circleOf_38 (by decide) ?_
          refine lv_iload hx hb dX12_circleOf_39 (lv_at hl 4 rfl) ?_
          refine lv_ishl hx hb dX12_circleOf_41 ?_
          refine zgb (zshl1 (j := x_6.toInt) rfl 7 128 (by decide) (by decide) ⟨i7.1, n13⟩) (fun x_20 hx_20 => ?_)
          refine lv_bipush (v := 8) hx hb dX12_circleOf_42 (by decide) ?_
          refine mcallV' (g := g) (q0 := 0) (ci := 10) (As := [.int x_20, .int 8]) (rest := []) St hK hT hA hP hD hS hl.1 [0] [] rfl rfl rfl (m_passes l g o a th hi ac tp ba en tA fl de iD iO tU fm fk fa fc ft ff fb fi x_20 8 rfm (by decide)) (cwV 2 hts (zgL (zl4 k1111 k1112 k1113 k839) k1109) rfl rfl rfl (by decide +kernel) ⟨Nat.le_of_ble_eq_true rfl, Nat.le_of_ble_eq_true rfl⟩) rfl rfl rfl rfl (Nat.le_of_ble_eq_true rfl) dX12_circleOf_44 ⟨(Nat.le_of_ble_eq_true rfl), (Nat.le_of_ble_eq_true rfl)⟩ (fun q_21 H locs hq22 hP hD hS => ?_)
          have hP : va_P g.1 vwCl (List.flatten [bMo g o a th hi ac tp ba en tA fl de iD iO tU fm fk fa fc ft ff fb fi]) H := hP
          have hD : va_D A (List.flatten [bMo g o a th hi ac tp ba en tA fl de iD iO tU fm fk fa fc ft ff fb fi]) := hD
          refine W.widen (k := 0) (n := 0) (Nat.le_of_ble_eq_true rfl) (Nat.le_of_ble_eq_true rfl) ?_
          refine W.eq (g2 := F0 m 47 ls [.int q_21]) rfl ?_
          refine lv_iload_n hx hb dX12_circleOf_47 rfl (lv_at hl 1 rfl) ?_
          refine mcallS' (g := g) (As := [.int q_21, .int x]) (rest := []) St hK hT hA hP hD hS hl.1 [] [0] rfl rfl rfl (m_isOf l g q_21 x ) (va_cwS 2 hts (zgL (zl3 k1062 k1063 k839) k829) rfl rfl rfl (by decide +kernel) ⟨Nat.le_of_ble_eq_true rfl, Nat.le_of_ble_eq_true rfl⟩) rfl rfl (Nat.le_of_ble_eq_true rfl) dX12_circleOf_48 ⟨(Nat.le_of_ble_eq_true rfl), (Nat.le_of_ble_eq_true rfl)⟩ (fun q_23 H locs hq24 hP hD hS => ?_)
          replace hq24 : (q_23 = 0 ∨ q_23 = 1) := hq24
          have hP : va_P g.1 vwCl (List.flatten [bMo g o a th hi ac tp ba en tA fl de iD iO tU fm fk fa fc ft ff fb fi]) H := hP
          have hD : va_D A (List.flatten [bMo g o a th hi ac tp ba en tA fl de iD iO tU fm fk fa fc ft ff fb fi]) := hD
          refine W.widen (k := 0) (n := 0) (Nat.le_of_ble_eq_true rfl) (Nat.le_of_ble_eq_true rfl) ?_
          refine W.eq (g2 := F0 m 51 ls [.int q_23]) rfl ?_
          rcases hq24 with rfl | rfl
          · skip
            refine lv_if_eq (tgt := 61) hx hb dX12_circleOf_51 (by decide) (fun _ => ?_) (fun c25 => absurd (by decide) c25)
            refine ziinc3 (n' := 1) (a' := 1) (b' := 8) (lv' := fun v9 => [(4, .int v9), (0, .ref o), (1, .int x), (2, .int x_5), (3, .int q_3)]) hx hb dX12_circleOf_61 hl (k := 4) rfl (by decide) (fun _ => rfl) (zaddK (i := x_6.toInt) (j := 1) rfl (by decide) i7.1 n13 (Int.le_refl _) (Int.le_refl _) (by decide)) (fun x_26 ls hx_26 hl => ?_)
            refine lv_goto (tgt := 17) hx hb dX12_circleOf_64 (by decide) ?_
            have hl := lv_sub (l' := [(0, .ref o), (1, .int x), (2, .int x_5), (3, .int q_3), (4, .int x_26)]) hl [1, 2, 3, 4, 0] rfl
            have hP : va_P g.1 vwCl (List.flatten [bMo g o a th hi ac tp ba en tA fl de iD iO tU fm fk fa fc ft ff fb fi]) H := hP
            have hD : va_D A (List.flatten [bMo g o a th hi ac tp ba en tA fl de iD iO tU fm fk fa fc ft ff fb fi]) := hD
            exact ih17_9 x_5 x_26 ⟨(Int.le_trans (by decide) hx_26.2.1), hx_26.2.2⟩ H _ ls (zmK hx_26.1 (by decide) n13 (by decide) hk17_9)  hP hD hS (lv_sub hl [0, 1, 2, 3, 4] rfl)
          · skip
            refine lv_if_eq (tgt := 61) hx hb dX12_circleOf_51 (by decide) (fun c27 => absurd c27 (by decide)) (fun _ => ?_)
            refine lv_iload_n hx hb dX12_circleOf_54 rfl (lv_at hl 2 rfl) ?_
            refine lv_iconst (v := 1) hx hb dX12_circleOf_55 (by decide) ?_
            refine lv_iload hx hb dX12_circleOf_56 (lv_at hl 4 rfl) ?_
            refine lv_ishl hx hb dX12_circleOf_58 ?_
            refine zgb (zshl1 (j := x_6.toInt) rfl 7 128 (by decide) (by decide) ⟨i7.1, n13⟩) (fun x_28 hx_28 => ?_)
            refine lv_ior hx hb dX12_circleOf_59 ?_
            refine zg (fun x_29 => ?_)
            refine lv_istore_n (lv' := [(2, .int x_29), (0, .ref o), (1, .int x), (3, .int q_3), (4, .int x_6)]) hx hb dX12_circleOf_60 rfl hl (by decide) rfl (fun ls hl => ?_)
            refine ziinc3 (n' := 1) (a' := 1) (b' := 8) (lv' := fun v9 => [(4, .int v9), (2, .int x_29), (0, .ref o), (1, .int x), (3, .int q_3)]) hx hb dX12_circleOf_61 hl (k := 4) rfl (by decide) (fun _ => rfl) (zaddK (i := x_6.toInt) (j := 1) rfl (by decide) i7.1 n13 (Int.le_refl _) (Int.le_refl _) (by decide)) (fun x_30 ls hx_30 hl => ?_)
            refine lv_goto (tgt := 17) hx hb dX12_circleOf_64 (by decide) ?_
            have hl := lv_sub (l' := [(0, .ref o), (1, .int x), (2, .int x_29), (3, .int q_3), (4, .int x_30)]) hl [2, 3, 1, 4, 0] rfl
            have hP : va_P g.1 vwCl (List.flatten [bMo g o a th hi ac tp ba en tA fl de iD iO tU fm fk fa fc ft ff fb fi]) H := hP
            have hD : va_D A (List.flatten [bMo g o a th hi ac tp ba en tA fl de iD iO tU fm fk fa fc ft ff fb fi]) := hD
            exact ih17_9 x_29 x_30 ⟨(Int.le_trans (by decide) hx_30.2.1), hx_30.2.2⟩ H _ ls (zmK hx_30.1 (by decide) n13 (by decide) hk17_9)  hP hD hS (lv_sub hl [0, 1, 2, 3, 4] rfl)
  have hP : va_P g.1 vwCl (List.flatten [bMo g o a th hi ac tp ba en tA fl de iD iO tU fm fk fa fc ft ff fb fi]) H := hP
  have hD : va_D A (List.flatten [bMo g o a th hi ac tp ba en tA fl de iD iO tU fm fk fa fc ft ff fb fi]) := hD
  exact LP17_8 _ x_1 0 (by decide) H _ ls (Nat.lt_succ_self _)  hP hD hS (lv_sub hl [0, 1, 2, 3, 4] rfl)
set_option maxRecDepth 100000 in
set_option maxHeartbeats 4000000 in
theorem m_moreBy (l : Launch) (g : zG) (x1 : Int32) (y1 : Int32)  : zM' g l yX12_moreBy (Cond.code yX12_moreBy cX12_moreBy 2 (some .int) :: zB) ({ frames := 0, cells := 0, slots := 0, locals := 0 } : Room) [.int x1, .int y1] [] (fun (q : Int32) => some (.int q)) (fun (q : Int32) => True) (fun (q : Int32) => []) := by
  refine zM'.of (cc := cX12_moreBy) (maxL := 2) (rt := (some .int)) (by decide) rfl (Nat.le_of_ble_eq_true rfl) ?_
  intro p e s m args below meth c A ls St hr hlocks hin hK hT hA hP hD hS hl
  obtain ⟨hx, hb, hml, hown, hts⟩ := id St
  have hl : lv_has ls 2 [(0, .int x1), (1, .int y1)] := hl
  refine lv_iload_n hx hb dX12_moreBy_0 rfl (lv_at hl 0 rfl) ?_
  refine lv_if_ne (tgt := 17) hx hb dX12_moreBy_1 (by decide) (fun cb9 => ?_) (fun cb9 => ?_)
  · skip
    have c1 : ¬ x1.toInt = 0 := zne cb9 rfl (by decide)
    refine lv_iload_n hx hb dX12_moreBy_17 rfl (lv_at hl 1 rfl) ?_
    refine lv_if_ne (tgt := 26) hx hb dX12_moreBy_18 (by decide) (fun cb9 => ?_) (fun cb9 => ?_)
    · skip
      have c2 : ¬ y1.toInt = 0 := zne cb9 rfl (by decide)
      refine lv_iconst (v := 0) hx hb dX12_moreBy_26 (by decide) ?_
      have hP : va_P g.1 vwCl (List.flatten []) s.heap := hP
      have hD : va_D A (List.flatten []) := hD
      exact mret_i hx hb hr hlocks hS (Nat.le_of_ble_eq_true rfl) (Nat.le_of_ble_eq_true rfl) dX12_moreBy_27 ((0 : Int32)) rfl trivial hP hD
    · skip
      have c3 : y1.toInt = 0 := zeq cb9 rfl (by decide)
      have n4 : 0 ≤ y1.toInt := Int.le_trans (Int.le_refl _) (Int.le_of_eq c3.symm)
      have n5 : y1.toInt ≤ 0 := Int.le_trans (Int.le_of_eq c3) (Int.le_refl _)
      refine lv_bipush (v := (-10)) hx hb dX12_moreBy_21 (by decide) ?_
      refine lv_goto (tgt := 27) hx hb dX12_moreBy_23 (by decide) ?_
      have hP : va_P g.1 vwCl (List.flatten []) s.heap := hP
      have hD : va_D A (List.flatten []) := hD
      exact mret_i hx hb hr hlocks hS (Nat.le_of_ble_eq_true rfl) (Nat.le_of_ble_eq_true rfl) dX12_moreBy_27 (-10) rfl trivial hP hD
  · skip
    have c6 : x1.toInt = 0 := zeq cb9 rfl (by decide)
    have n7 : 0 ≤ x1.toInt := Int.le_trans (Int.le_refl _) (Int.le_of_eq c6.symm)
    have n8 : x1.toInt ≤ 0 := Int.le_trans (Int.le_of_eq c6) (Int.le_refl _)
    refine lv_iload_n hx hb dX12_moreBy_4 rfl (lv_at hl 1 rfl) ?_
    refine lv_if_ne (tgt := 12) hx hb dX12_moreBy_5 (by decide) (fun cb9 => ?_) (fun cb9 => ?_)
    · skip
      have c9 : ¬ y1.toInt = 0 := zne cb9 rfl (by decide)
      refine lv_bipush (v := 20) hx hb dX12_moreBy_12 (by decide) ?_
      refine lv_goto (tgt := 27) hx hb dX12_moreBy_14 (by decide) ?_
      have hP : va_P g.1 vwCl (List.flatten []) s.heap := hP
      have hD : va_D A (List.flatten []) := hD
      exact mret_i hx hb hr hlocks hS (Nat.le_of_ble_eq_true rfl) (Nat.le_of_ble_eq_true rfl) dX12_moreBy_27 ((20 : Int32)) rfl trivial hP hD
    · skip
      have c10 : y1.toInt = 0 := zeq cb9 rfl (by decide)
      have n11 : 0 ≤ y1.toInt := Int.le_trans (Int.le_refl _) (Int.le_of_eq c10.symm)
      have n12 : y1.toInt ≤ 0 := Int.le_trans (Int.le_of_eq c10) (Int.le_refl _)
      refine lv_iconst (v := 5) hx hb dX12_moreBy_8 (by decide) ?_
      refine lv_goto (tgt := 27) hx hb dX12_moreBy_9 (by decide) ?_
      have hP : va_P g.1 vwCl (List.flatten []) s.heap := hP
      have hD : va_D A (List.flatten []) := hD
      exact mret_i hx hb hr hlocks hS (Nat.le_of_ble_eq_true rfl) (Nat.le_of_ble_eq_true rfl) dX12_moreBy_27 ((5 : Int32)) rfl trivial hP hD
set_option maxRecDepth 100000 in
set_option maxHeartbeats 4000000 in
theorem m_tellerHas (l : Launch) (g : zG) (x1 : Int32) (y1 : Int32)  : zM' g l yX12_tellerHas (Cond.code yX12_tellerHas cX12_tellerHas 2 (some .int) :: zB) ({ frames := 1, cells := 0, slots := 0, locals := 21 } : Room) [.int x1, .int y1] [] (fun (q : Int32) => some (.int q)) (fun (q : Int32) => True) (fun (q : Int32) => []) := by
  refine zM'.of (cc := cX12_tellerHas) (maxL := 2) (rt := (some .int)) (by decide) rfl (Nat.le_of_ble_eq_true rfl) ?_
  intro p e s m args below meth c A ls St hr hlocks hin hK hT hA hP hD hS hl
  obtain ⟨hx, hb, hml, hown, hts⟩ := id St
  have hl : lv_has ls 2 [(0, .int x1), (1, .int y1)] := hl
  refine lv_iload_n hx hb dX12_tellerHas_0 rfl (lv_at hl 0 rfl) ?_
  refine lv_iload_n hx hb dX12_tellerHas_1 rfl (lv_at hl 1 rfl) ?_
  refine mcallS' (g := g) (As := [.int x1, .int y1]) (rest := []) St hK hT hA hP hD hS hl.1 [] [] rfl rfl rfl (m_moreBy l g x1 y1 ) (va_cwS 2 hts (zgL (zl3 k1123 k1124 k839) k1121) rfl rfl rfl (by decide +kernel) ⟨Nat.le_of_ble_eq_true rfl, Nat.le_of_ble_eq_true rfl⟩) rfl rfl (Nat.le_of_ble_eq_true rfl) dX12_tellerHas_2 ⟨(Nat.le_of_ble_eq_true rfl), (Nat.le_of_ble_eq_true rfl)⟩ (fun q_1 H locs hq2 hP hD hS => ?_)
  have hP : va_P g.1 vwCl (List.flatten []) H := hP
  have hD : va_D A (List.flatten []) := hD
  refine W.widen (k := 0) (n := 0) (Nat.le_of_ble_eq_true rfl) (Nat.le_of_ble_eq_true rfl) ?_
  refine W.eq (g2 := F0 m 5 ls [.int q_1]) rfl ?_
  refine lv_iload_n hx hb dX12_tellerHas_5 rfl (lv_at hl 0 rfl) ?_
  refine lv_if_ne (tgt := 13) hx hb dX12_tellerHas_6 (by decide) (fun cb9 => ?_) (fun cb9 => ?_)
  · skip
    have c3 : ¬ x1.toInt = 0 := zne cb9 rfl (by decide)
    refine lv_iconst (v := 0) hx hb dX12_tellerHas_13 (by decide) ?_
    refine lv_isub hx hb dX12_tellerHas_14 ?_
    refine zg (fun x_4 => ?_)
    have hP : va_P g.1 vwCl (List.flatten []) H := hP
    have hD : va_D A (List.flatten []) := hD
    exact mret_i hx hb hr hlocks hS (Nat.le_of_ble_eq_true rfl) (Nat.le_of_ble_eq_true rfl) dX12_tellerHas_15 (x_4) rfl trivial hP hD
  · skip
    have c5 : x1.toInt = 0 := zeq cb9 rfl (by decide)
    have n6 : 0 ≤ x1.toInt := Int.le_trans (Int.le_refl _) (Int.le_of_eq c5.symm)
    have n7 : x1.toInt ≤ 0 := Int.le_trans (Int.le_of_eq c5) (Int.le_refl _)
    refine lv_iconst (v := 4) hx hb dX12_tellerHas_9 (by decide) ?_
    refine lv_goto (tgt := 14) hx hb dX12_tellerHas_10 (by decide) ?_
    refine lv_isub hx hb dX12_tellerHas_14 ?_
    refine zg (fun x_8 => ?_)
    have hP : va_P g.1 vwCl (List.flatten []) H := hP
    have hD : va_D A (List.flatten []) := hD
    exact mret_i hx hb hr hlocks hS (Nat.le_of_ble_eq_true rfl) (Nat.le_of_ble_eq_true rfl) dX12_tellerHas_15 (x_8) rfl trivial hP hD
set_option maxRecDepth 100000 in
set_option maxHeartbeats 4000000 in
theorem m_dryHas (l : Launch) (g : zG) (o : Nat) (a : Nat → Nat) (th : Int32) (hi : Int32) (ac : Int32) (tp : Int32) (ba : Int32) (en : Int32) (tA : Int32) (fl : Int32) (de : Int32) (iD : Int32) (iO : Int32) (tU : Int32) (fm : Nat → Int32) (fk : Nat → Int32) (fa : Nat → Int32) (fc : Nat → Int32) (ft : Nat → Int32) (ff : Nat → Int32) (fb : Nat → Int32) (fi : Nat → Int32) (x : Int32) (x2 : Int32) (x3 : Int32) (x4 : Int32) (b_x : 0 ≤ x.toInt ∧ x.toInt ≤ 7) (b_x2 : 0 ≤ x2.toInt ∧ x2.toInt ≤ 7) : zM' g l yX12_dryHas (Cond.code yX12_dryHas cX12_dryHas 5 (some .int) :: zB) ({ frames := 1, cells := 0, slots := 0, locals := 22 } : Room) [.ref o, .int x, .int x2, .int x3, .int x4] [bMo g o a th hi ac tp ba en tA fl de iD iO tU fm fk fa fc ft ff fb fi] (fun (q : Int32) => some (.int q)) (fun (q : Int32) => True) (fun (q : Int32) => [bMo g o a th hi ac tp ba en tA fl de iD iO tU fm fk fa fc ft ff fb fi]) := by
  refine zM'.of (cc := cX12_dryHas) (maxL := 5) (rt := (some .int)) (by decide) rfl (Nat.le_of_ble_eq_true rfl) ?_
  intro p e s m args below meth c A ls St hr hlocks hin hK hT hA hP hD hS hl
  obtain ⟨hx, hb, hml, hown, hts⟩ := id St
  have hl : lv_has ls 5 [(0, .ref o), (1, .int x), (2, .int x2), (3, .int x3), (4, .int x4)] := hl
  refine lv_iload_n hx hb dX12_dryHas_0 rfl (lv_at hl 3 rfl) ?_
  refine lv_iload hx hb dX12_dryHas_1 (lv_at hl 4 rfl) ?_
  refine mcallS' (g := g) (As := [.int x3, .int x4]) (rest := []) St hK hT hA hP hD hS hl.1 [] [0] rfl rfl rfl (m_moreBy l g x3 x4 ) (va_cwS 2 hts (zgL (zl3 k1123 k1124 k839) k1121) rfl rfl rfl (by decide +kernel) ⟨Nat.le_of_ble_eq_true rfl, Nat.le_of_ble_eq_true rfl⟩) rfl rfl (Nat.le_of_ble_eq_true rfl) dX12_dryHas_3 ⟨(Nat.le_of_ble_eq_true rfl), (Nat.le_of_ble_eq_true rfl)⟩ (fun q_1 H locs hq2 hP hD hS => ?_)
  have hP : va_P g.1 vwCl (List.flatten [bMo g o a th hi ac tp ba en tA fl de iD iO tU fm fk fa fc ft ff fb fi]) H := hP
  have hD : va_D A (List.flatten [bMo g o a th hi ac tp ba en tA fl de iD iO tU fm fk fa fc ft ff fb fi]) := hD
  refine W.widen (k := 0) (n := 0) (Nat.le_of_ble_eq_true rfl) (Nat.le_of_ble_eq_true rfl) ?_
  refine W.eq (g2 := F0 m 6 ls [.int q_1]) rfl ?_
  refine lv_ineg hx hb dX12_dryHas_6 ?_
  refine zg (fun x_3 => ?_)
  refine lv_iload hx hb dX12_dryHas_7 (lv_at hl 4 rfl) ?_
  refine lv_if_ne (tgt := 21) hx hb dX12_dryHas_9 (by decide) (fun cb9 => ?_) (fun cb9 => ?_)
  · skip
    have c4 : ¬ x4.toInt = 0 := zne cb9 rfl (by decide)
    refine lv_iconst (v := 0) hx hb dX12_dryHas_21 (by decide) ?_
    refine lv_isub hx hb dX12_dryHas_22 ?_
    refine zg (fun x_5 => ?_)
    have hP : va_P g.1 vwCl (List.flatten [bMo g o a th hi ac tp ba en tA fl de iD iO tU fm fk fa fc ft ff fb fi]) H := hP
    have hD : va_D A (List.flatten [bMo g o a th hi ac tp ba en tA fl de iD iO tU fm fk fa fc ft ff fb fi]) := hD
    exact mret_i hx hb hr hlocks hS (Nat.le_of_ble_eq_true rfl) (Nat.le_of_ble_eq_true rfl) dX12_dryHas_23 (x_5) rfl trivial hP hD
  · skip
    have c6 : x4.toInt = 0 := zeq cb9 rfl (by decide)
    have n7 : 0 ≤ x4.toInt := Int.le_trans (Int.le_refl _) (Int.le_of_eq c6.symm)
    have n8 : x4.toInt ≤ 0 := Int.le_trans (Int.le_of_eq c6) (Int.le_refl _)
    refine lv_aload_n hx hb dX12_dryHas_12 rfl (lv_at hl 0 rfl) ?_
    refine lv_iload_n hx hb dX12_dryHas_13 rfl (lv_at hl 1 rfl) ?_
    refine lv_iload_n hx hb dX12_dryHas_14 rfl (lv_at hl 2 rfl) ?_
    refine mcallV' (g := g) (q0 := 0) (ci := 10) (As := [.int x, .int x2]) (rest := [.int x_3]) St hK hT hA hP hD hS hl.1 [0] [] rfl rfl rfl (m_trustOf l g o a th hi ac tp ba en tA fl de iD iO tU fm fk fa fc ft ff fb fi x x2 b_x b_x2) (cwV 2 hts (zgL (zl4 k868 k869 k870 k839) k835) rfl rfl rfl (by decide +kernel) ⟨Nat.le_of_ble_eq_true rfl, Nat.le_of_ble_eq_true rfl⟩) rfl rfl rfl rfl (Nat.le_of_ble_eq_true rfl) dX12_dryHas_15 ⟨(Nat.le_of_ble_eq_true rfl), (Nat.le_of_ble_eq_true rfl)⟩ (fun q_9 H locs hq10 hP hD hS => ?_)
    have hP : va_P g.1 vwCl (List.flatten [bMo g o a th hi ac tp ba en tA fl de iD iO tU fm fk fa fc ft ff fb fi]) H := hP
    have hD : va_D A (List.flatten [bMo g o a th hi ac tp ba en tA fl de iD iO tU fm fk fa fc ft ff fb fi]) := hD
    refine W.widen (k := 0) (n := 0) (Nat.le_of_ble_eq_true rfl) (Nat.le_of_ble_eq_true rfl) ?_
    refine W.eq (g2 := F0 m 18 ls [.int q_9, .int x_3]) rfl ?_
    refine lv_goto (tgt := 22) hx hb dX12_dryHas_18 (by decide) ?_
    refine lv_isub hx hb dX12_dryHas_22 ?_
    refine zg (fun x_11 => ?_)
    have hP : va_P g.1 vwCl (List.flatten [bMo g o a th hi ac tp ba en tA fl de iD iO tU fm fk fa fc ft ff fb fi]) H := hP
    have hD : va_D A (List.flatten [bMo g o a th hi ac tp ba en tA fl de iD iO tU fm fk fa fc ft ff fb fi]) := hD
    exact mret_i hx hb hr hlocks hS (Nat.le_of_ble_eq_true rfl) (Nat.le_of_ble_eq_true rfl) dX12_dryHas_23 (x_11) rfl trivial hP hD
