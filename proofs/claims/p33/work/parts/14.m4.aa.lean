/-! the model's rows of acts -/
theorem rC_p {lo hi : Int} {f : Nat → Int32} {i k q : Nat} {v : Int32} (h : lo ≤ (f q).toInt ∧ (f q).toInt ≤ hi) (hv : q = i → lo ≤ v.toInt ∧ v.toInt ≤ hi) : lo ≤ (upd f i v q).toInt ∧ (upd f i v q).toInt ≤ hi := by
  unfold upd
  by_cases e : q = i
  · rw [if_pos e]; exact hv e
  · rw [if_neg e]; exact h
theorem rC_up {f : Nat → Int32} {i : Nat} {v : Int32} (h : rC f) (hc : ∀ j k : Nat, j < 12 → i = 379 * j + k → (k = 2 → 0 ≤ v.toInt ∧ v.toInt ≤ 400) ∧ (k = 3 → 0 ≤ v.toInt ∧ v.toInt ≤ 8) ∧ (k = 4 → 0 ≤ v.toInt ∧ v.toInt ≤ 6) ∧ (k = 9 → 0 ≤ v.toInt ∧ v.toInt ≤ 60)) : rC (upd f i v) := by
  intro j hj
  obtain ⟨h1, h2, h3, h4⟩ := h j hj
  exact ⟨rC_p (k := 2) h1 (fun e => (hc j 2 hj e.symm).1 rfl), rC_p (k := 3) h2 (fun e => (hc j 3 hj e.symm).2.1 rfl), rC_p (k := 4) h3 (fun e => (hc j 4 hj e.symm).2.2.1 rfl), rC_p (k := 9) h4 (fun e => (hc j 9 hj e.symm).2.2.2 rfl)⟩
theorem rM_at {f : Nat → Int32} (h : rM f) (k : Nat) : (k = 2 → 0 ≤ (f k).toInt ∧ (f k).toInt ≤ 400) ∧ (k = 3 → 0 ≤ (f k).toInt ∧ (f k).toInt ≤ 8) ∧ (k = 4 → 0 ≤ (f k).toInt ∧ (f k).toInt ≤ 6) ∧ (k = 9 → 0 ≤ (f k).toInt ∧ (f k).toInt ≤ 60) :=
  ⟨fun e => e ▸ h.1, fun e => e ▸ h.2.1, fun e => e ▸ h.2.2.1, fun e => e ▸ h.2.2.2⟩
theorem rC_sh {f : Nat → Int32} {i x2 : Int32} (h : rC f) (hx : x2.toInt = i.toInt + 379) (h0 : 0 ≤ i.toInt) (h1 : i.toInt < 4169) : rC (upd f i.toNatClampNeg (f x2.toNatClampNeg)) := by
  refine rC_up h (fun j k hj e => ?_)
  rw [zcl] at e ⊢
  have e2 : x2.toInt.toNat = 379 * (j + 1) + k := by omega
  rw [e2]
  by_cases hj2 : j + 1 < 12
  · exact rM_at (h (j + 1) hj2) k
  · refine ⟨fun q => ?_, fun q => ?_, fun q => ?_, fun q => ?_⟩ <;> (exfalso; omega)
theorem rC_st {f g : Nat → Int32} {i k a : Int32} (h : rC f) (hm : rM g) (hi : i.toInt = 379 * a.toInt + k.toInt) (ha : 0 ≤ a.toInt ∧ a.toInt < 12) (hk : 0 ≤ k.toInt ∧ k.toInt < 379) : rC (upd f i.toNatClampNeg (g k.toNatClampNeg)) := by
  refine rC_up h (fun j q hj e => ?_)
  rw [zcl] at e
  have hq : ∀ z : Nat, z < 379 → q = z → k.toNatClampNeg = z := by
    intro z hz hqz; rw [zcl]; omega
  refine ⟨fun e2 => ?_, fun e2 => ?_, fun e2 => ?_, fun e2 => ?_⟩
  · rw [hq 2 (by omega) e2]; exact hm.1
  · rw [hq 3 (by omega) e2]; exact hm.2.1
  · rw [hq 4 (by omega) e2]; exact hm.2.2.1
  · rw [hq 9 (by omega) e2]; exact hm.2.2.2
theorem rM_cq {f g : Nat → Int32} {i k a : Int32} (hm : rM f) (h : rC g) (hi : i.toInt = 379 * a.toInt + k.toInt) (ha : 0 ≤ a.toInt ∧ a.toInt < 12) (hk : 0 ≤ k.toInt ∧ k.toInt < 379) : rM (upd f k.toNatClampNeg (g i.toNatClampNeg)) := by
  have e : i.toNatClampNeg = 379 * a.toInt.toNat + k.toNatClampNeg := by rw [zcl, zcl]; omega
  rw [e]
  exact rM_up hm (rM_at (h a.toInt.toNat (by omega)) k.toNatClampNeg)

/-! rows copied, exactly -/
def zCy (A0 A : Nat → Int32) (o : Nat) (B : Nat → Int32) (p : Nat) (k : Int) : Prop := 0 ≤ k ∧ (∀ i : Nat, (i : Int) < k → A (o + i) = B (p + i)) ∧ ∀ i : Nat, (i < o ∨ (o : Int) + k ≤ i) → A i = A0 i
theorem zCy_0 {A : Nat → Int32} {o : Nat} {B : Nat → Int32} {p : Nat} {k : Int} (e : k = 0) : zCy A A o B p k := ⟨by omega, fun i h => absurd h (by omega), fun _ _ => rfl⟩
theorem zCy_e {A0 A : Nat → Int32} {o : Nat} {B : Nat → Int32} {p : Nat} {k k' : Int} (h : zCy A0 A o B p k) (e : k' = k) : zCy A0 A o B p k' := by subst e; exact h
theorem zCy_s {A0 A : Nat → Int32} {o : Nat} {B : Nat → Int32} {p : Nat} {k k' : Int} {x v : Int32} (h : zCy A0 A o B p k) (hx : x.toInt = (o : Int) + k) (hv : v = B (p + k.toNat)) (e : k' = k + 1) : zCy A0 (upd A x.toNatClampNeg v) o B p k' := by
  have ex : x.toNatClampNeg = o + k.toNat := by rw [zcl]; have := h.1; omega
  rw [ex]
  refine ⟨by have := h.1; omega, fun i hi => ?_, fun i hi => ?_⟩
  · show upd A (o + k.toNat) v (o + i) = B (p + i)
    unfold upd
    by_cases q : i = k.toNat
    · rw [if_pos (by omega), q]; exact hv
    · rw [if_neg (by omega)]; exact h.2.1 i (by have := h.1; omega)
  · show upd A (o + k.toNat) v i = A0 i
    unfold upd
    have := h.1
    rw [if_neg (by omega)]; exact h.2.2 i (by omega)
theorem zCy_at {A0 A : Nat → Int32} {B : Nat → Int32} {k : Int} (h : zCy A0 A 0 B 0 k) (i : Nat) (hi : (i : Int) < k) : A i = B i := by
  have := h.2.1 i hi
  rw [Nat.zero_add] at this; exact this
/-- the elder ones go one down -/
def zSh (f0 f : Nat → Int32) (k : Int) : Prop := 0 ≤ k ∧ (∀ i : Nat, (i : Int) < k → f i = f0 (i + 379)) ∧ ∀ i : Nat, k ≤ (i : Int) → f i = f0 i
theorem zSh_0 {f : Nat → Int32} {k : Int} (e : k = 0) : zSh f f k := ⟨by omega, fun i h => absurd h (by omega), fun _ _ => rfl⟩
theorem zSh_e {f0 f : Nat → Int32} {k k' : Int} (h : zSh f0 f k) (e : k' = k) : zSh f0 f k' := by subst e; exact h
theorem zSh_s {f0 f : Nat → Int32} {k k' : Int} {x y v : Int32} (h : zSh f0 f k) (hx : x.toInt = k) (hy : y.toInt = k + 379) (hv : v = f y.toNatClampNeg) (e : k' = k + 1) : zSh f0 (upd f x.toNatClampNeg v) k' := by
  have h0 := h.1
  have ex : x.toNatClampNeg = k.toNat := by rw [zcl, hx]
  have ey : y.toNatClampNeg = k.toNat + 379 := by rw [zcl]; omega
  rw [ex]
  refine ⟨by omega, fun i hi => ?_, fun i hi => ?_⟩
  · show upd f k.toNat v i = f0 (i + 379)
    unfold upd
    by_cases q : i = k.toNat
    · rw [if_pos q, hv, ey, q]; exact h.2.2 _ (by omega)
    · rw [if_neg q]; exact h.2.1 i (by omega)
  · show upd f k.toNat v i = f0 i
    unfold upd
    rw [if_neg (by omega)]; exact h.2.2 i (by omega)
/-- what is remembered, behind it: a was how many, fc how they were -/
def zRem (fc fc2 : Nat → Int32) (a a2 : Int) (fm : Nat → Int32) : Prop := (a < 12 ∧ a2 = a + 1 ∧ zCy fc fc2 (379 * a.toNat) fm 0 379) ∨ (a = 12 ∧ a2 = 12 ∧ ∃ f9, zSh fc f9 4169 ∧ zCy f9 fc2 4169 fm 0 379)
theorem zCy_o {A0 A : Nat → Int32} {o o' : Nat} {B : Nat → Int32} {p : Nat} {k : Int} (e : o = o') (h : zCy A0 A o B p k) : zCy A0 A o' B p k := by subst e; exact h
set_option maxRecDepth 100000 in
set_option maxHeartbeats 4000000 in
theorem m_putsAside (l : Launch) (g : zG) (o : Nat) (a : Nat → Nat) (th : Int32) (hi : Int32) (ac : Int32) (tp : Int32) (ba : Int32) (en : Int32) (tA : Int32) (fl : Int32) (de : Int32) (iD : Int32) (iO : Int32) (tU : Int32) (fm : Nat → Int32) (fk : Nat → Int32) (fa : Nat → Int32) (fc : Nat → Int32) (ft : Nat → Int32) (ff : Nat → Int32) (fb : Nat → Int32) (fi : Nat → Int32) (rfm : rM fm) (rfa : rM fa) : zM' g l yX12_putsAside (Cond.code yX12_putsAside cX12_putsAside 2 none :: zB) ({ frames := 0, cells := 0, slots := 0, locals := 0 } : Room) [.ref o] [bMo g o a th hi ac tp ba en tA fl de iD iO tU fm fk fa fc ft ff fb fi] (fun (fa2 : Nat → Int32) => none) (fun (fa2 : Nat → Int32) => (rM fa2) ∧ (zCy fa fa2 0 fm 0 379) ∧ ((fa2 0).toInt = (fm 0).toInt ∧ (fa2 3).toInt = (fm 3).toInt ∧ (fa2 4).toInt = (fm 4).toInt)) (fun (fa2 : Nat → Int32) => [bMo g o a th hi ac tp ba en tA fl de iD iO tU fm fk fa2 fc ft ff fb fi]) := by
  refine zM'.of (cc := cX12_putsAside) (maxL := 2) (rt := none) (by decide) rfl (Nat.le_of_ble_eq_true rfl) ?_
  intro p e s m args below meth c A ls St hr hlocks hin hK hT hA hP hD hS hl
  obtain ⟨hx, hb, hml, hown, hts⟩ := id St
  have hl : lv_has ls 2 [(0, .ref o)] := hl
  refine lv_iconst (v := 0) hx hb dX12_putsAside_0 (by decide) ?_
  refine lv_istore_n (lv' := [(1, .int 0), (0, .ref o)]) hx hb dX12_putsAside_1 rfl hl (by decide) rfl (fun ls hl => ?_)
  have hl := lv_sub (l' := [(0, .ref o), (1, .int 0)]) hl [1, 0] rfl
  have LP2_5 : ∀ (kf : Nat) (x_1 : Int32) (fa_2 : Nat → Int32), (0 ≤ x_1.toInt ∧ x_1.toInt ≤ 379) → (rM fa_2) → (zCy fa fa_2 0 fm 0 x_1.toInt) → ∀ (H : Heap) (locs : List Loc) (ls : Array Slot), ((380 - x_1.toInt).toNat) < kf → va_P g.1 vwCl (List.flatten [bMo g o a th hi ac tp ba en tA fl de iD iO tU fm fk fa_2 fc ft ff fb fi]) H → va_D A (List.flatten [bMo g o a th hi ac tp ba en tA fl de iD iO tU fm fk fa_2 fc ft ff fb fi]) → va_S A s.heap H locs → lv_has ls 2 [(0, .ref o), (1, .int x_1)] → W p l e ({ frames := 0, cells := 0, slots := 0, locals := 0 } : Room) s m args below meth c H locs (0) (0) (zF g (fun (fa2 : Nat → Int32) => none) (fun (fa2 : Nat → Int32) => (rM fa2) ∧ (zCy fa fa2 0 fm 0 379) ∧ ((fa2 0).toInt = (fm 0).toInt ∧ (fa2 3).toInt = (fm 3).toInt ∧ (fa2 4).toInt = (fm 4).toInt)) (fun (fa2 : Nat → Int32) => [bMo g o a th hi ac tp ba en tA fl de iD iO tU fm fk fa2 fc ft ff fb fi]) ({ frames := 0, cells := 0, slots := 0, locals := 0 } : Room) below args s A) (F0 m 2 ls []) := by
    intro kf
    induction kf with
    | zero => intro x_1 fa_2 i3 rfa_2 i4 H locs ls hk; exact absurd hk (Nat.not_lt_zero _)
    | succ kf ih2_6 =>
      intro x_1 fa_2 i3 rfa_2 i4 H locs ls hk2_6 hP hD hS hl
      refine lv_iload_n hx hb dX12_putsAside_2 rfl (lv_at hl 1 rfl) ?_
      refine lv_sipush (v := 379) hx hb dX12_putsAside_3 (by decide) ?_
      refine lv_icmp_ge (tgt := 27) hx hb dX12_putsAside_6 (by decide) (fun cb9 => ?_) (fun cb9 => ?_)
      · skip
        have c7 : 379 ≤ x_1.toInt := zle cb9 (by decide) rfl
        have n8 : 379 ≤ x_1.toInt := Int.le_trans (Int.le_refl _) c7
        have hP : va_P g.1 vwCl (List.flatten [bMo g o a th hi ac tp ba en tA fl de iD iO tU fm fk fa_2 fc ft ff fb fi]) H := hP
        have hD : va_D A (List.flatten [bMo g o a th hi ac tp ba en tA fl de iD iO tU fm fk fa_2 fc ft ff fb fi]) := hD
        exact mret_v hx hb hr hlocks hS (Nat.le_of_ble_eq_true rfl) (Nat.le_of_ble_eq_true rfl) dX12_putsAside_27 (fa_2) rfl (show (rM fa_2) ∧ (zCy fa fa_2 0 fm 0 379) ∧ ((fa_2 0).toInt = (fm 0).toInt ∧ (fa_2 3).toInt = (fm 3).toInt ∧ (fa_2 4).toInt = (fm 4).toInt) from ⟨(by assumption), (zCy_e i4 (by omega)), ⟨(congrArg Int32.toInt (zCy_at (show zCy _ _ _ _ _ 379 from (zCy_e i4 (by omega))) 0 (by decide))), (congrArg Int32.toInt (zCy_at (show zCy _ _ _ _ _ 379 from (zCy_e i4 (by omega))) 3 (by decide))), (congrArg Int32.toInt (zCy_at (show zCy _ _ _ _ _ 379 from (zCy_e i4 (by omega))) 4 (by decide)))⟩⟩) hP hD
      · skip
        have c9 : x_1.toInt < 379 := zlti (Int32.not_le.mp cb9) rfl (by decide)
        have n10 : x_1.toInt ≤ 378 := zL1 (b := 379) c9 (Int.le_refl _) (by decide)
        refine lv_aload_n hx hb dX12_putsAside_9 rfl (lv_at hl 0 rfl) ?_
        refine va_get (D := g.1) (ci := 10) (v := .ref (a 2)) (C := RX12) (T := TX12) (N := 20) hx hb hts izRX12 hown hK hP 0 rfl rfl 4 (by decide) (hts _ k817) (fun _ h9 => h9) rfl dX12_putsAside_10 ?_
        refine lv_iload_n hx hb dX12_putsAside_13 rfl (lv_at hl 1 rfl) ?_
        refine lv_aload_n hx hb dX12_putsAside_14 rfl (lv_at hl 0 rfl) ?_
        refine va_get (D := g.1) (ci := 10) (v := .ref (a 0)) (C := RX12) (T := TX12) (N := 20) hx hb hts izRX12 hown hK hP 0 rfl rfl 1 (by decide) (hts _ k815) (fun _ h9 => h9) rfl dX12_putsAside_15 ?_
        refine lv_iload_n hx hb dX12_putsAside_18 rfl (lv_at hl 1 rfl) ?_
        refine va_iald hx hb hK hP 1 0 rfl rfl (zinK (a := 0) (b := 378) i3.1 n10 (by decide)) dX12_putsAside_19 ?_
        refine va_iast hx hb hK hP hD hS 3 0 rfl rfl (zinK (a := 0) (b := 378) i3.1 n10 (by decide)) dX12_putsAside_20 (fun H locs hP hD hS => ?_)
        obtain ⟨fa_11, ⟨rfa_11, hcfa_11⟩, hP, hD⟩ : ∃ fa_11 : Nat → Int32, (rM fa_11 ∧ zCy fa fa_11 0 fm 0 (x_1.toInt + 1)) ∧ va_P g.1 vwCl (List.flatten [bMo g o a th hi ac tp ba en tA fl de iD iO tU fm fk fa_11 fc ft ff fb fi]) H ∧ va_D A (List.flatten [bMo g o a th hi ac tp ba en tA fl de iD iO tU fm fk fa_11 fc ft ff fb fi]) := ⟨upd fa_2 x_1.toNatClampNeg (fm x_1.toNatClampNeg), ⟨(rM_cp rfa_2 rfm), (zCy_s i4 (by omega) (congrArg fm (by rw [zcl]; omega)) rfl)⟩, hP, hD⟩
        refine ziinc3 (n' := 1) (a' := 1) (b' := 379) (lv' := fun v9 => [(1, .int v9), (0, .ref o)]) hx hb dX12_putsAside_21 hl (k := 1) rfl (by decide) (fun _ => rfl) (zaddK (i := x_1.toInt) (j := 1) rfl (by decide) i3.1 n10 (Int.le_refl _) (Int.le_refl _) (by decide)) (fun x_12 ls hx_12 hl => ?_)
        refine lv_goto (tgt := 2) hx hb dX12_putsAside_24 (by decide) ?_
        have hl := lv_sub (l' := [(0, .ref o), (1, .int x_12)]) hl [1, 0] rfl
        have hP : va_P g.1 vwCl (List.flatten [bMo g o a th hi ac tp ba en tA fl de iD iO tU fm fk fa_11 fc ft ff fb fi]) H := hP
        have hD : va_D A (List.flatten [bMo g o a th hi ac tp ba en tA fl de iD iO tU fm fk fa_11 fc ft ff fb fi]) := hD
        exact ih2_6 x_12 fa_11 ⟨(Int.le_trans (by decide) hx_12.2.1), hx_12.2.2⟩ rfa_11 (zCy_e hcfa_11 (by omega)) H _ ls (zmK hx_12.1 (by decide) n10 (by decide) hk2_6)  hP hD hS (lv_sub hl [0, 1] rfl)
  have hL0 : (0 : Int32).toInt = 0 := by decide
  have hP : va_P g.1 vwCl (List.flatten [bMo g o a th hi ac tp ba en tA fl de iD iO tU fm fk fa fc ft ff fb fi]) s.heap := hP
  have hD : va_D A (List.flatten [bMo g o a th hi ac tp ba en tA fl de iD iO tU fm fk fa fc ft ff fb fi]) := hD
  exact LP2_5 _ 0 fa (by decide) rfa (zCy_0 (by decide)) s.heap _ ls (Nat.lt_succ_self _)  hP hD hS (lv_sub hl [0, 1] rfl)
set_option maxRecDepth 100000 in
set_option maxHeartbeats 4000000 in
theorem m_comesBack (l : Launch) (g : zG) (o : Nat) (a : Nat → Nat) (th : Int32) (hi : Int32) (ac : Int32) (tp : Int32) (ba : Int32) (en : Int32) (tA : Int32) (fl : Int32) (de : Int32) (iD : Int32) (iO : Int32) (tU : Int32) (fm : Nat → Int32) (fk : Nat → Int32) (fa : Nat → Int32) (fc : Nat → Int32) (ft : Nat → Int32) (ff : Nat → Int32) (fb : Nat → Int32) (fi : Nat → Int32) (rfm : rM fm) (rfa : rM fa) : zM' g l yX12_comesBack (Cond.code yX12_comesBack cX12_comesBack 2 none :: zB) ({ frames := 0, cells := 0, slots := 0, locals := 0 } : Room) [.ref o] [bMo g o a th hi ac tp ba en tA fl de iD iO tU fm fk fa fc ft ff fb fi] (fun (fm2 : Nat → Int32) => none) (fun (fm2 : Nat → Int32) => (rM fm2) ∧ (zCy fm fm2 0 fa 0 379) ∧ ((fm2 0).toInt = (fa 0).toInt ∧ (fm2 3).toInt = (fa 3).toInt ∧ (fm2 4).toInt = (fa 4).toInt)) (fun (fm2 : Nat → Int32) => [bMo g o a th hi ac tp ba en tA fl de iD iO tU fm2 fk fa fc ft ff fb fi]) := by
  refine zM'.of (cc := cX12_comesBack) (maxL := 2) (rt := none) (by decide) rfl (Nat.le_of_ble_eq_true rfl) ?_
  intro p e s m args below meth c A ls St hr hlocks hin hK hT hA hP hD hS hl
  obtain ⟨hx, hb, hml, hown, hts⟩ := id St
  have hl : lv_has ls 2 [(0, .ref o)] := hl
  refine lv_iconst (v := 0) hx hb dX12_comesBack_0 (by decide) ?_
  refine lv_istore_n (lv' := [(1, .int 0), (0, .ref o)]) hx hb dX12_comesBack_1 rfl hl (by decide) rfl (fun ls hl => ?_)
  have hl := lv_sub (l' := [(0, .ref o), (1, .int 0)]) hl [1, 0] rfl
  have LP2_5 : ∀ (kf : Nat) (x_1 : Int32) (fm_2 : Nat → Int32), (0 ≤ x_1.toInt ∧ x_1.toInt ≤ 379) → (rM fm_2) → (zCy fm fm_2 0 fa 0 x_1.toInt) → ∀ (H : Heap) (locs : List Loc) (ls : Array Slot), ((380 - x_1.toInt).toNat) < kf → va_P g.1 vwCl (List.flatten [bMo g o a th hi ac tp ba en tA fl de iD iO tU fm_2 fk fa fc ft ff fb fi]) H → va_D A (List.flatten [bMo g o a th hi ac tp ba en tA fl de iD iO tU fm_2 fk fa fc ft ff fb fi]) → va_S A s.heap H locs → lv_has ls 2 [(0, .ref o), (1, .int x_1)] → W p l e ({ frames := 0, cells := 0, slots := 0, locals := 0 } : Room) s m args below meth c H locs (0) (0) (zF g (fun (fm2 : Nat → Int32) => none) (fun (fm2 : Nat → Int32) => (rM fm2) ∧ (zCy fm fm2 0 fa 0 379) ∧ ((fm2 0).toInt = (fa 0).toInt ∧ (fm2 3).toInt = (fa 3).toInt ∧ (fm2 4).toInt = (fa 4).toInt)) (fun (fm2 : Nat → Int32) => [bMo g o a th hi ac tp ba en tA fl de iD iO tU fm2 fk fa fc ft ff fb fi]) ({ frames := 0, cells := 0, slots := 0, locals := 0 } : Room) below args s A) (F0 m 2 ls []) := by
    intro kf
    induction kf with
    | zero => intro x_1 fm_2 i3 rfm_2 i4 H locs ls hk; exact absurd hk (Nat.not_lt_zero _)
    | succ kf ih2_6 =>
      intro x_1 fm_2 i3 rfm_2 i4 H locs ls hk2_6 hP hD hS hl
      refine lv_iload_n hx hb dX12_comesBack_2 rfl (lv_at hl 1 rfl) ?_
      refine lv_sipush (v := 379) hx hb dX12_comesBack_3 (by decide) ?_
      refine lv_icmp_ge (tgt := 27) hx hb dX12_comesBack_6 (by decide) (fun cb9 => ?_) (fun cb9 => ?_)
      · skip
        have c7 : 379 ≤ x_1.toInt := zle cb9 (by decide) rfl
        have n8 : 379 ≤ x_1.toInt := Int.le_trans (Int.le_refl _) c7
        have hP : va_P g.1 vwCl (List.flatten [bMo g o a th hi ac tp ba en tA fl de iD iO tU fm_2 fk fa fc ft ff fb fi]) H := hP
        have hD : va_D A (List.flatten [bMo g o a th hi ac tp ba en tA fl de iD iO tU fm_2 fk fa fc ft ff fb fi]) := hD
        exact mret_v hx hb hr hlocks hS (Nat.le_of_ble_eq_true rfl) (Nat.le_of_ble_eq_true rfl) dX12_comesBack_27 (fm_2) rfl (show (rM fm_2) ∧ (zCy fm fm_2 0 fa 0 379) ∧ ((fm_2 0).toInt = (fa 0).toInt ∧ (fm_2 3).toInt = (fa 3).toInt ∧ (fm_2 4).toInt = (fa 4).toInt) from ⟨(by assumption), (zCy_e i4 (by omega)), ⟨(congrArg Int32.toInt (zCy_at (show zCy _ _ _ _ _ 379 from (zCy_e i4 (by omega))) 0 (by decide))), (congrArg Int32.toInt (zCy_at (show zCy _ _ _ _ _ 379 from (zCy_e i4 (by omega))) 3 (by decide))), (congrArg Int32.toInt (zCy_at (show zCy _ _ _ _ _ 379 from (zCy_e i4 (by omega))) 4 (by decide)))⟩⟩) hP hD
      · skip
        have c9 : x_1.toInt < 379 := zlti (Int32.not_le.mp cb9) rfl (by decide)
        have n10 : x_1.toInt ≤ 378 := zL1 (b := 379) c9 (Int.le_refl _) (by decide)
        refine lv_aload_n hx hb dX12_comesBack_9 rfl (lv_at hl 0 rfl) ?_
        refine va_get (D := g.1) (ci := 10) (v := .ref (a 0)) (C := RX12) (T := TX12) (N := 20) hx hb hts izRX12 hown hK hP 0 rfl rfl 1 (by decide) (hts _ k815) (fun _ h9 => h9) rfl dX12_comesBack_10 ?_
        refine lv_iload_n hx hb dX12_comesBack_13 rfl (lv_at hl 1 rfl) ?_
        refine lv_aload_n hx hb dX12_comesBack_14 rfl (lv_at hl 0 rfl) ?_
        refine va_get (D := g.1) (ci := 10) (v := .ref (a 2)) (C := RX12) (T := TX12) (N := 20) hx hb hts izRX12 hown hK hP 0 rfl rfl 4 (by decide) (hts _ k817) (fun _ h9 => h9) rfl dX12_comesBack_15 ?_
        refine lv_iload_n hx hb dX12_comesBack_18 rfl (lv_at hl 1 rfl) ?_
        refine va_iald hx hb hK hP 3 0 rfl rfl (zinK (a := 0) (b := 378) i3.1 n10 (by decide)) dX12_comesBack_19 ?_
        refine va_iast hx hb hK hP hD hS 1 0 rfl rfl (zinK (a := 0) (b := 378) i3.1 n10 (by decide)) dX12_comesBack_20 (fun H locs hP hD hS => ?_)
        obtain ⟨fm_11, ⟨rfm_11, hcfm_11⟩, hP, hD⟩ : ∃ fm_11 : Nat → Int32, (rM fm_11 ∧ zCy fm fm_11 0 fa 0 (x_1.toInt + 1)) ∧ va_P g.1 vwCl (List.flatten [bMo g o a th hi ac tp ba en tA fl de iD iO tU fm_11 fk fa fc ft ff fb fi]) H ∧ va_D A (List.flatten [bMo g o a th hi ac tp ba en tA fl de iD iO tU fm_11 fk fa fc ft ff fb fi]) := ⟨upd fm_2 x_1.toNatClampNeg (fa x_1.toNatClampNeg), ⟨(rM_cp rfm_2 rfa), (zCy_s i4 (by omega) (congrArg fa (by rw [zcl]; omega)) rfl)⟩, hP, hD⟩
        refine ziinc3 (n' := 1) (a' := 1) (b' := 379) (lv' := fun v9 => [(1, .int v9), (0, .ref o)]) hx hb dX12_comesBack_21 hl (k := 1) rfl (by decide) (fun _ => rfl) (zaddK (i := x_1.toInt) (j := 1) rfl (by decide) i3.1 n10 (Int.le_refl _) (Int.le_refl _) (by decide)) (fun x_12 ls hx_12 hl => ?_)
        refine lv_goto (tgt := 2) hx hb dX12_comesBack_24 (by decide) ?_
        have hl := lv_sub (l' := [(0, .ref o), (1, .int x_12)]) hl [1, 0] rfl
        have hP : va_P g.1 vwCl (List.flatten [bMo g o a th hi ac tp ba en tA fl de iD iO tU fm_11 fk fa fc ft ff fb fi]) H := hP
        have hD : va_D A (List.flatten [bMo g o a th hi ac tp ba en tA fl de iD iO tU fm_11 fk fa fc ft ff fb fi]) := hD
        exact ih2_6 x_12 fm_11 ⟨(Int.le_trans (by decide) hx_12.2.1), hx_12.2.2⟩ rfm_11 (zCy_e hcfm_11 (by omega)) H _ ls (zmK hx_12.1 (by decide) n10 (by decide) hk2_6)  hP hD hS (lv_sub hl [0, 1] rfl)
  have hL0 : (0 : Int32).toInt = 0 := by decide
  have hP : va_P g.1 vwCl (List.flatten [bMo g o a th hi ac tp ba en tA fl de iD iO tU fm fk fa fc ft ff fb fi]) s.heap := hP
  have hD : va_D A (List.flatten [bMo g o a th hi ac tp ba en tA fl de iD iO tU fm fk fa fc ft ff fb fi]) := hD
  exact LP2_5 _ 0 fm (by decide) rfm (zCy_0 (by decide)) s.heap _ ls (Nat.lt_succ_self _)  hP hD hS (lv_sub hl [0, 1] rfl)
set_option maxRecDepth 100000 in
set_option maxHeartbeats 4000000 in
theorem m_begins (l : Launch) (g : zG) (o : Nat) (a : Nat → Nat) (th : Int32) (hi : Int32) (ac : Int32) (tp : Int32) (ba : Int32) (en : Int32) (tA : Int32) (fl : Int32) (de : Int32) (iD : Int32) (iO : Int32) (tU : Int32) (fm : Nat → Int32) (fk : Nat → Int32) (fa : Nat → Int32) (fc : Nat → Int32) (ft : Nat → Int32) (ff : Nat → Int32) (fb : Nat → Int32) (fi : Nat → Int32)  : zM' g l yX12_begins (Cond.code yX12_begins cX12_begins 1 none :: zB) ({ frames := 0, cells := 0, slots := 0, locals := 0 } : Room) [.ref o] [bMo g o a th hi ac tp ba en tA fl de iD iO tU fm fk fa fc ft ff fb fi] (fun _ : Unit => none) (fun _ : Unit => True) (fun _ : Unit => [bMo g o a th hi ac 0 (-1) tp 0 (-1) 0 iD iO tU fm fk fa fc ft ff fb fi]) := by
  refine zM'.of (cc := cX12_begins) (maxL := 1) (rt := none) (by decide) rfl (Nat.le_of_ble_eq_true rfl) ?_
  intro p e s m args below meth c A ls St hr hlocks hin hK hT hA hP hD hS hl
  obtain ⟨hx, hb, hml, hown, hts⟩ := id St
  have hl : lv_has ls 1 [(0, .ref o)] := hl
  refine lv_aload_n hx hb dX12_begins_0 rfl (lv_at hl 0 rfl) ?_
  refine lv_iconst (v := (-1)) hx hb dX12_begins_1 (by decide) ?_
  refine va_put (D := g.1) (ci := 10) (v := .int (-1)) (ty := .int) (C := RX12) (T := TX12) (N := 20) hx hb hts izRX12 tyX12 tyX12_ok nmX12 hown hK hP hD hS 0 rfl rfl 12 (by decide) (hts _ k820) (fun _ h9 => h9) rfl (by decide +kernel) rfl rfl (Nat.le_of_ble_eq_true rfl) dX12_begins_2 (fun H locs hP hD hS => ?_)
  have hP : va_P g.1 vwCl (List.flatten [bMo g o a th hi ac tp ba en tA (-1) de iD iO tU fm fk fa fc ft ff fb fi]) H := hP
  have hD : va_D A (List.flatten [bMo g o a th hi ac tp ba en tA (-1) de iD iO tU fm fk fa fc ft ff fb fi]) := hD
  refine lv_aload_n hx hb dX12_begins_5 rfl (lv_at hl 0 rfl) ?_
  refine lv_iconst (v := (-1)) hx hb dX12_begins_6 (by decide) ?_
  refine va_put (D := g.1) (ci := 10) (v := .int (-1)) (ty := .int) (C := RX12) (T := TX12) (N := 20) hx hb hts izRX12 tyX12 tyX12_ok nmX12 hown hK hP hD hS 0 rfl rfl 9 (by decide) (hts _ k876) (fun _ h9 => h9) rfl (by decide +kernel) rfl rfl (Nat.le_of_ble_eq_true rfl) dX12_begins_7 (fun H locs hP hD hS => ?_)
  have hP : va_P g.1 vwCl (List.flatten [bMo g o a th hi ac tp (-1) en tA (-1) de iD iO tU fm fk fa fc ft ff fb fi]) H := hP
  have hD : va_D A (List.flatten [bMo g o a th hi ac tp (-1) en tA (-1) de iD iO tU fm fk fa fc ft ff fb fi]) := hD
  refine lv_aload_n hx hb dX12_begins_10 rfl (lv_at hl 0 rfl) ?_
  refine lv_aload_n hx hb dX12_begins_11 rfl (lv_at hl 0 rfl) ?_
  refine va_get (D := g.1) (ci := 10) (v := .int tp) (C := RX12) (T := TX12) (N := 20) hx hb hts izRX12 hown hK hP 0 rfl rfl 8 (by decide) (hts _ k873) (fun _ h9 => h9) rfl dX12_begins_12 ?_
  refine va_put (D := g.1) (ci := 10) (v := .int tp) (ty := .int) (C := RX12) (T := TX12) (N := 20) hx hb hts izRX12 tyX12 tyX12_ok nmX12 hown hK hP hD hS 0 rfl rfl 10 (by decide) (hts _ k879) (fun _ h9 => h9) rfl (by decide +kernel) rfl rfl (Nat.le_of_ble_eq_true rfl) dX12_begins_15 (fun H locs hP hD hS => ?_)
  have hP : va_P g.1 vwCl (List.flatten [bMo g o a th hi ac tp (-1) tp tA (-1) de iD iO tU fm fk fa fc ft ff fb fi]) H := hP
  have hD : va_D A (List.flatten [bMo g o a th hi ac tp (-1) tp tA (-1) de iD iO tU fm fk fa fc ft ff fb fi]) := hD
  refine lv_aload_n hx hb dX12_begins_18 rfl (lv_at hl 0 rfl) ?_
  refine lv_iconst (v := 0) hx hb dX12_begins_19 (by decide) ?_
  refine va_put (D := g.1) (ci := 10) (v := .int 0) (ty := .int) (C := RX12) (T := TX12) (N := 20) hx hb hts izRX12 tyX12 tyX12_ok nmX12 hown hK hP hD hS 0 rfl rfl 8 (by decide) (hts _ k873) (fun _ h9 => h9) rfl (by decide +kernel) rfl rfl (Nat.le_of_ble_eq_true rfl) dX12_begins_20 (fun H locs hP hD hS => ?_)
  have hP : va_P g.1 vwCl (List.flatten [bMo g o a th hi ac 0 (-1) tp tA (-1) de iD iO tU fm fk fa fc ft ff fb fi]) H := hP
  have hD : va_D A (List.flatten [bMo g o a th hi ac 0 (-1) tp tA (-1) de iD iO tU fm fk fa fc ft ff fb fi]) := hD
  refine lv_aload_n hx hb dX12_begins_23 rfl (lv_at hl 0 rfl) ?_
  refine lv_iconst (v := 0) hx hb dX12_begins_24 (by decide) ?_
  refine va_put (D := g.1) (ci := 10) (v := .int 0) (ty := .int) (C := RX12) (T := TX12) (N := 20) hx hb hts izRX12 tyX12 tyX12_ok nmX12 hown hK hP hD hS 0 rfl rfl 11 (by decide) (hts _ k878) (fun _ h9 => h9) rfl (by decide +kernel) rfl rfl (Nat.le_of_ble_eq_true rfl) dX12_begins_25 (fun H locs hP hD hS => ?_)
  have hP : va_P g.1 vwCl (List.flatten [bMo g o a th hi ac 0 (-1) tp 0 (-1) de iD iO tU fm fk fa fc ft ff fb fi]) H := hP
  have hD : va_D A (List.flatten [bMo g o a th hi ac 0 (-1) tp 0 (-1) de iD iO tU fm fk fa fc ft ff fb fi]) := hD
  refine lv_aload_n hx hb dX12_begins_28 rfl (lv_at hl 0 rfl) ?_
  refine lv_iconst (v := 0) hx hb dX12_begins_29 (by decide) ?_
  refine va_put (D := g.1) (ci := 10) (v := .int 0) (ty := .int) (C := RX12) (T := TX12) (N := 20) hx hb hts izRX12 tyX12 tyX12_ok nmX12 hown hK hP hD hS 0 rfl rfl 13 (by decide) (hts _ k933) (fun _ h9 => h9) rfl (by decide +kernel) rfl rfl (Nat.le_of_ble_eq_true rfl) dX12_begins_30 (fun H locs hP hD hS => ?_)
  have hP : va_P g.1 vwCl (List.flatten [bMo g o a th hi ac 0 (-1) tp 0 (-1) 0 iD iO tU fm fk fa fc ft ff fb fi]) H := hP
  have hD : va_D A (List.flatten [bMo g o a th hi ac 0 (-1) tp 0 (-1) 0 iD iO tU fm fk fa fc ft ff fb fi]) := hD
  have hP : va_P g.1 vwCl (List.flatten [bMo g o a th hi ac 0 (-1) tp 0 (-1) 0 iD iO tU fm fk fa fc ft ff fb fi]) H := hP
  have hD : va_D A (List.flatten [bMo g o a th hi ac 0 (-1) tp 0 (-1) 0 iD iO tU fm fk fa fc ft ff fb fi]) := hD
  exact mret_v hx hb hr hlocks hS (Nat.le_of_ble_eq_true rfl) (Nat.le_of_ble_eq_true rfl) dX12_begins_33 () rfl trivial hP hD
set_option maxRecDepth 100000 in
set_option maxHeartbeats 4000000 in
theorem m_draw (l : Launch) (g : zG) (o : Nat) (a : Nat → Nat) (th : Int32) (hi : Int32) (ac : Int32) (tp : Int32) (ba : Int32) (en : Int32) (tA : Int32) (fl : Int32) (de : Int32) (iD : Int32) (iO : Int32) (tU : Int32) (fm : Nat → Int32) (fk : Nat → Int32) (fa : Nat → Int32) (fc : Nat → Int32) (ft : Nat → Int32) (ff : Nat → Int32) (fb : Nat → Int32) (fi : Nat → Int32) (n : Int32) (rfm : rM fm) (b_n : 1 ≤ n.toInt ∧ n.toInt ≤ 1000) : zM' g l yX12_draw (Cond.code yX12_draw cX12_draw 2 (some .int) :: zB) ({ frames := 0, cells := 0, slots := 0, locals := 0 } : Room) [.ref o, .int n] [bMo g o a th hi ac tp ba en tA fl de iD iO tU fm fk fa fc ft ff fb fi] (fun u : (Nat → Int32) × Int32 => (fun (fm2 : Nat → Int32) (q : Int32) => some (.int q)) (u.1) (u.2)) (fun u : (Nat → Int32) × Int32 => (fun (fm2 : Nat → Int32) (q : Int32) => ((fm2 0).toInt = (fm 0).toInt ∧ (fm2 3).toInt = (fm 3).toInt ∧ (fm2 4).toInt = (fm 4).toInt) ∧ (rM fm2)) (u.1) (u.2)) (fun u : (Nat → Int32) × Int32 => (fun (fm2 : Nat → Int32) (q : Int32) => [bMo g o a th hi ac tp ba en tA fl de iD iO tU fm2 fk fa fc ft ff fb fi]) (u.1) (u.2)) := by
  refine zM'.of (cc := cX12_draw) (maxL := 2) (rt := (some .int)) (by decide) rfl (Nat.le_of_ble_eq_true rfl) ?_
  intro p e s m args below meth c A ls St hr hlocks hin hK hT hA hP hD hS hl
  obtain ⟨hx, hb, hml, hown, hts⟩ := id St
  have hl : lv_has ls 2 [(0, .ref o), (1, .int n)] := hl
  refine lv_aload_n hx hb dX12_draw_0 rfl (lv_at hl 0 rfl) ?_
  refine va_get (D := g.1) (ci := 10) (v := .ref (a 0)) (C := RX12) (T := TX12) (N := 20) hx hb hts izRX12 hown hK hP 0 rfl rfl 1 (by decide) (hts _ k815) (fun _ h9 => h9) rfl dX12_draw_1 ?_
  refine lv_bipush (v := 10) hx hb dX12_draw_4 (by decide) ?_
  refine lv_ldc (v := 1103515245) hx hb hown (hts _ k998) dX12_draw_6 ?_
  refine lv_aload_n hx hb dX12_draw_8 rfl (lv_at hl 0 rfl) ?_
  refine va_get (D := g.1) (ci := 10) (v := .ref (a 0)) (C := RX12) (T := TX12) (N := 20) hx hb hts izRX12 hown hK hP 0 rfl rfl 1 (by decide) (hts _ k815) (fun _ h9 => h9) rfl dX12_draw_9 ?_
  refine lv_bipush (v := 10) hx hb dX12_draw_12 (by decide) ?_
  refine va_iald hx hb hK hP 1 0 rfl rfl (zin rfl) dX12_draw_14 ?_
  refine zg (fun x_1 => ?_)
  refine lv_imul hx hb dX12_draw_15 ?_
  refine zg (fun x_2 => ?_)
  refine lv_sipush (v := 12345) hx hb dX12_draw_16 (by decide) ?_
  refine lv_iadd hx hb dX12_draw_19 ?_
  refine zg (fun x_3 => ?_)
  refine va_iast hx hb hK hP hD hS 1 0 rfl rfl (zin rfl) dX12_draw_20 (fun H locs hP hD hS => ?_)
  obtain ⟨fm_4, rfm_4, hkfm_4, hP, hD⟩ : ∃ fm_4 : Nat → Int32, rM fm_4 ∧ ((fm_4 0).toInt = (fm 0).toInt ∧ (fm_4 3).toInt = (fm 3).toInt ∧ (fm_4 4).toInt = (fm 4).toInt) ∧ va_P g.1 vwCl (List.flatten [bMo g o a th hi ac tp ba en tA fl de iD iO tU fm_4 fk fa fc ft ff fb fi]) H ∧ va_D A (List.flatten [bMo g o a th hi ac tp ba en tA fl de iD iO tU fm_4 fk fa fc ft ff fb fi]) := ⟨upd fm 10 x_3, (rM_stL rfm (by decide)), ⟨rfl, rfl, rfl⟩, hP, hD⟩
  refine lv_aload_n hx hb dX12_draw_21 rfl (lv_at hl 0 rfl) ?_
  refine va_get (D := g.1) (ci := 10) (v := .ref (a 0)) (C := RX12) (T := TX12) (N := 20) hx hb hts izRX12 hown hK hP 0 rfl rfl 1 (by decide) (hts _ k815) (fun _ h9 => h9) rfl dX12_draw_22 ?_
  refine lv_bipush (v := 10) hx hb dX12_draw_25 (by decide) ?_
  refine va_iald hx hb hK hP 1 0 rfl rfl (zin rfl) dX12_draw_27 ?_
  refine zg (fun x_5 => ?_)
  refine lv_bipush (v := 16) hx hb dX12_draw_28 (by decide) ?_
  refine lv_iushr hx hb dX12_draw_30 rfl ?_
  refine zg (fun x_6 => ?_)
  refine lv_sipush (v := 32767) hx hb dX12_draw_31 (by decide) ?_
  refine lv_iand hx hb dX12_draw_34 ?_
  refine zgb (zand32767 _) (fun x_7 hx_7 => ?_)
  refine lv_iload_n hx hb dX12_draw_35 rfl (lv_at hl 1 rfl) ?_
  refine lv_irem hx hb dX12_draw_36 (zne0 (by omega)) ?_
  refine zg (fun x_8 => ?_)
  have hP : va_P g.1 vwCl (List.flatten [bMo g o a th hi ac tp ba en tA fl de iD iO tU fm_4 fk fa fc ft ff fb fi]) H := hP
  have hD : va_D A (List.flatten [bMo g o a th hi ac tp ba en tA fl de iD iO tU fm_4 fk fa fc ft ff fb fi]) := hD
  exact mret_i hx hb hr hlocks hS (Nat.le_of_ble_eq_true rfl) (Nat.le_of_ble_eq_true rfl) dX12_draw_37 (fm_4, x_8) rfl (show ((fm_4 0).toInt = (fm 0).toInt ∧ (fm_4 3).toInt = (fm 3).toInt ∧ (fm_4 4).toInt = (fm 4).toInt) ∧ (rM fm_4) from ⟨(by first | assumption | omega | decide | exact rfl | exact zb01 (by omega) | exact Or.inl (by decide) | exact Or.inr (by first | omega | decide)), rfm_4⟩) hP hD
set_option maxRecDepth 100000 in
set_option maxHeartbeats 4000000 in
theorem m_logs (l : Launch) (g : zG) (o : Nat) (a : Nat → Nat) (th : Int32) (hi : Int32) (ac : Int32) (tp : Int32) (ba : Int32) (en : Int32) (tA : Int32) (fl : Int32) (de : Int32) (iD : Int32) (iO : Int32) (tU : Int32) (fm : Nat → Int32) (fk : Nat → Int32) (fa : Nat → Int32) (fc : Nat → Int32) (ft : Nat → Int32) (ff : Nat → Int32) (fb : Nat → Int32) (fi : Nat → Int32) (wh : Int32) (what : Int32) (rfm : rM fm) : zM' g l yX12_logs (Cond.code yX12_logs cX12_logs 4 none :: zB) ({ frames := 3, cells := 0, slots := 0, locals := 65 } : Room) [.ref o, .int wh, .int what] [bMo g o a th hi ac tp ba en tA fl de iD iO tU fm fk fa fc ft ff fb fi] (fun (fm2 : Nat → Int32) => none) (fun (fm2 : Nat → Int32) => ((fm2 0).toInt = (fm 0).toInt ∧ (fm2 3).toInt = (fm 3).toInt ∧ (fm2 4).toInt = (fm 4).toInt) ∧ (rM fm2)) (fun (fm2 : Nat → Int32) => [bMo g o a th hi ac tp ba en tA fl de iD iO tU fm2 fk fa fc ft ff fb fi]) := by
  refine zM'.of (cc := cX12_logs) (maxL := 4) (rt := none) (by decide) rfl (Nat.le_of_ble_eq_true rfl) ?_
  intro p e s m args below meth c A ls St hr hlocks hin hK hT hA hP hD hS hl
  obtain ⟨hx, hb, hml, hown, hts⟩ := id St
  have hl : lv_has ls 4 [(0, .ref o), (1, .int wh), (2, .int what)] := hl
  refine lv_sipush (v := 239) hx hb dX12_logs_0 (by decide) ?_
  refine lv_istore_n (lv' := [(3, .int 239), (0, .ref o), (1, .int wh), (2, .int what)]) hx hb dX12_logs_3 rfl hl (by decide) rfl (fun ls hl => ?_)
  have hl := lv_sub (l' := [(0, .ref o), (1, .int wh), (2, .int what), (3, .int 239)]) hl [1, 2, 3, 0] rfl
  have LP4_5 : ∀ (kf : Nat) (x_1 : Int32) (fm_2 : Nat → Int32), (3 ≤ x_1.toInt ∧ x_1.toInt ≤ 239) → (rM fm_2) → ((fm_2 0).toInt = (fm 0).toInt ∧ (fm_2 3).toInt = (fm 3).toInt ∧ (fm_2 4).toInt = (fm 4).toInt) → ∀ (H : Heap) (locs : List Loc) (ls : Array Slot), ((x_1.toInt - 3 + 1).toNat) < kf → va_P g.1 vwCl (List.flatten [bMo g o a th hi ac tp ba en tA fl de iD iO tU fm_2 fk fa fc ft ff fb fi]) H → va_D A (List.flatten [bMo g o a th hi ac tp ba en tA fl de iD iO tU fm_2 fk fa fc ft ff fb fi]) → va_S A s.heap H locs → lv_has ls 4 [(0, .ref o), (1, .int wh), (2, .int what), (3, .int x_1)] → W p l e ({ frames := 3, cells := 0, slots := 0, locals := 65 } : Room) s m args below meth c H locs (0) (0) (zF g (fun (fm2 : Nat → Int32) => none) (fun (fm2 : Nat → Int32) => ((fm2 0).toInt = (fm 0).toInt ∧ (fm2 3).toInt = (fm 3).toInt ∧ (fm2 4).toInt = (fm 4).toInt) ∧ (rM fm2)) (fun (fm2 : Nat → Int32) => [bMo g o a th hi ac tp ba en tA fl de iD iO tU fm2 fk fa fc ft ff fb fi]) ({ frames := 3, cells := 0, slots := 0, locals := 65 } : Room) below args s A) (F0 m 4 ls []) := by
    intro kf
    induction kf with
    | zero => intro x_1 fm_2 i3 rfm_2 i4 H locs ls hk; exact absurd hk (Nat.not_lt_zero _)
    | succ kf ih4_6 =>
      intro x_1 fm_2 i3 rfm_2 i4 H locs ls hk4_6 hP hD hS hl
      refine lv_iload_n hx hb dX12_logs_4 rfl (lv_at hl 3 rfl) ?_
      refine lv_iconst (v := 4) hx hb dX12_logs_5 (by decide) ?_
      refine lv_icmp_lt (tgt := 37) hx hb dX12_logs_6 (by decide) (fun cb9 => ?_) (fun cb9 => ?_)
      · skip
        have c7 : x_1.toInt < 4 := zlti cb9 rfl (by decide)
        have n8 : x_1.toInt ≤ 3 := zL1 (b := 4) c7 (Int.le_refl _) (by decide)
        refine lv_aload_n hx hb dX12_logs_37 rfl (lv_at hl 0 rfl) ?_
        refine va_get (D := g.1) (ci := 10) (v := .ref (a 0)) (C := RX12) (T := TX12) (N := 20) hx hb hts izRX12 hown hK hP 0 rfl rfl 1 (by decide) (hts _ k815) (fun _ h9 => h9) rfl dX12_logs_38 ?_
        refine lv_sipush (v := 139) hx hb dX12_logs_41 (by decide) ?_
        refine lv_aload_n hx hb dX12_logs_44 rfl (lv_at hl 0 rfl) ?_
        refine va_get (D := g.1) (ci := 10) (v := .ref (a 0)) (C := RX12) (T := TX12) (N := 20) hx hb hts izRX12 hown hK hP 0 rfl rfl 1 (by decide) (hts _ k815) (fun _ h9 => h9) rfl dX12_logs_45 ?_
        refine lv_bipush (v := 8) hx hb dX12_logs_48 (by decide) ?_
        refine va_iald hx hb hK hP 1 0 rfl rfl (zin rfl) dX12_logs_50 ?_
        refine zg (fun x_9 => ?_)
        refine va_iast hx hb hK hP hD hS 1 0 rfl rfl (zin rfl) dX12_logs_51 (fun H locs hP hD hS => ?_)
        obtain ⟨fm_10, rfm_10, hkfm_10, hP, hD⟩ : ∃ fm_10 : Nat → Int32, rM fm_10 ∧ ((fm_10 0).toInt = (fm_2 0).toInt ∧ (fm_10 3).toInt = (fm_2 3).toInt ∧ (fm_10 4).toInt = (fm_2 4).toInt) ∧ va_P g.1 vwCl (List.flatten [bMo g o a th hi ac tp ba en tA fl de iD iO tU fm_10 fk fa fc ft ff fb fi]) H ∧ va_D A (List.flatten [bMo g o a th hi ac tp ba en tA fl de iD iO tU fm_10 fk fa fc ft ff fb fi]) := ⟨upd fm_2 (Int32.toNatClampNeg 139) x_9, (rM_stB rfm_2 (by decide)), (zkpG (by decide)), hP, hD⟩
        refine lv_aload_n hx hb dX12_logs_52 rfl (lv_at hl 0 rfl) ?_
        refine va_get (D := g.1) (ci := 10) (v := .ref (a 0)) (C := RX12) (T := TX12) (N := 20) hx hb hts izRX12 hown hK hP 0 rfl rfl 1 (by decide) (hts _ k815) (fun _ h9 => h9) rfl dX12_logs_53 ?_
        refine lv_sipush (v := 140) hx hb dX12_logs_56 (by decide) ?_
        refine lv_iload_n hx hb dX12_logs_59 rfl (lv_at hl 1 rfl) ?_
        refine va_iast hx hb hK hP hD hS 1 0 rfl rfl (zin rfl) dX12_logs_60 (fun H locs hP hD hS => ?_)
        obtain ⟨fm_11, rfm_11, hkfm_11, hP, hD⟩ : ∃ fm_11 : Nat → Int32, rM fm_11 ∧ ((fm_11 0).toInt = (fm_10 0).toInt ∧ (fm_11 3).toInt = (fm_10 3).toInt ∧ (fm_11 4).toInt = (fm_10 4).toInt) ∧ va_P g.1 vwCl (List.flatten [bMo g o a th hi ac tp ba en tA fl de iD iO tU fm_11 fk fa fc ft ff fb fi]) H ∧ va_D A (List.flatten [bMo g o a th hi ac tp ba en tA fl de iD iO tU fm_11 fk fa fc ft ff fb fi]) := ⟨upd fm_10 (Int32.toNatClampNeg 140) wh, (rM_stB rfm_10 (by decide)), (zkpG (by decide)), hP, hD⟩
        refine lv_aload_n hx hb dX12_logs_61 rfl (lv_at hl 0 rfl) ?_
        refine va_get (D := g.1) (ci := 10) (v := .ref (a 0)) (C := RX12) (T := TX12) (N := 20) hx hb hts izRX12 hown hK hP 0 rfl rfl 1 (by decide) (hts _ k815) (fun _ h9 => h9) rfl dX12_logs_62 ?_
        refine lv_sipush (v := 141) hx hb dX12_logs_65 (by decide) ?_
        refine lv_iload_n hx hb dX12_logs_68 rfl (lv_at hl 2 rfl) ?_
        refine va_iast hx hb hK hP hD hS 1 0 rfl rfl (zin rfl) dX12_logs_69 (fun H locs hP hD hS => ?_)
        obtain ⟨fm_12, rfm_12, hkfm_12, hP, hD⟩ : ∃ fm_12 : Nat → Int32, rM fm_12 ∧ ((fm_12 0).toInt = (fm_11 0).toInt ∧ (fm_12 3).toInt = (fm_11 3).toInt ∧ (fm_12 4).toInt = (fm_11 4).toInt) ∧ va_P g.1 vwCl (List.flatten [bMo g o a th hi ac tp ba en tA fl de iD iO tU fm_12 fk fa fc ft ff fb fi]) H ∧ va_D A (List.flatten [bMo g o a th hi ac tp ba en tA fl de iD iO tU fm_12 fk fa fc ft ff fb fi]) := ⟨upd fm_11 (Int32.toNatClampNeg 141) what, (rM_stB rfm_11 (by decide)), (zkpG (by decide)), hP, hD⟩
        refine lv_aload_n hx hb dX12_logs_70 rfl (lv_at hl 0 rfl) ?_
        refine va_get (D := g.1) (ci := 10) (v := .ref (a 0)) (C := RX12) (T := TX12) (N := 20) hx hb hts izRX12 hown hK hP 0 rfl rfl 1 (by decide) (hts _ k815) (fun _ h9 => h9) rfl dX12_logs_71 ?_
        refine lv_sipush (v := 142) hx hb dX12_logs_74 (by decide) ?_
        refine lv_aload_n hx hb dX12_logs_77 rfl (lv_at hl 0 rfl) ?_
        refine mcallV' (g := g) (q0 := 0) (ci := 10) (As := []) (rest := [.int 142, .ref (a 0)]) St hK hT hA hP hD hS hl.1 [0] [] rfl rfl rfl (m_believed l g o a th hi ac tp ba en tA fl de iD iO tU fm_12 fk fa fc ft ff fb fi rfm_12) (cwV 0 hts (zgL (zl4 k856 k857 k858 k839) k849) rfl rfl rfl (by decide +kernel) ⟨Nat.le_of_ble_eq_true rfl, Nat.le_of_ble_eq_true rfl⟩) rfl rfl rfl rfl (Nat.le_of_ble_eq_true rfl) dX12_logs_78 ⟨(Nat.le_of_ble_eq_true rfl), (Nat.le_of_ble_eq_true rfl)⟩ (fun q_13 H locs hq14 hP hD hS => ?_)
        have hP : va_P g.1 vwCl (List.flatten [bMo g o a th hi ac tp ba en tA fl de iD iO tU fm_12 fk fa fc ft ff fb fi]) H := hP
        have hD : va_D A (List.flatten [bMo g o a th hi ac tp ba en tA fl de iD iO tU fm_12 fk fa fc ft ff fb fi]) := hD
        refine W.widen (k := 0) (n := 0) (Nat.le_of_ble_eq_true rfl) (Nat.le_of_ble_eq_true rfl) ?_
        refine W.eq (g2 := F0 m 81 ls [.int q_13, .int 142, .ref (a 0)]) rfl ?_
        refine va_iast hx hb hK hP hD hS 1 0 rfl rfl (zin rfl) dX12_logs_81 (fun H locs hP hD hS => ?_)
        obtain ⟨fm_15, rfm_15, hkfm_15, hP, hD⟩ : ∃ fm_15 : Nat → Int32, rM fm_15 ∧ ((fm_15 0).toInt = (fm_12 0).toInt ∧ (fm_15 3).toInt = (fm_12 3).toInt ∧ (fm_15 4).toInt = (fm_12 4).toInt) ∧ va_P g.1 vwCl (List.flatten [bMo g o a th hi ac tp ba en tA fl de iD iO tU fm_15 fk fa fc ft ff fb fi]) H ∧ va_D A (List.flatten [bMo g o a th hi ac tp ba en tA fl de iD iO tU fm_15 fk fa fc ft ff fb fi]) := ⟨upd fm_12 (Int32.toNatClampNeg 142) q_13, (rM_stB rfm_12 (by decide)), (zkpG (by decide)), hP, hD⟩
        refine lv_aload_n hx hb dX12_logs_82 rfl (lv_at hl 0 rfl) ?_
        refine va_get (D := g.1) (ci := 10) (v := .ref (a 0)) (C := RX12) (T := TX12) (N := 20) hx hb hts izRX12 hown hK hP 0 rfl rfl 1 (by decide) (hts _ k815) (fun _ h9 => h9) rfl dX12_logs_83 ?_
        refine lv_bipush (v := 9) hx hb dX12_logs_86 (by decide) ?_
        refine lv_bipush (v := 60) hx hb dX12_logs_88 (by decide) ?_
        refine lv_aload_n hx hb dX12_logs_90 rfl (lv_at hl 0 rfl) ?_
        refine va_get (D := g.1) (ci := 10) (v := .ref (a 0)) (C := RX12) (T := TX12) (N := 20) hx hb hts izRX12 hown hK hP 0 rfl rfl 1 (by decide) (hts _ k815) (fun _ h9 => h9) rfl dX12_logs_91 ?_
        refine lv_bipush (v := 9) hx hb dX12_logs_94 (by decide) ?_
        refine va_iald hx hb hK hP 1 0 rfl rfl (zin rfl) dX12_logs_96 ?_
        refine zgq (r := fm_15 9) rfl (rM9 rfm_15) (fun x_16 hx_16 => ?_)
        refine lv_iconst (v := 1) hx hb dX12_logs_97 (by decide) ?_
        refine lv_iadd hx hb dX12_logs_98 ?_
        refine zg3 (zaddK (i := x_16.toInt) (j := 1) (a' := 1) (b' := 61) rfl (by decide) hx_16.1 hx_16.2.1 (Int.le_refl _) (Int.le_refl _) (by decide)) (fun x_17 hx_17 => ?_)
        have hL60 : (60 : Int32).toInt = 60 := by decide
        refine mcallS' (g := g) (As := [.int 60, .int x_17]) (rest := [.int 9, .ref (a 0)]) St hK hT hA hP hD hS hl.1 [] [0] rfl rfl rfl (m_lesser l g 60 x_17 ) (va_cwS 2 hts (zgL (zl3 k1000 k1001 k839) k827) rfl rfl rfl (by decide +kernel) ⟨Nat.le_of_ble_eq_true rfl, Nat.le_of_ble_eq_true rfl⟩) rfl rfl (Nat.le_of_ble_eq_true rfl) dX12_logs_99 ⟨(Nat.le_of_ble_eq_true rfl), (Nat.le_of_ble_eq_true rfl)⟩ (fun q_18 H locs hq19 hP hD hS => ?_)
        replace hq19 : (q_18.toInt ≤ (60 : Int32).toInt ∧ q_18.toInt ≤ x_17.toInt ∧ (q_18.toInt = (60 : Int32).toInt ∨ q_18.toInt = x_17.toInt)) := hq19
        have hP : va_P g.1 vwCl (List.flatten [bMo g o a th hi ac tp ba en tA fl de iD iO tU fm_15 fk fa fc ft ff fb fi]) H := hP
        have hD : va_D A (List.flatten [bMo g o a th hi ac tp ba en tA fl de iD iO tU fm_15 fk fa fc ft ff fb fi]) := hD
        refine W.widen (k := 0) (n := 0) (Nat.le_of_ble_eq_true rfl) (Nat.le_of_ble_eq_true rfl) ?_
        refine W.eq (g2 := F0 m 102 ls [.int q_18, .int 9, .ref (a 0)]) rfl ?_
        refine va_iast hx hb hK hP hD hS 1 0 rfl rfl (zin rfl) dX12_logs_102 (fun H locs hP hD hS => ?_)
        obtain ⟨fm_20, rfm_20, hkfm_20, hP, hD⟩ : ∃ fm_20 : Nat → Int32, rM fm_20 ∧ ((fm_20 0).toInt = (fm_15 0).toInt ∧ (fm_20 3).toInt = (fm_15 3).toInt ∧ (fm_20 4).toInt = (fm_15 4).toInt) ∧ va_P g.1 vwCl (List.flatten [bMo g o a th hi ac tp ba en tA fl de iD iO tU fm_20 fk fa fc ft ff fb fi]) H ∧ va_D A (List.flatten [bMo g o a th hi ac tp ba en tA fl de iD iO tU fm_20 fk fa fc ft ff fb fi]) := ⟨upd fm_15 9 q_18, (rM_s9 rfm_15 (show 0 ≤ q_18.toInt ∧ q_18.toInt ≤ 60 from (by omega))), ⟨rfl, rfl, rfl⟩, hP, hD⟩
        have hP : va_P g.1 vwCl (List.flatten [bMo g o a th hi ac tp ba en tA fl de iD iO tU fm_20 fk fa fc ft ff fb fi]) H := hP
        have hD : va_D A (List.flatten [bMo g o a th hi ac tp ba en tA fl de iD iO tU fm_20 fk fa fc ft ff fb fi]) := hD
        exact mret_v hx hb hr hlocks hS (Nat.le_of_ble_eq_true rfl) (Nat.le_of_ble_eq_true rfl) dX12_logs_103 (fm_20) rfl (show ((fm_20 0).toInt = (fm 0).toInt ∧ (fm_20 3).toInt = (fm 3).toInt ∧ (fm_20 4).toInt = (fm 4).toInt) ∧ (rM fm_20) from ⟨(by first | assumption | omega | decide | exact rfl | exact zb01 (by omega) | exact Or.inl (by decide) | exact Or.inr (by first | omega | decide)), rfm_20⟩) hP hD
      · skip
        have c21 : 4 ≤ x_1.toInt := zle (Int32.not_lt.mp cb9) (by decide) rfl
        have n22 : 4 ≤ x_1.toInt := Int.le_trans (Int.le_refl _) c21
        refine lv_aload_n hx hb dX12_logs_9 rfl (lv_at hl 0 rfl) ?_
        refine va_get (D := g.1) (ci := 10) (v := .ref (a 0)) (C := RX12) (T := TX12) (N := 20) hx hb hts izRX12 hown hK hP 0 rfl rfl 1 (by decide) (hts _ k815) (fun _ h9 => h9) rfl dX12_logs_10 ?_
        refine lv_sipush (v := 139) hx hb dX12_logs_13 (by decide) ?_
        refine lv_iload_n hx hb dX12_logs_16 rfl (lv_at hl 3 rfl) ?_
        refine lv_iadd hx hb dX12_logs_17 ?_
        refine zg3 (zaddK (i := 139) (j := x_1.toInt) (a' := 143) (b' := 378) (by decide) rfl (Int.le_refl _) (Int.le_refl _) n22 i3.2 (by decide)) (fun x_23 hx_23 => ?_)
        refine lv_aload_n hx hb dX12_logs_18 rfl (lv_at hl 0 rfl) ?_
        refine va_get (D := g.1) (ci := 10) (v := .ref (a 0)) (C := RX12) (T := TX12) (N := 20) hx hb hts izRX12 hown hK hP 0 rfl rfl 1 (by decide) (hts _ k815) (fun _ h9 => h9) rfl dX12_logs_19 ?_
        refine lv_sipush (v := 139) hx hb dX12_logs_22 (by decide) ?_
        refine lv_iload_n hx hb dX12_logs_25 rfl (lv_at hl 3 rfl) ?_
        refine lv_iadd hx hb dX12_logs_26 ?_
        refine zg3 (zaddK (i := 139) (j := x_1.toInt) (a' := 143) (b' := 378) (by decide) rfl (Int.le_refl _) (Int.le_refl _) n22 i3.2 (by decide)) (fun x_24 hx_24 => ?_)
        refine lv_iconst (v := 4) hx hb dX12_logs_27 (by decide) ?_
        refine lv_isub hx hb dX12_logs_28 ?_
        refine zg3 (zsubK (i := x_24.toInt) (j := 4) (a' := 139) (b' := 374) rfl (by decide) hx_24.2.1 hx_24.2.2 (Int.le_refl _) (Int.le_refl _) (by decide)) (fun x_25 hx_25 => ?_)
        refine va_iald hx hb hK hP 1 0 rfl rfl (zinK (a := 139) (b := 374) hx_25.2.1 hx_25.2.2 (by decide)) dX12_logs_29 ?_
        refine zg (fun x_26 => ?_)
        refine va_iast hx hb hK hP hD hS 1 0 rfl rfl (zinK (a := 143) (b := 378) hx_23.2.1 hx_23.2.2 (by decide)) dX12_logs_30 (fun H locs hP hD hS => ?_)
        obtain ⟨fm_27, rfm_27, hkfm_27, hP, hD⟩ : ∃ fm_27 : Nat → Int32, rM fm_27 ∧ ((fm_27 0).toInt = (fm_2 0).toInt ∧ (fm_27 3).toInt = (fm_2 3).toInt ∧ (fm_27 4).toInt = (fm_2 4).toInt) ∧ va_P g.1 vwCl (List.flatten [bMo g o a th hi ac tp ba en tA fl de iD iO tU fm_27 fk fa fc ft ff fb fi]) H ∧ va_D A (List.flatten [bMo g o a th hi ac tp ba en tA fl de iD iO tU fm_27 fk fa fc ft ff fb fi]) := ⟨upd fm_2 x_23.toNatClampNeg x_26, (rM_stB rfm_2 (Int.le_trans (by decide) hx_23.2.1)), (zkpG (by omega)), hP, hD⟩
        refine ziinc3 (n' := (-1)) (a' := 3) (b' := 238) (lv' := fun v9 => [(3, .int v9), (0, .ref o), (1, .int wh), (2, .int what)]) hx hb dX12_logs_31 hl (k := 3) rfl (by decide) (fun _ => rfl) (zaddK (i := x_1.toInt) (j := (-1)) rfl (by decide) n22 i3.2 (Int.le_refl _) (Int.le_refl _) (by decide)) (fun x_28 ls hx_28 hl => ?_)
        refine lv_goto (tgt := 4) hx hb dX12_logs_34 (by decide) ?_
        have hl := lv_sub (l' := [(0, .ref o), (1, .int wh), (2, .int what), (3, .int x_28)]) hl [1, 2, 3, 0] rfl
        have hP : va_P g.1 vwCl (List.flatten [bMo g o a th hi ac tp ba en tA fl de iD iO tU fm_27 fk fa fc ft ff fb fi]) H := hP
        have hD : va_D A (List.flatten [bMo g o a th hi ac tp ba en tA fl de iD iO tU fm_27 fk fa fc ft ff fb fi]) := hD
        exact ih4_6 x_28 fm_27 ⟨hx_28.2.1, (Int.le_trans hx_28.2.2 (by decide))⟩ rfm_27 (by first | omega | assumption | decide) H _ ls (zmKd hx_28.1 (by decide) n22 (by decide) hk4_6)  hP hD hS (lv_sub hl [0, 1, 2, 3] rfl)
  have hL239 : (239 : Int32).toInt = 239 := by decide
  have hP : va_P g.1 vwCl (List.flatten [bMo g o a th hi ac tp ba en tA fl de iD iO tU fm fk fa fc ft ff fb fi]) s.heap := hP
  have hD : va_D A (List.flatten [bMo g o a th hi ac tp ba en tA fl de iD iO tU fm fk fa fc ft ff fb fi]) := hD
  exact LP4_5 _ 239 fm (by decide) rfm (by first | omega | assumption | decide) s.heap _ ls (Nat.lt_succ_self _)  hP hD hS (lv_sub hl [0, 1, 2, 3] rfl)
set_option maxRecDepth 100000 in
set_option maxHeartbeats 4000000 in
theorem m_build (l : Launch) (g : zG) (o : Nat) (a : Nat → Nat) (th : Int32) (hi : Int32) (ac : Int32) (tp : Int32) (ba : Int32) (en : Int32) (tA : Int32) (fl : Int32) (de : Int32) (iD : Int32) (iO : Int32) (tU : Int32) (fm : Nat → Int32) (fk : Nat → Int32) (fa : Nat → Int32) (fc : Nat → Int32) (ft : Nat → Int32) (ff : Nat → Int32) (fb : Nat → Int32) (fi : Nat → Int32) (rfm : rM fm) : zM' g l yX12_build (Cond.code yX12_build cX12_build 4 (some .int) :: zB) ({ frames := 4, cells := 0, slots := 0, locals := 88 } : Room) [.ref o] [bMo g o a th hi ac tp ba en tA fl de iD iO tU fm fk fa fc ft ff fb fi] (fun u : (Nat → Int32) × Int32 => (fun (fm2 : Nat → Int32) (q : Int32) => some (.int q)) (u.1) (u.2)) (fun u : (Nat → Int32) × Int32 => (fun (fm2 : Nat → Int32) (q : Int32) => ((fm2 0).toInt = (fm 0).toInt ∧ (fm2 3).toInt = (fm 3).toInt ∧ (fm2 4).toInt = (fm 4).toInt) ∧ (rM fm2)) (u.1) (u.2)) (fun u : (Nat → Int32) × Int32 => (fun (fm2 : Nat → Int32) (q : Int32) => [bMo g o a th hi ac tp ba en tA fl de iD iO tU fm2 fk fa fc ft ff fb fi]) (u.1) (u.2)) := by
  refine zM'.of (cc := cX12_build) (maxL := 4) (rt := (some .int)) (by decide) rfl (Nat.le_of_ble_eq_true rfl) ?_
  intro p e s m args below meth c A ls St hr hlocks hin hK hT hA hP hD hS hl
  obtain ⟨hx, hb, hml, hown, hts⟩ := id St
  have hl : lv_has ls 4 [(0, .ref o)] := hl
  refine lv_iconst (v := 0) hx hb dX12_build_0 (by decide) ?_
  refine lv_istore_n (lv' := [(1, .int 0), (0, .ref o)]) hx hb dX12_build_1 rfl hl (by decide) rfl (fun ls hl => ?_)
  refine lv_iconst (v := 0) hx hb dX12_build_2 (by decide) ?_
  refine lv_istore_n (lv' := [(2, .int 0), (1, .int 0), (0, .ref o)]) hx hb dX12_build_3 rfl hl (by decide) rfl (fun ls hl => ?_)
  have hl := lv_sub (l' := [(0, .ref o), (1, .int 0), (2, .int 0)]) hl [2, 1, 0] rfl
  have LP4_6 : ∀ (kf : Nat) (x_1 : Int32) (x_2 : Int32) (fm_3 : Nat → Int32), (0 ≤ x_2.toInt ∧ x_2.toInt ≤ 6) → (rM fm_3) → ((fm_3 0).toInt = (fm 0).toInt ∧ (fm_3 3).toInt = (fm 3).toInt ∧ (fm_3 4).toInt = (fm 4).toInt) → ∀ (H : Heap) (locs : List Loc) (ls : Array Slot), ((7 - x_2.toInt).toNat) < kf → va_P g.1 vwCl (List.flatten [bMo g o a th hi ac tp ba en tA fl de iD iO tU fm_3 fk fa fc ft ff fb fi]) H → va_D A (List.flatten [bMo g o a th hi ac tp ba en tA fl de iD iO tU fm_3 fk fa fc ft ff fb fi]) → va_S A s.heap H locs → lv_has ls 4 [(0, .ref o), (1, .int x_1), (2, .int x_2)] → W p l e ({ frames := 4, cells := 0, slots := 0, locals := 88 } : Room) s m args below meth c H locs (0) (0) (zF g (fun u : (Nat → Int32) × Int32 => (fun (fm2 : Nat → Int32) (q : Int32) => some (.int q)) (u.1) (u.2)) (fun u : (Nat → Int32) × Int32 => (fun (fm2 : Nat → Int32) (q : Int32) => ((fm2 0).toInt = (fm 0).toInt ∧ (fm2 3).toInt = (fm 3).toInt ∧ (fm2 4).toInt = (fm 4).toInt) ∧ (rM fm2)) (u.1) (u.2)) (fun u : (Nat → Int32) × Int32 => (fun (fm2 : Nat → Int32) (q : Int32) => [bMo g o a th hi ac tp ba en tA fl de iD iO tU fm2 fk fa fc ft ff fb fi]) (u.1) (u.2)) ({ frames := 4, cells := 0, slots := 0, locals := 88 } : Room) below args s A) (F0 m 4 ls []) := by
    intro kf
    induction kf with
    | zero => intro x_1 x_2 fm_3 i4 rfm_3 i5 H locs ls hk; exact absurd hk (Nat.not_lt_zero _)
    | succ kf ih4_7 =>
      intro x_1 x_2 fm_3 i4 rfm_3 i5 H locs ls hk4_7 hP hD hS hl
      refine lv_iload_n hx hb dX12_build_4 rfl (lv_at hl 2 rfl) ?_
      refine lv_aload_n hx hb dX12_build_5 rfl (lv_at hl 0 rfl) ?_
      refine va_get (D := g.1) (ci := 10) (v := .ref (a 0)) (C := RX12) (T := TX12) (N := 20) hx hb hts izRX12 hown hK hP 0 rfl rfl 1 (by decide) (hts _ k815) (fun _ h9 => h9) rfl dX12_build_6 ?_
      refine lv_iconst (v := 4) hx hb dX12_build_9 (by decide) ?_
      refine va_iald hx hb hK hP 1 0 rfl rfl (zin rfl) dX12_build_10 ?_
      refine zgq (r := fm_3 4) rfl (rM4 rfm_3) (fun x_8 hx_8 => ?_)
      refine lv_icmp_ge (tgt := 156) hx hb dX12_build_11 (by decide) (fun cb9 => ?_) (fun cb9 => ?_)
      · skip
        have c9 : x_8.toInt ≤ x_2.toInt := zle cb9 rfl rfl
        refine lv_iload_n hx hb dX12_build_156 rfl (lv_at hl 1 rfl) ?_
        have hP : va_P g.1 vwCl (List.flatten [bMo g o a th hi ac tp ba en tA fl de iD iO tU fm_3 fk fa fc ft ff fb fi]) H := hP
        have hD : va_D A (List.flatten [bMo g o a th hi ac tp ba en tA fl de iD iO tU fm_3 fk fa fc ft ff fb fi]) := hD
        exact mret_i hx hb hr hlocks hS (Nat.le_of_ble_eq_true rfl) (Nat.le_of_ble_eq_true rfl) dX12_build_157 (fm_3, x_1) rfl (show ((fm_3 0).toInt = (fm 0).toInt ∧ (fm_3 3).toInt = (fm 3).toInt ∧ (fm_3 4).toInt = (fm 4).toInt) ∧ (rM fm_3) from ⟨i5, rfm_3⟩) hP hD
      · skip
        have c10 : x_2.toInt < x_8.toInt := zlti (Int32.not_le.mp cb9) rfl rfl
        have n11 : x_2.toInt ≤ 5 := zL1 (b := 6) c10 hx_8.2.1 (by decide)
        have n12 : 1 ≤ x_8.toInt := zL2 (a := 0) c10 i4.1 (by decide)
        refine lv_aload_n hx hb dX12_build_14 rfl (lv_at hl 0 rfl) ?_
        refine mcallV' (g := g) (q0 := 0) (ci := 10) (As := []) (rest := []) St hK hT hA hP hD hS hl.1 [0] [] rfl rfl rfl (m_believed l g o a th hi ac tp ba en tA fl de iD iO tU fm_3 fk fa fc ft ff fb fi rfm_3) (cwV 0 hts (zgL (zl4 k856 k857 k858 k839) k849) rfl rfl rfl (by decide +kernel) ⟨Nat.le_of_ble_eq_true rfl, Nat.le_of_ble_eq_true rfl⟩) rfl rfl rfl rfl (Nat.le_of_ble_eq_true rfl) dX12_build_15 ⟨(Nat.le_of_ble_eq_true rfl), (Nat.le_of_ble_eq_true rfl)⟩ (fun q_13 H locs hq14 hP hD hS => ?_)
        have hP : va_P g.1 vwCl (List.flatten [bMo g o a th hi ac tp ba en tA fl de iD iO tU fm_3 fk fa fc ft ff fb fi]) H := hP
        have hD : va_D A (List.flatten [bMo g o a th hi ac tp ba en tA fl de iD iO tU fm_3 fk fa fc ft ff fb fi]) := hD
        refine W.widen (k := 0) (n := 0) (Nat.le_of_ble_eq_true rfl) (Nat.le_of_ble_eq_true rfl) ?_
        refine W.eq (g2 := F0 m 18 ls [.int q_13]) rfl ?_
        refine lv_aload_n hx hb dX12_build_18 rfl (lv_at hl 0 rfl) ?_
        refine lv_iload_n hx hb dX12_build_19 rfl (lv_at hl 2 rfl) ?_
        refine lv_iconst (v := 1) hx hb dX12_build_20 (by decide) ?_
        have hL1 : (1 : Int32).toInt = 1 := by decide
        refine mcallV' (g := g) (q0 := 0) (ci := 10) (As := [.int x_2, .int 1]) (rest := [.int q_13]) St hK hT hA hP hD hS hl.1 [0] [] rfl rfl rfl (m_ofWork l g o a th hi ac tp ba en tA fl de iD iO tU fm_3 fk fa fc ft ff fb fi x_2 1 (⟨i4.1, n11⟩) (by decide)) (cwV 2 hts (zgL (zl4 k864 k865 k866 k839) k833) rfl rfl rfl (by decide +kernel) ⟨Nat.le_of_ble_eq_true rfl, Nat.le_of_ble_eq_true rfl⟩) rfl rfl rfl rfl (Nat.le_of_ble_eq_true rfl) dX12_build_21 ⟨(Nat.le_of_ble_eq_true rfl), (Nat.le_of_ble_eq_true rfl)⟩ (fun q_15 H locs hq16 hP hD hS => ?_)
        have hP : va_P g.1 vwCl (List.flatten [bMo g o a th hi ac tp ba en tA fl de iD iO tU fm_3 fk fa fc ft ff fb fi]) H := hP
        have hD : va_D A (List.flatten [bMo g o a th hi ac tp ba en tA fl de iD iO tU fm_3 fk fa fc ft ff fb fi]) := hD
        refine W.widen (k := 0) (n := 0) (Nat.le_of_ble_eq_true rfl) (Nat.le_of_ble_eq_true rfl) ?_
        refine W.eq (g2 := F0 m 24 ls [.int q_15, .int q_13]) rfl ?_
        refine lv_icmp_lt (tgt := 31) hx hb dX12_build_24 (by decide) (fun cb9 => ?_) (fun cb9 => ?_)
        · skip
          have c17 : q_13.toInt < q_15.toInt := zlti cb9 rfl rfl
          refine lv_iconst (v := 0) hx hb dX12_build_31 (by decide) ?_
          refine lv_istore_n (lv' := [(3, .int 0), (0, .ref o), (1, .int x_1), (2, .int x_2)]) hx hb dX12_build_32 rfl hl (by decide) rfl (fun ls hl => ?_)
          refine lv_aload_n hx hb dX12_build_33 rfl (lv_at hl 1 rfl) ?_
          refine lv_iload_n hx hb dX12_build_34 rfl (lv_at hl 3 rfl) ?_
          refine lv_iconst (v := 3) hx hb dX12_build_35 (by decide) ?_
          have hL3 : (3 : Int32).toInt = 3 := by decide
          refine mcallV' (g := g) (q0 := 0) (ci := 10) (As := [.int x_2, .int 3]) (rest := []) St hK hT hA hP hD hS hl.1 [0] [] rfl rfl rfl (m_ofWork l g o a th hi ac tp ba en tA fl de iD iO tU fm_3 fk fa fc ft ff fb fi x_2 3 (⟨i4.1, n11⟩) (by decide)) (cwV 2 hts (zgL (zl4 k864 k865 k866 k839) k833) rfl rfl rfl (by decide +kernel) ⟨Nat.le_of_ble_eq_true rfl, Nat.le_of_ble_eq_true rfl⟩) rfl rfl rfl rfl (Nat.le_of_ble_eq_true rfl) dX12_build_36 ⟨(Nat.le_of_ble_eq_true rfl), (Nat.le_of_ble_eq_true rfl)⟩ (fun q_18 H locs hq19 hP hD hS => ?_)
          have hP : va_P g.1 vwCl (List.flatten [bMo g o a th hi ac tp ba en tA fl de iD iO tU fm_3 fk fa fc ft ff fb fi]) H := hP
          have hD : va_D A (List.flatten [bMo g o a th hi ac tp ba en tA fl de iD iO tU fm_3 fk fa fc ft ff fb fi]) := hD
          refine W.widen (k := 0) (n := 0) (Nat.le_of_ble_eq_true rfl) (Nat.le_of_ble_eq_true rfl) ?_
          refine W.eq (g2 := F0 m 39 ls [.int q_18]) rfl ?_
          refine lv_iconst (v := 1) hx hb dX12_build_39 (by decide) ?_
          refine lv_icmp_ne (tgt := 94) hx hb dX12_build_40 (by decide) (fun cb9 => ?_) (fun cb9 => ?_)
          · skip
            have c20 : ¬ q_18.toInt = 1 := zne cb9 rfl (by decide)
            refine lv_aload_n hx hb dX12_build_94 rfl (lv_at hl 1 rfl) ?_
            refine lv_iload_n hx hb dX12_build_95 rfl (lv_at hl 3 rfl) ?_
            refine lv_iconst (v := 3) hx hb dX12_build_96 (by decide) ?_
            refine mcallV' (g := g) (q0 := 0) (ci := 10) (As := [.int x_2, .int 3]) (rest := []) St hK hT hA hP hD hS hl.1 [0] [] rfl rfl rfl (m_ofWork l g o a th hi ac tp ba en tA fl de iD iO tU fm_3 fk fa fc ft ff fb fi x_2 3 (⟨i4.1, n11⟩) (by decide)) (cwV 2 hts (zgL (zl4 k864 k865 k866 k839) k833) rfl rfl rfl (by decide +kernel) ⟨Nat.le_of_ble_eq_true rfl, Nat.le_of_ble_eq_true rfl⟩) rfl rfl rfl rfl (Nat.le_of_ble_eq_true rfl) dX12_build_97 ⟨(Nat.le_of_ble_eq_true rfl), (Nat.le_of_ble_eq_true rfl)⟩ (fun q_21 H locs hq22 hP hD hS => ?_)
            have hP : va_P g.1 vwCl (List.flatten [bMo g o a th hi ac tp ba en tA fl de iD iO tU fm_3 fk fa fc ft ff fb fi]) H := hP
            have hD : va_D A (List.flatten [bMo g o a th hi ac tp ba en tA fl de iD iO tU fm_3 fk fa fc ft ff fb fi]) := hD
            refine W.widen (k := 0) (n := 0) (Nat.le_of_ble_eq_true rfl) (Nat.le_of_ble_eq_true rfl) ?_
            refine W.eq (g2 := F0 m 100 ls [.int q_21]) rfl ?_
            refine lv_if_ne (tgt := 150) hx hb dX12_build_100 (by decide) (fun cb9 => ?_) (fun cb9 => ?_)
            · skip
              have c23 : ¬ q_21.toInt = 0 := zne cb9 rfl (by decide)
              refine ziinc3 (n' := 1) (a' := 1) (b' := 6) (lv' := fun v9 => [(2, .int v9), (3, .int 0), (0, .ref o), (1, .int x_1)]) hx hb dX12_build_150 hl (k := 3) rfl (by decide) (fun _ => rfl) (zaddK (i := x_2.toInt) (j := 1) rfl (by decide) i4.1 n11 (Int.le_refl _) (Int.le_refl _) (by decide)) (fun x_24 ls hx_24 hl => ?_)
              refine lv_goto (tgt := 4) hx hb dX12_build_153 (by decide) ?_
              have hl := lv_sub (l' := [(0, .ref o), (1, .int x_1), (2, .int x_24), (3, .int 0)]) hl [2, 3, 0, 1] rfl
              have hP : va_P g.1 vwCl (List.flatten [bMo g o a th hi ac tp ba en tA fl de iD iO tU fm_3 fk fa fc ft ff fb fi]) H := hP
              have hD : va_D A (List.flatten [bMo g o a th hi ac tp ba en tA fl de iD iO tU fm_3 fk fa fc ft ff fb fi]) := hD
              exact ih4_7 x_1 x_24 fm_3 ⟨(Int.le_trans (by decide) hx_24.2.1), hx_24.2.2⟩ rfm_3 i5 H _ ls (zmK hx_24.1 (by decide) n11 (by decide) hk4_7)  hP hD hS (lv_sub hl [0, 1, 2] rfl)
            · skip
              have c25 : q_21.toInt = 0 := zeq cb9 rfl (by decide)
              have n26 : 0 ≤ q_21.toInt := Int.le_trans (Int.le_refl _) (Int.le_of_eq c25.symm)
              have n27 : q_21.toInt ≤ 0 := Int.le_trans (Int.le_of_eq c25) (Int.le_refl _)
              refine lv_iload_n hx hb dX12_build_103 rfl (lv_at hl 0 rfl) ?_
              refine lv_if_eq (tgt := 150) hx hb dX12_build_104 (by decide) (fun _ => ?_) (fun c28 => absurd (by decide) c28)
              refine ziinc3 (n' := 1) (a' := 1) (b' := 6) (lv' := fun v9 => [(2, .int v9), (3, .int 0), (0, .ref o), (1, .int x_1)]) hx hb dX12_build_150 hl (k := 3) rfl (by decide) (fun _ => rfl) (zaddK (i := x_2.toInt) (j := 1) rfl (by decide) i4.1 n11 (Int.le_refl _) (Int.le_refl _) (by decide)) (fun x_29 ls hx_29 hl => ?_)
              refine lv_goto (tgt := 4) hx hb dX12_build_153 (by decide) ?_
              have hl := lv_sub (l' := [(0, .ref o), (1, .int x_1), (2, .int x_29), (3, .int 0)]) hl [2, 3, 0, 1] rfl
              have hP : va_P g.1 vwCl (List.flatten [bMo g o a th hi ac tp ba en tA fl de iD iO tU fm_3 fk fa fc ft ff fb fi]) H := hP
              have hD : va_D A (List.flatten [bMo g o a th hi ac tp ba en tA fl de iD iO tU fm_3 fk fa fc ft ff fb fi]) := hD
              exact ih4_7 x_1 x_29 fm_3 ⟨(Int.le_trans (by decide) hx_29.2.1), hx_29.2.2⟩ rfm_3 i5 H _ ls (zmK hx_29.1 (by decide) n11 (by decide) hk4_7)  hP hD hS (lv_sub hl [0, 1, 2] rfl)
          · skip
            have c30 : q_18.toInt = 1 := zeq cb9 rfl (by decide)
            have n31 : 1 ≤ q_18.toInt := Int.le_trans (Int.le_refl _) (Int.le_of_eq c30.symm)
            have n32 : q_18.toInt ≤ 1 := Int.le_trans (Int.le_of_eq c30) (Int.le_refl _)
            refine lv_iload_n hx hb dX12_build_43 rfl (lv_at hl 0 rfl) ?_
            refine lv_if_eq (tgt := 75) hx hb dX12_build_44 (by decide) (fun _ => ?_) (fun c33 => absurd (by decide) c33)
            refine lv_aload_n hx hb dX12_build_75 rfl (lv_at hl 1 rfl) ?_
            refine lv_iload_n hx hb dX12_build_76 rfl (lv_at hl 3 rfl) ?_
            refine lv_iconst (v := 3) hx hb dX12_build_77 (by decide) ?_
            refine lv_iconst (v := 2) hx hb dX12_build_78 (by decide) ?_
            refine mcallV' (g := g) (q0 := 0) (ci := 10) (As := [.int x_2, .int 3, .int 2]) (rest := []) St hK hT hA hP hD hS hl.1 [0] [] rfl rfl rfl (m_putWork l g o a th hi ac tp ba en tA fl de iD iO tU fm_3 fk fa fc ft ff fb fi x_2 3 2 rfm_3 (⟨i4.1, n11⟩) (by decide)) (cwV 3 hts (zgL (zl4 k914 k915 k916 k839) k834) rfl rfl rfl (by decide +kernel) ⟨Nat.le_of_ble_eq_true rfl, Nat.le_of_ble_eq_true rfl⟩) rfl rfl rfl rfl (Nat.le_of_ble_eq_true rfl) dX12_build_79 ⟨(Nat.le_of_ble_eq_true rfl), (Nat.le_of_ble_eq_true rfl)⟩ (fun fm2_34 H locs hq35 hP hD hS => ?_)
            replace hq35 : ((fm2_34 0).toInt = (fm_3 0).toInt ∧ (fm2_34 3).toInt = (fm_3 3).toInt ∧ (fm2_34 4).toInt = (fm_3 4).toInt) ∧ (rM fm2_34) ∧ ((fm2_34 3).toInt = (fm_3 3).toInt ∧ (fm2_34 4).toInt = (fm_3 4).toInt) := hq35
            have hP : va_P g.1 vwCl (List.flatten [bMo g o a th hi ac tp ba en tA fl de iD iO tU fm2_34 fk fa fc ft ff fb fi]) H := hP
            have hD : va_D A (List.flatten [bMo g o a th hi ac tp ba en tA fl de iD iO tU fm2_34 fk fa fc ft ff fb fi]) := hD
            refine W.widen (k := 0) (n := 0) (Nat.le_of_ble_eq_true rfl) (Nat.le_of_ble_eq_true rfl) ?_
            refine W.eq (g2 := F0 m 82 ls []) rfl ?_
            obtain ⟨hq35_0, rfm2_34, hq35_2⟩ := hq35
            refine lv_aload_n hx hb dX12_build_82 rfl (lv_at hl 1 rfl) ?_
            refine lv_iload_n hx hb dX12_build_83 rfl (lv_at hl 3 rfl) ?_
            refine lv_iconst (v := 1) hx hb dX12_build_84 (by decide) ?_
            refine mcallV' (g := g) (q0 := 0) (ci := 10) (As := [.int x_2, .int 1]) (rest := []) St hK hT hA hP hD hS hl.1 [0] [] rfl rfl rfl (m_logs l g o a th hi ac tp ba en tA fl de iD iO tU fm2_34 fk fa fc ft ff fb fi x_2 1 rfm2_34) (cwV 2 hts (zgL (zl4 k1005 k1006 k1007 k839) k999) rfl rfl rfl (by decide +kernel) ⟨Nat.le_of_ble_eq_true rfl, Nat.le_of_ble_eq_true rfl⟩) rfl rfl rfl rfl (Nat.le_of_ble_eq_true rfl) dX12_build_85 ⟨(Nat.le_of_ble_eq_true rfl), (Nat.le_of_ble_eq_true rfl)⟩ (fun fm2_36 H locs hq37 hP hD hS => ?_)
            replace hq37 : ((fm2_36 0).toInt = (fm2_34 0).toInt ∧ (fm2_36 3).toInt = (fm2_34 3).toInt ∧ (fm2_36 4).toInt = (fm2_34 4).toInt) ∧ (rM fm2_36) := hq37
            have hP : va_P g.1 vwCl (List.flatten [bMo g o a th hi ac tp ba en tA fl de iD iO tU fm2_36 fk fa fc ft ff fb fi]) H := hP
            have hD : va_D A (List.flatten [bMo g o a th hi ac tp ba en tA fl de iD iO tU fm2_36 fk fa fc ft ff fb fi]) := hD
            refine W.widen (k := 0) (n := 0) (Nat.le_of_ble_eq_true rfl) (Nat.le_of_ble_eq_true rfl) ?_
            refine W.eq (g2 := F0 m 88 ls []) rfl ?_
            obtain ⟨hq37_0, rfm2_36⟩ := hq37
            refine ziincG (lv' := fun v9 => [(1, .int v9), (3, .int 0), (0, .ref o), (2, .int x_2)]) hx hb dX12_build_88 hl (k := 2) rfl (by decide) (fun _ => rfl) (fun x_38 ls hl => ?_)
            refine lv_goto (tgt := 150) hx hb dX12_build_91 (by decide) ?_
            refine ziinc3 (n' := 1) (a' := 1) (b' := 6) (lv' := fun v9 => [(2, .int v9), (1, .int x_38), (3, .int 0), (0, .ref o)]) hx hb dX12_build_150 hl (k := 3) rfl (by decide) (fun _ => rfl) (zaddK (i := x_2.toInt) (j := 1) rfl (by decide) i4.1 n11 (Int.le_refl _) (Int.le_refl _) (by decide)) (fun x_39 ls hx_39 hl => ?_)
            refine lv_goto (tgt := 4) hx hb dX12_build_153 (by decide) ?_
            have hl := lv_sub (l' := [(0, .ref o), (1, .int x_38), (2, .int x_39), (3, .int 0)]) hl [3, 1, 0, 2] rfl
            have hP : va_P g.1 vwCl (List.flatten [bMo g o a th hi ac tp ba en tA fl de iD iO tU fm2_36 fk fa fc ft ff fb fi]) H := hP
            have hD : va_D A (List.flatten [bMo g o a th hi ac tp ba en tA fl de iD iO tU fm2_36 fk fa fc ft ff fb fi]) := hD
            exact ih4_7 x_38 x_39 fm2_36 ⟨(Int.le_trans (by decide) hx_39.2.1), hx_39.2.2⟩ rfm2_36 (by first | omega | assumption | decide) H _ ls (zmK hx_39.1 (by decide) n11 (by decide) hk4_7)  hP hD hS (lv_sub hl [0, 1, 2] rfl)
        · skip
          have c40 : q_15.toInt ≤ q_13.toInt := zle (Int32.not_lt.mp cb9) rfl rfl
          refine lv_iconst (v := 1) hx hb dX12_build_27 (by decide) ?_
          refine lv_goto (tgt := 32) hx hb dX12_build_28 (by decide) ?_
          refine lv_istore_n (lv' := [(3, .int 1), (0, .ref o), (1, .int x_1), (2, .int x_2)]) hx hb dX12_build_32 rfl hl (by decide) rfl (fun ls hl => ?_)
          refine lv_aload_n hx hb dX12_build_33 rfl (lv_at hl 1 rfl) ?_
          refine lv_iload_n hx hb dX12_build_34 rfl (lv_at hl 3 rfl) ?_
          refine lv_iconst (v := 3) hx hb dX12_build_35 (by decide) ?_
          have hL3 : (3 : Int32).toInt = 3 := by decide
          refine mcallV' (g := g) (q0 := 0) (ci := 10) (As := [.int x_2, .int 3]) (rest := []) St hK hT hA hP hD hS hl.1 [0] [] rfl rfl rfl (m_ofWork l g o a th hi ac tp ba en tA fl de iD iO tU fm_3 fk fa fc ft ff fb fi x_2 3 (⟨i4.1, n11⟩) (by decide)) (cwV 2 hts (zgL (zl4 k864 k865 k866 k839) k833) rfl rfl rfl (by decide +kernel) ⟨Nat.le_of_ble_eq_true rfl, Nat.le_of_ble_eq_true rfl⟩) rfl rfl rfl rfl (Nat.le_of_ble_eq_true rfl) dX12_build_36 ⟨(Nat.le_of_ble_eq_true rfl), (Nat.le_of_ble_eq_true rfl)⟩ (fun q_41 H locs hq42 hP hD hS => ?_)
          have hP : va_P g.1 vwCl (List.flatten [bMo g o a th hi ac tp ba en tA fl de iD iO tU fm_3 fk fa fc ft ff fb fi]) H := hP
          have hD : va_D A (List.flatten [bMo g o a th hi ac tp ba en tA fl de iD iO tU fm_3 fk fa fc ft ff fb fi]) := hD
          refine W.widen (k := 0) (n := 0) (Nat.le_of_ble_eq_true rfl) (Nat.le_of_ble_eq_true rfl) ?_
          refine W.eq (g2 := F0 m 39 ls [.int q_41]) rfl ?_
          refine lv_iconst (v := 1) hx hb dX12_build_39 (by decide) ?_
          refine lv_icmp_ne (tgt := 94) hx hb dX12_build_40 (by decide) (fun cb9 => ?_) (fun cb9 => ?_)
          · skip
            have c43 : ¬ q_41.toInt = 1 := zne cb9 rfl (by decide)
            refine lv_aload_n hx hb dX12_build_94 rfl (lv_at hl 1 rfl) ?_
            refine lv_iload_n hx hb dX12_build_95 rfl (lv_at hl 3 rfl) ?_
            refine lv_iconst (v := 3) hx hb dX12_build_96 (by decide) ?_
            refine mcallV' (g := g) (q0 := 0) (ci := 10) (As := [.int x_2, .int 3]) (rest := []) St hK hT hA hP hD hS hl.1 [0] [] rfl rfl rfl (m_ofWork l g o a th hi ac tp ba en tA fl de iD iO tU fm_3 fk fa fc ft ff fb fi x_2 3 (⟨i4.1, n11⟩) (by decide)) (cwV 2 hts (zgL (zl4 k864 k865 k866 k839) k833) rfl rfl rfl (by decide +kernel) ⟨Nat.le_of_ble_eq_true rfl, Nat.le_of_ble_eq_true rfl⟩) rfl rfl rfl rfl (Nat.le_of_ble_eq_true rfl) dX12_build_97 ⟨(Nat.le_of_ble_eq_true rfl), (Nat.le_of_ble_eq_true rfl)⟩ (fun q_44 H locs hq45 hP hD hS => ?_)
            have hP : va_P g.1 vwCl (List.flatten [bMo g o a th hi ac tp ba en tA fl de iD iO tU fm_3 fk fa fc ft ff fb fi]) H := hP
            have hD : va_D A (List.flatten [bMo g o a th hi ac tp ba en tA fl de iD iO tU fm_3 fk fa fc ft ff fb fi]) := hD
            refine W.widen (k := 0) (n := 0) (Nat.le_of_ble_eq_true rfl) (Nat.le_of_ble_eq_true rfl) ?_
            refine W.eq (g2 := F0 m 100 ls [.int q_44]) rfl ?_
            refine lv_if_ne (tgt := 150) hx hb dX12_build_100 (by decide) (fun cb9 => ?_) (fun cb9 => ?_)
            · skip
              have c46 : ¬ q_44.toInt = 0 := zne cb9 rfl (by decide)
              refine ziinc3 (n' := 1) (a' := 1) (b' := 6) (lv' := fun v9 => [(2, .int v9), (3, .int 1), (0, .ref o), (1, .int x_1)]) hx hb dX12_build_150 hl (k := 3) rfl (by decide) (fun _ => rfl) (zaddK (i := x_2.toInt) (j := 1) rfl (by decide) i4.1 n11 (Int.le_refl _) (Int.le_refl _) (by decide)) (fun x_47 ls hx_47 hl => ?_)
              refine lv_goto (tgt := 4) hx hb dX12_build_153 (by decide) ?_
              have hl := lv_sub (l' := [(0, .ref o), (1, .int x_1), (2, .int x_47), (3, .int 1)]) hl [2, 3, 0, 1] rfl
              have hP : va_P g.1 vwCl (List.flatten [bMo g o a th hi ac tp ba en tA fl de iD iO tU fm_3 fk fa fc ft ff fb fi]) H := hP
              have hD : va_D A (List.flatten [bMo g o a th hi ac tp ba en tA fl de iD iO tU fm_3 fk fa fc ft ff fb fi]) := hD
              exact ih4_7 x_1 x_47 fm_3 ⟨(Int.le_trans (by decide) hx_47.2.1), hx_47.2.2⟩ rfm_3 i5 H _ ls (zmK hx_47.1 (by decide) n11 (by decide) hk4_7)  hP hD hS (lv_sub hl [0, 1, 2] rfl)
            · skip
              have c48 : q_44.toInt = 0 := zeq cb9 rfl (by decide)
              have n49 : 0 ≤ q_44.toInt := Int.le_trans (Int.le_refl _) (Int.le_of_eq c48.symm)
              have n50 : q_44.toInt ≤ 0 := Int.le_trans (Int.le_of_eq c48) (Int.le_refl _)
              refine lv_iload_n hx hb dX12_build_103 rfl (lv_at hl 0 rfl) ?_
              refine lv_if_eq (tgt := 150) hx hb dX12_build_104 (by decide) (fun c51 => absurd c51 (by decide)) (fun _ => ?_)
              refine lv_aload_n hx hb dX12_build_107 rfl (lv_at hl 1 rfl) ?_
              refine va_get (D := g.1) (ci := 10) (v := .ref (a 0)) (C := RX12) (T := TX12) (N := 20) hx hb hts izRX12 hown hK hP 0 rfl rfl 1 (by decide) (hts _ k815) (fun _ h9 => h9) rfl dX12_build_108 ?_
              refine lv_iconst (v := 5) hx hb dX12_build_111 (by decide) ?_
              refine va_iald hx hb hK hP 1 0 rfl rfl (zin rfl) dX12_build_112 ?_
              refine zg (fun x_52 => ?_)
              refine lv_aload_n hx hb dX12_build_113 rfl (lv_at hl 1 rfl) ?_
              refine lv_iload_n hx hb dX12_build_114 rfl (lv_at hl 3 rfl) ?_
              refine lv_iconst (v := 0) hx hb dX12_build_115 (by decide) ?_
              have hL0 : (0 : Int32).toInt = 0 := by decide
              refine mcallV' (g := g) (q0 := 0) (ci := 10) (As := [.int x_2, .int 0]) (rest := [.int x_52]) St hK hT hA hP hD hS hl.1 [0] [] rfl rfl rfl (m_ofWork l g o a th hi ac tp ba en tA fl de iD iO tU fm_3 fk fa fc ft ff fb fi x_2 0 (⟨i4.1, n11⟩) (by decide)) (cwV 2 hts (zgL (zl4 k864 k865 k866 k839) k833) rfl rfl rfl (by decide +kernel) ⟨Nat.le_of_ble_eq_true rfl, Nat.le_of_ble_eq_true rfl⟩) rfl rfl rfl rfl (Nat.le_of_ble_eq_true rfl) dX12_build_116 ⟨(Nat.le_of_ble_eq_true rfl), (Nat.le_of_ble_eq_true rfl)⟩ (fun q_53 H locs hq54 hP hD hS => ?_)
              have hP : va_P g.1 vwCl (List.flatten [bMo g o a th hi ac tp ba en tA fl de iD iO tU fm_3 fk fa fc ft ff fb fi]) H := hP
              have hD : va_D A (List.flatten [bMo g o a th hi ac tp ba en tA fl de iD iO tU fm_3 fk fa fc ft ff fb fi]) := hD
              refine W.widen (k := 0) (n := 0) (Nat.le_of_ble_eq_true rfl) (Nat.le_of_ble_eq_true rfl) ?_
              refine W.eq (g2 := F0 m 119 ls [.int q_53, .int x_52]) rfl ?_
              refine lv_icmp_lt (tgt := 150) hx hb dX12_build_119 (by decide) (fun cb9 => ?_) (fun cb9 => ?_)
              · skip
                have c55 : x_52.toInt < q_53.toInt := zlti cb9 rfl rfl
                refine ziinc3 (n' := 1) (a' := 1) (b' := 6) (lv' := fun v9 => [(2, .int v9), (3, .int 1), (0, .ref o), (1, .int x_1)]) hx hb dX12_build_150 hl (k := 3) rfl (by decide) (fun _ => rfl) (zaddK (i := x_2.toInt) (j := 1) rfl (by decide) i4.1 n11 (Int.le_refl _) (Int.le_refl _) (by decide)) (fun x_56 ls hx_56 hl => ?_)
                refine lv_goto (tgt := 4) hx hb dX12_build_153 (by decide) ?_
                have hl := lv_sub (l' := [(0, .ref o), (1, .int x_1), (2, .int x_56), (3, .int 1)]) hl [2, 3, 0, 1] rfl
                have hP : va_P g.1 vwCl (List.flatten [bMo g o a th hi ac tp ba en tA fl de iD iO tU fm_3 fk fa fc ft ff fb fi]) H := hP
                have hD : va_D A (List.flatten [bMo g o a th hi ac tp ba en tA fl de iD iO tU fm_3 fk fa fc ft ff fb fi]) := hD
                exact ih4_7 x_1 x_56 fm_3 ⟨(Int.le_trans (by decide) hx_56.2.1), hx_56.2.2⟩ rfm_3 i5 H _ ls (zmK hx_56.1 (by decide) n11 (by decide) hk4_7)  hP hD hS (lv_sub hl [0, 1, 2] rfl)
              · skip
                have c57 : q_53.toInt ≤ x_52.toInt := zle (Int32.not_lt.mp cb9) rfl rfl
                refine lv_aload_n hx hb dX12_build_122 rfl (lv_at hl 1 rfl) ?_
                refine va_get (D := g.1) (ci := 10) (v := .ref (a 0)) (C := RX12) (T := TX12) (N := 20) hx hb hts izRX12 hown hK hP 0 rfl rfl 1 (by decide) (hts _ k815) (fun _ h9 => h9) rfl dX12_build_123 ?_
                refine lv_iconst (v := 5) hx hb dX12_build_126 (by decide) ?_
                refine lv_dup2_11 hx hb dX12_build_127 rfl rfl ?_
                refine va_iald hx hb hK hP 1 0 rfl rfl (zin rfl) dX12_build_128 ?_
                refine zg (fun x_58 => ?_)
                refine lv_aload_n hx hb dX12_build_129 rfl (lv_at hl 1 rfl) ?_
                refine lv_iload_n hx hb dX12_build_130 rfl (lv_at hl 3 rfl) ?_
                refine lv_iconst (v := 0) hx hb dX12_build_131 (by decide) ?_
                refine mcallV' (g := g) (q0 := 0) (ci := 10) (As := [.int x_2, .int 0]) (rest := [.int x_58, .int 5, .ref (a 0)]) St hK hT hA hP hD hS hl.1 [0] [] rfl rfl rfl (m_ofWork l g o a th hi ac tp ba en tA fl de iD iO tU fm_3 fk fa fc ft ff fb fi x_2 0 (⟨i4.1, n11⟩) (by decide)) (cwV 2 hts (zgL (zl4 k864 k865 k866 k839) k833) rfl rfl rfl (by decide +kernel) ⟨Nat.le_of_ble_eq_true rfl, Nat.le_of_ble_eq_true rfl⟩) rfl rfl rfl rfl (Nat.le_of_ble_eq_true rfl) dX12_build_132 ⟨(Nat.le_of_ble_eq_true rfl), (Nat.le_of_ble_eq_true rfl)⟩ (fun q_59 H locs hq60 hP hD hS => ?_)
                have hP : va_P g.1 vwCl (List.flatten [bMo g o a th hi ac tp ba en tA fl de iD iO tU fm_3 fk fa fc ft ff fb fi]) H := hP
                have hD : va_D A (List.flatten [bMo g o a th hi ac tp ba en tA fl de iD iO tU fm_3 fk fa fc ft ff fb fi]) := hD
                refine W.widen (k := 0) (n := 0) (Nat.le_of_ble_eq_true rfl) (Nat.le_of_ble_eq_true rfl) ?_
                refine W.eq (g2 := F0 m 135 ls [.int q_59, .int x_58, .int 5, .ref (a 0)]) rfl ?_
                refine lv_isub hx hb dX12_build_135 ?_
                refine zg (fun x_61 => ?_)
                refine va_iast hx hb hK hP hD hS 1 0 rfl rfl (zin rfl) dX12_build_136 (fun H locs hP hD hS => ?_)
                obtain ⟨fm_62, rfm_62, hkfm_62, hP, hD⟩ : ∃ fm_62 : Nat → Int32, rM fm_62 ∧ ((fm_62 0).toInt = (fm_3 0).toInt ∧ (fm_62 3).toInt = (fm_3 3).toInt ∧ (fm_62 4).toInt = (fm_3 4).toInt) ∧ va_P g.1 vwCl (List.flatten [bMo g o a th hi ac tp ba en tA fl de iD iO tU fm_62 fk fa fc ft ff fb fi]) H ∧ va_D A (List.flatten [bMo g o a th hi ac tp ba en tA fl de iD iO tU fm_62 fk fa fc ft ff fb fi]) := ⟨upd fm_3 5 x_61, (rM_stL rfm_3 (by decide)), ⟨rfl, rfl, rfl⟩, hP, hD⟩
                refine lv_aload_n hx hb dX12_build_137 rfl (lv_at hl 1 rfl) ?_
                refine lv_iload_n hx hb dX12_build_138 rfl (lv_at hl 3 rfl) ?_
                refine lv_iconst (v := 3) hx hb dX12_build_139 (by decide) ?_
                refine lv_iconst (v := 1) hx hb dX12_build_140 (by decide) ?_
                refine mcallV' (g := g) (q0 := 0) (ci := 10) (As := [.int x_2, .int 3, .int 1]) (rest := []) St hK hT hA hP hD hS hl.1 [0] [] rfl rfl rfl (m_putWork l g o a th hi ac tp ba en tA fl de iD iO tU fm_62 fk fa fc ft ff fb fi x_2 3 1 rfm_62 (⟨i4.1, n11⟩) (by decide)) (cwV 3 hts (zgL (zl4 k914 k915 k916 k839) k834) rfl rfl rfl (by decide +kernel) ⟨Nat.le_of_ble_eq_true rfl, Nat.le_of_ble_eq_true rfl⟩) rfl rfl rfl rfl (Nat.le_of_ble_eq_true rfl) dX12_build_141 ⟨(Nat.le_of_ble_eq_true rfl), (Nat.le_of_ble_eq_true rfl)⟩ (fun fm2_63 H locs hq64 hP hD hS => ?_)
                replace hq64 : ((fm2_63 0).toInt = (fm_62 0).toInt ∧ (fm2_63 3).toInt = (fm_62 3).toInt ∧ (fm2_63 4).toInt = (fm_62 4).toInt) ∧ (rM fm2_63) ∧ ((fm2_63 3).toInt = (fm_62 3).toInt ∧ (fm2_63 4).toInt = (fm_62 4).toInt) := hq64
                have hP : va_P g.1 vwCl (List.flatten [bMo g o a th hi ac tp ba en tA fl de iD iO tU fm2_63 fk fa fc ft ff fb fi]) H := hP
                have hD : va_D A (List.flatten [bMo g o a th hi ac tp ba en tA fl de iD iO tU fm2_63 fk fa fc ft ff fb fi]) := hD
                refine W.widen (k := 0) (n := 0) (Nat.le_of_ble_eq_true rfl) (Nat.le_of_ble_eq_true rfl) ?_
                refine W.eq (g2 := F0 m 144 ls []) rfl ?_
                obtain ⟨hq64_0, rfm2_63, hq64_2⟩ := hq64
                refine lv_aload_n hx hb dX12_build_144 rfl (lv_at hl 1 rfl) ?_
                refine lv_iload_n hx hb dX12_build_145 rfl (lv_at hl 3 rfl) ?_
                refine lv_iconst (v := 0) hx hb dX12_build_146 (by decide) ?_
                refine mcallV' (g := g) (q0 := 0) (ci := 10) (As := [.int x_2, .int 0]) (rest := []) St hK hT hA hP hD hS hl.1 [0] [] rfl rfl rfl (m_logs l g o a th hi ac tp ba en tA fl de iD iO tU fm2_63 fk fa fc ft ff fb fi x_2 0 rfm2_63) (cwV 2 hts (zgL (zl4 k1005 k1006 k1007 k839) k999) rfl rfl rfl (by decide +kernel) ⟨Nat.le_of_ble_eq_true rfl, Nat.le_of_ble_eq_true rfl⟩) rfl rfl rfl rfl (Nat.le_of_ble_eq_true rfl) dX12_build_147 ⟨(Nat.le_of_ble_eq_true rfl), (Nat.le_of_ble_eq_true rfl)⟩ (fun fm2_65 H locs hq66 hP hD hS => ?_)
                replace hq66 : ((fm2_65 0).toInt = (fm2_63 0).toInt ∧ (fm2_65 3).toInt = (fm2_63 3).toInt ∧ (fm2_65 4).toInt = (fm2_63 4).toInt) ∧ (rM fm2_65) := hq66
                have hP : va_P g.1 vwCl (List.flatten [bMo g o a th hi ac tp ba en tA fl de iD iO tU fm2_65 fk fa fc ft ff fb fi]) H := hP
                have hD : va_D A (List.flatten [bMo g o a th hi ac tp ba en tA fl de iD iO tU fm2_65 fk fa fc ft ff fb fi]) := hD
                refine W.widen (k := 0) (n := 0) (Nat.le_of_ble_eq_true rfl) (Nat.le_of_ble_eq_true rfl) ?_
                refine W.eq (g2 := F0 m 150 ls []) rfl ?_
                obtain ⟨hq66_0, rfm2_65⟩ := hq66
                refine ziinc3 (n' := 1) (a' := 1) (b' := 6) (lv' := fun v9 => [(2, .int v9), (3, .int 1), (0, .ref o), (1, .int x_1)]) hx hb dX12_build_150 hl (k := 3) rfl (by decide) (fun _ => rfl) (zaddK (i := x_2.toInt) (j := 1) rfl (by decide) i4.1 n11 (Int.le_refl _) (Int.le_refl _) (by decide)) (fun x_67 ls hx_67 hl => ?_)
                refine lv_goto (tgt := 4) hx hb dX12_build_153 (by decide) ?_
                have hl := lv_sub (l' := [(0, .ref o), (1, .int x_1), (2, .int x_67), (3, .int 1)]) hl [2, 3, 0, 1] rfl
                have hP : va_P g.1 vwCl (List.flatten [bMo g o a th hi ac tp ba en tA fl de iD iO tU fm2_65 fk fa fc ft ff fb fi]) H := hP
                have hD : va_D A (List.flatten [bMo g o a th hi ac tp ba en tA fl de iD iO tU fm2_65 fk fa fc ft ff fb fi]) := hD
                exact ih4_7 x_1 x_67 fm2_65 ⟨(Int.le_trans (by decide) hx_67.2.1), hx_67.2.2⟩ rfm2_65 (by first | omega | assumption | decide) H _ ls (zmK hx_67.1 (by decide) n11 (by decide) hk4_7)  hP hD hS (lv_sub hl [0, 1, 2] rfl)
          · skip
            have c68 : q_41.toInt = 1 := zeq cb9 rfl (by decide)
            have n69 : 1 ≤ q_41.toInt := Int.le_trans (Int.le_refl _) (Int.le_of_eq c68.symm)
            have n70 : q_41.toInt ≤ 1 := Int.le_trans (Int.le_of_eq c68) (Int.le_refl _)
            refine lv_iload_n hx hb dX12_build_43 rfl (lv_at hl 0 rfl) ?_
            refine lv_if_eq (tgt := 75) hx hb dX12_build_44 (by decide) (fun c71 => absurd c71 (by decide)) (fun _ => ?_)
            refine lv_aload_n hx hb dX12_build_47 rfl (lv_at hl 1 rfl) ?_
            refine va_get (D := g.1) (ci := 10) (v := .ref (a 0)) (C := RX12) (T := TX12) (N := 20) hx hb hts izRX12 hown hK hP 0 rfl rfl 1 (by decide) (hts _ k815) (fun _ h9 => h9) rfl dX12_build_48 ?_
            refine lv_iconst (v := 5) hx hb dX12_build_51 (by decide) ?_
            refine lv_sipush (v := 9999) hx hb dX12_build_52 (by decide) ?_
            refine lv_aload_n hx hb dX12_build_55 rfl (lv_at hl 1 rfl) ?_
            refine va_get (D := g.1) (ci := 10) (v := .ref (a 0)) (C := RX12) (T := TX12) (N := 20) hx hb hts izRX12 hown hK hP 0 rfl rfl 1 (by decide) (hts _ k815) (fun _ h9 => h9) rfl dX12_build_56 ?_
            refine lv_iconst (v := 5) hx hb dX12_build_59 (by decide) ?_
            refine va_iald hx hb hK hP 1 0 rfl rfl (zin rfl) dX12_build_60 ?_
            refine zg (fun x_72 => ?_)
            refine lv_aload_n hx hb dX12_build_61 rfl (lv_at hl 1 rfl) ?_
            refine lv_iload_n hx hb dX12_build_62 rfl (lv_at hl 3 rfl) ?_
            refine lv_iconst (v := 2) hx hb dX12_build_63 (by decide) ?_
            have hL2 : (2 : Int32).toInt = 2 := by decide
            refine mcallV' (g := g) (q0 := 0) (ci := 10) (As := [.int x_2, .int 2]) (rest := [.int x_72, .int 9999, .int 5, .ref (a 0)]) St hK hT hA hP hD hS hl.1 [0] [] rfl rfl rfl (m_ofWork l g o a th hi ac tp ba en tA fl de iD iO tU fm_3 fk fa fc ft ff fb fi x_2 2 (⟨i4.1, n11⟩) (by decide)) (cwV 2 hts (zgL (zl4 k864 k865 k866 k839) k833) rfl rfl rfl (by decide +kernel) ⟨Nat.le_of_ble_eq_true rfl, Nat.le_of_ble_eq_true rfl⟩) rfl rfl rfl rfl (Nat.le_of_ble_eq_true rfl) dX12_build_64 ⟨(Nat.le_of_ble_eq_true rfl), (Nat.le_of_ble_eq_true rfl)⟩ (fun q_73 H locs hq74 hP hD hS => ?_)
            have hP : va_P g.1 vwCl (List.flatten [bMo g o a th hi ac tp ba en tA fl de iD iO tU fm_3 fk fa fc ft ff fb fi]) H := hP
            have hD : va_D A (List.flatten [bMo g o a th hi ac tp ba en tA fl de iD iO tU fm_3 fk fa fc ft ff fb fi]) := hD
            refine W.widen (k := 0) (n := 0) (Nat.le_of_ble_eq_true rfl) (Nat.le_of_ble_eq_true rfl) ?_
            refine W.eq (g2 := F0 m 67 ls [.int q_73, .int x_72, .int 9999, .int 5, .ref (a 0)]) rfl ?_
            refine lv_iadd hx hb dX12_build_67 ?_
            refine zg (fun x_75 => ?_)
            have hL9999 : (9999 : Int32).toInt = 9999 := by decide
            refine mcallS' (g := g) (As := [.int 9999, .int x_75]) (rest := [.int 5, .ref (a 0)]) St hK hT hA hP hD hS hl.1 [] [0] rfl rfl rfl (m_lesser l g 9999 x_75 ) (va_cwS 2 hts (zgL (zl3 k1000 k1001 k839) k827) rfl rfl rfl (by decide +kernel) ⟨Nat.le_of_ble_eq_true rfl, Nat.le_of_ble_eq_true rfl⟩) rfl rfl (Nat.le_of_ble_eq_true rfl) dX12_build_68 ⟨(Nat.le_of_ble_eq_true rfl), (Nat.le_of_ble_eq_true rfl)⟩ (fun q_76 H locs hq77 hP hD hS => ?_)
            replace hq77 : (q_76.toInt ≤ (9999 : Int32).toInt ∧ q_76.toInt ≤ x_75.toInt ∧ (q_76.toInt = (9999 : Int32).toInt ∨ q_76.toInt = x_75.toInt)) := hq77
            have hP : va_P g.1 vwCl (List.flatten [bMo g o a th hi ac tp ba en tA fl de iD iO tU fm_3 fk fa fc ft ff fb fi]) H := hP
            have hD : va_D A (List.flatten [bMo g o a th hi ac tp ba en tA fl de iD iO tU fm_3 fk fa fc ft ff fb fi]) := hD
            refine W.widen (k := 0) (n := 0) (Nat.le_of_ble_eq_true rfl) (Nat.le_of_ble_eq_true rfl) ?_
            refine W.eq (g2 := F0 m 71 ls [.int q_76, .int 5, .ref (a 0)]) rfl ?_
            refine va_iast hx hb hK hP hD hS 1 0 rfl rfl (zin rfl) dX12_build_71 (fun H locs hP hD hS => ?_)
            obtain ⟨fm_78, rfm_78, hkfm_78, hP, hD⟩ : ∃ fm_78 : Nat → Int32, rM fm_78 ∧ ((fm_78 0).toInt = (fm_3 0).toInt ∧ (fm_78 3).toInt = (fm_3 3).toInt ∧ (fm_78 4).toInt = (fm_3 4).toInt) ∧ va_P g.1 vwCl (List.flatten [bMo g o a th hi ac tp ba en tA fl de iD iO tU fm_78 fk fa fc ft ff fb fi]) H ∧ va_D A (List.flatten [bMo g o a th hi ac tp ba en tA fl de iD iO tU fm_78 fk fa fc ft ff fb fi]) := ⟨upd fm_3 5 q_76, (rM_stL rfm_3 (by decide)), ⟨rfl, rfl, rfl⟩, hP, hD⟩
            refine lv_goto (tgt := 150) hx hb dX12_build_72 (by decide) ?_
            refine ziinc3 (n' := 1) (a' := 1) (b' := 6) (lv' := fun v9 => [(2, .int v9), (3, .int 1), (0, .ref o), (1, .int x_1)]) hx hb dX12_build_150 hl (k := 3) rfl (by decide) (fun _ => rfl) (zaddK (i := x_2.toInt) (j := 1) rfl (by decide) i4.1 n11 (Int.le_refl _) (Int.le_refl _) (by decide)) (fun x_79 ls hx_79 hl => ?_)
            refine lv_goto (tgt := 4) hx hb dX12_build_153 (by decide) ?_
            have hl := lv_sub (l' := [(0, .ref o), (1, .int x_1), (2, .int x_79), (3, .int 1)]) hl [2, 3, 0, 1] rfl
            have hP : va_P g.1 vwCl (List.flatten [bMo g o a th hi ac tp ba en tA fl de iD iO tU fm_78 fk fa fc ft ff fb fi]) H := hP
            have hD : va_D A (List.flatten [bMo g o a th hi ac tp ba en tA fl de iD iO tU fm_78 fk fa fc ft ff fb fi]) := hD
            exact ih4_7 x_1 x_79 fm_78 ⟨(Int.le_trans (by decide) hx_79.2.1), hx_79.2.2⟩ rfm_78 (by first | omega | assumption | decide) H _ ls (zmK hx_79.1 (by decide) n11 (by decide) hk4_7)  hP hD hS (lv_sub hl [0, 1, 2] rfl)
  have hL0 : (0 : Int32).toInt = 0 := by decide
  have hP : va_P g.1 vwCl (List.flatten [bMo g o a th hi ac tp ba en tA fl de iD iO tU fm fk fa fc ft ff fb fi]) s.heap := hP
  have hD : va_D A (List.flatten [bMo g o a th hi ac tp ba en tA fl de iD iO tU fm fk fa fc ft ff fb fi]) := hD
  exact LP4_6 _ 0 0 fm (by decide) rfm (by first | omega | assumption | decide) s.heap _ ls (Nat.lt_succ_self _)  hP hD hS (lv_sub hl [0, 1, 2] rfl)
set_option maxRecDepth 100000 in
set_option maxHeartbeats 4000000 in
theorem m_returns (l : Launch) (g : zG) (o : Nat) (a : Nat → Nat) (th : Int32) (hi : Int32) (ac : Int32) (tp : Int32) (ba : Int32) (en : Int32) (tA : Int32) (fl : Int32) (de : Int32) (iD : Int32) (iO : Int32) (tU : Int32) (fm : Nat → Int32) (fk : Nat → Int32) (fa : Nat → Int32) (fc : Nat → Int32) (ft : Nat → Int32) (ff : Nat → Int32) (fb : Nat → Int32) (fi : Nat → Int32) (x : Int32) (dr : Int32) (rfm : rM fm) (b_x : 0 ≤ x.toInt ∧ x.toInt ≤ 7) : zM' g l yX12_returns (Cond.code yX12_returns cX12_returns 5 none :: zB) ({ frames := 4, cells := 0, slots := 0, locals := 88 } : Room) [.ref o, .int x, .int dr] [bMo g o a th hi ac tp ba en tA fl de iD iO tU fm fk fa fc ft ff fb fi] (fun (fm2 : Nat → Int32) => none) (fun (fm2 : Nat → Int32) => ((fm2 0).toInt = (fm 0).toInt ∧ (fm2 3).toInt = (fm 3).toInt ∧ (fm2 4).toInt = (fm 4).toInt) ∧ (rM fm2)) (fun (fm2 : Nat → Int32) => [bMo g o a th hi ac tp ba en tA fl de iD iO tU fm2 fk fa fc ft ff fb fi]) := by
  refine zM'.of (cc := cX12_returns) (maxL := 5) (rt := none) (by decide) rfl (Nat.le_of_ble_eq_true rfl) ?_
  intro p e s m args below meth c A ls St hr hlocks hin hK hT hA hP hD hS hl
  obtain ⟨hx, hb, hml, hown, hts⟩ := id St
  have hl : lv_has ls 5 [(0, .ref o), (1, .int x), (2, .int dr)] := hl
  refine lv_iload_n hx hb dX12_returns_0 rfl (lv_at hl 2 rfl) ?_
  refine lv_if_eq (tgt := 24) hx hb dX12_returns_1 (by decide) (fun cb9 => ?_) (fun cb9 => ?_)
  · skip
    have c1 : dr.toInt = 0 := zeq cb9 rfl (by decide)
    have n2 : 0 ≤ dr.toInt := Int.le_trans (Int.le_refl _) (Int.le_of_eq c1.symm)
    have n3 : dr.toInt ≤ 0 := Int.le_trans (Int.le_of_eq c1) (Int.le_refl _)
    refine lv_iconst (v := 0) hx hb dX12_returns_24 (by decide) ?_
    refine lv_istore_n (lv' := [(3, .int 0), (0, .ref o), (1, .int x), (2, .int dr)]) hx hb dX12_returns_25 rfl hl (by decide) rfl (fun ls hl => ?_)
    refine lv_iconst (v := 0) hx hb dX12_returns_26 (by decide) ?_
    refine lv_istore (lv' := [(4, .int 0), (3, .int 0), (0, .ref o), (1, .int x), (2, .int dr)]) hx hb dX12_returns_27 hl (by decide) rfl (fun ls hl => ?_)
    have hl := lv_sub (l' := [(0, .ref o), (1, .int x), (2, .int dr), (3, .int 0), (4, .int 0)]) hl [2, 3, 4, 1, 0] rfl
    have LP29_8 : ∀ (kf : Nat) (x_4 : Int32) (fm_5 : Nat → Int32), (0 ≤ x_4.toInt ∧ x_4.toInt ≤ 8) → (rM fm_5) → ((fm_5 0).toInt = (fm 0).toInt ∧ (fm_5 3).toInt = (fm 3).toInt ∧ (fm_5 4).toInt = (fm 4).toInt) → ∀ (H : Heap) (locs : List Loc) (ls : Array Slot), ((9 - x_4.toInt).toNat) < kf → va_P g.1 vwCl (List.flatten [bMo g o a th hi ac tp ba en tA fl de iD iO tU fm_5 fk fa fc ft ff fb fi]) H → va_D A (List.flatten [bMo g o a th hi ac tp ba en tA fl de iD iO tU fm_5 fk fa fc ft ff fb fi]) → va_S A s.heap H locs → lv_has ls 5 [(0, .ref o), (1, .int x), (2, .int dr), (3, .int 0), (4, .int x_4)] → W p l e ({ frames := 4, cells := 0, slots := 0, locals := 88 } : Room) s m args below meth c H locs (0) (0) (zF g (fun (fm2 : Nat → Int32) => none) (fun (fm2 : Nat → Int32) => ((fm2 0).toInt = (fm 0).toInt ∧ (fm2 3).toInt = (fm 3).toInt ∧ (fm2 4).toInt = (fm 4).toInt) ∧ (rM fm2)) (fun (fm2 : Nat → Int32) => [bMo g o a th hi ac tp ba en tA fl de iD iO tU fm2 fk fa fc ft ff fb fi]) ({ frames := 4, cells := 0, slots := 0, locals := 88 } : Room) below args s A) (F0 m 29 ls []) := by
      intro kf
      induction kf with
      | zero => intro x_4 fm_5 i6 rfm_5 i7 H locs ls hk; exact absurd hk (Nat.not_lt_zero _)
      | succ kf ih29_9 =>
        intro x_4 fm_5 i6 rfm_5 i7 H locs ls hk29_9 hP hD hS hl
        refine lv_iload hx hb dX12_returns_29 (lv_at hl 4 rfl) ?_
        refine lv_aload_n hx hb dX12_returns_31 rfl (lv_at hl 0 rfl) ?_
        refine va_get (D := g.1) (ci := 10) (v := .ref (a 0)) (C := RX12) (T := TX12) (N := 20) hx hb hts izRX12 hown hK hP 0 rfl rfl 1 (by decide) (hts _ k815) (fun _ h9 => h9) rfl dX12_returns_32 ?_
        refine lv_iconst (v := 3) hx hb dX12_returns_35 (by decide) ?_
        refine va_iald hx hb hK hP 1 0 rfl rfl (zin rfl) dX12_returns_36 ?_
        refine zgq (r := fm_5 3) rfl (rM3 rfm_5) (fun x_10 hx_10 => ?_)
        refine lv_icmp_ge (tgt := 93) hx hb dX12_returns_37 (by decide) (fun cb9 => ?_) (fun cb9 => ?_)
        · skip
          have c11 : x_10.toInt ≤ x_4.toInt := zle cb9 rfl rfl
          refine lv_aload_n hx hb dX12_returns_93 rfl (lv_at hl 0 rfl) ?_
          refine lv_iload_n hx hb dX12_returns_94 rfl (lv_at hl 1 rfl) ?_
          refine lv_iconst (v := 4) hx hb dX12_returns_95 (by decide) ?_
          refine lv_iconst (v := (-1)) hx hb dX12_returns_96 (by decide) ?_
          have hL4 : (4 : Int32).toInt = 4 := by decide
          refine mcallV' (g := g) (q0 := 0) (ci := 10) (As := [.int x, .int 4, .int (-1)]) (rest := []) St hK hT hA hP hD hS hl.1 [0] [] rfl rfl rfl (m_put l g o a th hi ac tp ba en tA fl de iD iO tU fm_5 fk fa fc ft ff fb fi x 4 (-1) rfm_5 b_x (by decide)) (cwV 3 hts (zgL (zl4 k909 k910 k911 k839) k832) rfl rfl rfl (by decide +kernel) ⟨Nat.le_of_ble_eq_true rfl, Nat.le_of_ble_eq_true rfl⟩) rfl rfl rfl rfl (Nat.le_of_ble_eq_true rfl) dX12_returns_97 ⟨(Nat.le_of_ble_eq_true rfl), (Nat.le_of_ble_eq_true rfl)⟩ (fun fm2_12 H locs hq13 hP hD hS => ?_)
          replace hq13 : ((fm2_12 0).toInt = (fm_5 0).toInt ∧ (fm2_12 3).toInt = (fm_5 3).toInt ∧ (fm2_12 4).toInt = (fm_5 4).toInt) ∧ (rM fm2_12) ∧ ((fm2_12 3).toInt = (fm_5 3).toInt ∧ (fm2_12 4).toInt = (fm_5 4).toInt) := hq13
          have hP : va_P g.1 vwCl (List.flatten [bMo g o a th hi ac tp ba en tA fl de iD iO tU fm2_12 fk fa fc ft ff fb fi]) H := hP
          have hD : va_D A (List.flatten [bMo g o a th hi ac tp ba en tA fl de iD iO tU fm2_12 fk fa fc ft ff fb fi]) := hD
          refine W.widen (k := 0) (n := 0) (Nat.le_of_ble_eq_true rfl) (Nat.le_of_ble_eq_true rfl) ?_
          refine W.eq (g2 := F0 m 100 ls []) rfl ?_
          obtain ⟨hq13_0, rfm2_12, hq13_2⟩ := hq13
          refine lv_iload_n hx hb dX12_returns_100 rfl (lv_at hl 2 rfl) ?_
          refine lv_if_ne (tgt := 105) hx hb dX12_returns_101 (by decide) (fun cb9 => ?_) (fun cb9 => ?_)
          · skip
            exact absurd (show ¬ dr.toInt = 0 from zne cb9 rfl (by decide)) (by omega)
          · skip
            have c15 : dr.toInt = 0 := zeq cb9 rfl (by decide)
            have hP : va_P g.1 vwCl (List.flatten [bMo g o a th hi ac tp ba en tA fl de iD iO tU fm2_12 fk fa fc ft ff fb fi]) H := hP
            have hD : va_D A (List.flatten [bMo g o a th hi ac tp ba en tA fl de iD iO tU fm2_12 fk fa fc ft ff fb fi]) := hD
            exact mret_v hx hb hr hlocks hS (Nat.le_of_ble_eq_true rfl) (Nat.le_of_ble_eq_true rfl) dX12_returns_104 (fm2_12) rfl (show ((fm2_12 0).toInt = (fm 0).toInt ∧ (fm2_12 3).toInt = (fm 3).toInt ∧ (fm2_12 4).toInt = (fm 4).toInt) ∧ (rM fm2_12) from ⟨(by first | assumption | omega | decide | exact rfl | exact zb01 (by omega) | exact Or.inl (by decide) | exact Or.inr (by first | omega | decide)), rfm2_12⟩) hP hD
        · skip
          have c16 : x_4.toInt < x_10.toInt := zlti (Int32.not_le.mp cb9) rfl rfl
          have n17 : x_4.toInt ≤ 7 := zL1 (b := 8) c16 hx_10.2.1 (by decide)
          have n18 : 1 ≤ x_10.toInt := zL2 (a := 0) c16 i6.1 (by decide)
          refine lv_iload_n hx hb dX12_returns_40 rfl (lv_at hl 2 rfl) ?_
          refine lv_if_eq (tgt := 93) hx hb dX12_returns_41 (by decide) (fun cb9 => ?_) (fun cb9 => ?_)
          · skip
            have c19 : dr.toInt = 0 := zeq cb9 rfl (by decide)
            refine lv_aload_n hx hb dX12_returns_93 rfl (lv_at hl 0 rfl) ?_
            refine lv_iload_n hx hb dX12_returns_94 rfl (lv_at hl 1 rfl) ?_
            refine lv_iconst (v := 4) hx hb dX12_returns_95 (by decide) ?_
            refine lv_iconst (v := (-1)) hx hb dX12_returns_96 (by decide) ?_
            have hL4 : (4 : Int32).toInt = 4 := by decide
            refine mcallV' (g := g) (q0 := 0) (ci := 10) (As := [.int x, .int 4, .int (-1)]) (rest := []) St hK hT hA hP hD hS hl.1 [0] [] rfl rfl rfl (m_put l g o a th hi ac tp ba en tA fl de iD iO tU fm_5 fk fa fc ft ff fb fi x 4 (-1) rfm_5 b_x (by decide)) (cwV 3 hts (zgL (zl4 k909 k910 k911 k839) k832) rfl rfl rfl (by decide +kernel) ⟨Nat.le_of_ble_eq_true rfl, Nat.le_of_ble_eq_true rfl⟩) rfl rfl rfl rfl (Nat.le_of_ble_eq_true rfl) dX12_returns_97 ⟨(Nat.le_of_ble_eq_true rfl), (Nat.le_of_ble_eq_true rfl)⟩ (fun fm2_20 H locs hq21 hP hD hS => ?_)
            replace hq21 : ((fm2_20 0).toInt = (fm_5 0).toInt ∧ (fm2_20 3).toInt = (fm_5 3).toInt ∧ (fm2_20 4).toInt = (fm_5 4).toInt) ∧ (rM fm2_20) ∧ ((fm2_20 3).toInt = (fm_5 3).toInt ∧ (fm2_20 4).toInt = (fm_5 4).toInt) := hq21
            have hP : va_P g.1 vwCl (List.flatten [bMo g o a th hi ac tp ba en tA fl de iD iO tU fm2_20 fk fa fc ft ff fb fi]) H := hP
            have hD : va_D A (List.flatten [bMo g o a th hi ac tp ba en tA fl de iD iO tU fm2_20 fk fa fc ft ff fb fi]) := hD
            refine W.widen (k := 0) (n := 0) (Nat.le_of_ble_eq_true rfl) (Nat.le_of_ble_eq_true rfl) ?_
            refine W.eq (g2 := F0 m 100 ls []) rfl ?_
            obtain ⟨hq21_0, rfm2_20, hq21_2⟩ := hq21
            refine lv_iload_n hx hb dX12_returns_100 rfl (lv_at hl 2 rfl) ?_
            refine lv_if_ne (tgt := 105) hx hb dX12_returns_101 (by decide) (fun cb9 => ?_) (fun cb9 => ?_)
            · skip
              exact absurd (show ¬ dr.toInt = 0 from zne cb9 rfl (by decide)) (by omega)
            · skip
              have c23 : dr.toInt = 0 := zeq cb9 rfl (by decide)
              have hP : va_P g.1 vwCl (List.flatten [bMo g o a th hi ac tp ba en tA fl de iD iO tU fm2_20 fk fa fc ft ff fb fi]) H := hP
              have hD : va_D A (List.flatten [bMo g o a th hi ac tp ba en tA fl de iD iO tU fm2_20 fk fa fc ft ff fb fi]) := hD
              exact mret_v hx hb hr hlocks hS (Nat.le_of_ble_eq_true rfl) (Nat.le_of_ble_eq_true rfl) dX12_returns_104 (fm2_20) rfl (show ((fm2_20 0).toInt = (fm 0).toInt ∧ (fm2_20 3).toInt = (fm 3).toInt ∧ (fm2_20 4).toInt = (fm 4).toInt) ∧ (rM fm2_20) from ⟨(by first | assumption | omega | decide | exact rfl | exact zb01 (by omega) | exact Or.inl (by decide) | exact Or.inr (by first | omega | decide)), rfm2_20⟩) hP hD
          · skip
            exact absurd (show ¬ dr.toInt = 0 from zne cb9 rfl (by decide)) (by omega)
    have hL0 : (0 : Int32).toInt = 0 := by decide
    have hP : va_P g.1 vwCl (List.flatten [bMo g o a th hi ac tp ba en tA fl de iD iO tU fm fk fa fc ft ff fb fi]) s.heap := hP
    have hD : va_D A (List.flatten [bMo g o a th hi ac tp ba en tA fl de iD iO tU fm fk fa fc ft ff fb fi]) := hD
    exact LP29_8 _ 0 fm (by decide) rfm (by first | omega | assumption | decide) s.heap _ ls (Nat.lt_succ_self _)  hP hD hS (lv_sub hl [0, 1, 2, 3, 4] rfl)
  · skip
    have c25 : ¬ dr.toInt = 0 := zne cb9 rfl (by decide)
    refine lv_aload_n hx hb dX12_returns_4 rfl (lv_at hl 0 rfl) ?_
    refine lv_bipush (v := 100) hx hb dX12_returns_5 (by decide) ?_
    have hL100 : (100 : Int32).toInt = 100 := by decide
    refine mcallV' (g := g) (q0 := 0) (ci := 10) (As := [.int 100]) (rest := []) St hK hT hA hP hD hS hl.1 [0] [] rfl rfl rfl (m_draw l g o a th hi ac tp ba en tA fl de iD iO tU fm fk fa fc ft ff fb fi 100 rfm (by decide)) (cwV 1 hts (zgL (zl4 k1009 k1010 k1011 k839) k997) rfl rfl rfl (by decide +kernel) ⟨Nat.le_of_ble_eq_true rfl, Nat.le_of_ble_eq_true rfl⟩) rfl rfl rfl rfl (Nat.le_of_ble_eq_true rfl) dX12_returns_7 ⟨(Nat.le_of_ble_eq_true rfl), (Nat.le_of_ble_eq_true rfl)⟩ (fun u_ H locs hq28 hP hD hS => ?_)
    obtain ⟨fm2_26, q_27⟩ := u_
    replace hq28 : ((fm2_26 0).toInt = (fm 0).toInt ∧ (fm2_26 3).toInt = (fm 3).toInt ∧ (fm2_26 4).toInt = (fm 4).toInt) ∧ (rM fm2_26) := hq28
    have hP : va_P g.1 vwCl (List.flatten [bMo g o a th hi ac tp ba en tA fl de iD iO tU fm2_26 fk fa fc ft ff fb fi]) H := hP
    have hD : va_D A (List.flatten [bMo g o a th hi ac tp ba en tA fl de iD iO tU fm2_26 fk fa fc ft ff fb fi]) := hD
    refine W.widen (k := 0) (n := 0) (Nat.le_of_ble_eq_true rfl) (Nat.le_of_ble_eq_true rfl) ?_
    refine W.eq (g2 := F0 m 10 ls [.int q_27]) rfl ?_
    obtain ⟨hq28_0, rfm2_26⟩ := hq28
    refine lv_aload_n hx hb dX12_returns_10 rfl (lv_at hl 0 rfl) ?_
    refine va_get (D := g.1) (ci := 10) (v := .ref (a 0)) (C := RX12) (T := TX12) (N := 20) hx hb hts izRX12 hown hK hP 0 rfl rfl 1 (by decide) (hts _ k815) (fun _ h9 => h9) rfl dX12_returns_11 ?_
    refine lv_bipush (v := 7) hx hb dX12_returns_14 (by decide) ?_
    refine va_iald hx hb hK hP 1 0 rfl rfl (zin rfl) dX12_returns_16 ?_
    refine zg (fun x_29 => ?_)
    refine lv_icmp_ge (tgt := 24) hx hb dX12_returns_17 (by decide) (fun cb9 => ?_) (fun cb9 => ?_)
    · skip
      have c30 : x_29.toInt ≤ q_27.toInt := zle cb9 rfl rfl
      refine lv_iconst (v := 0) hx hb dX12_returns_24 (by decide) ?_
      refine lv_istore_n (lv' := [(3, .int 0), (0, .ref o), (1, .int x), (2, .int dr)]) hx hb dX12_returns_25 rfl hl (by decide) rfl (fun ls hl => ?_)
      refine lv_iconst (v := 0) hx hb dX12_returns_26 (by decide) ?_
      refine lv_istore (lv' := [(4, .int 0), (3, .int 0), (0, .ref o), (1, .int x), (2, .int dr)]) hx hb dX12_returns_27 hl (by decide) rfl (fun ls hl => ?_)
      have hl := lv_sub (l' := [(0, .ref o), (1, .int x), (2, .int dr), (3, .int 0), (4, .int 0)]) hl [2, 3, 4, 1, 0] rfl
      have LP29_35 : ∀ (kf : Nat) (x_31 : Int32) (fm_32 : Nat → Int32), (0 ≤ x_31.toInt ∧ x_31.toInt ≤ 8) → (rM fm_32) → ((fm_32 0).toInt = (fm 0).toInt ∧ (fm_32 3).toInt = (fm 3).toInt ∧ (fm_32 4).toInt = (fm 4).toInt) → ∀ (H : Heap) (locs : List Loc) (ls : Array Slot), ((9 - x_31.toInt).toNat) < kf → va_P g.1 vwCl (List.flatten [bMo g o a th hi ac tp ba en tA fl de iD iO tU fm_32 fk fa fc ft ff fb fi]) H → va_D A (List.flatten [bMo g o a th hi ac tp ba en tA fl de iD iO tU fm_32 fk fa fc ft ff fb fi]) → va_S A s.heap H locs → lv_has ls 5 [(0, .ref o), (1, .int x), (2, .int dr), (3, .int 0), (4, .int x_31)] → W p l e ({ frames := 4, cells := 0, slots := 0, locals := 88 } : Room) s m args below meth c H locs (0) (0) (zF g (fun (fm2 : Nat → Int32) => none) (fun (fm2 : Nat → Int32) => ((fm2 0).toInt = (fm 0).toInt ∧ (fm2 3).toInt = (fm 3).toInt ∧ (fm2 4).toInt = (fm 4).toInt) ∧ (rM fm2)) (fun (fm2 : Nat → Int32) => [bMo g o a th hi ac tp ba en tA fl de iD iO tU fm2 fk fa fc ft ff fb fi]) ({ frames := 4, cells := 0, slots := 0, locals := 88 } : Room) below args s A) (F0 m 29 ls []) := by
        intro kf
        induction kf with
        | zero => intro x_31 fm_32 i33 rfm_32 i34 H locs ls hk; exact absurd hk (Nat.not_lt_zero _)
        | succ kf ih29_36 =>
          intro x_31 fm_32 i33 rfm_32 i34 H locs ls hk29_36 hP hD hS hl
          refine lv_iload hx hb dX12_returns_29 (lv_at hl 4 rfl) ?_
          refine lv_aload_n hx hb dX12_returns_31 rfl (lv_at hl 0 rfl) ?_
          refine va_get (D := g.1) (ci := 10) (v := .ref (a 0)) (C := RX12) (T := TX12) (N := 20) hx hb hts izRX12 hown hK hP 0 rfl rfl 1 (by decide) (hts _ k815) (fun _ h9 => h9) rfl dX12_returns_32 ?_
          refine lv_iconst (v := 3) hx hb dX12_returns_35 (by decide) ?_
          refine va_iald hx hb hK hP 1 0 rfl rfl (zin rfl) dX12_returns_36 ?_
          refine zgq (r := fm_32 3) rfl (rM3 rfm_32) (fun x_37 hx_37 => ?_)
          refine lv_icmp_ge (tgt := 93) hx hb dX12_returns_37 (by decide) (fun cb9 => ?_) (fun cb9 => ?_)
          · skip
            have c38 : x_37.toInt ≤ x_31.toInt := zle cb9 rfl rfl
            refine lv_aload_n hx hb dX12_returns_93 rfl (lv_at hl 0 rfl) ?_
            refine lv_iload_n hx hb dX12_returns_94 rfl (lv_at hl 1 rfl) ?_
            refine lv_iconst (v := 4) hx hb dX12_returns_95 (by decide) ?_
            refine lv_iconst (v := (-1)) hx hb dX12_returns_96 (by decide) ?_
            have hL4 : (4 : Int32).toInt = 4 := by decide
            refine mcallV' (g := g) (q0 := 0) (ci := 10) (As := [.int x, .int 4, .int (-1)]) (rest := []) St hK hT hA hP hD hS hl.1 [0] [] rfl rfl rfl (m_put l g o a th hi ac tp ba en tA fl de iD iO tU fm_32 fk fa fc ft ff fb fi x 4 (-1) rfm_32 b_x (by decide)) (cwV 3 hts (zgL (zl4 k909 k910 k911 k839) k832) rfl rfl rfl (by decide +kernel) ⟨Nat.le_of_ble_eq_true rfl, Nat.le_of_ble_eq_true rfl⟩) rfl rfl rfl rfl (Nat.le_of_ble_eq_true rfl) dX12_returns_97 ⟨(Nat.le_of_ble_eq_true rfl), (Nat.le_of_ble_eq_true rfl)⟩ (fun fm2_39 H locs hq40 hP hD hS => ?_)
            replace hq40 : ((fm2_39 0).toInt = (fm_32 0).toInt ∧ (fm2_39 3).toInt = (fm_32 3).toInt ∧ (fm2_39 4).toInt = (fm_32 4).toInt) ∧ (rM fm2_39) ∧ ((fm2_39 3).toInt = (fm_32 3).toInt ∧ (fm2_39 4).toInt = (fm_32 4).toInt) := hq40
            have hP : va_P g.1 vwCl (List.flatten [bMo g o a th hi ac tp ba en tA fl de iD iO tU fm2_39 fk fa fc ft ff fb fi]) H := hP
            have hD : va_D A (List.flatten [bMo g o a th hi ac tp ba en tA fl de iD iO tU fm2_39 fk fa fc ft ff fb fi]) := hD
            refine W.widen (k := 0) (n := 0) (Nat.le_of_ble_eq_true rfl) (Nat.le_of_ble_eq_true rfl) ?_
            refine W.eq (g2 := F0 m 100 ls []) rfl ?_
            obtain ⟨hq40_0, rfm2_39, hq40_2⟩ := hq40
            refine lv_iload_n hx hb dX12_returns_100 rfl (lv_at hl 2 rfl) ?_
            refine lv_if_ne (tgt := 105) hx hb dX12_returns_101 (by decide) (fun cb9 => ?_) (fun cb9 => ?_)
            · skip
              have c41 : ¬ dr.toInt = 0 := zne cb9 rfl (by decide)
              refine lv_aload_n hx hb dX12_returns_105 rfl (lv_at hl 0 rfl) ?_
              refine lv_iload_n hx hb dX12_returns_106 rfl (lv_at hl 1 rfl) ?_
              refine lv_iconst (v := 0) hx hb dX12_returns_107 (by decide) ?_
              refine lv_iload_n hx hb dX12_returns_108 rfl (lv_at hl 3 rfl) ?_
              refine lv_if_eq (tgt := 117) hx hb dX12_returns_109 (by decide) (fun _ => ?_) (fun c42 => absurd (by decide) c42)
              refine lv_iconst (v := 0) hx hb dX12_returns_117 (by decide) ?_
              have hL0 : (0 : Int32).toInt = 0 := by decide
              refine mcallV' (g := g) (q0 := 0) (ci := 10) (As := [.int x, .int 0, .int 0]) (rest := []) St hK hT hA hP hD hS hl.1 [0] [] rfl rfl rfl (m_put l g o a th hi ac tp ba en tA fl de iD iO tU fm2_39 fk fa fc ft ff fb fi x 0 0 rfm2_39 b_x (by decide)) (cwV 3 hts (zgL (zl4 k909 k910 k911 k839) k832) rfl rfl rfl (by decide +kernel) ⟨Nat.le_of_ble_eq_true rfl, Nat.le_of_ble_eq_true rfl⟩) rfl rfl rfl rfl (Nat.le_of_ble_eq_true rfl) dX12_returns_118 ⟨(Nat.le_of_ble_eq_true rfl), (Nat.le_of_ble_eq_true rfl)⟩ (fun fm2_43 H locs hq44 hP hD hS => ?_)
              replace hq44 : ((fm2_43 0).toInt = (fm2_39 0).toInt ∧ (fm2_43 3).toInt = (fm2_39 3).toInt ∧ (fm2_43 4).toInt = (fm2_39 4).toInt) ∧ (rM fm2_43) ∧ ((fm2_43 3).toInt = (fm2_39 3).toInt ∧ (fm2_43 4).toInt = (fm2_39 4).toInt) := hq44
              have hP : va_P g.1 vwCl (List.flatten [bMo g o a th hi ac tp ba en tA fl de iD iO tU fm2_43 fk fa fc ft ff fb fi]) H := hP
              have hD : va_D A (List.flatten [bMo g o a th hi ac tp ba en tA fl de iD iO tU fm2_43 fk fa fc ft ff fb fi]) := hD
              refine W.widen (k := 0) (n := 0) (Nat.le_of_ble_eq_true rfl) (Nat.le_of_ble_eq_true rfl) ?_
              refine W.eq (g2 := F0 m 121 ls []) rfl ?_
              obtain ⟨hq44_0, rfm2_43, hq44_2⟩ := hq44
              refine lv_aload_n hx hb dX12_returns_121 rfl (lv_at hl 0 rfl) ?_
              refine lv_iload_n hx hb dX12_returns_122 rfl (lv_at hl 1 rfl) ?_
              refine lv_iload_n hx hb dX12_returns_123 rfl (lv_at hl 3 rfl) ?_
              refine lv_if_eq (tgt := 131) hx hb dX12_returns_124 (by decide) (fun _ => ?_) (fun c45 => absurd (by decide) c45)
              refine lv_iconst (v := 3) hx hb dX12_returns_131 (by decide) ?_
              refine mcallV' (g := g) (q0 := 0) (ci := 10) (As := [.int x, .int 3]) (rest := []) St hK hT hA hP hD hS hl.1 [0] [] rfl rfl rfl (m_logs l g o a th hi ac tp ba en tA fl de iD iO tU fm2_43 fk fa fc ft ff fb fi x 3 rfm2_43) (cwV 2 hts (zgL (zl4 k1005 k1006 k1007 k839) k999) rfl rfl rfl (by decide +kernel) ⟨Nat.le_of_ble_eq_true rfl, Nat.le_of_ble_eq_true rfl⟩) rfl rfl rfl rfl (Nat.le_of_ble_eq_true rfl) dX12_returns_132 ⟨(Nat.le_of_ble_eq_true rfl), (Nat.le_of_ble_eq_true rfl)⟩ (fun fm2_46 H locs hq47 hP hD hS => ?_)
              replace hq47 : ((fm2_46 0).toInt = (fm2_43 0).toInt ∧ (fm2_46 3).toInt = (fm2_43 3).toInt ∧ (fm2_46 4).toInt = (fm2_43 4).toInt) ∧ (rM fm2_46) := hq47
              have hP : va_P g.1 vwCl (List.flatten [bMo g o a th hi ac tp ba en tA fl de iD iO tU fm2_46 fk fa fc ft ff fb fi]) H := hP
              have hD : va_D A (List.flatten [bMo g o a th hi ac tp ba en tA fl de iD iO tU fm2_46 fk fa fc ft ff fb fi]) := hD
              refine W.widen (k := 0) (n := 0) (Nat.le_of_ble_eq_true rfl) (Nat.le_of_ble_eq_true rfl) ?_
              refine W.eq (g2 := F0 m 135 ls []) rfl ?_
              obtain ⟨hq47_0, rfm2_46⟩ := hq47
              have hP : va_P g.1 vwCl (List.flatten [bMo g o a th hi ac tp ba en tA fl de iD iO tU fm2_46 fk fa fc ft ff fb fi]) H := hP
              have hD : va_D A (List.flatten [bMo g o a th hi ac tp ba en tA fl de iD iO tU fm2_46 fk fa fc ft ff fb fi]) := hD
              exact mret_v hx hb hr hlocks hS (Nat.le_of_ble_eq_true rfl) (Nat.le_of_ble_eq_true rfl) dX12_returns_135 (fm2_46) rfl (show ((fm2_46 0).toInt = (fm 0).toInt ∧ (fm2_46 3).toInt = (fm 3).toInt ∧ (fm2_46 4).toInt = (fm 4).toInt) ∧ (rM fm2_46) from ⟨(by first | assumption | omega | decide | exact rfl | exact zb01 (by omega) | exact Or.inl (by decide) | exact Or.inr (by first | omega | decide)), rfm2_46⟩) hP hD
            · skip
              have c48 : dr.toInt = 0 := zeq cb9 rfl (by decide)
              have n49 : 0 ≤ dr.toInt := Int.le_trans (Int.le_refl _) (Int.le_of_eq c48.symm)
              have n50 : dr.toInt ≤ 0 := Int.le_trans (Int.le_of_eq c48) (Int.le_refl _)
              have hP : va_P g.1 vwCl (List.flatten [bMo g o a th hi ac tp ba en tA fl de iD iO tU fm2_39 fk fa fc ft ff fb fi]) H := hP
              have hD : va_D A (List.flatten [bMo g o a th hi ac tp ba en tA fl de iD iO tU fm2_39 fk fa fc ft ff fb fi]) := hD
              exact mret_v hx hb hr hlocks hS (Nat.le_of_ble_eq_true rfl) (Nat.le_of_ble_eq_true rfl) dX12_returns_104 (fm2_39) rfl (show ((fm2_39 0).toInt = (fm 0).toInt ∧ (fm2_39 3).toInt = (fm 3).toInt ∧ (fm2_39 4).toInt = (fm 4).toInt) ∧ (rM fm2_39) from ⟨(by first | assumption | omega | decide | exact rfl | exact zb01 (by omega) | exact Or.inl (by decide) | exact Or.inr (by first | omega | decide)), rfm2_39⟩) hP hD
          · skip
            have c51 : x_31.toInt < x_37.toInt := zlti (Int32.not_le.mp cb9) rfl rfl
            have n52 : x_31.toInt ≤ 7 := zL1 (b := 8) c51 hx_37.2.1 (by decide)
            have n53 : 1 ≤ x_37.toInt := zL2 (a := 0) c51 i33.1 (by decide)
            refine lv_iload_n hx hb dX12_returns_40 rfl (lv_at hl 2 rfl) ?_
            refine lv_if_eq (tgt := 93) hx hb dX12_returns_41 (by decide) (fun cb9 => ?_) (fun cb9 => ?_)
            · skip
              have c54 : dr.toInt = 0 := zeq cb9 rfl (by decide)
              have n55 : 0 ≤ dr.toInt := Int.le_trans (Int.le_refl _) (Int.le_of_eq c54.symm)
              have n56 : dr.toInt ≤ 0 := Int.le_trans (Int.le_of_eq c54) (Int.le_refl _)
              refine lv_aload_n hx hb dX12_returns_93 rfl (lv_at hl 0 rfl) ?_
              refine lv_iload_n hx hb dX12_returns_94 rfl (lv_at hl 1 rfl) ?_
              refine lv_iconst (v := 4) hx hb dX12_returns_95 (by decide) ?_
              refine lv_iconst (v := (-1)) hx hb dX12_returns_96 (by decide) ?_
              have hL4 : (4 : Int32).toInt = 4 := by decide
              refine mcallV' (g := g) (q0 := 0) (ci := 10) (As := [.int x, .int 4, .int (-1)]) (rest := []) St hK hT hA hP hD hS hl.1 [0] [] rfl rfl rfl (m_put l g o a th hi ac tp ba en tA fl de iD iO tU fm_32 fk fa fc ft ff fb fi x 4 (-1) rfm_32 b_x (by decide)) (cwV 3 hts (zgL (zl4 k909 k910 k911 k839) k832) rfl rfl rfl (by decide +kernel) ⟨Nat.le_of_ble_eq_true rfl, Nat.le_of_ble_eq_true rfl⟩) rfl rfl rfl rfl (Nat.le_of_ble_eq_true rfl) dX12_returns_97 ⟨(Nat.le_of_ble_eq_true rfl), (Nat.le_of_ble_eq_true rfl)⟩ (fun fm2_57 H locs hq58 hP hD hS => ?_)
              replace hq58 : ((fm2_57 0).toInt = (fm_32 0).toInt ∧ (fm2_57 3).toInt = (fm_32 3).toInt ∧ (fm2_57 4).toInt = (fm_32 4).toInt) ∧ (rM fm2_57) ∧ ((fm2_57 3).toInt = (fm_32 3).toInt ∧ (fm2_57 4).toInt = (fm_32 4).toInt) := hq58
              have hP : va_P g.1 vwCl (List.flatten [bMo g o a th hi ac tp ba en tA fl de iD iO tU fm2_57 fk fa fc ft ff fb fi]) H := hP
              have hD : va_D A (List.flatten [bMo g o a th hi ac tp ba en tA fl de iD iO tU fm2_57 fk fa fc ft ff fb fi]) := hD
              refine W.widen (k := 0) (n := 0) (Nat.le_of_ble_eq_true rfl) (Nat.le_of_ble_eq_true rfl) ?_
              refine W.eq (g2 := F0 m 100 ls []) rfl ?_
              obtain ⟨hq58_0, rfm2_57, hq58_2⟩ := hq58
              refine lv_iload_n hx hb dX12_returns_100 rfl (lv_at hl 2 rfl) ?_
              refine lv_if_ne (tgt := 105) hx hb dX12_returns_101 (by decide) (fun cb9 => ?_) (fun cb9 => ?_)
              · skip
                exact absurd (show ¬ dr.toInt = 0 from zne cb9 rfl (by decide)) (by omega)
              · skip
                have c60 : dr.toInt = 0 := zeq cb9 rfl (by decide)
                have hP : va_P g.1 vwCl (List.flatten [bMo g o a th hi ac tp ba en tA fl de iD iO tU fm2_57 fk fa fc ft ff fb fi]) H := hP
                have hD : va_D A (List.flatten [bMo g o a th hi ac tp ba en tA fl de iD iO tU fm2_57 fk fa fc ft ff fb fi]) := hD
                exact mret_v hx hb hr hlocks hS (Nat.le_of_ble_eq_true rfl) (Nat.le_of_ble_eq_true rfl) dX12_returns_104 (fm2_57) rfl (show ((fm2_57 0).toInt = (fm 0).toInt ∧ (fm2_57 3).toInt = (fm 3).toInt ∧ (fm2_57 4).toInt = (fm 4).toInt) ∧ (rM fm2_57) from ⟨(by first | assumption | omega | decide | exact rfl | exact zb01 (by omega) | exact Or.inl (by decide) | exact Or.inr (by first | omega | decide)), rfm2_57⟩) hP hD
            · skip
              have c61 : ¬ dr.toInt = 0 := zne cb9 rfl (by decide)
              refine lv_iload hx hb dX12_returns_44 (lv_at hl 4 rfl) ?_
              refine lv_iload_n hx hb dX12_returns_46 rfl (lv_at hl 1 rfl) ?_
              refine lv_icmp_eq (tgt := 87) hx hb dX12_returns_47 (by decide) (fun cb9 => ?_) (fun cb9 => ?_)
              · skip
                have c62 : x_31.toInt = x.toInt := zeq cb9 rfl rfl
                refine ziinc3 (n' := 1) (a' := 1) (b' := 8) (lv' := fun v9 => [(4, .int v9), (0, .ref o), (1, .int x), (2, .int dr), (3, .int 0)]) hx hb dX12_returns_87 hl (k := 4) rfl (by decide) (fun _ => rfl) (zaddK (i := x_31.toInt) (j := 1) rfl (by decide) i33.1 n52 (Int.le_refl _) (Int.le_refl _) (by decide)) (fun x_63 ls hx_63 hl => ?_)
                refine lv_goto (tgt := 29) hx hb dX12_returns_90 (by decide) ?_
                have hl := lv_sub (l' := [(0, .ref o), (1, .int x), (2, .int dr), (3, .int 0), (4, .int x_63)]) hl [1, 2, 3, 4, 0] rfl
                have hP : va_P g.1 vwCl (List.flatten [bMo g o a th hi ac tp ba en tA fl de iD iO tU fm_32 fk fa fc ft ff fb fi]) H := hP
                have hD : va_D A (List.flatten [bMo g o a th hi ac tp ba en tA fl de iD iO tU fm_32 fk fa fc ft ff fb fi]) := hD
                exact ih29_36 x_63 fm_32 ⟨(Int.le_trans (by decide) hx_63.2.1), hx_63.2.2⟩ rfm_32 i34 H _ ls (zmK hx_63.1 (by decide) n52 (by decide) hk29_36)  hP hD hS (lv_sub hl [0, 1, 2, 3, 4] rfl)
              · skip
                have c64 : ¬ x_31.toInt = x.toInt := zne cb9 rfl rfl
                refine lv_aload_n hx hb dX12_returns_50 rfl (lv_at hl 0 rfl) ?_
                refine lv_iload hx hb dX12_returns_51 (lv_at hl 4 rfl) ?_
                refine mcallV' (g := g) (q0 := 0) (ci := 10) (As := [.int x_31]) (rest := []) St hK hT hA hP hD hS hl.1 [0] [] rfl rfl rfl (m_isHere l g o a th hi ac tp ba en tA fl de iD iO tU fm_32 fk fa fc ft ff fb fi x_31 (⟨i33.1, n52⟩)) (cwV 1 hts (zgL (zl4 k846 k847 k848 k839) k841) rfl rfl rfl (by decide +kernel) ⟨Nat.le_of_ble_eq_true rfl, Nat.le_of_ble_eq_true rfl⟩) rfl rfl rfl rfl (Nat.le_of_ble_eq_true rfl) dX12_returns_53 ⟨(Nat.le_of_ble_eq_true rfl), (Nat.le_of_ble_eq_true rfl)⟩ (fun q_65 H locs hq66 hP hD hS => ?_)
                replace hq66 : (q_65 = 0 ∨ q_65 = 1) := hq66
                have hP : va_P g.1 vwCl (List.flatten [bMo g o a th hi ac tp ba en tA fl de iD iO tU fm_32 fk fa fc ft ff fb fi]) H := hP
                have hD : va_D A (List.flatten [bMo g o a th hi ac tp ba en tA fl de iD iO tU fm_32 fk fa fc ft ff fb fi]) := hD
                refine W.widen (k := 0) (n := 0) (Nat.le_of_ble_eq_true rfl) (Nat.le_of_ble_eq_true rfl) ?_
                refine W.eq (g2 := F0 m 56 ls [.int q_65]) rfl ?_
                rcases hq66 with rfl | rfl
                · skip
                  refine lv_if_eq (tgt := 87) hx hb dX12_returns_56 (by decide) (fun _ => ?_) (fun c67 => absurd (by decide) c67)
                  refine ziinc3 (n' := 1) (a' := 1) (b' := 8) (lv' := fun v9 => [(4, .int v9), (0, .ref o), (1, .int x), (2, .int dr), (3, .int 0)]) hx hb dX12_returns_87 hl (k := 4) rfl (by decide) (fun _ => rfl) (zaddK (i := x_31.toInt) (j := 1) rfl (by decide) i33.1 n52 (Int.le_refl _) (Int.le_refl _) (by decide)) (fun x_68 ls hx_68 hl => ?_)
                  refine lv_goto (tgt := 29) hx hb dX12_returns_90 (by decide) ?_
                  have hl := lv_sub (l' := [(0, .ref o), (1, .int x), (2, .int dr), (3, .int 0), (4, .int x_68)]) hl [1, 2, 3, 4, 0] rfl
                  have hP : va_P g.1 vwCl (List.flatten [bMo g o a th hi ac tp ba en tA fl de iD iO tU fm_32 fk fa fc ft ff fb fi]) H := hP
                  have hD : va_D A (List.flatten [bMo g o a th hi ac tp ba en tA fl de iD iO tU fm_32 fk fa fc ft ff fb fi]) := hD
                  exact ih29_36 x_68 fm_32 ⟨(Int.le_trans (by decide) hx_68.2.1), hx_68.2.2⟩ rfm_32 i34 H _ ls (zmK hx_68.1 (by decide) n52 (by decide) hk29_36)  hP hD hS (lv_sub hl [0, 1, 2, 3, 4] rfl)
                · skip
                  refine lv_if_eq (tgt := 87) hx hb dX12_returns_56 (by decide) (fun c69 => absurd c69 (by decide)) (fun _ => ?_)
                  refine lv_aload_n hx hb dX12_returns_59 rfl (lv_at hl 0 rfl) ?_
                  refine lv_iload hx hb dX12_returns_60 (lv_at hl 4 rfl) ?_
                  refine lv_iload_n hx hb dX12_returns_62 rfl (lv_at hl 3 rfl) ?_
                  refine lv_if_eq (tgt := 76) hx hb dX12_returns_63 (by decide) (fun _ => ?_) (fun c70 => absurd (by decide) c70)
                  refine lv_aload_n hx hb dX12_returns_76 rfl (lv_at hl 0 rfl) ?_
                  refine lv_iload hx hb dX12_returns_77 (lv_at hl 4 rfl) ?_
                  refine lv_iload_n hx hb dX12_returns_79 rfl (lv_at hl 1 rfl) ?_
                  refine mcallV' (g := g) (q0 := 0) (ci := 10) (As := [.int x_31, .int x]) (rest := [.int x_31, .ref o]) St hK hT hA hP hD hS hl.1 [0] [] rfl rfl rfl (m_trustOf l g o a th hi ac tp ba en tA fl de iD iO tU fm_32 fk fa fc ft ff fb fi x_31 x (⟨i33.1, n52⟩) b_x) (cwV 2 hts (zgL (zl4 k868 k869 k870 k839) k835) rfl rfl rfl (by decide +kernel) ⟨Nat.le_of_ble_eq_true rfl, Nat.le_of_ble_eq_true rfl⟩) rfl rfl rfl rfl (Nat.le_of_ble_eq_true rfl) dX12_returns_80 ⟨(Nat.le_of_ble_eq_true rfl), (Nat.le_of_ble_eq_true rfl)⟩ (fun q_71 H locs hq72 hP hD hS => ?_)
                  have hP : va_P g.1 vwCl (List.flatten [bMo g o a th hi ac tp ba en tA fl de iD iO tU fm_32 fk fa fc ft ff fb fi]) H := hP
                  have hD : va_D A (List.flatten [bMo g o a th hi ac tp ba en tA fl de iD iO tU fm_32 fk fa fc ft ff fb fi]) := hD
                  refine W.widen (k := 0) (n := 0) (Nat.le_of_ble_eq_true rfl) (Nat.le_of_ble_eq_true rfl) ?_
                  refine W.eq (g2 := F0 m 83 ls [.int q_71, .int x_31, .ref o]) rfl ?_
                  refine lv_ineg hx hb dX12_returns_83 ?_
                  refine zg (fun x_73 => ?_)
                  refine mcallV' (g := g) (q0 := 0) (ci := 10) (As := [.int x_31, .int x_73]) (rest := []) St hK hT hA hP hD hS hl.1 [0] [] rfl rfl rfl (m_believes l g o a th hi ac tp ba en tA fl de iD iO tU fm_32 fk fa fc ft ff fb fi x_31 x_73 rfm_32 (⟨i33.1, n52⟩)) (cwV 2 hts (zgL (zl4 k1012 k1013 k1014 k839) k1002) rfl rfl rfl (by decide +kernel) ⟨Nat.le_of_ble_eq_true rfl, Nat.le_of_ble_eq_true rfl⟩) rfl rfl rfl rfl (Nat.le_of_ble_eq_true rfl) dX12_returns_84 ⟨(Nat.le_of_ble_eq_true rfl), (Nat.le_of_ble_eq_true rfl)⟩ (fun fm2_74 H locs hq75 hP hD hS => ?_)
                  replace hq75 : ((fm2_74 0).toInt = (fm_32 0).toInt ∧ (fm2_74 3).toInt = (fm_32 3).toInt ∧ (fm2_74 4).toInt = (fm_32 4).toInt) ∧ (rM fm2_74) := hq75
                  have hP : va_P g.1 vwCl (List.flatten [bMo g o a th hi ac tp ba en tA fl de iD iO tU fm2_74 fk fa fc ft ff fb fi]) H := hP
                  have hD : va_D A (List.flatten [bMo g o a th hi ac tp ba en tA fl de iD iO tU fm2_74 fk fa fc ft ff fb fi]) := hD
                  refine W.widen (k := 0) (n := 0) (Nat.le_of_ble_eq_true rfl) (Nat.le_of_ble_eq_true rfl) ?_
                  refine W.eq (g2 := F0 m 87 ls []) rfl ?_
                  obtain ⟨hq75_0, rfm2_74⟩ := hq75
                  refine ziinc3 (n' := 1) (a' := 1) (b' := 8) (lv' := fun v9 => [(4, .int v9), (0, .ref o), (1, .int x), (2, .int dr), (3, .int 0)]) hx hb dX12_returns_87 hl (k := 4) rfl (by decide) (fun _ => rfl) (zaddK (i := x_31.toInt) (j := 1) rfl (by decide) i33.1 n52 (Int.le_refl _) (Int.le_refl _) (by decide)) (fun x_76 ls hx_76 hl => ?_)
                  refine lv_goto (tgt := 29) hx hb dX12_returns_90 (by decide) ?_
                  have hl := lv_sub (l' := [(0, .ref o), (1, .int x), (2, .int dr), (3, .int 0), (4, .int x_76)]) hl [1, 2, 3, 4, 0] rfl
                  have hP : va_P g.1 vwCl (List.flatten [bMo g o a th hi ac tp ba en tA fl de iD iO tU fm2_74 fk fa fc ft ff fb fi]) H := hP
                  have hD : va_D A (List.flatten [bMo g o a th hi ac tp ba en tA fl de iD iO tU fm2_74 fk fa fc ft ff fb fi]) := hD
                  exact ih29_36 x_76 fm2_74 ⟨(Int.le_trans (by decide) hx_76.2.1), hx_76.2.2⟩ rfm2_74 (by first | omega | assumption | decide) H _ ls (zmK hx_76.1 (by decide) n52 (by decide) hk29_36)  hP hD hS (lv_sub hl [0, 1, 2, 3, 4] rfl)
      have hL0 : (0 : Int32).toInt = 0 := by decide
      have hP : va_P g.1 vwCl (List.flatten [bMo g o a th hi ac tp ba en tA fl de iD iO tU fm2_26 fk fa fc ft ff fb fi]) H := hP
      have hD : va_D A (List.flatten [bMo g o a th hi ac tp ba en tA fl de iD iO tU fm2_26 fk fa fc ft ff fb fi]) := hD
      exact LP29_35 _ 0 fm2_26 (by decide) rfm2_26 hq28_0 H _ ls (Nat.lt_succ_self _)  hP hD hS (lv_sub hl [0, 1, 2, 3, 4] rfl)
    · skip
      have c77 : q_27.toInt < x_29.toInt := zlti (Int32.not_le.mp cb9) rfl rfl
      refine lv_iconst (v := 1) hx hb dX12_returns_20 (by decide) ?_
      refine lv_goto (tgt := 25) hx hb dX12_returns_21 (by decide) ?_
      refine lv_istore_n (lv' := [(3, .int 1), (0, .ref o), (1, .int x), (2, .int dr)]) hx hb dX12_returns_25 rfl hl (by decide) rfl (fun ls hl => ?_)
      refine lv_iconst (v := 0) hx hb dX12_returns_26 (by decide) ?_
      refine lv_istore (lv' := [(4, .int 0), (3, .int 1), (0, .ref o), (1, .int x), (2, .int dr)]) hx hb dX12_returns_27 hl (by decide) rfl (fun ls hl => ?_)
      have hl := lv_sub (l' := [(0, .ref o), (1, .int x), (2, .int dr), (3, .int 1), (4, .int 0)]) hl [2, 3, 4, 1, 0] rfl
      have LP29_82 : ∀ (kf : Nat) (x_78 : Int32) (fm_79 : Nat → Int32), (0 ≤ x_78.toInt ∧ x_78.toInt ≤ 8) → (rM fm_79) → ((fm_79 0).toInt = (fm 0).toInt ∧ (fm_79 3).toInt = (fm 3).toInt ∧ (fm_79 4).toInt = (fm 4).toInt) → ∀ (H : Heap) (locs : List Loc) (ls : Array Slot), ((9 - x_78.toInt).toNat) < kf → va_P g.1 vwCl (List.flatten [bMo g o a th hi ac tp ba en tA fl de iD iO tU fm_79 fk fa fc ft ff fb fi]) H → va_D A (List.flatten [bMo g o a th hi ac tp ba en tA fl de iD iO tU fm_79 fk fa fc ft ff fb fi]) → va_S A s.heap H locs → lv_has ls 5 [(0, .ref o), (1, .int x), (2, .int dr), (3, .int 1), (4, .int x_78)] → W p l e ({ frames := 4, cells := 0, slots := 0, locals := 88 } : Room) s m args below meth c H locs (0) (0) (zF g (fun (fm2 : Nat → Int32) => none) (fun (fm2 : Nat → Int32) => ((fm2 0).toInt = (fm 0).toInt ∧ (fm2 3).toInt = (fm 3).toInt ∧ (fm2 4).toInt = (fm 4).toInt) ∧ (rM fm2)) (fun (fm2 : Nat → Int32) => [bMo g o a th hi ac tp ba en tA fl de iD iO tU fm2 fk fa fc ft ff fb fi]) ({ frames := 4, cells := 0, slots := 0, locals := 88 } : Room) below args s A) (F0 m 29 ls []) := by
        intro kf
        induction kf with
        | zero => intro x_78 fm_79 i80 rfm_79 i81 H locs ls hk; exact absurd hk (Nat.not_lt_zero _)
        | succ kf ih29_83 =>
          intro x_78 fm_79 i80 rfm_79 i81 H locs ls hk29_83 hP hD hS hl
          refine lv_iload hx hb dX12_returns_29 (lv_at hl 4 rfl) ?_
          refine lv_aload_n hx hb dX12_returns_31 rfl (lv_at hl 0 rfl) ?_
          refine va_get (D := g.1) (ci := 10) (v := .ref (a 0)) (C := RX12) (T := TX12) (N := 20) hx hb hts izRX12 hown hK hP 0 rfl rfl 1 (by decide) (hts _ k815) (fun _ h9 => h9) rfl dX12_returns_32 ?_
          refine lv_iconst (v := 3) hx hb dX12_returns_35 (by decide) ?_
          refine va_iald hx hb hK hP 1 0 rfl rfl (zin rfl) dX12_returns_36 ?_
          refine zgq (r := fm_79 3) rfl (rM3 rfm_79) (fun x_84 hx_84 => ?_)
          refine lv_icmp_ge (tgt := 93) hx hb dX12_returns_37 (by decide) (fun cb9 => ?_) (fun cb9 => ?_)
          · skip
            have c85 : x_84.toInt ≤ x_78.toInt := zle cb9 rfl rfl
            refine lv_aload_n hx hb dX12_returns_93 rfl (lv_at hl 0 rfl) ?_
            refine lv_iload_n hx hb dX12_returns_94 rfl (lv_at hl 1 rfl) ?_
            refine lv_iconst (v := 4) hx hb dX12_returns_95 (by decide) ?_
            refine lv_iconst (v := (-1)) hx hb dX12_returns_96 (by decide) ?_
            have hL4 : (4 : Int32).toInt = 4 := by decide
            refine mcallV' (g := g) (q0 := 0) (ci := 10) (As := [.int x, .int 4, .int (-1)]) (rest := []) St hK hT hA hP hD hS hl.1 [0] [] rfl rfl rfl (m_put l g o a th hi ac tp ba en tA fl de iD iO tU fm_79 fk fa fc ft ff fb fi x 4 (-1) rfm_79 b_x (by decide)) (cwV 3 hts (zgL (zl4 k909 k910 k911 k839) k832) rfl rfl rfl (by decide +kernel) ⟨Nat.le_of_ble_eq_true rfl, Nat.le_of_ble_eq_true rfl⟩) rfl rfl rfl rfl (Nat.le_of_ble_eq_true rfl) dX12_returns_97 ⟨(Nat.le_of_ble_eq_true rfl), (Nat.le_of_ble_eq_true rfl)⟩ (fun fm2_86 H locs hq87 hP hD hS => ?_)
            replace hq87 : ((fm2_86 0).toInt = (fm_79 0).toInt ∧ (fm2_86 3).toInt = (fm_79 3).toInt ∧ (fm2_86 4).toInt = (fm_79 4).toInt) ∧ (rM fm2_86) ∧ ((fm2_86 3).toInt = (fm_79 3).toInt ∧ (fm2_86 4).toInt = (fm_79 4).toInt) := hq87
            have hP : va_P g.1 vwCl (List.flatten [bMo g o a th hi ac tp ba en tA fl de iD iO tU fm2_86 fk fa fc ft ff fb fi]) H := hP
            have hD : va_D A (List.flatten [bMo g o a th hi ac tp ba en tA fl de iD iO tU fm2_86 fk fa fc ft ff fb fi]) := hD
            refine W.widen (k := 0) (n := 0) (Nat.le_of_ble_eq_true rfl) (Nat.le_of_ble_eq_true rfl) ?_
            refine W.eq (g2 := F0 m 100 ls []) rfl ?_
            obtain ⟨hq87_0, rfm2_86, hq87_2⟩ := hq87
            refine lv_iload_n hx hb dX12_returns_100 rfl (lv_at hl 2 rfl) ?_
            refine lv_if_ne (tgt := 105) hx hb dX12_returns_101 (by decide) (fun cb9 => ?_) (fun cb9 => ?_)
            · skip
              have c88 : ¬ dr.toInt = 0 := zne cb9 rfl (by decide)
              refine lv_aload_n hx hb dX12_returns_105 rfl (lv_at hl 0 rfl) ?_
              refine lv_iload_n hx hb dX12_returns_106 rfl (lv_at hl 1 rfl) ?_
              refine lv_iconst (v := 0) hx hb dX12_returns_107 (by decide) ?_
              refine lv_iload_n hx hb dX12_returns_108 rfl (lv_at hl 3 rfl) ?_
              refine lv_if_eq (tgt := 117) hx hb dX12_returns_109 (by decide) (fun c89 => absurd c89 (by decide)) (fun _ => ?_)
              refine lv_bipush (v := 99) hx hb dX12_returns_112 (by decide) ?_
              refine lv_goto (tgt := 118) hx hb dX12_returns_114 (by decide) ?_
              have hL0 : (0 : Int32).toInt = 0 := by decide
              refine mcallV' (g := g) (q0 := 0) (ci := 10) (As := [.int x, .int 0, .int 99]) (rest := []) St hK hT hA hP hD hS hl.1 [0] [] rfl rfl rfl (m_put l g o a th hi ac tp ba en tA fl de iD iO tU fm2_86 fk fa fc ft ff fb fi x 0 99 rfm2_86 b_x (by decide)) (cwV 3 hts (zgL (zl4 k909 k910 k911 k839) k832) rfl rfl rfl (by decide +kernel) ⟨Nat.le_of_ble_eq_true rfl, Nat.le_of_ble_eq_true rfl⟩) rfl rfl rfl rfl (Nat.le_of_ble_eq_true rfl) dX12_returns_118 ⟨(Nat.le_of_ble_eq_true rfl), (Nat.le_of_ble_eq_true rfl)⟩ (fun fm2_90 H locs hq91 hP hD hS => ?_)
              replace hq91 : ((fm2_90 0).toInt = (fm2_86 0).toInt ∧ (fm2_90 3).toInt = (fm2_86 3).toInt ∧ (fm2_90 4).toInt = (fm2_86 4).toInt) ∧ (rM fm2_90) ∧ ((fm2_90 3).toInt = (fm2_86 3).toInt ∧ (fm2_90 4).toInt = (fm2_86 4).toInt) := hq91
              have hP : va_P g.1 vwCl (List.flatten [bMo g o a th hi ac tp ba en tA fl de iD iO tU fm2_90 fk fa fc ft ff fb fi]) H := hP
              have hD : va_D A (List.flatten [bMo g o a th hi ac tp ba en tA fl de iD iO tU fm2_90 fk fa fc ft ff fb fi]) := hD
              refine W.widen (k := 0) (n := 0) (Nat.le_of_ble_eq_true rfl) (Nat.le_of_ble_eq_true rfl) ?_
              refine W.eq (g2 := F0 m 121 ls []) rfl ?_
              obtain ⟨hq91_0, rfm2_90, hq91_2⟩ := hq91
              refine lv_aload_n hx hb dX12_returns_121 rfl (lv_at hl 0 rfl) ?_
              refine lv_iload_n hx hb dX12_returns_122 rfl (lv_at hl 1 rfl) ?_
              refine lv_iload_n hx hb dX12_returns_123 rfl (lv_at hl 3 rfl) ?_
              refine lv_if_eq (tgt := 131) hx hb dX12_returns_124 (by decide) (fun c92 => absurd c92 (by decide)) (fun _ => ?_)
              refine lv_iconst (v := 2) hx hb dX12_returns_127 (by decide) ?_
              refine lv_goto (tgt := 132) hx hb dX12_returns_128 (by decide) ?_
              refine mcallV' (g := g) (q0 := 0) (ci := 10) (As := [.int x, .int 2]) (rest := []) St hK hT hA hP hD hS hl.1 [0] [] rfl rfl rfl (m_logs l g o a th hi ac tp ba en tA fl de iD iO tU fm2_90 fk fa fc ft ff fb fi x 2 rfm2_90) (cwV 2 hts (zgL (zl4 k1005 k1006 k1007 k839) k999) rfl rfl rfl (by decide +kernel) ⟨Nat.le_of_ble_eq_true rfl, Nat.le_of_ble_eq_true rfl⟩) rfl rfl rfl rfl (Nat.le_of_ble_eq_true rfl) dX12_returns_132 ⟨(Nat.le_of_ble_eq_true rfl), (Nat.le_of_ble_eq_true rfl)⟩ (fun fm2_93 H locs hq94 hP hD hS => ?_)
              replace hq94 : ((fm2_93 0).toInt = (fm2_90 0).toInt ∧ (fm2_93 3).toInt = (fm2_90 3).toInt ∧ (fm2_93 4).toInt = (fm2_90 4).toInt) ∧ (rM fm2_93) := hq94
              have hP : va_P g.1 vwCl (List.flatten [bMo g o a th hi ac tp ba en tA fl de iD iO tU fm2_93 fk fa fc ft ff fb fi]) H := hP
              have hD : va_D A (List.flatten [bMo g o a th hi ac tp ba en tA fl de iD iO tU fm2_93 fk fa fc ft ff fb fi]) := hD
              refine W.widen (k := 0) (n := 0) (Nat.le_of_ble_eq_true rfl) (Nat.le_of_ble_eq_true rfl) ?_
              refine W.eq (g2 := F0 m 135 ls []) rfl ?_
              obtain ⟨hq94_0, rfm2_93⟩ := hq94
              have hP : va_P g.1 vwCl (List.flatten [bMo g o a th hi ac tp ba en tA fl de iD iO tU fm2_93 fk fa fc ft ff fb fi]) H := hP
              have hD : va_D A (List.flatten [bMo g o a th hi ac tp ba en tA fl de iD iO tU fm2_93 fk fa fc ft ff fb fi]) := hD
              exact mret_v hx hb hr hlocks hS (Nat.le_of_ble_eq_true rfl) (Nat.le_of_ble_eq_true rfl) dX12_returns_135 (fm2_93) rfl (show ((fm2_93 0).toInt = (fm 0).toInt ∧ (fm2_93 3).toInt = (fm 3).toInt ∧ (fm2_93 4).toInt = (fm 4).toInt) ∧ (rM fm2_93) from ⟨(by first | assumption | omega | decide | exact rfl | exact zb01 (by omega) | exact Or.inl (by decide) | exact Or.inr (by first | omega | decide)), rfm2_93⟩) hP hD
            · skip
              have c95 : dr.toInt = 0 := zeq cb9 rfl (by decide)
              have n96 : 0 ≤ dr.toInt := Int.le_trans (Int.le_refl _) (Int.le_of_eq c95.symm)
              have n97 : dr.toInt ≤ 0 := Int.le_trans (Int.le_of_eq c95) (Int.le_refl _)
              have hP : va_P g.1 vwCl (List.flatten [bMo g o a th hi ac tp ba en tA fl de iD iO tU fm2_86 fk fa fc ft ff fb fi]) H := hP
              have hD : va_D A (List.flatten [bMo g o a th hi ac tp ba en tA fl de iD iO tU fm2_86 fk fa fc ft ff fb fi]) := hD
              exact mret_v hx hb hr hlocks hS (Nat.le_of_ble_eq_true rfl) (Nat.le_of_ble_eq_true rfl) dX12_returns_104 (fm2_86) rfl (show ((fm2_86 0).toInt = (fm 0).toInt ∧ (fm2_86 3).toInt = (fm 3).toInt ∧ (fm2_86 4).toInt = (fm 4).toInt) ∧ (rM fm2_86) from ⟨(by first | assumption | omega | decide | exact rfl | exact zb01 (by omega) | exact Or.inl (by decide) | exact Or.inr (by first | omega | decide)), rfm2_86⟩) hP hD
          · skip
            have c98 : x_78.toInt < x_84.toInt := zlti (Int32.not_le.mp cb9) rfl rfl
            have n99 : x_78.toInt ≤ 7 := zL1 (b := 8) c98 hx_84.2.1 (by decide)
            have n100 : 1 ≤ x_84.toInt := zL2 (a := 0) c98 i80.1 (by decide)
            refine lv_iload_n hx hb dX12_returns_40 rfl (lv_at hl 2 rfl) ?_
            refine lv_if_eq (tgt := 93) hx hb dX12_returns_41 (by decide) (fun cb9 => ?_) (fun cb9 => ?_)
            · skip
              have c101 : dr.toInt = 0 := zeq cb9 rfl (by decide)
              have n102 : 0 ≤ dr.toInt := Int.le_trans (Int.le_refl _) (Int.le_of_eq c101.symm)
              have n103 : dr.toInt ≤ 0 := Int.le_trans (Int.le_of_eq c101) (Int.le_refl _)
              refine lv_aload_n hx hb dX12_returns_93 rfl (lv_at hl 0 rfl) ?_
              refine lv_iload_n hx hb dX12_returns_94 rfl (lv_at hl 1 rfl) ?_
              refine lv_iconst (v := 4) hx hb dX12_returns_95 (by decide) ?_
              refine lv_iconst (v := (-1)) hx hb dX12_returns_96 (by decide) ?_
              have hL4 : (4 : Int32).toInt = 4 := by decide
              refine mcallV' (g := g) (q0 := 0) (ci := 10) (As := [.int x, .int 4, .int (-1)]) (rest := []) St hK hT hA hP hD hS hl.1 [0] [] rfl rfl rfl (m_put l g o a th hi ac tp ba en tA fl de iD iO tU fm_79 fk fa fc ft ff fb fi x 4 (-1) rfm_79 b_x (by decide)) (cwV 3 hts (zgL (zl4 k909 k910 k911 k839) k832) rfl rfl rfl (by decide +kernel) ⟨Nat.le_of_ble_eq_true rfl, Nat.le_of_ble_eq_true rfl⟩) rfl rfl rfl rfl (Nat.le_of_ble_eq_true rfl) dX12_returns_97 ⟨(Nat.le_of_ble_eq_true rfl), (Nat.le_of_ble_eq_true rfl)⟩ (fun fm2_104 H locs hq105 hP hD hS => ?_)
              replace hq105 : ((fm2_104 0).toInt = (fm_79 0).toInt ∧ (fm2_104 3).toInt = (fm_79 3).toInt ∧ (fm2_104 4).toInt = (fm_79 4).toInt) ∧ (rM fm2_104) ∧ ((fm2_104 3).toInt = (fm_79 3).toInt ∧ (fm2_104 4).toInt = (fm_79 4).toInt) := hq105
              have hP : va_P g.1 vwCl (List.flatten [bMo g o a th hi ac tp ba en tA fl de iD iO tU fm2_104 fk fa fc ft ff fb fi]) H := hP
              have hD : va_D A (List.flatten [bMo g o a th hi ac tp ba en tA fl de iD iO tU fm2_104 fk fa fc ft ff fb fi]) := hD
              refine W.widen (k := 0) (n := 0) (Nat.le_of_ble_eq_true rfl) (Nat.le_of_ble_eq_true rfl) ?_
              refine W.eq (g2 := F0 m 100 ls []) rfl ?_
              obtain ⟨hq105_0, rfm2_104, hq105_2⟩ := hq105
              refine lv_iload_n hx hb dX12_returns_100 rfl (lv_at hl 2 rfl) ?_
              refine lv_if_ne (tgt := 105) hx hb dX12_returns_101 (by decide) (fun cb9 => ?_) (fun cb9 => ?_)
              · skip
                exact absurd (show ¬ dr.toInt = 0 from zne cb9 rfl (by decide)) (by omega)
              · skip
                have c107 : dr.toInt = 0 := zeq cb9 rfl (by decide)
                have hP : va_P g.1 vwCl (List.flatten [bMo g o a th hi ac tp ba en tA fl de iD iO tU fm2_104 fk fa fc ft ff fb fi]) H := hP
                have hD : va_D A (List.flatten [bMo g o a th hi ac tp ba en tA fl de iD iO tU fm2_104 fk fa fc ft ff fb fi]) := hD
                exact mret_v hx hb hr hlocks hS (Nat.le_of_ble_eq_true rfl) (Nat.le_of_ble_eq_true rfl) dX12_returns_104 (fm2_104) rfl (show ((fm2_104 0).toInt = (fm 0).toInt ∧ (fm2_104 3).toInt = (fm 3).toInt ∧ (fm2_104 4).toInt = (fm 4).toInt) ∧ (rM fm2_104) from ⟨(by first | assumption | omega | decide | exact rfl | exact zb01 (by omega) | exact Or.inl (by decide) | exact Or.inr (by first | omega | decide)), rfm2_104⟩) hP hD
            · skip
              have c108 : ¬ dr.toInt = 0 := zne cb9 rfl (by decide)
              refine lv_iload hx hb dX12_returns_44 (lv_at hl 4 rfl) ?_
              refine lv_iload_n hx hb dX12_returns_46 rfl (lv_at hl 1 rfl) ?_
              refine lv_icmp_eq (tgt := 87) hx hb dX12_returns_47 (by decide) (fun cb9 => ?_) (fun cb9 => ?_)
              · skip
                have c109 : x_78.toInt = x.toInt := zeq cb9 rfl rfl
                refine ziinc3 (n' := 1) (a' := 1) (b' := 8) (lv' := fun v9 => [(4, .int v9), (0, .ref o), (1, .int x), (2, .int dr), (3, .int 1)]) hx hb dX12_returns_87 hl (k := 4) rfl (by decide) (fun _ => rfl) (zaddK (i := x_78.toInt) (j := 1) rfl (by decide) i80.1 n99 (Int.le_refl _) (Int.le_refl _) (by decide)) (fun x_110 ls hx_110 hl => ?_)
                refine lv_goto (tgt := 29) hx hb dX12_returns_90 (by decide) ?_
                have hl := lv_sub (l' := [(0, .ref o), (1, .int x), (2, .int dr), (3, .int 1), (4, .int x_110)]) hl [1, 2, 3, 4, 0] rfl
                have hP : va_P g.1 vwCl (List.flatten [bMo g o a th hi ac tp ba en tA fl de iD iO tU fm_79 fk fa fc ft ff fb fi]) H := hP
                have hD : va_D A (List.flatten [bMo g o a th hi ac tp ba en tA fl de iD iO tU fm_79 fk fa fc ft ff fb fi]) := hD
                exact ih29_83 x_110 fm_79 ⟨(Int.le_trans (by decide) hx_110.2.1), hx_110.2.2⟩ rfm_79 i81 H _ ls (zmK hx_110.1 (by decide) n99 (by decide) hk29_83)  hP hD hS (lv_sub hl [0, 1, 2, 3, 4] rfl)
              · skip
                have c111 : ¬ x_78.toInt = x.toInt := zne cb9 rfl rfl
                refine lv_aload_n hx hb dX12_returns_50 rfl (lv_at hl 0 rfl) ?_
                refine lv_iload hx hb dX12_returns_51 (lv_at hl 4 rfl) ?_
                refine mcallV' (g := g) (q0 := 0) (ci := 10) (As := [.int x_78]) (rest := []) St hK hT hA hP hD hS hl.1 [0] [] rfl rfl rfl (m_isHere l g o a th hi ac tp ba en tA fl de iD iO tU fm_79 fk fa fc ft ff fb fi x_78 (⟨i80.1, n99⟩)) (cwV 1 hts (zgL (zl4 k846 k847 k848 k839) k841) rfl rfl rfl (by decide +kernel) ⟨Nat.le_of_ble_eq_true rfl, Nat.le_of_ble_eq_true rfl⟩) rfl rfl rfl rfl (Nat.le_of_ble_eq_true rfl) dX12_returns_53 ⟨(Nat.le_of_ble_eq_true rfl), (Nat.le_of_ble_eq_true rfl)⟩ (fun q_112 H locs hq113 hP hD hS => ?_)
                replace hq113 : (q_112 = 0 ∨ q_112 = 1) := hq113
                have hP : va_P g.1 vwCl (List.flatten [bMo g o a th hi ac tp ba en tA fl de iD iO tU fm_79 fk fa fc ft ff fb fi]) H := hP
                have hD : va_D A (List.flatten [bMo g o a th hi ac tp ba en tA fl de iD iO tU fm_79 fk fa fc ft ff fb fi]) := hD
                refine W.widen (k := 0) (n := 0) (Nat.le_of_ble_eq_true rfl) (Nat.le_of_ble_eq_true rfl) ?_
                refine W.eq (g2 := F0 m 56 ls [.int q_112]) rfl ?_
                rcases hq113 with rfl | rfl
                · skip
                  refine lv_if_eq (tgt := 87) hx hb dX12_returns_56 (by decide) (fun _ => ?_) (fun c114 => absurd (by decide) c114)
                  refine ziinc3 (n' := 1) (a' := 1) (b' := 8) (lv' := fun v9 => [(4, .int v9), (0, .ref o), (1, .int x), (2, .int dr), (3, .int 1)]) hx hb dX12_returns_87 hl (k := 4) rfl (by decide) (fun _ => rfl) (zaddK (i := x_78.toInt) (j := 1) rfl (by decide) i80.1 n99 (Int.le_refl _) (Int.le_refl _) (by decide)) (fun x_115 ls hx_115 hl => ?_)
                  refine lv_goto (tgt := 29) hx hb dX12_returns_90 (by decide) ?_
                  have hl := lv_sub (l' := [(0, .ref o), (1, .int x), (2, .int dr), (3, .int 1), (4, .int x_115)]) hl [1, 2, 3, 4, 0] rfl
                  have hP : va_P g.1 vwCl (List.flatten [bMo g o a th hi ac tp ba en tA fl de iD iO tU fm_79 fk fa fc ft ff fb fi]) H := hP
                  have hD : va_D A (List.flatten [bMo g o a th hi ac tp ba en tA fl de iD iO tU fm_79 fk fa fc ft ff fb fi]) := hD
                  exact ih29_83 x_115 fm_79 ⟨(Int.le_trans (by decide) hx_115.2.1), hx_115.2.2⟩ rfm_79 i81 H _ ls (zmK hx_115.1 (by decide) n99 (by decide) hk29_83)  hP hD hS (lv_sub hl [0, 1, 2, 3, 4] rfl)
                · skip
                  refine lv_if_eq (tgt := 87) hx hb dX12_returns_56 (by decide) (fun c116 => absurd c116 (by decide)) (fun _ => ?_)
                  refine lv_aload_n hx hb dX12_returns_59 rfl (lv_at hl 0 rfl) ?_
                  refine lv_iload hx hb dX12_returns_60 (lv_at hl 4 rfl) ?_
                  refine lv_iload_n hx hb dX12_returns_62 rfl (lv_at hl 3 rfl) ?_
                  refine lv_if_eq (tgt := 76) hx hb dX12_returns_63 (by decide) (fun c117 => absurd c117 (by decide)) (fun _ => ?_)
                  refine lv_aload_n hx hb dX12_returns_66 rfl (lv_at hl 0 rfl) ?_
                  refine lv_iload hx hb dX12_returns_67 (lv_at hl 4 rfl) ?_
                  refine lv_iload_n hx hb dX12_returns_69 rfl (lv_at hl 1 rfl) ?_
                  refine mcallV' (g := g) (q0 := 0) (ci := 10) (As := [.int x_78, .int x]) (rest := [.int x_78, .ref o]) St hK hT hA hP hD hS hl.1 [0] [] rfl rfl rfl (m_trustOf l g o a th hi ac tp ba en tA fl de iD iO tU fm_79 fk fa fc ft ff fb fi x_78 x (⟨i80.1, n99⟩) b_x) (cwV 2 hts (zgL (zl4 k868 k869 k870 k839) k835) rfl rfl rfl (by decide +kernel) ⟨Nat.le_of_ble_eq_true rfl, Nat.le_of_ble_eq_true rfl⟩) rfl rfl rfl rfl (Nat.le_of_ble_eq_true rfl) dX12_returns_70 ⟨(Nat.le_of_ble_eq_true rfl), (Nat.le_of_ble_eq_true rfl)⟩ (fun q_118 H locs hq119 hP hD hS => ?_)
                  have hP : va_P g.1 vwCl (List.flatten [bMo g o a th hi ac tp ba en tA fl de iD iO tU fm_79 fk fa fc ft ff fb fi]) H := hP
                  have hD : va_D A (List.flatten [bMo g o a th hi ac tp ba en tA fl de iD iO tU fm_79 fk fa fc ft ff fb fi]) := hD
                  refine W.widen (k := 0) (n := 0) (Nat.le_of_ble_eq_true rfl) (Nat.le_of_ble_eq_true rfl) ?_
                  refine W.eq (g2 := F0 m 73 ls [.int q_118, .int x_78, .ref o]) rfl ?_
                  refine lv_goto (tgt := 84) hx hb dX12_returns_73 (by decide) ?_
                  refine mcallV' (g := g) (q0 := 0) (ci := 10) (As := [.int x_78, .int q_118]) (rest := []) St hK hT hA hP hD hS hl.1 [0] [] rfl rfl rfl (m_believes l g o a th hi ac tp ba en tA fl de iD iO tU fm_79 fk fa fc ft ff fb fi x_78 q_118 rfm_79 (⟨i80.1, n99⟩)) (cwV 2 hts (zgL (zl4 k1012 k1013 k1014 k839) k1002) rfl rfl rfl (by decide +kernel) ⟨Nat.le_of_ble_eq_true rfl, Nat.le_of_ble_eq_true rfl⟩) rfl rfl rfl rfl (Nat.le_of_ble_eq_true rfl) dX12_returns_84 ⟨(Nat.le_of_ble_eq_true rfl), (Nat.le_of_ble_eq_true rfl)⟩ (fun fm2_120 H locs hq121 hP hD hS => ?_)
                  replace hq121 : ((fm2_120 0).toInt = (fm_79 0).toInt ∧ (fm2_120 3).toInt = (fm_79 3).toInt ∧ (fm2_120 4).toInt = (fm_79 4).toInt) ∧ (rM fm2_120) := hq121
                  have hP : va_P g.1 vwCl (List.flatten [bMo g o a th hi ac tp ba en tA fl de iD iO tU fm2_120 fk fa fc ft ff fb fi]) H := hP
                  have hD : va_D A (List.flatten [bMo g o a th hi ac tp ba en tA fl de iD iO tU fm2_120 fk fa fc ft ff fb fi]) := hD
                  refine W.widen (k := 0) (n := 0) (Nat.le_of_ble_eq_true rfl) (Nat.le_of_ble_eq_true rfl) ?_
                  refine W.eq (g2 := F0 m 87 ls []) rfl ?_
                  obtain ⟨hq121_0, rfm2_120⟩ := hq121
                  refine ziinc3 (n' := 1) (a' := 1) (b' := 8) (lv' := fun v9 => [(4, .int v9), (0, .ref o), (1, .int x), (2, .int dr), (3, .int 1)]) hx hb dX12_returns_87 hl (k := 4) rfl (by decide) (fun _ => rfl) (zaddK (i := x_78.toInt) (j := 1) rfl (by decide) i80.1 n99 (Int.le_refl _) (Int.le_refl _) (by decide)) (fun x_122 ls hx_122 hl => ?_)
                  refine lv_goto (tgt := 29) hx hb dX12_returns_90 (by decide) ?_
                  have hl := lv_sub (l' := [(0, .ref o), (1, .int x), (2, .int dr), (3, .int 1), (4, .int x_122)]) hl [1, 2, 3, 4, 0] rfl
                  have hP : va_P g.1 vwCl (List.flatten [bMo g o a th hi ac tp ba en tA fl de iD iO tU fm2_120 fk fa fc ft ff fb fi]) H := hP
                  have hD : va_D A (List.flatten [bMo g o a th hi ac tp ba en tA fl de iD iO tU fm2_120 fk fa fc ft ff fb fi]) := hD
                  exact ih29_83 x_122 fm2_120 ⟨(Int.le_trans (by decide) hx_122.2.1), hx_122.2.2⟩ rfm2_120 (by first | omega | assumption | decide) H _ ls (zmK hx_122.1 (by decide) n99 (by decide) hk29_83)  hP hD hS (lv_sub hl [0, 1, 2, 3, 4] rfl)
      have hL0 : (0 : Int32).toInt = 0 := by decide
      have hP : va_P g.1 vwCl (List.flatten [bMo g o a th hi ac tp ba en tA fl de iD iO tU fm2_26 fk fa fc ft ff fb fi]) H := hP
      have hD : va_D A (List.flatten [bMo g o a th hi ac tp ba en tA fl de iD iO tU fm2_26 fk fa fc ft ff fb fi]) := hD
      exact LP29_82 _ 0 fm2_26 (by decide) rfm2_26 hq28_0 H _ ls (Nat.lt_succ_self _)  hP hD hS (lv_sub hl [0, 1, 2, 3, 4] rfl)
set_option maxRecDepth 100000 in
set_option maxHeartbeats 4000000 in
theorem m_turnsBy (l : Launch) (g : zG) (o : Nat) (a : Nat → Nat) (th : Int32) (hi : Int32) (ac : Int32) (tp : Int32) (ba : Int32) (en : Int32) (tA : Int32) (fl : Int32) (de : Int32) (iD : Int32) (iO : Int32) (tU : Int32) (fm : Nat → Int32) (fk : Nat → Int32) (fa : Nat → Int32) (fc : Nat → Int32) (ft : Nat → Int32) (ff : Nat → Int32) (fb : Nat → Int32) (fi : Nat → Int32) (x : Int32) (rfm : rM fm) (hiD : 0 ≤ iD.toInt ∧ iD.toInt ≤ 1) (hiO : 0 ≤ iO.toInt ∧ iO.toInt ≤ 1) (b_x : 0 ≤ x.toInt ∧ x.toInt ≤ 7) : zM' g l yX12_turnsBy (Cond.code yX12_turnsBy cX12_turnsBy 4 (some .int) :: zB) ({ frames := 31, cells := 0, slots := 0, locals := 688 } : Room) [.ref o, .int x] [bMo g o a th hi ac tp ba en tA fl de iD iO tU fm fk fa fc ft ff fb fi] (fun u : Int32 × Int32 × Int32 × Int32 × Int32 × Int32 × Int32 × (Nat → Int32) × Int32 => (fun (ba2 : Int32) (en2 : Int32) (at2 : Int32) (de2 : Int32) (iD2 : Int32) (iO2 : Int32) (tU2 : Int32) (ff2 : Nat → Int32) (q : Int32) => some (.int q)) (u.1) (u.2.1) (u.2.2.1) (u.2.2.2.1) (u.2.2.2.2.1) (u.2.2.2.2.2.1) (u.2.2.2.2.2.2.1) (u.2.2.2.2.2.2.2.1) (u.2.2.2.2.2.2.2.2)) (fun u : Int32 × Int32 × Int32 × Int32 × Int32 × Int32 × Int32 × (Nat → Int32) × Int32 => (fun (ba2 : Int32) (en2 : Int32) (at2 : Int32) (de2 : Int32) (iD2 : Int32) (iO2 : Int32) (tU2 : Int32) (ff2 : Nat → Int32) (q : Int32) => (0 ≤ iO2.toInt ∧ iO2.toInt ≤ 1) ∧ (0 ≤ iD2.toInt ∧ iD2.toInt ≤ 1)) (u.1) (u.2.1) (u.2.2.1) (u.2.2.2.1) (u.2.2.2.2.1) (u.2.2.2.2.2.1) (u.2.2.2.2.2.2.1) (u.2.2.2.2.2.2.2.1) (u.2.2.2.2.2.2.2.2)) (fun u : Int32 × Int32 × Int32 × Int32 × Int32 × Int32 × Int32 × (Nat → Int32) × Int32 => (fun (ba2 : Int32) (en2 : Int32) (at2 : Int32) (de2 : Int32) (iD2 : Int32) (iO2 : Int32) (tU2 : Int32) (ff2 : Nat → Int32) (q : Int32) => [bMo g o a th hi ac tp ba2 en2 at2 fl de2 iD2 iO2 tU2 fm fk fa fc ft ff2 fb fi]) (u.1) (u.2.1) (u.2.2.1) (u.2.2.2.1) (u.2.2.2.2.1) (u.2.2.2.2.2.1) (u.2.2.2.2.2.2.1) (u.2.2.2.2.2.2.2.1) (u.2.2.2.2.2.2.2.2)) := by
  refine zM'.of (cc := cX12_turnsBy) (maxL := 4) (rt := (some .int)) (by decide) rfl (Nat.le_of_ble_eq_true rfl) ?_
  intro p e s m args below meth c A ls St hr hlocks hin hK hT hA hP hD hS hl
  obtain ⟨hx, hb, hml, hown, hts⟩ := id St
  have hl : lv_has ls 4 [(0, .ref o), (1, .int x)] := hl
  refine lv_aload_n hx hb dX12_turnsBy_0 rfl (lv_at hl 0 rfl) ?_
  refine va_get (D := g.1) (ci := 10) (v := .ref (a 0)) (C := RX12) (T := TX12) (N := 20) hx hb hts izRX12 hown hK hP 0 rfl rfl 1 (by decide) (hts _ k815) (fun _ h9 => h9) rfl dX12_turnsBy_1 ?_
  refine lv_iconst (v := 1) hx hb dX12_turnsBy_4 (by decide) ?_
  refine va_iald hx hb hK hP 1 0 rfl rfl (zin rfl) dX12_turnsBy_5 ?_
  refine zg (fun x_1 => ?_)
  refine lv_iconst (v := (-1)) hx hb dX12_turnsBy_6 (by decide) ?_
  refine lv_icmp_ne (tgt := 26) hx hb dX12_turnsBy_7 (by decide) (fun cb9 => ?_) (fun cb9 => ?_)
  · skip
    have c2 : ¬ x_1.toInt = (-1) := zne cb9 rfl (by decide)
    refine lv_aload_n hx hb dX12_turnsBy_26 rfl (lv_at hl 0 rfl) ?_
    refine va_get (D := g.1) (ci := 10) (v := .ref (a 5)) (C := RX12) (T := TX12) (N := 20) hx hb hts izRX12 hown hK hP 0 rfl rfl 14 (by decide) (hts _ k821) (fun _ h9 => h9) rfl dX12_turnsBy_27 ?_
    refine lv_iconst (v := 0) hx hb dX12_turnsBy_30 (by decide) ?_
    refine lv_iload_n hx hb dX12_turnsBy_31 rfl (lv_at hl 1 rfl) ?_
    refine va_iast hx hb hK hP hD hS 6 0 rfl rfl (zin rfl) dX12_turnsBy_32 (fun H locs hP hD hS => ?_)
    obtain ⟨ff_3, hP, hD⟩ : ∃ ff_3 : Nat → Int32, va_P g.1 vwCl (List.flatten [bMo g o a th hi ac tp ba en tA fl de iD iO tU fm fk fa fc ft ff_3 fb fi]) H ∧ va_D A (List.flatten [bMo g o a th hi ac tp ba en tA fl de iD iO tU fm fk fa fc ft ff_3 fb fi]) := ⟨upd ff 0 x, hP, hD⟩
    refine lv_aload_n hx hb dX12_turnsBy_33 rfl (lv_at hl 0 rfl) ?_
    refine va_get (D := g.1) (ci := 10) (v := .ref (a 5)) (C := RX12) (T := TX12) (N := 20) hx hb hts izRX12 hown hK hP 0 rfl rfl 14 (by decide) (hts _ k821) (fun _ h9 => h9) rfl dX12_turnsBy_34 ?_
    refine lv_iconst (v := 1) hx hb dX12_turnsBy_37 (by decide) ?_
    refine lv_aload_n hx hb dX12_turnsBy_38 rfl (lv_at hl 0 rfl) ?_
    refine lv_iload_n hx hb dX12_turnsBy_39 rfl (lv_at hl 1 rfl) ?_
    refine lv_iconst (v := 0) hx hb dX12_turnsBy_40 (by decide) ?_
    have hL0 : (0 : Int32).toInt = 0 := by decide
    refine mcallV' (g := g) (q0 := 0) (ci := 10) (As := [.int x, .int 0]) (rest := [.int 1, .ref (a 5)]) St hK hT hA hP hD hS hl.1 [0] [] rfl rfl rfl (m_of l g o a th hi ac tp ba en tA fl de iD iO tU fm fk fa fc ft ff_3 fb fi x 0 b_x (by decide)) (cwV 2 hts (zgL (zl4 k842 k843 k844 k839) k831) rfl rfl rfl (by decide +kernel) ⟨Nat.le_of_ble_eq_true rfl, Nat.le_of_ble_eq_true rfl⟩) rfl rfl rfl rfl (Nat.le_of_ble_eq_true rfl) dX12_turnsBy_41 ⟨(Nat.le_of_ble_eq_true rfl), (Nat.le_of_ble_eq_true rfl)⟩ (fun q_4 H locs hq5 hP hD hS => ?_)
    have hP : va_P g.1 vwCl (List.flatten [bMo g o a th hi ac tp ba en tA fl de iD iO tU fm fk fa fc ft ff_3 fb fi]) H := hP
    have hD : va_D A (List.flatten [bMo g o a th hi ac tp ba en tA fl de iD iO tU fm fk fa fc ft ff_3 fb fi]) := hD
    refine W.widen (k := 0) (n := 0) (Nat.le_of_ble_eq_true rfl) (Nat.le_of_ble_eq_true rfl) ?_
    refine W.eq (g2 := F0 m 44 ls [.int q_4, .int 1, .ref (a 5)]) rfl ?_
    refine va_iast hx hb hK hP hD hS 6 0 rfl rfl (zin rfl) dX12_turnsBy_44 (fun H locs hP hD hS => ?_)
    obtain ⟨ff_6, hP, hD⟩ : ∃ ff_6 : Nat → Int32, va_P g.1 vwCl (List.flatten [bMo g o a th hi ac tp ba en tA fl de iD iO tU fm fk fa fc ft ff_6 fb fi]) H ∧ va_D A (List.flatten [bMo g o a th hi ac tp ba en tA fl de iD iO tU fm fk fa fc ft ff_6 fb fi]) := ⟨upd ff_3 1 q_4, hP, hD⟩
    refine lv_aload_n hx hb dX12_turnsBy_45 rfl (lv_at hl 0 rfl) ?_
    refine va_get (D := g.1) (ci := 10) (v := .ref (a 5)) (C := RX12) (T := TX12) (N := 20) hx hb hts izRX12 hown hK hP 0 rfl rfl 14 (by decide) (hts _ k821) (fun _ h9 => h9) rfl dX12_turnsBy_46 ?_
    refine lv_iconst (v := 2) hx hb dX12_turnsBy_49 (by decide) ?_
    refine lv_aload_n hx hb dX12_turnsBy_50 rfl (lv_at hl 0 rfl) ?_
    refine mcallV' (g := g) (q0 := 0) (ci := 10) (As := []) (rest := [.int 2, .ref (a 5)]) St hK hT hA hP hD hS hl.1 [0] [] rfl rfl rfl (m_mean l g o a th hi ac tp ba en tA fl de iD iO tU fm fk fa fc ft ff_6 fb fi rfm) (cwV 0 hts (zgL (zl4 k859 k860 k861 k839) k850) rfl rfl rfl (by decide +kernel) ⟨Nat.le_of_ble_eq_true rfl, Nat.le_of_ble_eq_true rfl⟩) rfl rfl rfl rfl (Nat.le_of_ble_eq_true rfl) dX12_turnsBy_51 ⟨(Nat.le_of_ble_eq_true rfl), (Nat.le_of_ble_eq_true rfl)⟩ (fun q_7 H locs hq8 hP hD hS => ?_)
    have hP : va_P g.1 vwCl (List.flatten [bMo g o a th hi ac tp ba en tA fl de iD iO tU fm fk fa fc ft ff_6 fb fi]) H := hP
    have hD : va_D A (List.flatten [bMo g o a th hi ac tp ba en tA fl de iD iO tU fm fk fa fc ft ff_6 fb fi]) := hD
    refine W.widen (k := 0) (n := 0) (Nat.le_of_ble_eq_true rfl) (Nat.le_of_ble_eq_true rfl) ?_
    refine W.eq (g2 := F0 m 54 ls [.int q_7, .int 2, .ref (a 5)]) rfl ?_
    refine va_iast hx hb hK hP hD hS 6 0 rfl rfl (zin rfl) dX12_turnsBy_54 (fun H locs hP hD hS => ?_)
    obtain ⟨ff_9, hP, hD⟩ : ∃ ff_9 : Nat → Int32, va_P g.1 vwCl (List.flatten [bMo g o a th hi ac tp ba en tA fl de iD iO tU fm fk fa fc ft ff_9 fb fi]) H ∧ va_D A (List.flatten [bMo g o a th hi ac tp ba en tA fl de iD iO tU fm fk fa fc ft ff_9 fb fi]) := ⟨upd ff_6 2 q_7, hP, hD⟩
    refine lv_aload_n hx hb dX12_turnsBy_55 rfl (lv_at hl 0 rfl) ?_
    refine va_get (D := g.1) (ci := 10) (v := .ref (a 5)) (C := RX12) (T := TX12) (N := 20) hx hb hts izRX12 hown hK hP 0 rfl rfl 14 (by decide) (hts _ k821) (fun _ h9 => h9) rfl dX12_turnsBy_56 ?_
    refine lv_iconst (v := 3) hx hb dX12_turnsBy_59 (by decide) ?_
    refine lv_aload_n hx hb dX12_turnsBy_60 rfl (lv_at hl 0 rfl) ?_
    refine lv_iconst (v := 1) hx hb dX12_turnsBy_61 (by decide) ?_
    refine mcallV' (g := g) (q0 := 0) (ci := 10) (As := [.int 1]) (rest := [.int 3, .ref (a 5)]) St hK hT hA hP hD hS hl.1 [0] [] rfl rfl rfl (m_worksOf l g o a th hi ac tp ba en tA fl de iD iO tU fm fk fa fc ft ff_9 fb fi 1 rfm) (cwV 1 hts (zgL (zl4 k990 k991 k992 k839) k863) rfl rfl rfl (by decide +kernel) ⟨Nat.le_of_ble_eq_true rfl, Nat.le_of_ble_eq_true rfl⟩) rfl rfl rfl rfl (Nat.le_of_ble_eq_true rfl) dX12_turnsBy_62 ⟨(Nat.le_of_ble_eq_true rfl), (Nat.le_of_ble_eq_true rfl)⟩ (fun q_10 H locs hq11 hP hD hS => ?_)
    have hP : va_P g.1 vwCl (List.flatten [bMo g o a th hi ac tp ba en tA fl de iD iO tU fm fk fa fc ft ff_9 fb fi]) H := hP
    have hD : va_D A (List.flatten [bMo g o a th hi ac tp ba en tA fl de iD iO tU fm fk fa fc ft ff_9 fb fi]) := hD
    refine W.widen (k := 0) (n := 0) (Nat.le_of_ble_eq_true rfl) (Nat.le_of_ble_eq_true rfl) ?_
    refine W.eq (g2 := F0 m 65 ls [.int q_10, .int 3, .ref (a 5)]) rfl ?_
    refine mcallS' (g := g) (As := [.int q_10]) (rest := [.int 3, .ref (a 5)]) St hK hT hA hP hD hS hl.1 [] [0] rfl rfl rfl (m_bits l g q_10 ) (va_cwS 1 hts (zgL (zl3 k854 k855 k839) k830) rfl rfl rfl (by decide +kernel) ⟨Nat.le_of_ble_eq_true rfl, Nat.le_of_ble_eq_true rfl⟩) rfl rfl (Nat.le_of_ble_eq_true rfl) dX12_turnsBy_65 ⟨(Nat.le_of_ble_eq_true rfl), (Nat.le_of_ble_eq_true rfl)⟩ (fun q_12 H locs hq13 hP hD hS => ?_)
    have hP : va_P g.1 vwCl (List.flatten [bMo g o a th hi ac tp ba en tA fl de iD iO tU fm fk fa fc ft ff_9 fb fi]) H := hP
    have hD : va_D A (List.flatten [bMo g o a th hi ac tp ba en tA fl de iD iO tU fm fk fa fc ft ff_9 fb fi]) := hD
    refine W.widen (k := 0) (n := 0) (Nat.le_of_ble_eq_true rfl) (Nat.le_of_ble_eq_true rfl) ?_
    refine W.eq (g2 := F0 m 68 ls [.int q_12, .int 3, .ref (a 5)]) rfl ?_
    refine va_iast hx hb hK hP hD hS 6 0 rfl rfl (zin rfl) dX12_turnsBy_68 (fun H locs hP hD hS => ?_)
    obtain ⟨ff_14, hP, hD⟩ : ∃ ff_14 : Nat → Int32, va_P g.1 vwCl (List.flatten [bMo g o a th hi ac tp ba en tA fl de iD iO tU fm fk fa fc ft ff_14 fb fi]) H ∧ va_D A (List.flatten [bMo g o a th hi ac tp ba en tA fl de iD iO tU fm fk fa fc ft ff_14 fb fi]) := ⟨upd ff_9 3 q_12, hP, hD⟩
    refine lv_aload_n hx hb dX12_turnsBy_69 rfl (lv_at hl 0 rfl) ?_
    refine va_get (D := g.1) (ci := 10) (v := .ref (a 5)) (C := RX12) (T := TX12) (N := 20) hx hb hts izRX12 hown hK hP 0 rfl rfl 14 (by decide) (hts _ k821) (fun _ h9 => h9) rfl dX12_turnsBy_70 ?_
    refine lv_iconst (v := 4) hx hb dX12_turnsBy_73 (by decide) ?_
    refine lv_aload_n hx hb dX12_turnsBy_74 rfl (lv_at hl 0 rfl) ?_
    refine lv_iload_n hx hb dX12_turnsBy_75 rfl (lv_at hl 1 rfl) ?_
    refine mcallV' (g := g) (q0 := 0) (ci := 10) (As := [.int x]) (rest := [.int 4, .ref (a 5)]) St hK hT hA hP hD hS hl.1 [0] [] rfl rfl rfl (m_ties l g o a th hi ac tp ba en tA fl de iD iO tU fm fk fa fc ft ff_14 fb fi x rfm b_x) (cwV 1 hts (zgL (zl4 k993 k994 k995 k839) k867) rfl rfl rfl (by decide +kernel) ⟨Nat.le_of_ble_eq_true rfl, Nat.le_of_ble_eq_true rfl⟩) rfl rfl rfl rfl (Nat.le_of_ble_eq_true rfl) dX12_turnsBy_76 ⟨(Nat.le_of_ble_eq_true rfl), (Nat.le_of_ble_eq_true rfl)⟩ (fun q_15 H locs hq16 hP hD hS => ?_)
    have hP : va_P g.1 vwCl (List.flatten [bMo g o a th hi ac tp ba en tA fl de iD iO tU fm fk fa fc ft ff_14 fb fi]) H := hP
    have hD : va_D A (List.flatten [bMo g o a th hi ac tp ba en tA fl de iD iO tU fm fk fa fc ft ff_14 fb fi]) := hD
    refine W.widen (k := 0) (n := 0) (Nat.le_of_ble_eq_true rfl) (Nat.le_of_ble_eq_true rfl) ?_
    refine W.eq (g2 := F0 m 79 ls [.int q_15, .int 4, .ref (a 5)]) rfl ?_
    refine va_iast hx hb hK hP hD hS 6 0 rfl rfl (zin rfl) dX12_turnsBy_79 (fun H locs hP hD hS => ?_)
    obtain ⟨ff_17, hP, hD⟩ : ∃ ff_17 : Nat → Int32, va_P g.1 vwCl (List.flatten [bMo g o a th hi ac tp ba en tA fl de iD iO tU fm fk fa fc ft ff_17 fb fi]) H ∧ va_D A (List.flatten [bMo g o a th hi ac tp ba en tA fl de iD iO tU fm fk fa fc ft ff_17 fb fi]) := ⟨upd ff_14 4 q_15, hP, hD⟩
    refine lv_aload_n hx hb dX12_turnsBy_80 rfl (lv_at hl 0 rfl) ?_
    refine va_get (D := g.1) (ci := 10) (v := .ref (a 5)) (C := RX12) (T := TX12) (N := 20) hx hb hts izRX12 hown hK hP 0 rfl rfl 14 (by decide) (hts _ k821) (fun _ h9 => h9) rfl dX12_turnsBy_81 ?_
    refine lv_iconst (v := 5) hx hb dX12_turnsBy_84 (by decide) ?_
    refine lv_aload_n hx hb dX12_turnsBy_85 rfl (lv_at hl 0 rfl) ?_
    refine va_get (D := g.1) (ci := 10) (v := .ref (a 0)) (C := RX12) (T := TX12) (N := 20) hx hb hts izRX12 hown hK hP 0 rfl rfl 1 (by decide) (hts _ k815) (fun _ h9 => h9) rfl dX12_turnsBy_86 ?_
    refine lv_bipush (v := 8) hx hb dX12_turnsBy_89 (by decide) ?_
    refine va_iald hx hb hK hP 1 0 rfl rfl (zin rfl) dX12_turnsBy_91 ?_
    refine zg (fun x_18 => ?_)
    refine va_iast hx hb hK hP hD hS 6 0 rfl rfl (zin rfl) dX12_turnsBy_92 (fun H locs hP hD hS => ?_)
    obtain ⟨ff_19, hP, hD⟩ : ∃ ff_19 : Nat → Int32, va_P g.1 vwCl (List.flatten [bMo g o a th hi ac tp ba en tA fl de iD iO tU fm fk fa fc ft ff_19 fb fi]) H ∧ va_D A (List.flatten [bMo g o a th hi ac tp ba en tA fl de iD iO tU fm fk fa fc ft ff_19 fb fi]) := ⟨upd ff_17 5 x_18, hP, hD⟩
    refine lv_aload_n hx hb dX12_turnsBy_93 rfl (lv_at hl 0 rfl) ?_
    refine lv_aload_n hx hb dX12_turnsBy_94 rfl (lv_at hl 0 rfl) ?_
    refine lv_iload_n hx hb dX12_turnsBy_95 rfl (lv_at hl 1 rfl) ?_
    refine lv_iconst (v := 3) hx hb dX12_turnsBy_96 (by decide) ?_
    have hL3 : (3 : Int32).toInt = 3 := by decide
    refine mcallV' (g := g) (q0 := 0) (ci := 10) (As := [.int x, .int 3]) (rest := [.ref o]) St hK hT hA hP hD hS hl.1 [0] [] rfl rfl rfl (m_of l g o a th hi ac tp ba en tA fl de iD iO tU fm fk fa fc ft ff_19 fb fi x 3 b_x (by decide)) (cwV 2 hts (zgL (zl4 k842 k843 k844 k839) k831) rfl rfl rfl (by decide +kernel) ⟨Nat.le_of_ble_eq_true rfl, Nat.le_of_ble_eq_true rfl⟩) rfl rfl rfl rfl (Nat.le_of_ble_eq_true rfl) dX12_turnsBy_97 ⟨(Nat.le_of_ble_eq_true rfl), (Nat.le_of_ble_eq_true rfl)⟩ (fun q_20 H locs hq21 hP hD hS => ?_)
    have hP : va_P g.1 vwCl (List.flatten [bMo g o a th hi ac tp ba en tA fl de iD iO tU fm fk fa fc ft ff_19 fb fi]) H := hP
    have hD : va_D A (List.flatten [bMo g o a th hi ac tp ba en tA fl de iD iO tU fm fk fa fc ft ff_19 fb fi]) := hD
    refine W.widen (k := 0) (n := 0) (Nat.le_of_ble_eq_true rfl) (Nat.le_of_ble_eq_true rfl) ?_
    refine W.eq (g2 := F0 m 100 ls [.int q_20, .ref o]) rfl ?_
    refine lv_iconst (v := 1) hx hb dX12_turnsBy_100 (by decide) ?_
    refine lv_icmp_ne (tgt := 108) hx hb dX12_turnsBy_101 (by decide) (fun cb9 => ?_) (fun cb9 => ?_)
    · skip
      have c22 : ¬ q_20.toInt = 1 := zne cb9 rfl (by decide)
      refine lv_iconst (v := 0) hx hb dX12_turnsBy_108 (by decide) ?_
      refine va_put (D := g.1) (ci := 10) (v := .int 0) (ty := .boolean) (C := RX12) (T := TX12) (N := 20) hx hb hts izRX12 tyX12 tyX12_ok nmX12 hown hK hP hD hS 0 rfl rfl 15 (by decide) (hts _ k942) (fun _ h9 => h9) rfl (by decide +kernel) rfl rfl (Nat.le_of_ble_eq_true rfl) dX12_turnsBy_109 (fun H locs hP hD hS => ?_)
      have hP : va_P g.1 vwCl (List.flatten [bMo g o a th hi ac tp ba en tA fl de 0 iO tU fm fk fa fc ft ff_19 fb fi]) H := hP
      have hD : va_D A (List.flatten [bMo g o a th hi ac tp ba en tA fl de 0 iO tU fm fk fa fc ft ff_19 fb fi]) := hD
      refine lv_aload_n hx hb dX12_turnsBy_112 rfl (lv_at hl 0 rfl) ?_
      refine lv_aload_n hx hb dX12_turnsBy_113 rfl (lv_at hl 0 rfl) ?_
      refine lv_iload_n hx hb dX12_turnsBy_114 rfl (lv_at hl 1 rfl) ?_
      refine lv_iconst (v := 2) hx hb dX12_turnsBy_115 (by decide) ?_
      have hL2 : (2 : Int32).toInt = 2 := by decide
      refine mcallV' (g := g) (q0 := 0) (ci := 10) (As := [.int x, .int 2]) (rest := [.ref o]) St hK hT hA hP hD hS hl.1 [0] [] rfl rfl rfl (m_of l g o a th hi ac tp ba en tA fl de 0 iO tU fm fk fa fc ft ff_19 fb fi x 2 b_x (by decide)) (cwV 2 hts (zgL (zl4 k842 k843 k844 k839) k831) rfl rfl rfl (by decide +kernel) ⟨Nat.le_of_ble_eq_true rfl, Nat.le_of_ble_eq_true rfl⟩) rfl rfl rfl rfl (Nat.le_of_ble_eq_true rfl) dX12_turnsBy_116 ⟨(Nat.le_of_ble_eq_true rfl), (Nat.le_of_ble_eq_true rfl)⟩ (fun q_23 H locs hq24 hP hD hS => ?_)
      have hP : va_P g.1 vwCl (List.flatten [bMo g o a th hi ac tp ba en tA fl de 0 iO tU fm fk fa fc ft ff_19 fb fi]) H := hP
      have hD : va_D A (List.flatten [bMo g o a th hi ac tp ba en tA fl de 0 iO tU fm fk fa fc ft ff_19 fb fi]) := hD
      refine W.widen (k := 0) (n := 0) (Nat.le_of_ble_eq_true rfl) (Nat.le_of_ble_eq_true rfl) ?_
      refine W.eq (g2 := F0 m 119 ls [.int q_23, .ref o]) rfl ?_
      refine lv_if_le (tgt := 126) hx hb dX12_turnsBy_119 (by decide) (fun cb9 => ?_) (fun cb9 => ?_)
      · skip
        have c25 : q_23.toInt ≤ 0 := zle cb9 rfl (by decide)
        have n26 : q_23.toInt ≤ 0 := Int.le_trans c25 (Int.le_refl _)
        refine lv_iconst (v := 0) hx hb dX12_turnsBy_126 (by decide) ?_
        refine va_put (D := g.1) (ci := 10) (v := .int 0) (ty := .boolean) (C := RX12) (T := TX12) (N := 20) hx hb hts izRX12 tyX12 tyX12_ok nmX12 hown hK hP hD hS 0 rfl rfl 16 (by decide) (hts _ k943) (fun _ h9 => h9) rfl (by decide +kernel) rfl rfl (Nat.le_of_ble_eq_true rfl) dX12_turnsBy_127 (fun H locs hP hD hS => ?_)
        have hP : va_P g.1 vwCl (List.flatten [bMo g o a th hi ac tp ba en tA fl de 0 0 tU fm fk fa fc ft ff_19 fb fi]) H := hP
        have hD : va_D A (List.flatten [bMo g o a th hi ac tp ba en tA fl de 0 0 tU fm fk fa fc ft ff_19 fb fi]) := hD
        refine lv_aload_n hx hb dX12_turnsBy_130 rfl (lv_at hl 0 rfl) ?_
        refine lv_iconst (v := 0) hx hb dX12_turnsBy_131 (by decide) ?_
        refine va_put (D := g.1) (ci := 10) (v := .int 0) (ty := .int) (C := RX12) (T := TX12) (N := 20) hx hb hts izRX12 tyX12 tyX12_ok nmX12 hown hK hP hD hS 0 rfl rfl 17 (by decide) (hts _ k963) (fun _ h9 => h9) rfl (by decide +kernel) rfl rfl (Nat.le_of_ble_eq_true rfl) dX12_turnsBy_132 (fun H locs hP hD hS => ?_)
        have hP : va_P g.1 vwCl (List.flatten [bMo g o a th hi ac tp ba en tA fl de 0 0 0 fm fk fa fc ft ff_19 fb fi]) H := hP
        have hD : va_D A (List.flatten [bMo g o a th hi ac tp ba en tA fl de 0 0 0 fm fk fa fc ft ff_19 fb fi]) := hD
        refine lv_aload_n hx hb dX12_turnsBy_135 rfl (lv_at hl 0 rfl) ?_
        refine va_get (D := g.1) (ci := 10) (v := .int fl) (C := RX12) (T := TX12) (N := 20) hx hb hts izRX12 hown hK hP 0 rfl rfl 12 (by decide) (hts _ k820) (fun _ h9 => h9) rfl dX12_turnsBy_136 ?_
        refine lv_istore_n (lv' := [(2, .int fl), (0, .ref o), (1, .int x)]) hx hb dX12_turnsBy_139 rfl hl (by decide) rfl (fun ls hl => ?_)
        refine lv_aload_n hx hb dX12_turnsBy_140 rfl (lv_at hl 1 rfl) ?_
        refine lv_iconst (v := (-1)) hx hb dX12_turnsBy_141 (by decide) ?_
        refine va_put (D := g.1) (ci := 10) (v := .int (-1)) (ty := .int) (C := RX12) (T := TX12) (N := 20) hx hb hts izRX12 tyX12 tyX12_ok nmX12 hown hK hP hD hS 0 rfl rfl 12 (by decide) (hts _ k820) (fun _ h9 => h9) rfl (by decide +kernel) rfl rfl (Nat.le_of_ble_eq_true rfl) dX12_turnsBy_142 (fun H locs hP hD hS => ?_)
        have hP : va_P g.1 vwCl (List.flatten [bMo g o a th hi ac tp ba en tA (-1) de 0 0 0 fm fk fa fc ft ff_19 fb fi]) H := hP
        have hD : va_D A (List.flatten [bMo g o a th hi ac tp ba en tA (-1) de 0 0 0 fm fk fa fc ft ff_19 fb fi]) := hD
        refine lv_aload_n hx hb dX12_turnsBy_145 rfl (lv_at hl 1 rfl) ?_
        refine lv_sipush (v := 379) hx hb dX12_turnsBy_146 (by decide) ?_
        refine va_put (D := g.1) (ci := 10) (v := .int 379) (ty := .int) (C := RX12) (T := TX12) (N := 20) hx hb hts izRX12 tyX12 tyX12_ok nmX12 hown hK hP hD hS 0 rfl rfl 9 (by decide) (hts _ k876) (fun _ h9 => h9) rfl (by decide +kernel) rfl rfl (Nat.le_of_ble_eq_true rfl) dX12_turnsBy_149 (fun H locs hP hD hS => ?_)
        have hP : va_P g.1 vwCl (List.flatten [bMo g o a th hi ac tp 379 en tA (-1) de 0 0 0 fm fk fa fc ft ff_19 fb fi]) H := hP
        have hD : va_D A (List.flatten [bMo g o a th hi ac tp 379 en tA (-1) de 0 0 0 fm fk fa fc ft ff_19 fb fi]) := hD
        refine lv_aload_n hx hb dX12_turnsBy_152 rfl (lv_at hl 1 rfl) ?_
        refine lv_aload_n hx hb dX12_turnsBy_153 rfl (lv_at hl 1 rfl) ?_
        refine va_get (D := g.1) (ci := 10) (v := .ref (a 0)) (C := RX12) (T := TX12) (N := 20) hx hb hts izRX12 hown hK hP 0 rfl rfl 1 (by decide) (hts _ k815) (fun _ h9 => h9) rfl dX12_turnsBy_154 ?_
        refine lv_iconst (v := 2) hx hb dX12_turnsBy_157 (by decide) ?_
        refine va_iald hx hb hK hP 1 0 rfl rfl (zin rfl) dX12_turnsBy_158 ?_
        refine zgq (r := fm 2) rfl (rM2 rfm) (fun x_27 hx_27 => ?_)
        refine va_put (D := g.1) (ci := 10) (v := .int x_27) (ty := .int) (C := RX12) (T := TX12) (N := 20) hx hb hts izRX12 tyX12 tyX12_ok nmX12 hown hK hP hD hS 0 rfl rfl 10 (by decide) (hts _ k879) (fun _ h9 => h9) rfl (by decide +kernel) rfl rfl (Nat.le_of_ble_eq_true rfl) dX12_turnsBy_159 (fun H locs hP hD hS => ?_)
        have hP : va_P g.1 vwCl (List.flatten [bMo g o a th hi ac tp 379 x_27 tA (-1) de 0 0 0 fm fk fa fc ft ff_19 fb fi]) H := hP
        have hD : va_D A (List.flatten [bMo g o a th hi ac tp 379 x_27 tA (-1) de 0 0 0 fm fk fa fc ft ff_19 fb fi]) := hD
        refine lv_aload_n hx hb dX12_turnsBy_162 rfl (lv_at hl 1 rfl) ?_
        refine lv_iconst (v := 0) hx hb dX12_turnsBy_163 (by decide) ?_
        refine va_put (D := g.1) (ci := 10) (v := .int 0) (ty := .int) (C := RX12) (T := TX12) (N := 20) hx hb hts izRX12 tyX12 tyX12_ok nmX12 hown hK hP hD hS 0 rfl rfl 11 (by decide) (hts _ k878) (fun _ h9 => h9) rfl (by decide +kernel) rfl rfl (Nat.le_of_ble_eq_true rfl) dX12_turnsBy_164 (fun H locs hP hD hS => ?_)
        have hP : va_P g.1 vwCl (List.flatten [bMo g o a th hi ac tp 379 x_27 0 (-1) de 0 0 0 fm fk fa fc ft ff_19 fb fi]) H := hP
        have hD : va_D A (List.flatten [bMo g o a th hi ac tp 379 x_27 0 (-1) de 0 0 0 fm fk fa fc ft ff_19 fb fi]) := hD
        refine lv_aload_n hx hb dX12_turnsBy_167 rfl (lv_at hl 1 rfl) ?_
        refine lv_iconst (v := 0) hx hb dX12_turnsBy_168 (by decide) ?_
        refine va_put (D := g.1) (ci := 10) (v := .int 0) (ty := .int) (C := RX12) (T := TX12) (N := 20) hx hb hts izRX12 tyX12 tyX12_ok nmX12 hown hK hP hD hS 0 rfl rfl 13 (by decide) (hts _ k933) (fun _ h9 => h9) rfl (by decide +kernel) rfl rfl (Nat.le_of_ble_eq_true rfl) dX12_turnsBy_169 (fun H locs hP hD hS => ?_)
        have hP : va_P g.1 vwCl (List.flatten [bMo g o a th hi ac tp 379 x_27 0 (-1) 0 0 0 0 fm fk fa fc ft ff_19 fb fi]) H := hP
        have hD : va_D A (List.flatten [bMo g o a th hi ac tp 379 x_27 0 (-1) 0 0 0 0 fm fk fa fc ft ff_19 fb fi]) := hD
        refine lv_aload_n hx hb dX12_turnsBy_172 rfl (lv_at hl 1 rfl) ?_
        refine lv_iconst (v := 1) hx hb dX12_turnsBy_173 (by decide) ?_
        have hL379 : (379 : Int32).toInt = 379 := by decide
        refine mcallV' (g := g) (q0 := 0) (ci := 10) (As := [.int 1]) (rest := []) St hK hT hA hP hD hS hl.1 [0] [] rfl rfl rfl (m_readT l g o a th hi ac tp 379 x_27 0 (-1) 0 0 0 fm fk fa fc ft ff_19 fb fi (by decide) (by decide) (by first | assumption | omega | decide | exact Or.inl (by decide) | exact Or.inr (by decide)) (⟨hx_27.1, hx_27.2.1⟩) (by first | assumption | omega | decide | exact Or.inl (by decide) | exact Or.inr (by decide)) (by first | assumption | omega | decide | exact Or.inl (by decide) | exact Or.inr (by decide)) (by first | assumption | omega | decide | exact Or.inl (by decide) | exact Or.inr (by decide))) (cwV 1 hts (zgL (zl4 k981 k982 k983 k839) k971) rfl rfl rfl (by decide +kernel) ⟨Nat.le_of_ble_eq_true rfl, Nat.le_of_ble_eq_true rfl⟩) rfl rfl rfl rfl (Nat.le_of_ble_eq_true rfl) dX12_turnsBy_174 ⟨(Nat.le_of_ble_eq_true rfl), (Nat.le_of_ble_eq_true rfl)⟩ (fun u_ H locs hq32 hP hD hS => ?_)
        obtain ⟨at2_28, fl2_29, tU2_30, q_31⟩ := u_
        replace hq32 : (0 ≤ at2_28.toInt ∧ at2_28.toInt ≤ x_27.toInt + 7 - 0) ∧ ((0 : Int32).toInt ≤ at2_28.toInt) ∧ (-1 ≤ fl2_29.toInt) := hq32
        have hP : va_P g.1 vwCl (List.flatten [bMo g o a th hi ac tp 379 x_27 at2_28 fl2_29 0 0 0 tU2_30 fm fk fa fc ft ff_19 fb fi]) H := hP
        have hD : va_D A (List.flatten [bMo g o a th hi ac tp 379 x_27 at2_28 fl2_29 0 0 0 tU2_30 fm fk fa fc ft ff_19 fb fi]) := hD
        refine W.widen (k := 0) (n := 0) (Nat.le_of_ble_eq_true rfl) (Nat.le_of_ble_eq_true rfl) ?_
        refine W.eq (g2 := F0 m 177 ls [.int q_31]) rfl ?_
        obtain ⟨hq32_0, hq32_1, hq32_2⟩ := hq32
        refine lv_istore_n (lv' := [(3, .int q_31), (2, .int fl), (0, .ref o), (1, .int x)]) hx hb dX12_turnsBy_177 rfl hl (by decide) rfl (fun ls hl => ?_)
        refine lv_aload_n hx hb dX12_turnsBy_178 rfl (lv_at hl 2 rfl) ?_
        refine lv_iload_n hx hb dX12_turnsBy_179 rfl (lv_at hl 1 rfl) ?_
        refine va_put (D := g.1) (ci := 10) (v := .int fl) (ty := .int) (C := RX12) (T := TX12) (N := 20) hx hb hts izRX12 tyX12 tyX12_ok nmX12 hown hK hP hD hS 0 rfl rfl 12 (by decide) (hts _ k820) (fun _ h9 => h9) rfl (by decide +kernel) rfl rfl (Nat.le_of_ble_eq_true rfl) dX12_turnsBy_180 (fun H locs hP hD hS => ?_)
        have hP : va_P g.1 vwCl (List.flatten [bMo g o a th hi ac tp 379 x_27 at2_28 fl 0 0 0 tU2_30 fm fk fa fc ft ff_19 fb fi]) H := hP
        have hD : va_D A (List.flatten [bMo g o a th hi ac tp 379 x_27 at2_28 fl 0 0 0 tU2_30 fm fk fa fc ft ff_19 fb fi]) := hD
        refine lv_aload_n hx hb dX12_turnsBy_183 rfl (lv_at hl 2 rfl) ?_
        refine va_get (D := g.1) (ci := 10) (v := .int tU2_30) (C := RX12) (T := TX12) (N := 20) hx hb hts izRX12 hown hK hP 0 rfl rfl 17 (by decide) (hts _ k963) (fun _ h9 => h9) rfl dX12_turnsBy_184 ?_
        have hP : va_P g.1 vwCl (List.flatten [bMo g o a th hi ac tp 379 x_27 at2_28 fl 0 0 0 tU2_30 fm fk fa fc ft ff_19 fb fi]) H := hP
        have hD : va_D A (List.flatten [bMo g o a th hi ac tp 379 x_27 at2_28 fl 0 0 0 tU2_30 fm fk fa fc ft ff_19 fb fi]) := hD
        exact mret_i hx hb hr hlocks hS (Nat.le_of_ble_eq_true rfl) (Nat.le_of_ble_eq_true rfl) dX12_turnsBy_187 ((379 : Int32), x_27, at2_28, (0 : Int32), (0 : Int32), (0 : Int32), tU2_30, ff_19, tU2_30) rfl (show (0 ≤ (0 : Int32).toInt ∧ (0 : Int32).toInt ≤ 1) ∧ (0 ≤ (0 : Int32).toInt ∧ (0 : Int32).toInt ≤ 1) from ⟨(by first | assumption | omega | decide | exact rfl | exact zb01 (by omega) | exact Or.inl (by decide) | exact Or.inr (by first | omega | decide)), (by first | assumption | omega | decide | exact rfl | exact zb01 (by omega) | exact Or.inl (by decide) | exact Or.inr (by first | omega | decide))⟩) hP hD
      · skip
        have c33 : 0 < q_23.toInt := zlti (Int32.not_le.mp cb9) (by decide) rfl
        have n34 : 1 ≤ q_23.toInt := zL2 (a := 0) c33 (Int.le_refl _) (by decide)
        refine lv_iconst (v := 1) hx hb dX12_turnsBy_122 (by decide) ?_
        refine lv_goto (tgt := 127) hx hb dX12_turnsBy_123 (by decide) ?_
        refine va_put (D := g.1) (ci := 10) (v := .int 1) (ty := .boolean) (C := RX12) (T := TX12) (N := 20) hx hb hts izRX12 tyX12 tyX12_ok nmX12 hown hK hP hD hS 0 rfl rfl 16 (by decide) (hts _ k943) (fun _ h9 => h9) rfl (by decide +kernel) rfl rfl (Nat.le_of_ble_eq_true rfl) dX12_turnsBy_127 (fun H locs hP hD hS => ?_)
        have hP : va_P g.1 vwCl (List.flatten [bMo g o a th hi ac tp ba en tA fl de 0 1 tU fm fk fa fc ft ff_19 fb fi]) H := hP
        have hD : va_D A (List.flatten [bMo g o a th hi ac tp ba en tA fl de 0 1 tU fm fk fa fc ft ff_19 fb fi]) := hD
        refine lv_aload_n hx hb dX12_turnsBy_130 rfl (lv_at hl 0 rfl) ?_
        refine lv_iconst (v := 0) hx hb dX12_turnsBy_131 (by decide) ?_
        refine va_put (D := g.1) (ci := 10) (v := .int 0) (ty := .int) (C := RX12) (T := TX12) (N := 20) hx hb hts izRX12 tyX12 tyX12_ok nmX12 hown hK hP hD hS 0 rfl rfl 17 (by decide) (hts _ k963) (fun _ h9 => h9) rfl (by decide +kernel) rfl rfl (Nat.le_of_ble_eq_true rfl) dX12_turnsBy_132 (fun H locs hP hD hS => ?_)
        have hP : va_P g.1 vwCl (List.flatten [bMo g o a th hi ac tp ba en tA fl de 0 1 0 fm fk fa fc ft ff_19 fb fi]) H := hP
        have hD : va_D A (List.flatten [bMo g o a th hi ac tp ba en tA fl de 0 1 0 fm fk fa fc ft ff_19 fb fi]) := hD
        refine lv_aload_n hx hb dX12_turnsBy_135 rfl (lv_at hl 0 rfl) ?_
        refine va_get (D := g.1) (ci := 10) (v := .int fl) (C := RX12) (T := TX12) (N := 20) hx hb hts izRX12 hown hK hP 0 rfl rfl 12 (by decide) (hts _ k820) (fun _ h9 => h9) rfl dX12_turnsBy_136 ?_
        refine lv_istore_n (lv' := [(2, .int fl), (0, .ref o), (1, .int x)]) hx hb dX12_turnsBy_139 rfl hl (by decide) rfl (fun ls hl => ?_)
        refine lv_aload_n hx hb dX12_turnsBy_140 rfl (lv_at hl 1 rfl) ?_
        refine lv_iconst (v := (-1)) hx hb dX12_turnsBy_141 (by decide) ?_
        refine va_put (D := g.1) (ci := 10) (v := .int (-1)) (ty := .int) (C := RX12) (T := TX12) (N := 20) hx hb hts izRX12 tyX12 tyX12_ok nmX12 hown hK hP hD hS 0 rfl rfl 12 (by decide) (hts _ k820) (fun _ h9 => h9) rfl (by decide +kernel) rfl rfl (Nat.le_of_ble_eq_true rfl) dX12_turnsBy_142 (fun H locs hP hD hS => ?_)
        have hP : va_P g.1 vwCl (List.flatten [bMo g o a th hi ac tp ba en tA (-1) de 0 1 0 fm fk fa fc ft ff_19 fb fi]) H := hP
        have hD : va_D A (List.flatten [bMo g o a th hi ac tp ba en tA (-1) de 0 1 0 fm fk fa fc ft ff_19 fb fi]) := hD
        refine lv_aload_n hx hb dX12_turnsBy_145 rfl (lv_at hl 1 rfl) ?_
        refine lv_sipush (v := 379) hx hb dX12_turnsBy_146 (by decide) ?_
        refine va_put (D := g.1) (ci := 10) (v := .int 379) (ty := .int) (C := RX12) (T := TX12) (N := 20) hx hb hts izRX12 tyX12 tyX12_ok nmX12 hown hK hP hD hS 0 rfl rfl 9 (by decide) (hts _ k876) (fun _ h9 => h9) rfl (by decide +kernel) rfl rfl (Nat.le_of_ble_eq_true rfl) dX12_turnsBy_149 (fun H locs hP hD hS => ?_)
        have hP : va_P g.1 vwCl (List.flatten [bMo g o a th hi ac tp 379 en tA (-1) de 0 1 0 fm fk fa fc ft ff_19 fb fi]) H := hP
        have hD : va_D A (List.flatten [bMo g o a th hi ac tp 379 en tA (-1) de 0 1 0 fm fk fa fc ft ff_19 fb fi]) := hD
        refine lv_aload_n hx hb dX12_turnsBy_152 rfl (lv_at hl 1 rfl) ?_
        refine lv_aload_n hx hb dX12_turnsBy_153 rfl (lv_at hl 1 rfl) ?_
        refine va_get (D := g.1) (ci := 10) (v := .ref (a 0)) (C := RX12) (T := TX12) (N := 20) hx hb hts izRX12 hown hK hP 0 rfl rfl 1 (by decide) (hts _ k815) (fun _ h9 => h9) rfl dX12_turnsBy_154 ?_
        refine lv_iconst (v := 2) hx hb dX12_turnsBy_157 (by decide) ?_
        refine va_iald hx hb hK hP 1 0 rfl rfl (zin rfl) dX12_turnsBy_158 ?_
        refine zgq (r := fm 2) rfl (rM2 rfm) (fun x_35 hx_35 => ?_)
        refine va_put (D := g.1) (ci := 10) (v := .int x_35) (ty := .int) (C := RX12) (T := TX12) (N := 20) hx hb hts izRX12 tyX12 tyX12_ok nmX12 hown hK hP hD hS 0 rfl rfl 10 (by decide) (hts _ k879) (fun _ h9 => h9) rfl (by decide +kernel) rfl rfl (Nat.le_of_ble_eq_true rfl) dX12_turnsBy_159 (fun H locs hP hD hS => ?_)
        have hP : va_P g.1 vwCl (List.flatten [bMo g o a th hi ac tp 379 x_35 tA (-1) de 0 1 0 fm fk fa fc ft ff_19 fb fi]) H := hP
        have hD : va_D A (List.flatten [bMo g o a th hi ac tp 379 x_35 tA (-1) de 0 1 0 fm fk fa fc ft ff_19 fb fi]) := hD
        refine lv_aload_n hx hb dX12_turnsBy_162 rfl (lv_at hl 1 rfl) ?_
        refine lv_iconst (v := 0) hx hb dX12_turnsBy_163 (by decide) ?_
        refine va_put (D := g.1) (ci := 10) (v := .int 0) (ty := .int) (C := RX12) (T := TX12) (N := 20) hx hb hts izRX12 tyX12 tyX12_ok nmX12 hown hK hP hD hS 0 rfl rfl 11 (by decide) (hts _ k878) (fun _ h9 => h9) rfl (by decide +kernel) rfl rfl (Nat.le_of_ble_eq_true rfl) dX12_turnsBy_164 (fun H locs hP hD hS => ?_)
        have hP : va_P g.1 vwCl (List.flatten [bMo g o a th hi ac tp 379 x_35 0 (-1) de 0 1 0 fm fk fa fc ft ff_19 fb fi]) H := hP
        have hD : va_D A (List.flatten [bMo g o a th hi ac tp 379 x_35 0 (-1) de 0 1 0 fm fk fa fc ft ff_19 fb fi]) := hD
        refine lv_aload_n hx hb dX12_turnsBy_167 rfl (lv_at hl 1 rfl) ?_
        refine lv_iconst (v := 0) hx hb dX12_turnsBy_168 (by decide) ?_
        refine va_put (D := g.1) (ci := 10) (v := .int 0) (ty := .int) (C := RX12) (T := TX12) (N := 20) hx hb hts izRX12 tyX12 tyX12_ok nmX12 hown hK hP hD hS 0 rfl rfl 13 (by decide) (hts _ k933) (fun _ h9 => h9) rfl (by decide +kernel) rfl rfl (Nat.le_of_ble_eq_true rfl) dX12_turnsBy_169 (fun H locs hP hD hS => ?_)
        have hP : va_P g.1 vwCl (List.flatten [bMo g o a th hi ac tp 379 x_35 0 (-1) 0 0 1 0 fm fk fa fc ft ff_19 fb fi]) H := hP
        have hD : va_D A (List.flatten [bMo g o a th hi ac tp 379 x_35 0 (-1) 0 0 1 0 fm fk fa fc ft ff_19 fb fi]) := hD
        refine lv_aload_n hx hb dX12_turnsBy_172 rfl (lv_at hl 1 rfl) ?_
        refine lv_iconst (v := 1) hx hb dX12_turnsBy_173 (by decide) ?_
        have hL1 : (1 : Int32).toInt = 1 := by decide
        have hL379 : (379 : Int32).toInt = 379 := by decide
        refine mcallV' (g := g) (q0 := 0) (ci := 10) (As := [.int 1]) (rest := []) St hK hT hA hP hD hS hl.1 [0] [] rfl rfl rfl (m_readT l g o a th hi ac tp 379 x_35 0 (-1) 0 1 0 fm fk fa fc ft ff_19 fb fi (by decide) (by decide) (by first | assumption | omega | decide | exact Or.inl (by decide) | exact Or.inr (by decide)) (⟨hx_35.1, hx_35.2.1⟩) (by first | assumption | omega | decide | exact Or.inl (by decide) | exact Or.inr (by decide)) (by first | assumption | omega | decide | exact Or.inl (by decide) | exact Or.inr (by decide)) (by first | assumption | omega | decide | exact Or.inl (by decide) | exact Or.inr (by decide))) (cwV 1 hts (zgL (zl4 k981 k982 k983 k839) k971) rfl rfl rfl (by decide +kernel) ⟨Nat.le_of_ble_eq_true rfl, Nat.le_of_ble_eq_true rfl⟩) rfl rfl rfl rfl (Nat.le_of_ble_eq_true rfl) dX12_turnsBy_174 ⟨(Nat.le_of_ble_eq_true rfl), (Nat.le_of_ble_eq_true rfl)⟩ (fun u_ H locs hq40 hP hD hS => ?_)
        obtain ⟨at2_36, fl2_37, tU2_38, q_39⟩ := u_
        replace hq40 : (0 ≤ at2_36.toInt ∧ at2_36.toInt ≤ x_35.toInt + 7 - 0) ∧ ((0 : Int32).toInt ≤ at2_36.toInt) ∧ (-1 ≤ fl2_37.toInt) := hq40
        have hP : va_P g.1 vwCl (List.flatten [bMo g o a th hi ac tp 379 x_35 at2_36 fl2_37 0 0 1 tU2_38 fm fk fa fc ft ff_19 fb fi]) H := hP
        have hD : va_D A (List.flatten [bMo g o a th hi ac tp 379 x_35 at2_36 fl2_37 0 0 1 tU2_38 fm fk fa fc ft ff_19 fb fi]) := hD
        refine W.widen (k := 0) (n := 0) (Nat.le_of_ble_eq_true rfl) (Nat.le_of_ble_eq_true rfl) ?_
        refine W.eq (g2 := F0 m 177 ls [.int q_39]) rfl ?_
        obtain ⟨hq40_0, hq40_1, hq40_2⟩ := hq40
        refine lv_istore_n (lv' := [(3, .int q_39), (2, .int fl), (0, .ref o), (1, .int x)]) hx hb dX12_turnsBy_177 rfl hl (by decide) rfl (fun ls hl => ?_)
        refine lv_aload_n hx hb dX12_turnsBy_178 rfl (lv_at hl 2 rfl) ?_
        refine lv_iload_n hx hb dX12_turnsBy_179 rfl (lv_at hl 1 rfl) ?_
        refine va_put (D := g.1) (ci := 10) (v := .int fl) (ty := .int) (C := RX12) (T := TX12) (N := 20) hx hb hts izRX12 tyX12 tyX12_ok nmX12 hown hK hP hD hS 0 rfl rfl 12 (by decide) (hts _ k820) (fun _ h9 => h9) rfl (by decide +kernel) rfl rfl (Nat.le_of_ble_eq_true rfl) dX12_turnsBy_180 (fun H locs hP hD hS => ?_)
        have hP : va_P g.1 vwCl (List.flatten [bMo g o a th hi ac tp 379 x_35 at2_36 fl 0 0 1 tU2_38 fm fk fa fc ft ff_19 fb fi]) H := hP
        have hD : va_D A (List.flatten [bMo g o a th hi ac tp 379 x_35 at2_36 fl 0 0 1 tU2_38 fm fk fa fc ft ff_19 fb fi]) := hD
        refine lv_aload_n hx hb dX12_turnsBy_183 rfl (lv_at hl 2 rfl) ?_
        refine va_get (D := g.1) (ci := 10) (v := .int tU2_38) (C := RX12) (T := TX12) (N := 20) hx hb hts izRX12 hown hK hP 0 rfl rfl 17 (by decide) (hts _ k963) (fun _ h9 => h9) rfl dX12_turnsBy_184 ?_
        have hP : va_P g.1 vwCl (List.flatten [bMo g o a th hi ac tp 379 x_35 at2_36 fl 0 0 1 tU2_38 fm fk fa fc ft ff_19 fb fi]) H := hP
        have hD : va_D A (List.flatten [bMo g o a th hi ac tp 379 x_35 at2_36 fl 0 0 1 tU2_38 fm fk fa fc ft ff_19 fb fi]) := hD
        exact mret_i hx hb hr hlocks hS (Nat.le_of_ble_eq_true rfl) (Nat.le_of_ble_eq_true rfl) dX12_turnsBy_187 ((379 : Int32), x_35, at2_36, (0 : Int32), (0 : Int32), (1 : Int32), tU2_38, ff_19, tU2_38) rfl (show (0 ≤ (1 : Int32).toInt ∧ (1 : Int32).toInt ≤ 1) ∧ (0 ≤ (0 : Int32).toInt ∧ (0 : Int32).toInt ≤ 1) from ⟨(by first | assumption | omega | decide | exact rfl | exact zb01 (by omega) | exact Or.inl (by decide) | exact Or.inr (by first | omega | decide)), (by first | assumption | omega | decide | exact rfl | exact zb01 (by omega) | exact Or.inl (by decide) | exact Or.inr (by first | omega | decide))⟩) hP hD
    · skip
      have c41 : q_20.toInt = 1 := zeq cb9 rfl (by decide)
      have n42 : 1 ≤ q_20.toInt := Int.le_trans (Int.le_refl _) (Int.le_of_eq c41.symm)
      have n43 : q_20.toInt ≤ 1 := Int.le_trans (Int.le_of_eq c41) (Int.le_refl _)
      refine lv_iconst (v := 1) hx hb dX12_turnsBy_104 (by decide) ?_
      refine lv_goto (tgt := 109) hx hb dX12_turnsBy_105 (by decide) ?_
      refine va_put (D := g.1) (ci := 10) (v := .int 1) (ty := .boolean) (C := RX12) (T := TX12) (N := 20) hx hb hts izRX12 tyX12 tyX12_ok nmX12 hown hK hP hD hS 0 rfl rfl 15 (by decide) (hts _ k942) (fun _ h9 => h9) rfl (by decide +kernel) rfl rfl (Nat.le_of_ble_eq_true rfl) dX12_turnsBy_109 (fun H locs hP hD hS => ?_)
      have hP : va_P g.1 vwCl (List.flatten [bMo g o a th hi ac tp ba en tA fl de 1 iO tU fm fk fa fc ft ff_19 fb fi]) H := hP
      have hD : va_D A (List.flatten [bMo g o a th hi ac tp ba en tA fl de 1 iO tU fm fk fa fc ft ff_19 fb fi]) := hD
      refine lv_aload_n hx hb dX12_turnsBy_112 rfl (lv_at hl 0 rfl) ?_
      refine lv_aload_n hx hb dX12_turnsBy_113 rfl (lv_at hl 0 rfl) ?_
      refine lv_iload_n hx hb dX12_turnsBy_114 rfl (lv_at hl 1 rfl) ?_
      refine lv_iconst (v := 2) hx hb dX12_turnsBy_115 (by decide) ?_
      have hL2 : (2 : Int32).toInt = 2 := by decide
      refine mcallV' (g := g) (q0 := 0) (ci := 10) (As := [.int x, .int 2]) (rest := [.ref o]) St hK hT hA hP hD hS hl.1 [0] [] rfl rfl rfl (m_of l g o a th hi ac tp ba en tA fl de 1 iO tU fm fk fa fc ft ff_19 fb fi x 2 b_x (by decide)) (cwV 2 hts (zgL (zl4 k842 k843 k844 k839) k831) rfl rfl rfl (by decide +kernel) ⟨Nat.le_of_ble_eq_true rfl, Nat.le_of_ble_eq_true rfl⟩) rfl rfl rfl rfl (Nat.le_of_ble_eq_true rfl) dX12_turnsBy_116 ⟨(Nat.le_of_ble_eq_true rfl), (Nat.le_of_ble_eq_true rfl)⟩ (fun q_44 H locs hq45 hP hD hS => ?_)
      have hP : va_P g.1 vwCl (List.flatten [bMo g o a th hi ac tp ba en tA fl de 1 iO tU fm fk fa fc ft ff_19 fb fi]) H := hP
      have hD : va_D A (List.flatten [bMo g o a th hi ac tp ba en tA fl de 1 iO tU fm fk fa fc ft ff_19 fb fi]) := hD
      refine W.widen (k := 0) (n := 0) (Nat.le_of_ble_eq_true rfl) (Nat.le_of_ble_eq_true rfl) ?_
      refine W.eq (g2 := F0 m 119 ls [.int q_44, .ref o]) rfl ?_
      refine lv_if_le (tgt := 126) hx hb dX12_turnsBy_119 (by decide) (fun cb9 => ?_) (fun cb9 => ?_)
      · skip
        have c46 : q_44.toInt ≤ 0 := zle cb9 rfl (by decide)
        have n47 : q_44.toInt ≤ 0 := Int.le_trans c46 (Int.le_refl _)
        refine lv_iconst (v := 0) hx hb dX12_turnsBy_126 (by decide) ?_
        refine va_put (D := g.1) (ci := 10) (v := .int 0) (ty := .boolean) (C := RX12) (T := TX12) (N := 20) hx hb hts izRX12 tyX12 tyX12_ok nmX12 hown hK hP hD hS 0 rfl rfl 16 (by decide) (hts _ k943) (fun _ h9 => h9) rfl (by decide +kernel) rfl rfl (Nat.le_of_ble_eq_true rfl) dX12_turnsBy_127 (fun H locs hP hD hS => ?_)
        have hP : va_P g.1 vwCl (List.flatten [bMo g o a th hi ac tp ba en tA fl de 1 0 tU fm fk fa fc ft ff_19 fb fi]) H := hP
        have hD : va_D A (List.flatten [bMo g o a th hi ac tp ba en tA fl de 1 0 tU fm fk fa fc ft ff_19 fb fi]) := hD
        refine lv_aload_n hx hb dX12_turnsBy_130 rfl (lv_at hl 0 rfl) ?_
        refine lv_iconst (v := 0) hx hb dX12_turnsBy_131 (by decide) ?_
        refine va_put (D := g.1) (ci := 10) (v := .int 0) (ty := .int) (C := RX12) (T := TX12) (N := 20) hx hb hts izRX12 tyX12 tyX12_ok nmX12 hown hK hP hD hS 0 rfl rfl 17 (by decide) (hts _ k963) (fun _ h9 => h9) rfl (by decide +kernel) rfl rfl (Nat.le_of_ble_eq_true rfl) dX12_turnsBy_132 (fun H locs hP hD hS => ?_)
        have hP : va_P g.1 vwCl (List.flatten [bMo g o a th hi ac tp ba en tA fl de 1 0 0 fm fk fa fc ft ff_19 fb fi]) H := hP
        have hD : va_D A (List.flatten [bMo g o a th hi ac tp ba en tA fl de 1 0 0 fm fk fa fc ft ff_19 fb fi]) := hD
        refine lv_aload_n hx hb dX12_turnsBy_135 rfl (lv_at hl 0 rfl) ?_
        refine va_get (D := g.1) (ci := 10) (v := .int fl) (C := RX12) (T := TX12) (N := 20) hx hb hts izRX12 hown hK hP 0 rfl rfl 12 (by decide) (hts _ k820) (fun _ h9 => h9) rfl dX12_turnsBy_136 ?_
        refine lv_istore_n (lv' := [(2, .int fl), (0, .ref o), (1, .int x)]) hx hb dX12_turnsBy_139 rfl hl (by decide) rfl (fun ls hl => ?_)
        refine lv_aload_n hx hb dX12_turnsBy_140 rfl (lv_at hl 1 rfl) ?_
        refine lv_iconst (v := (-1)) hx hb dX12_turnsBy_141 (by decide) ?_
        refine va_put (D := g.1) (ci := 10) (v := .int (-1)) (ty := .int) (C := RX12) (T := TX12) (N := 20) hx hb hts izRX12 tyX12 tyX12_ok nmX12 hown hK hP hD hS 0 rfl rfl 12 (by decide) (hts _ k820) (fun _ h9 => h9) rfl (by decide +kernel) rfl rfl (Nat.le_of_ble_eq_true rfl) dX12_turnsBy_142 (fun H locs hP hD hS => ?_)
        have hP : va_P g.1 vwCl (List.flatten [bMo g o a th hi ac tp ba en tA (-1) de 1 0 0 fm fk fa fc ft ff_19 fb fi]) H := hP
        have hD : va_D A (List.flatten [bMo g o a th hi ac tp ba en tA (-1) de 1 0 0 fm fk fa fc ft ff_19 fb fi]) := hD
        refine lv_aload_n hx hb dX12_turnsBy_145 rfl (lv_at hl 1 rfl) ?_
        refine lv_sipush (v := 379) hx hb dX12_turnsBy_146 (by decide) ?_
        refine va_put (D := g.1) (ci := 10) (v := .int 379) (ty := .int) (C := RX12) (T := TX12) (N := 20) hx hb hts izRX12 tyX12 tyX12_ok nmX12 hown hK hP hD hS 0 rfl rfl 9 (by decide) (hts _ k876) (fun _ h9 => h9) rfl (by decide +kernel) rfl rfl (Nat.le_of_ble_eq_true rfl) dX12_turnsBy_149 (fun H locs hP hD hS => ?_)
        have hP : va_P g.1 vwCl (List.flatten [bMo g o a th hi ac tp 379 en tA (-1) de 1 0 0 fm fk fa fc ft ff_19 fb fi]) H := hP
        have hD : va_D A (List.flatten [bMo g o a th hi ac tp 379 en tA (-1) de 1 0 0 fm fk fa fc ft ff_19 fb fi]) := hD
        refine lv_aload_n hx hb dX12_turnsBy_152 rfl (lv_at hl 1 rfl) ?_
        refine lv_aload_n hx hb dX12_turnsBy_153 rfl (lv_at hl 1 rfl) ?_
        refine va_get (D := g.1) (ci := 10) (v := .ref (a 0)) (C := RX12) (T := TX12) (N := 20) hx hb hts izRX12 hown hK hP 0 rfl rfl 1 (by decide) (hts _ k815) (fun _ h9 => h9) rfl dX12_turnsBy_154 ?_
        refine lv_iconst (v := 2) hx hb dX12_turnsBy_157 (by decide) ?_
        refine va_iald hx hb hK hP 1 0 rfl rfl (zin rfl) dX12_turnsBy_158 ?_
        refine zgq (r := fm 2) rfl (rM2 rfm) (fun x_48 hx_48 => ?_)
        refine va_put (D := g.1) (ci := 10) (v := .int x_48) (ty := .int) (C := RX12) (T := TX12) (N := 20) hx hb hts izRX12 tyX12 tyX12_ok nmX12 hown hK hP hD hS 0 rfl rfl 10 (by decide) (hts _ k879) (fun _ h9 => h9) rfl (by decide +kernel) rfl rfl (Nat.le_of_ble_eq_true rfl) dX12_turnsBy_159 (fun H locs hP hD hS => ?_)
        have hP : va_P g.1 vwCl (List.flatten [bMo g o a th hi ac tp 379 x_48 tA (-1) de 1 0 0 fm fk fa fc ft ff_19 fb fi]) H := hP
        have hD : va_D A (List.flatten [bMo g o a th hi ac tp 379 x_48 tA (-1) de 1 0 0 fm fk fa fc ft ff_19 fb fi]) := hD
        refine lv_aload_n hx hb dX12_turnsBy_162 rfl (lv_at hl 1 rfl) ?_
        refine lv_iconst (v := 0) hx hb dX12_turnsBy_163 (by decide) ?_
        refine va_put (D := g.1) (ci := 10) (v := .int 0) (ty := .int) (C := RX12) (T := TX12) (N := 20) hx hb hts izRX12 tyX12 tyX12_ok nmX12 hown hK hP hD hS 0 rfl rfl 11 (by decide) (hts _ k878) (fun _ h9 => h9) rfl (by decide +kernel) rfl rfl (Nat.le_of_ble_eq_true rfl) dX12_turnsBy_164 (fun H locs hP hD hS => ?_)
        have hP : va_P g.1 vwCl (List.flatten [bMo g o a th hi ac tp 379 x_48 0 (-1) de 1 0 0 fm fk fa fc ft ff_19 fb fi]) H := hP
        have hD : va_D A (List.flatten [bMo g o a th hi ac tp 379 x_48 0 (-1) de 1 0 0 fm fk fa fc ft ff_19 fb fi]) := hD
        refine lv_aload_n hx hb dX12_turnsBy_167 rfl (lv_at hl 1 rfl) ?_
        refine lv_iconst (v := 0) hx hb dX12_turnsBy_168 (by decide) ?_
        refine va_put (D := g.1) (ci := 10) (v := .int 0) (ty := .int) (C := RX12) (T := TX12) (N := 20) hx hb hts izRX12 tyX12 tyX12_ok nmX12 hown hK hP hD hS 0 rfl rfl 13 (by decide) (hts _ k933) (fun _ h9 => h9) rfl (by decide +kernel) rfl rfl (Nat.le_of_ble_eq_true rfl) dX12_turnsBy_169 (fun H locs hP hD hS => ?_)
        have hP : va_P g.1 vwCl (List.flatten [bMo g o a th hi ac tp 379 x_48 0 (-1) 0 1 0 0 fm fk fa fc ft ff_19 fb fi]) H := hP
        have hD : va_D A (List.flatten [bMo g o a th hi ac tp 379 x_48 0 (-1) 0 1 0 0 fm fk fa fc ft ff_19 fb fi]) := hD
        refine lv_aload_n hx hb dX12_turnsBy_172 rfl (lv_at hl 1 rfl) ?_
        refine lv_iconst (v := 1) hx hb dX12_turnsBy_173 (by decide) ?_
        have hL1 : (1 : Int32).toInt = 1 := by decide
        have hL379 : (379 : Int32).toInt = 379 := by decide
        refine mcallV' (g := g) (q0 := 0) (ci := 10) (As := [.int 1]) (rest := []) St hK hT hA hP hD hS hl.1 [0] [] rfl rfl rfl (m_readT l g o a th hi ac tp 379 x_48 0 (-1) 1 0 0 fm fk fa fc ft ff_19 fb fi (by decide) (by decide) (by first | assumption | omega | decide | exact Or.inl (by decide) | exact Or.inr (by decide)) (⟨hx_48.1, hx_48.2.1⟩) (by first | assumption | omega | decide | exact Or.inl (by decide) | exact Or.inr (by decide)) (by first | assumption | omega | decide | exact Or.inl (by decide) | exact Or.inr (by decide)) (by first | assumption | omega | decide | exact Or.inl (by decide) | exact Or.inr (by decide))) (cwV 1 hts (zgL (zl4 k981 k982 k983 k839) k971) rfl rfl rfl (by decide +kernel) ⟨Nat.le_of_ble_eq_true rfl, Nat.le_of_ble_eq_true rfl⟩) rfl rfl rfl rfl (Nat.le_of_ble_eq_true rfl) dX12_turnsBy_174 ⟨(Nat.le_of_ble_eq_true rfl), (Nat.le_of_ble_eq_true rfl)⟩ (fun u_ H locs hq53 hP hD hS => ?_)
        obtain ⟨at2_49, fl2_50, tU2_51, q_52⟩ := u_
        replace hq53 : (0 ≤ at2_49.toInt ∧ at2_49.toInt ≤ x_48.toInt + 7 - 0) ∧ ((0 : Int32).toInt ≤ at2_49.toInt) ∧ (-1 ≤ fl2_50.toInt) := hq53
        have hP : va_P g.1 vwCl (List.flatten [bMo g o a th hi ac tp 379 x_48 at2_49 fl2_50 0 1 0 tU2_51 fm fk fa fc ft ff_19 fb fi]) H := hP
        have hD : va_D A (List.flatten [bMo g o a th hi ac tp 379 x_48 at2_49 fl2_50 0 1 0 tU2_51 fm fk fa fc ft ff_19 fb fi]) := hD
        refine W.widen (k := 0) (n := 0) (Nat.le_of_ble_eq_true rfl) (Nat.le_of_ble_eq_true rfl) ?_
        refine W.eq (g2 := F0 m 177 ls [.int q_52]) rfl ?_
        obtain ⟨hq53_0, hq53_1, hq53_2⟩ := hq53
        refine lv_istore_n (lv' := [(3, .int q_52), (2, .int fl), (0, .ref o), (1, .int x)]) hx hb dX12_turnsBy_177 rfl hl (by decide) rfl (fun ls hl => ?_)
        refine lv_aload_n hx hb dX12_turnsBy_178 rfl (lv_at hl 2 rfl) ?_
        refine lv_iload_n hx hb dX12_turnsBy_179 rfl (lv_at hl 1 rfl) ?_
        refine va_put (D := g.1) (ci := 10) (v := .int fl) (ty := .int) (C := RX12) (T := TX12) (N := 20) hx hb hts izRX12 tyX12 tyX12_ok nmX12 hown hK hP hD hS 0 rfl rfl 12 (by decide) (hts _ k820) (fun _ h9 => h9) rfl (by decide +kernel) rfl rfl (Nat.le_of_ble_eq_true rfl) dX12_turnsBy_180 (fun H locs hP hD hS => ?_)
        have hP : va_P g.1 vwCl (List.flatten [bMo g o a th hi ac tp 379 x_48 at2_49 fl 0 1 0 tU2_51 fm fk fa fc ft ff_19 fb fi]) H := hP
        have hD : va_D A (List.flatten [bMo g o a th hi ac tp 379 x_48 at2_49 fl 0 1 0 tU2_51 fm fk fa fc ft ff_19 fb fi]) := hD
        refine lv_aload_n hx hb dX12_turnsBy_183 rfl (lv_at hl 2 rfl) ?_
        refine va_get (D := g.1) (ci := 10) (v := .int tU2_51) (C := RX12) (T := TX12) (N := 20) hx hb hts izRX12 hown hK hP 0 rfl rfl 17 (by decide) (hts _ k963) (fun _ h9 => h9) rfl dX12_turnsBy_184 ?_
        have hP : va_P g.1 vwCl (List.flatten [bMo g o a th hi ac tp 379 x_48 at2_49 fl 0 1 0 tU2_51 fm fk fa fc ft ff_19 fb fi]) H := hP
        have hD : va_D A (List.flatten [bMo g o a th hi ac tp 379 x_48 at2_49 fl 0 1 0 tU2_51 fm fk fa fc ft ff_19 fb fi]) := hD
        exact mret_i hx hb hr hlocks hS (Nat.le_of_ble_eq_true rfl) (Nat.le_of_ble_eq_true rfl) dX12_turnsBy_187 ((379 : Int32), x_48, at2_49, (0 : Int32), (1 : Int32), (0 : Int32), tU2_51, ff_19, tU2_51) rfl (show (0 ≤ (0 : Int32).toInt ∧ (0 : Int32).toInt ≤ 1) ∧ (0 ≤ (1 : Int32).toInt ∧ (1 : Int32).toInt ≤ 1) from ⟨(by first | assumption | omega | decide | exact rfl | exact zb01 (by omega) | exact Or.inl (by decide) | exact Or.inr (by first | omega | decide)), (by first | assumption | omega | decide | exact rfl | exact zb01 (by omega) | exact Or.inl (by decide) | exact Or.inr (by first | omega | decide))⟩) hP hD
      · skip
        have c54 : 0 < q_44.toInt := zlti (Int32.not_le.mp cb9) (by decide) rfl
        have n55 : 1 ≤ q_44.toInt := zL2 (a := 0) c54 (Int.le_refl _) (by decide)
        refine lv_iconst (v := 1) hx hb dX12_turnsBy_122 (by decide) ?_
        refine lv_goto (tgt := 127) hx hb dX12_turnsBy_123 (by decide) ?_
        refine va_put (D := g.1) (ci := 10) (v := .int 1) (ty := .boolean) (C := RX12) (T := TX12) (N := 20) hx hb hts izRX12 tyX12 tyX12_ok nmX12 hown hK hP hD hS 0 rfl rfl 16 (by decide) (hts _ k943) (fun _ h9 => h9) rfl (by decide +kernel) rfl rfl (Nat.le_of_ble_eq_true rfl) dX12_turnsBy_127 (fun H locs hP hD hS => ?_)
        have hP : va_P g.1 vwCl (List.flatten [bMo g o a th hi ac tp ba en tA fl de 1 1 tU fm fk fa fc ft ff_19 fb fi]) H := hP
        have hD : va_D A (List.flatten [bMo g o a th hi ac tp ba en tA fl de 1 1 tU fm fk fa fc ft ff_19 fb fi]) := hD
        refine lv_aload_n hx hb dX12_turnsBy_130 rfl (lv_at hl 0 rfl) ?_
        refine lv_iconst (v := 0) hx hb dX12_turnsBy_131 (by decide) ?_
        refine va_put (D := g.1) (ci := 10) (v := .int 0) (ty := .int) (C := RX12) (T := TX12) (N := 20) hx hb hts izRX12 tyX12 tyX12_ok nmX12 hown hK hP hD hS 0 rfl rfl 17 (by decide) (hts _ k963) (fun _ h9 => h9) rfl (by decide +kernel) rfl rfl (Nat.le_of_ble_eq_true rfl) dX12_turnsBy_132 (fun H locs hP hD hS => ?_)
        have hP : va_P g.1 vwCl (List.flatten [bMo g o a th hi ac tp ba en tA fl de 1 1 0 fm fk fa fc ft ff_19 fb fi]) H := hP
        have hD : va_D A (List.flatten [bMo g o a th hi ac tp ba en tA fl de 1 1 0 fm fk fa fc ft ff_19 fb fi]) := hD
        refine lv_aload_n hx hb dX12_turnsBy_135 rfl (lv_at hl 0 rfl) ?_
        refine va_get (D := g.1) (ci := 10) (v := .int fl) (C := RX12) (T := TX12) (N := 20) hx hb hts izRX12 hown hK hP 0 rfl rfl 12 (by decide) (hts _ k820) (fun _ h9 => h9) rfl dX12_turnsBy_136 ?_
        refine lv_istore_n (lv' := [(2, .int fl), (0, .ref o), (1, .int x)]) hx hb dX12_turnsBy_139 rfl hl (by decide) rfl (fun ls hl => ?_)
        refine lv_aload_n hx hb dX12_turnsBy_140 rfl (lv_at hl 1 rfl) ?_
        refine lv_iconst (v := (-1)) hx hb dX12_turnsBy_141 (by decide) ?_
        refine va_put (D := g.1) (ci := 10) (v := .int (-1)) (ty := .int) (C := RX12) (T := TX12) (N := 20) hx hb hts izRX12 tyX12 tyX12_ok nmX12 hown hK hP hD hS 0 rfl rfl 12 (by decide) (hts _ k820) (fun _ h9 => h9) rfl (by decide +kernel) rfl rfl (Nat.le_of_ble_eq_true rfl) dX12_turnsBy_142 (fun H locs hP hD hS => ?_)
        have hP : va_P g.1 vwCl (List.flatten [bMo g o a th hi ac tp ba en tA (-1) de 1 1 0 fm fk fa fc ft ff_19 fb fi]) H := hP
        have hD : va_D A (List.flatten [bMo g o a th hi ac tp ba en tA (-1) de 1 1 0 fm fk fa fc ft ff_19 fb fi]) := hD
        refine lv_aload_n hx hb dX12_turnsBy_145 rfl (lv_at hl 1 rfl) ?_
        refine lv_sipush (v := 379) hx hb dX12_turnsBy_146 (by decide) ?_
        refine va_put (D := g.1) (ci := 10) (v := .int 379) (ty := .int) (C := RX12) (T := TX12) (N := 20) hx hb hts izRX12 tyX12 tyX12_ok nmX12 hown hK hP hD hS 0 rfl rfl 9 (by decide) (hts _ k876) (fun _ h9 => h9) rfl (by decide +kernel) rfl rfl (Nat.le_of_ble_eq_true rfl) dX12_turnsBy_149 (fun H locs hP hD hS => ?_)
        have hP : va_P g.1 vwCl (List.flatten [bMo g o a th hi ac tp 379 en tA (-1) de 1 1 0 fm fk fa fc ft ff_19 fb fi]) H := hP
        have hD : va_D A (List.flatten [bMo g o a th hi ac tp 379 en tA (-1) de 1 1 0 fm fk fa fc ft ff_19 fb fi]) := hD
        refine lv_aload_n hx hb dX12_turnsBy_152 rfl (lv_at hl 1 rfl) ?_
        refine lv_aload_n hx hb dX12_turnsBy_153 rfl (lv_at hl 1 rfl) ?_
        refine va_get (D := g.1) (ci := 10) (v := .ref (a 0)) (C := RX12) (T := TX12) (N := 20) hx hb hts izRX12 hown hK hP 0 rfl rfl 1 (by decide) (hts _ k815) (fun _ h9 => h9) rfl dX12_turnsBy_154 ?_
        refine lv_iconst (v := 2) hx hb dX12_turnsBy_157 (by decide) ?_
        refine va_iald hx hb hK hP 1 0 rfl rfl (zin rfl) dX12_turnsBy_158 ?_
        refine zgq (r := fm 2) rfl (rM2 rfm) (fun x_56 hx_56 => ?_)
        refine va_put (D := g.1) (ci := 10) (v := .int x_56) (ty := .int) (C := RX12) (T := TX12) (N := 20) hx hb hts izRX12 tyX12 tyX12_ok nmX12 hown hK hP hD hS 0 rfl rfl 10 (by decide) (hts _ k879) (fun _ h9 => h9) rfl (by decide +kernel) rfl rfl (Nat.le_of_ble_eq_true rfl) dX12_turnsBy_159 (fun H locs hP hD hS => ?_)
        have hP : va_P g.1 vwCl (List.flatten [bMo g o a th hi ac tp 379 x_56 tA (-1) de 1 1 0 fm fk fa fc ft ff_19 fb fi]) H := hP
        have hD : va_D A (List.flatten [bMo g o a th hi ac tp 379 x_56 tA (-1) de 1 1 0 fm fk fa fc ft ff_19 fb fi]) := hD
        refine lv_aload_n hx hb dX12_turnsBy_162 rfl (lv_at hl 1 rfl) ?_
        refine lv_iconst (v := 0) hx hb dX12_turnsBy_163 (by decide) ?_
        refine va_put (D := g.1) (ci := 10) (v := .int 0) (ty := .int) (C := RX12) (T := TX12) (N := 20) hx hb hts izRX12 tyX12 tyX12_ok nmX12 hown hK hP hD hS 0 rfl rfl 11 (by decide) (hts _ k878) (fun _ h9 => h9) rfl (by decide +kernel) rfl rfl (Nat.le_of_ble_eq_true rfl) dX12_turnsBy_164 (fun H locs hP hD hS => ?_)
        have hP : va_P g.1 vwCl (List.flatten [bMo g o a th hi ac tp 379 x_56 0 (-1) de 1 1 0 fm fk fa fc ft ff_19 fb fi]) H := hP
        have hD : va_D A (List.flatten [bMo g o a th hi ac tp 379 x_56 0 (-1) de 1 1 0 fm fk fa fc ft ff_19 fb fi]) := hD
        refine lv_aload_n hx hb dX12_turnsBy_167 rfl (lv_at hl 1 rfl) ?_
        refine lv_iconst (v := 0) hx hb dX12_turnsBy_168 (by decide) ?_
        refine va_put (D := g.1) (ci := 10) (v := .int 0) (ty := .int) (C := RX12) (T := TX12) (N := 20) hx hb hts izRX12 tyX12 tyX12_ok nmX12 hown hK hP hD hS 0 rfl rfl 13 (by decide) (hts _ k933) (fun _ h9 => h9) rfl (by decide +kernel) rfl rfl (Nat.le_of_ble_eq_true rfl) dX12_turnsBy_169 (fun H locs hP hD hS => ?_)
        have hP : va_P g.1 vwCl (List.flatten [bMo g o a th hi ac tp 379 x_56 0 (-1) 0 1 1 0 fm fk fa fc ft ff_19 fb fi]) H := hP
        have hD : va_D A (List.flatten [bMo g o a th hi ac tp 379 x_56 0 (-1) 0 1 1 0 fm fk fa fc ft ff_19 fb fi]) := hD
        refine lv_aload_n hx hb dX12_turnsBy_172 rfl (lv_at hl 1 rfl) ?_
        refine lv_iconst (v := 1) hx hb dX12_turnsBy_173 (by decide) ?_
        have hL1 : (1 : Int32).toInt = 1 := by decide
        have hL379 : (379 : Int32).toInt = 379 := by decide
        refine mcallV' (g := g) (q0 := 0) (ci := 10) (As := [.int 1]) (rest := []) St hK hT hA hP hD hS hl.1 [0] [] rfl rfl rfl (m_readT l g o a th hi ac tp 379 x_56 0 (-1) 1 1 0 fm fk fa fc ft ff_19 fb fi (by decide) (by decide) (by first | assumption | omega | decide | exact Or.inl (by decide) | exact Or.inr (by decide)) (⟨hx_56.1, hx_56.2.1⟩) (by first | assumption | omega | decide | exact Or.inl (by decide) | exact Or.inr (by decide)) (by first | assumption | omega | decide | exact Or.inl (by decide) | exact Or.inr (by decide)) (by first | assumption | omega | decide | exact Or.inl (by decide) | exact Or.inr (by decide))) (cwV 1 hts (zgL (zl4 k981 k982 k983 k839) k971) rfl rfl rfl (by decide +kernel) ⟨Nat.le_of_ble_eq_true rfl, Nat.le_of_ble_eq_true rfl⟩) rfl rfl rfl rfl (Nat.le_of_ble_eq_true rfl) dX12_turnsBy_174 ⟨(Nat.le_of_ble_eq_true rfl), (Nat.le_of_ble_eq_true rfl)⟩ (fun u_ H locs hq61 hP hD hS => ?_)
        obtain ⟨at2_57, fl2_58, tU2_59, q_60⟩ := u_
        replace hq61 : (0 ≤ at2_57.toInt ∧ at2_57.toInt ≤ x_56.toInt + 7 - 0) ∧ ((0 : Int32).toInt ≤ at2_57.toInt) ∧ (-1 ≤ fl2_58.toInt) := hq61
        have hP : va_P g.1 vwCl (List.flatten [bMo g o a th hi ac tp 379 x_56 at2_57 fl2_58 0 1 1 tU2_59 fm fk fa fc ft ff_19 fb fi]) H := hP
        have hD : va_D A (List.flatten [bMo g o a th hi ac tp 379 x_56 at2_57 fl2_58 0 1 1 tU2_59 fm fk fa fc ft ff_19 fb fi]) := hD
        refine W.widen (k := 0) (n := 0) (Nat.le_of_ble_eq_true rfl) (Nat.le_of_ble_eq_true rfl) ?_
        refine W.eq (g2 := F0 m 177 ls [.int q_60]) rfl ?_
        obtain ⟨hq61_0, hq61_1, hq61_2⟩ := hq61
        refine lv_istore_n (lv' := [(3, .int q_60), (2, .int fl), (0, .ref o), (1, .int x)]) hx hb dX12_turnsBy_177 rfl hl (by decide) rfl (fun ls hl => ?_)
        refine lv_aload_n hx hb dX12_turnsBy_178 rfl (lv_at hl 2 rfl) ?_
        refine lv_iload_n hx hb dX12_turnsBy_179 rfl (lv_at hl 1 rfl) ?_
        refine va_put (D := g.1) (ci := 10) (v := .int fl) (ty := .int) (C := RX12) (T := TX12) (N := 20) hx hb hts izRX12 tyX12 tyX12_ok nmX12 hown hK hP hD hS 0 rfl rfl 12 (by decide) (hts _ k820) (fun _ h9 => h9) rfl (by decide +kernel) rfl rfl (Nat.le_of_ble_eq_true rfl) dX12_turnsBy_180 (fun H locs hP hD hS => ?_)
        have hP : va_P g.1 vwCl (List.flatten [bMo g o a th hi ac tp 379 x_56 at2_57 fl 0 1 1 tU2_59 fm fk fa fc ft ff_19 fb fi]) H := hP
        have hD : va_D A (List.flatten [bMo g o a th hi ac tp 379 x_56 at2_57 fl 0 1 1 tU2_59 fm fk fa fc ft ff_19 fb fi]) := hD
        refine lv_aload_n hx hb dX12_turnsBy_183 rfl (lv_at hl 2 rfl) ?_
        refine va_get (D := g.1) (ci := 10) (v := .int tU2_59) (C := RX12) (T := TX12) (N := 20) hx hb hts izRX12 hown hK hP 0 rfl rfl 17 (by decide) (hts _ k963) (fun _ h9 => h9) rfl dX12_turnsBy_184 ?_
        have hP : va_P g.1 vwCl (List.flatten [bMo g o a th hi ac tp 379 x_56 at2_57 fl 0 1 1 tU2_59 fm fk fa fc ft ff_19 fb fi]) H := hP
        have hD : va_D A (List.flatten [bMo g o a th hi ac tp 379 x_56 at2_57 fl 0 1 1 tU2_59 fm fk fa fc ft ff_19 fb fi]) := hD
        exact mret_i hx hb hr hlocks hS (Nat.le_of_ble_eq_true rfl) (Nat.le_of_ble_eq_true rfl) dX12_turnsBy_187 ((379 : Int32), x_56, at2_57, (0 : Int32), (1 : Int32), (1 : Int32), tU2_59, ff_19, tU2_59) rfl (show (0 ≤ (1 : Int32).toInt ∧ (1 : Int32).toInt ≤ 1) ∧ (0 ≤ (1 : Int32).toInt ∧ (1 : Int32).toInt ≤ 1) from ⟨(by first | assumption | omega | decide | exact rfl | exact zb01 (by omega) | exact Or.inl (by decide) | exact Or.inr (by first | omega | decide)), (by first | assumption | omega | decide | exact rfl | exact zb01 (by omega) | exact Or.inl (by decide) | exact Or.inr (by first | omega | decide))⟩) hP hD
  · skip
    have c62 : x_1.toInt = (-1) := zeq cb9 rfl (by decide)
    have n63 : (-1) ≤ x_1.toInt := Int.le_trans (Int.le_refl _) (Int.le_of_eq c62.symm)
    have n64 : x_1.toInt ≤ (-1) := Int.le_trans (Int.le_of_eq c62) (Int.le_refl _)
    refine lv_aload_n hx hb dX12_turnsBy_10 rfl (lv_at hl 0 rfl) ?_
    refine lv_iload_n hx hb dX12_turnsBy_11 rfl (lv_at hl 1 rfl) ?_
    refine lv_iconst (v := 3) hx hb dX12_turnsBy_12 (by decide) ?_
    have hL3 : (3 : Int32).toInt = 3 := by decide
    refine mcallV' (g := g) (q0 := 0) (ci := 10) (As := [.int x, .int 3]) (rest := []) St hK hT hA hP hD hS hl.1 [0] [] rfl rfl rfl (m_of l g o a th hi ac tp ba en tA fl de iD iO tU fm fk fa fc ft ff fb fi x 3 b_x (by decide)) (cwV 2 hts (zgL (zl4 k842 k843 k844 k839) k831) rfl rfl rfl (by decide +kernel) ⟨Nat.le_of_ble_eq_true rfl, Nat.le_of_ble_eq_true rfl⟩) rfl rfl rfl rfl (Nat.le_of_ble_eq_true rfl) dX12_turnsBy_13 ⟨(Nat.le_of_ble_eq_true rfl), (Nat.le_of_ble_eq_true rfl)⟩ (fun q_65 H locs hq66 hP hD hS => ?_)
    have hP : va_P g.1 vwCl (List.flatten [bMo g o a th hi ac tp ba en tA fl de iD iO tU fm fk fa fc ft ff fb fi]) H := hP
    have hD : va_D A (List.flatten [bMo g o a th hi ac tp ba en tA fl de iD iO tU fm fk fa fc ft ff fb fi]) := hD
    refine W.widen (k := 0) (n := 0) (Nat.le_of_ble_eq_true rfl) (Nat.le_of_ble_eq_true rfl) ?_
    refine W.eq (g2 := F0 m 16 ls [.int q_65]) rfl ?_
    refine lv_iconst (v := 1) hx hb dX12_turnsBy_16 (by decide) ?_
    refine lv_icmp_ne (tgt := 24) hx hb dX12_turnsBy_17 (by decide) (fun cb9 => ?_) (fun cb9 => ?_)
    · skip
      have c67 : ¬ q_65.toInt = 1 := zne cb9 rfl (by decide)
      refine lv_iconst (v := 0) hx hb dX12_turnsBy_24 (by decide) ?_
      have hP : va_P g.1 vwCl (List.flatten [bMo g o a th hi ac tp ba en tA fl de iD iO tU fm fk fa fc ft ff fb fi]) H := hP
      have hD : va_D A (List.flatten [bMo g o a th hi ac tp ba en tA fl de iD iO tU fm fk fa fc ft ff fb fi]) := hD
      exact mret_i hx hb hr hlocks hS (Nat.le_of_ble_eq_true rfl) (Nat.le_of_ble_eq_true rfl) dX12_turnsBy_25 (ba, en, tA, de, iD, iO, tU, ff, (0 : Int32)) rfl (show (0 ≤ iO.toInt ∧ iO.toInt ≤ 1) ∧ (0 ≤ iD.toInt ∧ iD.toInt ≤ 1) from ⟨hiO, hiD⟩) hP hD
    · skip
      have c68 : q_65.toInt = 1 := zeq cb9 rfl (by decide)
      have n69 : 1 ≤ q_65.toInt := Int.le_trans (Int.le_refl _) (Int.le_of_eq c68.symm)
      have n70 : q_65.toInt ≤ 1 := Int.le_trans (Int.le_of_eq c68) (Int.le_refl _)
      refine lv_iconst (v := (-1)) hx hb dX12_turnsBy_20 (by decide) ?_
      refine lv_goto (tgt := 25) hx hb dX12_turnsBy_21 (by decide) ?_
      have hP : va_P g.1 vwCl (List.flatten [bMo g o a th hi ac tp ba en tA fl de iD iO tU fm fk fa fc ft ff fb fi]) H := hP
      have hD : va_D A (List.flatten [bMo g o a th hi ac tp ba en tA fl de iD iO tU fm fk fa fc ft ff fb fi]) := hD
      exact mret_i hx hb hr hlocks hS (Nat.le_of_ble_eq_true rfl) (Nat.le_of_ble_eq_true rfl) dX12_turnsBy_25 (ba, en, tA, de, iD, iO, tU, ff, -1) rfl (show (0 ≤ iO.toInt ∧ iO.toInt ≤ 1) ∧ (0 ≤ iD.toInt ∧ iD.toInt ≤ 1) from ⟨hiO, hiD⟩) hP hD
