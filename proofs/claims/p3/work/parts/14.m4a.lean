/-! the model's rows of acts -/
theorem rC_p {lo hi : Int} {f : Nat → Int32} {i k q : Nat} {v : Int32} (h : lo ≤ (f q).toInt ∧ (f q).toInt ≤ hi) (hv : q = i → lo ≤ v.toInt ∧ v.toInt ≤ hi) : lo ≤ (upd f i v q).toInt ∧ (upd f i v q).toInt ≤ hi := by
  unfold upd
  by_cases e : q = i
  · rw [if_pos e]; exact hv e
  · rw [if_neg e]; exact h
theorem rC_up {f : Nat → Int32} {i : Nat} {v : Int32} (h : rC f) (hc : ∀ j k : Nat, j < 12 → i = 379 * j + k → (k = 2 → 0 ≤ v.toInt ∧ v.toInt ≤ 400) ∧ (k = 3 → 0 ≤ v.toInt ∧ v.toInt ≤ 8) ∧ (k = 4 → 0 ≤ v.toInt ∧ v.toInt ≤ 6) ∧ (k = 9 → 0 ≤ v.toInt ∧ v.toInt ≤ 60)) : rC (upd f i v) := by
  intro j hj
  obtain ⟨h1, h2, h3, h4⟩ := h j hj
  exact ⟨rC_p (k := 2) h1 (fun e => (hc j 2 hj e.symm).1 rfl), rC_p (k := 3) h2 (fun e => (hc j 3 hj e.symm).2.1 rfl), rC_p (k := 4) h3 (fun e => (hc j 4 hj e.symm).2.2.1 rfl), rC_p (k := 9) h4 (fun e => (hc j 9 hj e.symm).2.2.2 rfl)⟩
theorem rM_at {f : Nat → Int32} (h : rM f) (k : Nat) : (k = 2 → 0 ≤ (f k).toInt ∧ (f k).toInt ≤ 400) ∧ (k = 3 → 0 ≤ (f k).toInt ∧ (f k).toInt ≤ 8) ∧ (k = 4 → 0 ≤ (f k).toInt ∧ (f k).toInt ≤ 6) ∧ (k = 9 → 0 ≤ (f k).toInt ∧ (f k).toInt ≤ 60) :=
  ⟨fun e => e ▸ h.1, fun e => e ▸ h.2.1, fun e => e ▸ h.2.2.1, fun e => e ▸ h.2.2.2⟩
theorem rC_sh {f : Nat → Int32} {i x2 : Int32} (h : rC f) (hx : x2.toInt = i.toInt + 379) (h0 : 0 ≤ i.toInt) (h1 : i.toInt < 4169) : rC (upd f i.toNatClampNeg (f x2.toNatClampNeg)) := by
  refine rC_up h (fun j k hj e => ?_)
  rw [zcl] at e ⊢
  have e2 : x2.toInt.toNat = 379 * (j + 1) + k := by omega
  rw [e2]
  by_cases hj2 : j + 1 < 12
  · exact rM_at (h (j + 1) hj2) k
  · refine ⟨fun q => ?_, fun q => ?_, fun q => ?_, fun q => ?_⟩ <;> (exfalso; omega)
theorem rC_st {f g : Nat → Int32} {i k a : Int32} (h : rC f) (hm : rM g) (hi : i.toInt = 379 * a.toInt + k.toInt) (ha : 0 ≤ a.toInt ∧ a.toInt < 12) (hk : 0 ≤ k.toInt ∧ k.toInt < 379) : rC (upd f i.toNatClampNeg (g k.toNatClampNeg)) := by
  refine rC_up h (fun j q hj e => ?_)
  rw [zcl] at e
  have hq : ∀ z : Nat, z < 379 → q = z → k.toNatClampNeg = z := by
    intro z hz hqz; rw [zcl]; omega
  refine ⟨fun e2 => ?_, fun e2 => ?_, fun e2 => ?_, fun e2 => ?_⟩
  · rw [hq 2 (by omega) e2]; exact hm.1
  · rw [hq 3 (by omega) e2]; exact hm.2.1
  · rw [hq 4 (by omega) e2]; exact hm.2.2.1
  · rw [hq 9 (by omega) e2]; exact hm.2.2.2
theorem rM_cq {f g : Nat → Int32} {i k a : Int32} (hm : rM f) (h : rC g) (hi : i.toInt = 379 * a.toInt + k.toInt) (ha : 0 ≤ a.toInt ∧ a.toInt < 12) (hk : 0 ≤ k.toInt ∧ k.toInt < 379) : rM (upd f k.toNatClampNeg (g i.toNatClampNeg)) := by
  have e : i.toNatClampNeg = 379 * a.toInt.toNat + k.toNatClampNeg := by rw [zcl, zcl]; omega
  rw [e]
  exact rM_up hm (rM_at (h a.toInt.toNat (by omega)) k.toNatClampNeg)

