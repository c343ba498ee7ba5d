def bObj (g : zG) (o : Nat) (a : Nat → Nat) (th : Int32) (hi : Int32) (ac : Int32) (tp : Int32) (ba : Int32) (en : Int32) (tA : Int32) (fl : Int32) (de : Int32) (iD : Int32) (iO : Int32) (tU : Int32) : va_W := [(o, .inr (10, [.int th, .ref (a 0), .ref (a 1), .int hi, .ref (a 2), .ref (a 3), .int ac, .ref (a 4), .int tp, .int ba, .int en, .int tA, .int fl, .int de, .ref (a 5), .int iD, .int iO, .int tU, .ref (a 6), .ref (a 7)]))]
def bArr (g : zG) (a : Nat → Nat) (f : Nat → Nat → Int32) : va_W := [(a 0, .inl (g.2 0, 779, .inl (f 0))), (a 1, .inl (g.2 0, 779, .inl (f 1))), (a 2, .inl (g.2 0, 379, .inl (f 2))), (a 3, .inl (g.2 0, 4548, .inl (f 3))), (a 4, .inl (g.2 0, 400, .inl (f 4))), (a 5, .inl (g.2 0, 6, .inl (f 5))), (a 6, .inl (g.2 0, 8, .inl (f 6))), (a 7, .inl (g.2 1, 256, .inl (f 7)))]
/-- what a new model's row says, but its day and its seed -/
def zMo (f : Nat → Int32) : Prop := f 3 = 0 ∧ f 4 = 0 ∧ f 0 = 0 ∧ f 1 = -1 ∧ f 5 = 20 ∧ f 9 = 0
theorem zMo8 {f : Nat → Int32} {v : Int32} (h : zMo f) : zMo (upd f 8 v) := ⟨h.1, h.2.1, h.2.2.1, h.2.2.2.1, h.2.2.2.2.1, h.2.2.2.2.2⟩
theorem zMo10 {f : Nat → Int32} {v : Int32} (h : zMo f) : zMo (upd f 10 v) := ⟨h.1, h.2.1, h.2.2.1, h.2.2.2.1, h.2.2.2.2.1, h.2.2.2.2.2⟩
theorem zMoC {f f2 : Nat → Int32} (e : ∀ k, k < 379 → f2 k = f k) (h : zMo f) : zMo f2 := by
  unfold zMo
  rw [e 3 (by omega), e 4 (by omega), e 0 (by omega), e 1 (by omega), e 5 (by omega), e 9 (by omega)]
  exact h
theorem zst {s g : Nat → Int32} {j : Nat} (h : ∀ k, k < j → s k = g k) : ∀ k, k < j + 1 → upd s j (g j) k = g k := by
  intro k hk
  unfold upd
  by_cases e : k = j
  · rw [if_pos e, e]
  · rw [if_neg e]; exact h k (by omega)
theorem zip {x : Int32} (h : ¬ x < 0 ∧ ¬ -1 < x) : False := by
  have h1 := Int32.not_lt.mp h.1
  exact h.2 (Int32.lt_of_lt_of_le (by decide) h1)
theorem znin (j : Nat) : lN (9 ^ j) * 9 = lN (9 ^ (j + 1)) := by rw [show (9 : Int64) = lN 9 from rfl, lN_mul, Nat.pow_succ]
set_option maxRecDepth 100000 in
set_option maxHeartbeats 4000000 in
theorem m_bits0 (l : Launch) (g : zG)   : zM g l yX12_bits (Cond.code yX12_bits cX12_bits 3 (some .int) :: zB) ({ frames := 0, cells := 0, slots := 0, locals := 0 } : Room) [.int 0] [] (fun _ : Unit => some (.int 0)) (fun _ : Unit => True) (fun _ : Unit => []) := by
  refine zM.of (cc := cX12_bits) (maxL := 3) (rt := (some .int)) (by decide) rfl (Nat.le_of_ble_eq_true rfl) ?_
  intro p e s m args below meth c A ls St hr hlocks hin hK hT hA hP hD hS hl
  obtain ⟨hx, hb, hml, hown, hts⟩ := id St
  have hl : lv_has ls 3 [(0, .int 0)] := hl
  refine lv_iconst (v := 0) hx hb dX12_bits_0 (by decide) ?_
  refine lv_istore_n (lv' := [(1, .int 0), (0, .int 0)]) hx hb dX12_bits_1 rfl hl (by decide) rfl (fun ls hl => ?_)
  refine lv_iconst (v := 0) hx hb dX12_bits_2 (by decide) ?_
  refine lv_istore_n (lv' := [(2, .int 0), (1, .int 0), (0, .int 0)]) hx hb dX12_bits_3 rfl hl (by decide) rfl (fun ls hl => ?_)
  refine lv_iload_n hx hb dX12_bits_4 rfl (lv_at hl 0 rfl) ?_
  refine lv_bipush (v := 31) hx hb dX12_bits_5 (by decide) ?_
  refine lv_icmp_ge (tgt := 24) hx hb dX12_bits_7 (by decide) (fun c1 => absurd c1 (by decide)) (fun _ => ?_)
  refine lv_iload_n hx hb dX12_bits_10 rfl (lv_at hl 1 rfl) ?_
  refine lv_iload_n hx hb dX12_bits_11 rfl (lv_at hl 2 rfl) ?_
  refine lv_iload_n hx hb dX12_bits_12 rfl (lv_at hl 0 rfl) ?_
  refine lv_ishr hx hb dX12_bits_13 ?_
  refine ztop (r := 0) (by decide) ?_
  refine lv_iconst (v := 1) hx hb dX12_bits_14 (by decide) ?_
  refine lv_iand hx hb dX12_bits_15 ?_
  refine ztop (r := 0) (by decide) ?_
  refine lv_iadd hx hb dX12_bits_16 ?_
  refine ztop (r := 0) (by decide) ?_
  refine lv_istore_n (lv' := [(1, .int 0), (2, .int 0), (0, .int 0)]) hx hb dX12_bits_17 rfl hl (by decide) rfl (fun ls hl => ?_)
  refine lv_iinc (v := 1) (lv' := [(2, .int 1), (1, .int 0), (0, .int 0)]) hx hb dX12_bits_18 hl (k := 1) rfl (by decide) (by decide) rfl (fun ls hl => ?_)
  refine lv_goto (tgt := 4) hx hb dX12_bits_21 (by decide) ?_
  refine lv_iload_n hx hb dX12_bits_4 rfl (lv_at hl 0 rfl) ?_
  refine lv_bipush (v := 31) hx hb dX12_bits_5 (by decide) ?_
  refine lv_icmp_ge (tgt := 24) hx hb dX12_bits_7 (by decide) (fun c2 => absurd c2 (by decide)) (fun _ => ?_)
  refine lv_iload_n hx hb dX12_bits_10 rfl (lv_at hl 1 rfl) ?_
  refine lv_iload_n hx hb dX12_bits_11 rfl (lv_at hl 2 rfl) ?_
  refine lv_iload_n hx hb dX12_bits_12 rfl (lv_at hl 0 rfl) ?_
  refine lv_ishr hx hb dX12_bits_13 ?_
  refine ztop (r := 0) (by decide) ?_
  refine lv_iconst (v := 1) hx hb dX12_bits_14 (by decide) ?_
  refine lv_iand hx hb dX12_bits_15 ?_
  refine ztop (r := 0) (by decide) ?_
  refine lv_iadd hx hb dX12_bits_16 ?_
  refine ztop (r := 0) (by decide) ?_
  refine lv_istore_n (lv' := [(1, .int 0), (2, .int 1), (0, .int 0)]) hx hb dX12_bits_17 rfl hl (by decide) rfl (fun ls hl => ?_)
  refine lv_iinc (v := 2) (lv' := [(2, .int 2), (1, .int 0), (0, .int 0)]) hx hb dX12_bits_18 hl (k := 1) rfl (by decide) (by decide) rfl (fun ls hl => ?_)
  refine lv_goto (tgt := 4) hx hb dX12_bits_21 (by decide) ?_
  refine lv_iload_n hx hb dX12_bits_4 rfl (lv_at hl 0 rfl) ?_
  refine lv_bipush (v := 31) hx hb dX12_bits_5 (by decide) ?_
  refine lv_icmp_ge (tgt := 24) hx hb dX12_bits_7 (by decide) (fun c3 => absurd c3 (by decide)) (fun _ => ?_)
  refine lv_iload_n hx hb dX12_bits_10 rfl (lv_at hl 1 rfl) ?_
  refine lv_iload_n hx hb dX12_bits_11 rfl (lv_at hl 2 rfl) ?_
  refine lv_iload_n hx hb dX12_bits_12 rfl (lv_at hl 0 rfl) ?_
  refine lv_ishr hx hb dX12_bits_13 ?_
  refine ztop (r := 0) (by decide) ?_
  refine lv_iconst (v := 1) hx hb dX12_bits_14 (by decide) ?_
  refine lv_iand hx hb dX12_bits_15 ?_
  refine ztop (r := 0) (by decide) ?_
  refine lv_iadd hx hb dX12_bits_16 ?_
  refine ztop (r := 0) (by decide) ?_
  refine lv_istore_n (lv' := [(1, .int 0), (2, .int 2), (0, .int 0)]) hx hb dX12_bits_17 rfl hl (by decide) rfl (fun ls hl => ?_)
  refine lv_iinc (v := 3) (lv' := [(2, .int 3), (1, .int 0), (0, .int 0)]) hx hb dX12_bits_18 hl (k := 1) rfl (by decide) (by decide) rfl (fun ls hl => ?_)
  refine lv_goto (tgt := 4) hx hb dX12_bits_21 (by decide) ?_
  refine lv_iload_n hx hb dX12_bits_4 rfl (lv_at hl 0 rfl) ?_
  refine lv_bipush (v := 31) hx hb dX12_bits_5 (by decide) ?_
  refine lv_icmp_ge (tgt := 24) hx hb dX12_bits_7 (by decide) (fun c4 => absurd c4 (by decide)) (fun _ => ?_)
  refine lv_iload_n hx hb dX12_bits_10 rfl (lv_at hl 1 rfl) ?_
  refine lv_iload_n hx hb dX12_bits_11 rfl (lv_at hl 2 rfl) ?_
  refine lv_iload_n hx hb dX12_bits_12 rfl (lv_at hl 0 rfl) ?_
  refine lv_ishr hx hb dX12_bits_13 ?_
  refine ztop (r := 0) (by decide) ?_
  refine lv_iconst (v := 1) hx hb dX12_bits_14 (by decide) ?_
  refine lv_iand hx hb dX12_bits_15 ?_
  refine ztop (r := 0) (by decide) ?_
  refine lv_iadd hx hb dX12_bits_16 ?_
  refine ztop (r := 0) (by decide) ?_
  refine lv_istore_n (lv' := [(1, .int 0), (2, .int 3), (0, .int 0)]) hx hb dX12_bits_17 rfl hl (by decide) rfl (fun ls hl => ?_)
  refine lv_iinc (v := 4) (lv' := [(2, .int 4), (1, .int 0), (0, .int 0)]) hx hb dX12_bits_18 hl (k := 1) rfl (by decide) (by decide) rfl (fun ls hl => ?_)
  refine lv_goto (tgt := 4) hx hb dX12_bits_21 (by decide) ?_
  refine lv_iload_n hx hb dX12_bits_4 rfl (lv_at hl 0 rfl) ?_
  refine lv_bipush (v := 31) hx hb dX12_bits_5 (by decide) ?_
  refine lv_icmp_ge (tgt := 24) hx hb dX12_bits_7 (by decide) (fun c5 => absurd c5 (by decide)) (fun _ => ?_)
  refine lv_iload_n hx hb dX12_bits_10 rfl (lv_at hl 1 rfl) ?_
  refine lv_iload_n hx hb dX12_bits_11 rfl (lv_at hl 2 rfl) ?_
  refine lv_iload_n hx hb dX12_bits_12 rfl (lv_at hl 0 rfl) ?_
  refine lv_ishr hx hb dX12_bits_13 ?_
  refine ztop (r := 0) (by decide) ?_
  refine lv_iconst (v := 1) hx hb dX12_bits_14 (by decide) ?_
  refine lv_iand hx hb dX12_bits_15 ?_
  refine ztop (r := 0) (by decide) ?_
  refine lv_iadd hx hb dX12_bits_16 ?_
  refine ztop (r := 0) (by decide) ?_
  refine lv_istore_n (lv' := [(1, .int 0), (2, .int 4), (0, .int 0)]) hx hb dX12_bits_17 rfl hl (by decide) rfl (fun ls hl => ?_)
  refine lv_iinc (v := 5) (lv' := [(2, .int 5), (1, .int 0), (0, .int 0)]) hx hb dX12_bits_18 hl (k := 1) rfl (by decide) (by decide) rfl (fun ls hl => ?_)
  refine lv_goto (tgt := 4) hx hb dX12_bits_21 (by decide) ?_
  refine lv_iload_n hx hb dX12_bits_4 rfl (lv_at hl 0 rfl) ?_
  refine lv_bipush (v := 31) hx hb dX12_bits_5 (by decide) ?_
  refine lv_icmp_ge (tgt := 24) hx hb dX12_bits_7 (by decide) (fun c6 => absurd c6 (by decide)) (fun _ => ?_)
  refine lv_iload_n hx hb dX12_bits_10 rfl (lv_at hl 1 rfl) ?_
  refine lv_iload_n hx hb dX12_bits_11 rfl (lv_at hl 2 rfl) ?_
  refine lv_iload_n hx hb dX12_bits_12 rfl (lv_at hl 0 rfl) ?_
  refine lv_ishr hx hb dX12_bits_13 ?_
  refine ztop (r := 0) (by decide) ?_
  refine lv_iconst (v := 1) hx hb dX12_bits_14 (by decide) ?_
  refine lv_iand hx hb dX12_bits_15 ?_
  refine ztop (r := 0) (by decide) ?_
  refine lv_iadd hx hb dX12_bits_16 ?_
  refine ztop (r := 0) (by decide) ?_
  refine lv_istore_n (lv' := [(1, .int 0), (2, .int 5), (0, .int 0)]) hx hb dX12_bits_17 rfl hl (by decide) rfl (fun ls hl => ?_)
  refine lv_iinc (v := 6) (lv' := [(2, .int 6), (1, .int 0), (0, .int 0)]) hx hb dX12_bits_18 hl (k := 1) rfl (by decide) (by decide) rfl (fun ls hl => ?_)
  refine lv_goto (tgt := 4) hx hb dX12_bits_21 (by decide) ?_
  refine lv_iload_n hx hb dX12_bits_4 rfl (lv_at hl 0 rfl) ?_
  refine lv_bipush (v := 31) hx hb dX12_bits_5 (by decide) ?_
  refine lv_icmp_ge (tgt := 24) hx hb dX12_bits_7 (by decide) (fun c7 => absurd c7 (by decide)) (fun _ => ?_)
  refine lv_iload_n hx hb dX12_bits_10 rfl (lv_at hl 1 rfl) ?_
  refine lv_iload_n hx hb dX12_bits_11 rfl (lv_at hl 2 rfl) ?_
  refine lv_iload_n hx hb dX12_bits_12 rfl (lv_at hl 0 rfl) ?_
  refine lv_ishr hx hb dX12_bits_13 ?_
  refine ztop (r := 0) (by decide) ?_
  refine lv_iconst (v := 1) hx hb dX12_bits_14 (by decide) ?_
  refine lv_iand hx hb dX12_bits_15 ?_
  refine ztop (r := 0) (by decide) ?_
  refine lv_iadd hx hb dX12_bits_16 ?_
  refine ztop (r := 0) (by decide) ?_
  refine lv_istore_n (lv' := [(1, .int 0), (2, .int 6), (0, .int 0)]) hx hb dX12_bits_17 rfl hl (by decide) rfl (fun ls hl => ?_)
  refine lv_iinc (v := 7) (lv' := [(2, .int 7), (1, .int 0), (0, .int 0)]) hx hb dX12_bits_18 hl (k := 1) rfl (by decide) (by decide) rfl (fun ls hl => ?_)
  refine lv_goto (tgt := 4) hx hb dX12_bits_21 (by decide) ?_
  refine lv_iload_n hx hb dX12_bits_4 rfl (lv_at hl 0 rfl) ?_
  refine lv_bipush (v := 31) hx hb dX12_bits_5 (by decide) ?_
  refine lv_icmp_ge (tgt := 24) hx hb dX12_bits_7 (by decide) (fun c8 => absurd c8 (by decide)) (fun _ => ?_)
  refine lv_iload_n hx hb dX12_bits_10 rfl (lv_at hl 1 rfl) ?_
  refine lv_iload_n hx hb dX12_bits_11 rfl (lv_at hl 2 rfl) ?_
  refine lv_iload_n hx hb dX12_bits_12 rfl (lv_at hl 0 rfl) ?_
  refine lv_ishr hx hb dX12_bits_13 ?_
  refine ztop (r := 0) (by decide) ?_
  refine lv_iconst (v := 1) hx hb dX12_bits_14 (by decide) ?_
  refine lv_iand hx hb dX12_bits_15 ?_
  refine ztop (r := 0) (by decide) ?_
  refine lv_iadd hx hb dX12_bits_16 ?_
  refine ztop (r := 0) (by decide) ?_
  refine lv_istore_n (lv' := [(1, .int 0), (2, .int 7), (0, .int 0)]) hx hb dX12_bits_17 rfl hl (by decide) rfl (fun ls hl => ?_)
  refine lv_iinc (v := 8) (lv' := [(2, .int 8), (1, .int 0), (0, .int 0)]) hx hb dX12_bits_18 hl (k := 1) rfl (by decide) (by decide) rfl (fun ls hl => ?_)
  refine lv_goto (tgt := 4) hx hb dX12_bits_21 (by decide) ?_
  refine lv_iload_n hx hb dX12_bits_4 rfl (lv_at hl 0 rfl) ?_
  refine lv_bipush (v := 31) hx hb dX12_bits_5 (by decide) ?_
  refine lv_icmp_ge (tgt := 24) hx hb dX12_bits_7 (by decide) (fun c9 => absurd c9 (by decide)) (fun _ => ?_)
  refine lv_iload_n hx hb dX12_bits_10 rfl (lv_at hl 1 rfl) ?_
  refine lv_iload_n hx hb dX12_bits_11 rfl (lv_at hl 2 rfl) ?_
  refine lv_iload_n hx hb dX12_bits_12 rfl (lv_at hl 0 rfl) ?_
  refine lv_ishr hx hb dX12_bits_13 ?_
  refine ztop (r := 0) (by decide) ?_
  refine lv_iconst (v := 1) hx hb dX12_bits_14 (by decide) ?_
  refine lv_iand hx hb dX12_bits_15 ?_
  refine ztop (r := 0) (by decide) ?_
  refine lv_iadd hx hb dX12_bits_16 ?_
  refine ztop (r := 0) (by decide) ?_
  refine lv_istore_n (lv' := [(1, .int 0), (2, .int 8), (0, .int 0)]) hx hb dX12_bits_17 rfl hl (by decide) rfl (fun ls hl => ?_)
  refine lv_iinc (v := 9) (lv' := [(2, .int 9), (1, .int 0), (0, .int 0)]) hx hb dX12_bits_18 hl (k := 1) rfl (by decide) (by decide) rfl (fun ls hl => ?_)
  refine lv_goto (tgt := 4) hx hb dX12_bits_21 (by decide) ?_
  refine lv_iload_n hx hb dX12_bits_4 rfl (lv_at hl 0 rfl) ?_
  refine lv_bipush (v := 31) hx hb dX12_bits_5 (by decide) ?_
  refine lv_icmp_ge (tgt := 24) hx hb dX12_bits_7 (by decide) (fun c10 => absurd c10 (by decide)) (fun _ => ?_)
  refine lv_iload_n hx hb dX12_bits_10 rfl (lv_at hl 1 rfl) ?_
  refine lv_iload_n hx hb dX12_bits_11 rfl (lv_at hl 2 rfl) ?_
  refine lv_iload_n hx hb dX12_bits_12 rfl (lv_at hl 0 rfl) ?_
  refine lv_ishr hx hb dX12_bits_13 ?_
  refine ztop (r := 0) (by decide) ?_
  refine lv_iconst (v := 1) hx hb dX12_bits_14 (by decide) ?_
  refine lv_iand hx hb dX12_bits_15 ?_
  refine ztop (r := 0) (by decide) ?_
  refine lv_iadd hx hb dX12_bits_16 ?_
  refine ztop (r := 0) (by decide) ?_
  refine lv_istore_n (lv' := [(1, .int 0), (2, .int 9), (0, .int 0)]) hx hb dX12_bits_17 rfl hl (by decide) rfl (fun ls hl => ?_)
  refine lv_iinc (v := 10) (lv' := [(2, .int 10), (1, .int 0), (0, .int 0)]) hx hb dX12_bits_18 hl (k := 1) rfl (by decide) (by decide) rfl (fun ls hl => ?_)
  refine lv_goto (tgt := 4) hx hb dX12_bits_21 (by decide) ?_
  refine lv_iload_n hx hb dX12_bits_4 rfl (lv_at hl 0 rfl) ?_
  refine lv_bipush (v := 31) hx hb dX12_bits_5 (by decide) ?_
  refine lv_icmp_ge (tgt := 24) hx hb dX12_bits_7 (by decide) (fun c11 => absurd c11 (by decide)) (fun _ => ?_)
  refine lv_iload_n hx hb dX12_bits_10 rfl (lv_at hl 1 rfl) ?_
  refine lv_iload_n hx hb dX12_bits_11 rfl (lv_at hl 2 rfl) ?_
  refine lv_iload_n hx hb dX12_bits_12 rfl (lv_at hl 0 rfl) ?_
  refine lv_ishr hx hb dX12_bits_13 ?_
  refine ztop (r := 0) (by decide) ?_
  refine lv_iconst (v := 1) hx hb dX12_bits_14 (by decide) ?_
  refine lv_iand hx hb dX12_bits_15 ?_
  refine ztop (r := 0) (by decide) ?_
  refine lv_iadd hx hb dX12_bits_16 ?_
  refine ztop (r := 0) (by decide) ?_
  refine lv_istore_n (lv' := [(1, .int 0), (2, .int 10), (0, .int 0)]) hx hb dX12_bits_17 rfl hl (by decide) rfl (fun ls hl => ?_)
  refine lv_iinc (v := 11) (lv' := [(2, .int 11), (1, .int 0), (0, .int 0)]) hx hb dX12_bits_18 hl (k := 1) rfl (by decide) (by decide) rfl (fun ls hl => ?_)
  refine lv_goto (tgt := 4) hx hb dX12_bits_21 (by decide) ?_
  refine lv_iload_n hx hb dX12_bits_4 rfl (lv_at hl 0 rfl) ?_
  refine lv_bipush (v := 31) hx hb dX12_bits_5 (by decide) ?_
  refine lv_icmp_ge (tgt := 24) hx hb dX12_bits_7 (by decide) (fun c12 => absurd c12 (by decide)) (fun _ => ?_)
  refine lv_iload_n hx hb dX12_bits_10 rfl (lv_at hl 1 rfl) ?_
  refine lv_iload_n hx hb dX12_bits_11 rfl (lv_at hl 2 rfl) ?_
  refine lv_iload_n hx hb dX12_bits_12 rfl (lv_at hl 0 rfl) ?_
  refine lv_ishr hx hb dX12_bits_13 ?_
  refine ztop (r := 0) (by decide) ?_
  refine lv_iconst (v := 1) hx hb dX12_bits_14 (by decide) ?_
  refine lv_iand hx hb dX12_bits_15 ?_
  refine ztop (r := 0) (by decide) ?_
  refine lv_iadd hx hb dX12_bits_16 ?_
  refine ztop (r := 0) (by decide) ?_
  refine lv_istore_n (lv' := [(1, .int 0), (2, .int 11), (0, .int 0)]) hx hb dX12_bits_17 rfl hl (by decide) rfl (fun ls hl => ?_)
  refine lv_iinc (v := 12) (lv' := [(2, .int 12), (1, .int 0), (0, .int 0)]) hx hb dX12_bits_18 hl (k := 1) rfl (by decide) (by decide) rfl (fun ls hl => ?_)
  refine lv_goto (tgt := 4) hx hb dX12_bits_21 (by decide) ?_
  refine lv_iload_n hx hb dX12_bits_4 rfl (lv_at hl 0 rfl) ?_
  refine lv_bipush (v := 31) hx hb dX12_bits_5 (by decide) ?_
  refine lv_icmp_ge (tgt := 24) hx hb dX12_bits_7 (by decide) (fun c13 => absurd c13 (by decide)) (fun _ => ?_)
  refine lv_iload_n hx hb dX12_bits_10 rfl (lv_at hl 1 rfl) ?_
  refine lv_iload_n hx hb dX12_bits_11 rfl (lv_at hl 2 rfl) ?_
  refine lv_iload_n hx hb dX12_bits_12 rfl (lv_at hl 0 rfl) ?_
  refine lv_ishr hx hb dX12_bits_13 ?_
  refine ztop (r := 0) (by decide) ?_
  refine lv_iconst (v := 1) hx hb dX12_bits_14 (by decide) ?_
  refine lv_iand hx hb dX12_bits_15 ?_
  refine ztop (r := 0) (by decide) ?_
  refine lv_iadd hx hb dX12_bits_16 ?_
  refine ztop (r := 0) (by decide) ?_
  refine lv_istore_n (lv' := [(1, .int 0), (2, .int 12), (0, .int 0)]) hx hb dX12_bits_17 rfl hl (by decide) rfl (fun ls hl => ?_)
  refine lv_iinc (v := 13) (lv' := [(2, .int 13), (1, .int 0), (0, .int 0)]) hx hb dX12_bits_18 hl (k := 1) rfl (by decide) (by decide) rfl (fun ls hl => ?_)
  refine lv_goto (tgt := 4) hx hb dX12_bits_21 (by decide) ?_
  refine lv_iload_n hx hb dX12_bits_4 rfl (lv_at hl 0 rfl) ?_
  refine lv_bipush (v := 31) hx hb dX12_bits_5 (by decide) ?_
  refine lv_icmp_ge (tgt := 24) hx hb dX12_bits_7 (by decide) (fun c14 => absurd c14 (by decide)) (fun _ => ?_)
  refine lv_iload_n hx hb dX12_bits_10 rfl (lv_at hl 1 rfl) ?_
  refine lv_iload_n hx hb dX12_bits_11 rfl (lv_at hl 2 rfl) ?_
  refine lv_iload_n hx hb dX12_bits_12 rfl (lv_at hl 0 rfl) ?_
  refine lv_ishr hx hb dX12_bits_13 ?_
  refine ztop (r := 0) (by decide) ?_
  refine lv_iconst (v := 1) hx hb dX12_bits_14 (by decide) ?_
  refine lv_iand hx hb dX12_bits_15 ?_
  refine ztop (r := 0) (by decide) ?_
  refine lv_iadd hx hb dX12_bits_16 ?_
  refine ztop (r := 0) (by decide) ?_
  refine lv_istore_n (lv' := [(1, .int 0), (2, .int 13), (0, .int 0)]) hx hb dX12_bits_17 rfl hl (by decide) rfl (fun ls hl => ?_)
  refine lv_iinc (v := 14) (lv' := [(2, .int 14), (1, .int 0), (0, .int 0)]) hx hb dX12_bits_18 hl (k := 1) rfl (by decide) (by decide) rfl (fun ls hl => ?_)
  refine lv_goto (tgt := 4) hx hb dX12_bits_21 (by decide) ?_
  refine lv_iload_n hx hb dX12_bits_4 rfl (lv_at hl 0 rfl) ?_
  refine lv_bipush (v := 31) hx hb dX12_bits_5 (by decide) ?_
  refine lv_icmp_ge (tgt := 24) hx hb dX12_bits_7 (by decide) (fun c15 => absurd c15 (by decide)) (fun _ => ?_)
  refine lv_iload_n hx hb dX12_bits_10 rfl (lv_at hl 1 rfl) ?_
  refine lv_iload_n hx hb dX12_bits_11 rfl (lv_at hl 2 rfl) ?_
  refine lv_iload_n hx hb dX12_bits_12 rfl (lv_at hl 0 rfl) ?_
  refine lv_ishr hx hb dX12_bits_13 ?_
  refine ztop (r := 0) (by decide) ?_
  refine lv_iconst (v := 1) hx hb dX12_bits_14 (by decide) ?_
  refine lv_iand hx hb dX12_bits_15 ?_
  refine ztop (r := 0) (by decide) ?_
  refine lv_iadd hx hb dX12_bits_16 ?_
  refine ztop (r := 0) (by decide) ?_
  refine lv_istore_n (lv' := [(1, .int 0), (2, .int 14), (0, .int 0)]) hx hb dX12_bits_17 rfl hl (by decide) rfl (fun ls hl => ?_)
  refine lv_iinc (v := 15) (lv' := [(2, .int 15), (1, .int 0), (0, .int 0)]) hx hb dX12_bits_18 hl (k := 1) rfl (by decide) (by decide) rfl (fun ls hl => ?_)
  refine lv_goto (tgt := 4) hx hb dX12_bits_21 (by decide) ?_
  refine lv_iload_n hx hb dX12_bits_4 rfl (lv_at hl 0 rfl) ?_
  refine lv_bipush (v := 31) hx hb dX12_bits_5 (by decide) ?_
  refine lv_icmp_ge (tgt := 24) hx hb dX12_bits_7 (by decide) (fun c16 => absurd c16 (by decide)) (fun _ => ?_)
  refine lv_iload_n hx hb dX12_bits_10 rfl (lv_at hl 1 rfl) ?_
  refine lv_iload_n hx hb dX12_bits_11 rfl (lv_at hl 2 rfl) ?_
  refine lv_iload_n hx hb dX12_bits_12 rfl (lv_at hl 0 rfl) ?_
  refine lv_ishr hx hb dX12_bits_13 ?_
  refine ztop (r := 0) (by decide) ?_
  refine lv_iconst (v := 1) hx hb dX12_bits_14 (by decide) ?_
  refine lv_iand hx hb dX12_bits_15 ?_
  refine ztop (r := 0) (by decide) ?_
  refine lv_iadd hx hb dX12_bits_16 ?_
  refine ztop (r := 0) (by decide) ?_
  refine lv_istore_n (lv' := [(1, .int 0), (2, .int 15), (0, .int 0)]) hx hb dX12_bits_17 rfl hl (by decide) rfl (fun ls hl => ?_)
  refine lv_iinc (v := 16) (lv' := [(2, .int 16), (1, .int 0), (0, .int 0)]) hx hb dX12_bits_18 hl (k := 1) rfl (by decide) (by decide) rfl (fun ls hl => ?_)
  refine lv_goto (tgt := 4) hx hb dX12_bits_21 (by decide) ?_
  refine lv_iload_n hx hb dX12_bits_4 rfl (lv_at hl 0 rfl) ?_
  refine lv_bipush (v := 31) hx hb dX12_bits_5 (by decide) ?_
  refine lv_icmp_ge (tgt := 24) hx hb dX12_bits_7 (by decide) (fun c17 => absurd c17 (by decide)) (fun _ => ?_)
  refine lv_iload_n hx hb dX12_bits_10 rfl (lv_at hl 1 rfl) ?_
  refine lv_iload_n hx hb dX12_bits_11 rfl (lv_at hl 2 rfl) ?_
  refine lv_iload_n hx hb dX12_bits_12 rfl (lv_at hl 0 rfl) ?_
  refine lv_ishr hx hb dX12_bits_13 ?_
  refine ztop (r := 0) (by decide) ?_
  refine lv_iconst (v := 1) hx hb dX12_bits_14 (by decide) ?_
  refine lv_iand hx hb dX12_bits_15 ?_
  refine ztop (r := 0) (by decide) ?_
  refine lv_iadd hx hb dX12_bits_16 ?_
  refine ztop (r := 0) (by decide) ?_
  refine lv_istore_n (lv' := [(1, .int 0), (2, .int 16), (0, .int 0)]) hx hb dX12_bits_17 rfl hl (by decide) rfl (fun ls hl => ?_)
  refine lv_iinc (v := 17) (lv' := [(2, .int 17), (1, .int 0), (0, .int 0)]) hx hb dX12_bits_18 hl (k := 1) rfl (by decide) (by decide) rfl (fun ls hl => ?_)
  refine lv_goto (tgt := 4) hx hb dX12_bits_21 (by decide) ?_
  refine lv_iload_n hx hb dX12_bits_4 rfl (lv_at hl 0 rfl) ?_
  refine lv_bipush (v := 31) hx hb dX12_bits_5 (by decide) ?_
  refine lv_icmp_ge (tgt := 24) hx hb dX12_bits_7 (by decide) (fun c18 => absurd c18 (by decide)) (fun _ => ?_)
  refine lv_iload_n hx hb dX12_bits_10 rfl (lv_at hl 1 rfl) ?_
  refine lv_iload_n hx hb dX12_bits_11 rfl (lv_at hl 2 rfl) ?_
  refine lv_iload_n hx hb dX12_bits_12 rfl (lv_at hl 0 rfl) ?_
  refine lv_ishr hx hb dX12_bits_13 ?_
  refine ztop (r := 0) (by decide) ?_
  refine lv_iconst (v := 1) hx hb dX12_bits_14 (by decide) ?_
  refine lv_iand hx hb dX12_bits_15 ?_
  refine ztop (r := 0) (by decide) ?_
  refine lv_iadd hx hb dX12_bits_16 ?_
  refine ztop (r := 0) (by decide) ?_
  refine lv_istore_n (lv' := [(1, .int 0), (2, .int 17), (0, .int 0)]) hx hb dX12_bits_17 rfl hl (by decide) rfl (fun ls hl => ?_)
  refine lv_iinc (v := 18) (lv' := [(2, .int 18), (1, .int 0), (0, .int 0)]) hx hb dX12_bits_18 hl (k := 1) rfl (by decide) (by decide) rfl (fun ls hl => ?_)
  refine lv_goto (tgt := 4) hx hb dX12_bits_21 (by decide) ?_
  refine lv_iload_n hx hb dX12_bits_4 rfl (lv_at hl 0 rfl) ?_
  refine lv_bipush (v := 31) hx hb dX12_bits_5 (by decide) ?_
  refine lv_icmp_ge (tgt := 24) hx hb dX12_bits_7 (by decide) (fun c19 => absurd c19 (by decide)) (fun _ => ?_)
  refine lv_iload_n hx hb dX12_bits_10 rfl (lv_at hl 1 rfl) ?_
  refine lv_iload_n hx hb dX12_bits_11 rfl (lv_at hl 2 rfl) ?_
  refine lv_iload_n hx hb dX12_bits_12 rfl (lv_at hl 0 rfl) ?_
  refine lv_ishr hx hb dX12_bits_13 ?_
  refine ztop (r := 0) (by decide) ?_
  refine lv_iconst (v := 1) hx hb dX12_bits_14 (by decide) ?_
  refine lv_iand hx hb dX12_bits_15 ?_
  refine ztop (r := 0) (by decide) ?_
  refine lv_iadd hx hb dX12_bits_16 ?_
  refine ztop (r := 0) (by decide) ?_
  refine lv_istore_n (lv' := [(1, .int 0), (2, .int 18), (0, .int 0)]) hx hb dX12_bits_17 rfl hl (by decide) rfl (fun ls hl => ?_)
  refine lv_iinc (v := 19) (lv' := [(2, .int 19), (1, .int 0), (0, .int 0)]) hx hb dX12_bits_18 hl (k := 1) rfl (by decide) (by decide) rfl (fun ls hl => ?_)
  refine lv_goto (tgt := 4) hx hb dX12_bits_21 (by decide) ?_
  refine lv_iload_n hx hb dX12_bits_4 rfl (lv_at hl 0 rfl) ?_
  refine lv_bipush (v := 31) hx hb dX12_bits_5 (by decide) ?_
  refine lv_icmp_ge (tgt := 24) hx hb dX12_bits_7 (by decide) (fun c20 => absurd c20 (by decide)) (fun _ => ?_)
  refine lv_iload_n hx hb dX12_bits_10 rfl (lv_at hl 1 rfl) ?_
  refine lv_iload_n hx hb dX12_bits_11 rfl (lv_at hl 2 rfl) ?_
  refine lv_iload_n hx hb dX12_bits_12 rfl (lv_at hl 0 rfl) ?_
  refine lv_ishr hx hb dX12_bits_13 ?_
  refine ztop (r := 0) (by decide) ?_
  refine lv_iconst (v := 1) hx hb dX12_bits_14 (by decide) ?_
  refine lv_iand hx hb dX12_bits_15 ?_
  refine ztop (r := 0) (by decide) ?_
  refine lv_iadd hx hb dX12_bits_16 ?_
  refine ztop (r := 0) (by decide) ?_
  refine lv_istore_n (lv' := [(1, .int 0), (2, .int 19), (0, .int 0)]) hx hb dX12_bits_17 rfl hl (by decide) rfl (fun ls hl => ?_)
  refine lv_iinc (v := 20) (lv' := [(2, .int 20), (1, .int 0), (0, .int 0)]) hx hb dX12_bits_18 hl (k := 1) rfl (by decide) (by decide) rfl (fun ls hl => ?_)
  refine lv_goto (tgt := 4) hx hb dX12_bits_21 (by decide) ?_
  refine lv_iload_n hx hb dX12_bits_4 rfl (lv_at hl 0 rfl) ?_
  refine lv_bipush (v := 31) hx hb dX12_bits_5 (by decide) ?_
  refine lv_icmp_ge (tgt := 24) hx hb dX12_bits_7 (by decide) (fun c21 => absurd c21 (by decide)) (fun _ => ?_)
  refine lv_iload_n hx hb dX12_bits_10 rfl (lv_at hl 1 rfl) ?_
  refine lv_iload_n hx hb dX12_bits_11 rfl (lv_at hl 2 rfl) ?_
  refine lv_iload_n hx hb dX12_bits_12 rfl (lv_at hl 0 rfl) ?_
  refine lv_ishr hx hb dX12_bits_13 ?_
  refine ztop (r := 0) (by decide) ?_
  refine lv_iconst (v := 1) hx hb dX12_bits_14 (by decide) ?_
  refine lv_iand hx hb dX12_bits_15 ?_
  refine ztop (r := 0) (by decide) ?_
  refine lv_iadd hx hb dX12_bits_16 ?_
  refine ztop (r := 0) (by decide) ?_
  refine lv_istore_n (lv' := [(1, .int 0), (2, .int 20), (0, .int 0)]) hx hb dX12_bits_17 rfl hl (by decide) rfl (fun ls hl => ?_)
  refine lv_iinc (v := 21) (lv' := [(2, .int 21), (1, .int 0), (0, .int 0)]) hx hb dX12_bits_18 hl (k := 1) rfl (by decide) (by decide) rfl (fun ls hl => ?_)
  refine lv_goto (tgt := 4) hx hb dX12_bits_21 (by decide) ?_
  refine lv_iload_n hx hb dX12_bits_4 rfl (lv_at hl 0 rfl) ?_
  refine lv_bipush (v := 31) hx hb dX12_bits_5 (by decide) ?_
  refine lv_icmp_ge (tgt := 24) hx hb dX12_bits_7 (by decide) (fun c22 => absurd c22 (by decide)) (fun _ => ?_)
  refine lv_iload_n hx hb dX12_bits_10 rfl (lv_at hl 1 rfl) ?_
  refine lv_iload_n hx hb dX12_bits_11 rfl (lv_at hl 2 rfl) ?_
  refine lv_iload_n hx hb dX12_bits_12 rfl (lv_at hl 0 rfl) ?_
  refine lv_ishr hx hb dX12_bits_13 ?_
  refine ztop (r := 0) (by decide) ?_
  refine lv_iconst (v := 1) hx hb dX12_bits_14 (by decide) ?_
  refine lv_iand hx hb dX12_bits_15 ?_
  refine ztop (r := 0) (by decide) ?_
  refine lv_iadd hx hb dX12_bits_16 ?_
  refine ztop (r := 0) (by decide) ?_
  refine lv_istore_n (lv' := [(1, .int 0), (2, .int 21), (0, .int 0)]) hx hb dX12_bits_17 rfl hl (by decide) rfl (fun ls hl => ?_)
  refine lv_iinc (v := 22) (lv' := [(2, .int 22), (1, .int 0), (0, .int 0)]) hx hb dX12_bits_18 hl (k := 1) rfl (by decide) (by decide) rfl (fun ls hl => ?_)
  refine lv_goto (tgt := 4) hx hb dX12_bits_21 (by decide) ?_
  refine lv_iload_n hx hb dX12_bits_4 rfl (lv_at hl 0 rfl) ?_
  refine lv_bipush (v := 31) hx hb dX12_bits_5 (by decide) ?_
  refine lv_icmp_ge (tgt := 24) hx hb dX12_bits_7 (by decide) (fun c23 => absurd c23 (by decide)) (fun _ => ?_)
  refine lv_iload_n hx hb dX12_bits_10 rfl (lv_at hl 1 rfl) ?_
  refine lv_iload_n hx hb dX12_bits_11 rfl (lv_at hl 2 rfl) ?_
  refine lv_iload_n hx hb dX12_bits_12 rfl (lv_at hl 0 rfl) ?_
  refine lv_ishr hx hb dX12_bits_13 ?_
  refine ztop (r := 0) (by decide) ?_
  refine lv_iconst (v := 1) hx hb dX12_bits_14 (by decide) ?_
  refine lv_iand hx hb dX12_bits_15 ?_
  refine ztop (r := 0) (by decide) ?_
  refine lv_iadd hx hb dX12_bits_16 ?_
  refine ztop (r := 0) (by decide) ?_
  refine lv_istore_n (lv' := [(1, .int 0), (2, .int 22), (0, .int 0)]) hx hb dX12_bits_17 rfl hl (by decide) rfl (fun ls hl => ?_)
  refine lv_iinc (v := 23) (lv' := [(2, .int 23), (1, .int 0), (0, .int 0)]) hx hb dX12_bits_18 hl (k := 1) rfl (by decide) (by decide) rfl (fun ls hl => ?_)
  refine lv_goto (tgt := 4) hx hb dX12_bits_21 (by decide) ?_
  refine lv_iload_n hx hb dX12_bits_4 rfl (lv_at hl 0 rfl) ?_
  refine lv_bipush (v := 31) hx hb dX12_bits_5 (by decide) ?_
  refine lv_icmp_ge (tgt := 24) hx hb dX12_bits_7 (by decide) (fun c24 => absurd c24 (by decide)) (fun _ => ?_)
  refine lv_iload_n hx hb dX12_bits_10 rfl (lv_at hl 1 rfl) ?_
  refine lv_iload_n hx hb dX12_bits_11 rfl (lv_at hl 2 rfl) ?_
  refine lv_iload_n hx hb dX12_bits_12 rfl (lv_at hl 0 rfl) ?_
  refine lv_ishr hx hb dX12_bits_13 ?_
  refine ztop (r := 0) (by decide) ?_
  refine lv_iconst (v := 1) hx hb dX12_bits_14 (by decide) ?_
  refine lv_iand hx hb dX12_bits_15 ?_
  refine ztop (r := 0) (by decide) ?_
  refine lv_iadd hx hb dX12_bits_16 ?_
  refine ztop (r := 0) (by decide) ?_
  refine lv_istore_n (lv' := [(1, .int 0), (2, .int 23), (0, .int 0)]) hx hb dX12_bits_17 rfl hl (by decide) rfl (fun ls hl => ?_)
  refine lv_iinc (v := 24) (lv' := [(2, .int 24), (1, .int 0), (0, .int 0)]) hx hb dX12_bits_18 hl (k := 1) rfl (by decide) (by decide) rfl (fun ls hl => ?_)
  refine lv_goto (tgt := 4) hx hb dX12_bits_21 (by decide) ?_
  refine lv_iload_n hx hb dX12_bits_4 rfl (lv_at hl 0 rfl) ?_
  refine lv_bipush (v := 31) hx hb dX12_bits_5 (by decide) ?_
  refine lv_icmp_ge (tgt := 24) hx hb dX12_bits_7 (by decide) (fun c25 => absurd c25 (by decide)) (fun _ => ?_)
  refine lv_iload_n hx hb dX12_bits_10 rfl (lv_at hl 1 rfl) ?_
  refine lv_iload_n hx hb dX12_bits_11 rfl (lv_at hl 2 rfl) ?_
  refine lv_iload_n hx hb dX12_bits_12 rfl (lv_at hl 0 rfl) ?_
  refine lv_ishr hx hb dX12_bits_13 ?_
  refine ztop (r := 0) (by decide) ?_
  refine lv_iconst (v := 1) hx hb dX12_bits_14 (by decide) ?_
  refine lv_iand hx hb dX12_bits_15 ?_
  refine ztop (r := 0) (by decide) ?_
  refine lv_iadd hx hb dX12_bits_16 ?_
  refine ztop (r := 0) (by decide) ?_
  refine lv_istore_n (lv' := [(1, .int 0), (2, .int 24), (0, .int 0)]) hx hb dX12_bits_17 rfl hl (by decide) rfl (fun ls hl => ?_)
  refine lv_iinc (v := 25) (lv' := [(2, .int 25), (1, .int 0), (0, .int 0)]) hx hb dX12_bits_18 hl (k := 1) rfl (by decide) (by decide) rfl (fun ls hl => ?_)
  refine lv_goto (tgt := 4) hx hb dX12_bits_21 (by decide) ?_
  refine lv_iload_n hx hb dX12_bits_4 rfl (lv_at hl 0 rfl) ?_
  refine lv_bipush (v := 31) hx hb dX12_bits_5 (by decide) ?_
  refine lv_icmp_ge (tgt := 24) hx hb dX12_bits_7 (by decide) (fun c26 => absurd c26 (by decide)) (fun _ => ?_)
  refine lv_iload_n hx hb dX12_bits_10 rfl (lv_at hl 1 rfl) ?_
  refine lv_iload_n hx hb dX12_bits_11 rfl (lv_at hl 2 rfl) ?_
  refine lv_iload_n hx hb dX12_bits_12 rfl (lv_at hl 0 rfl) ?_
  refine lv_ishr hx hb dX12_bits_13 ?_
  refine ztop (r := 0) (by decide) ?_
  refine lv_iconst (v := 1) hx hb dX12_bits_14 (by decide) ?_
  refine lv_iand hx hb dX12_bits_15 ?_
  refine ztop (r := 0) (by decide) ?_
  refine lv_iadd hx hb dX12_bits_16 ?_
  refine ztop (r := 0) (by decide) ?_
  refine lv_istore_n (lv' := [(1, .int 0), (2, .int 25), (0, .int 0)]) hx hb dX12_bits_17 rfl hl (by decide) rfl (fun ls hl => ?_)
  refine lv_iinc (v := 26) (lv' := [(2, .int 26), (1, .int 0), (0, .int 0)]) hx hb dX12_bits_18 hl (k := 1) rfl (by decide) (by decide) rfl (fun ls hl => ?_)
  refine lv_goto (tgt := 4) hx hb dX12_bits_21 (by decide) ?_
  refine lv_iload_n hx hb dX12_bits_4 rfl (lv_at hl 0 rfl) ?_
  refine lv_bipush (v := 31) hx hb dX12_bits_5 (by decide) ?_
  refine lv_icmp_ge (tgt := 24) hx hb dX12_bits_7 (by decide) (fun c27 => absurd c27 (by decide)) (fun _ => ?_)
  refine lv_iload_n hx hb dX12_bits_10 rfl (lv_at hl 1 rfl) ?_
  refine lv_iload_n hx hb dX12_bits_11 rfl (lv_at hl 2 rfl) ?_
  refine lv_iload_n hx hb dX12_bits_12 rfl (lv_at hl 0 rfl) ?_
  refine lv_ishr hx hb dX12_bits_13 ?_
  refine ztop (r := 0) (by decide) ?_
  refine lv_iconst (v := 1) hx hb dX12_bits_14 (by decide) ?_
  refine lv_iand hx hb dX12_bits_15 ?_
  refine ztop (r := 0) (by decide) ?_
  refine lv_iadd hx hb dX12_bits_16 ?_
  refine ztop (r := 0) (by decide) ?_
  refine lv_istore_n (lv' := [(1, .int 0), (2, .int 26), (0, .int 0)]) hx hb dX12_bits_17 rfl hl (by decide) rfl (fun ls hl => ?_)
  refine lv_iinc (v := 27) (lv' := [(2, .int 27), (1, .int 0), (0, .int 0)]) hx hb dX12_bits_18 hl (k := 1) rfl (by decide) (by decide) rfl (fun ls hl => ?_)
  refine lv_goto (tgt := 4) hx hb dX12_bits_21 (by decide) ?_
  refine lv_iload_n hx hb dX12_bits_4 rfl (lv_at hl 0 rfl) ?_
  refine lv_bipush (v := 31) hx hb dX12_bits_5 (by decide) ?_
  refine lv_icmp_ge (tgt := 24) hx hb dX12_bits_7 (by decide) (fun c28 => absurd c28 (by decide)) (fun _ => ?_)
  refine lv_iload_n hx hb dX12_bits_10 rfl (lv_at hl 1 rfl) ?_
  refine lv_iload_n hx hb dX12_bits_11 rfl (lv_at hl 2 rfl) ?_
  refine lv_iload_n hx hb dX12_bits_12 rfl (lv_at hl 0 rfl) ?_
  refine lv_ishr hx hb dX12_bits_13 ?_
  refine ztop (r := 0) (by decide) ?_
  refine lv_iconst (v := 1) hx hb dX12_bits_14 (by decide) ?_
  refine lv_iand hx hb dX12_bits_15 ?_
  refine ztop (r := 0) (by decide) ?_
  refine lv_iadd hx hb dX12_bits_16 ?_
  refine ztop (r := 0) (by decide) ?_
  refine lv_istore_n (lv' := [(1, .int 0), (2, .int 27), (0, .int 0)]) hx hb dX12_bits_17 rfl hl (by decide) rfl (fun ls hl => ?_)
  refine lv_iinc (v := 28) (lv' := [(2, .int 28), (1, .int 0), (0, .int 0)]) hx hb dX12_bits_18 hl (k := 1) rfl (by decide) (by decide) rfl (fun ls hl => ?_)
  refine lv_goto (tgt := 4) hx hb dX12_bits_21 (by decide) ?_
  refine lv_iload_n hx hb dX12_bits_4 rfl (lv_at hl 0 rfl) ?_
  refine lv_bipush (v := 31) hx hb dX12_bits_5 (by decide) ?_
  refine lv_icmp_ge (tgt := 24) hx hb dX12_bits_7 (by decide) (fun c29 => absurd c29 (by decide)) (fun _ => ?_)
  refine lv_iload_n hx hb dX12_bits_10 rfl (lv_at hl 1 rfl) ?_
  refine lv_iload_n hx hb dX12_bits_11 rfl (lv_at hl 2 rfl) ?_
  refine lv_iload_n hx hb dX12_bits_12 rfl (lv_at hl 0 rfl) ?_
  refine lv_ishr hx hb dX12_bits_13 ?_
  refine ztop (r := 0) (by decide) ?_
  refine lv_iconst (v := 1) hx hb dX12_bits_14 (by decide) ?_
  refine lv_iand hx hb dX12_bits_15 ?_
  refine ztop (r := 0) (by decide) ?_
  refine lv_iadd hx hb dX12_bits_16 ?_
  refine ztop (r := 0) (by decide) ?_
  refine lv_istore_n (lv' := [(1, .int 0), (2, .int 28), (0, .int 0)]) hx hb dX12_bits_17 rfl hl (by decide) rfl (fun ls hl => ?_)
  refine lv_iinc (v := 29) (lv' := [(2, .int 29), (1, .int 0), (0, .int 0)]) hx hb dX12_bits_18 hl (k := 1) rfl (by decide) (by decide) rfl (fun ls hl => ?_)
  refine lv_goto (tgt := 4) hx hb dX12_bits_21 (by decide) ?_
  refine lv_iload_n hx hb dX12_bits_4 rfl (lv_at hl 0 rfl) ?_
  refine lv_bipush (v := 31) hx hb dX12_bits_5 (by decide) ?_
  refine lv_icmp_ge (tgt := 24) hx hb dX12_bits_7 (by decide) (fun c30 => absurd c30 (by decide)) (fun _ => ?_)
  refine lv_iload_n hx hb dX12_bits_10 rfl (lv_at hl 1 rfl) ?_
  refine lv_iload_n hx hb dX12_bits_11 rfl (lv_at hl 2 rfl) ?_
  refine lv_iload_n hx hb dX12_bits_12 rfl (lv_at hl 0 rfl) ?_
  refine lv_ishr hx hb dX12_bits_13 ?_
  refine ztop (r := 0) (by decide) ?_
  refine lv_iconst (v := 1) hx hb dX12_bits_14 (by decide) ?_
  refine lv_iand hx hb dX12_bits_15 ?_
  refine ztop (r := 0) (by decide) ?_
  refine lv_iadd hx hb dX12_bits_16 ?_
  refine ztop (r := 0) (by decide) ?_
  refine lv_istore_n (lv' := [(1, .int 0), (2, .int 29), (0, .int 0)]) hx hb dX12_bits_17 rfl hl (by decide) rfl (fun ls hl => ?_)
  refine lv_iinc (v := 30) (lv' := [(2, .int 30), (1, .int 0), (0, .int 0)]) hx hb dX12_bits_18 hl (k := 1) rfl (by decide) (by decide) rfl (fun ls hl => ?_)
  refine lv_goto (tgt := 4) hx hb dX12_bits_21 (by decide) ?_
  refine lv_iload_n hx hb dX12_bits_4 rfl (lv_at hl 0 rfl) ?_
  refine lv_bipush (v := 31) hx hb dX12_bits_5 (by decide) ?_
  refine lv_icmp_ge (tgt := 24) hx hb dX12_bits_7 (by decide) (fun c31 => absurd c31 (by decide)) (fun _ => ?_)
  refine lv_iload_n hx hb dX12_bits_10 rfl (lv_at hl 1 rfl) ?_
  refine lv_iload_n hx hb dX12_bits_11 rfl (lv_at hl 2 rfl) ?_
  refine lv_iload_n hx hb dX12_bits_12 rfl (lv_at hl 0 rfl) ?_
  refine lv_ishr hx hb dX12_bits_13 ?_
  refine ztop (r := 0) (by decide) ?_
  refine lv_iconst (v := 1) hx hb dX12_bits_14 (by decide) ?_
  refine lv_iand hx hb dX12_bits_15 ?_
  refine ztop (r := 0) (by decide) ?_
  refine lv_iadd hx hb dX12_bits_16 ?_
  refine ztop (r := 0) (by decide) ?_
  refine lv_istore_n (lv' := [(1, .int 0), (2, .int 30), (0, .int 0)]) hx hb dX12_bits_17 rfl hl (by decide) rfl (fun ls hl => ?_)
  refine lv_iinc (v := 31) (lv' := [(2, .int 31), (1, .int 0), (0, .int 0)]) hx hb dX12_bits_18 hl (k := 1) rfl (by decide) (by decide) rfl (fun ls hl => ?_)
  refine lv_goto (tgt := 4) hx hb dX12_bits_21 (by decide) ?_
  refine lv_iload_n hx hb dX12_bits_4 rfl (lv_at hl 0 rfl) ?_
  refine lv_bipush (v := 31) hx hb dX12_bits_5 (by decide) ?_
  refine lv_icmp_ge (tgt := 24) hx hb dX12_bits_7 (by decide) (fun _ => ?_) (fun c32 => absurd (by decide) c32)
  refine lv_iload_n hx hb dX12_bits_24 rfl (lv_at hl 1 rfl) ?_
  have hP : va_P g.1 vwCl (List.flatten []) s.heap := hP
  have hD : va_D A (List.flatten []) := hD
  exact mret_i hx hb hr hlocks hS (Nat.le_of_ble_eq_true rfl) (Nat.le_of_ble_eq_true rfl) dX12_bits_25 () rfl trivial hP hD
set_option maxRecDepth 100000 in
set_option maxHeartbeats 4000000 in
theorem m_hereOnes (l : Launch) (g : zG) (o : Nat) (a : Nat → Nat) (th : Int32) (hi : Int32) (ac : Int32) (tp : Int32) (ba : Int32) (en : Int32) (tA : Int32) (fl : Int32) (de : Int32) (iD : Int32) (iO : Int32) (tU : Int32) (f : Nat → Nat → Int32) (hm : zMo (f 0)) : zM g l yX12_hereOnes (Cond.code yX12_hereOnes cX12_hereOnes 3 (some .int) :: zB) ({ frames := 0, cells := 0, slots := 0, locals := 0 } : Room) [.ref o] [bObj g o a th hi ac tp ba en tA fl de iD iO tU, bArr g a f] (fun _ : Unit => some (.int 0)) (fun _ : Unit => True) (fun _ : Unit => [bObj g o a th hi ac tp ba en tA fl de iD iO tU, bArr g a f]) := by
  refine zM.of (cc := cX12_hereOnes) (maxL := 3) (rt := (some .int)) (by decide) rfl (Nat.le_of_ble_eq_true rfl) ?_
  intro p e s m args below meth c A ls St hr hlocks hin hK hT hA hP hD hS hl
  obtain ⟨hx, hb, hml, hown, hts⟩ := id St
  have hl : lv_has ls 3 [(0, .ref o)] := hl
  refine lv_iconst (v := 0) hx hb dX12_hereOnes_0 (by decide) ?_
  refine lv_istore_n (lv' := [(1, .int 0), (0, .ref o)]) hx hb dX12_hereOnes_1 rfl hl (by decide) rfl (fun ls hl => ?_)
  refine lv_iconst (v := 0) hx hb dX12_hereOnes_2 (by decide) ?_
  refine lv_istore_n (lv' := [(2, .int 0), (1, .int 0), (0, .ref o)]) hx hb dX12_hereOnes_3 rfl hl (by decide) rfl (fun ls hl => ?_)
  refine lv_iload_n hx hb dX12_hereOnes_4 rfl (lv_at hl 0 rfl) ?_
  refine lv_aload_n hx hb dX12_hereOnes_5 rfl (lv_at hl 2 rfl) ?_
  refine va_get (D := g.1) (ci := 10) (v := .ref (a 0)) (C := RX12) (T := TX12) (N := 20) hx hb hts izRX12 hown hK hP 0 rfl rfl 1 (by decide) (hts _ k815) (fun _ h9 => h9) rfl dX12_hereOnes_6 ?_
  refine lv_iconst (v := 3) hx hb dX12_hereOnes_9 (by decide) ?_
  refine va_iald hx hb hK hP 1 0 rfl rfl (zin rfl) dX12_hereOnes_10 ?_
  refine ztop (r := (f 0) 3) rfl ?_
  refine ztop (r := 0) hm.1 ?_
  refine lv_icmp_ge (tgt := 38) hx hb dX12_hereOnes_11 (by decide) (fun _ => ?_) (fun c1 => absurd (by decide) c1)
  refine lv_iload_n hx hb dX12_hereOnes_38 rfl (lv_at hl 1 rfl) ?_
  have hP : va_P g.1 vwCl (List.flatten [bObj g o a th hi ac tp ba en tA fl de iD iO tU, bArr g a f]) s.heap := hP
  have hD : va_D A (List.flatten [bObj g o a th hi ac tp ba en tA fl de iD iO tU, bArr g a f]) := hD
  exact mret_i hx hb hr hlocks hS (Nat.le_of_ble_eq_true rfl) (Nat.le_of_ble_eq_true rfl) dX12_hereOnes_39 () rfl trivial hP hD
set_option maxRecDepth 100000 in
set_option maxHeartbeats 4000000 in
theorem m_believed (l : Launch) (g : zG) (o : Nat) (a : Nat → Nat) (th : Int32) (hi : Int32) (ac : Int32) (tp : Int32) (ba : Int32) (en : Int32) (tA : Int32) (fl : Int32) (de : Int32) (iD : Int32) (iO : Int32) (tU : Int32) (f : Nat → Nat → Int32) (hm : zMo (f 0)) : zM g l yX12_believed (Cond.code yX12_believed cX12_believed 3 (some .int) :: zB) ({ frames := 0, cells := 0, slots := 0, locals := 0 } : Room) [.ref o] [bObj g o a th hi ac tp ba en tA fl de iD iO tU, bArr g a f] (fun _ : Unit => some (.int 0)) (fun _ : Unit => True) (fun _ : Unit => [bObj g o a th hi ac tp ba en tA fl de iD iO tU, bArr g a f]) := by
  refine zM.of (cc := cX12_believed) (maxL := 3) (rt := (some .int)) (by decide) rfl (Nat.le_of_ble_eq_true rfl) ?_
  intro p e s m args below meth c A ls St hr hlocks hin hK hT hA hP hD hS hl
  obtain ⟨hx, hb, hml, hown, hts⟩ := id St
  have hl : lv_has ls 3 [(0, .ref o)] := hl
  refine lv_iconst (v := 0) hx hb dX12_believed_0 (by decide) ?_
  refine lv_istore_n (lv' := [(1, .int 0), (0, .ref o)]) hx hb dX12_believed_1 rfl hl (by decide) rfl (fun ls hl => ?_)
  refine lv_iconst (v := 0) hx hb dX12_believed_2 (by decide) ?_
  refine lv_istore_n (lv' := [(2, .int 0), (1, .int 0), (0, .ref o)]) hx hb dX12_believed_3 rfl hl (by decide) rfl (fun ls hl => ?_)
  refine lv_iload_n hx hb dX12_believed_4 rfl (lv_at hl 0 rfl) ?_
  refine lv_aload_n hx hb dX12_believed_5 rfl (lv_at hl 2 rfl) ?_
  refine va_get (D := g.1) (ci := 10) (v := .ref (a 0)) (C := RX12) (T := TX12) (N := 20) hx hb hts izRX12 hown hK hP 0 rfl rfl 1 (by decide) (hts _ k815) (fun _ h9 => h9) rfl dX12_believed_6 ?_
  refine lv_iconst (v := 3) hx hb dX12_believed_9 (by decide) ?_
  refine va_iald hx hb hK hP 1 0 rfl rfl (zin rfl) dX12_believed_10 ?_
  refine ztop (r := (f 0) 3) rfl ?_
  refine ztop (r := 0) hm.1 ?_
  refine lv_icmp_ge (tgt := 41) hx hb dX12_believed_11 (by decide) (fun _ => ?_) (fun c1 => absurd (by decide) c1)
  refine lv_iload_n hx hb dX12_believed_41 rfl (lv_at hl 1 rfl) ?_
  have hP : va_P g.1 vwCl (List.flatten [bObj g o a th hi ac tp ba en tA fl de iD iO tU, bArr g a f]) s.heap := hP
  have hD : va_D A (List.flatten [bObj g o a th hi ac tp ba en tA fl de iD iO tU, bArr g a f]) := hD
  exact mret_i hx hb hr hlocks hS (Nat.le_of_ble_eq_true rfl) (Nat.le_of_ble_eq_true rfl) dX12_believed_42 () rfl trivial hP hD
set_option maxRecDepth 100000 in
set_option maxHeartbeats 4000000 in
theorem m_mean (l : Launch) (g : zG) (o : Nat) (a : Nat → Nat) (th : Int32) (hi : Int32) (ac : Int32) (tp : Int32) (ba : Int32) (en : Int32) (tA : Int32) (fl : Int32) (de : Int32) (iD : Int32) (iO : Int32) (tU : Int32) (f : Nat → Nat → Int32) (hm : zMo (f 0)) : zM g l yX12_mean (Cond.code yX12_mean cX12_mean 2 (some .int) :: zB) ({ frames := 1, cells := 0, slots := 0, locals := 22 } : Room) [.ref o] [bObj g o a th hi ac tp ba en tA fl de iD iO tU, bArr g a f] (fun _ : Unit => some (.int 0)) (fun _ : Unit => True) (fun _ : Unit => [bObj g o a th hi ac tp ba en tA fl de iD iO tU, bArr g a f]) := by
  refine zM.of (cc := cX12_mean) (maxL := 2) (rt := (some .int)) (by decide) rfl (Nat.le_of_ble_eq_true rfl) ?_
  intro p e s m args below meth c A ls St hr hlocks hin hK hT hA hP hD hS hl
  obtain ⟨hx, hb, hml, hown, hts⟩ := id St
  have hl : lv_has ls 2 [(0, .ref o)] := hl
  refine lv_aload_n hx hb dX12_mean_0 rfl (lv_at hl 0 rfl) ?_
  refine mcallV (g := g) (q0 := 0) (ci := 10) (As := []) (rest := []) St hK hT hA hP hD hS hl.1 [0, 1] [] rfl rfl rfl (m_hereOnes l g o a th hi ac tp ba en tA fl de iD iO tU f (by assumption)) (cwV 0 hts (zgL (zl4 k846 k847 k848 k833) k835) rfl rfl rfl (by decide +kernel) ⟨Nat.le_of_ble_eq_true rfl, Nat.le_of_ble_eq_true rfl⟩) rfl rfl rfl rfl (Nat.le_of_ble_eq_true rfl) dX12_mean_1 ⟨(Nat.le_of_ble_eq_true rfl), (Nat.le_of_ble_eq_true rfl)⟩ (fun _u H locs hq1 hP hD hS => ?_)
  have hP : va_P g.1 vwCl (List.flatten [bObj g o a th hi ac tp ba en tA fl de iD iO tU, bArr g a f]) H := hP
  have hD : va_D A (List.flatten [bObj g o a th hi ac tp ba en tA fl de iD iO tU, bArr g a f]) := hD
  refine W.widen (k := 0) (n := 0) (Nat.le_of_ble_eq_true rfl) (Nat.le_of_ble_eq_true rfl) ?_
  refine W.eq (g2 := F0 m 4 ls [.int 0]) rfl ?_
  refine mcallS (g := g) (As := [.int 0]) (rest := []) St hK hT hA hP hD hS hl.1 [] [0, 1] rfl rfl rfl (m_bits0 l g  ) (va_cwS 1 hts (zgL (zl3 k849 k850 k833) k829) rfl rfl rfl (by decide +kernel) ⟨Nat.le_of_ble_eq_true rfl, Nat.le_of_ble_eq_true rfl⟩) rfl rfl (Nat.le_of_ble_eq_true rfl) dX12_mean_4 ⟨(Nat.le_of_ble_eq_true rfl), (Nat.le_of_ble_eq_true rfl)⟩ (fun _u H locs hq2 hP hD hS => ?_)
  have hP : va_P g.1 vwCl (List.flatten [bObj g o a th hi ac tp ba en tA fl de iD iO tU, bArr g a f]) H := hP
  have hD : va_D A (List.flatten [bObj g o a th hi ac tp ba en tA fl de iD iO tU, bArr g a f]) := hD
  refine W.widen (k := 0) (n := 0) (Nat.le_of_ble_eq_true rfl) (Nat.le_of_ble_eq_true rfl) ?_
  refine W.eq (g2 := F0 m 7 ls [.int 0]) rfl ?_
  refine lv_istore_n (lv' := [(1, .int 0), (0, .ref o)]) hx hb dX12_mean_7 rfl hl (by decide) rfl (fun ls hl => ?_)
  refine lv_iload_n hx hb dX12_mean_8 rfl (lv_at hl 0 rfl) ?_
  refine lv_if_ne (tgt := 16) hx hb dX12_mean_9 (by decide) (fun c3 => absurd (by decide) c3) (fun _ => ?_)
  refine lv_iconst (v := 0) hx hb dX12_mean_12 (by decide) ?_
  refine lv_goto (tgt := 22) hx hb dX12_mean_13 (by decide) ?_
  have hP : va_P g.1 vwCl (List.flatten [bObj g o a th hi ac tp ba en tA fl de iD iO tU, bArr g a f]) H := hP
  have hD : va_D A (List.flatten [bObj g o a th hi ac tp ba en tA fl de iD iO tU, bArr g a f]) := hD
  exact mret_i hx hb hr hlocks hS (Nat.le_of_ble_eq_true rfl) (Nat.le_of_ble_eq_true rfl) dX12_mean_22 () rfl trivial hP hD
set_option maxRecDepth 100000 in
set_option maxHeartbeats 4000000 in
theorem m_priceNow (l : Launch) (g : zG) (o : Nat) (a : Nat → Nat) (th : Int32) (hi : Int32) (ac : Int32) (tp : Int32) (ba : Int32) (en : Int32) (tA : Int32) (fl : Int32) (de : Int32) (iD : Int32) (iO : Int32) (tU : Int32) (f : Nat → Nat → Int32) (hm : zMo (f 0)) : zM g l yX12_priceNow (Cond.code yX12_priceNow cX12_priceNow 1 (some .int) :: zB) ({ frames := 2, cells := 0, slots := 0, locals := 43 } : Room) [.ref o] [bObj g o a th hi ac tp ba en tA fl de iD iO tU, bArr g a f] (fun _ : Unit => some (.int 1)) (fun _ : Unit => True) (fun _ : Unit => [bObj g o a th hi ac tp ba en tA fl de iD iO tU, bArr g a f]) := by
  refine zM.of (cc := cX12_priceNow) (maxL := 1) (rt := (some .int)) (by decide) rfl (Nat.le_of_ble_eq_true rfl) ?_
  intro p e s m args below meth c A ls St hr hlocks hin hK hT hA hP hD hS hl
  obtain ⟨hx, hb, hml, hown, hts⟩ := id St
  have hl : lv_has ls 1 [(0, .ref o)] := hl
  refine lv_aload_n hx hb dX12_priceNow_0 rfl (lv_at hl 0 rfl) ?_
  refine mcallV (g := g) (q0 := 0) (ci := 10) (As := []) (rest := []) St hK hT hA hP hD hS hl.1 [0, 1] [] rfl rfl rfl (m_mean l g o a th hi ac tp ba en tA fl de iD iO tU f (by assumption)) (cwV 0 hts (zgL (zl4 k854 k855 k856 k833) k845) rfl rfl rfl (by decide +kernel) ⟨Nat.le_of_ble_eq_true rfl, Nat.le_of_ble_eq_true rfl⟩) rfl rfl rfl rfl (Nat.le_of_ble_eq_true rfl) dX12_priceNow_1 ⟨(Nat.le_of_ble_eq_true rfl), (Nat.le_of_ble_eq_true rfl)⟩ (fun _u H locs hq1 hP hD hS => ?_)
  have hP : va_P g.1 vwCl (List.flatten [bObj g o a th hi ac tp ba en tA fl de iD iO tU, bArr g a f]) H := hP
  have hD : va_D A (List.flatten [bObj g o a th hi ac tp ba en tA fl de iD iO tU, bArr g a f]) := hD
  refine W.widen (k := 0) (n := 0) (Nat.le_of_ble_eq_true rfl) (Nat.le_of_ble_eq_true rfl) ?_
  refine W.eq (g2 := F0 m 4 ls [.int 0]) rfl ?_
  refine lv_aload_n hx hb dX12_priceNow_4 rfl (lv_at hl 0 rfl) ?_
  refine mcallV (g := g) (q0 := 0) (ci := 10) (As := []) (rest := [.int 0]) St hK hT hA hP hD hS hl.1 [0, 1] [] rfl rfl rfl (m_mean l g o a th hi ac tp ba en tA fl de iD iO tU f (by assumption)) (cwV 0 hts (zgL (zl4 k854 k855 k856 k833) k845) rfl rfl rfl (by decide +kernel) ⟨Nat.le_of_ble_eq_true rfl, Nat.le_of_ble_eq_true rfl⟩) rfl rfl rfl rfl (Nat.le_of_ble_eq_true rfl) dX12_priceNow_5 ⟨(Nat.le_of_ble_eq_true rfl), (Nat.le_of_ble_eq_true rfl)⟩ (fun _u H locs hq2 hP hD hS => ?_)
  have hP : va_P g.1 vwCl (List.flatten [bObj g o a th hi ac tp ba en tA fl de iD iO tU, bArr g a f]) H := hP
  have hD : va_D A (List.flatten [bObj g o a th hi ac tp ba en tA fl de iD iO tU, bArr g a f]) := hD
  refine W.widen (k := 0) (n := 0) (Nat.le_of_ble_eq_true rfl) (Nat.le_of_ble_eq_true rfl) ?_
  refine W.eq (g2 := F0 m 8 ls [.int 0, .int 0]) rfl ?_
  refine lv_imul hx hb dX12_priceNow_8 ?_
  refine ztop (r := 0) (by decide) ?_
  refine lv_bipush (v := 50) hx hb dX12_priceNow_9 (by decide) ?_
  refine lv_idiv hx hb dX12_priceNow_11 (by decide) ?_
  refine ztop (r := 0) (by decide) ?_
  refine lv_iconst (v := 1) hx hb dX12_priceNow_12 (by decide) ?_
  refine lv_iadd hx hb dX12_priceNow_13 ?_
  refine ztop (r := 1) (by decide) ?_
  have hP : va_P g.1 vwCl (List.flatten [bObj g o a th hi ac tp ba en tA fl de iD iO tU, bArr g a f]) H := hP
  have hD : va_D A (List.flatten [bObj g o a th hi ac tp ba en tA fl de iD iO tU, bArr g a f]) := hD
  exact mret_i hx hb hr hlocks hS (Nat.le_of_ble_eq_true rfl) (Nat.le_of_ble_eq_true rfl) dX12_priceNow_14 () rfl trivial hP hD
set_option maxRecDepth 100000 in
set_option maxHeartbeats 4000000 in
theorem m_doubtsNow (l : Launch) (g : zG) (o : Nat) (a : Nat → Nat) (th : Int32) (hi : Int32) (ac : Int32) (tp : Int32) (ba : Int32) (en : Int32) (tA : Int32) (fl : Int32) (de : Int32) (iD : Int32) (iO : Int32) (tU : Int32) (f : Nat → Nat → Int32) (hm : zMo (f 0)) : zM g l yX12_doubtsNow (Cond.code yX12_doubtsNow cX12_doubtsNow 3 (some .int) :: zB) ({ frames := 0, cells := 0, slots := 0, locals := 0 } : Room) [.ref o] [bObj g o a th hi ac tp ba en tA fl de iD iO tU, bArr g a f] (fun _ : Unit => some (.int 0)) (fun _ : Unit => True) (fun _ : Unit => [bObj g o a th hi ac tp ba en tA fl de iD iO tU, bArr g a f]) := by
  refine zM.of (cc := cX12_doubtsNow) (maxL := 3) (rt := (some .int)) (by decide) rfl (Nat.le_of_ble_eq_true rfl) ?_
  intro p e s m args below meth c A ls St hr hlocks hin hK hT hA hP hD hS hl
  obtain ⟨hx, hb, hml, hown, hts⟩ := id St
  have hl : lv_has ls 3 [(0, .ref o)] := hl
  refine lv_iconst (v := 0) hx hb dX12_doubtsNow_0 (by decide) ?_
  refine lv_istore_n (lv' := [(1, .int 0), (0, .ref o)]) hx hb dX12_doubtsNow_1 rfl hl (by decide) rfl (fun ls hl => ?_)
  refine lv_iconst (v := 0) hx hb dX12_doubtsNow_2 (by decide) ?_
  refine lv_istore_n (lv' := [(2, .int 0), (1, .int 0), (0, .ref o)]) hx hb dX12_doubtsNow_3 rfl hl (by decide) rfl (fun ls hl => ?_)
  refine lv_iload_n hx hb dX12_doubtsNow_4 rfl (lv_at hl 0 rfl) ?_
  refine lv_aload_n hx hb dX12_doubtsNow_5 rfl (lv_at hl 2 rfl) ?_
  refine va_get (D := g.1) (ci := 10) (v := .ref (a 0)) (C := RX12) (T := TX12) (N := 20) hx hb hts izRX12 hown hK hP 0 rfl rfl 1 (by decide) (hts _ k815) (fun _ h9 => h9) rfl dX12_doubtsNow_6 ?_
  refine lv_iconst (v := 3) hx hb dX12_doubtsNow_9 (by decide) ?_
  refine va_iald hx hb hK hP 1 0 rfl rfl (zin rfl) dX12_doubtsNow_10 ?_
  refine ztop (r := (f 0) 3) rfl ?_
  refine ztop (r := 0) hm.1 ?_
  refine lv_icmp_ge (tgt := 49) hx hb dX12_doubtsNow_11 (by decide) (fun _ => ?_) (fun c1 => absurd (by decide) c1)
  refine lv_iload_n hx hb dX12_doubtsNow_49 rfl (lv_at hl 1 rfl) ?_
  have hP : va_P g.1 vwCl (List.flatten [bObj g o a th hi ac tp ba en tA fl de iD iO tU, bArr g a f]) s.heap := hP
  have hD : va_D A (List.flatten [bObj g o a th hi ac tp ba en tA fl de iD iO tU, bArr g a f]) := hD
  exact mret_i hx hb hr hlocks hS (Nat.le_of_ble_eq_true rfl) (Nat.le_of_ble_eq_true rfl) dX12_doubtsNow_50 () rfl trivial hP hD
set_option maxRecDepth 100000 in
set_option maxHeartbeats 4000000 in
theorem m_sharesOfAll (l : Launch) (g : zG) (o : Nat) (a : Nat → Nat) (th : Int32) (hi : Int32) (ac : Int32) (tp : Int32) (ba : Int32) (en : Int32) (tA : Int32) (fl : Int32) (de : Int32) (iD : Int32) (iO : Int32) (tU : Int32) (f : Nat → Nat → Int32) (hm : zMo (f 0)) : zM g l yX12_sharesOfAll (Cond.code yX12_sharesOfAll cX12_sharesOfAll 3 (some .int) :: zB) ({ frames := 0, cells := 0, slots := 0, locals := 0 } : Room) [.ref o] [bObj g o a th hi ac tp ba en tA fl de iD iO tU, bArr g a f] (fun _ : Unit => some (.int 0)) (fun _ : Unit => True) (fun _ : Unit => [bObj g o a th hi ac tp ba en tA fl de iD iO tU, bArr g a f]) := by
  refine zM.of (cc := cX12_sharesOfAll) (maxL := 3) (rt := (some .int)) (by decide) rfl (Nat.le_of_ble_eq_true rfl) ?_
  intro p e s m args below meth c A ls St hr hlocks hin hK hT hA hP hD hS hl
  obtain ⟨hx, hb, hml, hown, hts⟩ := id St
  have hl : lv_has ls 3 [(0, .ref o)] := hl
  refine lv_iconst (v := 0) hx hb dX12_sharesOfAll_0 (by decide) ?_
  refine lv_istore_n (lv' := [(1, .int 0), (0, .ref o)]) hx hb dX12_sharesOfAll_1 rfl hl (by decide) rfl (fun ls hl => ?_)
  refine lv_iconst (v := 0) hx hb dX12_sharesOfAll_2 (by decide) ?_
  refine lv_istore_n (lv' := [(2, .int 0), (1, .int 0), (0, .ref o)]) hx hb dX12_sharesOfAll_3 rfl hl (by decide) rfl (fun ls hl => ?_)
  refine lv_iload_n hx hb dX12_sharesOfAll_4 rfl (lv_at hl 0 rfl) ?_
  refine lv_aload_n hx hb dX12_sharesOfAll_5 rfl (lv_at hl 2 rfl) ?_
  refine va_get (D := g.1) (ci := 10) (v := .ref (a 0)) (C := RX12) (T := TX12) (N := 20) hx hb hts izRX12 hown hK hP 0 rfl rfl 1 (by decide) (hts _ k815) (fun _ h9 => h9) rfl dX12_sharesOfAll_6 ?_
  refine lv_iconst (v := 3) hx hb dX12_sharesOfAll_9 (by decide) ?_
  refine va_iald hx hb hK hP 1 0 rfl rfl (zin rfl) dX12_sharesOfAll_10 ?_
  refine ztop (r := (f 0) 3) rfl ?_
  refine ztop (r := 0) hm.1 ?_
  refine lv_icmp_ge (tgt := 29) hx hb dX12_sharesOfAll_11 (by decide) (fun _ => ?_) (fun c1 => absurd (by decide) c1)
  refine lv_iload_n hx hb dX12_sharesOfAll_29 rfl (lv_at hl 1 rfl) ?_
  have hP : va_P g.1 vwCl (List.flatten [bObj g o a th hi ac tp ba en tA fl de iD iO tU, bArr g a f]) s.heap := hP
  have hD : va_D A (List.flatten [bObj g o a th hi ac tp ba en tA fl de iD iO tU, bArr g a f]) := hD
  exact mret_i hx hb hr hlocks hS (Nat.le_of_ble_eq_true rfl) (Nat.le_of_ble_eq_true rfl) dX12_sharesOfAll_30 () rfl trivial hP hD
set_option maxRecDepth 100000 in
set_option maxHeartbeats 4000000 in
theorem m_worksOf (l : Launch) (g : zG) (o : Nat) (a : Nat → Nat) (th : Int32) (hi : Int32) (ac : Int32) (tp : Int32) (ba : Int32) (en : Int32) (tA : Int32) (fl : Int32) (de : Int32) (iD : Int32) (iO : Int32) (tU : Int32) (f : Nat → Nat → Int32) (st0 : Int32) (hm : zMo (f 0)) : zM g l yX12_worksOf (Cond.code yX12_worksOf cX12_worksOf 4 (some .int) :: zB) ({ frames := 0, cells := 0, slots := 0, locals := 0 } : Room) [.ref o, .int st0] [bObj g o a th hi ac tp ba en tA fl de iD iO tU, bArr g a f] (fun _ : Unit => some (.int 0)) (fun _ : Unit => True) (fun _ : Unit => [bObj g o a th hi ac tp ba en tA fl de iD iO tU, bArr g a f]) := by
  refine zM.of (cc := cX12_worksOf) (maxL := 4) (rt := (some .int)) (by decide) rfl (Nat.le_of_ble_eq_true rfl) ?_
  intro p e s m args below meth c A ls St hr hlocks hin hK hT hA hP hD hS hl
  obtain ⟨hx, hb, hml, hown, hts⟩ := id St
  have hl : lv_has ls 4 [(0, .ref o), (1, .int st0)] := hl
  refine lv_iconst (v := 0) hx hb dX12_worksOf_0 (by decide) ?_
  refine lv_istore_n (lv' := [(2, .int 0), (0, .ref o), (1, .int st0)]) hx hb dX12_worksOf_1 rfl hl (by decide) rfl (fun ls hl => ?_)
  refine lv_iconst (v := 0) hx hb dX12_worksOf_2 (by decide) ?_
  refine lv_istore_n (lv' := [(3, .int 0), (2, .int 0), (0, .ref o), (1, .int st0)]) hx hb dX12_worksOf_3 rfl hl (by decide) rfl (fun ls hl => ?_)
  refine lv_iload_n hx hb dX12_worksOf_4 rfl (lv_at hl 0 rfl) ?_
  refine lv_aload_n hx hb dX12_worksOf_5 rfl (lv_at hl 2 rfl) ?_
  refine va_get (D := g.1) (ci := 10) (v := .ref (a 0)) (C := RX12) (T := TX12) (N := 20) hx hb hts izRX12 hown hK hP 0 rfl rfl 1 (by decide) (hts _ k815) (fun _ h9 => h9) rfl dX12_worksOf_6 ?_
  refine lv_iconst (v := 4) hx hb dX12_worksOf_9 (by decide) ?_
  refine va_iald hx hb hK hP 1 0 rfl rfl (zin rfl) dX12_worksOf_10 ?_
  refine ztop (r := (f 0) 4) rfl ?_
  refine ztop (r := 0) hm.2.1 ?_
  refine lv_icmp_ge (tgt := 40) hx hb dX12_worksOf_11 (by decide) (fun _ => ?_) (fun c1 => absurd (by decide) c1)
  refine lv_iload_n hx hb dX12_worksOf_40 rfl (lv_at hl 1 rfl) ?_
  have hP : va_P g.1 vwCl (List.flatten [bObj g o a th hi ac tp ba en tA fl de iD iO tU, bArr g a f]) s.heap := hP
  have hD : va_D A (List.flatten [bObj g o a th hi ac tp ba en tA fl de iD iO tU, bArr g a f]) := hD
  exact mret_i hx hb hr hlocks hS (Nat.le_of_ble_eq_true rfl) (Nat.le_of_ble_eq_true rfl) dX12_worksOf_41 () rfl trivial hP hD
set_option maxRecDepth 100000 in
set_option maxHeartbeats 4000000 in
theorem m_sumOf (l : Launch) (g : zG) (o : Nat) (a : Nat → Nat) (th : Int32) (hi : Int32) (ac : Int32) (tp : Int32) (ba : Int32) (en : Int32) (tA : Int32) (fl : Int32) (de : Int32) (iD : Int32) (iO : Int32) (tU : Int32) (f : Nat → Nat → Int32) (s0 : Int32) (w0 : Int32) (hm : zMo (f 0)) : zM g l yX12_sumOf (Cond.code yX12_sumOf cX12_sumOf 5 (some .int) :: zB) ({ frames := 0, cells := 0, slots := 0, locals := 0 } : Room) [.ref o, .int s0, .int w0] [bObj g o a th hi ac tp ba en tA fl de iD iO tU, bArr g a f] (fun _ : Unit => some (.int 0)) (fun _ : Unit => True) (fun _ : Unit => [bObj g o a th hi ac tp ba en tA fl de iD iO tU, bArr g a f]) := by
  refine zM.of (cc := cX12_sumOf) (maxL := 5) (rt := (some .int)) (by decide) rfl (Nat.le_of_ble_eq_true rfl) ?_
  intro p e s m args below meth c A ls St hr hlocks hin hK hT hA hP hD hS hl
  obtain ⟨hx, hb, hml, hown, hts⟩ := id St
  have hl : lv_has ls 5 [(0, .ref o), (1, .int s0), (2, .int w0)] := hl
  refine lv_iconst (v := 0) hx hb dX12_sumOf_0 (by decide) ?_
  refine lv_istore_n (lv' := [(3, .int 0), (0, .ref o), (1, .int s0), (2, .int w0)]) hx hb dX12_sumOf_1 rfl hl (by decide) rfl (fun ls hl => ?_)
  refine lv_iconst (v := 0) hx hb dX12_sumOf_2 (by decide) ?_
  refine lv_istore (lv' := [(4, .int 0), (3, .int 0), (0, .ref o), (1, .int s0), (2, .int w0)]) hx hb dX12_sumOf_3 hl (by decide) rfl (fun ls hl => ?_)
  refine lv_iload hx hb dX12_sumOf_5 (lv_at hl 0 rfl) ?_
  refine lv_aload_n hx hb dX12_sumOf_7 rfl (lv_at hl 2 rfl) ?_
  refine va_get (D := g.1) (ci := 10) (v := .ref (a 0)) (C := RX12) (T := TX12) (N := 20) hx hb hts izRX12 hown hK hP 0 rfl rfl 1 (by decide) (hts _ k815) (fun _ h9 => h9) rfl dX12_sumOf_8 ?_
  refine lv_iconst (v := 4) hx hb dX12_sumOf_11 (by decide) ?_
  refine va_iald hx hb hK hP 1 0 rfl rfl (zin rfl) dX12_sumOf_12 ?_
  refine ztop (r := (f 0) 4) rfl ?_
  refine ztop (r := 0) hm.2.1 ?_
  refine lv_icmp_ge (tgt := 45) hx hb dX12_sumOf_13 (by decide) (fun _ => ?_) (fun c1 => absurd (by decide) c1)
  refine lv_iload_n hx hb dX12_sumOf_45 rfl (lv_at hl 1 rfl) ?_
  have hP : va_P g.1 vwCl (List.flatten [bObj g o a th hi ac tp ba en tA fl de iD iO tU, bArr g a f]) s.heap := hP
  have hD : va_D A (List.flatten [bObj g o a th hi ac tp ba en tA fl de iD iO tU, bArr g a f]) := hD
  exact mret_i hx hb hr hlocks hS (Nat.le_of_ble_eq_true rfl) (Nat.le_of_ble_eq_true rfl) dX12_sumOf_46 () rfl trivial hP hD
set_option maxRecDepth 100000 in
set_option maxHeartbeats 4000000 in
theorem m_build (l : Launch) (g : zG) (o : Nat) (a : Nat → Nat) (th : Int32) (hi : Int32) (ac : Int32) (tp : Int32) (ba : Int32) (en : Int32) (tA : Int32) (fl : Int32) (de : Int32) (iD : Int32) (iO : Int32) (tU : Int32) (f : Nat → Nat → Int32) (hm : zMo (f 0)) : zM g l yX12_build (Cond.code yX12_build cX12_build 4 (some .int) :: zB) ({ frames := 0, cells := 0, slots := 0, locals := 0 } : Room) [.ref o] [bObj g o a th hi ac tp ba en tA fl de iD iO tU, bArr g a f] (fun _ : Unit => some (.int 0)) (fun _ : Unit => True) (fun _ : Unit => [bObj g o a th hi ac tp ba en tA fl de iD iO tU, bArr g a f]) := by
  refine zM.of (cc := cX12_build) (maxL := 4) (rt := (some .int)) (by decide) rfl (Nat.le_of_ble_eq_true rfl) ?_
  intro p e s m args below meth c A ls St hr hlocks hin hK hT hA hP hD hS hl
  obtain ⟨hx, hb, hml, hown, hts⟩ := id St
  have hl : lv_has ls 4 [(0, .ref o)] := hl
  refine lv_iconst (v := 0) hx hb dX12_build_0 (by decide) ?_
  refine lv_istore_n (lv' := [(1, .int 0), (0, .ref o)]) hx hb dX12_build_1 rfl hl (by decide) rfl (fun ls hl => ?_)
  refine lv_iconst (v := 0) hx hb dX12_build_2 (by decide) ?_
  refine lv_istore_n (lv' := [(2, .int 0), (1, .int 0), (0, .ref o)]) hx hb dX12_build_3 rfl hl (by decide) rfl (fun ls hl => ?_)
  refine lv_iload_n hx hb dX12_build_4 rfl (lv_at hl 0 rfl) ?_
  refine lv_aload_n hx hb dX12_build_5 rfl (lv_at hl 2 rfl) ?_
  refine va_get (D := g.1) (ci := 10) (v := .ref (a 0)) (C := RX12) (T := TX12) (N := 20) hx hb hts izRX12 hown hK hP 0 rfl rfl 1 (by decide) (hts _ k815) (fun _ h9 => h9) rfl dX12_build_6 ?_
  refine lv_iconst (v := 4) hx hb dX12_build_9 (by decide) ?_
  refine va_iald hx hb hK hP 1 0 rfl rfl (zin rfl) dX12_build_10 ?_
  refine ztop (r := (f 0) 4) rfl ?_
  refine ztop (r := 0) hm.2.1 ?_
  refine lv_icmp_ge (tgt := 156) hx hb dX12_build_11 (by decide) (fun _ => ?_) (fun c1 => absurd (by decide) c1)
  refine lv_iload_n hx hb dX12_build_156 rfl (lv_at hl 1 rfl) ?_
  have hP : va_P g.1 vwCl (List.flatten [bObj g o a th hi ac tp ba en tA fl de iD iO tU, bArr g a f]) s.heap := hP
  have hD : va_D A (List.flatten [bObj g o a th hi ac tp ba en tA fl de iD iO tU, bArr g a f]) := hD
  exact mret_i hx hb hr hlocks hS (Nat.le_of_ble_eq_true rfl) (Nat.le_of_ble_eq_true rfl) dX12_build_157 () rfl trivial hP hD
set_option maxRecDepth 100000 in
set_option maxHeartbeats 4000000 in
theorem m_isIn (l : Launch) (g : zG) (v : Int32) (lw : Int32) (hg : Int32)  : zM g l yX12_isIn (Cond.code yX12_isIn cX12_isIn 3 (some .boolean) :: zB) ({ frames := 0, cells := 0, slots := 0, locals := 0 } : Room) [.int v, .int lw, .int hg] [] (fun (q : Int32) => some (.int q)) (fun (q : Int32) => (q = 1 ∧ ¬ (v : Int32) < lw ∧ ¬ hg < (v : Int32)) ∨ (q = 0 ∧ ((v : Int32) < lw ∨ hg < (v : Int32)))) (fun (q : Int32) => []) := by
  refine zM.of (cc := cX12_isIn) (maxL := 3) (rt := (some .boolean)) (by decide) rfl (Nat.le_of_ble_eq_true rfl) ?_
  intro p e s m args below meth c A ls St hr hlocks hin hK hT hA hP hD hS hl
  obtain ⟨hx, hb, hml, hown, hts⟩ := id St
  have hl : lv_has ls 3 [(0, .int v), (1, .int lw), (2, .int hg)] := hl
  refine lv_iload_n hx hb dX12_isIn_0 rfl (lv_at hl 0 rfl) ?_
  refine lv_iload_n hx hb dX12_isIn_1 rfl (lv_at hl 1 rfl) ?_
  refine lv_icmp_lt (tgt := 14) hx hb dX12_isIn_2 (by decide) (fun cA => ?_) (fun cA => ?_)
  · skip
    refine lv_iconst (v := 0) hx hb dX12_isIn_14 (by decide) ?_
    have hP : va_P g.1 vwCl (List.flatten []) s.heap := hP
    have hD : va_D A (List.flatten []) := hD
    exact mret_z hx hb hr hlocks hS (Nat.le_of_ble_eq_true rfl) (Nat.le_of_ble_eq_true rfl) dX12_isIn_15 (0) rfl (by decide) (Or.inr ⟨rfl, Or.inl cA⟩) hP hD
  · skip
    refine lv_iload_n hx hb dX12_isIn_5 rfl (lv_at hl 0 rfl) ?_
    refine lv_iload_n hx hb dX12_isIn_6 rfl (lv_at hl 2 rfl) ?_
    refine lv_icmp_gt (tgt := 14) hx hb dX12_isIn_7 (by decide) (fun cB => ?_) (fun cB => ?_)
    · skip
      refine lv_iconst (v := 0) hx hb dX12_isIn_14 (by decide) ?_
      have hP : va_P g.1 vwCl (List.flatten []) s.heap := hP
      have hD : va_D A (List.flatten []) := hD
      exact mret_z hx hb hr hlocks hS (Nat.le_of_ble_eq_true rfl) (Nat.le_of_ble_eq_true rfl) dX12_isIn_15 (0) rfl (by decide) (Or.inr ⟨rfl, Or.inr cB⟩) hP hD
    · skip
      refine lv_iconst (v := 1) hx hb dX12_isIn_10 (by decide) ?_
      refine lv_goto (tgt := 15) hx hb dX12_isIn_11 (by decide) ?_
      have hP : va_P g.1 vwCl (List.flatten []) s.heap := hP
      have hD : va_D A (List.flatten []) := hD
      exact mret_z hx hb hr hlocks hS (Nat.le_of_ble_eq_true rfl) (Nat.le_of_ble_eq_true rfl) dX12_isIn_15 (1) rfl (by decide) (Or.inl ⟨rfl, cA, cB⟩) hP hD
set_option maxRecDepth 100000 in
set_option maxHeartbeats 4000000 in
theorem m_isPerson (l : Launch) (g : zG) (o : Nat) (a : Nat → Nat) (th : Int32) (hi : Int32) (ac : Int32) (tp : Int32) (ba : Int32) (en : Int32) (tA : Int32) (fl : Int32) (de : Int32) (iD : Int32) (iO : Int32) (tU : Int32) (f : Nat → Nat → Int32) (v : Int32) (hm : zMo (f 0)) : zM g l yX12_isPerson (Cond.code yX12_isPerson cX12_isPerson 2 (some .boolean) :: zB) ({ frames := 1, cells := 0, slots := 0, locals := 22 } : Room) [.ref o, .int v] [bObj g o a th hi ac tp ba en tA fl de iD iO tU, bArr g a f] (fun _ : Unit => some (.int 0)) (fun _ : Unit => True) (fun _ : Unit => [bObj g o a th hi ac tp ba en tA fl de iD iO tU, bArr g a f]) := by
  refine zM.of (cc := cX12_isPerson) (maxL := 2) (rt := (some .boolean)) (by decide) rfl (Nat.le_of_ble_eq_true rfl) ?_
  intro p e s m args below meth c A ls St hr hlocks hin hK hT hA hP hD hS hl
  obtain ⟨hx, hb, hml, hown, hts⟩ := id St
  have hl : lv_has ls 2 [(0, .ref o), (1, .int v)] := hl
  refine lv_iload_n hx hb dX12_isPerson_0 rfl (lv_at hl 1 rfl) ?_
  refine lv_iconst (v := 0) hx hb dX12_isPerson_1 (by decide) ?_
  refine lv_aload_n hx hb dX12_isPerson_2 rfl (lv_at hl 0 rfl) ?_
  refine va_get (D := g.1) (ci := 10) (v := .ref (a 0)) (C := RX12) (T := TX12) (N := 20) hx hb hts izRX12 hown hK hP 0 rfl rfl 1 (by decide) (hts _ k815) (fun _ h9 => h9) rfl dX12_isPerson_3 ?_
  refine lv_iconst (v := 3) hx hb dX12_isPerson_6 (by decide) ?_
  refine va_iald hx hb hK hP 1 0 rfl rfl (zin rfl) dX12_isPerson_7 ?_
  refine ztop (r := (f 0) 3) rfl ?_
  refine ztop (r := 0) hm.1 ?_
  refine lv_iconst (v := 1) hx hb dX12_isPerson_8 (by decide) ?_
  refine lv_isub hx hb dX12_isPerson_9 ?_
  refine ztop (r := (-1)) (by decide) ?_
  refine mcallS (g := g) (As := [.int v, .int 0, .int (-1)]) (rest := []) St hK hT hA hP hD hS hl.1 [] [0, 1] rfl rfl rfl (m_isIn l g v 0 (-1) ) (va_cwS 3 hts (zgL (zl3 k831 k832 k833) k826) rfl rfl rfl (by decide +kernel) ⟨Nat.le_of_ble_eq_true rfl, Nat.le_of_ble_eq_true rfl⟩) rfl rfl (Nat.le_of_ble_eq_true rfl) dX12_isPerson_10 ⟨(Nat.le_of_ble_eq_true rfl), (Nat.le_of_ble_eq_true rfl)⟩ (fun q_1 H locs hq2 hP hD hS => ?_)
  have hq2 : (q_1 = 1 ∧ ¬ (v : Int32) < 0 ∧ ¬ (-1) < (v : Int32)) ∨ (q_1 = 0 ∧ ((v : Int32) < 0 ∨ (-1) < (v : Int32))) := hq2
  have hP : va_P g.1 vwCl (List.flatten [bObj g o a th hi ac tp ba en tA fl de iD iO tU, bArr g a f]) H := hP
  have hD : va_D A (List.flatten [bObj g o a th hi ac tp ba en tA fl de iD iO tU, bArr g a f]) := hD
  refine W.widen (k := 0) (n := 0) (Nat.le_of_ble_eq_true rfl) (Nat.le_of_ble_eq_true rfl) ?_
  refine W.eq (g2 := F0 m 13 ls [.int q_1]) rfl ?_
  rcases hq2 with ⟨rfl, hq2c⟩ | ⟨rfl, hq2c⟩
  · skip
    exact absurd hq2c (fun h => (zip h).elim)
  · skip
    have hP : va_P g.1 vwCl (List.flatten [bObj g o a th hi ac tp ba en tA fl de iD iO tU, bArr g a f]) H := hP
    have hD : va_D A (List.flatten [bObj g o a th hi ac tp ba en tA fl de iD iO tU, bArr g a f]) := hD
    exact mret_z hx hb hr hlocks hS (Nat.le_of_ble_eq_true rfl) (Nat.le_of_ble_eq_true rfl) dX12_isPerson_13 () rfl (by decide) trivial hP hD
set_option maxRecDepth 100000 in
set_option maxHeartbeats 4000000 in
theorem m_isWork (l : Launch) (g : zG) (o : Nat) (a : Nat → Nat) (th : Int32) (hi : Int32) (ac : Int32) (tp : Int32) (ba : Int32) (en : Int32) (tA : Int32) (fl : Int32) (de : Int32) (iD : Int32) (iO : Int32) (tU : Int32) (f : Nat → Nat → Int32) (v : Int32) (hm : zMo (f 0)) : zM g l yX12_isWork (Cond.code yX12_isWork cX12_isWork 2 (some .boolean) :: zB) ({ frames := 1, cells := 0, slots := 0, locals := 22 } : Room) [.ref o, .int v] [bObj g o a th hi ac tp ba en tA fl de iD iO tU, bArr g a f] (fun _ : Unit => some (.int 0)) (fun _ : Unit => True) (fun _ : Unit => [bObj g o a th hi ac tp ba en tA fl de iD iO tU, bArr g a f]) := by
  refine zM.of (cc := cX12_isWork) (maxL := 2) (rt := (some .boolean)) (by decide) rfl (Nat.le_of_ble_eq_true rfl) ?_
  intro p e s m args below meth c A ls St hr hlocks hin hK hT hA hP hD hS hl
  obtain ⟨hx, hb, hml, hown, hts⟩ := id St
  have hl : lv_has ls 2 [(0, .ref o), (1, .int v)] := hl
  refine lv_iload_n hx hb dX12_isWork_0 rfl (lv_at hl 1 rfl) ?_
  refine lv_iconst (v := 0) hx hb dX12_isWork_1 (by decide) ?_
  refine lv_aload_n hx hb dX12_isWork_2 rfl (lv_at hl 0 rfl) ?_
  refine va_get (D := g.1) (ci := 10) (v := .ref (a 0)) (C := RX12) (T := TX12) (N := 20) hx hb hts izRX12 hown hK hP 0 rfl rfl 1 (by decide) (hts _ k815) (fun _ h9 => h9) rfl dX12_isWork_3 ?_
  refine lv_iconst (v := 4) hx hb dX12_isWork_6 (by decide) ?_
  refine va_iald hx hb hK hP 1 0 rfl rfl (zin rfl) dX12_isWork_7 ?_
  refine ztop (r := (f 0) 4) rfl ?_
  refine ztop (r := 0) hm.2.1 ?_
  refine lv_iconst (v := 1) hx hb dX12_isWork_8 (by decide) ?_
  refine lv_isub hx hb dX12_isWork_9 ?_
  refine ztop (r := (-1)) (by decide) ?_
  refine mcallS (g := g) (As := [.int v, .int 0, .int (-1)]) (rest := []) St hK hT hA hP hD hS hl.1 [] [0, 1] rfl rfl rfl (m_isIn l g v 0 (-1) ) (va_cwS 3 hts (zgL (zl3 k831 k832 k833) k826) rfl rfl rfl (by decide +kernel) ⟨Nat.le_of_ble_eq_true rfl, Nat.le_of_ble_eq_true rfl⟩) rfl rfl (Nat.le_of_ble_eq_true rfl) dX12_isWork_10 ⟨(Nat.le_of_ble_eq_true rfl), (Nat.le_of_ble_eq_true rfl)⟩ (fun q_1 H locs hq2 hP hD hS => ?_)
  have hq2 : (q_1 = 1 ∧ ¬ (v : Int32) < 0 ∧ ¬ (-1) < (v : Int32)) ∨ (q_1 = 0 ∧ ((v : Int32) < 0 ∨ (-1) < (v : Int32))) := hq2
  have hP : va_P g.1 vwCl (List.flatten [bObj g o a th hi ac tp ba en tA fl de iD iO tU, bArr g a f]) H := hP
  have hD : va_D A (List.flatten [bObj g o a th hi ac tp ba en tA fl de iD iO tU, bArr g a f]) := hD
  refine W.widen (k := 0) (n := 0) (Nat.le_of_ble_eq_true rfl) (Nat.le_of_ble_eq_true rfl) ?_
  refine W.eq (g2 := F0 m 13 ls [.int q_1]) rfl ?_
  rcases hq2 with ⟨rfl, hq2c⟩ | ⟨rfl, hq2c⟩
  · skip
    exact absurd hq2c (fun h => (zip h).elim)
  · skip
    have hP : va_P g.1 vwCl (List.flatten [bObj g o a th hi ac tp ba en tA fl de iD iO tU, bArr g a f]) H := hP
    have hD : va_D A (List.flatten [bObj g o a th hi ac tp ba en tA fl de iD iO tU, bArr g a f]) := hD
    exact mret_z hx hb hr hlocks hS (Nat.le_of_ble_eq_true rfl) (Nat.le_of_ble_eq_true rfl) dX12_isWork_13 () rfl (by decide) trivial hP hD
set_option maxRecDepth 100000 in
set_option maxHeartbeats 4000000 in
theorem m_greater_0_n20 (l : Launch) (g : zG)   : zM g l yX12_greater (Cond.code yX12_greater cX12_greater 2 (some .int) :: zB) ({ frames := 0, cells := 0, slots := 0, locals := 0 } : Room) [.int 0, .int (-20)] [] (fun _ : Unit => some (.int 0)) (fun _ : Unit => True) (fun _ : Unit => []) := by
  refine zM.of (cc := cX12_greater) (maxL := 2) (rt := (some .int)) (by decide) rfl (Nat.le_of_ble_eq_true rfl) ?_
  intro p e s m args below meth c A ls St hr hlocks hin hK hT hA hP hD hS hl
  obtain ⟨hx, hb, hml, hown, hts⟩ := id St
  have hl : lv_has ls 2 [(0, .int 0), (1, .int (-20))] := hl
  refine lv_iload_n hx hb dX12_greater_0 rfl (lv_at hl 0 rfl) ?_
  refine lv_iload_n hx hb dX12_greater_1 rfl (lv_at hl 1 rfl) ?_
  refine lv_icmp_le (tgt := 9) hx hb dX12_greater_2 (by decide) (fun c1 => absurd c1 (by decide)) (fun _ => ?_)
  refine lv_iload_n hx hb dX12_greater_5 rfl (lv_at hl 0 rfl) ?_
  refine lv_goto (tgt := 10) hx hb dX12_greater_6 (by decide) ?_
  have hP : va_P g.1 vwCl (List.flatten []) s.heap := hP
  have hD : va_D A (List.flatten []) := hD
  exact mret_i hx hb hr hlocks hS (Nat.le_of_ble_eq_true rfl) (Nat.le_of_ble_eq_true rfl) dX12_greater_10 () rfl trivial hP hD
set_option maxRecDepth 100000 in
set_option maxHeartbeats 4000000 in
theorem m_greater_0_n19 (l : Launch) (g : zG)   : zM g l yX12_greater (Cond.code yX12_greater cX12_greater 2 (some .int) :: zB) ({ frames := 0, cells := 0, slots := 0, locals := 0 } : Room) [.int 0, .int (-19)] [] (fun _ : Unit => some (.int 0)) (fun _ : Unit => True) (fun _ : Unit => []) := by
  refine zM.of (cc := cX12_greater) (maxL := 2) (rt := (some .int)) (by decide) rfl (Nat.le_of_ble_eq_true rfl) ?_
  intro p e s m args below meth c A ls St hr hlocks hin hK hT hA hP hD hS hl
  obtain ⟨hx, hb, hml, hown, hts⟩ := id St
  have hl : lv_has ls 2 [(0, .int 0), (1, .int (-19))] := hl
  refine lv_iload_n hx hb dX12_greater_0 rfl (lv_at hl 0 rfl) ?_
  refine lv_iload_n hx hb dX12_greater_1 rfl (lv_at hl 1 rfl) ?_
  refine lv_icmp_le (tgt := 9) hx hb dX12_greater_2 (by decide) (fun c1 => absurd c1 (by decide)) (fun _ => ?_)
  refine lv_iload_n hx hb dX12_greater_5 rfl (lv_at hl 0 rfl) ?_
  refine lv_goto (tgt := 10) hx hb dX12_greater_6 (by decide) ?_
  have hP : va_P g.1 vwCl (List.flatten []) s.heap := hP
  have hD : va_D A (List.flatten []) := hD
  exact mret_i hx hb hr hlocks hS (Nat.le_of_ble_eq_true rfl) (Nat.le_of_ble_eq_true rfl) dX12_greater_10 () rfl trivial hP hD
set_option maxRecDepth 100000 in
set_option maxHeartbeats 4000000 in
theorem m_greater_0_n18 (l : Launch) (g : zG)   : zM g l yX12_greater (Cond.code yX12_greater cX12_greater 2 (some .int) :: zB) ({ frames := 0, cells := 0, slots := 0, locals := 0 } : Room) [.int 0, .int (-18)] [] (fun _ : Unit => some (.int 0)) (fun _ : Unit => True) (fun _ : Unit => []) := by
  refine zM.of (cc := cX12_greater) (maxL := 2) (rt := (some .int)) (by decide) rfl (Nat.le_of_ble_eq_true rfl) ?_
  intro p e s m args below meth c A ls St hr hlocks hin hK hT hA hP hD hS hl
  obtain ⟨hx, hb, hml, hown, hts⟩ := id St
  have hl : lv_has ls 2 [(0, .int 0), (1, .int (-18))] := hl
  refine lv_iload_n hx hb dX12_greater_0 rfl (lv_at hl 0 rfl) ?_
  refine lv_iload_n hx hb dX12_greater_1 rfl (lv_at hl 1 rfl) ?_
  refine lv_icmp_le (tgt := 9) hx hb dX12_greater_2 (by decide) (fun c1 => absurd c1 (by decide)) (fun _ => ?_)
  refine lv_iload_n hx hb dX12_greater_5 rfl (lv_at hl 0 rfl) ?_
  refine lv_goto (tgt := 10) hx hb dX12_greater_6 (by decide) ?_
  have hP : va_P g.1 vwCl (List.flatten []) s.heap := hP
  have hD : va_D A (List.flatten []) := hD
  exact mret_i hx hb hr hlocks hS (Nat.le_of_ble_eq_true rfl) (Nat.le_of_ble_eq_true rfl) dX12_greater_10 () rfl trivial hP hD
set_option maxRecDepth 100000 in
set_option maxHeartbeats 4000000 in
theorem m_greater_0_n17 (l : Launch) (g : zG)   : zM g l yX12_greater (Cond.code yX12_greater cX12_greater 2 (some .int) :: zB) ({ frames := 0, cells := 0, slots := 0, locals := 0 } : Room) [.int 0, .int (-17)] [] (fun _ : Unit => some (.int 0)) (fun _ : Unit => True) (fun _ : Unit => []) := by
  refine zM.of (cc := cX12_greater) (maxL := 2) (rt := (some .int)) (by decide) rfl (Nat.le_of_ble_eq_true rfl) ?_
  intro p e s m args below meth c A ls St hr hlocks hin hK hT hA hP hD hS hl
  obtain ⟨hx, hb, hml, hown, hts⟩ := id St
  have hl : lv_has ls 2 [(0, .int 0), (1, .int (-17))] := hl
  refine lv_iload_n hx hb dX12_greater_0 rfl (lv_at hl 0 rfl) ?_
  refine lv_iload_n hx hb dX12_greater_1 rfl (lv_at hl 1 rfl) ?_
  refine lv_icmp_le (tgt := 9) hx hb dX12_greater_2 (by decide) (fun c1 => absurd c1 (by decide)) (fun _ => ?_)
  refine lv_iload_n hx hb dX12_greater_5 rfl (lv_at hl 0 rfl) ?_
  refine lv_goto (tgt := 10) hx hb dX12_greater_6 (by decide) ?_
  have hP : va_P g.1 vwCl (List.flatten []) s.heap := hP
  have hD : va_D A (List.flatten []) := hD
  exact mret_i hx hb hr hlocks hS (Nat.le_of_ble_eq_true rfl) (Nat.le_of_ble_eq_true rfl) dX12_greater_10 () rfl trivial hP hD
set_option maxRecDepth 100000 in
set_option maxHeartbeats 4000000 in
theorem m_greater_0_n16 (l : Launch) (g : zG)   : zM g l yX12_greater (Cond.code yX12_greater cX12_greater 2 (some .int) :: zB) ({ frames := 0, cells := 0, slots := 0, locals := 0 } : Room) [.int 0, .int (-16)] [] (fun _ : Unit => some (.int 0)) (fun _ : Unit => True) (fun _ : Unit => []) := by
  refine zM.of (cc := cX12_greater) (maxL := 2) (rt := (some .int)) (by decide) rfl (Nat.le_of_ble_eq_true rfl) ?_
  intro p e s m args below meth c A ls St hr hlocks hin hK hT hA hP hD hS hl
  obtain ⟨hx, hb, hml, hown, hts⟩ := id St
  have hl : lv_has ls 2 [(0, .int 0), (1, .int (-16))] := hl
  refine lv_iload_n hx hb dX12_greater_0 rfl (lv_at hl 0 rfl) ?_
  refine lv_iload_n hx hb dX12_greater_1 rfl (lv_at hl 1 rfl) ?_
  refine lv_icmp_le (tgt := 9) hx hb dX12_greater_2 (by decide) (fun c1 => absurd c1 (by decide)) (fun _ => ?_)
  refine lv_iload_n hx hb dX12_greater_5 rfl (lv_at hl 0 rfl) ?_
  refine lv_goto (tgt := 10) hx hb dX12_greater_6 (by decide) ?_
  have hP : va_P g.1 vwCl (List.flatten []) s.heap := hP
  have hD : va_D A (List.flatten []) := hD
  exact mret_i hx hb hr hlocks hS (Nat.le_of_ble_eq_true rfl) (Nat.le_of_ble_eq_true rfl) dX12_greater_10 () rfl trivial hP hD
set_option maxRecDepth 100000 in
set_option maxHeartbeats 4000000 in
theorem m_greater_0_n15 (l : Launch) (g : zG)   : zM g l yX12_greater (Cond.code yX12_greater cX12_greater 2 (some .int) :: zB) ({ frames := 0, cells := 0, slots := 0, locals := 0 } : Room) [.int 0, .int (-15)] [] (fun _ : Unit => some (.int 0)) (fun _ : Unit => True) (fun _ : Unit => []) := by
  refine zM.of (cc := cX12_greater) (maxL := 2) (rt := (some .int)) (by decide) rfl (Nat.le_of_ble_eq_true rfl) ?_
  intro p e s m args below meth c A ls St hr hlocks hin hK hT hA hP hD hS hl
  obtain ⟨hx, hb, hml, hown, hts⟩ := id St
  have hl : lv_has ls 2 [(0, .int 0), (1, .int (-15))] := hl
  refine lv_iload_n hx hb dX12_greater_0 rfl (lv_at hl 0 rfl) ?_
  refine lv_iload_n hx hb dX12_greater_1 rfl (lv_at hl 1 rfl) ?_
  refine lv_icmp_le (tgt := 9) hx hb dX12_greater_2 (by decide) (fun c1 => absurd c1 (by decide)) (fun _ => ?_)
  refine lv_iload_n hx hb dX12_greater_5 rfl (lv_at hl 0 rfl) ?_
  refine lv_goto (tgt := 10) hx hb dX12_greater_6 (by decide) ?_
  have hP : va_P g.1 vwCl (List.flatten []) s.heap := hP
  have hD : va_D A (List.flatten []) := hD
  exact mret_i hx hb hr hlocks hS (Nat.le_of_ble_eq_true rfl) (Nat.le_of_ble_eq_true rfl) dX12_greater_10 () rfl trivial hP hD
set_option maxRecDepth 100000 in
set_option maxHeartbeats 4000000 in
theorem m_greater_0_n14 (l : Launch) (g : zG)   : zM g l yX12_greater (Cond.code yX12_greater cX12_greater 2 (some .int) :: zB) ({ frames := 0, cells := 0, slots := 0, locals := 0 } : Room) [.int 0, .int (-14)] [] (fun _ : Unit => some (.int 0)) (fun _ : Unit => True) (fun _ : Unit => []) := by
  refine zM.of (cc := cX12_greater) (maxL := 2) (rt := (some .int)) (by decide) rfl (Nat.le_of_ble_eq_true rfl) ?_
  intro p e s m args below meth c A ls St hr hlocks hin hK hT hA hP hD hS hl
  obtain ⟨hx, hb, hml, hown, hts⟩ := id St
  have hl : lv_has ls 2 [(0, .int 0), (1, .int (-14))] := hl
  refine lv_iload_n hx hb dX12_greater_0 rfl (lv_at hl 0 rfl) ?_
  refine lv_iload_n hx hb dX12_greater_1 rfl (lv_at hl 1 rfl) ?_
  refine lv_icmp_le (tgt := 9) hx hb dX12_greater_2 (by decide) (fun c1 => absurd c1 (by decide)) (fun _ => ?_)
  refine lv_iload_n hx hb dX12_greater_5 rfl (lv_at hl 0 rfl) ?_
  refine lv_goto (tgt := 10) hx hb dX12_greater_6 (by decide) ?_
  have hP : va_P g.1 vwCl (List.flatten []) s.heap := hP
  have hD : va_D A (List.flatten []) := hD
  exact mret_i hx hb hr hlocks hS (Nat.le_of_ble_eq_true rfl) (Nat.le_of_ble_eq_true rfl) dX12_greater_10 () rfl trivial hP hD
set_option maxRecDepth 100000 in
set_option maxHeartbeats 4000000 in
theorem m_greater_0_n13 (l : Launch) (g : zG)   : zM g l yX12_greater (Cond.code yX12_greater cX12_greater 2 (some .int) :: zB) ({ frames := 0, cells := 0, slots := 0, locals := 0 } : Room) [.int 0, .int (-13)] [] (fun _ : Unit => some (.int 0)) (fun _ : Unit => True) (fun _ : Unit => []) := by
  refine zM.of (cc := cX12_greater) (maxL := 2) (rt := (some .int)) (by decide) rfl (Nat.le_of_ble_eq_true rfl) ?_
  intro p e s m args below meth c A ls St hr hlocks hin hK hT hA hP hD hS hl
  obtain ⟨hx, hb, hml, hown, hts⟩ := id St
  have hl : lv_has ls 2 [(0, .int 0), (1, .int (-13))] := hl
  refine lv_iload_n hx hb dX12_greater_0 rfl (lv_at hl 0 rfl) ?_
  refine lv_iload_n hx hb dX12_greater_1 rfl (lv_at hl 1 rfl) ?_
  refine lv_icmp_le (tgt := 9) hx hb dX12_greater_2 (by decide) (fun c1 => absurd c1 (by decide)) (fun _ => ?_)
  refine lv_iload_n hx hb dX12_greater_5 rfl (lv_at hl 0 rfl) ?_
  refine lv_goto (tgt := 10) hx hb dX12_greater_6 (by decide) ?_
  have hP : va_P g.1 vwCl (List.flatten []) s.heap := hP
  have hD : va_D A (List.flatten []) := hD
  exact mret_i hx hb hr hlocks hS (Nat.le_of_ble_eq_true rfl) (Nat.le_of_ble_eq_true rfl) dX12_greater_10 () rfl trivial hP hD
set_option maxRecDepth 100000 in
set_option maxHeartbeats 4000000 in
theorem m_greater_0_n12 (l : Launch) (g : zG)   : zM g l yX12_greater (Cond.code yX12_greater cX12_greater 2 (some .int) :: zB) ({ frames := 0, cells := 0, slots := 0, locals := 0 } : Room) [.int 0, .int (-12)] [] (fun _ : Unit => some (.int 0)) (fun _ : Unit => True) (fun _ : Unit => []) := by
  refine zM.of (cc := cX12_greater) (maxL := 2) (rt := (some .int)) (by decide) rfl (Nat.le_of_ble_eq_true rfl) ?_
  intro p e s m args below meth c A ls St hr hlocks hin hK hT hA hP hD hS hl
  obtain ⟨hx, hb, hml, hown, hts⟩ := id St
  have hl : lv_has ls 2 [(0, .int 0), (1, .int (-12))] := hl
  refine lv_iload_n hx hb dX12_greater_0 rfl (lv_at hl 0 rfl) ?_
  refine lv_iload_n hx hb dX12_greater_1 rfl (lv_at hl 1 rfl) ?_
  refine lv_icmp_le (tgt := 9) hx hb dX12_greater_2 (by decide) (fun c1 => absurd c1 (by decide)) (fun _ => ?_)
  refine lv_iload_n hx hb dX12_greater_5 rfl (lv_at hl 0 rfl) ?_
  refine lv_goto (tgt := 10) hx hb dX12_greater_6 (by decide) ?_
  have hP : va_P g.1 vwCl (List.flatten []) s.heap := hP
  have hD : va_D A (List.flatten []) := hD
  exact mret_i hx hb hr hlocks hS (Nat.le_of_ble_eq_true rfl) (Nat.le_of_ble_eq_true rfl) dX12_greater_10 () rfl trivial hP hD
set_option maxRecDepth 100000 in
set_option maxHeartbeats 4000000 in
theorem m_greater_0_n11 (l : Launch) (g : zG)   : zM g l yX12_greater (Cond.code yX12_greater cX12_greater 2 (some .int) :: zB) ({ frames := 0, cells := 0, slots := 0, locals := 0 } : Room) [.int 0, .int (-11)] [] (fun _ : Unit => some (.int 0)) (fun _ : Unit => True) (fun _ : Unit => []) := by
  refine zM.of (cc := cX12_greater) (maxL := 2) (rt := (some .int)) (by decide) rfl (Nat.le_of_ble_eq_true rfl) ?_
  intro p e s m args below meth c A ls St hr hlocks hin hK hT hA hP hD hS hl
  obtain ⟨hx, hb, hml, hown, hts⟩ := id St
  have hl : lv_has ls 2 [(0, .int 0), (1, .int (-11))] := hl
  refine lv_iload_n hx hb dX12_greater_0 rfl (lv_at hl 0 rfl) ?_
  refine lv_iload_n hx hb dX12_greater_1 rfl (lv_at hl 1 rfl) ?_
  refine lv_icmp_le (tgt := 9) hx hb dX12_greater_2 (by decide) (fun c1 => absurd c1 (by decide)) (fun _ => ?_)
  refine lv_iload_n hx hb dX12_greater_5 rfl (lv_at hl 0 rfl) ?_
  refine lv_goto (tgt := 10) hx hb dX12_greater_6 (by decide) ?_
  have hP : va_P g.1 vwCl (List.flatten []) s.heap := hP
  have hD : va_D A (List.flatten []) := hD
  exact mret_i hx hb hr hlocks hS (Nat.le_of_ble_eq_true rfl) (Nat.le_of_ble_eq_true rfl) dX12_greater_10 () rfl trivial hP hD
set_option maxRecDepth 100000 in
set_option maxHeartbeats 4000000 in
theorem m_greater_0_n10 (l : Launch) (g : zG)   : zM g l yX12_greater (Cond.code yX12_greater cX12_greater 2 (some .int) :: zB) ({ frames := 0, cells := 0, slots := 0, locals := 0 } : Room) [.int 0, .int (-10)] [] (fun _ : Unit => some (.int 0)) (fun _ : Unit => True) (fun _ : Unit => []) := by
  refine zM.of (cc := cX12_greater) (maxL := 2) (rt := (some .int)) (by decide) rfl (Nat.le_of_ble_eq_true rfl) ?_
  intro p e s m args below meth c A ls St hr hlocks hin hK hT hA hP hD hS hl
  obtain ⟨hx, hb, hml, hown, hts⟩ := id St
  have hl : lv_has ls 2 [(0, .int 0), (1, .int (-10))] := hl
  refine lv_iload_n hx hb dX12_greater_0 rfl (lv_at hl 0 rfl) ?_
  refine lv_iload_n hx hb dX12_greater_1 rfl (lv_at hl 1 rfl) ?_
  refine lv_icmp_le (tgt := 9) hx hb dX12_greater_2 (by decide) (fun c1 => absurd c1 (by decide)) (fun _ => ?_)
  refine lv_iload_n hx hb dX12_greater_5 rfl (lv_at hl 0 rfl) ?_
  refine lv_goto (tgt := 10) hx hb dX12_greater_6 (by decide) ?_
  have hP : va_P g.1 vwCl (List.flatten []) s.heap := hP
  have hD : va_D A (List.flatten []) := hD
  exact mret_i hx hb hr hlocks hS (Nat.le_of_ble_eq_true rfl) (Nat.le_of_ble_eq_true rfl) dX12_greater_10 () rfl trivial hP hD
set_option maxRecDepth 100000 in
set_option maxHeartbeats 4000000 in
theorem m_greater_0_n9 (l : Launch) (g : zG)   : zM g l yX12_greater (Cond.code yX12_greater cX12_greater 2 (some .int) :: zB) ({ frames := 0, cells := 0, slots := 0, locals := 0 } : Room) [.int 0, .int (-9)] [] (fun _ : Unit => some (.int 0)) (fun _ : Unit => True) (fun _ : Unit => []) := by
  refine zM.of (cc := cX12_greater) (maxL := 2) (rt := (some .int)) (by decide) rfl (Nat.le_of_ble_eq_true rfl) ?_
  intro p e s m args below meth c A ls St hr hlocks hin hK hT hA hP hD hS hl
  obtain ⟨hx, hb, hml, hown, hts⟩ := id St
  have hl : lv_has ls 2 [(0, .int 0), (1, .int (-9))] := hl
  refine lv_iload_n hx hb dX12_greater_0 rfl (lv_at hl 0 rfl) ?_
  refine lv_iload_n hx hb dX12_greater_1 rfl (lv_at hl 1 rfl) ?_
  refine lv_icmp_le (tgt := 9) hx hb dX12_greater_2 (by decide) (fun c1 => absurd c1 (by decide)) (fun _ => ?_)
  refine lv_iload_n hx hb dX12_greater_5 rfl (lv_at hl 0 rfl) ?_
  refine lv_goto (tgt := 10) hx hb dX12_greater_6 (by decide) ?_
  have hP : va_P g.1 vwCl (List.flatten []) s.heap := hP
  have hD : va_D A (List.flatten []) := hD
  exact mret_i hx hb hr hlocks hS (Nat.le_of_ble_eq_true rfl) (Nat.le_of_ble_eq_true rfl) dX12_greater_10 () rfl trivial hP hD
set_option maxRecDepth 100000 in
set_option maxHeartbeats 4000000 in
theorem m_greater_0_n8 (l : Launch) (g : zG)   : zM g l yX12_greater (Cond.code yX12_greater cX12_greater 2 (some .int) :: zB) ({ frames := 0, cells := 0, slots := 0, locals := 0 } : Room) [.int 0, .int (-8)] [] (fun _ : Unit => some (.int 0)) (fun _ : Unit => True) (fun _ : Unit => []) := by
  refine zM.of (cc := cX12_greater) (maxL := 2) (rt := (some .int)) (by decide) rfl (Nat.le_of_ble_eq_true rfl) ?_
  intro p e s m args below meth c A ls St hr hlocks hin hK hT hA hP hD hS hl
  obtain ⟨hx, hb, hml, hown, hts⟩ := id St
  have hl : lv_has ls 2 [(0, .int 0), (1, .int (-8))] := hl
  refine lv_iload_n hx hb dX12_greater_0 rfl (lv_at hl 0 rfl) ?_
  refine lv_iload_n hx hb dX12_greater_1 rfl (lv_at hl 1 rfl) ?_
  refine lv_icmp_le (tgt := 9) hx hb dX12_greater_2 (by decide) (fun c1 => absurd c1 (by decide)) (fun _ => ?_)
  refine lv_iload_n hx hb dX12_greater_5 rfl (lv_at hl 0 rfl) ?_
  refine lv_goto (tgt := 10) hx hb dX12_greater_6 (by decide) ?_
  have hP : va_P g.1 vwCl (List.flatten []) s.heap := hP
  have hD : va_D A (List.flatten []) := hD
  exact mret_i hx hb hr hlocks hS (Nat.le_of_ble_eq_true rfl) (Nat.le_of_ble_eq_true rfl) dX12_greater_10 () rfl trivial hP hD
set_option maxRecDepth 100000 in
set_option maxHeartbeats 4000000 in
theorem m_greater_0_n7 (l : Launch) (g : zG)   : zM g l yX12_greater (Cond.code yX12_greater cX12_greater 2 (some .int) :: zB) ({ frames := 0, cells := 0, slots := 0, locals := 0 } : Room) [.int 0, .int (-7)] [] (fun _ : Unit => some (.int 0)) (fun _ : Unit => True) (fun _ : Unit => []) := by
  refine zM.of (cc := cX12_greater) (maxL := 2) (rt := (some .int)) (by decide) rfl (Nat.le_of_ble_eq_true rfl) ?_
  intro p e s m args below meth c A ls St hr hlocks hin hK hT hA hP hD hS hl
  obtain ⟨hx, hb, hml, hown, hts⟩ := id St
  have hl : lv_has ls 2 [(0, .int 0), (1, .int (-7))] := hl
  refine lv_iload_n hx hb dX12_greater_0 rfl (lv_at hl 0 rfl) ?_
  refine lv_iload_n hx hb dX12_greater_1 rfl (lv_at hl 1 rfl) ?_
  refine lv_icmp_le (tgt := 9) hx hb dX12_greater_2 (by decide) (fun c1 => absurd c1 (by decide)) (fun _ => ?_)
  refine lv_iload_n hx hb dX12_greater_5 rfl (lv_at hl 0 rfl) ?_
  refine lv_goto (tgt := 10) hx hb dX12_greater_6 (by decide) ?_
  have hP : va_P g.1 vwCl (List.flatten []) s.heap := hP
  have hD : va_D A (List.flatten []) := hD
  exact mret_i hx hb hr hlocks hS (Nat.le_of_ble_eq_true rfl) (Nat.le_of_ble_eq_true rfl) dX12_greater_10 () rfl trivial hP hD
set_option maxRecDepth 100000 in
set_option maxHeartbeats 4000000 in
theorem m_greater_0_n6 (l : Launch) (g : zG)   : zM g l yX12_greater (Cond.code yX12_greater cX12_greater 2 (some .int) :: zB) ({ frames := 0, cells := 0, slots := 0, locals := 0 } : Room) [.int 0, .int (-6)] [] (fun _ : Unit => some (.int 0)) (fun _ : Unit => True) (fun _ : Unit => []) := by
  refine zM.of (cc := cX12_greater) (maxL := 2) (rt := (some .int)) (by decide) rfl (Nat.le_of_ble_eq_true rfl) ?_
  intro p e s m args below meth c A ls St hr hlocks hin hK hT hA hP hD hS hl
  obtain ⟨hx, hb, hml, hown, hts⟩ := id St
  have hl : lv_has ls 2 [(0, .int 0), (1, .int (-6))] := hl
  refine lv_iload_n hx hb dX12_greater_0 rfl (lv_at hl 0 rfl) ?_
  refine lv_iload_n hx hb dX12_greater_1 rfl (lv_at hl 1 rfl) ?_
  refine lv_icmp_le (tgt := 9) hx hb dX12_greater_2 (by decide) (fun c1 => absurd c1 (by decide)) (fun _ => ?_)
  refine lv_iload_n hx hb dX12_greater_5 rfl (lv_at hl 0 rfl) ?_
  refine lv_goto (tgt := 10) hx hb dX12_greater_6 (by decide) ?_
  have hP : va_P g.1 vwCl (List.flatten []) s.heap := hP
  have hD : va_D A (List.flatten []) := hD
  exact mret_i hx hb hr hlocks hS (Nat.le_of_ble_eq_true rfl) (Nat.le_of_ble_eq_true rfl) dX12_greater_10 () rfl trivial hP hD
set_option maxRecDepth 100000 in
set_option maxHeartbeats 4000000 in
theorem m_greater_0_n5 (l : Launch) (g : zG)   : zM g l yX12_greater (Cond.code yX12_greater cX12_greater 2 (some .int) :: zB) ({ frames := 0, cells := 0, slots := 0, locals := 0 } : Room) [.int 0, .int (-5)] [] (fun _ : Unit => some (.int 0)) (fun _ : Unit => True) (fun _ : Unit => []) := by
  refine zM.of (cc := cX12_greater) (maxL := 2) (rt := (some .int)) (by decide) rfl (Nat.le_of_ble_eq_true rfl) ?_
  intro p e s m args below meth c A ls St hr hlocks hin hK hT hA hP hD hS hl
  obtain ⟨hx, hb, hml, hown, hts⟩ := id St
  have hl : lv_has ls 2 [(0, .int 0), (1, .int (-5))] := hl
  refine lv_iload_n hx hb dX12_greater_0 rfl (lv_at hl 0 rfl) ?_
  refine lv_iload_n hx hb dX12_greater_1 rfl (lv_at hl 1 rfl) ?_
  refine lv_icmp_le (tgt := 9) hx hb dX12_greater_2 (by decide) (fun c1 => absurd c1 (by decide)) (fun _ => ?_)
  refine lv_iload_n hx hb dX12_greater_5 rfl (lv_at hl 0 rfl) ?_
  refine lv_goto (tgt := 10) hx hb dX12_greater_6 (by decide) ?_
  have hP : va_P g.1 vwCl (List.flatten []) s.heap := hP
  have hD : va_D A (List.flatten []) := hD
  exact mret_i hx hb hr hlocks hS (Nat.le_of_ble_eq_true rfl) (Nat.le_of_ble_eq_true rfl) dX12_greater_10 () rfl trivial hP hD
set_option maxRecDepth 100000 in
set_option maxHeartbeats 4000000 in
theorem m_greater_0_n4 (l : Launch) (g : zG)   : zM g l yX12_greater (Cond.code yX12_greater cX12_greater 2 (some .int) :: zB) ({ frames := 0, cells := 0, slots := 0, locals := 0 } : Room) [.int 0, .int (-4)] [] (fun _ : Unit => some (.int 0)) (fun _ : Unit => True) (fun _ : Unit => []) := by
  refine zM.of (cc := cX12_greater) (maxL := 2) (rt := (some .int)) (by decide) rfl (Nat.le_of_ble_eq_true rfl) ?_
  intro p e s m args below meth c A ls St hr hlocks hin hK hT hA hP hD hS hl
  obtain ⟨hx, hb, hml, hown, hts⟩ := id St
  have hl : lv_has ls 2 [(0, .int 0), (1, .int (-4))] := hl
  refine lv_iload_n hx hb dX12_greater_0 rfl (lv_at hl 0 rfl) ?_
  refine lv_iload_n hx hb dX12_greater_1 rfl (lv_at hl 1 rfl) ?_
  refine lv_icmp_le (tgt := 9) hx hb dX12_greater_2 (by decide) (fun c1 => absurd c1 (by decide)) (fun _ => ?_)
  refine lv_iload_n hx hb dX12_greater_5 rfl (lv_at hl 0 rfl) ?_
  refine lv_goto (tgt := 10) hx hb dX12_greater_6 (by decide) ?_
  have hP : va_P g.1 vwCl (List.flatten []) s.heap := hP
  have hD : va_D A (List.flatten []) := hD
  exact mret_i hx hb hr hlocks hS (Nat.le_of_ble_eq_true rfl) (Nat.le_of_ble_eq_true rfl) dX12_greater_10 () rfl trivial hP hD
set_option maxRecDepth 100000 in
set_option maxHeartbeats 4000000 in
theorem m_greater_0_n3 (l : Launch) (g : zG)   : zM g l yX12_greater (Cond.code yX12_greater cX12_greater 2 (some .int) :: zB) ({ frames := 0, cells := 0, slots := 0, locals := 0 } : Room) [.int 0, .int (-3)] [] (fun _ : Unit => some (.int 0)) (fun _ : Unit => True) (fun _ : Unit => []) := by
  refine zM.of (cc := cX12_greater) (maxL := 2) (rt := (some .int)) (by decide) rfl (Nat.le_of_ble_eq_true rfl) ?_
  intro p e s m args below meth c A ls St hr hlocks hin hK hT hA hP hD hS hl
  obtain ⟨hx, hb, hml, hown, hts⟩ := id St
  have hl : lv_has ls 2 [(0, .int 0), (1, .int (-3))] := hl
  refine lv_iload_n hx hb dX12_greater_0 rfl (lv_at hl 0 rfl) ?_
  refine lv_iload_n hx hb dX12_greater_1 rfl (lv_at hl 1 rfl) ?_
  refine lv_icmp_le (tgt := 9) hx hb dX12_greater_2 (by decide) (fun c1 => absurd c1 (by decide)) (fun _ => ?_)
  refine lv_iload_n hx hb dX12_greater_5 rfl (lv_at hl 0 rfl) ?_
  refine lv_goto (tgt := 10) hx hb dX12_greater_6 (by decide) ?_
  have hP : va_P g.1 vwCl (List.flatten []) s.heap := hP
  have hD : va_D A (List.flatten []) := hD
  exact mret_i hx hb hr hlocks hS (Nat.le_of_ble_eq_true rfl) (Nat.le_of_ble_eq_true rfl) dX12_greater_10 () rfl trivial hP hD
set_option maxRecDepth 100000 in
set_option maxHeartbeats 4000000 in
theorem m_greater_0_n2 (l : Launch) (g : zG)   : zM g l yX12_greater (Cond.code yX12_greater cX12_greater 2 (some .int) :: zB) ({ frames := 0, cells := 0, slots := 0, locals := 0 } : Room) [.int 0, .int (-2)] [] (fun _ : Unit => some (.int 0)) (fun _ : Unit => True) (fun _ : Unit => []) := by
  refine zM.of (cc := cX12_greater) (maxL := 2) (rt := (some .int)) (by decide) rfl (Nat.le_of_ble_eq_true rfl) ?_
  intro p e s m args below meth c A ls St hr hlocks hin hK hT hA hP hD hS hl
  obtain ⟨hx, hb, hml, hown, hts⟩ := id St
  have hl : lv_has ls 2 [(0, .int 0), (1, .int (-2))] := hl
  refine lv_iload_n hx hb dX12_greater_0 rfl (lv_at hl 0 rfl) ?_
  refine lv_iload_n hx hb dX12_greater_1 rfl (lv_at hl 1 rfl) ?_
  refine lv_icmp_le (tgt := 9) hx hb dX12_greater_2 (by decide) (fun c1 => absurd c1 (by decide)) (fun _ => ?_)
  refine lv_iload_n hx hb dX12_greater_5 rfl (lv_at hl 0 rfl) ?_
  refine lv_goto (tgt := 10) hx hb dX12_greater_6 (by decide) ?_
  have hP : va_P g.1 vwCl (List.flatten []) s.heap := hP
  have hD : va_D A (List.flatten []) := hD
  exact mret_i hx hb hr hlocks hS (Nat.le_of_ble_eq_true rfl) (Nat.le_of_ble_eq_true rfl) dX12_greater_10 () rfl trivial hP hD
set_option maxRecDepth 100000 in
set_option maxHeartbeats 4000000 in
theorem m_greater_0_n1 (l : Launch) (g : zG)   : zM g l yX12_greater (Cond.code yX12_greater cX12_greater 2 (some .int) :: zB) ({ frames := 0, cells := 0, slots := 0, locals := 0 } : Room) [.int 0, .int (-1)] [] (fun _ : Unit => some (.int 0)) (fun _ : Unit => True) (fun _ : Unit => []) := by
  refine zM.of (cc := cX12_greater) (maxL := 2) (rt := (some .int)) (by decide) rfl (Nat.le_of_ble_eq_true rfl) ?_
  intro p e s m args below meth c A ls St hr hlocks hin hK hT hA hP hD hS hl
  obtain ⟨hx, hb, hml, hown, hts⟩ := id St
  have hl : lv_has ls 2 [(0, .int 0), (1, .int (-1))] := hl
  refine lv_iload_n hx hb dX12_greater_0 rfl (lv_at hl 0 rfl) ?_
  refine lv_iload_n hx hb dX12_greater_1 rfl (lv_at hl 1 rfl) ?_
  refine lv_icmp_le (tgt := 9) hx hb dX12_greater_2 (by decide) (fun c1 => absurd c1 (by decide)) (fun _ => ?_)
  refine lv_iload_n hx hb dX12_greater_5 rfl (lv_at hl 0 rfl) ?_
  refine lv_goto (tgt := 10) hx hb dX12_greater_6 (by decide) ?_
  have hP : va_P g.1 vwCl (List.flatten []) s.heap := hP
  have hD : va_D A (List.flatten []) := hD
  exact mret_i hx hb hr hlocks hS (Nat.le_of_ble_eq_true rfl) (Nat.le_of_ble_eq_true rfl) dX12_greater_10 () rfl trivial hP hD
set_option maxRecDepth 100000 in
set_option maxHeartbeats 4000000 in
theorem m_greater_0_0 (l : Launch) (g : zG)   : zM g l yX12_greater (Cond.code yX12_greater cX12_greater 2 (some .int) :: zB) ({ frames := 0, cells := 0, slots := 0, locals := 0 } : Room) [.int 0, .int 0] [] (fun _ : Unit => some (.int 0)) (fun _ : Unit => True) (fun _ : Unit => []) := by
  refine zM.of (cc := cX12_greater) (maxL := 2) (rt := (some .int)) (by decide) rfl (Nat.le_of_ble_eq_true rfl) ?_
  intro p e s m args below meth c A ls St hr hlocks hin hK hT hA hP hD hS hl
  obtain ⟨hx, hb, hml, hown, hts⟩ := id St
  have hl : lv_has ls 2 [(0, .int 0), (1, .int 0)] := hl
  refine lv_iload_n hx hb dX12_greater_0 rfl (lv_at hl 0 rfl) ?_
  refine lv_iload_n hx hb dX12_greater_1 rfl (lv_at hl 1 rfl) ?_
  refine lv_icmp_le (tgt := 9) hx hb dX12_greater_2 (by decide) (fun _ => ?_) (fun c1 => absurd (by decide) c1)
  refine lv_iload_n hx hb dX12_greater_9 rfl (lv_at hl 1 rfl) ?_
  have hP : va_P g.1 vwCl (List.flatten []) s.heap := hP
  have hD : va_D A (List.flatten []) := hD
  exact mret_i hx hb hr hlocks hS (Nat.le_of_ble_eq_true rfl) (Nat.le_of_ble_eq_true rfl) dX12_greater_10 () rfl trivial hP hD
set_option maxRecDepth 100000 in
set_option maxHeartbeats 4000000 in
theorem m_greater_0_1 (l : Launch) (g : zG)   : zM g l yX12_greater (Cond.code yX12_greater cX12_greater 2 (some .int) :: zB) ({ frames := 0, cells := 0, slots := 0, locals := 0 } : Room) [.int 0, .int 1] [] (fun _ : Unit => some (.int 1)) (fun _ : Unit => True) (fun _ : Unit => []) := by
  refine zM.of (cc := cX12_greater) (maxL := 2) (rt := (some .int)) (by decide) rfl (Nat.le_of_ble_eq_true rfl) ?_
  intro p e s m args below meth c A ls St hr hlocks hin hK hT hA hP hD hS hl
  obtain ⟨hx, hb, hml, hown, hts⟩ := id St
  have hl : lv_has ls 2 [(0, .int 0), (1, .int 1)] := hl
  refine lv_iload_n hx hb dX12_greater_0 rfl (lv_at hl 0 rfl) ?_
  refine lv_iload_n hx hb dX12_greater_1 rfl (lv_at hl 1 rfl) ?_
  refine lv_icmp_le (tgt := 9) hx hb dX12_greater_2 (by decide) (fun _ => ?_) (fun c1 => absurd (by decide) c1)
  refine lv_iload_n hx hb dX12_greater_9 rfl (lv_at hl 1 rfl) ?_
  have hP : va_P g.1 vwCl (List.flatten []) s.heap := hP
  have hD : va_D A (List.flatten []) := hD
  exact mret_i hx hb hr hlocks hS (Nat.le_of_ble_eq_true rfl) (Nat.le_of_ble_eq_true rfl) dX12_greater_10 () rfl trivial hP hD
set_option maxRecDepth 100000 in
set_option maxHeartbeats 4000000 in
theorem m_greater_0_2 (l : Launch) (g : zG)   : zM g l yX12_greater (Cond.code yX12_greater cX12_greater 2 (some .int) :: zB) ({ frames := 0, cells := 0, slots := 0, locals := 0 } : Room) [.int 0, .int 2] [] (fun _ : Unit => some (.int 2)) (fun _ : Unit => True) (fun _ : Unit => []) := by
  refine zM.of (cc := cX12_greater) (maxL := 2) (rt := (some .int)) (by decide) rfl (Nat.le_of_ble_eq_true rfl) ?_
  intro p e s m args below meth c A ls St hr hlocks hin hK hT hA hP hD hS hl
  obtain ⟨hx, hb, hml, hown, hts⟩ := id St
  have hl : lv_has ls 2 [(0, .int 0), (1, .int 2)] := hl
  refine lv_iload_n hx hb dX12_greater_0 rfl (lv_at hl 0 rfl) ?_
  refine lv_iload_n hx hb dX12_greater_1 rfl (lv_at hl 1 rfl) ?_
  refine lv_icmp_le (tgt := 9) hx hb dX12_greater_2 (by decide) (fun _ => ?_) (fun c1 => absurd (by decide) c1)
  refine lv_iload_n hx hb dX12_greater_9 rfl (lv_at hl 1 rfl) ?_
  have hP : va_P g.1 vwCl (List.flatten []) s.heap := hP
  have hD : va_D A (List.flatten []) := hD
  exact mret_i hx hb hr hlocks hS (Nat.le_of_ble_eq_true rfl) (Nat.le_of_ble_eq_true rfl) dX12_greater_10 () rfl trivial hP hD
set_option maxRecDepth 100000 in
set_option maxHeartbeats 4000000 in
theorem m_greater_0_3 (l : Launch) (g : zG)   : zM g l yX12_greater (Cond.code yX12_greater cX12_greater 2 (some .int) :: zB) ({ frames := 0, cells := 0, slots := 0, locals := 0 } : Room) [.int 0, .int 3] [] (fun _ : Unit => some (.int 3)) (fun _ : Unit => True) (fun _ : Unit => []) := by
  refine zM.of (cc := cX12_greater) (maxL := 2) (rt := (some .int)) (by decide) rfl (Nat.le_of_ble_eq_true rfl) ?_
  intro p e s m args below meth c A ls St hr hlocks hin hK hT hA hP hD hS hl
  obtain ⟨hx, hb, hml, hown, hts⟩ := id St
  have hl : lv_has ls 2 [(0, .int 0), (1, .int 3)] := hl
  refine lv_iload_n hx hb dX12_greater_0 rfl (lv_at hl 0 rfl) ?_
  refine lv_iload_n hx hb dX12_greater_1 rfl (lv_at hl 1 rfl) ?_
  refine lv_icmp_le (tgt := 9) hx hb dX12_greater_2 (by decide) (fun _ => ?_) (fun c1 => absurd (by decide) c1)
  refine lv_iload_n hx hb dX12_greater_9 rfl (lv_at hl 1 rfl) ?_
  have hP : va_P g.1 vwCl (List.flatten []) s.heap := hP
  have hD : va_D A (List.flatten []) := hD
  exact mret_i hx hb hr hlocks hS (Nat.le_of_ble_eq_true rfl) (Nat.le_of_ble_eq_true rfl) dX12_greater_10 () rfl trivial hP hD
set_option maxRecDepth 100000 in
set_option maxHeartbeats 4000000 in
theorem m_greater_0_4 (l : Launch) (g : zG)   : zM g l yX12_greater (Cond.code yX12_greater cX12_greater 2 (some .int) :: zB) ({ frames := 0, cells := 0, slots := 0, locals := 0 } : Room) [.int 0, .int 4] [] (fun _ : Unit => some (.int 4)) (fun _ : Unit => True) (fun _ : Unit => []) := by
  refine zM.of (cc := cX12_greater) (maxL := 2) (rt := (some .int)) (by decide) rfl (Nat.le_of_ble_eq_true rfl) ?_
  intro p e s m args below meth c A ls St hr hlocks hin hK hT hA hP hD hS hl
  obtain ⟨hx, hb, hml, hown, hts⟩ := id St
  have hl : lv_has ls 2 [(0, .int 0), (1, .int 4)] := hl
  refine lv_iload_n hx hb dX12_greater_0 rfl (lv_at hl 0 rfl) ?_
  refine lv_iload_n hx hb dX12_greater_1 rfl (lv_at hl 1 rfl) ?_
  refine lv_icmp_le (tgt := 9) hx hb dX12_greater_2 (by decide) (fun _ => ?_) (fun c1 => absurd (by decide) c1)
  refine lv_iload_n hx hb dX12_greater_9 rfl (lv_at hl 1 rfl) ?_
  have hP : va_P g.1 vwCl (List.flatten []) s.heap := hP
  have hD : va_D A (List.flatten []) := hD
  exact mret_i hx hb hr hlocks hS (Nat.le_of_ble_eq_true rfl) (Nat.le_of_ble_eq_true rfl) dX12_greater_10 () rfl trivial hP hD
set_option maxRecDepth 100000 in
set_option maxHeartbeats 4000000 in
theorem m_greater_0_5 (l : Launch) (g : zG)   : zM g l yX12_greater (Cond.code yX12_greater cX12_greater 2 (some .int) :: zB) ({ frames := 0, cells := 0, slots := 0, locals := 0 } : Room) [.int 0, .int 5] [] (fun _ : Unit => some (.int 5)) (fun _ : Unit => True) (fun _ : Unit => []) := by
  refine zM.of (cc := cX12_greater) (maxL := 2) (rt := (some .int)) (by decide) rfl (Nat.le_of_ble_eq_true rfl) ?_
  intro p e s m args below meth c A ls St hr hlocks hin hK hT hA hP hD hS hl
  obtain ⟨hx, hb, hml, hown, hts⟩ := id St
  have hl : lv_has ls 2 [(0, .int 0), (1, .int 5)] := hl
  refine lv_iload_n hx hb dX12_greater_0 rfl (lv_at hl 0 rfl) ?_
  refine lv_iload_n hx hb dX12_greater_1 rfl (lv_at hl 1 rfl) ?_
  refine lv_icmp_le (tgt := 9) hx hb dX12_greater_2 (by decide) (fun _ => ?_) (fun c1 => absurd (by decide) c1)
  refine lv_iload_n hx hb dX12_greater_9 rfl (lv_at hl 1 rfl) ?_
  have hP : va_P g.1 vwCl (List.flatten []) s.heap := hP
  have hD : va_D A (List.flatten []) := hD
  exact mret_i hx hb hr hlocks hS (Nat.le_of_ble_eq_true rfl) (Nat.le_of_ble_eq_true rfl) dX12_greater_10 () rfl trivial hP hD
set_option maxRecDepth 100000 in
set_option maxHeartbeats 4000000 in
theorem m_greater_0_6 (l : Launch) (g : zG)   : zM g l yX12_greater (Cond.code yX12_greater cX12_greater 2 (some .int) :: zB) ({ frames := 0, cells := 0, slots := 0, locals := 0 } : Room) [.int 0, .int 6] [] (fun _ : Unit => some (.int 6)) (fun _ : Unit => True) (fun _ : Unit => []) := by
  refine zM.of (cc := cX12_greater) (maxL := 2) (rt := (some .int)) (by decide) rfl (Nat.le_of_ble_eq_true rfl) ?_
  intro p e s m args below meth c A ls St hr hlocks hin hK hT hA hP hD hS hl
  obtain ⟨hx, hb, hml, hown, hts⟩ := id St
  have hl : lv_has ls 2 [(0, .int 0), (1, .int 6)] := hl
  refine lv_iload_n hx hb dX12_greater_0 rfl (lv_at hl 0 rfl) ?_
  refine lv_iload_n hx hb dX12_greater_1 rfl (lv_at hl 1 rfl) ?_
  refine lv_icmp_le (tgt := 9) hx hb dX12_greater_2 (by decide) (fun _ => ?_) (fun c1 => absurd (by decide) c1)
  refine lv_iload_n hx hb dX12_greater_9 rfl (lv_at hl 1 rfl) ?_
  have hP : va_P g.1 vwCl (List.flatten []) s.heap := hP
  have hD : va_D A (List.flatten []) := hD
  exact mret_i hx hb hr hlocks hS (Nat.le_of_ble_eq_true rfl) (Nat.le_of_ble_eq_true rfl) dX12_greater_10 () rfl trivial hP hD
set_option maxRecDepth 100000 in
set_option maxHeartbeats 4000000 in
theorem m_greater_0_7 (l : Launch) (g : zG)   : zM g l yX12_greater (Cond.code yX12_greater cX12_greater 2 (some .int) :: zB) ({ frames := 0, cells := 0, slots := 0, locals := 0 } : Room) [.int 0, .int 7] [] (fun _ : Unit => some (.int 7)) (fun _ : Unit => True) (fun _ : Unit => []) := by
  refine zM.of (cc := cX12_greater) (maxL := 2) (rt := (some .int)) (by decide) rfl (Nat.le_of_ble_eq_true rfl) ?_
  intro p e s m args below meth c A ls St hr hlocks hin hK hT hA hP hD hS hl
  obtain ⟨hx, hb, hml, hown, hts⟩ := id St
  have hl : lv_has ls 2 [(0, .int 0), (1, .int 7)] := hl
  refine lv_iload_n hx hb dX12_greater_0 rfl (lv_at hl 0 rfl) ?_
  refine lv_iload_n hx hb dX12_greater_1 rfl (lv_at hl 1 rfl) ?_
  refine lv_icmp_le (tgt := 9) hx hb dX12_greater_2 (by decide) (fun _ => ?_) (fun c1 => absurd (by decide) c1)
  refine lv_iload_n hx hb dX12_greater_9 rfl (lv_at hl 1 rfl) ?_
  have hP : va_P g.1 vwCl (List.flatten []) s.heap := hP
  have hD : va_D A (List.flatten []) := hD
  exact mret_i hx hb hr hlocks hS (Nat.le_of_ble_eq_true rfl) (Nat.le_of_ble_eq_true rfl) dX12_greater_10 () rfl trivial hP hD
set_option maxRecDepth 100000 in
set_option maxHeartbeats 4000000 in
theorem m_greater_0_8 (l : Launch) (g : zG)   : zM g l yX12_greater (Cond.code yX12_greater cX12_greater 2 (some .int) :: zB) ({ frames := 0, cells := 0, slots := 0, locals := 0 } : Room) [.int 0, .int 8] [] (fun _ : Unit => some (.int 8)) (fun _ : Unit => True) (fun _ : Unit => []) := by
  refine zM.of (cc := cX12_greater) (maxL := 2) (rt := (some .int)) (by decide) rfl (Nat.le_of_ble_eq_true rfl) ?_
  intro p e s m args below meth c A ls St hr hlocks hin hK hT hA hP hD hS hl
  obtain ⟨hx, hb, hml, hown, hts⟩ := id St
  have hl : lv_has ls 2 [(0, .int 0), (1, .int 8)] := hl
  refine lv_iload_n hx hb dX12_greater_0 rfl (lv_at hl 0 rfl) ?_
  refine lv_iload_n hx hb dX12_greater_1 rfl (lv_at hl 1 rfl) ?_
  refine lv_icmp_le (tgt := 9) hx hb dX12_greater_2 (by decide) (fun _ => ?_) (fun c1 => absurd (by decide) c1)
  refine lv_iload_n hx hb dX12_greater_9 rfl (lv_at hl 1 rfl) ?_
  have hP : va_P g.1 vwCl (List.flatten []) s.heap := hP
  have hD : va_D A (List.flatten []) := hD
  exact mret_i hx hb hr hlocks hS (Nat.le_of_ble_eq_true rfl) (Nat.le_of_ble_eq_true rfl) dX12_greater_10 () rfl trivial hP hD
set_option maxRecDepth 100000 in
set_option maxHeartbeats 4000000 in
theorem m_greater_0_9 (l : Launch) (g : zG)   : zM g l yX12_greater (Cond.code yX12_greater cX12_greater 2 (some .int) :: zB) ({ frames := 0, cells := 0, slots := 0, locals := 0 } : Room) [.int 0, .int 9] [] (fun _ : Unit => some (.int 9)) (fun _ : Unit => True) (fun _ : Unit => []) := by
  refine zM.of (cc := cX12_greater) (maxL := 2) (rt := (some .int)) (by decide) rfl (Nat.le_of_ble_eq_true rfl) ?_
  intro p e s m args below meth c A ls St hr hlocks hin hK hT hA hP hD hS hl
  obtain ⟨hx, hb, hml, hown, hts⟩ := id St
  have hl : lv_has ls 2 [(0, .int 0), (1, .int 9)] := hl
  refine lv_iload_n hx hb dX12_greater_0 rfl (lv_at hl 0 rfl) ?_
  refine lv_iload_n hx hb dX12_greater_1 rfl (lv_at hl 1 rfl) ?_
  refine lv_icmp_le (tgt := 9) hx hb dX12_greater_2 (by decide) (fun _ => ?_) (fun c1 => absurd (by decide) c1)
  refine lv_iload_n hx hb dX12_greater_9 rfl (lv_at hl 1 rfl) ?_
  have hP : va_P g.1 vwCl (List.flatten []) s.heap := hP
  have hD : va_D A (List.flatten []) := hD
  exact mret_i hx hb hr hlocks hS (Nat.le_of_ble_eq_true rfl) (Nat.le_of_ble_eq_true rfl) dX12_greater_10 () rfl trivial hP hD
set_option maxRecDepth 100000 in
set_option maxHeartbeats 4000000 in
theorem m_greater_0_10 (l : Launch) (g : zG)   : zM g l yX12_greater (Cond.code yX12_greater cX12_greater 2 (some .int) :: zB) ({ frames := 0, cells := 0, slots := 0, locals := 0 } : Room) [.int 0, .int 10] [] (fun _ : Unit => some (.int 10)) (fun _ : Unit => True) (fun _ : Unit => []) := by
  refine zM.of (cc := cX12_greater) (maxL := 2) (rt := (some .int)) (by decide) rfl (Nat.le_of_ble_eq_true rfl) ?_
  intro p e s m args below meth c A ls St hr hlocks hin hK hT hA hP hD hS hl
  obtain ⟨hx, hb, hml, hown, hts⟩ := id St
  have hl : lv_has ls 2 [(0, .int 0), (1, .int 10)] := hl
  refine lv_iload_n hx hb dX12_greater_0 rfl (lv_at hl 0 rfl) ?_
  refine lv_iload_n hx hb dX12_greater_1 rfl (lv_at hl 1 rfl) ?_
  refine lv_icmp_le (tgt := 9) hx hb dX12_greater_2 (by decide) (fun _ => ?_) (fun c1 => absurd (by decide) c1)
  refine lv_iload_n hx hb dX12_greater_9 rfl (lv_at hl 1 rfl) ?_
  have hP : va_P g.1 vwCl (List.flatten []) s.heap := hP
  have hD : va_D A (List.flatten []) := hD
  exact mret_i hx hb hr hlocks hS (Nat.le_of_ble_eq_true rfl) (Nat.le_of_ble_eq_true rfl) dX12_greater_10 () rfl trivial hP hD
set_option maxRecDepth 100000 in
set_option maxHeartbeats 4000000 in
theorem m_greater_0_11 (l : Launch) (g : zG)   : zM g l yX12_greater (Cond.code yX12_greater cX12_greater 2 (some .int) :: zB) ({ frames := 0, cells := 0, slots := 0, locals := 0 } : Room) [.int 0, .int 11] [] (fun _ : Unit => some (.int 11)) (fun _ : Unit => True) (fun _ : Unit => []) := by
  refine zM.of (cc := cX12_greater) (maxL := 2) (rt := (some .int)) (by decide) rfl (Nat.le_of_ble_eq_true rfl) ?_
  intro p e s m args below meth c A ls St hr hlocks hin hK hT hA hP hD hS hl
  obtain ⟨hx, hb, hml, hown, hts⟩ := id St
  have hl : lv_has ls 2 [(0, .int 0), (1, .int 11)] := hl
  refine lv_iload_n hx hb dX12_greater_0 rfl (lv_at hl 0 rfl) ?_
  refine lv_iload_n hx hb dX12_greater_1 rfl (lv_at hl 1 rfl) ?_
  refine lv_icmp_le (tgt := 9) hx hb dX12_greater_2 (by decide) (fun _ => ?_) (fun c1 => absurd (by decide) c1)
  refine lv_iload_n hx hb dX12_greater_9 rfl (lv_at hl 1 rfl) ?_
  have hP : va_P g.1 vwCl (List.flatten []) s.heap := hP
  have hD : va_D A (List.flatten []) := hD
  exact mret_i hx hb hr hlocks hS (Nat.le_of_ble_eq_true rfl) (Nat.le_of_ble_eq_true rfl) dX12_greater_10 () rfl trivial hP hD
set_option maxRecDepth 100000 in
set_option maxHeartbeats 4000000 in
theorem m_greater_0_12 (l : Launch) (g : zG)   : zM g l yX12_greater (Cond.code yX12_greater cX12_greater 2 (some .int) :: zB) ({ frames := 0, cells := 0, slots := 0, locals := 0 } : Room) [.int 0, .int 12] [] (fun _ : Unit => some (.int 12)) (fun _ : Unit => True) (fun _ : Unit => []) := by
  refine zM.of (cc := cX12_greater) (maxL := 2) (rt := (some .int)) (by decide) rfl (Nat.le_of_ble_eq_true rfl) ?_
  intro p e s m args below meth c A ls St hr hlocks hin hK hT hA hP hD hS hl
  obtain ⟨hx, hb, hml, hown, hts⟩ := id St
  have hl : lv_has ls 2 [(0, .int 0), (1, .int 12)] := hl
  refine lv_iload_n hx hb dX12_greater_0 rfl (lv_at hl 0 rfl) ?_
  refine lv_iload_n hx hb dX12_greater_1 rfl (lv_at hl 1 rfl) ?_
  refine lv_icmp_le (tgt := 9) hx hb dX12_greater_2 (by decide) (fun _ => ?_) (fun c1 => absurd (by decide) c1)
  refine lv_iload_n hx hb dX12_greater_9 rfl (lv_at hl 1 rfl) ?_
  have hP : va_P g.1 vwCl (List.flatten []) s.heap := hP
  have hD : va_D A (List.flatten []) := hD
  exact mret_i hx hb hr hlocks hS (Nat.le_of_ble_eq_true rfl) (Nat.le_of_ble_eq_true rfl) dX12_greater_10 () rfl trivial hP hD
set_option maxRecDepth 100000 in
set_option maxHeartbeats 4000000 in
theorem m_greater_0_13 (l : Launch) (g : zG)   : zM g l yX12_greater (Cond.code yX12_greater cX12_greater 2 (some .int) :: zB) ({ frames := 0, cells := 0, slots := 0, locals := 0 } : Room) [.int 0, .int 13] [] (fun _ : Unit => some (.int 13)) (fun _ : Unit => True) (fun _ : Unit => []) := by
  refine zM.of (cc := cX12_greater) (maxL := 2) (rt := (some .int)) (by decide) rfl (Nat.le_of_ble_eq_true rfl) ?_
  intro p e s m args below meth c A ls St hr hlocks hin hK hT hA hP hD hS hl
  obtain ⟨hx, hb, hml, hown, hts⟩ := id St
  have hl : lv_has ls 2 [(0, .int 0), (1, .int 13)] := hl
  refine lv_iload_n hx hb dX12_greater_0 rfl (lv_at hl 0 rfl) ?_
  refine lv_iload_n hx hb dX12_greater_1 rfl (lv_at hl 1 rfl) ?_
  refine lv_icmp_le (tgt := 9) hx hb dX12_greater_2 (by decide) (fun _ => ?_) (fun c1 => absurd (by decide) c1)
  refine lv_iload_n hx hb dX12_greater_9 rfl (lv_at hl 1 rfl) ?_
  have hP : va_P g.1 vwCl (List.flatten []) s.heap := hP
  have hD : va_D A (List.flatten []) := hD
  exact mret_i hx hb hr hlocks hS (Nat.le_of_ble_eq_true rfl) (Nat.le_of_ble_eq_true rfl) dX12_greater_10 () rfl trivial hP hD
set_option maxRecDepth 100000 in
set_option maxHeartbeats 4000000 in
theorem m_greater_0_14 (l : Launch) (g : zG)   : zM g l yX12_greater (Cond.code yX12_greater cX12_greater 2 (some .int) :: zB) ({ frames := 0, cells := 0, slots := 0, locals := 0 } : Room) [.int 0, .int 14] [] (fun _ : Unit => some (.int 14)) (fun _ : Unit => True) (fun _ : Unit => []) := by
  refine zM.of (cc := cX12_greater) (maxL := 2) (rt := (some .int)) (by decide) rfl (Nat.le_of_ble_eq_true rfl) ?_
  intro p e s m args below meth c A ls St hr hlocks hin hK hT hA hP hD hS hl
  obtain ⟨hx, hb, hml, hown, hts⟩ := id St
  have hl : lv_has ls 2 [(0, .int 0), (1, .int 14)] := hl
  refine lv_iload_n hx hb dX12_greater_0 rfl (lv_at hl 0 rfl) ?_
  refine lv_iload_n hx hb dX12_greater_1 rfl (lv_at hl 1 rfl) ?_
  refine lv_icmp_le (tgt := 9) hx hb dX12_greater_2 (by decide) (fun _ => ?_) (fun c1 => absurd (by decide) c1)
  refine lv_iload_n hx hb dX12_greater_9 rfl (lv_at hl 1 rfl) ?_
  have hP : va_P g.1 vwCl (List.flatten []) s.heap := hP
  have hD : va_D A (List.flatten []) := hD
  exact mret_i hx hb hr hlocks hS (Nat.le_of_ble_eq_true rfl) (Nat.le_of_ble_eq_true rfl) dX12_greater_10 () rfl trivial hP hD
set_option maxRecDepth 100000 in
set_option maxHeartbeats 4000000 in
theorem m_greater_0_15 (l : Launch) (g : zG)   : zM g l yX12_greater (Cond.code yX12_greater cX12_greater 2 (some .int) :: zB) ({ frames := 0, cells := 0, slots := 0, locals := 0 } : Room) [.int 0, .int 15] [] (fun _ : Unit => some (.int 15)) (fun _ : Unit => True) (fun _ : Unit => []) := by
  refine zM.of (cc := cX12_greater) (maxL := 2) (rt := (some .int)) (by decide) rfl (Nat.le_of_ble_eq_true rfl) ?_
  intro p e s m args below meth c A ls St hr hlocks hin hK hT hA hP hD hS hl
  obtain ⟨hx, hb, hml, hown, hts⟩ := id St
  have hl : lv_has ls 2 [(0, .int 0), (1, .int 15)] := hl
  refine lv_iload_n hx hb dX12_greater_0 rfl (lv_at hl 0 rfl) ?_
  refine lv_iload_n hx hb dX12_greater_1 rfl (lv_at hl 1 rfl) ?_
  refine lv_icmp_le (tgt := 9) hx hb dX12_greater_2 (by decide) (fun _ => ?_) (fun c1 => absurd (by decide) c1)
  refine lv_iload_n hx hb dX12_greater_9 rfl (lv_at hl 1 rfl) ?_
  have hP : va_P g.1 vwCl (List.flatten []) s.heap := hP
  have hD : va_D A (List.flatten []) := hD
  exact mret_i hx hb hr hlocks hS (Nat.le_of_ble_eq_true rfl) (Nat.le_of_ble_eq_true rfl) dX12_greater_10 () rfl trivial hP hD
set_option maxRecDepth 100000 in
set_option maxHeartbeats 4000000 in
theorem m_greater_0_16 (l : Launch) (g : zG)   : zM g l yX12_greater (Cond.code yX12_greater cX12_greater 2 (some .int) :: zB) ({ frames := 0, cells := 0, slots := 0, locals := 0 } : Room) [.int 0, .int 16] [] (fun _ : Unit => some (.int 16)) (fun _ : Unit => True) (fun _ : Unit => []) := by
  refine zM.of (cc := cX12_greater) (maxL := 2) (rt := (some .int)) (by decide) rfl (Nat.le_of_ble_eq_true rfl) ?_
  intro p e s m args below meth c A ls St hr hlocks hin hK hT hA hP hD hS hl
  obtain ⟨hx, hb, hml, hown, hts⟩ := id St
  have hl : lv_has ls 2 [(0, .int 0), (1, .int 16)] := hl
  refine lv_iload_n hx hb dX12_greater_0 rfl (lv_at hl 0 rfl) ?_
  refine lv_iload_n hx hb dX12_greater_1 rfl (lv_at hl 1 rfl) ?_
  refine lv_icmp_le (tgt := 9) hx hb dX12_greater_2 (by decide) (fun _ => ?_) (fun c1 => absurd (by decide) c1)
  refine lv_iload_n hx hb dX12_greater_9 rfl (lv_at hl 1 rfl) ?_
  have hP : va_P g.1 vwCl (List.flatten []) s.heap := hP
  have hD : va_D A (List.flatten []) := hD
  exact mret_i hx hb hr hlocks hS (Nat.le_of_ble_eq_true rfl) (Nat.le_of_ble_eq_true rfl) dX12_greater_10 () rfl trivial hP hD
set_option maxRecDepth 100000 in
set_option maxHeartbeats 4000000 in
theorem m_greater_0_17 (l : Launch) (g : zG)   : zM g l yX12_greater (Cond.code yX12_greater cX12_greater 2 (some .int) :: zB) ({ frames := 0, cells := 0, slots := 0, locals := 0 } : Room) [.int 0, .int 17] [] (fun _ : Unit => some (.int 17)) (fun _ : Unit => True) (fun _ : Unit => []) := by
  refine zM.of (cc := cX12_greater) (maxL := 2) (rt := (some .int)) (by decide) rfl (Nat.le_of_ble_eq_true rfl) ?_
  intro p e s m args below meth c A ls St hr hlocks hin hK hT hA hP hD hS hl
  obtain ⟨hx, hb, hml, hown, hts⟩ := id St
  have hl : lv_has ls 2 [(0, .int 0), (1, .int 17)] := hl
  refine lv_iload_n hx hb dX12_greater_0 rfl (lv_at hl 0 rfl) ?_
  refine lv_iload_n hx hb dX12_greater_1 rfl (lv_at hl 1 rfl) ?_
  refine lv_icmp_le (tgt := 9) hx hb dX12_greater_2 (by decide) (fun _ => ?_) (fun c1 => absurd (by decide) c1)
  refine lv_iload_n hx hb dX12_greater_9 rfl (lv_at hl 1 rfl) ?_
  have hP : va_P g.1 vwCl (List.flatten []) s.heap := hP
  have hD : va_D A (List.flatten []) := hD
  exact mret_i hx hb hr hlocks hS (Nat.le_of_ble_eq_true rfl) (Nat.le_of_ble_eq_true rfl) dX12_greater_10 () rfl trivial hP hD
set_option maxRecDepth 100000 in
set_option maxHeartbeats 4000000 in
theorem m_greater_0_18 (l : Launch) (g : zG)   : zM g l yX12_greater (Cond.code yX12_greater cX12_greater 2 (some .int) :: zB) ({ frames := 0, cells := 0, slots := 0, locals := 0 } : Room) [.int 0, .int 18] [] (fun _ : Unit => some (.int 18)) (fun _ : Unit => True) (fun _ : Unit => []) := by
  refine zM.of (cc := cX12_greater) (maxL := 2) (rt := (some .int)) (by decide) rfl (Nat.le_of_ble_eq_true rfl) ?_
  intro p e s m args below meth c A ls St hr hlocks hin hK hT hA hP hD hS hl
  obtain ⟨hx, hb, hml, hown, hts⟩ := id St
  have hl : lv_has ls 2 [(0, .int 0), (1, .int 18)] := hl
  refine lv_iload_n hx hb dX12_greater_0 rfl (lv_at hl 0 rfl) ?_
  refine lv_iload_n hx hb dX12_greater_1 rfl (lv_at hl 1 rfl) ?_
  refine lv_icmp_le (tgt := 9) hx hb dX12_greater_2 (by decide) (fun _ => ?_) (fun c1 => absurd (by decide) c1)
  refine lv_iload_n hx hb dX12_greater_9 rfl (lv_at hl 1 rfl) ?_
  have hP : va_P g.1 vwCl (List.flatten []) s.heap := hP
  have hD : va_D A (List.flatten []) := hD
  exact mret_i hx hb hr hlocks hS (Nat.le_of_ble_eq_true rfl) (Nat.le_of_ble_eq_true rfl) dX12_greater_10 () rfl trivial hP hD
set_option maxRecDepth 100000 in
set_option maxHeartbeats 4000000 in
theorem m_greater_0_19 (l : Launch) (g : zG)   : zM g l yX12_greater (Cond.code yX12_greater cX12_greater 2 (some .int) :: zB) ({ frames := 0, cells := 0, slots := 0, locals := 0 } : Room) [.int 0, .int 19] [] (fun _ : Unit => some (.int 19)) (fun _ : Unit => True) (fun _ : Unit => []) := by
  refine zM.of (cc := cX12_greater) (maxL := 2) (rt := (some .int)) (by decide) rfl (Nat.le_of_ble_eq_true rfl) ?_
  intro p e s m args below meth c A ls St hr hlocks hin hK hT hA hP hD hS hl
  obtain ⟨hx, hb, hml, hown, hts⟩ := id St
  have hl : lv_has ls 2 [(0, .int 0), (1, .int 19)] := hl
  refine lv_iload_n hx hb dX12_greater_0 rfl (lv_at hl 0 rfl) ?_
  refine lv_iload_n hx hb dX12_greater_1 rfl (lv_at hl 1 rfl) ?_
  refine lv_icmp_le (tgt := 9) hx hb dX12_greater_2 (by decide) (fun _ => ?_) (fun c1 => absurd (by decide) c1)
  refine lv_iload_n hx hb dX12_greater_9 rfl (lv_at hl 1 rfl) ?_
  have hP : va_P g.1 vwCl (List.flatten []) s.heap := hP
  have hD : va_D A (List.flatten []) := hD
  exact mret_i hx hb hr hlocks hS (Nat.le_of_ble_eq_true rfl) (Nat.le_of_ble_eq_true rfl) dX12_greater_10 () rfl trivial hP hD
set_option maxRecDepth 100000 in
set_option maxHeartbeats 4000000 in
theorem m_greater_0_20 (l : Launch) (g : zG)   : zM g l yX12_greater (Cond.code yX12_greater cX12_greater 2 (some .int) :: zB) ({ frames := 0, cells := 0, slots := 0, locals := 0 } : Room) [.int 0, .int 20] [] (fun _ : Unit => some (.int 20)) (fun _ : Unit => True) (fun _ : Unit => []) := by
  refine zM.of (cc := cX12_greater) (maxL := 2) (rt := (some .int)) (by decide) rfl (Nat.le_of_ble_eq_true rfl) ?_
  intro p e s m args below meth c A ls St hr hlocks hin hK hT hA hP hD hS hl
  obtain ⟨hx, hb, hml, hown, hts⟩ := id St
  have hl : lv_has ls 2 [(0, .int 0), (1, .int 20)] := hl
  refine lv_iload_n hx hb dX12_greater_0 rfl (lv_at hl 0 rfl) ?_
  refine lv_iload_n hx hb dX12_greater_1 rfl (lv_at hl 1 rfl) ?_
  refine lv_icmp_le (tgt := 9) hx hb dX12_greater_2 (by decide) (fun _ => ?_) (fun c1 => absurd (by decide) c1)
  refine lv_iload_n hx hb dX12_greater_9 rfl (lv_at hl 1 rfl) ?_
  have hP : va_P g.1 vwCl (List.flatten []) s.heap := hP
  have hD : va_D A (List.flatten []) := hD
  exact mret_i hx hb hr hlocks hS (Nat.le_of_ble_eq_true rfl) (Nat.le_of_ble_eq_true rfl) dX12_greater_10 () rfl trivial hP hD
set_option maxRecDepth 100000 in
set_option maxHeartbeats 4000000 in
theorem m_greater_1_1 (l : Launch) (g : zG)   : zM g l yX12_greater (Cond.code yX12_greater cX12_greater 2 (some .int) :: zB) ({ frames := 0, cells := 0, slots := 0, locals := 0 } : Room) [.int 1, .int 1] [] (fun _ : Unit => some (.int 1)) (fun _ : Unit => True) (fun _ : Unit => []) := by
  refine zM.of (cc := cX12_greater) (maxL := 2) (rt := (some .int)) (by decide) rfl (Nat.le_of_ble_eq_true rfl) ?_
  intro p e s m args below meth c A ls St hr hlocks hin hK hT hA hP hD hS hl
  obtain ⟨hx, hb, hml, hown, hts⟩ := id St
  have hl : lv_has ls 2 [(0, .int 1), (1, .int 1)] := hl
  refine lv_iload_n hx hb dX12_greater_0 rfl (lv_at hl 0 rfl) ?_
  refine lv_iload_n hx hb dX12_greater_1 rfl (lv_at hl 1 rfl) ?_
  refine lv_icmp_le (tgt := 9) hx hb dX12_greater_2 (by decide) (fun _ => ?_) (fun c1 => absurd (by decide) c1)
  refine lv_iload_n hx hb dX12_greater_9 rfl (lv_at hl 1 rfl) ?_
  have hP : va_P g.1 vwCl (List.flatten []) s.heap := hP
  have hD : va_D A (List.flatten []) := hD
  exact mret_i hx hb hr hlocks hS (Nat.le_of_ble_eq_true rfl) (Nat.le_of_ble_eq_true rfl) dX12_greater_10 () rfl trivial hP hD
set_option maxRecDepth 100000 in
set_option maxHeartbeats 4000000 in
theorem m_lesser_0_0 (l : Launch) (g : zG)   : zM g l yX12_lesser (Cond.code yX12_lesser cX12_lesser 2 (some .int) :: zB) ({ frames := 0, cells := 0, slots := 0, locals := 0 } : Room) [.int 0, .int 0] [] (fun _ : Unit => some (.int 0)) (fun _ : Unit => True) (fun _ : Unit => []) := by
  refine zM.of (cc := cX12_lesser) (maxL := 2) (rt := (some .int)) (by decide) rfl (Nat.le_of_ble_eq_true rfl) ?_
  intro p e s m args below meth c A ls St hr hlocks hin hK hT hA hP hD hS hl
  obtain ⟨hx, hb, hml, hown, hts⟩ := id St
  have hl : lv_has ls 2 [(0, .int 0), (1, .int 0)] := hl
  refine lv_iload_n hx hb dX12_lesser_0 rfl (lv_at hl 0 rfl) ?_
  refine lv_iload_n hx hb dX12_lesser_1 rfl (lv_at hl 1 rfl) ?_
  refine lv_icmp_ge (tgt := 9) hx hb dX12_lesser_2 (by decide) (fun _ => ?_) (fun c1 => absurd (by decide) c1)
  refine lv_iload_n hx hb dX12_lesser_9 rfl (lv_at hl 1 rfl) ?_
  have hP : va_P g.1 vwCl (List.flatten []) s.heap := hP
  have hD : va_D A (List.flatten []) := hD
  exact mret_i hx hb hr hlocks hS (Nat.le_of_ble_eq_true rfl) (Nat.le_of_ble_eq_true rfl) dX12_lesser_10 () rfl trivial hP hD
set_option maxRecDepth 100000 in
set_option maxHeartbeats 4000000 in
theorem m_lesser_14_0 (l : Launch) (g : zG)   : zM g l yX12_lesser (Cond.code yX12_lesser cX12_lesser 2 (some .int) :: zB) ({ frames := 0, cells := 0, slots := 0, locals := 0 } : Room) [.int 14, .int 0] [] (fun _ : Unit => some (.int 0)) (fun _ : Unit => True) (fun _ : Unit => []) := by
  refine zM.of (cc := cX12_lesser) (maxL := 2) (rt := (some .int)) (by decide) rfl (Nat.le_of_ble_eq_true rfl) ?_
  intro p e s m args below meth c A ls St hr hlocks hin hK hT hA hP hD hS hl
  obtain ⟨hx, hb, hml, hown, hts⟩ := id St
  have hl : lv_has ls 2 [(0, .int 14), (1, .int 0)] := hl
  refine lv_iload_n hx hb dX12_lesser_0 rfl (lv_at hl 0 rfl) ?_
  refine lv_iload_n hx hb dX12_lesser_1 rfl (lv_at hl 1 rfl) ?_
  refine lv_icmp_ge (tgt := 9) hx hb dX12_lesser_2 (by decide) (fun _ => ?_) (fun c1 => absurd (by decide) c1)
  refine lv_iload_n hx hb dX12_lesser_9 rfl (lv_at hl 1 rfl) ?_
  have hP : va_P g.1 vwCl (List.flatten []) s.heap := hP
  have hD : va_D A (List.flatten []) := hD
  exact mret_i hx hb hr hlocks hS (Nat.le_of_ble_eq_true rfl) (Nat.le_of_ble_eq_true rfl) dX12_lesser_10 () rfl trivial hP hD
set_option maxRecDepth 100000 in
set_option maxHeartbeats 4000000 in
theorem m_lesser_14_1 (l : Launch) (g : zG)   : zM g l yX12_lesser (Cond.code yX12_lesser cX12_lesser 2 (some .int) :: zB) ({ frames := 0, cells := 0, slots := 0, locals := 0 } : Room) [.int 14, .int 1] [] (fun _ : Unit => some (.int 1)) (fun _ : Unit => True) (fun _ : Unit => []) := by
  refine zM.of (cc := cX12_lesser) (maxL := 2) (rt := (some .int)) (by decide) rfl (Nat.le_of_ble_eq_true rfl) ?_
  intro p e s m args below meth c A ls St hr hlocks hin hK hT hA hP hD hS hl
  obtain ⟨hx, hb, hml, hown, hts⟩ := id St
  have hl : lv_has ls 2 [(0, .int 14), (1, .int 1)] := hl
  refine lv_iload_n hx hb dX12_lesser_0 rfl (lv_at hl 0 rfl) ?_
  refine lv_iload_n hx hb dX12_lesser_1 rfl (lv_at hl 1 rfl) ?_
  refine lv_icmp_ge (tgt := 9) hx hb dX12_lesser_2 (by decide) (fun _ => ?_) (fun c1 => absurd (by decide) c1)
  refine lv_iload_n hx hb dX12_lesser_9 rfl (lv_at hl 1 rfl) ?_
  have hP : va_P g.1 vwCl (List.flatten []) s.heap := hP
  have hD : va_D A (List.flatten []) := hD
  exact mret_i hx hb hr hlocks hS (Nat.le_of_ble_eq_true rfl) (Nat.le_of_ble_eq_true rfl) dX12_lesser_10 () rfl trivial hP hD
set_option maxRecDepth 100000 in
set_option maxHeartbeats 4000000 in
theorem m_lesser_14_2 (l : Launch) (g : zG)   : zM g l yX12_lesser (Cond.code yX12_lesser cX12_lesser 2 (some .int) :: zB) ({ frames := 0, cells := 0, slots := 0, locals := 0 } : Room) [.int 14, .int 2] [] (fun _ : Unit => some (.int 2)) (fun _ : Unit => True) (fun _ : Unit => []) := by
  refine zM.of (cc := cX12_lesser) (maxL := 2) (rt := (some .int)) (by decide) rfl (Nat.le_of_ble_eq_true rfl) ?_
  intro p e s m args below meth c A ls St hr hlocks hin hK hT hA hP hD hS hl
  obtain ⟨hx, hb, hml, hown, hts⟩ := id St
  have hl : lv_has ls 2 [(0, .int 14), (1, .int 2)] := hl
  refine lv_iload_n hx hb dX12_lesser_0 rfl (lv_at hl 0 rfl) ?_
  refine lv_iload_n hx hb dX12_lesser_1 rfl (lv_at hl 1 rfl) ?_
  refine lv_icmp_ge (tgt := 9) hx hb dX12_lesser_2 (by decide) (fun _ => ?_) (fun c1 => absurd (by decide) c1)
  refine lv_iload_n hx hb dX12_lesser_9 rfl (lv_at hl 1 rfl) ?_
  have hP : va_P g.1 vwCl (List.flatten []) s.heap := hP
  have hD : va_D A (List.flatten []) := hD
  exact mret_i hx hb hr hlocks hS (Nat.le_of_ble_eq_true rfl) (Nat.le_of_ble_eq_true rfl) dX12_lesser_10 () rfl trivial hP hD
set_option maxRecDepth 100000 in
set_option maxHeartbeats 4000000 in
theorem m_lesser_14_3 (l : Launch) (g : zG)   : zM g l yX12_lesser (Cond.code yX12_lesser cX12_lesser 2 (some .int) :: zB) ({ frames := 0, cells := 0, slots := 0, locals := 0 } : Room) [.int 14, .int 3] [] (fun _ : Unit => some (.int 3)) (fun _ : Unit => True) (fun _ : Unit => []) := by
  refine zM.of (cc := cX12_lesser) (maxL := 2) (rt := (some .int)) (by decide) rfl (Nat.le_of_ble_eq_true rfl) ?_
  intro p e s m args below meth c A ls St hr hlocks hin hK hT hA hP hD hS hl
  obtain ⟨hx, hb, hml, hown, hts⟩ := id St
  have hl : lv_has ls 2 [(0, .int 14), (1, .int 3)] := hl
  refine lv_iload_n hx hb dX12_lesser_0 rfl (lv_at hl 0 rfl) ?_
  refine lv_iload_n hx hb dX12_lesser_1 rfl (lv_at hl 1 rfl) ?_
  refine lv_icmp_ge (tgt := 9) hx hb dX12_lesser_2 (by decide) (fun _ => ?_) (fun c1 => absurd (by decide) c1)
  refine lv_iload_n hx hb dX12_lesser_9 rfl (lv_at hl 1 rfl) ?_
  have hP : va_P g.1 vwCl (List.flatten []) s.heap := hP
  have hD : va_D A (List.flatten []) := hD
  exact mret_i hx hb hr hlocks hS (Nat.le_of_ble_eq_true rfl) (Nat.le_of_ble_eq_true rfl) dX12_lesser_10 () rfl trivial hP hD
set_option maxRecDepth 100000 in
set_option maxHeartbeats 4000000 in
theorem m_lesser_14_4 (l : Launch) (g : zG)   : zM g l yX12_lesser (Cond.code yX12_lesser cX12_lesser 2 (some .int) :: zB) ({ frames := 0, cells := 0, slots := 0, locals := 0 } : Room) [.int 14, .int 4] [] (fun _ : Unit => some (.int 4)) (fun _ : Unit => True) (fun _ : Unit => []) := by
  refine zM.of (cc := cX12_lesser) (maxL := 2) (rt := (some .int)) (by decide) rfl (Nat.le_of_ble_eq_true rfl) ?_
  intro p e s m args below meth c A ls St hr hlocks hin hK hT hA hP hD hS hl
  obtain ⟨hx, hb, hml, hown, hts⟩ := id St
  have hl : lv_has ls 2 [(0, .int 14), (1, .int 4)] := hl
  refine lv_iload_n hx hb dX12_lesser_0 rfl (lv_at hl 0 rfl) ?_
  refine lv_iload_n hx hb dX12_lesser_1 rfl (lv_at hl 1 rfl) ?_
  refine lv_icmp_ge (tgt := 9) hx hb dX12_lesser_2 (by decide) (fun _ => ?_) (fun c1 => absurd (by decide) c1)
  refine lv_iload_n hx hb dX12_lesser_9 rfl (lv_at hl 1 rfl) ?_
  have hP : va_P g.1 vwCl (List.flatten []) s.heap := hP
  have hD : va_D A (List.flatten []) := hD
  exact mret_i hx hb hr hlocks hS (Nat.le_of_ble_eq_true rfl) (Nat.le_of_ble_eq_true rfl) dX12_lesser_10 () rfl trivial hP hD
set_option maxRecDepth 100000 in
set_option maxHeartbeats 4000000 in
theorem m_lesser_14_5 (l : Launch) (g : zG)   : zM g l yX12_lesser (Cond.code yX12_lesser cX12_lesser 2 (some .int) :: zB) ({ frames := 0, cells := 0, slots := 0, locals := 0 } : Room) [.int 14, .int 5] [] (fun _ : Unit => some (.int 5)) (fun _ : Unit => True) (fun _ : Unit => []) := by
  refine zM.of (cc := cX12_lesser) (maxL := 2) (rt := (some .int)) (by decide) rfl (Nat.le_of_ble_eq_true rfl) ?_
  intro p e s m args below meth c A ls St hr hlocks hin hK hT hA hP hD hS hl
  obtain ⟨hx, hb, hml, hown, hts⟩ := id St
  have hl : lv_has ls 2 [(0, .int 14), (1, .int 5)] := hl
  refine lv_iload_n hx hb dX12_lesser_0 rfl (lv_at hl 0 rfl) ?_
  refine lv_iload_n hx hb dX12_lesser_1 rfl (lv_at hl 1 rfl) ?_
  refine lv_icmp_ge (tgt := 9) hx hb dX12_lesser_2 (by decide) (fun _ => ?_) (fun c1 => absurd (by decide) c1)
  refine lv_iload_n hx hb dX12_lesser_9 rfl (lv_at hl 1 rfl) ?_
  have hP : va_P g.1 vwCl (List.flatten []) s.heap := hP
  have hD : va_D A (List.flatten []) := hD
  exact mret_i hx hb hr hlocks hS (Nat.le_of_ble_eq_true rfl) (Nat.le_of_ble_eq_true rfl) dX12_lesser_10 () rfl trivial hP hD
set_option maxRecDepth 100000 in
set_option maxHeartbeats 4000000 in
theorem m_lesser_14_6 (l : Launch) (g : zG)   : zM g l yX12_lesser (Cond.code yX12_lesser cX12_lesser 2 (some .int) :: zB) ({ frames := 0, cells := 0, slots := 0, locals := 0 } : Room) [.int 14, .int 6] [] (fun _ : Unit => some (.int 6)) (fun _ : Unit => True) (fun _ : Unit => []) := by
  refine zM.of (cc := cX12_lesser) (maxL := 2) (rt := (some .int)) (by decide) rfl (Nat.le_of_ble_eq_true rfl) ?_
  intro p e s m args below meth c A ls St hr hlocks hin hK hT hA hP hD hS hl
  obtain ⟨hx, hb, hml, hown, hts⟩ := id St
  have hl : lv_has ls 2 [(0, .int 14), (1, .int 6)] := hl
  refine lv_iload_n hx hb dX12_lesser_0 rfl (lv_at hl 0 rfl) ?_
  refine lv_iload_n hx hb dX12_lesser_1 rfl (lv_at hl 1 rfl) ?_
  refine lv_icmp_ge (tgt := 9) hx hb dX12_lesser_2 (by decide) (fun _ => ?_) (fun c1 => absurd (by decide) c1)
  refine lv_iload_n hx hb dX12_lesser_9 rfl (lv_at hl 1 rfl) ?_
  have hP : va_P g.1 vwCl (List.flatten []) s.heap := hP
  have hD : va_D A (List.flatten []) := hD
  exact mret_i hx hb hr hlocks hS (Nat.le_of_ble_eq_true rfl) (Nat.le_of_ble_eq_true rfl) dX12_lesser_10 () rfl trivial hP hD
set_option maxRecDepth 100000 in
set_option maxHeartbeats 4000000 in
theorem m_lesser_14_7 (l : Launch) (g : zG)   : zM g l yX12_lesser (Cond.code yX12_lesser cX12_lesser 2 (some .int) :: zB) ({ frames := 0, cells := 0, slots := 0, locals := 0 } : Room) [.int 14, .int 7] [] (fun _ : Unit => some (.int 7)) (fun _ : Unit => True) (fun _ : Unit => []) := by
  refine zM.of (cc := cX12_lesser) (maxL := 2) (rt := (some .int)) (by decide) rfl (Nat.le_of_ble_eq_true rfl) ?_
  intro p e s m args below meth c A ls St hr hlocks hin hK hT hA hP hD hS hl
  obtain ⟨hx, hb, hml, hown, hts⟩ := id St
  have hl : lv_has ls 2 [(0, .int 14), (1, .int 7)] := hl
  refine lv_iload_n hx hb dX12_lesser_0 rfl (lv_at hl 0 rfl) ?_
  refine lv_iload_n hx hb dX12_lesser_1 rfl (lv_at hl 1 rfl) ?_
  refine lv_icmp_ge (tgt := 9) hx hb dX12_lesser_2 (by decide) (fun _ => ?_) (fun c1 => absurd (by decide) c1)
  refine lv_iload_n hx hb dX12_lesser_9 rfl (lv_at hl 1 rfl) ?_
  have hP : va_P g.1 vwCl (List.flatten []) s.heap := hP
  have hD : va_D A (List.flatten []) := hD
  exact mret_i hx hb hr hlocks hS (Nat.le_of_ble_eq_true rfl) (Nat.le_of_ble_eq_true rfl) dX12_lesser_10 () rfl trivial hP hD
set_option maxRecDepth 100000 in
set_option maxHeartbeats 4000000 in
theorem m_lesser_14_8 (l : Launch) (g : zG)   : zM g l yX12_lesser (Cond.code yX12_lesser cX12_lesser 2 (some .int) :: zB) ({ frames := 0, cells := 0, slots := 0, locals := 0 } : Room) [.int 14, .int 8] [] (fun _ : Unit => some (.int 8)) (fun _ : Unit => True) (fun _ : Unit => []) := by
  refine zM.of (cc := cX12_lesser) (maxL := 2) (rt := (some .int)) (by decide) rfl (Nat.le_of_ble_eq_true rfl) ?_
  intro p e s m args below meth c A ls St hr hlocks hin hK hT hA hP hD hS hl
  obtain ⟨hx, hb, hml, hown, hts⟩ := id St
  have hl : lv_has ls 2 [(0, .int 14), (1, .int 8)] := hl
  refine lv_iload_n hx hb dX12_lesser_0 rfl (lv_at hl 0 rfl) ?_
  refine lv_iload_n hx hb dX12_lesser_1 rfl (lv_at hl 1 rfl) ?_
  refine lv_icmp_ge (tgt := 9) hx hb dX12_lesser_2 (by decide) (fun _ => ?_) (fun c1 => absurd (by decide) c1)
  refine lv_iload_n hx hb dX12_lesser_9 rfl (lv_at hl 1 rfl) ?_
  have hP : va_P g.1 vwCl (List.flatten []) s.heap := hP
  have hD : va_D A (List.flatten []) := hD
  exact mret_i hx hb hr hlocks hS (Nat.le_of_ble_eq_true rfl) (Nat.le_of_ble_eq_true rfl) dX12_lesser_10 () rfl trivial hP hD
set_option maxRecDepth 100000 in
set_option maxHeartbeats 4000000 in
theorem m_lesser_14_9 (l : Launch) (g : zG)   : zM g l yX12_lesser (Cond.code yX12_lesser cX12_lesser 2 (some .int) :: zB) ({ frames := 0, cells := 0, slots := 0, locals := 0 } : Room) [.int 14, .int 9] [] (fun _ : Unit => some (.int 9)) (fun _ : Unit => True) (fun _ : Unit => []) := by
  refine zM.of (cc := cX12_lesser) (maxL := 2) (rt := (some .int)) (by decide) rfl (Nat.le_of_ble_eq_true rfl) ?_
  intro p e s m args below meth c A ls St hr hlocks hin hK hT hA hP hD hS hl
  obtain ⟨hx, hb, hml, hown, hts⟩ := id St
  have hl : lv_has ls 2 [(0, .int 14), (1, .int 9)] := hl
  refine lv_iload_n hx hb dX12_lesser_0 rfl (lv_at hl 0 rfl) ?_
  refine lv_iload_n hx hb dX12_lesser_1 rfl (lv_at hl 1 rfl) ?_
  refine lv_icmp_ge (tgt := 9) hx hb dX12_lesser_2 (by decide) (fun _ => ?_) (fun c1 => absurd (by decide) c1)
  refine lv_iload_n hx hb dX12_lesser_9 rfl (lv_at hl 1 rfl) ?_
  have hP : va_P g.1 vwCl (List.flatten []) s.heap := hP
  have hD : va_D A (List.flatten []) := hD
  exact mret_i hx hb hr hlocks hS (Nat.le_of_ble_eq_true rfl) (Nat.le_of_ble_eq_true rfl) dX12_lesser_10 () rfl trivial hP hD
set_option maxRecDepth 100000 in
set_option maxHeartbeats 4000000 in
theorem m_lesser_14_10 (l : Launch) (g : zG)   : zM g l yX12_lesser (Cond.code yX12_lesser cX12_lesser 2 (some .int) :: zB) ({ frames := 0, cells := 0, slots := 0, locals := 0 } : Room) [.int 14, .int 10] [] (fun _ : Unit => some (.int 10)) (fun _ : Unit => True) (fun _ : Unit => []) := by
  refine zM.of (cc := cX12_lesser) (maxL := 2) (rt := (some .int)) (by decide) rfl (Nat.le_of_ble_eq_true rfl) ?_
  intro p e s m args below meth c A ls St hr hlocks hin hK hT hA hP hD hS hl
  obtain ⟨hx, hb, hml, hown, hts⟩ := id St
  have hl : lv_has ls 2 [(0, .int 14), (1, .int 10)] := hl
  refine lv_iload_n hx hb dX12_lesser_0 rfl (lv_at hl 0 rfl) ?_
  refine lv_iload_n hx hb dX12_lesser_1 rfl (lv_at hl 1 rfl) ?_
  refine lv_icmp_ge (tgt := 9) hx hb dX12_lesser_2 (by decide) (fun _ => ?_) (fun c1 => absurd (by decide) c1)
  refine lv_iload_n hx hb dX12_lesser_9 rfl (lv_at hl 1 rfl) ?_
  have hP : va_P g.1 vwCl (List.flatten []) s.heap := hP
  have hD : va_D A (List.flatten []) := hD
  exact mret_i hx hb hr hlocks hS (Nat.le_of_ble_eq_true rfl) (Nat.le_of_ble_eq_true rfl) dX12_lesser_10 () rfl trivial hP hD
set_option maxRecDepth 100000 in
set_option maxHeartbeats 4000000 in
theorem m_lesser_14_11 (l : Launch) (g : zG)   : zM g l yX12_lesser (Cond.code yX12_lesser cX12_lesser 2 (some .int) :: zB) ({ frames := 0, cells := 0, slots := 0, locals := 0 } : Room) [.int 14, .int 11] [] (fun _ : Unit => some (.int 11)) (fun _ : Unit => True) (fun _ : Unit => []) := by
  refine zM.of (cc := cX12_lesser) (maxL := 2) (rt := (some .int)) (by decide) rfl (Nat.le_of_ble_eq_true rfl) ?_
  intro p e s m args below meth c A ls St hr hlocks hin hK hT hA hP hD hS hl
  obtain ⟨hx, hb, hml, hown, hts⟩ := id St
  have hl : lv_has ls 2 [(0, .int 14), (1, .int 11)] := hl
  refine lv_iload_n hx hb dX12_lesser_0 rfl (lv_at hl 0 rfl) ?_
  refine lv_iload_n hx hb dX12_lesser_1 rfl (lv_at hl 1 rfl) ?_
  refine lv_icmp_ge (tgt := 9) hx hb dX12_lesser_2 (by decide) (fun _ => ?_) (fun c1 => absurd (by decide) c1)
  refine lv_iload_n hx hb dX12_lesser_9 rfl (lv_at hl 1 rfl) ?_
  have hP : va_P g.1 vwCl (List.flatten []) s.heap := hP
  have hD : va_D A (List.flatten []) := hD
  exact mret_i hx hb hr hlocks hS (Nat.le_of_ble_eq_true rfl) (Nat.le_of_ble_eq_true rfl) dX12_lesser_10 () rfl trivial hP hD
set_option maxRecDepth 100000 in
set_option maxHeartbeats 4000000 in
theorem m_lesser_14_12 (l : Launch) (g : zG)   : zM g l yX12_lesser (Cond.code yX12_lesser cX12_lesser 2 (some .int) :: zB) ({ frames := 0, cells := 0, slots := 0, locals := 0 } : Room) [.int 14, .int 12] [] (fun _ : Unit => some (.int 12)) (fun _ : Unit => True) (fun _ : Unit => []) := by
  refine zM.of (cc := cX12_lesser) (maxL := 2) (rt := (some .int)) (by decide) rfl (Nat.le_of_ble_eq_true rfl) ?_
  intro p e s m args below meth c A ls St hr hlocks hin hK hT hA hP hD hS hl
  obtain ⟨hx, hb, hml, hown, hts⟩ := id St
  have hl : lv_has ls 2 [(0, .int 14), (1, .int 12)] := hl
  refine lv_iload_n hx hb dX12_lesser_0 rfl (lv_at hl 0 rfl) ?_
  refine lv_iload_n hx hb dX12_lesser_1 rfl (lv_at hl 1 rfl) ?_
  refine lv_icmp_ge (tgt := 9) hx hb dX12_lesser_2 (by decide) (fun _ => ?_) (fun c1 => absurd (by decide) c1)
  refine lv_iload_n hx hb dX12_lesser_9 rfl (lv_at hl 1 rfl) ?_
  have hP : va_P g.1 vwCl (List.flatten []) s.heap := hP
  have hD : va_D A (List.flatten []) := hD
  exact mret_i hx hb hr hlocks hS (Nat.le_of_ble_eq_true rfl) (Nat.le_of_ble_eq_true rfl) dX12_lesser_10 () rfl trivial hP hD
set_option maxRecDepth 100000 in
set_option maxHeartbeats 4000000 in
theorem m_lesser_14_13 (l : Launch) (g : zG)   : zM g l yX12_lesser (Cond.code yX12_lesser cX12_lesser 2 (some .int) :: zB) ({ frames := 0, cells := 0, slots := 0, locals := 0 } : Room) [.int 14, .int 13] [] (fun _ : Unit => some (.int 13)) (fun _ : Unit => True) (fun _ : Unit => []) := by
  refine zM.of (cc := cX12_lesser) (maxL := 2) (rt := (some .int)) (by decide) rfl (Nat.le_of_ble_eq_true rfl) ?_
  intro p e s m args below meth c A ls St hr hlocks hin hK hT hA hP hD hS hl
  obtain ⟨hx, hb, hml, hown, hts⟩ := id St
  have hl : lv_has ls 2 [(0, .int 14), (1, .int 13)] := hl
  refine lv_iload_n hx hb dX12_lesser_0 rfl (lv_at hl 0 rfl) ?_
  refine lv_iload_n hx hb dX12_lesser_1 rfl (lv_at hl 1 rfl) ?_
  refine lv_icmp_ge (tgt := 9) hx hb dX12_lesser_2 (by decide) (fun _ => ?_) (fun c1 => absurd (by decide) c1)
  refine lv_iload_n hx hb dX12_lesser_9 rfl (lv_at hl 1 rfl) ?_
  have hP : va_P g.1 vwCl (List.flatten []) s.heap := hP
  have hD : va_D A (List.flatten []) := hD
  exact mret_i hx hb hr hlocks hS (Nat.le_of_ble_eq_true rfl) (Nat.le_of_ble_eq_true rfl) dX12_lesser_10 () rfl trivial hP hD
set_option maxRecDepth 100000 in
set_option maxHeartbeats 4000000 in
theorem m_lesser_14_14 (l : Launch) (g : zG)   : zM g l yX12_lesser (Cond.code yX12_lesser cX12_lesser 2 (some .int) :: zB) ({ frames := 0, cells := 0, slots := 0, locals := 0 } : Room) [.int 14, .int 14] [] (fun _ : Unit => some (.int 14)) (fun _ : Unit => True) (fun _ : Unit => []) := by
  refine zM.of (cc := cX12_lesser) (maxL := 2) (rt := (some .int)) (by decide) rfl (Nat.le_of_ble_eq_true rfl) ?_
  intro p e s m args below meth c A ls St hr hlocks hin hK hT hA hP hD hS hl
  obtain ⟨hx, hb, hml, hown, hts⟩ := id St
  have hl : lv_has ls 2 [(0, .int 14), (1, .int 14)] := hl
  refine lv_iload_n hx hb dX12_lesser_0 rfl (lv_at hl 0 rfl) ?_
  refine lv_iload_n hx hb dX12_lesser_1 rfl (lv_at hl 1 rfl) ?_
  refine lv_icmp_ge (tgt := 9) hx hb dX12_lesser_2 (by decide) (fun _ => ?_) (fun c1 => absurd (by decide) c1)
  refine lv_iload_n hx hb dX12_lesser_9 rfl (lv_at hl 1 rfl) ?_
  have hP : va_P g.1 vwCl (List.flatten []) s.heap := hP
  have hD : va_D A (List.flatten []) := hD
  exact mret_i hx hb hr hlocks hS (Nat.le_of_ble_eq_true rfl) (Nat.le_of_ble_eq_true rfl) dX12_lesser_10 () rfl trivial hP hD
set_option maxRecDepth 100000 in
set_option maxHeartbeats 4000000 in
theorem m_lesser_14_15 (l : Launch) (g : zG)   : zM g l yX12_lesser (Cond.code yX12_lesser cX12_lesser 2 (some .int) :: zB) ({ frames := 0, cells := 0, slots := 0, locals := 0 } : Room) [.int 14, .int 15] [] (fun _ : Unit => some (.int 14)) (fun _ : Unit => True) (fun _ : Unit => []) := by
  refine zM.of (cc := cX12_lesser) (maxL := 2) (rt := (some .int)) (by decide) rfl (Nat.le_of_ble_eq_true rfl) ?_
  intro p e s m args below meth c A ls St hr hlocks hin hK hT hA hP hD hS hl
  obtain ⟨hx, hb, hml, hown, hts⟩ := id St
  have hl : lv_has ls 2 [(0, .int 14), (1, .int 15)] := hl
  refine lv_iload_n hx hb dX12_lesser_0 rfl (lv_at hl 0 rfl) ?_
  refine lv_iload_n hx hb dX12_lesser_1 rfl (lv_at hl 1 rfl) ?_
  refine lv_icmp_ge (tgt := 9) hx hb dX12_lesser_2 (by decide) (fun c1 => absurd c1 (by decide)) (fun _ => ?_)
  refine lv_iload_n hx hb dX12_lesser_5 rfl (lv_at hl 0 rfl) ?_
  refine lv_goto (tgt := 10) hx hb dX12_lesser_6 (by decide) ?_
  have hP : va_P g.1 vwCl (List.flatten []) s.heap := hP
  have hD : va_D A (List.flatten []) := hD
  exact mret_i hx hb hr hlocks hS (Nat.le_of_ble_eq_true rfl) (Nat.le_of_ble_eq_true rfl) dX12_lesser_10 () rfl trivial hP hD
set_option maxRecDepth 100000 in
set_option maxHeartbeats 4000000 in
theorem m_lesser_14_16 (l : Launch) (g : zG)   : zM g l yX12_lesser (Cond.code yX12_lesser cX12_lesser 2 (some .int) :: zB) ({ frames := 0, cells := 0, slots := 0, locals := 0 } : Room) [.int 14, .int 16] [] (fun _ : Unit => some (.int 14)) (fun _ : Unit => True) (fun _ : Unit => []) := by
  refine zM.of (cc := cX12_lesser) (maxL := 2) (rt := (some .int)) (by decide) rfl (Nat.le_of_ble_eq_true rfl) ?_
  intro p e s m args below meth c A ls St hr hlocks hin hK hT hA hP hD hS hl
  obtain ⟨hx, hb, hml, hown, hts⟩ := id St
  have hl : lv_has ls 2 [(0, .int 14), (1, .int 16)] := hl
  refine lv_iload_n hx hb dX12_lesser_0 rfl (lv_at hl 0 rfl) ?_
  refine lv_iload_n hx hb dX12_lesser_1 rfl (lv_at hl 1 rfl) ?_
  refine lv_icmp_ge (tgt := 9) hx hb dX12_lesser_2 (by decide) (fun c1 => absurd c1 (by decide)) (fun _ => ?_)
  refine lv_iload_n hx hb dX12_lesser_5 rfl (lv_at hl 0 rfl) ?_
  refine lv_goto (tgt := 10) hx hb dX12_lesser_6 (by decide) ?_
  have hP : va_P g.1 vwCl (List.flatten []) s.heap := hP
  have hD : va_D A (List.flatten []) := hD
  exact mret_i hx hb hr hlocks hS (Nat.le_of_ble_eq_true rfl) (Nat.le_of_ble_eq_true rfl) dX12_lesser_10 () rfl trivial hP hD
set_option maxRecDepth 100000 in
set_option maxHeartbeats 4000000 in
theorem m_lesser_14_17 (l : Launch) (g : zG)   : zM g l yX12_lesser (Cond.code yX12_lesser cX12_lesser 2 (some .int) :: zB) ({ frames := 0, cells := 0, slots := 0, locals := 0 } : Room) [.int 14, .int 17] [] (fun _ : Unit => some (.int 14)) (fun _ : Unit => True) (fun _ : Unit => []) := by
  refine zM.of (cc := cX12_lesser) (maxL := 2) (rt := (some .int)) (by decide) rfl (Nat.le_of_ble_eq_true rfl) ?_
  intro p e s m args below meth c A ls St hr hlocks hin hK hT hA hP hD hS hl
  obtain ⟨hx, hb, hml, hown, hts⟩ := id St
  have hl : lv_has ls 2 [(0, .int 14), (1, .int 17)] := hl
  refine lv_iload_n hx hb dX12_lesser_0 rfl (lv_at hl 0 rfl) ?_
  refine lv_iload_n hx hb dX12_lesser_1 rfl (lv_at hl 1 rfl) ?_
  refine lv_icmp_ge (tgt := 9) hx hb dX12_lesser_2 (by decide) (fun c1 => absurd c1 (by decide)) (fun _ => ?_)
  refine lv_iload_n hx hb dX12_lesser_5 rfl (lv_at hl 0 rfl) ?_
  refine lv_goto (tgt := 10) hx hb dX12_lesser_6 (by decide) ?_
  have hP : va_P g.1 vwCl (List.flatten []) s.heap := hP
  have hD : va_D A (List.flatten []) := hD
  exact mret_i hx hb hr hlocks hS (Nat.le_of_ble_eq_true rfl) (Nat.le_of_ble_eq_true rfl) dX12_lesser_10 () rfl trivial hP hD
set_option maxRecDepth 100000 in
set_option maxHeartbeats 4000000 in
theorem m_lesser_14_18 (l : Launch) (g : zG)   : zM g l yX12_lesser (Cond.code yX12_lesser cX12_lesser 2 (some .int) :: zB) ({ frames := 0, cells := 0, slots := 0, locals := 0 } : Room) [.int 14, .int 18] [] (fun _ : Unit => some (.int 14)) (fun _ : Unit => True) (fun _ : Unit => []) := by
  refine zM.of (cc := cX12_lesser) (maxL := 2) (rt := (some .int)) (by decide) rfl (Nat.le_of_ble_eq_true rfl) ?_
  intro p e s m args below meth c A ls St hr hlocks hin hK hT hA hP hD hS hl
  obtain ⟨hx, hb, hml, hown, hts⟩ := id St
  have hl : lv_has ls 2 [(0, .int 14), (1, .int 18)] := hl
  refine lv_iload_n hx hb dX12_lesser_0 rfl (lv_at hl 0 rfl) ?_
  refine lv_iload_n hx hb dX12_lesser_1 rfl (lv_at hl 1 rfl) ?_
  refine lv_icmp_ge (tgt := 9) hx hb dX12_lesser_2 (by decide) (fun c1 => absurd c1 (by decide)) (fun _ => ?_)
  refine lv_iload_n hx hb dX12_lesser_5 rfl (lv_at hl 0 rfl) ?_
  refine lv_goto (tgt := 10) hx hb dX12_lesser_6 (by decide) ?_
  have hP : va_P g.1 vwCl (List.flatten []) s.heap := hP
  have hD : va_D A (List.flatten []) := hD
  exact mret_i hx hb hr hlocks hS (Nat.le_of_ble_eq_true rfl) (Nat.le_of_ble_eq_true rfl) dX12_lesser_10 () rfl trivial hP hD
set_option maxRecDepth 100000 in
set_option maxHeartbeats 4000000 in
theorem m_lesser_14_19 (l : Launch) (g : zG)   : zM g l yX12_lesser (Cond.code yX12_lesser cX12_lesser 2 (some .int) :: zB) ({ frames := 0, cells := 0, slots := 0, locals := 0 } : Room) [.int 14, .int 19] [] (fun _ : Unit => some (.int 14)) (fun _ : Unit => True) (fun _ : Unit => []) := by
  refine zM.of (cc := cX12_lesser) (maxL := 2) (rt := (some .int)) (by decide) rfl (Nat.le_of_ble_eq_true rfl) ?_
  intro p e s m args below meth c A ls St hr hlocks hin hK hT hA hP hD hS hl
  obtain ⟨hx, hb, hml, hown, hts⟩ := id St
  have hl : lv_has ls 2 [(0, .int 14), (1, .int 19)] := hl
  refine lv_iload_n hx hb dX12_lesser_0 rfl (lv_at hl 0 rfl) ?_
  refine lv_iload_n hx hb dX12_lesser_1 rfl (lv_at hl 1 rfl) ?_
  refine lv_icmp_ge (tgt := 9) hx hb dX12_lesser_2 (by decide) (fun c1 => absurd c1 (by decide)) (fun _ => ?_)
  refine lv_iload_n hx hb dX12_lesser_5 rfl (lv_at hl 0 rfl) ?_
  refine lv_goto (tgt := 10) hx hb dX12_lesser_6 (by decide) ?_
  have hP : va_P g.1 vwCl (List.flatten []) s.heap := hP
  have hD : va_D A (List.flatten []) := hD
  exact mret_i hx hb hr hlocks hS (Nat.le_of_ble_eq_true rfl) (Nat.le_of_ble_eq_true rfl) dX12_lesser_10 () rfl trivial hP hD
set_option maxRecDepth 100000 in
set_option maxHeartbeats 4000000 in
theorem m_lesser_14_20 (l : Launch) (g : zG)   : zM g l yX12_lesser (Cond.code yX12_lesser cX12_lesser 2 (some .int) :: zB) ({ frames := 0, cells := 0, slots := 0, locals := 0 } : Room) [.int 14, .int 20] [] (fun _ : Unit => some (.int 14)) (fun _ : Unit => True) (fun _ : Unit => []) := by
  refine zM.of (cc := cX12_lesser) (maxL := 2) (rt := (some .int)) (by decide) rfl (Nat.le_of_ble_eq_true rfl) ?_
  intro p e s m args below meth c A ls St hr hlocks hin hK hT hA hP hD hS hl
  obtain ⟨hx, hb, hml, hown, hts⟩ := id St
  have hl : lv_has ls 2 [(0, .int 14), (1, .int 20)] := hl
  refine lv_iload_n hx hb dX12_lesser_0 rfl (lv_at hl 0 rfl) ?_
  refine lv_iload_n hx hb dX12_lesser_1 rfl (lv_at hl 1 rfl) ?_
  refine lv_icmp_ge (tgt := 9) hx hb dX12_lesser_2 (by decide) (fun c1 => absurd c1 (by decide)) (fun _ => ?_)
  refine lv_iload_n hx hb dX12_lesser_5 rfl (lv_at hl 0 rfl) ?_
  refine lv_goto (tgt := 10) hx hb dX12_lesser_6 (by decide) ?_
  have hP : va_P g.1 vwCl (List.flatten []) s.heap := hP
  have hD : va_D A (List.flatten []) := hD
  exact mret_i hx hb hr hlocks hS (Nat.le_of_ble_eq_true rfl) (Nat.le_of_ble_eq_true rfl) dX12_lesser_10 () rfl trivial hP hD
set_option maxRecDepth 100000 in
set_option maxHeartbeats 4000000 in
theorem m_lesser (l : Launch) (g : zG) (x1 : Int32) (x2 : Int32)  : zM g l yX12_lesser (Cond.code yX12_lesser cX12_lesser 2 (some .int) :: zB) ({ frames := 0, cells := 0, slots := 0, locals := 0 } : Room) [.int x1, .int x2] [] (fun (q : Int32) => some (.int q)) (fun (q : Int32) => True) (fun (q : Int32) => []) := by
  refine zM.of (cc := cX12_lesser) (maxL := 2) (rt := (some .int)) (by decide) rfl (Nat.le_of_ble_eq_true rfl) ?_
  intro p e s m args below meth c A ls St hr hlocks hin hK hT hA hP hD hS hl
  obtain ⟨hx, hb, hml, hown, hts⟩ := id St
  have hl : lv_has ls 2 [(0, .int x1), (1, .int x2)] := hl
  refine lv_iload_n hx hb dX12_lesser_0 rfl (lv_at hl 0 rfl) ?_
  refine lv_iload_n hx hb dX12_lesser_1 rfl (lv_at hl 1 rfl) ?_
  refine lv_icmp_ge (tgt := 9) hx hb dX12_lesser_2 (by decide) (fun c1 => ?_) (fun c1 => ?_)
  · skip
    refine lv_iload_n hx hb dX12_lesser_9 rfl (lv_at hl 1 rfl) ?_
    have hP : va_P g.1 vwCl (List.flatten []) s.heap := hP
    have hD : va_D A (List.flatten []) := hD
    exact mret_i hx hb hr hlocks hS (Nat.le_of_ble_eq_true rfl) (Nat.le_of_ble_eq_true rfl) dX12_lesser_10 (x2) rfl trivial hP hD
  · skip
    refine lv_iload_n hx hb dX12_lesser_5 rfl (lv_at hl 0 rfl) ?_
    refine lv_goto (tgt := 10) hx hb dX12_lesser_6 (by decide) ?_
    have hP : va_P g.1 vwCl (List.flatten []) s.heap := hP
    have hD : va_D A (List.flatten []) := hD
    exact mret_i hx hb hr hlocks hS (Nat.le_of_ble_eq_true rfl) (Nat.le_of_ble_eq_true rfl) dX12_lesser_10 (x1) rfl trivial hP hD
set_option maxRecDepth 100000 in
set_option maxHeartbeats 4000000 in
theorem m_nines (l : Launch) (g : zG) (n : Int32) (t : Nat) (ht : t ≤ 20) (hld : n = nI t) : zM g l yX12_nines (Cond.code yX12_nines cX12_nines 4 (some .long) :: zB) ({ frames := 0, cells := 0, slots := 0, locals := 0 } : Room) [.int n] [] (fun _ : Unit => some (.long (lN (9 ^ t)))) (fun _ : Unit => True) (fun _ : Unit => []) := by
  refine zM.of (cc := cX12_nines) (maxL := 4) (rt := (some .long)) (by decide) rfl (Nat.le_of_ble_eq_true rfl) ?_
  intro p e s m args below meth c A ls St hr hlocks hin hK hT hA hP hD hS hl
  obtain ⟨hx, hb, hml, hown, hts⟩ := id St
  have hl : lv_has ls 4 [(0, .int n)] := hl
  refine lv_lconst (v := 1) hx hb dX12_nines_0 (by decide) ?_
  refine lv_lstore_n (lv' := [(1, .long 1), (0, .int n)]) hx hb dX12_nines_1 rfl hl (by decide) rfl (fun ls hl => ?_)
  refine lv_iconst (v := 0) hx hb dX12_nines_2 (by decide) ?_
  refine lv_istore_n (lv' := [(3, .int 0), (1, .long 1), (0, .int n)]) hx hb dX12_nines_3 rfl hl (by decide) rfl (fun ls hl => ?_)
  have hP : va_P g.1 vwCl (List.flatten []) s.heap := hP
  have hD : va_D A (List.flatten []) := hD
  have LP4 : ∀ (k : Nat) (j : Nat) (H : Heap) (locs : List Loc) (ls : Array Slot),(j ≤ t) → (t - j) < k → va_P g.1 vwCl (List.flatten []) H → va_D A (List.flatten []) → va_S A s.heap H locs → lv_has ls 4 [(0, .int n), (1, .long (lN (9 ^ j))), (3, .int (nI j))] → W p l e ({ frames := 0, cells := 0, slots := 0, locals := 0 } : Room) s m args below meth c H locs (0) (0) (zF g (fun _ : Unit => some (.long (lN (9 ^ t)))) (fun _ : Unit => True) (fun _ : Unit => []) ({ frames := 0, cells := 0, slots := 0, locals := 0 } : Room) below args s A) (F0 m 4 ls []) := by
    intro k
    induction k with
    | zero => intro j H locs ls hj hk; exact absurd hk (Nat.not_lt_zero _)
    | succ k ih4 =>
      intro j H locs ls hj hk hP hD hS hl
      refine lv_iload_n hx hb dX12_nines_4 rfl (lv_at hl 2 rfl) ?_
      refine lv_iload_n hx hb dX12_nines_5 rfl (lv_at hl 0 rfl) ?_
      refine lv_icmp_ge (tgt := 21) hx hb dX12_nines_6 (by decide) (fun cA => ?_) (fun cA => ?_)
      · skip
        have hjt : t = j := by have := zjge hld (by omega) cA; omega
        subst hjt
        refine lv_lload_n hx hb dX12_nines_21 rfl (lv_at hl 1 rfl) ?_
        have hP : va_P g.1 vwCl (List.flatten []) H := hP
        have hD : va_D A (List.flatten []) := hD
        exact mret_l hx hb hr hlocks hS (Nat.le_of_ble_eq_true rfl) (Nat.le_of_ble_eq_true rfl) dX12_nines_22 () rfl trivial hP hD
      · skip
        have hlt : j < t := zjl hld (by omega) cA
        refine lv_lload_n hx hb dX12_nines_9 rfl (lv_at hl 1 rfl) ?_
        refine lv_ldc2 (v := 9) hx hb hown (hts _ k1089) dX12_nines_10 ?_
        refine lv_lmul hx hb dX12_nines_13 ?_
        refine ztopl (r := lN (9 ^ (j + 1))) (znin j) ?_
        refine lv_lstore_n (lv' := [(1, .long (lN (9 ^ (j + 1)))), (0, .int n), (3, .int (nI j))]) hx hb dX12_nines_14 rfl hl (by decide) rfl (fun ls hl => ?_)
        refine lv_iinc (v := nI (j + 1)) (lv' := [(3, .int (nI (j + 1))), (1, .long (lN (9 ^ (j + 1)))), (0, .int n)]) hx hb dX12_nines_15 hl (k := 2) rfl (nI_1 j) (by decide) rfl (fun ls hl => ?_)
        refine lv_goto (tgt := 4) hx hb dX12_nines_18 (by decide) ?_
        have hP : va_P g.1 vwCl (List.flatten []) H := hP
        have hD : va_D A (List.flatten []) := hD
        exact ih4 (j + 1) H locs ls (by omega) (by omega) hP hD hS (lv_sub hl [2, 1, 0] rfl)
  exact LP4 (t + 1) 0 s.heap _ ls (by omega) (by omega) hP hD hS (lv_sub hl [2, 1, 0] rfl)
set_option maxRecDepth 100000 in
set_option maxHeartbeats 4000000 in
theorem m_putsAside (l : Launch) (g : zG) (o : Nat) (a : Nat → Nat) (th : Int32) (hi : Int32) (ac : Int32) (tp : Int32) (ba : Int32) (en : Int32) (tA : Int32) (fl : Int32) (de : Int32) (iD : Int32) (iO : Int32) (tU : Int32) (f : Nat → Nat → Int32)  : zM g l yX12_putsAside (Cond.code yX12_putsAside cX12_putsAside 2 none :: zB) ({ frames := 0, cells := 0, slots := 0, locals := 0 } : Room) [.ref o] [bObj g o a th hi ac tp ba en tA fl de iD iO tU, bArr g a f] (fun (s2 : Nat → Int32) => none) (fun (s2 : Nat → Int32) => ∀ k, k < 379 → s2 k = f 0 k) (fun (s2 : Nat → Int32) => [bObj g o a th hi ac tp ba en tA fl de iD iO tU, bArr g a (zf [f 0, f 1, s2, f 3, f 4, f 5, f 6, f 7])]) := by
  refine zM.of (cc := cX12_putsAside) (maxL := 2) (rt := none) (by decide) rfl (Nat.le_of_ble_eq_true rfl) ?_
  intro p e s m args below meth c A ls St hr hlocks hin hK hT hA hP hD hS hl
  obtain ⟨hx, hb, hml, hown, hts⟩ := id St
  have hl : lv_has ls 2 [(0, .ref o)] := hl
  refine lv_iconst (v := 0) hx hb dX12_putsAside_0 (by decide) ?_
  refine lv_istore_n (lv' := [(1, .int 0), (0, .ref o)]) hx hb dX12_putsAside_1 rfl hl (by decide) rfl (fun ls hl => ?_)
  have hP : va_P g.1 vwCl (List.flatten [bObj g o a th hi ac tp ba en tA fl de iD iO tU, bArr g a (zf [f 0, f 1, (f 2), f 3, f 4, f 5, f 6, f 7])]) s.heap := hP
  have hD : va_D A (List.flatten [bObj g o a th hi ac tp ba en tA fl de iD iO tU, bArr g a (zf [f 0, f 1, (f 2), f 3, f 4, f 5, f 6, f 7])]) := hD
  have LP2 : ∀ (k : Nat) (j : Nat) (s3 : Nat → Int32) (H : Heap) (locs : List Loc) (ls : Array Slot),(j ≤ 379) → (∀ k, k < j → s3 k = f 0 k) → (379 - j) < k → va_P g.1 vwCl (List.flatten [bObj g o a th hi ac tp ba en tA fl de iD iO tU, bArr g a (zf [f 0, f 1, s3, f 3, f 4, f 5, f 6, f 7])]) H → va_D A (List.flatten [bObj g o a th hi ac tp ba en tA fl de iD iO tU, bArr g a (zf [f 0, f 1, s3, f 3, f 4, f 5, f 6, f 7])]) → va_S A s.heap H locs → lv_has ls 2 [(0, .ref o), (1, .int (nI j))] → W p l e ({ frames := 0, cells := 0, slots := 0, locals := 0 } : Room) s m args below meth c H locs (0) (0) (zF g (fun (s2 : Nat → Int32) => none) (fun (s2 : Nat → Int32) => ∀ k, k < 379 → s2 k = f 0 k) (fun (s2 : Nat → Int32) => [bObj g o a th hi ac tp ba en tA fl de iD iO tU, bArr g a (zf [f 0, f 1, s2, f 3, f 4, f 5, f 6, f 7])]) ({ frames := 0, cells := 0, slots := 0, locals := 0 } : Room) below args s A) (F0 m 2 ls []) := by
    intro k
    induction k with
    | zero => intro j s3 H locs ls hj hs hk; exact absurd hk (Nat.not_lt_zero _)
    | succ k ih2 =>
      intro j s3 H locs ls hj hs hk hP hD hS hl
      refine lv_iload_n hx hb dX12_putsAside_2 rfl (lv_at hl 1 rfl) ?_
      refine lv_sipush (v := 379) hx hb dX12_putsAside_3 (by decide) ?_
      refine lv_icmp_ge (tgt := 27) hx hb dX12_putsAside_6 (by decide) (fun cA => ?_) (fun cA => ?_)
      · skip
        have hjn : j = 379 := by have := zjge (n := nI 379) rfl (by omega) cA; omega
        have hP : va_P g.1 vwCl (List.flatten [bObj g o a th hi ac tp ba en tA fl de iD iO tU, bArr g a (zf [f 0, f 1, s3, f 3, f 4, f 5, f 6, f 7])]) H := hP
        have hD : va_D A (List.flatten [bObj g o a th hi ac tp ba en tA fl de iD iO tU, bArr g a (zf [f 0, f 1, s3, f 3, f 4, f 5, f 6, f 7])]) := hD
        exact mret_v hx hb hr hlocks hS (Nat.le_of_ble_eq_true rfl) (Nat.le_of_ble_eq_true rfl) dX12_putsAside_27 (s3) rfl (fun k hk => hs k (by omega)) hP hD
      · skip
        have hlt : j < 379 := by rcases Nat.lt_or_ge j 379 with q | q; exact q; exact absurd (nI_le q (by omega)) cA
        refine lv_aload_n hx hb dX12_putsAside_9 rfl (lv_at hl 0 rfl) ?_
        refine va_get (D := g.1) (ci := 10) (v := .ref (a 2)) (C := RX12) (T := TX12) (N := 20) hx hb hts izRX12 hown hK hP 0 rfl rfl 4 (by decide) (hts _ k817) (fun _ h9 => h9) rfl dX12_putsAside_10 ?_
        refine lv_iload_n hx hb dX12_putsAside_13 rfl (lv_at hl 1 rfl) ?_
        refine lv_aload_n hx hb dX12_putsAside_14 rfl (lv_at hl 0 rfl) ?_
        refine va_get (D := g.1) (ci := 10) (v := .ref (a 0)) (C := RX12) (T := TX12) (N := 20) hx hb hts izRX12 hown hK hP 0 rfl rfl 1 (by decide) (hts _ k815) (fun _ h9 => h9) rfl dX12_putsAside_15 ?_
        refine lv_iload_n hx hb dX12_putsAside_18 rfl (lv_at hl 1 rfl) ?_
        refine va_iald hx hb hK hP 1 0 rfl rfl (vp_in_nI (by omega) (by decide)) dX12_putsAside_19 ?_
        refine ztop (r := (f 0) j) (congrArg _ (nI_clamp (n := j) (by omega))) ?_
        refine va_iast hx hb hK hP hD hS 3 0 rfl rfl (vp_in_nI (by omega) (by decide)) dX12_putsAside_20 (fun H locs hP hD hS => ?_)
        rw [nI_clamp (n := j) (by omega)] at hP hD
        have hP : va_P g.1 vwCl (List.flatten [bObj g o a th hi ac tp ba en tA fl de iD iO tU, [(a 0, .inl (g.2 0, 779, .inl (f 0))), (a 1, .inl (g.2 0, 779, .inl (f 1))), (a 2, .inl (g.2 0, 379, .inl (upd s3 j ((f 0) j)))), (a 3, .inl (g.2 0, 4548, .inl (f 3))), (a 4, .inl (g.2 0, 400, .inl (f 4))), (a 5, .inl (g.2 0, 6, .inl (f 5))), (a 6, .inl (g.2 0, 8, .inl (f 6))), (a 7, .inl (g.2 1, 256, .inl (f 7)))]]) H := hP
        have hD : va_D A (List.flatten [bObj g o a th hi ac tp ba en tA fl de iD iO tU, [(a 0, .inl (g.2 0, 779, .inl (f 0))), (a 1, .inl (g.2 0, 779, .inl (f 1))), (a 2, .inl (g.2 0, 379, .inl (upd s3 j ((f 0) j)))), (a 3, .inl (g.2 0, 4548, .inl (f 3))), (a 4, .inl (g.2 0, 400, .inl (f 4))), (a 5, .inl (g.2 0, 6, .inl (f 5))), (a 6, .inl (g.2 0, 8, .inl (f 6))), (a 7, .inl (g.2 1, 256, .inl (f 7)))]]) := hD
        refine lv_iinc (v := nI (j + 1)) (lv' := [(1, .int (nI (j + 1))), (0, .ref o)]) hx hb dX12_putsAside_21 hl (k := 1) rfl (nI_1 j) (by decide) rfl (fun ls hl => ?_)
        refine lv_goto (tgt := 2) hx hb dX12_putsAside_24 (by decide) ?_
        have hP : va_P g.1 vwCl (List.flatten [bObj g o a th hi ac tp ba en tA fl de iD iO tU, bArr g a (zf [f 0, f 1, (upd s3 j ((f 0) j)), f 3, f 4, f 5, f 6, f 7])]) H := hP
        have hD : va_D A (List.flatten [bObj g o a th hi ac tp ba en tA fl de iD iO tU, bArr g a (zf [f 0, f 1, (upd s3 j ((f 0) j)), f 3, f 4, f 5, f 6, f 7])]) := hD
        exact ih2 (j + 1) (upd s3 j ((f 0) j)) H locs ls (by omega) (zst hs) (by omega) hP hD hS (lv_sub hl [1, 0] rfl)
  exact LP2 (380) 0 (f 2) s.heap _ ls (by omega) (fun k hk => absurd hk (Nat.not_lt_zero k)) (by omega) hP hD hS (lv_sub hl [1, 0] rfl)
set_option maxRecDepth 100000 in
set_option maxHeartbeats 4000000 in
theorem m_comesBack (l : Launch) (g : zG) (o : Nat) (a : Nat → Nat) (th : Int32) (hi : Int32) (ac : Int32) (tp : Int32) (ba : Int32) (en : Int32) (tA : Int32) (fl : Int32) (de : Int32) (iD : Int32) (iO : Int32) (tU : Int32) (f : Nat → Nat → Int32)  : zM g l yX12_comesBack (Cond.code yX12_comesBack cX12_comesBack 2 none :: zB) ({ frames := 0, cells := 0, slots := 0, locals := 0 } : Room) [.ref o] [bObj g o a th hi ac tp ba en tA fl de iD iO tU, bArr g a f] (fun (s2 : Nat → Int32) => none) (fun (s2 : Nat → Int32) => ∀ k, k < 379 → s2 k = f 2 k) (fun (s2 : Nat → Int32) => [bObj g o a th hi ac tp ba en tA fl de iD iO tU, bArr g a (zf [s2, f 1, f 2, f 3, f 4, f 5, f 6, f 7])]) := by
  refine zM.of (cc := cX12_comesBack) (maxL := 2) (rt := none) (by decide) rfl (Nat.le_of_ble_eq_true rfl) ?_
  intro p e s m args below meth c A ls St hr hlocks hin hK hT hA hP hD hS hl
  obtain ⟨hx, hb, hml, hown, hts⟩ := id St
  have hl : lv_has ls 2 [(0, .ref o)] := hl
  refine lv_iconst (v := 0) hx hb dX12_comesBack_0 (by decide) ?_
  refine lv_istore_n (lv' := [(1, .int 0), (0, .ref o)]) hx hb dX12_comesBack_1 rfl hl (by decide) rfl (fun ls hl => ?_)
  have hP : va_P g.1 vwCl (List.flatten [bObj g o a th hi ac tp ba en tA fl de iD iO tU, bArr g a (zf [(f 0), f 1, f 2, f 3, f 4, f 5, f 6, f 7])]) s.heap := hP
  have hD : va_D A (List.flatten [bObj g o a th hi ac tp ba en tA fl de iD iO tU, bArr g a (zf [(f 0), f 1, f 2, f 3, f 4, f 5, f 6, f 7])]) := hD
  have LP2 : ∀ (k : Nat) (j : Nat) (s3 : Nat → Int32) (H : Heap) (locs : List Loc) (ls : Array Slot),(j ≤ 379) → (∀ k, k < j → s3 k = f 2 k) → (379 - j) < k → va_P g.1 vwCl (List.flatten [bObj g o a th hi ac tp ba en tA fl de iD iO tU, bArr g a (zf [s3, f 1, f 2, f 3, f 4, f 5, f 6, f 7])]) H → va_D A (List.flatten [bObj g o a th hi ac tp ba en tA fl de iD iO tU, bArr g a (zf [s3, f 1, f 2, f 3, f 4, f 5, f 6, f 7])]) → va_S A s.heap H locs → lv_has ls 2 [(0, .ref o), (1, .int (nI j))] → W p l e ({ frames := 0, cells := 0, slots := 0, locals := 0 } : Room) s m args below meth c H locs (0) (0) (zF g (fun (s2 : Nat → Int32) => none) (fun (s2 : Nat → Int32) => ∀ k, k < 379 → s2 k = f 2 k) (fun (s2 : Nat → Int32) => [bObj g o a th hi ac tp ba en tA fl de iD iO tU, bArr g a (zf [s2, f 1, f 2, f 3, f 4, f 5, f 6, f 7])]) ({ frames := 0, cells := 0, slots := 0, locals := 0 } : Room) below args s A) (F0 m 2 ls []) := by
    intro k
    induction k with
    | zero => intro j s3 H locs ls hj hs hk; exact absurd hk (Nat.not_lt_zero _)
    | succ k ih2 =>
      intro j s3 H locs ls hj hs hk hP hD hS hl
      refine lv_iload_n hx hb dX12_comesBack_2 rfl (lv_at hl 1 rfl) ?_
      refine lv_sipush (v := 379) hx hb dX12_comesBack_3 (by decide) ?_
      refine lv_icmp_ge (tgt := 27) hx hb dX12_comesBack_6 (by decide) (fun cA => ?_) (fun cA => ?_)
      · skip
        have hjn : j = 379 := by have := zjge (n := nI 379) rfl (by omega) cA; omega
        have hP : va_P g.1 vwCl (List.flatten [bObj g o a th hi ac tp ba en tA fl de iD iO tU, bArr g a (zf [s3, f 1, f 2, f 3, f 4, f 5, f 6, f 7])]) H := hP
        have hD : va_D A (List.flatten [bObj g o a th hi ac tp ba en tA fl de iD iO tU, bArr g a (zf [s3, f 1, f 2, f 3, f 4, f 5, f 6, f 7])]) := hD
        exact mret_v hx hb hr hlocks hS (Nat.le_of_ble_eq_true rfl) (Nat.le_of_ble_eq_true rfl) dX12_comesBack_27 (s3) rfl (fun k hk => hs k (by omega)) hP hD
      · skip
        have hlt : j < 379 := by rcases Nat.lt_or_ge j 379 with q | q; exact q; exact absurd (nI_le q (by omega)) cA
        refine lv_aload_n hx hb dX12_comesBack_9 rfl (lv_at hl 0 rfl) ?_
        refine va_get (D := g.1) (ci := 10) (v := .ref (a 0)) (C := RX12) (T := TX12) (N := 20) hx hb hts izRX12 hown hK hP 0 rfl rfl 1 (by decide) (hts _ k815) (fun _ h9 => h9) rfl dX12_comesBack_10 ?_
        refine lv_iload_n hx hb dX12_comesBack_13 rfl (lv_at hl 1 rfl) ?_
        refine lv_aload_n hx hb dX12_comesBack_14 rfl (lv_at hl 0 rfl) ?_
        refine va_get (D := g.1) (ci := 10) (v := .ref (a 2)) (C := RX12) (T := TX12) (N := 20) hx hb hts izRX12 hown hK hP 0 rfl rfl 4 (by decide) (hts _ k817) (fun _ h9 => h9) rfl dX12_comesBack_15 ?_
        refine lv_iload_n hx hb dX12_comesBack_18 rfl (lv_at hl 1 rfl) ?_
        refine va_iald hx hb hK hP 3 0 rfl rfl (vp_in_nI (by omega) (by decide)) dX12_comesBack_19 ?_
        refine ztop (r := (f 2) j) (congrArg _ (nI_clamp (n := j) (by omega))) ?_
        refine va_iast hx hb hK hP hD hS 1 0 rfl rfl (vp_in_nI (by omega) (by decide)) dX12_comesBack_20 (fun H locs hP hD hS => ?_)
        rw [nI_clamp (n := j) (by omega)] at hP hD
        have hP : va_P g.1 vwCl (List.flatten [bObj g o a th hi ac tp ba en tA fl de iD iO tU, [(a 0, .inl (g.2 0, 779, .inl (upd s3 j ((f 2) j)))), (a 1, .inl (g.2 0, 779, .inl (f 1))), (a 2, .inl (g.2 0, 379, .inl (f 2))), (a 3, .inl (g.2 0, 4548, .inl (f 3))), (a 4, .inl (g.2 0, 400, .inl (f 4))), (a 5, .inl (g.2 0, 6, .inl (f 5))), (a 6, .inl (g.2 0, 8, .inl (f 6))), (a 7, .inl (g.2 1, 256, .inl (f 7)))]]) H := hP
        have hD : va_D A (List.flatten [bObj g o a th hi ac tp ba en tA fl de iD iO tU, [(a 0, .inl (g.2 0, 779, .inl (upd s3 j ((f 2) j)))), (a 1, .inl (g.2 0, 779, .inl (f 1))), (a 2, .inl (g.2 0, 379, .inl (f 2))), (a 3, .inl (g.2 0, 4548, .inl (f 3))), (a 4, .inl (g.2 0, 400, .inl (f 4))), (a 5, .inl (g.2 0, 6, .inl (f 5))), (a 6, .inl (g.2 0, 8, .inl (f 6))), (a 7, .inl (g.2 1, 256, .inl (f 7)))]]) := hD
        refine lv_iinc (v := nI (j + 1)) (lv' := [(1, .int (nI (j + 1))), (0, .ref o)]) hx hb dX12_comesBack_21 hl (k := 1) rfl (nI_1 j) (by decide) rfl (fun ls hl => ?_)
        refine lv_goto (tgt := 2) hx hb dX12_comesBack_24 (by decide) ?_
        have hP : va_P g.1 vwCl (List.flatten [bObj g o a th hi ac tp ba en tA fl de iD iO tU, bArr g a (zf [(upd s3 j ((f 2) j)), f 1, f 2, f 3, f 4, f 5, f 6, f 7])]) H := hP
        have hD : va_D A (List.flatten [bObj g o a th hi ac tp ba en tA fl de iD iO tU, bArr g a (zf [(upd s3 j ((f 2) j)), f 1, f 2, f 3, f 4, f 5, f 6, f 7])]) := hD
        exact ih2 (j + 1) (upd s3 j ((f 2) j)) H locs ls (by omega) (zst hs) (by omega) hP hD hS (lv_sub hl [1, 0] rfl)
  exact LP2 (380) 0 (f 0) s.heap _ ls (by omega) (fun k hk => absurd hk (Nat.not_lt_zero k)) (by omega) hP hD hS (lv_sub hl [1, 0] rfl)
