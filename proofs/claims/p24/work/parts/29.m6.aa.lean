/-! the model's rest: nines, the odds, what is believed as a function of the row -/
theorem zninS (j : Nat) : lN (9 ^ j) * 9 = lN (9 ^ (j + 1)) := by rw [show (9 : Int64) = lN 9 from rfl, lN_mul, Nat.pow_succ]
theorem zrivN {r c a b : Int32} (hr : 0 ≤ r.toInt ∧ r.toInt ≤ 100) (hc : c.toInt = 100 - r.toInt) (ha : 0 ≤ a.toInt ∧ a.toInt ≤ 12) (hb : 0 ≤ b.toInt ∧ b.toInt ≤ 12) : ¬ (r.toInt64 * lN (9 ^ a.toInt.toNat) + c.toInt64 * lN (9 ^ b.toInt.toNat)) = 0 := by
  obtain ⟨n, h1, e1, h3⟩ := znN (x := r) rfl hr.1
  obtain ⟨k, h4, e2, h6⟩ := znN (x := c) rfl (by omega)
  have hA : 9 ^ a.toInt.toNat ≤ 9 ^ 12 := Nat.pow_le_pow_right (by decide) (by omega)
  have hB : 9 ^ b.toInt.toNat ≤ 9 ^ 12 := Nat.pow_le_pow_right (by decide) (by omega)
  have hA1 : 1 ≤ 9 ^ a.toInt.toNat := by have h := Nat.pow_le_pow_right (n := 9) (by decide) (Nat.zero_le a.toInt.toNat); simpa using h
  have hB1 : 1 ≤ 9 ^ b.toInt.toNat := by have h := Nat.pow_le_pow_right (n := 9) (by decide) (Nat.zero_le b.toInt.toNat); simpa using h
  have h9 : (9 : Nat) ^ 12 = 282429536481 := by decide
  rw [h9] at hA hB
  rw [e1, e2, nI_l h1, nI_l h4, lN_mul, lN_mul, lN_add]
  generalize 9 ^ a.toInt.toNat = X at hA hA1 ⊢
  generalize 9 ^ b.toInt.toNat = Y at hB hB1 ⊢
  have hn : n ≤ 100 := by omega
  have hk : k ≤ 100 := by omega
  have p1 : n * X ≤ 100 * 282429536481 := Nat.mul_le_mul hn hA
  have p2 : k * Y ≤ 100 * 282429536481 := Nat.mul_le_mul hk hB
  have p3 : n ≤ n * X := Nat.le_mul_of_pos_right n hA1
  have p4 : k ≤ k * Y := Nat.le_mul_of_pos_right k hB1
  generalize n * X = U at p1 p3 ⊢
  generalize k * Y = V at p2 p4 ⊢
  intro e
  have e9 := congrArg Int64.toInt e
  rw [show (lN (U + V)).toInt = ((U + V : Nat) : Int) from lg_ofNat_toInt (by omega)] at e9
  have e0 : (0 : Int64).toInt = 0 := by decide
  rw [e0] at e9
  omega
def zbel (f : Nat → Int32) : Nat → Int32
  | 0 => 0
  | k + 1 => zbel f k + (if f (15 + 5 * k) = -1 then f (11 + 5 * k) else 0)
theorem zbelS {f : Nat → Int32} {x y k k' : Int32} (h : x.toInt = (zbel f k.toInt.toNat).toInt) (hk : k'.toInt = k.toInt + 1) (h0 : 0 ≤ k.toInt) (hy : y = if f (15 + 5 * k.toInt.toNat) = -1 then f (11 + 5 * k.toInt.toNat) else 0) : (x + y).toInt = (zbel f k'.toInt.toNat).toInt := by
  have e : k'.toInt.toNat = k.toInt.toNat + 1 := by omega
  rw [e, Int32.toInt_inj.mp h, hy]; rfl
theorem znat {x : Int32} (h : 0 ≤ x.toInt) : x = nI x.toInt.toNat := by
  obtain ⟨n, h1, e1, h3⟩ := znN (x := x) rfl h
  have : x.toInt.toNat = n := by omega
  rw [this]; exact e1
theorem zixF {f : Nat → Int32} {i : Int32} {j : Nat} (h : i.toInt = (j : Int)) : f i.toNatClampNeg = f j := by rw [zcl]; congr 1; omega
theorem zjge {n : Int32} {N j : Nat} (hn : n = nI N) (hN : N < 2 ^ 31) (c : n ≤ nI j) : N ≤ j := by
  rcases Nat.lt_or_ge j N with q | q
  · rw [hn] at c
    exact absurd c (nI_ge q hN)
  · exact q
set_option maxRecDepth 100000 in
set_option maxHeartbeats 4000000 in
theorem m_nines (l : Launch) (g : zG) (n : Int32) (t : Nat) (ht : t ≤ 20) (hld : n = nI t) : zM' g l yX12_nines (Cond.code yX12_nines cX12_nines 4 (some .long) :: zB) ({ frames := 0, cells := 0, slots := 0, locals := 0 } : Room) [.int n] [] (fun _ : Unit => some (.long (lN (9 ^ t)))) (fun _ : Unit => True) (fun _ : Unit => []) := by
  refine zM'.of (cc := cX12_nines) (maxL := 4) (rt := (some .long)) (by decide) rfl (Nat.le_of_ble_eq_true rfl) ?_
  intro p e s m args below meth c A ls St hr hlocks hin hK hT hA hP hD hS hl
  obtain ⟨hx, hb, hml, hown, hts⟩ := id St
  have hl : lv_has ls 4 [(0, .int n)] := hl
  refine lv_lconst (v := 1) hx hb dX12_nines_0 (by decide) ?_
  refine lv_lstore_n (lv' := [(1, .long 1), (0, .int n)]) hx hb dX12_nines_1 rfl hl (by decide) rfl (fun ls hl => ?_)
  refine lv_iconst (v := 0) hx hb dX12_nines_2 (by decide) ?_
  refine lv_istore_n (lv' := [(3, .int 0), (1, .long 1), (0, .int n)]) hx hb dX12_nines_3 rfl hl (by decide) rfl (fun ls hl => ?_)
  have hP : va_P g.1 vwCl (List.flatten []) s.heap := hP
  have hD : va_D A (List.flatten []) := hD
  have LP4 : ∀ (k : Nat) (j : Nat) (H : Heap) (locs : List Loc) (ls : Array Slot),(j ≤ t) → (t - j) < k → va_P g.1 vwCl (List.flatten []) H → va_D A (List.flatten []) → va_S A s.heap H locs → lv_has ls 4 [(0, .int n), (1, .long (lN (9 ^ j))), (3, .int (nI j))] → W p l e ({ frames := 0, cells := 0, slots := 0, locals := 0 } : Room) s m args below meth c H locs (0) (0) (zF g (fun _ : Unit => some (.long (lN (9 ^ t)))) (fun _ : Unit => True) (fun _ : Unit => []) ({ frames := 0, cells := 0, slots := 0, locals := 0 } : Room) below args s A) (F0 m 4 ls []) := by
    intro k
    induction k with
    | zero => intro j H locs ls hj hk; exact absurd hk (Nat.not_lt_zero _)
    | succ k ih4 =>
      intro j H locs ls hj hk hP hD hS hl
      refine lv_iload_n hx hb dX12_nines_4 rfl (lv_at hl 2 rfl) ?_
      refine lv_iload_n hx hb dX12_nines_5 rfl (lv_at hl 0 rfl) ?_
      refine lv_icmp_ge (tgt := 21) hx hb dX12_nines_6 (by decide) (fun cA => ?_) (fun cA => ?_)
      · skip
        have hjt : t = j := by have := zjge hld (by omega) cA; omega
        subst hjt
        refine lv_lload_n hx hb dX12_nines_21 rfl (lv_at hl 1 rfl) ?_
        have hP : va_P g.1 vwCl (List.flatten []) H := hP
        have hD : va_D A (List.flatten []) := hD
        exact mret_l hx hb hr hlocks hS (Nat.le_of_ble_eq_true rfl) (Nat.le_of_ble_eq_true rfl) dX12_nines_22 () rfl trivial hP hD
      · skip
        have hlt : j < t := zjl hld (by omega) cA
        refine lv_lload_n hx hb dX12_nines_9 rfl (lv_at hl 1 rfl) ?_
        refine lv_ldc2 (v := 9) hx hb hown (hts _ k1089) dX12_nines_10 ?_
        refine lv_lmul hx hb dX12_nines_13 ?_
        refine ztopl (r := lN (9 ^ (j + 1))) (zninS j) ?_
        refine lv_lstore_n (lv' := [(1, .long (lN (9 ^ (j + 1)))), (0, .int n), (3, .int (nI j))]) hx hb dX12_nines_14 rfl hl (by decide) rfl (fun ls hl => ?_)
        refine lv_iinc (v := nI (j + 1)) (lv' := [(3, .int (nI (j + 1))), (1, .long (lN (9 ^ (j + 1)))), (0, .int n)]) hx hb dX12_nines_15 hl (k := 2) rfl (nI_1 j) (by decide) rfl (fun ls hl => ?_)
        refine lv_goto (tgt := 4) hx hb dX12_nines_18 (by decide) ?_
        have hP : va_P g.1 vwCl (List.flatten []) H := hP
        have hD : va_D A (List.flatten []) := hD
        exact ih4 (j + 1) H locs ls (by omega) (by omega) hP hD hS (lv_sub hl [2, 1, 0] rfl)
  exact LP4 (t + 1) 0 s.heap _ ls (by omega) (by omega) hP hD hS (lv_sub hl [2, 1, 0] rfl)
set_option maxRecDepth 100000 in
set_option maxHeartbeats 4000000 in
theorem m_river (l : Launch) (g : zG) (o : Nat) (a : Nat → Nat) (th : Int32) (hi : Int32) (ac : Int32) (tp : Int32) (ba : Int32) (en : Int32) (tA : Int32) (fl : Int32) (de : Int32) (iD : Int32) (iO : Int32) (tU : Int32) (fm : Nat → Int32) (fk : Nat → Int32) (fa : Nat → Int32) (fc : Nat → Int32) (ft : Nat → Int32) (ff : Nat → Int32) (fb : Nat → Int32) (fi : Nat → Int32) (n : Int32) (rfm : rM fm) (htp : 0 ≤ tp.toInt ∧ tp.toInt ≤ 400) : zM' g l yX12_river (Cond.code yX12_river cX12_river 7 (some .int) :: zB) ({ frames := 1, cells := 0, slots := 0, locals := 24 } : Room) [.ref o, .int n] [bMo g o a th hi ac tp ba en tA fl de iD iO tU fm fk fa fc ft ff fb fi] (fun u : Int32 × Int32 => (fun (th2 : Int32) (q : Int32) => some (.int q)) (u.1) (u.2)) (fun u : Int32 × Int32 => (fun (th2 : Int32) (q : Int32) => True) (u.1) (u.2)) (fun u : Int32 × Int32 => (fun (th2 : Int32) (q : Int32) => [bMo g o a th2 hi ac 0 ba en tA fl de iD iO tU fm fk fa fc ft ff fb fi]) (u.1) (u.2)) := by
  refine zM'.of (cc := cX12_river) (maxL := 7) (rt := (some .int)) (by decide) rfl (Nat.le_of_ble_eq_true rfl) ?_
  intro p e s m args below meth c A ls St hr hlocks hin hK hT hA hP hD hS hl
  obtain ⟨hx, hb, hml, hown, hts⟩ := id St
  have hl : lv_has ls 7 [(0, .ref o), (1, .int n)] := hl
  refine lv_aload_n hx hb dX12_river_0 rfl (lv_at hl 0 rfl) ?_
  refine mcallV' (g := g) (q0 := 0) (ci := 10) (As := []) (rest := []) St hK hT hA hP hD hS hl.1 [0] [] rfl rfl rfl (m_heard l g o a th hi ac tp ba en tA fl de iD iO tU fm fk fa fc ft ff fb fi htp) (cwV 0 hts (zgL (zl4 k1092 k1093 k1094 k839) k1087) rfl rfl rfl (by decide +kernel) ⟨Nat.le_of_ble_eq_true rfl, Nat.le_of_ble_eq_true rfl⟩) rfl rfl rfl rfl (Nat.le_of_ble_eq_true rfl) dX12_river_1 ⟨(Nat.le_of_ble_eq_true rfl), (Nat.le_of_ble_eq_true rfl)⟩ (fun q_1 H locs hq2 hP hD hS => ?_)
  replace hq2 : ((-12 ≤ q_1.toInt ∧ q_1.toInt ≤ 12) ∨ q_1.toInt = 100) := hq2
  have hP : va_P g.1 vwCl (List.flatten [bMo g o a th hi ac 0 ba en tA fl de iD iO tU fm fk fa fc ft ff fb fi]) H := hP
  have hD : va_D A (List.flatten [bMo g o a th hi ac 0 ba en tA fl de iD iO tU fm fk fa fc ft ff fb fi]) := hD
  refine W.widen (k := 0) (n := 0) (Nat.le_of_ble_eq_true rfl) (Nat.le_of_ble_eq_true rfl) ?_
  refine W.eq (g2 := F0 m 4 ls [.int q_1]) rfl ?_
  refine lv_istore_n (lv' := [(2, .int q_1), (0, .ref o), (1, .int n)]) hx hb dX12_river_4 rfl hl (by decide) rfl (fun ls hl => ?_)
  refine lv_aload_n hx hb dX12_river_5 rfl (lv_at hl 1 rfl) ?_
  refine lv_iload_n hx hb dX12_river_6 rfl (lv_at hl 0 rfl) ?_
  refine lv_bipush (v := 100) hx hb dX12_river_7 (by decide) ?_
  refine lv_icmp_eq (tgt := 22) hx hb dX12_river_9 (by decide) (fun cb9 => ?_) (fun cb9 => ?_)
  · skip
    have c3 : q_1.toInt = 100 := zeq cb9 rfl (by decide)
    have n4 : 100 ≤ q_1.toInt := Int.le_trans (Int.le_refl _) (Int.le_of_eq c3.symm)
    refine lv_iconst (v := 1) hx hb dX12_river_22 (by decide) ?_
    refine lv_goto (tgt := 27) hx hb dX12_river_23 (by decide) ?_
    refine va_put (D := g.1) (ci := 10) (v := .int 1) (ty := .int) (C := RX12) (T := TX12) (N := 20) hx hb hts izRX12 tyX12 tyX12_ok nmX12 hown hK hP hD hS 0 rfl rfl 0 (by decide) (hts _ k825) (fun _ h9 => h9) rfl (by decide +kernel) rfl rfl (Nat.le_of_ble_eq_true rfl) dX12_river_27 (fun H locs hP hD hS => ?_)
    have hP : va_P g.1 vwCl (List.flatten [bMo g o a 1 hi ac 0 ba en tA fl de iD iO tU fm fk fa fc ft ff fb fi]) H := hP
    have hD : va_D A (List.flatten [bMo g o a 1 hi ac 0 ba en tA fl de iD iO tU fm fk fa fc ft ff fb fi]) := hD
    refine lv_aload_n hx hb dX12_river_30 rfl (lv_at hl 1 rfl) ?_
    refine va_get (D := g.1) (ci := 10) (v := .int 1) (C := RX12) (T := TX12) (N := 20) hx hb hts izRX12 hown hK hP 0 rfl rfl 0 (by decide) (hts _ k825) (fun _ h9 => h9) rfl dX12_river_31 ?_
    refine lv_if_le (tgt := 39) hx hb dX12_river_34 (by decide) (fun c5 => absurd c5 (by decide)) (fun _ => ?_)
    refine lv_iconst (v := 0) hx hb dX12_river_37 (by decide) ?_
    have hP : va_P g.1 vwCl (List.flatten [bMo g o a 1 hi ac 0 ba en tA fl de iD iO tU fm fk fa fc ft ff fb fi]) H := hP
    have hD : va_D A (List.flatten [bMo g o a 1 hi ac 0 ba en tA fl de iD iO tU fm fk fa fc ft ff fb fi]) := hD
    exact mret_i hx hb hr hlocks hS (Nat.le_of_ble_eq_true rfl) (Nat.le_of_ble_eq_true rfl) dX12_river_38 ((1 : Int32), (0 : Int32)) rfl trivial hP hD
  · skip
    have c6 : ¬ q_1.toInt = 100 := zne cb9 rfl (by decide)
    refine lv_iload_n hx hb dX12_river_12 rfl (lv_at hl 2 rfl) ?_
    refine lv_iconst (v := 0) hx hb dX12_river_13 (by decide) ?_
    refine lv_bipush (v := 100) hx hb dX12_river_14 (by decide) ?_
    have hL0 : (0 : Int32).toInt = 0 := by decide
    have hL100 : (100 : Int32).toInt = 100 := by decide
    refine mcallS' (g := g) (As := [.int n, .int 0, .int 100]) (rest := [.ref o]) St hK hT hA hP hD hS hl.1 [] [0] rfl rfl rfl (m_isIn l g n 0 100 ) (va_cwS 3 hts (zgL (zl3 k837 k838 k839) k826) rfl rfl rfl (by decide +kernel) ⟨Nat.le_of_ble_eq_true rfl, Nat.le_of_ble_eq_true rfl⟩) rfl rfl (Nat.le_of_ble_eq_true rfl) dX12_river_16 ⟨(Nat.le_of_ble_eq_true rfl), (Nat.le_of_ble_eq_true rfl)⟩ (fun q_7 H locs hq8 hP hD hS => ?_)
    replace hq8 : (q_7 = 1 ∧ (0 : Int32).toInt ≤ n.toInt ∧ n.toInt ≤ (100 : Int32).toInt ∨ q_7 = 0 ∧ (n.toInt < (0 : Int32).toInt ∨ (100 : Int32).toInt < n.toInt)) := hq8
    have hP : va_P g.1 vwCl (List.flatten [bMo g o a th hi ac 0 ba en tA fl de iD iO tU fm fk fa fc ft ff fb fi]) H := hP
    have hD : va_D A (List.flatten [bMo g o a th hi ac 0 ba en tA fl de iD iO tU fm fk fa fc ft ff fb fi]) := hD
    refine W.widen (k := 0) (n := 0) (Nat.le_of_ble_eq_true rfl) (Nat.le_of_ble_eq_true rfl) ?_
    refine W.eq (g2 := F0 m 19 ls [.int q_7, .ref o]) rfl ?_
    rcases hq8 with ⟨rfl, hq8_k⟩ | ⟨rfl, hq8_k⟩
    · skip
      refine lv_if_ne (tgt := 26) hx hb dX12_river_19 (by decide) (fun _ => ?_) (fun c9 => absurd c9 (by decide))
      refine lv_iconst (v := 0) hx hb dX12_river_26 (by decide) ?_
      refine va_put (D := g.1) (ci := 10) (v := .int 0) (ty := .int) (C := RX12) (T := TX12) (N := 20) hx hb hts izRX12 tyX12 tyX12_ok nmX12 hown hK hP hD hS 0 rfl rfl 0 (by decide) (hts _ k825) (fun _ h9 => h9) rfl (by decide +kernel) rfl rfl (Nat.le_of_ble_eq_true rfl) dX12_river_27 (fun H locs hP hD hS => ?_)
      have hP : va_P g.1 vwCl (List.flatten [bMo g o a 0 hi ac 0 ba en tA fl de iD iO tU fm fk fa fc ft ff fb fi]) H := hP
      have hD : va_D A (List.flatten [bMo g o a 0 hi ac 0 ba en tA fl de iD iO tU fm fk fa fc ft ff fb fi]) := hD
      refine lv_aload_n hx hb dX12_river_30 rfl (lv_at hl 1 rfl) ?_
      refine va_get (D := g.1) (ci := 10) (v := .int 0) (C := RX12) (T := TX12) (N := 20) hx hb hts izRX12 hown hK hP 0 rfl rfl 0 (by decide) (hts _ k825) (fun _ h9 => h9) rfl dX12_river_31 ?_
      refine lv_if_le (tgt := 39) hx hb dX12_river_34 (by decide) (fun _ => ?_) (fun c10 => absurd (by decide) c10)
      have w11 : (-12) ≤ q_1.toInt ∧ q_1.toInt ≤ 12 := by omega
      have w12 : 0 ≤ n.toInt ∧ n.toInt ≤ 100 := by omega
      refine lv_iload_n hx hb dX12_river_39 rfl (lv_at hl 2 rfl) ?_
      refine lv_i2l (v := (n : Int32).toInt64) hx hb dX12_river_40 rfl ?_
      refine lv_iconst (v := 0) hx hb dX12_river_41 (by decide) ?_
      refine lv_iload_n hx hb dX12_river_42 rfl (lv_at hl 0 rfl) ?_
      refine mcallS' (g := g) (As := [.int 0, .int q_1]) (rest := [.long ((n : Int32).toInt64)]) St hK hT hA hP hD hS hl.1 [] [0] rfl rfl rfl (m_greater l g 0 q_1 ) (va_cwS 2 hts (zgL (zl3 k1003 k1004 k839) k828) rfl rfl rfl (by decide +kernel) ⟨Nat.le_of_ble_eq_true rfl, Nat.le_of_ble_eq_true rfl⟩) rfl rfl (Nat.le_of_ble_eq_true rfl) dX12_river_43 ⟨(Nat.le_of_ble_eq_true rfl), (Nat.le_of_ble_eq_true rfl)⟩ (fun q_13 H locs hq14 hP hD hS => ?_)
      replace hq14 : ((0 : Int32).toInt ≤ q_13.toInt ∧ q_1.toInt ≤ q_13.toInt ∧ (q_13.toInt = (0 : Int32).toInt ∨ q_13.toInt = q_1.toInt)) := hq14
      have hP : va_P g.1 vwCl (List.flatten [bMo g o a 0 hi ac 0 ba en tA fl de iD iO tU fm fk fa fc ft ff fb fi]) H := hP
      have hD : va_D A (List.flatten [bMo g o a 0 hi ac 0 ba en tA fl de iD iO tU fm fk fa fc ft ff fb fi]) := hD
      refine W.widen (k := 0) (n := 0) (Nat.le_of_ble_eq_true rfl) (Nat.le_of_ble_eq_true rfl) ?_
      refine W.eq (g2 := F0 m 46 ls [.int q_13, .long ((n : Int32).toInt64)]) rfl ?_
      refine mcallS' (g := g) (As := [.int q_13]) (rest := [.long ((n : Int32).toInt64)]) St hK hT hA hP hD hS hl.1 [] [0] rfl rfl rfl (m_nines l g q_13 q_13.toInt.toNat (by omega) (znat (by omega))) (va_cwS 1 hts (zgL (zl3 k1095 k1096 k839) k1088) rfl rfl rfl (by decide +kernel) ⟨Nat.le_of_ble_eq_true rfl, Nat.le_of_ble_eq_true rfl⟩) rfl rfl (Nat.le_of_ble_eq_true rfl) dX12_river_46 ⟨(Nat.le_of_ble_eq_true rfl), (Nat.le_of_ble_eq_true rfl)⟩ (fun _u H locs hq15 hP hD hS => ?_)
      have hP : va_P g.1 vwCl (List.flatten [bMo g o a 0 hi ac 0 ba en tA fl de iD iO tU fm fk fa fc ft ff fb fi]) H := hP
      have hD : va_D A (List.flatten [bMo g o a 0 hi ac 0 ba en tA fl de iD iO tU fm fk fa fc ft ff fb fi]) := hD
      refine W.widen (k := 0) (n := 0) (Nat.le_of_ble_eq_true rfl) (Nat.le_of_ble_eq_true rfl) ?_
      refine W.eq (g2 := F0 m 49 ls [.long (lN (9 ^ q_13.toInt.toNat)), .long ((n : Int32).toInt64)]) rfl ?_
      refine lv_lmul hx hb dX12_river_49 ?_
      refine lv_lstore_n (lv' := [(3, .long (((n : Int32).toInt64) * (lN (9 ^ q_13.toInt.toNat)))), (2, .int q_1), (0, .ref o), (1, .int n)]) hx hb dX12_river_50 rfl hl (by decide) rfl (fun ls hl => ?_)
      refine lv_bipush (v := 100) hx hb dX12_river_51 (by decide) ?_
      refine lv_iload_n hx hb dX12_river_53 rfl (lv_at hl 3 rfl) ?_
      refine lv_isub hx hb dX12_river_54 ?_
      refine zg3 (zsubK (i := 100) (j := n.toInt) (a' := 0) (b' := 100) (by decide) rfl (Int.le_refl _) (Int.le_refl _) w12.1 w12.2 (by decide)) (fun x_16 hx_16 => ?_)
      refine lv_i2l (v := (x_16 : Int32).toInt64) hx hb dX12_river_55 rfl ?_
      refine lv_iconst (v := 0) hx hb dX12_river_56 (by decide) ?_
      refine lv_iload_n hx hb dX12_river_57 rfl (lv_at hl 1 rfl) ?_
      refine lv_ineg hx hb dX12_river_58 ?_
      refine zgv (zneg (i := q_1.toInt) rfl (by omega)) (fun x_17 hx_17 => ?_)
      refine mcallS' (g := g) (As := [.int 0, .int x_17]) (rest := [.long ((x_16 : Int32).toInt64)]) St hK hT hA hP hD hS hl.1 [] [0] rfl rfl rfl (m_greater l g 0 x_17 ) (va_cwS 2 hts (zgL (zl3 k1003 k1004 k839) k828) rfl rfl rfl (by decide +kernel) ⟨Nat.le_of_ble_eq_true rfl, Nat.le_of_ble_eq_true rfl⟩) rfl rfl (Nat.le_of_ble_eq_true rfl) dX12_river_59 ⟨(Nat.le_of_ble_eq_true rfl), (Nat.le_of_ble_eq_true rfl)⟩ (fun q_18 H locs hq19 hP hD hS => ?_)
      replace hq19 : ((0 : Int32).toInt ≤ q_18.toInt ∧ x_17.toInt ≤ q_18.toInt ∧ (q_18.toInt = (0 : Int32).toInt ∨ q_18.toInt = x_17.toInt)) := hq19
      have hP : va_P g.1 vwCl (List.flatten [bMo g o a 0 hi ac 0 ba en tA fl de iD iO tU fm fk fa fc ft ff fb fi]) H := hP
      have hD : va_D A (List.flatten [bMo g o a 0 hi ac 0 ba en tA fl de iD iO tU fm fk fa fc ft ff fb fi]) := hD
      refine W.widen (k := 0) (n := 0) (Nat.le_of_ble_eq_true rfl) (Nat.le_of_ble_eq_true rfl) ?_
      refine W.eq (g2 := F0 m 62 ls [.int q_18, .long ((x_16 : Int32).toInt64)]) rfl ?_
      refine mcallS' (g := g) (As := [.int q_18]) (rest := [.long ((x_16 : Int32).toInt64)]) St hK hT hA hP hD hS hl.1 [] [0] rfl rfl rfl (m_nines l g q_18 q_18.toInt.toNat (by omega) (znat (by omega))) (va_cwS 1 hts (zgL (zl3 k1095 k1096 k839) k1088) rfl rfl rfl (by decide +kernel) ⟨Nat.le_of_ble_eq_true rfl, Nat.le_of_ble_eq_true rfl⟩) rfl rfl (Nat.le_of_ble_eq_true rfl) dX12_river_62 ⟨(Nat.le_of_ble_eq_true rfl), (Nat.le_of_ble_eq_true rfl)⟩ (fun _u H locs hq20 hP hD hS => ?_)
      have hP : va_P g.1 vwCl (List.flatten [bMo g o a 0 hi ac 0 ba en tA fl de iD iO tU fm fk fa fc ft ff fb fi]) H := hP
      have hD : va_D A (List.flatten [bMo g o a 0 hi ac 0 ba en tA fl de iD iO tU fm fk fa fc ft ff fb fi]) := hD
      refine W.widen (k := 0) (n := 0) (Nat.le_of_ble_eq_true rfl) (Nat.le_of_ble_eq_true rfl) ?_
      refine W.eq (g2 := F0 m 65 ls [.long (lN (9 ^ q_18.toInt.toNat)), .long ((x_16 : Int32).toInt64)]) rfl ?_
      refine lv_lmul hx hb dX12_river_65 ?_
      refine lv_lstore (lv' := [(5, .long (((x_16 : Int32).toInt64) * (lN (9 ^ q_18.toInt.toNat)))), (3, .long (((n : Int32).toInt64) * (lN (9 ^ q_13.toInt.toNat)))), (2, .int q_1), (0, .ref o), (1, .int n)]) hx hb dX12_river_66 hl (by decide) rfl (fun ls hl => ?_)
      refine lv_ldc2 (v := 10000) hx hb hown (hts _ k1091) dX12_river_68 ?_
      refine lv_lload_n hx hb dX12_river_71 rfl (lv_at hl 1 rfl) ?_
      refine lv_lmul hx hb dX12_river_72 (zgl (fun y21 => ?_))
      refine lv_lload_n hx hb dX12_river_73 rfl (lv_at hl 1 rfl) ?_
      refine lv_lload hx hb dX12_river_74 (lv_at hl 0 rfl) ?_
      refine lv_ladd hx hb dX12_river_76 ?_
      refine lv_ldiv hx hb dX12_river_77 (zrivN (by omega) (by omega) (by omega) (by omega)) (zgl (fun y22 => ?_))
      refine lv_l2i hx hb dX12_river_78 rfl ?_
      refine zg (fun x_23 => ?_)
      have hP : va_P g.1 vwCl (List.flatten [bMo g o a 0 hi ac 0 ba en tA fl de iD iO tU fm fk fa fc ft ff fb fi]) H := hP
      have hD : va_D A (List.flatten [bMo g o a 0 hi ac 0 ba en tA fl de iD iO tU fm fk fa fc ft ff fb fi]) := hD
      exact mret_i hx hb hr hlocks hS (Nat.le_of_ble_eq_true rfl) (Nat.le_of_ble_eq_true rfl) dX12_river_79 ((0 : Int32), x_23) rfl trivial hP hD
    · skip
      refine lv_if_ne (tgt := 26) hx hb dX12_river_19 (by decide) (fun c24 => absurd (by decide) c24) (fun _ => ?_)
      refine lv_iconst (v := 1) hx hb dX12_river_22 (by decide) ?_
      refine lv_goto (tgt := 27) hx hb dX12_river_23 (by decide) ?_
      refine va_put (D := g.1) (ci := 10) (v := .int 1) (ty := .int) (C := RX12) (T := TX12) (N := 20) hx hb hts izRX12 tyX12 tyX12_ok nmX12 hown hK hP hD hS 0 rfl rfl 0 (by decide) (hts _ k825) (fun _ h9 => h9) rfl (by decide +kernel) rfl rfl (Nat.le_of_ble_eq_true rfl) dX12_river_27 (fun H locs hP hD hS => ?_)
      have hP : va_P g.1 vwCl (List.flatten [bMo g o a 1 hi ac 0 ba en tA fl de iD iO tU fm fk fa fc ft ff fb fi]) H := hP
      have hD : va_D A (List.flatten [bMo g o a 1 hi ac 0 ba en tA fl de iD iO tU fm fk fa fc ft ff fb fi]) := hD
      refine lv_aload_n hx hb dX12_river_30 rfl (lv_at hl 1 rfl) ?_
      refine va_get (D := g.1) (ci := 10) (v := .int 1) (C := RX12) (T := TX12) (N := 20) hx hb hts izRX12 hown hK hP 0 rfl rfl 0 (by decide) (hts _ k825) (fun _ h9 => h9) rfl dX12_river_31 ?_
      refine lv_if_le (tgt := 39) hx hb dX12_river_34 (by decide) (fun c25 => absurd c25 (by decide)) (fun _ => ?_)
      refine lv_iconst (v := 0) hx hb dX12_river_37 (by decide) ?_
      have hP : va_P g.1 vwCl (List.flatten [bMo g o a 1 hi ac 0 ba en tA fl de iD iO tU fm fk fa fc ft ff fb fi]) H := hP
      have hD : va_D A (List.flatten [bMo g o a 1 hi ac 0 ba en tA fl de iD iO tU fm fk fa fc ft ff fb fi]) := hD
      exact mret_i hx hb hr hlocks hS (Nat.le_of_ble_eq_true rfl) (Nat.le_of_ble_eq_true rfl) dX12_river_38 ((1 : Int32), (0 : Int32)) rfl trivial hP hD
set_option maxRecDepth 100000 in
set_option maxHeartbeats 4000000 in
theorem m_more (l : Launch) (g : zG) (o : Nat) (a : Nat → Nat) (th : Int32) (hi : Int32) (ac : Int32) (tp : Int32) (ba : Int32) (en : Int32) (tA : Int32) (fl : Int32) (de : Int32) (iD : Int32) (iO : Int32) (tU : Int32) (fm : Nat → Int32) (fk : Nat → Int32) (fa : Nat → Int32) (fc : Nat → Int32) (ft : Nat → Int32) (ff : Nat → Int32) (fb : Nat → Int32) (fi : Nat → Int32) (n : Int32) (rfm : rM fm) (htp : 0 ≤ tp.toInt ∧ tp.toInt ≤ 400) : zM' g l yX12_more (Cond.code yX12_more cX12_more 8 (some .int) :: zB) ({ frames := 1, cells := 0, slots := 0, locals := 24 } : Room) [.ref o, .int n] [bMo g o a th hi ac tp ba en tA fl de iD iO tU fm fk fa fc ft ff fb fi] (fun u : Int32 × Int32 => (fun (th2 : Int32) (q : Int32) => some (.int q)) (u.1) (u.2)) (fun u : Int32 × Int32 => (fun (th2 : Int32) (q : Int32) => True) (u.1) (u.2)) (fun u : Int32 × Int32 => (fun (th2 : Int32) (q : Int32) => [bMo g o a th2 hi ac 0 ba en tA fl de iD iO tU fm fk fa fc ft ff fb fi]) (u.1) (u.2)) := by
  refine zM'.of (cc := cX12_more) (maxL := 8) (rt := (some .int)) (by decide) rfl (Nat.le_of_ble_eq_true rfl) ?_
  intro p e s m args below meth c A ls St hr hlocks hin hK hT hA hP hD hS hl
  obtain ⟨hx, hb, hml, hown, hts⟩ := id St
  have hl : lv_has ls 8 [(0, .ref o), (1, .int n)] := hl
  refine lv_aload_n hx hb dX12_more_0 rfl (lv_at hl 0 rfl) ?_
  refine mcallV' (g := g) (q0 := 0) (ci := 10) (As := []) (rest := []) St hK hT hA hP hD hS hl.1 [0] [] rfl rfl rfl (m_heard l g o a th hi ac tp ba en tA fl de iD iO tU fm fk fa fc ft ff fb fi htp) (cwV 0 hts (zgL (zl4 k1092 k1093 k1094 k839) k1087) rfl rfl rfl (by decide +kernel) ⟨Nat.le_of_ble_eq_true rfl, Nat.le_of_ble_eq_true rfl⟩) rfl rfl rfl rfl (Nat.le_of_ble_eq_true rfl) dX12_more_1 ⟨(Nat.le_of_ble_eq_true rfl), (Nat.le_of_ble_eq_true rfl)⟩ (fun q_1 H locs hq2 hP hD hS => ?_)
  replace hq2 : ((-12 ≤ q_1.toInt ∧ q_1.toInt ≤ 12) ∨ q_1.toInt = 100) := hq2
  have hP : va_P g.1 vwCl (List.flatten [bMo g o a th hi ac 0 ba en tA fl de iD iO tU fm fk fa fc ft ff fb fi]) H := hP
  have hD : va_D A (List.flatten [bMo g o a th hi ac 0 ba en tA fl de iD iO tU fm fk fa fc ft ff fb fi]) := hD
  refine W.widen (k := 0) (n := 0) (Nat.le_of_ble_eq_true rfl) (Nat.le_of_ble_eq_true rfl) ?_
  refine W.eq (g2 := F0 m 4 ls [.int q_1]) rfl ?_
  refine lv_istore_n (lv' := [(2, .int q_1), (0, .ref o), (1, .int n)]) hx hb dX12_more_4 rfl hl (by decide) rfl (fun ls hl => ?_)
  refine lv_aload_n hx hb dX12_more_5 rfl (lv_at hl 1 rfl) ?_
  refine lv_iload_n hx hb dX12_more_6 rfl (lv_at hl 0 rfl) ?_
  refine lv_bipush (v := 100) hx hb dX12_more_7 (by decide) ?_
  refine lv_icmp_eq (tgt := 22) hx hb dX12_more_9 (by decide) (fun cb9 => ?_) (fun cb9 => ?_)
  · skip
    have c3 : q_1.toInt = 100 := zeq cb9 rfl (by decide)
    have n4 : 100 ≤ q_1.toInt := Int.le_trans (Int.le_refl _) (Int.le_of_eq c3.symm)
    refine lv_iconst (v := 1) hx hb dX12_more_22 (by decide) ?_
    refine lv_goto (tgt := 27) hx hb dX12_more_23 (by decide) ?_
    refine va_put (D := g.1) (ci := 10) (v := .int 1) (ty := .int) (C := RX12) (T := TX12) (N := 20) hx hb hts izRX12 tyX12 tyX12_ok nmX12 hown hK hP hD hS 0 rfl rfl 0 (by decide) (hts _ k825) (fun _ h9 => h9) rfl (by decide +kernel) rfl rfl (Nat.le_of_ble_eq_true rfl) dX12_more_27 (fun H locs hP hD hS => ?_)
    have hP : va_P g.1 vwCl (List.flatten [bMo g o a 1 hi ac 0 ba en tA fl de iD iO tU fm fk fa fc ft ff fb fi]) H := hP
    have hD : va_D A (List.flatten [bMo g o a 1 hi ac 0 ba en tA fl de iD iO tU fm fk fa fc ft ff fb fi]) := hD
    refine lv_aload_n hx hb dX12_more_30 rfl (lv_at hl 1 rfl) ?_
    refine va_get (D := g.1) (ci := 10) (v := .int 1) (C := RX12) (T := TX12) (N := 20) hx hb hts izRX12 hown hK hP 0 rfl rfl 0 (by decide) (hts _ k825) (fun _ h9 => h9) rfl dX12_more_31 ?_
    refine lv_if_le (tgt := 39) hx hb dX12_more_34 (by decide) (fun c5 => absurd c5 (by decide)) (fun _ => ?_)
    refine lv_iconst (v := 0) hx hb dX12_more_37 (by decide) ?_
    have hP : va_P g.1 vwCl (List.flatten [bMo g o a 1 hi ac 0 ba en tA fl de iD iO tU fm fk fa fc ft ff fb fi]) H := hP
    have hD : va_D A (List.flatten [bMo g o a 1 hi ac 0 ba en tA fl de iD iO tU fm fk fa fc ft ff fb fi]) := hD
    exact mret_i hx hb hr hlocks hS (Nat.le_of_ble_eq_true rfl) (Nat.le_of_ble_eq_true rfl) dX12_more_38 ((1 : Int32), (0 : Int32)) rfl trivial hP hD
  · skip
    have c6 : ¬ q_1.toInt = 100 := zne cb9 rfl (by decide)
    refine lv_iload_n hx hb dX12_more_12 rfl (lv_at hl 2 rfl) ?_
    refine lv_iconst (v := 0) hx hb dX12_more_13 (by decide) ?_
    refine lv_bipush (v := 100) hx hb dX12_more_14 (by decide) ?_
    have hL0 : (0 : Int32).toInt = 0 := by decide
    have hL100 : (100 : Int32).toInt = 100 := by decide
    refine mcallS' (g := g) (As := [.int n, .int 0, .int 100]) (rest := [.ref o]) St hK hT hA hP hD hS hl.1 [] [0] rfl rfl rfl (m_isIn l g n 0 100 ) (va_cwS 3 hts (zgL (zl3 k837 k838 k839) k826) rfl rfl rfl (by decide +kernel) ⟨Nat.le_of_ble_eq_true rfl, Nat.le_of_ble_eq_true rfl⟩) rfl rfl (Nat.le_of_ble_eq_true rfl) dX12_more_16 ⟨(Nat.le_of_ble_eq_true rfl), (Nat.le_of_ble_eq_true rfl)⟩ (fun q_7 H locs hq8 hP hD hS => ?_)
    replace hq8 : (q_7 = 1 ∧ (0 : Int32).toInt ≤ n.toInt ∧ n.toInt ≤ (100 : Int32).toInt ∨ q_7 = 0 ∧ (n.toInt < (0 : Int32).toInt ∨ (100 : Int32).toInt < n.toInt)) := hq8
    have hP : va_P g.1 vwCl (List.flatten [bMo g o a th hi ac 0 ba en tA fl de iD iO tU fm fk fa fc ft ff fb fi]) H := hP
    have hD : va_D A (List.flatten [bMo g o a th hi ac 0 ba en tA fl de iD iO tU fm fk fa fc ft ff fb fi]) := hD
    refine W.widen (k := 0) (n := 0) (Nat.le_of_ble_eq_true rfl) (Nat.le_of_ble_eq_true rfl) ?_
    refine W.eq (g2 := F0 m 19 ls [.int q_7, .ref o]) rfl ?_
    rcases hq8 with ⟨rfl, hq8_k⟩ | ⟨rfl, hq8_k⟩
    · skip
      refine lv_if_ne (tgt := 26) hx hb dX12_more_19 (by decide) (fun _ => ?_) (fun c9 => absurd c9 (by decide))
      refine lv_iconst (v := 0) hx hb dX12_more_26 (by decide) ?_
      refine va_put (D := g.1) (ci := 10) (v := .int 0) (ty := .int) (C := RX12) (T := TX12) (N := 20) hx hb hts izRX12 tyX12 tyX12_ok nmX12 hown hK hP hD hS 0 rfl rfl 0 (by decide) (hts _ k825) (fun _ h9 => h9) rfl (by decide +kernel) rfl rfl (Nat.le_of_ble_eq_true rfl) dX12_more_27 (fun H locs hP hD hS => ?_)
      have hP : va_P g.1 vwCl (List.flatten [bMo g o a 0 hi ac 0 ba en tA fl de iD iO tU fm fk fa fc ft ff fb fi]) H := hP
      have hD : va_D A (List.flatten [bMo g o a 0 hi ac 0 ba en tA fl de iD iO tU fm fk fa fc ft ff fb fi]) := hD
      refine lv_aload_n hx hb dX12_more_30 rfl (lv_at hl 1 rfl) ?_
      refine va_get (D := g.1) (ci := 10) (v := .int 0) (C := RX12) (T := TX12) (N := 20) hx hb hts izRX12 hown hK hP 0 rfl rfl 0 (by decide) (hts _ k825) (fun _ h9 => h9) rfl dX12_more_31 ?_
      refine lv_if_le (tgt := 39) hx hb dX12_more_34 (by decide) (fun _ => ?_) (fun c10 => absurd (by decide) c10)
      have w11 : (-12) ≤ q_1.toInt ∧ q_1.toInt ≤ 12 := by omega
      have w12 : 0 ≤ n.toInt ∧ n.toInt ≤ 100 := by omega
      refine lv_iconst (v := 0) hx hb dX12_more_39 (by decide) ?_
      refine lv_istore_n (lv' := [(3, .int 0), (2, .int q_1), (0, .ref o), (1, .int n)]) hx hb dX12_more_40 rfl hl (by decide) rfl (fun ls hl => ?_)
      have hl := lv_sub (l' := [(0, .ref o), (1, .int n), (2, .int q_1), (3, .int 0)]) hl [2, 3, 1, 0] rfl
      have LP41_15 : ∀ (kf : Nat) (x_13 : Int32), (0 ≤ x_13.toInt ∧ x_13.toInt ≤ 21) → ∀ (H : Heap) (locs : List Loc) (ls : Array Slot), ((22 - x_13.toInt).toNat) < kf → va_P g.1 vwCl (List.flatten [bMo g o a 0 hi ac 0 ba en tA fl de iD iO tU fm fk fa fc ft ff fb fi]) H → va_D A (List.flatten [bMo g o a 0 hi ac 0 ba en tA fl de iD iO tU fm fk fa fc ft ff fb fi]) → va_S A s.heap H locs → lv_has ls 8 [(0, .ref o), (1, .int n), (2, .int q_1), (3, .int x_13)] → W p l e ({ frames := 1, cells := 0, slots := 0, locals := 24 } : Room) s m args below meth c H locs (0) (0) (zF g (fun u : Int32 × Int32 => (fun (th2 : Int32) (q : Int32) => some (.int q)) (u.1) (u.2)) (fun u : Int32 × Int32 => (fun (th2 : Int32) (q : Int32) => True) (u.1) (u.2)) (fun u : Int32 × Int32 => (fun (th2 : Int32) (q : Int32) => [bMo g o a th2 hi ac 0 ba en tA fl de iD iO tU fm fk fa fc ft ff fb fi]) (u.1) (u.2)) ({ frames := 1, cells := 0, slots := 0, locals := 24 } : Room) below args s A) (F0 m 41 ls []) := by
        intro kf
        induction kf with
        | zero => intro x_13 i14 H locs ls hk; exact absurd hk (Nat.not_lt_zero _)
        | succ kf ih41_16 =>
          intro x_13 i14 H locs ls hk41_16 hP hD hS hl
          refine lv_iload_n hx hb dX12_more_41 rfl (lv_at hl 3 rfl) ?_
          refine lv_bipush (v := 20) hx hb dX12_more_42 (by decide) ?_
          refine lv_icmp_gt (tgt := 106) hx hb dX12_more_44 (by decide) (fun cb9 => ?_) (fun cb9 => ?_)
          · skip
            have c17 : 20 < x_13.toInt := zlti cb9 (by decide) rfl
            have n18 : 21 ≤ x_13.toInt := zL2 (a := 20) c17 (Int.le_refl _) (by decide)
            refine lv_iconst (v := (-1)) hx hb dX12_more_106 (by decide) ?_
            have hP : va_P g.1 vwCl (List.flatten [bMo g o a 0 hi ac 0 ba en tA fl de iD iO tU fm fk fa fc ft ff fb fi]) H := hP
            have hD : va_D A (List.flatten [bMo g o a 0 hi ac 0 ba en tA fl de iD iO tU fm fk fa fc ft ff fb fi]) := hD
            exact mret_i hx hb hr hlocks hS (Nat.le_of_ble_eq_true rfl) (Nat.le_of_ble_eq_true rfl) dX12_more_107 ((0 : Int32), -1) rfl trivial hP hD
          · skip
            have c19 : x_13.toInt ≤ 20 := zle (Int32.not_lt.mp cb9) rfl (by decide)
            have n20 : x_13.toInt ≤ 20 := Int.le_trans c19 (Int.le_refl _)
            refine lv_iload_n hx hb dX12_more_47 rfl (lv_at hl 1 rfl) ?_
            refine lv_i2l hx hb dX12_more_48 rfl (zgl (fun y21 => ?_))
            refine lv_bipush (v := 14) hx hb dX12_more_49 (by decide) ?_
            refine lv_iconst (v := 0) hx hb dX12_more_51 (by decide) ?_
            refine lv_iload_n hx hb dX12_more_52 rfl (lv_at hl 2 rfl) ?_
            refine lv_iload_n hx hb dX12_more_53 rfl (lv_at hl 3 rfl) ?_
            refine lv_iadd hx hb dX12_more_54 ?_
            refine zg3 (zaddK (i := q_1.toInt) (j := x_13.toInt) (a' := (-12)) (b' := 32) rfl rfl w11.1 w11.2 i14.1 n20 (by decide)) (fun x_22 hx_22 => ?_)
            refine mcallS' (g := g) (As := [.int 0, .int x_22]) (rest := [.int 14, .long y21]) St hK hT hA hP hD hS hl.1 [] [0] rfl rfl rfl (m_greater l g 0 x_22 ) (va_cwS 2 hts (zgL (zl3 k1003 k1004 k839) k828) rfl rfl rfl (by decide +kernel) ⟨Nat.le_of_ble_eq_true rfl, Nat.le_of_ble_eq_true rfl⟩) rfl rfl (Nat.le_of_ble_eq_true rfl) dX12_more_55 ⟨(Nat.le_of_ble_eq_true rfl), (Nat.le_of_ble_eq_true rfl)⟩ (fun q_23 H locs hq24 hP hD hS => ?_)
            replace hq24 : ((0 : Int32).toInt ≤ q_23.toInt ∧ x_22.toInt ≤ q_23.toInt ∧ (q_23.toInt = (0 : Int32).toInt ∨ q_23.toInt = x_22.toInt)) := hq24
            have hP : va_P g.1 vwCl (List.flatten [bMo g o a 0 hi ac 0 ba en tA fl de iD iO tU fm fk fa fc ft ff fb fi]) H := hP
            have hD : va_D A (List.flatten [bMo g o a 0 hi ac 0 ba en tA fl de iD iO tU fm fk fa fc ft ff fb fi]) := hD
            refine W.widen (k := 0) (n := 0) (Nat.le_of_ble_eq_true rfl) (Nat.le_of_ble_eq_true rfl) ?_
            refine W.eq (g2 := F0 m 58 ls [.int q_23, .int 14, .long y21]) rfl ?_
            have hL14 : (14 : Int32).toInt = 14 := by decide
            refine mcallS' (g := g) (As := [.int 14, .int q_23]) (rest := [.long y21]) St hK hT hA hP hD hS hl.1 [] [0] rfl rfl rfl (m_lesser l g 14 q_23 ) (va_cwS 2 hts (zgL (zl3 k1000 k1001 k839) k827) rfl rfl rfl (by decide +kernel) ⟨Nat.le_of_ble_eq_true rfl, Nat.le_of_ble_eq_true rfl⟩) rfl rfl (Nat.le_of_ble_eq_true rfl) dX12_more_58 ⟨(Nat.le_of_ble_eq_true rfl), (Nat.le_of_ble_eq_true rfl)⟩ (fun q_25 H locs hq26 hP hD hS => ?_)
            replace hq26 : (q_25.toInt ≤ (14 : Int32).toInt ∧ q_25.toInt ≤ q_23.toInt ∧ (q_25.toInt = (14 : Int32).toInt ∨ q_25.toInt = q_23.toInt)) := hq26
            have hP : va_P g.1 vwCl (List.flatten [bMo g o a 0 hi ac 0 ba en tA fl de iD iO tU fm fk fa fc ft ff fb fi]) H := hP
            have hD : va_D A (List.flatten [bMo g o a 0 hi ac 0 ba en tA fl de iD iO tU fm fk fa fc ft ff fb fi]) := hD
            refine W.widen (k := 0) (n := 0) (Nat.le_of_ble_eq_true rfl) (Nat.le_of_ble_eq_true rfl) ?_
            refine W.eq (g2 := F0 m 61 ls [.int q_25, .long y21]) rfl ?_
            refine mcallS' (g := g) (As := [.int q_25]) (rest := [.long y21]) St hK hT hA hP hD hS hl.1 [] [0] rfl rfl rfl (m_nines l g q_25 q_25.toInt.toNat (by omega) (znat (by omega))) (va_cwS 1 hts (zgL (zl3 k1095 k1096 k839) k1088) rfl rfl rfl (by decide +kernel) ⟨Nat.le_of_ble_eq_true rfl, Nat.le_of_ble_eq_true rfl⟩) rfl rfl (Nat.le_of_ble_eq_true rfl) dX12_more_61 ⟨(Nat.le_of_ble_eq_true rfl), (Nat.le_of_ble_eq_true rfl)⟩ (fun _u H locs hq27 hP hD hS => ?_)
            have hP : va_P g.1 vwCl (List.flatten [bMo g o a 0 hi ac 0 ba en tA fl de iD iO tU fm fk fa fc ft ff fb fi]) H := hP
            have hD : va_D A (List.flatten [bMo g o a 0 hi ac 0 ba en tA fl de iD iO tU fm fk fa fc ft ff fb fi]) := hD
            refine W.widen (k := 0) (n := 0) (Nat.le_of_ble_eq_true rfl) (Nat.le_of_ble_eq_true rfl) ?_
            refine W.eq (g2 := F0 m 64 ls [.long (lN (9 ^ q_25.toInt.toNat)), .long y21]) rfl ?_
            refine lv_lmul hx hb dX12_more_64 (zgl (fun y28 => ?_))
            refine lv_lstore (lv' := [(4, .long y28), (0, .ref o), (1, .int n), (2, .int q_1), (3, .int x_13)]) hx hb dX12_more_65 hl (by decide) rfl (fun ls hl => ?_)
            refine lv_bipush (v := 100) hx hb dX12_more_67 (by decide) ?_
            refine lv_iload_n hx hb dX12_more_69 rfl (lv_at hl 2 rfl) ?_
            refine lv_isub hx hb dX12_more_70 ?_
            refine zg3 (zsubK (i := 100) (j := n.toInt) (a' := 0) (b' := 100) (by decide) rfl (Int.le_refl _) (Int.le_refl _) w12.1 w12.2 (by decide)) (fun x_29 hx_29 => ?_)
            refine lv_i2l hx hb dX12_more_71 rfl (zgl (fun y30 => ?_))
            refine lv_iconst (v := 0) hx hb dX12_more_72 (by decide) ?_
            refine lv_iload_n hx hb dX12_more_73 rfl (lv_at hl 3 rfl) ?_
            refine lv_ineg hx hb dX12_more_74 ?_
            refine zgv (zneg (i := q_1.toInt) rfl (by omega)) (fun x_31 hx_31 => ?_)
            refine lv_iload_n hx hb dX12_more_75 rfl (lv_at hl 4 rfl) ?_
            refine lv_isub hx hb dX12_more_76 ?_
            refine zgv (zsub (i := x_31.toInt) (j := x_13.toInt) rfl rfl (by omega)) (fun x_32 hx_32 => ?_)
            refine mcallS' (g := g) (As := [.int 0, .int x_32]) (rest := [.long y30]) St hK hT hA hP hD hS hl.1 [] [0] rfl rfl rfl (m_greater l g 0 x_32 ) (va_cwS 2 hts (zgL (zl3 k1003 k1004 k839) k828) rfl rfl rfl (by decide +kernel) ⟨Nat.le_of_ble_eq_true rfl, Nat.le_of_ble_eq_true rfl⟩) rfl rfl (Nat.le_of_ble_eq_true rfl) dX12_more_77 ⟨(Nat.le_of_ble_eq_true rfl), (Nat.le_of_ble_eq_true rfl)⟩ (fun q_33 H locs hq34 hP hD hS => ?_)
            replace hq34 : ((0 : Int32).toInt ≤ q_33.toInt ∧ x_32.toInt ≤ q_33.toInt ∧ (q_33.toInt = (0 : Int32).toInt ∨ q_33.toInt = x_32.toInt)) := hq34
            have hP : va_P g.1 vwCl (List.flatten [bMo g o a 0 hi ac 0 ba en tA fl de iD iO tU fm fk fa fc ft ff fb fi]) H := hP
            have hD : va_D A (List.flatten [bMo g o a 0 hi ac 0 ba en tA fl de iD iO tU fm fk fa fc ft ff fb fi]) := hD
            refine W.widen (k := 0) (n := 0) (Nat.le_of_ble_eq_true rfl) (Nat.le_of_ble_eq_true rfl) ?_
            refine W.eq (g2 := F0 m 80 ls [.int q_33, .long y30]) rfl ?_
            refine mcallS' (g := g) (As := [.int q_33]) (rest := [.long y30]) St hK hT hA hP hD hS hl.1 [] [0] rfl rfl rfl (m_nines l g q_33 q_33.toInt.toNat (by omega) (znat (by omega))) (va_cwS 1 hts (zgL (zl3 k1095 k1096 k839) k1088) rfl rfl rfl (by decide +kernel) ⟨Nat.le_of_ble_eq_true rfl, Nat.le_of_ble_eq_true rfl⟩) rfl rfl (Nat.le_of_ble_eq_true rfl) dX12_more_80 ⟨(Nat.le_of_ble_eq_true rfl), (Nat.le_of_ble_eq_true rfl)⟩ (fun _u H locs hq35 hP hD hS => ?_)
            have hP : va_P g.1 vwCl (List.flatten [bMo g o a 0 hi ac 0 ba en tA fl de iD iO tU fm fk fa fc ft ff fb fi]) H := hP
            have hD : va_D A (List.flatten [bMo g o a 0 hi ac 0 ba en tA fl de iD iO tU fm fk fa fc ft ff fb fi]) := hD
            refine W.widen (k := 0) (n := 0) (Nat.le_of_ble_eq_true rfl) (Nat.le_of_ble_eq_true rfl) ?_
            refine W.eq (g2 := F0 m 83 ls [.long (lN (9 ^ q_33.toInt.toNat)), .long y30]) rfl ?_
            refine lv_lmul hx hb dX12_more_83 (zgl (fun y36 => ?_))
            refine lv_lstore (lv' := [(6, .long y36), (4, .long y28), (0, .ref o), (1, .int n), (2, .int q_1), (3, .int x_13)]) hx hb dX12_more_84 hl (by decide) rfl (fun ls hl => ?_)
            refine lv_lload hx hb dX12_more_86 (lv_at hl 1 rfl) ?_
            refine lv_ldc2 (v := 99) hx hb hown (hts _ k1098) dX12_more_88 ?_
            refine lv_lload hx hb dX12_more_91 (lv_at hl 0 rfl) ?_
            refine lv_lmul hx hb dX12_more_93 (zgl (fun y37 => ?_))
            refine W.lcmp hx hb dX12_more_94 ?_
            refine zg (fun x_38 => ?_)
            refine lv_if_lt (tgt := 100) hx hb dX12_more_95 (by decide) (fun cb9 => ?_) (fun cb9 => ?_)
            · skip
              have c39 : x_38.toInt < 0 := zlti cb9 rfl (by decide)
              have n40 : x_38.toInt ≤ (-1) := zL1 (b := 0) c39 (Int.le_refl _) (by decide)
              refine ziinc3 (n' := 1) (a' := 1) (b' := 21) (lv' := fun v9 => [(3, .int v9), (6, .long y36), (4, .long y28), (0, .ref o), (1, .int n), (2, .int q_1)]) hx hb dX12_more_100 hl (k := 5) rfl (by decide) (fun _ => rfl) (zaddK (i := x_13.toInt) (j := 1) rfl (by decide) i14.1 n20 (Int.le_refl _) (Int.le_refl _) (by decide)) (fun x_41 ls hx_41 hl => ?_)
              refine lv_goto (tgt := 41) hx hb dX12_more_103 (by decide) ?_
              have hl := lv_sub (l' := [(0, .ref o), (1, .int n), (2, .int q_1), (3, .int x_41), (4, .long y28), (6, .long y36)]) hl [3, 4, 5, 0, 2, 1] rfl
              have hP : va_P g.1 vwCl (List.flatten [bMo g o a 0 hi ac 0 ba en tA fl de iD iO tU fm fk fa fc ft ff fb fi]) H := hP
              have hD : va_D A (List.flatten [bMo g o a 0 hi ac 0 ba en tA fl de iD iO tU fm fk fa fc ft ff fb fi]) := hD
              exact ih41_16 x_41 ⟨(Int.le_trans (by decide) hx_41.2.1), hx_41.2.2⟩ H _ ls (zmK hx_41.1 (by decide) n20 (by decide) hk41_16)  hP hD hS (lv_sub hl [0, 1, 2, 3] rfl)
            · skip
              have c42 : 0 ≤ x_38.toInt := zle (Int32.not_lt.mp cb9) (by decide) rfl
              have n43 : 0 ≤ x_38.toInt := Int.le_trans (Int.le_refl _) c42
              refine lv_iload_n hx hb dX12_more_98 rfl (lv_at hl 5 rfl) ?_
              have hP : va_P g.1 vwCl (List.flatten [bMo g o a 0 hi ac 0 ba en tA fl de iD iO tU fm fk fa fc ft ff fb fi]) H := hP
              have hD : va_D A (List.flatten [bMo g o a 0 hi ac 0 ba en tA fl de iD iO tU fm fk fa fc ft ff fb fi]) := hD
              exact mret_i hx hb hr hlocks hS (Nat.le_of_ble_eq_true rfl) (Nat.le_of_ble_eq_true rfl) dX12_more_99 ((0 : Int32), x_13) rfl trivial hP hD
      have hP : va_P g.1 vwCl (List.flatten [bMo g o a 0 hi ac 0 ba en tA fl de iD iO tU fm fk fa fc ft ff fb fi]) H := hP
      have hD : va_D A (List.flatten [bMo g o a 0 hi ac 0 ba en tA fl de iD iO tU fm fk fa fc ft ff fb fi]) := hD
      exact LP41_15 _ 0 (by decide) H _ ls (Nat.lt_succ_self _)  hP hD hS (lv_sub hl [0, 1, 2, 3] rfl)
    · skip
      refine lv_if_ne (tgt := 26) hx hb dX12_more_19 (by decide) (fun c44 => absurd (by decide) c44) (fun _ => ?_)
      refine lv_iconst (v := 1) hx hb dX12_more_22 (by decide) ?_
      refine lv_goto (tgt := 27) hx hb dX12_more_23 (by decide) ?_
      refine va_put (D := g.1) (ci := 10) (v := .int 1) (ty := .int) (C := RX12) (T := TX12) (N := 20) hx hb hts izRX12 tyX12 tyX12_ok nmX12 hown hK hP hD hS 0 rfl rfl 0 (by decide) (hts _ k825) (fun _ h9 => h9) rfl (by decide +kernel) rfl rfl (Nat.le_of_ble_eq_true rfl) dX12_more_27 (fun H locs hP hD hS => ?_)
      have hP : va_P g.1 vwCl (List.flatten [bMo g o a 1 hi ac 0 ba en tA fl de iD iO tU fm fk fa fc ft ff fb fi]) H := hP
      have hD : va_D A (List.flatten [bMo g o a 1 hi ac 0 ba en tA fl de iD iO tU fm fk fa fc ft ff fb fi]) := hD
      refine lv_aload_n hx hb dX12_more_30 rfl (lv_at hl 1 rfl) ?_
      refine va_get (D := g.1) (ci := 10) (v := .int 1) (C := RX12) (T := TX12) (N := 20) hx hb hts izRX12 hown hK hP 0 rfl rfl 0 (by decide) (hts _ k825) (fun _ h9 => h9) rfl dX12_more_31 ?_
      refine lv_if_le (tgt := 39) hx hb dX12_more_34 (by decide) (fun c45 => absurd c45 (by decide)) (fun _ => ?_)
      refine lv_iconst (v := 0) hx hb dX12_more_37 (by decide) ?_
      have hP : va_P g.1 vwCl (List.flatten [bMo g o a 1 hi ac 0 ba en tA fl de iD iO tU fm fk fa fc ft ff fb fi]) H := hP
      have hD : va_D A (List.flatten [bMo g o a 1 hi ac 0 ba en tA fl de iD iO tU fm fk fa fc ft ff fb fi]) := hD
      exact mret_i hx hb hr hlocks hS (Nat.le_of_ble_eq_true rfl) (Nat.le_of_ble_eq_true rfl) dX12_more_38 ((1 : Int32), (0 : Int32)) rfl trivial hP hD
set_option maxRecDepth 100000 in
set_option maxHeartbeats 4000000 in
theorem m_ofB (l : Launch) (g : zG) (o : Nat) (a : Nat → Nat) (th : Int32) (hi : Int32) (ac : Int32) (tp : Int32) (ba : Int32) (en : Int32) (tA : Int32) (fl : Int32) (de : Int32) (iD : Int32) (iO : Int32) (tU : Int32) (fm : Nat → Int32) (fk : Nat → Int32) (fa : Nat → Int32) (fc : Nat → Int32) (ft : Nat → Int32) (ff : Nat → Int32) (fb : Nat → Int32) (fi : Nat → Int32) (x : Int32) (b_x : 0 ≤ x.toInt ∧ x.toInt ≤ 7) : zM' g l yX12_of (Cond.code yX12_of cX12_of 3 (some .int) :: zB) ({ frames := 0, cells := 0, slots := 0, locals := 0 } : Room) [.ref o, .int x, .int 0] [bMo g o a th hi ac tp ba en tA fl de iD iO tU fm fk fa fc ft ff fb fi] (fun (q : Int32) => some (.int q)) (fun (q : Int32) => (q = fm (11 + 5 * x.toInt.toNat))) (fun (q : Int32) => [bMo g o a th hi ac tp ba en tA fl de iD iO tU fm fk fa fc ft ff fb fi]) := by
  refine zM'.of (cc := cX12_of) (maxL := 3) (rt := (some .int)) (by decide) rfl (Nat.le_of_ble_eq_true rfl) ?_
  intro p e s m args below meth c A ls St hr hlocks hin hK hT hA hP hD hS hl
  obtain ⟨hx, hb, hml, hown, hts⟩ := id St
  have hl : lv_has ls 3 [(0, .ref o), (1, .int x), (2, .int 0)] := hl
  refine lv_aload_n hx hb dX12_of_0 rfl (lv_at hl 0 rfl) ?_
  refine va_get (D := g.1) (ci := 10) (v := .ref (a 0)) (C := RX12) (T := TX12) (N := 20) hx hb hts izRX12 hown hK hP 0 rfl rfl 1 (by decide) (hts _ k815) (fun _ h9 => h9) rfl dX12_of_1 ?_
  refine lv_bipush (v := 11) hx hb dX12_of_4 (by decide) ?_
  refine lv_iconst (v := 5) hx hb dX12_of_6 (by decide) ?_
  refine lv_iload_n hx hb dX12_of_7 rfl (lv_at hl 1 rfl) ?_
  refine lv_imul hx hb dX12_of_8 ?_
  refine zg3 (zmulKL (i := x.toInt) (n := 5) (a' := 0) (b' := 35) rfl (by decide) b_x.1 b_x.2 (by decide) (by decide)) (fun x_1 hx_1 => ?_)
  refine lv_iadd hx hb dX12_of_9 ?_
  refine zg3 (zaddK (i := 11) (j := x_1.toInt) (a' := 11) (b' := 46) (by decide) rfl (Int.le_refl _) (Int.le_refl _) hx_1.2.1 hx_1.2.2 (by decide)) (fun x_2 hx_2 => ?_)
  refine lv_iload_n hx hb dX12_of_10 rfl (lv_at hl 2 rfl) ?_
  refine lv_iadd hx hb dX12_of_11 ?_
  refine zg3 (zaddK (i := x_2.toInt) (j := 0) (a' := 11) (b' := 46) rfl (by decide) hx_2.2.1 hx_2.2.2 (Int.le_refl _) (Int.le_refl _) (by decide)) (fun x_3 hx_3 => ?_)
  refine va_iald hx hb hK hP 1 0 rfl rfl (zinK (a := 11) (b := 46) hx_3.2.1 hx_3.2.2 (by decide)) dX12_of_12 ?_
  have hP : va_P g.1 vwCl (List.flatten [bMo g o a th hi ac tp ba en tA fl de iD iO tU fm fk fa fc ft ff fb fi]) s.heap := hP
  have hD : va_D A (List.flatten [bMo g o a th hi ac tp ba en tA fl de iD iO tU fm fk fa fc ft ff fb fi]) := hD
  exact mret_i hx hb hr hlocks hS (Nat.le_of_ble_eq_true rfl) (Nat.le_of_ble_eq_true rfl) dX12_of_13 (fm x_3.toNatClampNeg) rfl (show ((fm x_3.toNatClampNeg) = fm (11 + 5 * x.toInt.toNat)) from (zixF (by omega))) hP hD
set_option maxRecDepth 100000 in
set_option maxHeartbeats 4000000 in
theorem m_ofT (l : Launch) (g : zG) (o : Nat) (a : Nat → Nat) (th : Int32) (hi : Int32) (ac : Int32) (tp : Int32) (ba : Int32) (en : Int32) (tA : Int32) (fl : Int32) (de : Int32) (iD : Int32) (iO : Int32) (tU : Int32) (fm : Nat → Int32) (fk : Nat → Int32) (fa : Nat → Int32) (fc : Nat → Int32) (ft : Nat → Int32) (ff : Nat → Int32) (fb : Nat → Int32) (fi : Nat → Int32) (x : Int32) (b_x : 0 ≤ x.toInt ∧ x.toInt ≤ 7) : zM' g l yX12_of (Cond.code yX12_of cX12_of 3 (some .int) :: zB) ({ frames := 0, cells := 0, slots := 0, locals := 0 } : Room) [.ref o, .int x, .int 4] [bMo g o a th hi ac tp ba en tA fl de iD iO tU fm fk fa fc ft ff fb fi] (fun (q : Int32) => some (.int q)) (fun (q : Int32) => (q = fm (15 + 5 * x.toInt.toNat))) (fun (q : Int32) => [bMo g o a th hi ac tp ba en tA fl de iD iO tU fm fk fa fc ft ff fb fi]) := by
  refine zM'.of (cc := cX12_of) (maxL := 3) (rt := (some .int)) (by decide) rfl (Nat.le_of_ble_eq_true rfl) ?_
  intro p e s m args below meth c A ls St hr hlocks hin hK hT hA hP hD hS hl
  obtain ⟨hx, hb, hml, hown, hts⟩ := id St
  have hl : lv_has ls 3 [(0, .ref o), (1, .int x), (2, .int 4)] := hl
  refine lv_aload_n hx hb dX12_of_0 rfl (lv_at hl 0 rfl) ?_
  refine va_get (D := g.1) (ci := 10) (v := .ref (a 0)) (C := RX12) (T := TX12) (N := 20) hx hb hts izRX12 hown hK hP 0 rfl rfl 1 (by decide) (hts _ k815) (fun _ h9 => h9) rfl dX12_of_1 ?_
  refine lv_bipush (v := 11) hx hb dX12_of_4 (by decide) ?_
  refine lv_iconst (v := 5) hx hb dX12_of_6 (by decide) ?_
  refine lv_iload_n hx hb dX12_of_7 rfl (lv_at hl 1 rfl) ?_
  refine lv_imul hx hb dX12_of_8 ?_
  refine zg3 (zmulKL (i := x.toInt) (n := 5) (a' := 0) (b' := 35) rfl (by decide) b_x.1 b_x.2 (by decide) (by decide)) (fun x_1 hx_1 => ?_)
  refine lv_iadd hx hb dX12_of_9 ?_
  refine zg3 (zaddK (i := 11) (j := x_1.toInt) (a' := 11) (b' := 46) (by decide) rfl (Int.le_refl _) (Int.le_refl _) hx_1.2.1 hx_1.2.2 (by decide)) (fun x_2 hx_2 => ?_)
  refine lv_iload_n hx hb dX12_of_10 rfl (lv_at hl 2 rfl) ?_
  refine lv_iadd hx hb dX12_of_11 ?_
  refine zg3 (zaddK (i := x_2.toInt) (j := 4) (a' := 15) (b' := 50) rfl (by decide) hx_2.2.1 hx_2.2.2 (Int.le_refl _) (Int.le_refl _) (by decide)) (fun x_3 hx_3 => ?_)
  refine va_iald hx hb hK hP 1 0 rfl rfl (zinK (a := 15) (b := 50) hx_3.2.1 hx_3.2.2 (by decide)) dX12_of_12 ?_
  have hP : va_P g.1 vwCl (List.flatten [bMo g o a th hi ac tp ba en tA fl de iD iO tU fm fk fa fc ft ff fb fi]) s.heap := hP
  have hD : va_D A (List.flatten [bMo g o a th hi ac tp ba en tA fl de iD iO tU fm fk fa fc ft ff fb fi]) := hD
  exact mret_i hx hb hr hlocks hS (Nat.le_of_ble_eq_true rfl) (Nat.le_of_ble_eq_true rfl) dX12_of_13 (fm x_3.toNatClampNeg) rfl (show ((fm x_3.toNatClampNeg) = fm (15 + 5 * x.toInt.toNat)) from (zixF (by omega))) hP hD
set_option maxRecDepth 100000 in
set_option maxHeartbeats 4000000 in
theorem m_isHereF (l : Launch) (g : zG) (o : Nat) (a : Nat → Nat) (th : Int32) (hi : Int32) (ac : Int32) (tp : Int32) (ba : Int32) (en : Int32) (tA : Int32) (fl : Int32) (de : Int32) (iD : Int32) (iO : Int32) (tU : Int32) (fm : Nat → Int32) (fk : Nat → Int32) (fa : Nat → Int32) (fc : Nat → Int32) (ft : Nat → Int32) (ff : Nat → Int32) (fb : Nat → Int32) (fi : Nat → Int32) (x : Int32) (b_x : 0 ≤ x.toInt ∧ x.toInt ≤ 7) : zM' g l yX12_isHere (Cond.code yX12_isHere cX12_isHere 2 (some .boolean) :: zB) ({ frames := 1, cells := 0, slots := 0, locals := 22 } : Room) [.ref o, .int x] [bMo g o a th hi ac tp ba en tA fl de iD iO tU fm fk fa fc ft ff fb fi] (fun (q : Int32) => some (.int q)) (fun (q : Int32) => (q = 1 ∧ fm (15 + 5 * x.toInt.toNat) = -1 ∨ q = 0 ∧ ¬ fm (15 + 5 * x.toInt.toNat) = -1)) (fun (q : Int32) => [bMo g o a th hi ac tp ba en tA fl de iD iO tU fm fk fa fc ft ff fb fi]) := by
  refine zM'.of (cc := cX12_isHere) (maxL := 2) (rt := (some .boolean)) (by decide) rfl (Nat.le_of_ble_eq_true rfl) ?_
  intro p e s m args below meth c A ls St hr hlocks hin hK hT hA hP hD hS hl
  obtain ⟨hx, hb, hml, hown, hts⟩ := id St
  have hl : lv_has ls 2 [(0, .ref o), (1, .int x)] := hl
  refine lv_aload_n hx hb dX12_isHere_0 rfl (lv_at hl 0 rfl) ?_
  refine lv_iload_n hx hb dX12_isHere_1 rfl (lv_at hl 1 rfl) ?_
  refine lv_iconst (v := 4) hx hb dX12_isHere_2 (by decide) ?_
  refine mcallV' (g := g) (q0 := 0) (ci := 10) (As := [.int x, .int 4]) (rest := []) St hK hT hA hP hD hS hl.1 [0] [] rfl rfl rfl (m_ofT l g o a th hi ac tp ba en tA fl de iD iO tU fm fk fa fc ft ff fb fi x b_x) (cwV 2 hts (zgL (zl4 k842 k843 k844 k839) k831) rfl rfl rfl (by decide +kernel) ⟨Nat.le_of_ble_eq_true rfl, Nat.le_of_ble_eq_true rfl⟩) rfl rfl rfl rfl (Nat.le_of_ble_eq_true rfl) dX12_isHere_3 ⟨(Nat.le_of_ble_eq_true rfl), (Nat.le_of_ble_eq_true rfl)⟩ (fun q_1 H locs hq2 hP hD hS => ?_)
  replace hq2 : (q_1 = fm (15 + 5 * x.toInt.toNat)) := hq2
  have hP : va_P g.1 vwCl (List.flatten [bMo g o a th hi ac tp ba en tA fl de iD iO tU fm fk fa fc ft ff fb fi]) H := hP
  have hD : va_D A (List.flatten [bMo g o a th hi ac tp ba en tA fl de iD iO tU fm fk fa fc ft ff fb fi]) := hD
  refine W.widen (k := 0) (n := 0) (Nat.le_of_ble_eq_true rfl) (Nat.le_of_ble_eq_true rfl) ?_
  refine W.eq (g2 := F0 m 6 ls [.int q_1]) rfl ?_
  refine lv_iconst (v := (-1)) hx hb dX12_isHere_6 (by decide) ?_
  refine lv_icmp_ne (tgt := 14) hx hb dX12_isHere_7 (by decide) (fun cb9 => ?_) (fun cb9 => ?_)
  · skip
    have c3 : ¬ q_1.toInt = (-1) := zne cb9 rfl (by decide)
    have cH := c3
    refine lv_iconst (v := 0) hx hb dX12_isHere_14 (by decide) ?_
    have hP : va_P g.1 vwCl (List.flatten [bMo g o a th hi ac tp ba en tA fl de iD iO tU fm fk fa fc ft ff fb fi]) H := hP
    have hD : va_D A (List.flatten [bMo g o a th hi ac tp ba en tA fl de iD iO tU fm fk fa fc ft ff fb fi]) := hD
    exact mret_z hx hb hr hlocks hS (Nat.le_of_ble_eq_true rfl) (Nat.le_of_ble_eq_true rfl) dX12_isHere_15 ((0 : Int32)) rfl (by decide) (show (0 = 1 ∧ fm (15 + 5 * x.toInt.toNat) = -1 ∨ 0 = 0 ∧ ¬ fm (15 + 5 * x.toInt.toNat) = -1) from Or.inr ⟨rfl, fun h9 => cH (congrArg Int32.toInt (hq2.trans h9))⟩) hP hD
  · skip
    have c4 : q_1.toInt = (-1) := zeq cb9 rfl (by decide)
    have n5 : (-1) ≤ q_1.toInt := Int.le_trans (Int.le_refl _) (Int.le_of_eq c4.symm)
    have n6 : q_1.toInt ≤ (-1) := Int.le_trans (Int.le_of_eq c4) (Int.le_refl _)
    have cH := c4
    refine lv_iconst (v := 1) hx hb dX12_isHere_10 (by decide) ?_
    refine lv_goto (tgt := 15) hx hb dX12_isHere_11 (by decide) ?_
    have hP : va_P g.1 vwCl (List.flatten [bMo g o a th hi ac tp ba en tA fl de iD iO tU fm fk fa fc ft ff fb fi]) H := hP
    have hD : va_D A (List.flatten [bMo g o a th hi ac tp ba en tA fl de iD iO tU fm fk fa fc ft ff fb fi]) := hD
    exact mret_z hx hb hr hlocks hS (Nat.le_of_ble_eq_true rfl) (Nat.le_of_ble_eq_true rfl) dX12_isHere_15 ((1 : Int32)) rfl (by decide) (show (1 = 1 ∧ fm (15 + 5 * x.toInt.toNat) = -1 ∨ 1 = 0 ∧ ¬ fm (15 + 5 * x.toInt.toNat) = -1) from Or.inl ⟨rfl, hq2 ▸ Int32.toInt_inj.mp cH⟩) hP hD
set_option maxRecDepth 100000 in
set_option maxHeartbeats 4000000 in
theorem m_believedF (l : Launch) (g : zG) (o : Nat) (a : Nat → Nat) (th : Int32) (hi : Int32) (ac : Int32) (tp : Int32) (ba : Int32) (en : Int32) (tA : Int32) (fl : Int32) (de : Int32) (iD : Int32) (iO : Int32) (tU : Int32) (fm : Nat → Int32) (fk : Nat → Int32) (fa : Nat → Int32) (fc : Nat → Int32) (ft : Nat → Int32) (ff : Nat → Int32) (fb : Nat → Int32) (fi : Nat → Int32) (rfm : rM fm) : zM' g l yX12_believed (Cond.code yX12_believed cX12_believed 3 (some .int) :: zB) ({ frames := 2, cells := 0, slots := 0, locals := 43 } : Room) [.ref o] [bMo g o a th hi ac tp ba en tA fl de iD iO tU fm fk fa fc ft ff fb fi] (fun _ : Unit => some (.int (zbel fm (fm 3).toInt.toNat))) (fun _ : Unit => True) (fun _ : Unit => [bMo g o a th hi ac tp ba en tA fl de iD iO tU fm fk fa fc ft ff fb fi]) := by
  refine zM'.of (cc := cX12_believed) (maxL := 3) (rt := (some .int)) (by decide) rfl (Nat.le_of_ble_eq_true rfl) ?_
  intro p e s m args below meth c A ls St hr hlocks hin hK hT hA hP hD hS hl
  obtain ⟨hx, hb, hml, hown, hts⟩ := id St
  have hl : lv_has ls 3 [(0, .ref o)] := hl
  refine lv_iconst (v := 0) hx hb dX12_believed_0 (by decide) ?_
  refine lv_istore_n (lv' := [(1, .int 0), (0, .ref o)]) hx hb dX12_believed_1 rfl hl (by decide) rfl (fun ls hl => ?_)
  refine lv_iconst (v := 0) hx hb dX12_believed_2 (by decide) ?_
  refine lv_istore_n (lv' := [(2, .int 0), (1, .int 0), (0, .ref o)]) hx hb dX12_believed_3 rfl hl (by decide) rfl (fun ls hl => ?_)
  have hl := lv_sub (l' := [(0, .ref o), (1, .int 0), (2, .int 0)]) hl [2, 1, 0] rfl
  have LP4_6 : ∀ (kf : Nat) (x_1 : Int32) (x_2 : Int32), (0 ≤ x_2.toInt ∧ x_2.toInt ≤ 8) → (x_1.toInt = (zbel fm (x_2.toInt).toNat).toInt) → (x_2.toInt ≤ (fm 3).toInt) → ∀ (H : Heap) (locs : List Loc) (ls : Array Slot), ((9 - x_2.toInt).toNat) < kf → va_P g.1 vwCl (List.flatten [bMo g o a th hi ac tp ba en tA fl de iD iO tU fm fk fa fc ft ff fb fi]) H → va_D A (List.flatten [bMo g o a th hi ac tp ba en tA fl de iD iO tU fm fk fa fc ft ff fb fi]) → va_S A s.heap H locs → lv_has ls 3 [(0, .ref o), (1, .int x_1), (2, .int x_2)] → W p l e ({ frames := 2, cells := 0, slots := 0, locals := 43 } : Room) s m args below meth c H locs (0) (0) (zF g (fun _ : Unit => some (.int (zbel fm (fm 3).toInt.toNat))) (fun _ : Unit => True) (fun _ : Unit => [bMo g o a th hi ac tp ba en tA fl de iD iO tU fm fk fa fc ft ff fb fi]) ({ frames := 2, cells := 0, slots := 0, locals := 43 } : Room) below args s A) (F0 m 4 ls []) := by
    intro kf
    induction kf with
    | zero => intro x_1 x_2 i3 i4 i5 H locs ls hk; exact absurd hk (Nat.not_lt_zero _)
    | succ kf ih4_7 =>
      intro x_1 x_2 i3 i4 i5 H locs ls hk4_7 hP hD hS hl
      refine lv_iload_n hx hb dX12_believed_4 rfl (lv_at hl 2 rfl) ?_
      refine lv_aload_n hx hb dX12_believed_5 rfl (lv_at hl 0 rfl) ?_
      refine va_get (D := g.1) (ci := 10) (v := .ref (a 0)) (C := RX12) (T := TX12) (N := 20) hx hb hts izRX12 hown hK hP 0 rfl rfl 1 (by decide) (hts _ k815) (fun _ h9 => h9) rfl dX12_believed_6 ?_
      refine lv_iconst (v := 3) hx hb dX12_believed_9 (by decide) ?_
      refine va_iald hx hb hK hP 1 0 rfl rfl (zin rfl) dX12_believed_10 ?_
      refine zgq (r := fm 3) rfl (rM3 rfm) (fun x_8 hx_8 => ?_)
      refine lv_icmp_ge (tgt := 41) hx hb dX12_believed_11 (by decide) (fun cb9 => ?_) (fun cb9 => ?_)
      · skip
        have c9 : x_8.toInt ≤ x_2.toInt := zle cb9 rfl rfl
        refine lv_iload_n hx hb dX12_believed_41 rfl (lv_at hl 1 rfl) ?_
        refine ztop (r := (zbel fm (fm 3).toInt.toNat)) (Int32.toInt_inj.mp (by have h9 := i4; rw [show x_2.toInt = (fm 3).toInt by omega] at h9; exact h9)) ?_
        have hP : va_P g.1 vwCl (List.flatten [bMo g o a th hi ac tp ba en tA fl de iD iO tU fm fk fa fc ft ff fb fi]) H := hP
        have hD : va_D A (List.flatten [bMo g o a th hi ac tp ba en tA fl de iD iO tU fm fk fa fc ft ff fb fi]) := hD
        exact mret_i hx hb hr hlocks hS (Nat.le_of_ble_eq_true rfl) (Nat.le_of_ble_eq_true rfl) dX12_believed_42 () rfl trivial hP hD
      · skip
        have c10 : x_2.toInt < x_8.toInt := zlti (Int32.not_le.mp cb9) rfl rfl
        have n11 : x_2.toInt ≤ 7 := zL1 (b := 8) c10 hx_8.2.1 (by decide)
        have n12 : 1 ≤ x_8.toInt := zL2 (a := 0) c10 i3.1 (by decide)
        refine lv_iload_n hx hb dX12_believed_14 rfl (lv_at hl 1 rfl) ?_
        refine lv_aload_n hx hb dX12_believed_15 rfl (lv_at hl 0 rfl) ?_
        refine lv_iload_n hx hb dX12_believed_16 rfl (lv_at hl 2 rfl) ?_
        refine mcallV' (g := g) (q0 := 0) (ci := 10) (As := [.int x_2]) (rest := [.int x_1]) St hK hT hA hP hD hS hl.1 [0] [] rfl rfl rfl (m_isHereF l g o a th hi ac tp ba en tA fl de iD iO tU fm fk fa fc ft ff fb fi x_2 (⟨i3.1, n11⟩)) (cwV 1 hts (zgL (zl4 k846 k847 k848 k839) k841) rfl rfl rfl (by decide +kernel) ⟨Nat.le_of_ble_eq_true rfl, Nat.le_of_ble_eq_true rfl⟩) rfl rfl rfl rfl (Nat.le_of_ble_eq_true rfl) dX12_believed_17 ⟨(Nat.le_of_ble_eq_true rfl), (Nat.le_of_ble_eq_true rfl)⟩ (fun q_13 H locs hq14 hP hD hS => ?_)
        replace hq14 : (q_13 = 1 ∧ fm (15 + 5 * x_2.toInt.toNat) = -1 ∨ q_13 = 0 ∧ ¬ fm (15 + 5 * x_2.toInt.toNat) = -1) := hq14
        have hP : va_P g.1 vwCl (List.flatten [bMo g o a th hi ac tp ba en tA fl de iD iO tU fm fk fa fc ft ff fb fi]) H := hP
        have hD : va_D A (List.flatten [bMo g o a th hi ac tp ba en tA fl de iD iO tU fm fk fa fc ft ff fb fi]) := hD
        refine W.widen (k := 0) (n := 0) (Nat.le_of_ble_eq_true rfl) (Nat.le_of_ble_eq_true rfl) ?_
        refine W.eq (g2 := F0 m 20 ls [.int q_13, .int x_1]) rfl ?_
        rcases hq14 with ⟨rfl, hq14_k⟩ | ⟨rfl, hq14_k⟩
        · skip
          refine lv_if_eq (tgt := 32) hx hb dX12_believed_20 (by decide) (fun c15 => absurd c15 (by decide)) (fun _ => ?_)
          refine lv_aload_n hx hb dX12_believed_23 rfl (lv_at hl 0 rfl) ?_
          refine lv_iload_n hx hb dX12_believed_24 rfl (lv_at hl 2 rfl) ?_
          refine lv_iconst (v := 0) hx hb dX12_believed_25 (by decide) ?_
          refine mcallV' (g := g) (q0 := 0) (ci := 10) (As := [.int x_2, .int 0]) (rest := [.int x_1]) St hK hT hA hP hD hS hl.1 [0] [] rfl rfl rfl (m_ofB l g o a th hi ac tp ba en tA fl de iD iO tU fm fk fa fc ft ff fb fi x_2 (⟨i3.1, n11⟩)) (cwV 2 hts (zgL (zl4 k842 k843 k844 k839) k831) rfl rfl rfl (by decide +kernel) ⟨Nat.le_of_ble_eq_true rfl, Nat.le_of_ble_eq_true rfl⟩) rfl rfl rfl rfl (Nat.le_of_ble_eq_true rfl) dX12_believed_26 ⟨(Nat.le_of_ble_eq_true rfl), (Nat.le_of_ble_eq_true rfl)⟩ (fun q_16 H locs hq17 hP hD hS => ?_)
          replace hq17 : (q_16 = fm (11 + 5 * x_2.toInt.toNat)) := hq17
          have hP : va_P g.1 vwCl (List.flatten [bMo g o a th hi ac tp ba en tA fl de iD iO tU fm fk fa fc ft ff fb fi]) H := hP
          have hD : va_D A (List.flatten [bMo g o a th hi ac tp ba en tA fl de iD iO tU fm fk fa fc ft ff fb fi]) := hD
          refine W.widen (k := 0) (n := 0) (Nat.le_of_ble_eq_true rfl) (Nat.le_of_ble_eq_true rfl) ?_
          refine W.eq (g2 := F0 m 29 ls [.int q_16, .int x_1]) rfl ?_
          refine lv_goto (tgt := 33) hx hb dX12_believed_29 (by decide) ?_
          refine lv_iadd hx hb dX12_believed_33 ?_
          refine lv_istore_n (lv' := [(1, .int (x_1 + q_16)), (0, .ref o), (2, .int x_2)]) hx hb dX12_believed_34 rfl hl (by decide) rfl (fun ls hl => ?_)
          refine ziinc3 (n' := 1) (a' := 1) (b' := 8) (lv' := fun v9 => [(2, .int v9), (1, .int (x_1 + q_16)), (0, .ref o)]) hx hb dX12_believed_35 hl (k := 2) rfl (by decide) (fun _ => rfl) (zaddK (i := x_2.toInt) (j := 1) rfl (by decide) i3.1 n11 (Int.le_refl _) (Int.le_refl _) (by decide)) (fun x_18 ls hx_18 hl => ?_)
          refine lv_goto (tgt := 4) hx hb dX12_believed_38 (by decide) ?_
          have hl := lv_sub (l' := [(0, .ref o), (1, .int (x_1 + q_16)), (2, .int x_18)]) hl [2, 1, 0] rfl
          have hP : va_P g.1 vwCl (List.flatten [bMo g o a th hi ac tp ba en tA fl de iD iO tU fm fk fa fc ft ff fb fi]) H := hP
          have hD : va_D A (List.flatten [bMo g o a th hi ac tp ba en tA fl de iD iO tU fm fk fa fc ft ff fb fi]) := hD
          exact ih4_7 (x_1 + q_16) x_18 ⟨(Int.le_trans (by decide) hx_18.2.1), hx_18.2.2⟩ (zbelS i4 hx_18.1 (by omega) (by rw [if_pos hq14_k]; exact hq17)) (by first | omega | assumption | decide) H _ ls (zmK hx_18.1 (by decide) n11 (by decide) hk4_7)  hP hD hS (lv_sub hl [0, 1, 2] rfl)
        · skip
          refine lv_if_eq (tgt := 32) hx hb dX12_believed_20 (by decide) (fun _ => ?_) (fun c19 => absurd (by decide) c19)
          refine lv_iconst (v := 0) hx hb dX12_believed_32 (by decide) ?_
          refine lv_iadd hx hb dX12_believed_33 ?_
          refine lv_istore_n (lv' := [(1, .int (x_1 + 0)), (0, .ref o), (2, .int x_2)]) hx hb dX12_believed_34 rfl hl (by decide) rfl (fun ls hl => ?_)
          refine ziinc3 (n' := 1) (a' := 1) (b' := 8) (lv' := fun v9 => [(2, .int v9), (1, .int (x_1 + 0)), (0, .ref o)]) hx hb dX12_believed_35 hl (k := 2) rfl (by decide) (fun _ => rfl) (zaddK (i := x_2.toInt) (j := 1) rfl (by decide) i3.1 n11 (Int.le_refl _) (Int.le_refl _) (by decide)) (fun x_20 ls hx_20 hl => ?_)
          refine lv_goto (tgt := 4) hx hb dX12_believed_38 (by decide) ?_
          have hl := lv_sub (l' := [(0, .ref o), (1, .int (x_1 + 0)), (2, .int x_20)]) hl [2, 1, 0] rfl
          have hP : va_P g.1 vwCl (List.flatten [bMo g o a th hi ac tp ba en tA fl de iD iO tU fm fk fa fc ft ff fb fi]) H := hP
          have hD : va_D A (List.flatten [bMo g o a th hi ac tp ba en tA fl de iD iO tU fm fk fa fc ft ff fb fi]) := hD
          exact ih4_7 (x_1 + 0) x_20 ⟨(Int.le_trans (by decide) hx_20.2.1), hx_20.2.2⟩ (zbelS i4 hx_20.1 (by omega) (by rw [if_neg hq14_k])) (by first | omega | assumption | decide) H _ ls (zmK hx_20.1 (by decide) n11 (by decide) hk4_7)  hP hD hS (lv_sub hl [0, 1, 2] rfl)
  have hL0 : (0 : Int32).toInt = 0 := by decide
  have hP : va_P g.1 vwCl (List.flatten [bMo g o a th hi ac tp ba en tA fl de iD iO tU fm fk fa fc ft ff fb fi]) s.heap := hP
  have hD : va_D A (List.flatten [bMo g o a th hi ac tp ba en tA fl de iD iO tU fm fk fa fc ft ff fb fi]) := hD
  exact LP4_6 _ 0 0 (by decide) rfl (show (0 : Int32).toInt ≤ (fm 3).toInt from by rw [show (0 : Int32).toInt = 0 by decide]; exact (rM3 rfm).1) s.heap _ ls (Nat.lt_succ_self _)  hP hD hS (lv_sub hl [0, 1, 2] rfl)
set_option maxRecDepth 100000 in
set_option maxHeartbeats 4000000 in
theorem m_person (l : Launch) (g : zG) (o : Nat) (a : Nat → Nat) (th : Int32) (hi : Int32) (ac : Int32) (tp : Int32) (ba : Int32) (en : Int32) (tA : Int32) (fl : Int32) (de : Int32) (iD : Int32) (iO : Int32) (tU : Int32) (fm : Nat → Int32) (fk : Nat → Int32) (fa : Nat → Int32) (fc : Nat → Int32) (ft : Nat → Int32) (ff : Nat → Int32) (fb : Nat → Int32) (fi : Nat → Int32) (x : Int32) (what : Int32) (rfm : rM fm) (hiD : 0 ≤ iD.toInt ∧ iD.toInt ≤ 1) (hiO : 0 ≤ iO.toInt ∧ iO.toInt ≤ 1) : zM' g l yX12_person (Cond.code yX12_person cX12_person 3 (some .int) :: zB) ({ frames := 32, cells := 0, slots := 0, locals := 711 } : Room) [.ref o, .int x, .int what] [bMo g o a th hi ac tp ba en tA fl de iD iO tU fm fk fa fc ft ff fb fi] (fun u : Int32 × Int32 × Int32 × Int32 × Int32 × Int32 × Int32 × Int32 × (Nat → Int32) × Int32 => (fun (th2 : Int32) (ba2 : Int32) (en2 : Int32) (at2 : Int32) (de2 : Int32) (iD2 : Int32) (iO2 : Int32) (tU2 : Int32) (ff2 : Nat → Int32) (q : Int32) => some (.int q)) (u.1) (u.2.1) (u.2.2.1) (u.2.2.2.1) (u.2.2.2.2.1) (u.2.2.2.2.2.1) (u.2.2.2.2.2.2.1) (u.2.2.2.2.2.2.2.1) (u.2.2.2.2.2.2.2.2.1) (u.2.2.2.2.2.2.2.2.2)) (fun u : Int32 × Int32 × Int32 × Int32 × Int32 × Int32 × Int32 × Int32 × (Nat → Int32) × Int32 => (fun (th2 : Int32) (ba2 : Int32) (en2 : Int32) (at2 : Int32) (de2 : Int32) (iD2 : Int32) (iO2 : Int32) (tU2 : Int32) (ff2 : Nat → Int32) (q : Int32) => (0 ≤ iO2.toInt ∧ iO2.toInt ≤ 1) ∧ (0 ≤ iD2.toInt ∧ iD2.toInt ≤ 1)) (u.1) (u.2.1) (u.2.2.1) (u.2.2.2.1) (u.2.2.2.2.1) (u.2.2.2.2.2.1) (u.2.2.2.2.2.2.1) (u.2.2.2.2.2.2.2.1) (u.2.2.2.2.2.2.2.2.1) (u.2.2.2.2.2.2.2.2.2)) (fun u : Int32 × Int32 × Int32 × Int32 × Int32 × Int32 × Int32 × Int32 × (Nat → Int32) × Int32 => (fun (th2 : Int32) (ba2 : Int32) (en2 : Int32) (at2 : Int32) (de2 : Int32) (iD2 : Int32) (iO2 : Int32) (tU2 : Int32) (ff2 : Nat → Int32) (q : Int32) => [bMo g o a th2 hi ac tp ba2 en2 at2 fl de2 iD2 iO2 tU2 fm fk fa fc ft ff2 fb fi]) (u.1) (u.2.1) (u.2.2.1) (u.2.2.2.1) (u.2.2.2.2.1) (u.2.2.2.2.2.1) (u.2.2.2.2.2.2.1) (u.2.2.2.2.2.2.2.1) (u.2.2.2.2.2.2.2.2.1) (u.2.2.2.2.2.2.2.2.2)) := by
  refine zM'.of (cc := cX12_person) (maxL := 3) (rt := (some .int)) (by decide) rfl (Nat.le_of_ble_eq_true rfl) ?_
  intro p e s m args below meth c A ls St hr hlocks hin hK hT hA hP hD hS hl
  obtain ⟨hx, hb, hml, hown, hts⟩ := id St
  have hl : lv_has ls 3 [(0, .ref o), (1, .int x), (2, .int what)] := hl
  refine lv_aload_n hx hb dX12_person_0 rfl (lv_at hl 0 rfl) ?_
  refine lv_aload_n hx hb dX12_person_1 rfl (lv_at hl 0 rfl) ?_
  refine lv_iload_n hx hb dX12_person_2 rfl (lv_at hl 1 rfl) ?_
  refine mcallV' (g := g) (q0 := 0) (ci := 10) (As := [.int x]) (rest := [.ref o]) St hK hT hA hP hD hS hl.1 [0] [] rfl rfl rfl (m_isPerson l g o a th hi ac tp ba en tA fl de iD iO tU fm fk fa fc ft ff fb fi x rfm) (cwV 1 hts (zgL (zl4 k1033 k1034 k1035 k839) k836) rfl rfl rfl (by decide +kernel) ⟨Nat.le_of_ble_eq_true rfl, Nat.le_of_ble_eq_true rfl⟩) rfl rfl rfl rfl (Nat.le_of_ble_eq_true rfl) dX12_person_3 ⟨(Nat.le_of_ble_eq_true rfl), (Nat.le_of_ble_eq_true rfl)⟩ (fun q_1 H locs hq2 hP hD hS => ?_)
  replace hq2 : (q_1 = 1 ∧ 0 ≤ x.toInt ∧ x.toInt ≤ 7 ∧ x.toInt < (fm 3).toInt ∨ q_1 = 0) := hq2
  have hP : va_P g.1 vwCl (List.flatten [bMo g o a th hi ac tp ba en tA fl de iD iO tU fm fk fa fc ft ff fb fi]) H := hP
  have hD : va_D A (List.flatten [bMo g o a th hi ac tp ba en tA fl de iD iO tU fm fk fa fc ft ff fb fi]) := hD
  refine W.widen (k := 0) (n := 0) (Nat.le_of_ble_eq_true rfl) (Nat.le_of_ble_eq_true rfl) ?_
  refine W.eq (g2 := F0 m 6 ls [.int q_1, .ref o]) rfl ?_
  rcases hq2 with ⟨rfl, hq2_k⟩ | rfl
  · skip
    refine lv_if_ne (tgt := 13) hx hb dX12_person_6 (by decide) (fun _ => ?_) (fun c3 => absurd c3 (by decide))
    refine lv_iload_n hx hb dX12_person_13 rfl (lv_at hl 2 rfl) ?_
    refine lv_iconst (v := 0) hx hb dX12_person_14 (by decide) ?_
    refine lv_bipush (v := 8) hx hb dX12_person_15 (by decide) ?_
    have hL0 : (0 : Int32).toInt = 0 := by decide
    have hL8 : (8 : Int32).toInt = 8 := by decide
    refine mcallS' (g := g) (As := [.int what, .int 0, .int 8]) (rest := [.ref o]) St hK hT hA hP hD hS hl.1 [] [0] rfl rfl rfl (m_isIn l g what 0 8 ) (va_cwS 3 hts (zgL (zl3 k837 k838 k839) k826) rfl rfl rfl (by decide +kernel) ⟨Nat.le_of_ble_eq_true rfl, Nat.le_of_ble_eq_true rfl⟩) rfl rfl (Nat.le_of_ble_eq_true rfl) dX12_person_17 ⟨(Nat.le_of_ble_eq_true rfl), (Nat.le_of_ble_eq_true rfl)⟩ (fun q_4 H locs hq5 hP hD hS => ?_)
    replace hq5 : (q_4 = 1 ∧ (0 : Int32).toInt ≤ what.toInt ∧ what.toInt ≤ (8 : Int32).toInt ∨ q_4 = 0 ∧ (what.toInt < (0 : Int32).toInt ∨ (8 : Int32).toInt < what.toInt)) := hq5
    have hP : va_P g.1 vwCl (List.flatten [bMo g o a th hi ac tp ba en tA fl de iD iO tU fm fk fa fc ft ff fb fi]) H := hP
    have hD : va_D A (List.flatten [bMo g o a th hi ac tp ba en tA fl de iD iO tU fm fk fa fc ft ff fb fi]) := hD
    refine W.widen (k := 0) (n := 0) (Nat.le_of_ble_eq_true rfl) (Nat.le_of_ble_eq_true rfl) ?_
    refine W.eq (g2 := F0 m 20 ls [.int q_4, .ref o]) rfl ?_
    rcases hq5 with ⟨rfl, hq5_k⟩ | ⟨rfl, hq5_k⟩
    · skip
      refine lv_if_ne (tgt := 27) hx hb dX12_person_20 (by decide) (fun _ => ?_) (fun c6 => absurd c6 (by decide))
      refine lv_iconst (v := 0) hx hb dX12_person_27 (by decide) ?_
      refine va_put (D := g.1) (ci := 10) (v := .int 0) (ty := .int) (C := RX12) (T := TX12) (N := 20) hx hb hts izRX12 tyX12 tyX12_ok nmX12 hown hK hP hD hS 0 rfl rfl 0 (by decide) (hts _ k825) (fun _ h9 => h9) rfl (by decide +kernel) rfl rfl (Nat.le_of_ble_eq_true rfl) dX12_person_28 (fun H locs hP hD hS => ?_)
      have hP : va_P g.1 vwCl (List.flatten [bMo g o a 0 hi ac tp ba en tA fl de iD iO tU fm fk fa fc ft ff fb fi]) H := hP
      have hD : va_D A (List.flatten [bMo g o a 0 hi ac tp ba en tA fl de iD iO tU fm fk fa fc ft ff fb fi]) := hD
      refine lv_aload_n hx hb dX12_person_31 rfl (lv_at hl 0 rfl) ?_
      refine va_get (D := g.1) (ci := 10) (v := .int 0) (C := RX12) (T := TX12) (N := 20) hx hb hts izRX12 hown hK hP 0 rfl rfl 0 (by decide) (hts _ k825) (fun _ h9 => h9) rfl dX12_person_32 ?_
      refine lv_if_le (tgt := 40) hx hb dX12_person_35 (by decide) (fun _ => ?_) (fun c7 => absurd (by decide) c7)
      refine lv_iload_n hx hb dX12_person_40 rfl (lv_at hl 2 rfl) ?_
      refine lv_iconst (v := 5) hx hb dX12_person_41 (by decide) ?_
      refine lv_icmp_ge (tgt := 52) hx hb dX12_person_42 (by decide) (fun cb9 => ?_) (fun cb9 => ?_)
      · skip
        have c8 : 5 ≤ what.toInt := zle cb9 (by decide) rfl
        have n9 : 5 ≤ what.toInt := Int.le_trans (Int.le_refl _) c8
        refine lv_iload_n hx hb dX12_person_52 rfl (lv_at hl 2 rfl) ?_
        refine lv_iconst (v := 5) hx hb dX12_person_53 (by decide) ?_
        refine lv_icmp_ne (tgt := 63) hx hb dX12_person_54 (by decide) (fun cb9 => ?_) (fun cb9 => ?_)
        · skip
          have c10 : ¬ what.toInt = 5 := zne cb9 rfl (by decide)
          have n11 : 6 ≤ what.toInt := zN1 c10 n9 (by decide)
          refine lv_iload_n hx hb dX12_person_63 rfl (lv_at hl 2 rfl) ?_
          refine lv_bipush (v := 6) hx hb dX12_person_64 (by decide) ?_
          refine lv_icmp_ne (tgt := 75) hx hb dX12_person_66 (by decide) (fun cb9 => ?_) (fun cb9 => ?_)
          · skip
            have c12 : ¬ what.toInt = 6 := zne cb9 rfl (by decide)
            have n13 : 7 ≤ what.toInt := zN1 c12 n11 (by decide)
            refine lv_iload_n hx hb dX12_person_75 rfl (lv_at hl 2 rfl) ?_
            refine lv_bipush (v := 7) hx hb dX12_person_76 (by decide) ?_
            refine lv_icmp_ne (tgt := 87) hx hb dX12_person_78 (by decide) (fun cb9 => ?_) (fun cb9 => ?_)
            · skip
              have c14 : ¬ what.toInt = 7 := zne cb9 rfl (by decide)
              have n15 : 8 ≤ what.toInt := zN1 c14 n13 (by decide)
              refine lv_aload_n hx hb dX12_person_87 rfl (lv_at hl 0 rfl) ?_
              refine lv_iload_n hx hb dX12_person_88 rfl (lv_at hl 1 rfl) ?_
              refine mcallV' (g := g) (q0 := 0) (ci := 10) (As := [.int x]) (rest := []) St hK hT hA hP hD hS hl.1 [0] [] rfl rfl rfl (m_isHere l g o a 0 hi ac tp ba en tA fl de iD iO tU fm fk fa fc ft ff fb fi x (by first | assumption | omega | decide | exact Or.inl (by decide) | exact Or.inr (by decide))) (cwV 1 hts (zgL (zl4 k846 k847 k848 k839) k841) rfl rfl rfl (by decide +kernel) ⟨Nat.le_of_ble_eq_true rfl, Nat.le_of_ble_eq_true rfl⟩) rfl rfl rfl rfl (Nat.le_of_ble_eq_true rfl) dX12_person_89 ⟨(Nat.le_of_ble_eq_true rfl), (Nat.le_of_ble_eq_true rfl)⟩ (fun q_16 H locs hq17 hP hD hS => ?_)
              replace hq17 : (q_16 = 0 ∨ q_16 = 1) := hq17
              have hP : va_P g.1 vwCl (List.flatten [bMo g o a 0 hi ac tp ba en tA fl de iD iO tU fm fk fa fc ft ff fb fi]) H := hP
              have hD : va_D A (List.flatten [bMo g o a 0 hi ac tp ba en tA fl de iD iO tU fm fk fa fc ft ff fb fi]) := hD
              refine W.widen (k := 0) (n := 0) (Nat.le_of_ble_eq_true rfl) (Nat.le_of_ble_eq_true rfl) ?_
              refine W.eq (g2 := F0 m 92 ls [.int q_16]) rfl ?_
              rcases hq17 with rfl | rfl
              · skip
                refine lv_if_eq (tgt := 102) hx hb dX12_person_92 (by decide) (fun _ => ?_) (fun c18 => absurd (by decide) c18)
                refine lv_iconst (v := 0) hx hb dX12_person_102 (by decide) ?_
                refine lv_goto (tgt := 120) hx hb dX12_person_103 (by decide) ?_
                have hP : va_P g.1 vwCl (List.flatten [bMo g o a 0 hi ac tp ba en tA fl de iD iO tU fm fk fa fc ft ff fb fi]) H := hP
                have hD : va_D A (List.flatten [bMo g o a 0 hi ac tp ba en tA fl de iD iO tU fm fk fa fc ft ff fb fi]) := hD
                exact mret_i hx hb hr hlocks hS (Nat.le_of_ble_eq_true rfl) (Nat.le_of_ble_eq_true rfl) dX12_person_120 ((0 : Int32), ba, en, tA, de, iD, iO, tU, ff, (0 : Int32)) rfl (show (0 ≤ iO.toInt ∧ iO.toInt ≤ 1) ∧ (0 ≤ iD.toInt ∧ iD.toInt ≤ 1) from ⟨hiO, hiD⟩) hP hD
              · skip
                refine lv_if_eq (tgt := 102) hx hb dX12_person_92 (by decide) (fun c19 => absurd c19 (by decide)) (fun _ => ?_)
                refine lv_aload_n hx hb dX12_person_95 rfl (lv_at hl 0 rfl) ?_
                refine mcallV' (g := g) (q0 := 0) (ci := 10) (As := []) (rest := []) St hK hT hA hP hD hS hl.1 [0] [] rfl rfl rfl (m_believedF l g o a 0 hi ac tp ba en tA fl de iD iO tU fm fk fa fc ft ff fb fi rfm) (cwV 0 hts (zgL (zl4 k856 k857 k858 k839) k849) rfl rfl rfl (by decide +kernel) ⟨Nat.le_of_ble_eq_true rfl, Nat.le_of_ble_eq_true rfl⟩) rfl rfl rfl rfl (Nat.le_of_ble_eq_true rfl) dX12_person_96 ⟨(Nat.le_of_ble_eq_true rfl), (Nat.le_of_ble_eq_true rfl)⟩ (fun _u H locs hq20 hP hD hS => ?_)
                have hP : va_P g.1 vwCl (List.flatten [bMo g o a 0 hi ac tp ba en tA fl de iD iO tU fm fk fa fc ft ff fb fi]) H := hP
                have hD : va_D A (List.flatten [bMo g o a 0 hi ac tp ba en tA fl de iD iO tU fm fk fa fc ft ff fb fi]) := hD
                refine W.widen (k := 0) (n := 0) (Nat.le_of_ble_eq_true rfl) (Nat.le_of_ble_eq_true rfl) ?_
                refine W.eq (g2 := F0 m 99 ls [.int (zbel fm (fm 3).toInt.toNat)]) rfl ?_
                refine lv_if_ne (tgt := 106) hx hb dX12_person_99 (by decide) (fun cb9 => ?_) (fun cb9 => ?_)
                · skip
                  have c21 : ¬ (zbel fm (fm 3).toInt.toNat).toInt = 0 := zne cb9 rfl (by decide)
                  refine lv_bipush (v := 100) hx hb dX12_person_106 (by decide) ?_
                  refine lv_aload_n hx hb dX12_person_108 rfl (lv_at hl 0 rfl) ?_
                  refine lv_iload_n hx hb dX12_person_109 rfl (lv_at hl 1 rfl) ?_
                  refine lv_iconst (v := 0) hx hb dX12_person_110 (by decide) ?_
                  refine mcallV' (g := g) (q0 := 0) (ci := 10) (As := [.int x, .int 0]) (rest := [.int 100]) St hK hT hA hP hD hS hl.1 [0] [] rfl rfl rfl (m_of l g o a 0 hi ac tp ba en tA fl de iD iO tU fm fk fa fc ft ff fb fi x 0 (by first | assumption | omega | decide | exact Or.inl (by decide) | exact Or.inr (by decide)) (by decide)) (cwV 2 hts (zgL (zl4 k842 k843 k844 k839) k831) rfl rfl rfl (by decide +kernel) ⟨Nat.le_of_ble_eq_true rfl, Nat.le_of_ble_eq_true rfl⟩) rfl rfl rfl rfl (Nat.le_of_ble_eq_true rfl) dX12_person_111 ⟨(Nat.le_of_ble_eq_true rfl), (Nat.le_of_ble_eq_true rfl)⟩ (fun q_22 H locs hq23 hP hD hS => ?_)
                  have hP : va_P g.1 vwCl (List.flatten [bMo g o a 0 hi ac tp ba en tA fl de iD iO tU fm fk fa fc ft ff fb fi]) H := hP
                  have hD : va_D A (List.flatten [bMo g o a 0 hi ac tp ba en tA fl de iD iO tU fm fk fa fc ft ff fb fi]) := hD
                  refine W.widen (k := 0) (n := 0) (Nat.le_of_ble_eq_true rfl) (Nat.le_of_ble_eq_true rfl) ?_
                  refine W.eq (g2 := F0 m 114 ls [.int q_22, .int 100]) rfl ?_
                  refine lv_imul hx hb dX12_person_114 ?_
                  refine zg (fun x_24 => ?_)
                  refine lv_aload_n hx hb dX12_person_115 rfl (lv_at hl 0 rfl) ?_
                  refine mcallV' (g := g) (q0 := 0) (ci := 10) (As := []) (rest := [.int x_24]) St hK hT hA hP hD hS hl.1 [0] [] rfl rfl rfl (m_believedF l g o a 0 hi ac tp ba en tA fl de iD iO tU fm fk fa fc ft ff fb fi rfm) (cwV 0 hts (zgL (zl4 k856 k857 k858 k839) k849) rfl rfl rfl (by decide +kernel) ⟨Nat.le_of_ble_eq_true rfl, Nat.le_of_ble_eq_true rfl⟩) rfl rfl rfl rfl (Nat.le_of_ble_eq_true rfl) dX12_person_116 ⟨(Nat.le_of_ble_eq_true rfl), (Nat.le_of_ble_eq_true rfl)⟩ (fun _u H locs hq25 hP hD hS => ?_)
                  have hP : va_P g.1 vwCl (List.flatten [bMo g o a 0 hi ac tp ba en tA fl de iD iO tU fm fk fa fc ft ff fb fi]) H := hP
                  have hD : va_D A (List.flatten [bMo g o a 0 hi ac tp ba en tA fl de iD iO tU fm fk fa fc ft ff fb fi]) := hD
                  refine W.widen (k := 0) (n := 0) (Nat.le_of_ble_eq_true rfl) (Nat.le_of_ble_eq_true rfl) ?_
                  refine W.eq (g2 := F0 m 119 ls [.int (zbel fm (fm 3).toInt.toNat), .int x_24]) rfl ?_
                  refine lv_idiv hx hb dX12_person_119 (zne0 (by omega)) ?_
                  refine zg (fun x_26 => ?_)
                  have hP : va_P g.1 vwCl (List.flatten [bMo g o a 0 hi ac tp ba en tA fl de iD iO tU fm fk fa fc ft ff fb fi]) H := hP
                  have hD : va_D A (List.flatten [bMo g o a 0 hi ac tp ba en tA fl de iD iO tU fm fk fa fc ft ff fb fi]) := hD
                  exact mret_i hx hb hr hlocks hS (Nat.le_of_ble_eq_true rfl) (Nat.le_of_ble_eq_true rfl) dX12_person_120 ((0 : Int32), ba, en, tA, de, iD, iO, tU, ff, x_26) rfl (show (0 ≤ iO.toInt ∧ iO.toInt ≤ 1) ∧ (0 ≤ iD.toInt ∧ iD.toInt ≤ 1) from ⟨hiO, hiD⟩) hP hD
                · skip
                  have c27 : (zbel fm (fm 3).toInt.toNat).toInt = 0 := zeq cb9 rfl (by decide)
                  have n28 : 0 ≤ (zbel fm (fm 3).toInt.toNat).toInt := Int.le_trans (Int.le_refl _) (Int.le_of_eq c27.symm)
                  have n29 : (zbel fm (fm 3).toInt.toNat).toInt ≤ 0 := Int.le_trans (Int.le_of_eq c27) (Int.le_refl _)
                  refine lv_iconst (v := 0) hx hb dX12_person_102 (by decide) ?_
                  refine lv_goto (tgt := 120) hx hb dX12_person_103 (by decide) ?_
                  have hP : va_P g.1 vwCl (List.flatten [bMo g o a 0 hi ac tp ba en tA fl de iD iO tU fm fk fa fc ft ff fb fi]) H := hP
                  have hD : va_D A (List.flatten [bMo g o a 0 hi ac tp ba en tA fl de iD iO tU fm fk fa fc ft ff fb fi]) := hD
                  exact mret_i hx hb hr hlocks hS (Nat.le_of_ble_eq_true rfl) (Nat.le_of_ble_eq_true rfl) dX12_person_120 ((0 : Int32), ba, en, tA, de, iD, iO, tU, ff, (0 : Int32)) rfl (show (0 ≤ iO.toInt ∧ iO.toInt ≤ 1) ∧ (0 ≤ iD.toInt ∧ iD.toInt ≤ 1) from ⟨hiO, hiD⟩) hP hD
            · skip
              have c30 : what.toInt = 7 := zeq cb9 rfl (by decide)
              have n31 : what.toInt ≤ 7 := Int.le_trans (Int.le_of_eq c30) (Int.le_refl _)
              refine lv_aload_n hx hb dX12_person_81 rfl (lv_at hl 0 rfl) ?_
              refine lv_iload_n hx hb dX12_person_82 rfl (lv_at hl 1 rfl) ?_
              refine mcallV' (g := g) (q0 := 0) (ci := 10) (As := [.int x]) (rest := []) St hK hT hA hP hD hS hl.1 [0] [] rfl rfl rfl (m_worth l g o a 0 hi ac tp ba en tA fl de iD iO tU fm fk fa fc ft ff fb fi x rfm (by first | assumption | omega | decide | exact Or.inl (by decide) | exact Or.inr (by decide))) (cwV 1 hts (zgL (zl4 k1036 k1037 k1038 k839) k1032) rfl rfl rfl (by decide +kernel) ⟨Nat.le_of_ble_eq_true rfl, Nat.le_of_ble_eq_true rfl⟩) rfl rfl rfl rfl (Nat.le_of_ble_eq_true rfl) dX12_person_83 ⟨(Nat.le_of_ble_eq_true rfl), (Nat.le_of_ble_eq_true rfl)⟩ (fun q_32 H locs hq33 hP hD hS => ?_)
              have hP : va_P g.1 vwCl (List.flatten [bMo g o a 0 hi ac tp ba en tA fl de iD iO tU fm fk fa fc ft ff fb fi]) H := hP
              have hD : va_D A (List.flatten [bMo g o a 0 hi ac tp ba en tA fl de iD iO tU fm fk fa fc ft ff fb fi]) := hD
              refine W.widen (k := 0) (n := 0) (Nat.le_of_ble_eq_true rfl) (Nat.le_of_ble_eq_true rfl) ?_
              refine W.eq (g2 := F0 m 86 ls [.int q_32]) rfl ?_
              have hP : va_P g.1 vwCl (List.flatten [bMo g o a 0 hi ac tp ba en tA fl de iD iO tU fm fk fa fc ft ff fb fi]) H := hP
              have hD : va_D A (List.flatten [bMo g o a 0 hi ac tp ba en tA fl de iD iO tU fm fk fa fc ft ff fb fi]) := hD
              exact mret_i hx hb hr hlocks hS (Nat.le_of_ble_eq_true rfl) (Nat.le_of_ble_eq_true rfl) dX12_person_86 ((0 : Int32), ba, en, tA, de, iD, iO, tU, ff, q_32) rfl (show (0 ≤ iO.toInt ∧ iO.toInt ≤ 1) ∧ (0 ≤ iD.toInt ∧ iD.toInt ≤ 1) from ⟨hiO, hiD⟩) hP hD
          · skip
            have c34 : what.toInt = 6 := zeq cb9 rfl (by decide)
            have n35 : what.toInt ≤ 6 := Int.le_trans (Int.le_of_eq c34) (Int.le_refl _)
            refine lv_aload_n hx hb dX12_person_69 rfl (lv_at hl 0 rfl) ?_
            refine lv_iload_n hx hb dX12_person_70 rfl (lv_at hl 1 rfl) ?_
            refine mcallV' (g := g) (q0 := 0) (ci := 10) (As := [.int x]) (rest := []) St hK hT hA hP hD hS hl.1 [0] [] rfl rfl rfl (m_turnsBy l g o a 0 hi ac tp ba en tA fl de iD iO tU fm fk fa fc ft ff fb fi x rfm hiD hiO (by first | assumption | omega | decide | exact Or.inl (by decide) | exact Or.inr (by decide))) (cwV 1 hts (zgL (zl4 k1019 k1020 k1021 k839) k996) rfl rfl rfl (by decide +kernel) ⟨Nat.le_of_ble_eq_true rfl, Nat.le_of_ble_eq_true rfl⟩) rfl rfl rfl rfl (Nat.le_of_ble_eq_true rfl) dX12_person_71 ⟨(Nat.le_of_ble_eq_true rfl), (Nat.le_of_ble_eq_true rfl)⟩ (fun u_ H locs hq45 hP hD hS => ?_)
            obtain ⟨ba2_36, en2_37, at2_38, de2_39, iD2_40, iO2_41, tU2_42, ff2_43, q_44⟩ := u_
            replace hq45 : (0 ≤ iO2_41.toInt ∧ iO2_41.toInt ≤ 1) ∧ (0 ≤ iD2_40.toInt ∧ iD2_40.toInt ≤ 1) := hq45
            have hP : va_P g.1 vwCl (List.flatten [bMo g o a 0 hi ac tp ba2_36 en2_37 at2_38 fl de2_39 iD2_40 iO2_41 tU2_42 fm fk fa fc ft ff2_43 fb fi]) H := hP
            have hD : va_D A (List.flatten [bMo g o a 0 hi ac tp ba2_36 en2_37 at2_38 fl de2_39 iD2_40 iO2_41 tU2_42 fm fk fa fc ft ff2_43 fb fi]) := hD
            refine W.widen (k := 0) (n := 0) (Nat.le_of_ble_eq_true rfl) (Nat.le_of_ble_eq_true rfl) ?_
            refine W.eq (g2 := F0 m 74 ls [.int q_44]) rfl ?_
            obtain ⟨hq45_0, hq45_1⟩ := hq45
            have hP : va_P g.1 vwCl (List.flatten [bMo g o a 0 hi ac tp ba2_36 en2_37 at2_38 fl de2_39 iD2_40 iO2_41 tU2_42 fm fk fa fc ft ff2_43 fb fi]) H := hP
            have hD : va_D A (List.flatten [bMo g o a 0 hi ac tp ba2_36 en2_37 at2_38 fl de2_39 iD2_40 iO2_41 tU2_42 fm fk fa fc ft ff2_43 fb fi]) := hD
            exact mret_i hx hb hr hlocks hS (Nat.le_of_ble_eq_true rfl) (Nat.le_of_ble_eq_true rfl) dX12_person_74 ((0 : Int32), ba2_36, en2_37, at2_38, de2_39, iD2_40, iO2_41, tU2_42, ff2_43, q_44) rfl (show (0 ≤ iO2_41.toInt ∧ iO2_41.toInt ≤ 1) ∧ (0 ≤ iD2_40.toInt ∧ iD2_40.toInt ≤ 1) from ⟨hq45_0, hq45_1⟩) hP hD
        · skip
          have c46 : what.toInt = 5 := zeq cb9 rfl (by decide)
          have n47 : what.toInt ≤ 5 := Int.le_trans (Int.le_of_eq c46) (Int.le_refl _)
          refine lv_aload_n hx hb dX12_person_57 rfl (lv_at hl 0 rfl) ?_
          refine lv_iload_n hx hb dX12_person_58 rfl (lv_at hl 1 rfl) ?_
          refine mcallV' (g := g) (q0 := 0) (ci := 10) (As := [.int x]) (rest := []) St hK hT hA hP hD hS hl.1 [0] [] rfl rfl rfl (m_pull l g o a 0 hi ac tp ba en tA fl de iD iO tU fm fk fa fc ft ff fb fi x rfm (by first | assumption | omega | decide | exact Or.inl (by decide) | exact Or.inr (by decide))) (cwV 1 hts (zgL (zl4 k1016 k1017 k1018 k839) k871) rfl rfl rfl (by decide +kernel) ⟨Nat.le_of_ble_eq_true rfl, Nat.le_of_ble_eq_true rfl⟩) rfl rfl rfl rfl (Nat.le_of_ble_eq_true rfl) dX12_person_59 ⟨(Nat.le_of_ble_eq_true rfl), (Nat.le_of_ble_eq_true rfl)⟩ (fun q_48 H locs hq49 hP hD hS => ?_)
          have hP : va_P g.1 vwCl (List.flatten [bMo g o a 0 hi ac tp ba en tA fl de iD iO tU fm fk fa fc ft ff fb fi]) H := hP
          have hD : va_D A (List.flatten [bMo g o a 0 hi ac tp ba en tA fl de iD iO tU fm fk fa fc ft ff fb fi]) := hD
          refine W.widen (k := 0) (n := 0) (Nat.le_of_ble_eq_true rfl) (Nat.le_of_ble_eq_true rfl) ?_
          refine W.eq (g2 := F0 m 62 ls [.int q_48]) rfl ?_
          have hP : va_P g.1 vwCl (List.flatten [bMo g o a 0 hi ac tp ba en tA fl de iD iO tU fm fk fa fc ft ff fb fi]) H := hP
          have hD : va_D A (List.flatten [bMo g o a 0 hi ac tp ba en tA fl de iD iO tU fm fk fa fc ft ff fb fi]) := hD
          exact mret_i hx hb hr hlocks hS (Nat.le_of_ble_eq_true rfl) (Nat.le_of_ble_eq_true rfl) dX12_person_62 ((0 : Int32), ba, en, tA, de, iD, iO, tU, ff, q_48) rfl (show (0 ≤ iO.toInt ∧ iO.toInt ≤ 1) ∧ (0 ≤ iD.toInt ∧ iD.toInt ≤ 1) from ⟨hiO, hiD⟩) hP hD
      · skip
        have c50 : what.toInt < 5 := zlti (Int32.not_le.mp cb9) rfl (by decide)
        have n51 : what.toInt ≤ 4 := zL1 (b := 5) c50 (Int.le_refl _) (by decide)
        refine lv_aload_n hx hb dX12_person_45 rfl (lv_at hl 0 rfl) ?_
        refine lv_iload_n hx hb dX12_person_46 rfl (lv_at hl 1 rfl) ?_
        refine lv_iload_n hx hb dX12_person_47 rfl (lv_at hl 2 rfl) ?_
        refine mcallV' (g := g) (q0 := 0) (ci := 10) (As := [.int x, .int what]) (rest := []) St hK hT hA hP hD hS hl.1 [0] [] rfl rfl rfl (m_of l g o a 0 hi ac tp ba en tA fl de iD iO tU fm fk fa fc ft ff fb fi x what (by first | assumption | omega | decide | exact Or.inl (by decide) | exact Or.inr (by decide)) (by first | assumption | omega | decide | exact Or.inl (by decide) | exact Or.inr (by decide))) (cwV 2 hts (zgL (zl4 k842 k843 k844 k839) k831) rfl rfl rfl (by decide +kernel) ⟨Nat.le_of_ble_eq_true rfl, Nat.le_of_ble_eq_true rfl⟩) rfl rfl rfl rfl (Nat.le_of_ble_eq_true rfl) dX12_person_48 ⟨(Nat.le_of_ble_eq_true rfl), (Nat.le_of_ble_eq_true rfl)⟩ (fun q_52 H locs hq53 hP hD hS => ?_)
        have hP : va_P g.1 vwCl (List.flatten [bMo g o a 0 hi ac tp ba en tA fl de iD iO tU fm fk fa fc ft ff fb fi]) H := hP
        have hD : va_D A (List.flatten [bMo g o a 0 hi ac tp ba en tA fl de iD iO tU fm fk fa fc ft ff fb fi]) := hD
        refine W.widen (k := 0) (n := 0) (Nat.le_of_ble_eq_true rfl) (Nat.le_of_ble_eq_true rfl) ?_
        refine W.eq (g2 := F0 m 51 ls [.int q_52]) rfl ?_
        have hP : va_P g.1 vwCl (List.flatten [bMo g o a 0 hi ac tp ba en tA fl de iD iO tU fm fk fa fc ft ff fb fi]) H := hP
        have hD : va_D A (List.flatten [bMo g o a 0 hi ac tp ba en tA fl de iD iO tU fm fk fa fc ft ff fb fi]) := hD
        exact mret_i hx hb hr hlocks hS (Nat.le_of_ble_eq_true rfl) (Nat.le_of_ble_eq_true rfl) dX12_person_51 ((0 : Int32), ba, en, tA, de, iD, iO, tU, ff, q_52) rfl (show (0 ≤ iO.toInt ∧ iO.toInt ≤ 1) ∧ (0 ≤ iD.toInt ∧ iD.toInt ≤ 1) from ⟨hiO, hiD⟩) hP hD
    · skip
      refine lv_if_ne (tgt := 27) hx hb dX12_person_20 (by decide) (fun c54 => absurd (by decide) c54) (fun _ => ?_)
      refine lv_iconst (v := 2) hx hb dX12_person_23 (by decide) ?_
      refine lv_goto (tgt := 28) hx hb dX12_person_24 (by decide) ?_
      refine va_put (D := g.1) (ci := 10) (v := .int 2) (ty := .int) (C := RX12) (T := TX12) (N := 20) hx hb hts izRX12 tyX12 tyX12_ok nmX12 hown hK hP hD hS 0 rfl rfl 0 (by decide) (hts _ k825) (fun _ h9 => h9) rfl (by decide +kernel) rfl rfl (Nat.le_of_ble_eq_true rfl) dX12_person_28 (fun H locs hP hD hS => ?_)
      have hP : va_P g.1 vwCl (List.flatten [bMo g o a 2 hi ac tp ba en tA fl de iD iO tU fm fk fa fc ft ff fb fi]) H := hP
      have hD : va_D A (List.flatten [bMo g o a 2 hi ac tp ba en tA fl de iD iO tU fm fk fa fc ft ff fb fi]) := hD
      refine lv_aload_n hx hb dX12_person_31 rfl (lv_at hl 0 rfl) ?_
      refine va_get (D := g.1) (ci := 10) (v := .int 2) (C := RX12) (T := TX12) (N := 20) hx hb hts izRX12 hown hK hP 0 rfl rfl 0 (by decide) (hts _ k825) (fun _ h9 => h9) rfl dX12_person_32 ?_
      refine lv_if_le (tgt := 40) hx hb dX12_person_35 (by decide) (fun c55 => absurd c55 (by decide)) (fun _ => ?_)
      refine lv_iconst (v := 0) hx hb dX12_person_38 (by decide) ?_
      have hP : va_P g.1 vwCl (List.flatten [bMo g o a 2 hi ac tp ba en tA fl de iD iO tU fm fk fa fc ft ff fb fi]) H := hP
      have hD : va_D A (List.flatten [bMo g o a 2 hi ac tp ba en tA fl de iD iO tU fm fk fa fc ft ff fb fi]) := hD
      exact mret_i hx hb hr hlocks hS (Nat.le_of_ble_eq_true rfl) (Nat.le_of_ble_eq_true rfl) dX12_person_39 ((2 : Int32), ba, en, tA, de, iD, iO, tU, ff, (0 : Int32)) rfl (show (0 ≤ iO.toInt ∧ iO.toInt ≤ 1) ∧ (0 ≤ iD.toInt ∧ iD.toInt ≤ 1) from ⟨hiO, hiD⟩) hP hD
  · skip
    refine lv_if_ne (tgt := 13) hx hb dX12_person_6 (by decide) (fun c56 => absurd (by decide) c56) (fun _ => ?_)
    refine lv_iconst (v := 1) hx hb dX12_person_9 (by decide) ?_
    refine lv_goto (tgt := 28) hx hb dX12_person_10 (by decide) ?_
    refine va_put (D := g.1) (ci := 10) (v := .int 1) (ty := .int) (C := RX12) (T := TX12) (N := 20) hx hb hts izRX12 tyX12 tyX12_ok nmX12 hown hK hP hD hS 0 rfl rfl 0 (by decide) (hts _ k825) (fun _ h9 => h9) rfl (by decide +kernel) rfl rfl (Nat.le_of_ble_eq_true rfl) dX12_person_28 (fun H locs hP hD hS => ?_)
    have hP : va_P g.1 vwCl (List.flatten [bMo g o a 1 hi ac tp ba en tA fl de iD iO tU fm fk fa fc ft ff fb fi]) H := hP
    have hD : va_D A (List.flatten [bMo g o a 1 hi ac tp ba en tA fl de iD iO tU fm fk fa fc ft ff fb fi]) := hD
    refine lv_aload_n hx hb dX12_person_31 rfl (lv_at hl 0 rfl) ?_
    refine va_get (D := g.1) (ci := 10) (v := .int 1) (C := RX12) (T := TX12) (N := 20) hx hb hts izRX12 hown hK hP 0 rfl rfl 0 (by decide) (hts _ k825) (fun _ h9 => h9) rfl dX12_person_32 ?_
    refine lv_if_le (tgt := 40) hx hb dX12_person_35 (by decide) (fun c57 => absurd c57 (by decide)) (fun _ => ?_)
    refine lv_iconst (v := 0) hx hb dX12_person_38 (by decide) ?_
    have hP : va_P g.1 vwCl (List.flatten [bMo g o a 1 hi ac tp ba en tA fl de iD iO tU fm fk fa fc ft ff fb fi]) H := hP
    have hD : va_D A (List.flatten [bMo g o a 1 hi ac tp ba en tA fl de iD iO tU fm fk fa fc ft ff fb fi]) := hD
    exact mret_i hx hb hr hlocks hS (Nat.le_of_ble_eq_true rfl) (Nat.le_of_ble_eq_true rfl) dX12_person_39 ((1 : Int32), ba, en, tA, de, iD, iO, tU, ff, (0 : Int32)) rfl (show (0 ≤ iO.toInt ∧ iO.toInt ≤ 1) ∧ (0 ≤ iD.toInt ∧ iD.toInt ≤ 1) from ⟨hiO, hiD⟩) hP hD
