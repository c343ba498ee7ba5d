def bTown (g : zG) (o : Nat) (a : Nat → Nat) (pe : Int32) (wo : Int32) (tx : Int32) (ch : Int32) (jo : Int32) (tr : Int32) (dy : Int32) (sd : Int32) (f : Nat → Nat → Int32) : va_W := [(o, .inr (7, [.int pe, .int wo, .int tx, .int ch, .int jo, .int tr, .int dy, .int sd, .ref (a 0), .ref (a 1), .ref (a 2), .ref (a 3), .ref (a 4), .ref (a 5), .ref (a 6), .ref (a 7), .ref (a 8), .ref (a 9), .ref (a 10)])), (a 0, .inl (g.2 0, 8, .inl (f 0))), (a 1, .inl (g.2 0, 8, .inl (f 1))), (a 2, .inl (g.2 0, 8, .inl (f 2))), (a 3, .inl (g.2 0, 8, .inl (f 3))), (a 4, .inl (g.2 1, 8, .inl (f 4))), (a 5, .inl (g.2 0, 64, .inl (f 5))), (a 6, .inl (g.2 0, 6, .inl (f 6))), (a 7, .inl (g.2 0, 6, .inl (f 7))), (a 8, .inl (g.2 0, 6, .inl (f 8))), (a 9, .inl (g.2 0, 6, .inl (f 9))), (a 10, .inl (g.2 0, 8, .inl (f 10)))]
def bTape (g : zG) (ta : Nat) (ab : Nat) (sz : Int32) (ln : Int32) (kd : Int32) (bg : Int32) (nx : Int32) (ft : Int32) (fb : Nat → Int32) : va_W := [(ta, .inr (6, [.ref ab, .int sz, .int ln, .int kd, .int bg, .int nx, .int ft])), (ab, .inl (g.2 0, 400, .inl fb))]
def bLaw (g : zG) (lo : Nat) (lc : Nat) (lz : Int32) (ll : Int32) (lm : Int32) (lg : Int32) (ld : Int32) (fc : Nat → Int32) : va_W := [(lo, .inr (1, [.ref lc, .int lz, .int ll, .int lm, .int lg, .int ld])), (lc, .inl (g.2 0, 400, .inl fc))]
def bLog (g : zG) (go : Nat) (gr : Nat) (gz : Int32) (gn : Int32) (fr : Nat → Int32) : va_W := [(go, .inr (3, [.ref gr, .int gz, .int gn])), (gr, .inl (g.2 0, 240, .inl fr))]
/-- the town's row of booleans holds such -/
def zZ4 (f : Nat → Nat → Int32) : Prop := zZ (f 4)
theorem zZ4_u {f : Nat → Nat → Int32} {k : Nat} {x : Nat → Int32} (h : zZ4 f) (hk : k ≠ 4) : zZ4 (zu f k x) := by
  unfold zZ4 zu
  rw [if_neg (fun e => hk e.symm)]; exact h
theorem zZ4_s {f : Nat → Nat → Int32} {i : Nat} {v : Int32} (h : zZ4 f) (hv : v = 0 ∨ v = 1) : zZ4 (zu f 4 (upd (f 4) i (vp_nar .boolean v))) := by
  intro j hj
  show fits .boolean (.int (upd (f 4) i (vp_nar .boolean v) j)) = true
  unfold upd
  by_cases e : j = i
  · rw [if_pos e]; rcases hv with rfl | rfl <;> rfl
  · rw [if_neg e]; exact h j hj
def bTT (g : zG) (tt : Nat) (ta : Nat) (o : Nat) : va_W := [(tt, .inr (8, [.ref ta, .ref o]))]
def bLT (g : zG) (lt : Nat) (ta : Nat) (lo : Nat) : va_W := [(lt, .inr (2, [.ref ta, .ref lo]))]
set_option maxRecDepth 100000 in
set_option maxHeartbeats 4000000 in
theorem j_bitCount (l : Launch) (g : zG) (x1 : Int32)  : zM' g l yJ6_bitCount_0f7a4 (Cond.code yJ6_bitCount_0f7a4 cJ6_bitCount_0f7a4 1 (some .int) :: zB) ({ frames := 0, cells := 0, slots := 0, locals := 0 } : Room) [.int x1] [] (fun (q : Int32) => some (.int q)) (fun (q : Int32) => True) (fun (q : Int32) => []) := by
  refine zM'.of (cc := cJ6_bitCount_0f7a4) (maxL := 1) (rt := (some .int)) (by decide) rfl (Nat.le_of_ble_eq_true rfl) ?_
  intro p e s m args below meth c A ls St hr hlocks hin hK hT hA hP hD hS hl
  obtain ⟨hx, hb, hml, hown, hts⟩ := id St
  have hl : lv_has ls 1 [(0, .int x1)] := hl
  refine lv_iload_n hx hb dJ6_bitCount_0f7a4_0 rfl (lv_at hl 0 rfl) ?_
  refine lv_iload_n hx hb dJ6_bitCount_0f7a4_1 rfl (lv_at hl 0 rfl) ?_
  refine lv_iconst (v := 1) hx hb dJ6_bitCount_0f7a4_2 (by decide) ?_
  refine lv_iushr hx hb dJ6_bitCount_0f7a4_3 rfl ?_
  refine zg (fun x_1 => ?_)
  refine lv_ldcw (v := 1431655765) hx hb hown (hts _ k57) dJ6_bitCount_0f7a4_4 ?_
  refine lv_iand hx hb dJ6_bitCount_0f7a4_7 ?_
  refine zg (fun x_2 => ?_)
  refine lv_isub hx hb dJ6_bitCount_0f7a4_8 ?_
  refine zg (fun x_3 => ?_)
  refine lv_istore_n (lv' := [(0, .int x_3)]) hx hb dJ6_bitCount_0f7a4_9 rfl hl (by decide) rfl (fun ls hl => ?_)
  refine lv_iload_n hx hb dJ6_bitCount_0f7a4_10 rfl (lv_at hl 0 rfl) ?_
  refine lv_ldcw (v := 858993459) hx hb hown (hts _ k58) dJ6_bitCount_0f7a4_11 ?_
  refine lv_iand hx hb dJ6_bitCount_0f7a4_14 ?_
  refine zg (fun x_4 => ?_)
  refine lv_iload_n hx hb dJ6_bitCount_0f7a4_15 rfl (lv_at hl 0 rfl) ?_
  refine lv_iconst (v := 2) hx hb dJ6_bitCount_0f7a4_16 (by decide) ?_
  refine lv_iushr hx hb dJ6_bitCount_0f7a4_17 rfl ?_
  refine zg (fun x_5 => ?_)
  refine lv_ldcw (v := 858993459) hx hb hown (hts _ k58) dJ6_bitCount_0f7a4_18 ?_
  refine lv_iand hx hb dJ6_bitCount_0f7a4_21 ?_
  refine zg (fun x_6 => ?_)
  refine lv_iadd hx hb dJ6_bitCount_0f7a4_22 ?_
  refine zg (fun x_7 => ?_)
  refine lv_istore_n (lv' := [(0, .int x_7)]) hx hb dJ6_bitCount_0f7a4_23 rfl hl (by decide) rfl (fun ls hl => ?_)
  refine lv_iload_n hx hb dJ6_bitCount_0f7a4_24 rfl (lv_at hl 0 rfl) ?_
  refine lv_iload_n hx hb dJ6_bitCount_0f7a4_25 rfl (lv_at hl 0 rfl) ?_
  refine lv_iconst (v := 4) hx hb dJ6_bitCount_0f7a4_26 (by decide) ?_
  refine lv_iushr hx hb dJ6_bitCount_0f7a4_27 rfl ?_
  refine zg (fun x_8 => ?_)
  refine lv_iadd hx hb dJ6_bitCount_0f7a4_28 ?_
  refine zg (fun x_9 => ?_)
  refine lv_ldcw (v := 252645135) hx hb hown (hts _ k59) dJ6_bitCount_0f7a4_29 ?_
  refine lv_iand hx hb dJ6_bitCount_0f7a4_32 ?_
  refine zg (fun x_10 => ?_)
  refine lv_istore_n (lv' := [(0, .int x_10)]) hx hb dJ6_bitCount_0f7a4_33 rfl hl (by decide) rfl (fun ls hl => ?_)
  refine lv_iload_n hx hb dJ6_bitCount_0f7a4_34 rfl (lv_at hl 0 rfl) ?_
  refine lv_iload_n hx hb dJ6_bitCount_0f7a4_35 rfl (lv_at hl 0 rfl) ?_
  refine lv_bipush (v := 8) hx hb dJ6_bitCount_0f7a4_36 (by decide) ?_
  refine lv_iushr hx hb dJ6_bitCount_0f7a4_38 rfl ?_
  refine zg (fun x_11 => ?_)
  refine lv_iadd hx hb dJ6_bitCount_0f7a4_39 ?_
  refine zg (fun x_12 => ?_)
  refine lv_istore_n (lv' := [(0, .int x_12)]) hx hb dJ6_bitCount_0f7a4_40 rfl hl (by decide) rfl (fun ls hl => ?_)
  refine lv_iload_n hx hb dJ6_bitCount_0f7a4_41 rfl (lv_at hl 0 rfl) ?_
  refine lv_iload_n hx hb dJ6_bitCount_0f7a4_42 rfl (lv_at hl 0 rfl) ?_
  refine lv_bipush (v := 16) hx hb dJ6_bitCount_0f7a4_43 (by decide) ?_
  refine lv_iushr hx hb dJ6_bitCount_0f7a4_45 rfl ?_
  refine zg (fun x_13 => ?_)
  refine lv_iadd hx hb dJ6_bitCount_0f7a4_46 ?_
  refine zg (fun x_14 => ?_)
  refine lv_istore_n (lv' := [(0, .int x_14)]) hx hb dJ6_bitCount_0f7a4_47 rfl hl (by decide) rfl (fun ls hl => ?_)
  refine lv_iload_n hx hb dJ6_bitCount_0f7a4_48 rfl (lv_at hl 0 rfl) ?_
  refine lv_bipush (v := 63) hx hb dJ6_bitCount_0f7a4_49 (by decide) ?_
  refine lv_iand hx hb dJ6_bitCount_0f7a4_51 ?_
  refine zgb (zand63 _) (fun x_15 hx_15 => ?_)
  have hP : va_P g.1 vwCl (List.flatten []) s.heap := hP
  have hD : va_D A (List.flatten []) := hD
  exact mret_i hx hb hr hlocks hS (Nat.le_of_ble_eq_true rfl) (Nat.le_of_ble_eq_true rfl) dJ6_bitCount_0f7a4_52 (x_15) rfl trivial hP hD
set_option maxRecDepth 100000 in
set_option maxHeartbeats 4000000 in
theorem c_trustOf (l : Launch) (g : zG) (o : Nat) (a : Nat → Nat) (pe : Int32) (wo : Int32) (tx : Int32) (ch : Int32) (jo : Int32) (tr : Int32) (dy : Int32) (sd : Int32) (f : Nat → Nat → Int32) (x1 : Int32) (x2 : Int32) (b_x1 : 0 ≤ x1.toInt ∧ x1.toInt ≤ 7) (b_x2 : 0 ≤ x2.toInt ∧ x2.toInt ≤ 7) : zM' g l yX9_trustOf (Cond.code yX9_trustOf cX9_trustOf 3 (some .int) :: zB) ({ frames := 0, cells := 0, slots := 0, locals := 0 } : Room) [.ref o, .int x1, .int x2] [bTown g o a pe wo tx ch jo tr dy sd f] (fun (q : Int32) => some (.int q)) (fun (q : Int32) => True) (fun (q : Int32) => [bTown g o a pe wo tx ch jo tr dy sd f]) := by
  refine zM'.of (cc := cX9_trustOf) (maxL := 3) (rt := (some .int)) (by decide) rfl (Nat.le_of_ble_eq_true rfl) ?_
  intro p e s m args below meth c A ls St hr hlocks hin hK hT hA hP hD hS hl
  obtain ⟨hx, hb, hml, hown, hts⟩ := id St
  have hl : lv_has ls 3 [(0, .ref o), (1, .int x1), (2, .int x2)] := hl
  refine lv_aload_n hx hb dX9_trustOf_0 rfl (lv_at hl 0 rfl) ?_
  refine va_get (D := g.1) (ci := 7) (v := .ref (a 5)) (C := RX9) (T := TX9) (N := 19) hx hb hts izRX9 hown hK hP 0 rfl rfl 13 (by decide) (hts _ k15) (fun _ h9 => h9) rfl dX9_trustOf_1 ?_
  refine lv_iload_n hx hb dX9_trustOf_4 rfl (lv_at hl 1 rfl) ?_
  refine lv_bipush (v := 8) hx hb dX9_trustOf_5 (by decide) ?_
  refine lv_imul hx hb dX9_trustOf_7 ?_
  refine zg3 (zmulKR (i := x1.toInt) (n := 8) (a' := 0) (b' := 56) rfl (by decide) b_x1.1 b_x1.2 (by decide) (by decide)) (fun x_1 hx_1 => ?_)
  refine lv_iload_n hx hb dX9_trustOf_8 rfl (lv_at hl 2 rfl) ?_
  refine lv_iadd hx hb dX9_trustOf_9 ?_
  refine zg3 (zaddK (i := x_1.toInt) (j := x2.toInt) (a' := 0) (b' := 63) rfl rfl hx_1.2.1 hx_1.2.2 b_x2.1 b_x2.2 (by decide)) (fun x_2 hx_2 => ?_)
  refine va_iald hx hb hK hP 6 0 rfl rfl (zinK (a := 0) (b := 63) hx_2.2.1 hx_2.2.2 (by decide)) dX9_trustOf_10 ?_
  refine zg (fun x_3 => ?_)
  have hP : va_P g.1 vwCl (List.flatten [bTown g o a pe wo tx ch jo tr dy sd f]) s.heap := hP
  have hD : va_D A (List.flatten [bTown g o a pe wo tx ch jo tr dy sd f]) := hD
  exact mret_i hx hb hr hlocks hS (Nat.le_of_ble_eq_true rfl) (Nat.le_of_ble_eq_true rfl) dX9_trustOf_11 (x_3) rfl trivial hP hD
set_option maxRecDepth 100000 in
set_option maxHeartbeats 4000000 in
theorem c_isHere (l : Launch) (g : zG) (o : Nat) (a : Nat → Nat) (pe : Int32) (wo : Int32) (tx : Int32) (ch : Int32) (jo : Int32) (tr : Int32) (dy : Int32) (sd : Int32) (f : Nat → Nat → Int32) (x1 : Int32) (b_x1 : 0 ≤ x1.toInt ∧ x1.toInt ≤ 7) : zM' g l yX9_isHere (Cond.code yX9_isHere cX9_isHere 2 (some .boolean) :: zB) ({ frames := 0, cells := 0, slots := 0, locals := 0 } : Room) [.ref o, .int x1] [bTown g o a pe wo tx ch jo tr dy sd f] (fun (q : Int32) => some (.int q)) (fun (q : Int32) => (q = 0 ∨ q = 1)) (fun (q : Int32) => [bTown g o a pe wo tx ch jo tr dy sd f]) := by
  refine zM'.of (cc := cX9_isHere) (maxL := 2) (rt := (some .boolean)) (by decide) rfl (Nat.le_of_ble_eq_true rfl) ?_
  intro p e s m args below meth c A ls St hr hlocks hin hK hT hA hP hD hS hl
  obtain ⟨hx, hb, hml, hown, hts⟩ := id St
  have hl : lv_has ls 2 [(0, .ref o), (1, .int x1)] := hl
  refine lv_aload_n hx hb dX9_isHere_0 rfl (lv_at hl 0 rfl) ?_
  refine va_get (D := g.1) (ci := 7) (v := .ref (a 3)) (C := RX9) (T := TX9) (N := 19) hx hb hts izRX9 hown hK hP 0 rfl rfl 11 (by decide) (hts _ k12) (fun _ h9 => h9) rfl dX9_isHere_1 ?_
  refine lv_iload_n hx hb dX9_isHere_4 rfl (lv_at hl 1 rfl) ?_
  refine va_iald hx hb hK hP 4 0 rfl rfl (zinK (a := 0) (b := 7) b_x1.1 b_x1.2 (by decide)) dX9_isHere_5 ?_
  refine zg (fun x_1 => ?_)
  refine lv_iconst (v := (-1)) hx hb dX9_isHere_6 (by decide) ?_
  refine lv_icmp_ne (tgt := 14) hx hb dX9_isHere_7 (by decide) (fun cb9 => ?_) (fun cb9 => ?_)
  · skip
    have c2 : ¬ x_1.toInt = (-1) := zne cb9 rfl (by decide)
    refine lv_iconst (v := 0) hx hb dX9_isHere_14 (by decide) ?_
    have hP : va_P g.1 vwCl (List.flatten [bTown g o a pe wo tx ch jo tr dy sd f]) s.heap := hP
    have hD : va_D A (List.flatten [bTown g o a pe wo tx ch jo tr dy sd f]) := hD
    exact mret_z hx hb hr hlocks hS (Nat.le_of_ble_eq_true rfl) (Nat.le_of_ble_eq_true rfl) dX9_isHere_15 ((0 : Int32)) rfl (by decide) (show (0 = 0 ∨ 0 = 1) from (by decide)) hP hD
  · skip
    have c3 : x_1.toInt = (-1) := zeq cb9 rfl (by decide)
    have n4 : (-1) ≤ x_1.toInt := Int.le_trans (Int.le_refl _) (Int.le_of_eq c3.symm)
    have n5 : x_1.toInt ≤ (-1) := Int.le_trans (Int.le_of_eq c3) (Int.le_refl _)
    refine lv_iconst (v := 1) hx hb dX9_isHere_10 (by decide) ?_
    refine lv_goto (tgt := 15) hx hb dX9_isHere_11 (by decide) ?_
    have hP : va_P g.1 vwCl (List.flatten [bTown g o a pe wo tx ch jo tr dy sd f]) s.heap := hP
    have hD : va_D A (List.flatten [bTown g o a pe wo tx ch jo tr dy sd f]) := hD
    exact mret_z hx hb hr hlocks hS (Nat.le_of_ble_eq_true rfl) (Nat.le_of_ble_eq_true rfl) dX9_isHere_15 ((1 : Int32)) rfl (by decide) (show (1 = 0 ∨ 1 = 1) from (by decide)) hP hD
set_option maxRecDepth 100000 in
set_option maxHeartbeats 4000000 in
theorem c_peopleHere (l : Launch) (g : zG) (o : Nat) (a : Nat → Nat) (pe : Int32) (wo : Int32) (tx : Int32) (ch : Int32) (jo : Int32) (tr : Int32) (dy : Int32) (sd : Int32) (f : Nat → Nat → Int32) (b_pe : 0 ≤ pe.toInt ∧ pe.toInt ≤ 8) (b_wo : 0 ≤ wo.toInt ∧ wo.toInt ≤ 6) (rf : zZ4 f) : zM' g l yX9_peopleHere (Cond.code yX9_peopleHere cX9_peopleHere 3 (some .int) :: zB) ({ frames := 1, cells := 0, slots := 0, locals := 21 } : Room) [.ref o] [bTown g o a pe wo tx ch jo tr dy sd f] (fun (q : Int32) => some (.int q)) (fun (q : Int32) => True) (fun (q : Int32) => [bTown g o a pe wo tx ch jo tr dy sd f]) := by
  refine zM'.of (cc := cX9_peopleHere) (maxL := 3) (rt := (some .int)) (by decide) rfl (Nat.le_of_ble_eq_true rfl) ?_
  intro p e s m args below meth c A ls St hr hlocks hin hK hT hA hP hD hS hl
  obtain ⟨hx, hb, hml, hown, hts⟩ := id St
  have hl : lv_has ls 3 [(0, .ref o)] := hl
  refine lv_iconst (v := 0) hx hb dX9_peopleHere_0 (by decide) ?_
  refine lv_istore_n (lv' := [(1, .int 0), (0, .ref o)]) hx hb dX9_peopleHere_1 rfl hl (by decide) rfl (fun ls hl => ?_)
  refine lv_iconst (v := 0) hx hb dX9_peopleHere_2 (by decide) ?_
  refine lv_istore_n (lv' := [(2, .int 0), (1, .int 0), (0, .ref o)]) hx hb dX9_peopleHere_3 rfl hl (by decide) rfl (fun ls hl => ?_)
  have hl := lv_sub (l' := [(0, .ref o), (1, .int 0), (2, .int 0)]) hl [2, 1, 0] rfl
  have LP4_4 : ∀ (kf : Nat) (x_1 : Int32) (x_2 : Int32), (0 ≤ x_2.toInt ∧ x_2.toInt ≤ 8) → ∀ (H : Heap) (locs : List Loc) (ls : Array Slot), ((9 - x_2.toInt).toNat) < kf → va_P g.1 vwCl (List.flatten [bTown g o a pe wo tx ch jo tr dy sd f]) H → va_D A (List.flatten [bTown g o a pe wo tx ch jo tr dy sd f]) → va_S A s.heap H locs → lv_has ls 3 [(0, .ref o), (1, .int x_1), (2, .int x_2)] → W p l e ({ frames := 1, cells := 0, slots := 0, locals := 21 } : Room) s m args below meth c H locs (0) (0) (zF g (fun (q : Int32) => some (.int q)) (fun (q : Int32) => True) (fun (q : Int32) => [bTown g o a pe wo tx ch jo tr dy sd f]) ({ frames := 1, cells := 0, slots := 0, locals := 21 } : Room) below args s A) (F0 m 4 ls []) := by
    intro kf
    induction kf with
    | zero => intro x_1 x_2 i3 H locs ls hk; exact absurd hk (Nat.not_lt_zero _)
    | succ kf ih4_5 =>
      intro x_1 x_2 i3 H locs ls hk4_5 hP hD hS hl
      refine lv_iload_n hx hb dX9_peopleHere_4 rfl (lv_at hl 2 rfl) ?_
      refine lv_aload_n hx hb dX9_peopleHere_5 rfl (lv_at hl 0 rfl) ?_
      refine va_get (D := g.1) (ci := 7) (v := .int pe) (C := RX9) (T := TX9) (N := 19) hx hb hts izRX9 hown hK hP 0 rfl rfl 0 (by decide) (hts _ k31) (fun _ h9 => h9) rfl dX9_peopleHere_6 ?_
      refine lv_icmp_ge (tgt := 32) hx hb dX9_peopleHere_9 (by decide) (fun cb9 => ?_) (fun cb9 => ?_)
      · skip
        have c6 : pe.toInt ≤ x_2.toInt := zle cb9 rfl rfl
        refine lv_iload_n hx hb dX9_peopleHere_32 rfl (lv_at hl 1 rfl) ?_
        have hP : va_P g.1 vwCl (List.flatten [bTown g o a pe wo tx ch jo tr dy sd f]) H := hP
        have hD : va_D A (List.flatten [bTown g o a pe wo tx ch jo tr dy sd f]) := hD
        exact mret_i hx hb hr hlocks hS (Nat.le_of_ble_eq_true rfl) (Nat.le_of_ble_eq_true rfl) dX9_peopleHere_33 (x_1) rfl trivial hP hD
      · skip
        have c7 : x_2.toInt < pe.toInt := zlti (Int32.not_le.mp cb9) rfl rfl
        have n8 : x_2.toInt ≤ 7 := zL1 (b := 8) c7 b_pe.2 (by decide)
        have n9 : 1 ≤ pe.toInt := zL2 (a := 0) c7 i3.1 (by decide)
        refine lv_aload_n hx hb dX9_peopleHere_12 rfl (lv_at hl 0 rfl) ?_
        refine lv_iload_n hx hb dX9_peopleHere_13 rfl (lv_at hl 2 rfl) ?_
        refine mcallV' (g := g) (q0 := 0) (ci := 7) (As := [.int x_2]) (rest := []) St hK hT hA hP hD hS hl.1 [0] [] rfl rfl rfl (c_isHere l g o a pe wo tx ch jo tr dy sd f x_2 (⟨i3.1, n8⟩)) (cwV 1 hts (zgL (zl4 k53 k54 k55 k24) k51) rfl rfl rfl (by decide +kernel) ⟨Nat.le_of_ble_eq_true rfl, Nat.le_of_ble_eq_true rfl⟩) rfl rfl rfl rfl (Nat.le_of_ble_eq_true rfl) dX9_peopleHere_14 ⟨(Nat.le_of_ble_eq_true rfl), (Nat.le_of_ble_eq_true rfl)⟩ (fun q_10 H locs hq11 hP hD hS => ?_)
        replace hq11 : (q_10 = 0 ∨ q_10 = 1) := hq11
        have hP : va_P g.1 vwCl (List.flatten [bTown g o a pe wo tx ch jo tr dy sd f]) H := hP
        have hD : va_D A (List.flatten [bTown g o a pe wo tx ch jo tr dy sd f]) := hD
        refine W.widen (k := 0) (n := 0) (Nat.le_of_ble_eq_true rfl) (Nat.le_of_ble_eq_true rfl) ?_
        refine W.eq (g2 := F0 m 17 ls [.int q_10]) rfl ?_
        rcases hq11 with rfl | rfl
        · skip
          refine lv_if_eq (tgt := 26) hx hb dX9_peopleHere_17 (by decide) (fun _ => ?_) (fun c12 => absurd (by decide) c12)
          refine ziinc3 (n' := 1) (a' := 1) (b' := 8) (lv' := fun v9 => [(2, .int v9), (0, .ref o), (1, .int x_1)]) hx hb dX9_peopleHere_26 hl (k := 2) rfl (by decide) (fun _ => rfl) (zaddK (i := x_2.toInt) (j := 1) rfl (by decide) i3.1 n8 (Int.le_refl _) (Int.le_refl _) (by decide)) (fun x_13 ls hx_13 hl => ?_)
          refine lv_goto (tgt := 4) hx hb dX9_peopleHere_29 (by decide) ?_
          have hl := lv_sub (l' := [(0, .ref o), (1, .int x_1), (2, .int x_13)]) hl [1, 2, 0] rfl
          have hP : va_P g.1 vwCl (List.flatten [bTown g o a pe wo tx ch jo tr dy sd f]) H := hP
          have hD : va_D A (List.flatten [bTown g o a pe wo tx ch jo tr dy sd f]) := hD
          exact ih4_5 x_1 x_13 ⟨(Int.le_trans (by decide) hx_13.2.1), hx_13.2.2⟩ H _ ls (zmK hx_13.1 (by decide) n8 (by decide) hk4_5)  hP hD hS (lv_sub hl [0, 1, 2] rfl)
        · skip
          refine lv_if_eq (tgt := 26) hx hb dX9_peopleHere_17 (by decide) (fun c14 => absurd c14 (by decide)) (fun _ => ?_)
          refine lv_iload_n hx hb dX9_peopleHere_20 rfl (lv_at hl 1 rfl) ?_
          refine lv_iconst (v := 1) hx hb dX9_peopleHere_21 (by decide) ?_
          refine lv_iload_n hx hb dX9_peopleHere_22 rfl (lv_at hl 2 rfl) ?_
          refine lv_ishl hx hb dX9_peopleHere_23 ?_
          refine zgb (zshl1 (j := x_2.toInt) rfl 7 128 (by decide) (by decide) ⟨i3.1, n8⟩) (fun x_15 hx_15 => ?_)
          refine lv_ior hx hb dX9_peopleHere_24 ?_
          refine zg (fun x_16 => ?_)
          refine lv_istore_n (lv' := [(1, .int x_16), (0, .ref o), (2, .int x_2)]) hx hb dX9_peopleHere_25 rfl hl (by decide) rfl (fun ls hl => ?_)
          refine ziinc3 (n' := 1) (a' := 1) (b' := 8) (lv' := fun v9 => [(2, .int v9), (1, .int x_16), (0, .ref o)]) hx hb dX9_peopleHere_26 hl (k := 2) rfl (by decide) (fun _ => rfl) (zaddK (i := x_2.toInt) (j := 1) rfl (by decide) i3.1 n8 (Int.le_refl _) (Int.le_refl _) (by decide)) (fun x_17 ls hx_17 hl => ?_)
          refine lv_goto (tgt := 4) hx hb dX9_peopleHere_29 (by decide) ?_
          have hl := lv_sub (l' := [(0, .ref o), (1, .int x_16), (2, .int x_17)]) hl [2, 1, 0] rfl
          have hP : va_P g.1 vwCl (List.flatten [bTown g o a pe wo tx ch jo tr dy sd f]) H := hP
          have hD : va_D A (List.flatten [bTown g o a pe wo tx ch jo tr dy sd f]) := hD
          exact ih4_5 x_16 x_17 ⟨(Int.le_trans (by decide) hx_17.2.1), hx_17.2.2⟩ H _ ls (zmK hx_17.1 (by decide) n8 (by decide) hk4_5)  hP hD hS (lv_sub hl [0, 1, 2] rfl)
  have hP : va_P g.1 vwCl (List.flatten [bTown g o a pe wo tx ch jo tr dy sd f]) s.heap := hP
  have hD : va_D A (List.flatten [bTown g o a pe wo tx ch jo tr dy sd f]) := hD
  exact LP4_4 _ 0 0 (by decide) s.heap _ ls (Nat.lt_succ_self _)  hP hD hS (lv_sub hl [0, 1, 2] rfl)
set_option maxRecDepth 100000 in
set_option maxHeartbeats 4000000 in
theorem c_believed (l : Launch) (g : zG) (o : Nat) (a : Nat → Nat) (pe : Int32) (wo : Int32) (tx : Int32) (ch : Int32) (jo : Int32) (tr : Int32) (dy : Int32) (sd : Int32) (f : Nat → Nat → Int32) (b_pe : 0 ≤ pe.toInt ∧ pe.toInt ≤ 8) (b_wo : 0 ≤ wo.toInt ∧ wo.toInt ≤ 6) (rf : zZ4 f) : zM' g l yX9_believed (Cond.code yX9_believed cX9_believed 3 (some .int) :: zB) ({ frames := 1, cells := 0, slots := 0, locals := 21 } : Room) [.ref o] [bTown g o a pe wo tx ch jo tr dy sd f] (fun (q : Int32) => some (.int q)) (fun (q : Int32) => True) (fun (q : Int32) => [bTown g o a pe wo tx ch jo tr dy sd f]) := by
  refine zM'.of (cc := cX9_believed) (maxL := 3) (rt := (some .int)) (by decide) rfl (Nat.le_of_ble_eq_true rfl) ?_
  intro p e s m args below meth c A ls St hr hlocks hin hK hT hA hP hD hS hl
  obtain ⟨hx, hb, hml, hown, hts⟩ := id St
  have hl : lv_has ls 3 [(0, .ref o)] := hl
  refine lv_iconst (v := 0) hx hb dX9_believed_0 (by decide) ?_
  refine lv_istore_n (lv' := [(1, .int 0), (0, .ref o)]) hx hb dX9_believed_1 rfl hl (by decide) rfl (fun ls hl => ?_)
  refine lv_iconst (v := 0) hx hb dX9_believed_2 (by decide) ?_
  refine lv_istore_n (lv' := [(2, .int 0), (1, .int 0), (0, .ref o)]) hx hb dX9_believed_3 rfl hl (by decide) rfl (fun ls hl => ?_)
  have hl := lv_sub (l' := [(0, .ref o), (1, .int 0), (2, .int 0)]) hl [2, 1, 0] rfl
  have LP4_4 : ∀ (kf : Nat) (x_1 : Int32) (x_2 : Int32), (0 ≤ x_2.toInt ∧ x_2.toInt ≤ 8) → ∀ (H : Heap) (locs : List Loc) (ls : Array Slot), ((9 - x_2.toInt).toNat) < kf → va_P g.1 vwCl (List.flatten [bTown g o a pe wo tx ch jo tr dy sd f]) H → va_D A (List.flatten [bTown g o a pe wo tx ch jo tr dy sd f]) → va_S A s.heap H locs → lv_has ls 3 [(0, .ref o), (1, .int x_1), (2, .int x_2)] → W p l e ({ frames := 1, cells := 0, slots := 0, locals := 21 } : Room) s m args below meth c H locs (0) (0) (zF g (fun (q : Int32) => some (.int q)) (fun (q : Int32) => True) (fun (q : Int32) => [bTown g o a pe wo tx ch jo tr dy sd f]) ({ frames := 1, cells := 0, slots := 0, locals := 21 } : Room) below args s A) (F0 m 4 ls []) := by
    intro kf
    induction kf with
    | zero => intro x_1 x_2 i3 H locs ls hk; exact absurd hk (Nat.not_lt_zero _)
    | succ kf ih4_5 =>
      intro x_1 x_2 i3 H locs ls hk4_5 hP hD hS hl
      refine lv_iload_n hx hb dX9_believed_4 rfl (lv_at hl 2 rfl) ?_
      refine lv_aload_n hx hb dX9_believed_5 rfl (lv_at hl 0 rfl) ?_
      refine va_get (D := g.1) (ci := 7) (v := .int pe) (C := RX9) (T := TX9) (N := 19) hx hb hts izRX9 hown hK hP 0 rfl rfl 0 (by decide) (hts _ k31) (fun _ h9 => h9) rfl dX9_believed_6 ?_
      refine lv_icmp_ge (tgt := 35) hx hb dX9_believed_9 (by decide) (fun cb9 => ?_) (fun cb9 => ?_)
      · skip
        have c6 : pe.toInt ≤ x_2.toInt := zle cb9 rfl rfl
        refine lv_iload_n hx hb dX9_believed_35 rfl (lv_at hl 1 rfl) ?_
        have hP : va_P g.1 vwCl (List.flatten [bTown g o a pe wo tx ch jo tr dy sd f]) H := hP
        have hD : va_D A (List.flatten [bTown g o a pe wo tx ch jo tr dy sd f]) := hD
        exact mret_i hx hb hr hlocks hS (Nat.le_of_ble_eq_true rfl) (Nat.le_of_ble_eq_true rfl) dX9_believed_36 (x_1) rfl trivial hP hD
      · skip
        have c7 : x_2.toInt < pe.toInt := zlti (Int32.not_le.mp cb9) rfl rfl
        have n8 : x_2.toInt ≤ 7 := zL1 (b := 8) c7 b_pe.2 (by decide)
        have n9 : 1 ≤ pe.toInt := zL2 (a := 0) c7 i3.1 (by decide)
        refine lv_aload_n hx hb dX9_believed_12 rfl (lv_at hl 0 rfl) ?_
        refine lv_iload_n hx hb dX9_believed_13 rfl (lv_at hl 2 rfl) ?_
        refine mcallV' (g := g) (q0 := 0) (ci := 7) (As := [.int x_2]) (rest := []) St hK hT hA hP hD hS hl.1 [0] [] rfl rfl rfl (c_isHere l g o a pe wo tx ch jo tr dy sd f x_2 (⟨i3.1, n8⟩)) (cwV 1 hts (zgL (zl4 k53 k54 k55 k24) k51) rfl rfl rfl (by decide +kernel) ⟨Nat.le_of_ble_eq_true rfl, Nat.le_of_ble_eq_true rfl⟩) rfl rfl rfl rfl (Nat.le_of_ble_eq_true rfl) dX9_believed_14 ⟨(Nat.le_of_ble_eq_true rfl), (Nat.le_of_ble_eq_true rfl)⟩ (fun q_10 H locs hq11 hP hD hS => ?_)
        replace hq11 : (q_10 = 0 ∨ q_10 = 1) := hq11
        have hP : va_P g.1 vwCl (List.flatten [bTown g o a pe wo tx ch jo tr dy sd f]) H := hP
        have hD : va_D A (List.flatten [bTown g o a pe wo tx ch jo tr dy sd f]) := hD
        refine W.widen (k := 0) (n := 0) (Nat.le_of_ble_eq_true rfl) (Nat.le_of_ble_eq_true rfl) ?_
        refine W.eq (g2 := F0 m 17 ls [.int q_10]) rfl ?_
        rcases hq11 with rfl | rfl
        · skip
          refine lv_if_eq (tgt := 29) hx hb dX9_believed_17 (by decide) (fun _ => ?_) (fun c12 => absurd (by decide) c12)
          refine ziinc3 (n' := 1) (a' := 1) (b' := 8) (lv' := fun v9 => [(2, .int v9), (0, .ref o), (1, .int x_1)]) hx hb dX9_believed_29 hl (k := 2) rfl (by decide) (fun _ => rfl) (zaddK (i := x_2.toInt) (j := 1) rfl (by decide) i3.1 n8 (Int.le_refl _) (Int.le_refl _) (by decide)) (fun x_13 ls hx_13 hl => ?_)
          refine lv_goto (tgt := 4) hx hb dX9_believed_32 (by decide) ?_
          have hl := lv_sub (l' := [(0, .ref o), (1, .int x_1), (2, .int x_13)]) hl [1, 2, 0] rfl
          have hP : va_P g.1 vwCl (List.flatten [bTown g o a pe wo tx ch jo tr dy sd f]) H := hP
          have hD : va_D A (List.flatten [bTown g o a pe wo tx ch jo tr dy sd f]) := hD
          exact ih4_5 x_1 x_13 ⟨(Int.le_trans (by decide) hx_13.2.1), hx_13.2.2⟩ H _ ls (zmK hx_13.1 (by decide) n8 (by decide) hk4_5)  hP hD hS (lv_sub hl [0, 1, 2] rfl)
        · skip
          refine lv_if_eq (tgt := 29) hx hb dX9_believed_17 (by decide) (fun c14 => absurd c14 (by decide)) (fun _ => ?_)
          refine lv_iload_n hx hb dX9_believed_20 rfl (lv_at hl 1 rfl) ?_
          refine lv_aload_n hx hb dX9_believed_21 rfl (lv_at hl 0 rfl) ?_
          refine va_get (D := g.1) (ci := 7) (v := .ref (a 0)) (C := RX9) (T := TX9) (N := 19) hx hb hts izRX9 hown hK hP 0 rfl rfl 8 (by decide) (hts _ k9) (fun _ h9 => h9) rfl dX9_believed_22 ?_
          refine lv_iload_n hx hb dX9_believed_25 rfl (lv_at hl 2 rfl) ?_
          refine va_iald hx hb hK hP 1 0 rfl rfl (zinK (a := 0) (b := 7) i3.1 n8 (by decide)) dX9_believed_26 ?_
          refine zg (fun x_15 => ?_)
          refine lv_iadd hx hb dX9_believed_27 ?_
          refine zg (fun x_16 => ?_)
          refine lv_istore_n (lv' := [(1, .int x_16), (0, .ref o), (2, .int x_2)]) hx hb dX9_believed_28 rfl hl (by decide) rfl (fun ls hl => ?_)
          refine ziinc3 (n' := 1) (a' := 1) (b' := 8) (lv' := fun v9 => [(2, .int v9), (1, .int x_16), (0, .ref o)]) hx hb dX9_believed_29 hl (k := 2) rfl (by decide) (fun _ => rfl) (zaddK (i := x_2.toInt) (j := 1) rfl (by decide) i3.1 n8 (Int.le_refl _) (Int.le_refl _) (by decide)) (fun x_17 ls hx_17 hl => ?_)
          refine lv_goto (tgt := 4) hx hb dX9_believed_32 (by decide) ?_
          have hl := lv_sub (l' := [(0, .ref o), (1, .int x_16), (2, .int x_17)]) hl [2, 1, 0] rfl
          have hP : va_P g.1 vwCl (List.flatten [bTown g o a pe wo tx ch jo tr dy sd f]) H := hP
          have hD : va_D A (List.flatten [bTown g o a pe wo tx ch jo tr dy sd f]) := hD
          exact ih4_5 x_16 x_17 ⟨(Int.le_trans (by decide) hx_17.2.1), hx_17.2.2⟩ H _ ls (zmK hx_17.1 (by decide) n8 (by decide) hk4_5)  hP hD hS (lv_sub hl [0, 1, 2] rfl)
  have hP : va_P g.1 vwCl (List.flatten [bTown g o a pe wo tx ch jo tr dy sd f]) s.heap := hP
  have hD : va_D A (List.flatten [bTown g o a pe wo tx ch jo tr dy sd f]) := hD
  exact LP4_4 _ 0 0 (by decide) s.heap _ ls (Nat.lt_succ_self _)  hP hD hS (lv_sub hl [0, 1, 2] rfl)
set_option maxRecDepth 100000 in
set_option maxHeartbeats 4000000 in
theorem c_meanBelief (l : Launch) (g : zG) (o : Nat) (a : Nat → Nat) (pe : Int32) (wo : Int32) (tx : Int32) (ch : Int32) (jo : Int32) (tr : Int32) (dy : Int32) (sd : Int32) (f : Nat → Nat → Int32) (b_pe : 0 ≤ pe.toInt ∧ pe.toInt ≤ 8) (b_wo : 0 ≤ wo.toInt ∧ wo.toInt ≤ 6) (rf : zZ4 f) : zM' g l yX9_meanBelief (Cond.code yX9_meanBelief cX9_meanBelief 2 (some .int) :: zB) ({ frames := 2, cells := 0, slots := 0, locals := 43 } : Room) [.ref o] [bTown g o a pe wo tx ch jo tr dy sd f] (fun (q : Int32) => some (.int q)) (fun (q : Int32) => True) (fun (q : Int32) => [bTown g o a pe wo tx ch jo tr dy sd f]) := by
  refine zM'.of (cc := cX9_meanBelief) (maxL := 2) (rt := (some .int)) (by decide) rfl (Nat.le_of_ble_eq_true rfl) ?_
  intro p e s m args below meth c A ls St hr hlocks hin hK hT hA hP hD hS hl
  obtain ⟨hx, hb, hml, hown, hts⟩ := id St
  have hl : lv_has ls 2 [(0, .ref o)] := hl
  refine lv_aload_n hx hb dX9_meanBelief_0 rfl (lv_at hl 0 rfl) ?_
  refine mcallV' (g := g) (q0 := 0) (ci := 7) (As := []) (rest := []) St hK hT hA hP hD hS hl.1 [0] [] rfl rfl rfl (c_peopleHere l g o a pe wo tx ch jo tr dy sd f b_pe b_wo rf) (cwV 0 hts (zgL (zl4 k62 k63 k64 k24) k52) rfl rfl rfl (by decide +kernel) ⟨Nat.le_of_ble_eq_true rfl, Nat.le_of_ble_eq_true rfl⟩) rfl rfl rfl rfl (Nat.le_of_ble_eq_true rfl) dX9_meanBelief_1 ⟨(Nat.le_of_ble_eq_true rfl), (Nat.le_of_ble_eq_true rfl)⟩ (fun q_1 H locs hq2 hP hD hS => ?_)
  have hP : va_P g.1 vwCl (List.flatten [bTown g o a pe wo tx ch jo tr dy sd f]) H := hP
  have hD : va_D A (List.flatten [bTown g o a pe wo tx ch jo tr dy sd f]) := hD
  refine W.widen (k := 0) (n := 0) (Nat.le_of_ble_eq_true rfl) (Nat.le_of_ble_eq_true rfl) ?_
  refine W.eq (g2 := F0 m 4 ls [.int q_1]) rfl ?_
  refine mcallS' (g := g) (As := [.int q_1]) (rest := []) St hK hT hA hP hD hS hl.1 [] [0] rfl rfl rfl (j_bitCount l g q_1 ) (va_cwS 1 hts (zgL (zl3 k65 k66 k67) k56) rfl rfl rfl (by decide +kernel) ⟨Nat.le_of_ble_eq_true rfl, Nat.le_of_ble_eq_true rfl⟩) rfl rfl (Nat.le_of_ble_eq_true rfl) dX9_meanBelief_4 ⟨(Nat.le_of_ble_eq_true rfl), (Nat.le_of_ble_eq_true rfl)⟩ (fun q_3 H locs hq4 hP hD hS => ?_)
  have hP : va_P g.1 vwCl (List.flatten [bTown g o a pe wo tx ch jo tr dy sd f]) H := hP
  have hD : va_D A (List.flatten [bTown g o a pe wo tx ch jo tr dy sd f]) := hD
  refine W.widen (k := 0) (n := 0) (Nat.le_of_ble_eq_true rfl) (Nat.le_of_ble_eq_true rfl) ?_
  refine W.eq (g2 := F0 m 7 ls [.int q_3]) rfl ?_
  refine lv_istore_n (lv' := [(1, .int q_3), (0, .ref o)]) hx hb dX9_meanBelief_7 rfl hl (by decide) rfl (fun ls hl => ?_)
  refine lv_iload_n hx hb dX9_meanBelief_8 rfl (lv_at hl 0 rfl) ?_
  refine lv_if_ne (tgt := 16) hx hb dX9_meanBelief_9 (by decide) (fun cb9 => ?_) (fun cb9 => ?_)
  · skip
    have c5 : ¬ q_3.toInt = 0 := zne cb9 rfl (by decide)
    refine lv_aload_n hx hb dX9_meanBelief_16 rfl (lv_at hl 1 rfl) ?_
    refine mcallV' (g := g) (q0 := 0) (ci := 7) (As := []) (rest := []) St hK hT hA hP hD hS hl.1 [0] [] rfl rfl rfl (c_believed l g o a pe wo tx ch jo tr dy sd f b_pe b_wo rf) (cwV 0 hts (zgL (zl4 k68 k69 k70 k24) k60) rfl rfl rfl (by decide +kernel) ⟨Nat.le_of_ble_eq_true rfl, Nat.le_of_ble_eq_true rfl⟩) rfl rfl rfl rfl (Nat.le_of_ble_eq_true rfl) dX9_meanBelief_17 ⟨(Nat.le_of_ble_eq_true rfl), (Nat.le_of_ble_eq_true rfl)⟩ (fun q_6 H locs hq7 hP hD hS => ?_)
    have hP : va_P g.1 vwCl (List.flatten [bTown g o a pe wo tx ch jo tr dy sd f]) H := hP
    have hD : va_D A (List.flatten [bTown g o a pe wo tx ch jo tr dy sd f]) := hD
    refine W.widen (k := 0) (n := 0) (Nat.le_of_ble_eq_true rfl) (Nat.le_of_ble_eq_true rfl) ?_
    refine W.eq (g2 := F0 m 20 ls [.int q_6]) rfl ?_
    refine lv_iload_n hx hb dX9_meanBelief_20 rfl (lv_at hl 0 rfl) ?_
    refine lv_idiv hx hb dX9_meanBelief_21 (zne0 (by omega)) ?_
    refine zg (fun x_8 => ?_)
    have hP : va_P g.1 vwCl (List.flatten [bTown g o a pe wo tx ch jo tr dy sd f]) H := hP
    have hD : va_D A (List.flatten [bTown g o a pe wo tx ch jo tr dy sd f]) := hD
    exact mret_i hx hb hr hlocks hS (Nat.le_of_ble_eq_true rfl) (Nat.le_of_ble_eq_true rfl) dX9_meanBelief_22 (x_8) rfl trivial hP hD
  · skip
    have c9 : q_3.toInt = 0 := zeq cb9 rfl (by decide)
    have n10 : 0 ≤ q_3.toInt := Int.le_trans (Int.le_refl _) (Int.le_of_eq c9.symm)
    have n11 : q_3.toInt ≤ 0 := Int.le_trans (Int.le_of_eq c9) (Int.le_refl _)
    refine lv_iconst (v := 0) hx hb dX9_meanBelief_12 (by decide) ?_
    refine lv_goto (tgt := 22) hx hb dX9_meanBelief_13 (by decide) ?_
    have hP : va_P g.1 vwCl (List.flatten [bTown g o a pe wo tx ch jo tr dy sd f]) H := hP
    have hD : va_D A (List.flatten [bTown g o a pe wo tx ch jo tr dy sd f]) := hD
    exact mret_i hx hb hr hlocks hS (Nat.le_of_ble_eq_true rfl) (Nat.le_of_ble_eq_true rfl) dX9_meanBelief_22 ((0 : Int32)) rfl trivial hP hD
set_option maxRecDepth 100000 in
set_option maxHeartbeats 4000000 in
theorem c_sharePrice (l : Launch) (g : zG) (o : Nat) (a : Nat → Nat) (pe : Int32) (wo : Int32) (tx : Int32) (ch : Int32) (jo : Int32) (tr : Int32) (dy : Int32) (sd : Int32) (f : Nat → Nat → Int32) (b_pe : 0 ≤ pe.toInt ∧ pe.toInt ≤ 8) (b_wo : 0 ≤ wo.toInt ∧ wo.toInt ≤ 6) (rf : zZ4 f) : zM' g l yX9_sharePrice (Cond.code yX9_sharePrice cX9_sharePrice 2 (some .int) :: zB) ({ frames := 3, cells := 0, slots := 0, locals := 64 } : Room) [.ref o] [bTown g o a pe wo tx ch jo tr dy sd f] (fun (q : Int32) => some (.int q)) (fun (q : Int32) => True) (fun (q : Int32) => [bTown g o a pe wo tx ch jo tr dy sd f]) := by
  refine zM'.of (cc := cX9_sharePrice) (maxL := 2) (rt := (some .int)) (by decide) rfl (Nat.le_of_ble_eq_true rfl) ?_
  intro p e s m args below meth c A ls St hr hlocks hin hK hT hA hP hD hS hl
  obtain ⟨hx, hb, hml, hown, hts⟩ := id St
  have hl : lv_has ls 2 [(0, .ref o)] := hl
  refine lv_aload_n hx hb dX9_sharePrice_0 rfl (lv_at hl 0 rfl) ?_
  refine mcallV' (g := g) (q0 := 0) (ci := 7) (As := []) (rest := []) St hK hT hA hP hD hS hl.1 [0] [] rfl rfl rfl (c_meanBelief l g o a pe wo tx ch jo tr dy sd f b_pe b_wo rf) (cwV 0 hts (zgL (zl4 k76 k77 k78 k24) k61) rfl rfl rfl (by decide +kernel) ⟨Nat.le_of_ble_eq_true rfl, Nat.le_of_ble_eq_true rfl⟩) rfl rfl rfl rfl (Nat.le_of_ble_eq_true rfl) dX9_sharePrice_1 ⟨(Nat.le_of_ble_eq_true rfl), (Nat.le_of_ble_eq_true rfl)⟩ (fun q_1 H locs hq2 hP hD hS => ?_)
  have hP : va_P g.1 vwCl (List.flatten [bTown g o a pe wo tx ch jo tr dy sd f]) H := hP
  have hD : va_D A (List.flatten [bTown g o a pe wo tx ch jo tr dy sd f]) := hD
  refine W.widen (k := 0) (n := 0) (Nat.le_of_ble_eq_true rfl) (Nat.le_of_ble_eq_true rfl) ?_
  refine W.eq (g2 := F0 m 4 ls [.int q_1]) rfl ?_
  refine lv_istore_n (lv' := [(1, .int q_1), (0, .ref o)]) hx hb dX9_sharePrice_4 rfl hl (by decide) rfl (fun ls hl => ?_)
  refine lv_iload_n hx hb dX9_sharePrice_5 rfl (lv_at hl 0 rfl) ?_
  refine lv_iload_n hx hb dX9_sharePrice_6 rfl (lv_at hl 0 rfl) ?_
  refine lv_imul hx hb dX9_sharePrice_7 ?_
  refine zg (fun x_3 => ?_)
  refine lv_bipush (v := 50) hx hb dX9_sharePrice_8 (by decide) ?_
  refine lv_idiv hx hb dX9_sharePrice_10 (by decide) ?_
  refine zg (fun x_4 => ?_)
  refine lv_iconst (v := 1) hx hb dX9_sharePrice_11 (by decide) ?_
  refine lv_iadd hx hb dX9_sharePrice_12 ?_
  refine zg (fun x_5 => ?_)
  have hP : va_P g.1 vwCl (List.flatten [bTown g o a pe wo tx ch jo tr dy sd f]) H := hP
  have hD : va_D A (List.flatten [bTown g o a pe wo tx ch jo tr dy sd f]) := hD
  exact mret_i hx hb hr hlocks hS (Nat.le_of_ble_eq_true rfl) (Nat.le_of_ble_eq_true rfl) dX9_sharePrice_13 (x_5) rfl trivial hP hD
set_option maxRecDepth 100000 in
set_option maxHeartbeats 4000000 in
theorem c_doubters (l : Launch) (g : zG) (o : Nat) (a : Nat → Nat) (pe : Int32) (wo : Int32) (tx : Int32) (ch : Int32) (jo : Int32) (tr : Int32) (dy : Int32) (sd : Int32) (f : Nat → Nat → Int32) (b_pe : 0 ≤ pe.toInt ∧ pe.toInt ≤ 8) (b_wo : 0 ≤ wo.toInt ∧ wo.toInt ≤ 6) (rf : zZ4 f) : zM' g l yX9_doubters (Cond.code yX9_doubters cX9_doubters 3 (some .int) :: zB) ({ frames := 1, cells := 0, slots := 0, locals := 21 } : Room) [.ref o] [bTown g o a pe wo tx ch jo tr dy sd f] (fun (q : Int32) => some (.int q)) (fun (q : Int32) => True) (fun (q : Int32) => [bTown g o a pe wo tx ch jo tr dy sd f]) := by
  refine zM'.of (cc := cX9_doubters) (maxL := 3) (rt := (some .int)) (by decide) rfl (Nat.le_of_ble_eq_true rfl) ?_
  intro p e s m args below meth c A ls St hr hlocks hin hK hT hA hP hD hS hl
  obtain ⟨hx, hb, hml, hown, hts⟩ := id St
  have hl : lv_has ls 3 [(0, .ref o)] := hl
  refine lv_iconst (v := 0) hx hb dX9_doubters_0 (by decide) ?_
  refine lv_istore_n (lv' := [(1, .int 0), (0, .ref o)]) hx hb dX9_doubters_1 rfl hl (by decide) rfl (fun ls hl => ?_)
  refine lv_iconst (v := 0) hx hb dX9_doubters_2 (by decide) ?_
  refine lv_istore_n (lv' := [(2, .int 0), (1, .int 0), (0, .ref o)]) hx hb dX9_doubters_3 rfl hl (by decide) rfl (fun ls hl => ?_)
  have hl := lv_sub (l' := [(0, .ref o), (1, .int 0), (2, .int 0)]) hl [2, 1, 0] rfl
  have LP4_4 : ∀ (kf : Nat) (x_1 : Int32) (x_2 : Int32), (0 ≤ x_2.toInt ∧ x_2.toInt ≤ 8) → ∀ (H : Heap) (locs : List Loc) (ls : Array Slot), ((9 - x_2.toInt).toNat) < kf → va_P g.1 vwCl (List.flatten [bTown g o a pe wo tx ch jo tr dy sd f]) H → va_D A (List.flatten [bTown g o a pe wo tx ch jo tr dy sd f]) → va_S A s.heap H locs → lv_has ls 3 [(0, .ref o), (1, .int x_1), (2, .int x_2)] → W p l e ({ frames := 1, cells := 0, slots := 0, locals := 21 } : Room) s m args below meth c H locs (0) (0) (zF g (fun (q : Int32) => some (.int q)) (fun (q : Int32) => True) (fun (q : Int32) => [bTown g o a pe wo tx ch jo tr dy sd f]) ({ frames := 1, cells := 0, slots := 0, locals := 21 } : Room) below args s A) (F0 m 4 ls []) := by
    intro kf
    induction kf with
    | zero => intro x_1 x_2 i3 H locs ls hk; exact absurd hk (Nat.not_lt_zero _)
    | succ kf ih4_5 =>
      intro x_1 x_2 i3 H locs ls hk4_5 hP hD hS hl
      refine lv_iload_n hx hb dX9_doubters_4 rfl (lv_at hl 2 rfl) ?_
      refine lv_aload_n hx hb dX9_doubters_5 rfl (lv_at hl 0 rfl) ?_
      refine va_get (D := g.1) (ci := 7) (v := .int pe) (C := RX9) (T := TX9) (N := 19) hx hb hts izRX9 hown hK hP 0 rfl rfl 0 (by decide) (hts _ k31) (fun _ h9 => h9) rfl dX9_doubters_6 ?_
      refine lv_icmp_ge (tgt := 43) hx hb dX9_doubters_9 (by decide) (fun cb9 => ?_) (fun cb9 => ?_)
      · skip
        have c6 : pe.toInt ≤ x_2.toInt := zle cb9 rfl rfl
        refine lv_iload_n hx hb dX9_doubters_43 rfl (lv_at hl 1 rfl) ?_
        have hP : va_P g.1 vwCl (List.flatten [bTown g o a pe wo tx ch jo tr dy sd f]) H := hP
        have hD : va_D A (List.flatten [bTown g o a pe wo tx ch jo tr dy sd f]) := hD
        exact mret_i hx hb hr hlocks hS (Nat.le_of_ble_eq_true rfl) (Nat.le_of_ble_eq_true rfl) dX9_doubters_44 (x_1) rfl trivial hP hD
      · skip
        have c7 : x_2.toInt < pe.toInt := zlti (Int32.not_le.mp cb9) rfl rfl
        have n8 : x_2.toInt ≤ 7 := zL1 (b := 8) c7 b_pe.2 (by decide)
        have n9 : 1 ≤ pe.toInt := zL2 (a := 0) c7 i3.1 (by decide)
        refine lv_aload_n hx hb dX9_doubters_12 rfl (lv_at hl 0 rfl) ?_
        refine lv_iload_n hx hb dX9_doubters_13 rfl (lv_at hl 2 rfl) ?_
        refine mcallV' (g := g) (q0 := 0) (ci := 7) (As := [.int x_2]) (rest := []) St hK hT hA hP hD hS hl.1 [0] [] rfl rfl rfl (c_isHere l g o a pe wo tx ch jo tr dy sd f x_2 (⟨i3.1, n8⟩)) (cwV 1 hts (zgL (zl4 k53 k54 k55 k24) k51) rfl rfl rfl (by decide +kernel) ⟨Nat.le_of_ble_eq_true rfl, Nat.le_of_ble_eq_true rfl⟩) rfl rfl rfl rfl (Nat.le_of_ble_eq_true rfl) dX9_doubters_14 ⟨(Nat.le_of_ble_eq_true rfl), (Nat.le_of_ble_eq_true rfl)⟩ (fun q_10 H locs hq11 hP hD hS => ?_)
        replace hq11 : (q_10 = 0 ∨ q_10 = 1) := hq11
        have hP : va_P g.1 vwCl (List.flatten [bTown g o a pe wo tx ch jo tr dy sd f]) H := hP
        have hD : va_D A (List.flatten [bTown g o a pe wo tx ch jo tr dy sd f]) := hD
        refine W.widen (k := 0) (n := 0) (Nat.le_of_ble_eq_true rfl) (Nat.le_of_ble_eq_true rfl) ?_
        refine W.eq (g2 := F0 m 17 ls [.int q_10]) rfl ?_
        rcases hq11 with rfl | rfl
        · skip
          refine lv_if_eq (tgt := 37) hx hb dX9_doubters_17 (by decide) (fun _ => ?_) (fun c12 => absurd (by decide) c12)
          refine ziinc3 (n' := 1) (a' := 1) (b' := 8) (lv' := fun v9 => [(2, .int v9), (0, .ref o), (1, .int x_1)]) hx hb dX9_doubters_37 hl (k := 2) rfl (by decide) (fun _ => rfl) (zaddK (i := x_2.toInt) (j := 1) rfl (by decide) i3.1 n8 (Int.le_refl _) (Int.le_refl _) (by decide)) (fun x_13 ls hx_13 hl => ?_)
          refine lv_goto (tgt := 4) hx hb dX9_doubters_40 (by decide) ?_
          have hl := lv_sub (l' := [(0, .ref o), (1, .int x_1), (2, .int x_13)]) hl [1, 2, 0] rfl
          have hP : va_P g.1 vwCl (List.flatten [bTown g o a pe wo tx ch jo tr dy sd f]) H := hP
          have hD : va_D A (List.flatten [bTown g o a pe wo tx ch jo tr dy sd f]) := hD
          exact ih4_5 x_1 x_13 ⟨(Int.le_trans (by decide) hx_13.2.1), hx_13.2.2⟩ H _ ls (zmK hx_13.1 (by decide) n8 (by decide) hk4_5)  hP hD hS (lv_sub hl [0, 1, 2] rfl)
        · skip
          refine lv_if_eq (tgt := 37) hx hb dX9_doubters_17 (by decide) (fun c14 => absurd c14 (by decide)) (fun _ => ?_)
          refine lv_aload_n hx hb dX9_doubters_20 rfl (lv_at hl 0 rfl) ?_
          refine va_get (D := g.1) (ci := 7) (v := .ref (a 0)) (C := RX9) (T := TX9) (N := 19) hx hb hts izRX9 hown hK hP 0 rfl rfl 8 (by decide) (hts _ k9) (fun _ h9 => h9) rfl dX9_doubters_21 ?_
          refine lv_iload_n hx hb dX9_doubters_24 rfl (lv_at hl 2 rfl) ?_
          refine va_iald hx hb hK hP 1 0 rfl rfl (zinK (a := 0) (b := 7) i3.1 n8 (by decide)) dX9_doubters_25 ?_
          refine zg (fun x_15 => ?_)
          refine lv_bipush (v := 33) hx hb dX9_doubters_26 (by decide) ?_
          refine lv_icmp_ge (tgt := 37) hx hb dX9_doubters_28 (by decide) (fun cb9 => ?_) (fun cb9 => ?_)
          · skip
            have c16 : 33 ≤ x_15.toInt := zle cb9 (by decide) rfl
            have n17 : 33 ≤ x_15.toInt := Int.le_trans (Int.le_refl _) c16
            refine ziinc3 (n' := 1) (a' := 1) (b' := 8) (lv' := fun v9 => [(2, .int v9), (0, .ref o), (1, .int x_1)]) hx hb dX9_doubters_37 hl (k := 2) rfl (by decide) (fun _ => rfl) (zaddK (i := x_2.toInt) (j := 1) rfl (by decide) i3.1 n8 (Int.le_refl _) (Int.le_refl _) (by decide)) (fun x_18 ls hx_18 hl => ?_)
            refine lv_goto (tgt := 4) hx hb dX9_doubters_40 (by decide) ?_
            have hl := lv_sub (l' := [(0, .ref o), (1, .int x_1), (2, .int x_18)]) hl [1, 2, 0] rfl
            have hP : va_P g.1 vwCl (List.flatten [bTown g o a pe wo tx ch jo tr dy sd f]) H := hP
            have hD : va_D A (List.flatten [bTown g o a pe wo tx ch jo tr dy sd f]) := hD
            exact ih4_5 x_1 x_18 ⟨(Int.le_trans (by decide) hx_18.2.1), hx_18.2.2⟩ H _ ls (zmK hx_18.1 (by decide) n8 (by decide) hk4_5)  hP hD hS (lv_sub hl [0, 1, 2] rfl)
          · skip
            have c19 : x_15.toInt < 33 := zlti (Int32.not_le.mp cb9) rfl (by decide)
            have n20 : x_15.toInt ≤ 32 := zL1 (b := 33) c19 (Int.le_refl _) (by decide)
            refine lv_iload_n hx hb dX9_doubters_31 rfl (lv_at hl 1 rfl) ?_
            refine lv_iconst (v := 1) hx hb dX9_doubters_32 (by decide) ?_
            refine lv_iload_n hx hb dX9_doubters_33 rfl (lv_at hl 2 rfl) ?_
            refine lv_ishl hx hb dX9_doubters_34 ?_
            refine zgb (zshl1 (j := x_2.toInt) rfl 7 128 (by decide) (by decide) ⟨i3.1, n8⟩) (fun x_21 hx_21 => ?_)
            refine lv_ior hx hb dX9_doubters_35 ?_
            refine zg (fun x_22 => ?_)
            refine lv_istore_n (lv' := [(1, .int x_22), (0, .ref o), (2, .int x_2)]) hx hb dX9_doubters_36 rfl hl (by decide) rfl (fun ls hl => ?_)
            refine ziinc3 (n' := 1) (a' := 1) (b' := 8) (lv' := fun v9 => [(2, .int v9), (1, .int x_22), (0, .ref o)]) hx hb dX9_doubters_37 hl (k := 2) rfl (by decide) (fun _ => rfl) (zaddK (i := x_2.toInt) (j := 1) rfl (by decide) i3.1 n8 (Int.le_refl _) (Int.le_refl _) (by decide)) (fun x_23 ls hx_23 hl => ?_)
            refine lv_goto (tgt := 4) hx hb dX9_doubters_40 (by decide) ?_
            have hl := lv_sub (l' := [(0, .ref o), (1, .int x_22), (2, .int x_23)]) hl [2, 1, 0] rfl
            have hP : va_P g.1 vwCl (List.flatten [bTown g o a pe wo tx ch jo tr dy sd f]) H := hP
            have hD : va_D A (List.flatten [bTown g o a pe wo tx ch jo tr dy sd f]) := hD
            exact ih4_5 x_22 x_23 ⟨(Int.le_trans (by decide) hx_23.2.1), hx_23.2.2⟩ H _ ls (zmK hx_23.1 (by decide) n8 (by decide) hk4_5)  hP hD hS (lv_sub hl [0, 1, 2] rfl)
  have hP : va_P g.1 vwCl (List.flatten [bTown g o a pe wo tx ch jo tr dy sd f]) s.heap := hP
  have hD : va_D A (List.flatten [bTown g o a pe wo tx ch jo tr dy sd f]) := hD
  exact LP4_4 _ 0 0 (by decide) s.heap _ ls (Nat.lt_succ_self _)  hP hD hS (lv_sub hl [0, 1, 2] rfl)
set_option maxRecDepth 100000 in
set_option maxHeartbeats 4000000 in
theorem c_sharesOfAll (l : Launch) (g : zG) (o : Nat) (a : Nat → Nat) (pe : Int32) (wo : Int32) (tx : Int32) (ch : Int32) (jo : Int32) (tr : Int32) (dy : Int32) (sd : Int32) (f : Nat → Nat → Int32) (b_pe : 0 ≤ pe.toInt ∧ pe.toInt ≤ 8) (b_wo : 0 ≤ wo.toInt ∧ wo.toInt ≤ 6) (rf : zZ4 f) : zM' g l yX9_sharesOfAll (Cond.code yX9_sharesOfAll cX9_sharesOfAll 3 (some .int) :: zB) ({ frames := 0, cells := 0, slots := 0, locals := 0 } : Room) [.ref o] [bTown g o a pe wo tx ch jo tr dy sd f] (fun (q : Int32) => some (.int q)) (fun (q : Int32) => True) (fun (q : Int32) => [bTown g o a pe wo tx ch jo tr dy sd f]) := by
  refine zM'.of (cc := cX9_sharesOfAll) (maxL := 3) (rt := (some .int)) (by decide) rfl (Nat.le_of_ble_eq_true rfl) ?_
  intro p e s m args below meth c A ls St hr hlocks hin hK hT hA hP hD hS hl
  obtain ⟨hx, hb, hml, hown, hts⟩ := id St
  have hl : lv_has ls 3 [(0, .ref o)] := hl
  refine lv_iconst (v := 0) hx hb dX9_sharesOfAll_0 (by decide) ?_
  refine lv_istore_n (lv' := [(1, .int 0), (0, .ref o)]) hx hb dX9_sharesOfAll_1 rfl hl (by decide) rfl (fun ls hl => ?_)
  refine lv_iconst (v := 0) hx hb dX9_sharesOfAll_2 (by decide) ?_
  refine lv_istore_n (lv' := [(2, .int 0), (1, .int 0), (0, .ref o)]) hx hb dX9_sharesOfAll_3 rfl hl (by decide) rfl (fun ls hl => ?_)
  have hl := lv_sub (l' := [(0, .ref o), (1, .int 0), (2, .int 0)]) hl [2, 1, 0] rfl
  have LP4_4 : ∀ (kf : Nat) (x_1 : Int32) (x_2 : Int32), (0 ≤ x_2.toInt ∧ x_2.toInt ≤ 8) → ∀ (H : Heap) (locs : List Loc) (ls : Array Slot), ((9 - x_2.toInt).toNat) < kf → va_P g.1 vwCl (List.flatten [bTown g o a pe wo tx ch jo tr dy sd f]) H → va_D A (List.flatten [bTown g o a pe wo tx ch jo tr dy sd f]) → va_S A s.heap H locs → lv_has ls 3 [(0, .ref o), (1, .int x_1), (2, .int x_2)] → W p l e ({ frames := 0, cells := 0, slots := 0, locals := 0 } : Room) s m args below meth c H locs (0) (0) (zF g (fun (q : Int32) => some (.int q)) (fun (q : Int32) => True) (fun (q : Int32) => [bTown g o a pe wo tx ch jo tr dy sd f]) ({ frames := 0, cells := 0, slots := 0, locals := 0 } : Room) below args s A) (F0 m 4 ls []) := by
    intro kf
    induction kf with
    | zero => intro x_1 x_2 i3 H locs ls hk; exact absurd hk (Nat.not_lt_zero _)
    | succ kf ih4_5 =>
      intro x_1 x_2 i3 H locs ls hk4_5 hP hD hS hl
      refine lv_iload_n hx hb dX9_sharesOfAll_4 rfl (lv_at hl 2 rfl) ?_
      refine lv_aload_n hx hb dX9_sharesOfAll_5 rfl (lv_at hl 0 rfl) ?_
      refine va_get (D := g.1) (ci := 7) (v := .int pe) (C := RX9) (T := TX9) (N := 19) hx hb hts izRX9 hown hK hP 0 rfl rfl 0 (by decide) (hts _ k31) (fun _ h9 => h9) rfl dX9_sharesOfAll_6 ?_
      refine lv_icmp_ge (tgt := 27) hx hb dX9_sharesOfAll_9 (by decide) (fun cb9 => ?_) (fun cb9 => ?_)
      · skip
        have c6 : pe.toInt ≤ x_2.toInt := zle cb9 rfl rfl
        refine lv_iload_n hx hb dX9_sharesOfAll_27 rfl (lv_at hl 1 rfl) ?_
        have hP : va_P g.1 vwCl (List.flatten [bTown g o a pe wo tx ch jo tr dy sd f]) H := hP
        have hD : va_D A (List.flatten [bTown g o a pe wo tx ch jo tr dy sd f]) := hD
        exact mret_i hx hb hr hlocks hS (Nat.le_of_ble_eq_true rfl) (Nat.le_of_ble_eq_true rfl) dX9_sharesOfAll_28 (x_1) rfl trivial hP hD
      · skip
        have c7 : x_2.toInt < pe.toInt := zlti (Int32.not_le.mp cb9) rfl rfl
        have n8 : x_2.toInt ≤ 7 := zL1 (b := 8) c7 b_pe.2 (by decide)
        have n9 : 1 ≤ pe.toInt := zL2 (a := 0) c7 i3.1 (by decide)
        refine lv_iload_n hx hb dX9_sharesOfAll_12 rfl (lv_at hl 1 rfl) ?_
        refine lv_aload_n hx hb dX9_sharesOfAll_13 rfl (lv_at hl 0 rfl) ?_
        refine va_get (D := g.1) (ci := 7) (v := .ref (a 2)) (C := RX9) (T := TX9) (N := 19) hx hb hts izRX9 hown hK hP 0 rfl rfl 10 (by decide) (hts _ k11) (fun _ h9 => h9) rfl dX9_sharesOfAll_14 ?_
        refine lv_iload_n hx hb dX9_sharesOfAll_17 rfl (lv_at hl 2 rfl) ?_
        refine va_iald hx hb hK hP 3 0 rfl rfl (zinK (a := 0) (b := 7) i3.1 n8 (by decide)) dX9_sharesOfAll_18 ?_
        refine zg (fun x_10 => ?_)
        refine lv_iadd hx hb dX9_sharesOfAll_19 ?_
        refine zg (fun x_11 => ?_)
        refine lv_istore_n (lv' := [(1, .int x_11), (0, .ref o), (2, .int x_2)]) hx hb dX9_sharesOfAll_20 rfl hl (by decide) rfl (fun ls hl => ?_)
        refine ziinc3 (n' := 1) (a' := 1) (b' := 8) (lv' := fun v9 => [(2, .int v9), (1, .int x_11), (0, .ref o)]) hx hb dX9_sharesOfAll_21 hl (k := 2) rfl (by decide) (fun _ => rfl) (zaddK (i := x_2.toInt) (j := 1) rfl (by decide) i3.1 n8 (Int.le_refl _) (Int.le_refl _) (by decide)) (fun x_12 ls hx_12 hl => ?_)
        refine lv_goto (tgt := 4) hx hb dX9_sharesOfAll_24 (by decide) ?_
        have hl := lv_sub (l' := [(0, .ref o), (1, .int x_11), (2, .int x_12)]) hl [2, 1, 0] rfl
        have hP : va_P g.1 vwCl (List.flatten [bTown g o a pe wo tx ch jo tr dy sd f]) H := hP
        have hD : va_D A (List.flatten [bTown g o a pe wo tx ch jo tr dy sd f]) := hD
        exact ih4_5 x_11 x_12 ⟨(Int.le_trans (by decide) hx_12.2.1), hx_12.2.2⟩ H _ ls (zmK hx_12.1 (by decide) n8 (by decide) hk4_5)  hP hD hS (lv_sub hl [0, 1, 2] rfl)
  have hP : va_P g.1 vwCl (List.flatten [bTown g o a pe wo tx ch jo tr dy sd f]) s.heap := hP
  have hD : va_D A (List.flatten [bTown g o a pe wo tx ch jo tr dy sd f]) := hD
  exact LP4_4 _ 0 0 (by decide) s.heap _ ls (Nat.lt_succ_self _)  hP hD hS (lv_sub hl [0, 1, 2] rfl)
set_option maxRecDepth 100000 in
set_option maxHeartbeats 4000000 in
theorem c_isRuined (l : Launch) (g : zG) (o : Nat) (a : Nat → Nat) (pe : Int32) (wo : Int32) (tx : Int32) (ch : Int32) (jo : Int32) (tr : Int32) (dy : Int32) (sd : Int32) (f : Nat → Nat → Int32) (b_pe : 0 ≤ pe.toInt ∧ pe.toInt ≤ 8) (b_wo : 0 ≤ wo.toInt ∧ wo.toInt ≤ 6) (rf : zZ4 f) : zM' g l yX9_isRuined (Cond.code yX9_isRuined cX9_isRuined 2 (some .boolean) :: zB) ({ frames := 2, cells := 0, slots := 0, locals := 43 } : Room) [.ref o] [bTown g o a pe wo tx ch jo tr dy sd f] (fun (q : Int32) => some (.int q)) (fun (q : Int32) => (q = 0 ∨ q = 1)) (fun (q : Int32) => [bTown g o a pe wo tx ch jo tr dy sd f]) := by
  refine zM'.of (cc := cX9_isRuined) (maxL := 2) (rt := (some .boolean)) (by decide) rfl (Nat.le_of_ble_eq_true rfl) ?_
  intro p e s m args below meth c A ls St hr hlocks hin hK hT hA hP hD hS hl
  obtain ⟨hx, hb, hml, hown, hts⟩ := id St
  have hl : lv_has ls 2 [(0, .ref o)] := hl
  refine lv_aload_n hx hb dX9_isRuined_0 rfl (lv_at hl 0 rfl) ?_
  refine mcallV' (g := g) (q0 := 0) (ci := 7) (As := []) (rest := []) St hK hT hA hP hD hS hl.1 [0] [] rfl rfl rfl (c_peopleHere l g o a pe wo tx ch jo tr dy sd f b_pe b_wo rf) (cwV 0 hts (zgL (zl4 k62 k63 k64 k24) k52) rfl rfl rfl (by decide +kernel) ⟨Nat.le_of_ble_eq_true rfl, Nat.le_of_ble_eq_true rfl⟩) rfl rfl rfl rfl (Nat.le_of_ble_eq_true rfl) dX9_isRuined_1 ⟨(Nat.le_of_ble_eq_true rfl), (Nat.le_of_ble_eq_true rfl)⟩ (fun q_1 H locs hq2 hP hD hS => ?_)
  have hP : va_P g.1 vwCl (List.flatten [bTown g o a pe wo tx ch jo tr dy sd f]) H := hP
  have hD : va_D A (List.flatten [bTown g o a pe wo tx ch jo tr dy sd f]) := hD
  refine W.widen (k := 0) (n := 0) (Nat.le_of_ble_eq_true rfl) (Nat.le_of_ble_eq_true rfl) ?_
  refine W.eq (g2 := F0 m 4 ls [.int q_1]) rfl ?_
  refine mcallS' (g := g) (As := [.int q_1]) (rest := []) St hK hT hA hP hD hS hl.1 [] [0] rfl rfl rfl (j_bitCount l g q_1 ) (va_cwS 1 hts (zgL (zl3 k65 k66 k67) k56) rfl rfl rfl (by decide +kernel) ⟨Nat.le_of_ble_eq_true rfl, Nat.le_of_ble_eq_true rfl⟩) rfl rfl (Nat.le_of_ble_eq_true rfl) dX9_isRuined_4 ⟨(Nat.le_of_ble_eq_true rfl), (Nat.le_of_ble_eq_true rfl)⟩ (fun q_3 H locs hq4 hP hD hS => ?_)
  have hP : va_P g.1 vwCl (List.flatten [bTown g o a pe wo tx ch jo tr dy sd f]) H := hP
  have hD : va_D A (List.flatten [bTown g o a pe wo tx ch jo tr dy sd f]) := hD
  refine W.widen (k := 0) (n := 0) (Nat.le_of_ble_eq_true rfl) (Nat.le_of_ble_eq_true rfl) ?_
  refine W.eq (g2 := F0 m 7 ls [.int q_3]) rfl ?_
  refine lv_istore_n (lv' := [(1, .int q_3), (0, .ref o)]) hx hb dX9_isRuined_7 rfl hl (by decide) rfl (fun ls hl => ?_)
  refine lv_iload_n hx hb dX9_isRuined_8 rfl (lv_at hl 0 rfl) ?_
  refine lv_if_le (tgt := 31) hx hb dX9_isRuined_9 (by decide) (fun cb9 => ?_) (fun cb9 => ?_)
  · skip
    have c5 : q_3.toInt ≤ 0 := zle cb9 rfl (by decide)
    have n6 : q_3.toInt ≤ 0 := Int.le_trans c5 (Int.le_refl _)
    refine lv_iconst (v := 0) hx hb dX9_isRuined_31 (by decide) ?_
    have hP : va_P g.1 vwCl (List.flatten [bTown g o a pe wo tx ch jo tr dy sd f]) H := hP
    have hD : va_D A (List.flatten [bTown g o a pe wo tx ch jo tr dy sd f]) := hD
    exact mret_z hx hb hr hlocks hS (Nat.le_of_ble_eq_true rfl) (Nat.le_of_ble_eq_true rfl) dX9_isRuined_32 ((0 : Int32)) rfl (by decide) (show (0 = 0 ∨ 0 = 1) from (by decide)) hP hD
  · skip
    have c7 : 0 < q_3.toInt := zlti (Int32.not_le.mp cb9) (by decide) rfl
    have n8 : 1 ≤ q_3.toInt := zL2 (a := 0) c7 (Int.le_refl _) (by decide)
    refine lv_iconst (v := 3) hx hb dX9_isRuined_12 (by decide) ?_
    refine lv_aload_n hx hb dX9_isRuined_13 rfl (lv_at hl 1 rfl) ?_
    refine mcallV' (g := g) (q0 := 0) (ci := 7) (As := []) (rest := [.int 3]) St hK hT hA hP hD hS hl.1 [0] [] rfl rfl rfl (c_doubters l g o a pe wo tx ch jo tr dy sd f b_pe b_wo rf) (cwV 0 hts (zgL (zl4 k177 k178 k179 k24) k175) rfl rfl rfl (by decide +kernel) ⟨Nat.le_of_ble_eq_true rfl, Nat.le_of_ble_eq_true rfl⟩) rfl rfl rfl rfl (Nat.le_of_ble_eq_true rfl) dX9_isRuined_14 ⟨(Nat.le_of_ble_eq_true rfl), (Nat.le_of_ble_eq_true rfl)⟩ (fun q_9 H locs hq10 hP hD hS => ?_)
    have hP : va_P g.1 vwCl (List.flatten [bTown g o a pe wo tx ch jo tr dy sd f]) H := hP
    have hD : va_D A (List.flatten [bTown g o a pe wo tx ch jo tr dy sd f]) := hD
    refine W.widen (k := 0) (n := 0) (Nat.le_of_ble_eq_true rfl) (Nat.le_of_ble_eq_true rfl) ?_
    refine W.eq (g2 := F0 m 17 ls [.int q_9, .int 3]) rfl ?_
    refine mcallS' (g := g) (As := [.int q_9]) (rest := [.int 3]) St hK hT hA hP hD hS hl.1 [] [0] rfl rfl rfl (j_bitCount l g q_9 ) (va_cwS 1 hts (zgL (zl3 k65 k66 k67) k56) rfl rfl rfl (by decide +kernel) ⟨Nat.le_of_ble_eq_true rfl, Nat.le_of_ble_eq_true rfl⟩) rfl rfl (Nat.le_of_ble_eq_true rfl) dX9_isRuined_17 ⟨(Nat.le_of_ble_eq_true rfl), (Nat.le_of_ble_eq_true rfl)⟩ (fun q_11 H locs hq12 hP hD hS => ?_)
    have hP : va_P g.1 vwCl (List.flatten [bTown g o a pe wo tx ch jo tr dy sd f]) H := hP
    have hD : va_D A (List.flatten [bTown g o a pe wo tx ch jo tr dy sd f]) := hD
    refine W.widen (k := 0) (n := 0) (Nat.le_of_ble_eq_true rfl) (Nat.le_of_ble_eq_true rfl) ?_
    refine W.eq (g2 := F0 m 20 ls [.int q_11, .int 3]) rfl ?_
    refine lv_imul hx hb dX9_isRuined_20 ?_
    refine zg (fun x_13 => ?_)
    refine lv_iconst (v := 2) hx hb dX9_isRuined_21 (by decide) ?_
    refine lv_iload_n hx hb dX9_isRuined_22 rfl (lv_at hl 0 rfl) ?_
    refine lv_imul hx hb dX9_isRuined_23 ?_
    refine zg (fun x_14 => ?_)
    refine lv_icmp_lt (tgt := 31) hx hb dX9_isRuined_24 (by decide) (fun cb9 => ?_) (fun cb9 => ?_)
    · skip
      have c15 : x_13.toInt < x_14.toInt := zlti cb9 rfl rfl
      refine lv_iconst (v := 0) hx hb dX9_isRuined_31 (by decide) ?_
      have hP : va_P g.1 vwCl (List.flatten [bTown g o a pe wo tx ch jo tr dy sd f]) H := hP
      have hD : va_D A (List.flatten [bTown g o a pe wo tx ch jo tr dy sd f]) := hD
      exact mret_z hx hb hr hlocks hS (Nat.le_of_ble_eq_true rfl) (Nat.le_of_ble_eq_true rfl) dX9_isRuined_32 ((0 : Int32)) rfl (by decide) (show (0 = 0 ∨ 0 = 1) from (by decide)) hP hD
    · skip
      have c16 : x_14.toInt ≤ x_13.toInt := zle (Int32.not_lt.mp cb9) rfl rfl
      refine lv_iconst (v := 1) hx hb dX9_isRuined_27 (by decide) ?_
      refine lv_goto (tgt := 32) hx hb dX9_isRuined_28 (by decide) ?_
      have hP : va_P g.1 vwCl (List.flatten [bTown g o a pe wo tx ch jo tr dy sd f]) H := hP
      have hD : va_D A (List.flatten [bTown g o a pe wo tx ch jo tr dy sd f]) := hD
      exact mret_z hx hb hr hlocks hS (Nat.le_of_ble_eq_true rfl) (Nat.le_of_ble_eq_true rfl) dX9_isRuined_32 ((1 : Int32)) rfl (by decide) (show (1 = 0 ∨ 1 = 1) from (by decide)) hP hD
set_option maxRecDepth 100000 in
set_option maxHeartbeats 4000000 in
theorem c_pullOf (l : Launch) (g : zG) (o : Nat) (a : Nat → Nat) (pe : Int32) (wo : Int32) (tx : Int32) (ch : Int32) (jo : Int32) (tr : Int32) (dy : Int32) (sd : Int32) (f : Nat → Nat → Int32) (x1 : Int32) (b_pe : 0 ≤ pe.toInt ∧ pe.toInt ≤ 8) (b_wo : 0 ≤ wo.toInt ∧ wo.toInt ≤ 6) (rf : zZ4 f) (b_x1 : 0 ≤ x1.toInt ∧ x1.toInt ≤ 7) : zM' g l yX9_pullOf (Cond.code yX9_pullOf cX9_pullOf 4 (some .int) :: zB) ({ frames := 1, cells := 0, slots := 0, locals := 22 } : Room) [.ref o, .int x1] [bTown g o a pe wo tx ch jo tr dy sd f] (fun (q : Int32) => some (.int q)) (fun (q : Int32) => True) (fun (q : Int32) => [bTown g o a pe wo tx ch jo tr dy sd f]) := by
  refine zM'.of (cc := cX9_pullOf) (maxL := 4) (rt := (some .int)) (by decide) rfl (Nat.le_of_ble_eq_true rfl) ?_
  intro p e s m args below meth c A ls St hr hlocks hin hK hT hA hP hD hS hl
  obtain ⟨hx, hb, hml, hown, hts⟩ := id St
  have hl : lv_has ls 4 [(0, .ref o), (1, .int x1)] := hl
  refine lv_iconst (v := 0) hx hb dX9_pullOf_0 (by decide) ?_
  refine lv_istore_n (lv' := [(2, .int 0), (0, .ref o), (1, .int x1)]) hx hb dX9_pullOf_1 rfl hl (by decide) rfl (fun ls hl => ?_)
  refine lv_iconst (v := 0) hx hb dX9_pullOf_2 (by decide) ?_
  refine lv_istore_n (lv' := [(3, .int 0), (2, .int 0), (0, .ref o), (1, .int x1)]) hx hb dX9_pullOf_3 rfl hl (by decide) rfl (fun ls hl => ?_)
  have hl := lv_sub (l' := [(0, .ref o), (1, .int x1), (2, .int 0), (3, .int 0)]) hl [2, 3, 1, 0] rfl
  have LP4_4 : ∀ (kf : Nat) (x_1 : Int32) (x_2 : Int32), (0 ≤ x_2.toInt ∧ x_2.toInt ≤ 8) → ∀ (H : Heap) (locs : List Loc) (ls : Array Slot), ((9 - x_2.toInt).toNat) < kf → va_P g.1 vwCl (List.flatten [bTown g o a pe wo tx ch jo tr dy sd f]) H → va_D A (List.flatten [bTown g o a pe wo tx ch jo tr dy sd f]) → va_S A s.heap H locs → lv_has ls 4 [(0, .ref o), (1, .int x1), (2, .int x_1), (3, .int x_2)] → W p l e ({ frames := 1, cells := 0, slots := 0, locals := 22 } : Room) s m args below meth c H locs (0) (0) (zF g (fun (q : Int32) => some (.int q)) (fun (q : Int32) => True) (fun (q : Int32) => [bTown g o a pe wo tx ch jo tr dy sd f]) ({ frames := 1, cells := 0, slots := 0, locals := 22 } : Room) below args s A) (F0 m 4 ls []) := by
    intro kf
    induction kf with
    | zero => intro x_1 x_2 i3 H locs ls hk; exact absurd hk (Nat.not_lt_zero _)
    | succ kf ih4_5 =>
      intro x_1 x_2 i3 H locs ls hk4_5 hP hD hS hl
      refine lv_iload_n hx hb dX9_pullOf_4 rfl (lv_at hl 3 rfl) ?_
      refine lv_aload_n hx hb dX9_pullOf_5 rfl (lv_at hl 0 rfl) ?_
      refine va_get (D := g.1) (ci := 7) (v := .int pe) (C := RX9) (T := TX9) (N := 19) hx hb hts izRX9 hown hK hP 0 rfl rfl 0 (by decide) (hts _ k31) (fun _ h9 => h9) rfl dX9_pullOf_6 ?_
      refine lv_icmp_ge (tgt := 54) hx hb dX9_pullOf_9 (by decide) (fun cb9 => ?_) (fun cb9 => ?_)
      · skip
        have c6 : pe.toInt ≤ x_2.toInt := zle cb9 rfl rfl
        refine lv_iload_n hx hb dX9_pullOf_54 rfl (lv_at hl 2 rfl) ?_
        refine lv_bipush (v := 40) hx hb dX9_pullOf_55 (by decide) ?_
        refine lv_idiv hx hb dX9_pullOf_57 (by decide) ?_
        refine zg (fun x_7 => ?_)
        have hP : va_P g.1 vwCl (List.flatten [bTown g o a pe wo tx ch jo tr dy sd f]) H := hP
        have hD : va_D A (List.flatten [bTown g o a pe wo tx ch jo tr dy sd f]) := hD
        exact mret_i hx hb hr hlocks hS (Nat.le_of_ble_eq_true rfl) (Nat.le_of_ble_eq_true rfl) dX9_pullOf_58 (x_7) rfl trivial hP hD
      · skip
        have c8 : x_2.toInt < pe.toInt := zlti (Int32.not_le.mp cb9) rfl rfl
        have n9 : x_2.toInt ≤ 7 := zL1 (b := 8) c8 b_pe.2 (by decide)
        have n10 : 1 ≤ pe.toInt := zL2 (a := 0) c8 i3.1 (by decide)
        refine lv_iload_n hx hb dX9_pullOf_12 rfl (lv_at hl 3 rfl) ?_
        refine lv_iload_n hx hb dX9_pullOf_13 rfl (lv_at hl 1 rfl) ?_
        refine lv_icmp_eq (tgt := 48) hx hb dX9_pullOf_14 (by decide) (fun cb9 => ?_) (fun cb9 => ?_)
        · skip
          have c11 : x_2.toInt = x1.toInt := zeq cb9 rfl rfl
          refine ziinc3 (n' := 1) (a' := 1) (b' := 8) (lv' := fun v9 => [(3, .int v9), (0, .ref o), (1, .int x1), (2, .int x_1)]) hx hb dX9_pullOf_48 hl (k := 3) rfl (by decide) (fun _ => rfl) (zaddK (i := x_2.toInt) (j := 1) rfl (by decide) i3.1 n9 (Int.le_refl _) (Int.le_refl _) (by decide)) (fun x_12 ls hx_12 hl => ?_)
          refine lv_goto (tgt := 4) hx hb dX9_pullOf_51 (by decide) ?_
          have hl := lv_sub (l' := [(0, .ref o), (1, .int x1), (2, .int x_1), (3, .int x_12)]) hl [1, 2, 3, 0] rfl
          have hP : va_P g.1 vwCl (List.flatten [bTown g o a pe wo tx ch jo tr dy sd f]) H := hP
          have hD : va_D A (List.flatten [bTown g o a pe wo tx ch jo tr dy sd f]) := hD
          exact ih4_5 x_1 x_12 ⟨(Int.le_trans (by decide) hx_12.2.1), hx_12.2.2⟩ H _ ls (zmK hx_12.1 (by decide) n9 (by decide) hk4_5)  hP hD hS (lv_sub hl [0, 1, 2, 3] rfl)
        · skip
          have c13 : ¬ x_2.toInt = x1.toInt := zne cb9 rfl rfl
          refine lv_aload_n hx hb dX9_pullOf_17 rfl (lv_at hl 0 rfl) ?_
          refine lv_iload_n hx hb dX9_pullOf_18 rfl (lv_at hl 3 rfl) ?_
          refine mcallV' (g := g) (q0 := 0) (ci := 7) (As := [.int x_2]) (rest := []) St hK hT hA hP hD hS hl.1 [0] [] rfl rfl rfl (c_isHere l g o a pe wo tx ch jo tr dy sd f x_2 (⟨i3.1, n9⟩)) (cwV 1 hts (zgL (zl4 k53 k54 k55 k24) k51) rfl rfl rfl (by decide +kernel) ⟨Nat.le_of_ble_eq_true rfl, Nat.le_of_ble_eq_true rfl⟩) rfl rfl rfl rfl (Nat.le_of_ble_eq_true rfl) dX9_pullOf_19 ⟨(Nat.le_of_ble_eq_true rfl), (Nat.le_of_ble_eq_true rfl)⟩ (fun q_14 H locs hq15 hP hD hS => ?_)
          replace hq15 : (q_14 = 0 ∨ q_14 = 1) := hq15
          have hP : va_P g.1 vwCl (List.flatten [bTown g o a pe wo tx ch jo tr dy sd f]) H := hP
          have hD : va_D A (List.flatten [bTown g o a pe wo tx ch jo tr dy sd f]) := hD
          refine W.widen (k := 0) (n := 0) (Nat.le_of_ble_eq_true rfl) (Nat.le_of_ble_eq_true rfl) ?_
          refine W.eq (g2 := F0 m 22 ls [.int q_14]) rfl ?_
          rcases hq15 with rfl | rfl
          · skip
            refine lv_if_eq (tgt := 48) hx hb dX9_pullOf_22 (by decide) (fun _ => ?_) (fun c16 => absurd (by decide) c16)
            refine ziinc3 (n' := 1) (a' := 1) (b' := 8) (lv' := fun v9 => [(3, .int v9), (0, .ref o), (1, .int x1), (2, .int x_1)]) hx hb dX9_pullOf_48 hl (k := 3) rfl (by decide) (fun _ => rfl) (zaddK (i := x_2.toInt) (j := 1) rfl (by decide) i3.1 n9 (Int.le_refl _) (Int.le_refl _) (by decide)) (fun x_17 ls hx_17 hl => ?_)
            refine lv_goto (tgt := 4) hx hb dX9_pullOf_51 (by decide) ?_
            have hl := lv_sub (l' := [(0, .ref o), (1, .int x1), (2, .int x_1), (3, .int x_17)]) hl [1, 2, 3, 0] rfl
            have hP : va_P g.1 vwCl (List.flatten [bTown g o a pe wo tx ch jo tr dy sd f]) H := hP
            have hD : va_D A (List.flatten [bTown g o a pe wo tx ch jo tr dy sd f]) := hD
            exact ih4_5 x_1 x_17 ⟨(Int.le_trans (by decide) hx_17.2.1), hx_17.2.2⟩ H _ ls (zmK hx_17.1 (by decide) n9 (by decide) hk4_5)  hP hD hS (lv_sub hl [0, 1, 2, 3] rfl)
          · skip
            refine lv_if_eq (tgt := 48) hx hb dX9_pullOf_22 (by decide) (fun c18 => absurd c18 (by decide)) (fun _ => ?_)
            refine lv_iload_n hx hb dX9_pullOf_25 rfl (lv_at hl 2 rfl) ?_
            refine lv_aload_n hx hb dX9_pullOf_26 rfl (lv_at hl 0 rfl) ?_
            refine lv_iload_n hx hb dX9_pullOf_27 rfl (lv_at hl 1 rfl) ?_
            refine lv_iload_n hx hb dX9_pullOf_28 rfl (lv_at hl 3 rfl) ?_
            refine mcallV' (g := g) (q0 := 0) (ci := 7) (As := [.int x1, .int x_2]) (rest := [.int x_1]) St hK hT hA hP hD hS hl.1 [0] [] rfl rfl rfl (c_trustOf l g o a pe wo tx ch jo tr dy sd f x1 x_2 b_x1 (⟨i3.1, n9⟩)) (cwV 2 hts (zgL (zl4 k89 k90 k91 k24) k87) rfl rfl rfl (by decide +kernel) ⟨Nat.le_of_ble_eq_true rfl, Nat.le_of_ble_eq_true rfl⟩) rfl rfl rfl rfl (Nat.le_of_ble_eq_true rfl) dX9_pullOf_29 ⟨(Nat.le_of_ble_eq_true rfl), (Nat.le_of_ble_eq_true rfl)⟩ (fun q_19 H locs hq20 hP hD hS => ?_)
            have hP : va_P g.1 vwCl (List.flatten [bTown g o a pe wo tx ch jo tr dy sd f]) H := hP
            have hD : va_D A (List.flatten [bTown g o a pe wo tx ch jo tr dy sd f]) := hD
            refine W.widen (k := 0) (n := 0) (Nat.le_of_ble_eq_true rfl) (Nat.le_of_ble_eq_true rfl) ?_
            refine W.eq (g2 := F0 m 32 ls [.int q_19, .int x_1]) rfl ?_
            refine lv_aload_n hx hb dX9_pullOf_32 rfl (lv_at hl 0 rfl) ?_
            refine va_get (D := g.1) (ci := 7) (v := .ref (a 0)) (C := RX9) (T := TX9) (N := 19) hx hb hts izRX9 hown hK hP 0 rfl rfl 8 (by decide) (hts _ k9) (fun _ h9 => h9) rfl dX9_pullOf_33 ?_
            refine lv_iload_n hx hb dX9_pullOf_36 rfl (lv_at hl 3 rfl) ?_
            refine va_iald hx hb hK hP 1 0 rfl rfl (zinK (a := 0) (b := 7) i3.1 n9 (by decide)) dX9_pullOf_37 ?_
            refine zg (fun x_21 => ?_)
            refine lv_aload_n hx hb dX9_pullOf_38 rfl (lv_at hl 0 rfl) ?_
            refine va_get (D := g.1) (ci := 7) (v := .ref (a 0)) (C := RX9) (T := TX9) (N := 19) hx hb hts izRX9 hown hK hP 0 rfl rfl 8 (by decide) (hts _ k9) (fun _ h9 => h9) rfl dX9_pullOf_39 ?_
            refine lv_iload_n hx hb dX9_pullOf_42 rfl (lv_at hl 1 rfl) ?_
            refine va_iald hx hb hK hP 1 0 rfl rfl (zinK (a := 0) (b := 7) b_x1.1 b_x1.2 (by decide)) dX9_pullOf_43 ?_
            refine zg (fun x_22 => ?_)
            refine lv_isub hx hb dX9_pullOf_44 ?_
            refine zg (fun x_23 => ?_)
            refine lv_imul hx hb dX9_pullOf_45 ?_
            refine zg (fun x_24 => ?_)
            refine lv_iadd hx hb dX9_pullOf_46 ?_
            refine zg (fun x_25 => ?_)
            refine lv_istore_n (lv' := [(2, .int x_25), (0, .ref o), (1, .int x1), (3, .int x_2)]) hx hb dX9_pullOf_47 rfl hl (by decide) rfl (fun ls hl => ?_)
            refine ziinc3 (n' := 1) (a' := 1) (b' := 8) (lv' := fun v9 => [(3, .int v9), (2, .int x_25), (0, .ref o), (1, .int x1)]) hx hb dX9_pullOf_48 hl (k := 3) rfl (by decide) (fun _ => rfl) (zaddK (i := x_2.toInt) (j := 1) rfl (by decide) i3.1 n9 (Int.le_refl _) (Int.le_refl _) (by decide)) (fun x_26 ls hx_26 hl => ?_)
            refine lv_goto (tgt := 4) hx hb dX9_pullOf_51 (by decide) ?_
            have hl := lv_sub (l' := [(0, .ref o), (1, .int x1), (2, .int x_25), (3, .int x_26)]) hl [2, 3, 1, 0] rfl
            have hP : va_P g.1 vwCl (List.flatten [bTown g o a pe wo tx ch jo tr dy sd f]) H := hP
            have hD : va_D A (List.flatten [bTown g o a pe wo tx ch jo tr dy sd f]) := hD
            exact ih4_5 x_25 x_26 ⟨(Int.le_trans (by decide) hx_26.2.1), hx_26.2.2⟩ H _ ls (zmK hx_26.1 (by decide) n9 (by decide) hk4_5)  hP hD hS (lv_sub hl [0, 1, 2, 3] rfl)
  have hP : va_P g.1 vwCl (List.flatten [bTown g o a pe wo tx ch jo tr dy sd f]) s.heap := hP
  have hD : va_D A (List.flatten [bTown g o a pe wo tx ch jo tr dy sd f]) := hD
  exact LP4_4 _ 0 0 (by decide) s.heap _ ls (Nat.lt_succ_self _)  hP hD hS (lv_sub hl [0, 1, 2, 3] rfl)
set_option maxRecDepth 100000 in
set_option maxHeartbeats 4000000 in
theorem c_tiesOf (l : Launch) (g : zG) (o : Nat) (a : Nat → Nat) (pe : Int32) (wo : Int32) (tx : Int32) (ch : Int32) (jo : Int32) (tr : Int32) (dy : Int32) (sd : Int32) (f : Nat → Nat → Int32) (x1 : Int32) (b_pe : 0 ≤ pe.toInt ∧ pe.toInt ≤ 8) (b_wo : 0 ≤ wo.toInt ∧ wo.toInt ≤ 6) (rf : zZ4 f) (b_x1 : 0 ≤ x1.toInt ∧ x1.toInt ≤ 7) : zM' g l yX9_tiesOf (Cond.code yX9_tiesOf cX9_tiesOf 4 (some .int) :: zB) ({ frames := 0, cells := 0, slots := 0, locals := 0 } : Room) [.ref o, .int x1] [bTown g o a pe wo tx ch jo tr dy sd f] (fun (q : Int32) => some (.int q)) (fun (q : Int32) => True) (fun (q : Int32) => [bTown g o a pe wo tx ch jo tr dy sd f]) := by
  refine zM'.of (cc := cX9_tiesOf) (maxL := 4) (rt := (some .int)) (by decide) rfl (Nat.le_of_ble_eq_true rfl) ?_
  intro p e s m args below meth c A ls St hr hlocks hin hK hT hA hP hD hS hl
  obtain ⟨hx, hb, hml, hown, hts⟩ := id St
  have hl : lv_has ls 4 [(0, .ref o), (1, .int x1)] := hl
  refine lv_iconst (v := 0) hx hb dX9_tiesOf_0 (by decide) ?_
  refine lv_istore_n (lv' := [(2, .int 0), (0, .ref o), (1, .int x1)]) hx hb dX9_tiesOf_1 rfl hl (by decide) rfl (fun ls hl => ?_)
  refine lv_iconst (v := 0) hx hb dX9_tiesOf_2 (by decide) ?_
  refine lv_istore_n (lv' := [(3, .int 0), (2, .int 0), (0, .ref o), (1, .int x1)]) hx hb dX9_tiesOf_3 rfl hl (by decide) rfl (fun ls hl => ?_)
  have hl := lv_sub (l' := [(0, .ref o), (1, .int x1), (2, .int 0), (3, .int 0)]) hl [2, 3, 1, 0] rfl
  have LP4_4 : ∀ (kf : Nat) (x_1 : Int32) (x_2 : Int32), (0 ≤ x_2.toInt ∧ x_2.toInt ≤ 8) → ∀ (H : Heap) (locs : List Loc) (ls : Array Slot), ((9 - x_2.toInt).toNat) < kf → va_P g.1 vwCl (List.flatten [bTown g o a pe wo tx ch jo tr dy sd f]) H → va_D A (List.flatten [bTown g o a pe wo tx ch jo tr dy sd f]) → va_S A s.heap H locs → lv_has ls 4 [(0, .ref o), (1, .int x1), (2, .int x_1), (3, .int x_2)] → W p l e ({ frames := 0, cells := 0, slots := 0, locals := 0 } : Room) s m args below meth c H locs (0) (0) (zF g (fun (q : Int32) => some (.int q)) (fun (q : Int32) => True) (fun (q : Int32) => [bTown g o a pe wo tx ch jo tr dy sd f]) ({ frames := 0, cells := 0, slots := 0, locals := 0 } : Room) below args s A) (F0 m 4 ls []) := by
    intro kf
    induction kf with
    | zero => intro x_1 x_2 i3 H locs ls hk; exact absurd hk (Nat.not_lt_zero _)
    | succ kf ih4_5 =>
      intro x_1 x_2 i3 H locs ls hk4_5 hP hD hS hl
      refine lv_iload_n hx hb dX9_tiesOf_4 rfl (lv_at hl 3 rfl) ?_
      refine lv_aload_n hx hb dX9_tiesOf_5 rfl (lv_at hl 0 rfl) ?_
      refine va_get (D := g.1) (ci := 7) (v := .int pe) (C := RX9) (T := TX9) (N := 19) hx hb hts izRX9 hown hK hP 0 rfl rfl 0 (by decide) (hts _ k31) (fun _ h9 => h9) rfl dX9_tiesOf_6 ?_
      refine lv_icmp_ge (tgt := 40) hx hb dX9_tiesOf_9 (by decide) (fun cb9 => ?_) (fun cb9 => ?_)
      · skip
        have c6 : pe.toInt ≤ x_2.toInt := zle cb9 rfl rfl
        refine lv_iload_n hx hb dX9_tiesOf_40 rfl (lv_at hl 2 rfl) ?_
        have hP : va_P g.1 vwCl (List.flatten [bTown g o a pe wo tx ch jo tr dy sd f]) H := hP
        have hD : va_D A (List.flatten [bTown g o a pe wo tx ch jo tr dy sd f]) := hD
        exact mret_i hx hb hr hlocks hS (Nat.le_of_ble_eq_true rfl) (Nat.le_of_ble_eq_true rfl) dX9_tiesOf_41 (x_1) rfl trivial hP hD
      · skip
        have c7 : x_2.toInt < pe.toInt := zlti (Int32.not_le.mp cb9) rfl rfl
        have n8 : x_2.toInt ≤ 7 := zL1 (b := 8) c7 b_pe.2 (by decide)
        have n9 : 1 ≤ pe.toInt := zL2 (a := 0) c7 i3.1 (by decide)
        refine lv_iload_n hx hb dX9_tiesOf_12 rfl (lv_at hl 3 rfl) ?_
        refine lv_iload_n hx hb dX9_tiesOf_13 rfl (lv_at hl 1 rfl) ?_
        refine lv_icmp_eq (tgt := 34) hx hb dX9_tiesOf_14 (by decide) (fun cb9 => ?_) (fun cb9 => ?_)
        · skip
          have c10 : x_2.toInt = x1.toInt := zeq cb9 rfl rfl
          refine ziinc3 (n' := 1) (a' := 1) (b' := 8) (lv' := fun v9 => [(3, .int v9), (0, .ref o), (1, .int x1), (2, .int x_1)]) hx hb dX9_tiesOf_34 hl (k := 3) rfl (by decide) (fun _ => rfl) (zaddK (i := x_2.toInt) (j := 1) rfl (by decide) i3.1 n8 (Int.le_refl _) (Int.le_refl _) (by decide)) (fun x_11 ls hx_11 hl => ?_)
          refine lv_goto (tgt := 4) hx hb dX9_tiesOf_37 (by decide) ?_
          have hl := lv_sub (l' := [(0, .ref o), (1, .int x1), (2, .int x_1), (3, .int x_11)]) hl [1, 2, 3, 0] rfl
          have hP : va_P g.1 vwCl (List.flatten [bTown g o a pe wo tx ch jo tr dy sd f]) H := hP
          have hD : va_D A (List.flatten [bTown g o a pe wo tx ch jo tr dy sd f]) := hD
          exact ih4_5 x_1 x_11 ⟨(Int.le_trans (by decide) hx_11.2.1), hx_11.2.2⟩ H _ ls (zmK hx_11.1 (by decide) n8 (by decide) hk4_5)  hP hD hS (lv_sub hl [0, 1, 2, 3] rfl)
        · skip
          have c12 : ¬ x_2.toInt = x1.toInt := zne cb9 rfl rfl
          refine lv_aload_n hx hb dX9_tiesOf_17 rfl (lv_at hl 0 rfl) ?_
          refine va_get (D := g.1) (ci := 7) (v := .ref (a 5)) (C := RX9) (T := TX9) (N := 19) hx hb hts izRX9 hown hK hP 0 rfl rfl 13 (by decide) (hts _ k15) (fun _ h9 => h9) rfl dX9_tiesOf_18 ?_
          refine lv_iload_n hx hb dX9_tiesOf_21 rfl (lv_at hl 1 rfl) ?_
          refine lv_bipush (v := 8) hx hb dX9_tiesOf_22 (by decide) ?_
          refine lv_imul hx hb dX9_tiesOf_24 ?_
          refine zg3 (zmulKR (i := x1.toInt) (n := 8) (a' := 0) (b' := 56) rfl (by decide) b_x1.1 b_x1.2 (by decide) (by decide)) (fun x_13 hx_13 => ?_)
          refine lv_iload_n hx hb dX9_tiesOf_25 rfl (lv_at hl 3 rfl) ?_
          refine lv_iadd hx hb dX9_tiesOf_26 ?_
          refine zg3 (zaddK (i := x_13.toInt) (j := x_2.toInt) (a' := 0) (b' := 63) rfl rfl hx_13.2.1 hx_13.2.2 i3.1 n8 (by decide)) (fun x_14 hx_14 => ?_)
          refine va_iald hx hb hK hP 6 0 rfl rfl (zinK (a := 0) (b := 63) hx_14.2.1 hx_14.2.2 (by decide)) dX9_tiesOf_27 ?_
          refine zg (fun x_15 => ?_)
          refine lv_if_le (tgt := 34) hx hb dX9_tiesOf_28 (by decide) (fun cb9 => ?_) (fun cb9 => ?_)
          · skip
            have c16 : x_15.toInt ≤ 0 := zle cb9 rfl (by decide)
            have n17 : x_15.toInt ≤ 0 := Int.le_trans c16 (Int.le_refl _)
            refine ziinc3 (n' := 1) (a' := 1) (b' := 8) (lv' := fun v9 => [(3, .int v9), (0, .ref o), (1, .int x1), (2, .int x_1)]) hx hb dX9_tiesOf_34 hl (k := 3) rfl (by decide) (fun _ => rfl) (zaddK (i := x_2.toInt) (j := 1) rfl (by decide) i3.1 n8 (Int.le_refl _) (Int.le_refl _) (by decide)) (fun x_18 ls hx_18 hl => ?_)
            refine lv_goto (tgt := 4) hx hb dX9_tiesOf_37 (by decide) ?_
            have hl := lv_sub (l' := [(0, .ref o), (1, .int x1), (2, .int x_1), (3, .int x_18)]) hl [1, 2, 3, 0] rfl
            have hP : va_P g.1 vwCl (List.flatten [bTown g o a pe wo tx ch jo tr dy sd f]) H := hP
            have hD : va_D A (List.flatten [bTown g o a pe wo tx ch jo tr dy sd f]) := hD
            exact ih4_5 x_1 x_18 ⟨(Int.le_trans (by decide) hx_18.2.1), hx_18.2.2⟩ H _ ls (zmK hx_18.1 (by decide) n8 (by decide) hk4_5)  hP hD hS (lv_sub hl [0, 1, 2, 3] rfl)
          · skip
            have c19 : 0 < x_15.toInt := zlti (Int32.not_le.mp cb9) (by decide) rfl
            have n20 : 1 ≤ x_15.toInt := zL2 (a := 0) c19 (Int.le_refl _) (by decide)
            refine ziincG (lv' := fun v9 => [(2, .int v9), (0, .ref o), (1, .int x1), (3, .int x_2)]) hx hb dX9_tiesOf_31 hl (k := 2) rfl (by decide) (fun _ => rfl) (fun x_21 ls hl => ?_)
            refine ziinc3 (n' := 1) (a' := 1) (b' := 8) (lv' := fun v9 => [(3, .int v9), (2, .int x_21), (0, .ref o), (1, .int x1)]) hx hb dX9_tiesOf_34 hl (k := 3) rfl (by decide) (fun _ => rfl) (zaddK (i := x_2.toInt) (j := 1) rfl (by decide) i3.1 n8 (Int.le_refl _) (Int.le_refl _) (by decide)) (fun x_22 ls hx_22 hl => ?_)
            refine lv_goto (tgt := 4) hx hb dX9_tiesOf_37 (by decide) ?_
            have hl := lv_sub (l' := [(0, .ref o), (1, .int x1), (2, .int x_21), (3, .int x_22)]) hl [2, 3, 1, 0] rfl
            have hP : va_P g.1 vwCl (List.flatten [bTown g o a pe wo tx ch jo tr dy sd f]) H := hP
            have hD : va_D A (List.flatten [bTown g o a pe wo tx ch jo tr dy sd f]) := hD
            exact ih4_5 x_21 x_22 ⟨(Int.le_trans (by decide) hx_22.2.1), hx_22.2.2⟩ H _ ls (zmK hx_22.1 (by decide) n8 (by decide) hk4_5)  hP hD hS (lv_sub hl [0, 1, 2, 3] rfl)
  have hP : va_P g.1 vwCl (List.flatten [bTown g o a pe wo tx ch jo tr dy sd f]) s.heap := hP
  have hD : va_D A (List.flatten [bTown g o a pe wo tx ch jo tr dy sd f]) := hD
  exact LP4_4 _ 0 0 (by decide) s.heap _ ls (Nat.lt_succ_self _)  hP hD hS (lv_sub hl [0, 1, 2, 3] rfl)
set_option maxRecDepth 100000 in
set_option maxHeartbeats 4000000 in
theorem c_worthOf (l : Launch) (g : zG) (o : Nat) (a : Nat → Nat) (pe : Int32) (wo : Int32) (tx : Int32) (ch : Int32) (jo : Int32) (tr : Int32) (dy : Int32) (sd : Int32) (f : Nat → Nat → Int32) (x1 : Int32) (b_pe : 0 ≤ pe.toInt ∧ pe.toInt ≤ 8) (b_wo : 0 ≤ wo.toInt ∧ wo.toInt ≤ 6) (rf : zZ4 f) (b_x1 : 0 ≤ x1.toInt ∧ x1.toInt ≤ 7) : zM' g l yX9_worthOf (Cond.code yX9_worthOf cX9_worthOf 2 (some .int) :: zB) ({ frames := 4, cells := 0, slots := 0, locals := 85 } : Room) [.ref o, .int x1] [bTown g o a pe wo tx ch jo tr dy sd f] (fun (q : Int32) => some (.int q)) (fun (q : Int32) => True) (fun (q : Int32) => [bTown g o a pe wo tx ch jo tr dy sd f]) := by
  refine zM'.of (cc := cX9_worthOf) (maxL := 2) (rt := (some .int)) (by decide) rfl (Nat.le_of_ble_eq_true rfl) ?_
  intro p e s m args below meth c A ls St hr hlocks hin hK hT hA hP hD hS hl
  obtain ⟨hx, hb, hml, hown, hts⟩ := id St
  have hl : lv_has ls 2 [(0, .ref o), (1, .int x1)] := hl
  refine lv_aload_n hx hb dX9_worthOf_0 rfl (lv_at hl 0 rfl) ?_
  refine va_get (D := g.1) (ci := 7) (v := .ref (a 1)) (C := RX9) (T := TX9) (N := 19) hx hb hts izRX9 hown hK hP 0 rfl rfl 9 (by decide) (hts _ k10) (fun _ h9 => h9) rfl dX9_worthOf_1 ?_
  refine lv_iload_n hx hb dX9_worthOf_4 rfl (lv_at hl 1 rfl) ?_
  refine va_iald hx hb hK hP 2 0 rfl rfl (zinK (a := 0) (b := 7) b_x1.1 b_x1.2 (by decide)) dX9_worthOf_5 ?_
  refine zg (fun x_1 => ?_)
  refine lv_aload_n hx hb dX9_worthOf_6 rfl (lv_at hl 0 rfl) ?_
  refine va_get (D := g.1) (ci := 7) (v := .ref (a 2)) (C := RX9) (T := TX9) (N := 19) hx hb hts izRX9 hown hK hP 0 rfl rfl 10 (by decide) (hts _ k11) (fun _ h9 => h9) rfl dX9_worthOf_7 ?_
  refine lv_iload_n hx hb dX9_worthOf_10 rfl (lv_at hl 1 rfl) ?_
  refine va_iald hx hb hK hP 3 0 rfl rfl (zinK (a := 0) (b := 7) b_x1.1 b_x1.2 (by decide)) dX9_worthOf_11 ?_
  refine zg (fun x_2 => ?_)
  refine lv_aload_n hx hb dX9_worthOf_12 rfl (lv_at hl 0 rfl) ?_
  refine mcallV' (g := g) (q0 := 0) (ci := 7) (As := []) (rest := [.int x_2, .int x_1]) St hK hT hA hP hD hS hl.1 [0] [] rfl rfl rfl (c_sharePrice l g o a pe wo tx ch jo tr dy sd f b_pe b_wo rf) (cwV 0 hts (zgL (zl4 k515 k188 k189 k24) k186) rfl rfl rfl (by decide +kernel) ⟨Nat.le_of_ble_eq_true rfl, Nat.le_of_ble_eq_true rfl⟩) rfl rfl rfl rfl (Nat.le_of_ble_eq_true rfl) dX9_worthOf_13 ⟨(Nat.le_of_ble_eq_true rfl), (Nat.le_of_ble_eq_true rfl)⟩ (fun q_3 H locs hq4 hP hD hS => ?_)
  have hP : va_P g.1 vwCl (List.flatten [bTown g o a pe wo tx ch jo tr dy sd f]) H := hP
  have hD : va_D A (List.flatten [bTown g o a pe wo tx ch jo tr dy sd f]) := hD
  refine W.widen (k := 0) (n := 0) (Nat.le_of_ble_eq_true rfl) (Nat.le_of_ble_eq_true rfl) ?_
  refine W.eq (g2 := F0 m 16 ls [.int q_3, .int x_2, .int x_1]) rfl ?_
  refine lv_imul hx hb dX9_worthOf_16 ?_
  refine zg (fun x_5 => ?_)
  refine lv_iadd hx hb dX9_worthOf_17 ?_
  refine zg (fun x_6 => ?_)
  have hP : va_P g.1 vwCl (List.flatten [bTown g o a pe wo tx ch jo tr dy sd f]) H := hP
  have hD : va_D A (List.flatten [bTown g o a pe wo tx ch jo tr dy sd f]) := hD
  exact mret_i hx hb hr hlocks hS (Nat.le_of_ble_eq_true rfl) (Nat.le_of_ble_eq_true rfl) dX9_worthOf_18 (x_6) rfl trivial hP hD
set_option maxRecDepth 100000 in
set_option maxHeartbeats 4000000 in
theorem c_shareOf (l : Launch) (g : zG) (o : Nat) (a : Nat → Nat) (pe : Int32) (wo : Int32) (tx : Int32) (ch : Int32) (jo : Int32) (tr : Int32) (dy : Int32) (sd : Int32) (f : Nat → Nat → Int32) (x1 : Int32) (b_pe : 0 ≤ pe.toInt ∧ pe.toInt ≤ 8) (b_wo : 0 ≤ wo.toInt ∧ wo.toInt ≤ 6) (rf : zZ4 f) (b_x1 : 0 ≤ x1.toInt ∧ x1.toInt ≤ 7) : zM' g l yX9_shareOf (Cond.code yX9_shareOf cX9_shareOf 3 (some .int) :: zB) ({ frames := 2, cells := 0, slots := 0, locals := 43 } : Room) [.ref o, .int x1] [bTown g o a pe wo tx ch jo tr dy sd f] (fun (q : Int32) => some (.int q)) (fun (q : Int32) => True) (fun (q : Int32) => [bTown g o a pe wo tx ch jo tr dy sd f]) := by
  refine zM'.of (cc := cX9_shareOf) (maxL := 3) (rt := (some .int)) (by decide) rfl (Nat.le_of_ble_eq_true rfl) ?_
  intro p e s m args below meth c A ls St hr hlocks hin hK hT hA hP hD hS hl
  obtain ⟨hx, hb, hml, hown, hts⟩ := id St
  have hl : lv_has ls 3 [(0, .ref o), (1, .int x1)] := hl
  refine lv_aload_n hx hb dX9_shareOf_0 rfl (lv_at hl 0 rfl) ?_
  refine mcallV' (g := g) (q0 := 0) (ci := 7) (As := []) (rest := []) St hK hT hA hP hD hS hl.1 [0] [] rfl rfl rfl (c_believed l g o a pe wo tx ch jo tr dy sd f b_pe b_wo rf) (cwV 0 hts (zgL (zl4 k68 k69 k70 k24) k60) rfl rfl rfl (by decide +kernel) ⟨Nat.le_of_ble_eq_true rfl, Nat.le_of_ble_eq_true rfl⟩) rfl rfl rfl rfl (Nat.le_of_ble_eq_true rfl) dX9_shareOf_1 ⟨(Nat.le_of_ble_eq_true rfl), (Nat.le_of_ble_eq_true rfl)⟩ (fun q_1 H locs hq2 hP hD hS => ?_)
  have hP : va_P g.1 vwCl (List.flatten [bTown g o a pe wo tx ch jo tr dy sd f]) H := hP
  have hD : va_D A (List.flatten [bTown g o a pe wo tx ch jo tr dy sd f]) := hD
  refine W.widen (k := 0) (n := 0) (Nat.le_of_ble_eq_true rfl) (Nat.le_of_ble_eq_true rfl) ?_
  refine W.eq (g2 := F0 m 4 ls [.int q_1]) rfl ?_
  refine lv_istore_n (lv' := [(2, .int q_1), (0, .ref o), (1, .int x1)]) hx hb dX9_shareOf_4 rfl hl (by decide) rfl (fun ls hl => ?_)
  refine lv_iload_n hx hb dX9_shareOf_5 rfl (lv_at hl 0 rfl) ?_
  refine lv_if_eq (tgt := 17) hx hb dX9_shareOf_6 (by decide) (fun cb9 => ?_) (fun cb9 => ?_)
  · skip
    have c3 : q_1.toInt = 0 := zeq cb9 rfl (by decide)
    have n4 : 0 ≤ q_1.toInt := Int.le_trans (Int.le_refl _) (Int.le_of_eq c3.symm)
    have n5 : q_1.toInt ≤ 0 := Int.le_trans (Int.le_of_eq c3) (Int.le_refl _)
    refine lv_iconst (v := 0) hx hb dX9_shareOf_17 (by decide) ?_
    refine lv_goto (tgt := 32) hx hb dX9_shareOf_18 (by decide) ?_
    have hP : va_P g.1 vwCl (List.flatten [bTown g o a pe wo tx ch jo tr dy sd f]) H := hP
    have hD : va_D A (List.flatten [bTown g o a pe wo tx ch jo tr dy sd f]) := hD
    exact mret_i hx hb hr hlocks hS (Nat.le_of_ble_eq_true rfl) (Nat.le_of_ble_eq_true rfl) dX9_shareOf_32 ((0 : Int32)) rfl trivial hP hD
  · skip
    have c6 : ¬ q_1.toInt = 0 := zne cb9 rfl (by decide)
    refine lv_aload_n hx hb dX9_shareOf_9 rfl (lv_at hl 1 rfl) ?_
    refine lv_iload_n hx hb dX9_shareOf_10 rfl (lv_at hl 2 rfl) ?_
    refine mcallV' (g := g) (q0 := 0) (ci := 7) (As := [.int x1]) (rest := []) St hK hT hA hP hD hS hl.1 [0] [] rfl rfl rfl (c_isHere l g o a pe wo tx ch jo tr dy sd f x1 b_x1) (cwV 1 hts (zgL (zl4 k53 k54 k55 k24) k51) rfl rfl rfl (by decide +kernel) ⟨Nat.le_of_ble_eq_true rfl, Nat.le_of_ble_eq_true rfl⟩) rfl rfl rfl rfl (Nat.le_of_ble_eq_true rfl) dX9_shareOf_11 ⟨(Nat.le_of_ble_eq_true rfl), (Nat.le_of_ble_eq_true rfl)⟩ (fun q_7 H locs hq8 hP hD hS => ?_)
    replace hq8 : (q_7 = 0 ∨ q_7 = 1) := hq8
    have hP : va_P g.1 vwCl (List.flatten [bTown g o a pe wo tx ch jo tr dy sd f]) H := hP
    have hD : va_D A (List.flatten [bTown g o a pe wo tx ch jo tr dy sd f]) := hD
    refine W.widen (k := 0) (n := 0) (Nat.le_of_ble_eq_true rfl) (Nat.le_of_ble_eq_true rfl) ?_
    refine W.eq (g2 := F0 m 14 ls [.int q_7]) rfl ?_
    rcases hq8 with rfl | rfl
    · skip
      refine lv_if_ne (tgt := 21) hx hb dX9_shareOf_14 (by decide) (fun c9 => absurd (by decide) c9) (fun _ => ?_)
      refine lv_iconst (v := 0) hx hb dX9_shareOf_17 (by decide) ?_
      refine lv_goto (tgt := 32) hx hb dX9_shareOf_18 (by decide) ?_
      have hP : va_P g.1 vwCl (List.flatten [bTown g o a pe wo tx ch jo tr dy sd f]) H := hP
      have hD : va_D A (List.flatten [bTown g o a pe wo tx ch jo tr dy sd f]) := hD
      exact mret_i hx hb hr hlocks hS (Nat.le_of_ble_eq_true rfl) (Nat.le_of_ble_eq_true rfl) dX9_shareOf_32 ((0 : Int32)) rfl trivial hP hD
    · skip
      refine lv_if_ne (tgt := 21) hx hb dX9_shareOf_14 (by decide) (fun _ => ?_) (fun c10 => absurd c10 (by decide))
      refine lv_aload_n hx hb dX9_shareOf_21 rfl (lv_at hl 1 rfl) ?_
      refine va_get (D := g.1) (ci := 7) (v := .ref (a 0)) (C := RX9) (T := TX9) (N := 19) hx hb hts izRX9 hown hK hP 0 rfl rfl 8 (by decide) (hts _ k9) (fun _ h9 => h9) rfl dX9_shareOf_22 ?_
      refine lv_iload_n hx hb dX9_shareOf_25 rfl (lv_at hl 2 rfl) ?_
      refine va_iald hx hb hK hP 1 0 rfl rfl (zinK (a := 0) (b := 7) b_x1.1 b_x1.2 (by decide)) dX9_shareOf_26 ?_
      refine zg (fun x_11 => ?_)
      refine lv_bipush (v := 100) hx hb dX9_shareOf_27 (by decide) ?_
      refine lv_imul hx hb dX9_shareOf_29 ?_
      refine zg (fun x_12 => ?_)
      refine lv_iload_n hx hb dX9_shareOf_30 rfl (lv_at hl 0 rfl) ?_
      refine lv_idiv hx hb dX9_shareOf_31 (zne0 (by omega)) ?_
      refine zg (fun x_13 => ?_)
      have hP : va_P g.1 vwCl (List.flatten [bTown g o a pe wo tx ch jo tr dy sd f]) H := hP
      have hD : va_D A (List.flatten [bTown g o a pe wo tx ch jo tr dy sd f]) := hD
      exact mret_i hx hb hr hlocks hS (Nat.le_of_ble_eq_true rfl) (Nat.le_of_ble_eq_true rfl) dX9_shareOf_32 (x_13) rfl trivial hP hD
set_option maxRecDepth 100000 in
set_option maxHeartbeats 4000000 in
theorem c_worksIn (l : Launch) (g : zG) (o : Nat) (a : Nat → Nat) (pe : Int32) (wo : Int32) (tx : Int32) (ch : Int32) (jo : Int32) (tr : Int32) (dy : Int32) (sd : Int32) (f : Nat → Nat → Int32) (wh : Int32) (b_pe : 0 ≤ pe.toInt ∧ pe.toInt ≤ 8) (b_wo : 0 ≤ wo.toInt ∧ wo.toInt ≤ 6) (rf : zZ4 f) : zM' g l yX9_worksIn (Cond.code yX9_worksIn cX9_worksIn 4 (some .int) :: zB) ({ frames := 0, cells := 0, slots := 0, locals := 0 } : Room) [.ref o, .int wh] [bTown g o a pe wo tx ch jo tr dy sd f] (fun (q : Int32) => some (.int q)) (fun (q : Int32) => True) (fun (q : Int32) => [bTown g o a pe wo tx ch jo tr dy sd f]) := by
  refine zM'.of (cc := cX9_worksIn) (maxL := 4) (rt := (some .int)) (by decide) rfl (Nat.le_of_ble_eq_true rfl) ?_
  intro p e s m args below meth c A ls St hr hlocks hin hK hT hA hP hD hS hl
  obtain ⟨hx, hb, hml, hown, hts⟩ := id St
  have hl : lv_has ls 4 [(0, .ref o), (1, .int wh)] := hl
  refine lv_iconst (v := 0) hx hb dX9_worksIn_0 (by decide) ?_
  refine lv_istore_n (lv' := [(2, .int 0), (0, .ref o), (1, .int wh)]) hx hb dX9_worksIn_1 rfl hl (by decide) rfl (fun ls hl => ?_)
  refine lv_iconst (v := 0) hx hb dX9_worksIn_2 (by decide) ?_
  refine lv_istore_n (lv' := [(3, .int 0), (2, .int 0), (0, .ref o), (1, .int wh)]) hx hb dX9_worksIn_3 rfl hl (by decide) rfl (fun ls hl => ?_)
  have hl := lv_sub (l' := [(0, .ref o), (1, .int wh), (2, .int 0), (3, .int 0)]) hl [2, 3, 1, 0] rfl
  have LP4_4 : ∀ (kf : Nat) (x_1 : Int32) (x_2 : Int32), (0 ≤ x_2.toInt ∧ x_2.toInt ≤ 6) → ∀ (H : Heap) (locs : List Loc) (ls : Array Slot), ((7 - x_2.toInt).toNat) < kf → va_P g.1 vwCl (List.flatten [bTown g o a pe wo tx ch jo tr dy sd f]) H → va_D A (List.flatten [bTown g o a pe wo tx ch jo tr dy sd f]) → va_S A s.heap H locs → lv_has ls 4 [(0, .ref o), (1, .int wh), (2, .int x_1), (3, .int x_2)] → W p l e ({ frames := 0, cells := 0, slots := 0, locals := 0 } : Room) s m args below meth c H locs (0) (0) (zF g (fun (q : Int32) => some (.int q)) (fun (q : Int32) => True) (fun (q : Int32) => [bTown g o a pe wo tx ch jo tr dy sd f]) ({ frames := 0, cells := 0, slots := 0, locals := 0 } : Room) below args s A) (F0 m 4 ls []) := by
    intro kf
    induction kf with
    | zero => intro x_1 x_2 i3 H locs ls hk; exact absurd hk (Nat.not_lt_zero _)
    | succ kf ih4_5 =>
      intro x_1 x_2 i3 H locs ls hk4_5 hP hD hS hl
      refine lv_iload_n hx hb dX9_worksIn_4 rfl (lv_at hl 3 rfl) ?_
      refine lv_aload_n hx hb dX9_worksIn_5 rfl (lv_at hl 0 rfl) ?_
      refine va_get (D := g.1) (ci := 7) (v := .int wo) (C := RX9) (T := TX9) (N := 19) hx hb hts izRX9 hown hK hP 0 rfl rfl 1 (by decide) (hts _ k32) (fun _ h9 => h9) rfl dX9_worksIn_6 ?_
      refine lv_icmp_ge (tgt := 34) hx hb dX9_worksIn_9 (by decide) (fun cb9 => ?_) (fun cb9 => ?_)
      · skip
        have c6 : wo.toInt ≤ x_2.toInt := zle cb9 rfl rfl
        refine lv_iload_n hx hb dX9_worksIn_34 rfl (lv_at hl 2 rfl) ?_
        have hP : va_P g.1 vwCl (List.flatten [bTown g o a pe wo tx ch jo tr dy sd f]) H := hP
        have hD : va_D A (List.flatten [bTown g o a pe wo tx ch jo tr dy sd f]) := hD
        exact mret_i hx hb hr hlocks hS (Nat.le_of_ble_eq_true rfl) (Nat.le_of_ble_eq_true rfl) dX9_worksIn_35 (x_1) rfl trivial hP hD
      · skip
        have c7 : x_2.toInt < wo.toInt := zlti (Int32.not_le.mp cb9) rfl rfl
        have n8 : x_2.toInt ≤ 5 := zL1 (b := 6) c7 b_wo.2 (by decide)
        have n9 : 1 ≤ wo.toInt := zL2 (a := 0) c7 i3.1 (by decide)
        refine lv_aload_n hx hb dX9_worksIn_12 rfl (lv_at hl 0 rfl) ?_
        refine va_get (D := g.1) (ci := 7) (v := .ref (a 9)) (C := RX9) (T := TX9) (N := 19) hx hb hts izRX9 hown hK hP 0 rfl rfl 17 (by decide) (hts _ k19) (fun _ h9 => h9) rfl dX9_worksIn_13 ?_
        refine lv_iload_n hx hb dX9_worksIn_16 rfl (lv_at hl 3 rfl) ?_
        refine va_iald hx hb hK hP 10 0 rfl rfl (zinK (a := 0) (b := 5) i3.1 n8 (by decide)) dX9_worksIn_17 ?_
        refine zg (fun x_10 => ?_)
        refine lv_iload_n hx hb dX9_worksIn_18 rfl (lv_at hl 1 rfl) ?_
        refine lv_icmp_ne (tgt := 28) hx hb dX9_worksIn_19 (by decide) (fun cb9 => ?_) (fun cb9 => ?_)
        · skip
          have c11 : ¬ x_10.toInt = wh.toInt := zne cb9 rfl rfl
          refine ziinc3 (n' := 1) (a' := 1) (b' := 6) (lv' := fun v9 => [(3, .int v9), (0, .ref o), (1, .int wh), (2, .int x_1)]) hx hb dX9_worksIn_28 hl (k := 3) rfl (by decide) (fun _ => rfl) (zaddK (i := x_2.toInt) (j := 1) rfl (by decide) i3.1 n8 (Int.le_refl _) (Int.le_refl _) (by decide)) (fun x_12 ls hx_12 hl => ?_)
          refine lv_goto (tgt := 4) hx hb dX9_worksIn_31 (by decide) ?_
          have hl := lv_sub (l' := [(0, .ref o), (1, .int wh), (2, .int x_1), (3, .int x_12)]) hl [1, 2, 3, 0] rfl
          have hP : va_P g.1 vwCl (List.flatten [bTown g o a pe wo tx ch jo tr dy sd f]) H := hP
          have hD : va_D A (List.flatten [bTown g o a pe wo tx ch jo tr dy sd f]) := hD
          exact ih4_5 x_1 x_12 ⟨(Int.le_trans (by decide) hx_12.2.1), hx_12.2.2⟩ H _ ls (zmK hx_12.1 (by decide) n8 (by decide) hk4_5)  hP hD hS (lv_sub hl [0, 1, 2, 3] rfl)
        · skip
          have c13 : x_10.toInt = wh.toInt := zeq cb9 rfl rfl
          refine lv_iload_n hx hb dX9_worksIn_22 rfl (lv_at hl 2 rfl) ?_
          refine lv_iconst (v := 1) hx hb dX9_worksIn_23 (by decide) ?_
          refine lv_iload_n hx hb dX9_worksIn_24 rfl (lv_at hl 3 rfl) ?_
          refine lv_ishl hx hb dX9_worksIn_25 ?_
          refine zgb (zshl1 (j := x_2.toInt) rfl 5 32 (by decide) (by decide) ⟨i3.1, n8⟩) (fun x_14 hx_14 => ?_)
          refine lv_ior hx hb dX9_worksIn_26 ?_
          refine zg (fun x_15 => ?_)
          refine lv_istore_n (lv' := [(2, .int x_15), (0, .ref o), (1, .int wh), (3, .int x_2)]) hx hb dX9_worksIn_27 rfl hl (by decide) rfl (fun ls hl => ?_)
          refine ziinc3 (n' := 1) (a' := 1) (b' := 6) (lv' := fun v9 => [(3, .int v9), (2, .int x_15), (0, .ref o), (1, .int wh)]) hx hb dX9_worksIn_28 hl (k := 3) rfl (by decide) (fun _ => rfl) (zaddK (i := x_2.toInt) (j := 1) rfl (by decide) i3.1 n8 (Int.le_refl _) (Int.le_refl _) (by decide)) (fun x_16 ls hx_16 hl => ?_)
          refine lv_goto (tgt := 4) hx hb dX9_worksIn_31 (by decide) ?_
          have hl := lv_sub (l' := [(0, .ref o), (1, .int wh), (2, .int x_15), (3, .int x_16)]) hl [2, 3, 1, 0] rfl
          have hP : va_P g.1 vwCl (List.flatten [bTown g o a pe wo tx ch jo tr dy sd f]) H := hP
          have hD : va_D A (List.flatten [bTown g o a pe wo tx ch jo tr dy sd f]) := hD
          exact ih4_5 x_15 x_16 ⟨(Int.le_trans (by decide) hx_16.2.1), hx_16.2.2⟩ H _ ls (zmK hx_16.1 (by decide) n8 (by decide) hk4_5)  hP hD hS (lv_sub hl [0, 1, 2, 3] rfl)
  have hP : va_P g.1 vwCl (List.flatten [bTown g o a pe wo tx ch jo tr dy sd f]) s.heap := hP
  have hD : va_D A (List.flatten [bTown g o a pe wo tx ch jo tr dy sd f]) := hD
  exact LP4_4 _ 0 0 (by decide) s.heap _ ls (Nat.lt_succ_self _)  hP hD hS (lv_sub hl [0, 1, 2, 3] rfl)
set_option maxRecDepth 100000 in
set_option maxHeartbeats 4000000 in
theorem c_firstComing (l : Launch) (g : zG) (o : Nat) (a : Nat → Nat) (pe : Int32) (wo : Int32) (tx : Int32) (ch : Int32) (jo : Int32) (tr : Int32) (dy : Int32) (sd : Int32) (f : Nat → Nat → Int32) (b_pe : 0 ≤ pe.toInt ∧ pe.toInt ≤ 8) (b_wo : 0 ≤ wo.toInt ∧ wo.toInt ≤ 6) (rf : zZ4 f) : zM' g l yX9_firstComing (Cond.code yX9_firstComing cX9_firstComing 3 (some .int) :: zB) ({ frames := 1, cells := 0, slots := 0, locals := 21 } : Room) [.ref o] [bTown g o a pe wo tx ch jo tr dy sd f] (fun (q : Int32) => some (.int q)) (fun (q : Int32) => True) (fun (q : Int32) => [bTown g o a pe wo tx ch jo tr dy sd f]) := by
  refine zM'.of (cc := cX9_firstComing) (maxL := 3) (rt := (some .int)) (by decide) rfl (Nat.le_of_ble_eq_true rfl) ?_
  intro p e s m args below meth c A ls St hr hlocks hin hK hT hA hP hD hS hl
  obtain ⟨hx, hb, hml, hown, hts⟩ := id St
  have hl : lv_has ls 3 [(0, .ref o)] := hl
  refine lv_iconst (v := (-1)) hx hb dX9_firstComing_0 (by decide) ?_
  refine lv_istore_n (lv' := [(1, .int (-1)), (0, .ref o)]) hx hb dX9_firstComing_1 rfl hl (by decide) rfl (fun ls hl => ?_)
  refine lv_iconst (v := 0) hx hb dX9_firstComing_2 (by decide) ?_
  refine lv_istore_n (lv' := [(2, .int 0), (1, .int (-1)), (0, .ref o)]) hx hb dX9_firstComing_3 rfl hl (by decide) rfl (fun ls hl => ?_)
  have hl := lv_sub (l' := [(0, .ref o), (1, .int (-1)), (2, .int 0)]) hl [2, 1, 0] rfl
  have LP4_4 : ∀ (kf : Nat) (x_1 : Int32) (x_2 : Int32), (0 ≤ x_2.toInt ∧ x_2.toInt ≤ 8) → ∀ (H : Heap) (locs : List Loc) (ls : Array Slot), ((9 - x_2.toInt).toNat) < kf → va_P g.1 vwCl (List.flatten [bTown g o a pe wo tx ch jo tr dy sd f]) H → va_D A (List.flatten [bTown g o a pe wo tx ch jo tr dy sd f]) → va_S A s.heap H locs → lv_has ls 3 [(0, .ref o), (1, .int x_1), (2, .int x_2)] → W p l e ({ frames := 1, cells := 0, slots := 0, locals := 21 } : Room) s m args below meth c H locs (0) (0) (zF g (fun (q : Int32) => some (.int q)) (fun (q : Int32) => True) (fun (q : Int32) => [bTown g o a pe wo tx ch jo tr dy sd f]) ({ frames := 1, cells := 0, slots := 0, locals := 21 } : Room) below args s A) (F0 m 4 ls []) := by
    intro kf
    induction kf with
    | zero => intro x_1 x_2 i3 H locs ls hk; exact absurd hk (Nat.not_lt_zero _)
    | succ kf ih4_5 =>
      intro x_1 x_2 i3 H locs ls hk4_5 hP hD hS hl
      refine lv_iload_n hx hb dX9_firstComing_4 rfl (lv_at hl 2 rfl) ?_
      refine lv_aload_n hx hb dX9_firstComing_5 rfl (lv_at hl 0 rfl) ?_
      refine va_get (D := g.1) (ci := 7) (v := .int pe) (C := RX9) (T := TX9) (N := 19) hx hb hts izRX9 hown hK hP 0 rfl rfl 0 (by decide) (hts _ k31) (fun _ h9 => h9) rfl dX9_firstComing_6 ?_
      refine lv_icmp_ge (tgt := 48) hx hb dX9_firstComing_9 (by decide) (fun cb9 => ?_) (fun cb9 => ?_)
      · skip
        have c6 : pe.toInt ≤ x_2.toInt := zle cb9 rfl rfl
        refine lv_iload_n hx hb dX9_firstComing_48 rfl (lv_at hl 1 rfl) ?_
        refine lv_iconst (v := (-1)) hx hb dX9_firstComing_49 (by decide) ?_
        refine lv_icmp_eq (tgt := 60) hx hb dX9_firstComing_50 (by decide) (fun cb9 => ?_) (fun cb9 => ?_)
        · skip
          have c7 : x_1.toInt = (-1) := zeq cb9 rfl (by decide)
          have n8 : (-1) ≤ x_1.toInt := Int.le_trans (Int.le_refl _) (Int.le_of_eq c7.symm)
          have n9 : x_1.toInt ≤ (-1) := Int.le_trans (Int.le_of_eq c7) (Int.le_refl _)
          refine lv_iconst (v := (-1)) hx hb dX9_firstComing_60 (by decide) ?_
          refine lv_goto (tgt := 72) hx hb dX9_firstComing_61 (by decide) ?_
          have hP : va_P g.1 vwCl (List.flatten [bTown g o a pe wo tx ch jo tr dy sd f]) H := hP
          have hD : va_D A (List.flatten [bTown g o a pe wo tx ch jo tr dy sd f]) := hD
          exact mret_i hx hb hr hlocks hS (Nat.le_of_ble_eq_true rfl) (Nat.le_of_ble_eq_true rfl) dX9_firstComing_72 (-1) rfl trivial hP hD
        · skip
          have c10 : ¬ x_1.toInt = (-1) := zne cb9 rfl (by decide)
          refine lv_iload_n hx hb dX9_firstComing_53 rfl (lv_at hl 1 rfl) ?_
          refine lv_sipush (v := 9999) hx hb dX9_firstComing_54 (by decide) ?_
          refine lv_icmp_le (tgt := 64) hx hb dX9_firstComing_57 (by decide) (fun cb9 => ?_) (fun cb9 => ?_)
          · skip
            have c11 : x_1.toInt ≤ 9999 := zle cb9 rfl (by decide)
            have n12 : x_1.toInt ≤ 9999 := Int.le_trans c11 (Int.le_refl _)
            refine lv_iload_n hx hb dX9_firstComing_64 rfl (lv_at hl 1 rfl) ?_
            refine lv_aload_n hx hb dX9_firstComing_65 rfl (lv_at hl 0 rfl) ?_
            refine va_get (D := g.1) (ci := 7) (v := .int dy) (C := RX9) (T := TX9) (N := 19) hx hb hts izRX9 hown hK hP 0 rfl rfl 6 (by decide) (hts _ k34) (fun _ h9 => h9) rfl dX9_firstComing_66 ?_
            refine va_mmax hx hb (by rw [hml]; exact hl.1.symm) hown (hts _ k44) (hts _ k45) (hts _ k42) (hts _ k46) (Nat.le_of_ble_eq_true rfl) (Nat.le_of_ble_eq_true rfl) (Nat.le_of_ble_eq_true rfl) (Nat.le_of_ble_eq_true rfl) dX9_firstComing_69 ?_
            refine zgmx (i := x_1.toInt) (j := dy.toInt) rfl rfl (fun x_13 hx_13 => ?_)
            have hP : va_P g.1 vwCl (List.flatten [bTown g o a pe wo tx ch jo tr dy sd f]) H := hP
            have hD : va_D A (List.flatten [bTown g o a pe wo tx ch jo tr dy sd f]) := hD
            exact mret_i hx hb hr hlocks hS (Nat.le_of_ble_eq_true rfl) (Nat.le_of_ble_eq_true rfl) dX9_firstComing_72 (x_13) rfl trivial hP hD
          · skip
            have c14 : 9999 < x_1.toInt := zlti (Int32.not_le.mp cb9) (by decide) rfl
            have n15 : 10000 ≤ x_1.toInt := zL2 (a := 9999) c14 (Int.le_refl _) (by decide)
            refine lv_iconst (v := (-1)) hx hb dX9_firstComing_60 (by decide) ?_
            refine lv_goto (tgt := 72) hx hb dX9_firstComing_61 (by decide) ?_
            have hP : va_P g.1 vwCl (List.flatten [bTown g o a pe wo tx ch jo tr dy sd f]) H := hP
            have hD : va_D A (List.flatten [bTown g o a pe wo tx ch jo tr dy sd f]) := hD
            exact mret_i hx hb hr hlocks hS (Nat.le_of_ble_eq_true rfl) (Nat.le_of_ble_eq_true rfl) dX9_firstComing_72 (-1) rfl trivial hP hD
      · skip
        have c16 : x_2.toInt < pe.toInt := zlti (Int32.not_le.mp cb9) rfl rfl
        have n17 : x_2.toInt ≤ 7 := zL1 (b := 8) c16 b_pe.2 (by decide)
        have n18 : 1 ≤ pe.toInt := zL2 (a := 0) c16 i3.1 (by decide)
        refine lv_aload_n hx hb dX9_firstComing_12 rfl (lv_at hl 0 rfl) ?_
        refine lv_iload_n hx hb dX9_firstComing_13 rfl (lv_at hl 2 rfl) ?_
        refine mcallV' (g := g) (q0 := 0) (ci := 7) (As := [.int x_2]) (rest := []) St hK hT hA hP hD hS hl.1 [0] [] rfl rfl rfl (c_isHere l g o a pe wo tx ch jo tr dy sd f x_2 (⟨i3.1, n17⟩)) (cwV 1 hts (zgL (zl4 k53 k54 k55 k24) k51) rfl rfl rfl (by decide +kernel) ⟨Nat.le_of_ble_eq_true rfl, Nat.le_of_ble_eq_true rfl⟩) rfl rfl rfl rfl (Nat.le_of_ble_eq_true rfl) dX9_firstComing_14 ⟨(Nat.le_of_ble_eq_true rfl), (Nat.le_of_ble_eq_true rfl)⟩ (fun q_19 H locs hq20 hP hD hS => ?_)
        replace hq20 : (q_19 = 0 ∨ q_19 = 1) := hq20
        have hP : va_P g.1 vwCl (List.flatten [bTown g o a pe wo tx ch jo tr dy sd f]) H := hP
        have hD : va_D A (List.flatten [bTown g o a pe wo tx ch jo tr dy sd f]) := hD
        refine W.widen (k := 0) (n := 0) (Nat.le_of_ble_eq_true rfl) (Nat.le_of_ble_eq_true rfl) ?_
        refine W.eq (g2 := F0 m 17 ls [.int q_19]) rfl ?_
        rcases hq20 with rfl | rfl
        · skip
          refine lv_if_ne (tgt := 42) hx hb dX9_firstComing_17 (by decide) (fun c21 => absurd (by decide) c21) (fun _ => ?_)
          refine lv_iload_n hx hb dX9_firstComing_20 rfl (lv_at hl 1 rfl) ?_
          refine lv_iconst (v := (-1)) hx hb dX9_firstComing_21 (by decide) ?_
          refine lv_icmp_eq (tgt := 35) hx hb dX9_firstComing_22 (by decide) (fun cb9 => ?_) (fun cb9 => ?_)
          · skip
            have c22 : x_1.toInt = (-1) := zeq cb9 rfl (by decide)
            have n23 : (-1) ≤ x_1.toInt := Int.le_trans (Int.le_refl _) (Int.le_of_eq c22.symm)
            have n24 : x_1.toInt ≤ (-1) := Int.le_trans (Int.le_of_eq c22) (Int.le_refl _)
            refine lv_aload_n hx hb dX9_firstComing_35 rfl (lv_at hl 0 rfl) ?_
            refine va_get (D := g.1) (ci := 7) (v := .ref (a 3)) (C := RX9) (T := TX9) (N := 19) hx hb hts izRX9 hown hK hP 0 rfl rfl 11 (by decide) (hts _ k12) (fun _ h9 => h9) rfl dX9_firstComing_36 ?_
            refine lv_iload_n hx hb dX9_firstComing_39 rfl (lv_at hl 2 rfl) ?_
            refine va_iald hx hb hK hP 4 0 rfl rfl (zinK (a := 0) (b := 7) i3.1 n17 (by decide)) dX9_firstComing_40 ?_
            refine zg (fun x_25 => ?_)
            refine lv_istore_n (lv' := [(1, .int x_25), (0, .ref o), (2, .int x_2)]) hx hb dX9_firstComing_41 rfl hl (by decide) rfl (fun ls hl => ?_)
            refine ziinc3 (n' := 1) (a' := 1) (b' := 8) (lv' := fun v9 => [(2, .int v9), (1, .int x_25), (0, .ref o)]) hx hb dX9_firstComing_42 hl (k := 2) rfl (by decide) (fun _ => rfl) (zaddK (i := x_2.toInt) (j := 1) rfl (by decide) i3.1 n17 (Int.le_refl _) (Int.le_refl _) (by decide)) (fun x_26 ls hx_26 hl => ?_)
            refine lv_goto (tgt := 4) hx hb dX9_firstComing_45 (by decide) ?_
            have hl := lv_sub (l' := [(0, .ref o), (1, .int x_25), (2, .int x_26)]) hl [2, 1, 0] rfl
            have hP : va_P g.1 vwCl (List.flatten [bTown g o a pe wo tx ch jo tr dy sd f]) H := hP
            have hD : va_D A (List.flatten [bTown g o a pe wo tx ch jo tr dy sd f]) := hD
            exact ih4_5 x_25 x_26 ⟨(Int.le_trans (by decide) hx_26.2.1), hx_26.2.2⟩ H _ ls (zmK hx_26.1 (by decide) n17 (by decide) hk4_5)  hP hD hS (lv_sub hl [0, 1, 2] rfl)
          · skip
            have c27 : ¬ x_1.toInt = (-1) := zne cb9 rfl (by decide)
            refine lv_aload_n hx hb dX9_firstComing_25 rfl (lv_at hl 0 rfl) ?_
            refine va_get (D := g.1) (ci := 7) (v := .ref (a 3)) (C := RX9) (T := TX9) (N := 19) hx hb hts izRX9 hown hK hP 0 rfl rfl 11 (by decide) (hts _ k12) (fun _ h9 => h9) rfl dX9_firstComing_26 ?_
            refine lv_iload_n hx hb dX9_firstComing_29 rfl (lv_at hl 2 rfl) ?_
            refine va_iald hx hb hK hP 4 0 rfl rfl (zinK (a := 0) (b := 7) i3.1 n17 (by decide)) dX9_firstComing_30 ?_
            refine zg (fun x_28 => ?_)
            refine lv_iload_n hx hb dX9_firstComing_31 rfl (lv_at hl 1 rfl) ?_
            refine lv_icmp_ge (tgt := 42) hx hb dX9_firstComing_32 (by decide) (fun cb9 => ?_) (fun cb9 => ?_)
            · skip
              have c29 : x_1.toInt ≤ x_28.toInt := zle cb9 rfl rfl
              refine ziinc3 (n' := 1) (a' := 1) (b' := 8) (lv' := fun v9 => [(2, .int v9), (0, .ref o), (1, .int x_1)]) hx hb dX9_firstComing_42 hl (k := 2) rfl (by decide) (fun _ => rfl) (zaddK (i := x_2.toInt) (j := 1) rfl (by decide) i3.1 n17 (Int.le_refl _) (Int.le_refl _) (by decide)) (fun x_30 ls hx_30 hl => ?_)
              refine lv_goto (tgt := 4) hx hb dX9_firstComing_45 (by decide) ?_
              have hl := lv_sub (l' := [(0, .ref o), (1, .int x_1), (2, .int x_30)]) hl [1, 2, 0] rfl
              have hP : va_P g.1 vwCl (List.flatten [bTown g o a pe wo tx ch jo tr dy sd f]) H := hP
              have hD : va_D A (List.flatten [bTown g o a pe wo tx ch jo tr dy sd f]) := hD
              exact ih4_5 x_1 x_30 ⟨(Int.le_trans (by decide) hx_30.2.1), hx_30.2.2⟩ H _ ls (zmK hx_30.1 (by decide) n17 (by decide) hk4_5)  hP hD hS (lv_sub hl [0, 1, 2] rfl)
            · skip
              have c31 : x_28.toInt < x_1.toInt := zlti (Int32.not_le.mp cb9) rfl rfl
              refine lv_aload_n hx hb dX9_firstComing_35 rfl (lv_at hl 0 rfl) ?_
              refine va_get (D := g.1) (ci := 7) (v := .ref (a 3)) (C := RX9) (T := TX9) (N := 19) hx hb hts izRX9 hown hK hP 0 rfl rfl 11 (by decide) (hts _ k12) (fun _ h9 => h9) rfl dX9_firstComing_36 ?_
              refine lv_iload_n hx hb dX9_firstComing_39 rfl (lv_at hl 2 rfl) ?_
              refine va_iald hx hb hK hP 4 0 rfl rfl (zinK (a := 0) (b := 7) i3.1 n17 (by decide)) dX9_firstComing_40 ?_
              refine zg (fun x_32 => ?_)
              refine lv_istore_n (lv' := [(1, .int x_32), (0, .ref o), (2, .int x_2)]) hx hb dX9_firstComing_41 rfl hl (by decide) rfl (fun ls hl => ?_)
              refine ziinc3 (n' := 1) (a' := 1) (b' := 8) (lv' := fun v9 => [(2, .int v9), (1, .int x_32), (0, .ref o)]) hx hb dX9_firstComing_42 hl (k := 2) rfl (by decide) (fun _ => rfl) (zaddK (i := x_2.toInt) (j := 1) rfl (by decide) i3.1 n17 (Int.le_refl _) (Int.le_refl _) (by decide)) (fun x_33 ls hx_33 hl => ?_)
              refine lv_goto (tgt := 4) hx hb dX9_firstComing_45 (by decide) ?_
              have hl := lv_sub (l' := [(0, .ref o), (1, .int x_32), (2, .int x_33)]) hl [2, 1, 0] rfl
              have hP : va_P g.1 vwCl (List.flatten [bTown g o a pe wo tx ch jo tr dy sd f]) H := hP
              have hD : va_D A (List.flatten [bTown g o a pe wo tx ch jo tr dy sd f]) := hD
              exact ih4_5 x_32 x_33 ⟨(Int.le_trans (by decide) hx_33.2.1), hx_33.2.2⟩ H _ ls (zmK hx_33.1 (by decide) n17 (by decide) hk4_5)  hP hD hS (lv_sub hl [0, 1, 2] rfl)
        · skip
          refine lv_if_ne (tgt := 42) hx hb dX9_firstComing_17 (by decide) (fun _ => ?_) (fun c34 => absurd c34 (by decide))
          refine ziinc3 (n' := 1) (a' := 1) (b' := 8) (lv' := fun v9 => [(2, .int v9), (0, .ref o), (1, .int x_1)]) hx hb dX9_firstComing_42 hl (k := 2) rfl (by decide) (fun _ => rfl) (zaddK (i := x_2.toInt) (j := 1) rfl (by decide) i3.1 n17 (Int.le_refl _) (Int.le_refl _) (by decide)) (fun x_35 ls hx_35 hl => ?_)
          refine lv_goto (tgt := 4) hx hb dX9_firstComing_45 (by decide) ?_
          have hl := lv_sub (l' := [(0, .ref o), (1, .int x_1), (2, .int x_35)]) hl [1, 2, 0] rfl
          have hP : va_P g.1 vwCl (List.flatten [bTown g o a pe wo tx ch jo tr dy sd f]) H := hP
          have hD : va_D A (List.flatten [bTown g o a pe wo tx ch jo tr dy sd f]) := hD
          exact ih4_5 x_1 x_35 ⟨(Int.le_trans (by decide) hx_35.2.1), hx_35.2.2⟩ H _ ls (zmK hx_35.1 (by decide) n17 (by decide) hk4_5)  hP hD hS (lv_sub hl [0, 1, 2] rfl)
  have hP : va_P g.1 vwCl (List.flatten [bTown g o a pe wo tx ch jo tr dy sd f]) s.heap := hP
  have hD : va_D A (List.flatten [bTown g o a pe wo tx ch jo tr dy sd f]) := hD
  exact LP4_4 _ (-1) 0 (by decide) s.heap _ ls (Nat.lt_succ_self _)  hP hD hS (lv_sub hl [0, 1, 2] rfl)
set_option maxRecDepth 100000 in
set_option maxHeartbeats 4000000 in
theorem c_gainOf (l : Launch) (g : zG) (o : Nat) (a : Nat → Nat) (pe : Int32) (wo : Int32) (tx : Int32) (ch : Int32) (jo : Int32) (tr : Int32) (dy : Int32) (sd : Int32) (f : Nat → Nat → Int32) (st0 : Int32) (b_pe : 0 ≤ pe.toInt ∧ pe.toInt ≤ 8) (b_wo : 0 ≤ wo.toInt ∧ wo.toInt ≤ 6) (rf : zZ4 f) : zM' g l yX9_gainOf (Cond.code yX9_gainOf cX9_gainOf 4 (some .int) :: zB) ({ frames := 0, cells := 0, slots := 0, locals := 0 } : Room) [.ref o, .int st0] [bTown g o a pe wo tx ch jo tr dy sd f] (fun (q : Int32) => some (.int q)) (fun (q : Int32) => True) (fun (q : Int32) => [bTown g o a pe wo tx ch jo tr dy sd f]) := by
  refine zM'.of (cc := cX9_gainOf) (maxL := 4) (rt := (some .int)) (by decide) rfl (Nat.le_of_ble_eq_true rfl) ?_
  intro p e s m args below meth c A ls St hr hlocks hin hK hT hA hP hD hS hl
  obtain ⟨hx, hb, hml, hown, hts⟩ := id St
  have hl : lv_has ls 4 [(0, .ref o), (1, .int st0)] := hl
  refine lv_iconst (v := 0) hx hb dX9_gainOf_0 (by decide) ?_
  refine lv_istore_n (lv' := [(2, .int 0), (0, .ref o), (1, .int st0)]) hx hb dX9_gainOf_1 rfl hl (by decide) rfl (fun ls hl => ?_)
  refine lv_iconst (v := 0) hx hb dX9_gainOf_2 (by decide) ?_
  refine lv_istore_n (lv' := [(3, .int 0), (2, .int 0), (0, .ref o), (1, .int st0)]) hx hb dX9_gainOf_3 rfl hl (by decide) rfl (fun ls hl => ?_)
  have hl := lv_sub (l' := [(0, .ref o), (1, .int st0), (2, .int 0), (3, .int 0)]) hl [2, 3, 1, 0] rfl
  have LP4_4 : ∀ (kf : Nat) (x_1 : Int32) (x_2 : Int32), (0 ≤ x_2.toInt ∧ x_2.toInt ≤ 6) → ∀ (H : Heap) (locs : List Loc) (ls : Array Slot), ((7 - x_2.toInt).toNat) < kf → va_P g.1 vwCl (List.flatten [bTown g o a pe wo tx ch jo tr dy sd f]) H → va_D A (List.flatten [bTown g o a pe wo tx ch jo tr dy sd f]) → va_S A s.heap H locs → lv_has ls 4 [(0, .ref o), (1, .int st0), (2, .int x_1), (3, .int x_2)] → W p l e ({ frames := 0, cells := 0, slots := 0, locals := 0 } : Room) s m args below meth c H locs (0) (0) (zF g (fun (q : Int32) => some (.int q)) (fun (q : Int32) => True) (fun (q : Int32) => [bTown g o a pe wo tx ch jo tr dy sd f]) ({ frames := 0, cells := 0, slots := 0, locals := 0 } : Room) below args s A) (F0 m 4 ls []) := by
    intro kf
    induction kf with
    | zero => intro x_1 x_2 i3 H locs ls hk; exact absurd hk (Nat.not_lt_zero _)
    | succ kf ih4_5 =>
      intro x_1 x_2 i3 H locs ls hk4_5 hP hD hS hl
      refine lv_iload_n hx hb dX9_gainOf_4 rfl (lv_at hl 3 rfl) ?_
      refine lv_aload_n hx hb dX9_gainOf_5 rfl (lv_at hl 0 rfl) ?_
      refine va_get (D := g.1) (ci := 7) (v := .int wo) (C := RX9) (T := TX9) (N := 19) hx hb hts izRX9 hown hK hP 0 rfl rfl 1 (by decide) (hts _ k32) (fun _ h9 => h9) rfl dX9_gainOf_6 ?_
      refine lv_icmp_ge (tgt := 35) hx hb dX9_gainOf_9 (by decide) (fun cb9 => ?_) (fun cb9 => ?_)
      · skip
        have c6 : wo.toInt ≤ x_2.toInt := zle cb9 rfl rfl
        refine lv_iload_n hx hb dX9_gainOf_35 rfl (lv_at hl 2 rfl) ?_
        have hP : va_P g.1 vwCl (List.flatten [bTown g o a pe wo tx ch jo tr dy sd f]) H := hP
        have hD : va_D A (List.flatten [bTown g o a pe wo tx ch jo tr dy sd f]) := hD
        exact mret_i hx hb hr hlocks hS (Nat.le_of_ble_eq_true rfl) (Nat.le_of_ble_eq_true rfl) dX9_gainOf_36 (x_1) rfl trivial hP hD
      · skip
        have c7 : x_2.toInt < wo.toInt := zlti (Int32.not_le.mp cb9) rfl rfl
        have n8 : x_2.toInt ≤ 5 := zL1 (b := 6) c7 b_wo.2 (by decide)
        have n9 : 1 ≤ wo.toInt := zL2 (a := 0) c7 i3.1 (by decide)
        refine lv_iload_n hx hb dX9_gainOf_12 rfl (lv_at hl 1 rfl) ?_
        refine lv_iload_n hx hb dX9_gainOf_13 rfl (lv_at hl 3 rfl) ?_
        refine lv_ishr hx hb dX9_gainOf_14 ?_
        refine zg (fun x_10 => ?_)
        refine lv_iconst (v := 1) hx hb dX9_gainOf_15 (by decide) ?_
        refine lv_iand hx hb dX9_gainOf_16 ?_
        refine zgb (zand1 _) (fun x_11 hx_11 => ?_)
        refine lv_if_eq (tgt := 29) hx hb dX9_gainOf_17 (by decide) (fun cb9 => ?_) (fun cb9 => ?_)
        · skip
          have c12 : x_11.toInt = 0 := zeq cb9 rfl (by decide)
          have n13 : x_11.toInt ≤ 0 := Int.le_trans (Int.le_of_eq c12) (Int.le_refl _)
          refine ziinc3 (n' := 1) (a' := 1) (b' := 6) (lv' := fun v9 => [(3, .int v9), (0, .ref o), (1, .int st0), (2, .int x_1)]) hx hb dX9_gainOf_29 hl (k := 3) rfl (by decide) (fun _ => rfl) (zaddK (i := x_2.toInt) (j := 1) rfl (by decide) i3.1 n8 (Int.le_refl _) (Int.le_refl _) (by decide)) (fun x_14 ls hx_14 hl => ?_)
          refine lv_goto (tgt := 4) hx hb dX9_gainOf_32 (by decide) ?_
          have hl := lv_sub (l' := [(0, .ref o), (1, .int st0), (2, .int x_1), (3, .int x_14)]) hl [1, 2, 3, 0] rfl
          have hP : va_P g.1 vwCl (List.flatten [bTown g o a pe wo tx ch jo tr dy sd f]) H := hP
          have hD : va_D A (List.flatten [bTown g o a pe wo tx ch jo tr dy sd f]) := hD
          exact ih4_5 x_1 x_14 ⟨(Int.le_trans (by decide) hx_14.2.1), hx_14.2.2⟩ H _ ls (zmK hx_14.1 (by decide) n8 (by decide) hk4_5)  hP hD hS (lv_sub hl [0, 1, 2, 3] rfl)
        · skip
          have c15 : ¬ x_11.toInt = 0 := zne cb9 rfl (by decide)
          have n16 : 1 ≤ x_11.toInt := zN1 c15 hx_11.1 (by decide)
          refine lv_iload_n hx hb dX9_gainOf_20 rfl (lv_at hl 2 rfl) ?_
          refine lv_aload_n hx hb dX9_gainOf_21 rfl (lv_at hl 0 rfl) ?_
          refine va_get (D := g.1) (ci := 7) (v := .ref (a 8)) (C := RX9) (T := TX9) (N := 19) hx hb hts izRX9 hown hK hP 0 rfl rfl 16 (by decide) (hts _ k18) (fun _ h9 => h9) rfl dX9_gainOf_22 ?_
          refine lv_iload_n hx hb dX9_gainOf_25 rfl (lv_at hl 3 rfl) ?_
          refine va_iald hx hb hK hP 9 0 rfl rfl (zinK (a := 0) (b := 5) i3.1 n8 (by decide)) dX9_gainOf_26 ?_
          refine zg (fun x_17 => ?_)
          refine lv_iadd hx hb dX9_gainOf_27 ?_
          refine zg (fun x_18 => ?_)
          refine lv_istore_n (lv' := [(2, .int x_18), (0, .ref o), (1, .int st0), (3, .int x_2)]) hx hb dX9_gainOf_28 rfl hl (by decide) rfl (fun ls hl => ?_)
          refine ziinc3 (n' := 1) (a' := 1) (b' := 6) (lv' := fun v9 => [(3, .int v9), (2, .int x_18), (0, .ref o), (1, .int st0)]) hx hb dX9_gainOf_29 hl (k := 3) rfl (by decide) (fun _ => rfl) (zaddK (i := x_2.toInt) (j := 1) rfl (by decide) i3.1 n8 (Int.le_refl _) (Int.le_refl _) (by decide)) (fun x_19 ls hx_19 hl => ?_)
          refine lv_goto (tgt := 4) hx hb dX9_gainOf_32 (by decide) ?_
          have hl := lv_sub (l' := [(0, .ref o), (1, .int st0), (2, .int x_18), (3, .int x_19)]) hl [2, 3, 1, 0] rfl
          have hP : va_P g.1 vwCl (List.flatten [bTown g o a pe wo tx ch jo tr dy sd f]) H := hP
          have hD : va_D A (List.flatten [bTown g o a pe wo tx ch jo tr dy sd f]) := hD
          exact ih4_5 x_18 x_19 ⟨(Int.le_trans (by decide) hx_19.2.1), hx_19.2.2⟩ H _ ls (zmK hx_19.1 (by decide) n8 (by decide) hk4_5)  hP hD hS (lv_sub hl [0, 1, 2, 3] rfl)
  have hP : va_P g.1 vwCl (List.flatten [bTown g o a pe wo tx ch jo tr dy sd f]) s.heap := hP
  have hD : va_D A (List.flatten [bTown g o a pe wo tx ch jo tr dy sd f]) := hD
  exact LP4_4 _ 0 0 (by decide) s.heap _ ls (Nat.lt_succ_self _)  hP hD hS (lv_sub hl [0, 1, 2, 3] rfl)
set_option maxRecDepth 100000 in
set_option maxHeartbeats 4000000 in
theorem c_canBuild (l : Launch) (g : zG) (o : Nat) (a : Nat → Nat) (pe : Int32) (wo : Int32) (tx : Int32) (ch : Int32) (jo : Int32) (tr : Int32) (dy : Int32) (sd : Int32) (f : Nat → Nat → Int32) (st0 : Int32) (b_pe : 0 ≤ pe.toInt ∧ pe.toInt ≤ 8) (b_wo : 0 ≤ wo.toInt ∧ wo.toInt ≤ 6) (rf : zZ4 f) : zM' g l yX9_canBuild (Cond.code yX9_canBuild cX9_canBuild 5 (some .boolean) :: zB) ({ frames := 2, cells := 0, slots := 0, locals := 43 } : Room) [.ref o, .int st0] [bTown g o a pe wo tx ch jo tr dy sd f] (fun (q : Int32) => some (.int q)) (fun (q : Int32) => (q = 0 ∨ q = 1)) (fun (q : Int32) => [bTown g o a pe wo tx ch jo tr dy sd f]) := by
  refine zM'.of (cc := cX9_canBuild) (maxL := 5) (rt := (some .boolean)) (by decide) rfl (Nat.le_of_ble_eq_true rfl) ?_
  intro p e s m args below meth c A ls St hr hlocks hin hK hT hA hP hD hS hl
  obtain ⟨hx, hb, hml, hown, hts⟩ := id St
  have hl : lv_has ls 5 [(0, .ref o), (1, .int st0)] := hl
  refine lv_aload_n hx hb dX9_canBuild_0 rfl (lv_at hl 0 rfl) ?_
  refine mcallV' (g := g) (q0 := 0) (ci := 7) (As := []) (rest := []) St hK hT hA hP hD hS hl.1 [0] [] rfl rfl rfl (c_believed l g o a pe wo tx ch jo tr dy sd f b_pe b_wo rf) (cwV 0 hts (zgL (zl4 k68 k69 k70 k24) k60) rfl rfl rfl (by decide +kernel) ⟨Nat.le_of_ble_eq_true rfl, Nat.le_of_ble_eq_true rfl⟩) rfl rfl rfl rfl (Nat.le_of_ble_eq_true rfl) dX9_canBuild_1 ⟨(Nat.le_of_ble_eq_true rfl), (Nat.le_of_ble_eq_true rfl)⟩ (fun q_1 H locs hq2 hP hD hS => ?_)
  have hP : va_P g.1 vwCl (List.flatten [bTown g o a pe wo tx ch jo tr dy sd f]) H := hP
  have hD : va_D A (List.flatten [bTown g o a pe wo tx ch jo tr dy sd f]) := hD
  refine W.widen (k := 0) (n := 0) (Nat.le_of_ble_eq_true rfl) (Nat.le_of_ble_eq_true rfl) ?_
  refine W.eq (g2 := F0 m 4 ls [.int q_1]) rfl ?_
  refine lv_istore_n (lv' := [(2, .int q_1), (0, .ref o), (1, .int st0)]) hx hb dX9_canBuild_4 rfl hl (by decide) rfl (fun ls hl => ?_)
  refine lv_iconst (v := 0) hx hb dX9_canBuild_5 (by decide) ?_
  refine lv_istore_n (lv' := [(3, .int 0), (2, .int q_1), (0, .ref o), (1, .int st0)]) hx hb dX9_canBuild_6 rfl hl (by decide) rfl (fun ls hl => ?_)
  refine lv_iconst (v := 0) hx hb dX9_canBuild_7 (by decide) ?_
  refine lv_istore (lv' := [(4, .int 0), (3, .int 0), (2, .int q_1), (0, .ref o), (1, .int st0)]) hx hb dX9_canBuild_8 hl (by decide) rfl (fun ls hl => ?_)
  have hl := lv_sub (l' := [(0, .ref o), (1, .int st0), (2, .int q_1), (3, .int 0), (4, .int 0)]) hl [3, 4, 2, 1, 0] rfl
  have LP10_6 : ∀ (kf : Nat) (x_3 : Int32) (x_4 : Int32), (0 ≤ x_4.toInt ∧ x_4.toInt ≤ 6) → ∀ (H : Heap) (locs : List Loc) (ls : Array Slot), ((7 - x_4.toInt).toNat) < kf → va_P g.1 vwCl (List.flatten [bTown g o a pe wo tx ch jo tr dy sd f]) H → va_D A (List.flatten [bTown g o a pe wo tx ch jo tr dy sd f]) → va_S A s.heap H locs → lv_has ls 5 [(0, .ref o), (1, .int st0), (2, .int q_1), (3, .int x_3), (4, .int x_4)] → W p l e ({ frames := 2, cells := 0, slots := 0, locals := 43 } : Room) s m args below meth c H locs (0) (0) (zF g (fun (q : Int32) => some (.int q)) (fun (q : Int32) => (q = 0 ∨ q = 1)) (fun (q : Int32) => [bTown g o a pe wo tx ch jo tr dy sd f]) ({ frames := 2, cells := 0, slots := 0, locals := 43 } : Room) below args s A) (F0 m 10 ls []) := by
    intro kf
    induction kf with
    | zero => intro x_3 x_4 i5 H locs ls hk; exact absurd hk (Nat.not_lt_zero _)
    | succ kf ih10_7 =>
      intro x_3 x_4 i5 H locs ls hk10_7 hP hD hS hl
      refine lv_iload hx hb dX9_canBuild_10 (lv_at hl 4 rfl) ?_
      refine lv_aload_n hx hb dX9_canBuild_12 rfl (lv_at hl 0 rfl) ?_
      refine va_get (D := g.1) (ci := 7) (v := .int wo) (C := RX9) (T := TX9) (N := 19) hx hb hts izRX9 hown hK hP 0 rfl rfl 1 (by decide) (hts _ k32) (fun _ h9 => h9) rfl dX9_canBuild_13 ?_
      refine lv_icmp_ge (tgt := 67) hx hb dX9_canBuild_16 (by decide) (fun cb9 => ?_) (fun cb9 => ?_)
      · skip
        have c8 : wo.toInt ≤ x_4.toInt := zle cb9 rfl rfl
        refine lv_iload_n hx hb dX9_canBuild_67 rfl (lv_at hl 3 rfl) ?_
        refine lv_aload_n hx hb dX9_canBuild_68 rfl (lv_at hl 0 rfl) ?_
        refine va_get (D := g.1) (ci := 7) (v := .int ch) (C := RX9) (T := TX9) (N := 19) hx hb hts izRX9 hown hK hP 0 rfl rfl 3 (by decide) (hts _ k4) (fun _ h9 => h9) rfl dX9_canBuild_69 ?_
        refine lv_icmp_gt (tgt := 79) hx hb dX9_canBuild_72 (by decide) (fun cb9 => ?_) (fun cb9 => ?_)
        · skip
          have c9 : ch.toInt < x_3.toInt := zlti cb9 rfl rfl
          refine lv_iconst (v := 0) hx hb dX9_canBuild_79 (by decide) ?_
          have hP : va_P g.1 vwCl (List.flatten [bTown g o a pe wo tx ch jo tr dy sd f]) H := hP
          have hD : va_D A (List.flatten [bTown g o a pe wo tx ch jo tr dy sd f]) := hD
          exact mret_z hx hb hr hlocks hS (Nat.le_of_ble_eq_true rfl) (Nat.le_of_ble_eq_true rfl) dX9_canBuild_80 ((0 : Int32)) rfl (by decide) (show (0 = 0 ∨ 0 = 1) from (by decide)) hP hD
        · skip
          have c10 : x_3.toInt ≤ ch.toInt := zle (Int32.not_lt.mp cb9) rfl rfl
          refine lv_iconst (v := 1) hx hb dX9_canBuild_75 (by decide) ?_
          refine lv_goto (tgt := 80) hx hb dX9_canBuild_76 (by decide) ?_
          have hP : va_P g.1 vwCl (List.flatten [bTown g o a pe wo tx ch jo tr dy sd f]) H := hP
          have hD : va_D A (List.flatten [bTown g o a pe wo tx ch jo tr dy sd f]) := hD
          exact mret_z hx hb hr hlocks hS (Nat.le_of_ble_eq_true rfl) (Nat.le_of_ble_eq_true rfl) dX9_canBuild_80 ((1 : Int32)) rfl (by decide) (show (1 = 0 ∨ 1 = 1) from (by decide)) hP hD
      · skip
        have c11 : x_4.toInt < wo.toInt := zlti (Int32.not_le.mp cb9) rfl rfl
        have n12 : x_4.toInt ≤ 5 := zL1 (b := 6) c11 b_wo.2 (by decide)
        have n13 : 1 ≤ wo.toInt := zL2 (a := 0) c11 i5.1 (by decide)
        refine lv_iload_n hx hb dX9_canBuild_19 rfl (lv_at hl 1 rfl) ?_
        refine lv_iload hx hb dX9_canBuild_20 (lv_at hl 4 rfl) ?_
        refine lv_ishr hx hb dX9_canBuild_22 ?_
        refine zg (fun x_14 => ?_)
        refine lv_iconst (v := 1) hx hb dX9_canBuild_23 (by decide) ?_
        refine lv_iand hx hb dX9_canBuild_24 ?_
        refine zgb (zand1 _) (fun x_15 hx_15 => ?_)
        refine lv_if_eq (tgt := 61) hx hb dX9_canBuild_25 (by decide) (fun cb9 => ?_) (fun cb9 => ?_)
        · skip
          have c16 : x_15.toInt = 0 := zeq cb9 rfl (by decide)
          have n17 : x_15.toInt ≤ 0 := Int.le_trans (Int.le_of_eq c16) (Int.le_refl _)
          refine ziinc3 (n' := 1) (a' := 1) (b' := 6) (lv' := fun v9 => [(4, .int v9), (0, .ref o), (1, .int st0), (2, .int q_1), (3, .int x_3)]) hx hb dX9_canBuild_61 hl (k := 4) rfl (by decide) (fun _ => rfl) (zaddK (i := x_4.toInt) (j := 1) rfl (by decide) i5.1 n12 (Int.le_refl _) (Int.le_refl _) (by decide)) (fun x_18 ls hx_18 hl => ?_)
          refine lv_goto (tgt := 10) hx hb dX9_canBuild_64 (by decide) ?_
          have hl := lv_sub (l' := [(0, .ref o), (1, .int st0), (2, .int q_1), (3, .int x_3), (4, .int x_18)]) hl [1, 2, 3, 4, 0] rfl
          have hP : va_P g.1 vwCl (List.flatten [bTown g o a pe wo tx ch jo tr dy sd f]) H := hP
          have hD : va_D A (List.flatten [bTown g o a pe wo tx ch jo tr dy sd f]) := hD
          exact ih10_7 x_3 x_18 ⟨(Int.le_trans (by decide) hx_18.2.1), hx_18.2.2⟩ H _ ls (zmK hx_18.1 (by decide) n12 (by decide) hk10_7)  hP hD hS (lv_sub hl [0, 1, 2, 3, 4] rfl)
        · skip
          have c19 : ¬ x_15.toInt = 0 := zne cb9 rfl (by decide)
          have n20 : 1 ≤ x_15.toInt := zN1 c19 hx_15.1 (by decide)
          refine lv_aload_n hx hb dX9_canBuild_28 rfl (lv_at hl 0 rfl) ?_
          refine va_get (D := g.1) (ci := 7) (v := .ref (a 9)) (C := RX9) (T := TX9) (N := 19) hx hb hts izRX9 hown hK hP 0 rfl rfl 17 (by decide) (hts _ k19) (fun _ h9 => h9) rfl dX9_canBuild_29 ?_
          refine lv_iload hx hb dX9_canBuild_32 (lv_at hl 4 rfl) ?_
          refine va_iald hx hb hK hP 10 0 rfl rfl (zinK (a := 0) (b := 5) i5.1 n12 (by decide)) dX9_canBuild_34 ?_
          refine zg (fun x_21 => ?_)
          refine lv_if_ne (tgt := 49) hx hb dX9_canBuild_35 (by decide) (fun cb9 => ?_) (fun cb9 => ?_)
          · skip
            have c22 : ¬ x_21.toInt = 0 := zne cb9 rfl (by decide)
            refine lv_iconst (v := 0) hx hb dX9_canBuild_49 (by decide) ?_
            have hP : va_P g.1 vwCl (List.flatten [bTown g o a pe wo tx ch jo tr dy sd f]) H := hP
            have hD : va_D A (List.flatten [bTown g o a pe wo tx ch jo tr dy sd f]) := hD
            exact mret_z hx hb hr hlocks hS (Nat.le_of_ble_eq_true rfl) (Nat.le_of_ble_eq_true rfl) dX9_canBuild_50 ((0 : Int32)) rfl (by decide) (show (0 = 0 ∨ 0 = 1) from (by decide)) hP hD
          · skip
            have c23 : x_21.toInt = 0 := zeq cb9 rfl (by decide)
            have n24 : 0 ≤ x_21.toInt := Int.le_trans (Int.le_refl _) (Int.le_of_eq c23.symm)
            have n25 : x_21.toInt ≤ 0 := Int.le_trans (Int.le_of_eq c23) (Int.le_refl _)
            refine lv_aload_n hx hb dX9_canBuild_38 rfl (lv_at hl 0 rfl) ?_
            refine va_get (D := g.1) (ci := 7) (v := .ref (a 7)) (C := RX9) (T := TX9) (N := 19) hx hb hts izRX9 hown hK hP 0 rfl rfl 15 (by decide) (hts _ k17) (fun _ h9 => h9) rfl dX9_canBuild_39 ?_
            refine lv_iload hx hb dX9_canBuild_42 (lv_at hl 4 rfl) ?_
            refine va_iald hx hb hK hP 8 0 rfl rfl (zinK (a := 0) (b := 5) i5.1 n12 (by decide)) dX9_canBuild_44 ?_
            refine zg (fun x_26 => ?_)
            refine lv_iload_n hx hb dX9_canBuild_45 rfl (lv_at hl 2 rfl) ?_
            refine lv_icmp_le (tgt := 51) hx hb dX9_canBuild_46 (by decide) (fun cb9 => ?_) (fun cb9 => ?_)
            · skip
              have c27 : x_26.toInt ≤ q_1.toInt := zle cb9 rfl rfl
              refine lv_iload_n hx hb dX9_canBuild_51 rfl (lv_at hl 3 rfl) ?_
              refine lv_aload_n hx hb dX9_canBuild_52 rfl (lv_at hl 0 rfl) ?_
              refine va_get (D := g.1) (ci := 7) (v := .ref (a 6)) (C := RX9) (T := TX9) (N := 19) hx hb hts izRX9 hown hK hP 0 rfl rfl 14 (by decide) (hts _ k16) (fun _ h9 => h9) rfl dX9_canBuild_53 ?_
              refine lv_iload hx hb dX9_canBuild_56 (lv_at hl 4 rfl) ?_
              refine va_iald hx hb hK hP 7 0 rfl rfl (zinK (a := 0) (b := 5) i5.1 n12 (by decide)) dX9_canBuild_58 ?_
              refine zg (fun x_28 => ?_)
              refine lv_iadd hx hb dX9_canBuild_59 ?_
              refine zg (fun x_29 => ?_)
              refine lv_istore_n (lv' := [(3, .int x_29), (0, .ref o), (1, .int st0), (2, .int q_1), (4, .int x_4)]) hx hb dX9_canBuild_60 rfl hl (by decide) rfl (fun ls hl => ?_)
              refine ziinc3 (n' := 1) (a' := 1) (b' := 6) (lv' := fun v9 => [(4, .int v9), (3, .int x_29), (0, .ref o), (1, .int st0), (2, .int q_1)]) hx hb dX9_canBuild_61 hl (k := 4) rfl (by decide) (fun _ => rfl) (zaddK (i := x_4.toInt) (j := 1) rfl (by decide) i5.1 n12 (Int.le_refl _) (Int.le_refl _) (by decide)) (fun x_30 ls hx_30 hl => ?_)
              refine lv_goto (tgt := 10) hx hb dX9_canBuild_64 (by decide) ?_
              have hl := lv_sub (l' := [(0, .ref o), (1, .int st0), (2, .int q_1), (3, .int x_29), (4, .int x_30)]) hl [2, 3, 4, 1, 0] rfl
              have hP : va_P g.1 vwCl (List.flatten [bTown g o a pe wo tx ch jo tr dy sd f]) H := hP
              have hD : va_D A (List.flatten [bTown g o a pe wo tx ch jo tr dy sd f]) := hD
              exact ih10_7 x_29 x_30 ⟨(Int.le_trans (by decide) hx_30.2.1), hx_30.2.2⟩ H _ ls (zmK hx_30.1 (by decide) n12 (by decide) hk10_7)  hP hD hS (lv_sub hl [0, 1, 2, 3, 4] rfl)
            · skip
              have c31 : q_1.toInt < x_26.toInt := zlti (Int32.not_le.mp cb9) rfl rfl
              refine lv_iconst (v := 0) hx hb dX9_canBuild_49 (by decide) ?_
              have hP : va_P g.1 vwCl (List.flatten [bTown g o a pe wo tx ch jo tr dy sd f]) H := hP
              have hD : va_D A (List.flatten [bTown g o a pe wo tx ch jo tr dy sd f]) := hD
              exact mret_z hx hb hr hlocks hS (Nat.le_of_ble_eq_true rfl) (Nat.le_of_ble_eq_true rfl) dX9_canBuild_50 ((0 : Int32)) rfl (by decide) (show (0 = 0 ∨ 0 = 1) from (by decide)) hP hD
  have hP : va_P g.1 vwCl (List.flatten [bTown g o a pe wo tx ch jo tr dy sd f]) H := hP
  have hD : va_D A (List.flatten [bTown g o a pe wo tx ch jo tr dy sd f]) := hD
  exact LP10_6 _ 0 0 (by decide) H _ ls (Nat.lt_succ_self _)  hP hD hS (lv_sub hl [0, 1, 2, 3, 4] rfl)
set_option maxRecDepth 100000 in
set_option maxHeartbeats 4000000 in
theorem c_within (l : Launch) (g : zG) (o : Nat) (a : Nat → Nat) (pe : Int32) (wo : Int32) (tx : Int32) (ch : Int32) (jo : Int32) (tr : Int32) (dy : Int32) (sd : Int32) (f : Nat → Nat → Int32) (v : Int32)  : zM' g l yX9_within (Cond.code yX9_within cX9_within 2 (some .int) :: zB) ({ frames := 1, cells := 0, slots := 0, locals := 14 } : Room) [.ref o, .int v] [bTown g o a pe wo tx ch jo tr dy sd f] (fun (q : Int32) => some (.int q)) (fun (q : Int32) => True) (fun (q : Int32) => [bTown g o a pe wo tx ch jo tr dy sd f]) := by
  refine zM'.of (cc := cX9_within) (maxL := 2) (rt := (some .int)) (by decide) rfl (Nat.le_of_ble_eq_true rfl) ?_
  intro p e s m args below meth c A ls St hr hlocks hin hK hT hA hP hD hS hl
  obtain ⟨hx, hb, hml, hown, hts⟩ := id St
  have hl : lv_has ls 2 [(0, .ref o), (1, .int v)] := hl
  refine lv_iconst (v := 0) hx hb dX9_within_0 (by decide) ?_
  refine lv_bipush (v := 99) hx hb dX9_within_1 (by decide) ?_
  refine lv_iload_n hx hb dX9_within_3 rfl (lv_at hl 1 rfl) ?_
  refine va_mmin hx hb (by rw [hml]; exact hl.1.symm) hown (hts _ k40) (hts _ k41) (hts _ k42) (hts _ k43) (Nat.le_of_ble_eq_true rfl) (Nat.le_of_ble_eq_true rfl) (Nat.le_of_ble_eq_true rfl) (Nat.le_of_ble_eq_true rfl) dX9_within_4 ?_
  refine zgmn (i := 99) (j := v.toInt) (by decide) rfl (fun x_1 hx_1 => ?_)
  refine va_mmax hx hb (by rw [hml]; exact hl.1.symm) hown (hts _ k44) (hts _ k45) (hts _ k42) (hts _ k46) (Nat.le_of_ble_eq_true rfl) (Nat.le_of_ble_eq_true rfl) (Nat.le_of_ble_eq_true rfl) (Nat.le_of_ble_eq_true rfl) dX9_within_7 ?_
  refine zgmx (i := 0) (j := x_1.toInt) (by decide) rfl (fun x_2 hx_2 => ?_)
  have hP : va_P g.1 vwCl (List.flatten [bTown g o a pe wo tx ch jo tr dy sd f]) s.heap := hP
  have hD : va_D A (List.flatten [bTown g o a pe wo tx ch jo tr dy sd f]) := hD
  exact mret_i hx hb hr hlocks hS (Nat.le_of_ble_eq_true rfl) (Nat.le_of_ble_eq_true rfl) dX9_within_10 (x_2) rfl trivial hP hD
set_option maxRecDepth 100000 in
set_option maxHeartbeats 4000000 in
theorem c_bestWorks (l : Launch) (g : zG) (o : Nat) (a : Nat → Nat) (pe : Int32) (wo : Int32) (tx : Int32) (ch : Int32) (jo : Int32) (tr : Int32) (dy : Int32) (sd : Int32) (f : Nat → Nat → Int32) (b_pe : 0 ≤ pe.toInt ∧ pe.toInt ≤ 8) (b_wo : 0 ≤ wo.toInt ∧ wo.toInt ≤ 6) (rf : zZ4 f) : zM' g l yX9_bestWorks (Cond.code yX9_bestWorks cX9_bestWorks 3 (some .int) :: zB) ({ frames := 3, cells := 0, slots := 0, locals := 67 } : Room) [.ref o] [bTown g o a pe wo tx ch jo tr dy sd f] (fun (q : Int32) => some (.int q)) (fun (q : Int32) => True) (fun (q : Int32) => [bTown g o a pe wo tx ch jo tr dy sd f]) := by
  refine zM'.of (cc := cX9_bestWorks) (maxL := 3) (rt := (some .int)) (by decide) rfl (Nat.le_of_ble_eq_true rfl) ?_
  intro p e s m args below meth c A ls St hr hlocks hin hK hT hA hP hD hS hl
  obtain ⟨hx, hb, hml, hown, hts⟩ := id St
  have hl : lv_has ls 3 [(0, .ref o)] := hl
  refine lv_iconst (v := 0) hx hb dX9_bestWorks_0 (by decide) ?_
  refine lv_istore_n (lv' := [(1, .int 0), (0, .ref o)]) hx hb dX9_bestWorks_1 rfl hl (by decide) rfl (fun ls hl => ?_)
  refine lv_iconst (v := 1) hx hb dX9_bestWorks_2 (by decide) ?_
  refine lv_istore_n (lv' := [(2, .int 1), (1, .int 0), (0, .ref o)]) hx hb dX9_bestWorks_3 rfl hl (by decide) rfl (fun ls hl => ?_)
  have hl := lv_sub (l' := [(0, .ref o), (1, .int 0), (2, .int 1)]) hl [2, 1, 0] rfl
  have LP4_5 : ∀ (kf : Nat) (x_1 : Int32) (x_2 : Int32), (0 ≤ x_1.toInt ∧ x_1.toInt ≤ 63) → (1 ≤ x_2.toInt ∧ x_2.toInt ≤ 64) → ∀ (H : Heap) (locs : List Loc) (ls : Array Slot), ((65 - x_2.toInt).toNat) < kf → va_P g.1 vwCl (List.flatten [bTown g o a pe wo tx ch jo tr dy sd f]) H → va_D A (List.flatten [bTown g o a pe wo tx ch jo tr dy sd f]) → va_S A s.heap H locs → lv_has ls 3 [(0, .ref o), (1, .int x_1), (2, .int x_2)] → W p l e ({ frames := 3, cells := 0, slots := 0, locals := 67 } : Room) s m args below meth c H locs (0) (0) (zF g (fun (q : Int32) => some (.int q)) (fun (q : Int32) => True) (fun (q : Int32) => [bTown g o a pe wo tx ch jo tr dy sd f]) ({ frames := 3, cells := 0, slots := 0, locals := 67 } : Room) below args s A) (F0 m 4 ls []) := by
    intro kf
    induction kf with
    | zero => intro x_1 x_2 i3 i4 H locs ls hk; exact absurd hk (Nat.not_lt_zero _)
    | succ kf ih4_6 =>
      intro x_1 x_2 i3 i4 H locs ls hk4_6 hP hD hS hl
      refine lv_iload_n hx hb dX9_bestWorks_4 rfl (lv_at hl 2 rfl) ?_
      refine lv_iconst (v := 1) hx hb dX9_bestWorks_5 (by decide) ?_
      refine lv_aload_n hx hb dX9_bestWorks_6 rfl (lv_at hl 0 rfl) ?_
      refine va_get (D := g.1) (ci := 7) (v := .int wo) (C := RX9) (T := TX9) (N := 19) hx hb hts izRX9 hown hK hP 0 rfl rfl 1 (by decide) (hts _ k32) (fun _ h9 => h9) rfl dX9_bestWorks_7 ?_
      refine lv_ishl hx hb dX9_bestWorks_10 ?_
      refine zgb (zshl1 (j := wo.toInt) rfl 6 64 (by decide) (by decide) ⟨b_wo.1, b_wo.2⟩) (fun x_7 hx_7 => ?_)
      refine lv_icmp_ge (tgt := 43) hx hb dX9_bestWorks_11 (by decide) (fun cb9 => ?_) (fun cb9 => ?_)
      · skip
        have c8 : x_7.toInt ≤ x_2.toInt := zle cb9 rfl rfl
        refine lv_iload_n hx hb dX9_bestWorks_43 rfl (lv_at hl 1 rfl) ?_
        have hP : va_P g.1 vwCl (List.flatten [bTown g o a pe wo tx ch jo tr dy sd f]) H := hP
        have hD : va_D A (List.flatten [bTown g o a pe wo tx ch jo tr dy sd f]) := hD
        exact mret_i hx hb hr hlocks hS (Nat.le_of_ble_eq_true rfl) (Nat.le_of_ble_eq_true rfl) dX9_bestWorks_44 (x_1) rfl trivial hP hD
      · skip
        have c9 : x_2.toInt < x_7.toInt := zlti (Int32.not_le.mp cb9) rfl rfl
        have n10 : x_2.toInt ≤ 63 := zL1 (b := 64) c9 hx_7.2 (by decide)
        have n11 : 2 ≤ x_7.toInt := zL2 (a := 1) c9 i4.1 (by decide)
        refine lv_aload_n hx hb dX9_bestWorks_14 rfl (lv_at hl 0 rfl) ?_
        refine lv_iload_n hx hb dX9_bestWorks_15 rfl (lv_at hl 2 rfl) ?_
        refine mcallV' (g := g) (q0 := 0) (ci := 7) (As := [.int x_2]) (rest := []) St hK hT hA hP hD hS hl.1 [0] [] rfl rfl rfl (c_canBuild l g o a pe wo tx ch jo tr dy sd f x_2 b_pe b_wo rf) (cwV 1 hts (zgL (zl4 k522 k523 k524 k24) k520) rfl rfl rfl (by decide +kernel) ⟨Nat.le_of_ble_eq_true rfl, Nat.le_of_ble_eq_true rfl⟩) rfl rfl rfl rfl (Nat.le_of_ble_eq_true rfl) dX9_bestWorks_16 ⟨(Nat.le_of_ble_eq_true rfl), (Nat.le_of_ble_eq_true rfl)⟩ (fun q_12 H locs hq13 hP hD hS => ?_)
        replace hq13 : (q_12 = 0 ∨ q_12 = 1) := hq13
        have hP : va_P g.1 vwCl (List.flatten [bTown g o a pe wo tx ch jo tr dy sd f]) H := hP
        have hD : va_D A (List.flatten [bTown g o a pe wo tx ch jo tr dy sd f]) := hD
        refine W.widen (k := 0) (n := 0) (Nat.le_of_ble_eq_true rfl) (Nat.le_of_ble_eq_true rfl) ?_
        refine W.eq (g2 := F0 m 19 ls [.int q_12]) rfl ?_
        rcases hq13 with rfl | rfl
        · skip
          refine lv_if_eq (tgt := 37) hx hb dX9_bestWorks_19 (by decide) (fun _ => ?_) (fun c14 => absurd (by decide) c14)
          refine ziinc3 (n' := 1) (a' := 2) (b' := 64) (lv' := fun v9 => [(2, .int v9), (0, .ref o), (1, .int x_1)]) hx hb dX9_bestWorks_37 hl (k := 2) rfl (by decide) (fun _ => rfl) (zaddK (i := x_2.toInt) (j := 1) rfl (by decide) i4.1 n10 (Int.le_refl _) (Int.le_refl _) (by decide)) (fun x_15 ls hx_15 hl => ?_)
          refine lv_goto (tgt := 4) hx hb dX9_bestWorks_40 (by decide) ?_
          have hl := lv_sub (l' := [(0, .ref o), (1, .int x_1), (2, .int x_15)]) hl [1, 2, 0] rfl
          have hP : va_P g.1 vwCl (List.flatten [bTown g o a pe wo tx ch jo tr dy sd f]) H := hP
          have hD : va_D A (List.flatten [bTown g o a pe wo tx ch jo tr dy sd f]) := hD
          exact ih4_6 x_1 x_15 ⟨i3.1, i3.2⟩ ⟨(Int.le_trans (by decide) hx_15.2.1), hx_15.2.2⟩ H _ ls (zmK hx_15.1 (by decide) n10 (by decide) hk4_6)  hP hD hS (lv_sub hl [0, 1, 2] rfl)
        · skip
          refine lv_if_eq (tgt := 37) hx hb dX9_bestWorks_19 (by decide) (fun c16 => absurd c16 (by decide)) (fun _ => ?_)
          refine lv_aload_n hx hb dX9_bestWorks_22 rfl (lv_at hl 0 rfl) ?_
          refine lv_iload_n hx hb dX9_bestWorks_23 rfl (lv_at hl 2 rfl) ?_
          refine mcallV' (g := g) (q0 := 0) (ci := 7) (As := [.int x_2]) (rest := []) St hK hT hA hP hD hS hl.1 [0] [] rfl rfl rfl (c_gainOf l g o a pe wo tx ch jo tr dy sd f x_2 b_pe b_wo rf) (cwV 1 hts (zgL (zl4 k525 k526 k527 k24) k521) rfl rfl rfl (by decide +kernel) ⟨Nat.le_of_ble_eq_true rfl, Nat.le_of_ble_eq_true rfl⟩) rfl rfl rfl rfl (Nat.le_of_ble_eq_true rfl) dX9_bestWorks_24 ⟨(Nat.le_of_ble_eq_true rfl), (Nat.le_of_ble_eq_true rfl)⟩ (fun q_17 H locs hq18 hP hD hS => ?_)
          have hP : va_P g.1 vwCl (List.flatten [bTown g o a pe wo tx ch jo tr dy sd f]) H := hP
          have hD : va_D A (List.flatten [bTown g o a pe wo tx ch jo tr dy sd f]) := hD
          refine W.widen (k := 0) (n := 0) (Nat.le_of_ble_eq_true rfl) (Nat.le_of_ble_eq_true rfl) ?_
          refine W.eq (g2 := F0 m 27 ls [.int q_17]) rfl ?_
          refine lv_aload_n hx hb dX9_bestWorks_27 rfl (lv_at hl 0 rfl) ?_
          refine lv_iload_n hx hb dX9_bestWorks_28 rfl (lv_at hl 1 rfl) ?_
          refine mcallV' (g := g) (q0 := 0) (ci := 7) (As := [.int x_1]) (rest := [.int q_17]) St hK hT hA hP hD hS hl.1 [0] [] rfl rfl rfl (c_gainOf l g o a pe wo tx ch jo tr dy sd f x_1 b_pe b_wo rf) (cwV 1 hts (zgL (zl4 k525 k526 k527 k24) k521) rfl rfl rfl (by decide +kernel) ⟨Nat.le_of_ble_eq_true rfl, Nat.le_of_ble_eq_true rfl⟩) rfl rfl rfl rfl (Nat.le_of_ble_eq_true rfl) dX9_bestWorks_29 ⟨(Nat.le_of_ble_eq_true rfl), (Nat.le_of_ble_eq_true rfl)⟩ (fun q_19 H locs hq20 hP hD hS => ?_)
          have hP : va_P g.1 vwCl (List.flatten [bTown g o a pe wo tx ch jo tr dy sd f]) H := hP
          have hD : va_D A (List.flatten [bTown g o a pe wo tx ch jo tr dy sd f]) := hD
          refine W.widen (k := 0) (n := 0) (Nat.le_of_ble_eq_true rfl) (Nat.le_of_ble_eq_true rfl) ?_
          refine W.eq (g2 := F0 m 32 ls [.int q_19, .int q_17]) rfl ?_
          refine lv_icmp_le (tgt := 37) hx hb dX9_bestWorks_32 (by decide) (fun cb9 => ?_) (fun cb9 => ?_)
          · skip
            have c21 : q_17.toInt ≤ q_19.toInt := zle cb9 rfl rfl
            refine ziinc3 (n' := 1) (a' := 2) (b' := 64) (lv' := fun v9 => [(2, .int v9), (0, .ref o), (1, .int x_1)]) hx hb dX9_bestWorks_37 hl (k := 2) rfl (by decide) (fun _ => rfl) (zaddK (i := x_2.toInt) (j := 1) rfl (by decide) i4.1 n10 (Int.le_refl _) (Int.le_refl _) (by decide)) (fun x_22 ls hx_22 hl => ?_)
            refine lv_goto (tgt := 4) hx hb dX9_bestWorks_40 (by decide) ?_
            have hl := lv_sub (l' := [(0, .ref o), (1, .int x_1), (2, .int x_22)]) hl [1, 2, 0] rfl
            have hP : va_P g.1 vwCl (List.flatten [bTown g o a pe wo tx ch jo tr dy sd f]) H := hP
            have hD : va_D A (List.flatten [bTown g o a pe wo tx ch jo tr dy sd f]) := hD
            exact ih4_6 x_1 x_22 ⟨i3.1, i3.2⟩ ⟨(Int.le_trans (by decide) hx_22.2.1), hx_22.2.2⟩ H _ ls (zmK hx_22.1 (by decide) n10 (by decide) hk4_6)  hP hD hS (lv_sub hl [0, 1, 2] rfl)
          · skip
            have c23 : q_19.toInt < q_17.toInt := zlti (Int32.not_le.mp cb9) rfl rfl
            refine lv_iload_n hx hb dX9_bestWorks_35 rfl (lv_at hl 2 rfl) ?_
            refine lv_istore_n (lv' := [(1, .int x_2), (0, .ref o), (2, .int x_2)]) hx hb dX9_bestWorks_36 rfl hl (by decide) rfl (fun ls hl => ?_)
            refine ziinc3 (n' := 1) (a' := 2) (b' := 64) (lv' := fun v9 => [(2, .int v9), (1, .int x_2), (0, .ref o)]) hx hb dX9_bestWorks_37 hl (k := 2) rfl (by decide) (fun _ => rfl) (zaddK (i := x_2.toInt) (j := 1) rfl (by decide) i4.1 n10 (Int.le_refl _) (Int.le_refl _) (by decide)) (fun x_24 ls hx_24 hl => ?_)
            refine lv_goto (tgt := 4) hx hb dX9_bestWorks_40 (by decide) ?_
            have hl := lv_sub (l' := [(0, .ref o), (1, .int x_2), (2, .int x_24)]) hl [2, 1, 0] rfl
            have hP : va_P g.1 vwCl (List.flatten [bTown g o a pe wo tx ch jo tr dy sd f]) H := hP
            have hD : va_D A (List.flatten [bTown g o a pe wo tx ch jo tr dy sd f]) := hD
            exact ih4_6 x_2 x_24 ⟨(Int.le_trans (by decide) i4.1), n10⟩ ⟨(Int.le_trans (by decide) hx_24.2.1), hx_24.2.2⟩ H _ ls (zmK hx_24.1 (by decide) n10 (by decide) hk4_6)  hP hD hS (lv_sub hl [0, 1, 2] rfl)
  have hP : va_P g.1 vwCl (List.flatten [bTown g o a pe wo tx ch jo tr dy sd f]) s.heap := hP
  have hD : va_D A (List.flatten [bTown g o a pe wo tx ch jo tr dy sd f]) := hD
  exact LP4_5 _ 0 1 (by decide) (by decide) s.heap _ ls (Nat.lt_succ_self _)  hP hD hS (lv_sub hl [0, 1, 2] rfl)
