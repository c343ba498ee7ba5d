set_option maxRecDepth 100000 in
set_option maxHeartbeats 4000000 in
theorem c_i_wordOf (l : Launch) (g : zG) (o : Nat) (a : Nat → Nat) (pe : Int32) (wo : Int32) (tx : Int32) (ch : Int32) (jo : Int32) (tr : Int32) (dy : Int32) (sd : Int32) (f : Nat → Nat → Int32) (x1 : Int32) (b_pe : 0 ≤ pe.toInt ∧ pe.toInt ≤ 8) (b_wo : 0 ≤ wo.toInt ∧ wo.toInt ≤ 6) (rf : zZ4 f) (b_x1 : 0 ≤ x1.toInt ∧ x1.toInt ≤ 7) : zM' g l yX8_wordOf (Cond.code yX8_wordOf cX8_wordOf 4 (some .int) :: zB) ({ frames := 2, cells := 0, slots := 0, locals := 46 } : Room) [.ref o, .int x1] [bTown g o a pe wo tx ch jo tr dy sd f] (fun (q : Int32) => some (.int q)) (fun (q : Int32) => True) (fun (q : Int32) => [bTown g o a pe wo tx ch jo tr dy sd f]) := by
  refine zM'.of (cc := cX8_wordOf) (maxL := 4) (rt := (some .int)) (by decide) rfl (Nat.le_of_ble_eq_true rfl) ?_
  intro p e s m args below meth c A ls St hr hlocks hin hK hT hA hP hD hS hl
  obtain ⟨hx, hb, hml, hown, hts⟩ := id St
  have hl : lv_has ls 4 [(0, .ref o), (1, .int x1)] := hl
  refine lv_iconst (v := 0) hx hb dX8_wordOf_0 (by decide) ?_
  refine lv_istore_n (lv' := [(2, .int 0), (0, .ref o), (1, .int x1)]) hx hb dX8_wordOf_1 rfl hl (by decide) rfl (fun ls hl => ?_)
  refine lv_iconst (v := 0) hx hb dX8_wordOf_2 (by decide) ?_
  refine lv_istore_n (lv' := [(3, .int 0), (2, .int 0), (0, .ref o), (1, .int x1)]) hx hb dX8_wordOf_3 rfl hl (by decide) rfl (fun ls hl => ?_)
  have hl := lv_sub (l' := [(0, .ref o), (1, .int x1), (2, .int 0), (3, .int 0)]) hl [2, 3, 1, 0] rfl
  have LP4_4 : ∀ (kf : Nat) (x_1 : Int32) (x_2 : Int32), (0 ≤ x_2.toInt ∧ x_2.toInt ≤ 8) → ∀ (H : Heap) (locs : List Loc) (ls : Array Slot), ((9 - x_2.toInt).toNat) < kf → va_P g.1 vwCl (List.flatten [bTown g o a pe wo tx ch jo tr dy sd f]) H → va_D A (List.flatten [bTown g o a pe wo tx ch jo tr dy sd f]) → va_S A s.heap H locs → lv_has ls 4 [(0, .ref o), (1, .int x1), (2, .int x_1), (3, .int x_2)] → W p l e ({ frames := 2, cells := 0, slots := 0, locals := 46 } : Room) s m args below meth c H locs (0) (0) (zF g (fun (q : Int32) => some (.int q)) (fun (q : Int32) => True) (fun (q : Int32) => [bTown g o a pe wo tx ch jo tr dy sd f]) ({ frames := 2, cells := 0, slots := 0, locals := 46 } : Room) below args s A) (F0 m 4 ls []) := by
    intro kf
    induction kf with
    | zero => intro x_1 x_2 i3 H locs ls hk; exact absurd hk (Nat.not_lt_zero _)
    | succ kf ih4_5 =>
      intro x_1 x_2 i3 H locs ls hk4_5 hP hD hS hl
      refine lv_iload_n hx hb dX8_wordOf_4 rfl (lv_at hl 3 rfl) ?_
      refine lv_aload_n hx hb dX8_wordOf_5 rfl (lv_at hl 0 rfl) ?_
      refine va_get (D := g.1) (ci := 7) (v := .int pe) (C := RX9) (T := TX9) (N := 19) hx hb hts izRX9 hown hK hP 0 rfl rfl 0 (by decide) (hts _ k500) (fun _ h9 => h9) rfl dX8_wordOf_6 ?_
      refine lv_icmp_ge (tgt := 30) hx hb dX8_wordOf_9 (by decide) (fun cb9 => ?_) (fun cb9 => ?_)
      · skip
        have c6 : pe.toInt ≤ x_2.toInt := zle cb9 rfl rfl
        refine lv_iload_n hx hb dX8_wordOf_30 rfl (lv_at hl 2 rfl) ?_
        refine lv_iconst (v := 1) hx hb dX8_wordOf_31 (by decide) ?_
        refine lv_iload_n hx hb dX8_wordOf_32 rfl (lv_at hl 1 rfl) ?_
        refine lv_ishl hx hb dX8_wordOf_33 ?_
        refine zgb (zshl1 (j := x1.toInt) rfl 7 128 (by decide) (by decide) ⟨b_x1.1, b_x1.2⟩) (fun x_7 hx_7 => ?_)
        refine lv_iconst (v := (-1)) hx hb dX8_wordOf_34 (by decide) ?_
        refine lv_ixor hx hb dX8_wordOf_35 ?_
        refine zg (fun x_8 => ?_)
        refine lv_iand hx hb dX8_wordOf_36 ?_
        refine zg (fun x_9 => ?_)
        have hP : va_P g.1 vwCl (List.flatten [bTown g o a pe wo tx ch jo tr dy sd f]) H := hP
        have hD : va_D A (List.flatten [bTown g o a pe wo tx ch jo tr dy sd f]) := hD
        exact mret_i hx hb hr hlocks hS (Nat.le_of_ble_eq_true rfl) (Nat.le_of_ble_eq_true rfl) dX8_wordOf_37 (x_9) rfl trivial hP hD
      · skip
        have c10 : x_2.toInt < pe.toInt := zlti (Int32.not_le.mp cb9) rfl rfl
        have n11 : x_2.toInt ≤ 7 := zL1 (b := 8) c10 b_pe.2 (by decide)
        have n12 : 1 ≤ pe.toInt := zL2 (a := 0) c10 i3.1 (by decide)
        refine lv_iload_n hx hb dX8_wordOf_12 rfl (lv_at hl 2 rfl) ?_
        refine lv_aload_n hx hb dX8_wordOf_13 rfl (lv_at hl 0 rfl) ?_
        refine lv_iload_n hx hb dX8_wordOf_14 rfl (lv_at hl 2 rfl) ?_
        refine lv_iconst (v := 1) hx hb dX8_wordOf_15 (by decide) ?_
        refine lv_iload_n hx hb dX8_wordOf_16 rfl (lv_at hl 1 rfl) ?_
        refine lv_ishl hx hb dX8_wordOf_17 ?_
        refine zgb (zshl1 (j := x1.toInt) rfl 7 128 (by decide) (by decide) ⟨b_x1.1, b_x1.2⟩) (fun x_13 hx_13 => ?_)
        refine lv_ior hx hb dX8_wordOf_18 ?_
        refine zg (fun x_14 => ?_)
        refine mcallS' (g := g) (As := [.ref o, .int x_14]) (rest := [.int x_1]) St hK hT hA hP hD hS hl.1 [0] [] rfl rfl rfl (c_i_trusting l g o a pe wo tx ch jo tr dy sd f x_14 b_pe b_wo rf) (va_cwS 2 hts (zgL (zl3 k503 k504 k505) k499) rfl rfl rfl (by decide +kernel) ⟨Nat.le_of_ble_eq_true rfl, Nat.le_of_ble_eq_true rfl⟩) rfl rfl (Nat.le_of_ble_eq_true rfl) dX8_wordOf_19 ⟨(Nat.le_of_ble_eq_true rfl), (Nat.le_of_ble_eq_true rfl)⟩ (fun q_15 H locs hq16 hP hD hS => ?_)
        have hP : va_P g.1 vwCl (List.flatten [bTown g o a pe wo tx ch jo tr dy sd f]) H := hP
        have hD : va_D A (List.flatten [bTown g o a pe wo tx ch jo tr dy sd f]) := hD
        refine W.widen (k := 0) (n := 0) (Nat.le_of_ble_eq_true rfl) (Nat.le_of_ble_eq_true rfl) ?_
        refine W.eq (g2 := F0 m 22 ls [.int q_15, .int x_1]) rfl ?_
        refine lv_ior hx hb dX8_wordOf_22 ?_
        refine zg (fun x_17 => ?_)
        refine lv_istore_n (lv' := [(2, .int x_17), (0, .ref o), (1, .int x1), (3, .int x_2)]) hx hb dX8_wordOf_23 rfl hl (by decide) rfl (fun ls hl => ?_)
        refine ziinc3 (n' := 1) (a' := 1) (b' := 8) (lv' := fun v9 => [(3, .int v9), (2, .int x_17), (0, .ref o), (1, .int x1)]) hx hb dX8_wordOf_24 hl (k := 3) rfl (by decide) (fun _ => rfl) (zaddK (i := x_2.toInt) (j := 1) rfl (by decide) i3.1 n11 (Int.le_refl _) (Int.le_refl _) (by decide)) (fun x_18 ls hx_18 hl => ?_)
        refine lv_goto (tgt := 4) hx hb dX8_wordOf_27 (by decide) ?_
        have hl := lv_sub (l' := [(0, .ref o), (1, .int x1), (2, .int x_17), (3, .int x_18)]) hl [2, 3, 1, 0] rfl
        have hP : va_P g.1 vwCl (List.flatten [bTown g o a pe wo tx ch jo tr dy sd f]) H := hP
        have hD : va_D A (List.flatten [bTown g o a pe wo tx ch jo tr dy sd f]) := hD
        exact ih4_5 x_17 x_18 ⟨(Int.le_trans (by decide) hx_18.2.1), hx_18.2.2⟩ H _ ls (zmK hx_18.1 (by decide) n11 (by decide) hk4_5)  hP hD hS (lv_sub hl [0, 1, 2, 3] rfl)
  have hP : va_P g.1 vwCl (List.flatten [bTown g o a pe wo tx ch jo tr dy sd f]) s.heap := hP
  have hD : va_D A (List.flatten [bTown g o a pe wo tx ch jo tr dy sd f]) := hD
  exact LP4_4 _ 0 0 (by decide) s.heap _ ls (Nat.lt_succ_self _)  hP hD hS (lv_sub hl [0, 1, 2, 3] rfl)
