set_option maxRecDepth 100000 in
set_option maxHeartbeats 4000000 in
theorem c_i_fewestSteps (l : Launch) (g : zG) (o : Nat) (a : Nat → Nat) (pe : Int32) (wo : Int32) (tx : Int32) (ch : Int32) (jo : Int32) (tr : Int32) (dy : Int32) (sd : Int32) (f : Nat → Nat → Int32) (x1 : Int32) (x2 : Int32) (b_pe : 0 ≤ pe.toInt ∧ pe.toInt ≤ 8) (b_wo : 0 ≤ wo.toInt ∧ wo.toInt ≤ 6) (rf : zZ4 f) (b_x1 : 0 ≤ x1.toInt ∧ x1.toInt ≤ 7) (b_x2 : 0 ≤ x2.toInt ∧ x2.toInt ≤ 7) : zM' g l yX8_fewestSteps (Cond.code yX8_fewestSteps cX8_fewestSteps 5 (some .int) :: zB) ({ frames := 2, cells := 0, slots := 0, locals := 46 } : Room) [.ref o, .int x1, .int x2] [bTown g o a pe wo tx ch jo tr dy sd f] (fun (q : Int32) => some (.int q)) (fun (q : Int32) => True) (fun (q : Int32) => [bTown g o a pe wo tx ch jo tr dy sd f]) := by
  refine zM'.of (cc := cX8_fewestSteps) (maxL := 5) (rt := (some .int)) (by decide) rfl (Nat.le_of_ble_eq_true rfl) ?_
  intro p e s m args below meth c A ls St hr hlocks hin hK hT hA hP hD hS hl
  obtain ⟨hx, hb, hml, hown, hts⟩ := id St
  have hl : lv_has ls 5 [(0, .ref o), (1, .int x1), (2, .int x2)] := hl
  refine lv_iconst (v := 1) hx hb dX8_fewestSteps_0 (by decide) ?_
  refine lv_iload_n hx hb dX8_fewestSteps_1 rfl (lv_at hl 1 rfl) ?_
  refine lv_ishl hx hb dX8_fewestSteps_2 ?_
  refine zgb (zshl1 (j := x1.toInt) rfl 7 128 (by decide) (by decide) ⟨b_x1.1, b_x1.2⟩) (fun x_1 hx_1 => ?_)
  refine lv_istore_n (lv' := [(3, .int x_1), (0, .ref o), (1, .int x1), (2, .int x2)]) hx hb dX8_fewestSteps_3 rfl hl (by decide) rfl (fun ls hl => ?_)
  refine lv_iconst (v := 1) hx hb dX8_fewestSteps_4 (by decide) ?_
  refine lv_istore (lv' := [(4, .int 1), (3, .int x_1), (0, .ref o), (1, .int x1), (2, .int x2)]) hx hb dX8_fewestSteps_5 hl (by decide) rfl (fun ls hl => ?_)
  have hl := lv_sub (l' := [(0, .ref o), (1, .int x1), (2, .int x2), (3, .int x_1), (4, .int 1)]) hl [2, 3, 4, 1, 0] rfl
  have LP7_5 : ∀ (kf : Nat) (x_2 : Int32) (x_3 : Int32), (1 ≤ x_3.toInt ∧ x_3.toInt ≤ 8) → ∀ (H : Heap) (locs : List Loc) (ls : Array Slot), ((9 - x_3.toInt).toNat) < kf → va_P g.1 vwCl (List.flatten [bTown g o a pe wo tx ch jo tr dy sd f]) H → va_D A (List.flatten [bTown g o a pe wo tx ch jo tr dy sd f]) → va_S A s.heap H locs → lv_has ls 5 [(0, .ref o), (1, .int x1), (2, .int x2), (3, .int x_2), (4, .int x_3)] → W p l e ({ frames := 2, cells := 0, slots := 0, locals := 46 } : Room) s m args below meth c H locs (0) (0) (zF g (fun (q : Int32) => some (.int q)) (fun (q : Int32) => True) (fun (q : Int32) => [bTown g o a pe wo tx ch jo tr dy sd f]) ({ frames := 2, cells := 0, slots := 0, locals := 46 } : Room) below args s A) (F0 m 7 ls []) := by
    intro kf
    induction kf with
    | zero => intro x_2 x_3 i4 H locs ls hk; exact absurd hk (Nat.not_lt_zero _)
    | succ kf ih7_6 =>
      intro x_2 x_3 i4 H locs ls hk7_6 hP hD hS hl
      refine lv_iload hx hb dX8_fewestSteps_7 (lv_at hl 4 rfl) ?_
      refine lv_aload_n hx hb dX8_fewestSteps_9 rfl (lv_at hl 0 rfl) ?_
      refine va_get (D := g.1) (ci := 7) (v := .int pe) (C := RX9) (T := TX9) (N := 19) hx hb hts izRX9 hown hK hP 0 rfl rfl 0 (by decide) (hts _ k500) (fun _ h9 => h9) rfl dX8_fewestSteps_10 ?_
      refine lv_icmp_ge (tgt := 41) hx hb dX8_fewestSteps_13 (by decide) (fun cb9 => ?_) (fun cb9 => ?_)
      · skip
        have c7 : pe.toInt ≤ x_3.toInt := zle cb9 rfl rfl
        refine lv_iconst (v := (-1)) hx hb dX8_fewestSteps_41 (by decide) ?_
        have hP : va_P g.1 vwCl (List.flatten [bTown g o a pe wo tx ch jo tr dy sd f]) H := hP
        have hD : va_D A (List.flatten [bTown g o a pe wo tx ch jo tr dy sd f]) := hD
        exact mret_i hx hb hr hlocks hS (Nat.le_of_ble_eq_true rfl) (Nat.le_of_ble_eq_true rfl) dX8_fewestSteps_42 (-1) rfl trivial hP hD
      · skip
        have c8 : x_3.toInt < pe.toInt := zlti (Int32.not_le.mp cb9) rfl rfl
        have n9 : x_3.toInt ≤ 7 := zL1 (b := 8) c8 b_pe.2 (by decide)
        have n10 : 2 ≤ pe.toInt := zL2 (a := 1) c8 i4.1 (by decide)
        refine lv_iload_n hx hb dX8_fewestSteps_16 rfl (lv_at hl 3 rfl) ?_
        refine lv_aload_n hx hb dX8_fewestSteps_17 rfl (lv_at hl 0 rfl) ?_
        refine lv_iload_n hx hb dX8_fewestSteps_18 rfl (lv_at hl 3 rfl) ?_
        refine mcallS' (g := g) (As := [.ref o, .int x_2]) (rest := [.int x_2]) St hK hT hA hP hD hS hl.1 [0] [] rfl rfl rfl (c_i_trusting l g o a pe wo tx ch jo tr dy sd f x_2 b_pe b_wo rf) (va_cwS 2 hts (zgL (zl3 k503 k504 k505) k499) rfl rfl rfl (by decide +kernel) ⟨Nat.le_of_ble_eq_true rfl, Nat.le_of_ble_eq_true rfl⟩) rfl rfl (Nat.le_of_ble_eq_true rfl) dX8_fewestSteps_19 ⟨(Nat.le_of_ble_eq_true rfl), (Nat.le_of_ble_eq_true rfl)⟩ (fun q_11 H locs hq12 hP hD hS => ?_)
        have hP : va_P g.1 vwCl (List.flatten [bTown g o a pe wo tx ch jo tr dy sd f]) H := hP
        have hD : va_D A (List.flatten [bTown g o a pe wo tx ch jo tr dy sd f]) := hD
        refine W.widen (k := 0) (n := 0) (Nat.le_of_ble_eq_true rfl) (Nat.le_of_ble_eq_true rfl) ?_
        refine W.eq (g2 := F0 m 22 ls [.int q_11, .int x_2]) rfl ?_
        refine lv_ior hx hb dX8_fewestSteps_22 ?_
        refine zg (fun x_13 => ?_)
        refine lv_istore_n (lv' := [(3, .int x_13), (0, .ref o), (1, .int x1), (2, .int x2), (4, .int x_3)]) hx hb dX8_fewestSteps_23 rfl hl (by decide) rfl (fun ls hl => ?_)
        refine lv_iload_n hx hb dX8_fewestSteps_24 rfl (lv_at hl 0 rfl) ?_
        refine lv_iload_n hx hb dX8_fewestSteps_25 rfl (lv_at hl 3 rfl) ?_
        refine lv_ishr hx hb dX8_fewestSteps_26 ?_
        refine zg (fun x_14 => ?_)
        refine lv_iconst (v := 1) hx hb dX8_fewestSteps_27 (by decide) ?_
        refine lv_iand hx hb dX8_fewestSteps_28 ?_
        refine zgb (zand1 _) (fun x_15 hx_15 => ?_)
        refine lv_if_eq (tgt := 35) hx hb dX8_fewestSteps_29 (by decide) (fun cb9 => ?_) (fun cb9 => ?_)
        · skip
          have c16 : x_15.toInt = 0 := zeq cb9 rfl (by decide)
          have n17 : x_15.toInt ≤ 0 := Int.le_trans (Int.le_of_eq c16) (Int.le_refl _)
          refine ziinc3 (n' := 1) (a' := 2) (b' := 8) (lv' := fun v9 => [(4, .int v9), (3, .int x_13), (0, .ref o), (1, .int x1), (2, .int x2)]) hx hb dX8_fewestSteps_35 hl (k := 4) rfl (by decide) (fun _ => rfl) (zaddK (i := x_3.toInt) (j := 1) rfl (by decide) i4.1 n9 (Int.le_refl _) (Int.le_refl _) (by decide)) (fun x_18 ls hx_18 hl => ?_)
          refine lv_goto (tgt := 7) hx hb dX8_fewestSteps_38 (by decide) ?_
          have hl := lv_sub (l' := [(0, .ref o), (1, .int x1), (2, .int x2), (3, .int x_13), (4, .int x_18)]) hl [2, 3, 4, 1, 0] rfl
          have hP : va_P g.1 vwCl (List.flatten [bTown g o a pe wo tx ch jo tr dy sd f]) H := hP
          have hD : va_D A (List.flatten [bTown g o a pe wo tx ch jo tr dy sd f]) := hD
          exact ih7_6 x_13 x_18 ⟨(Int.le_trans (by decide) hx_18.2.1), hx_18.2.2⟩ H _ ls (zmK hx_18.1 (by decide) n9 (by decide) hk7_6)  hP hD hS (lv_sub hl [0, 1, 2, 3, 4] rfl)
        · skip
          have c19 : ¬ x_15.toInt = 0 := zne cb9 rfl (by decide)
          have n20 : 1 ≤ x_15.toInt := zN1 c19 hx_15.1 (by decide)
          refine lv_iload hx hb dX8_fewestSteps_32 (lv_at hl 4 rfl) ?_
          have hP : va_P g.1 vwCl (List.flatten [bTown g o a pe wo tx ch jo tr dy sd f]) H := hP
          have hD : va_D A (List.flatten [bTown g o a pe wo tx ch jo tr dy sd f]) := hD
          exact mret_i hx hb hr hlocks hS (Nat.le_of_ble_eq_true rfl) (Nat.le_of_ble_eq_true rfl) dX8_fewestSteps_34 (x_3) rfl trivial hP hD
  have hP : va_P g.1 vwCl (List.flatten [bTown g o a pe wo tx ch jo tr dy sd f]) s.heap := hP
  have hD : va_D A (List.flatten [bTown g o a pe wo tx ch jo tr dy sd f]) := hD
  exact LP7_5 _ x_1 1 (by decide) s.heap _ ls (Nat.lt_succ_self _)  hP hD hS (lv_sub hl [0, 1, 2, 3, 4] rfl)
