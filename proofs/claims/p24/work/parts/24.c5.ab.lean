set_option maxRecDepth 100000 in
set_option maxHeartbeats 4000000 in
theorem c_i_untied (l : Launch) (g : zG) (o : Nat) (a : Nat → Nat) (pe : Int32) (wo : Int32) (tx : Int32) (ch : Int32) (jo : Int32) (tr : Int32) (dy : Int32) (sd : Int32) (f : Nat → Nat → Int32) (b_pe : 0 ≤ pe.toInt ∧ pe.toInt ≤ 8) (b_wo : 0 ≤ wo.toInt ∧ wo.toInt ≤ 6) (rf : zZ4 f) : zM' g l yX8_untied (Cond.code yX8_untied cX8_untied 3 (some .int) :: zB) ({ frames := 2, cells := 0, slots := 0, locals := 46 } : Room) [.ref o] [bTown g o a pe wo tx ch jo tr dy sd f] (fun (q : Int32) => some (.int q)) (fun (q : Int32) => True) (fun (q : Int32) => [bTown g o a pe wo tx ch jo tr dy sd f]) := by
  refine zM'.of (cc := cX8_untied) (maxL := 3) (rt := (some .int)) (by decide) rfl (Nat.le_of_ble_eq_true rfl) ?_
  intro p e s m args below meth c A ls St hr hlocks hin hK hT hA hP hD hS hl
  obtain ⟨hx, hb, hml, hown, hts⟩ := id St
  have hl : lv_has ls 3 [(0, .ref o)] := hl
  refine lv_iconst (v := 0) hx hb dX8_untied_0 (by decide) ?_
  refine lv_istore_n (lv' := [(1, .int 0), (0, .ref o)]) hx hb dX8_untied_1 rfl hl (by decide) rfl (fun ls hl => ?_)
  refine lv_iconst (v := 0) hx hb dX8_untied_2 (by decide) ?_
  refine lv_istore_n (lv' := [(2, .int 0), (1, .int 0), (0, .ref o)]) hx hb dX8_untied_3 rfl hl (by decide) rfl (fun ls hl => ?_)
  have hl := lv_sub (l' := [(0, .ref o), (1, .int 0), (2, .int 0)]) hl [2, 1, 0] rfl
  have LP4_4 : ∀ (kf : Nat) (x_1 : Int32) (x_2 : Int32), (0 ≤ x_2.toInt ∧ x_2.toInt ≤ 8) → ∀ (H : Heap) (locs : List Loc) (ls : Array Slot), ((9 - x_2.toInt).toNat) < kf → va_P g.1 vwCl (List.flatten [bTown g o a pe wo tx ch jo tr dy sd f]) H → va_D A (List.flatten [bTown g o a pe wo tx ch jo tr dy sd f]) → va_S A s.heap H locs → lv_has ls 3 [(0, .ref o), (1, .int x_1), (2, .int x_2)] → W p l e ({ frames := 2, cells := 0, slots := 0, locals := 46 } : Room) s m args below meth c H locs (0) (0) (zF g (fun (q : Int32) => some (.int q)) (fun (q : Int32) => True) (fun (q : Int32) => [bTown g o a pe wo tx ch jo tr dy sd f]) ({ frames := 2, cells := 0, slots := 0, locals := 46 } : Room) below args s A) (F0 m 4 ls []) := by
    intro kf
    induction kf with
    | zero => intro x_1 x_2 i3 H locs ls hk; exact absurd hk (Nat.not_lt_zero _)
    | succ kf ih4_5 =>
      intro x_1 x_2 i3 H locs ls hk4_5 hP hD hS hl
      refine lv_iload_n hx hb dX8_untied_4 rfl (lv_at hl 2 rfl) ?_
      refine lv_aload_n hx hb dX8_untied_5 rfl (lv_at hl 0 rfl) ?_
      refine va_get (D := g.1) (ci := 7) (v := .int pe) (C := RX9) (T := TX9) (N := 19) hx hb hts izRX9 hown hK hP 0 rfl rfl 0 (by decide) (hts _ k500) (fun _ h9 => h9) rfl dX8_untied_6 ?_
      refine lv_icmp_ge (tgt := 42) hx hb dX8_untied_9 (by decide) (fun cb9 => ?_) (fun cb9 => ?_)
      · skip
        have c6 : pe.toInt ≤ x_2.toInt := zle cb9 rfl rfl
        refine lv_iload_n hx hb dX8_untied_42 rfl (lv_at hl 1 rfl) ?_
        have hP : va_P g.1 vwCl (List.flatten [bTown g o a pe wo tx ch jo tr dy sd f]) H := hP
        have hD : va_D A (List.flatten [bTown g o a pe wo tx ch jo tr dy sd f]) := hD
        exact mret_i hx hb hr hlocks hS (Nat.le_of_ble_eq_true rfl) (Nat.le_of_ble_eq_true rfl) dX8_untied_43 (x_1) rfl trivial hP hD
      · skip
        have c7 : x_2.toInt < pe.toInt := zlti (Int32.not_le.mp cb9) rfl rfl
        have n8 : x_2.toInt ≤ 7 := zL1 (b := 8) c7 b_pe.2 (by decide)
        have n9 : 1 ≤ pe.toInt := zL2 (a := 0) c7 i3.1 (by decide)
        refine lv_aload_n hx hb dX8_untied_12 rfl (lv_at hl 0 rfl) ?_
        refine lv_iload_n hx hb dX8_untied_13 rfl (lv_at hl 2 rfl) ?_
        refine mcallV' (g := g) (q0 := 0) (ci := 7) (As := [.int x_2]) (rest := []) St hK hT hA hP hD hS hl.1 [0] [] rfl rfl rfl (c_tiesOf l g o a pe wo tx ch jo tr dy sd f x_2 b_pe b_wo rf (⟨i3.1, n8⟩)) (cwV 1 hts (zgL (zl4 k514 k96 k97 k24) k92) rfl rfl rfl (by decide +kernel) ⟨Nat.le_of_ble_eq_true rfl, Nat.le_of_ble_eq_true rfl⟩) rfl rfl rfl rfl (Nat.le_of_ble_eq_true rfl) dX8_untied_14 ⟨(Nat.le_of_ble_eq_true rfl), (Nat.le_of_ble_eq_true rfl)⟩ (fun q_10 H locs hq11 hP hD hS => ?_)
        have hP : va_P g.1 vwCl (List.flatten [bTown g o a pe wo tx ch jo tr dy sd f]) H := hP
        have hD : va_D A (List.flatten [bTown g o a pe wo tx ch jo tr dy sd f]) := hD
        refine W.widen (k := 0) (n := 0) (Nat.le_of_ble_eq_true rfl) (Nat.le_of_ble_eq_true rfl) ?_
        refine W.eq (g2 := F0 m 17 ls [.int q_10]) rfl ?_
        refine lv_if_ne (tgt := 36) hx hb dX8_untied_17 (by decide) (fun cb9 => ?_) (fun cb9 => ?_)
        · skip
          have c12 : ¬ q_10.toInt = 0 := zne cb9 rfl (by decide)
          refine ziinc3 (n' := 1) (a' := 1) (b' := 8) (lv' := fun v9 => [(2, .int v9), (0, .ref o), (1, .int x_1)]) hx hb dX8_untied_36 hl (k := 2) rfl (by decide) (fun _ => rfl) (zaddK (i := x_2.toInt) (j := 1) rfl (by decide) i3.1 n8 (Int.le_refl _) (Int.le_refl _) (by decide)) (fun x_13 ls hx_13 hl => ?_)
          refine lv_goto (tgt := 4) hx hb dX8_untied_39 (by decide) ?_
          have hl := lv_sub (l' := [(0, .ref o), (1, .int x_1), (2, .int x_13)]) hl [1, 2, 0] rfl
          have hP : va_P g.1 vwCl (List.flatten [bTown g o a pe wo tx ch jo tr dy sd f]) H := hP
          have hD : va_D A (List.flatten [bTown g o a pe wo tx ch jo tr dy sd f]) := hD
          exact ih4_5 x_1 x_13 ⟨(Int.le_trans (by decide) hx_13.2.1), hx_13.2.2⟩ H _ ls (zmK hx_13.1 (by decide) n8 (by decide) hk4_5)  hP hD hS (lv_sub hl [0, 1, 2] rfl)
        · skip
          have c14 : q_10.toInt = 0 := zeq cb9 rfl (by decide)
          have n15 : 0 ≤ q_10.toInt := Int.le_trans (Int.le_refl _) (Int.le_of_eq c14.symm)
          have n16 : q_10.toInt ≤ 0 := Int.le_trans (Int.le_of_eq c14) (Int.le_refl _)
          refine lv_aload_n hx hb dX8_untied_20 rfl (lv_at hl 0 rfl) ?_
          refine lv_iconst (v := 1) hx hb dX8_untied_21 (by decide) ?_
          refine lv_iload_n hx hb dX8_untied_22 rfl (lv_at hl 2 rfl) ?_
          refine lv_ishl hx hb dX8_untied_23 ?_
          refine zgb (zshl1 (j := x_2.toInt) rfl 7 128 (by decide) (by decide) ⟨i3.1, n8⟩) (fun x_17 hx_17 => ?_)
          refine mcallS' (g := g) (As := [.ref o, .int x_17]) (rest := []) St hK hT hA hP hD hS hl.1 [0] [] rfl rfl rfl (c_i_trusting l g o a pe wo tx ch jo tr dy sd f x_17 b_pe b_wo rf) (va_cwS 2 hts (zgL (zl3 k503 k504 k505) k499) rfl rfl rfl (by decide +kernel) ⟨Nat.le_of_ble_eq_true rfl, Nat.le_of_ble_eq_true rfl⟩) rfl rfl (Nat.le_of_ble_eq_true rfl) dX8_untied_24 ⟨(Nat.le_of_ble_eq_true rfl), (Nat.le_of_ble_eq_true rfl)⟩ (fun q_18 H locs hq19 hP hD hS => ?_)
          have hP : va_P g.1 vwCl (List.flatten [bTown g o a pe wo tx ch jo tr dy sd f]) H := hP
          have hD : va_D A (List.flatten [bTown g o a pe wo tx ch jo tr dy sd f]) := hD
          refine W.widen (k := 0) (n := 0) (Nat.le_of_ble_eq_true rfl) (Nat.le_of_ble_eq_true rfl) ?_
          refine W.eq (g2 := F0 m 27 ls [.int q_18]) rfl ?_
          refine lv_if_ne (tgt := 36) hx hb dX8_untied_27 (by decide) (fun cb9 => ?_) (fun cb9 => ?_)
          · skip
            have c20 : ¬ q_18.toInt = 0 := zne cb9 rfl (by decide)
            refine ziinc3 (n' := 1) (a' := 1) (b' := 8) (lv' := fun v9 => [(2, .int v9), (0, .ref o), (1, .int x_1)]) hx hb dX8_untied_36 hl (k := 2) rfl (by decide) (fun _ => rfl) (zaddK (i := x_2.toInt) (j := 1) rfl (by decide) i3.1 n8 (Int.le_refl _) (Int.le_refl _) (by decide)) (fun x_21 ls hx_21 hl => ?_)
            refine lv_goto (tgt := 4) hx hb dX8_untied_39 (by decide) ?_
            have hl := lv_sub (l' := [(0, .ref o), (1, .int x_1), (2, .int x_21)]) hl [1, 2, 0] rfl
            have hP : va_P g.1 vwCl (List.flatten [bTown g o a pe wo tx ch jo tr dy sd f]) H := hP
            have hD : va_D A (List.flatten [bTown g o a pe wo tx ch jo tr dy sd f]) := hD
            exact ih4_5 x_1 x_21 ⟨(Int.le_trans (by decide) hx_21.2.1), hx_21.2.2⟩ H _ ls (zmK hx_21.1 (by decide) n8 (by decide) hk4_5)  hP hD hS (lv_sub hl [0, 1, 2] rfl)
          · skip
            have c22 : q_18.toInt = 0 := zeq cb9 rfl (by decide)
            have n23 : 0 ≤ q_18.toInt := Int.le_trans (Int.le_refl _) (Int.le_of_eq c22.symm)
            have n24 : q_18.toInt ≤ 0 := Int.le_trans (Int.le_of_eq c22) (Int.le_refl _)
            refine lv_iload_n hx hb dX8_untied_30 rfl (lv_at hl 1 rfl) ?_
            refine lv_iconst (v := 1) hx hb dX8_untied_31 (by decide) ?_
            refine lv_iload_n hx hb dX8_untied_32 rfl (lv_at hl 2 rfl) ?_
            refine lv_ishl hx hb dX8_untied_33 ?_
            refine zgb (zshl1 (j := x_2.toInt) rfl 7 128 (by decide) (by decide) ⟨i3.1, n8⟩) (fun x_25 hx_25 => ?_)
            refine lv_ior hx hb dX8_untied_34 ?_
            refine zg (fun x_26 => ?_)
            refine lv_istore_n (lv' := [(1, .int x_26), (0, .ref o), (2, .int x_2)]) hx hb dX8_untied_35 rfl hl (by decide) rfl (fun ls hl => ?_)
            refine ziinc3 (n' := 1) (a' := 1) (b' := 8) (lv' := fun v9 => [(2, .int v9), (1, .int x_26), (0, .ref o)]) hx hb dX8_untied_36 hl (k := 2) rfl (by decide) (fun _ => rfl) (zaddK (i := x_2.toInt) (j := 1) rfl (by decide) i3.1 n8 (Int.le_refl _) (Int.le_refl _) (by decide)) (fun x_27 ls hx_27 hl => ?_)
            refine lv_goto (tgt := 4) hx hb dX8_untied_39 (by decide) ?_
            have hl := lv_sub (l' := [(0, .ref o), (1, .int x_26), (2, .int x_27)]) hl [2, 1, 0] rfl
            have hP : va_P g.1 vwCl (List.flatten [bTown g o a pe wo tx ch jo tr dy sd f]) H := hP
            have hD : va_D A (List.flatten [bTown g o a pe wo tx ch jo tr dy sd f]) := hD
            exact ih4_5 x_26 x_27 ⟨(Int.le_trans (by decide) hx_27.2.1), hx_27.2.2⟩ H _ ls (zmK hx_27.1 (by decide) n8 (by decide) hk4_5)  hP hD hS (lv_sub hl [0, 1, 2] rfl)
  have hP : va_P g.1 vwCl (List.flatten [bTown g o a pe wo tx ch jo tr dy sd f]) s.heap := hP
  have hD : va_D A (List.flatten [bTown g o a pe wo tx ch jo tr dy sd f]) := hD
  exact LP4_4 _ 0 0 (by decide) s.heap _ ls (Nat.lt_succ_self _)  hP hD hS (lv_sub hl [0, 1, 2] rfl)
set_option maxRecDepth 100000 in
set_option maxHeartbeats 4000000 in
theorem c_r_answers (l : Launch) (g : zG) (ro : Nat) (rw : Nat) (ri : Int32) (rt : Int32) (rb : Nat → Int32) (st0 : Int32) (x1 : Int32) (x2 : Int32)  : zM' g l yX5_answers (Cond.code yX5_answers cX5_answers 4 (some .boolean) :: zB) ({ frames := 0, cells := 0, slots := 0, locals := 0 } : Room) [.ref ro, .int st0, .int x1, .int x2] [bRi g ro rw ri rt rb] (fun (q : Int32) => some (.int q)) (fun (q : Int32) => (q = 0 ∨ q = 1)) (fun (q : Int32) => [bRi g ro rw ri rt rb]) := by
  refine zM'.of (cc := cX5_answers) (maxL := 4) (rt := (some .boolean)) (by decide) rfl (Nat.le_of_ble_eq_true rfl) ?_
  intro p e s m args below meth c A ls St hr hlocks hin hK hT hA hP hD hS hl
  obtain ⟨hx, hb, hml, hown, hts⟩ := id St
  have hl : lv_has ls 4 [(0, .ref ro), (1, .int st0), (2, .int x1), (3, .int x2)] := hl
  refine lv_iload_n hx hb dX5_answers_0 rfl (lv_at hl 1 rfl) ?_
  refine lv_iload_n hx hb dX5_answers_1 rfl (lv_at hl 2 rfl) ?_
  refine lv_ishr hx hb dX5_answers_2 ?_
  refine zg (fun x_1 => ?_)
  refine lv_iconst (v := 1) hx hb dX5_answers_3 (by decide) ?_
  refine lv_iand hx hb dX5_answers_4 ?_
  refine zgb (zand1 _) (fun x_2 hx_2 => ?_)
  refine lv_iload_n hx hb dX5_answers_5 rfl (lv_at hl 1 rfl) ?_
  refine lv_iload_n hx hb dX5_answers_6 rfl (lv_at hl 3 rfl) ?_
  refine lv_ishr hx hb dX5_answers_7 ?_
  refine zg (fun x_3 => ?_)
  refine lv_iconst (v := 1) hx hb dX5_answers_8 (by decide) ?_
  refine lv_iand hx hb dX5_answers_9 ?_
  refine zgb (zand1 _) (fun x_4 hx_4 => ?_)
  refine lv_icmp_ne (tgt := 17) hx hb dX5_answers_10 (by decide) (fun cb9 => ?_) (fun cb9 => ?_)
  · skip
    have c5 : ¬ x_2.toInt = x_4.toInt := zne cb9 rfl rfl
    refine lv_iconst (v := 0) hx hb dX5_answers_17 (by decide) ?_
    have hP : va_P g.1 vwCl (List.flatten [bRi g ro rw ri rt rb]) s.heap := hP
    have hD : va_D A (List.flatten [bRi g ro rw ri rt rb]) := hD
    exact mret_z hx hb hr hlocks hS (Nat.le_of_ble_eq_true rfl) (Nat.le_of_ble_eq_true rfl) dX5_answers_18 ((0 : Int32)) rfl (by decide) (show (0 = 0 ∨ 0 = 1) from (by decide)) hP hD
  · skip
    have c6 : x_2.toInt = x_4.toInt := zeq cb9 rfl rfl
    refine lv_iconst (v := 1) hx hb dX5_answers_13 (by decide) ?_
    refine lv_goto (tgt := 18) hx hb dX5_answers_14 (by decide) ?_
    have hP : va_P g.1 vwCl (List.flatten [bRi g ro rw ri rt rb]) s.heap := hP
    have hD : va_D A (List.flatten [bRi g ro rw ri rt rb]) := hD
    exact mret_z hx hb hr hlocks hS (Nat.le_of_ble_eq_true rfl) (Nat.le_of_ble_eq_true rfl) dX5_answers_18 ((1 : Int32)) rfl (by decide) (show (1 = 0 ∨ 1 = 1) from (by decide)) hP hD
set_option maxRecDepth 100000 in
set_option maxHeartbeats 4000000 in
theorem c_r_fitsAll (l : Launch) (g : zG) (ro : Nat) (rw : Nat) (ri : Int32) (rt : Int32) (rb : Nat → Int32) (ta : Nat) (ab : Nat) (sz : Int32) (ln : Int32) (kd : Int32) (bg : Int32) (nx : Int32) (ft : Int32) (fb : Nat → Int32) (n : Int32) (st0 : Int32)  : zM' g l yX5_fitsAll (Cond.code yX5_fitsAll cX5_fitsAll 5 (some .boolean) :: zB) ({ frames := 1, cells := 0, slots := 0, locals := 23 } : Room) [.ref ro, .ref ta, .int n, .int st0] [bRi g ro rw ri rt rb, bTape g ta ab sz ln kd bg nx ft fb] (fun (q : Int32) => some (.int q)) (fun (q : Int32) => (q = 0 ∨ q = 1)) (fun (q : Int32) => [bRi g ro rw ri rt rb, bTape g ta ab sz ln kd bg nx ft fb]) := by
  refine zM'.of (cc := cX5_fitsAll) (maxL := 5) (rt := (some .boolean)) (by decide) rfl (Nat.le_of_ble_eq_true rfl) ?_
  intro p e s m args below meth c A ls St hr hlocks hin hK hT hA hP hD hS hl
  obtain ⟨hx, hb, hml, hown, hts⟩ := id St
  have hl : lv_has ls 5 [(0, .ref ro), (1, .ref ta), (2, .int n), (3, .int st0)] := hl
  refine lv_iconst (v := 0) hx hb dX5_fitsAll_0 (by decide) ?_
  refine lv_istore (lv' := [(4, .int 0), (0, .ref ro), (1, .ref ta), (2, .int n), (3, .int st0)]) hx hb dX5_fitsAll_1 hl (by decide) rfl (fun ls hl => ?_)
  have hl := lv_sub (l' := [(0, .ref ro), (1, .ref ta), (2, .int n), (3, .int st0), (4, .int 0)]) hl [1, 2, 3, 4, 0] rfl
  have LP3_3 : ∀ (kf : Nat) (x_1 : Int32), (0 ≤ x_1.toInt ∧ x_1.toInt ≤ 400) → ∀ (H : Heap) (locs : List Loc) (ls : Array Slot), ((401 - x_1.toInt).toNat) < kf → va_P g.1 vwCl (List.flatten [bRi g ro rw ri rt rb, bTape g ta ab sz ln kd bg nx ft fb]) H → va_D A (List.flatten [bRi g ro rw ri rt rb, bTape g ta ab sz ln kd bg nx ft fb]) → va_S A s.heap H locs → lv_has ls 5 [(0, .ref ro), (1, .ref ta), (2, .int n), (3, .int st0), (4, .int x_1)] → W p l e ({ frames := 1, cells := 0, slots := 0, locals := 23 } : Room) s m args below meth c H locs (0) (0) (zF g (fun (q : Int32) => some (.int q)) (fun (q : Int32) => (q = 0 ∨ q = 1)) (fun (q : Int32) => [bRi g ro rw ri rt rb, bTape g ta ab sz ln kd bg nx ft fb]) ({ frames := 1, cells := 0, slots := 0, locals := 23 } : Room) below args s A) (F0 m 3 ls []) := by
    intro kf
    induction kf with
    | zero => intro x_1 i2 H locs ls hk; exact absurd hk (Nat.not_lt_zero _)
    | succ kf ih3_4 =>
      intro x_1 i2 H locs ls hk3_4 hP hD hS hl
      refine lv_iload hx hb dX5_fitsAll_3 (lv_at hl 4 rfl) ?_
      refine lv_iconst (v := 2) hx hb dX5_fitsAll_5 (by decide) ?_
      refine lv_iadd hx hb dX5_fitsAll_6 ?_
      refine zg3 (zaddK (i := x_1.toInt) (j := 2) (a' := 2) (b' := 402) rfl (by decide) i2.1 i2.2 (Int.le_refl _) (Int.le_refl _) (by decide)) (fun x_5 hx_5 => ?_)
      refine lv_iload_n hx hb dX5_fitsAll_7 rfl (lv_at hl 2 rfl) ?_
      refine lv_icmp_ge (tgt := 71) hx hb dX5_fitsAll_8 (by decide) (fun cb9 => ?_) (fun cb9 => ?_)
      · skip
        have c6 : n.toInt ≤ x_5.toInt := zle cb9 rfl rfl
        have n7 : n.toInt ≤ 402 := Int.le_trans c6 hx_5.2.2
        refine lv_iconst (v := 1) hx hb dX5_fitsAll_71 (by decide) ?_
        have hP : va_P g.1 vwCl (List.flatten [bRi g ro rw ri rt rb, bTape g ta ab sz ln kd bg nx ft fb]) H := hP
        have hD : va_D A (List.flatten [bRi g ro rw ri rt rb, bTape g ta ab sz ln kd bg nx ft fb]) := hD
        exact mret_z hx hb hr hlocks hS (Nat.le_of_ble_eq_true rfl) (Nat.le_of_ble_eq_true rfl) dX5_fitsAll_72 ((1 : Int32)) rfl (by decide) (show (1 = 0 ∨ 1 = 1) from (by decide)) hP hD
      · skip
        have c8 : x_5.toInt < n.toInt := zlti (Int32.not_le.mp cb9) rfl rfl
        have n9 : 3 ≤ n.toInt := zL2 (a := 2) c8 hx_5.2.1 (by decide)
        refine lv_iload hx hb dX5_fitsAll_11 (lv_at hl 4 rfl) ?_
        refine lv_iconst (v := 2) hx hb dX5_fitsAll_13 (by decide) ?_
        refine lv_iadd hx hb dX5_fitsAll_14 ?_
        refine zg3 (zaddK (i := x_1.toInt) (j := 2) (a' := 2) (b' := 402) rfl (by decide) i2.1 i2.2 (Int.le_refl _) (Int.le_refl _) (by decide)) (fun x_10 hx_10 => ?_)
        refine lv_sipush (v := 400) hx hb dX5_fitsAll_15 (by decide) ?_
        refine lv_icmp_ge (tgt := 71) hx hb dX5_fitsAll_18 (by decide) (fun cb9 => ?_) (fun cb9 => ?_)
        · skip
          have c11 : 400 ≤ x_10.toInt := zle cb9 (by decide) rfl
          have n12 : 400 ≤ x_10.toInt := Int.le_trans (Int.le_refl _) c11
          refine lv_iconst (v := 1) hx hb dX5_fitsAll_71 (by decide) ?_
          have hP : va_P g.1 vwCl (List.flatten [bRi g ro rw ri rt rb, bTape g ta ab sz ln kd bg nx ft fb]) H := hP
          have hD : va_D A (List.flatten [bRi g ro rw ri rt rb, bTape g ta ab sz ln kd bg nx ft fb]) := hD
          exact mret_z hx hb hr hlocks hS (Nat.le_of_ble_eq_true rfl) (Nat.le_of_ble_eq_true rfl) dX5_fitsAll_72 ((1 : Int32)) rfl (by decide) (show (1 = 0 ∨ 1 = 1) from (by decide)) hP hD
        · skip
          have c13 : x_10.toInt < 400 := zlti (Int32.not_le.mp cb9) rfl (by decide)
          have n14 : x_10.toInt ≤ 399 := zL1 (b := 400) c13 (Int.le_refl _) (by decide)
          refine lv_aload_n hx hb dX5_fitsAll_21 rfl (lv_at hl 0 rfl) ?_
          refine lv_iload_n hx hb dX5_fitsAll_22 rfl (lv_at hl 3 rfl) ?_
          refine lv_aload_n hx hb dX5_fitsAll_23 rfl (lv_at hl 1 rfl) ?_
          refine va_get (D := g.1) (ci := 6) (v := .ref ab) (C := RX6) (T := TX6) (N := 7) hx hb hts izRX6 hown hK hP 2 rfl rfl 0 (by decide) (hts _ k385) (fun _ h9 => h9) rfl dX5_fitsAll_24 ?_
          refine lv_iload hx hb dX5_fitsAll_27 (lv_at hl 4 rfl) ?_
          refine va_iald hx hb hK hP 3 0 rfl rfl (zinI (by omega) (by omega)) dX5_fitsAll_29 ?_
          refine zg (fun x_15 => ?_)
          refine lv_aload_n hx hb dX5_fitsAll_30 rfl (lv_at hl 1 rfl) ?_
          refine va_get (D := g.1) (ci := 6) (v := .ref ab) (C := RX6) (T := TX6) (N := 7) hx hb hts izRX6 hown hK hP 2 rfl rfl 0 (by decide) (hts _ k385) (fun _ h9 => h9) rfl dX5_fitsAll_31 ?_
          refine lv_iload hx hb dX5_fitsAll_34 (lv_at hl 4 rfl) ?_
          refine lv_iconst (v := 1) hx hb dX5_fitsAll_36 (by decide) ?_
          refine lv_iadd hx hb dX5_fitsAll_37 ?_
          refine zg3 (zaddK (i := x_1.toInt) (j := 1) (a' := 1) (b' := 401) rfl (by decide) i2.1 i2.2 (Int.le_refl _) (Int.le_refl _) (by decide)) (fun x_16 hx_16 => ?_)
          refine va_iald hx hb hK hP 3 0 rfl rfl (zinI (by omega) (by omega)) dX5_fitsAll_38 ?_
          refine zg (fun x_17 => ?_)
          refine mcallV' (g := g) (q0 := 0) (ci := 5) (As := [.int st0, .int x_15, .int x_17]) (rest := []) St hK hT hA hP hD hS hl.1 [0] [1] rfl rfl rfl (c_r_answers l g ro rw ri rt rb st0 x_15 x_17 ) (cwV 3 hts (zgL (zl4 k386 k387 k388 k389) k383) rfl rfl rfl (by decide +kernel) ⟨Nat.le_of_ble_eq_true rfl, Nat.le_of_ble_eq_true rfl⟩) rfl rfl rfl rfl (Nat.le_of_ble_eq_true rfl) dX5_fitsAll_39 ⟨(Nat.le_of_ble_eq_true rfl), (Nat.le_of_ble_eq_true rfl)⟩ (fun q_18 H locs hq19 hP hD hS => ?_)
          replace hq19 : (q_18 = 0 ∨ q_18 = 1) := hq19
          have hP : va_P g.1 vwCl (List.flatten [bTape g ta ab sz ln kd bg nx ft fb, bRi g ro rw ri rt rb]) H := hP
          have hD : va_D A (List.flatten [bTape g ta ab sz ln kd bg nx ft fb, bRi g ro rw ri rt rb]) := hD
          refine W.widen (k := 0) (n := 0) (Nat.le_of_ble_eq_true rfl) (Nat.le_of_ble_eq_true rfl) ?_
          refine W.eq (g2 := F0 m 42 ls [.int q_18]) rfl ?_
          rcases hq19 with rfl | rfl
          · skip
            refine lv_aload_n hx hb dX5_fitsAll_42 rfl (lv_at hl 1 rfl) ?_
            refine va_get (D := g.1) (ci := 6) (v := .ref ab) (C := RX6) (T := TX6) (N := 7) hx hb hts izRX6 hown hK hP 0 rfl rfl 0 (by decide) (hts _ k385) (fun _ h9 => h9) rfl dX5_fitsAll_43 ?_
            refine lv_iload hx hb dX5_fitsAll_46 (lv_at hl 4 rfl) ?_
            refine lv_iconst (v := 2) hx hb dX5_fitsAll_48 (by decide) ?_
            refine lv_iadd hx hb dX5_fitsAll_49 ?_
            refine zg3 (zaddK (i := x_1.toInt) (j := 2) (a' := 2) (b' := 402) rfl (by decide) i2.1 i2.2 (Int.le_refl _) (Int.le_refl _) (by decide)) (fun x_20 hx_20 => ?_)
            refine va_iald hx hb hK hP 1 0 rfl rfl (zinI (by omega) (by omega)) dX5_fitsAll_50 ?_
            refine zg (fun x_21 => ?_)
            refine lv_iconst (v := 1) hx hb dX5_fitsAll_51 (by decide) ?_
            refine lv_icmp_ne (tgt := 59) hx hb dX5_fitsAll_52 (by decide) (fun cb9 => ?_) (fun cb9 => ?_)
            · skip
              have c22 : ¬ x_21.toInt = 1 := zne cb9 rfl (by decide)
              refine lv_iconst (v := 0) hx hb dX5_fitsAll_59 (by decide) ?_
              refine lv_icmp_eq (tgt := 65) hx hb dX5_fitsAll_60 (by decide) (fun _ => ?_) (fun c23 => absurd (by decide) c23)
              refine ziinc3 (n' := 3) (a' := 3) (b' := 403) (lv' := fun v9 => [(4, .int v9), (0, .ref ro), (1, .ref ta), (2, .int n), (3, .int st0)]) hx hb dX5_fitsAll_65 hl (k := 4) rfl (by decide) (fun _ => rfl) (zaddK (i := x_1.toInt) (j := 3) rfl (by decide) i2.1 i2.2 (Int.le_refl _) (Int.le_refl _) (by decide)) (fun x_24 ls hx_24 hl => ?_)
              refine lv_goto (tgt := 3) hx hb dX5_fitsAll_68 (by decide) ?_
              have hl := lv_sub (l' := [(0, .ref ro), (1, .ref ta), (2, .int n), (3, .int st0), (4, .int x_24)]) hl [1, 2, 3, 4, 0] rfl
              have hP : va_P g.1 vwCl (List.flatten [bTape g ta ab sz ln kd bg nx ft fb, bRi g ro rw ri rt rb]) H := hP
              have hD : va_D A (List.flatten [bTape g ta ab sz ln kd bg nx ft fb, bRi g ro rw ri rt rb]) := hD
              obtain ⟨hP, hD⟩ := zord (g := g) (Bs' := [bRi g ro rw ri rt rb, bTape g ta ab sz ln kd bg nx ft fb]) [1, 0] rfl rfl hP hD
              have hP : va_P g.1 vwCl (List.flatten [bRi g ro rw ri rt rb, bTape g ta ab sz ln kd bg nx ft fb]) H := hP
              have hD : va_D A (List.flatten [bRi g ro rw ri rt rb, bTape g ta ab sz ln kd bg nx ft fb]) := hD
              exact ih3_4 x_24 (by first | omega | assumption | decide) H _ ls (zmK hx_24.1 (by decide) i2.2 (by decide) hk3_4)  hP hD hS (lv_sub hl [0, 1, 2, 3, 4] rfl)
            · skip
              have c25 : x_21.toInt = 1 := zeq cb9 rfl (by decide)
              have n26 : 1 ≤ x_21.toInt := Int.le_trans (Int.le_refl _) (Int.le_of_eq c25.symm)
              have n27 : x_21.toInt ≤ 1 := Int.le_trans (Int.le_of_eq c25) (Int.le_refl _)
              refine lv_iconst (v := 1) hx hb dX5_fitsAll_55 (by decide) ?_
              refine lv_goto (tgt := 60) hx hb dX5_fitsAll_56 (by decide) ?_
              refine lv_icmp_eq (tgt := 65) hx hb dX5_fitsAll_60 (by decide) (fun c28 => absurd c28 (by decide)) (fun _ => ?_)
              refine lv_iconst (v := 0) hx hb dX5_fitsAll_63 (by decide) ?_
              have hP : va_P g.1 vwCl (List.flatten [bTape g ta ab sz ln kd bg nx ft fb, bRi g ro rw ri rt rb]) H := hP
              have hD : va_D A (List.flatten [bTape g ta ab sz ln kd bg nx ft fb, bRi g ro rw ri rt rb]) := hD
              obtain ⟨hP, hD⟩ := zord (g := g) (Bs' := [bRi g ro rw ri rt rb, bTape g ta ab sz ln kd bg nx ft fb]) [1, 0] rfl rfl hP hD
              exact mret_z hx hb hr hlocks hS (Nat.le_of_ble_eq_true rfl) (Nat.le_of_ble_eq_true rfl) dX5_fitsAll_64 ((0 : Int32)) rfl (by decide) (show (0 = 0 ∨ 0 = 1) from (by decide)) hP hD
          · skip
            refine lv_aload_n hx hb dX5_fitsAll_42 rfl (lv_at hl 1 rfl) ?_
            refine va_get (D := g.1) (ci := 6) (v := .ref ab) (C := RX6) (T := TX6) (N := 7) hx hb hts izRX6 hown hK hP 0 rfl rfl 0 (by decide) (hts _ k385) (fun _ h9 => h9) rfl dX5_fitsAll_43 ?_
            refine lv_iload hx hb dX5_fitsAll_46 (lv_at hl 4 rfl) ?_
            refine lv_iconst (v := 2) hx hb dX5_fitsAll_48 (by decide) ?_
            refine lv_iadd hx hb dX5_fitsAll_49 ?_
            refine zg3 (zaddK (i := x_1.toInt) (j := 2) (a' := 2) (b' := 402) rfl (by decide) i2.1 i2.2 (Int.le_refl _) (Int.le_refl _) (by decide)) (fun x_29 hx_29 => ?_)
            refine va_iald hx hb hK hP 1 0 rfl rfl (zinI (by omega) (by omega)) dX5_fitsAll_50 ?_
            refine zg (fun x_30 => ?_)
            refine lv_iconst (v := 1) hx hb dX5_fitsAll_51 (by decide) ?_
            refine lv_icmp_ne (tgt := 59) hx hb dX5_fitsAll_52 (by decide) (fun cb9 => ?_) (fun cb9 => ?_)
            · skip
              have c31 : ¬ x_30.toInt = 1 := zne cb9 rfl (by decide)
              refine lv_iconst (v := 0) hx hb dX5_fitsAll_59 (by decide) ?_
              refine lv_icmp_eq (tgt := 65) hx hb dX5_fitsAll_60 (by decide) (fun c32 => absurd c32 (by decide)) (fun _ => ?_)
              refine lv_iconst (v := 0) hx hb dX5_fitsAll_63 (by decide) ?_
              have hP : va_P g.1 vwCl (List.flatten [bTape g ta ab sz ln kd bg nx ft fb, bRi g ro rw ri rt rb]) H := hP
              have hD : va_D A (List.flatten [bTape g ta ab sz ln kd bg nx ft fb, bRi g ro rw ri rt rb]) := hD
              obtain ⟨hP, hD⟩ := zord (g := g) (Bs' := [bRi g ro rw ri rt rb, bTape g ta ab sz ln kd bg nx ft fb]) [1, 0] rfl rfl hP hD
              exact mret_z hx hb hr hlocks hS (Nat.le_of_ble_eq_true rfl) (Nat.le_of_ble_eq_true rfl) dX5_fitsAll_64 ((0 : Int32)) rfl (by decide) (show (0 = 0 ∨ 0 = 1) from (by decide)) hP hD
            · skip
              have c33 : x_30.toInt = 1 := zeq cb9 rfl (by decide)
              have n34 : 1 ≤ x_30.toInt := Int.le_trans (Int.le_refl _) (Int.le_of_eq c33.symm)
              have n35 : x_30.toInt ≤ 1 := Int.le_trans (Int.le_of_eq c33) (Int.le_refl _)
              refine lv_iconst (v := 1) hx hb dX5_fitsAll_55 (by decide) ?_
              refine lv_goto (tgt := 60) hx hb dX5_fitsAll_56 (by decide) ?_
              refine lv_icmp_eq (tgt := 65) hx hb dX5_fitsAll_60 (by decide) (fun _ => ?_) (fun c36 => absurd (by decide) c36)
              refine ziinc3 (n' := 3) (a' := 3) (b' := 403) (lv' := fun v9 => [(4, .int v9), (0, .ref ro), (1, .ref ta), (2, .int n), (3, .int st0)]) hx hb dX5_fitsAll_65 hl (k := 4) rfl (by decide) (fun _ => rfl) (zaddK (i := x_1.toInt) (j := 3) rfl (by decide) i2.1 i2.2 (Int.le_refl _) (Int.le_refl _) (by decide)) (fun x_37 ls hx_37 hl => ?_)
              refine lv_goto (tgt := 3) hx hb dX5_fitsAll_68 (by decide) ?_
              have hl := lv_sub (l' := [(0, .ref ro), (1, .ref ta), (2, .int n), (3, .int st0), (4, .int x_37)]) hl [1, 2, 3, 4, 0] rfl
              have hP : va_P g.1 vwCl (List.flatten [bTape g ta ab sz ln kd bg nx ft fb, bRi g ro rw ri rt rb]) H := hP
              have hD : va_D A (List.flatten [bTape g ta ab sz ln kd bg nx ft fb, bRi g ro rw ri rt rb]) := hD
              obtain ⟨hP, hD⟩ := zord (g := g) (Bs' := [bRi g ro rw ri rt rb, bTape g ta ab sz ln kd bg nx ft fb]) [1, 0] rfl rfl hP hD
              have hP : va_P g.1 vwCl (List.flatten [bRi g ro rw ri rt rb, bTape g ta ab sz ln kd bg nx ft fb]) H := hP
              have hD : va_D A (List.flatten [bRi g ro rw ri rt rb, bTape g ta ab sz ln kd bg nx ft fb]) := hD
              exact ih3_4 x_37 (by first | omega | assumption | decide) H _ ls (zmK hx_37.1 (by decide) i2.2 (by decide) hk3_4)  hP hD hS (lv_sub hl [0, 1, 2, 3, 4] rfl)
  have hP : va_P g.1 vwCl (List.flatten [bRi g ro rw ri rt rb, bTape g ta ab sz ln kd bg nx ft fb]) s.heap := hP
  have hD : va_D A (List.flatten [bRi g ro rw ri rt rb, bTape g ta ab sz ln kd bg nx ft fb]) := hD
  exact LP3_3 _ 0 (by decide) s.heap _ ls (Nat.lt_succ_self _)  hP hD hS (lv_sub hl [0, 1, 2, 3, 4] rfl)
set_option maxRecDepth 100000 in
set_option maxHeartbeats 4000000 in
theorem c_r_hear (l : Launch) (g : zG) (ro : Nat) (rw : Nat) (ri : Int32) (rt : Int32) (rb : Nat → Int32) (ta : Nat) (ab : Nat) (sz : Int32) (ln : Int32) (kd : Int32) (bg : Int32) (nx : Int32) (ft : Int32) (fb : Nat → Int32) (n : Int32) (pp : Int32) (b_pp : 0 ≤ pp.toInt ∧ pp.toInt ≤ 8) : zM' g l yX5_hear (Cond.code yX5_hear cX5_hear 5 none :: zB) ({ frames := 2, cells := 0, slots := 0, locals := 47 } : Room) [.ref ro, .ref ta, .int n, .int pp] [bRi g ro rw ri rt rb, bTape g ta ab sz ln kd bg nx ft fb] (fun u : Int32 × Int32 × (Nat → Int32) => (fun (ri2 : Int32) (rt2 : Int32) (rb2 : Nat → Int32) => none) (u.1) (u.2.1) (u.2.2)) (fun u : Int32 × Int32 × (Nat → Int32) => (fun (ri2 : Int32) (rt2 : Int32) (rb2 : Nat → Int32) => (0 ≤ ri2.toInt ∧ ri2.toInt ≤ 8)) (u.1) (u.2.1) (u.2.2)) (fun u : Int32 × Int32 × (Nat → Int32) => (fun (ri2 : Int32) (rt2 : Int32) (rb2 : Nat → Int32) => [bRi g ro rw ri2 rt2 rb2, bTape g ta ab sz ln kd bg nx ft fb]) (u.1) (u.2.1) (u.2.2)) := by
  refine zM'.of (cc := cX5_hear) (maxL := 5) (rt := none) (by decide) rfl (Nat.le_of_ble_eq_true rfl) ?_
  intro p e s m args below meth c A ls St hr hlocks hin hK hT hA hP hD hS hl
  obtain ⟨hx, hb, hml, hown, hts⟩ := id St
  have hl : lv_has ls 5 [(0, .ref ro), (1, .ref ta), (2, .int n), (3, .int pp)] := hl
  refine lv_aload_n hx hb dX5_hear_0 rfl (lv_at hl 0 rfl) ?_
  refine lv_iload_n hx hb dX5_hear_1 rfl (lv_at hl 3 rfl) ?_
  refine lv_bipush (v := 8) hx hb dX5_hear_2 (by decide) ?_
  refine va_mmin hx hb (by rw [hml]; exact hl.1.symm) hown (hts _ k391) (hts _ k41) (hts _ k42) (hts _ k43) (Nat.le_of_ble_eq_true rfl) (Nat.le_of_ble_eq_true rfl) (Nat.le_of_ble_eq_true rfl) (Nat.le_of_ble_eq_true rfl) dX5_hear_4 ?_
  refine zgmn (i := pp.toInt) (j := 8) rfl (by decide) (fun x_1 hx_1 => ?_)
  refine va_put (D := g.1) (ci := 5) (v := .int x_1) (ty := .int) (C := RX5) (T := TX5) (N := 3) hx hb hts izRX5 tyX5 tyX5_ok nmX5 hown hK hP hD hS 0 rfl rfl 1 (by decide) (hts _ k392) (fun _ h9 => h9) rfl (by decide +kernel) rfl rfl (Nat.le_of_ble_eq_true rfl) dX5_hear_7 (fun H locs hP hD hS => ?_)
  have hP : va_P g.1 vwCl (List.flatten [bRi g ro rw x_1 rt rb, bTape g ta ab sz ln kd bg nx ft fb]) H := hP
  have hD : va_D A (List.flatten [bRi g ro rw x_1 rt rb, bTape g ta ab sz ln kd bg nx ft fb]) := hD
  refine lv_aload_n hx hb dX5_hear_10 rfl (lv_at hl 0 rfl) ?_
  refine lv_iconst (v := 0) hx hb dX5_hear_11 (by decide) ?_
  refine va_put (D := g.1) (ci := 5) (v := .int 0) (ty := .int) (C := RX5) (T := TX5) (N := 3) hx hb hts izRX5 tyX5 tyX5_ok nmX5 hown hK hP hD hS 0 rfl rfl 2 (by decide) (hts _ k393) (fun _ h9 => h9) rfl (by decide +kernel) rfl rfl (Nat.le_of_ble_eq_true rfl) dX5_hear_12 (fun H locs hP hD hS => ?_)
  have hP : va_P g.1 vwCl (List.flatten [bRi g ro rw x_1 0 rb, bTape g ta ab sz ln kd bg nx ft fb]) H := hP
  have hD : va_D A (List.flatten [bRi g ro rw x_1 0 rb, bTape g ta ab sz ln kd bg nx ft fb]) := hD
  refine lv_iconst (v := 0) hx hb dX5_hear_15 (by decide) ?_
  refine lv_istore (lv' := [(4, .int 0), (0, .ref ro), (1, .ref ta), (2, .int n), (3, .int pp)]) hx hb dX5_hear_16 hl (by decide) rfl (fun ls hl => ?_)
  have hl := lv_sub (l' := [(0, .ref ro), (1, .ref ta), (2, .int n), (3, .int pp), (4, .int 0)]) hl [1, 2, 3, 4, 0] rfl
  have LP18_6 : ∀ (kf : Nat) (x_2 : Int32) (x_3 : Int32) (rb_4 : Nat → Int32), (0 ≤ x_2.toInt ∧ x_2.toInt ≤ 256) → ∀ (H : Heap) (locs : List Loc) (ls : Array Slot), ((257 - x_2.toInt).toNat) < kf → va_P g.1 vwCl (List.flatten [bRi g ro rw x_1 x_3 rb_4, bTape g ta ab sz ln kd bg nx ft fb]) H → va_D A (List.flatten [bRi g ro rw x_1 x_3 rb_4, bTape g ta ab sz ln kd bg nx ft fb]) → va_S A s.heap H locs → lv_has ls 5 [(0, .ref ro), (1, .ref ta), (2, .int n), (3, .int pp), (4, .int x_2)] → W p l e ({ frames := 2, cells := 0, slots := 0, locals := 47 } : Room) s m args below meth c H locs (0) (0) (zF g (fun u : Int32 × Int32 × (Nat → Int32) => (fun (ri2 : Int32) (rt2 : Int32) (rb2 : Nat → Int32) => none) (u.1) (u.2.1) (u.2.2)) (fun u : Int32 × Int32 × (Nat → Int32) => (fun (ri2 : Int32) (rt2 : Int32) (rb2 : Nat → Int32) => (0 ≤ ri2.toInt ∧ ri2.toInt ≤ 8)) (u.1) (u.2.1) (u.2.2)) (fun u : Int32 × Int32 × (Nat → Int32) => (fun (ri2 : Int32) (rt2 : Int32) (rb2 : Nat → Int32) => [bRi g ro rw ri2 rt2 rb2, bTape g ta ab sz ln kd bg nx ft fb]) (u.1) (u.2.1) (u.2.2)) ({ frames := 2, cells := 0, slots := 0, locals := 47 } : Room) below args s A) (F0 m 18 ls []) := by
    intro kf
    induction kf with
    | zero => intro x_2 x_3 rb_4 i5 H locs ls hk; exact absurd hk (Nat.not_lt_zero _)
    | succ kf ih18_7 =>
      intro x_2 x_3 rb_4 i5 H locs ls hk18_7 hP hD hS hl
      refine lv_iload hx hb dX5_hear_18 (lv_at hl 4 rfl) ?_
      refine lv_iconst (v := 1) hx hb dX5_hear_20 (by decide) ?_
      refine lv_aload_n hx hb dX5_hear_21 rfl (lv_at hl 0 rfl) ?_
      refine va_get (D := g.1) (ci := 5) (v := .int x_1) (C := RX5) (T := TX5) (N := 3) hx hb hts izRX5 hown hK hP 0 rfl rfl 1 (by decide) (hts _ k392) (fun _ h9 => h9) rfl dX5_hear_22 ?_
      refine lv_ishl hx hb dX5_hear_25 ?_
      refine zgb (zshl1 (j := x_1.toInt) rfl 8 256 (by decide) (by decide) (by omega)) (fun x_8 hx_8 => ?_)
      refine lv_icmp_ge (tgt := 70) hx hb dX5_hear_26 (by decide) (fun cb9 => ?_) (fun cb9 => ?_)
      · skip
        have c9 : x_8.toInt ≤ x_2.toInt := zle cb9 rfl rfl
        have n10 : 1 ≤ x_2.toInt := Int.le_trans hx_8.1 c9
        have hP : va_P g.1 vwCl (List.flatten [bRi g ro rw x_1 x_3 rb_4, bTape g ta ab sz ln kd bg nx ft fb]) H := hP
        have hD : va_D A (List.flatten [bRi g ro rw x_1 x_3 rb_4, bTape g ta ab sz ln kd bg nx ft fb]) := hD
        exact mret_v hx hb hr hlocks hS (Nat.le_of_ble_eq_true rfl) (Nat.le_of_ble_eq_true rfl) dX5_hear_70 (x_1, x_3, rb_4) rfl (show (0 ≤ x_1.toInt ∧ x_1.toInt ≤ 8) from (by first | assumption | omega | decide | exact rfl | exact zb01 (by omega) | exact Or.inl (by decide) | exact Or.inr (by first | omega | decide))) hP hD
      · skip
        have c11 : x_2.toInt < x_8.toInt := zlti (Int32.not_le.mp cb9) rfl rfl
        have n12 : x_2.toInt ≤ 255 := zL1 (b := 256) c11 hx_8.2 (by decide)
        refine lv_aload_n hx hb dX5_hear_29 rfl (lv_at hl 0 rfl) ?_
        refine va_get (D := g.1) (ci := 5) (v := .ref rw) (C := RX5) (T := TX5) (N := 3) hx hb hts izRX5 hown hK hP 0 rfl rfl 0 (by decide) (hts _ k382) (fun _ h9 => h9) rfl dX5_hear_30 ?_
        refine lv_iload hx hb dX5_hear_33 (lv_at hl 4 rfl) ?_
        refine lv_aload_n hx hb dX5_hear_35 rfl (lv_at hl 0 rfl) ?_
        refine lv_aload_n hx hb dX5_hear_36 rfl (lv_at hl 1 rfl) ?_
        refine lv_iload_n hx hb dX5_hear_37 rfl (lv_at hl 2 rfl) ?_
        refine lv_iload hx hb dX5_hear_38 (lv_at hl 4 rfl) ?_
        refine mcallV' (g := g) (q0 := 0) (ci := 5) (As := [.ref ta, .int n, .int x_2]) (rest := [.int x_2, .ref rw]) St hK hT hA hP hD hS hl.1 [0, 1] [] rfl rfl rfl (c_r_fitsAll l g ro rw x_1 x_3 rb_4 ta ab sz ln kd bg nx ft fb n x_2 ) (cwV 3 hts (zgL (zl4 k394 k395 k396 k389) k384) rfl rfl rfl (by decide +kernel) ⟨Nat.le_of_ble_eq_true rfl, Nat.le_of_ble_eq_true rfl⟩) rfl rfl rfl rfl (Nat.le_of_ble_eq_true rfl) dX5_hear_40 ⟨(Nat.le_of_ble_eq_true rfl), (Nat.le_of_ble_eq_true rfl)⟩ (fun q_13 H locs hq14 hP hD hS => ?_)
        replace hq14 : (q_13 = 0 ∨ q_13 = 1) := hq14
        have hP : va_P g.1 vwCl (List.flatten [bRi g ro rw x_1 x_3 rb_4, bTape g ta ab sz ln kd bg nx ft fb]) H := hP
        have hD : va_D A (List.flatten [bRi g ro rw x_1 x_3 rb_4, bTape g ta ab sz ln kd bg nx ft fb]) := hD
        refine W.widen (k := 0) (n := 0) (Nat.le_of_ble_eq_true rfl) (Nat.le_of_ble_eq_true rfl) ?_
        refine W.eq (g2 := F0 m 43 ls [.int q_13, .int x_2, .ref rw]) rfl ?_
        rcases hq14 with rfl | rfl
        · skip
          refine va_zast hx hb hK hP hD hS 1 1 rfl rfl (zinK (a := 0) (b := 255) i5.1 n12 (by decide)) dX5_hear_43 (fun H locs hP hD hS => ?_)
          obtain ⟨rb_15, hP, hD⟩ : ∃ rb_15 : Nat → Int32, va_P g.1 vwCl (List.flatten [bRi g ro rw x_1 x_3 rb_15, bTape g ta ab sz ln kd bg nx ft fb]) H ∧ va_D A (List.flatten [bRi g ro rw x_1 x_3 rb_15, bTape g ta ab sz ln kd bg nx ft fb]) := ⟨upd rb_4 x_2.toNatClampNeg (vp_nar .boolean 0), hP, hD⟩
          refine lv_aload_n hx hb dX5_hear_44 rfl (lv_at hl 0 rfl) ?_
          refine va_get (D := g.1) (ci := 5) (v := .ref rw) (C := RX5) (T := TX5) (N := 3) hx hb hts izRX5 hown hK hP 0 rfl rfl 0 (by decide) (hts _ k382) (fun _ h9 => h9) rfl dX5_hear_45 ?_
          refine lv_iload hx hb dX5_hear_48 (lv_at hl 4 rfl) ?_
          refine va_zald hx hb hK hP 1 1 rfl rfl (zinK (a := 0) (b := 255) i5.1 n12 (by decide)) dX5_hear_50 ?_
          refine zg (fun x_16 => ?_)
          refine lv_if_eq (tgt := 64) hx hb dX5_hear_51 (by decide) (fun cb9 => ?_) (fun cb9 => ?_)
          · skip
            have c17 : x_16.toInt = 0 := zeq cb9 rfl (by decide)
            have n18 : 0 ≤ x_16.toInt := Int.le_trans (Int.le_refl _) (Int.le_of_eq c17.symm)
            have n19 : x_16.toInt ≤ 0 := Int.le_trans (Int.le_of_eq c17) (Int.le_refl _)
            refine ziinc3 (n' := 1) (a' := 1) (b' := 256) (lv' := fun v9 => [(4, .int v9), (0, .ref ro), (1, .ref ta), (2, .int n), (3, .int pp)]) hx hb dX5_hear_64 hl (k := 4) rfl (by decide) (fun _ => rfl) (zaddK (i := x_2.toInt) (j := 1) rfl (by decide) i5.1 n12 (Int.le_refl _) (Int.le_refl _) (by decide)) (fun x_20 ls hx_20 hl => ?_)
            refine lv_goto (tgt := 18) hx hb dX5_hear_67 (by decide) ?_
            have hl := lv_sub (l' := [(0, .ref ro), (1, .ref ta), (2, .int n), (3, .int pp), (4, .int x_20)]) hl [1, 2, 3, 4, 0] rfl
            have hP : va_P g.1 vwCl (List.flatten [bRi g ro rw x_1 x_3 rb_15, bTape g ta ab sz ln kd bg nx ft fb]) H := hP
            have hD : va_D A (List.flatten [bRi g ro rw x_1 x_3 rb_15, bTape g ta ab sz ln kd bg nx ft fb]) := hD
            exact ih18_7 x_20 x_3 rb_15 ⟨(Int.le_trans (by decide) hx_20.2.1), hx_20.2.2⟩ H _ ls (zmK hx_20.1 (by decide) n12 (by decide) hk18_7)  hP hD hS (lv_sub hl [0, 1, 2, 3, 4] rfl)
          · skip
            have c21 : ¬ x_16.toInt = 0 := zne cb9 rfl (by decide)
            refine lv_aload_n hx hb dX5_hear_54 rfl (lv_at hl 0 rfl) ?_
            refine lv_dup hx hb dX5_hear_55 rfl ?_
            refine va_get (D := g.1) (ci := 5) (v := .int x_3) (C := RX5) (T := TX5) (N := 3) hx hb hts izRX5 hown hK hP 0 rfl rfl 2 (by decide) (hts _ k393) (fun _ h9 => h9) rfl dX5_hear_56 ?_
            refine lv_iconst (v := 1) hx hb dX5_hear_59 (by decide) ?_
            refine lv_iadd hx hb dX5_hear_60 ?_
            refine zg (fun x_22 => ?_)
            refine va_put (D := g.1) (ci := 5) (v := .int x_22) (ty := .int) (C := RX5) (T := TX5) (N := 3) hx hb hts izRX5 tyX5 tyX5_ok nmX5 hown hK hP hD hS 0 rfl rfl 2 (by decide) (hts _ k393) (fun _ h9 => h9) rfl (by decide +kernel) rfl rfl (Nat.le_of_ble_eq_true rfl) dX5_hear_61 (fun H locs hP hD hS => ?_)
            have hP : va_P g.1 vwCl (List.flatten [bRi g ro rw x_1 x_22 rb_15, bTape g ta ab sz ln kd bg nx ft fb]) H := hP
            have hD : va_D A (List.flatten [bRi g ro rw x_1 x_22 rb_15, bTape g ta ab sz ln kd bg nx ft fb]) := hD
            refine ziinc3 (n' := 1) (a' := 1) (b' := 256) (lv' := fun v9 => [(4, .int v9), (0, .ref ro), (1, .ref ta), (2, .int n), (3, .int pp)]) hx hb dX5_hear_64 hl (k := 4) rfl (by decide) (fun _ => rfl) (zaddK (i := x_2.toInt) (j := 1) rfl (by decide) i5.1 n12 (Int.le_refl _) (Int.le_refl _) (by decide)) (fun x_23 ls hx_23 hl => ?_)
            refine lv_goto (tgt := 18) hx hb dX5_hear_67 (by decide) ?_
            have hl := lv_sub (l' := [(0, .ref ro), (1, .ref ta), (2, .int n), (3, .int pp), (4, .int x_23)]) hl [1, 2, 3, 4, 0] rfl
            have hP : va_P g.1 vwCl (List.flatten [bRi g ro rw x_1 x_22 rb_15, bTape g ta ab sz ln kd bg nx ft fb]) H := hP
            have hD : va_D A (List.flatten [bRi g ro rw x_1 x_22 rb_15, bTape g ta ab sz ln kd bg nx ft fb]) := hD
            exact ih18_7 x_23 x_22 rb_15 ⟨(Int.le_trans (by decide) hx_23.2.1), hx_23.2.2⟩ H _ ls (zmK hx_23.1 (by decide) n12 (by decide) hk18_7)  hP hD hS (lv_sub hl [0, 1, 2, 3, 4] rfl)
        · skip
          refine va_zast hx hb hK hP hD hS 1 1 rfl rfl (zinK (a := 0) (b := 255) i5.1 n12 (by decide)) dX5_hear_43 (fun H locs hP hD hS => ?_)
          obtain ⟨rb_24, hP, hD⟩ : ∃ rb_24 : Nat → Int32, va_P g.1 vwCl (List.flatten [bRi g ro rw x_1 x_3 rb_24, bTape g ta ab sz ln kd bg nx ft fb]) H ∧ va_D A (List.flatten [bRi g ro rw x_1 x_3 rb_24, bTape g ta ab sz ln kd bg nx ft fb]) := ⟨upd rb_4 x_2.toNatClampNeg (vp_nar .boolean 1), hP, hD⟩
          refine lv_aload_n hx hb dX5_hear_44 rfl (lv_at hl 0 rfl) ?_
          refine va_get (D := g.1) (ci := 5) (v := .ref rw) (C := RX5) (T := TX5) (N := 3) hx hb hts izRX5 hown hK hP 0 rfl rfl 0 (by decide) (hts _ k382) (fun _ h9 => h9) rfl dX5_hear_45 ?_
          refine lv_iload hx hb dX5_hear_48 (lv_at hl 4 rfl) ?_
          refine va_zald hx hb hK hP 1 1 rfl rfl (zinK (a := 0) (b := 255) i5.1 n12 (by decide)) dX5_hear_50 ?_
          refine zg (fun x_25 => ?_)
          refine lv_if_eq (tgt := 64) hx hb dX5_hear_51 (by decide) (fun cb9 => ?_) (fun cb9 => ?_)
          · skip
            have c26 : x_25.toInt = 0 := zeq cb9 rfl (by decide)
            have n27 : 0 ≤ x_25.toInt := Int.le_trans (Int.le_refl _) (Int.le_of_eq c26.symm)
            have n28 : x_25.toInt ≤ 0 := Int.le_trans (Int.le_of_eq c26) (Int.le_refl _)
            refine ziinc3 (n' := 1) (a' := 1) (b' := 256) (lv' := fun v9 => [(4, .int v9), (0, .ref ro), (1, .ref ta), (2, .int n), (3, .int pp)]) hx hb dX5_hear_64 hl (k := 4) rfl (by decide) (fun _ => rfl) (zaddK (i := x_2.toInt) (j := 1) rfl (by decide) i5.1 n12 (Int.le_refl _) (Int.le_refl _) (by decide)) (fun x_29 ls hx_29 hl => ?_)
            refine lv_goto (tgt := 18) hx hb dX5_hear_67 (by decide) ?_
            have hl := lv_sub (l' := [(0, .ref ro), (1, .ref ta), (2, .int n), (3, .int pp), (4, .int x_29)]) hl [1, 2, 3, 4, 0] rfl
            have hP : va_P g.1 vwCl (List.flatten [bRi g ro rw x_1 x_3 rb_24, bTape g ta ab sz ln kd bg nx ft fb]) H := hP
            have hD : va_D A (List.flatten [bRi g ro rw x_1 x_3 rb_24, bTape g ta ab sz ln kd bg nx ft fb]) := hD
            exact ih18_7 x_29 x_3 rb_24 ⟨(Int.le_trans (by decide) hx_29.2.1), hx_29.2.2⟩ H _ ls (zmK hx_29.1 (by decide) n12 (by decide) hk18_7)  hP hD hS (lv_sub hl [0, 1, 2, 3, 4] rfl)
          · skip
            have c30 : ¬ x_25.toInt = 0 := zne cb9 rfl (by decide)
            refine lv_aload_n hx hb dX5_hear_54 rfl (lv_at hl 0 rfl) ?_
            refine lv_dup hx hb dX5_hear_55 rfl ?_
            refine va_get (D := g.1) (ci := 5) (v := .int x_3) (C := RX5) (T := TX5) (N := 3) hx hb hts izRX5 hown hK hP 0 rfl rfl 2 (by decide) (hts _ k393) (fun _ h9 => h9) rfl dX5_hear_56 ?_
            refine lv_iconst (v := 1) hx hb dX5_hear_59 (by decide) ?_
            refine lv_iadd hx hb dX5_hear_60 ?_
            refine zg (fun x_31 => ?_)
            refine va_put (D := g.1) (ci := 5) (v := .int x_31) (ty := .int) (C := RX5) (T := TX5) (N := 3) hx hb hts izRX5 tyX5 tyX5_ok nmX5 hown hK hP hD hS 0 rfl rfl 2 (by decide) (hts _ k393) (fun _ h9 => h9) rfl (by decide +kernel) rfl rfl (Nat.le_of_ble_eq_true rfl) dX5_hear_61 (fun H locs hP hD hS => ?_)
            have hP : va_P g.1 vwCl (List.flatten [bRi g ro rw x_1 x_31 rb_24, bTape g ta ab sz ln kd bg nx ft fb]) H := hP
            have hD : va_D A (List.flatten [bRi g ro rw x_1 x_31 rb_24, bTape g ta ab sz ln kd bg nx ft fb]) := hD
            refine ziinc3 (n' := 1) (a' := 1) (b' := 256) (lv' := fun v9 => [(4, .int v9), (0, .ref ro), (1, .ref ta), (2, .int n), (3, .int pp)]) hx hb dX5_hear_64 hl (k := 4) rfl (by decide) (fun _ => rfl) (zaddK (i := x_2.toInt) (j := 1) rfl (by decide) i5.1 n12 (Int.le_refl _) (Int.le_refl _) (by decide)) (fun x_32 ls hx_32 hl => ?_)
            refine lv_goto (tgt := 18) hx hb dX5_hear_67 (by decide) ?_
            have hl := lv_sub (l' := [(0, .ref ro), (1, .ref ta), (2, .int n), (3, .int pp), (4, .int x_32)]) hl [1, 2, 3, 4, 0] rfl
            have hP : va_P g.1 vwCl (List.flatten [bRi g ro rw x_1 x_31 rb_24, bTape g ta ab sz ln kd bg nx ft fb]) H := hP
            have hD : va_D A (List.flatten [bRi g ro rw x_1 x_31 rb_24, bTape g ta ab sz ln kd bg nx ft fb]) := hD
            exact ih18_7 x_32 x_31 rb_24 ⟨(Int.le_trans (by decide) hx_32.2.1), hx_32.2.2⟩ H _ ls (zmK hx_32.1 (by decide) n12 (by decide) hk18_7)  hP hD hS (lv_sub hl [0, 1, 2, 3, 4] rfl)
  have hP : va_P g.1 vwCl (List.flatten [bRi g ro rw x_1 0 rb, bTape g ta ab sz ln kd bg nx ft fb]) H := hP
  have hD : va_D A (List.flatten [bRi g ro rw x_1 0 rb, bTape g ta ab sz ln kd bg nx ft fb]) := hD
  exact LP18_6 _ 0 0 rb (by decide) H _ ls (Nat.lt_succ_self _)  hP hD hS (lv_sub hl [0, 1, 2, 3, 4] rfl)
set_option maxRecDepth 100000 in
set_option maxHeartbeats 4000000 in
theorem c_r_honestInAll (l : Launch) (g : zG) (ro : Nat) (rw : Nat) (ri : Int32) (rt : Int32) (rb : Nat → Int32) (b_ri : 0 ≤ ri.toInt ∧ ri.toInt ≤ 8) : zM' g l yX5_honestInAll (Cond.code yX5_honestInAll cX5_honestInAll 3 (some .int) :: zB) ({ frames := 0, cells := 0, slots := 0, locals := 0 } : Room) [.ref ro] [bRi g ro rw ri rt rb] (fun (q : Int32) => some (.int q)) (fun (q : Int32) => True) (fun (q : Int32) => [bRi g ro rw ri rt rb]) := by
  refine zM'.of (cc := cX5_honestInAll) (maxL := 3) (rt := (some .int)) (by decide) rfl (Nat.le_of_ble_eq_true rfl) ?_
  intro p e s m args below meth c A ls St hr hlocks hin hK hT hA hP hD hS hl
  obtain ⟨hx, hb, hml, hown, hts⟩ := id St
  have hl : lv_has ls 3 [(0, .ref ro)] := hl
  refine lv_aload_n hx hb dX5_honestInAll_0 rfl (lv_at hl 0 rfl) ?_
  refine va_get (D := g.1) (ci := 5) (v := .int rt) (C := RX5) (T := TX5) (N := 3) hx hb hts izRX5 hown hK hP 0 rfl rfl 2 (by decide) (hts _ k393) (fun _ h9 => h9) rfl dX5_honestInAll_1 ?_
  refine lv_if_ne (tgt := 11) hx hb dX5_honestInAll_4 (by decide) (fun cb9 => ?_) (fun cb9 => ?_)
  · skip
    have c1 : ¬ rt.toInt = 0 := zne cb9 rfl (by decide)
    refine lv_iconst (v := 1) hx hb dX5_honestInAll_11 (by decide) ?_
    refine lv_aload_n hx hb dX5_honestInAll_12 rfl (lv_at hl 0 rfl) ?_
    refine va_get (D := g.1) (ci := 5) (v := .int ri) (C := RX5) (T := TX5) (N := 3) hx hb hts izRX5 hown hK hP 0 rfl rfl 1 (by decide) (hts _ k392) (fun _ h9 => h9) rfl dX5_honestInAll_13 ?_
    refine lv_ishl hx hb dX5_honestInAll_16 ?_
    refine zgb (zshl1 (j := ri.toInt) rfl 8 256 (by decide) (by decide) ⟨b_ri.1, b_ri.2⟩) (fun x_2 hx_2 => ?_)
    refine lv_iconst (v := 1) hx hb dX5_honestInAll_17 (by decide) ?_
    refine lv_isub hx hb dX5_honestInAll_18 ?_
    refine zg3 (zsubK (i := x_2.toInt) (j := 1) (a' := 0) (b' := 255) rfl (by decide) hx_2.1 hx_2.2 (Int.le_refl _) (Int.le_refl _) (by decide)) (fun x_3 hx_3 => ?_)
    refine lv_istore_n (lv' := [(1, .int x_3), (0, .ref ro)]) hx hb dX5_honestInAll_19 rfl hl (by decide) rfl (fun ls hl => ?_)
    refine lv_iconst (v := 0) hx hb dX5_honestInAll_20 (by decide) ?_
    refine lv_istore_n (lv' := [(2, .int 0), (1, .int x_3), (0, .ref ro)]) hx hb dX5_honestInAll_21 rfl hl (by decide) rfl (fun ls hl => ?_)
    have hl := lv_sub (l' := [(0, .ref ro), (1, .int x_3), (2, .int 0)]) hl [2, 1, 0] rfl
    have LP22_7 : ∀ (kf : Nat) (x_4 : Int32) (x_5 : Int32), (0 ≤ x_5.toInt ∧ x_5.toInt ≤ 256) → ∀ (H : Heap) (locs : List Loc) (ls : Array Slot), ((257 - x_5.toInt).toNat) < kf → va_P g.1 vwCl (List.flatten [bRi g ro rw ri rt rb]) H → va_D A (List.flatten [bRi g ro rw ri rt rb]) → va_S A s.heap H locs → lv_has ls 3 [(0, .ref ro), (1, .int x_4), (2, .int x_5)] → W p l e ({ frames := 0, cells := 0, slots := 0, locals := 0 } : Room) s m args below meth c H locs (0) (0) (zF g (fun (q : Int32) => some (.int q)) (fun (q : Int32) => True) (fun (q : Int32) => [bRi g ro rw ri rt rb]) ({ frames := 0, cells := 0, slots := 0, locals := 0 } : Room) below args s A) (F0 m 22 ls []) := by
      intro kf
      induction kf with
      | zero => intro x_4 x_5 i6 H locs ls hk; exact absurd hk (Nat.not_lt_zero _)
      | succ kf ih22_8 =>
        intro x_4 x_5 i6 H locs ls hk22_8 hP hD hS hl
        refine lv_iload_n hx hb dX5_honestInAll_22 rfl (lv_at hl 2 rfl) ?_
        refine lv_iconst (v := 1) hx hb dX5_honestInAll_23 (by decide) ?_
        refine lv_aload_n hx hb dX5_honestInAll_24 rfl (lv_at hl 0 rfl) ?_
        refine va_get (D := g.1) (ci := 5) (v := .int ri) (C := RX5) (T := TX5) (N := 3) hx hb hts izRX5 hown hK hP 0 rfl rfl 1 (by decide) (hts _ k392) (fun _ h9 => h9) rfl dX5_honestInAll_25 ?_
        refine lv_ishl hx hb dX5_honestInAll_28 ?_
        refine zgb (zshl1 (j := ri.toInt) rfl 8 256 (by decide) (by decide) ⟨b_ri.1, b_ri.2⟩) (fun x_9 hx_9 => ?_)
        refine lv_icmp_ge (tgt := 51) hx hb dX5_honestInAll_29 (by decide) (fun cb9 => ?_) (fun cb9 => ?_)
        · skip
          have c10 : x_9.toInt ≤ x_5.toInt := zle cb9 rfl rfl
          have n11 : 1 ≤ x_5.toInt := Int.le_trans hx_9.1 c10
          refine lv_iload_n hx hb dX5_honestInAll_51 rfl (lv_at hl 1 rfl) ?_
          have hP : va_P g.1 vwCl (List.flatten [bRi g ro rw ri rt rb]) H := hP
          have hD : va_D A (List.flatten [bRi g ro rw ri rt rb]) := hD
          exact mret_i hx hb hr hlocks hS (Nat.le_of_ble_eq_true rfl) (Nat.le_of_ble_eq_true rfl) dX5_honestInAll_52 (x_4) rfl trivial hP hD
        · skip
          have c12 : x_5.toInt < x_9.toInt := zlti (Int32.not_le.mp cb9) rfl rfl
          have n13 : x_5.toInt ≤ 255 := zL1 (b := 256) c12 hx_9.2 (by decide)
          refine lv_aload_n hx hb dX5_honestInAll_32 rfl (lv_at hl 0 rfl) ?_
          refine va_get (D := g.1) (ci := 5) (v := .ref rw) (C := RX5) (T := TX5) (N := 3) hx hb hts izRX5 hown hK hP 0 rfl rfl 0 (by decide) (hts _ k382) (fun _ h9 => h9) rfl dX5_honestInAll_33 ?_
          refine lv_iload_n hx hb dX5_honestInAll_36 rfl (lv_at hl 2 rfl) ?_
          refine va_zald hx hb hK hP 1 1 rfl rfl (zinK (a := 0) (b := 255) i6.1 n13 (by decide)) dX5_honestInAll_37 ?_
          refine zg (fun x_14 => ?_)
          refine lv_if_eq (tgt := 45) hx hb dX5_honestInAll_38 (by decide) (fun cb9 => ?_) (fun cb9 => ?_)
          · skip
            have c15 : x_14.toInt = 0 := zeq cb9 rfl (by decide)
            have n16 : 0 ≤ x_14.toInt := Int.le_trans (Int.le_refl _) (Int.le_of_eq c15.symm)
            have n17 : x_14.toInt ≤ 0 := Int.le_trans (Int.le_of_eq c15) (Int.le_refl _)
            refine ziinc3 (n' := 1) (a' := 1) (b' := 256) (lv' := fun v9 => [(2, .int v9), (0, .ref ro), (1, .int x_4)]) hx hb dX5_honestInAll_45 hl (k := 2) rfl (by decide) (fun _ => rfl) (zaddK (i := x_5.toInt) (j := 1) rfl (by decide) i6.1 n13 (Int.le_refl _) (Int.le_refl _) (by decide)) (fun x_18 ls hx_18 hl => ?_)
            refine lv_goto (tgt := 22) hx hb dX5_honestInAll_48 (by decide) ?_
            have hl := lv_sub (l' := [(0, .ref ro), (1, .int x_4), (2, .int x_18)]) hl [1, 2, 0] rfl
            have hP : va_P g.1 vwCl (List.flatten [bRi g ro rw ri rt rb]) H := hP
            have hD : va_D A (List.flatten [bRi g ro rw ri rt rb]) := hD
            exact ih22_8 x_4 x_18 ⟨(Int.le_trans (by decide) hx_18.2.1), hx_18.2.2⟩ H _ ls (zmK hx_18.1 (by decide) n13 (by decide) hk22_8)  hP hD hS (lv_sub hl [0, 1, 2] rfl)
          · skip
            have c19 : ¬ x_14.toInt = 0 := zne cb9 rfl (by decide)
            refine lv_iload_n hx hb dX5_honestInAll_41 rfl (lv_at hl 1 rfl) ?_
            refine lv_iload_n hx hb dX5_honestInAll_42 rfl (lv_at hl 2 rfl) ?_
            refine lv_iand hx hb dX5_honestInAll_43 ?_
            refine zg (fun x_20 => ?_)
            refine lv_istore_n (lv' := [(1, .int x_20), (0, .ref ro), (2, .int x_5)]) hx hb dX5_honestInAll_44 rfl hl (by decide) rfl (fun ls hl => ?_)
            refine ziinc3 (n' := 1) (a' := 1) (b' := 256) (lv' := fun v9 => [(2, .int v9), (1, .int x_20), (0, .ref ro)]) hx hb dX5_honestInAll_45 hl (k := 2) rfl (by decide) (fun _ => rfl) (zaddK (i := x_5.toInt) (j := 1) rfl (by decide) i6.1 n13 (Int.le_refl _) (Int.le_refl _) (by decide)) (fun x_21 ls hx_21 hl => ?_)
            refine lv_goto (tgt := 22) hx hb dX5_honestInAll_48 (by decide) ?_
            have hl := lv_sub (l' := [(0, .ref ro), (1, .int x_20), (2, .int x_21)]) hl [2, 1, 0] rfl
            have hP : va_P g.1 vwCl (List.flatten [bRi g ro rw ri rt rb]) H := hP
            have hD : va_D A (List.flatten [bRi g ro rw ri rt rb]) := hD
            exact ih22_8 x_20 x_21 ⟨(Int.le_trans (by decide) hx_21.2.1), hx_21.2.2⟩ H _ ls (zmK hx_21.1 (by decide) n13 (by decide) hk22_8)  hP hD hS (lv_sub hl [0, 1, 2] rfl)
    have hP : va_P g.1 vwCl (List.flatten [bRi g ro rw ri rt rb]) s.heap := hP
    have hD : va_D A (List.flatten [bRi g ro rw ri rt rb]) := hD
    exact LP22_7 _ x_3 0 (by decide) s.heap _ ls (Nat.lt_succ_self _)  hP hD hS (lv_sub hl [0, 1, 2] rfl)
  · skip
    have c22 : rt.toInt = 0 := zeq cb9 rfl (by decide)
    have n23 : 0 ≤ rt.toInt := Int.le_trans (Int.le_refl _) (Int.le_of_eq c22.symm)
    have n24 : rt.toInt ≤ 0 := Int.le_trans (Int.le_of_eq c22) (Int.le_refl _)
    refine lv_iconst (v := 0) hx hb dX5_honestInAll_7 (by decide) ?_
    refine lv_goto (tgt := 19) hx hb dX5_honestInAll_8 (by decide) ?_
    refine lv_istore_n (lv' := [(1, .int 0), (0, .ref ro)]) hx hb dX5_honestInAll_19 rfl hl (by decide) rfl (fun ls hl => ?_)
    refine lv_iconst (v := 0) hx hb dX5_honestInAll_20 (by decide) ?_
    refine lv_istore_n (lv' := [(2, .int 0), (1, .int 0), (0, .ref ro)]) hx hb dX5_honestInAll_21 rfl hl (by decide) rfl (fun ls hl => ?_)
    have hl := lv_sub (l' := [(0, .ref ro), (1, .int 0), (2, .int 0)]) hl [2, 1, 0] rfl
    have LP22_28 : ∀ (kf : Nat) (x_25 : Int32) (x_26 : Int32), (0 ≤ x_26.toInt ∧ x_26.toInt ≤ 256) → ∀ (H : Heap) (locs : List Loc) (ls : Array Slot), ((257 - x_26.toInt).toNat) < kf → va_P g.1 vwCl (List.flatten [bRi g ro rw ri rt rb]) H → va_D A (List.flatten [bRi g ro rw ri rt rb]) → va_S A s.heap H locs → lv_has ls 3 [(0, .ref ro), (1, .int x_25), (2, .int x_26)] → W p l e ({ frames := 0, cells := 0, slots := 0, locals := 0 } : Room) s m args below meth c H locs (0) (0) (zF g (fun (q : Int32) => some (.int q)) (fun (q : Int32) => True) (fun (q : Int32) => [bRi g ro rw ri rt rb]) ({ frames := 0, cells := 0, slots := 0, locals := 0 } : Room) below args s A) (F0 m 22 ls []) := by
      intro kf
      induction kf with
      | zero => intro x_25 x_26 i27 H locs ls hk; exact absurd hk (Nat.not_lt_zero _)
      | succ kf ih22_29 =>
        intro x_25 x_26 i27 H locs ls hk22_29 hP hD hS hl
        refine lv_iload_n hx hb dX5_honestInAll_22 rfl (lv_at hl 2 rfl) ?_
        refine lv_iconst (v := 1) hx hb dX5_honestInAll_23 (by decide) ?_
        refine lv_aload_n hx hb dX5_honestInAll_24 rfl (lv_at hl 0 rfl) ?_
        refine va_get (D := g.1) (ci := 5) (v := .int ri) (C := RX5) (T := TX5) (N := 3) hx hb hts izRX5 hown hK hP 0 rfl rfl 1 (by decide) (hts _ k392) (fun _ h9 => h9) rfl dX5_honestInAll_25 ?_
        refine lv_ishl hx hb dX5_honestInAll_28 ?_
        refine zgb (zshl1 (j := ri.toInt) rfl 8 256 (by decide) (by decide) ⟨b_ri.1, b_ri.2⟩) (fun x_30 hx_30 => ?_)
        refine lv_icmp_ge (tgt := 51) hx hb dX5_honestInAll_29 (by decide) (fun cb9 => ?_) (fun cb9 => ?_)
        · skip
          have c31 : x_30.toInt ≤ x_26.toInt := zle cb9 rfl rfl
          have n32 : 1 ≤ x_26.toInt := Int.le_trans hx_30.1 c31
          refine lv_iload_n hx hb dX5_honestInAll_51 rfl (lv_at hl 1 rfl) ?_
          have hP : va_P g.1 vwCl (List.flatten [bRi g ro rw ri rt rb]) H := hP
          have hD : va_D A (List.flatten [bRi g ro rw ri rt rb]) := hD
          exact mret_i hx hb hr hlocks hS (Nat.le_of_ble_eq_true rfl) (Nat.le_of_ble_eq_true rfl) dX5_honestInAll_52 (x_25) rfl trivial hP hD
        · skip
          have c33 : x_26.toInt < x_30.toInt := zlti (Int32.not_le.mp cb9) rfl rfl
          have n34 : x_26.toInt ≤ 255 := zL1 (b := 256) c33 hx_30.2 (by decide)
          refine lv_aload_n hx hb dX5_honestInAll_32 rfl (lv_at hl 0 rfl) ?_
          refine va_get (D := g.1) (ci := 5) (v := .ref rw) (C := RX5) (T := TX5) (N := 3) hx hb hts izRX5 hown hK hP 0 rfl rfl 0 (by decide) (hts _ k382) (fun _ h9 => h9) rfl dX5_honestInAll_33 ?_
          refine lv_iload_n hx hb dX5_honestInAll_36 rfl (lv_at hl 2 rfl) ?_
          refine va_zald hx hb hK hP 1 1 rfl rfl (zinK (a := 0) (b := 255) i27.1 n34 (by decide)) dX5_honestInAll_37 ?_
          refine zg (fun x_35 => ?_)
          refine lv_if_eq (tgt := 45) hx hb dX5_honestInAll_38 (by decide) (fun cb9 => ?_) (fun cb9 => ?_)
          · skip
            have c36 : x_35.toInt = 0 := zeq cb9 rfl (by decide)
            have n37 : 0 ≤ x_35.toInt := Int.le_trans (Int.le_refl _) (Int.le_of_eq c36.symm)
            have n38 : x_35.toInt ≤ 0 := Int.le_trans (Int.le_of_eq c36) (Int.le_refl _)
            refine ziinc3 (n' := 1) (a' := 1) (b' := 256) (lv' := fun v9 => [(2, .int v9), (0, .ref ro), (1, .int x_25)]) hx hb dX5_honestInAll_45 hl (k := 2) rfl (by decide) (fun _ => rfl) (zaddK (i := x_26.toInt) (j := 1) rfl (by decide) i27.1 n34 (Int.le_refl _) (Int.le_refl _) (by decide)) (fun x_39 ls hx_39 hl => ?_)
            refine lv_goto (tgt := 22) hx hb dX5_honestInAll_48 (by decide) ?_
            have hl := lv_sub (l' := [(0, .ref ro), (1, .int x_25), (2, .int x_39)]) hl [1, 2, 0] rfl
            have hP : va_P g.1 vwCl (List.flatten [bRi g ro rw ri rt rb]) H := hP
            have hD : va_D A (List.flatten [bRi g ro rw ri rt rb]) := hD
            exact ih22_29 x_25 x_39 ⟨(Int.le_trans (by decide) hx_39.2.1), hx_39.2.2⟩ H _ ls (zmK hx_39.1 (by decide) n34 (by decide) hk22_29)  hP hD hS (lv_sub hl [0, 1, 2] rfl)
          · skip
            have c40 : ¬ x_35.toInt = 0 := zne cb9 rfl (by decide)
            refine lv_iload_n hx hb dX5_honestInAll_41 rfl (lv_at hl 1 rfl) ?_
            refine lv_iload_n hx hb dX5_honestInAll_42 rfl (lv_at hl 2 rfl) ?_
            refine lv_iand hx hb dX5_honestInAll_43 ?_
            refine zg (fun x_41 => ?_)
            refine lv_istore_n (lv' := [(1, .int x_41), (0, .ref ro), (2, .int x_26)]) hx hb dX5_honestInAll_44 rfl hl (by decide) rfl (fun ls hl => ?_)
            refine ziinc3 (n' := 1) (a' := 1) (b' := 256) (lv' := fun v9 => [(2, .int v9), (1, .int x_41), (0, .ref ro)]) hx hb dX5_honestInAll_45 hl (k := 2) rfl (by decide) (fun _ => rfl) (zaddK (i := x_26.toInt) (j := 1) rfl (by decide) i27.1 n34 (Int.le_refl _) (Int.le_refl _) (by decide)) (fun x_42 ls hx_42 hl => ?_)
            refine lv_goto (tgt := 22) hx hb dX5_honestInAll_48 (by decide) ?_
            have hl := lv_sub (l' := [(0, .ref ro), (1, .int x_41), (2, .int x_42)]) hl [2, 1, 0] rfl
            have hP : va_P g.1 vwCl (List.flatten [bRi g ro rw ri rt rb]) H := hP
            have hD : va_D A (List.flatten [bRi g ro rw ri rt rb]) := hD
            exact ih22_29 x_41 x_42 ⟨(Int.le_trans (by decide) hx_42.2.1), hx_42.2.2⟩ H _ ls (zmK hx_42.1 (by decide) n34 (by decide) hk22_29)  hP hD hS (lv_sub hl [0, 1, 2] rfl)
    have hP : va_P g.1 vwCl (List.flatten [bRi g ro rw ri rt rb]) s.heap := hP
    have hD : va_D A (List.flatten [bRi g ro rw ri rt rb]) := hD
    exact LP22_28 _ 0 0 (by decide) s.heap _ ls (Nat.lt_succ_self _)  hP hD hS (lv_sub hl [0, 1, 2] rfl)
set_option maxRecDepth 100000 in
set_option maxHeartbeats 4000000 in
theorem c_r_greaterPart (l : Launch) (g : zG) (ro : Nat) (rw : Nat) (ri : Int32) (rt : Int32) (rb : Nat → Int32) (x1 : Int32) (x2 : Int32) (b_ri : 0 ≤ ri.toInt ∧ ri.toInt ≤ 8) : zM' g l yX5_greaterPart (Cond.code yX5_greaterPart cX5_greaterPart 5 (some .int) :: zB) ({ frames := 1, cells := 0, slots := 0, locals := 23 } : Room) [.ref ro, .int x1, .int x2] [bRi g ro rw ri rt rb] (fun (q : Int32) => some (.int q)) (fun (q : Int32) => True) (fun (q : Int32) => [bRi g ro rw ri rt rb]) := by
  refine zM'.of (cc := cX5_greaterPart) (maxL := 5) (rt := (some .int)) (by decide) rfl (Nat.le_of_ble_eq_true rfl) ?_
  intro p e s m args below meth c A ls St hr hlocks hin hK hT hA hP hD hS hl
  obtain ⟨hx, hb, hml, hown, hts⟩ := id St
  have hl : lv_has ls 5 [(0, .ref ro), (1, .int x1), (2, .int x2)] := hl
  refine lv_iconst (v := 0) hx hb dX5_greaterPart_0 (by decide) ?_
  refine lv_istore_n (lv' := [(3, .int 0), (0, .ref ro), (1, .int x1), (2, .int x2)]) hx hb dX5_greaterPart_1 rfl hl (by decide) rfl (fun ls hl => ?_)
  refine lv_iconst (v := 0) hx hb dX5_greaterPart_2 (by decide) ?_
  refine lv_istore (lv' := [(4, .int 0), (3, .int 0), (0, .ref ro), (1, .int x1), (2, .int x2)]) hx hb dX5_greaterPart_3 hl (by decide) rfl (fun ls hl => ?_)
  have hl := lv_sub (l' := [(0, .ref ro), (1, .int x1), (2, .int x2), (3, .int 0), (4, .int 0)]) hl [2, 3, 4, 1, 0] rfl
  have LP5_4 : ∀ (kf : Nat) (x_1 : Int32) (x_2 : Int32), (0 ≤ x_2.toInt ∧ x_2.toInt ≤ 256) → ∀ (H : Heap) (locs : List Loc) (ls : Array Slot), ((257 - x_2.toInt).toNat) < kf → va_P g.1 vwCl (List.flatten [bRi g ro rw ri rt rb]) H → va_D A (List.flatten [bRi g ro rw ri rt rb]) → va_S A s.heap H locs → lv_has ls 5 [(0, .ref ro), (1, .int x1), (2, .int x2), (3, .int x_1), (4, .int x_2)] → W p l e ({ frames := 1, cells := 0, slots := 0, locals := 23 } : Room) s m args below meth c H locs (0) (0) (zF g (fun (q : Int32) => some (.int q)) (fun (q : Int32) => True) (fun (q : Int32) => [bRi g ro rw ri rt rb]) ({ frames := 1, cells := 0, slots := 0, locals := 23 } : Room) below args s A) (F0 m 5 ls []) := by
    intro kf
    induction kf with
    | zero => intro x_1 x_2 i3 H locs ls hk; exact absurd hk (Nat.not_lt_zero _)
    | succ kf ih5_5 =>
      intro x_1 x_2 i3 H locs ls hk5_5 hP hD hS hl
      refine lv_iload hx hb dX5_greaterPart_5 (lv_at hl 4 rfl) ?_
      refine lv_iconst (v := 1) hx hb dX5_greaterPart_7 (by decide) ?_
      refine lv_aload_n hx hb dX5_greaterPart_8 rfl (lv_at hl 0 rfl) ?_
      refine va_get (D := g.1) (ci := 5) (v := .int ri) (C := RX5) (T := TX5) (N := 3) hx hb hts izRX5 hown hK hP 0 rfl rfl 1 (by decide) (hts _ k392) (fun _ h9 => h9) rfl dX5_greaterPart_9 ?_
      refine lv_ishl hx hb dX5_greaterPart_12 ?_
      refine zgb (zshl1 (j := ri.toInt) rfl 8 256 (by decide) (by decide) ⟨b_ri.1, b_ri.2⟩) (fun x_6 hx_6 => ?_)
      refine lv_icmp_ge (tgt := 46) hx hb dX5_greaterPart_13 (by decide) (fun cb9 => ?_) (fun cb9 => ?_)
      · skip
        have c7 : x_6.toInt ≤ x_2.toInt := zle cb9 rfl rfl
        have n8 : 1 ≤ x_2.toInt := Int.le_trans hx_6.1 c7
        refine lv_iload_n hx hb dX5_greaterPart_46 rfl (lv_at hl 3 rfl) ?_
        refine lv_aload_n hx hb dX5_greaterPart_47 rfl (lv_at hl 0 rfl) ?_
        refine va_get (D := g.1) (ci := 5) (v := .int rt) (C := RX5) (T := TX5) (N := 3) hx hb hts izRX5 hown hK hP 0 rfl rfl 2 (by decide) (hts _ k393) (fun _ h9 => h9) rfl dX5_greaterPart_48 ?_
        refine lv_iload_n hx hb dX5_greaterPart_51 rfl (lv_at hl 3 rfl) ?_
        refine lv_isub hx hb dX5_greaterPart_52 ?_
        refine zg (fun x_9 => ?_)
        refine va_mmax hx hb (by rw [hml]; exact hl.1.symm) hown (hts _ k399) (hts _ k45) (hts _ k42) (hts _ k46) (Nat.le_of_ble_eq_true rfl) (Nat.le_of_ble_eq_true rfl) (Nat.le_of_ble_eq_true rfl) (Nat.le_of_ble_eq_true rfl) dX5_greaterPart_53 ?_
        refine zgmx (i := x_1.toInt) (j := x_9.toInt) rfl rfl (fun x_10 hx_10 => ?_)
        have hP : va_P g.1 vwCl (List.flatten [bRi g ro rw ri rt rb]) H := hP
        have hD : va_D A (List.flatten [bRi g ro rw ri rt rb]) := hD
        exact mret_i hx hb hr hlocks hS (Nat.le_of_ble_eq_true rfl) (Nat.le_of_ble_eq_true rfl) dX5_greaterPart_56 (x_10) rfl trivial hP hD
      · skip
        have c11 : x_2.toInt < x_6.toInt := zlti (Int32.not_le.mp cb9) rfl rfl
        have n12 : x_2.toInt ≤ 255 := zL1 (b := 256) c11 hx_6.2 (by decide)
        refine lv_aload_n hx hb dX5_greaterPart_16 rfl (lv_at hl 0 rfl) ?_
        refine va_get (D := g.1) (ci := 5) (v := .ref rw) (C := RX5) (T := TX5) (N := 3) hx hb hts izRX5 hown hK hP 0 rfl rfl 0 (by decide) (hts _ k382) (fun _ h9 => h9) rfl dX5_greaterPart_17 ?_
        refine lv_iload hx hb dX5_greaterPart_20 (lv_at hl 4 rfl) ?_
        refine va_zald hx hb hK hP 1 1 rfl rfl (zinK (a := 0) (b := 255) i3.1 n12 (by decide)) dX5_greaterPart_22 ?_
        refine zg (fun x_13 => ?_)
        refine lv_if_eq (tgt := 40) hx hb dX5_greaterPart_23 (by decide) (fun cb9 => ?_) (fun cb9 => ?_)
        · skip
          have c14 : x_13.toInt = 0 := zeq cb9 rfl (by decide)
          have n15 : 0 ≤ x_13.toInt := Int.le_trans (Int.le_refl _) (Int.le_of_eq c14.symm)
          have n16 : x_13.toInt ≤ 0 := Int.le_trans (Int.le_of_eq c14) (Int.le_refl _)
          refine ziinc3 (n' := 1) (a' := 1) (b' := 256) (lv' := fun v9 => [(4, .int v9), (0, .ref ro), (1, .int x1), (2, .int x2), (3, .int x_1)]) hx hb dX5_greaterPart_40 hl (k := 4) rfl (by decide) (fun _ => rfl) (zaddK (i := x_2.toInt) (j := 1) rfl (by decide) i3.1 n12 (Int.le_refl _) (Int.le_refl _) (by decide)) (fun x_17 ls hx_17 hl => ?_)
          refine lv_goto (tgt := 5) hx hb dX5_greaterPart_43 (by decide) ?_
          have hl := lv_sub (l' := [(0, .ref ro), (1, .int x1), (2, .int x2), (3, .int x_1), (4, .int x_17)]) hl [1, 2, 3, 4, 0] rfl
          have hP : va_P g.1 vwCl (List.flatten [bRi g ro rw ri rt rb]) H := hP
          have hD : va_D A (List.flatten [bRi g ro rw ri rt rb]) := hD
          exact ih5_5 x_1 x_17 ⟨(Int.le_trans (by decide) hx_17.2.1), hx_17.2.2⟩ H _ ls (zmK hx_17.1 (by decide) n12 (by decide) hk5_5)  hP hD hS (lv_sub hl [0, 1, 2, 3, 4] rfl)
        · skip
          have c18 : ¬ x_13.toInt = 0 := zne cb9 rfl (by decide)
          refine lv_aload_n hx hb dX5_greaterPart_26 rfl (lv_at hl 0 rfl) ?_
          refine lv_iload hx hb dX5_greaterPart_27 (lv_at hl 4 rfl) ?_
          refine lv_iload_n hx hb dX5_greaterPart_29 rfl (lv_at hl 1 rfl) ?_
          refine lv_iload_n hx hb dX5_greaterPart_30 rfl (lv_at hl 2 rfl) ?_
          refine mcallV' (g := g) (q0 := 0) (ci := 5) (As := [.int x_2, .int x1, .int x2]) (rest := []) St hK hT hA hP hD hS hl.1 [0] [] rfl rfl rfl (c_r_answers l g ro rw ri rt rb x_2 x1 x2 ) (cwV 3 hts (zgL (zl4 k386 k387 k388 k389) k383) rfl rfl rfl (by decide +kernel) ⟨Nat.le_of_ble_eq_true rfl, Nat.le_of_ble_eq_true rfl⟩) rfl rfl rfl rfl (Nat.le_of_ble_eq_true rfl) dX5_greaterPart_31 ⟨(Nat.le_of_ble_eq_true rfl), (Nat.le_of_ble_eq_true rfl)⟩ (fun q_19 H locs hq20 hP hD hS => ?_)
          replace hq20 : (q_19 = 0 ∨ q_19 = 1) := hq20
          have hP : va_P g.1 vwCl (List.flatten [bRi g ro rw ri rt rb]) H := hP
          have hD : va_D A (List.flatten [bRi g ro rw ri rt rb]) := hD
          refine W.widen (k := 0) (n := 0) (Nat.le_of_ble_eq_true rfl) (Nat.le_of_ble_eq_true rfl) ?_
          refine W.eq (g2 := F0 m 34 ls [.int q_19]) rfl ?_
          rcases hq20 with rfl | rfl
          · skip
            refine lv_if_eq (tgt := 40) hx hb dX5_greaterPart_34 (by decide) (fun _ => ?_) (fun c21 => absurd (by decide) c21)
            refine ziinc3 (n' := 1) (a' := 1) (b' := 256) (lv' := fun v9 => [(4, .int v9), (0, .ref ro), (1, .int x1), (2, .int x2), (3, .int x_1)]) hx hb dX5_greaterPart_40 hl (k := 4) rfl (by decide) (fun _ => rfl) (zaddK (i := x_2.toInt) (j := 1) rfl (by decide) i3.1 n12 (Int.le_refl _) (Int.le_refl _) (by decide)) (fun x_22 ls hx_22 hl => ?_)
            refine lv_goto (tgt := 5) hx hb dX5_greaterPart_43 (by decide) ?_
            have hl := lv_sub (l' := [(0, .ref ro), (1, .int x1), (2, .int x2), (3, .int x_1), (4, .int x_22)]) hl [1, 2, 3, 4, 0] rfl
            have hP : va_P g.1 vwCl (List.flatten [bRi g ro rw ri rt rb]) H := hP
            have hD : va_D A (List.flatten [bRi g ro rw ri rt rb]) := hD
            exact ih5_5 x_1 x_22 ⟨(Int.le_trans (by decide) hx_22.2.1), hx_22.2.2⟩ H _ ls (zmK hx_22.1 (by decide) n12 (by decide) hk5_5)  hP hD hS (lv_sub hl [0, 1, 2, 3, 4] rfl)
          · skip
            refine lv_if_eq (tgt := 40) hx hb dX5_greaterPart_34 (by decide) (fun c23 => absurd c23 (by decide)) (fun _ => ?_)
            refine ziincG (lv' := fun v9 => [(3, .int v9), (0, .ref ro), (1, .int x1), (2, .int x2), (4, .int x_2)]) hx hb dX5_greaterPart_37 hl (k := 3) rfl (by decide) (fun _ => rfl) (fun x_24 ls hl => ?_)
            refine ziinc3 (n' := 1) (a' := 1) (b' := 256) (lv' := fun v9 => [(4, .int v9), (3, .int x_24), (0, .ref ro), (1, .int x1), (2, .int x2)]) hx hb dX5_greaterPart_40 hl (k := 4) rfl (by decide) (fun _ => rfl) (zaddK (i := x_2.toInt) (j := 1) rfl (by decide) i3.1 n12 (Int.le_refl _) (Int.le_refl _) (by decide)) (fun x_25 ls hx_25 hl => ?_)
            refine lv_goto (tgt := 5) hx hb dX5_greaterPart_43 (by decide) ?_
            have hl := lv_sub (l' := [(0, .ref ro), (1, .int x1), (2, .int x2), (3, .int x_24), (4, .int x_25)]) hl [2, 3, 4, 1, 0] rfl
            have hP : va_P g.1 vwCl (List.flatten [bRi g ro rw ri rt rb]) H := hP
            have hD : va_D A (List.flatten [bRi g ro rw ri rt rb]) := hD
            exact ih5_5 x_24 x_25 ⟨(Int.le_trans (by decide) hx_25.2.1), hx_25.2.2⟩ H _ ls (zmK hx_25.1 (by decide) n12 (by decide) hk5_5)  hP hD hS (lv_sub hl [0, 1, 2, 3, 4] rfl)
  have hP : va_P g.1 vwCl (List.flatten [bRi g ro rw ri rt rb]) s.heap := hP
  have hD : va_D A (List.flatten [bRi g ro rw ri rt rb]) := hD
  exact LP5_4 _ 0 0 (by decide) s.heap _ ls (Nat.lt_succ_self _)  hP hD hS (lv_sub hl [0, 1, 2, 3, 4] rfl)
set_option maxRecDepth 100000 in
set_option maxHeartbeats 4000000 in
theorem c_r_bestQuestion (l : Launch) (g : zG) (ro : Nat) (rw : Nat) (ri : Int32) (rt : Int32) (rb : Nat → Int32) (b_ri : 0 ≤ ri.toInt ∧ ri.toInt ≤ 8) : zM' g l yX5_bestQuestion (Cond.code yX5_bestQuestion cX5_bestQuestion 6 (some .int) :: zB) ({ frames := 2, cells := 0, slots := 0, locals := 47 } : Room) [.ref ro] [bRi g ro rw ri rt rb] (fun (q : Int32) => some (.int q)) (fun (q : Int32) => True) (fun (q : Int32) => [bRi g ro rw ri rt rb]) := by
  refine zM'.of (cc := cX5_bestQuestion) (maxL := 6) (rt := (some .int)) (by decide) rfl (Nat.le_of_ble_eq_true rfl) ?_
  intro p e s m args below meth c A ls St hr hlocks hin hK hT hA hP hD hS hl
  obtain ⟨hx, hb, hml, hown, hts⟩ := id St
  have hl : lv_has ls 6 [(0, .ref ro)] := hl
  refine lv_iconst (v := (-1)) hx hb dX5_bestQuestion_0 (by decide) ?_
  refine lv_istore_n (lv' := [(1, .int (-1)), (0, .ref ro)]) hx hb dX5_bestQuestion_1 rfl hl (by decide) rfl (fun ls hl => ?_)
  refine lv_iconst (v := 0) hx hb dX5_bestQuestion_2 (by decide) ?_
  refine lv_istore_n (lv' := [(2, .int 0), (1, .int (-1)), (0, .ref ro)]) hx hb dX5_bestQuestion_3 rfl hl (by decide) rfl (fun ls hl => ?_)
  refine lv_iconst (v := 0) hx hb dX5_bestQuestion_4 (by decide) ?_
  refine lv_istore_n (lv' := [(3, .int 0), (2, .int 0), (1, .int (-1)), (0, .ref ro)]) hx hb dX5_bestQuestion_5 rfl hl (by decide) rfl (fun ls hl => ?_)
  have hl := lv_sub (l' := [(0, .ref ro), (1, .int (-1)), (2, .int 0), (3, .int 0)]) hl [3, 2, 1, 0] rfl
  have LP6_6 : ∀ (kf : Nat) (x_1 : Int32) (x_2 : Int32) (x_3 : Int32), ((-1) ≤ x_1.toInt ∧ x_1.toInt ≤ 77) → (0 ≤ x_3.toInt ∧ x_3.toInt ≤ 8) → ∀ (H : Heap) (locs : List Loc) (ls : Array Slot), ((9 - x_3.toInt).toNat) < kf → va_P g.1 vwCl (List.flatten [bRi g ro rw ri rt rb]) H → va_D A (List.flatten [bRi g ro rw ri rt rb]) → va_S A s.heap H locs → lv_has ls 6 [(0, .ref ro), (1, .int x_1), (2, .int x_2), (3, .int x_3)] → W p l e ({ frames := 2, cells := 0, slots := 0, locals := 47 } : Room) s m args below meth c H locs (0) (0) (zF g (fun (q : Int32) => some (.int q)) (fun (q : Int32) => True) (fun (q : Int32) => [bRi g ro rw ri rt rb]) ({ frames := 2, cells := 0, slots := 0, locals := 47 } : Room) below args s A) (F0 m 6 ls []) := by
    intro kf
    induction kf with
    | zero => intro x_1 x_2 x_3 i4 i5 H locs ls hk; exact absurd hk (Nat.not_lt_zero _)
    | succ kf ih6_7 =>
      intro x_1 x_2 x_3 i4 i5 H locs ls hk6_7 hP hD hS hl
      refine lv_iload_n hx hb dX5_bestQuestion_6 rfl (lv_at hl 3 rfl) ?_
      refine lv_aload_n hx hb dX5_bestQuestion_7 rfl (lv_at hl 0 rfl) ?_
      refine va_get (D := g.1) (ci := 5) (v := .int ri) (C := RX5) (T := TX5) (N := 3) hx hb hts izRX5 hown hK hP 0 rfl rfl 1 (by decide) (hts _ k392) (fun _ h9 => h9) rfl dX5_bestQuestion_8 ?_
      refine lv_icmp_ge (tgt := 83) hx hb dX5_bestQuestion_11 (by decide) (fun cb9 => ?_) (fun cb9 => ?_)
      · skip
        have c8 : ri.toInt ≤ x_3.toInt := zle cb9 rfl rfl
        refine lv_iload_n hx hb dX5_bestQuestion_83 rfl (lv_at hl 1 rfl) ?_
        have hP : va_P g.1 vwCl (List.flatten [bRi g ro rw ri rt rb]) H := hP
        have hD : va_D A (List.flatten [bRi g ro rw ri rt rb]) := hD
        exact mret_i hx hb hr hlocks hS (Nat.le_of_ble_eq_true rfl) (Nat.le_of_ble_eq_true rfl) dX5_bestQuestion_84 (x_1) rfl trivial hP hD
      · skip
        have c9 : x_3.toInt < ri.toInt := zlti (Int32.not_le.mp cb9) rfl rfl
        have n10 : x_3.toInt ≤ 7 := zL1 (b := 8) c9 b_ri.2 (by decide)
        have n11 : 1 ≤ ri.toInt := zL2 (a := 0) c9 i5.1 (by decide)
        refine lv_aload_n hx hb dX5_bestQuestion_14 rfl (lv_at hl 0 rfl) ?_
        refine va_get (D := g.1) (ci := 5) (v := .int rt) (C := RX5) (T := TX5) (N := 3) hx hb hts izRX5 hown hK hP 0 rfl rfl 2 (by decide) (hts _ k393) (fun _ h9 => h9) rfl dX5_bestQuestion_15 ?_
        refine lv_iconst (v := 2) hx hb dX5_bestQuestion_18 (by decide) ?_
        refine lv_icmp_lt (tgt := 83) hx hb dX5_bestQuestion_19 (by decide) (fun cb9 => ?_) (fun cb9 => ?_)
        · skip
          have c12 : rt.toInt < 2 := zlti cb9 rfl (by decide)
          have n13 : rt.toInt ≤ 1 := zL1 (b := 2) c12 (Int.le_refl _) (by decide)
          refine lv_iload_n hx hb dX5_bestQuestion_83 rfl (lv_at hl 1 rfl) ?_
          have hP : va_P g.1 vwCl (List.flatten [bRi g ro rw ri rt rb]) H := hP
          have hD : va_D A (List.flatten [bRi g ro rw ri rt rb]) := hD
          exact mret_i hx hb hr hlocks hS (Nat.le_of_ble_eq_true rfl) (Nat.le_of_ble_eq_true rfl) dX5_bestQuestion_84 (x_1) rfl trivial hP hD
        · skip
          have c14 : 2 ≤ rt.toInt := zle (Int32.not_lt.mp cb9) (by decide) rfl
          have n15 : 2 ≤ rt.toInt := Int.le_trans (Int.le_refl _) c14
          refine lv_iconst (v := 0) hx hb dX5_bestQuestion_22 (by decide) ?_
          refine lv_istore (lv' := [(4, .int 0), (0, .ref ro), (1, .int x_1), (2, .int x_2), (3, .int x_3)]) hx hb dX5_bestQuestion_23 hl (by decide) rfl (fun ls hl => ?_)
          have hl := lv_sub (l' := [(0, .ref ro), (1, .int x_1), (2, .int x_2), (3, .int x_3), (4, .int 0)]) hl [1, 2, 3, 4, 0] rfl
          have LP25_21 : ∀ (kf : Nat) (x_16 : Int32) (x_17 : Int32) (x_18 : Int32), ((-1) ≤ x_16.toInt ∧ x_16.toInt ≤ 77) → (0 ≤ x_18.toInt ∧ x_18.toInt ≤ 8) → ∀ (H : Heap) (locs : List Loc) (ls : Array Slot), ((9 - x_18.toInt).toNat) < kf → va_P g.1 vwCl (List.flatten [bRi g ro rw ri rt rb]) H → va_D A (List.flatten [bRi g ro rw ri rt rb]) → va_S A s.heap H locs → lv_has ls 6 [(0, .ref ro), (1, .int x_16), (2, .int x_17), (3, .int x_3), (4, .int x_18)] → W p l e ({ frames := 2, cells := 0, slots := 0, locals := 47 } : Room) s m args below meth c H locs (0) (0) (zF g (fun (q : Int32) => some (.int q)) (fun (q : Int32) => True) (fun (q : Int32) => [bRi g ro rw ri rt rb]) ({ frames := 2, cells := 0, slots := 0, locals := 47 } : Room) below args s A) (F0 m 25 ls []) := by
            intro kf
            induction kf with
            | zero => intro x_16 x_17 x_18 i19 i20 H locs ls hk; exact absurd hk (Nat.not_lt_zero _)
            | succ kf ih25_22 =>
              intro x_16 x_17 x_18 i19 i20 H locs ls hk25_22 hP hD hS hl
              refine lv_iload hx hb dX5_bestQuestion_25 (lv_at hl 4 rfl) ?_
              refine lv_aload_n hx hb dX5_bestQuestion_27 rfl (lv_at hl 0 rfl) ?_
              refine va_get (D := g.1) (ci := 5) (v := .int ri) (C := RX5) (T := TX5) (N := 3) hx hb hts izRX5 hown hK hP 0 rfl rfl 1 (by decide) (hts _ k392) (fun _ h9 => h9) rfl dX5_bestQuestion_28 ?_
              refine lv_icmp_ge (tgt := 77) hx hb dX5_bestQuestion_31 (by decide) (fun cb9 => ?_) (fun cb9 => ?_)
              · skip
                have c23 : ri.toInt ≤ x_18.toInt := zle cb9 rfl rfl
                have n24 : 1 ≤ x_18.toInt := Int.le_trans n11 c23
                refine ziinc3 (n' := 1) (a' := 1) (b' := 8) (lv' := fun v9 => [(3, .int v9), (0, .ref ro), (1, .int x_16), (2, .int x_17), (4, .int x_18)]) hx hb dX5_bestQuestion_77 hl (k := 3) rfl (by decide) (fun _ => rfl) (zaddK (i := x_3.toInt) (j := 1) rfl (by decide) i5.1 n10 (Int.le_refl _) (Int.le_refl _) (by decide)) (fun x_25 ls hx_25 hl => ?_)
                refine lv_goto (tgt := 6) hx hb dX5_bestQuestion_80 (by decide) ?_
                have hl := lv_sub (l' := [(0, .ref ro), (1, .int x_16), (2, .int x_17), (3, .int x_25), (4, .int x_18)]) hl [1, 2, 3, 0, 4] rfl
                have hP : va_P g.1 vwCl (List.flatten [bRi g ro rw ri rt rb]) H := hP
                have hD : va_D A (List.flatten [bRi g ro rw ri rt rb]) := hD
                exact ih6_7 x_16 x_17 x_25 ⟨i19.1, i19.2⟩ ⟨(Int.le_trans (by decide) hx_25.2.1), hx_25.2.2⟩ H _ ls (zmK hx_25.1 (by decide) n10 (by decide) hk6_7)  hP hD hS (lv_sub hl [0, 1, 2, 3] rfl)
              · skip
                have c26 : x_18.toInt < ri.toInt := zlti (Int32.not_le.mp cb9) rfl rfl
                have n27 : x_18.toInt ≤ 7 := zL1 (b := 8) c26 b_ri.2 (by decide)
                refine lv_aload_n hx hb dX5_bestQuestion_34 rfl (lv_at hl 0 rfl) ?_
                refine lv_iload_n hx hb dX5_bestQuestion_35 rfl (lv_at hl 3 rfl) ?_
                refine lv_iload hx hb dX5_bestQuestion_36 (lv_at hl 4 rfl) ?_
                refine mcallV' (g := g) (q0 := 0) (ci := 5) (As := [.int x_3, .int x_18]) (rest := []) St hK hT hA hP hD hS hl.1 [0] [] rfl rfl rfl (c_r_greaterPart l g ro rw ri rt rb x_3 x_18 b_ri) (cwV 2 hts (zgL (zl4 k401 k402 k403 k389) k398) rfl rfl rfl (by decide +kernel) ⟨Nat.le_of_ble_eq_true rfl, Nat.le_of_ble_eq_true rfl⟩) rfl rfl rfl rfl (Nat.le_of_ble_eq_true rfl) dX5_bestQuestion_38 ⟨(Nat.le_of_ble_eq_true rfl), (Nat.le_of_ble_eq_true rfl)⟩ (fun q_28 H locs hq29 hP hD hS => ?_)
                have hP : va_P g.1 vwCl (List.flatten [bRi g ro rw ri rt rb]) H := hP
                have hD : va_D A (List.flatten [bRi g ro rw ri rt rb]) := hD
                refine W.widen (k := 0) (n := 0) (Nat.le_of_ble_eq_true rfl) (Nat.le_of_ble_eq_true rfl) ?_
                refine W.eq (g2 := F0 m 41 ls [.int q_28]) rfl ?_
                refine lv_istore (lv' := [(5, .int q_28), (0, .ref ro), (1, .int x_16), (2, .int x_17), (3, .int x_3), (4, .int x_18)]) hx hb dX5_bestQuestion_41 hl (by decide) rfl (fun ls hl => ?_)
                refine lv_iload_n hx hb dX5_bestQuestion_43 rfl (lv_at hl 4 rfl) ?_
                refine lv_iload hx hb dX5_bestQuestion_44 (lv_at hl 5 rfl) ?_
                refine lv_icmp_eq (tgt := 71) hx hb dX5_bestQuestion_46 (by decide) (fun cb9 => ?_) (fun cb9 => ?_)
                · skip
                  have c30 : x_3.toInt = x_18.toInt := zeq cb9 rfl rfl
                  refine ziinc3 (n' := 1) (a' := 1) (b' := 8) (lv' := fun v9 => [(4, .int v9), (5, .int q_28), (0, .ref ro), (1, .int x_16), (2, .int x_17), (3, .int x_3)]) hx hb dX5_bestQuestion_71 hl (k := 5) rfl (by decide) (fun _ => rfl) (zaddK (i := x_18.toInt) (j := 1) rfl (by decide) i20.1 n27 (Int.le_refl _) (Int.le_refl _) (by decide)) (fun x_31 ls hx_31 hl => ?_)
                  refine lv_goto (tgt := 25) hx hb dX5_bestQuestion_74 (by decide) ?_
                  have hl := lv_sub (l' := [(0, .ref ro), (1, .int x_16), (2, .int x_17), (3, .int x_3), (4, .int x_31), (5, .int q_28)]) hl [2, 3, 4, 5, 0, 1] rfl
                  have hP : va_P g.1 vwCl (List.flatten [bRi g ro rw ri rt rb]) H := hP
                  have hD : va_D A (List.flatten [bRi g ro rw ri rt rb]) := hD
                  exact ih25_22 x_16 x_17 x_31 ⟨i19.1, i19.2⟩ ⟨(Int.le_trans (by decide) hx_31.2.1), hx_31.2.2⟩ H _ ls (zmK hx_31.1 (by decide) n27 (by decide) hk25_22)  hP hD hS (lv_sub hl [0, 1, 2, 3, 4] rfl)
                · skip
                  have c32 : ¬ x_3.toInt = x_18.toInt := zne cb9 rfl rfl
                  refine lv_iload_n hx hb dX5_bestQuestion_49 rfl (lv_at hl 2 rfl) ?_
                  refine lv_iconst (v := (-1)) hx hb dX5_bestQuestion_50 (by decide) ?_
                  refine lv_icmp_eq (tgt := 60) hx hb dX5_bestQuestion_51 (by decide) (fun cb9 => ?_) (fun cb9 => ?_)
                  · skip
                    have c33 : x_16.toInt = (-1) := zeq cb9 rfl (by decide)
                    have n34 : x_16.toInt ≤ (-1) := Int.le_trans (Int.le_of_eq c33) (Int.le_refl _)
                    refine lv_bipush (v := 10) hx hb dX5_bestQuestion_60 (by decide) ?_
                    refine lv_iload_n hx hb dX5_bestQuestion_62 rfl (lv_at hl 4 rfl) ?_
                    refine lv_imul hx hb dX5_bestQuestion_63 ?_
                    refine zg3 (zmulKL (i := x_3.toInt) (n := 10) (a' := 0) (b' := 70) rfl (by decide) i5.1 n10 (by decide) (by decide)) (fun x_35 hx_35 => ?_)
                    refine lv_iload hx hb dX5_bestQuestion_64 (lv_at hl 5 rfl) ?_
                    refine lv_iadd hx hb dX5_bestQuestion_66 ?_
                    refine zg3 (zaddK (i := x_35.toInt) (j := x_18.toInt) (a' := 0) (b' := 77) rfl rfl hx_35.2.1 hx_35.2.2 i20.1 n27 (by decide)) (fun x_36 hx_36 => ?_)
                    refine lv_istore_n (lv' := [(1, .int x_36), (5, .int q_28), (0, .ref ro), (2, .int x_17), (3, .int x_3), (4, .int x_18)]) hx hb dX5_bestQuestion_67 rfl hl (by decide) rfl (fun ls hl => ?_)
                    refine lv_iload hx hb dX5_bestQuestion_68 (lv_at hl 1 rfl) ?_
                    refine lv_istore_n (lv' := [(2, .int q_28), (1, .int x_36), (5, .int q_28), (0, .ref ro), (3, .int x_3), (4, .int x_18)]) hx hb dX5_bestQuestion_70 rfl hl (by decide) rfl (fun ls hl => ?_)
                    refine ziinc3 (n' := 1) (a' := 1) (b' := 8) (lv' := fun v9 => [(4, .int v9), (2, .int q_28), (1, .int x_36), (5, .int q_28), (0, .ref ro), (3, .int x_3)]) hx hb dX5_bestQuestion_71 hl (k := 5) rfl (by decide) (fun _ => rfl) (zaddK (i := x_18.toInt) (j := 1) rfl (by decide) i20.1 n27 (Int.le_refl _) (Int.le_refl _) (by decide)) (fun x_37 ls hx_37 hl => ?_)
                    refine lv_goto (tgt := 25) hx hb dX5_bestQuestion_74 (by decide) ?_
                    have hl := lv_sub (l' := [(0, .ref ro), (1, .int x_36), (2, .int q_28), (3, .int x_3), (4, .int x_37), (5, .int q_28)]) hl [4, 2, 1, 5, 0, 3] rfl
                    have hP : va_P g.1 vwCl (List.flatten [bRi g ro rw ri rt rb]) H := hP
                    have hD : va_D A (List.flatten [bRi g ro rw ri rt rb]) := hD
                    exact ih25_22 x_36 q_28 x_37 ⟨(Int.le_trans (by decide) hx_36.2.1), hx_36.2.2⟩ ⟨(Int.le_trans (by decide) hx_37.2.1), hx_37.2.2⟩ H _ ls (zmK hx_37.1 (by decide) n27 (by decide) hk25_22)  hP hD hS (lv_sub hl [0, 1, 2, 3, 4] rfl)
                  · skip
                    have c38 : ¬ x_16.toInt = (-1) := zne cb9 rfl (by decide)
                    have n39 : 0 ≤ x_16.toInt := zN1 c38 i19.1 (by decide)
                    refine lv_iload hx hb dX5_bestQuestion_54 (lv_at hl 0 rfl) ?_
                    refine lv_iload_n hx hb dX5_bestQuestion_56 rfl (lv_at hl 3 rfl) ?_
                    refine lv_icmp_ge (tgt := 71) hx hb dX5_bestQuestion_57 (by decide) (fun cb9 => ?_) (fun cb9 => ?_)
                    · skip
                      have c40 : x_17.toInt ≤ q_28.toInt := zle cb9 rfl rfl
                      refine ziinc3 (n' := 1) (a' := 1) (b' := 8) (lv' := fun v9 => [(4, .int v9), (5, .int q_28), (0, .ref ro), (1, .int x_16), (2, .int x_17), (3, .int x_3)]) hx hb dX5_bestQuestion_71 hl (k := 5) rfl (by decide) (fun _ => rfl) (zaddK (i := x_18.toInt) (j := 1) rfl (by decide) i20.1 n27 (Int.le_refl _) (Int.le_refl _) (by decide)) (fun x_41 ls hx_41 hl => ?_)
                      refine lv_goto (tgt := 25) hx hb dX5_bestQuestion_74 (by decide) ?_
                      have hl := lv_sub (l' := [(0, .ref ro), (1, .int x_16), (2, .int x_17), (3, .int x_3), (4, .int x_41), (5, .int q_28)]) hl [2, 3, 4, 5, 0, 1] rfl
                      have hP : va_P g.1 vwCl (List.flatten [bRi g ro rw ri rt rb]) H := hP
                      have hD : va_D A (List.flatten [bRi g ro rw ri rt rb]) := hD
                      exact ih25_22 x_16 x_17 x_41 ⟨(Int.le_trans (by decide) n39), i19.2⟩ ⟨(Int.le_trans (by decide) hx_41.2.1), hx_41.2.2⟩ H _ ls (zmK hx_41.1 (by decide) n27 (by decide) hk25_22)  hP hD hS (lv_sub hl [0, 1, 2, 3, 4] rfl)
                    · skip
                      have c42 : q_28.toInt < x_17.toInt := zlti (Int32.not_le.mp cb9) rfl rfl
                      refine lv_bipush (v := 10) hx hb dX5_bestQuestion_60 (by decide) ?_
                      refine lv_iload_n hx hb dX5_bestQuestion_62 rfl (lv_at hl 4 rfl) ?_
                      refine lv_imul hx hb dX5_bestQuestion_63 ?_
                      refine zg3 (zmulKL (i := x_3.toInt) (n := 10) (a' := 0) (b' := 70) rfl (by decide) i5.1 n10 (by decide) (by decide)) (fun x_43 hx_43 => ?_)
                      refine lv_iload hx hb dX5_bestQuestion_64 (lv_at hl 5 rfl) ?_
                      refine lv_iadd hx hb dX5_bestQuestion_66 ?_
                      refine zg3 (zaddK (i := x_43.toInt) (j := x_18.toInt) (a' := 0) (b' := 77) rfl rfl hx_43.2.1 hx_43.2.2 i20.1 n27 (by decide)) (fun x_44 hx_44 => ?_)
                      refine lv_istore_n (lv' := [(1, .int x_44), (5, .int q_28), (0, .ref ro), (2, .int x_17), (3, .int x_3), (4, .int x_18)]) hx hb dX5_bestQuestion_67 rfl hl (by decide) rfl (fun ls hl => ?_)
                      refine lv_iload hx hb dX5_bestQuestion_68 (lv_at hl 1 rfl) ?_
                      refine lv_istore_n (lv' := [(2, .int q_28), (1, .int x_44), (5, .int q_28), (0, .ref ro), (3, .int x_3), (4, .int x_18)]) hx hb dX5_bestQuestion_70 rfl hl (by decide) rfl (fun ls hl => ?_)
                      refine ziinc3 (n' := 1) (a' := 1) (b' := 8) (lv' := fun v9 => [(4, .int v9), (2, .int q_28), (1, .int x_44), (5, .int q_28), (0, .ref ro), (3, .int x_3)]) hx hb dX5_bestQuestion_71 hl (k := 5) rfl (by decide) (fun _ => rfl) (zaddK (i := x_18.toInt) (j := 1) rfl (by decide) i20.1 n27 (Int.le_refl _) (Int.le_refl _) (by decide)) (fun x_45 ls hx_45 hl => ?_)
                      refine lv_goto (tgt := 25) hx hb dX5_bestQuestion_74 (by decide) ?_
                      have hl := lv_sub (l' := [(0, .ref ro), (1, .int x_44), (2, .int q_28), (3, .int x_3), (4, .int x_45), (5, .int q_28)]) hl [4, 2, 1, 5, 0, 3] rfl
                      have hP : va_P g.1 vwCl (List.flatten [bRi g ro rw ri rt rb]) H := hP
                      have hD : va_D A (List.flatten [bRi g ro rw ri rt rb]) := hD
                      exact ih25_22 x_44 q_28 x_45 ⟨(Int.le_trans (by decide) hx_44.2.1), hx_44.2.2⟩ ⟨(Int.le_trans (by decide) hx_45.2.1), hx_45.2.2⟩ H _ ls (zmK hx_45.1 (by decide) n27 (by decide) hk25_22)  hP hD hS (lv_sub hl [0, 1, 2, 3, 4] rfl)
          have hP : va_P g.1 vwCl (List.flatten [bRi g ro rw ri rt rb]) H := hP
          have hD : va_D A (List.flatten [bRi g ro rw ri rt rb]) := hD
          exact LP25_21 _ x_1 x_2 0 ⟨i4.1, i4.2⟩ (by decide) H _ ls (Nat.lt_succ_self _)  hP hD hS (lv_sub hl [0, 1, 2, 3, 4] rfl)
  have hP : va_P g.1 vwCl (List.flatten [bRi g ro rw ri rt rb]) s.heap := hP
  have hD : va_D A (List.flatten [bRi g ro rw ri rt rb]) := hD
  exact LP6_6 _ (-1) 0 0 (by decide) (by decide) s.heap _ ls (Nat.lt_succ_self _)  hP hD hS (lv_sub hl [0, 1, 2, 3] rfl)
set_option maxRecDepth 100000 in
set_option maxHeartbeats 4000000 in
theorem c_r_risesBy (l : Launch) (g : zG) (x1 : Int32) (y1 : Int32)  : zM' g l yX5_risesBy (Cond.code yX5_risesBy cX5_risesBy 2 (some .int) :: zB) ({ frames := 0, cells := 0, slots := 0, locals := 0 } : Room) [.int x1, .int y1] [] (fun (q : Int32) => some (.int q)) (fun (q : Int32) => True) (fun (q : Int32) => []) := by
  refine zM'.of (cc := cX5_risesBy) (maxL := 2) (rt := (some .int)) (by decide) rfl (Nat.le_of_ble_eq_true rfl) ?_
  intro p e s m args below meth c A ls St hr hlocks hin hK hT hA hP hD hS hl
  obtain ⟨hx, hb, hml, hown, hts⟩ := id St
  have hl : lv_has ls 2 [(0, .int x1), (1, .int y1)] := hl
  refine lv_iload_n hx hb dX5_risesBy_0 rfl (lv_at hl 0 rfl) ?_
  refine lv_if_ne (tgt := 15) hx hb dX5_risesBy_1 (by decide) (fun cb9 => ?_) (fun cb9 => ?_)
  · skip
    have c1 : ¬ x1.toInt = 0 := zne cb9 rfl (by decide)
    refine lv_iload_n hx hb dX5_risesBy_15 rfl (lv_at hl 1 rfl) ?_
    refine lv_if_ne (tgt := 24) hx hb dX5_risesBy_16 (by decide) (fun cb9 => ?_) (fun cb9 => ?_)
    · skip
      have c2 : ¬ y1.toInt = 0 := zne cb9 rfl (by decide)
      refine lv_iconst (v := 0) hx hb dX5_risesBy_24 (by decide) ?_
      have hP : va_P g.1 vwCl (List.flatten []) s.heap := hP
      have hD : va_D A (List.flatten []) := hD
      exact mret_i hx hb hr hlocks hS (Nat.le_of_ble_eq_true rfl) (Nat.le_of_ble_eq_true rfl) dX5_risesBy_25 ((0 : Int32)) rfl trivial hP hD
    · skip
      have c3 : y1.toInt = 0 := zeq cb9 rfl (by decide)
      have n4 : 0 ≤ y1.toInt := Int.le_trans (Int.le_refl _) (Int.le_of_eq c3.symm)
      have n5 : y1.toInt ≤ 0 := Int.le_trans (Int.le_of_eq c3) (Int.le_refl _)
      refine lv_bipush (v := (-10)) hx hb dX5_risesBy_19 (by decide) ?_
      refine lv_goto (tgt := 25) hx hb dX5_risesBy_21 (by decide) ?_
      have hP : va_P g.1 vwCl (List.flatten []) s.heap := hP
      have hD : va_D A (List.flatten []) := hD
      exact mret_i hx hb hr hlocks hS (Nat.le_of_ble_eq_true rfl) (Nat.le_of_ble_eq_true rfl) dX5_risesBy_25 (-10) rfl trivial hP hD
  · skip
    have c6 : x1.toInt = 0 := zeq cb9 rfl (by decide)
    have n7 : 0 ≤ x1.toInt := Int.le_trans (Int.le_refl _) (Int.le_of_eq c6.symm)
    have n8 : x1.toInt ≤ 0 := Int.le_trans (Int.le_of_eq c6) (Int.le_refl _)
    refine lv_iload_n hx hb dX5_risesBy_4 rfl (lv_at hl 1 rfl) ?_
    refine lv_if_ne (tgt := 12) hx hb dX5_risesBy_5 (by decide) (fun cb9 => ?_) (fun cb9 => ?_)
    · skip
      have c9 : ¬ y1.toInt = 0 := zne cb9 rfl (by decide)
      refine lv_bipush (v := 20) hx hb dX5_risesBy_12 (by decide) ?_
      have hP : va_P g.1 vwCl (List.flatten []) s.heap := hP
      have hD : va_D A (List.flatten []) := hD
      exact mret_i hx hb hr hlocks hS (Nat.le_of_ble_eq_true rfl) (Nat.le_of_ble_eq_true rfl) dX5_risesBy_14 ((20 : Int32)) rfl trivial hP hD
    · skip
      have c10 : y1.toInt = 0 := zeq cb9 rfl (by decide)
      have n11 : 0 ≤ y1.toInt := Int.le_trans (Int.le_refl _) (Int.le_of_eq c10.symm)
      have n12 : y1.toInt ≤ 0 := Int.le_trans (Int.le_of_eq c10) (Int.le_refl _)
      refine lv_iconst (v := 5) hx hb dX5_risesBy_8 (by decide) ?_
      refine lv_goto (tgt := 14) hx hb dX5_risesBy_9 (by decide) ?_
      have hP : va_P g.1 vwCl (List.flatten []) s.heap := hP
      have hD : va_D A (List.flatten []) := hD
      exact mret_i hx hb hr hlocks hS (Nat.le_of_ble_eq_true rfl) (Nat.le_of_ble_eq_true rfl) dX5_risesBy_14 ((5 : Int32)) rfl trivial hP hD
set_option maxRecDepth 100000 in
set_option maxHeartbeats 4000000 in
theorem c_r_tellerHas (l : Launch) (g : zG) (x1 : Int32) (y1 : Int32)  : zM' g l yX5_tellerHas (Cond.code yX5_tellerHas cX5_tellerHas 2 (some .int) :: zB) ({ frames := 1, cells := 0, slots := 0, locals := 21 } : Room) [.int x1, .int y1] [] (fun (q : Int32) => some (.int q)) (fun (q : Int32) => True) (fun (q : Int32) => []) := by
  refine zM'.of (cc := cX5_tellerHas) (maxL := 2) (rt := (some .int)) (by decide) rfl (Nat.le_of_ble_eq_true rfl) ?_
  intro p e s m args below meth c A ls St hr hlocks hin hK hT hA hP hD hS hl
  obtain ⟨hx, hb, hml, hown, hts⟩ := id St
  have hl : lv_has ls 2 [(0, .int x1), (1, .int y1)] := hl
  refine lv_iload_n hx hb dX5_tellerHas_0 rfl (lv_at hl 0 rfl) ?_
  refine lv_iload_n hx hb dX5_tellerHas_1 rfl (lv_at hl 1 rfl) ?_
  refine mcallS' (g := g) (As := [.int x1, .int y1]) (rest := []) St hK hT hA hP hD hS hl.1 [] [] rfl rfl rfl (c_r_risesBy l g x1 y1 ) (va_cwS 2 hts (zgL (zl3 k412 k413 k389) k410) rfl rfl rfl (by decide +kernel) ⟨Nat.le_of_ble_eq_true rfl, Nat.le_of_ble_eq_true rfl⟩) rfl rfl (Nat.le_of_ble_eq_true rfl) dX5_tellerHas_2 ⟨(Nat.le_of_ble_eq_true rfl), (Nat.le_of_ble_eq_true rfl)⟩ (fun q_1 H locs hq2 hP hD hS => ?_)
  have hP : va_P g.1 vwCl (List.flatten []) H := hP
  have hD : va_D A (List.flatten []) := hD
  refine W.widen (k := 0) (n := 0) (Nat.le_of_ble_eq_true rfl) (Nat.le_of_ble_eq_true rfl) ?_
  refine W.eq (g2 := F0 m 5 ls [.int q_1]) rfl ?_
  refine lv_iload_n hx hb dX5_tellerHas_5 rfl (lv_at hl 0 rfl) ?_
  refine lv_if_ne (tgt := 13) hx hb dX5_tellerHas_6 (by decide) (fun cb9 => ?_) (fun cb9 => ?_)
  · skip
    have c3 : ¬ x1.toInt = 0 := zne cb9 rfl (by decide)
    refine lv_iconst (v := 0) hx hb dX5_tellerHas_13 (by decide) ?_
    refine lv_isub hx hb dX5_tellerHas_14 ?_
    refine zg (fun x_4 => ?_)
    have hP : va_P g.1 vwCl (List.flatten []) H := hP
    have hD : va_D A (List.flatten []) := hD
    exact mret_i hx hb hr hlocks hS (Nat.le_of_ble_eq_true rfl) (Nat.le_of_ble_eq_true rfl) dX5_tellerHas_15 (x_4) rfl trivial hP hD
  · skip
    have c5 : x1.toInt = 0 := zeq cb9 rfl (by decide)
    have n6 : 0 ≤ x1.toInt := Int.le_trans (Int.le_refl _) (Int.le_of_eq c5.symm)
    have n7 : x1.toInt ≤ 0 := Int.le_trans (Int.le_of_eq c5) (Int.le_refl _)
    refine lv_iconst (v := 4) hx hb dX5_tellerHas_9 (by decide) ?_
    refine lv_goto (tgt := 14) hx hb dX5_tellerHas_10 (by decide) ?_
    refine lv_isub hx hb dX5_tellerHas_14 ?_
    refine zg (fun x_8 => ?_)
    have hP : va_P g.1 vwCl (List.flatten []) H := hP
    have hD : va_D A (List.flatten []) := hD
    exact mret_i hx hb hr hlocks hS (Nat.le_of_ble_eq_true rfl) (Nat.le_of_ble_eq_true rfl) dX5_tellerHas_15 (x_8) rfl trivial hP hD
set_option maxRecDepth 100000 in
set_option maxHeartbeats 4000000 in
theorem c_r_dryManHas (l : Launch) (g : zG) (x1 : Int32) (y1 : Int32) (z1 : Int32)  : zM' g l yX5_dryManHas (Cond.code yX5_dryManHas cX5_dryManHas 3 (some .int) :: zB) ({ frames := 1, cells := 0, slots := 0, locals := 21 } : Room) [.int x1, .int y1, .int z1] [] (fun (q : Int32) => some (.int q)) (fun (q : Int32) => True) (fun (q : Int32) => []) := by
  refine zM'.of (cc := cX5_dryManHas) (maxL := 3) (rt := (some .int)) (by decide) rfl (Nat.le_of_ble_eq_true rfl) ?_
  intro p e s m args below meth c A ls St hr hlocks hin hK hT hA hP hD hS hl
  obtain ⟨hx, hb, hml, hown, hts⟩ := id St
  have hl : lv_has ls 3 [(0, .int x1), (1, .int y1), (2, .int z1)] := hl
  refine lv_iload_n hx hb dX5_dryManHas_0 rfl (lv_at hl 0 rfl) ?_
  refine lv_iload_n hx hb dX5_dryManHas_1 rfl (lv_at hl 1 rfl) ?_
  refine mcallS' (g := g) (As := [.int x1, .int y1]) (rest := []) St hK hT hA hP hD hS hl.1 [] [] rfl rfl rfl (c_r_risesBy l g x1 y1 ) (va_cwS 2 hts (zgL (zl3 k412 k413 k389) k410) rfl rfl rfl (by decide +kernel) ⟨Nat.le_of_ble_eq_true rfl, Nat.le_of_ble_eq_true rfl⟩) rfl rfl (Nat.le_of_ble_eq_true rfl) dX5_dryManHas_2 ⟨(Nat.le_of_ble_eq_true rfl), (Nat.le_of_ble_eq_true rfl)⟩ (fun q_1 H locs hq2 hP hD hS => ?_)
  have hP : va_P g.1 vwCl (List.flatten []) H := hP
  have hD : va_D A (List.flatten []) := hD
  refine W.widen (k := 0) (n := 0) (Nat.le_of_ble_eq_true rfl) (Nat.le_of_ble_eq_true rfl) ?_
  refine W.eq (g2 := F0 m 5 ls [.int q_1]) rfl ?_
  refine lv_ineg hx hb dX5_dryManHas_5 ?_
  refine zg (fun x_3 => ?_)
  refine lv_iload_n hx hb dX5_dryManHas_6 rfl (lv_at hl 1 rfl) ?_
  refine lv_if_ne (tgt := 14) hx hb dX5_dryManHas_7 (by decide) (fun cb9 => ?_) (fun cb9 => ?_)
  · skip
    have c4 : ¬ y1.toInt = 0 := zne cb9 rfl (by decide)
    refine lv_iconst (v := 0) hx hb dX5_dryManHas_14 (by decide) ?_
    refine lv_isub hx hb dX5_dryManHas_15 ?_
    refine zg (fun x_5 => ?_)
    have hP : va_P g.1 vwCl (List.flatten []) H := hP
    have hD : va_D A (List.flatten []) := hD
    exact mret_i hx hb hr hlocks hS (Nat.le_of_ble_eq_true rfl) (Nat.le_of_ble_eq_true rfl) dX5_dryManHas_16 (x_5) rfl trivial hP hD
  · skip
    have c6 : y1.toInt = 0 := zeq cb9 rfl (by decide)
    have n7 : 0 ≤ y1.toInt := Int.le_trans (Int.le_refl _) (Int.le_of_eq c6.symm)
    have n8 : y1.toInt ≤ 0 := Int.le_trans (Int.le_of_eq c6) (Int.le_refl _)
    refine lv_iload_n hx hb dX5_dryManHas_10 rfl (lv_at hl 2 rfl) ?_
    refine lv_goto (tgt := 15) hx hb dX5_dryManHas_11 (by decide) ?_
    refine lv_isub hx hb dX5_dryManHas_15 ?_
    refine zg (fun x_9 => ?_)
    have hP : va_P g.1 vwCl (List.flatten []) H := hP
    have hD : va_D A (List.flatten []) := hD
    exact mret_i hx hb hr hlocks hS (Nat.le_of_ble_eq_true rfl) (Nat.le_of_ble_eq_true rfl) dX5_dryManHas_16 (x_9) rfl trivial hP hD
set_option maxRecDepth 100000 in
set_option maxHeartbeats 4000000 in
theorem c_r_choicesAtRest (l : Launch) (g : zG) (x1 : Int32)  : zM' g l yX5_choicesAtRest (Cond.code yX5_choicesAtRest cX5_choicesAtRest 5 (some .int) :: zB) ({ frames := 2, cells := 0, slots := 0, locals := 43 } : Room) [.int x1] [] (fun (q : Int32) => some (.int q)) (fun (q : Int32) => True) (fun (q : Int32) => []) := by
  refine zM'.of (cc := cX5_choicesAtRest) (maxL := 5) (rt := (some .int)) (by decide) rfl (Nat.le_of_ble_eq_true rfl) ?_
  intro p e s m args below meth c A ls St hr hlocks hin hK hT hA hP hD hS hl
  obtain ⟨hx, hb, hml, hown, hts⟩ := id St
  have hl : lv_has ls 5 [(0, .int x1)] := hl
  refine lv_iconst (v := 0) hx hb dX5_choicesAtRest_0 (by decide) ?_
  refine lv_istore_n (lv' := [(1, .int 0), (0, .int x1)]) hx hb dX5_choicesAtRest_1 rfl hl (by decide) rfl (fun ls hl => ?_)
  refine lv_iconst (v := 0) hx hb dX5_choicesAtRest_2 (by decide) ?_
  refine lv_istore_n (lv' := [(2, .int 0), (1, .int 0), (0, .int x1)]) hx hb dX5_choicesAtRest_3 rfl hl (by decide) rfl (fun ls hl => ?_)
  have hl := lv_sub (l' := [(0, .int x1), (1, .int 0), (2, .int 0)]) hl [2, 1, 0] rfl
  have LP4_4 : ∀ (kf : Nat) (x_1 : Int32) (x_2 : Int32), (0 ≤ x_2.toInt ∧ x_2.toInt ≤ 4) → ∀ (H : Heap) (locs : List Loc) (ls : Array Slot), ((5 - x_2.toInt).toNat) < kf → va_P g.1 vwCl (List.flatten []) H → va_D A (List.flatten []) → va_S A s.heap H locs → lv_has ls 5 [(0, .int x1), (1, .int x_1), (2, .int x_2)] → W p l e ({ frames := 2, cells := 0, slots := 0, locals := 43 } : Room) s m args below meth c H locs (0) (0) (zF g (fun (q : Int32) => some (.int q)) (fun (q : Int32) => True) (fun (q : Int32) => []) ({ frames := 2, cells := 0, slots := 0, locals := 43 } : Room) below args s A) (F0 m 4 ls []) := by
    intro kf
    induction kf with
    | zero => intro x_1 x_2 i3 H locs ls hk; exact absurd hk (Nat.not_lt_zero _)
    | succ kf ih4_5 =>
      intro x_1 x_2 i3 H locs ls hk4_5 hP hD hS hl
      refine lv_iload_n hx hb dX5_choicesAtRest_4 rfl (lv_at hl 2 rfl) ?_
      refine lv_iconst (v := 4) hx hb dX5_choicesAtRest_5 (by decide) ?_
      refine lv_icmp_ge (tgt := 66) hx hb dX5_choicesAtRest_6 (by decide) (fun cb9 => ?_) (fun cb9 => ?_)
      · skip
        have c6 : 4 ≤ x_2.toInt := zle cb9 (by decide) rfl
        have n7 : 4 ≤ x_2.toInt := Int.le_trans (Int.le_refl _) c6
        refine lv_iload_n hx hb dX5_choicesAtRest_66 rfl (lv_at hl 1 rfl) ?_
        have hP : va_P g.1 vwCl (List.flatten []) H := hP
        have hD : va_D A (List.flatten []) := hD
        exact mret_i hx hb hr hlocks hS (Nat.le_of_ble_eq_true rfl) (Nat.le_of_ble_eq_true rfl) dX5_choicesAtRest_67 (x_1) rfl trivial hP hD
      · skip
        have c8 : x_2.toInt < 4 := zlti (Int32.not_le.mp cb9) rfl (by decide)
        have n9 : x_2.toInt ≤ 3 := zL1 (b := 4) c8 (Int.le_refl _) (by decide)
        refine lv_iload_n hx hb dX5_choicesAtRest_9 rfl (lv_at hl 2 rfl) ?_
        refine lv_iconst (v := 2) hx hb dX5_choicesAtRest_10 (by decide) ?_
        refine lv_idiv hx hb dX5_choicesAtRest_11 (by decide) ?_
        refine zgb (zdiv (j := x_2.toInt) (d := 2) rfl (by decide) i3.1 (by decide)) (fun x_10 hx_10 => ?_)
        refine lv_istore_n (lv' := [(3, .int x_10), (0, .int x1), (1, .int x_1), (2, .int x_2)]) hx hb dX5_choicesAtRest_12 rfl hl (by decide) rfl (fun ls hl => ?_)
        refine lv_iload_n hx hb dX5_choicesAtRest_13 rfl (lv_at hl 3 rfl) ?_
        refine lv_iconst (v := 2) hx hb dX5_choicesAtRest_14 (by decide) ?_
        refine lv_irem hx hb dX5_choicesAtRest_15 (by decide) ?_
        refine zgb (zrem (j := x_2.toInt) (d := 2) rfl (by decide) i3.1 (by decide)) (fun x_11 hx_11 => ?_)
        refine lv_istore (lv' := [(4, .int x_11), (3, .int x_10), (0, .int x1), (1, .int x_1), (2, .int x_2)]) hx hb dX5_choicesAtRest_16 hl (by decide) rfl (fun ls hl => ?_)
        refine lv_iload_n hx hb dX5_choicesAtRest_18 rfl (lv_at hl 1 rfl) ?_
        refine lv_iload hx hb dX5_choicesAtRest_19 (lv_at hl 0 rfl) ?_
        refine mcallS' (g := g) (As := [.int x_10, .int x_11]) (rest := []) St hK hT hA hP hD hS hl.1 [] [] rfl rfl rfl (c_r_tellerHas l g x_10 x_11 ) (va_cwS 2 hts (zgL (zl3 k416 k417 k389) k411) rfl rfl rfl (by decide +kernel) ⟨Nat.le_of_ble_eq_true rfl, Nat.le_of_ble_eq_true rfl⟩) rfl rfl (Nat.le_of_ble_eq_true rfl) dX5_choicesAtRest_21 ⟨(Nat.le_of_ble_eq_true rfl), (Nat.le_of_ble_eq_true rfl)⟩ (fun q_12 H locs hq13 hP hD hS => ?_)
        have hP : va_P g.1 vwCl (List.flatten []) H := hP
        have hD : va_D A (List.flatten []) := hD
        refine W.widen (k := 0) (n := 0) (Nat.le_of_ble_eq_true rfl) (Nat.le_of_ble_eq_true rfl) ?_
        refine W.eq (g2 := F0 m 24 ls [.int q_12]) rfl ?_
        refine lv_iconst (v := 1) hx hb dX5_choicesAtRest_24 (by decide) ?_
        refine lv_iload_n hx hb dX5_choicesAtRest_25 rfl (lv_at hl 1 rfl) ?_
        refine lv_isub hx hb dX5_choicesAtRest_26 ?_
        refine zgv (zsub (i := 1) (j := x_10.toInt) (by decide) rfl (by omega)) (fun x_14 hx_14 => ?_)
        refine lv_iload hx hb dX5_choicesAtRest_27 (lv_at hl 0 rfl) ?_
        refine mcallS' (g := g) (As := [.int x_14, .int x_11]) (rest := [.int q_12]) St hK hT hA hP hD hS hl.1 [] [] rfl rfl rfl (c_r_tellerHas l g x_14 x_11 ) (va_cwS 2 hts (zgL (zl3 k416 k417 k389) k411) rfl rfl rfl (by decide +kernel) ⟨Nat.le_of_ble_eq_true rfl, Nat.le_of_ble_eq_true rfl⟩) rfl rfl (Nat.le_of_ble_eq_true rfl) dX5_choicesAtRest_29 ⟨(Nat.le_of_ble_eq_true rfl), (Nat.le_of_ble_eq_true rfl)⟩ (fun q_15 H locs hq16 hP hD hS => ?_)
        have hP : va_P g.1 vwCl (List.flatten []) H := hP
        have hD : va_D A (List.flatten []) := hD
        refine W.widen (k := 0) (n := 0) (Nat.le_of_ble_eq_true rfl) (Nat.le_of_ble_eq_true rfl) ?_
        refine W.eq (g2 := F0 m 32 ls [.int q_15, .int q_12]) rfl ?_
        refine lv_icmp_lt (tgt := 60) hx hb dX5_choicesAtRest_32 (by decide) (fun cb9 => ?_) (fun cb9 => ?_)
        · skip
          have c17 : q_12.toInt < q_15.toInt := zlti cb9 rfl rfl
          refine ziinc3 (n' := 1) (a' := 1) (b' := 4) (lv' := fun v9 => [(2, .int v9), (4, .int x_11), (3, .int x_10), (0, .int x1), (1, .int x_1)]) hx hb dX5_choicesAtRest_60 hl (k := 4) rfl (by decide) (fun _ => rfl) (zaddK (i := x_2.toInt) (j := 1) rfl (by decide) i3.1 n9 (Int.le_refl _) (Int.le_refl _) (by decide)) (fun x_18 ls hx_18 hl => ?_)
          refine lv_goto (tgt := 4) hx hb dX5_choicesAtRest_63 (by decide) ?_
          have hl := lv_sub (l' := [(0, .int x1), (1, .int x_1), (2, .int x_18), (3, .int x_10), (4, .int x_11)]) hl [3, 4, 0, 2, 1] rfl
          have hP : va_P g.1 vwCl (List.flatten []) H := hP
          have hD : va_D A (List.flatten []) := hD
          exact ih4_5 x_1 x_18 ⟨(Int.le_trans (by decide) hx_18.2.1), hx_18.2.2⟩ H _ ls (zmK hx_18.1 (by decide) n9 (by decide) hk4_5)  hP hD hS (lv_sub hl [0, 1, 2] rfl)
        · skip
          have c19 : q_15.toInt ≤ q_12.toInt := zle (Int32.not_lt.mp cb9) rfl rfl
          refine lv_iload_n hx hb dX5_choicesAtRest_35 rfl (lv_at hl 1 rfl) ?_
          refine lv_iload hx hb dX5_choicesAtRest_36 (lv_at hl 0 rfl) ?_
          refine lv_iload_n hx hb dX5_choicesAtRest_38 rfl (lv_at hl 2 rfl) ?_
          refine mcallS' (g := g) (As := [.int x_10, .int x_11, .int x1]) (rest := []) St hK hT hA hP hD hS hl.1 [] [] rfl rfl rfl (c_r_dryManHas l g x_10 x_11 x1 ) (va_cwS 3 hts (zgL (zl3 k418 k419 k389) k414) rfl rfl rfl (by decide +kernel) ⟨Nat.le_of_ble_eq_true rfl, Nat.le_of_ble_eq_true rfl⟩) rfl rfl (Nat.le_of_ble_eq_true rfl) dX5_choicesAtRest_39 ⟨(Nat.le_of_ble_eq_true rfl), (Nat.le_of_ble_eq_true rfl)⟩ (fun q_20 H locs hq21 hP hD hS => ?_)
          have hP : va_P g.1 vwCl (List.flatten []) H := hP
          have hD : va_D A (List.flatten []) := hD
          refine W.widen (k := 0) (n := 0) (Nat.le_of_ble_eq_true rfl) (Nat.le_of_ble_eq_true rfl) ?_
          refine W.eq (g2 := F0 m 42 ls [.int q_20]) rfl ?_
          refine lv_iload_n hx hb dX5_choicesAtRest_42 rfl (lv_at hl 1 rfl) ?_
          refine lv_iconst (v := 1) hx hb dX5_choicesAtRest_43 (by decide) ?_
          refine lv_iload hx hb dX5_choicesAtRest_44 (lv_at hl 0 rfl) ?_
          refine lv_isub hx hb dX5_choicesAtRest_46 ?_
          refine zg3 (zsubK (i := 1) (j := x_11.toInt) (a' := 0) (b' := 1) (by decide) rfl (Int.le_refl _) (Int.le_refl _) hx_11.1 hx_11.2 (by decide)) (fun x_22 hx_22 => ?_)
          refine lv_iload_n hx hb dX5_choicesAtRest_47 rfl (lv_at hl 2 rfl) ?_
          refine mcallS' (g := g) (As := [.int x_10, .int x_22, .int x1]) (rest := [.int q_20]) St hK hT hA hP hD hS hl.1 [] [] rfl rfl rfl (c_r_dryManHas l g x_10 x_22 x1 ) (va_cwS 3 hts (zgL (zl3 k418 k419 k389) k414) rfl rfl rfl (by decide +kernel) ⟨Nat.le_of_ble_eq_true rfl, Nat.le_of_ble_eq_true rfl⟩) rfl rfl (Nat.le_of_ble_eq_true rfl) dX5_choicesAtRest_48 ⟨(Nat.le_of_ble_eq_true rfl), (Nat.le_of_ble_eq_true rfl)⟩ (fun q_23 H locs hq24 hP hD hS => ?_)
          have hP : va_P g.1 vwCl (List.flatten []) H := hP
          have hD : va_D A (List.flatten []) := hD
          refine W.widen (k := 0) (n := 0) (Nat.le_of_ble_eq_true rfl) (Nat.le_of_ble_eq_true rfl) ?_
          refine W.eq (g2 := F0 m 51 ls [.int q_23, .int q_20]) rfl ?_
          refine lv_icmp_lt (tgt := 60) hx hb dX5_choicesAtRest_51 (by decide) (fun cb9 => ?_) (fun cb9 => ?_)
          · skip
            have c25 : q_20.toInt < q_23.toInt := zlti cb9 rfl rfl
            refine ziinc3 (n' := 1) (a' := 1) (b' := 4) (lv' := fun v9 => [(2, .int v9), (4, .int x_11), (3, .int x_10), (0, .int x1), (1, .int x_1)]) hx hb dX5_choicesAtRest_60 hl (k := 4) rfl (by decide) (fun _ => rfl) (zaddK (i := x_2.toInt) (j := 1) rfl (by decide) i3.1 n9 (Int.le_refl _) (Int.le_refl _) (by decide)) (fun x_26 ls hx_26 hl => ?_)
            refine lv_goto (tgt := 4) hx hb dX5_choicesAtRest_63 (by decide) ?_
            have hl := lv_sub (l' := [(0, .int x1), (1, .int x_1), (2, .int x_26), (3, .int x_10), (4, .int x_11)]) hl [3, 4, 0, 2, 1] rfl
            have hP : va_P g.1 vwCl (List.flatten []) H := hP
            have hD : va_D A (List.flatten []) := hD
            exact ih4_5 x_1 x_26 ⟨(Int.le_trans (by decide) hx_26.2.1), hx_26.2.2⟩ H _ ls (zmK hx_26.1 (by decide) n9 (by decide) hk4_5)  hP hD hS (lv_sub hl [0, 1, 2] rfl)
          · skip
            have c27 : q_23.toInt ≤ q_20.toInt := zle (Int32.not_lt.mp cb9) rfl rfl
            refine lv_iload_n hx hb dX5_choicesAtRest_54 rfl (lv_at hl 3 rfl) ?_
            refine lv_iconst (v := 1) hx hb dX5_choicesAtRest_55 (by decide) ?_
            refine lv_iload_n hx hb dX5_choicesAtRest_56 rfl (lv_at hl 4 rfl) ?_
            refine lv_ishl hx hb dX5_choicesAtRest_57 ?_
            refine zgb (zshl1 (j := x_2.toInt) rfl 3 8 (by decide) (by decide) ⟨i3.1, n9⟩) (fun x_28 hx_28 => ?_)
            refine lv_ior hx hb dX5_choicesAtRest_58 ?_
            refine zg (fun x_29 => ?_)
            refine lv_istore_n (lv' := [(1, .int x_29), (4, .int x_11), (3, .int x_10), (0, .int x1), (2, .int x_2)]) hx hb dX5_choicesAtRest_59 rfl hl (by decide) rfl (fun ls hl => ?_)
            refine ziinc3 (n' := 1) (a' := 1) (b' := 4) (lv' := fun v9 => [(2, .int v9), (1, .int x_29), (4, .int x_11), (3, .int x_10), (0, .int x1)]) hx hb dX5_choicesAtRest_60 hl (k := 4) rfl (by decide) (fun _ => rfl) (zaddK (i := x_2.toInt) (j := 1) rfl (by decide) i3.1 n9 (Int.le_refl _) (Int.le_refl _) (by decide)) (fun x_30 ls hx_30 hl => ?_)
            refine lv_goto (tgt := 4) hx hb dX5_choicesAtRest_63 (by decide) ?_
            have hl := lv_sub (l' := [(0, .int x1), (1, .int x_29), (2, .int x_30), (3, .int x_10), (4, .int x_11)]) hl [4, 1, 0, 3, 2] rfl
            have hP : va_P g.1 vwCl (List.flatten []) H := hP
            have hD : va_D A (List.flatten []) := hD
            exact ih4_5 x_29 x_30 ⟨(Int.le_trans (by decide) hx_30.2.1), hx_30.2.2⟩ H _ ls (zmK hx_30.1 (by decide) n9 (by decide) hk4_5)  hP hD hS (lv_sub hl [0, 1, 2] rfl)
  have hP : va_P g.1 vwCl (List.flatten []) s.heap := hP
  have hD : va_D A (List.flatten []) := hD
  exact LP4_4 _ 0 0 (by decide) s.heap _ ls (Nat.lt_succ_self _)  hP hD hS (lv_sub hl [0, 1, 2] rfl)
