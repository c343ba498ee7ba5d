set_option maxRecDepth 100000 in
set_option maxHeartbeats 4000000 in
theorem c_within (l : Launch) (g : zG) (o : Nat) (a : Nat → Nat) (pe : Int32) (wo : Int32) (tx : Int32) (ch : Int32) (jo : Int32) (tr : Int32) (dy : Int32) (sd : Int32) (f : Nat → Nat → Int32) (v : Int32)  : zM' g l yX9_within (Cond.code yX9_within cX9_within 2 (some .int) :: zB) ({ frames := 1, cells := 0, slots := 0, locals := 14 } : Room) [.ref o, .int v] [bTown g o a pe wo tx ch jo tr dy sd f] (fun (q : Int32) => some (.int q)) (fun (q : Int32) => True) (fun (q : Int32) => [bTown g o a pe wo tx ch jo tr dy sd f]) := by
  refine zM'.of (cc := cX9_within) (maxL := 2) (rt := (some .int)) (by decide) rfl (Nat.le_of_ble_eq_true rfl) ?_
  intro p e s m args below meth c A ls St hr hlocks hin hK hT hA hP hD hS hl
  obtain ⟨hx, hb, hml, hown, hts⟩ := id St
  have hl : lv_has ls 2 [(0, .ref o), (1, .int v)] := hl
  refine lv_iconst (v := 0) hx hb dX9_within_0 (by decide) ?_
  refine lv_bipush (v := 99) hx hb dX9_within_1 (by decide) ?_
  refine lv_iload_n hx hb dX9_within_3 rfl (lv_at hl 1 rfl) ?_
  refine va_mmin hx hb (by rw [hml]; exact hl.1.symm) hown (hts _ k40) (hts _ k41) (hts _ k42) (hts _ k43) (Nat.le_of_ble_eq_true rfl) (Nat.le_of_ble_eq_true rfl) (Nat.le_of_ble_eq_true rfl) (Nat.le_of_ble_eq_true rfl) dX9_within_4 ?_
  refine zgmn (i := 99) (j := v.toInt) (by decide) rfl (fun x_1 hx_1 => ?_)
  refine va_mmax hx hb (by rw [hml]; exact hl.1.symm) hown (hts _ k44) (hts _ k45) (hts _ k42) (hts _ k46) (Nat.le_of_ble_eq_true rfl) (Nat.le_of_ble_eq_true rfl) (Nat.le_of_ble_eq_true rfl) (Nat.le_of_ble_eq_true rfl) dX9_within_7 ?_
  refine zgmx (i := 0) (j := x_1.toInt) (by decide) rfl (fun x_2 hx_2 => ?_)
  have hP : va_P g.1 vwCl (List.flatten [bTown g o a pe wo tx ch jo tr dy sd f]) s.heap := hP
  have hD : va_D A (List.flatten [bTown g o a pe wo tx ch jo tr dy sd f]) := hD
  exact mret_i hx hb hr hlocks hS (Nat.le_of_ble_eq_true rfl) (Nat.le_of_ble_eq_true rfl) dX9_within_10 (x_2) rfl trivial hP hD
set_option maxRecDepth 100000 in
set_option maxHeartbeats 4000000 in
theorem c_bestWorks (l : Launch) (g : zG) (o : Nat) (a : Nat → Nat) (pe : Int32) (wo : Int32) (tx : Int32) (ch : Int32) (jo : Int32) (tr : Int32) (dy : Int32) (sd : Int32) (f : Nat → Nat → Int32) (b_pe : 0 ≤ pe.toInt ∧ pe.toInt ≤ 8) (b_wo : 0 ≤ wo.toInt ∧ wo.toInt ≤ 6) (rf : zZ4 f) : zM' g l yX9_bestWorks (Cond.code yX9_bestWorks cX9_bestWorks 3 (some .int) :: zB) ({ frames := 3, cells := 0, slots := 0, locals := 67 } : Room) [.ref o] [bTown g o a pe wo tx ch jo tr dy sd f] (fun (q : Int32) => some (.int q)) (fun (q : Int32) => True) (fun (q : Int32) => [bTown g o a pe wo tx ch jo tr dy sd f]) := by
  refine zM'.of (cc := cX9_bestWorks) (maxL := 3) (rt := (some .int)) (by decide) rfl (Nat.le_of_ble_eq_true rfl) ?_
  intro p e s m args below meth c A ls St hr hlocks hin hK hT hA hP hD hS hl
  obtain ⟨hx, hb, hml, hown, hts⟩ := id St
  have hl : lv_has ls 3 [(0, .ref o)] := hl
  refine lv_iconst (v := 0) hx hb dX9_bestWorks_0 (by decide) ?_
  refine lv_istore_n (lv' := [(1, .int 0), (0, .ref o)]) hx hb dX9_bestWorks_1 rfl hl (by decide) rfl (fun ls hl => ?_)
  refine lv_iconst (v := 1) hx hb dX9_bestWorks_2 (by decide) ?_
  refine lv_istore_n (lv' := [(2, .int 1), (1, .int 0), (0, .ref o)]) hx hb dX9_bestWorks_3 rfl hl (by decide) rfl (fun ls hl => ?_)
  have hl := lv_sub (l' := [(0, .ref o), (1, .int 0), (2, .int 1)]) hl [2, 1, 0] rfl
  have LP4_5 : ∀ (kf : Nat) (x_1 : Int32) (x_2 : Int32), (0 ≤ x_1.toInt ∧ x_1.toInt ≤ 63) → (1 ≤ x_2.toInt ∧ x_2.toInt ≤ 64) → ∀ (H : Heap) (locs : List Loc) (ls : Array Slot), ((65 - x_2.toInt).toNat) < kf → va_P g.1 vwCl (List.flatten [bTown g o a pe wo tx ch jo tr dy sd f]) H → va_D A (List.flatten [bTown g o a pe wo tx ch jo tr dy sd f]) → va_S A s.heap H locs → lv_has ls 3 [(0, .ref o), (1, .int x_1), (2, .int x_2)] → W p l e ({ frames := 3, cells := 0, slots := 0, locals := 67 } : Room) s m args below meth c H locs (0) (0) (zF g (fun (q : Int32) => some (.int q)) (fun (q : Int32) => True) (fun (q : Int32) => [bTown g o a pe wo tx ch jo tr dy sd f]) ({ frames := 3, cells := 0, slots := 0, locals := 67 } : Room) below args s A) (F0 m 4 ls []) := by
    intro kf
    induction kf with
    | zero => intro x_1 x_2 i3 i4 H locs ls hk; exact absurd hk (Nat.not_lt_zero _)
    | succ kf ih4_6 =>
      intro x_1 x_2 i3 i4 H locs ls hk4_6 hP hD hS hl
      refine lv_iload_n hx hb dX9_bestWorks_4 rfl (lv_at hl 2 rfl) ?_
      refine lv_iconst (v := 1) hx hb dX9_bestWorks_5 (by decide) ?_
      refine lv_aload_n hx hb dX9_bestWorks_6 rfl (lv_at hl 0 rfl) ?_
      refine va_get (D := g.1) (ci := 7) (v := .int wo) (C := RX9) (T := TX9) (N := 19) hx hb hts izRX9 hown hK hP 0 rfl rfl 1 (by decide) (hts _ k32) (fun _ h9 => h9) rfl dX9_bestWorks_7 ?_
      refine lv_ishl hx hb dX9_bestWorks_10 ?_
      refine zgb (zshl1 (j := wo.toInt) rfl 6 64 (by decide) (by decide) ⟨b_wo.1, b_wo.2⟩) (fun x_7 hx_7 => ?_)
      refine lv_icmp_ge (tgt := 43) hx hb dX9_bestWorks_11 (by decide) (fun cb9 => ?_) (fun cb9 => ?_)
      · skip
        have c8 : x_7.toInt ≤ x_2.toInt := zle cb9 rfl rfl
        refine lv_iload_n hx hb dX9_bestWorks_43 rfl (lv_at hl 1 rfl) ?_
        have hP : va_P g.1 vwCl (List.flatten [bTown g o a pe wo tx ch jo tr dy sd f]) H := hP
        have hD : va_D A (List.flatten [bTown g o a pe wo tx ch jo tr dy sd f]) := hD
        exact mret_i hx hb hr hlocks hS (Nat.le_of_ble_eq_true rfl) (Nat.le_of_ble_eq_true rfl) dX9_bestWorks_44 (x_1) rfl trivial hP hD
      · skip
        have c9 : x_2.toInt < x_7.toInt := zlti (Int32.not_le.mp cb9) rfl rfl
        have n10 : x_2.toInt ≤ 63 := zL1 (b := 64) c9 hx_7.2 (by decide)
        have n11 : 2 ≤ x_7.toInt := zL2 (a := 1) c9 i4.1 (by decide)
        refine lv_aload_n hx hb dX9_bestWorks_14 rfl (lv_at hl 0 rfl) ?_
        refine lv_iload_n hx hb dX9_bestWorks_15 rfl (lv_at hl 2 rfl) ?_
        refine mcallV' (g := g) (q0 := 0) (ci := 7) (As := [.int x_2]) (rest := []) St hK hT hA hP hD hS hl.1 [0] [] rfl rfl rfl (c_canBuild l g o a pe wo tx ch jo tr dy sd f x_2 b_pe b_wo rf) (cwV 1 hts (zgL (zl4 k522 k523 k524 k24) k520) rfl rfl rfl (by decide +kernel) ⟨Nat.le_of_ble_eq_true rfl, Nat.le_of_ble_eq_true rfl⟩) rfl rfl rfl rfl (Nat.le_of_ble_eq_true rfl) dX9_bestWorks_16 ⟨(Nat.le_of_ble_eq_true rfl), (Nat.le_of_ble_eq_true rfl)⟩ (fun q_12 H locs hq13 hP hD hS => ?_)
        replace hq13 : (q_12 = 0 ∨ q_12 = 1) := hq13
        have hP : va_P g.1 vwCl (List.flatten [bTown g o a pe wo tx ch jo tr dy sd f]) H := hP
        have hD : va_D A (List.flatten [bTown g o a pe wo tx ch jo tr dy sd f]) := hD
        refine W.widen (k := 0) (n := 0) (Nat.le_of_ble_eq_true rfl) (Nat.le_of_ble_eq_true rfl) ?_
        refine W.eq (g2 := F0 m 19 ls [.int q_12]) rfl ?_
        rcases hq13 with rfl | rfl
        · skip
          refine lv_if_eq (tgt := 37) hx hb dX9_bestWorks_19 (by decide) (fun _ => ?_) (fun c14 => absurd (by decide) c14)
          refine ziinc3 (n' := 1) (a' := 2) (b' := 64) (lv' := fun v9 => [(2, .int v9), (0, .ref o), (1, .int x_1)]) hx hb dX9_bestWorks_37 hl (k := 2) rfl (by decide) (fun _ => rfl) (zaddK (i := x_2.toInt) (j := 1) rfl (by decide) i4.1 n10 (Int.le_refl _) (Int.le_refl _) (by decide)) (fun x_15 ls hx_15 hl => ?_)
          refine lv_goto (tgt := 4) hx hb dX9_bestWorks_40 (by decide) ?_
          have hl := lv_sub (l' := [(0, .ref o), (1, .int x_1), (2, .int x_15)]) hl [1, 2, 0] rfl
          have hP : va_P g.1 vwCl (List.flatten [bTown g o a pe wo tx ch jo tr dy sd f]) H := hP
          have hD : va_D A (List.flatten [bTown g o a pe wo tx ch jo tr dy sd f]) := hD
          exact ih4_6 x_1 x_15 ⟨i3.1, i3.2⟩ ⟨(Int.le_trans (by decide) hx_15.2.1), hx_15.2.2⟩ H _ ls (zmK hx_15.1 (by decide) n10 (by decide) hk4_6)  hP hD hS (lv_sub hl [0, 1, 2] rfl)
        · skip
          refine lv_if_eq (tgt := 37) hx hb dX9_bestWorks_19 (by decide) (fun c16 => absurd c16 (by decide)) (fun _ => ?_)
          refine lv_aload_n hx hb dX9_bestWorks_22 rfl (lv_at hl 0 rfl) ?_
          refine lv_iload_n hx hb dX9_bestWorks_23 rfl (lv_at hl 2 rfl) ?_
          refine mcallV' (g := g) (q0 := 0) (ci := 7) (As := [.int x_2]) (rest := []) St hK hT hA hP hD hS hl.1 [0] [] rfl rfl rfl (c_gainOf l g o a pe wo tx ch jo tr dy sd f x_2 b_pe b_wo rf) (cwV 1 hts (zgL (zl4 k525 k526 k527 k24) k521) rfl rfl rfl (by decide +kernel) ⟨Nat.le_of_ble_eq_true rfl, Nat.le_of_ble_eq_true rfl⟩) rfl rfl rfl rfl (Nat.le_of_ble_eq_true rfl) dX9_bestWorks_24 ⟨(Nat.le_of_ble_eq_true rfl), (Nat.le_of_ble_eq_true rfl)⟩ (fun q_17 H locs hq18 hP hD hS => ?_)
          have hP : va_P g.1 vwCl (List.flatten [bTown g o a pe wo tx ch jo tr dy sd f]) H := hP
          have hD : va_D A (List.flatten [bTown g o a pe wo tx ch jo tr dy sd f]) := hD
          refine W.widen (k := 0) (n := 0) (Nat.le_of_ble_eq_true rfl) (Nat.le_of_ble_eq_true rfl) ?_
          refine W.eq (g2 := F0 m 27 ls [.int q_17]) rfl ?_
          refine lv_aload_n hx hb dX9_bestWorks_27 rfl (lv_at hl 0 rfl) ?_
          refine lv_iload_n hx hb dX9_bestWorks_28 rfl (lv_at hl 1 rfl) ?_
          refine mcallV' (g := g) (q0 := 0) (ci := 7) (As := [.int x_1]) (rest := [.int q_17]) St hK hT hA hP hD hS hl.1 [0] [] rfl rfl rfl (c_gainOf l g o a pe wo tx ch jo tr dy sd f x_1 b_pe b_wo rf) (cwV 1 hts (zgL (zl4 k525 k526 k527 k24) k521) rfl rfl rfl (by decide +kernel) ⟨Nat.le_of_ble_eq_true rfl, Nat.le_of_ble_eq_true rfl⟩) rfl rfl rfl rfl (Nat.le_of_ble_eq_true rfl) dX9_bestWorks_29 ⟨(Nat.le_of_ble_eq_true rfl), (Nat.le_of_ble_eq_true rfl)⟩ (fun q_19 H locs hq20 hP hD hS => ?_)
          have hP : va_P g.1 vwCl (List.flatten [bTown g o a pe wo tx ch jo tr dy sd f]) H := hP
          have hD : va_D A (List.flatten [bTown g o a pe wo tx ch jo tr dy sd f]) := hD
          refine W.widen (k := 0) (n := 0) (Nat.le_of_ble_eq_true rfl) (Nat.le_of_ble_eq_true rfl) ?_
          refine W.eq (g2 := F0 m 32 ls [.int q_19, .int q_17]) rfl ?_
          refine lv_icmp_le (tgt := 37) hx hb dX9_bestWorks_32 (by decide) (fun cb9 => ?_) (fun cb9 => ?_)
          · skip
            have c21 : q_17.toInt ≤ q_19.toInt := zle cb9 rfl rfl
            refine ziinc3 (n' := 1) (a' := 2) (b' := 64) (lv' := fun v9 => [(2, .int v9), (0, .ref o), (1, .int x_1)]) hx hb dX9_bestWorks_37 hl (k := 2) rfl (by decide) (fun _ => rfl) (zaddK (i := x_2.toInt) (j := 1) rfl (by decide) i4.1 n10 (Int.le_refl _) (Int.le_refl _) (by decide)) (fun x_22 ls hx_22 hl => ?_)
            refine lv_goto (tgt := 4) hx hb dX9_bestWorks_40 (by decide) ?_
            have hl := lv_sub (l' := [(0, .ref o), (1, .int x_1), (2, .int x_22)]) hl [1, 2, 0] rfl
            have hP : va_P g.1 vwCl (List.flatten [bTown g o a pe wo tx ch jo tr dy sd f]) H := hP
            have hD : va_D A (List.flatten [bTown g o a pe wo tx ch jo tr dy sd f]) := hD
            exact ih4_6 x_1 x_22 ⟨i3.1, i3.2⟩ ⟨(Int.le_trans (by decide) hx_22.2.1), hx_22.2.2⟩ H _ ls (zmK hx_22.1 (by decide) n10 (by decide) hk4_6)  hP hD hS (lv_sub hl [0, 1, 2] rfl)
          · skip
            have c23 : q_19.toInt < q_17.toInt := zlti (Int32.not_le.mp cb9) rfl rfl
            refine lv_iload_n hx hb dX9_bestWorks_35 rfl (lv_at hl 2 rfl) ?_
            refine lv_istore_n (lv' := [(1, .int x_2), (0, .ref o), (2, .int x_2)]) hx hb dX9_bestWorks_36 rfl hl (by decide) rfl (fun ls hl => ?_)
            refine ziinc3 (n' := 1) (a' := 2) (b' := 64) (lv' := fun v9 => [(2, .int v9), (1, .int x_2), (0, .ref o)]) hx hb dX9_bestWorks_37 hl (k := 2) rfl (by decide) (fun _ => rfl) (zaddK (i := x_2.toInt) (j := 1) rfl (by decide) i4.1 n10 (Int.le_refl _) (Int.le_refl _) (by decide)) (fun x_24 ls hx_24 hl => ?_)
            refine lv_goto (tgt := 4) hx hb dX9_bestWorks_40 (by decide) ?_
            have hl := lv_sub (l' := [(0, .ref o), (1, .int x_2), (2, .int x_24)]) hl [2, 1, 0] rfl
            have hP : va_P g.1 vwCl (List.flatten [bTown g o a pe wo tx ch jo tr dy sd f]) H := hP
            have hD : va_D A (List.flatten [bTown g o a pe wo tx ch jo tr dy sd f]) := hD
            exact ih4_6 x_2 x_24 ⟨(Int.le_trans (by decide) i4.1), n10⟩ ⟨(Int.le_trans (by decide) hx_24.2.1), hx_24.2.2⟩ H _ ls (zmK hx_24.1 (by decide) n10 (by decide) hk4_6)  hP hD hS (lv_sub hl [0, 1, 2] rfl)
  have hP : va_P g.1 vwCl (List.flatten [bTown g o a pe wo tx ch jo tr dy sd f]) s.heap := hP
  have hD : va_D A (List.flatten [bTown g o a pe wo tx ch jo tr dy sd f]) := hD
  exact LP4_5 _ 0 1 (by decide) (by decide) s.heap _ ls (Nat.lt_succ_self _)  hP hD hS (lv_sub hl [0, 1, 2] rfl)
set_option maxRecDepth 100000 in
set_option maxHeartbeats 4000000 in
theorem c_raise (l : Launch) (g : zG) (o : Nat) (a : Nat → Nat) (pe : Int32) (wo : Int32) (tx : Int32) (ch : Int32) (jo : Int32) (tr : Int32) (dy : Int32) (sd : Int32) (f : Nat → Nat → Int32) (x1 : Int32) (by9 : Int32) (rf : zZ4 f) (b_x1 : 0 ≤ x1.toInt ∧ x1.toInt ≤ 7) : zM' g l yX9_raise (Cond.code yX9_raise cX9_raise 3 none :: zB) ({ frames := 2, cells := 0, slots := 0, locals := 35 } : Room) [.ref o, .int x1, .int by9] [bTown g o a pe wo tx ch jo tr dy sd f] (fun (f2 : Nat → Nat → Int32) => none) (fun (f2 : Nat → Nat → Int32) => (zZ4 f2)) (fun (f2 : Nat → Nat → Int32) => [bTown g o a pe wo tx ch jo tr dy sd f2]) := by
  refine zM'.of (cc := cX9_raise) (maxL := 3) (rt := none) (by decide) rfl (Nat.le_of_ble_eq_true rfl) ?_
  intro p e s m args below meth c A ls St hr hlocks hin hK hT hA hP hD hS hl
  obtain ⟨hx, hb, hml, hown, hts⟩ := id St
  have hl : lv_has ls 3 [(0, .ref o), (1, .int x1), (2, .int by9)] := hl
  refine lv_aload_n hx hb dX9_raise_0 rfl (lv_at hl 0 rfl) ?_
  refine va_get (D := g.1) (ci := 7) (v := .ref (a 0)) (C := RX9) (T := TX9) (N := 19) hx hb hts izRX9 hown hK hP 0 rfl rfl 8 (by decide) (hts _ k9) (fun _ h9 => h9) rfl dX9_raise_1 ?_
  refine lv_iload_n hx hb dX9_raise_4 rfl (lv_at hl 1 rfl) ?_
  refine lv_aload_n hx hb dX9_raise_5 rfl (lv_at hl 0 rfl) ?_
  refine lv_aload_n hx hb dX9_raise_6 rfl (lv_at hl 0 rfl) ?_
  refine va_get (D := g.1) (ci := 7) (v := .ref (a 0)) (C := RX9) (T := TX9) (N := 19) hx hb hts izRX9 hown hK hP 0 rfl rfl 8 (by decide) (hts _ k9) (fun _ h9 => h9) rfl dX9_raise_7 ?_
  refine lv_iload_n hx hb dX9_raise_10 rfl (lv_at hl 1 rfl) ?_
  refine va_iald hx hb hK hP 1 0 rfl rfl (zinK (a := 0) (b := 7) b_x1.1 b_x1.2 (by decide)) dX9_raise_11 ?_
  refine zg (fun x_1 => ?_)
  refine lv_iload_n hx hb dX9_raise_12 rfl (lv_at hl 2 rfl) ?_
  refine lv_iadd hx hb dX9_raise_13 ?_
  refine zg (fun x_2 => ?_)
  refine mcallV' (g := g) (q0 := 0) (ci := 7) (As := [.int x_2]) (rest := [.int x1, .ref (a 0)]) St hK hT hA hP hD hS hl.1 [0] [] rfl rfl rfl (c_within l g o a pe wo tx ch jo tr dy sd f x_2 ) (cwV 1 hts (zgL (zl4 k48 k49 k50 k24) k39) rfl rfl rfl (by decide +kernel) ⟨Nat.le_of_ble_eq_true rfl, Nat.le_of_ble_eq_true rfl⟩) rfl rfl rfl rfl (Nat.le_of_ble_eq_true rfl) dX9_raise_14 ⟨(Nat.le_of_ble_eq_true rfl), (Nat.le_of_ble_eq_true rfl)⟩ (fun q_3 H locs hq4 hP hD hS => ?_)
  have hP : va_P g.1 vwCl (List.flatten [bTown g o a pe wo tx ch jo tr dy sd f]) H := hP
  have hD : va_D A (List.flatten [bTown g o a pe wo tx ch jo tr dy sd f]) := hD
  refine W.widen (k := 0) (n := 0) (Nat.le_of_ble_eq_true rfl) (Nat.le_of_ble_eq_true rfl) ?_
  refine W.eq (g2 := F0 m 17 ls [.int q_3, .int x1, .ref (a 0)]) rfl ?_
  refine va_iast hx hb hK hP hD hS 1 0 rfl rfl (zinK (a := 0) (b := 7) b_x1.1 b_x1.2 (by decide)) dX9_raise_17 (fun H locs hP hD hS => ?_)
  obtain ⟨f5, rf5, hP, hD⟩ : ∃ f5 : Nat → Nat → Int32, zZ4 f5 ∧ va_P g.1 vwCl (List.flatten [bTown g o a pe wo tx ch jo tr dy sd f5]) H ∧ va_D A (List.flatten [bTown g o a pe wo tx ch jo tr dy sd f5]) := ⟨zu f 0 (upd (f 0) x1.toNatClampNeg q_3), (zZ4_u rf (by decide)), hP, hD⟩
  have hP : va_P g.1 vwCl (List.flatten [bTown g o a pe wo tx ch jo tr dy sd f5]) H := hP
  have hD : va_D A (List.flatten [bTown g o a pe wo tx ch jo tr dy sd f5]) := hD
  exact mret_v hx hb hr hlocks hS (Nat.le_of_ble_eq_true rfl) (Nat.le_of_ble_eq_true rfl) dX9_raise_18 (f5) rfl (show (zZ4 f5) from rf5) hP hD
