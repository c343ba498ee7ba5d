set_option maxRecDepth 100000 in
set_option maxHeartbeats 4000000 in
theorem c_i_trusting (l : Launch) (g : zG) (o : Nat) (a : Nat → Nat) (pe : Int32) (wo : Int32) (tx : Int32) (ch : Int32) (jo : Int32) (tr : Int32) (dy : Int32) (sd : Int32) (f : Nat → Nat → Int32) (st0 : Int32) (b_pe : 0 ≤ pe.toInt ∧ pe.toInt ≤ 8) (b_wo : 0 ≤ wo.toInt ∧ wo.toInt ≤ 6) (rf : zZ4 f) : zM' g l yX8_trusting (Cond.code yX8_trusting cX8_trusting 5 (some .int) :: zB) ({ frames := 1, cells := 0, slots := 0, locals := 22 } : Room) [.ref o, .int st0] [bTown g o a pe wo tx ch jo tr dy sd f] (fun (q : Int32) => some (.int q)) (fun (q : Int32) => True) (fun (q : Int32) => [bTown g o a pe wo tx ch jo tr dy sd f]) := by
  refine zM'.of (cc := cX8_trusting) (maxL := 5) (rt := (some .int)) (by decide) rfl (Nat.le_of_ble_eq_true rfl) ?_
  intro p e s m args below meth c A ls St hr hlocks hin hK hT hA hP hD hS hl
  obtain ⟨hx, hb, hml, hown, hts⟩ := id St
  have hl : lv_has ls 5 [(0, .ref o), (1, .int st0)] := hl
  refine lv_iconst (v := 0) hx hb dX8_trusting_0 (by decide) ?_
  refine lv_istore_n (lv' := [(2, .int 0), (0, .ref o), (1, .int st0)]) hx hb dX8_trusting_1 rfl hl (by decide) rfl (fun ls hl => ?_)
  refine lv_iconst (v := 0) hx hb dX8_trusting_2 (by decide) ?_
  refine lv_istore_n (lv' := [(3, .int 0), (2, .int 0), (0, .ref o), (1, .int st0)]) hx hb dX8_trusting_3 rfl hl (by decide) rfl (fun ls hl => ?_)
  have hl := lv_sub (l' := [(0, .ref o), (1, .int st0), (2, .int 0), (3, .int 0)]) hl [2, 3, 1, 0] rfl
  have LP4_4 : ∀ (kf : Nat) (x_1 : Int32) (x_2 : Int32), (0 ≤ x_2.toInt ∧ x_2.toInt ≤ 8) → ∀ (H : Heap) (locs : List Loc) (ls : Array Slot), ((9 - x_2.toInt).toNat) < kf → va_P g.1 vwCl (List.flatten [bTown g o a pe wo tx ch jo tr dy sd f]) H → va_D A (List.flatten [bTown g o a pe wo tx ch jo tr dy sd f]) → va_S A s.heap H locs → lv_has ls 5 [(0, .ref o), (1, .int st0), (2, .int x_1), (3, .int x_2)] → W p l e ({ frames := 1, cells := 0, slots := 0, locals := 22 } : Room) s m args below meth c H locs (0) (0) (zF g (fun (q : Int32) => some (.int q)) (fun (q : Int32) => True) (fun (q : Int32) => [bTown g o a pe wo tx ch jo tr dy sd f]) ({ frames := 1, cells := 0, slots := 0, locals := 22 } : Room) below args s A) (F0 m 4 ls []) := by
    intro kf
    induction kf with
    | zero => intro x_1 x_2 i3 H locs ls hk; exact absurd hk (Nat.not_lt_zero _)
    | succ kf ih4_5 =>
      intro x_1 x_2 i3 H locs ls hk4_5 hP hD hS hl
      refine lv_iload_n hx hb dX8_trusting_4 rfl (lv_at hl 3 rfl) ?_
      refine lv_aload_n hx hb dX8_trusting_5 rfl (lv_at hl 0 rfl) ?_
      refine va_get (D := g.1) (ci := 7) (v := .int pe) (C := RX9) (T := TX9) (N := 19) hx hb hts izRX9 hown hK hP 0 rfl rfl 0 (by decide) (hts _ k500) (fun _ h9 => h9) rfl dX8_trusting_6 ?_
      refine lv_icmp_ge (tgt := 67) hx hb dX8_trusting_9 (by decide) (fun cb9 => ?_) (fun cb9 => ?_)
      · skip
        have c6 : pe.toInt ≤ x_2.toInt := zle cb9 rfl rfl
        refine lv_iload_n hx hb dX8_trusting_67 rfl (lv_at hl 2 rfl) ?_
        have hP : va_P g.1 vwCl (List.flatten [bTown g o a pe wo tx ch jo tr dy sd f]) H := hP
        have hD : va_D A (List.flatten [bTown g o a pe wo tx ch jo tr dy sd f]) := hD
        exact mret_i hx hb hr hlocks hS (Nat.le_of_ble_eq_true rfl) (Nat.le_of_ble_eq_true rfl) dX8_trusting_68 (x_1) rfl trivial hP hD
      · skip
        have c7 : x_2.toInt < pe.toInt := zlti (Int32.not_le.mp cb9) rfl rfl
        have n8 : x_2.toInt ≤ 7 := zL1 (b := 8) c7 b_pe.2 (by decide)
        have n9 : 1 ≤ pe.toInt := zL2 (a := 0) c7 i3.1 (by decide)
        refine lv_iconst (v := 0) hx hb dX8_trusting_12 (by decide) ?_
        refine lv_istore (lv' := [(4, .int 0), (0, .ref o), (1, .int st0), (2, .int x_1), (3, .int x_2)]) hx hb dX8_trusting_13 hl (by decide) rfl (fun ls hl => ?_)
        have hl := lv_sub (l' := [(0, .ref o), (1, .int st0), (2, .int x_1), (3, .int x_2), (4, .int 0)]) hl [1, 2, 3, 4, 0] rfl
        have LP15_13 : ∀ (kf : Nat) (x_10 : Int32) (x_11 : Int32), (0 ≤ x_11.toInt ∧ x_11.toInt ≤ 8) → ∀ (H : Heap) (locs : List Loc) (ls : Array Slot), ((9 - x_11.toInt).toNat) < kf → va_P g.1 vwCl (List.flatten [bTown g o a pe wo tx ch jo tr dy sd f]) H → va_D A (List.flatten [bTown g o a pe wo tx ch jo tr dy sd f]) → va_S A s.heap H locs → lv_has ls 5 [(0, .ref o), (1, .int st0), (2, .int x_10), (3, .int x_2), (4, .int x_11)] → W p l e ({ frames := 1, cells := 0, slots := 0, locals := 22 } : Room) s m args below meth c H locs (0) (0) (zF g (fun (q : Int32) => some (.int q)) (fun (q : Int32) => True) (fun (q : Int32) => [bTown g o a pe wo tx ch jo tr dy sd f]) ({ frames := 1, cells := 0, slots := 0, locals := 22 } : Room) below args s A) (F0 m 15 ls []) := by
          intro kf
          induction kf with
          | zero => intro x_10 x_11 i12 H locs ls hk; exact absurd hk (Nat.not_lt_zero _)
          | succ kf ih15_14 =>
            intro x_10 x_11 i12 H locs ls hk15_14 hP hD hS hl
            refine lv_iload hx hb dX8_trusting_15 (lv_at hl 4 rfl) ?_
            refine lv_aload_n hx hb dX8_trusting_17 rfl (lv_at hl 0 rfl) ?_
            refine va_get (D := g.1) (ci := 7) (v := .int pe) (C := RX9) (T := TX9) (N := 19) hx hb hts izRX9 hown hK hP 0 rfl rfl 0 (by decide) (hts _ k500) (fun _ h9 => h9) rfl dX8_trusting_18 ?_
            refine lv_icmp_ge (tgt := 61) hx hb dX8_trusting_21 (by decide) (fun cb9 => ?_) (fun cb9 => ?_)
            · skip
              have c15 : pe.toInt ≤ x_11.toInt := zle cb9 rfl rfl
              have n16 : 1 ≤ x_11.toInt := Int.le_trans n9 c15
              refine ziinc3 (n' := 1) (a' := 1) (b' := 8) (lv' := fun v9 => [(3, .int v9), (0, .ref o), (1, .int st0), (2, .int x_10), (4, .int x_11)]) hx hb dX8_trusting_61 hl (k := 3) rfl (by decide) (fun _ => rfl) (zaddK (i := x_2.toInt) (j := 1) rfl (by decide) i3.1 n8 (Int.le_refl _) (Int.le_refl _) (by decide)) (fun x_17 ls hx_17 hl => ?_)
              refine lv_goto (tgt := 4) hx hb dX8_trusting_64 (by decide) ?_
              have hl := lv_sub (l' := [(0, .ref o), (1, .int st0), (2, .int x_10), (3, .int x_17), (4, .int x_11)]) hl [1, 2, 3, 0, 4] rfl
              have hP : va_P g.1 vwCl (List.flatten [bTown g o a pe wo tx ch jo tr dy sd f]) H := hP
              have hD : va_D A (List.flatten [bTown g o a pe wo tx ch jo tr dy sd f]) := hD
              exact ih4_5 x_10 x_17 ⟨(Int.le_trans (by decide) hx_17.2.1), hx_17.2.2⟩ H _ ls (zmK hx_17.1 (by decide) n8 (by decide) hk4_5)  hP hD hS (lv_sub hl [0, 1, 2, 3] rfl)
            · skip
              have c18 : x_11.toInt < pe.toInt := zlti (Int32.not_le.mp cb9) rfl rfl
              have n19 : x_11.toInt ≤ 7 := zL1 (b := 8) c18 b_pe.2 (by decide)
              refine lv_iload hx hb dX8_trusting_24 (lv_at hl 4 rfl) ?_
              refine lv_iload_n hx hb dX8_trusting_26 rfl (lv_at hl 3 rfl) ?_
              refine lv_icmp_eq (tgt := 55) hx hb dX8_trusting_27 (by decide) (fun cb9 => ?_) (fun cb9 => ?_)
              · skip
                have c20 : x_11.toInt = x_2.toInt := zeq cb9 rfl rfl
                refine ziinc3 (n' := 1) (a' := 1) (b' := 8) (lv' := fun v9 => [(4, .int v9), (0, .ref o), (1, .int st0), (2, .int x_10), (3, .int x_2)]) hx hb dX8_trusting_55 hl (k := 4) rfl (by decide) (fun _ => rfl) (zaddK (i := x_11.toInt) (j := 1) rfl (by decide) i12.1 n19 (Int.le_refl _) (Int.le_refl _) (by decide)) (fun x_21 ls hx_21 hl => ?_)
                refine lv_goto (tgt := 15) hx hb dX8_trusting_58 (by decide) ?_
                have hl := lv_sub (l' := [(0, .ref o), (1, .int st0), (2, .int x_10), (3, .int x_2), (4, .int x_21)]) hl [1, 2, 3, 4, 0] rfl
                have hP : va_P g.1 vwCl (List.flatten [bTown g o a pe wo tx ch jo tr dy sd f]) H := hP
                have hD : va_D A (List.flatten [bTown g o a pe wo tx ch jo tr dy sd f]) := hD
                exact ih15_14 x_10 x_21 ⟨(Int.le_trans (by decide) hx_21.2.1), hx_21.2.2⟩ H _ ls (zmK hx_21.1 (by decide) n19 (by decide) hk15_14)  hP hD hS (lv_sub hl [0, 1, 2, 3, 4] rfl)
              · skip
                have c22 : ¬ x_11.toInt = x_2.toInt := zne cb9 rfl rfl
                refine lv_iload_n hx hb dX8_trusting_30 rfl (lv_at hl 1 rfl) ?_
                refine lv_iload hx hb dX8_trusting_31 (lv_at hl 4 rfl) ?_
                refine lv_ishr hx hb dX8_trusting_33 ?_
                refine zg (fun x_23 => ?_)
                refine lv_iconst (v := 1) hx hb dX8_trusting_34 (by decide) ?_
                refine lv_iand hx hb dX8_trusting_35 ?_
                refine zgb (zand1 _) (fun x_24 hx_24 => ?_)
                refine lv_if_eq (tgt := 55) hx hb dX8_trusting_36 (by decide) (fun cb9 => ?_) (fun cb9 => ?_)
                · skip
                  have c25 : x_24.toInt = 0 := zeq cb9 rfl (by decide)
                  have n26 : x_24.toInt ≤ 0 := Int.le_trans (Int.le_of_eq c25) (Int.le_refl _)
                  refine ziinc3 (n' := 1) (a' := 1) (b' := 8) (lv' := fun v9 => [(4, .int v9), (0, .ref o), (1, .int st0), (2, .int x_10), (3, .int x_2)]) hx hb dX8_trusting_55 hl (k := 4) rfl (by decide) (fun _ => rfl) (zaddK (i := x_11.toInt) (j := 1) rfl (by decide) i12.1 n19 (Int.le_refl _) (Int.le_refl _) (by decide)) (fun x_27 ls hx_27 hl => ?_)
                  refine lv_goto (tgt := 15) hx hb dX8_trusting_58 (by decide) ?_
                  have hl := lv_sub (l' := [(0, .ref o), (1, .int st0), (2, .int x_10), (3, .int x_2), (4, .int x_27)]) hl [1, 2, 3, 4, 0] rfl
                  have hP : va_P g.1 vwCl (List.flatten [bTown g o a pe wo tx ch jo tr dy sd f]) H := hP
                  have hD : va_D A (List.flatten [bTown g o a pe wo tx ch jo tr dy sd f]) := hD
                  exact ih15_14 x_10 x_27 ⟨(Int.le_trans (by decide) hx_27.2.1), hx_27.2.2⟩ H _ ls (zmK hx_27.1 (by decide) n19 (by decide) hk15_14)  hP hD hS (lv_sub hl [0, 1, 2, 3, 4] rfl)
                · skip
                  have c28 : ¬ x_24.toInt = 0 := zne cb9 rfl (by decide)
                  have n29 : 1 ≤ x_24.toInt := zN1 c28 hx_24.1 (by decide)
                  refine lv_aload_n hx hb dX8_trusting_39 rfl (lv_at hl 0 rfl) ?_
                  refine lv_iload_n hx hb dX8_trusting_40 rfl (lv_at hl 3 rfl) ?_
                  refine lv_iload hx hb dX8_trusting_41 (lv_at hl 4 rfl) ?_
                  refine mcallV' (g := g) (q0 := 0) (ci := 7) (As := [.int x_2, .int x_11]) (rest := []) St hK hT hA hP hD hS hl.1 [0] [] rfl rfl rfl (c_trustOf l g o a pe wo tx ch jo tr dy sd f x_2 x_11 (⟨i3.1, n8⟩) (⟨i12.1, n19⟩)) (cwV 2 hts (zgL (zl4 k501 k90 k91 k24) k87) rfl rfl rfl (by decide +kernel) ⟨Nat.le_of_ble_eq_true rfl, Nat.le_of_ble_eq_true rfl⟩) rfl rfl rfl rfl (Nat.le_of_ble_eq_true rfl) dX8_trusting_43 ⟨(Nat.le_of_ble_eq_true rfl), (Nat.le_of_ble_eq_true rfl)⟩ (fun q_30 H locs hq31 hP hD hS => ?_)
                  have hP : va_P g.1 vwCl (List.flatten [bTown g o a pe wo tx ch jo tr dy sd f]) H := hP
                  have hD : va_D A (List.flatten [bTown g o a pe wo tx ch jo tr dy sd f]) := hD
                  refine W.widen (k := 0) (n := 0) (Nat.le_of_ble_eq_true rfl) (Nat.le_of_ble_eq_true rfl) ?_
                  refine W.eq (g2 := F0 m 46 ls [.int q_30]) rfl ?_
                  refine lv_if_le (tgt := 55) hx hb dX8_trusting_46 (by decide) (fun cb9 => ?_) (fun cb9 => ?_)
                  · skip
                    have c32 : q_30.toInt ≤ 0 := zle cb9 rfl (by decide)
                    have n33 : q_30.toInt ≤ 0 := Int.le_trans c32 (Int.le_refl _)
                    refine ziinc3 (n' := 1) (a' := 1) (b' := 8) (lv' := fun v9 => [(4, .int v9), (0, .ref o), (1, .int st0), (2, .int x_10), (3, .int x_2)]) hx hb dX8_trusting_55 hl (k := 4) rfl (by decide) (fun _ => rfl) (zaddK (i := x_11.toInt) (j := 1) rfl (by decide) i12.1 n19 (Int.le_refl _) (Int.le_refl _) (by decide)) (fun x_34 ls hx_34 hl => ?_)
                    refine lv_goto (tgt := 15) hx hb dX8_trusting_58 (by decide) ?_
                    have hl := lv_sub (l' := [(0, .ref o), (1, .int st0), (2, .int x_10), (3, .int x_2), (4, .int x_34)]) hl [1, 2, 3, 4, 0] rfl
                    have hP : va_P g.1 vwCl (List.flatten [bTown g o a pe wo tx ch jo tr dy sd f]) H := hP
                    have hD : va_D A (List.flatten [bTown g o a pe wo tx ch jo tr dy sd f]) := hD
                    exact ih15_14 x_10 x_34 ⟨(Int.le_trans (by decide) hx_34.2.1), hx_34.2.2⟩ H _ ls (zmK hx_34.1 (by decide) n19 (by decide) hk15_14)  hP hD hS (lv_sub hl [0, 1, 2, 3, 4] rfl)
                  · skip
                    have c35 : 0 < q_30.toInt := zlti (Int32.not_le.mp cb9) (by decide) rfl
                    have n36 : 1 ≤ q_30.toInt := zL2 (a := 0) c35 (Int.le_refl _) (by decide)
                    refine lv_iload_n hx hb dX8_trusting_49 rfl (lv_at hl 2 rfl) ?_
                    refine lv_iconst (v := 1) hx hb dX8_trusting_50 (by decide) ?_
                    refine lv_iload_n hx hb dX8_trusting_51 rfl (lv_at hl 3 rfl) ?_
                    refine lv_ishl hx hb dX8_trusting_52 ?_
                    refine zgb (zshl1 (j := x_2.toInt) rfl 7 128 (by decide) (by decide) ⟨i3.1, n8⟩) (fun x_37 hx_37 => ?_)
                    refine lv_ior hx hb dX8_trusting_53 ?_
                    refine zg (fun x_38 => ?_)
                    refine lv_istore_n (lv' := [(2, .int x_38), (0, .ref o), (1, .int st0), (3, .int x_2), (4, .int x_11)]) hx hb dX8_trusting_54 rfl hl (by decide) rfl (fun ls hl => ?_)
                    refine ziinc3 (n' := 1) (a' := 1) (b' := 8) (lv' := fun v9 => [(4, .int v9), (2, .int x_38), (0, .ref o), (1, .int st0), (3, .int x_2)]) hx hb dX8_trusting_55 hl (k := 4) rfl (by decide) (fun _ => rfl) (zaddK (i := x_11.toInt) (j := 1) rfl (by decide) i12.1 n19 (Int.le_refl _) (Int.le_refl _) (by decide)) (fun x_39 ls hx_39 hl => ?_)
                    refine lv_goto (tgt := 15) hx hb dX8_trusting_58 (by decide) ?_
                    have hl := lv_sub (l' := [(0, .ref o), (1, .int st0), (2, .int x_38), (3, .int x_2), (4, .int x_39)]) hl [2, 3, 1, 4, 0] rfl
                    have hP : va_P g.1 vwCl (List.flatten [bTown g o a pe wo tx ch jo tr dy sd f]) H := hP
                    have hD : va_D A (List.flatten [bTown g o a pe wo tx ch jo tr dy sd f]) := hD
                    exact ih15_14 x_38 x_39 ⟨(Int.le_trans (by decide) hx_39.2.1), hx_39.2.2⟩ H _ ls (zmK hx_39.1 (by decide) n19 (by decide) hk15_14)  hP hD hS (lv_sub hl [0, 1, 2, 3, 4] rfl)
        have hP : va_P g.1 vwCl (List.flatten [bTown g o a pe wo tx ch jo tr dy sd f]) H := hP
        have hD : va_D A (List.flatten [bTown g o a pe wo tx ch jo tr dy sd f]) := hD
        exact LP15_13 _ x_1 0 (by decide) H _ ls (Nat.lt_succ_self _)  hP hD hS (lv_sub hl [0, 1, 2, 3, 4] rfl)
  have hP : va_P g.1 vwCl (List.flatten [bTown g o a pe wo tx ch jo tr dy sd f]) s.heap := hP
  have hD : va_D A (List.flatten [bTown g o a pe wo tx ch jo tr dy sd f]) := hD
  exact LP4_4 _ 0 0 (by decide) s.heap _ ls (Nat.lt_succ_self _)  hP hD hS (lv_sub hl [0, 1, 2, 3] rfl)
