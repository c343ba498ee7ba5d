set_option maxRecDepth 100000 in
set_option maxHeartbeats 4000000 in
theorem c_comeBackN (l : Launch) (g : zG) (o : Nat) (a : Nat → Nat) (pe : Int32) (wo : Int32) (tx : Int32) (ch : Int32) (jo : Int32) (tr : Int32) (dy : Int32) (sd : Int32) (f : Nat → Nat → Int32) (tl : Int32) (b_pe : 0 ≤ pe.toInt ∧ pe.toInt ≤ 8) (b_wo : 0 ≤ wo.toInt ∧ wo.toInt ≤ 6) (rf : zZ4 f) : zM' g l yX9_comeBack (Cond.code yX9_comeBack cX9_comeBack 5 none :: zB) ({ frames := 4, cells := 0, slots := 0, locals := 80 } : Room) [.ref o, .int tl, .null] [bTown g o a pe wo tx ch jo tr dy sd f] (fun u : Int32 × (Nat → Nat → Int32) => (fun (sd2 : Int32) (f2 : Nat → Nat → Int32) => none) (u.1) (u.2)) (fun u : Int32 × (Nat → Nat → Int32) => (fun (sd2 : Int32) (f2 : Nat → Nat → Int32) => (zZ4 f2)) (u.1) (u.2)) (fun u : Int32 × (Nat → Nat → Int32) => (fun (sd2 : Int32) (f2 : Nat → Nat → Int32) => [bTown g o a pe wo tx ch jo tr dy sd2 f2]) (u.1) (u.2)) := by
  refine zM'.of (cc := cX9_comeBack) (maxL := 5) (rt := none) (by decide) rfl (Nat.le_of_ble_eq_true rfl) ?_
  intro p e s m args below meth c A ls St hr hlocks hin hK hT hA hP hD hS hl
  obtain ⟨hx, hb, hml, hown, hts⟩ := id St
  have hl : lv_has ls 5 [(0, .ref o), (1, .int tl), (2, .null)] := hl
  refine lv_iconst (v := 0) hx hb dX9_comeBack_0 (by decide) ?_
  refine lv_istore_n (lv' := [(3, .int 0), (0, .ref o), (1, .int tl), (2, .null)]) hx hb dX9_comeBack_1 rfl hl (by decide) rfl (fun ls hl => ?_)
  have hl := lv_sub (l' := [(0, .ref o), (1, .int tl), (2, .null), (3, .int 0)]) hl [1, 2, 3, 0] rfl
  have LP2_5 : ∀ (kf : Nat) (x_1 : Int32) (x_2 : Int32) (f_3 : Nat → Nat → Int32), (0 ≤ x_1.toInt ∧ x_1.toInt ≤ 8) → (zZ4 f_3) → ∀ (H : Heap) (locs : List Loc) (ls : Array Slot), ((9 - x_1.toInt).toNat) < kf → va_P g.1 vwCl (List.flatten [bTown g o a pe wo tx ch jo tr dy x_2 f_3]) H → va_D A (List.flatten [bTown g o a pe wo tx ch jo tr dy x_2 f_3]) → va_S A s.heap H locs → lv_has ls 5 [(0, .ref o), (1, .int tl), (2, .null), (3, .int x_1)] → W p l e ({ frames := 4, cells := 0, slots := 0, locals := 80 } : Room) s m args below meth c H locs (0) (0) (zF g (fun u : Int32 × (Nat → Nat → Int32) => (fun (sd2 : Int32) (f2 : Nat → Nat → Int32) => none) (u.1) (u.2)) (fun u : Int32 × (Nat → Nat → Int32) => (fun (sd2 : Int32) (f2 : Nat → Nat → Int32) => (zZ4 f2)) (u.1) (u.2)) (fun u : Int32 × (Nat → Nat → Int32) => (fun (sd2 : Int32) (f2 : Nat → Nat → Int32) => [bTown g o a pe wo tx ch jo tr dy sd2 f2]) (u.1) (u.2)) ({ frames := 4, cells := 0, slots := 0, locals := 80 } : Room) below args s A) (F0 m 2 ls []) := by
    intro kf
    induction kf with
    | zero => intro x_1 x_2 f_3 i4 rf_3 H locs ls hk; exact absurd hk (Nat.not_lt_zero _)
    | succ kf ih2_6 =>
      intro x_1 x_2 f_3 i4 rf_3 H locs ls hk2_6 hP hD hS hl
      refine lv_iload_n hx hb dX9_comeBack_2 rfl (lv_at hl 3 rfl) ?_
      refine lv_aload_n hx hb dX9_comeBack_3 rfl (lv_at hl 0 rfl) ?_
      refine va_get (D := g.1) (ci := 7) (v := .int pe) (C := RX9) (T := TX9) (N := 19) hx hb hts izRX9 hown hK hP 0 rfl rfl 0 (by decide) (hts _ k31) (fun _ h9 => h9) rfl dX9_comeBack_4 ?_
      refine lv_icmp_ge (tgt := 92) hx hb dX9_comeBack_7 (by decide) (fun cb9 => ?_) (fun cb9 => ?_)
      · skip
        have c7 : pe.toInt ≤ x_1.toInt := zle cb9 rfl rfl
        have hP : va_P g.1 vwCl (List.flatten [bTown g o a pe wo tx ch jo tr dy x_2 f_3]) H := hP
        have hD : va_D A (List.flatten [bTown g o a pe wo tx ch jo tr dy x_2 f_3]) := hD
        exact mret_v hx hb hr hlocks hS (Nat.le_of_ble_eq_true rfl) (Nat.le_of_ble_eq_true rfl) dX9_comeBack_92 (x_2, f_3) rfl (show (zZ4 f_3) from rf_3) hP hD
      · skip
        have c8 : x_1.toInt < pe.toInt := zlti (Int32.not_le.mp cb9) rfl rfl
        have n9 : x_1.toInt ≤ 7 := zL1 (b := 8) c8 b_pe.2 (by decide)
        have n10 : 1 ≤ pe.toInt := zL2 (a := 0) c8 i4.1 (by decide)
        refine lv_aload_n hx hb dX9_comeBack_10 rfl (lv_at hl 0 rfl) ?_
        refine lv_iload_n hx hb dX9_comeBack_11 rfl (lv_at hl 3 rfl) ?_
        refine mcallV' (g := g) (q0 := 0) (ci := 7) (As := [.int x_1]) (rest := []) St hK hT hA hP hD hS hl.1 [0] [] rfl rfl rfl (c_isHere l g o a pe wo tx ch jo tr dy x_2 f_3 x_1 (⟨i4.1, n9⟩)) (cwV 1 hts (zgL (zl4 k53 k54 k55 k24) k51) rfl rfl rfl (by decide +kernel) ⟨Nat.le_of_ble_eq_true rfl, Nat.le_of_ble_eq_true rfl⟩) rfl rfl rfl rfl (Nat.le_of_ble_eq_true rfl) dX9_comeBack_12 ⟨(Nat.le_of_ble_eq_true rfl), (Nat.le_of_ble_eq_true rfl)⟩ (fun q_11 H locs hq12 hP hD hS => ?_)
        replace hq12 : (q_11 = 0 ∨ q_11 = 1) := hq12
        have hP : va_P g.1 vwCl (List.flatten [bTown g o a pe wo tx ch jo tr dy x_2 f_3]) H := hP
        have hD : va_D A (List.flatten [bTown g o a pe wo tx ch jo tr dy x_2 f_3]) := hD
        refine W.widen (k := 0) (n := 0) (Nat.le_of_ble_eq_true rfl) (Nat.le_of_ble_eq_true rfl) ?_
        refine W.eq (g2 := F0 m 15 ls [.int q_11]) rfl ?_
        rcases hq12 with rfl | rfl
        · skip
          refine lv_if_ne (tgt := 86) hx hb dX9_comeBack_15 (by decide) (fun c13 => absurd (by decide) c13) (fun _ => ?_)
          refine lv_aload_n hx hb dX9_comeBack_18 rfl (lv_at hl 0 rfl) ?_
          refine va_get (D := g.1) (ci := 7) (v := .ref (a 3)) (C := RX9) (T := TX9) (N := 19) hx hb hts izRX9 hown hK hP 0 rfl rfl 11 (by decide) (hts _ k12) (fun _ h9 => h9) rfl dX9_comeBack_19 ?_
          refine lv_iload_n hx hb dX9_comeBack_22 rfl (lv_at hl 3 rfl) ?_
          refine va_iald hx hb hK hP 4 0 rfl rfl (zinK (a := 0) (b := 7) i4.1 n9 (by decide)) dX9_comeBack_23 ?_
          refine zg (fun x_14 => ?_)
          refine lv_aload_n hx hb dX9_comeBack_24 rfl (lv_at hl 0 rfl) ?_
          refine va_get (D := g.1) (ci := 7) (v := .int dy) (C := RX9) (T := TX9) (N := 19) hx hb hts izRX9 hown hK hP 0 rfl rfl 6 (by decide) (hts _ k34) (fun _ h9 => h9) rfl dX9_comeBack_25 ?_
          refine lv_icmp_gt (tgt := 86) hx hb dX9_comeBack_28 (by decide) (fun cb9 => ?_) (fun cb9 => ?_)
          · skip
            have c15 : dy.toInt < x_14.toInt := zlti cb9 rfl rfl
            refine ziinc3 (n' := 1) (a' := 1) (b' := 8) (lv' := fun v9 => [(3, .int v9), (0, .ref o), (1, .int tl), (2, .null)]) hx hb dX9_comeBack_86 hl (k := 3) rfl (by decide) (fun _ => rfl) (zaddK (i := x_1.toInt) (j := 1) rfl (by decide) i4.1 n9 (Int.le_refl _) (Int.le_refl _) (by decide)) (fun x_16 ls hx_16 hl => ?_)
            refine lv_goto (tgt := 2) hx hb dX9_comeBack_89 (by decide) ?_
            have hl := lv_sub (l' := [(0, .ref o), (1, .int tl), (2, .null), (3, .int x_16)]) hl [1, 2, 3, 0] rfl
            have hP : va_P g.1 vwCl (List.flatten [bTown g o a pe wo tx ch jo tr dy x_2 f_3]) H := hP
            have hD : va_D A (List.flatten [bTown g o a pe wo tx ch jo tr dy x_2 f_3]) := hD
            exact ih2_6 x_16 x_2 f_3 ⟨(Int.le_trans (by decide) hx_16.2.1), hx_16.2.2⟩ rf_3 H _ ls (zmK hx_16.1 (by decide) n9 (by decide) hk2_6)  hP hD hS (lv_sub hl [0, 1, 2, 3] rfl)
          · skip
            have c17 : x_14.toInt ≤ dy.toInt := zle (Int32.not_lt.mp cb9) rfl rfl
            refine lv_aload_n hx hb dX9_comeBack_31 rfl (lv_at hl 0 rfl) ?_
            refine va_get (D := g.1) (ci := 7) (v := .ref (a 3)) (C := RX9) (T := TX9) (N := 19) hx hb hts izRX9 hown hK hP 0 rfl rfl 11 (by decide) (hts _ k12) (fun _ h9 => h9) rfl dX9_comeBack_32 ?_
            refine lv_iload_n hx hb dX9_comeBack_35 rfl (lv_at hl 3 rfl) ?_
            refine lv_iconst (v := (-1)) hx hb dX9_comeBack_36 (by decide) ?_
            refine va_iast hx hb hK hP hD hS 4 0 rfl rfl (zinK (a := 0) (b := 7) i4.1 n9 (by decide)) dX9_comeBack_37 (fun H locs hP hD hS => ?_)
            obtain ⟨f18, rf18, hP, hD⟩ : ∃ f18 : Nat → Nat → Int32, zZ4 f18 ∧ va_P g.1 vwCl (List.flatten [bTown g o a pe wo tx ch jo tr dy x_2 f18]) H ∧ va_D A (List.flatten [bTown g o a pe wo tx ch jo tr dy x_2 f18]) := ⟨zu f_3 3 (upd (f_3 3) x_1.toNatClampNeg (-1)), (zZ4_u rf_3 (by decide)), hP, hD⟩
            refine lv_iload_n hx hb dX9_comeBack_38 rfl (lv_at hl 1 rfl) ?_
            refine lv_if_eq (tgt := 86) hx hb dX9_comeBack_39 (by decide) (fun cb9 => ?_) (fun cb9 => ?_)
            · skip
              have c19 : tl.toInt = 0 := zeq cb9 rfl (by decide)
              have n20 : 0 ≤ tl.toInt := Int.le_trans (Int.le_refl _) (Int.le_of_eq c19.symm)
              have n21 : tl.toInt ≤ 0 := Int.le_trans (Int.le_of_eq c19) (Int.le_refl _)
              refine ziinc3 (n' := 1) (a' := 1) (b' := 8) (lv' := fun v9 => [(3, .int v9), (0, .ref o), (1, .int tl), (2, .null)]) hx hb dX9_comeBack_86 hl (k := 3) rfl (by decide) (fun _ => rfl) (zaddK (i := x_1.toInt) (j := 1) rfl (by decide) i4.1 n9 (Int.le_refl _) (Int.le_refl _) (by decide)) (fun x_22 ls hx_22 hl => ?_)
              refine lv_goto (tgt := 2) hx hb dX9_comeBack_89 (by decide) ?_
              have hl := lv_sub (l' := [(0, .ref o), (1, .int tl), (2, .null), (3, .int x_22)]) hl [1, 2, 3, 0] rfl
              have hP : va_P g.1 vwCl (List.flatten [bTown g o a pe wo tx ch jo tr dy x_2 f18]) H := hP
              have hD : va_D A (List.flatten [bTown g o a pe wo tx ch jo tr dy x_2 f18]) := hD
              exact ih2_6 x_22 x_2 f18 ⟨(Int.le_trans (by decide) hx_22.2.1), hx_22.2.2⟩ rf18 H _ ls (zmK hx_22.1 (by decide) n9 (by decide) hk2_6)  hP hD hS (lv_sub hl [0, 1, 2, 3] rfl)
            · skip
              have c23 : ¬ tl.toInt = 0 := zne cb9 rfl (by decide)
              refine lv_aload_n hx hb dX9_comeBack_42 rfl (lv_at hl 0 rfl) ?_
              refine mcallV' (g := g) (q0 := 0) (ci := 7) (As := []) (rest := []) St hK hT hA hP hD hS hl.1 [0] [] rfl rfl rfl (c_draw l g o a pe wo tx ch jo tr dy x_2 f18 ) (cwV 0 hts (zgL (zl4 k135 k136 k137 k24) k129) rfl rfl rfl (by decide +kernel) ⟨Nat.le_of_ble_eq_true rfl, Nat.le_of_ble_eq_true rfl⟩) rfl rfl rfl rfl (Nat.le_of_ble_eq_true rfl) dX9_comeBack_43 ⟨(Nat.le_of_ble_eq_true rfl), (Nat.le_of_ble_eq_true rfl)⟩ (fun u_ H locs hq26 hP hD hS => ?_)
              obtain ⟨sd2_24, q_25⟩ := u_
              have hP : va_P g.1 vwCl (List.flatten [bTown g o a pe wo tx ch jo tr dy sd2_24 f18]) H := hP
              have hD : va_D A (List.flatten [bTown g o a pe wo tx ch jo tr dy sd2_24 f18]) := hD
              refine W.widen (k := 0) (n := 0) (Nat.le_of_ble_eq_true rfl) (Nat.le_of_ble_eq_true rfl) ?_
              refine W.eq (g2 := F0 m 46 ls [.int q_25]) rfl ?_
              refine lv_bipush (v := 100) hx hb dX9_comeBack_46 (by decide) ?_
              refine lv_irem hx hb dX9_comeBack_48 (by decide) ?_
              refine zg (fun x_27 => ?_)
              refine lv_aload_n hx hb dX9_comeBack_49 rfl (lv_at hl 0 rfl) ?_
              refine va_get (D := g.1) (ci := 7) (v := .int tr) (C := RX9) (T := TX9) (N := 19) hx hb hts izRX9 hown hK hP 0 rfl rfl 5 (by decide) (hts _ k6) (fun _ h9 => h9) rfl dX9_comeBack_50 ?_
              refine lv_icmp_ge (tgt := 60) hx hb dX9_comeBack_53 (by decide) (fun cb9 => ?_) (fun cb9 => ?_)
              · skip
                have c28 : tr.toInt ≤ x_27.toInt := zle cb9 rfl rfl
                refine lv_iconst (v := 0) hx hb dX9_comeBack_60 (by decide) ?_
                refine lv_istore (lv' := [(4, .int 0), (0, .ref o), (1, .int tl), (2, .null), (3, .int x_1)]) hx hb dX9_comeBack_61 hl (by decide) rfl (fun ls hl => ?_)
                refine lv_aload_n hx hb dX9_comeBack_63 rfl (lv_at hl 1 rfl) ?_
                refine lv_iload_n hx hb dX9_comeBack_64 rfl (lv_at hl 4 rfl) ?_
                refine lv_iload hx hb dX9_comeBack_65 (lv_at hl 0 rfl) ?_
                refine mcallV' (g := g) (q0 := 0) (ci := 7) (As := [.int x_1, .int 0]) (rest := []) St hK hT hA hP hD hS hl.1 [0] [] rfl rfl rfl (c_spread l g o a pe wo tx ch jo tr dy sd2_24 f18 x_1 0 b_pe b_wo rf18 (⟨i4.1, n9⟩)) (cwV 2 hts (zgL (zl4 k138 k139 k140 k24) k134) rfl rfl rfl (by decide +kernel) ⟨Nat.le_of_ble_eq_true rfl, Nat.le_of_ble_eq_true rfl⟩) rfl rfl rfl rfl (Nat.le_of_ble_eq_true rfl) dX9_comeBack_67 ⟨(Nat.le_of_ble_eq_true rfl), (Nat.le_of_ble_eq_true rfl)⟩ (fun f2_29 H locs hq30 hP hD hS => ?_)
                replace hq30 : (zZ4 f2_29) := hq30
                have hP : va_P g.1 vwCl (List.flatten [bTown g o a pe wo tx ch jo tr dy sd2_24 f2_29]) H := hP
                have hD : va_D A (List.flatten [bTown g o a pe wo tx ch jo tr dy sd2_24 f2_29]) := hD
                refine W.widen (k := 0) (n := 0) (Nat.le_of_ble_eq_true rfl) (Nat.le_of_ble_eq_true rfl) ?_
                refine W.eq (g2 := F0 m 70 ls []) rfl ?_
                have rf2_29 := hq30; clear hq30
                refine lv_aload_n hx hb dX9_comeBack_70 rfl (lv_at hl 1 rfl) ?_
                refine lv_aload_nN hx hb dX9_comeBack_71 rfl (lv_at hl 3 rfl) ?_
                refine lv_iload_n hx hb dX9_comeBack_72 rfl (lv_at hl 4 rfl) ?_
                refine lv_iload hx hb dX9_comeBack_73 (lv_at hl 0 rfl) ?_
                refine lv_if_eq (tgt := 82) hx hb dX9_comeBack_75 (by decide) (fun _ => ?_) (fun c31 => absurd (by decide) c31)
                refine lv_iconst (v := 3) hx hb dX9_comeBack_82 (by decide) ?_
                refine mcallV' (g := g) (q0 := 0) (ci := 7) (As := [.null, .int x_1, .int 3]) (rest := []) St hK hT hA hP hD hS hl.1 [0] [] rfl rfl rfl (c_writeN l g o a pe wo tx ch jo tr dy sd2_24 f2_29 x_1 3 b_pe b_wo rf2_29) (cwV 3 hts (zgL (zl4 k125 k126 k127 k24) k124) rfl rfl rfl (by decide +kernel) ⟨Nat.le_of_ble_eq_true rfl, Nat.le_of_ble_eq_true rfl⟩) rfl rfl rfl rfl (Nat.le_of_ble_eq_true rfl) dX9_comeBack_83 ⟨(Nat.le_of_ble_eq_true rfl), (Nat.le_of_ble_eq_true rfl)⟩ (fun _u H locs hq32 hP hD hS => ?_)
                have hP : va_P g.1 vwCl (List.flatten [bTown g o a pe wo tx ch jo tr dy sd2_24 f2_29]) H := hP
                have hD : va_D A (List.flatten [bTown g o a pe wo tx ch jo tr dy sd2_24 f2_29]) := hD
                refine W.widen (k := 0) (n := 0) (Nat.le_of_ble_eq_true rfl) (Nat.le_of_ble_eq_true rfl) ?_
                refine W.eq (g2 := F0 m 86 ls []) rfl ?_
                refine ziinc3 (n' := 1) (a' := 1) (b' := 8) (lv' := fun v9 => [(3, .int v9), (4, .int 0), (0, .ref o), (1, .int tl), (2, .null)]) hx hb dX9_comeBack_86 hl (k := 4) rfl (by decide) (fun _ => rfl) (zaddK (i := x_1.toInt) (j := 1) rfl (by decide) i4.1 n9 (Int.le_refl _) (Int.le_refl _) (by decide)) (fun x_33 ls hx_33 hl => ?_)
                refine lv_goto (tgt := 2) hx hb dX9_comeBack_89 (by decide) ?_
                have hl := lv_sub (l' := [(0, .ref o), (1, .int tl), (2, .null), (3, .int x_33), (4, .int 0)]) hl [2, 3, 4, 0, 1] rfl
                have hP : va_P g.1 vwCl (List.flatten [bTown g o a pe wo tx ch jo tr dy sd2_24 f2_29]) H := hP
                have hD : va_D A (List.flatten [bTown g o a pe wo tx ch jo tr dy sd2_24 f2_29]) := hD
                exact ih2_6 x_33 sd2_24 f2_29 ⟨(Int.le_trans (by decide) hx_33.2.1), hx_33.2.2⟩ rf2_29 H _ ls (zmK hx_33.1 (by decide) n9 (by decide) hk2_6)  hP hD hS (lv_sub hl [0, 1, 2, 3] rfl)
              · skip
                have c34 : x_27.toInt < tr.toInt := zlti (Int32.not_le.mp cb9) rfl rfl
                refine lv_iconst (v := 1) hx hb dX9_comeBack_56 (by decide) ?_
                refine lv_goto (tgt := 61) hx hb dX9_comeBack_57 (by decide) ?_
                refine lv_istore (lv' := [(4, .int 1), (0, .ref o), (1, .int tl), (2, .null), (3, .int x_1)]) hx hb dX9_comeBack_61 hl (by decide) rfl (fun ls hl => ?_)
                refine lv_aload_n hx hb dX9_comeBack_63 rfl (lv_at hl 1 rfl) ?_
                refine lv_iload_n hx hb dX9_comeBack_64 rfl (lv_at hl 4 rfl) ?_
                refine lv_iload hx hb dX9_comeBack_65 (lv_at hl 0 rfl) ?_
                refine mcallV' (g := g) (q0 := 0) (ci := 7) (As := [.int x_1, .int 1]) (rest := []) St hK hT hA hP hD hS hl.1 [0] [] rfl rfl rfl (c_spread l g o a pe wo tx ch jo tr dy sd2_24 f18 x_1 1 b_pe b_wo rf18 (⟨i4.1, n9⟩)) (cwV 2 hts (zgL (zl4 k138 k139 k140 k24) k134) rfl rfl rfl (by decide +kernel) ⟨Nat.le_of_ble_eq_true rfl, Nat.le_of_ble_eq_true rfl⟩) rfl rfl rfl rfl (Nat.le_of_ble_eq_true rfl) dX9_comeBack_67 ⟨(Nat.le_of_ble_eq_true rfl), (Nat.le_of_ble_eq_true rfl)⟩ (fun f2_35 H locs hq36 hP hD hS => ?_)
                replace hq36 : (zZ4 f2_35) := hq36
                have hP : va_P g.1 vwCl (List.flatten [bTown g o a pe wo tx ch jo tr dy sd2_24 f2_35]) H := hP
                have hD : va_D A (List.flatten [bTown g o a pe wo tx ch jo tr dy sd2_24 f2_35]) := hD
                refine W.widen (k := 0) (n := 0) (Nat.le_of_ble_eq_true rfl) (Nat.le_of_ble_eq_true rfl) ?_
                refine W.eq (g2 := F0 m 70 ls []) rfl ?_
                have rf2_35 := hq36; clear hq36
                refine lv_aload_n hx hb dX9_comeBack_70 rfl (lv_at hl 1 rfl) ?_
                refine lv_aload_nN hx hb dX9_comeBack_71 rfl (lv_at hl 3 rfl) ?_
                refine lv_iload_n hx hb dX9_comeBack_72 rfl (lv_at hl 4 rfl) ?_
                refine lv_iload hx hb dX9_comeBack_73 (lv_at hl 0 rfl) ?_
                refine lv_if_eq (tgt := 82) hx hb dX9_comeBack_75 (by decide) (fun c37 => absurd c37 (by decide)) (fun _ => ?_)
                refine lv_iconst (v := 2) hx hb dX9_comeBack_78 (by decide) ?_
                refine lv_goto (tgt := 83) hx hb dX9_comeBack_79 (by decide) ?_
                refine mcallV' (g := g) (q0 := 0) (ci := 7) (As := [.null, .int x_1, .int 2]) (rest := []) St hK hT hA hP hD hS hl.1 [0] [] rfl rfl rfl (c_writeN l g o a pe wo tx ch jo tr dy sd2_24 f2_35 x_1 2 b_pe b_wo rf2_35) (cwV 3 hts (zgL (zl4 k125 k126 k127 k24) k124) rfl rfl rfl (by decide +kernel) ⟨Nat.le_of_ble_eq_true rfl, Nat.le_of_ble_eq_true rfl⟩) rfl rfl rfl rfl (Nat.le_of_ble_eq_true rfl) dX9_comeBack_83 ⟨(Nat.le_of_ble_eq_true rfl), (Nat.le_of_ble_eq_true rfl)⟩ (fun _u H locs hq38 hP hD hS => ?_)
                have hP : va_P g.1 vwCl (List.flatten [bTown g o a pe wo tx ch jo tr dy sd2_24 f2_35]) H := hP
                have hD : va_D A (List.flatten [bTown g o a pe wo tx ch jo tr dy sd2_24 f2_35]) := hD
                refine W.widen (k := 0) (n := 0) (Nat.le_of_ble_eq_true rfl) (Nat.le_of_ble_eq_true rfl) ?_
                refine W.eq (g2 := F0 m 86 ls []) rfl ?_
                refine ziinc3 (n' := 1) (a' := 1) (b' := 8) (lv' := fun v9 => [(3, .int v9), (4, .int 1), (0, .ref o), (1, .int tl), (2, .null)]) hx hb dX9_comeBack_86 hl (k := 4) rfl (by decide) (fun _ => rfl) (zaddK (i := x_1.toInt) (j := 1) rfl (by decide) i4.1 n9 (Int.le_refl _) (Int.le_refl _) (by decide)) (fun x_39 ls hx_39 hl => ?_)
                refine lv_goto (tgt := 2) hx hb dX9_comeBack_89 (by decide) ?_
                have hl := lv_sub (l' := [(0, .ref o), (1, .int tl), (2, .null), (3, .int x_39), (4, .int 1)]) hl [2, 3, 4, 0, 1] rfl
                have hP : va_P g.1 vwCl (List.flatten [bTown g o a pe wo tx ch jo tr dy sd2_24 f2_35]) H := hP
                have hD : va_D A (List.flatten [bTown g o a pe wo tx ch jo tr dy sd2_24 f2_35]) := hD
                exact ih2_6 x_39 sd2_24 f2_35 ⟨(Int.le_trans (by decide) hx_39.2.1), hx_39.2.2⟩ rf2_35 H _ ls (zmK hx_39.1 (by decide) n9 (by decide) hk2_6)  hP hD hS (lv_sub hl [0, 1, 2, 3] rfl)
        · skip
          refine lv_if_ne (tgt := 86) hx hb dX9_comeBack_15 (by decide) (fun _ => ?_) (fun c40 => absurd c40 (by decide))
          refine ziinc3 (n' := 1) (a' := 1) (b' := 8) (lv' := fun v9 => [(3, .int v9), (0, .ref o), (1, .int tl), (2, .null)]) hx hb dX9_comeBack_86 hl (k := 3) rfl (by decide) (fun _ => rfl) (zaddK (i := x_1.toInt) (j := 1) rfl (by decide) i4.1 n9 (Int.le_refl _) (Int.le_refl _) (by decide)) (fun x_41 ls hx_41 hl => ?_)
          refine lv_goto (tgt := 2) hx hb dX9_comeBack_89 (by decide) ?_
          have hl := lv_sub (l' := [(0, .ref o), (1, .int tl), (2, .null), (3, .int x_41)]) hl [1, 2, 3, 0] rfl
          have hP : va_P g.1 vwCl (List.flatten [bTown g o a pe wo tx ch jo tr dy x_2 f_3]) H := hP
          have hD : va_D A (List.flatten [bTown g o a pe wo tx ch jo tr dy x_2 f_3]) := hD
          exact ih2_6 x_41 x_2 f_3 ⟨(Int.le_trans (by decide) hx_41.2.1), hx_41.2.2⟩ rf_3 H _ ls (zmK hx_41.1 (by decide) n9 (by decide) hk2_6)  hP hD hS (lv_sub hl [0, 1, 2, 3] rfl)
  have hP : va_P g.1 vwCl (List.flatten [bTown g o a pe wo tx ch jo tr dy sd f]) s.heap := hP
  have hD : va_D A (List.flatten [bTown g o a pe wo tx ch jo tr dy sd f]) := hD
  exact LP2_5 _ 0 sd f (by decide) rf s.heap _ ls (Nat.lt_succ_self _)  hP hD hS (lv_sub hl [0, 1, 2, 3] rfl)
