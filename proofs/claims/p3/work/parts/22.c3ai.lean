set_option maxRecDepth 100000 in
set_option maxHeartbeats 4000000 in
theorem c_comeBack (l : Launch) (g : zG) (o : Nat) (a : Nat → Nat) (pe : Int32) (wo : Int32) (tx : Int32) (ch : Int32) (jo : Int32) (tr : Int32) (dy : Int32) (sd : Int32) (f : Nat → Nat → Int32) (go : Nat) (gr : Nat) (gz : Int32) (gn : Int32) (fr : Nat → Int32) (tl : Int32) (b_pe : 0 ≤ pe.toInt ∧ pe.toInt ≤ 8) (b_wo : 0 ≤ wo.toInt ∧ wo.toInt ≤ 6) (rf : zZ4 f) (b_gz : 0 ≤ gz.toInt ∧ gz.toInt ≤ 60) (b_gn : 0 ≤ gn.toInt ∧ gn.toInt ≤ 59) : zM' g l yX9_comeBack (Cond.code yX9_comeBack cX9_comeBack 5 none :: zB) ({ frames := 4, cells := 0, slots := 0, locals := 80 } : Room) [.ref o, .int tl, .ref go] [bTown g o a pe wo tx ch jo tr dy sd f, bLog g go gr gz gn fr] (fun u : Int32 × (Nat → Nat → Int32) × Int32 × Int32 × (Nat → Int32) => (fun (sd2 : Int32) (f2 : Nat → Nat → Int32) (gz2 : Int32) (gn2 : Int32) (fr2 : Nat → Int32) => none) (u.1) (u.2.1) (u.2.2.1) (u.2.2.2.1) (u.2.2.2.2)) (fun u : Int32 × (Nat → Nat → Int32) × Int32 × Int32 × (Nat → Int32) => (fun (sd2 : Int32) (f2 : Nat → Nat → Int32) (gz2 : Int32) (gn2 : Int32) (fr2 : Nat → Int32) => (zZ4 f2) ∧ (0 ≤ gz2.toInt ∧ gz2.toInt ≤ 60) ∧ (0 ≤ gn2.toInt ∧ gn2.toInt ≤ 59)) (u.1) (u.2.1) (u.2.2.1) (u.2.2.2.1) (u.2.2.2.2)) (fun u : Int32 × (Nat → Nat → Int32) × Int32 × Int32 × (Nat → Int32) => (fun (sd2 : Int32) (f2 : Nat → Nat → Int32) (gz2 : Int32) (gn2 : Int32) (fr2 : Nat → Int32) => [bTown g o a pe wo tx ch jo tr dy sd2 f2, bLog g go gr gz2 gn2 fr2]) (u.1) (u.2.1) (u.2.2.1) (u.2.2.2.1) (u.2.2.2.2)) := by
  refine zM'.of (cc := cX9_comeBack) (maxL := 5) (rt := none) (by decide) rfl (Nat.le_of_ble_eq_true rfl) ?_
  intro p e s m args below meth c A ls St hr hlocks hin hK hT hA hP hD hS hl
  obtain ⟨hx, hb, hml, hown, hts⟩ := id St
  have hl : lv_has ls 5 [(0, .ref o), (1, .int tl), (2, .ref go)] := hl
  refine lv_iconst (v := 0) hx hb dX9_comeBack_0 (by decide) ?_
  refine lv_istore_n (lv' := [(3, .int 0), (0, .ref o), (1, .int tl), (2, .ref go)]) hx hb dX9_comeBack_1 rfl hl (by decide) rfl (fun ls hl => ?_)
  have hl := lv_sub (l' := [(0, .ref o), (1, .int tl), (2, .ref go), (3, .int 0)]) hl [1, 2, 3, 0] rfl
  have LP2_10 : ∀ (kf : Nat) (x_1 : Int32) (x_2 : Int32) (f_3 : Nat → Nat → Int32) (x_4 : Int32) (x_5 : Int32) (fr_6 : Nat → Int32), (0 ≤ x_1.toInt ∧ x_1.toInt ≤ 8) → (zZ4 f_3) → (0 ≤ x_4.toInt ∧ x_4.toInt ≤ 60) → (0 ≤ x_5.toInt ∧ x_5.toInt ≤ 59) → ∀ (H : Heap) (locs : List Loc) (ls : Array Slot), ((9 - x_1.toInt).toNat) < kf → va_P g.1 vwCl (List.flatten [bTown g o a pe wo tx ch jo tr dy x_2 f_3, bLog g go gr x_4 x_5 fr_6]) H → va_D A (List.flatten [bTown g o a pe wo tx ch jo tr dy x_2 f_3, bLog g go gr x_4 x_5 fr_6]) → va_S A s.heap H locs → lv_has ls 5 [(0, .ref o), (1, .int tl), (2, .ref go), (3, .int x_1)] → W p l e ({ frames := 4, cells := 0, slots := 0, locals := 80 } : Room) s m args below meth c H locs (0) (0) (zF g (fun u : Int32 × (Nat → Nat → Int32) × Int32 × Int32 × (Nat → Int32) => (fun (sd2 : Int32) (f2 : Nat → Nat → Int32) (gz2 : Int32) (gn2 : Int32) (fr2 : Nat → Int32) => none) (u.1) (u.2.1) (u.2.2.1) (u.2.2.2.1) (u.2.2.2.2)) (fun u : Int32 × (Nat → Nat → Int32) × Int32 × Int32 × (Nat → Int32) => (fun (sd2 : Int32) (f2 : Nat → Nat → Int32) (gz2 : Int32) (gn2 : Int32) (fr2 : Nat → Int32) => (zZ4 f2) ∧ (0 ≤ gz2.toInt ∧ gz2.toInt ≤ 60) ∧ (0 ≤ gn2.toInt ∧ gn2.toInt ≤ 59)) (u.1) (u.2.1) (u.2.2.1) (u.2.2.2.1) (u.2.2.2.2)) (fun u : Int32 × (Nat → Nat → Int32) × Int32 × Int32 × (Nat → Int32) => (fun (sd2 : Int32) (f2 : Nat → Nat → Int32) (gz2 : Int32) (gn2 : Int32) (fr2 : Nat → Int32) => [bTown g o a pe wo tx ch jo tr dy sd2 f2, bLog g go gr gz2 gn2 fr2]) (u.1) (u.2.1) (u.2.2.1) (u.2.2.2.1) (u.2.2.2.2)) ({ frames := 4, cells := 0, slots := 0, locals := 80 } : Room) below args s A) (F0 m 2 ls []) := by
    intro kf
    induction kf with
    | zero => intro x_1 x_2 f_3 x_4 x_5 fr_6 i7 rf_3 i8 i9 H locs ls hk; exact absurd hk (Nat.not_lt_zero _)
    | succ kf ih2_11 =>
      intro x_1 x_2 f_3 x_4 x_5 fr_6 i7 rf_3 i8 i9 H locs ls hk2_11 hP hD hS hl
      refine lv_iload_n hx hb dX9_comeBack_2 rfl (lv_at hl 3 rfl) ?_
      refine lv_aload_n hx hb dX9_comeBack_3 rfl (lv_at hl 0 rfl) ?_
      refine va_get (D := g.1) (ci := 7) (v := .int pe) (C := RX9) (T := TX9) (N := 19) hx hb hts izRX9 hown hK hP 0 rfl rfl 0 (by decide) (hts _ k31) (fun _ h9 => h9) rfl dX9_comeBack_4 ?_
      refine lv_icmp_ge (tgt := 92) hx hb dX9_comeBack_7 (by decide) (fun cb9 => ?_) (fun cb9 => ?_)
      · skip
        have c12 : pe.toInt ≤ x_1.toInt := zle cb9 rfl rfl
        have hP : va_P g.1 vwCl (List.flatten [bTown g o a pe wo tx ch jo tr dy x_2 f_3, bLog g go gr x_4 x_5 fr_6]) H := hP
        have hD : va_D A (List.flatten [bTown g o a pe wo tx ch jo tr dy x_2 f_3, bLog g go gr x_4 x_5 fr_6]) := hD
        exact mret_v hx hb hr hlocks hS (Nat.le_of_ble_eq_true rfl) (Nat.le_of_ble_eq_true rfl) dX9_comeBack_92 (x_2, f_3, x_4, x_5, fr_6) rfl (show (zZ4 f_3) ∧ (0 ≤ x_4.toInt ∧ x_4.toInt ≤ 60) ∧ (0 ≤ x_5.toInt ∧ x_5.toInt ≤ 59) from ⟨rf_3, i8, i9⟩) hP hD
      · skip
        have c13 : x_1.toInt < pe.toInt := zlti (Int32.not_le.mp cb9) rfl rfl
        have n14 : x_1.toInt ≤ 7 := zL1 (b := 8) c13 b_pe.2 (by decide)
        have n15 : 1 ≤ pe.toInt := zL2 (a := 0) c13 i7.1 (by decide)
        refine lv_aload_n hx hb dX9_comeBack_10 rfl (lv_at hl 0 rfl) ?_
        refine lv_iload_n hx hb dX9_comeBack_11 rfl (lv_at hl 3 rfl) ?_
        refine mcallV' (g := g) (q0 := 0) (ci := 7) (As := [.int x_1]) (rest := []) St hK hT hA hP hD hS hl.1 [0] [1] rfl rfl rfl (c_isHere l g o a pe wo tx ch jo tr dy x_2 f_3 x_1 (⟨i7.1, n14⟩)) (cwV 1 hts (zgL (zl4 k53 k54 k55 k24) k51) rfl rfl rfl (by decide +kernel) ⟨Nat.le_of_ble_eq_true rfl, Nat.le_of_ble_eq_true rfl⟩) rfl rfl rfl rfl (Nat.le_of_ble_eq_true rfl) dX9_comeBack_12 ⟨(Nat.le_of_ble_eq_true rfl), (Nat.le_of_ble_eq_true rfl)⟩ (fun q_16 H locs hq17 hP hD hS => ?_)
        replace hq17 : (q_16 = 0 ∨ q_16 = 1) := hq17
        have hP : va_P g.1 vwCl (List.flatten [bLog g go gr x_4 x_5 fr_6, bTown g o a pe wo tx ch jo tr dy x_2 f_3]) H := hP
        have hD : va_D A (List.flatten [bLog g go gr x_4 x_5 fr_6, bTown g o a pe wo tx ch jo tr dy x_2 f_3]) := hD
        refine W.widen (k := 0) (n := 0) (Nat.le_of_ble_eq_true rfl) (Nat.le_of_ble_eq_true rfl) ?_
        refine W.eq (g2 := F0 m 15 ls [.int q_16]) rfl ?_
        rcases hq17 with rfl | rfl
        · skip
          refine lv_if_ne (tgt := 86) hx hb dX9_comeBack_15 (by decide) (fun c18 => absurd (by decide) c18) (fun _ => ?_)
          refine lv_aload_n hx hb dX9_comeBack_18 rfl (lv_at hl 0 rfl) ?_
          refine va_get (D := g.1) (ci := 7) (v := .ref (a 3)) (C := RX9) (T := TX9) (N := 19) hx hb hts izRX9 hown hK hP 2 rfl rfl 11 (by decide) (hts _ k12) (fun _ h9 => h9) rfl dX9_comeBack_19 ?_
          refine lv_iload_n hx hb dX9_comeBack_22 rfl (lv_at hl 3 rfl) ?_
          refine va_iald hx hb hK hP 6 0 rfl rfl (zinK (a := 0) (b := 7) i7.1 n14 (by decide)) dX9_comeBack_23 ?_
          refine zg (fun x_19 => ?_)
          refine lv_aload_n hx hb dX9_comeBack_24 rfl (lv_at hl 0 rfl) ?_
          refine va_get (D := g.1) (ci := 7) (v := .int dy) (C := RX9) (T := TX9) (N := 19) hx hb hts izRX9 hown hK hP 2 rfl rfl 6 (by decide) (hts _ k34) (fun _ h9 => h9) rfl dX9_comeBack_25 ?_
          refine lv_icmp_gt (tgt := 86) hx hb dX9_comeBack_28 (by decide) (fun cb9 => ?_) (fun cb9 => ?_)
          · skip
            have c20 : dy.toInt < x_19.toInt := zlti cb9 rfl rfl
            refine ziinc3 (n' := 1) (a' := 1) (b' := 8) (lv' := fun v9 => [(3, .int v9), (0, .ref o), (1, .int tl), (2, .ref go)]) hx hb dX9_comeBack_86 hl (k := 3) rfl (by decide) (fun _ => rfl) (zaddK (i := x_1.toInt) (j := 1) rfl (by decide) i7.1 n14 (Int.le_refl _) (Int.le_refl _) (by decide)) (fun x_21 ls hx_21 hl => ?_)
            refine lv_goto (tgt := 2) hx hb dX9_comeBack_89 (by decide) ?_
            have hl := lv_sub (l' := [(0, .ref o), (1, .int tl), (2, .ref go), (3, .int x_21)]) hl [1, 2, 3, 0] rfl
            have hP : va_P g.1 vwCl (List.flatten [bLog g go gr x_4 x_5 fr_6, bTown g o a pe wo tx ch jo tr dy x_2 f_3]) H := hP
            have hD : va_D A (List.flatten [bLog g go gr x_4 x_5 fr_6, bTown g o a pe wo tx ch jo tr dy x_2 f_3]) := hD
            obtain ⟨hP, hD⟩ := zord (g := g) (Bs' := [bTown g o a pe wo tx ch jo tr dy x_2 f_3, bLog g go gr x_4 x_5 fr_6]) [1, 0] rfl rfl hP hD
            have hP : va_P g.1 vwCl (List.flatten [bTown g o a pe wo tx ch jo tr dy x_2 f_3, bLog g go gr x_4 x_5 fr_6]) H := hP
            have hD : va_D A (List.flatten [bTown g o a pe wo tx ch jo tr dy x_2 f_3, bLog g go gr x_4 x_5 fr_6]) := hD
            exact ih2_11 x_21 x_2 f_3 x_4 x_5 fr_6 ⟨(Int.le_trans (by decide) hx_21.2.1), hx_21.2.2⟩ rf_3 ⟨i8.1, i8.2⟩ ⟨i9.1, i9.2⟩ H _ ls (zmK hx_21.1 (by decide) n14 (by decide) hk2_11)  hP hD hS (lv_sub hl [0, 1, 2, 3] rfl)
          · skip
            have c22 : x_19.toInt ≤ dy.toInt := zle (Int32.not_lt.mp cb9) rfl rfl
            refine lv_aload_n hx hb dX9_comeBack_31 rfl (lv_at hl 0 rfl) ?_
            refine va_get (D := g.1) (ci := 7) (v := .ref (a 3)) (C := RX9) (T := TX9) (N := 19) hx hb hts izRX9 hown hK hP 2 rfl rfl 11 (by decide) (hts _ k12) (fun _ h9 => h9) rfl dX9_comeBack_32 ?_
            refine lv_iload_n hx hb dX9_comeBack_35 rfl (lv_at hl 3 rfl) ?_
            refine lv_iconst (v := (-1)) hx hb dX9_comeBack_36 (by decide) ?_
            refine va_iast hx hb hK hP hD hS 6 0 rfl rfl (zinK (a := 0) (b := 7) i7.1 n14 (by decide)) dX9_comeBack_37 (fun H locs hP hD hS => ?_)
            obtain ⟨f23, rf23, hP, hD⟩ : ∃ f23 : Nat → Nat → Int32, zZ4 f23 ∧ va_P g.1 vwCl (List.flatten [bLog g go gr x_4 x_5 fr_6, bTown g o a pe wo tx ch jo tr dy x_2 f23]) H ∧ va_D A (List.flatten [bLog g go gr x_4 x_5 fr_6, bTown g o a pe wo tx ch jo tr dy x_2 f23]) := ⟨zu f_3 3 (upd (f_3 3) x_1.toNatClampNeg (-1)), (zZ4_u rf_3 (by decide)), hP, hD⟩
            refine lv_iload_n hx hb dX9_comeBack_38 rfl (lv_at hl 1 rfl) ?_
            refine lv_if_eq (tgt := 86) hx hb dX9_comeBack_39 (by decide) (fun cb9 => ?_) (fun cb9 => ?_)
            · skip
              have c24 : tl.toInt = 0 := zeq cb9 rfl (by decide)
              have n25 : 0 ≤ tl.toInt := Int.le_trans (Int.le_refl _) (Int.le_of_eq c24.symm)
              have n26 : tl.toInt ≤ 0 := Int.le_trans (Int.le_of_eq c24) (Int.le_refl _)
              refine ziinc3 (n' := 1) (a' := 1) (b' := 8) (lv' := fun v9 => [(3, .int v9), (0, .ref o), (1, .int tl), (2, .ref go)]) hx hb dX9_comeBack_86 hl (k := 3) rfl (by decide) (fun _ => rfl) (zaddK (i := x_1.toInt) (j := 1) rfl (by decide) i7.1 n14 (Int.le_refl _) (Int.le_refl _) (by decide)) (fun x_27 ls hx_27 hl => ?_)
              refine lv_goto (tgt := 2) hx hb dX9_comeBack_89 (by decide) ?_
              have hl := lv_sub (l' := [(0, .ref o), (1, .int tl), (2, .ref go), (3, .int x_27)]) hl [1, 2, 3, 0] rfl
              have hP : va_P g.1 vwCl (List.flatten [bLog g go gr x_4 x_5 fr_6, bTown g o a pe wo tx ch jo tr dy x_2 f23]) H := hP
              have hD : va_D A (List.flatten [bLog g go gr x_4 x_5 fr_6, bTown g o a pe wo tx ch jo tr dy x_2 f23]) := hD
              obtain ⟨hP, hD⟩ := zord (g := g) (Bs' := [bTown g o a pe wo tx ch jo tr dy x_2 f23, bLog g go gr x_4 x_5 fr_6]) [1, 0] rfl rfl hP hD
              have hP : va_P g.1 vwCl (List.flatten [bTown g o a pe wo tx ch jo tr dy x_2 f23, bLog g go gr x_4 x_5 fr_6]) H := hP
              have hD : va_D A (List.flatten [bTown g o a pe wo tx ch jo tr dy x_2 f23, bLog g go gr x_4 x_5 fr_6]) := hD
              exact ih2_11 x_27 x_2 f23 x_4 x_5 fr_6 ⟨(Int.le_trans (by decide) hx_27.2.1), hx_27.2.2⟩ rf23 ⟨i8.1, i8.2⟩ ⟨i9.1, i9.2⟩ H _ ls (zmK hx_27.1 (by decide) n14 (by decide) hk2_11)  hP hD hS (lv_sub hl [0, 1, 2, 3] rfl)
            · skip
              have c28 : ¬ tl.toInt = 0 := zne cb9 rfl (by decide)
              refine lv_aload_n hx hb dX9_comeBack_42 rfl (lv_at hl 0 rfl) ?_
              refine mcallV' (g := g) (q0 := 0) (ci := 7) (As := []) (rest := []) St hK hT hA hP hD hS hl.1 [1] [0] rfl rfl rfl (c_draw l g o a pe wo tx ch jo tr dy x_2 f23 ) (cwV 0 hts (zgL (zl4 k135 k136 k137 k24) k129) rfl rfl rfl (by decide +kernel) ⟨Nat.le_of_ble_eq_true rfl, Nat.le_of_ble_eq_true rfl⟩) rfl rfl rfl rfl (Nat.le_of_ble_eq_true rfl) dX9_comeBack_43 ⟨(Nat.le_of_ble_eq_true rfl), (Nat.le_of_ble_eq_true rfl)⟩ (fun u_ H locs hq31 hP hD hS => ?_)
              obtain ⟨sd2_29, q_30⟩ := u_
              have hP : va_P g.1 vwCl (List.flatten [bLog g go gr x_4 x_5 fr_6, bTown g o a pe wo tx ch jo tr dy sd2_29 f23]) H := hP
              have hD : va_D A (List.flatten [bLog g go gr x_4 x_5 fr_6, bTown g o a pe wo tx ch jo tr dy sd2_29 f23]) := hD
              refine W.widen (k := 0) (n := 0) (Nat.le_of_ble_eq_true rfl) (Nat.le_of_ble_eq_true rfl) ?_
              refine W.eq (g2 := F0 m 46 ls [.int q_30]) rfl ?_
              refine lv_bipush (v := 100) hx hb dX9_comeBack_46 (by decide) ?_
              refine lv_irem hx hb dX9_comeBack_48 (by decide) ?_
              refine zg (fun x_32 => ?_)
              refine lv_aload_n hx hb dX9_comeBack_49 rfl (lv_at hl 0 rfl) ?_
              refine va_get (D := g.1) (ci := 7) (v := .int tr) (C := RX9) (T := TX9) (N := 19) hx hb hts izRX9 hown hK hP 2 rfl rfl 5 (by decide) (hts _ k6) (fun _ h9 => h9) rfl dX9_comeBack_50 ?_
              refine lv_icmp_ge (tgt := 60) hx hb dX9_comeBack_53 (by decide) (fun cb9 => ?_) (fun cb9 => ?_)
              · skip
                have c33 : tr.toInt ≤ x_32.toInt := zle cb9 rfl rfl
                refine lv_iconst (v := 0) hx hb dX9_comeBack_60 (by decide) ?_
                refine lv_istore (lv' := [(4, .int 0), (0, .ref o), (1, .int tl), (2, .ref go), (3, .int x_1)]) hx hb dX9_comeBack_61 hl (by decide) rfl (fun ls hl => ?_)
                refine lv_aload_n hx hb dX9_comeBack_63 rfl (lv_at hl 1 rfl) ?_
                refine lv_iload_n hx hb dX9_comeBack_64 rfl (lv_at hl 4 rfl) ?_
                refine lv_iload hx hb dX9_comeBack_65 (lv_at hl 0 rfl) ?_
                refine mcallV' (g := g) (q0 := 0) (ci := 7) (As := [.int x_1, .int 0]) (rest := []) St hK hT hA hP hD hS hl.1 [1] [0] rfl rfl rfl (c_spread l g o a pe wo tx ch jo tr dy sd2_29 f23 x_1 0 b_pe b_wo rf23 (⟨i7.1, n14⟩)) (cwV 2 hts (zgL (zl4 k138 k139 k140 k24) k134) rfl rfl rfl (by decide +kernel) ⟨Nat.le_of_ble_eq_true rfl, Nat.le_of_ble_eq_true rfl⟩) rfl rfl rfl rfl (Nat.le_of_ble_eq_true rfl) dX9_comeBack_67 ⟨(Nat.le_of_ble_eq_true rfl), (Nat.le_of_ble_eq_true rfl)⟩ (fun f2_34 H locs hq35 hP hD hS => ?_)
                replace hq35 : (zZ4 f2_34) := hq35
                have hP : va_P g.1 vwCl (List.flatten [bLog g go gr x_4 x_5 fr_6, bTown g o a pe wo tx ch jo tr dy sd2_29 f2_34]) H := hP
                have hD : va_D A (List.flatten [bLog g go gr x_4 x_5 fr_6, bTown g o a pe wo tx ch jo tr dy sd2_29 f2_34]) := hD
                refine W.widen (k := 0) (n := 0) (Nat.le_of_ble_eq_true rfl) (Nat.le_of_ble_eq_true rfl) ?_
                refine W.eq (g2 := F0 m 70 ls []) rfl ?_
                have rf2_34 := hq35; clear hq35
                refine lv_aload_n hx hb dX9_comeBack_70 rfl (lv_at hl 1 rfl) ?_
                refine lv_aload_n hx hb dX9_comeBack_71 rfl (lv_at hl 3 rfl) ?_
                refine lv_iload_n hx hb dX9_comeBack_72 rfl (lv_at hl 4 rfl) ?_
                refine lv_iload hx hb dX9_comeBack_73 (lv_at hl 0 rfl) ?_
                refine lv_if_eq (tgt := 82) hx hb dX9_comeBack_75 (by decide) (fun _ => ?_) (fun c36 => absurd (by decide) c36)
                refine lv_iconst (v := 3) hx hb dX9_comeBack_82 (by decide) ?_
                refine mcallV' (g := g) (q0 := 0) (ci := 7) (As := [.ref go, .int x_1, .int 3]) (rest := []) St hK hT hA hP hD hS hl.1 [1, 0] [] rfl rfl rfl (c_write l g o a pe wo tx ch jo tr dy sd2_29 f2_34 go gr x_4 x_5 fr_6 x_1 3 b_pe b_wo rf2_34 i8 i9) (cwV 3 hts (zgL (zl4 k125 k126 k127 k24) k124) rfl rfl rfl (by decide +kernel) ⟨Nat.le_of_ble_eq_true rfl, Nat.le_of_ble_eq_true rfl⟩) rfl rfl rfl rfl (Nat.le_of_ble_eq_true rfl) dX9_comeBack_83 ⟨(Nat.le_of_ble_eq_true rfl), (Nat.le_of_ble_eq_true rfl)⟩ (fun u_ H locs hq40 hP hD hS => ?_)
                obtain ⟨gz2_37, gn2_38, fr2_39⟩ := u_
                replace hq40 : (0 ≤ gz2_37.toInt ∧ gz2_37.toInt ≤ 60) ∧ (0 ≤ gn2_38.toInt ∧ gn2_38.toInt ≤ 59) := hq40
                have hP : va_P g.1 vwCl (List.flatten [bTown g o a pe wo tx ch jo tr dy sd2_29 f2_34, bLog g go gr gz2_37 gn2_38 fr2_39]) H := hP
                have hD : va_D A (List.flatten [bTown g o a pe wo tx ch jo tr dy sd2_29 f2_34, bLog g go gr gz2_37 gn2_38 fr2_39]) := hD
                refine W.widen (k := 0) (n := 0) (Nat.le_of_ble_eq_true rfl) (Nat.le_of_ble_eq_true rfl) ?_
                refine W.eq (g2 := F0 m 86 ls []) rfl ?_
                obtain ⟨hq40_0, hq40_1⟩ := hq40
                refine ziinc3 (n' := 1) (a' := 1) (b' := 8) (lv' := fun v9 => [(3, .int v9), (4, .int 0), (0, .ref o), (1, .int tl), (2, .ref go)]) hx hb dX9_comeBack_86 hl (k := 4) rfl (by decide) (fun _ => rfl) (zaddK (i := x_1.toInt) (j := 1) rfl (by decide) i7.1 n14 (Int.le_refl _) (Int.le_refl _) (by decide)) (fun x_41 ls hx_41 hl => ?_)
                refine lv_goto (tgt := 2) hx hb dX9_comeBack_89 (by decide) ?_
                have hl := lv_sub (l' := [(0, .ref o), (1, .int tl), (2, .ref go), (3, .int x_41), (4, .int 0)]) hl [2, 3, 4, 0, 1] rfl
                have hP : va_P g.1 vwCl (List.flatten [bTown g o a pe wo tx ch jo tr dy sd2_29 f2_34, bLog g go gr gz2_37 gn2_38 fr2_39]) H := hP
                have hD : va_D A (List.flatten [bTown g o a pe wo tx ch jo tr dy sd2_29 f2_34, bLog g go gr gz2_37 gn2_38 fr2_39]) := hD
                exact ih2_11 x_41 sd2_29 f2_34 gz2_37 gn2_38 fr2_39 ⟨(Int.le_trans (by decide) hx_41.2.1), hx_41.2.2⟩ rf2_34 ⟨hq40_0.1, hq40_0.2⟩ ⟨hq40_1.1, hq40_1.2⟩ H _ ls (zmK hx_41.1 (by decide) n14 (by decide) hk2_11)  hP hD hS (lv_sub hl [0, 1, 2, 3] rfl)
              · skip
                have c42 : x_32.toInt < tr.toInt := zlti (Int32.not_le.mp cb9) rfl rfl
                refine lv_iconst (v := 1) hx hb dX9_comeBack_56 (by decide) ?_
                refine lv_goto (tgt := 61) hx hb dX9_comeBack_57 (by decide) ?_
                refine lv_istore (lv' := [(4, .int 1), (0, .ref o), (1, .int tl), (2, .ref go), (3, .int x_1)]) hx hb dX9_comeBack_61 hl (by decide) rfl (fun ls hl => ?_)
                refine lv_aload_n hx hb dX9_comeBack_63 rfl (lv_at hl 1 rfl) ?_
                refine lv_iload_n hx hb dX9_comeBack_64 rfl (lv_at hl 4 rfl) ?_
                refine lv_iload hx hb dX9_comeBack_65 (lv_at hl 0 rfl) ?_
                refine mcallV' (g := g) (q0 := 0) (ci := 7) (As := [.int x_1, .int 1]) (rest := []) St hK hT hA hP hD hS hl.1 [1] [0] rfl rfl rfl (c_spread l g o a pe wo tx ch jo tr dy sd2_29 f23 x_1 1 b_pe b_wo rf23 (⟨i7.1, n14⟩)) (cwV 2 hts (zgL (zl4 k138 k139 k140 k24) k134) rfl rfl rfl (by decide +kernel) ⟨Nat.le_of_ble_eq_true rfl, Nat.le_of_ble_eq_true rfl⟩) rfl rfl rfl rfl (Nat.le_of_ble_eq_true rfl) dX9_comeBack_67 ⟨(Nat.le_of_ble_eq_true rfl), (Nat.le_of_ble_eq_true rfl)⟩ (fun f2_43 H locs hq44 hP hD hS => ?_)
                replace hq44 : (zZ4 f2_43) := hq44
                have hP : va_P g.1 vwCl (List.flatten [bLog g go gr x_4 x_5 fr_6, bTown g o a pe wo tx ch jo tr dy sd2_29 f2_43]) H := hP
                have hD : va_D A (List.flatten [bLog g go gr x_4 x_5 fr_6, bTown g o a pe wo tx ch jo tr dy sd2_29 f2_43]) := hD
                refine W.widen (k := 0) (n := 0) (Nat.le_of_ble_eq_true rfl) (Nat.le_of_ble_eq_true rfl) ?_
                refine W.eq (g2 := F0 m 70 ls []) rfl ?_
                have rf2_43 := hq44; clear hq44
                refine lv_aload_n hx hb dX9_comeBack_70 rfl (lv_at hl 1 rfl) ?_
                refine lv_aload_n hx hb dX9_comeBack_71 rfl (lv_at hl 3 rfl) ?_
                refine lv_iload_n hx hb dX9_comeBack_72 rfl (lv_at hl 4 rfl) ?_
                refine lv_iload hx hb dX9_comeBack_73 (lv_at hl 0 rfl) ?_
                refine lv_if_eq (tgt := 82) hx hb dX9_comeBack_75 (by decide) (fun c45 => absurd c45 (by decide)) (fun _ => ?_)
                refine lv_iconst (v := 2) hx hb dX9_comeBack_78 (by decide) ?_
                refine lv_goto (tgt := 83) hx hb dX9_comeBack_79 (by decide) ?_
                refine mcallV' (g := g) (q0 := 0) (ci := 7) (As := [.ref go, .int x_1, .int 2]) (rest := []) St hK hT hA hP hD hS hl.1 [1, 0] [] rfl rfl rfl (c_write l g o a pe wo tx ch jo tr dy sd2_29 f2_43 go gr x_4 x_5 fr_6 x_1 2 b_pe b_wo rf2_43 i8 i9) (cwV 3 hts (zgL (zl4 k125 k126 k127 k24) k124) rfl rfl rfl (by decide +kernel) ⟨Nat.le_of_ble_eq_true rfl, Nat.le_of_ble_eq_true rfl⟩) rfl rfl rfl rfl (Nat.le_of_ble_eq_true rfl) dX9_comeBack_83 ⟨(Nat.le_of_ble_eq_true rfl), (Nat.le_of_ble_eq_true rfl)⟩ (fun u_ H locs hq49 hP hD hS => ?_)
                obtain ⟨gz2_46, gn2_47, fr2_48⟩ := u_
                replace hq49 : (0 ≤ gz2_46.toInt ∧ gz2_46.toInt ≤ 60) ∧ (0 ≤ gn2_47.toInt ∧ gn2_47.toInt ≤ 59) := hq49
                have hP : va_P g.1 vwCl (List.flatten [bTown g o a pe wo tx ch jo tr dy sd2_29 f2_43, bLog g go gr gz2_46 gn2_47 fr2_48]) H := hP
                have hD : va_D A (List.flatten [bTown g o a pe wo tx ch jo tr dy sd2_29 f2_43, bLog g go gr gz2_46 gn2_47 fr2_48]) := hD
                refine W.widen (k := 0) (n := 0) (Nat.le_of_ble_eq_true rfl) (Nat.le_of_ble_eq_true rfl) ?_
                refine W.eq (g2 := F0 m 86 ls []) rfl ?_
                obtain ⟨hq49_0, hq49_1⟩ := hq49
                refine ziinc3 (n' := 1) (a' := 1) (b' := 8) (lv' := fun v9 => [(3, .int v9), (4, .int 1), (0, .ref o), (1, .int tl), (2, .ref go)]) hx hb dX9_comeBack_86 hl (k := 4) rfl (by decide) (fun _ => rfl) (zaddK (i := x_1.toInt) (j := 1) rfl (by decide) i7.1 n14 (Int.le_refl _) (Int.le_refl _) (by decide)) (fun x_50 ls hx_50 hl => ?_)
                refine lv_goto (tgt := 2) hx hb dX9_comeBack_89 (by decide) ?_
                have hl := lv_sub (l' := [(0, .ref o), (1, .int tl), (2, .ref go), (3, .int x_50), (4, .int 1)]) hl [2, 3, 4, 0, 1] rfl
                have hP : va_P g.1 vwCl (List.flatten [bTown g o a pe wo tx ch jo tr dy sd2_29 f2_43, bLog g go gr gz2_46 gn2_47 fr2_48]) H := hP
                have hD : va_D A (List.flatten [bTown g o a pe wo tx ch jo tr dy sd2_29 f2_43, bLog g go gr gz2_46 gn2_47 fr2_48]) := hD
                exact ih2_11 x_50 sd2_29 f2_43 gz2_46 gn2_47 fr2_48 ⟨(Int.le_trans (by decide) hx_50.2.1), hx_50.2.2⟩ rf2_43 ⟨hq49_0.1, hq49_0.2⟩ ⟨hq49_1.1, hq49_1.2⟩ H _ ls (zmK hx_50.1 (by decide) n14 (by decide) hk2_11)  hP hD hS (lv_sub hl [0, 1, 2, 3] rfl)
        · skip
          refine lv_if_ne (tgt := 86) hx hb dX9_comeBack_15 (by decide) (fun _ => ?_) (fun c51 => absurd c51 (by decide))
          refine ziinc3 (n' := 1) (a' := 1) (b' := 8) (lv' := fun v9 => [(3, .int v9), (0, .ref o), (1, .int tl), (2, .ref go)]) hx hb dX9_comeBack_86 hl (k := 3) rfl (by decide) (fun _ => rfl) (zaddK (i := x_1.toInt) (j := 1) rfl (by decide) i7.1 n14 (Int.le_refl _) (Int.le_refl _) (by decide)) (fun x_52 ls hx_52 hl => ?_)
          refine lv_goto (tgt := 2) hx hb dX9_comeBack_89 (by decide) ?_
          have hl := lv_sub (l' := [(0, .ref o), (1, .int tl), (2, .ref go), (3, .int x_52)]) hl [1, 2, 3, 0] rfl
          have hP : va_P g.1 vwCl (List.flatten [bLog g go gr x_4 x_5 fr_6, bTown g o a pe wo tx ch jo tr dy x_2 f_3]) H := hP
          have hD : va_D A (List.flatten [bLog g go gr x_4 x_5 fr_6, bTown g o a pe wo tx ch jo tr dy x_2 f_3]) := hD
          obtain ⟨hP, hD⟩ := zord (g := g) (Bs' := [bTown g o a pe wo tx ch jo tr dy x_2 f_3, bLog g go gr x_4 x_5 fr_6]) [1, 0] rfl rfl hP hD
          have hP : va_P g.1 vwCl (List.flatten [bTown g o a pe wo tx ch jo tr dy x_2 f_3, bLog g go gr x_4 x_5 fr_6]) H := hP
          have hD : va_D A (List.flatten [bTown g o a pe wo tx ch jo tr dy x_2 f_3, bLog g go gr x_4 x_5 fr_6]) := hD
          exact ih2_11 x_52 x_2 f_3 x_4 x_5 fr_6 ⟨(Int.le_trans (by decide) hx_52.2.1), hx_52.2.2⟩ rf_3 ⟨i8.1, i8.2⟩ ⟨i9.1, i9.2⟩ H _ ls (zmK hx_52.1 (by decide) n14 (by decide) hk2_11)  hP hD hS (lv_sub hl [0, 1, 2, 3] rfl)
  have hP : va_P g.1 vwCl (List.flatten [bTown g o a pe wo tx ch jo tr dy sd f, bLog g go gr gz gn fr]) s.heap := hP
  have hD : va_D A (List.flatten [bTown g o a pe wo tx ch jo tr dy sd f, bLog g go gr gz gn fr]) := hD
  exact LP2_10 _ 0 sd f gz gn fr (by decide) rf ⟨b_gz.1, b_gz.2⟩ ⟨b_gn.1, b_gn.2⟩ s.heap _ ls (Nat.lt_succ_self _)  hP hD hS (lv_sub hl [0, 1, 2, 3] rfl)
