set_option maxRecDepth 100000 in
set_option maxHeartbeats 4000000 in
theorem c_r_bestQuestion (l : Launch) (g : zG) (ro : Nat) (rw : Nat) (ri : Int32) (rt : Int32) (rb : Nat → Int32) (b_ri : 0 ≤ ri.toInt ∧ ri.toInt ≤ 8) : zM' g l yX5_bestQuestion (Cond.code yX5_bestQuestion cX5_bestQuestion 6 (some .int) :: zB) ({ frames := 2, cells := 0, slots := 0, locals := 47 } : Room) [.ref ro] [bRi g ro rw ri rt rb] (fun (q : Int32) => some (.int q)) (fun (q : Int32) => True) (fun (q : Int32) => [bRi g ro rw ri rt rb]) := by
  refine zM'.of (cc := cX5_bestQuestion) (maxL := 6) (rt := (some .int)) (by decide) rfl (Nat.le_of_ble_eq_true rfl) ?_
  intro p e s m args below meth c A ls St hr hlocks hin hK hT hA hP hD hS hl
  obtain ⟨hx, hb, hml, hown, hts⟩ := id St
  have hl : lv_has ls 6 [(0, .ref ro)] := hl
  refine lv_iconst (v := (-1)) hx hb dX5_bestQuestion_0 (by decide) ?_
  refine lv_istore_n (lv' := [(1, .int (-1)), (0, .ref ro)]) hx hb dX5_bestQuestion_1 rfl hl (by decide) rfl (fun ls hl => ?_)
  refine lv_iconst (v := 0) hx hb dX5_bestQuestion_2 (by decide) ?_
  refine lv_istore_n (lv' := [(2, .int 0), (1, .int (-1)), (0, .ref ro)]) hx hb dX5_bestQuestion_3 rfl hl (by decide) rfl (fun ls hl => ?_)
  refine lv_iconst (v := 0) hx hb dX5_bestQuestion_4 (by decide) ?_
  refine lv_istore_n (lv' := [(3, .int 0), (2, .int 0), (1, .int (-1)), (0, .ref ro)]) hx hb dX5_bestQuestion_5 rfl hl (by decide) rfl (fun ls hl => ?_)
  have hl := lv_sub (l' := [(0, .ref ro), (1, .int (-1)), (2, .int 0), (3, .int 0)]) hl [3, 2, 1, 0] rfl
  have LP6_6 : ∀ (kf : Nat) (x_1 : Int32) (x_2 : Int32) (x_3 : Int32), ((-1) ≤ x_1.toInt ∧ x_1.toInt ≤ 77) → (0 ≤ x_3.toInt ∧ x_3.toInt ≤ 8) → ∀ (H : Heap) (locs : List Loc) (ls : Array Slot), ((9 - x_3.toInt).toNat) < kf → va_P g.1 vwCl (List.flatten [bRi g ro rw ri rt rb]) H → va_D A (List.flatten [bRi g ro rw ri rt rb]) → va_S A s.heap H locs → lv_has ls 6 [(0, .ref ro), (1, .int x_1), (2, .int x_2), (3, .int x_3)] → W p l e ({ frames := 2, cells := 0, slots := 0, locals := 47 } : Room) s m args below meth c H locs (0) (0) (zF g (fun (q : Int32) => some (.int q)) (fun (q : Int32) => True) (fun (q : Int32) => [bRi g ro rw ri rt rb]) ({ frames := 2, cells := 0, slots := 0, locals := 47 } : Room) below args s A) (F0 m 6 ls []) := by
    intro kf
    induction kf with
    | zero => intro x_1 x_2 x_3 i4 i5 H locs ls hk; exact absurd hk (Nat.not_lt_zero _)
    | succ kf ih6_7 =>
      intro x_1 x_2 x_3 i4 i5 H locs ls hk6_7 hP hD hS hl
      refine lv_iload_n hx hb dX5_bestQuestion_6 rfl (lv_at hl 3 rfl) ?_
      refine lv_aload_n hx hb dX5_bestQuestion_7 rfl (lv_at hl 0 rfl) ?_
      refine va_get (D := g.1) (ci := 5) (v := .int ri) (C := RX5) (T := TX5) (N := 3) hx hb hts izRX5 hown hK hP 0 rfl rfl 1 (by decide) (hts _ k392) (fun _ h9 => h9) rfl dX5_bestQuestion_8 ?_
      refine lv_icmp_ge (tgt := 83) hx hb dX5_bestQuestion_11 (by decide) (fun cb9 => ?_) (fun cb9 => ?_)
      · skip
        have c8 : ri.toInt ≤ x_3.toInt := zle cb9 rfl rfl
        refine lv_iload_n hx hb dX5_bestQuestion_83 rfl (lv_at hl 1 rfl) ?_
        have hP : va_P g.1 vwCl (List.flatten [bRi g ro rw ri rt rb]) H := hP
        have hD : va_D A (List.flatten [bRi g ro rw ri rt rb]) := hD
        exact mret_i hx hb hr hlocks hS (Nat.le_of_ble_eq_true rfl) (Nat.le_of_ble_eq_true rfl) dX5_bestQuestion_84 (x_1) rfl trivial hP hD
      · skip
        have c9 : x_3.toInt < ri.toInt := zlti (Int32.not_le.mp cb9) rfl rfl
        have n10 : x_3.toInt ≤ 7 := zL1 (b := 8) c9 b_ri.2 (by decide)
        have n11 : 1 ≤ ri.toInt := zL2 (a := 0) c9 i5.1 (by decide)
        refine lv_aload_n hx hb dX5_bestQuestion_14 rfl (lv_at hl 0 rfl) ?_
        refine va_get (D := g.1) (ci := 5) (v := .int rt) (C := RX5) (T := TX5) (N := 3) hx hb hts izRX5 hown hK hP 0 rfl rfl 2 (by decide) (hts _ k393) (fun _ h9 => h9) rfl dX5_bestQuestion_15 ?_
        refine lv_iconst (v := 2) hx hb dX5_bestQuestion_18 (by decide) ?_
        refine lv_icmp_lt (tgt := 83) hx hb dX5_bestQuestion_19 (by decide) (fun cb9 => ?_) (fun cb9 => ?_)
        · skip
          have c12 : rt.toInt < 2 := zlti cb9 rfl (by decide)
          have n13 : rt.toInt ≤ 1 := zL1 (b := 2) c12 (Int.le_refl _) (by decide)
          refine lv_iload_n hx hb dX5_bestQuestion_83 rfl (lv_at hl 1 rfl) ?_
          have hP : va_P g.1 vwCl (List.flatten [bRi g ro rw ri rt rb]) H := hP
          have hD : va_D A (List.flatten [bRi g ro rw ri rt rb]) := hD
          exact mret_i hx hb hr hlocks hS (Nat.le_of_ble_eq_true rfl) (Nat.le_of_ble_eq_true rfl) dX5_bestQuestion_84 (x_1) rfl trivial hP hD
        · skip
          have c14 : 2 ≤ rt.toInt := zle (Int32.not_lt.mp cb9) (by decide) rfl
          have n15 : 2 ≤ rt.toInt := Int.le_trans (Int.le_refl _) c14
          refine lv_iconst (v := 0) hx hb dX5_bestQuestion_22 (by decide) ?_
          refine lv_istore (lv' := [(4, .int 0), (0, .ref ro), (1, .int x_1), (2, .int x_2), (3, .int x_3)]) hx hb dX5_bestQuestion_23 hl (by decide) rfl (fun ls hl => ?_)
          have hl := lv_sub (l' := [(0, .ref ro), (1, .int x_1), (2, .int x_2), (3, .int x_3), (4, .int 0)]) hl [1, 2, 3, 4, 0] rfl
          have LP25_21 : ∀ (kf : Nat) (x_16 : Int32) (x_17 : Int32) (x_18 : Int32), ((-1) ≤ x_16.toInt ∧ x_16.toInt ≤ 77) → (0 ≤ x_18.toInt ∧ x_18.toInt ≤ 8) → ∀ (H : Heap) (locs : List Loc) (ls : Array Slot), ((9 - x_18.toInt).toNat) < kf → va_P g.1 vwCl (List.flatten [bRi g ro rw ri rt rb]) H → va_D A (List.flatten [bRi g ro rw ri rt rb]) → va_S A s.heap H locs → lv_has ls 6 [(0, .ref ro), (1, .int x_16), (2, .int x_17), (3, .int x_3), (4, .int x_18)] → W p l e ({ frames := 2, cells := 0, slots := 0, locals := 47 } : Room) s m args below meth c H locs (0) (0) (zF g (fun (q : Int32) => some (.int q)) (fun (q : Int32) => True) (fun (q : Int32) => [bRi g ro rw ri rt rb]) ({ frames := 2, cells := 0, slots := 0, locals := 47 } : Room) below args s A) (F0 m 25 ls []) := by
            intro kf
            induction kf with
            | zero => intro x_16 x_17 x_18 i19 i20 H locs ls hk; exact absurd hk (Nat.not_lt_zero _)
            | succ kf ih25_22 =>
              intro x_16 x_17 x_18 i19 i20 H locs ls hk25_22 hP hD hS hl
              refine lv_iload hx hb dX5_bestQuestion_25 (lv_at hl 4 rfl) ?_
              refine lv_aload_n hx hb dX5_bestQuestion_27 rfl (lv_at hl 0 rfl) ?_
              refine va_get (D := g.1) (ci := 5) (v := .int ri) (C := RX5) (T := TX5) (N := 3) hx hb hts izRX5 hown hK hP 0 rfl rfl 1 (by decide) (hts _ k392) (fun _ h9 => h9) rfl dX5_bestQuestion_28 ?_
              refine lv_icmp_ge (tgt := 77) hx hb dX5_bestQuestion_31 (by decide) (fun cb9 => ?_) (fun cb9 => ?_)
              · skip
                have c23 : ri.toInt ≤ x_18.toInt := zle cb9 rfl rfl
                have n24 : 1 ≤ x_18.toInt := Int.le_trans n11 c23
                refine ziinc3 (n' := 1) (a' := 1) (b' := 8) (lv' := fun v9 => [(3, .int v9), (0, .ref ro), (1, .int x_16), (2, .int x_17), (4, .int x_18)]) hx hb dX5_bestQuestion_77 hl (k := 3) rfl (by decide) (fun _ => rfl) (zaddK (i := x_3.toInt) (j := 1) rfl (by decide) i5.1 n10 (Int.le_refl _) (Int.le_refl _) (by decide)) (fun x_25 ls hx_25 hl => ?_)
                refine lv_goto (tgt := 6) hx hb dX5_bestQuestion_80 (by decide) ?_
                have hl := lv_sub (l' := [(0, .ref ro), (1, .int x_16), (2, .int x_17), (3, .int x_25), (4, .int x_18)]) hl [1, 2, 3, 0, 4] rfl
                have hP : va_P g.1 vwCl (List.flatten [bRi g ro rw ri rt rb]) H := hP
                have hD : va_D A (List.flatten [bRi g ro rw ri rt rb]) := hD
                exact ih6_7 x_16 x_17 x_25 ⟨i19.1, i19.2⟩ ⟨(Int.le_trans (by decide) hx_25.2.1), hx_25.2.2⟩ H _ ls (zmK hx_25.1 (by decide) n10 (by decide) hk6_7)  hP hD hS (lv_sub hl [0, 1, 2, 3] rfl)
              · skip
                have c26 : x_18.toInt < ri.toInt := zlti (Int32.not_le.mp cb9) rfl rfl
                have n27 : x_18.toInt ≤ 7 := zL1 (b := 8) c26 b_ri.2 (by decide)
                refine lv_aload_n hx hb dX5_bestQuestion_34 rfl (lv_at hl 0 rfl) ?_
                refine lv_iload_n hx hb dX5_bestQuestion_35 rfl (lv_at hl 3 rfl) ?_
                refine lv_iload hx hb dX5_bestQuestion_36 (lv_at hl 4 rfl) ?_
                refine mcallV' (g := g) (q0 := 0) (ci := 5) (As := [.int x_3, .int x_18]) (rest := []) St hK hT hA hP hD hS hl.1 [0] [] rfl rfl rfl (c_r_greaterPart l g ro rw ri rt rb x_3 x_18 b_ri) (cwV 2 hts (zgL (zl4 k401 k402 k403 k389) k398) rfl rfl rfl (by decide +kernel) ⟨Nat.le_of_ble_eq_true rfl, Nat.le_of_ble_eq_true rfl⟩) rfl rfl rfl rfl (Nat.le_of_ble_eq_true rfl) dX5_bestQuestion_38 ⟨(Nat.le_of_ble_eq_true rfl), (Nat.le_of_ble_eq_true rfl)⟩ (fun q_28 H locs hq29 hP hD hS => ?_)
                have hP : va_P g.1 vwCl (List.flatten [bRi g ro rw ri rt rb]) H := hP
                have hD : va_D A (List.flatten [bRi g ro rw ri rt rb]) := hD
                refine W.widen (k := 0) (n := 0) (Nat.le_of_ble_eq_true rfl) (Nat.le_of_ble_eq_true rfl) ?_
                refine W.eq (g2 := F0 m 41 ls [.int q_28]) rfl ?_
                refine lv_istore (lv' := [(5, .int q_28), (0, .ref ro), (1, .int x_16), (2, .int x_17), (3, .int x_3), (4, .int x_18)]) hx hb dX5_bestQuestion_41 hl (by decide) rfl (fun ls hl => ?_)
                refine lv_iload_n hx hb dX5_bestQuestion_43 rfl (lv_at hl 4 rfl) ?_
                refine lv_iload hx hb dX5_bestQuestion_44 (lv_at hl 5 rfl) ?_
                refine lv_icmp_eq (tgt := 71) hx hb dX5_bestQuestion_46 (by decide) (fun cb9 => ?_) (fun cb9 => ?_)
                · skip
                  have c30 : x_3.toInt = x_18.toInt := zeq cb9 rfl rfl
                  refine ziinc3 (n' := 1) (a' := 1) (b' := 8) (lv' := fun v9 => [(4, .int v9), (5, .int q_28), (0, .ref ro), (1, .int x_16), (2, .int x_17), (3, .int x_3)]) hx hb dX5_bestQuestion_71 hl (k := 5) rfl (by decide) (fun _ => rfl) (zaddK (i := x_18.toInt) (j := 1) rfl (by decide) i20.1 n27 (Int.le_refl _) (Int.le_refl _) (by decide)) (fun x_31 ls hx_31 hl => ?_)
                  refine lv_goto (tgt := 25) hx hb dX5_bestQuestion_74 (by decide) ?_
                  have hl := lv_sub (l' := [(0, .ref ro), (1, .int x_16), (2, .int x_17), (3, .int x_3), (4, .int x_31), (5, .int q_28)]) hl [2, 3, 4, 5, 0, 1] rfl
                  have hP : va_P g.1 vwCl (List.flatten [bRi g ro rw ri rt rb]) H := hP
                  have hD : va_D A (List.flatten [bRi g ro rw ri rt rb]) := hD
                  exact ih25_22 x_16 x_17 x_31 ⟨i19.1, i19.2⟩ ⟨(Int.le_trans (by decide) hx_31.2.1), hx_31.2.2⟩ H _ ls (zmK hx_31.1 (by decide) n27 (by decide) hk25_22)  hP hD hS (lv_sub hl [0, 1, 2, 3, 4] rfl)
                · skip
                  have c32 : ¬ x_3.toInt = x_18.toInt := zne cb9 rfl rfl
                  refine lv_iload_n hx hb dX5_bestQuestion_49 rfl (lv_at hl 2 rfl) ?_
                  refine lv_iconst (v := (-1)) hx hb dX5_bestQuestion_50 (by decide) ?_
                  refine lv_icmp_eq (tgt := 60) hx hb dX5_bestQuestion_51 (by decide) (fun cb9 => ?_) (fun cb9 => ?_)
                  · skip
                    have c33 : x_16.toInt = (-1) := zeq cb9 rfl (by decide)
                    have n34 : x_16.toInt ≤ (-1) := Int.le_trans (Int.le_of_eq c33) (Int.le_refl _)
                    refine lv_bipush (v := 10) hx hb dX5_bestQuestion_60 (by decide) ?_
                    refine lv_iload_n hx hb dX5_bestQuestion_62 rfl (lv_at hl 4 rfl) ?_
                    refine lv_imul hx hb dX5_bestQuestion_63 ?_
                    refine zg3 (zmulKL (i := x_3.toInt) (n := 10) (a' := 0) (b' := 70) rfl (by decide) i5.1 n10 (by decide) (by decide)) (fun x_35 hx_35 => ?_)
                    refine lv_iload hx hb dX5_bestQuestion_64 (lv_at hl 5 rfl) ?_
                    refine lv_iadd hx hb dX5_bestQuestion_66 ?_
                    refine zg3 (zaddK (i := x_35.toInt) (j := x_18.toInt) (a' := 0) (b' := 77) rfl rfl hx_35.2.1 hx_35.2.2 i20.1 n27 (by decide)) (fun x_36 hx_36 => ?_)
                    refine lv_istore_n (lv' := [(1, .int x_36), (5, .int q_28), (0, .ref ro), (2, .int x_17), (3, .int x_3), (4, .int x_18)]) hx hb dX5_bestQuestion_67 rfl hl (by decide) rfl (fun ls hl => ?_)
                    refine lv_iload hx hb dX5_bestQuestion_68 (lv_at hl 1 rfl) ?_
                    refine lv_istore_n (lv' := [(2, .int q_28), (1, .int x_36), (5, .int q_28), (0, .ref ro), (3, .int x_3), (4, .int x_18)]) hx hb dX5_bestQuestion_70 rfl hl (by decide) rfl (fun ls hl => ?_)
                    refine ziinc3 (n' := 1) (a' := 1) (b' := 8) (lv' := fun v9 => [(4, .int v9), (2, .int q_28), (1, .int x_36), (5, .int q_28), (0, .ref ro), (3, .int x_3)]) hx hb dX5_bestQuestion_71 hl (k := 5) rfl (by decide) (fun _ => rfl) (zaddK (i := x_18.toInt) (j := 1) rfl (by decide) i20.1 n27 (Int.le_refl _) (Int.le_refl _) (by decide)) (fun x_37 ls hx_37 hl => ?_)
                    refine lv_goto (tgt := 25) hx hb dX5_bestQuestion_74 (by decide) ?_
                    have hl := lv_sub (l' := [(0, .ref ro), (1, .int x_36), (2, .int q_28), (3, .int x_3), (4, .int x_37), (5, .int q_28)]) hl [4, 2, 1, 5, 0, 3] rfl
                    have hP : va_P g.1 vwCl (List.flatten [bRi g ro rw ri rt rb]) H := hP
                    have hD : va_D A (List.flatten [bRi g ro rw ri rt rb]) := hD
                    exact ih25_22 x_36 q_28 x_37 ⟨(Int.le_trans (by decide) hx_36.2.1), hx_36.2.2⟩ ⟨(Int.le_trans (by decide) hx_37.2.1), hx_37.2.2⟩ H _ ls (zmK hx_37.1 (by decide) n27 (by decide) hk25_22)  hP hD hS (lv_sub hl [0, 1, 2, 3, 4] rfl)
                  · skip
                    have c38 : ¬ x_16.toInt = (-1) := zne cb9 rfl (by decide)
                    have n39 : 0 ≤ x_16.toInt := zN1 c38 i19.1 (by decide)
                    refine lv_iload hx hb dX5_bestQuestion_54 (lv_at hl 0 rfl) ?_
                    refine lv_iload_n hx hb dX5_bestQuestion_56 rfl (lv_at hl 3 rfl) ?_
                    refine lv_icmp_ge (tgt := 71) hx hb dX5_bestQuestion_57 (by decide) (fun cb9 => ?_) (fun cb9 => ?_)
                    · skip
                      have c40 : x_17.toInt ≤ q_28.toInt := zle cb9 rfl rfl
                      refine ziinc3 (n' := 1) (a' := 1) (b' := 8) (lv' := fun v9 => [(4, .int v9), (5, .int q_28), (0, .ref ro), (1, .int x_16), (2, .int x_17), (3, .int x_3)]) hx hb dX5_bestQuestion_71 hl (k := 5) rfl (by decide) (fun _ => rfl) (zaddK (i := x_18.toInt) (j := 1) rfl (by decide) i20.1 n27 (Int.le_refl _) (Int.le_refl _) (by decide)) (fun x_41 ls hx_41 hl => ?_)
                      refine lv_goto (tgt := 25) hx hb dX5_bestQuestion_74 (by decide) ?_
                      have hl := lv_sub (l' := [(0, .ref ro), (1, .int x_16), (2, .int x_17), (3, .int x_3), (4, .int x_41), (5, .int q_28)]) hl [2, 3, 4, 5, 0, 1] rfl
                      have hP : va_P g.1 vwCl (List.flatten [bRi g ro rw ri rt rb]) H := hP
                      have hD : va_D A (List.flatten [bRi g ro rw ri rt rb]) := hD
                      exact ih25_22 x_16 x_17 x_41 ⟨(Int.le_trans (by decide) n39), i19.2⟩ ⟨(Int.le_trans (by decide) hx_41.2.1), hx_41.2.2⟩ H _ ls (zmK hx_41.1 (by decide) n27 (by decide) hk25_22)  hP hD hS (lv_sub hl [0, 1, 2, 3, 4] rfl)
                    · skip
                      have c42 : q_28.toInt < x_17.toInt := zlti (Int32.not_le.mp cb9) rfl rfl
                      refine lv_bipush (v := 10) hx hb dX5_bestQuestion_60 (by decide) ?_
                      refine lv_iload_n hx hb dX5_bestQuestion_62 rfl (lv_at hl 4 rfl) ?_
                      refine lv_imul hx hb dX5_bestQuestion_63 ?_
                      refine zg3 (zmulKL (i := x_3.toInt) (n := 10) (a' := 0) (b' := 70) rfl (by decide) i5.1 n10 (by decide) (by decide)) (fun x_43 hx_43 => ?_)
                      refine lv_iload hx hb dX5_bestQuestion_64 (lv_at hl 5 rfl) ?_
                      refine lv_iadd hx hb dX5_bestQuestion_66 ?_
                      refine zg3 (zaddK (i := x_43.toInt) (j := x_18.toInt) (a' := 0) (b' := 77) rfl rfl hx_43.2.1 hx_43.2.2 i20.1 n27 (by decide)) (fun x_44 hx_44 => ?_)
                      refine lv_istore_n (lv' := [(1, .int x_44), (5, .int q_28), (0, .ref ro), (2, .int x_17), (3, .int x_3), (4, .int x_18)]) hx hb dX5_bestQuestion_67 rfl hl (by decide) rfl (fun ls hl => ?_)
                      refine lv_iload hx hb dX5_bestQuestion_68 (lv_at hl 1 rfl) ?_
                      refine lv_istore_n (lv' := [(2, .int q_28), (1, .int x_44), (5, .int q_28), (0, .ref ro), (3, .int x_3), (4, .int x_18)]) hx hb dX5_bestQuestion_70 rfl hl (by decide) rfl (fun ls hl => ?_)
                      refine ziinc3 (n' := 1) (a' := 1) (b' := 8) (lv' := fun v9 => [(4, .int v9), (2, .int q_28), (1, .int x_44), (5, .int q_28), (0, .ref ro), (3, .int x_3)]) hx hb dX5_bestQuestion_71 hl (k := 5) rfl (by decide) (fun _ => rfl) (zaddK (i := x_18.toInt) (j := 1) rfl (by decide) i20.1 n27 (Int.le_refl _) (Int.le_refl _) (by decide)) (fun x_45 ls hx_45 hl => ?_)
                      refine lv_goto (tgt := 25) hx hb dX5_bestQuestion_74 (by decide) ?_
                      have hl := lv_sub (l' := [(0, .ref ro), (1, .int x_44), (2, .int q_28), (3, .int x_3), (4, .int x_45), (5, .int q_28)]) hl [4, 2, 1, 5, 0, 3] rfl
                      have hP : va_P g.1 vwCl (List.flatten [bRi g ro rw ri rt rb]) H := hP
                      have hD : va_D A (List.flatten [bRi g ro rw ri rt rb]) := hD
                      exact ih25_22 x_44 q_28 x_45 ⟨(Int.le_trans (by decide) hx_44.2.1), hx_44.2.2⟩ ⟨(Int.le_trans (by decide) hx_45.2.1), hx_45.2.2⟩ H _ ls (zmK hx_45.1 (by decide) n27 (by decide) hk25_22)  hP hD hS (lv_sub hl [0, 1, 2, 3, 4] rfl)
          have hP : va_P g.1 vwCl (List.flatten [bRi g ro rw ri rt rb]) H := hP
          have hD : va_D A (List.flatten [bRi g ro rw ri rt rb]) := hD
          exact LP25_21 _ x_1 x_2 0 ⟨i4.1, i4.2⟩ (by decide) H _ ls (Nat.lt_succ_self _)  hP hD hS (lv_sub hl [0, 1, 2, 3, 4] rfl)
  have hP : va_P g.1 vwCl (List.flatten [bRi g ro rw ri rt rb]) s.heap := hP
  have hD : va_D A (List.flatten [bRi g ro rw ri rt rb]) := hD
  exact LP6_6 _ (-1) 0 0 (by decide) (by decide) s.heap _ ls (Nat.lt_succ_self _)  hP hD hS (lv_sub hl [0, 1, 2, 3] rfl)
