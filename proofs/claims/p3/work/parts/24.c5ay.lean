set_option maxRecDepth 100000 in
set_option maxHeartbeats 4000000 in
theorem c_r_choicesAtRest (l : Launch) (g : zG) (x1 : Int32)  : zM' g l yX5_choicesAtRest (Cond.code yX5_choicesAtRest cX5_choicesAtRest 5 (some .int) :: zB) ({ frames := 2, cells := 0, slots := 0, locals := 43 } : Room) [.int x1] [] (fun (q : Int32) => some (.int q)) (fun (q : Int32) => True) (fun (q : Int32) => []) := by
  refine zM'.of (cc := cX5_choicesAtRest) (maxL := 5) (rt := (some .int)) (by decide) rfl (Nat.le_of_ble_eq_true rfl) ?_
  intro p e s m args below meth c A ls St hr hlocks hin hK hT hA hP hD hS hl
  obtain ⟨hx, hb, hml, hown, hts⟩ := id St
  have hl : lv_has ls 5 [(0, .int x1)] := hl
  refine lv_iconst (v := 0) hx hb dX5_choicesAtRest_0 (by decide) ?_
  refine lv_istore_n (lv' := [(1, .int 0), (0, .int x1)]) hx hb dX5_choicesAtRest_1 rfl hl (by decide) rfl (fun ls hl => ?_)
  refine lv_iconst (v := 0) hx hb dX5_choicesAtRest_2 (by decide) ?_
  refine lv_istore_n (lv' := [(2, .int 0), (1, .int 0), (0, .int x1)]) hx hb dX5_choicesAtRest_3 rfl hl (by decide) rfl (fun ls hl => ?_)
  have hl := lv_sub (l' := [(0, .int x1), (1, .int 0), (2, .int 0)]) hl [2, 1, 0] rfl
  have LP4_4 : ∀ (kf : Nat) (x_1 : Int32) (x_2 : Int32), (0 ≤ x_2.toInt ∧ x_2.toInt ≤ 4) → ∀ (H : Heap) (locs : List Loc) (ls : Array Slot), ((5 - x_2.toInt).toNat) < kf → va_P g.1 vwCl (List.flatten []) H → va_D A (List.flatten []) → va_S A s.heap H locs → lv_has ls 5 [(0, .int x1), (1, .int x_1), (2, .int x_2)] → W p l e ({ frames := 2, cells := 0, slots := 0, locals := 43 } : Room) s m args below meth c H locs (0) (0) (zF g (fun (q : Int32) => some (.int q)) (fun (q : Int32) => True) (fun (q : Int32) => []) ({ frames := 2, cells := 0, slots := 0, locals := 43 } : Room) below args s A) (F0 m 4 ls []) := by
    intro kf
    induction kf with
    | zero => intro x_1 x_2 i3 H locs ls hk; exact absurd hk (Nat.not_lt_zero _)
    | succ kf ih4_5 =>
      intro x_1 x_2 i3 H locs ls hk4_5 hP hD hS hl
      refine lv_iload_n hx hb dX5_choicesAtRest_4 rfl (lv_at hl 2 rfl) ?_
      refine lv_iconst (v := 4) hx hb dX5_choicesAtRest_5 (by decide) ?_
      refine lv_icmp_ge (tgt := 66) hx hb dX5_choicesAtRest_6 (by decide) (fun cb9 => ?_) (fun cb9 => ?_)
      · skip
        have c6 : 4 ≤ x_2.toInt := zle cb9 (by decide) rfl
        have n7 : 4 ≤ x_2.toInt := Int.le_trans (Int.le_refl _) c6
        refine lv_iload_n hx hb dX5_choicesAtRest_66 rfl (lv_at hl 1 rfl) ?_
        have hP : va_P g.1 vwCl (List.flatten []) H := hP
        have hD : va_D A (List.flatten []) := hD
        exact mret_i hx hb hr hlocks hS (Nat.le_of_ble_eq_true rfl) (Nat.le_of_ble_eq_true rfl) dX5_choicesAtRest_67 (x_1) rfl trivial hP hD
      · skip
        have c8 : x_2.toInt < 4 := zlti (Int32.not_le.mp cb9) rfl (by decide)
        have n9 : x_2.toInt ≤ 3 := zL1 (b := 4) c8 (Int.le_refl _) (by decide)
        refine lv_iload_n hx hb dX5_choicesAtRest_9 rfl (lv_at hl 2 rfl) ?_
        refine lv_iconst (v := 2) hx hb dX5_choicesAtRest_10 (by decide) ?_
        refine lv_idiv hx hb dX5_choicesAtRest_11 (by decide) ?_
        refine zgb (zdiv (j := x_2.toInt) (d := 2) rfl (by decide) i3.1 (by decide)) (fun x_10 hx_10 => ?_)
        refine lv_istore_n (lv' := [(3, .int x_10), (0, .int x1), (1, .int x_1), (2, .int x_2)]) hx hb dX5_choicesAtRest_12 rfl hl (by decide) rfl (fun ls hl => ?_)
        refine lv_iload_n hx hb dX5_choicesAtRest_13 rfl (lv_at hl 3 rfl) ?_
        refine lv_iconst (v := 2) hx hb dX5_choicesAtRest_14 (by decide) ?_
        refine lv_irem hx hb dX5_choicesAtRest_15 (by decide) ?_
        refine zgb (zrem (j := x_2.toInt) (d := 2) rfl (by decide) i3.1 (by decide)) (fun x_11 hx_11 => ?_)
        refine lv_istore (lv' := [(4, .int x_11), (3, .int x_10), (0, .int x1), (1, .int x_1), (2, .int x_2)]) hx hb dX5_choicesAtRest_16 hl (by decide) rfl (fun ls hl => ?_)
        refine lv_iload_n hx hb dX5_choicesAtRest_18 rfl (lv_at hl 1 rfl) ?_
        refine lv_iload hx hb dX5_choicesAtRest_19 (lv_at hl 0 rfl) ?_
        refine mcallS' (g := g) (As := [.int x_10, .int x_11]) (rest := []) St hK hT hA hP hD hS hl.1 [] [] rfl rfl rfl (c_r_tellerHas l g x_10 x_11 ) (va_cwS 2 hts (zgL (zl3 k416 k417 k389) k411) rfl rfl rfl (by decide +kernel) ⟨Nat.le_of_ble_eq_true rfl, Nat.le_of_ble_eq_true rfl⟩) rfl rfl (Nat.le_of_ble_eq_true rfl) dX5_choicesAtRest_21 ⟨(Nat.le_of_ble_eq_true rfl), (Nat.le_of_ble_eq_true rfl)⟩ (fun q_12 H locs hq13 hP hD hS => ?_)
        have hP : va_P g.1 vwCl (List.flatten []) H := hP
        have hD : va_D A (List.flatten []) := hD
        refine W.widen (k := 0) (n := 0) (Nat.le_of_ble_eq_true rfl) (Nat.le_of_ble_eq_true rfl) ?_
        refine W.eq (g2 := F0 m 24 ls [.int q_12]) rfl ?_
        refine lv_iconst (v := 1) hx hb dX5_choicesAtRest_24 (by decide) ?_
        refine lv_iload_n hx hb dX5_choicesAtRest_25 rfl (lv_at hl 1 rfl) ?_
        refine lv_isub hx hb dX5_choicesAtRest_26 ?_
        refine zgv (zsub (i := 1) (j := x_10.toInt) (by decide) rfl (by omega)) (fun x_14 hx_14 => ?_)
        refine lv_iload hx hb dX5_choicesAtRest_27 (lv_at hl 0 rfl) ?_
        refine mcallS' (g := g) (As := [.int x_14, .int x_11]) (rest := [.int q_12]) St hK hT hA hP hD hS hl.1 [] [] rfl rfl rfl (c_r_tellerHas l g x_14 x_11 ) (va_cwS 2 hts (zgL (zl3 k416 k417 k389) k411) rfl rfl rfl (by decide +kernel) ⟨Nat.le_of_ble_eq_true rfl, Nat.le_of_ble_eq_true rfl⟩) rfl rfl (Nat.le_of_ble_eq_true rfl) dX5_choicesAtRest_29 ⟨(Nat.le_of_ble_eq_true rfl), (Nat.le_of_ble_eq_true rfl)⟩ (fun q_15 H locs hq16 hP hD hS => ?_)
        have hP : va_P g.1 vwCl (List.flatten []) H := hP
        have hD : va_D A (List.flatten []) := hD
        refine W.widen (k := 0) (n := 0) (Nat.le_of_ble_eq_true rfl) (Nat.le_of_ble_eq_true rfl) ?_
        refine W.eq (g2 := F0 m 32 ls [.int q_15, .int q_12]) rfl ?_
        refine lv_icmp_lt (tgt := 60) hx hb dX5_choicesAtRest_32 (by decide) (fun cb9 => ?_) (fun cb9 => ?_)
        · skip
          have c17 : q_12.toInt < q_15.toInt := zlti cb9 rfl rfl
          refine ziinc3 (n' := 1) (a' := 1) (b' := 4) (lv' := fun v9 => [(2, .int v9), (4, .int x_11), (3, .int x_10), (0, .int x1), (1, .int x_1)]) hx hb dX5_choicesAtRest_60 hl (k := 4) rfl (by decide) (fun _ => rfl) (zaddK (i := x_2.toInt) (j := 1) rfl (by decide) i3.1 n9 (Int.le_refl _) (Int.le_refl _) (by decide)) (fun x_18 ls hx_18 hl => ?_)
          refine lv_goto (tgt := 4) hx hb dX5_choicesAtRest_63 (by decide) ?_
          have hl := lv_sub (l' := [(0, .int x1), (1, .int x_1), (2, .int x_18), (3, .int x_10), (4, .int x_11)]) hl [3, 4, 0, 2, 1] rfl
          have hP : va_P g.1 vwCl (List.flatten []) H := hP
          have hD : va_D A (List.flatten []) := hD
          exact ih4_5 x_1 x_18 ⟨(Int.le_trans (by decide) hx_18.2.1), hx_18.2.2⟩ H _ ls (zmK hx_18.1 (by decide) n9 (by decide) hk4_5)  hP hD hS (lv_sub hl [0, 1, 2] rfl)
        · skip
          have c19 : q_15.toInt ≤ q_12.toInt := zle (Int32.not_lt.mp cb9) rfl rfl
          refine lv_iload_n hx hb dX5_choicesAtRest_35 rfl (lv_at hl 1 rfl) ?_
          refine lv_iload hx hb dX5_choicesAtRest_36 (lv_at hl 0 rfl) ?_
          refine lv_iload_n hx hb dX5_choicesAtRest_38 rfl (lv_at hl 2 rfl) ?_
          refine mcallS' (g := g) (As := [.int x_10, .int x_11, .int x1]) (rest := []) St hK hT hA hP hD hS hl.1 [] [] rfl rfl rfl (c_r_dryManHas l g x_10 x_11 x1 ) (va_cwS 3 hts (zgL (zl3 k418 k419 k389) k414) rfl rfl rfl (by decide +kernel) ⟨Nat.le_of_ble_eq_true rfl, Nat.le_of_ble_eq_true rfl⟩) rfl rfl (Nat.le_of_ble_eq_true rfl) dX5_choicesAtRest_39 ⟨(Nat.le_of_ble_eq_true rfl), (Nat.le_of_ble_eq_true rfl)⟩ (fun q_20 H locs hq21 hP hD hS => ?_)
          have hP : va_P g.1 vwCl (List.flatten []) H := hP
          have hD : va_D A (List.flatten []) := hD
          refine W.widen (k := 0) (n := 0) (Nat.le_of_ble_eq_true rfl) (Nat.le_of_ble_eq_true rfl) ?_
          refine W.eq (g2 := F0 m 42 ls [.int q_20]) rfl ?_
          refine lv_iload_n hx hb dX5_choicesAtRest_42 rfl (lv_at hl 1 rfl) ?_
          refine lv_iconst (v := 1) hx hb dX5_choicesAtRest_43 (by decide) ?_
          refine lv_iload hx hb dX5_choicesAtRest_44 (lv_at hl 0 rfl) ?_
          refine lv_isub hx hb dX5_choicesAtRest_46 ?_
          refine zg3 (zsubK (i := 1) (j := x_11.toInt) (a' := 0) (b' := 1) (by decide) rfl (Int.le_refl _) (Int.le_refl _) hx_11.1 hx_11.2 (by decide)) (fun x_22 hx_22 => ?_)
          refine lv_iload_n hx hb dX5_choicesAtRest_47 rfl (lv_at hl 2 rfl) ?_
          refine mcallS' (g := g) (As := [.int x_10, .int x_22, .int x1]) (rest := [.int q_20]) St hK hT hA hP hD hS hl.1 [] [] rfl rfl rfl (c_r_dryManHas l g x_10 x_22 x1 ) (va_cwS 3 hts (zgL (zl3 k418 k419 k389) k414) rfl rfl rfl (by decide +kernel) ⟨Nat.le_of_ble_eq_true rfl, Nat.le_of_ble_eq_true rfl⟩) rfl rfl (Nat.le_of_ble_eq_true rfl) dX5_choicesAtRest_48 ⟨(Nat.le_of_ble_eq_true rfl), (Nat.le_of_ble_eq_true rfl)⟩ (fun q_23 H locs hq24 hP hD hS => ?_)
          have hP : va_P g.1 vwCl (List.flatten []) H := hP
          have hD : va_D A (List.flatten []) := hD
          refine W.widen (k := 0) (n := 0) (Nat.le_of_ble_eq_true rfl) (Nat.le_of_ble_eq_true rfl) ?_
          refine W.eq (g2 := F0 m 51 ls [.int q_23, .int q_20]) rfl ?_
          refine lv_icmp_lt (tgt := 60) hx hb dX5_choicesAtRest_51 (by decide) (fun cb9 => ?_) (fun cb9 => ?_)
          · skip
            have c25 : q_20.toInt < q_23.toInt := zlti cb9 rfl rfl
            refine ziinc3 (n' := 1) (a' := 1) (b' := 4) (lv' := fun v9 => [(2, .int v9), (4, .int x_11), (3, .int x_10), (0, .int x1), (1, .int x_1)]) hx hb dX5_choicesAtRest_60 hl (k := 4) rfl (by decide) (fun _ => rfl) (zaddK (i := x_2.toInt) (j := 1) rfl (by decide) i3.1 n9 (Int.le_refl _) (Int.le_refl _) (by decide)) (fun x_26 ls hx_26 hl => ?_)
            refine lv_goto (tgt := 4) hx hb dX5_choicesAtRest_63 (by decide) ?_
            have hl := lv_sub (l' := [(0, .int x1), (1, .int x_1), (2, .int x_26), (3, .int x_10), (4, .int x_11)]) hl [3, 4, 0, 2, 1] rfl
            have hP : va_P g.1 vwCl (List.flatten []) H := hP
            have hD : va_D A (List.flatten []) := hD
            exact ih4_5 x_1 x_26 ⟨(Int.le_trans (by decide) hx_26.2.1), hx_26.2.2⟩ H _ ls (zmK hx_26.1 (by decide) n9 (by decide) hk4_5)  hP hD hS (lv_sub hl [0, 1, 2] rfl)
          · skip
            have c27 : q_23.toInt ≤ q_20.toInt := zle (Int32.not_lt.mp cb9) rfl rfl
            refine lv_iload_n hx hb dX5_choicesAtRest_54 rfl (lv_at hl 3 rfl) ?_
            refine lv_iconst (v := 1) hx hb dX5_choicesAtRest_55 (by decide) ?_
            refine lv_iload_n hx hb dX5_choicesAtRest_56 rfl (lv_at hl 4 rfl) ?_
            refine lv_ishl hx hb dX5_choicesAtRest_57 ?_
            refine zgb (zshl1 (j := x_2.toInt) rfl 3 8 (by decide) (by decide) ⟨i3.1, n9⟩) (fun x_28 hx_28 => ?_)
            refine lv_ior hx hb dX5_choicesAtRest_58 ?_
            refine zg (fun x_29 => ?_)
            refine lv_istore_n (lv' := [(1, .int x_29), (4, .int x_11), (3, .int x_10), (0, .int x1), (2, .int x_2)]) hx hb dX5_choicesAtRest_59 rfl hl (by decide) rfl (fun ls hl => ?_)
            refine ziinc3 (n' := 1) (a' := 1) (b' := 4) (lv' := fun v9 => [(2, .int v9), (1, .int x_29), (4, .int x_11), (3, .int x_10), (0, .int x1)]) hx hb dX5_choicesAtRest_60 hl (k := 4) rfl (by decide) (fun _ => rfl) (zaddK (i := x_2.toInt) (j := 1) rfl (by decide) i3.1 n9 (Int.le_refl _) (Int.le_refl _) (by decide)) (fun x_30 ls hx_30 hl => ?_)
            refine lv_goto (tgt := 4) hx hb dX5_choicesAtRest_63 (by decide) ?_
            have hl := lv_sub (l' := [(0, .int x1), (1, .int x_29), (2, .int x_30), (3, .int x_10), (4, .int x_11)]) hl [4, 1, 0, 3, 2] rfl
            have hP : va_P g.1 vwCl (List.flatten []) H := hP
            have hD : va_D A (List.flatten []) := hD
            exact ih4_5 x_29 x_30 ⟨(Int.le_trans (by decide) hx_30.2.1), hx_30.2.2⟩ H _ ls (zmK hx_30.1 (by decide) n9 (by decide) hk4_5)  hP hD hS (lv_sub hl [0, 1, 2] rfl)
  have hP : va_P g.1 vwCl (List.flatten []) s.heap := hP
  have hD : va_D A (List.flatten []) := hD
  exact LP4_4 _ 0 0 (by decide) s.heap _ ls (Nat.lt_succ_self _)  hP hD hS (lv_sub hl [0, 1, 2] rfl)
