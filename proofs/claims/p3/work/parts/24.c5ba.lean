set_option maxRecDepth 100000 in
set_option maxHeartbeats 4000000 in
theorem c_r_fewestNeeded (l : Launch) (g : zG) (x1 : Int32) (ld : Int32) (b_ld : (-12) ≤ ld.toInt ∧ ld.toInt ≤ 12) : zM' g l yX5_fewestNeeded (Cond.code yX5_fewestNeeded cX5_fewestNeeded 3 (some .int) :: zB) ({ frames := 1, cells := 0, slots := 0, locals := 26 } : Room) [.int x1, .int ld] [] (fun (q : Int32) => some (.int q)) (fun (q : Int32) => True) (fun (q : Int32) => []) := by
  refine zM'.of (cc := cX5_fewestNeeded) (maxL := 3) (rt := (some .int)) (by decide) rfl (Nat.le_of_ble_eq_true rfl) ?_
  intro p e s m args below meth c A ls St hr hlocks hin hK hT hA hP hD hS hl
  obtain ⟨hx, hb, hml, hown, hts⟩ := id St
  have hl : lv_has ls 3 [(0, .int x1), (1, .int ld)] := hl
  refine lv_iconst (v := 0) hx hb dX5_fewestNeeded_0 (by decide) ?_
  refine lv_istore_n (lv' := [(2, .int 0), (0, .int x1), (1, .int ld)]) hx hb dX5_fewestNeeded_1 rfl hl (by decide) rfl (fun ls hl => ?_)
  have hl := lv_sub (l' := [(0, .int x1), (1, .int ld), (2, .int 0)]) hl [1, 2, 0] rfl
  have LP2_3 : ∀ (kf : Nat) (x_1 : Int32), (0 ≤ x_1.toInt ∧ x_1.toInt ≤ 21) → ∀ (H : Heap) (locs : List Loc) (ls : Array Slot), ((22 - x_1.toInt).toNat) < kf → va_P g.1 vwCl (List.flatten []) H → va_D A (List.flatten []) → va_S A s.heap H locs → lv_has ls 3 [(0, .int x1), (1, .int ld), (2, .int x_1)] → W p l e ({ frames := 1, cells := 0, slots := 0, locals := 26 } : Room) s m args below meth c H locs (0) (0) (zF g (fun (q : Int32) => some (.int q)) (fun (q : Int32) => True) (fun (q : Int32) => []) ({ frames := 1, cells := 0, slots := 0, locals := 26 } : Room) below args s A) (F0 m 2 ls []) := by
    intro kf
    induction kf with
    | zero => intro x_1 i2 H locs ls hk; exact absurd hk (Nat.not_lt_zero _)
    | succ kf ih2_4 =>
      intro x_1 i2 H locs ls hk2_4 hP hD hS hl
      refine lv_iload_n hx hb dX5_fewestNeeded_2 rfl (lv_at hl 2 rfl) ?_
      refine lv_bipush (v := 20) hx hb dX5_fewestNeeded_3 (by decide) ?_
      refine lv_icmp_gt (tgt := 37) hx hb dX5_fewestNeeded_5 (by decide) (fun cb9 => ?_) (fun cb9 => ?_)
      · skip
        have c5 : 20 < x_1.toInt := zlti cb9 (by decide) rfl
        have n6 : 21 ≤ x_1.toInt := zL2 (a := 20) c5 (Int.le_refl _) (by decide)
        refine lv_iconst (v := (-1)) hx hb dX5_fewestNeeded_37 (by decide) ?_
        have hP : va_P g.1 vwCl (List.flatten []) H := hP
        have hD : va_D A (List.flatten []) := hD
        exact mret_i hx hb hr hlocks hS (Nat.le_of_ble_eq_true rfl) (Nat.le_of_ble_eq_true rfl) dX5_fewestNeeded_38 (-1) rfl trivial hP hD
      · skip
        have c7 : x_1.toInt ≤ 20 := zle (Int32.not_lt.mp cb9) rfl (by decide)
        have n8 : x_1.toInt ≤ 20 := Int.le_trans c7 (Int.le_refl _)
        refine lv_iload_n hx hb dX5_fewestNeeded_8 rfl (lv_at hl 1 rfl) ?_
        refine lv_iload_n hx hb dX5_fewestNeeded_9 rfl (lv_at hl 2 rfl) ?_
        refine lv_iadd hx hb dX5_fewestNeeded_10 ?_
        refine zg3 (zaddK (i := ld.toInt) (j := x_1.toInt) (a' := (-12)) (b' := 32) rfl rfl b_ld.1 b_ld.2 i2.1 n8 (by decide)) (fun x_9 hx_9 => ?_)
        refine lv_bipush (v := 12) hx hb dX5_fewestNeeded_11 (by decide) ?_
        refine lv_icmp_gt (tgt := 37) hx hb dX5_fewestNeeded_13 (by decide) (fun cb9 => ?_) (fun cb9 => ?_)
        · skip
          have c10 : 12 < x_9.toInt := zlti cb9 (by decide) rfl
          have n11 : 13 ≤ x_9.toInt := zL2 (a := 12) c10 (Int.le_refl _) (by decide)
          refine lv_iconst (v := (-1)) hx hb dX5_fewestNeeded_37 (by decide) ?_
          have hP : va_P g.1 vwCl (List.flatten []) H := hP
          have hD : va_D A (List.flatten []) := hD
          exact mret_i hx hb hr hlocks hS (Nat.le_of_ble_eq_true rfl) (Nat.le_of_ble_eq_true rfl) dX5_fewestNeeded_38 (-1) rfl trivial hP hD
        · skip
          have c12 : x_9.toInt ≤ 12 := zle (Int32.not_lt.mp cb9) rfl (by decide)
          have n13 : x_9.toInt ≤ 12 := Int.le_trans c12 (Int.le_refl _)
          refine lv_iload_n hx hb dX5_fewestNeeded_16 rfl (lv_at hl 0 rfl) ?_
          refine lv_iload_n hx hb dX5_fewestNeeded_17 rfl (lv_at hl 1 rfl) ?_
          refine lv_iload_n hx hb dX5_fewestNeeded_18 rfl (lv_at hl 2 rfl) ?_
          refine lv_iadd hx hb dX5_fewestNeeded_19 ?_
          refine zg3 (zaddK (i := ld.toInt) (j := x_1.toInt) (a' := (-12)) (b' := 32) rfl rfl b_ld.1 b_ld.2 i2.1 n8 (by decide)) (fun x_14 hx_14 => ?_)
          refine mcallS' (g := g) (As := [.int x1, .int x_14]) (rest := []) St hK hT hA hP hD hS hl.1 [] [] rfl rfl rfl (c_r_odds l g x1 x_14 (by first | assumption | omega | decide | exact Or.inl (by decide) | exact Or.inr (by decide))) (va_cwS 2 hts (zgL (zl3 k408 k409 k389) k404) rfl rfl rfl (by decide +kernel) ⟨Nat.le_of_ble_eq_true rfl, Nat.le_of_ble_eq_true rfl⟩) rfl rfl (Nat.le_of_ble_eq_true rfl) dX5_fewestNeeded_20 ⟨(Nat.le_of_ble_eq_true rfl), (Nat.le_of_ble_eq_true rfl)⟩ (fun q_15 H locs hq16 hP hD hS => ?_)
          have hP : va_P g.1 vwCl (List.flatten []) H := hP
          have hD : va_D A (List.flatten []) := hD
          refine W.widen (k := 0) (n := 0) (Nat.le_of_ble_eq_true rfl) (Nat.le_of_ble_eq_true rfl) ?_
          refine W.eq (g2 := F0 m 23 ls [.int q_15]) rfl ?_
          refine lv_sipush (v := 9900) hx hb dX5_fewestNeeded_23 (by decide) ?_
          refine lv_icmp_lt (tgt := 31) hx hb dX5_fewestNeeded_26 (by decide) (fun cb9 => ?_) (fun cb9 => ?_)
          · skip
            have c17 : q_15.toInt < 9900 := zlti cb9 rfl (by decide)
            have n18 : q_15.toInt ≤ 9899 := zL1 (b := 9900) c17 (Int.le_refl _) (by decide)
            refine ziinc3 (n' := 1) (a' := 1) (b' := 21) (lv' := fun v9 => [(2, .int v9), (0, .int x1), (1, .int ld)]) hx hb dX5_fewestNeeded_31 hl (k := 2) rfl (by decide) (fun _ => rfl) (zaddK (i := x_1.toInt) (j := 1) rfl (by decide) i2.1 n8 (Int.le_refl _) (Int.le_refl _) (by decide)) (fun x_19 ls hx_19 hl => ?_)
            refine lv_goto (tgt := 2) hx hb dX5_fewestNeeded_34 (by decide) ?_
            have hl := lv_sub (l' := [(0, .int x1), (1, .int ld), (2, .int x_19)]) hl [1, 2, 0] rfl
            have hP : va_P g.1 vwCl (List.flatten []) H := hP
            have hD : va_D A (List.flatten []) := hD
            exact ih2_4 x_19 ⟨(Int.le_trans (by decide) hx_19.2.1), hx_19.2.2⟩ H _ ls (zmK hx_19.1 (by decide) n8 (by decide) hk2_4)  hP hD hS (lv_sub hl [0, 1, 2] rfl)
          · skip
            have c20 : 9900 ≤ q_15.toInt := zle (Int32.not_lt.mp cb9) (by decide) rfl
            have n21 : 9900 ≤ q_15.toInt := Int.le_trans (Int.le_refl _) c20
            refine lv_iload_n hx hb dX5_fewestNeeded_29 rfl (lv_at hl 2 rfl) ?_
            have hP : va_P g.1 vwCl (List.flatten []) H := hP
            have hD : va_D A (List.flatten []) := hD
            exact mret_i hx hb hr hlocks hS (Nat.le_of_ble_eq_true rfl) (Nat.le_of_ble_eq_true rfl) dX5_fewestNeeded_30 (x_1) rfl trivial hP hD
  have hP : va_P g.1 vwCl (List.flatten []) s.heap := hP
  have hD : va_D A (List.flatten []) := hD
  exact LP2_3 _ 0 (by decide) s.heap _ ls (Nat.lt_succ_self _)  hP hD hS (lv_sub hl [0, 1, 2] rfl)
