set_option maxRecDepth 100000 in
set_option maxHeartbeats 4000000 in
theorem c_r_odds (l : Launch) (g : zG) (x1 : Int32) (ld : Int32) (b_ld : (-12) ≤ ld.toInt ∧ ld.toInt ≤ 12) : zM' g l yX5_odds (Cond.code yX5_odds cX5_odds 7 (some .int) :: zB) ({ frames := 0, cells := 0, slots := 0, locals := 0 } : Room) [.int x1, .int ld] [] (fun (q : Int32) => some (.int q)) (fun (q : Int32) => True) (fun (q : Int32) => []) := by
  refine zM'.of (cc := cX5_odds) (maxL := 7) (rt := (some .int)) (by decide) rfl (Nat.le_of_ble_eq_true rfl) ?_
  intro p e s m args below meth c A ls St hr hlocks hin hK hT hA hP hD hS hl
  obtain ⟨hx, hb, hml, hown, hts⟩ := id St
  have hl : lv_has ls 7 [(0, .int x1), (1, .int ld)] := hl
  refine lv_iload_n hx hb dX5_odds_0 rfl (lv_at hl 0 rfl) ?_
  refine lv_i2l hx hb dX5_odds_1 rfl (zgl (fun y1 => ?_))
  refine lv_lstore_n (lv' := [(2, .long y1), (0, .int x1), (1, .int ld)]) hx hb dX5_odds_2 rfl hl (by decide) rfl (fun ls hl => ?_)
  refine lv_bipush (v := 100) hx hb dX5_odds_3 (by decide) ?_
  refine lv_iload_n hx hb dX5_odds_5 rfl (lv_at hl 1 rfl) ?_
  refine lv_isub hx hb dX5_odds_6 ?_
  refine zg (fun x_2 => ?_)
  refine lv_i2l hx hb dX5_odds_7 rfl (zgl (fun y3 => ?_))
  refine lv_lstore (lv' := [(4, .long y3), (2, .long y1), (0, .int x1), (1, .int ld)]) hx hb dX5_odds_8 hl (by decide) rfl (fun ls hl => ?_)
  refine lv_iconst (v := 0) hx hb dX5_odds_10 (by decide) ?_
  refine lv_istore (lv' := [(6, .int 0), (4, .long y3), (2, .long y1), (0, .int x1), (1, .int ld)]) hx hb dX5_odds_11 hl (by decide) rfl (fun ls hl => ?_)
  have hl := lv_sub (l' := [(0, .int x1), (1, .int ld), (2, .long y1), (4, .long y3), (6, .int 0)]) hl [3, 4, 2, 1, 0] rfl
  have LP13_7 : ∀ (kf : Nat) (y_4 : Int64) (x_5 : Int32), (0 ≤ x_5.toInt ∧ x_5.toInt ≤ 12) → ∀ (H : Heap) (locs : List Loc) (ls : Array Slot), ((13 - x_5.toInt).toNat) < kf → va_P g.1 vwCl (List.flatten []) H → va_D A (List.flatten []) → va_S A s.heap H locs → lv_has ls 7 [(0, .int x1), (1, .int ld), (2, .long y_4), (4, .long y3), (6, .int x_5)] → W p l e ({ frames := 0, cells := 0, slots := 0, locals := 0 } : Room) s m args below meth c H locs (0) (0) (zF g (fun (q : Int32) => some (.int q)) (fun (q : Int32) => True) (fun (q : Int32) => []) ({ frames := 0, cells := 0, slots := 0, locals := 0 } : Room) below args s A) (F0 m 13 ls []) := by
    intro kf
    induction kf with
    | zero => intro y_4 x_5 i6 H locs ls hk; exact absurd hk (Nat.not_lt_zero _)
    | succ kf ih13_8 =>
      intro y_4 x_5 i6 H locs ls hk13_8 hP hD hS hl
      refine lv_iload hx hb dX5_odds_13 (lv_at hl 4 rfl) ?_
      refine lv_iload_n hx hb dX5_odds_15 rfl (lv_at hl 1 rfl) ?_
      refine lv_icmp_ge (tgt := 31) hx hb dX5_odds_16 (by decide) (fun cb9 => ?_) (fun cb9 => ?_)
      · skip
        have c9 : ld.toInt ≤ x_5.toInt := zle cb9 rfl rfl
        refine lv_iconst (v := 0) hx hb dX5_odds_31 (by decide) ?_
        refine lv_istore (lv' := [(6, .int 0), (0, .int x1), (1, .int ld), (2, .long y_4), (4, .long y3)]) hx hb dX5_odds_32 hl (by decide) rfl (fun ls hl => ?_)
        have hl := lv_sub (l' := [(0, .int x1), (1, .int ld), (2, .long y_4), (4, .long y3), (6, .int 0)]) hl [1, 2, 3, 4, 0] rfl
        have LP34_13 : ∀ (kf : Nat) (y_10 : Int64) (x_11 : Int32), (0 ≤ x_11.toInt ∧ x_11.toInt ≤ 12) → ∀ (H : Heap) (locs : List Loc) (ls : Array Slot), ((13 - x_11.toInt).toNat) < kf → va_P g.1 vwCl (List.flatten []) H → va_D A (List.flatten []) → va_S A s.heap H locs → lv_has ls 7 [(0, .int x1), (1, .int ld), (2, .long y_4), (4, .long y_10), (6, .int x_11)] → W p l e ({ frames := 0, cells := 0, slots := 0, locals := 0 } : Room) s m args below meth c H locs (0) (0) (zF g (fun (q : Int32) => some (.int q)) (fun (q : Int32) => True) (fun (q : Int32) => []) ({ frames := 0, cells := 0, slots := 0, locals := 0 } : Room) below args s A) (F0 m 34 ls []) := by
          intro kf
          induction kf with
          | zero => intro y_10 x_11 i12 H locs ls hk; exact absurd hk (Nat.not_lt_zero _)
          | succ kf ih34_14 =>
            intro y_10 x_11 i12 H locs ls hk34_14 hP hD hS hl
            refine lv_iload hx hb dX5_odds_34 (lv_at hl 4 rfl) ?_
            refine lv_iload_n hx hb dX5_odds_36 rfl (lv_at hl 1 rfl) ?_
            refine lv_ineg hx hb dX5_odds_37 ?_
            refine zgv (zneg (i := ld.toInt) rfl (by omega)) (fun x_15 hx_15 => ?_)
            refine lv_icmp_ge (tgt := 55) hx hb dX5_odds_38 (by decide) (fun cb9 => ?_) (fun cb9 => ?_)
            · skip
              have c16 : x_15.toInt ≤ x_11.toInt := zle cb9 rfl rfl
              refine lv_lload_n hx hb dX5_odds_55 rfl (lv_at hl 2 rfl) ?_
              refine lv_lload hx hb dX5_odds_56 (lv_at hl 3 rfl) ?_
              refine lv_ladd hx hb dX5_odds_58 ?_
              refine lv_lconst (v := 0) hx hb dX5_odds_59 (by decide) ?_
              refine W.lcmp hx hb dX5_odds_60 ?_
              refine lv_if_gt (tgt := 68) hx hb dX5_odds_61 (by decide) (fun hnz => ?_) (fun _ => ?_)
              · skip
                refine lv_ldc2 (v := 10000) hx hb hown (hts _ k406) dX5_odds_68 ?_
                refine lv_lload_n hx hb dX5_odds_71 rfl (lv_at hl 2 rfl) ?_
                refine lv_lmul hx hb dX5_odds_72 (zgl (fun y17 => ?_))
                refine lv_lload_n hx hb dX5_odds_73 rfl (lv_at hl 2 rfl) ?_
                refine lv_lload hx hb dX5_odds_74 (lv_at hl 3 rfl) ?_
                refine lv_ladd hx hb dX5_odds_76 ?_
                refine lv_ldiv hx hb dX5_odds_77 (zlcN hnz) (zgl (fun y18 => ?_))
                refine lv_l2i hx hb dX5_odds_78 rfl ?_
                refine zg (fun x_19 => ?_)
                have hP : va_P g.1 vwCl (List.flatten []) H := hP
                have hD : va_D A (List.flatten []) := hD
                exact mret_i hx hb hr hlocks hS (Nat.le_of_ble_eq_true rfl) (Nat.le_of_ble_eq_true rfl) dX5_odds_79 (x_19) rfl trivial hP hD
              · skip
                refine lv_iconst (v := 0) hx hb dX5_odds_64 (by decide) ?_
                refine lv_goto (tgt := 79) hx hb dX5_odds_65 (by decide) ?_
                have hP : va_P g.1 vwCl (List.flatten []) H := hP
                have hD : va_D A (List.flatten []) := hD
                exact mret_i hx hb hr hlocks hS (Nat.le_of_ble_eq_true rfl) (Nat.le_of_ble_eq_true rfl) dX5_odds_79 ((0 : Int32)) rfl trivial hP hD
            · skip
              have c20 : x_11.toInt < x_15.toInt := zlti (Int32.not_le.mp cb9) rfl rfl
              have n21 : 1 ≤ x_15.toInt := zL2 (a := 0) c20 i12.1 (by decide)
              refine lv_lload hx hb dX5_odds_41 (lv_at hl 3 rfl) ?_
              refine lv_ldc2 (v := 9) hx hb hown (hts _ k405) dX5_odds_43 ?_
              refine lv_lmul hx hb dX5_odds_46 (zgl (fun y22 => ?_))
              refine lv_lstore (lv' := [(4, .long y22), (0, .int x1), (1, .int ld), (2, .long y_4), (6, .int x_11)]) hx hb dX5_odds_47 hl (by decide) rfl (fun ls hl => ?_)
              refine ziinc (j := x_11.toInt + 1) (lv' := fun v9 => [(6, .int v9), (4, .long y22), (0, .int x1), (1, .int ld), (2, .long y_4)]) hx hb dX5_odds_49 hl (k := 4) rfl (by decide) (fun _ => rfl) (zadd (i := x_11.toInt) (j := 1) rfl (by decide) (by omega)) (fun x_23 ls hx_23 hl => ?_)
              refine lv_goto (tgt := 34) hx hb dX5_odds_52 (by decide) ?_
              have hl := lv_sub (l' := [(0, .int x1), (1, .int ld), (2, .long y_4), (4, .long y22), (6, .int x_23)]) hl [2, 3, 4, 1, 0] rfl
              have hP : va_P g.1 vwCl (List.flatten []) H := hP
              have hD : va_D A (List.flatten []) := hD
              exact ih34_14 y22 x_23 (by first | omega | assumption | decide) H _ ls (by omega)  hP hD hS (lv_sub hl [0, 1, 2, 3, 4] rfl)
        have hP : va_P g.1 vwCl (List.flatten []) H := hP
        have hD : va_D A (List.flatten []) := hD
        exact LP34_13 _ y3 0 (by decide) H _ ls (Nat.lt_succ_self _)  hP hD hS (lv_sub hl [0, 1, 2, 3, 4] rfl)
      · skip
        have c24 : x_5.toInt < ld.toInt := zlti (Int32.not_le.mp cb9) rfl rfl
        have n25 : x_5.toInt ≤ 11 := zL1 (b := 12) c24 b_ld.2 (by decide)
        have n26 : 1 ≤ ld.toInt := zL2 (a := 0) c24 i6.1 (by decide)
        refine lv_lload_n hx hb dX5_odds_19 rfl (lv_at hl 2 rfl) ?_
        refine lv_ldc2 (v := 9) hx hb hown (hts _ k405) dX5_odds_20 ?_
        refine lv_lmul hx hb dX5_odds_23 (zgl (fun y27 => ?_))
        refine lv_lstore_n (lv' := [(2, .long y27), (0, .int x1), (1, .int ld), (4, .long y3), (6, .int x_5)]) hx hb dX5_odds_24 rfl hl (by decide) rfl (fun ls hl => ?_)
        refine ziinc3 (n' := 1) (a' := 1) (b' := 12) (lv' := fun v9 => [(6, .int v9), (2, .long y27), (0, .int x1), (1, .int ld), (4, .long y3)]) hx hb dX5_odds_25 hl (k := 4) rfl (by decide) (fun _ => rfl) (zaddK (i := x_5.toInt) (j := 1) rfl (by decide) i6.1 n25 (Int.le_refl _) (Int.le_refl _) (by decide)) (fun x_28 ls hx_28 hl => ?_)
        refine lv_goto (tgt := 13) hx hb dX5_odds_28 (by decide) ?_
        have hl := lv_sub (l' := [(0, .int x1), (1, .int ld), (2, .long y27), (4, .long y3), (6, .int x_28)]) hl [2, 3, 1, 4, 0] rfl
        have hP : va_P g.1 vwCl (List.flatten []) H := hP
        have hD : va_D A (List.flatten []) := hD
        exact ih13_8 y27 x_28 ⟨(Int.le_trans (by decide) hx_28.2.1), hx_28.2.2⟩ H _ ls (zmK hx_28.1 (by decide) n25 (by decide) hk13_8)  hP hD hS (lv_sub hl [0, 1, 2, 3, 4] rfl)
  have hP : va_P g.1 vwCl (List.flatten []) s.heap := hP
  have hD : va_D A (List.flatten []) := hD
  exact LP13_7 _ y1 0 (by decide) s.heap _ ls (Nat.lt_succ_self _)  hP hD hS (lv_sub hl [0, 1, 2, 3, 4] rfl)
set_option maxRecDepth 100000 in
set_option maxHeartbeats 4000000 in
theorem c_r_fewestNeeded (l : Launch) (g : zG) (x1 : Int32) (ld : Int32) (b_ld : (-12) ≤ ld.toInt ∧ ld.toInt ≤ 12) : zM' g l yX5_fewestNeeded (Cond.code yX5_fewestNeeded cX5_fewestNeeded 3 (some .int) :: zB) ({ frames := 1, cells := 0, slots := 0, locals := 26 } : Room) [.int x1, .int ld] [] (fun (q : Int32) => some (.int q)) (fun (q : Int32) => True) (fun (q : Int32) => []) := by
  refine zM'.of (cc := cX5_fewestNeeded) (maxL := 3) (rt := (some .int)) (by decide) rfl (Nat.le_of_ble_eq_true rfl) ?_
  intro p e s m args below meth c A ls St hr hlocks hin hK hT hA hP hD hS hl
  obtain ⟨hx, hb, hml, hown, hts⟩ := id St
  have hl : lv_has ls 3 [(0, .int x1), (1, .int ld)] := hl
  refine lv_iconst (v := 0) hx hb dX5_fewestNeeded_0 (by decide) ?_
  refine lv_istore_n (lv' := [(2, .int 0), (0, .int x1), (1, .int ld)]) hx hb dX5_fewestNeeded_1 rfl hl (by decide) rfl (fun ls hl => ?_)
  have hl := lv_sub (l' := [(0, .int x1), (1, .int ld), (2, .int 0)]) hl [1, 2, 0] rfl
  have LP2_3 : ∀ (kf : Nat) (x_1 : Int32), (0 ≤ x_1.toInt ∧ x_1.toInt ≤ 21) → ∀ (H : Heap) (locs : List Loc) (ls : Array Slot), ((22 - x_1.toInt).toNat) < kf → va_P g.1 vwCl (List.flatten []) H → va_D A (List.flatten []) → va_S A s.heap H locs → lv_has ls 3 [(0, .int x1), (1, .int ld), (2, .int x_1)] → W p l e ({ frames := 1, cells := 0, slots := 0, locals := 26 } : Room) s m args below meth c H locs (0) (0) (zF g (fun (q : Int32) => some (.int q)) (fun (q : Int32) => True) (fun (q : Int32) => []) ({ frames := 1, cells := 0, slots := 0, locals := 26 } : Room) below args s A) (F0 m 2 ls []) := by
    intro kf
    induction kf with
    | zero => intro x_1 i2 H locs ls hk; exact absurd hk (Nat.not_lt_zero _)
    | succ kf ih2_4 =>
      intro x_1 i2 H locs ls hk2_4 hP hD hS hl
      refine lv_iload_n hx hb dX5_fewestNeeded_2 rfl (lv_at hl 2 rfl) ?_
      refine lv_bipush (v := 20) hx hb dX5_fewestNeeded_3 (by decide) ?_
      refine lv_icmp_gt (tgt := 37) hx hb dX5_fewestNeeded_5 (by decide) (fun cb9 => ?_) (fun cb9 => ?_)
      · skip
        have c5 : 20 < x_1.toInt := zlti cb9 (by decide) rfl
        have n6 : 21 ≤ x_1.toInt := zL2 (a := 20) c5 (Int.le_refl _) (by decide)
        refine lv_iconst (v := (-1)) hx hb dX5_fewestNeeded_37 (by decide) ?_
        have hP : va_P g.1 vwCl (List.flatten []) H := hP
        have hD : va_D A (List.flatten []) := hD
        exact mret_i hx hb hr hlocks hS (Nat.le_of_ble_eq_true rfl) (Nat.le_of_ble_eq_true rfl) dX5_fewestNeeded_38 (-1) rfl trivial hP hD
      · skip
        have c7 : x_1.toInt ≤ 20 := zle (Int32.not_lt.mp cb9) rfl (by decide)
        have n8 : x_1.toInt ≤ 20 := Int.le_trans c7 (Int.le_refl _)
        refine lv_iload_n hx hb dX5_fewestNeeded_8 rfl (lv_at hl 1 rfl) ?_
        refine lv_iload_n hx hb dX5_fewestNeeded_9 rfl (lv_at hl 2 rfl) ?_
        refine lv_iadd hx hb dX5_fewestNeeded_10 ?_
        refine zg3 (zaddK (i := ld.toInt) (j := x_1.toInt) (a' := (-12)) (b' := 32) rfl rfl b_ld.1 b_ld.2 i2.1 n8 (by decide)) (fun x_9 hx_9 => ?_)
        refine lv_bipush (v := 12) hx hb dX5_fewestNeeded_11 (by decide) ?_
        refine lv_icmp_gt (tgt := 37) hx hb dX5_fewestNeeded_13 (by decide) (fun cb9 => ?_) (fun cb9 => ?_)
        · skip
          have c10 : 12 < x_9.toInt := zlti cb9 (by decide) rfl
          have n11 : 13 ≤ x_9.toInt := zL2 (a := 12) c10 (Int.le_refl _) (by decide)
          refine lv_iconst (v := (-1)) hx hb dX5_fewestNeeded_37 (by decide) ?_
          have hP : va_P g.1 vwCl (List.flatten []) H := hP
          have hD : va_D A (List.flatten []) := hD
          exact mret_i hx hb hr hlocks hS (Nat.le_of_ble_eq_true rfl) (Nat.le_of_ble_eq_true rfl) dX5_fewestNeeded_38 (-1) rfl trivial hP hD
        · skip
          have c12 : x_9.toInt ≤ 12 := zle (Int32.not_lt.mp cb9) rfl (by decide)
          have n13 : x_9.toInt ≤ 12 := Int.le_trans c12 (Int.le_refl _)
          refine lv_iload_n hx hb dX5_fewestNeeded_16 rfl (lv_at hl 0 rfl) ?_
          refine lv_iload_n hx hb dX5_fewestNeeded_17 rfl (lv_at hl 1 rfl) ?_
          refine lv_iload_n hx hb dX5_fewestNeeded_18 rfl (lv_at hl 2 rfl) ?_
          refine lv_iadd hx hb dX5_fewestNeeded_19 ?_
          refine zg3 (zaddK (i := ld.toInt) (j := x_1.toInt) (a' := (-12)) (b' := 32) rfl rfl b_ld.1 b_ld.2 i2.1 n8 (by decide)) (fun x_14 hx_14 => ?_)
          refine mcallS' (g := g) (As := [.int x1, .int x_14]) (rest := []) St hK hT hA hP hD hS hl.1 [] [] rfl rfl rfl (c_r_odds l g x1 x_14 (by first | assumption | omega | decide | exact Or.inl (by decide) | exact Or.inr (by decide))) (va_cwS 2 hts (zgL (zl3 k408 k409 k389) k404) rfl rfl rfl (by decide +kernel) ⟨Nat.le_of_ble_eq_true rfl, Nat.le_of_ble_eq_true rfl⟩) rfl rfl (Nat.le_of_ble_eq_true rfl) dX5_fewestNeeded_20 ⟨(Nat.le_of_ble_eq_true rfl), (Nat.le_of_ble_eq_true rfl)⟩ (fun q_15 H locs hq16 hP hD hS => ?_)
          have hP : va_P g.1 vwCl (List.flatten []) H := hP
          have hD : va_D A (List.flatten []) := hD
          refine W.widen (k := 0) (n := 0) (Nat.le_of_ble_eq_true rfl) (Nat.le_of_ble_eq_true rfl) ?_
          refine W.eq (g2 := F0 m 23 ls [.int q_15]) rfl ?_
          refine lv_sipush (v := 9900) hx hb dX5_fewestNeeded_23 (by decide) ?_
          refine lv_icmp_lt (tgt := 31) hx hb dX5_fewestNeeded_26 (by decide) (fun cb9 => ?_) (fun cb9 => ?_)
          · skip
            have c17 : q_15.toInt < 9900 := zlti cb9 rfl (by decide)
            have n18 : q_15.toInt ≤ 9899 := zL1 (b := 9900) c17 (Int.le_refl _) (by decide)
            refine ziinc3 (n' := 1) (a' := 1) (b' := 21) (lv' := fun v9 => [(2, .int v9), (0, .int x1), (1, .int ld)]) hx hb dX5_fewestNeeded_31 hl (k := 2) rfl (by decide) (fun _ => rfl) (zaddK (i := x_1.toInt) (j := 1) rfl (by decide) i2.1 n8 (Int.le_refl _) (Int.le_refl _) (by decide)) (fun x_19 ls hx_19 hl => ?_)
            refine lv_goto (tgt := 2) hx hb dX5_fewestNeeded_34 (by decide) ?_
            have hl := lv_sub (l' := [(0, .int x1), (1, .int ld), (2, .int x_19)]) hl [1, 2, 0] rfl
            have hP : va_P g.1 vwCl (List.flatten []) H := hP
            have hD : va_D A (List.flatten []) := hD
            exact ih2_4 x_19 ⟨(Int.le_trans (by decide) hx_19.2.1), hx_19.2.2⟩ H _ ls (zmK hx_19.1 (by decide) n8 (by decide) hk2_4)  hP hD hS (lv_sub hl [0, 1, 2] rfl)
          · skip
            have c20 : 9900 ≤ q_15.toInt := zle (Int32.not_lt.mp cb9) (by decide) rfl
            have n21 : 9900 ≤ q_15.toInt := Int.le_trans (Int.le_refl _) c20
            refine lv_iload_n hx hb dX5_fewestNeeded_29 rfl (lv_at hl 2 rfl) ?_
            have hP : va_P g.1 vwCl (List.flatten []) H := hP
            have hD : va_D A (List.flatten []) := hD
            exact mret_i hx hb hr hlocks hS (Nat.le_of_ble_eq_true rfl) (Nat.le_of_ble_eq_true rfl) dX5_fewestNeeded_30 (x_1) rfl trivial hP hD
  have hP : va_P g.1 vwCl (List.flatten []) s.heap := hP
  have hD : va_D A (List.flatten []) := hD
  exact LP2_3 _ 0 (by decide) s.heap _ ls (Nat.lt_succ_self _)  hP hD hS (lv_sub hl [0, 1, 2] rfl)
