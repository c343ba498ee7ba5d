set_option maxRecDepth 100000 in
set_option maxHeartbeats 4000000 in
theorem c_g_latestDayOf (l : Launch) (g : zG) (go : Nat) (gr : Nat) (gz : Int32) (gn : Int32) (fr : Nat → Int32) (w1 : Int32) (b_gz : 0 ≤ gz.toInt ∧ gz.toInt ≤ 60) (b_gn : 0 ≤ gn.toInt ∧ gn.toInt ≤ 59) : zM' g l yX3_latestDayOf (Cond.code yX3_latestDayOf cX3_latestDayOf 3 (some .int) :: zB) ({ frames := 3, cells := 0, slots := 0, locals := 66 } : Room) [.ref go, .int w1] [bLog g go gr gz gn fr] (fun (q : Int32) => some (.int q)) (fun (q : Int32) => True) (fun (q : Int32) => [bLog g go gr gz gn fr]) := by
  refine zM'.of (cc := cX3_latestDayOf) (maxL := 3) (rt := (some .int)) (by decide) rfl (Nat.le_of_ble_eq_true rfl) ?_
  intro p e s m args below meth c A ls St hr hlocks hin hK hT hA hP hD hS hl
  obtain ⟨hx, hb, hml, hown, hts⟩ := id St
  have hl : lv_has ls 3 [(0, .ref go), (1, .int w1)] := hl
  refine lv_iconst (v := 0) hx hb dX3_latestDayOf_0 (by decide) ?_
  refine lv_istore_n (lv' := [(2, .int 0), (0, .ref go), (1, .int w1)]) hx hb dX3_latestDayOf_1 rfl hl (by decide) rfl (fun ls hl => ?_)
  have hl := lv_sub (l' := [(0, .ref go), (1, .int w1), (2, .int 0)]) hl [1, 2, 0] rfl
  have LP2_3 : ∀ (kf : Nat) (x_1 : Int32), (0 ≤ x_1.toInt ∧ x_1.toInt ≤ 60) → ∀ (H : Heap) (locs : List Loc) (ls : Array Slot), ((61 - x_1.toInt).toNat) < kf → va_P g.1 vwCl (List.flatten [bLog g go gr gz gn fr]) H → va_D A (List.flatten [bLog g go gr gz gn fr]) → va_S A s.heap H locs → lv_has ls 3 [(0, .ref go), (1, .int w1), (2, .int x_1)] → W p l e ({ frames := 3, cells := 0, slots := 0, locals := 66 } : Room) s m args below meth c H locs (0) (0) (zF g (fun (q : Int32) => some (.int q)) (fun (q : Int32) => True) (fun (q : Int32) => [bLog g go gr gz gn fr]) ({ frames := 3, cells := 0, slots := 0, locals := 66 } : Room) below args s A) (F0 m 2 ls []) := by
    intro kf
    induction kf with
    | zero => intro x_1 i2 H locs ls hk; exact absurd hk (Nat.not_lt_zero _)
    | succ kf ih2_4 =>
      intro x_1 i2 H locs ls hk2_4 hP hD hS hl
      refine lv_iload_n hx hb dX3_latestDayOf_2 rfl (lv_at hl 2 rfl) ?_
      refine lv_aload_n hx hb dX3_latestDayOf_3 rfl (lv_at hl 0 rfl) ?_
      refine va_get (D := g.1) (ci := 3) (v := .int gz) (C := RX3) (T := TX3) (N := 3) hx hb hts izRX3 hown hK hP 0 rfl rfl 1 (by decide) (hts _ k118) (fun _ h9 => h9) rfl dX3_latestDayOf_4 ?_
      refine lv_icmp_ge (tgt := 32) hx hb dX3_latestDayOf_7 (by decide) (fun cb9 => ?_) (fun cb9 => ?_)
      · skip
        have c5 : gz.toInt ≤ x_1.toInt := zle cb9 rfl rfl
        refine lv_iconst (v := (-1)) hx hb dX3_latestDayOf_32 (by decide) ?_
        have hP : va_P g.1 vwCl (List.flatten [bLog g go gr gz gn fr]) H := hP
        have hD : va_D A (List.flatten [bLog g go gr gz gn fr]) := hD
        exact mret_i hx hb hr hlocks hS (Nat.le_of_ble_eq_true rfl) (Nat.le_of_ble_eq_true rfl) dX3_latestDayOf_33 (-1) rfl trivial hP hD
      · skip
        have c6 : x_1.toInt < gz.toInt := zlti (Int32.not_le.mp cb9) rfl rfl
        have n7 : x_1.toInt ≤ 59 := zL1 (b := 60) c6 b_gz.2 (by decide)
        have n8 : 1 ≤ gz.toInt := zL2 (a := 0) c6 i2.1 (by decide)
        refine lv_aload_n hx hb dX3_latestDayOf_10 rfl (lv_at hl 0 rfl) ?_
        refine lv_iload_n hx hb dX3_latestDayOf_11 rfl (lv_at hl 2 rfl) ?_
        refine lv_iload_n hx hb dX3_latestDayOf_12 rfl (lv_at hl 1 rfl) ?_
        refine mcallV' (g := g) (q0 := 0) (ci := 3) (As := [.int x_1, .int w1]) (rest := []) St hK hT hA hP hD hS hl.1 [0] [] rfl rfl rfl (c_g_isOf l g go gr gz gn fr x_1 w1 b_gz b_gn) (cwV 2 hts (zgL (zl4 k343 k344 k345 k123) k338) rfl rfl rfl (by decide +kernel) ⟨Nat.le_of_ble_eq_true rfl, Nat.le_of_ble_eq_true rfl⟩) rfl rfl rfl rfl (Nat.le_of_ble_eq_true rfl) dX3_latestDayOf_13 ⟨(Nat.le_of_ble_eq_true rfl), (Nat.le_of_ble_eq_true rfl)⟩ (fun q_9 H locs hq10 hP hD hS => ?_)
        replace hq10 : (q_9 = 0 ∨ q_9 = 1) := hq10
        have hP : va_P g.1 vwCl (List.flatten [bLog g go gr gz gn fr]) H := hP
        have hD : va_D A (List.flatten [bLog g go gr gz gn fr]) := hD
        refine W.widen (k := 0) (n := 0) (Nat.le_of_ble_eq_true rfl) (Nat.le_of_ble_eq_true rfl) ?_
        refine W.eq (g2 := F0 m 16 ls [.int q_9]) rfl ?_
        rcases hq10 with rfl | rfl
        · skip
          refine lv_if_eq (tgt := 26) hx hb dX3_latestDayOf_16 (by decide) (fun _ => ?_) (fun c11 => absurd (by decide) c11)
          refine ziinc3 (n' := 1) (a' := 1) (b' := 60) (lv' := fun v9 => [(2, .int v9), (0, .ref go), (1, .int w1)]) hx hb dX3_latestDayOf_26 hl (k := 2) rfl (by decide) (fun _ => rfl) (zaddK (i := x_1.toInt) (j := 1) rfl (by decide) i2.1 n7 (Int.le_refl _) (Int.le_refl _) (by decide)) (fun x_12 ls hx_12 hl => ?_)
          refine lv_goto (tgt := 2) hx hb dX3_latestDayOf_29 (by decide) ?_
          have hl := lv_sub (l' := [(0, .ref go), (1, .int w1), (2, .int x_12)]) hl [1, 2, 0] rfl
          have hP : va_P g.1 vwCl (List.flatten [bLog g go gr gz gn fr]) H := hP
          have hD : va_D A (List.flatten [bLog g go gr gz gn fr]) := hD
          exact ih2_4 x_12 ⟨(Int.le_trans (by decide) hx_12.2.1), hx_12.2.2⟩ H _ ls (zmK hx_12.1 (by decide) n7 (by decide) hk2_4)  hP hD hS (lv_sub hl [0, 1, 2] rfl)
        · skip
          refine lv_if_eq (tgt := 26) hx hb dX3_latestDayOf_16 (by decide) (fun c13 => absurd c13 (by decide)) (fun _ => ?_)
          refine lv_aload_n hx hb dX3_latestDayOf_19 rfl (lv_at hl 0 rfl) ?_
          refine lv_iload_n hx hb dX3_latestDayOf_20 rfl (lv_at hl 2 rfl) ?_
          refine lv_iconst (v := 0) hx hb dX3_latestDayOf_21 (by decide) ?_
          have hL0 : (0 : Int32).toInt = 0 := by decide
          refine mcallV' (g := g) (q0 := 0) (ci := 3) (As := [.int x_1, .int 0]) (rest := []) St hK hT hA hP hD hS hl.1 [0] [] rfl rfl rfl (c_g_at l g go gr gz gn fr x_1 0 b_gz b_gn (by decide)) (cwV 2 hts (zgL (zl4 k339 k340 k341 k123) k334) rfl rfl rfl (by decide +kernel) ⟨Nat.le_of_ble_eq_true rfl, Nat.le_of_ble_eq_true rfl⟩) rfl rfl rfl rfl (Nat.le_of_ble_eq_true rfl) dX3_latestDayOf_22 ⟨(Nat.le_of_ble_eq_true rfl), (Nat.le_of_ble_eq_true rfl)⟩ (fun q_14 H locs hq15 hP hD hS => ?_)
          have hP : va_P g.1 vwCl (List.flatten [bLog g go gr gz gn fr]) H := hP
          have hD : va_D A (List.flatten [bLog g go gr gz gn fr]) := hD
          refine W.widen (k := 0) (n := 0) (Nat.le_of_ble_eq_true rfl) (Nat.le_of_ble_eq_true rfl) ?_
          refine W.eq (g2 := F0 m 25 ls [.int q_14]) rfl ?_
          have hP : va_P g.1 vwCl (List.flatten [bLog g go gr gz gn fr]) H := hP
          have hD : va_D A (List.flatten [bLog g go gr gz gn fr]) := hD
          exact mret_i hx hb hr hlocks hS (Nat.le_of_ble_eq_true rfl) (Nat.le_of_ble_eq_true rfl) dX3_latestDayOf_25 (q_14) rfl trivial hP hD
  have hP : va_P g.1 vwCl (List.flatten [bLog g go gr gz gn fr]) s.heap := hP
  have hD : va_D A (List.flatten [bLog g go gr gz gn fr]) := hD
  exact LP2_3 _ 0 (by decide) s.heap _ ls (Nat.lt_succ_self _)  hP hD hS (lv_sub hl [0, 1, 2] rfl)
