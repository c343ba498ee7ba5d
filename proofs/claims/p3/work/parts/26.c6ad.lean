set_option maxRecDepth 100000 in
set_option maxHeartbeats 4000000 in
theorem c_g_isOf (l : Launch) (g : zG) (go : Nat) (gr : Nat) (gz : Int32) (gn : Int32) (fr : Nat → Int32) (ago : Int32) (w1 : Int32) (b_gz : 0 ≤ gz.toInt ∧ gz.toInt ≤ 60) (b_gn : 0 ≤ gn.toInt ∧ gn.toInt ≤ 59) : zM' g l yX3_isOf (Cond.code yX3_isOf cX3_isOf 3 (some .boolean) :: zB) ({ frames := 2, cells := 0, slots := 0, locals := 44 } : Room) [.ref go, .int ago, .int w1] [bLog g go gr gz gn fr] (fun (q : Int32) => some (.int q)) (fun (q : Int32) => (q = 0 ∨ q = 1)) (fun (q : Int32) => [bLog g go gr gz gn fr]) := by
  refine zM'.of (cc := cX3_isOf) (maxL := 3) (rt := (some .boolean)) (by decide) rfl (Nat.le_of_ble_eq_true rfl) ?_
  intro p e s m args below meth c A ls St hr hlocks hin hK hT hA hP hD hS hl
  obtain ⟨hx, hb, hml, hown, hts⟩ := id St
  have hl : lv_has ls 3 [(0, .ref go), (1, .int ago), (2, .int w1)] := hl
  refine lv_aload_n hx hb dX3_isOf_0 rfl (lv_at hl 0 rfl) ?_
  refine lv_iload_n hx hb dX3_isOf_1 rfl (lv_at hl 1 rfl) ?_
  refine lv_iconst (v := 1) hx hb dX3_isOf_2 (by decide) ?_
  have hL1 : (1 : Int32).toInt = 1 := by decide
  refine mcallV' (g := g) (q0 := 0) (ci := 3) (As := [.int ago, .int 1]) (rest := []) St hK hT hA hP hD hS hl.1 [0] [] rfl rfl rfl (c_g_at l g go gr gz gn fr ago 1 b_gz b_gn (by decide)) (cwV 2 hts (zgL (zl4 k339 k340 k341 k123) k334) rfl rfl rfl (by decide +kernel) ⟨Nat.le_of_ble_eq_true rfl, Nat.le_of_ble_eq_true rfl⟩) rfl rfl rfl rfl (Nat.le_of_ble_eq_true rfl) dX3_isOf_3 ⟨(Nat.le_of_ble_eq_true rfl), (Nat.le_of_ble_eq_true rfl)⟩ (fun q_1 H locs hq2 hP hD hS => ?_)
  have hP : va_P g.1 vwCl (List.flatten [bLog g go gr gz gn fr]) H := hP
  have hD : va_D A (List.flatten [bLog g go gr gz gn fr]) := hD
  refine W.widen (k := 0) (n := 0) (Nat.le_of_ble_eq_true rfl) (Nat.le_of_ble_eq_true rfl) ?_
  refine W.eq (g2 := F0 m 6 ls [.int q_1]) rfl ?_
  refine lv_iload_n hx hb dX3_isOf_6 rfl (lv_at hl 2 rfl) ?_
  refine lv_icmp_ne (tgt := 24) hx hb dX3_isOf_7 (by decide) (fun cb9 => ?_) (fun cb9 => ?_)
  · skip
    have c3 : ¬ q_1.toInt = w1.toInt := zne cb9 rfl rfl
    refine lv_iconst (v := 0) hx hb dX3_isOf_24 (by decide) ?_
    have hP : va_P g.1 vwCl (List.flatten [bLog g go gr gz gn fr]) H := hP
    have hD : va_D A (List.flatten [bLog g go gr gz gn fr]) := hD
    exact mret_z hx hb hr hlocks hS (Nat.le_of_ble_eq_true rfl) (Nat.le_of_ble_eq_true rfl) dX3_isOf_25 ((0 : Int32)) rfl (by decide) (show (0 = 0 ∨ 0 = 1) from (by decide)) hP hD
  · skip
    have c4 : q_1.toInt = w1.toInt := zeq cb9 rfl rfl
    refine lv_aload_n hx hb dX3_isOf_10 rfl (lv_at hl 0 rfl) ?_
    refine lv_iload_n hx hb dX3_isOf_11 rfl (lv_at hl 1 rfl) ?_
    refine lv_iconst (v := 2) hx hb dX3_isOf_12 (by decide) ?_
    have hL2 : (2 : Int32).toInt = 2 := by decide
    refine mcallV' (g := g) (q0 := 0) (ci := 3) (As := [.int ago, .int 2]) (rest := []) St hK hT hA hP hD hS hl.1 [0] [] rfl rfl rfl (c_g_at l g go gr gz gn fr ago 2 b_gz b_gn (by decide)) (cwV 2 hts (zgL (zl4 k339 k340 k341 k123) k334) rfl rfl rfl (by decide +kernel) ⟨Nat.le_of_ble_eq_true rfl, Nat.le_of_ble_eq_true rfl⟩) rfl rfl rfl rfl (Nat.le_of_ble_eq_true rfl) dX3_isOf_13 ⟨(Nat.le_of_ble_eq_true rfl), (Nat.le_of_ble_eq_true rfl)⟩ (fun q_5 H locs hq6 hP hD hS => ?_)
    have hP : va_P g.1 vwCl (List.flatten [bLog g go gr gz gn fr]) H := hP
    have hD : va_D A (List.flatten [bLog g go gr gz gn fr]) := hD
    refine W.widen (k := 0) (n := 0) (Nat.le_of_ble_eq_true rfl) (Nat.le_of_ble_eq_true rfl) ?_
    refine W.eq (g2 := F0 m 16 ls [.int q_5]) rfl ?_
    refine lv_iconst (v := 1) hx hb dX3_isOf_16 (by decide) ?_
    refine lv_icmp_gt (tgt := 24) hx hb dX3_isOf_17 (by decide) (fun cb9 => ?_) (fun cb9 => ?_)
    · skip
      have c7 : 1 < q_5.toInt := zlti cb9 (by decide) rfl
      have n8 : 2 ≤ q_5.toInt := zL2 (a := 1) c7 (Int.le_refl _) (by decide)
      refine lv_iconst (v := 0) hx hb dX3_isOf_24 (by decide) ?_
      have hP : va_P g.1 vwCl (List.flatten [bLog g go gr gz gn fr]) H := hP
      have hD : va_D A (List.flatten [bLog g go gr gz gn fr]) := hD
      exact mret_z hx hb hr hlocks hS (Nat.le_of_ble_eq_true rfl) (Nat.le_of_ble_eq_true rfl) dX3_isOf_25 ((0 : Int32)) rfl (by decide) (show (0 = 0 ∨ 0 = 1) from (by decide)) hP hD
    · skip
      have c9 : q_5.toInt ≤ 1 := zle (Int32.not_lt.mp cb9) rfl (by decide)
      have n10 : q_5.toInt ≤ 1 := Int.le_trans c9 (Int.le_refl _)
      refine lv_iconst (v := 1) hx hb dX3_isOf_20 (by decide) ?_
      refine lv_goto (tgt := 25) hx hb dX3_isOf_21 (by decide) ?_
      have hP : va_P g.1 vwCl (List.flatten [bLog g go gr gz gn fr]) H := hP
      have hD : va_D A (List.flatten [bLog g go gr gz gn fr]) := hD
      exact mret_z hx hb hr hlocks hS (Nat.le_of_ble_eq_true rfl) (Nat.le_of_ble_eq_true rfl) dX3_isOf_25 ((1 : Int32)) rfl (by decide) (show (1 = 0 ∨ 1 = 1) from (by decide)) hP hD
