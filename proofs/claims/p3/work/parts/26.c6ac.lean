set_option maxRecDepth 100000 in
set_option maxHeartbeats 4000000 in
theorem c_g_at (l : Launch) (g : zG) (go : Nat) (gr : Nat) (gz : Int32) (gn : Int32) (fr : Nat → Int32) (ago : Int32) (what : Int32) (b_gz : 0 ≤ gz.toInt ∧ gz.toInt ≤ 60) (b_gn : 0 ≤ gn.toInt ∧ gn.toInt ≤ 59) (b_what : 0 ≤ what.toInt ∧ what.toInt ≤ 3) : zM' g l yX3_at (Cond.code yX3_at cX3_at 3 (some .int) :: zB) ({ frames := 1, cells := 0, slots := 0, locals := 22 } : Room) [.ref go, .int ago, .int what] [bLog g go gr gz gn fr] (fun (q : Int32) => some (.int q)) (fun (q : Int32) => True) (fun (q : Int32) => [bLog g go gr gz gn fr]) := by
  refine zM'.of (cc := cX3_at) (maxL := 3) (rt := (some .int)) (by decide) rfl (Nat.le_of_ble_eq_true rfl) ?_
  intro p e s m args below meth c A ls St hr hlocks hin hK hT hA hP hD hS hl
  obtain ⟨hx, hb, hml, hown, hts⟩ := id St
  have hl : lv_has ls 3 [(0, .ref go), (1, .int ago), (2, .int what)] := hl
  refine lv_iload_n hx hb dX3_at_0 rfl (lv_at hl 1 rfl) ?_
  refine lv_if_lt (tgt := 12) hx hb dX3_at_1 (by decide) (fun cb9 => ?_) (fun cb9 => ?_)
  · skip
    have c1 : ago.toInt < 0 := zlti cb9 rfl (by decide)
    have n2 : ago.toInt ≤ (-1) := zL1 (b := 0) c1 (Int.le_refl _) (by decide)
    refine lv_iconst (v := (-1)) hx hb dX3_at_12 (by decide) ?_
    have hP : va_P g.1 vwCl (List.flatten [bLog g go gr gz gn fr]) s.heap := hP
    have hD : va_D A (List.flatten [bLog g go gr gz gn fr]) := hD
    exact mret_i hx hb hr hlocks hS (Nat.le_of_ble_eq_true rfl) (Nat.le_of_ble_eq_true rfl) dX3_at_13 (-1) rfl trivial hP hD
  · skip
    have c3 : 0 ≤ ago.toInt := zle (Int32.not_lt.mp cb9) (by decide) rfl
    have n4 : 0 ≤ ago.toInt := Int.le_trans (Int.le_refl _) c3
    refine lv_iload_n hx hb dX3_at_4 rfl (lv_at hl 1 rfl) ?_
    refine lv_aload_n hx hb dX3_at_5 rfl (lv_at hl 0 rfl) ?_
    refine va_get (D := g.1) (ci := 3) (v := .int gz) (C := RX3) (T := TX3) (N := 3) hx hb hts izRX3 hown hK hP 0 rfl rfl 1 (by decide) (hts _ k118) (fun _ h9 => h9) rfl dX3_at_6 ?_
    refine lv_icmp_lt (tgt := 14) hx hb dX3_at_9 (by decide) (fun cb9 => ?_) (fun cb9 => ?_)
    · skip
      have c5 : ago.toInt < gz.toInt := zlti cb9 rfl rfl
      have n6 : ago.toInt ≤ 59 := zL1 (b := 60) c5 b_gz.2 (by decide)
      have n7 : 1 ≤ gz.toInt := zL2 (a := 0) c5 n4 (by decide)
      refine lv_aload_n hx hb dX3_at_14 rfl (lv_at hl 0 rfl) ?_
      refine va_get (D := g.1) (ci := 3) (v := .ref gr) (C := RX3) (T := TX3) (N := 3) hx hb hts izRX3 hown hK hP 0 rfl rfl 0 (by decide) (hts _ k117) (fun _ h9 => h9) rfl dX3_at_15 ?_
      refine lv_aload_n hx hb dX3_at_18 rfl (lv_at hl 0 rfl) ?_
      refine va_get (D := g.1) (ci := 3) (v := .int gn) (C := RX3) (T := TX3) (N := 3) hx hb hts izRX3 hown hK hP 0 rfl rfl 2 (by decide) (hts _ k116) (fun _ h9 => h9) rfl dX3_at_19 ?_
      refine lv_iconst (v := 1) hx hb dX3_at_22 (by decide) ?_
      refine lv_isub hx hb dX3_at_23 ?_
      refine zg3 (zsubK (i := gn.toInt) (j := 1) (a' := (-1)) (b' := 58) rfl (by decide) b_gn.1 b_gn.2 (Int.le_refl _) (Int.le_refl _) (by decide)) (fun x_8 hx_8 => ?_)
      refine lv_iload_n hx hb dX3_at_24 rfl (lv_at hl 1 rfl) ?_
      refine lv_isub hx hb dX3_at_25 ?_
      refine zg3 (zsubK (i := x_8.toInt) (j := ago.toInt) (a' := (-60)) (b' := 58) rfl rfl hx_8.2.1 hx_8.2.2 n4 n6 (by decide)) (fun x_9 hx_9 => ?_)
      refine lv_bipush (v := 60) hx hb dX3_at_26 (by decide) ?_
      refine mcallS' (g := g) (As := [.int x_9, .int 60]) (rest := [.ref gr]) St hK hT hA hP hD hS hl.1 [] [0] rfl rfl rfl (j_floorMod60 l g x_9 ) (va_cwS 2 hts (zgL (zl3 k335 k336 k337) k333) rfl rfl rfl (by decide +kernel) ⟨Nat.le_of_ble_eq_true rfl, Nat.le_of_ble_eq_true rfl⟩) rfl rfl (Nat.le_of_ble_eq_true rfl) dX3_at_28 ⟨(Nat.le_of_ble_eq_true rfl), (Nat.le_of_ble_eq_true rfl)⟩ (fun q_10 H locs hq11 hP hD hS => ?_)
      replace hq11 : (0 ≤ q_10.toInt ∧ q_10.toInt ≤ 59) := hq11
      have hP : va_P g.1 vwCl (List.flatten [bLog g go gr gz gn fr]) H := hP
      have hD : va_D A (List.flatten [bLog g go gr gz gn fr]) := hD
      refine W.widen (k := 0) (n := 0) (Nat.le_of_ble_eq_true rfl) (Nat.le_of_ble_eq_true rfl) ?_
      refine W.eq (g2 := F0 m 31 ls [.int q_10, .ref gr]) rfl ?_
      refine lv_iconst (v := 4) hx hb dX3_at_31 (by decide) ?_
      refine lv_imul hx hb dX3_at_32 ?_
      refine zg3 (zmulKR (i := q_10.toInt) (n := 4) (a' := 0) (b' := 236) rfl (by decide) hq11.1 hq11.2 (by decide) (by decide)) (fun x_12 hx_12 => ?_)
      refine lv_iload_n hx hb dX3_at_33 rfl (lv_at hl 2 rfl) ?_
      refine lv_iadd hx hb dX3_at_34 ?_
      refine zg3 (zaddK (i := x_12.toInt) (j := what.toInt) (a' := 0) (b' := 239) rfl rfl hx_12.2.1 hx_12.2.2 b_what.1 b_what.2 (by decide)) (fun x_13 hx_13 => ?_)
      refine va_iald hx hb hK hP 1 0 rfl rfl (zinK (a := 0) (b := 239) hx_13.2.1 hx_13.2.2 (by decide)) dX3_at_35 ?_
      refine zg (fun x_14 => ?_)
      have hP : va_P g.1 vwCl (List.flatten [bLog g go gr gz gn fr]) H := hP
      have hD : va_D A (List.flatten [bLog g go gr gz gn fr]) := hD
      exact mret_i hx hb hr hlocks hS (Nat.le_of_ble_eq_true rfl) (Nat.le_of_ble_eq_true rfl) dX3_at_36 (x_14) rfl trivial hP hD
    · skip
      have c15 : gz.toInt ≤ ago.toInt := zle (Int32.not_lt.mp cb9) rfl rfl
      refine lv_iconst (v := (-1)) hx hb dX3_at_12 (by decide) ?_
      have hP : va_P g.1 vwCl (List.flatten [bLog g go gr gz gn fr]) s.heap := hP
      have hD : va_D A (List.flatten [bLog g go gr gz gn fr]) := hD
      exact mret_i hx hb hr hlocks hS (Nat.le_of_ble_eq_true rfl) (Nat.le_of_ble_eq_true rfl) dX3_at_13 (-1) rfl trivial hP hD
