set_option maxRecDepth 100000 in
set_option maxHeartbeats 4000000 in
theorem c_g_rowsOf (l : Launch) (g : zG) (go : Nat) (gr : Nat) (gz : Int32) (gn : Int32) (fr : Nat → Int32) (w1 : Int32) (b_gz : 0 ≤ gz.toInt ∧ gz.toInt ≤ 60) (b_gn : 0 ≤ gn.toInt ∧ gn.toInt ≤ 59) : zM' g l yX3_rowsOf (Cond.code yX3_rowsOf cX3_rowsOf 4 (some .int) :: zB) ({ frames := 3, cells := 0, slots := 0, locals := 66 } : Room) [.ref go, .int w1] [bLog g go gr gz gn fr] (fun (q : Int32) => some (.int q)) (fun (q : Int32) => True) (fun (q : Int32) => [bLog g go gr gz gn fr]) := by
  refine zM'.of (cc := cX3_rowsOf) (maxL := 4) (rt := (some .int)) (by decide) rfl (Nat.le_of_ble_eq_true rfl) ?_
  intro p e s m args below meth c A ls St hr hlocks hin hK hT hA hP hD hS hl
  obtain ⟨hx, hb, hml, hown, hts⟩ := id St
  have hl : lv_has ls 4 [(0, .ref go), (1, .int w1)] := hl
  refine lv_iconst (v := 0) hx hb dX3_rowsOf_0 (by decide) ?_
  refine lv_istore_n (lv' := [(2, .int 0), (0, .ref go), (1, .int w1)]) hx hb dX3_rowsOf_1 rfl hl (by decide) rfl (fun ls hl => ?_)
  refine lv_iconst (v := 0) hx hb dX3_rowsOf_2 (by decide) ?_
  refine lv_istore_n (lv' := [(3, .int 0), (2, .int 0), (0, .ref go), (1, .int w1)]) hx hb dX3_rowsOf_3 rfl hl (by decide) rfl (fun ls hl => ?_)
  have hl := lv_sub (l' := [(0, .ref go), (1, .int w1), (2, .int 0), (3, .int 0)]) hl [2, 3, 1, 0] rfl
  have LP4_4 : ∀ (kf : Nat) (x_1 : Int32) (x_2 : Int32), (0 ≤ x_2.toInt ∧ x_2.toInt ≤ 60) → ∀ (H : Heap) (locs : List Loc) (ls : Array Slot), ((61 - x_2.toInt).toNat) < kf → va_P g.1 vwCl (List.flatten [bLog g go gr gz gn fr]) H → va_D A (List.flatten [bLog g go gr gz gn fr]) → va_S A s.heap H locs → lv_has ls 4 [(0, .ref go), (1, .int w1), (2, .int x_1), (3, .int x_2)] → W p l e ({ frames := 3, cells := 0, slots := 0, locals := 66 } : Room) s m args below meth c H locs (0) (0) (zF g (fun (q : Int32) => some (.int q)) (fun (q : Int32) => True) (fun (q : Int32) => [bLog g go gr gz gn fr]) ({ frames := 3, cells := 0, slots := 0, locals := 66 } : Room) below args s A) (F0 m 4 ls []) := by
    intro kf
    induction kf with
    | zero => intro x_1 x_2 i3 H locs ls hk; exact absurd hk (Nat.not_lt_zero _)
    | succ kf ih4_5 =>
      intro x_1 x_2 i3 H locs ls hk4_5 hP hD hS hl
      refine lv_iload_n hx hb dX3_rowsOf_4 rfl (lv_at hl 3 rfl) ?_
      refine lv_aload_n hx hb dX3_rowsOf_5 rfl (lv_at hl 0 rfl) ?_
      refine va_get (D := g.1) (ci := 3) (v := .int gz) (C := RX3) (T := TX3) (N := 3) hx hb hts izRX3 hown hK hP 0 rfl rfl 1 (by decide) (hts _ k118) (fun _ h9 => h9) rfl dX3_rowsOf_6 ?_
      refine lv_icmp_ge (tgt := 30) hx hb dX3_rowsOf_9 (by decide) (fun cb9 => ?_) (fun cb9 => ?_)
      · skip
        have c6 : gz.toInt ≤ x_2.toInt := zle cb9 rfl rfl
        refine lv_iload_n hx hb dX3_rowsOf_30 rfl (lv_at hl 2 rfl) ?_
        have hP : va_P g.1 vwCl (List.flatten [bLog g go gr gz gn fr]) H := hP
        have hD : va_D A (List.flatten [bLog g go gr gz gn fr]) := hD
        exact mret_i hx hb hr hlocks hS (Nat.le_of_ble_eq_true rfl) (Nat.le_of_ble_eq_true rfl) dX3_rowsOf_31 (x_1) rfl trivial hP hD
      · skip
        have c7 : x_2.toInt < gz.toInt := zlti (Int32.not_le.mp cb9) rfl rfl
        have n8 : x_2.toInt ≤ 59 := zL1 (b := 60) c7 b_gz.2 (by decide)
        have n9 : 1 ≤ gz.toInt := zL2 (a := 0) c7 i3.1 (by decide)
        refine lv_aload_n hx hb dX3_rowsOf_12 rfl (lv_at hl 0 rfl) ?_
        refine lv_iload_n hx hb dX3_rowsOf_13 rfl (lv_at hl 3 rfl) ?_
        refine lv_iload_n hx hb dX3_rowsOf_14 rfl (lv_at hl 1 rfl) ?_
        refine mcallV' (g := g) (q0 := 0) (ci := 3) (As := [.int x_2, .int w1]) (rest := []) St hK hT hA hP hD hS hl.1 [0] [] rfl rfl rfl (c_g_isOf l g go gr gz gn fr x_2 w1 b_gz b_gn) (cwV 2 hts (zgL (zl4 k343 k344 k345 k123) k338) rfl rfl rfl (by decide +kernel) ⟨Nat.le_of_ble_eq_true rfl, Nat.le_of_ble_eq_true rfl⟩) rfl rfl rfl rfl (Nat.le_of_ble_eq_true rfl) dX3_rowsOf_15 ⟨(Nat.le_of_ble_eq_true rfl), (Nat.le_of_ble_eq_true rfl)⟩ (fun q_10 H locs hq11 hP hD hS => ?_)
        replace hq11 : (q_10 = 0 ∨ q_10 = 1) := hq11
        have hP : va_P g.1 vwCl (List.flatten [bLog g go gr gz gn fr]) H := hP
        have hD : va_D A (List.flatten [bLog g go gr gz gn fr]) := hD
        refine W.widen (k := 0) (n := 0) (Nat.le_of_ble_eq_true rfl) (Nat.le_of_ble_eq_true rfl) ?_
        refine W.eq (g2 := F0 m 18 ls [.int q_10]) rfl ?_
        rcases hq11 with rfl | rfl
        · skip
          refine lv_if_eq (tgt := 24) hx hb dX3_rowsOf_18 (by decide) (fun _ => ?_) (fun c12 => absurd (by decide) c12)
          refine ziinc3 (n' := 1) (a' := 1) (b' := 60) (lv' := fun v9 => [(3, .int v9), (0, .ref go), (1, .int w1), (2, .int x_1)]) hx hb dX3_rowsOf_24 hl (k := 3) rfl (by decide) (fun _ => rfl) (zaddK (i := x_2.toInt) (j := 1) rfl (by decide) i3.1 n8 (Int.le_refl _) (Int.le_refl _) (by decide)) (fun x_13 ls hx_13 hl => ?_)
          refine lv_goto (tgt := 4) hx hb dX3_rowsOf_27 (by decide) ?_
          have hl := lv_sub (l' := [(0, .ref go), (1, .int w1), (2, .int x_1), (3, .int x_13)]) hl [1, 2, 3, 0] rfl
          have hP : va_P g.1 vwCl (List.flatten [bLog g go gr gz gn fr]) H := hP
          have hD : va_D A (List.flatten [bLog g go gr gz gn fr]) := hD
          exact ih4_5 x_1 x_13 ⟨(Int.le_trans (by decide) hx_13.2.1), hx_13.2.2⟩ H _ ls (zmK hx_13.1 (by decide) n8 (by decide) hk4_5)  hP hD hS (lv_sub hl [0, 1, 2, 3] rfl)
        · skip
          refine lv_if_eq (tgt := 24) hx hb dX3_rowsOf_18 (by decide) (fun c14 => absurd c14 (by decide)) (fun _ => ?_)
          refine ziincG (lv' := fun v9 => [(2, .int v9), (0, .ref go), (1, .int w1), (3, .int x_2)]) hx hb dX3_rowsOf_21 hl (k := 2) rfl (by decide) (fun _ => rfl) (fun x_15 ls hl => ?_)
          refine ziinc3 (n' := 1) (a' := 1) (b' := 60) (lv' := fun v9 => [(3, .int v9), (2, .int x_15), (0, .ref go), (1, .int w1)]) hx hb dX3_rowsOf_24 hl (k := 3) rfl (by decide) (fun _ => rfl) (zaddK (i := x_2.toInt) (j := 1) rfl (by decide) i3.1 n8 (Int.le_refl _) (Int.le_refl _) (by decide)) (fun x_16 ls hx_16 hl => ?_)
          refine lv_goto (tgt := 4) hx hb dX3_rowsOf_27 (by decide) ?_
          have hl := lv_sub (l' := [(0, .ref go), (1, .int w1), (2, .int x_15), (3, .int x_16)]) hl [2, 3, 1, 0] rfl
          have hP : va_P g.1 vwCl (List.flatten [bLog g go gr gz gn fr]) H := hP
          have hD : va_D A (List.flatten [bLog g go gr gz gn fr]) := hD
          exact ih4_5 x_15 x_16 ⟨(Int.le_trans (by decide) hx_16.2.1), hx_16.2.2⟩ H _ ls (zmK hx_16.1 (by decide) n8 (by decide) hk4_5)  hP hD hS (lv_sub hl [0, 1, 2, 3] rfl)
  have hP : va_P g.1 vwCl (List.flatten [bLog g go gr gz gn fr]) s.heap := hP
  have hD : va_D A (List.flatten [bLog g go gr gz gn fr]) := hD
  exact LP4_4 _ 0 0 (by decide) s.heap _ ls (Nat.lt_succ_self _)  hP hD hS (lv_sub hl [0, 1, 2, 3] rfl)
