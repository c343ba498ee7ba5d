set_option maxRecDepth 100000 in
set_option maxHeartbeats 4000000 in
theorem c_r_greaterPart (l : Launch) (g : zG) (ro : Nat) (rw : Nat) (ri : Int32) (rt : Int32) (rb : Nat → Int32) (x1 : Int32) (x2 : Int32) (b_ri : 0 ≤ ri.toInt ∧ ri.toInt ≤ 8) : zM' g l yX5_greaterPart (Cond.code yX5_greaterPart cX5_greaterPart 5 (some .int) :: zB) ({ frames := 1, cells := 0, slots := 0, locals := 23 } : Room) [.ref ro, .int x1, .int x2] [bRi g ro rw ri rt rb] (fun (q : Int32) => some (.int q)) (fun (q : Int32) => True) (fun (q : Int32) => [bRi g ro rw ri rt rb]) := by
  refine zM'.of (cc := cX5_greaterPart) (maxL := 5) (rt := (some .int)) (by decide) rfl (Nat.le_of_ble_eq_true rfl) ?_
  intro p e s m args below meth c A ls St hr hlocks hin hK hT hA hP hD hS hl
  obtain ⟨hx, hb, hml, hown, hts⟩ := id St
  have hl : lv_has ls 5 [(0, .ref ro), (1, .int x1), (2, .int x2)] := hl
  refine lv_iconst (v := 0) hx hb dX5_greaterPart_0 (by decide) ?_
  refine lv_istore_n (lv' := [(3, .int 0), (0, .ref ro), (1, .int x1), (2, .int x2)]) hx hb dX5_greaterPart_1 rfl hl (by decide) rfl (fun ls hl => ?_)
  refine lv_iconst (v := 0) hx hb dX5_greaterPart_2 (by decide) ?_
  refine lv_istore (lv' := [(4, .int 0), (3, .int 0), (0, .ref ro), (1, .int x1), (2, .int x2)]) hx hb dX5_greaterPart_3 hl (by decide) rfl (fun ls hl => ?_)
  have hl := lv_sub (l' := [(0, .ref ro), (1, .int x1), (2, .int x2), (3, .int 0), (4, .int 0)]) hl [2, 3, 4, 1, 0] rfl
  have LP5_4 : ∀ (kf : Nat) (x_1 : Int32) (x_2 : Int32), (0 ≤ x_2.toInt ∧ x_2.toInt ≤ 256) → ∀ (H : Heap) (locs : List Loc) (ls : Array Slot), ((257 - x_2.toInt).toNat) < kf → va_P g.1 vwCl (List.flatten [bRi g ro rw ri rt rb]) H → va_D A (List.flatten [bRi g ro rw ri rt rb]) → va_S A s.heap H locs → lv_has ls 5 [(0, .ref ro), (1, .int x1), (2, .int x2), (3, .int x_1), (4, .int x_2)] → W p l e ({ frames := 1, cells := 0, slots := 0, locals := 23 } : Room) s m args below meth c H locs (0) (0) (zF g (fun (q : Int32) => some (.int q)) (fun (q : Int32) => True) (fun (q : Int32) => [bRi g ro rw ri rt rb]) ({ frames := 1, cells := 0, slots := 0, locals := 23 } : Room) below args s A) (F0 m 5 ls []) := by
    intro kf
    induction kf with
    | zero => intro x_1 x_2 i3 H locs ls hk; exact absurd hk (Nat.not_lt_zero _)
    | succ kf ih5_5 =>
      intro x_1 x_2 i3 H locs ls hk5_5 hP hD hS hl
      refine lv_iload hx hb dX5_greaterPart_5 (lv_at hl 4 rfl) ?_
      refine lv_iconst (v := 1) hx hb dX5_greaterPart_7 (by decide) ?_
      refine lv_aload_n hx hb dX5_greaterPart_8 rfl (lv_at hl 0 rfl) ?_
      refine va_get (D := g.1) (ci := 5) (v := .int ri) (C := RX5) (T := TX5) (N := 3) hx hb hts izRX5 hown hK hP 0 rfl rfl 1 (by decide) (hts _ k392) (fun _ h9 => h9) rfl dX5_greaterPart_9 ?_
      refine lv_ishl hx hb dX5_greaterPart_12 ?_
      refine zgb (zshl1 (j := ri.toInt) rfl 8 256 (by decide) (by decide) ⟨b_ri.1, b_ri.2⟩) (fun x_6 hx_6 => ?_)
      refine lv_icmp_ge (tgt := 46) hx hb dX5_greaterPart_13 (by decide) (fun cb9 => ?_) (fun cb9 => ?_)
      · skip
        have c7 : x_6.toInt ≤ x_2.toInt := zle cb9 rfl rfl
        have n8 : 1 ≤ x_2.toInt := Int.le_trans hx_6.1 c7
        refine lv_iload_n hx hb dX5_greaterPart_46 rfl (lv_at hl 3 rfl) ?_
        refine lv_aload_n hx hb dX5_greaterPart_47 rfl (lv_at hl 0 rfl) ?_
        refine va_get (D := g.1) (ci := 5) (v := .int rt) (C := RX5) (T := TX5) (N := 3) hx hb hts izRX5 hown hK hP 0 rfl rfl 2 (by decide) (hts _ k393) (fun _ h9 => h9) rfl dX5_greaterPart_48 ?_
        refine lv_iload_n hx hb dX5_greaterPart_51 rfl (lv_at hl 3 rfl) ?_
        refine lv_isub hx hb dX5_greaterPart_52 ?_
        refine zg (fun x_9 => ?_)
        refine va_mmax hx hb (by rw [hml]; exact hl.1.symm) hown (hts _ k399) (hts _ k45) (hts _ k42) (hts _ k46) (Nat.le_of_ble_eq_true rfl) (Nat.le_of_ble_eq_true rfl) (Nat.le_of_ble_eq_true rfl) (Nat.le_of_ble_eq_true rfl) dX5_greaterPart_53 ?_
        refine zgmx (i := x_1.toInt) (j := x_9.toInt) rfl rfl (fun x_10 hx_10 => ?_)
        have hP : va_P g.1 vwCl (List.flatten [bRi g ro rw ri rt rb]) H := hP
        have hD : va_D A (List.flatten [bRi g ro rw ri rt rb]) := hD
        exact mret_i hx hb hr hlocks hS (Nat.le_of_ble_eq_true rfl) (Nat.le_of_ble_eq_true rfl) dX5_greaterPart_56 (x_10) rfl trivial hP hD
      · skip
        have c11 : x_2.toInt < x_6.toInt := zlti (Int32.not_le.mp cb9) rfl rfl
        have n12 : x_2.toInt ≤ 255 := zL1 (b := 256) c11 hx_6.2 (by decide)
        refine lv_aload_n hx hb dX5_greaterPart_16 rfl (lv_at hl 0 rfl) ?_
        refine va_get (D := g.1) (ci := 5) (v := .ref rw) (C := RX5) (T := TX5) (N := 3) hx hb hts izRX5 hown hK hP 0 rfl rfl 0 (by decide) (hts _ k382) (fun _ h9 => h9) rfl dX5_greaterPart_17 ?_
        refine lv_iload hx hb dX5_greaterPart_20 (lv_at hl 4 rfl) ?_
        refine va_zald hx hb hK hP 1 1 rfl rfl (zinK (a := 0) (b := 255) i3.1 n12 (by decide)) dX5_greaterPart_22 ?_
        refine zg (fun x_13 => ?_)
        refine lv_if_eq (tgt := 40) hx hb dX5_greaterPart_23 (by decide) (fun cb9 => ?_) (fun cb9 => ?_)
        · skip
          have c14 : x_13.toInt = 0 := zeq cb9 rfl (by decide)
          have n15 : 0 ≤ x_13.toInt := Int.le_trans (Int.le_refl _) (Int.le_of_eq c14.symm)
          have n16 : x_13.toInt ≤ 0 := Int.le_trans (Int.le_of_eq c14) (Int.le_refl _)
          refine ziinc3 (n' := 1) (a' := 1) (b' := 256) (lv' := fun v9 => [(4, .int v9), (0, .ref ro), (1, .int x1), (2, .int x2), (3, .int x_1)]) hx hb dX5_greaterPart_40 hl (k := 4) rfl (by decide) (fun _ => rfl) (zaddK (i := x_2.toInt) (j := 1) rfl (by decide) i3.1 n12 (Int.le_refl _) (Int.le_refl _) (by decide)) (fun x_17 ls hx_17 hl => ?_)
          refine lv_goto (tgt := 5) hx hb dX5_greaterPart_43 (by decide) ?_
          have hl := lv_sub (l' := [(0, .ref ro), (1, .int x1), (2, .int x2), (3, .int x_1), (4, .int x_17)]) hl [1, 2, 3, 4, 0] rfl
          have hP : va_P g.1 vwCl (List.flatten [bRi g ro rw ri rt rb]) H := hP
          have hD : va_D A (List.flatten [bRi g ro rw ri rt rb]) := hD
          exact ih5_5 x_1 x_17 ⟨(Int.le_trans (by decide) hx_17.2.1), hx_17.2.2⟩ H _ ls (zmK hx_17.1 (by decide) n12 (by decide) hk5_5)  hP hD hS (lv_sub hl [0, 1, 2, 3, 4] rfl)
        · skip
          have c18 : ¬ x_13.toInt = 0 := zne cb9 rfl (by decide)
          refine lv_aload_n hx hb dX5_greaterPart_26 rfl (lv_at hl 0 rfl) ?_
          refine lv_iload hx hb dX5_greaterPart_27 (lv_at hl 4 rfl) ?_
          refine lv_iload_n hx hb dX5_greaterPart_29 rfl (lv_at hl 1 rfl) ?_
          refine lv_iload_n hx hb dX5_greaterPart_30 rfl (lv_at hl 2 rfl) ?_
          refine mcallV' (g := g) (q0 := 0) (ci := 5) (As := [.int x_2, .int x1, .int x2]) (rest := []) St hK hT hA hP hD hS hl.1 [0] [] rfl rfl rfl (c_r_answers l g ro rw ri rt rb x_2 x1 x2 ) (cwV 3 hts (zgL (zl4 k386 k387 k388 k389) k383) rfl rfl rfl (by decide +kernel) ⟨Nat.le_of_ble_eq_true rfl, Nat.le_of_ble_eq_true rfl⟩) rfl rfl rfl rfl (Nat.le_of_ble_eq_true rfl) dX5_greaterPart_31 ⟨(Nat.le_of_ble_eq_true rfl), (Nat.le_of_ble_eq_true rfl)⟩ (fun q_19 H locs hq20 hP hD hS => ?_)
          replace hq20 : (q_19 = 0 ∨ q_19 = 1) := hq20
          have hP : va_P g.1 vwCl (List.flatten [bRi g ro rw ri rt rb]) H := hP
          have hD : va_D A (List.flatten [bRi g ro rw ri rt rb]) := hD
          refine W.widen (k := 0) (n := 0) (Nat.le_of_ble_eq_true rfl) (Nat.le_of_ble_eq_true rfl) ?_
          refine W.eq (g2 := F0 m 34 ls [.int q_19]) rfl ?_
          rcases hq20 with rfl | rfl
          · skip
            refine lv_if_eq (tgt := 40) hx hb dX5_greaterPart_34 (by decide) (fun _ => ?_) (fun c21 => absurd (by decide) c21)
            refine ziinc3 (n' := 1) (a' := 1) (b' := 256) (lv' := fun v9 => [(4, .int v9), (0, .ref ro), (1, .int x1), (2, .int x2), (3, .int x_1)]) hx hb dX5_greaterPart_40 hl (k := 4) rfl (by decide) (fun _ => rfl) (zaddK (i := x_2.toInt) (j := 1) rfl (by decide) i3.1 n12 (Int.le_refl _) (Int.le_refl _) (by decide)) (fun x_22 ls hx_22 hl => ?_)
            refine lv_goto (tgt := 5) hx hb dX5_greaterPart_43 (by decide) ?_
            have hl := lv_sub (l' := [(0, .ref ro), (1, .int x1), (2, .int x2), (3, .int x_1), (4, .int x_22)]) hl [1, 2, 3, 4, 0] rfl
            have hP : va_P g.1 vwCl (List.flatten [bRi g ro rw ri rt rb]) H := hP
            have hD : va_D A (List.flatten [bRi g ro rw ri rt rb]) := hD
            exact ih5_5 x_1 x_22 ⟨(Int.le_trans (by decide) hx_22.2.1), hx_22.2.2⟩ H _ ls (zmK hx_22.1 (by decide) n12 (by decide) hk5_5)  hP hD hS (lv_sub hl [0, 1, 2, 3, 4] rfl)
          · skip
            refine lv_if_eq (tgt := 40) hx hb dX5_greaterPart_34 (by decide) (fun c23 => absurd c23 (by decide)) (fun _ => ?_)
            refine ziincG (lv' := fun v9 => [(3, .int v9), (0, .ref ro), (1, .int x1), (2, .int x2), (4, .int x_2)]) hx hb dX5_greaterPart_37 hl (k := 3) rfl (by decide) (fun _ => rfl) (fun x_24 ls hl => ?_)
            refine ziinc3 (n' := 1) (a' := 1) (b' := 256) (lv' := fun v9 => [(4, .int v9), (3, .int x_24), (0, .ref ro), (1, .int x1), (2, .int x2)]) hx hb dX5_greaterPart_40 hl (k := 4) rfl (by decide) (fun _ => rfl) (zaddK (i := x_2.toInt) (j := 1) rfl (by decide) i3.1 n12 (Int.le_refl _) (Int.le_refl _) (by decide)) (fun x_25 ls hx_25 hl => ?_)
            refine lv_goto (tgt := 5) hx hb dX5_greaterPart_43 (by decide) ?_
            have hl := lv_sub (l' := [(0, .ref ro), (1, .int x1), (2, .int x2), (3, .int x_24), (4, .int x_25)]) hl [2, 3, 4, 1, 0] rfl
            have hP : va_P g.1 vwCl (List.flatten [bRi g ro rw ri rt rb]) H := hP
            have hD : va_D A (List.flatten [bRi g ro rw ri rt rb]) := hD
            exact ih5_5 x_24 x_25 ⟨(Int.le_trans (by decide) hx_25.2.1), hx_25.2.2⟩ H _ ls (zmK hx_25.1 (by decide) n12 (by decide) hk5_5)  hP hD hS (lv_sub hl [0, 1, 2, 3, 4] rfl)
  have hP : va_P g.1 vwCl (List.flatten [bRi g ro rw ri rt rb]) s.heap := hP
  have hD : va_D A (List.flatten [bRi g ro rw ri rt rb]) := hD
  exact LP5_4 _ 0 0 (by decide) s.heap _ ls (Nat.lt_succ_self _)  hP hD hS (lv_sub hl [0, 1, 2, 3, 4] rfl)
