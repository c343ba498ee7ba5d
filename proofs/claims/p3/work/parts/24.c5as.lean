set_option maxRecDepth 100000 in
set_option maxHeartbeats 4000000 in
theorem c_r_honestInAll (l : Launch) (g : zG) (ro : Nat) (rw : Nat) (ri : Int32) (rt : Int32) (rb : Nat → Int32) (b_ri : 0 ≤ ri.toInt ∧ ri.toInt ≤ 8) : zM' g l yX5_honestInAll (Cond.code yX5_honestInAll cX5_honestInAll 3 (some .int) :: zB) ({ frames := 0, cells := 0, slots := 0, locals := 0 } : Room) [.ref ro] [bRi g ro rw ri rt rb] (fun (q : Int32) => some (.int q)) (fun (q : Int32) => True) (fun (q : Int32) => [bRi g ro rw ri rt rb]) := by
  refine zM'.of (cc := cX5_honestInAll) (maxL := 3) (rt := (some .int)) (by decide) rfl (Nat.le_of_ble_eq_true rfl) ?_
  intro p e s m args below meth c A ls St hr hlocks hin hK hT hA hP hD hS hl
  obtain ⟨hx, hb, hml, hown, hts⟩ := id St
  have hl : lv_has ls 3 [(0, .ref ro)] := hl
  refine lv_aload_n hx hb dX5_honestInAll_0 rfl (lv_at hl 0 rfl) ?_
  refine va_get (D := g.1) (ci := 5) (v := .int rt) (C := RX5) (T := TX5) (N := 3) hx hb hts izRX5 hown hK hP 0 rfl rfl 2 (by decide) (hts _ k393) (fun _ h9 => h9) rfl dX5_honestInAll_1 ?_
  refine lv_if_ne (tgt := 11) hx hb dX5_honestInAll_4 (by decide) (fun cb9 => ?_) (fun cb9 => ?_)
  · skip
    have c1 : ¬ rt.toInt = 0 := zne cb9 rfl (by decide)
    refine lv_iconst (v := 1) hx hb dX5_honestInAll_11 (by decide) ?_
    refine lv_aload_n hx hb dX5_honestInAll_12 rfl (lv_at hl 0 rfl) ?_
    refine va_get (D := g.1) (ci := 5) (v := .int ri) (C := RX5) (T := TX5) (N := 3) hx hb hts izRX5 hown hK hP 0 rfl rfl 1 (by decide) (hts _ k392) (fun _ h9 => h9) rfl dX5_honestInAll_13 ?_
    refine lv_ishl hx hb dX5_honestInAll_16 ?_
    refine zgb (zshl1 (j := ri.toInt) rfl 8 256 (by decide) (by decide) ⟨b_ri.1, b_ri.2⟩) (fun x_2 hx_2 => ?_)
    refine lv_iconst (v := 1) hx hb dX5_honestInAll_17 (by decide) ?_
    refine lv_isub hx hb dX5_honestInAll_18 ?_
    refine zg3 (zsubK (i := x_2.toInt) (j := 1) (a' := 0) (b' := 255) rfl (by decide) hx_2.1 hx_2.2 (Int.le_refl _) (Int.le_refl _) (by decide)) (fun x_3 hx_3 => ?_)
    refine lv_istore_n (lv' := [(1, .int x_3), (0, .ref ro)]) hx hb dX5_honestInAll_19 rfl hl (by decide) rfl (fun ls hl => ?_)
    refine lv_iconst (v := 0) hx hb dX5_honestInAll_20 (by decide) ?_
    refine lv_istore_n (lv' := [(2, .int 0), (1, .int x_3), (0, .ref ro)]) hx hb dX5_honestInAll_21 rfl hl (by decide) rfl (fun ls hl => ?_)
    have hl := lv_sub (l' := [(0, .ref ro), (1, .int x_3), (2, .int 0)]) hl [2, 1, 0] rfl
    have LP22_7 : ∀ (kf : Nat) (x_4 : Int32) (x_5 : Int32), (0 ≤ x_5.toInt ∧ x_5.toInt ≤ 256) → ∀ (H : Heap) (locs : List Loc) (ls : Array Slot), ((257 - x_5.toInt).toNat) < kf → va_P g.1 vwCl (List.flatten [bRi g ro rw ri rt rb]) H → va_D A (List.flatten [bRi g ro rw ri rt rb]) → va_S A s.heap H locs → lv_has ls 3 [(0, .ref ro), (1, .int x_4), (2, .int x_5)] → W p l e ({ frames := 0, cells := 0, slots := 0, locals := 0 } : Room) s m args below meth c H locs (0) (0) (zF g (fun (q : Int32) => some (.int q)) (fun (q : Int32) => True) (fun (q : Int32) => [bRi g ro rw ri rt rb]) ({ frames := 0, cells := 0, slots := 0, locals := 0 } : Room) below args s A) (F0 m 22 ls []) := by
      intro kf
      induction kf with
      | zero => intro x_4 x_5 i6 H locs ls hk; exact absurd hk (Nat.not_lt_zero _)
      | succ kf ih22_8 =>
        intro x_4 x_5 i6 H locs ls hk22_8 hP hD hS hl
        refine lv_iload_n hx hb dX5_honestInAll_22 rfl (lv_at hl 2 rfl) ?_
        refine lv_iconst (v := 1) hx hb dX5_honestInAll_23 (by decide) ?_
        refine lv_aload_n hx hb dX5_honestInAll_24 rfl (lv_at hl 0 rfl) ?_
        refine va_get (D := g.1) (ci := 5) (v := .int ri) (C := RX5) (T := TX5) (N := 3) hx hb hts izRX5 hown hK hP 0 rfl rfl 1 (by decide) (hts _ k392) (fun _ h9 => h9) rfl dX5_honestInAll_25 ?_
        refine lv_ishl hx hb dX5_honestInAll_28 ?_
        refine zgb (zshl1 (j := ri.toInt) rfl 8 256 (by decide) (by decide) ⟨b_ri.1, b_ri.2⟩) (fun x_9 hx_9 => ?_)
        refine lv_icmp_ge (tgt := 51) hx hb dX5_honestInAll_29 (by decide) (fun cb9 => ?_) (fun cb9 => ?_)
        · skip
          have c10 : x_9.toInt ≤ x_5.toInt := zle cb9 rfl rfl
          have n11 : 1 ≤ x_5.toInt := Int.le_trans hx_9.1 c10
          refine lv_iload_n hx hb dX5_honestInAll_51 rfl (lv_at hl 1 rfl) ?_
          have hP : va_P g.1 vwCl (List.flatten [bRi g ro rw ri rt rb]) H := hP
          have hD : va_D A (List.flatten [bRi g ro rw ri rt rb]) := hD
          exact mret_i hx hb hr hlocks hS (Nat.le_of_ble_eq_true rfl) (Nat.le_of_ble_eq_true rfl) dX5_honestInAll_52 (x_4) rfl trivial hP hD
        · skip
          have c12 : x_5.toInt < x_9.toInt := zlti (Int32.not_le.mp cb9) rfl rfl
          have n13 : x_5.toInt ≤ 255 := zL1 (b := 256) c12 hx_9.2 (by decide)
          refine lv_aload_n hx hb dX5_honestInAll_32 rfl (lv_at hl 0 rfl) ?_
          refine va_get (D := g.1) (ci := 5) (v := .ref rw) (C := RX5) (T := TX5) (N := 3) hx hb hts izRX5 hown hK hP 0 rfl rfl 0 (by decide) (hts _ k382) (fun _ h9 => h9) rfl dX5_honestInAll_33 ?_
          refine lv_iload_n hx hb dX5_honestInAll_36 rfl (lv_at hl 2 rfl) ?_
          refine va_zald hx hb hK hP 1 1 rfl rfl (zinK (a := 0) (b := 255) i6.1 n13 (by decide)) dX5_honestInAll_37 ?_
          refine zg (fun x_14 => ?_)
          refine lv_if_eq (tgt := 45) hx hb dX5_honestInAll_38 (by decide) (fun cb9 => ?_) (fun cb9 => ?_)
          · skip
            have c15 : x_14.toInt = 0 := zeq cb9 rfl (by decide)
            have n16 : 0 ≤ x_14.toInt := Int.le_trans (Int.le_refl _) (Int.le_of_eq c15.symm)
            have n17 : x_14.toInt ≤ 0 := Int.le_trans (Int.le_of_eq c15) (Int.le_refl _)
            refine ziinc3 (n' := 1) (a' := 1) (b' := 256) (lv' := fun v9 => [(2, .int v9), (0, .ref ro), (1, .int x_4)]) hx hb dX5_honestInAll_45 hl (k := 2) rfl (by decide) (fun _ => rfl) (zaddK (i := x_5.toInt) (j := 1) rfl (by decide) i6.1 n13 (Int.le_refl _) (Int.le_refl _) (by decide)) (fun x_18 ls hx_18 hl => ?_)
            refine lv_goto (tgt := 22) hx hb dX5_honestInAll_48 (by decide) ?_
            have hl := lv_sub (l' := [(0, .ref ro), (1, .int x_4), (2, .int x_18)]) hl [1, 2, 0] rfl
            have hP : va_P g.1 vwCl (List.flatten [bRi g ro rw ri rt rb]) H := hP
            have hD : va_D A (List.flatten [bRi g ro rw ri rt rb]) := hD
            exact ih22_8 x_4 x_18 ⟨(Int.le_trans (by decide) hx_18.2.1), hx_18.2.2⟩ H _ ls (zmK hx_18.1 (by decide) n13 (by decide) hk22_8)  hP hD hS (lv_sub hl [0, 1, 2] rfl)
          · skip
            have c19 : ¬ x_14.toInt = 0 := zne cb9 rfl (by decide)
            refine lv_iload_n hx hb dX5_honestInAll_41 rfl (lv_at hl 1 rfl) ?_
            refine lv_iload_n hx hb dX5_honestInAll_42 rfl (lv_at hl 2 rfl) ?_
            refine lv_iand hx hb dX5_honestInAll_43 ?_
            refine zg (fun x_20 => ?_)
            refine lv_istore_n (lv' := [(1, .int x_20), (0, .ref ro), (2, .int x_5)]) hx hb dX5_honestInAll_44 rfl hl (by decide) rfl (fun ls hl => ?_)
            refine ziinc3 (n' := 1) (a' := 1) (b' := 256) (lv' := fun v9 => [(2, .int v9), (1, .int x_20), (0, .ref ro)]) hx hb dX5_honestInAll_45 hl (k := 2) rfl (by decide) (fun _ => rfl) (zaddK (i := x_5.toInt) (j := 1) rfl (by decide) i6.1 n13 (Int.le_refl _) (Int.le_refl _) (by decide)) (fun x_21 ls hx_21 hl => ?_)
            refine lv_goto (tgt := 22) hx hb dX5_honestInAll_48 (by decide) ?_
            have hl := lv_sub (l' := [(0, .ref ro), (1, .int x_20), (2, .int x_21)]) hl [2, 1, 0] rfl
            have hP : va_P g.1 vwCl (List.flatten [bRi g ro rw ri rt rb]) H := hP
            have hD : va_D A (List.flatten [bRi g ro rw ri rt rb]) := hD
            exact ih22_8 x_20 x_21 ⟨(Int.le_trans (by decide) hx_21.2.1), hx_21.2.2⟩ H _ ls (zmK hx_21.1 (by decide) n13 (by decide) hk22_8)  hP hD hS (lv_sub hl [0, 1, 2] rfl)
    have hP : va_P g.1 vwCl (List.flatten [bRi g ro rw ri rt rb]) s.heap := hP
    have hD : va_D A (List.flatten [bRi g ro rw ri rt rb]) := hD
    exact LP22_7 _ x_3 0 (by decide) s.heap _ ls (Nat.lt_succ_self _)  hP hD hS (lv_sub hl [0, 1, 2] rfl)
  · skip
    have c22 : rt.toInt = 0 := zeq cb9 rfl (by decide)
    have n23 : 0 ≤ rt.toInt := Int.le_trans (Int.le_refl _) (Int.le_of_eq c22.symm)
    have n24 : rt.toInt ≤ 0 := Int.le_trans (Int.le_of_eq c22) (Int.le_refl _)
    refine lv_iconst (v := 0) hx hb dX5_honestInAll_7 (by decide) ?_
    refine lv_goto (tgt := 19) hx hb dX5_honestInAll_8 (by decide) ?_
    refine lv_istore_n (lv' := [(1, .int 0), (0, .ref ro)]) hx hb dX5_honestInAll_19 rfl hl (by decide) rfl (fun ls hl => ?_)
    refine lv_iconst (v := 0) hx hb dX5_honestInAll_20 (by decide) ?_
    refine lv_istore_n (lv' := [(2, .int 0), (1, .int 0), (0, .ref ro)]) hx hb dX5_honestInAll_21 rfl hl (by decide) rfl (fun ls hl => ?_)
    have hl := lv_sub (l' := [(0, .ref ro), (1, .int 0), (2, .int 0)]) hl [2, 1, 0] rfl
    have LP22_28 : ∀ (kf : Nat) (x_25 : Int32) (x_26 : Int32), (0 ≤ x_26.toInt ∧ x_26.toInt ≤ 256) → ∀ (H : Heap) (locs : List Loc) (ls : Array Slot), ((257 - x_26.toInt).toNat) < kf → va_P g.1 vwCl (List.flatten [bRi g ro rw ri rt rb]) H → va_D A (List.flatten [bRi g ro rw ri rt rb]) → va_S A s.heap H locs → lv_has ls 3 [(0, .ref ro), (1, .int x_25), (2, .int x_26)] → W p l e ({ frames := 0, cells := 0, slots := 0, locals := 0 } : Room) s m args below meth c H locs (0) (0) (zF g (fun (q : Int32) => some (.int q)) (fun (q : Int32) => True) (fun (q : Int32) => [bRi g ro rw ri rt rb]) ({ frames := 0, cells := 0, slots := 0, locals := 0 } : Room) below args s A) (F0 m 22 ls []) := by
      intro kf
      induction kf with
      | zero => intro x_25 x_26 i27 H locs ls hk; exact absurd hk (Nat.not_lt_zero _)
      | succ kf ih22_29 =>
        intro x_25 x_26 i27 H locs ls hk22_29 hP hD hS hl
        refine lv_iload_n hx hb dX5_honestInAll_22 rfl (lv_at hl 2 rfl) ?_
        refine lv_iconst (v := 1) hx hb dX5_honestInAll_23 (by decide) ?_
        refine lv_aload_n hx hb dX5_honestInAll_24 rfl (lv_at hl 0 rfl) ?_
        refine va_get (D := g.1) (ci := 5) (v := .int ri) (C := RX5) (T := TX5) (N := 3) hx hb hts izRX5 hown hK hP 0 rfl rfl 1 (by decide) (hts _ k392) (fun _ h9 => h9) rfl dX5_honestInAll_25 ?_
        refine lv_ishl hx hb dX5_honestInAll_28 ?_
        refine zgb (zshl1 (j := ri.toInt) rfl 8 256 (by decide) (by decide) ⟨b_ri.1, b_ri.2⟩) (fun x_30 hx_30 => ?_)
        refine lv_icmp_ge (tgt := 51) hx hb dX5_honestInAll_29 (by decide) (fun cb9 => ?_) (fun cb9 => ?_)
        · skip
          have c31 : x_30.toInt ≤ x_26.toInt := zle cb9 rfl rfl
          have n32 : 1 ≤ x_26.toInt := Int.le_trans hx_30.1 c31
          refine lv_iload_n hx hb dX5_honestInAll_51 rfl (lv_at hl 1 rfl) ?_
          have hP : va_P g.1 vwCl (List.flatten [bRi g ro rw ri rt rb]) H := hP
          have hD : va_D A (List.flatten [bRi g ro rw ri rt rb]) := hD
          exact mret_i hx hb hr hlocks hS (Nat.le_of_ble_eq_true rfl) (Nat.le_of_ble_eq_true rfl) dX5_honestInAll_52 (x_25) rfl trivial hP hD
        · skip
          have c33 : x_26.toInt < x_30.toInt := zlti (Int32.not_le.mp cb9) rfl rfl
          have n34 : x_26.toInt ≤ 255 := zL1 (b := 256) c33 hx_30.2 (by decide)
          refine lv_aload_n hx hb dX5_honestInAll_32 rfl (lv_at hl 0 rfl) ?_
          refine va_get (D := g.1) (ci := 5) (v := .ref rw) (C := RX5) (T := TX5) (N := 3) hx hb hts izRX5 hown hK hP 0 rfl rfl 0 (by decide) (hts _ k382) (fun _ h9 => h9) rfl dX5_honestInAll_33 ?_
          refine lv_iload_n hx hb dX5_honestInAll_36 rfl (lv_at hl 2 rfl) ?_
          refine va_zald hx hb hK hP 1 1 rfl rfl (zinK (a := 0) (b := 255) i27.1 n34 (by decide)) dX5_honestInAll_37 ?_
          refine zg (fun x_35 => ?_)
          refine lv_if_eq (tgt := 45) hx hb dX5_honestInAll_38 (by decide) (fun cb9 => ?_) (fun cb9 => ?_)
          · skip
            have c36 : x_35.toInt = 0 := zeq cb9 rfl (by decide)
            have n37 : 0 ≤ x_35.toInt := Int.le_trans (Int.le_refl _) (Int.le_of_eq c36.symm)
            have n38 : x_35.toInt ≤ 0 := Int.le_trans (Int.le_of_eq c36) (Int.le_refl _)
            refine ziinc3 (n' := 1) (a' := 1) (b' := 256) (lv' := fun v9 => [(2, .int v9), (0, .ref ro), (1, .int x_25)]) hx hb dX5_honestInAll_45 hl (k := 2) rfl (by decide) (fun _ => rfl) (zaddK (i := x_26.toInt) (j := 1) rfl (by decide) i27.1 n34 (Int.le_refl _) (Int.le_refl _) (by decide)) (fun x_39 ls hx_39 hl => ?_)
            refine lv_goto (tgt := 22) hx hb dX5_honestInAll_48 (by decide) ?_
            have hl := lv_sub (l' := [(0, .ref ro), (1, .int x_25), (2, .int x_39)]) hl [1, 2, 0] rfl
            have hP : va_P g.1 vwCl (List.flatten [bRi g ro rw ri rt rb]) H := hP
            have hD : va_D A (List.flatten [bRi g ro rw ri rt rb]) := hD
            exact ih22_29 x_25 x_39 ⟨(Int.le_trans (by decide) hx_39.2.1), hx_39.2.2⟩ H _ ls (zmK hx_39.1 (by decide) n34 (by decide) hk22_29)  hP hD hS (lv_sub hl [0, 1, 2] rfl)
          · skip
            have c40 : ¬ x_35.toInt = 0 := zne cb9 rfl (by decide)
            refine lv_iload_n hx hb dX5_honestInAll_41 rfl (lv_at hl 1 rfl) ?_
            refine lv_iload_n hx hb dX5_honestInAll_42 rfl (lv_at hl 2 rfl) ?_
            refine lv_iand hx hb dX5_honestInAll_43 ?_
            refine zg (fun x_41 => ?_)
            refine lv_istore_n (lv' := [(1, .int x_41), (0, .ref ro), (2, .int x_26)]) hx hb dX5_honestInAll_44 rfl hl (by decide) rfl (fun ls hl => ?_)
            refine ziinc3 (n' := 1) (a' := 1) (b' := 256) (lv' := fun v9 => [(2, .int v9), (1, .int x_41), (0, .ref ro)]) hx hb dX5_honestInAll_45 hl (k := 2) rfl (by decide) (fun _ => rfl) (zaddK (i := x_26.toInt) (j := 1) rfl (by decide) i27.1 n34 (Int.le_refl _) (Int.le_refl _) (by decide)) (fun x_42 ls hx_42 hl => ?_)
            refine lv_goto (tgt := 22) hx hb dX5_honestInAll_48 (by decide) ?_
            have hl := lv_sub (l' := [(0, .ref ro), (1, .int x_41), (2, .int x_42)]) hl [2, 1, 0] rfl
            have hP : va_P g.1 vwCl (List.flatten [bRi g ro rw ri rt rb]) H := hP
            have hD : va_D A (List.flatten [bRi g ro rw ri rt rb]) := hD
            exact ih22_29 x_41 x_42 ⟨(Int.le_trans (by decide) hx_42.2.1), hx_42.2.2⟩ H _ ls (zmK hx_42.1 (by decide) n34 (by decide) hk22_29)  hP hD hS (lv_sub hl [0, 1, 2] rfl)
    have hP : va_P g.1 vwCl (List.flatten [bRi g ro rw ri rt rb]) s.heap := hP
    have hD : va_D A (List.flatten [bRi g ro rw ri rt rb]) := hD
    exact LP22_28 _ 0 0 (by decide) s.heap _ ls (Nat.lt_succ_self _)  hP hD hS (lv_sub hl [0, 1, 2] rfl)
