set_option maxRecDepth 100000 in
set_option maxHeartbeats 4000000 in
theorem c_r_hear (l : Launch) (g : zG) (ro : Nat) (rw : Nat) (ri : Int32) (rt : Int32) (rb : Nat → Int32) (ta : Nat) (ab : Nat) (sz : Int32) (ln : Int32) (kd : Int32) (bg : Int32) (nx : Int32) (ft : Int32) (fb : Nat → Int32) (n : Int32) (pp : Int32) (b_pp : 0 ≤ pp.toInt ∧ pp.toInt ≤ 8) : zM' g l yX5_hear (Cond.code yX5_hear cX5_hear 5 none :: zB) ({ frames := 2, cells := 0, slots := 0, locals := 47 } : Room) [.ref ro, .ref ta, .int n, .int pp] [bRi g ro rw ri rt rb, bTape g ta ab sz ln kd bg nx ft fb] (fun u : Int32 × Int32 × (Nat → Int32) => (fun (ri2 : Int32) (rt2 : Int32) (rb2 : Nat → Int32) => none) (u.1) (u.2.1) (u.2.2)) (fun u : Int32 × Int32 × (Nat → Int32) => (fun (ri2 : Int32) (rt2 : Int32) (rb2 : Nat → Int32) => (0 ≤ ri2.toInt ∧ ri2.toInt ≤ 8)) (u.1) (u.2.1) (u.2.2)) (fun u : Int32 × Int32 × (Nat → Int32) => (fun (ri2 : Int32) (rt2 : Int32) (rb2 : Nat → Int32) => [bRi g ro rw ri2 rt2 rb2, bTape g ta ab sz ln kd bg nx ft fb]) (u.1) (u.2.1) (u.2.2)) := by
  refine zM'.of (cc := cX5_hear) (maxL := 5) (rt := none) (by decide) rfl (Nat.le_of_ble_eq_true rfl) ?_
  intro p e s m args below meth c A ls St hr hlocks hin hK hT hA hP hD hS hl
  obtain ⟨hx, hb, hml, hown, hts⟩ := id St
  have hl : lv_has ls 5 [(0, .ref ro), (1, .ref ta), (2, .int n), (3, .int pp)] := hl
  refine lv_aload_n hx hb dX5_hear_0 rfl (lv_at hl 0 rfl) ?_
  refine lv_iload_n hx hb dX5_hear_1 rfl (lv_at hl 3 rfl) ?_
  refine lv_bipush (v := 8) hx hb dX5_hear_2 (by decide) ?_
  refine va_mmin hx hb (by rw [hml]; exact hl.1.symm) hown (hts _ k391) (hts _ k41) (hts _ k42) (hts _ k43) (Nat.le_of_ble_eq_true rfl) (Nat.le_of_ble_eq_true rfl) (Nat.le_of_ble_eq_true rfl) (Nat.le_of_ble_eq_true rfl) dX5_hear_4 ?_
  refine zgmn (i := pp.toInt) (j := 8) rfl (by decide) (fun x_1 hx_1 => ?_)
  refine va_put (D := g.1) (ci := 5) (v := .int x_1) (ty := .int) (C := RX5) (T := TX5) (N := 3) hx hb hts izRX5 tyX5 tyX5_ok nmX5 hown hK hP hD hS 0 rfl rfl 1 (by decide) (hts _ k392) (fun _ h9 => h9) rfl (by decide +kernel) rfl rfl (Nat.le_of_ble_eq_true rfl) dX5_hear_7 (fun H locs hP hD hS => ?_)
  have hP : va_P g.1 vwCl (List.flatten [bRi g ro rw x_1 rt rb, bTape g ta ab sz ln kd bg nx ft fb]) H := hP
  have hD : va_D A (List.flatten [bRi g ro rw x_1 rt rb, bTape g ta ab sz ln kd bg nx ft fb]) := hD
  refine lv_aload_n hx hb dX5_hear_10 rfl (lv_at hl 0 rfl) ?_
  refine lv_iconst (v := 0) hx hb dX5_hear_11 (by decide) ?_
  refine va_put (D := g.1) (ci := 5) (v := .int 0) (ty := .int) (C := RX5) (T := TX5) (N := 3) hx hb hts izRX5 tyX5 tyX5_ok nmX5 hown hK hP hD hS 0 rfl rfl 2 (by decide) (hts _ k393) (fun _ h9 => h9) rfl (by decide +kernel) rfl rfl (Nat.le_of_ble_eq_true rfl) dX5_hear_12 (fun H locs hP hD hS => ?_)
  have hP : va_P g.1 vwCl (List.flatten [bRi g ro rw x_1 0 rb, bTape g ta ab sz ln kd bg nx ft fb]) H := hP
  have hD : va_D A (List.flatten [bRi g ro rw x_1 0 rb, bTape g ta ab sz ln kd bg nx ft fb]) := hD
  refine lv_iconst (v := 0) hx hb dX5_hear_15 (by decide) ?_
  refine lv_istore (lv' := [(4, .int 0), (0, .ref ro), (1, .ref ta), (2, .int n), (3, .int pp)]) hx hb dX5_hear_16 hl (by decide) rfl (fun ls hl => ?_)
  have hl := lv_sub (l' := [(0, .ref ro), (1, .ref ta), (2, .int n), (3, .int pp), (4, .int 0)]) hl [1, 2, 3, 4, 0] rfl
  have LP18_6 : ∀ (kf : Nat) (x_2 : Int32) (x_3 : Int32) (rb_4 : Nat → Int32), (0 ≤ x_2.toInt ∧ x_2.toInt ≤ 256) → ∀ (H : Heap) (locs : List Loc) (ls : Array Slot), ((257 - x_2.toInt).toNat) < kf → va_P g.1 vwCl (List.flatten [bRi g ro rw x_1 x_3 rb_4, bTape g ta ab sz ln kd bg nx ft fb]) H → va_D A (List.flatten [bRi g ro rw x_1 x_3 rb_4, bTape g ta ab sz ln kd bg nx ft fb]) → va_S A s.heap H locs → lv_has ls 5 [(0, .ref ro), (1, .ref ta), (2, .int n), (3, .int pp), (4, .int x_2)] → W p l e ({ frames := 2, cells := 0, slots := 0, locals := 47 } : Room) s m args below meth c H locs (0) (0) (zF g (fun u : Int32 × Int32 × (Nat → Int32) => (fun (ri2 : Int32) (rt2 : Int32) (rb2 : Nat → Int32) => none) (u.1) (u.2.1) (u.2.2)) (fun u : Int32 × Int32 × (Nat → Int32) => (fun (ri2 : Int32) (rt2 : Int32) (rb2 : Nat → Int32) => (0 ≤ ri2.toInt ∧ ri2.toInt ≤ 8)) (u.1) (u.2.1) (u.2.2)) (fun u : Int32 × Int32 × (Nat → Int32) => (fun (ri2 : Int32) (rt2 : Int32) (rb2 : Nat → Int32) => [bRi g ro rw ri2 rt2 rb2, bTape g ta ab sz ln kd bg nx ft fb]) (u.1) (u.2.1) (u.2.2)) ({ frames := 2, cells := 0, slots := 0, locals := 47 } : Room) below args s A) (F0 m 18 ls []) := by
    intro kf
    induction kf with
    | zero => intro x_2 x_3 rb_4 i5 H locs ls hk; exact absurd hk (Nat.not_lt_zero _)
    | succ kf ih18_7 =>
      intro x_2 x_3 rb_4 i5 H locs ls hk18_7 hP hD hS hl
      refine lv_iload hx hb dX5_hear_18 (lv_at hl 4 rfl) ?_
      refine lv_iconst (v := 1) hx hb dX5_hear_20 (by decide) ?_
      refine lv_aload_n hx hb dX5_hear_21 rfl (lv_at hl 0 rfl) ?_
      refine va_get (D := g.1) (ci := 5) (v := .int x_1) (C := RX5) (T := TX5) (N := 3) hx hb hts izRX5 hown hK hP 0 rfl rfl 1 (by decide) (hts _ k392) (fun _ h9 => h9) rfl dX5_hear_22 ?_
      refine lv_ishl hx hb dX5_hear_25 ?_
      refine zgb (zshl1 (j := x_1.toInt) rfl 8 256 (by decide) (by decide) (by omega)) (fun x_8 hx_8 => ?_)
      refine lv_icmp_ge (tgt := 70) hx hb dX5_hear_26 (by decide) (fun cb9 => ?_) (fun cb9 => ?_)
      · skip
        have c9 : x_8.toInt ≤ x_2.toInt := zle cb9 rfl rfl
        have n10 : 1 ≤ x_2.toInt := Int.le_trans hx_8.1 c9
        have hP : va_P g.1 vwCl (List.flatten [bRi g ro rw x_1 x_3 rb_4, bTape g ta ab sz ln kd bg nx ft fb]) H := hP
        have hD : va_D A (List.flatten [bRi g ro rw x_1 x_3 rb_4, bTape g ta ab sz ln kd bg nx ft fb]) := hD
        exact mret_v hx hb hr hlocks hS (Nat.le_of_ble_eq_true rfl) (Nat.le_of_ble_eq_true rfl) dX5_hear_70 (x_1, x_3, rb_4) rfl (show (0 ≤ x_1.toInt ∧ x_1.toInt ≤ 8) from (by first | assumption | omega | decide | exact rfl | exact zb01 (by omega) | exact Or.inl (by decide) | exact Or.inr (by first | omega | decide))) hP hD
      · skip
        have c11 : x_2.toInt < x_8.toInt := zlti (Int32.not_le.mp cb9) rfl rfl
        have n12 : x_2.toInt ≤ 255 := zL1 (b := 256) c11 hx_8.2 (by decide)
        refine lv_aload_n hx hb dX5_hear_29 rfl (lv_at hl 0 rfl) ?_
        refine va_get (D := g.1) (ci := 5) (v := .ref rw) (C := RX5) (T := TX5) (N := 3) hx hb hts izRX5 hown hK hP 0 rfl rfl 0 (by decide) (hts _ k382) (fun _ h9 => h9) rfl dX5_hear_30 ?_
        refine lv_iload hx hb dX5_hear_33 (lv_at hl 4 rfl) ?_
        refine lv_aload_n hx hb dX5_hear_35 rfl (lv_at hl 0 rfl) ?_
        refine lv_aload_n hx hb dX5_hear_36 rfl (lv_at hl 1 rfl) ?_
        refine lv_iload_n hx hb dX5_hear_37 rfl (lv_at hl 2 rfl) ?_
        refine lv_iload hx hb dX5_hear_38 (lv_at hl 4 rfl) ?_
        refine mcallV' (g := g) (q0 := 0) (ci := 5) (As := [.ref ta, .int n, .int x_2]) (rest := [.int x_2, .ref rw]) St hK hT hA hP hD hS hl.1 [0, 1] [] rfl rfl rfl (c_r_fitsAll l g ro rw x_1 x_3 rb_4 ta ab sz ln kd bg nx ft fb n x_2 ) (cwV 3 hts (zgL (zl4 k394 k395 k396 k389) k384) rfl rfl rfl (by decide +kernel) ⟨Nat.le_of_ble_eq_true rfl, Nat.le_of_ble_eq_true rfl⟩) rfl rfl rfl rfl (Nat.le_of_ble_eq_true rfl) dX5_hear_40 ⟨(Nat.le_of_ble_eq_true rfl), (Nat.le_of_ble_eq_true rfl)⟩ (fun q_13 H locs hq14 hP hD hS => ?_)
        replace hq14 : (q_13 = 0 ∨ q_13 = 1) := hq14
        have hP : va_P g.1 vwCl (List.flatten [bRi g ro rw x_1 x_3 rb_4, bTape g ta ab sz ln kd bg nx ft fb]) H := hP
        have hD : va_D A (List.flatten [bRi g ro rw x_1 x_3 rb_4, bTape g ta ab sz ln kd bg nx ft fb]) := hD
        refine W.widen (k := 0) (n := 0) (Nat.le_of_ble_eq_true rfl) (Nat.le_of_ble_eq_true rfl) ?_
        refine W.eq (g2 := F0 m 43 ls [.int q_13, .int x_2, .ref rw]) rfl ?_
        rcases hq14 with rfl | rfl
        · skip
          refine va_zast hx hb hK hP hD hS 1 1 rfl rfl (zinK (a := 0) (b := 255) i5.1 n12 (by decide)) dX5_hear_43 (fun H locs hP hD hS => ?_)
          obtain ⟨rb_15, hP, hD⟩ : ∃ rb_15 : Nat → Int32, va_P g.1 vwCl (List.flatten [bRi g ro rw x_1 x_3 rb_15, bTape g ta ab sz ln kd bg nx ft fb]) H ∧ va_D A (List.flatten [bRi g ro rw x_1 x_3 rb_15, bTape g ta ab sz ln kd bg nx ft fb]) := ⟨upd rb_4 x_2.toNatClampNeg (vp_nar .boolean 0), hP, hD⟩
          refine lv_aload_n hx hb dX5_hear_44 rfl (lv_at hl 0 rfl) ?_
          refine va_get (D := g.1) (ci := 5) (v := .ref rw) (C := RX5) (T := TX5) (N := 3) hx hb hts izRX5 hown hK hP 0 rfl rfl 0 (by decide) (hts _ k382) (fun _ h9 => h9) rfl dX5_hear_45 ?_
          refine lv_iload hx hb dX5_hear_48 (lv_at hl 4 rfl) ?_
          refine va_zald hx hb hK hP 1 1 rfl rfl (zinK (a := 0) (b := 255) i5.1 n12 (by decide)) dX5_hear_50 ?_
          refine zg (fun x_16 => ?_)
          refine lv_if_eq (tgt := 64) hx hb dX5_hear_51 (by decide) (fun cb9 => ?_) (fun cb9 => ?_)
          · skip
            have c17 : x_16.toInt = 0 := zeq cb9 rfl (by decide)
            have n18 : 0 ≤ x_16.toInt := Int.le_trans (Int.le_refl _) (Int.le_of_eq c17.symm)
            have n19 : x_16.toInt ≤ 0 := Int.le_trans (Int.le_of_eq c17) (Int.le_refl _)
            refine ziinc3 (n' := 1) (a' := 1) (b' := 256) (lv' := fun v9 => [(4, .int v9), (0, .ref ro), (1, .ref ta), (2, .int n), (3, .int pp)]) hx hb dX5_hear_64 hl (k := 4) rfl (by decide) (fun _ => rfl) (zaddK (i := x_2.toInt) (j := 1) rfl (by decide) i5.1 n12 (Int.le_refl _) (Int.le_refl _) (by decide)) (fun x_20 ls hx_20 hl => ?_)
            refine lv_goto (tgt := 18) hx hb dX5_hear_67 (by decide) ?_
            have hl := lv_sub (l' := [(0, .ref ro), (1, .ref ta), (2, .int n), (3, .int pp), (4, .int x_20)]) hl [1, 2, 3, 4, 0] rfl
            have hP : va_P g.1 vwCl (List.flatten [bRi g ro rw x_1 x_3 rb_15, bTape g ta ab sz ln kd bg nx ft fb]) H := hP
            have hD : va_D A (List.flatten [bRi g ro rw x_1 x_3 rb_15, bTape g ta ab sz ln kd bg nx ft fb]) := hD
            exact ih18_7 x_20 x_3 rb_15 ⟨(Int.le_trans (by decide) hx_20.2.1), hx_20.2.2⟩ H _ ls (zmK hx_20.1 (by decide) n12 (by decide) hk18_7)  hP hD hS (lv_sub hl [0, 1, 2, 3, 4] rfl)
          · skip
            have c21 : ¬ x_16.toInt = 0 := zne cb9 rfl (by decide)
            refine lv_aload_n hx hb dX5_hear_54 rfl (lv_at hl 0 rfl) ?_
            refine lv_dup hx hb dX5_hear_55 rfl ?_
            refine va_get (D := g.1) (ci := 5) (v := .int x_3) (C := RX5) (T := TX5) (N := 3) hx hb hts izRX5 hown hK hP 0 rfl rfl 2 (by decide) (hts _ k393) (fun _ h9 => h9) rfl dX5_hear_56 ?_
            refine lv_iconst (v := 1) hx hb dX5_hear_59 (by decide) ?_
            refine lv_iadd hx hb dX5_hear_60 ?_
            refine zg (fun x_22 => ?_)
            refine va_put (D := g.1) (ci := 5) (v := .int x_22) (ty := .int) (C := RX5) (T := TX5) (N := 3) hx hb hts izRX5 tyX5 tyX5_ok nmX5 hown hK hP hD hS 0 rfl rfl 2 (by decide) (hts _ k393) (fun _ h9 => h9) rfl (by decide +kernel) rfl rfl (Nat.le_of_ble_eq_true rfl) dX5_hear_61 (fun H locs hP hD hS => ?_)
            have hP : va_P g.1 vwCl (List.flatten [bRi g ro rw x_1 x_22 rb_15, bTape g ta ab sz ln kd bg nx ft fb]) H := hP
            have hD : va_D A (List.flatten [bRi g ro rw x_1 x_22 rb_15, bTape g ta ab sz ln kd bg nx ft fb]) := hD
            refine ziinc3 (n' := 1) (a' := 1) (b' := 256) (lv' := fun v9 => [(4, .int v9), (0, .ref ro), (1, .ref ta), (2, .int n), (3, .int pp)]) hx hb dX5_hear_64 hl (k := 4) rfl (by decide) (fun _ => rfl) (zaddK (i := x_2.toInt) (j := 1) rfl (by decide) i5.1 n12 (Int.le_refl _) (Int.le_refl _) (by decide)) (fun x_23 ls hx_23 hl => ?_)
            refine lv_goto (tgt := 18) hx hb dX5_hear_67 (by decide) ?_
            have hl := lv_sub (l' := [(0, .ref ro), (1, .ref ta), (2, .int n), (3, .int pp), (4, .int x_23)]) hl [1, 2, 3, 4, 0] rfl
            have hP : va_P g.1 vwCl (List.flatten [bRi g ro rw x_1 x_22 rb_15, bTape g ta ab sz ln kd bg nx ft fb]) H := hP
            have hD : va_D A (List.flatten [bRi g ro rw x_1 x_22 rb_15, bTape g ta ab sz ln kd bg nx ft fb]) := hD
            exact ih18_7 x_23 x_22 rb_15 ⟨(Int.le_trans (by decide) hx_23.2.1), hx_23.2.2⟩ H _ ls (zmK hx_23.1 (by decide) n12 (by decide) hk18_7)  hP hD hS (lv_sub hl [0, 1, 2, 3, 4] rfl)
        · skip
          refine va_zast hx hb hK hP hD hS 1 1 rfl rfl (zinK (a := 0) (b := 255) i5.1 n12 (by decide)) dX5_hear_43 (fun H locs hP hD hS => ?_)
          obtain ⟨rb_24, hP, hD⟩ : ∃ rb_24 : Nat → Int32, va_P g.1 vwCl (List.flatten [bRi g ro rw x_1 x_3 rb_24, bTape g ta ab sz ln kd bg nx ft fb]) H ∧ va_D A (List.flatten [bRi g ro rw x_1 x_3 rb_24, bTape g ta ab sz ln kd bg nx ft fb]) := ⟨upd rb_4 x_2.toNatClampNeg (vp_nar .boolean 1), hP, hD⟩
          refine lv_aload_n hx hb dX5_hear_44 rfl (lv_at hl 0 rfl) ?_
          refine va_get (D := g.1) (ci := 5) (v := .ref rw) (C := RX5) (T := TX5) (N := 3) hx hb hts izRX5 hown hK hP 0 rfl rfl 0 (by decide) (hts _ k382) (fun _ h9 => h9) rfl dX5_hear_45 ?_
          refine lv_iload hx hb dX5_hear_48 (lv_at hl 4 rfl) ?_
          refine va_zald hx hb hK hP 1 1 rfl rfl (zinK (a := 0) (b := 255) i5.1 n12 (by decide)) dX5_hear_50 ?_
          refine zg (fun x_25 => ?_)
          refine lv_if_eq (tgt := 64) hx hb dX5_hear_51 (by decide) (fun cb9 => ?_) (fun cb9 => ?_)
          · skip
            have c26 : x_25.toInt = 0 := zeq cb9 rfl (by decide)
            have n27 : 0 ≤ x_25.toInt := Int.le_trans (Int.le_refl _) (Int.le_of_eq c26.symm)
            have n28 : x_25.toInt ≤ 0 := Int.le_trans (Int.le_of_eq c26) (Int.le_refl _)
            refine ziinc3 (n' := 1) (a' := 1) (b' := 256) (lv' := fun v9 => [(4, .int v9), (0, .ref ro), (1, .ref ta), (2, .int n), (3, .int pp)]) hx hb dX5_hear_64 hl (k := 4) rfl (by decide) (fun _ => rfl) (zaddK (i := x_2.toInt) (j := 1) rfl (by decide) i5.1 n12 (Int.le_refl _) (Int.le_refl _) (by decide)) (fun x_29 ls hx_29 hl => ?_)
            refine lv_goto (tgt := 18) hx hb dX5_hear_67 (by decide) ?_
            have hl := lv_sub (l' := [(0, .ref ro), (1, .ref ta), (2, .int n), (3, .int pp), (4, .int x_29)]) hl [1, 2, 3, 4, 0] rfl
            have hP : va_P g.1 vwCl (List.flatten [bRi g ro rw x_1 x_3 rb_24, bTape g ta ab sz ln kd bg nx ft fb]) H := hP
            have hD : va_D A (List.flatten [bRi g ro rw x_1 x_3 rb_24, bTape g ta ab sz ln kd bg nx ft fb]) := hD
            exact ih18_7 x_29 x_3 rb_24 ⟨(Int.le_trans (by decide) hx_29.2.1), hx_29.2.2⟩ H _ ls (zmK hx_29.1 (by decide) n12 (by decide) hk18_7)  hP hD hS (lv_sub hl [0, 1, 2, 3, 4] rfl)
          · skip
            have c30 : ¬ x_25.toInt = 0 := zne cb9 rfl (by decide)
            refine lv_aload_n hx hb dX5_hear_54 rfl (lv_at hl 0 rfl) ?_
            refine lv_dup hx hb dX5_hear_55 rfl ?_
            refine va_get (D := g.1) (ci := 5) (v := .int x_3) (C := RX5) (T := TX5) (N := 3) hx hb hts izRX5 hown hK hP 0 rfl rfl 2 (by decide) (hts _ k393) (fun _ h9 => h9) rfl dX5_hear_56 ?_
            refine lv_iconst (v := 1) hx hb dX5_hear_59 (by decide) ?_
            refine lv_iadd hx hb dX5_hear_60 ?_
            refine zg (fun x_31 => ?_)
            refine va_put (D := g.1) (ci := 5) (v := .int x_31) (ty := .int) (C := RX5) (T := TX5) (N := 3) hx hb hts izRX5 tyX5 tyX5_ok nmX5 hown hK hP hD hS 0 rfl rfl 2 (by decide) (hts _ k393) (fun _ h9 => h9) rfl (by decide +kernel) rfl rfl (Nat.le_of_ble_eq_true rfl) dX5_hear_61 (fun H locs hP hD hS => ?_)
            have hP : va_P g.1 vwCl (List.flatten [bRi g ro rw x_1 x_31 rb_24, bTape g ta ab sz ln kd bg nx ft fb]) H := hP
            have hD : va_D A (List.flatten [bRi g ro rw x_1 x_31 rb_24, bTape g ta ab sz ln kd bg nx ft fb]) := hD
            refine ziinc3 (n' := 1) (a' := 1) (b' := 256) (lv' := fun v9 => [(4, .int v9), (0, .ref ro), (1, .ref ta), (2, .int n), (3, .int pp)]) hx hb dX5_hear_64 hl (k := 4) rfl (by decide) (fun _ => rfl) (zaddK (i := x_2.toInt) (j := 1) rfl (by decide) i5.1 n12 (Int.le_refl _) (Int.le_refl _) (by decide)) (fun x_32 ls hx_32 hl => ?_)
            refine lv_goto (tgt := 18) hx hb dX5_hear_67 (by decide) ?_
            have hl := lv_sub (l' := [(0, .ref ro), (1, .ref ta), (2, .int n), (3, .int pp), (4, .int x_32)]) hl [1, 2, 3, 4, 0] rfl
            have hP : va_P g.1 vwCl (List.flatten [bRi g ro rw x_1 x_31 rb_24, bTape g ta ab sz ln kd bg nx ft fb]) H := hP
            have hD : va_D A (List.flatten [bRi g ro rw x_1 x_31 rb_24, bTape g ta ab sz ln kd bg nx ft fb]) := hD
            exact ih18_7 x_32 x_31 rb_24 ⟨(Int.le_trans (by decide) hx_32.2.1), hx_32.2.2⟩ H _ ls (zmK hx_32.1 (by decide) n12 (by decide) hk18_7)  hP hD hS (lv_sub hl [0, 1, 2, 3, 4] rfl)
  have hP : va_P g.1 vwCl (List.flatten [bRi g ro rw x_1 0 rb, bTape g ta ab sz ln kd bg nx ft fb]) H := hP
  have hD : va_D A (List.flatten [bRi g ro rw x_1 0 rb, bTape g ta ab sz ln kd bg nx ft fb]) := hD
  exact LP18_6 _ 0 0 rb (by decide) H _ ls (Nat.lt_succ_self _)  hP hD hS (lv_sub hl [0, 1, 2, 3, 4] rfl)
