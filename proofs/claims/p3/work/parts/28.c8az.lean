set_option maxRecDepth 100000 in
set_option maxHeartbeats 4000000 in
theorem c_x_firmest (l : Launch) (g : zG) (x : Nat) (ta : Nat) (o : Nat) (lo : Nat) (go : Nat) (tt : Nat) (lt : Nat) (mo : Nat) (fo : Nat) (ro : Nat) (fl9 : Int32) (a : Nat → Nat) (pe : Int32) (wo : Int32) (tx : Int32) (ch : Int32) (jo : Int32) (tr : Int32) (dy : Int32) (sd : Int32) (f : Nat → Nat → Int32) (b_pe : 0 ≤ pe.toInt ∧ pe.toInt ≤ 8) (b_wo : 0 ≤ wo.toInt ∧ wo.toInt ≤ 6) (rf : zZ4 f) : zM' g l yX11_firmest (Cond.code yX11_firmest cX11_firmest 3 (some .int) :: zB) ({ frames := 1, cells := 0, slots := 0, locals := 21 } : Room) [.ref x] [bDR g x ta o lo go tt lt mo fo ro fl9, bTown g o a pe wo tx ch jo tr dy sd f] (fun (q : Int32) => some (.int q)) (fun (q : Int32) => True) (fun (q : Int32) => [bDR g x ta o lo go tt lt mo fo ro fl9, bTown g o a pe wo tx ch jo tr dy sd f]) := by
  refine zM'.of (cc := cX11_firmest) (maxL := 3) (rt := (some .int)) (by decide) rfl (Nat.le_of_ble_eq_true rfl) ?_
  intro p e s m args below meth c A ls St hr hlocks hin hK hT hA hP hD hS hl
  obtain ⟨hx, hb, hml, hown, hts⟩ := id St
  have hl : lv_has ls 3 [(0, .ref x)] := hl
  refine lv_iconst (v := (-1)) hx hb dX11_firmest_0 (by decide) ?_
  refine lv_istore_n (lv' := [(1, .int (-1)), (0, .ref x)]) hx hb dX11_firmest_1 rfl hl (by decide) rfl (fun ls hl => ?_)
  refine lv_iconst (v := 0) hx hb dX11_firmest_2 (by decide) ?_
  refine lv_istore_n (lv' := [(2, .int 0), (1, .int (-1)), (0, .ref x)]) hx hb dX11_firmest_3 rfl hl (by decide) rfl (fun ls hl => ?_)
  have hl := lv_sub (l' := [(0, .ref x), (1, .int (-1)), (2, .int 0)]) hl [2, 1, 0] rfl
  have LP4_5 : ∀ (kf : Nat) (x_1 : Int32) (x_2 : Int32), ((-1) ≤ x_1.toInt ∧ x_1.toInt ≤ 7) → (0 ≤ x_2.toInt ∧ x_2.toInt ≤ 8) → ∀ (H : Heap) (locs : List Loc) (ls : Array Slot), ((9 - x_2.toInt).toNat) < kf → va_P g.1 vwCl (List.flatten [bDR g x ta o lo go tt lt mo fo ro fl9, bTown g o a pe wo tx ch jo tr dy sd f]) H → va_D A (List.flatten [bDR g x ta o lo go tt lt mo fo ro fl9, bTown g o a pe wo tx ch jo tr dy sd f]) → va_S A s.heap H locs → lv_has ls 3 [(0, .ref x), (1, .int x_1), (2, .int x_2)] → W p l e ({ frames := 1, cells := 0, slots := 0, locals := 21 } : Room) s m args below meth c H locs (0) (0) (zF g (fun (q : Int32) => some (.int q)) (fun (q : Int32) => True) (fun (q : Int32) => [bDR g x ta o lo go tt lt mo fo ro fl9, bTown g o a pe wo tx ch jo tr dy sd f]) ({ frames := 1, cells := 0, slots := 0, locals := 21 } : Room) below args s A) (F0 m 4 ls []) := by
    intro kf
    induction kf with
    | zero => intro x_1 x_2 i3 i4 H locs ls hk; exact absurd hk (Nat.not_lt_zero _)
    | succ kf ih4_6 =>
      intro x_1 x_2 i3 i4 H locs ls hk4_6 hP hD hS hl
      refine lv_iload_n hx hb dX11_firmest_4 rfl (lv_at hl 2 rfl) ?_
      refine lv_aload_n hx hb dX11_firmest_5 rfl (lv_at hl 0 rfl) ?_
      refine va_get (D := g.1) (ci := 9) (v := .ref o) (C := RX11) (T := TX11) (N := 10) hx hb hts izRX11 hown hK hP 0 rfl rfl 1 (by decide) (hts _ k538) (fun _ h9 => h9) rfl dX11_firmest_6 ?_
      refine va_get (D := g.1) (ci := 7) (v := .int pe) (C := RX9) (T := TX9) (N := 19) hx hb hts izRX9 hown hK hP 1 rfl rfl 0 (by decide) (hts _ k610) (fun _ h9 => h9) rfl dX11_firmest_9 ?_
      refine lv_icmp_ge (tgt := 60) hx hb dX11_firmest_12 (by decide) (fun cb9 => ?_) (fun cb9 => ?_)
      · skip
        have c7 : pe.toInt ≤ x_2.toInt := zle cb9 rfl rfl
        refine lv_iload_n hx hb dX11_firmest_60 rfl (lv_at hl 1 rfl) ?_
        have hP : va_P g.1 vwCl (List.flatten [bDR g x ta o lo go tt lt mo fo ro fl9, bTown g o a pe wo tx ch jo tr dy sd f]) H := hP
        have hD : va_D A (List.flatten [bDR g x ta o lo go tt lt mo fo ro fl9, bTown g o a pe wo tx ch jo tr dy sd f]) := hD
        exact mret_i hx hb hr hlocks hS (Nat.le_of_ble_eq_true rfl) (Nat.le_of_ble_eq_true rfl) dX11_firmest_61 (x_1) rfl trivial hP hD
      · skip
        have c8 : x_2.toInt < pe.toInt := zlti (Int32.not_le.mp cb9) rfl rfl
        have n9 : x_2.toInt ≤ 7 := zL1 (b := 8) c8 b_pe.2 (by decide)
        have n10 : 1 ≤ pe.toInt := zL2 (a := 0) c8 i4.1 (by decide)
        refine lv_aload_n hx hb dX11_firmest_15 rfl (lv_at hl 0 rfl) ?_
        refine va_get (D := g.1) (ci := 9) (v := .ref o) (C := RX11) (T := TX11) (N := 10) hx hb hts izRX11 hown hK hP 0 rfl rfl 1 (by decide) (hts _ k538) (fun _ h9 => h9) rfl dX11_firmest_16 ?_
        refine lv_iload_n hx hb dX11_firmest_19 rfl (lv_at hl 2 rfl) ?_
        refine mcallV' (g := g) (q0 := 0) (ci := 7) (As := [.int x_2]) (rest := []) St hK hT hA hP hD hS hl.1 [1] [0] rfl rfl rfl (c_isHere l g o a pe wo tx ch jo tr dy sd f x_2 (⟨i4.1, n9⟩)) (cwV 1 hts (zgL (zl4 k655 k54 k55 k24) k51) rfl rfl rfl (by decide +kernel) ⟨Nat.le_of_ble_eq_true rfl, Nat.le_of_ble_eq_true rfl⟩) rfl rfl rfl rfl (Nat.le_of_ble_eq_true rfl) dX11_firmest_20 ⟨(Nat.le_of_ble_eq_true rfl), (Nat.le_of_ble_eq_true rfl)⟩ (fun q_11 H locs hq12 hP hD hS => ?_)
        replace hq12 : (q_11 = 0 ∨ q_11 = 1) := hq12
        have hP : va_P g.1 vwCl (List.flatten [bDR g x ta o lo go tt lt mo fo ro fl9, bTown g o a pe wo tx ch jo tr dy sd f]) H := hP
        have hD : va_D A (List.flatten [bDR g x ta o lo go tt lt mo fo ro fl9, bTown g o a pe wo tx ch jo tr dy sd f]) := hD
        refine W.widen (k := 0) (n := 0) (Nat.le_of_ble_eq_true rfl) (Nat.le_of_ble_eq_true rfl) ?_
        refine W.eq (g2 := F0 m 23 ls [.int q_11]) rfl ?_
        rcases hq12 with rfl | rfl
        · skip
          refine lv_if_eq (tgt := 54) hx hb dX11_firmest_23 (by decide) (fun _ => ?_) (fun c13 => absurd (by decide) c13)
          refine ziinc3 (n' := 1) (a' := 1) (b' := 8) (lv' := fun v9 => [(2, .int v9), (0, .ref x), (1, .int x_1)]) hx hb dX11_firmest_54 hl (k := 2) rfl (by decide) (fun _ => rfl) (zaddK (i := x_2.toInt) (j := 1) rfl (by decide) i4.1 n9 (Int.le_refl _) (Int.le_refl _) (by decide)) (fun x_14 ls hx_14 hl => ?_)
          refine lv_goto (tgt := 4) hx hb dX11_firmest_57 (by decide) ?_
          have hl := lv_sub (l' := [(0, .ref x), (1, .int x_1), (2, .int x_14)]) hl [1, 2, 0] rfl
          have hP : va_P g.1 vwCl (List.flatten [bDR g x ta o lo go tt lt mo fo ro fl9, bTown g o a pe wo tx ch jo tr dy sd f]) H := hP
          have hD : va_D A (List.flatten [bDR g x ta o lo go tt lt mo fo ro fl9, bTown g o a pe wo tx ch jo tr dy sd f]) := hD
          exact ih4_6 x_1 x_14 ⟨i3.1, i3.2⟩ ⟨(Int.le_trans (by decide) hx_14.2.1), hx_14.2.2⟩ H _ ls (zmK hx_14.1 (by decide) n9 (by decide) hk4_6)  hP hD hS (lv_sub hl [0, 1, 2] rfl)
        · skip
          refine lv_if_eq (tgt := 54) hx hb dX11_firmest_23 (by decide) (fun c15 => absurd c15 (by decide)) (fun _ => ?_)
          refine lv_iload_n hx hb dX11_firmest_26 rfl (lv_at hl 1 rfl) ?_
          refine lv_iconst (v := (-1)) hx hb dX11_firmest_27 (by decide) ?_
          refine lv_icmp_eq (tgt := 52) hx hb dX11_firmest_28 (by decide) (fun cb9 => ?_) (fun cb9 => ?_)
          · skip
            have c16 : x_1.toInt = (-1) := zeq cb9 rfl (by decide)
            have n17 : x_1.toInt ≤ (-1) := Int.le_trans (Int.le_of_eq c16) (Int.le_refl _)
            refine lv_iload_n hx hb dX11_firmest_52 rfl (lv_at hl 2 rfl) ?_
            refine lv_istore_n (lv' := [(1, .int x_2), (0, .ref x), (2, .int x_2)]) hx hb dX11_firmest_53 rfl hl (by decide) rfl (fun ls hl => ?_)
            refine ziinc3 (n' := 1) (a' := 1) (b' := 8) (lv' := fun v9 => [(2, .int v9), (1, .int x_2), (0, .ref x)]) hx hb dX11_firmest_54 hl (k := 2) rfl (by decide) (fun _ => rfl) (zaddK (i := x_2.toInt) (j := 1) rfl (by decide) i4.1 n9 (Int.le_refl _) (Int.le_refl _) (by decide)) (fun x_18 ls hx_18 hl => ?_)
            refine lv_goto (tgt := 4) hx hb dX11_firmest_57 (by decide) ?_
            have hl := lv_sub (l' := [(0, .ref x), (1, .int x_2), (2, .int x_18)]) hl [2, 1, 0] rfl
            have hP : va_P g.1 vwCl (List.flatten [bDR g x ta o lo go tt lt mo fo ro fl9, bTown g o a pe wo tx ch jo tr dy sd f]) H := hP
            have hD : va_D A (List.flatten [bDR g x ta o lo go tt lt mo fo ro fl9, bTown g o a pe wo tx ch jo tr dy sd f]) := hD
            exact ih4_6 x_2 x_18 ⟨(Int.le_trans (by decide) i4.1), n9⟩ ⟨(Int.le_trans (by decide) hx_18.2.1), hx_18.2.2⟩ H _ ls (zmK hx_18.1 (by decide) n9 (by decide) hk4_6)  hP hD hS (lv_sub hl [0, 1, 2] rfl)
          · skip
            have c19 : ¬ x_1.toInt = (-1) := zne cb9 rfl (by decide)
            have n20 : 0 ≤ x_1.toInt := zN1 c19 i3.1 (by decide)
            refine lv_aload_n hx hb dX11_firmest_31 rfl (lv_at hl 0 rfl) ?_
            refine va_get (D := g.1) (ci := 9) (v := .ref o) (C := RX11) (T := TX11) (N := 10) hx hb hts izRX11 hown hK hP 0 rfl rfl 1 (by decide) (hts _ k538) (fun _ h9 => h9) rfl dX11_firmest_32 ?_
            refine va_get (D := g.1) (ci := 7) (v := .ref (a 0)) (C := RX9) (T := TX9) (N := 19) hx hb hts izRX9 hown hK hP 1 rfl rfl 8 (by decide) (hts _ k613) (fun _ h9 => h9) rfl dX11_firmest_35 ?_
            refine lv_iload_n hx hb dX11_firmest_38 rfl (lv_at hl 2 rfl) ?_
            refine va_iald hx hb hK hP 2 0 rfl rfl (zinK (a := 0) (b := 7) i4.1 n9 (by decide)) dX11_firmest_39 ?_
            refine zg (fun x_21 => ?_)
            refine lv_aload_n hx hb dX11_firmest_40 rfl (lv_at hl 0 rfl) ?_
            refine va_get (D := g.1) (ci := 9) (v := .ref o) (C := RX11) (T := TX11) (N := 10) hx hb hts izRX11 hown hK hP 0 rfl rfl 1 (by decide) (hts _ k538) (fun _ h9 => h9) rfl dX11_firmest_41 ?_
            refine va_get (D := g.1) (ci := 7) (v := .ref (a 0)) (C := RX9) (T := TX9) (N := 19) hx hb hts izRX9 hown hK hP 1 rfl rfl 8 (by decide) (hts _ k613) (fun _ h9 => h9) rfl dX11_firmest_44 ?_
            refine lv_iload_n hx hb dX11_firmest_47 rfl (lv_at hl 1 rfl) ?_
            refine va_iald hx hb hK hP 2 0 rfl rfl (zinK (a := 0) (b := 7) n20 i3.2 (by decide)) dX11_firmest_48 ?_
            refine zg (fun x_22 => ?_)
            refine lv_icmp_le (tgt := 54) hx hb dX11_firmest_49 (by decide) (fun cb9 => ?_) (fun cb9 => ?_)
            · skip
              have c23 : x_21.toInt ≤ x_22.toInt := zle cb9 rfl rfl
              refine ziinc3 (n' := 1) (a' := 1) (b' := 8) (lv' := fun v9 => [(2, .int v9), (0, .ref x), (1, .int x_1)]) hx hb dX11_firmest_54 hl (k := 2) rfl (by decide) (fun _ => rfl) (zaddK (i := x_2.toInt) (j := 1) rfl (by decide) i4.1 n9 (Int.le_refl _) (Int.le_refl _) (by decide)) (fun x_24 ls hx_24 hl => ?_)
              refine lv_goto (tgt := 4) hx hb dX11_firmest_57 (by decide) ?_
              have hl := lv_sub (l' := [(0, .ref x), (1, .int x_1), (2, .int x_24)]) hl [1, 2, 0] rfl
              have hP : va_P g.1 vwCl (List.flatten [bDR g x ta o lo go tt lt mo fo ro fl9, bTown g o a pe wo tx ch jo tr dy sd f]) H := hP
              have hD : va_D A (List.flatten [bDR g x ta o lo go tt lt mo fo ro fl9, bTown g o a pe wo tx ch jo tr dy sd f]) := hD
              exact ih4_6 x_1 x_24 ⟨(Int.le_trans (by decide) n20), i3.2⟩ ⟨(Int.le_trans (by decide) hx_24.2.1), hx_24.2.2⟩ H _ ls (zmK hx_24.1 (by decide) n9 (by decide) hk4_6)  hP hD hS (lv_sub hl [0, 1, 2] rfl)
            · skip
              have c25 : x_22.toInt < x_21.toInt := zlti (Int32.not_le.mp cb9) rfl rfl
              refine lv_iload_n hx hb dX11_firmest_52 rfl (lv_at hl 2 rfl) ?_
              refine lv_istore_n (lv' := [(1, .int x_2), (0, .ref x), (2, .int x_2)]) hx hb dX11_firmest_53 rfl hl (by decide) rfl (fun ls hl => ?_)
              refine ziinc3 (n' := 1) (a' := 1) (b' := 8) (lv' := fun v9 => [(2, .int v9), (1, .int x_2), (0, .ref x)]) hx hb dX11_firmest_54 hl (k := 2) rfl (by decide) (fun _ => rfl) (zaddK (i := x_2.toInt) (j := 1) rfl (by decide) i4.1 n9 (Int.le_refl _) (Int.le_refl _) (by decide)) (fun x_26 ls hx_26 hl => ?_)
              refine lv_goto (tgt := 4) hx hb dX11_firmest_57 (by decide) ?_
              have hl := lv_sub (l' := [(0, .ref x), (1, .int x_2), (2, .int x_26)]) hl [2, 1, 0] rfl
              have hP : va_P g.1 vwCl (List.flatten [bDR g x ta o lo go tt lt mo fo ro fl9, bTown g o a pe wo tx ch jo tr dy sd f]) H := hP
              have hD : va_D A (List.flatten [bDR g x ta o lo go tt lt mo fo ro fl9, bTown g o a pe wo tx ch jo tr dy sd f]) := hD
              exact ih4_6 x_2 x_26 ⟨(Int.le_trans (by decide) i4.1), n9⟩ ⟨(Int.le_trans (by decide) hx_26.2.1), hx_26.2.2⟩ H _ ls (zmK hx_26.1 (by decide) n9 (by decide) hk4_6)  hP hD hS (lv_sub hl [0, 1, 2] rfl)
  have hP : va_P g.1 vwCl (List.flatten [bDR g x ta o lo go tt lt mo fo ro fl9, bTown g o a pe wo tx ch jo tr dy sd f]) s.heap := hP
  have hD : va_D A (List.flatten [bDR g x ta o lo go tt lt mo fo ro fl9, bTown g o a pe wo tx ch jo tr dy sd f]) := hD
  exact LP4_5 _ (-1) 0 (by decide) (by decide) s.heap _ ls (Nat.lt_succ_self _)  hP hD hS (lv_sub hl [0, 1, 2] rfl)
