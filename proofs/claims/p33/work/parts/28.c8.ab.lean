set_option maxRecDepth 100000 in
set_option maxHeartbeats 4000000 in
theorem c_x_price (l : Launch) (g : zG) (x : Nat) (ta : Nat) (o : Nat) (lo : Nat) (go : Nat) (tt : Nat) (lt : Nat) (mo : Nat) (fo : Nat) (ro : Nat) (fl9 : Int32) (a : Nat → Nat) (pe : Int32) (wo : Int32) (tx : Int32) (ch : Int32) (jo : Int32) (tr : Int32) (dy : Int32) (sd : Int32) (f : Nat → Nat → Int32) (b_pe : 0 ≤ pe.toInt ∧ pe.toInt ≤ 8) (b_wo : 0 ≤ wo.toInt ∧ wo.toInt ≤ 6) (rf : zZ4 f) : zM' g l yX11_price (Cond.code yX11_price cX11_price 1 (some .int) :: zB) ({ frames := 4, cells := 0, slots := 0, locals := 85 } : Room) [.ref x] [bDR g x ta o lo go tt lt mo fo ro fl9, bTown g o a pe wo tx ch jo tr dy sd f] (fun (q : Int32) => some (.int q)) (fun (q : Int32) => True) (fun (q : Int32) => [bDR g x ta o lo go tt lt mo fo ro fl9, bTown g o a pe wo tx ch jo tr dy sd f]) := by
  refine zM'.of (cc := cX11_price) (maxL := 1) (rt := (some .int)) (by decide) rfl (Nat.le_of_ble_eq_true rfl) ?_
  intro p e s m args below meth c A ls St hr hlocks hin hK hT hA hP hD hS hl
  obtain ⟨hx, hb, hml, hown, hts⟩ := id St
  have hl : lv_has ls 1 [(0, .ref x)] := hl
  refine lv_aload_n hx hb dX11_price_0 rfl (lv_at hl 0 rfl) ?_
  refine va_get (D := g.1) (ci := 9) (v := .ref o) (C := RX11) (T := TX11) (N := 10) hx hb hts izRX11 hown hK hP 0 rfl rfl 1 (by decide) (hts _ k538) (fun _ h9 => h9) rfl dX11_price_1 ?_
  refine mcallV' (g := g) (q0 := 0) (ci := 7) (As := []) (rest := []) St hK hT hA hP hD hS hl.1 [1] [0] rfl rfl rfl (c_sharePrice l g o a pe wo tx ch jo tr dy sd f b_pe b_wo rf) (cwV 0 hts (zgL (zl4 k649 k188 k189 k24) k186) rfl rfl rfl (by decide +kernel) ⟨Nat.le_of_ble_eq_true rfl, Nat.le_of_ble_eq_true rfl⟩) rfl rfl rfl rfl (Nat.le_of_ble_eq_true rfl) dX11_price_4 ⟨(Nat.le_of_ble_eq_true rfl), (Nat.le_of_ble_eq_true rfl)⟩ (fun q_1 H locs hq2 hP hD hS => ?_)
  have hP : va_P g.1 vwCl (List.flatten [bDR g x ta o lo go tt lt mo fo ro fl9, bTown g o a pe wo tx ch jo tr dy sd f]) H := hP
  have hD : va_D A (List.flatten [bDR g x ta o lo go tt lt mo fo ro fl9, bTown g o a pe wo tx ch jo tr dy sd f]) := hD
  refine W.widen (k := 0) (n := 0) (Nat.le_of_ble_eq_true rfl) (Nat.le_of_ble_eq_true rfl) ?_
  refine W.eq (g2 := F0 m 7 ls [.int q_1]) rfl ?_
  have hP : va_P g.1 vwCl (List.flatten [bDR g x ta o lo go tt lt mo fo ro fl9, bTown g o a pe wo tx ch jo tr dy sd f]) H := hP
  have hD : va_D A (List.flatten [bDR g x ta o lo go tt lt mo fo ro fl9, bTown g o a pe wo tx ch jo tr dy sd f]) := hD
  exact mret_i hx hb hr hlocks hS (Nat.le_of_ble_eq_true rfl) (Nat.le_of_ble_eq_true rfl) dX11_price_7 (q_1) rfl trivial hP hD
set_option maxRecDepth 100000 in
set_option maxHeartbeats 4000000 in
theorem c_x_doubts (l : Launch) (g : zG) (x : Nat) (ta : Nat) (o : Nat) (lo : Nat) (go : Nat) (tt : Nat) (lt : Nat) (mo : Nat) (fo : Nat) (ro : Nat) (fl9 : Int32) (a : Nat → Nat) (pe : Int32) (wo : Int32) (tx : Int32) (ch : Int32) (jo : Int32) (tr : Int32) (dy : Int32) (sd : Int32) (f : Nat → Nat → Int32) (b_pe : 0 ≤ pe.toInt ∧ pe.toInt ≤ 8) (b_wo : 0 ≤ wo.toInt ∧ wo.toInt ≤ 6) (rf : zZ4 f) : zM' g l yX11_doubts (Cond.code yX11_doubts cX11_doubts 1 (some .int) :: zB) ({ frames := 2, cells := 0, slots := 0, locals := 43 } : Room) [.ref x] [bDR g x ta o lo go tt lt mo fo ro fl9, bTown g o a pe wo tx ch jo tr dy sd f] (fun (q : Int32) => some (.int q)) (fun (q : Int32) => True) (fun (q : Int32) => [bDR g x ta o lo go tt lt mo fo ro fl9, bTown g o a pe wo tx ch jo tr dy sd f]) := by
  refine zM'.of (cc := cX11_doubts) (maxL := 1) (rt := (some .int)) (by decide) rfl (Nat.le_of_ble_eq_true rfl) ?_
  intro p e s m args below meth c A ls St hr hlocks hin hK hT hA hP hD hS hl
  obtain ⟨hx, hb, hml, hown, hts⟩ := id St
  have hl : lv_has ls 1 [(0, .ref x)] := hl
  refine lv_aload_n hx hb dX11_doubts_0 rfl (lv_at hl 0 rfl) ?_
  refine va_get (D := g.1) (ci := 9) (v := .ref o) (C := RX11) (T := TX11) (N := 10) hx hb hts izRX11 hown hK hP 0 rfl rfl 1 (by decide) (hts _ k538) (fun _ h9 => h9) rfl dX11_doubts_1 ?_
  refine mcallV' (g := g) (q0 := 0) (ci := 7) (As := []) (rest := []) St hK hT hA hP hD hS hl.1 [1] [0] rfl rfl rfl (c_doubters l g o a pe wo tx ch jo tr dy sd f b_pe b_wo rf) (cwV 0 hts (zgL (zl4 k702 k178 k179 k24) k175) rfl rfl rfl (by decide +kernel) ⟨Nat.le_of_ble_eq_true rfl, Nat.le_of_ble_eq_true rfl⟩) rfl rfl rfl rfl (Nat.le_of_ble_eq_true rfl) dX11_doubts_4 ⟨(Nat.le_of_ble_eq_true rfl), (Nat.le_of_ble_eq_true rfl)⟩ (fun q_1 H locs hq2 hP hD hS => ?_)
  have hP : va_P g.1 vwCl (List.flatten [bDR g x ta o lo go tt lt mo fo ro fl9, bTown g o a pe wo tx ch jo tr dy sd f]) H := hP
  have hD : va_D A (List.flatten [bDR g x ta o lo go tt lt mo fo ro fl9, bTown g o a pe wo tx ch jo tr dy sd f]) := hD
  refine W.widen (k := 0) (n := 0) (Nat.le_of_ble_eq_true rfl) (Nat.le_of_ble_eq_true rfl) ?_
  refine W.eq (g2 := F0 m 7 ls [.int q_1]) rfl ?_
  have hP : va_P g.1 vwCl (List.flatten [bDR g x ta o lo go tt lt mo fo ro fl9, bTown g o a pe wo tx ch jo tr dy sd f]) H := hP
  have hD : va_D A (List.flatten [bDR g x ta o lo go tt lt mo fo ro fl9, bTown g o a pe wo tx ch jo tr dy sd f]) := hD
  exact mret_i hx hb hr hlocks hS (Nat.le_of_ble_eq_true rfl) (Nat.le_of_ble_eq_true rfl) dX11_doubts_7 (q_1) rfl trivial hP hD
set_option maxRecDepth 100000 in
set_option maxHeartbeats 4000000 in
theorem c_x_circles (l : Launch) (g : zG) (x : Nat) (ta : Nat) (o : Nat) (lo : Nat) (go : Nat) (tt : Nat) (lt : Nat) (mo : Nat) (fo : Nat) (ro : Nat) (fl9 : Int32) (a : Nat → Nat) (pe : Int32) (wo : Int32) (tx : Int32) (ch : Int32) (jo : Int32) (tr : Int32) (dy : Int32) (sd : Int32) (f : Nat → Nat → Int32) (b_pe : 0 ≤ pe.toInt ∧ pe.toInt ≤ 8) (b_wo : 0 ≤ wo.toInt ∧ wo.toInt ≤ 6) (rf : zZ4 f) : zM' g l yX11_circles (Cond.code yX11_circles cX11_circles 1 (some .int) :: zB) ({ frames := 5, cells := 0, slots := 0, locals := 117 } : Room) [.ref x] [bDR g x ta o lo go tt lt mo fo ro fl9, bTown g o a pe wo tx ch jo tr dy sd f] (fun (q : Int32) => some (.int q)) (fun (q : Int32) => True) (fun (q : Int32) => [bDR g x ta o lo go tt lt mo fo ro fl9, bTown g o a pe wo tx ch jo tr dy sd f]) := by
  refine zM'.of (cc := cX11_circles) (maxL := 1) (rt := (some .int)) (by decide) rfl (Nat.le_of_ble_eq_true rfl) ?_
  intro p e s m args below meth c A ls St hr hlocks hin hK hT hA hP hD hS hl
  obtain ⟨hx, hb, hml, hown, hts⟩ := id St
  have hl : lv_has ls 1 [(0, .ref x)] := hl
  refine lv_aload_n hx hb dX11_circles_0 rfl (lv_at hl 0 rfl) ?_
  refine va_get (D := g.1) (ci := 9) (v := .ref o) (C := RX11) (T := TX11) (N := 10) hx hb hts izRX11 hown hK hP 0 rfl rfl 1 (by decide) (hts _ k538) (fun _ h9 => h9) rfl dX11_circles_1 ?_
  refine mcallS' (g := g) (As := [.ref o]) (rest := []) St hK hT hA hP hD hS hl.1 [1] [0] rfl rfl rfl (c_i_countCircles l g o a pe wo tx ch jo tr dy sd f b_pe b_wo rf) (va_cwS 1 hts (zgL (zl3 k758 k759 k505) k510) rfl rfl rfl (by decide +kernel) ⟨Nat.le_of_ble_eq_true rfl, Nat.le_of_ble_eq_true rfl⟩) rfl rfl (Nat.le_of_ble_eq_true rfl) dX11_circles_4 ⟨(Nat.le_of_ble_eq_true rfl), (Nat.le_of_ble_eq_true rfl)⟩ (fun q_1 H locs hq2 hP hD hS => ?_)
  have hP : va_P g.1 vwCl (List.flatten [bDR g x ta o lo go tt lt mo fo ro fl9, bTown g o a pe wo tx ch jo tr dy sd f]) H := hP
  have hD : va_D A (List.flatten [bDR g x ta o lo go tt lt mo fo ro fl9, bTown g o a pe wo tx ch jo tr dy sd f]) := hD
  refine W.widen (k := 0) (n := 0) (Nat.le_of_ble_eq_true rfl) (Nat.le_of_ble_eq_true rfl) ?_
  refine W.eq (g2 := F0 m 7 ls [.int q_1]) rfl ?_
  have hP : va_P g.1 vwCl (List.flatten [bDR g x ta o lo go tt lt mo fo ro fl9, bTown g o a pe wo tx ch jo tr dy sd f]) H := hP
  have hD : va_D A (List.flatten [bDR g x ta o lo go tt lt mo fo ro fl9, bTown g o a pe wo tx ch jo tr dy sd f]) := hD
  exact mret_i hx hb hr hlocks hS (Nat.le_of_ble_eq_true rfl) (Nat.le_of_ble_eq_true rfl) dX11_circles_7 (q_1) rfl trivial hP hD
set_option maxRecDepth 100000 in
set_option maxHeartbeats 4000000 in
theorem c_x_hermits (l : Launch) (g : zG) (x : Nat) (ta : Nat) (o : Nat) (lo : Nat) (go : Nat) (tt : Nat) (lt : Nat) (mo : Nat) (fo : Nat) (ro : Nat) (fl9 : Int32) (a : Nat → Nat) (pe : Int32) (wo : Int32) (tx : Int32) (ch : Int32) (jo : Int32) (tr : Int32) (dy : Int32) (sd : Int32) (f : Nat → Nat → Int32) (b_pe : 0 ≤ pe.toInt ∧ pe.toInt ≤ 8) (b_wo : 0 ≤ wo.toInt ∧ wo.toInt ≤ 6) (rf : zZ4 f) : zM' g l yX11_hermits (Cond.code yX11_hermits cX11_hermits 1 (some .int) :: zB) ({ frames := 3, cells := 0, slots := 0, locals := 68 } : Room) [.ref x] [bDR g x ta o lo go tt lt mo fo ro fl9, bTown g o a pe wo tx ch jo tr dy sd f] (fun (q : Int32) => some (.int q)) (fun (q : Int32) => True) (fun (q : Int32) => [bDR g x ta o lo go tt lt mo fo ro fl9, bTown g o a pe wo tx ch jo tr dy sd f]) := by
  refine zM'.of (cc := cX11_hermits) (maxL := 1) (rt := (some .int)) (by decide) rfl (Nat.le_of_ble_eq_true rfl) ?_
  intro p e s m args below meth c A ls St hr hlocks hin hK hT hA hP hD hS hl
  obtain ⟨hx, hb, hml, hown, hts⟩ := id St
  have hl : lv_has ls 1 [(0, .ref x)] := hl
  refine lv_aload_n hx hb dX11_hermits_0 rfl (lv_at hl 0 rfl) ?_
  refine va_get (D := g.1) (ci := 9) (v := .ref o) (C := RX11) (T := TX11) (N := 10) hx hb hts izRX11 hown hK hP 0 rfl rfl 1 (by decide) (hts _ k538) (fun _ h9 => h9) rfl dX11_hermits_1 ?_
  refine mcallS' (g := g) (As := [.ref o]) (rest := []) St hK hT hA hP hD hS hl.1 [1] [0] rfl rfl rfl (c_i_untied l g o a pe wo tx ch jo tr dy sd f b_pe b_wo rf) (va_cwS 1 hts (zgL (zl3 k761 k762 k505) k513) rfl rfl rfl (by decide +kernel) ⟨Nat.le_of_ble_eq_true rfl, Nat.le_of_ble_eq_true rfl⟩) rfl rfl (Nat.le_of_ble_eq_true rfl) dX11_hermits_4 ⟨(Nat.le_of_ble_eq_true rfl), (Nat.le_of_ble_eq_true rfl)⟩ (fun q_1 H locs hq2 hP hD hS => ?_)
  have hP : va_P g.1 vwCl (List.flatten [bDR g x ta o lo go tt lt mo fo ro fl9, bTown g o a pe wo tx ch jo tr dy sd f]) H := hP
  have hD : va_D A (List.flatten [bDR g x ta o lo go tt lt mo fo ro fl9, bTown g o a pe wo tx ch jo tr dy sd f]) := hD
  refine W.widen (k := 0) (n := 0) (Nat.le_of_ble_eq_true rfl) (Nat.le_of_ble_eq_true rfl) ?_
  refine W.eq (g2 := F0 m 7 ls [.int q_1]) rfl ?_
  have hP : va_P g.1 vwCl (List.flatten [bDR g x ta o lo go tt lt mo fo ro fl9, bTown g o a pe wo tx ch jo tr dy sd f]) H := hP
  have hD : va_D A (List.flatten [bDR g x ta o lo go tt lt mo fo ro fl9, bTown g o a pe wo tx ch jo tr dy sd f]) := hD
  exact mret_i hx hb hr hlocks hS (Nat.le_of_ble_eq_true rfl) (Nat.le_of_ble_eq_true rfl) dX11_hermits_7 (q_1) rfl trivial hP hD
set_option maxRecDepth 100000 in
set_option maxHeartbeats 4000000 in
theorem c_x_richest (l : Launch) (g : zG) (x : Nat) (ta : Nat) (o : Nat) (lo : Nat) (go : Nat) (tt : Nat) (lt : Nat) (mo : Nat) (fo : Nat) (ro : Nat) (fl9 : Int32) (a : Nat → Nat) (pe : Int32) (wo : Int32) (tx : Int32) (ch : Int32) (jo : Int32) (tr : Int32) (dy : Int32) (sd : Int32) (f : Nat → Nat → Int32) (b_pe : 0 ≤ pe.toInt ∧ pe.toInt ≤ 8) (b_wo : 0 ≤ wo.toInt ∧ wo.toInt ≤ 6) (rf : zZ4 f) : zM' g l yX11_richest (Cond.code yX11_richest cX11_richest 3 (some .int) :: zB) ({ frames := 5, cells := 0, slots := 0, locals := 106 } : Room) [.ref x] [bDR g x ta o lo go tt lt mo fo ro fl9, bTown g o a pe wo tx ch jo tr dy sd f] (fun (q : Int32) => some (.int q)) (fun (q : Int32) => True) (fun (q : Int32) => [bDR g x ta o lo go tt lt mo fo ro fl9, bTown g o a pe wo tx ch jo tr dy sd f]) := by
  refine zM'.of (cc := cX11_richest) (maxL := 3) (rt := (some .int)) (by decide) rfl (Nat.le_of_ble_eq_true rfl) ?_
  intro p e s m args below meth c A ls St hr hlocks hin hK hT hA hP hD hS hl
  obtain ⟨hx, hb, hml, hown, hts⟩ := id St
  have hl : lv_has ls 3 [(0, .ref x)] := hl
  refine lv_iconst (v := (-1)) hx hb dX11_richest_0 (by decide) ?_
  refine lv_istore_n (lv' := [(1, .int (-1)), (0, .ref x)]) hx hb dX11_richest_1 rfl hl (by decide) rfl (fun ls hl => ?_)
  refine lv_iconst (v := 0) hx hb dX11_richest_2 (by decide) ?_
  refine lv_istore_n (lv' := [(2, .int 0), (1, .int (-1)), (0, .ref x)]) hx hb dX11_richest_3 rfl hl (by decide) rfl (fun ls hl => ?_)
  have hl := lv_sub (l' := [(0, .ref x), (1, .int (-1)), (2, .int 0)]) hl [2, 1, 0] rfl
  have LP4_5 : ∀ (kf : Nat) (x_1 : Int32) (x_2 : Int32), ((-1) ≤ x_1.toInt ∧ x_1.toInt ≤ 7) → (0 ≤ x_2.toInt ∧ x_2.toInt ≤ 8) → ∀ (H : Heap) (locs : List Loc) (ls : Array Slot), ((9 - x_2.toInt).toNat) < kf → va_P g.1 vwCl (List.flatten [bDR g x ta o lo go tt lt mo fo ro fl9, bTown g o a pe wo tx ch jo tr dy sd f]) H → va_D A (List.flatten [bDR g x ta o lo go tt lt mo fo ro fl9, bTown g o a pe wo tx ch jo tr dy sd f]) → va_S A s.heap H locs → lv_has ls 3 [(0, .ref x), (1, .int x_1), (2, .int x_2)] → W p l e ({ frames := 5, cells := 0, slots := 0, locals := 106 } : Room) s m args below meth c H locs (0) (0) (zF g (fun (q : Int32) => some (.int q)) (fun (q : Int32) => True) (fun (q : Int32) => [bDR g x ta o lo go tt lt mo fo ro fl9, bTown g o a pe wo tx ch jo tr dy sd f]) ({ frames := 5, cells := 0, slots := 0, locals := 106 } : Room) below args s A) (F0 m 4 ls []) := by
    intro kf
    induction kf with
    | zero => intro x_1 x_2 i3 i4 H locs ls hk; exact absurd hk (Nat.not_lt_zero _)
    | succ kf ih4_6 =>
      intro x_1 x_2 i3 i4 H locs ls hk4_6 hP hD hS hl
      refine lv_iload_n hx hb dX11_richest_4 rfl (lv_at hl 2 rfl) ?_
      refine lv_aload_n hx hb dX11_richest_5 rfl (lv_at hl 0 rfl) ?_
      refine va_get (D := g.1) (ci := 9) (v := .ref o) (C := RX11) (T := TX11) (N := 10) hx hb hts izRX11 hown hK hP 0 rfl rfl 1 (by decide) (hts _ k538) (fun _ h9 => h9) rfl dX11_richest_6 ?_
      refine va_get (D := g.1) (ci := 7) (v := .int pe) (C := RX9) (T := TX9) (N := 19) hx hb hts izRX9 hown hK hP 1 rfl rfl 0 (by decide) (hts _ k610) (fun _ h9 => h9) rfl dX11_richest_9 ?_
      refine lv_icmp_ge (tgt := 47) hx hb dX11_richest_12 (by decide) (fun cb9 => ?_) (fun cb9 => ?_)
      · skip
        have c7 : pe.toInt ≤ x_2.toInt := zle cb9 rfl rfl
        refine lv_iload_n hx hb dX11_richest_47 rfl (lv_at hl 1 rfl) ?_
        have hP : va_P g.1 vwCl (List.flatten [bDR g x ta o lo go tt lt mo fo ro fl9, bTown g o a pe wo tx ch jo tr dy sd f]) H := hP
        have hD : va_D A (List.flatten [bDR g x ta o lo go tt lt mo fo ro fl9, bTown g o a pe wo tx ch jo tr dy sd f]) := hD
        exact mret_i hx hb hr hlocks hS (Nat.le_of_ble_eq_true rfl) (Nat.le_of_ble_eq_true rfl) dX11_richest_48 (x_1) rfl trivial hP hD
      · skip
        have c8 : x_2.toInt < pe.toInt := zlti (Int32.not_le.mp cb9) rfl rfl
        have n9 : x_2.toInt ≤ 7 := zL1 (b := 8) c8 b_pe.2 (by decide)
        have n10 : 1 ≤ pe.toInt := zL2 (a := 0) c8 i4.1 (by decide)
        refine lv_iload_n hx hb dX11_richest_15 rfl (lv_at hl 1 rfl) ?_
        refine lv_iconst (v := (-1)) hx hb dX11_richest_16 (by decide) ?_
        refine lv_icmp_eq (tgt := 39) hx hb dX11_richest_17 (by decide) (fun cb9 => ?_) (fun cb9 => ?_)
        · skip
          have c11 : x_1.toInt = (-1) := zeq cb9 rfl (by decide)
          have n12 : x_1.toInt ≤ (-1) := Int.le_trans (Int.le_of_eq c11) (Int.le_refl _)
          refine lv_iload_n hx hb dX11_richest_39 rfl (lv_at hl 2 rfl) ?_
          refine lv_istore_n (lv' := [(1, .int x_2), (0, .ref x), (2, .int x_2)]) hx hb dX11_richest_40 rfl hl (by decide) rfl (fun ls hl => ?_)
          refine ziinc3 (n' := 1) (a' := 1) (b' := 8) (lv' := fun v9 => [(2, .int v9), (1, .int x_2), (0, .ref x)]) hx hb dX11_richest_41 hl (k := 2) rfl (by decide) (fun _ => rfl) (zaddK (i := x_2.toInt) (j := 1) rfl (by decide) i4.1 n9 (Int.le_refl _) (Int.le_refl _) (by decide)) (fun x_13 ls hx_13 hl => ?_)
          refine lv_goto (tgt := 4) hx hb dX11_richest_44 (by decide) ?_
          have hl := lv_sub (l' := [(0, .ref x), (1, .int x_2), (2, .int x_13)]) hl [2, 1, 0] rfl
          have hP : va_P g.1 vwCl (List.flatten [bDR g x ta o lo go tt lt mo fo ro fl9, bTown g o a pe wo tx ch jo tr dy sd f]) H := hP
          have hD : va_D A (List.flatten [bDR g x ta o lo go tt lt mo fo ro fl9, bTown g o a pe wo tx ch jo tr dy sd f]) := hD
          exact ih4_6 x_2 x_13 ⟨(Int.le_trans (by decide) i4.1), n9⟩ ⟨(Int.le_trans (by decide) hx_13.2.1), hx_13.2.2⟩ H _ ls (zmK hx_13.1 (by decide) n9 (by decide) hk4_6)  hP hD hS (lv_sub hl [0, 1, 2] rfl)
        · skip
          have c14 : ¬ x_1.toInt = (-1) := zne cb9 rfl (by decide)
          have n15 : 0 ≤ x_1.toInt := zN1 c14 i3.1 (by decide)
          refine lv_aload_n hx hb dX11_richest_20 rfl (lv_at hl 0 rfl) ?_
          refine va_get (D := g.1) (ci := 9) (v := .ref o) (C := RX11) (T := TX11) (N := 10) hx hb hts izRX11 hown hK hP 0 rfl rfl 1 (by decide) (hts _ k538) (fun _ h9 => h9) rfl dX11_richest_21 ?_
          refine lv_iload_n hx hb dX11_richest_24 rfl (lv_at hl 2 rfl) ?_
          refine mcallV' (g := g) (q0 := 0) (ci := 7) (As := [.int x_2]) (rest := []) St hK hT hA hP hD hS hl.1 [1] [0] rfl rfl rfl (c_worthOf l g o a pe wo tx ch jo tr dy sd f x_2 b_pe b_wo rf (⟨i4.1, n9⟩)) (cwV 1 hts (zgL (zl4 k626 k627 k628 k24) k516) rfl rfl rfl (by decide +kernel) ⟨Nat.le_of_ble_eq_true rfl, Nat.le_of_ble_eq_true rfl⟩) rfl rfl rfl rfl (Nat.le_of_ble_eq_true rfl) dX11_richest_25 ⟨(Nat.le_of_ble_eq_true rfl), (Nat.le_of_ble_eq_true rfl)⟩ (fun q_16 H locs hq17 hP hD hS => ?_)
          have hP : va_P g.1 vwCl (List.flatten [bDR g x ta o lo go tt lt mo fo ro fl9, bTown g o a pe wo tx ch jo tr dy sd f]) H := hP
          have hD : va_D A (List.flatten [bDR g x ta o lo go tt lt mo fo ro fl9, bTown g o a pe wo tx ch jo tr dy sd f]) := hD
          refine W.widen (k := 0) (n := 0) (Nat.le_of_ble_eq_true rfl) (Nat.le_of_ble_eq_true rfl) ?_
          refine W.eq (g2 := F0 m 28 ls [.int q_16]) rfl ?_
          refine lv_aload_n hx hb dX11_richest_28 rfl (lv_at hl 0 rfl) ?_
          refine va_get (D := g.1) (ci := 9) (v := .ref o) (C := RX11) (T := TX11) (N := 10) hx hb hts izRX11 hown hK hP 0 rfl rfl 1 (by decide) (hts _ k538) (fun _ h9 => h9) rfl dX11_richest_29 ?_
          refine lv_iload_n hx hb dX11_richest_32 rfl (lv_at hl 1 rfl) ?_
          refine mcallV' (g := g) (q0 := 0) (ci := 7) (As := [.int x_1]) (rest := [.int q_16]) St hK hT hA hP hD hS hl.1 [1] [0] rfl rfl rfl (c_worthOf l g o a pe wo tx ch jo tr dy sd f x_1 b_pe b_wo rf (⟨n15, i3.2⟩)) (cwV 1 hts (zgL (zl4 k626 k627 k628 k24) k516) rfl rfl rfl (by decide +kernel) ⟨Nat.le_of_ble_eq_true rfl, Nat.le_of_ble_eq_true rfl⟩) rfl rfl rfl rfl (Nat.le_of_ble_eq_true rfl) dX11_richest_33 ⟨(Nat.le_of_ble_eq_true rfl), (Nat.le_of_ble_eq_true rfl)⟩ (fun q_18 H locs hq19 hP hD hS => ?_)
          have hP : va_P g.1 vwCl (List.flatten [bDR g x ta o lo go tt lt mo fo ro fl9, bTown g o a pe wo tx ch jo tr dy sd f]) H := hP
          have hD : va_D A (List.flatten [bDR g x ta o lo go tt lt mo fo ro fl9, bTown g o a pe wo tx ch jo tr dy sd f]) := hD
          refine W.widen (k := 0) (n := 0) (Nat.le_of_ble_eq_true rfl) (Nat.le_of_ble_eq_true rfl) ?_
          refine W.eq (g2 := F0 m 36 ls [.int q_18, .int q_16]) rfl ?_
          refine lv_icmp_le (tgt := 41) hx hb dX11_richest_36 (by decide) (fun cb9 => ?_) (fun cb9 => ?_)
          · skip
            have c20 : q_16.toInt ≤ q_18.toInt := zle cb9 rfl rfl
            refine ziinc3 (n' := 1) (a' := 1) (b' := 8) (lv' := fun v9 => [(2, .int v9), (0, .ref x), (1, .int x_1)]) hx hb dX11_richest_41 hl (k := 2) rfl (by decide) (fun _ => rfl) (zaddK (i := x_2.toInt) (j := 1) rfl (by decide) i4.1 n9 (Int.le_refl _) (Int.le_refl _) (by decide)) (fun x_21 ls hx_21 hl => ?_)
            refine lv_goto (tgt := 4) hx hb dX11_richest_44 (by decide) ?_
            have hl := lv_sub (l' := [(0, .ref x), (1, .int x_1), (2, .int x_21)]) hl [1, 2, 0] rfl
            have hP : va_P g.1 vwCl (List.flatten [bDR g x ta o lo go tt lt mo fo ro fl9, bTown g o a pe wo tx ch jo tr dy sd f]) H := hP
            have hD : va_D A (List.flatten [bDR g x ta o lo go tt lt mo fo ro fl9, bTown g o a pe wo tx ch jo tr dy sd f]) := hD
            exact ih4_6 x_1 x_21 ⟨(Int.le_trans (by decide) n15), i3.2⟩ ⟨(Int.le_trans (by decide) hx_21.2.1), hx_21.2.2⟩ H _ ls (zmK hx_21.1 (by decide) n9 (by decide) hk4_6)  hP hD hS (lv_sub hl [0, 1, 2] rfl)
          · skip
            have c22 : q_18.toInt < q_16.toInt := zlti (Int32.not_le.mp cb9) rfl rfl
            refine lv_iload_n hx hb dX11_richest_39 rfl (lv_at hl 2 rfl) ?_
            refine lv_istore_n (lv' := [(1, .int x_2), (0, .ref x), (2, .int x_2)]) hx hb dX11_richest_40 rfl hl (by decide) rfl (fun ls hl => ?_)
            refine ziinc3 (n' := 1) (a' := 1) (b' := 8) (lv' := fun v9 => [(2, .int v9), (1, .int x_2), (0, .ref x)]) hx hb dX11_richest_41 hl (k := 2) rfl (by decide) (fun _ => rfl) (zaddK (i := x_2.toInt) (j := 1) rfl (by decide) i4.1 n9 (Int.le_refl _) (Int.le_refl _) (by decide)) (fun x_23 ls hx_23 hl => ?_)
            refine lv_goto (tgt := 4) hx hb dX11_richest_44 (by decide) ?_
            have hl := lv_sub (l' := [(0, .ref x), (1, .int x_2), (2, .int x_23)]) hl [2, 1, 0] rfl
            have hP : va_P g.1 vwCl (List.flatten [bDR g x ta o lo go tt lt mo fo ro fl9, bTown g o a pe wo tx ch jo tr dy sd f]) H := hP
            have hD : va_D A (List.flatten [bDR g x ta o lo go tt lt mo fo ro fl9, bTown g o a pe wo tx ch jo tr dy sd f]) := hD
            exact ih4_6 x_2 x_23 ⟨(Int.le_trans (by decide) i4.1), n9⟩ ⟨(Int.le_trans (by decide) hx_23.2.1), hx_23.2.2⟩ H _ ls (zmK hx_23.1 (by decide) n9 (by decide) hk4_6)  hP hD hS (lv_sub hl [0, 1, 2] rfl)
  have hP : va_P g.1 vwCl (List.flatten [bDR g x ta o lo go tt lt mo fo ro fl9, bTown g o a pe wo tx ch jo tr dy sd f]) s.heap := hP
  have hD : va_D A (List.flatten [bDR g x ta o lo go tt lt mo fo ro fl9, bTown g o a pe wo tx ch jo tr dy sd f]) := hD
  exact LP4_5 _ (-1) 0 (by decide) (by decide) s.heap _ ls (Nat.lt_succ_self _)  hP hD hS (lv_sub hl [0, 1, 2] rfl)
set_option maxRecDepth 100000 in
set_option maxHeartbeats 4000000 in
theorem c_x_firmest (l : Launch) (g : zG) (x : Nat) (ta : Nat) (o : Nat) (lo : Nat) (go : Nat) (tt : Nat) (lt : Nat) (mo : Nat) (fo : Nat) (ro : Nat) (fl9 : Int32) (a : Nat → Nat) (pe : Int32) (wo : Int32) (tx : Int32) (ch : Int32) (jo : Int32) (tr : Int32) (dy : Int32) (sd : Int32) (f : Nat → Nat → Int32) (b_pe : 0 ≤ pe.toInt ∧ pe.toInt ≤ 8) (b_wo : 0 ≤ wo.toInt ∧ wo.toInt ≤ 6) (rf : zZ4 f) : zM' g l yX11_firmest (Cond.code yX11_firmest cX11_firmest 3 (some .int) :: zB) ({ frames := 1, cells := 0, slots := 0, locals := 21 } : Room) [.ref x] [bDR g x ta o lo go tt lt mo fo ro fl9, bTown g o a pe wo tx ch jo tr dy sd f] (fun (q : Int32) => some (.int q)) (fun (q : Int32) => True) (fun (q : Int32) => [bDR g x ta o lo go tt lt mo fo ro fl9, bTown g o a pe wo tx ch jo tr dy sd f]) := by
  refine zM'.of (cc := cX11_firmest) (maxL := 3) (rt := (some .int)) (by decide) rfl (Nat.le_of_ble_eq_true rfl) ?_
  intro p e s m args below meth c A ls St hr hlocks hin hK hT hA hP hD hS hl
  obtain ⟨hx, hb, hml, hown, hts⟩ := id St
  have hl : lv_has ls 3 [(0, .ref x)] := hl
  refine lv_iconst (v := (-1)) hx hb dX11_firmest_0 (by decide) ?_
  refine lv_istore_n (lv' := [(1, .int (-1)), (0, .ref x)]) hx hb dX11_firmest_1 rfl hl (by decide) rfl (fun ls hl => ?_)
  refine lv_iconst (v := 0) hx hb dX11_firmest_2 (by decide) ?_
  refine lv_istore_n (lv' := [(2, .int 0), (1, .int (-1)), (0, .ref x)]) hx hb dX11_firmest_3 rfl hl (by decide) rfl (fun ls hl => ?_)
  have hl := lv_sub (l' := [(0, .ref x), (1, .int (-1)), (2, .int 0)]) hl [2, 1, 0] rfl
  have LP4_5 : ∀ (kf : Nat) (x_1 : Int32) (x_2 : Int32), ((-1) ≤ x_1.toInt ∧ x_1.toInt ≤ 7) → (0 ≤ x_2.toInt ∧ x_2.toInt ≤ 8) → ∀ (H : Heap) (locs : List Loc) (ls : Array Slot), ((9 - x_2.toInt).toNat) < kf → va_P g.1 vwCl (List.flatten [bDR g x ta o lo go tt lt mo fo ro fl9, bTown g o a pe wo tx ch jo tr dy sd f]) H → va_D A (List.flatten [bDR g x ta o lo go tt lt mo fo ro fl9, bTown g o a pe wo tx ch jo tr dy sd f]) → va_S A s.heap H locs → lv_has ls 3 [(0, .ref x), (1, .int x_1), (2, .int x_2)] → W p l e ({ frames := 1, cells := 0, slots := 0, locals := 21 } : Room) s m args below meth c H locs (0) (0) (zF g (fun (q : Int32) => some (.int q)) (fun (q : Int32) => True) (fun (q : Int32) => [bDR g x ta o lo go tt lt mo fo ro fl9, bTown g o a pe wo tx ch jo tr dy sd f]) ({ frames := 1, cells := 0, slots := 0, locals := 21 } : Room) below args s A) (F0 m 4 ls []) := by
    intro kf
    induction kf with
    | zero => intro x_1 x_2 i3 i4 H locs ls hk; exact absurd hk (Nat.not_lt_zero _)
    | succ kf ih4_6 =>
      intro x_1 x_2 i3 i4 H locs ls hk4_6 hP hD hS hl
      refine lv_iload_n hx hb dX11_firmest_4 rfl (lv_at hl 2 rfl) ?_
      refine lv_aload_n hx hb dX11_firmest_5 rfl (lv_at hl 0 rfl) ?_
      refine va_get (D := g.1) (ci := 9) (v := .ref o) (C := RX11) (T := TX11) (N := 10) hx hb hts izRX11 hown hK hP 0 rfl rfl 1 (by decide) (hts _ k538) (fun _ h9 => h9) rfl dX11_firmest_6 ?_
      refine va_get (D := g.1) (ci := 7) (v := .int pe) (C := RX9) (T := TX9) (N := 19) hx hb hts izRX9 hown hK hP 1 rfl rfl 0 (by decide) (hts _ k610) (fun _ h9 => h9) rfl dX11_firmest_9 ?_
      refine lv_icmp_ge (tgt := 60) hx hb dX11_firmest_12 (by decide) (fun cb9 => ?_) (fun cb9 => ?_)
      · skip
        have c7 : pe.toInt ≤ x_2.toInt := zle cb9 rfl rfl
        refine lv_iload_n hx hb dX11_firmest_60 rfl (lv_at hl 1 rfl) ?_
        have hP : va_P g.1 vwCl (List.flatten [bDR g x ta o lo go tt lt mo fo ro fl9, bTown g o a pe wo tx ch jo tr dy sd f]) H := hP
        have hD : va_D A (List.flatten [bDR g x ta o lo go tt lt mo fo ro fl9, bTown g o a pe wo tx ch jo tr dy sd f]) := hD
        exact mret_i hx hb hr hlocks hS (Nat.le_of_ble_eq_true rfl) (Nat.le_of_ble_eq_true rfl) dX11_firmest_61 (x_1) rfl trivial hP hD
      · skip
        have c8 : x_2.toInt < pe.toInt := zlti (Int32.not_le.mp cb9) rfl rfl
        have n9 : x_2.toInt ≤ 7 := zL1 (b := 8) c8 b_pe.2 (by decide)
        have n10 : 1 ≤ pe.toInt := zL2 (a := 0) c8 i4.1 (by decide)
        refine lv_aload_n hx hb dX11_firmest_15 rfl (lv_at hl 0 rfl) ?_
        refine va_get (D := g.1) (ci := 9) (v := .ref o) (C := RX11) (T := TX11) (N := 10) hx hb hts izRX11 hown hK hP 0 rfl rfl 1 (by decide) (hts _ k538) (fun _ h9 => h9) rfl dX11_firmest_16 ?_
        refine lv_iload_n hx hb dX11_firmest_19 rfl (lv_at hl 2 rfl) ?_
        refine mcallV' (g := g) (q0 := 0) (ci := 7) (As := [.int x_2]) (rest := []) St hK hT hA hP hD hS hl.1 [1] [0] rfl rfl rfl (c_isHere l g o a pe wo tx ch jo tr dy sd f x_2 (⟨i4.1, n9⟩)) (cwV 1 hts (zgL (zl4 k655 k54 k55 k24) k51) rfl rfl rfl (by decide +kernel) ⟨Nat.le_of_ble_eq_true rfl, Nat.le_of_ble_eq_true rfl⟩) rfl rfl rfl rfl (Nat.le_of_ble_eq_true rfl) dX11_firmest_20 ⟨(Nat.le_of_ble_eq_true rfl), (Nat.le_of_ble_eq_true rfl)⟩ (fun q_11 H locs hq12 hP hD hS => ?_)
        replace hq12 : (q_11 = 0 ∨ q_11 = 1) := hq12
        have hP : va_P g.1 vwCl (List.flatten [bDR g x ta o lo go tt lt mo fo ro fl9, bTown g o a pe wo tx ch jo tr dy sd f]) H := hP
        have hD : va_D A (List.flatten [bDR g x ta o lo go tt lt mo fo ro fl9, bTown g o a pe wo tx ch jo tr dy sd f]) := hD
        refine W.widen (k := 0) (n := 0) (Nat.le_of_ble_eq_true rfl) (Nat.le_of_ble_eq_true rfl) ?_
        refine W.eq (g2 := F0 m 23 ls [.int q_11]) rfl ?_
        rcases hq12 with rfl | rfl
        · skip
          refine lv_if_eq (tgt := 54) hx hb dX11_firmest_23 (by decide) (fun _ => ?_) (fun c13 => absurd (by decide) c13)
          refine ziinc3 (n' := 1) (a' := 1) (b' := 8) (lv' := fun v9 => [(2, .int v9), (0, .ref x), (1, .int x_1)]) hx hb dX11_firmest_54 hl (k := 2) rfl (by decide) (fun _ => rfl) (zaddK (i := x_2.toInt) (j := 1) rfl (by decide) i4.1 n9 (Int.le_refl _) (Int.le_refl _) (by decide)) (fun x_14 ls hx_14 hl => ?_)
          refine lv_goto (tgt := 4) hx hb dX11_firmest_57 (by decide) ?_
          have hl := lv_sub (l' := [(0, .ref x), (1, .int x_1), (2, .int x_14)]) hl [1, 2, 0] rfl
          have hP : va_P g.1 vwCl (List.flatten [bDR g x ta o lo go tt lt mo fo ro fl9, bTown g o a pe wo tx ch jo tr dy sd f]) H := hP
          have hD : va_D A (List.flatten [bDR g x ta o lo go tt lt mo fo ro fl9, bTown g o a pe wo tx ch jo tr dy sd f]) := hD
          exact ih4_6 x_1 x_14 ⟨i3.1, i3.2⟩ ⟨(Int.le_trans (by decide) hx_14.2.1), hx_14.2.2⟩ H _ ls (zmK hx_14.1 (by decide) n9 (by decide) hk4_6)  hP hD hS (lv_sub hl [0, 1, 2] rfl)
        · skip
          refine lv_if_eq (tgt := 54) hx hb dX11_firmest_23 (by decide) (fun c15 => absurd c15 (by decide)) (fun _ => ?_)
          refine lv_iload_n hx hb dX11_firmest_26 rfl (lv_at hl 1 rfl) ?_
          refine lv_iconst (v := (-1)) hx hb dX11_firmest_27 (by decide) ?_
          refine lv_icmp_eq (tgt := 52) hx hb dX11_firmest_28 (by decide) (fun cb9 => ?_) (fun cb9 => ?_)
          · skip
            have c16 : x_1.toInt = (-1) := zeq cb9 rfl (by decide)
            have n17 : x_1.toInt ≤ (-1) := Int.le_trans (Int.le_of_eq c16) (Int.le_refl _)
            refine lv_iload_n hx hb dX11_firmest_52 rfl (lv_at hl 2 rfl) ?_
            refine lv_istore_n (lv' := [(1, .int x_2), (0, .ref x), (2, .int x_2)]) hx hb dX11_firmest_53 rfl hl (by decide) rfl (fun ls hl => ?_)
            refine ziinc3 (n' := 1) (a' := 1) (b' := 8) (lv' := fun v9 => [(2, .int v9), (1, .int x_2), (0, .ref x)]) hx hb dX11_firmest_54 hl (k := 2) rfl (by decide) (fun _ => rfl) (zaddK (i := x_2.toInt) (j := 1) rfl (by decide) i4.1 n9 (Int.le_refl _) (Int.le_refl _) (by decide)) (fun x_18 ls hx_18 hl => ?_)
            refine lv_goto (tgt := 4) hx hb dX11_firmest_57 (by decide) ?_
            have hl := lv_sub (l' := [(0, .ref x), (1, .int x_2), (2, .int x_18)]) hl [2, 1, 0] rfl
            have hP : va_P g.1 vwCl (List.flatten [bDR g x ta o lo go tt lt mo fo ro fl9, bTown g o a pe wo tx ch jo tr dy sd f]) H := hP
            have hD : va_D A (List.flatten [bDR g x ta o lo go tt lt mo fo ro fl9, bTown g o a pe wo tx ch jo tr dy sd f]) := hD
            exact ih4_6 x_2 x_18 ⟨(Int.le_trans (by decide) i4.1), n9⟩ ⟨(Int.le_trans (by decide) hx_18.2.1), hx_18.2.2⟩ H _ ls (zmK hx_18.1 (by decide) n9 (by decide) hk4_6)  hP hD hS (lv_sub hl [0, 1, 2] rfl)
          · skip
            have c19 : ¬ x_1.toInt = (-1) := zne cb9 rfl (by decide)
            have n20 : 0 ≤ x_1.toInt := zN1 c19 i3.1 (by decide)
            refine lv_aload_n hx hb dX11_firmest_31 rfl (lv_at hl 0 rfl) ?_
            refine va_get (D := g.1) (ci := 9) (v := .ref o) (C := RX11) (T := TX11) (N := 10) hx hb hts izRX11 hown hK hP 0 rfl rfl 1 (by decide) (hts _ k538) (fun _ h9 => h9) rfl dX11_firmest_32 ?_
            refine va_get (D := g.1) (ci := 7) (v := .ref (a 0)) (C := RX9) (T := TX9) (N := 19) hx hb hts izRX9 hown hK hP 1 rfl rfl 8 (by decide) (hts _ k613) (fun _ h9 => h9) rfl dX11_firmest_35 ?_
            refine lv_iload_n hx hb dX11_firmest_38 rfl (lv_at hl 2 rfl) ?_
            refine va_iald hx hb hK hP 2 0 rfl rfl (zinK (a := 0) (b := 7) i4.1 n9 (by decide)) dX11_firmest_39 ?_
            refine zg (fun x_21 => ?_)
            refine lv_aload_n hx hb dX11_firmest_40 rfl (lv_at hl 0 rfl) ?_
            refine va_get (D := g.1) (ci := 9) (v := .ref o) (C := RX11) (T := TX11) (N := 10) hx hb hts izRX11 hown hK hP 0 rfl rfl 1 (by decide) (hts _ k538) (fun _ h9 => h9) rfl dX11_firmest_41 ?_
            refine va_get (D := g.1) (ci := 7) (v := .ref (a 0)) (C := RX9) (T := TX9) (N := 19) hx hb hts izRX9 hown hK hP 1 rfl rfl 8 (by decide) (hts _ k613) (fun _ h9 => h9) rfl dX11_firmest_44 ?_
            refine lv_iload_n hx hb dX11_firmest_47 rfl (lv_at hl 1 rfl) ?_
            refine va_iald hx hb hK hP 2 0 rfl rfl (zinK (a := 0) (b := 7) n20 i3.2 (by decide)) dX11_firmest_48 ?_
            refine zg (fun x_22 => ?_)
            refine lv_icmp_le (tgt := 54) hx hb dX11_firmest_49 (by decide) (fun cb9 => ?_) (fun cb9 => ?_)
            · skip
              have c23 : x_21.toInt ≤ x_22.toInt := zle cb9 rfl rfl
              refine ziinc3 (n' := 1) (a' := 1) (b' := 8) (lv' := fun v9 => [(2, .int v9), (0, .ref x), (1, .int x_1)]) hx hb dX11_firmest_54 hl (k := 2) rfl (by decide) (fun _ => rfl) (zaddK (i := x_2.toInt) (j := 1) rfl (by decide) i4.1 n9 (Int.le_refl _) (Int.le_refl _) (by decide)) (fun x_24 ls hx_24 hl => ?_)
              refine lv_goto (tgt := 4) hx hb dX11_firmest_57 (by decide) ?_
              have hl := lv_sub (l' := [(0, .ref x), (1, .int x_1), (2, .int x_24)]) hl [1, 2, 0] rfl
              have hP : va_P g.1 vwCl (List.flatten [bDR g x ta o lo go tt lt mo fo ro fl9, bTown g o a pe wo tx ch jo tr dy sd f]) H := hP
              have hD : va_D A (List.flatten [bDR g x ta o lo go tt lt mo fo ro fl9, bTown g o a pe wo tx ch jo tr dy sd f]) := hD
              exact ih4_6 x_1 x_24 ⟨(Int.le_trans (by decide) n20), i3.2⟩ ⟨(Int.le_trans (by decide) hx_24.2.1), hx_24.2.2⟩ H _ ls (zmK hx_24.1 (by decide) n9 (by decide) hk4_6)  hP hD hS (lv_sub hl [0, 1, 2] rfl)
            · skip
              have c25 : x_22.toInt < x_21.toInt := zlti (Int32.not_le.mp cb9) rfl rfl
              refine lv_iload_n hx hb dX11_firmest_52 rfl (lv_at hl 2 rfl) ?_
              refine lv_istore_n (lv' := [(1, .int x_2), (0, .ref x), (2, .int x_2)]) hx hb dX11_firmest_53 rfl hl (by decide) rfl (fun ls hl => ?_)
              refine ziinc3 (n' := 1) (a' := 1) (b' := 8) (lv' := fun v9 => [(2, .int v9), (1, .int x_2), (0, .ref x)]) hx hb dX11_firmest_54 hl (k := 2) rfl (by decide) (fun _ => rfl) (zaddK (i := x_2.toInt) (j := 1) rfl (by decide) i4.1 n9 (Int.le_refl _) (Int.le_refl _) (by decide)) (fun x_26 ls hx_26 hl => ?_)
              refine lv_goto (tgt := 4) hx hb dX11_firmest_57 (by decide) ?_
              have hl := lv_sub (l' := [(0, .ref x), (1, .int x_2), (2, .int x_26)]) hl [2, 1, 0] rfl
              have hP : va_P g.1 vwCl (List.flatten [bDR g x ta o lo go tt lt mo fo ro fl9, bTown g o a pe wo tx ch jo tr dy sd f]) H := hP
              have hD : va_D A (List.flatten [bDR g x ta o lo go tt lt mo fo ro fl9, bTown g o a pe wo tx ch jo tr dy sd f]) := hD
              exact ih4_6 x_2 x_26 ⟨(Int.le_trans (by decide) i4.1), n9⟩ ⟨(Int.le_trans (by decide) hx_26.2.1), hx_26.2.2⟩ H _ ls (zmK hx_26.1 (by decide) n9 (by decide) hk4_6)  hP hD hS (lv_sub hl [0, 1, 2] rfl)
  have hP : va_P g.1 vwCl (List.flatten [bDR g x ta o lo go tt lt mo fo ro fl9, bTown g o a pe wo tx ch jo tr dy sd f]) s.heap := hP
  have hD : va_D A (List.flatten [bDR g x ta o lo go tt lt mo fo ro fl9, bTown g o a pe wo tx ch jo tr dy sd f]) := hD
  exact LP4_5 _ (-1) 0 (by decide) (by decide) s.heap _ ls (Nat.lt_succ_self _)  hP hD hS (lv_sub hl [0, 1, 2] rfl)
set_option maxRecDepth 100000 in
set_option maxHeartbeats 4000000 in
theorem c_x_home (l : Launch) (g : zG) (x : Nat) (ta : Nat) (o : Nat) (lo : Nat) (go : Nat) (tt : Nat) (lt : Nat) (mo : Nat) (fo : Nat) (ro : Nat) (fl9 : Int32) (a : Nat → Nat) (pe : Int32) (wo : Int32) (tx : Int32) (ch : Int32) (jo : Int32) (tr : Int32) (dy : Int32) (sd : Int32) (f : Nat → Nat → Int32) (b_pe : 0 ≤ pe.toInt ∧ pe.toInt ≤ 8) (b_wo : 0 ≤ wo.toInt ∧ wo.toInt ≤ 6) (rf : zZ4 f) : zM' g l yX11_home (Cond.code yX11_home cX11_home 1 (some .int) :: zB) ({ frames := 2, cells := 0, slots := 0, locals := 43 } : Room) [.ref x] [bDR g x ta o lo go tt lt mo fo ro fl9, bTown g o a pe wo tx ch jo tr dy sd f] (fun (q : Int32) => some (.int q)) (fun (q : Int32) => True) (fun (q : Int32) => [bDR g x ta o lo go tt lt mo fo ro fl9, bTown g o a pe wo tx ch jo tr dy sd f]) := by
  refine zM'.of (cc := cX11_home) (maxL := 1) (rt := (some .int)) (by decide) rfl (Nat.le_of_ble_eq_true rfl) ?_
  intro p e s m args below meth c A ls St hr hlocks hin hK hT hA hP hD hS hl
  obtain ⟨hx, hb, hml, hown, hts⟩ := id St
  have hl : lv_has ls 1 [(0, .ref x)] := hl
  refine lv_aload_n hx hb dX11_home_0 rfl (lv_at hl 0 rfl) ?_
  refine va_get (D := g.1) (ci := 9) (v := .ref o) (C := RX11) (T := TX11) (N := 10) hx hb hts izRX11 hown hK hP 0 rfl rfl 1 (by decide) (hts _ k538) (fun _ h9 => h9) rfl dX11_home_1 ?_
  refine mcallV' (g := g) (q0 := 0) (ci := 7) (As := []) (rest := []) St hK hT hA hP hD hS hl.1 [1] [0] rfl rfl rfl (c_firstComing l g o a pe wo tx ch jo tr dy sd f b_pe b_wo rf) (cwV 0 hts (zgL (zl4 k773 k774 k775 k24) k519) rfl rfl rfl (by decide +kernel) ⟨Nat.le_of_ble_eq_true rfl, Nat.le_of_ble_eq_true rfl⟩) rfl rfl rfl rfl (Nat.le_of_ble_eq_true rfl) dX11_home_4 ⟨(Nat.le_of_ble_eq_true rfl), (Nat.le_of_ble_eq_true rfl)⟩ (fun q_1 H locs hq2 hP hD hS => ?_)
  have hP : va_P g.1 vwCl (List.flatten [bDR g x ta o lo go tt lt mo fo ro fl9, bTown g o a pe wo tx ch jo tr dy sd f]) H := hP
  have hD : va_D A (List.flatten [bDR g x ta o lo go tt lt mo fo ro fl9, bTown g o a pe wo tx ch jo tr dy sd f]) := hD
  refine W.widen (k := 0) (n := 0) (Nat.le_of_ble_eq_true rfl) (Nat.le_of_ble_eq_true rfl) ?_
  refine W.eq (g2 := F0 m 7 ls [.int q_1]) rfl ?_
  have hP : va_P g.1 vwCl (List.flatten [bDR g x ta o lo go tt lt mo fo ro fl9, bTown g o a pe wo tx ch jo tr dy sd f]) H := hP
  have hD : va_D A (List.flatten [bDR g x ta o lo go tt lt mo fo ro fl9, bTown g o a pe wo tx ch jo tr dy sd f]) := hD
  exact mret_i hx hb hr hlocks hS (Nat.le_of_ble_eq_true rfl) (Nat.le_of_ble_eq_true rfl) dX11_home_7 (q_1) rfl trivial hP hD
set_option maxRecDepth 100000 in
set_option maxHeartbeats 4000000 in
theorem c_x_chosen (l : Launch) (g : zG) (x : Nat) (ta : Nat) (o : Nat) (lo : Nat) (go : Nat) (tt : Nat) (lt : Nat) (mo : Nat) (fo : Nat) (ro : Nat) (fl9 : Int32) (a : Nat → Nat) (pe : Int32) (wo : Int32) (tx : Int32) (ch : Int32) (jo : Int32) (tr : Int32) (dy : Int32) (sd : Int32) (f : Nat → Nat → Int32) (mu : Int32) (b_pe : 0 ≤ pe.toInt ∧ pe.toInt ≤ 8) (b_wo : 0 ≤ wo.toInt ∧ wo.toInt ≤ 6) (rf : zZ4 f) : zM' g l yX11_chosen (Cond.code yX11_chosen cX11_chosen 3 (some .int) :: zB) ({ frames := 4, cells := 0, slots := 0, locals := 89 } : Room) [.ref x, .int mu] [bDR g x ta o lo go tt lt mo fo ro fl9, bTown g o a pe wo tx ch jo tr dy sd f] (fun (q : Int32) => some (.int q)) (fun (q : Int32) => True) (fun (q : Int32) => [bDR g x ta o lo go tt lt mo fo ro fl9, bTown g o a pe wo tx ch jo tr dy sd f]) := by
  refine zM'.of (cc := cX11_chosen) (maxL := 3) (rt := (some .int)) (by decide) rfl (Nat.le_of_ble_eq_true rfl) ?_
  intro p e s m args below meth c A ls St hr hlocks hin hK hT hA hP hD hS hl
  obtain ⟨hx, hb, hml, hown, hts⟩ := id St
  have hl : lv_has ls 3 [(0, .ref x), (1, .int mu)] := hl
  refine lv_aload_n hx hb dX11_chosen_0 rfl (lv_at hl 0 rfl) ?_
  refine va_get (D := g.1) (ci := 9) (v := .ref o) (C := RX11) (T := TX11) (N := 10) hx hb hts izRX11 hown hK hP 0 rfl rfl 1 (by decide) (hts _ k538) (fun _ h9 => h9) rfl dX11_chosen_1 ?_
  refine mcallV' (g := g) (q0 := 0) (ci := 7) (As := []) (rest := []) St hK hT hA hP hD hS hl.1 [1] [0] rfl rfl rfl (c_bestWorks l g o a pe wo tx ch jo tr dy sd f b_pe b_wo rf) (cwV 0 hts (zgL (zl4 k713 k714 k715 k24) k528) rfl rfl rfl (by decide +kernel) ⟨Nat.le_of_ble_eq_true rfl, Nat.le_of_ble_eq_true rfl⟩) rfl rfl rfl rfl (Nat.le_of_ble_eq_true rfl) dX11_chosen_4 ⟨(Nat.le_of_ble_eq_true rfl), (Nat.le_of_ble_eq_true rfl)⟩ (fun q_1 H locs hq2 hP hD hS => ?_)
  have hP : va_P g.1 vwCl (List.flatten [bDR g x ta o lo go tt lt mo fo ro fl9, bTown g o a pe wo tx ch jo tr dy sd f]) H := hP
  have hD : va_D A (List.flatten [bDR g x ta o lo go tt lt mo fo ro fl9, bTown g o a pe wo tx ch jo tr dy sd f]) := hD
  refine W.widen (k := 0) (n := 0) (Nat.le_of_ble_eq_true rfl) (Nat.le_of_ble_eq_true rfl) ?_
  refine W.eq (g2 := F0 m 7 ls [.int q_1]) rfl ?_
  refine lv_istore_n (lv' := [(2, .int q_1), (0, .ref x), (1, .int mu)]) hx hb dX11_chosen_7 rfl hl (by decide) rfl (fun ls hl => ?_)
  refine lv_iload_n hx hb dX11_chosen_8 rfl (lv_at hl 2 rfl) ?_
  refine lv_if_eq (tgt := 23) hx hb dX11_chosen_9 (by decide) (fun cb9 => ?_) (fun cb9 => ?_)
  · skip
    have c3 : mu.toInt = 0 := zeq cb9 rfl (by decide)
    have n4 : 0 ≤ mu.toInt := Int.le_trans (Int.le_refl _) (Int.le_of_eq c3.symm)
    have n5 : mu.toInt ≤ 0 := Int.le_trans (Int.le_of_eq c3) (Int.le_refl _)
    refine lv_iload_n hx hb dX11_chosen_23 rfl (lv_at hl 0 rfl) ?_
    have hP : va_P g.1 vwCl (List.flatten [bDR g x ta o lo go tt lt mo fo ro fl9, bTown g o a pe wo tx ch jo tr dy sd f]) H := hP
    have hD : va_D A (List.flatten [bDR g x ta o lo go tt lt mo fo ro fl9, bTown g o a pe wo tx ch jo tr dy sd f]) := hD
    exact mret_i hx hb hr hlocks hS (Nat.le_of_ble_eq_true rfl) (Nat.le_of_ble_eq_true rfl) dX11_chosen_24 (q_1) rfl trivial hP hD
  · skip
    have c6 : ¬ mu.toInt = 0 := zne cb9 rfl (by decide)
    refine lv_aload_n hx hb dX11_chosen_12 rfl (lv_at hl 1 rfl) ?_
    refine va_get (D := g.1) (ci := 9) (v := .ref o) (C := RX11) (T := TX11) (N := 10) hx hb hts izRX11 hown hK hP 0 rfl rfl 1 (by decide) (hts _ k538) (fun _ h9 => h9) rfl dX11_chosen_13 ?_
    refine lv_iload_n hx hb dX11_chosen_16 rfl (lv_at hl 0 rfl) ?_
    refine mcallV' (g := g) (q0 := 0) (ci := 7) (As := [.int q_1]) (rest := []) St hK hT hA hP hD hS hl.1 [1] [0] rfl rfl rfl (c_gainOf l g o a pe wo tx ch jo tr dy sd f q_1 b_pe b_wo rf) (cwV 1 hts (zgL (zl4 k716 k526 k527 k24) k521) rfl rfl rfl (by decide +kernel) ⟨Nat.le_of_ble_eq_true rfl, Nat.le_of_ble_eq_true rfl⟩) rfl rfl rfl rfl (Nat.le_of_ble_eq_true rfl) dX11_chosen_17 ⟨(Nat.le_of_ble_eq_true rfl), (Nat.le_of_ble_eq_true rfl)⟩ (fun q_7 H locs hq8 hP hD hS => ?_)
    have hP : va_P g.1 vwCl (List.flatten [bDR g x ta o lo go tt lt mo fo ro fl9, bTown g o a pe wo tx ch jo tr dy sd f]) H := hP
    have hD : va_D A (List.flatten [bDR g x ta o lo go tt lt mo fo ro fl9, bTown g o a pe wo tx ch jo tr dy sd f]) := hD
    refine W.widen (k := 0) (n := 0) (Nat.le_of_ble_eq_true rfl) (Nat.le_of_ble_eq_true rfl) ?_
    refine W.eq (g2 := F0 m 20 ls [.int q_7]) rfl ?_
    refine lv_goto (tgt := 24) hx hb dX11_chosen_20 (by decide) ?_
    have hP : va_P g.1 vwCl (List.flatten [bDR g x ta o lo go tt lt mo fo ro fl9, bTown g o a pe wo tx ch jo tr dy sd f]) H := hP
    have hD : va_D A (List.flatten [bDR g x ta o lo go tt lt mo fo ro fl9, bTown g o a pe wo tx ch jo tr dy sd f]) := hD
    exact mret_i hx hb hr hlocks hS (Nat.le_of_ble_eq_true rfl) (Nat.le_of_ble_eq_true rfl) dX11_chosen_24 (q_7) rfl trivial hP hD
set_option maxRecDepth 100000 in
set_option maxHeartbeats 4000000 in
theorem c_x_tell (l : Launch) (hfl : l.stackTraces = false) (g : zG) (x : Nat) (ta : Nat) (o : Nat) (lo : Nat) (go : Nat) (tt : Nat) (lt : Nat) (mo : Nat) (fo : Nat) (ro : Nat) (fl9 : Int32) (a : Nat → Nat) (pe : Int32) (wo : Int32) (tx : Int32) (ch : Int32) (jo : Int32) (tr : Int32) (dy : Int32) (sd : Int32) (f : Nat → Nat → Int32) (gr : Nat) (gz : Int32) (gn : Int32) (fr : Nat → Int32) (qT : Nat) (qL : Nat) (it : Nat) (il : Nat) (ig : Nat) (mh : Int32) (me : Int32) (mx : Int32) (fT : Nat → Option Nat) (fL : Nat → Option Nat) (PT : Nat → zTR) (PL : Nat → zLR) (pp : Int32) (b_pe : 0 ≤ pe.toInt ∧ pe.toInt ≤ 8) (b_wo : 0 ≤ wo.toInt ∧ wo.toInt ≤ 6) (rf : zZ4 f) (b_gz : 0 ≤ gz.toInt ∧ gz.toInt ≤ 60) (b_gn : 0 ≤ gn.toInt ∧ gn.toInt ≤ 59) (b_me : 0 ≤ me.toInt ∧ me.toInt ≤ 12) (b_mx : 0 ≤ mx.toInt ∧ mx.toInt ≤ 11) (hPT : zPT fT PT) (hPL : zPL fL PL) : zX' g l yX11_tell (Cond.code yX11_tell cX11_tell 2 (some .int) :: zB) ({ frames := 8, cells := 2, slots := 12, locals := 124 } : Room) [.ref x, .int pp] [bDR g x ta o lo go tt lt mo fo ro fl9, bTown g o a pe wo tx ch jo tr dy sd f, bLog g go gr gz gn fr, bMem g mo qT qL it il ig mh me mx fT fL, bPT g PT, bPL g PL] (fun u : (Nat → Nat → Int32) × Int32 × Int32 × (Nat → zTR) × (Nat → zLR) × Int32 => (fun (f2 : Nat → Nat → Int32) (me2 : Int32) (mx2 : Int32) (PT2 : Nat → zTR) (PL2 : Nat → zLR) (q : Int32) => some (.int q)) (u.1) (u.2.1) (u.2.2.1) (u.2.2.2.1) (u.2.2.2.2.1) (u.2.2.2.2.2)) (fun u : (Nat → Nat → Int32) × Int32 × Int32 × (Nat → zTR) × (Nat → zLR) × Int32 => (fun (f2 : Nat → Nat → Int32) (me2 : Int32) (mx2 : Int32) (PT2 : Nat → zTR) (PL2 : Nat → zLR) (q : Int32) => (zZ4 f2) ∧ (0 ≤ me2.toInt ∧ me2.toInt ≤ 12) ∧ (0 ≤ mx2.toInt ∧ mx2.toInt ≤ 11) ∧ (zPT fT PT2) ∧ (zPL fL PL2) ∧ (zRk PT PT2 me.toInt me2.toInt mx.toInt mx2.toInt pe.toInt wo.toInt tx.toInt)) (u.1) (u.2.1) (u.2.2.1) (u.2.2.2.1) (u.2.2.2.2.1) (u.2.2.2.2.2)) (fun u : (Nat → Nat → Int32) × Int32 × Int32 × (Nat → zTR) × (Nat → zLR) × Int32 => (fun (f2 : Nat → Nat → Int32) (me2 : Int32) (mx2 : Int32) (PT2 : Nat → zTR) (PL2 : Nat → zLR) (q : Int32) => [bDR g x ta o lo go tt lt mo fo ro fl9, bTown g o a pe wo tx ch jo tr dy sd f2, bLog g go gr gz gn fr, bMem g mo qT qL it il ig mh me2 mx2 fT fL, bPT g PT2, bPL g PL2]) (u.1) (u.2.1) (u.2.2.1) (u.2.2.2.1) (u.2.2.2.2.1) (u.2.2.2.2.2)) (fun (E : String) => fun u : (Nat → Nat → Int32) × Int32 × Int32 × (Nat → zTR) × (Nat → zLR) => (fun (f2 : Nat → Nat → Int32) (me2 : Int32) (mx2 : Int32) (PT2 : Nat → zTR) (PL2 : Nat → zLR) => (E = "java/lang/IndexOutOfBoundsException" ∨ E = "java/lang/IllegalStateException") ∧ (zZ4 f2) ∧ (0 ≤ me2.toInt ∧ me2.toInt ≤ 12) ∧ (0 ≤ mx2.toInt ∧ mx2.toInt ≤ 11) ∧ (zPT fT PT2) ∧ (zPL fL PL2) ∧ (zRk PT PT2 me.toInt me2.toInt mx.toInt mx2.toInt pe.toInt wo.toInt tx.toInt)) (u.1) (u.2.1) (u.2.2.1) (u.2.2.2.1) (u.2.2.2.2)) (fun u : (Nat → Nat → Int32) × Int32 × Int32 × (Nat → zTR) × (Nat → zLR) => (fun (f2 : Nat → Nat → Int32) (me2 : Int32) (mx2 : Int32) (PT2 : Nat → zTR) (PL2 : Nat → zLR) => [bDR g x ta o lo go tt lt mo fo ro fl9, bTown g o a pe wo tx ch jo tr dy sd f2, bLog g go gr gz gn fr, bMem g mo qT qL it il ig mh me2 mx2 fT fL, bPT g PT2, bPL g PL2]) (u.1) (u.2.1) (u.2.2.1) (u.2.2.2.1) (u.2.2.2.2)) := by
  refine zX'.of (cc := cX11_tell) (maxL := 2) (rt := (some .int)) (by decide) rfl (Nat.le_of_ble_eq_true rfl) ?_
  intro p e s m args below meth c A ls St hr hlocks htab hin hK hT hA hP hD hS hl
  obtain ⟨hx, hb, hml, hown, hts⟩ := id St
  have hl : lv_has ls 2 [(0, .ref x), (1, .int pp)] := hl
  refine lv_aload_n hx hb dX11_tell_0 rfl (lv_at hl 0 rfl) ?_
  refine lv_iload_n hx hb dX11_tell_1 rfl (lv_at hl 1 rfl) ?_
  refine xcallV' (g := g) (q0 := 0) (ci := 9) (As := [.int pp]) (rest := []) St hK hT hA hP hD hS hl.1 [0, 1] [2, 3, 4, 5] rfl rfl rfl (c_x_needPerson l hfl g x ta o lo go tt lt mo fo ro fl9 a pe wo tx ch jo tr dy sd f pp b_pe b_wo rf) (cwV 1 hts (zgL (zl4 k618 k619 k620 k621) k607) rfl rfl rfl (by decide +kernel) ⟨Nat.le_of_ble_eq_true rfl, Nat.le_of_ble_eq_true rfl⟩) rfl rfl rfl rfl (Nat.le_of_ble_eq_true rfl) dX11_tell_2 ⟨(Nat.le_of_ble_eq_true rfl), (Nat.le_of_ble_eq_true rfl)⟩ (fun E ce q9 u9 H locs hpx hP hD hS hce hcv hcl => ?_) (fun _u H locs hq1 hP hD hS => ?_)
  · skip
    have hpx : (E = "java/lang/IndexOutOfBoundsException") := hpx
    have hP : va_P g.1 vwCl (List.flatten [bLog g go gr gz gn fr, bMem g mo qT qL it il ig mh me mx fT fL, bPT g PT, bPL g PL, bDR g x ta o lo go tt lt mo fo ro fl9, bTown g o a pe wo tx ch jo tr dy sd f]) H := hP
    have hD : va_D A (List.flatten [bLog g go gr gz gn fr, bMem g mo qT qL it il ig mh me mx fT fL, bPT g PT, bPL g PL, bDR g x ta o lo go tt lt mo fo ro fl9, bTown g o a pe wo tx ch jo tr dy sd f]) := hD
    have hP : va_P g.1 vwCl (List.flatten [bLog g go gr gz gn fr, bMem g mo qT qL it il ig mh me mx fT fL, bPT g PT, bPL g PL, bDR g x ta o lo go tt lt mo fo ro fl9, bTown g o a pe wo tx ch jo tr dy sd f]) H := hP
    have hD : va_D A (List.flatten [bLog g go gr gz gn fr, bMem g mo qT qL it il ig mh me mx fT fL, bPT g PT, bPL g PL, bDR g x ta o lo go tt lt mo fo ro fl9, bTown g o a pe wo tx ch jo tr dy sd f]) := hD
    obtain ⟨hP, hD⟩ := zord (g := g) (Bs' := [bLog g go gr gz gn fr, bMem g mo qT qL it il ig mh me mx fT fL, bDR g x ta o lo go tt lt mo fo ro fl9, bTown g o a pe wo tx ch jo tr dy sd f, bPT g PT, bPL g PL]) [0, 1, 4, 5, 2, 3] rfl rfl hP hD
    have hP : va_P g.1 vwCl (List.flatten [bLog g go gr gz gn fr, bMem g mo qT qL it il ig mh me mx fT fL, bDR g x ta o lo go tt lt mo fo ro fl9, bTown g o a pe wo tx ch jo tr dy sd f, bPT g PT, bPL g PL]) H := hP
    have hD : va_D A (List.flatten [bLog g go gr gz gn fr, bMem g mo qT qL it il ig mh me mx fT fL, bDR g x ta o lo go tt lt mo fo ro fl9, bTown g o a pe wo tx ch jo tr dy sd f, bPT g PT, bPL g PL]) := hD
    obtain ⟨hP, hD⟩ := zord (g := g) (Bs' := [bDR g x ta o lo go tt lt mo fo ro fl9, bTown g o a pe wo tx ch jo tr dy sd f, bLog g go gr gz gn fr, bMem g mo qT qL it il ig mh me mx fT fL, bPT g PT, bPL g PL]) [2, 3, 0, 1, 4, 5] rfl rfl hP hD
    exact zout htab hlocks hS (Nat.le_of_ble_eq_true rfl) (Nat.le_of_ble_eq_true rfl) hce hcv hcl (f, me, mx, PT, PL) (show (E = "java/lang/IndexOutOfBoundsException" ∨ E = "java/lang/IllegalStateException") ∧ (zZ4 f) ∧ (0 ≤ me.toInt ∧ me.toInt ≤ 12) ∧ (0 ≤ mx.toInt ∧ mx.toInt ≤ 11) ∧ (zPT fT PT) ∧ (zPL fL PL) ∧ (zRk PT PT me.toInt me.toInt mx.toInt mx.toInt pe.toInt wo.toInt tx.toInt) from ⟨(Or.inl hpx), (show zZ4 f from rf), (show 0 ≤ me.toInt ∧ me.toInt ≤ 12 from b_me), (show 0 ≤ mx.toInt ∧ mx.toInt ≤ 11 from b_mx), (show zPT fT PT from hPT), (show zPL fL PL from hPL), (show zRk PT PT me.toInt me.toInt mx.toInt mx.toInt pe.toInt wo.toInt tx.toInt from zRk_0)⟩) hP hD
  · skip
    replace hq1 : (0 ≤ pp.toInt ∧ pp.toInt ≤ 7) ∧ (pp.toInt < pe.toInt) := hq1
    have hP : va_P g.1 vwCl (List.flatten [bLog g go gr gz gn fr, bMem g mo qT qL it il ig mh me mx fT fL, bPT g PT, bPL g PL, bDR g x ta o lo go tt lt mo fo ro fl9, bTown g o a pe wo tx ch jo tr dy sd f]) H := hP
    have hD : va_D A (List.flatten [bLog g go gr gz gn fr, bMem g mo qT qL it il ig mh me mx fT fL, bPT g PT, bPL g PL, bDR g x ta o lo go tt lt mo fo ro fl9, bTown g o a pe wo tx ch jo tr dy sd f]) := hD
    refine W.widen (k := 1) (n := 6) (Nat.le_of_ble_eq_true rfl) (Nat.le_of_ble_eq_true rfl) ?_
    refine W.eq (g2 := F0 m 5 ls []) rfl ?_
    have hP : va_P g.1 vwCl (List.flatten [bLog g go gr gz gn fr, bMem g mo qT qL it il ig mh me mx fT fL, bPT g PT, bPL g PL, bDR g x ta o lo go tt lt mo fo ro fl9, bTown g o a pe wo tx ch jo tr dy sd f]) H := hP
    have hD : va_D A (List.flatten [bLog g go gr gz gn fr, bMem g mo qT qL it il ig mh me mx fT fL, bPT g PT, bPL g PL, bDR g x ta o lo go tt lt mo fo ro fl9, bTown g o a pe wo tx ch jo tr dy sd f]) := hD
    obtain ⟨hP, hD⟩ := zord (g := g) (Bs' := [bLog g go gr gz gn fr, bMem g mo qT qL it il ig mh me mx fT fL, bDR g x ta o lo go tt lt mo fo ro fl9, bTown g o a pe wo tx ch jo tr dy sd f, bPT g PT, bPL g PL]) [0, 1, 4, 5, 2, 3] rfl rfl hP hD
    obtain ⟨hq1_0, hq1_1⟩ := hq1
    refine lv_aload_n hx hb dX11_tell_5 rfl (lv_at hl 0 rfl) ?_
    refine lv_iload_n hx hb dX11_tell_6 rfl (lv_at hl 1 rfl) ?_
    refine xcallV' (g := g) (q0 := 0) (ci := 9) (As := [.int pp]) (rest := []) St hK hT hA hP hD hS hl.1 [2, 3] [0, 1, 4, 5] rfl rfl rfl (c_x_needHere l hfl g x ta o lo go tt lt mo fo ro fl9 a pe wo tx ch jo tr dy sd f pp b_pe b_wo rf hq1_0) (cwV 1 hts (zgL (zl4 k659 k660 k661 k621) k654) rfl rfl rfl (by decide +kernel) ⟨Nat.le_of_ble_eq_true rfl, Nat.le_of_ble_eq_true rfl⟩) rfl rfl rfl rfl (Nat.le_of_ble_eq_true rfl) dX11_tell_7 ⟨(Nat.le_of_ble_eq_true rfl), (Nat.le_of_ble_eq_true rfl)⟩ (fun E ce q9 u9 H locs hpx hP hD hS hce hcv hcl => ?_) (fun _u H locs hq2 hP hD hS => ?_)
    · skip
      have hpx : (E = "java/lang/IllegalStateException") := hpx
      have hP : va_P g.1 vwCl (List.flatten [bLog g go gr gz gn fr, bMem g mo qT qL it il ig mh me mx fT fL, bPT g PT, bPL g PL, bDR g x ta o lo go tt lt mo fo ro fl9, bTown g o a pe wo tx ch jo tr dy sd f]) H := hP
      have hD : va_D A (List.flatten [bLog g go gr gz gn fr, bMem g mo qT qL it il ig mh me mx fT fL, bPT g PT, bPL g PL, bDR g x ta o lo go tt lt mo fo ro fl9, bTown g o a pe wo tx ch jo tr dy sd f]) := hD
      have hP : va_P g.1 vwCl (List.flatten [bLog g go gr gz gn fr, bMem g mo qT qL it il ig mh me mx fT fL, bPT g PT, bPL g PL, bDR g x ta o lo go tt lt mo fo ro fl9, bTown g o a pe wo tx ch jo tr dy sd f]) H := hP
      have hD : va_D A (List.flatten [bLog g go gr gz gn fr, bMem g mo qT qL it il ig mh me mx fT fL, bPT g PT, bPL g PL, bDR g x ta o lo go tt lt mo fo ro fl9, bTown g o a pe wo tx ch jo tr dy sd f]) := hD
      obtain ⟨hP, hD⟩ := zord (g := g) (Bs' := [bLog g go gr gz gn fr, bMem g mo qT qL it il ig mh me mx fT fL, bDR g x ta o lo go tt lt mo fo ro fl9, bTown g o a pe wo tx ch jo tr dy sd f, bPT g PT, bPL g PL]) [0, 1, 4, 5, 2, 3] rfl rfl hP hD
      have hP : va_P g.1 vwCl (List.flatten [bLog g go gr gz gn fr, bMem g mo qT qL it il ig mh me mx fT fL, bDR g x ta o lo go tt lt mo fo ro fl9, bTown g o a pe wo tx ch jo tr dy sd f, bPT g PT, bPL g PL]) H := hP
      have hD : va_D A (List.flatten [bLog g go gr gz gn fr, bMem g mo qT qL it il ig mh me mx fT fL, bDR g x ta o lo go tt lt mo fo ro fl9, bTown g o a pe wo tx ch jo tr dy sd f, bPT g PT, bPL g PL]) := hD
      obtain ⟨hP, hD⟩ := zord (g := g) (Bs' := [bDR g x ta o lo go tt lt mo fo ro fl9, bTown g o a pe wo tx ch jo tr dy sd f, bLog g go gr gz gn fr, bMem g mo qT qL it il ig mh me mx fT fL, bPT g PT, bPL g PL]) [2, 3, 0, 1, 4, 5] rfl rfl hP hD
      exact zout htab hlocks hS (Nat.le_of_ble_eq_true rfl) (Nat.le_of_ble_eq_true rfl) hce hcv hcl (f, me, mx, PT, PL) (show (E = "java/lang/IndexOutOfBoundsException" ∨ E = "java/lang/IllegalStateException") ∧ (zZ4 f) ∧ (0 ≤ me.toInt ∧ me.toInt ≤ 12) ∧ (0 ≤ mx.toInt ∧ mx.toInt ≤ 11) ∧ (zPT fT PT) ∧ (zPL fL PL) ∧ (zRk PT PT me.toInt me.toInt mx.toInt mx.toInt pe.toInt wo.toInt tx.toInt) from ⟨(Or.inr hpx), (show zZ4 f from rf), (show 0 ≤ me.toInt ∧ me.toInt ≤ 12 from b_me), (show 0 ≤ mx.toInt ∧ mx.toInt ≤ 11 from b_mx), (show zPT fT PT from hPT), (show zPL fL PL from hPL), (show zRk PT PT me.toInt me.toInt mx.toInt mx.toInt pe.toInt wo.toInt tx.toInt from zRk_0)⟩) hP hD
    · skip
      have hP : va_P g.1 vwCl (List.flatten [bLog g go gr gz gn fr, bMem g mo qT qL it il ig mh me mx fT fL, bPT g PT, bPL g PL, bDR g x ta o lo go tt lt mo fo ro fl9, bTown g o a pe wo tx ch jo tr dy sd f]) H := hP
      have hD : va_D A (List.flatten [bLog g go gr gz gn fr, bMem g mo qT qL it il ig mh me mx fT fL, bPT g PT, bPL g PL, bDR g x ta o lo go tt lt mo fo ro fl9, bTown g o a pe wo tx ch jo tr dy sd f]) := hD
      refine W.widen (k := 2) (n := 12) (Nat.le_of_ble_eq_true rfl) (Nat.le_of_ble_eq_true rfl) ?_
      refine W.eq (g2 := F0 m 10 ls []) rfl ?_
      have hP : va_P g.1 vwCl (List.flatten [bLog g go gr gz gn fr, bMem g mo qT qL it il ig mh me mx fT fL, bPT g PT, bPL g PL, bDR g x ta o lo go tt lt mo fo ro fl9, bTown g o a pe wo tx ch jo tr dy sd f]) H := hP
      have hD : va_D A (List.flatten [bLog g go gr gz gn fr, bMem g mo qT qL it il ig mh me mx fT fL, bPT g PT, bPL g PL, bDR g x ta o lo go tt lt mo fo ro fl9, bTown g o a pe wo tx ch jo tr dy sd f]) := hD
      obtain ⟨hP, hD⟩ := zord (g := g) (Bs' := [bLog g go gr gz gn fr, bMem g mo qT qL it il ig mh me mx fT fL, bDR g x ta o lo go tt lt mo fo ro fl9, bTown g o a pe wo tx ch jo tr dy sd f, bPT g PT, bPL g PL]) [0, 1, 4, 5, 2, 3] rfl rfl hP hD
      refine lv_aload_n hx hb dX11_tell_10 rfl (lv_at hl 0 rfl) ?_
      refine va_get (D := g.1) (ci := 9) (v := .ref mo) (C := RX11) (T := TX11) (N := 10) hx hb hts izRX11 hown hK hP 5 rfl rfl 6 (by decide) (hts _ k551) (fun _ h9 => h9) rfl dX11_tell_11 ?_
      refine lv_aload_n hx hb dX11_tell_14 rfl (lv_at hl 0 rfl) ?_
      refine va_get (D := g.1) (ci := 9) (v := .ref o) (C := RX11) (T := TX11) (N := 10) hx hb hts izRX11 hown hK hP 5 rfl rfl 1 (by decide) (hts _ k538) (fun _ h9 => h9) rfl dX11_tell_15 ?_
      refine lv_aload_n hx hb dX11_tell_18 rfl (lv_at hl 0 rfl) ?_
      refine va_get (D := g.1) (ci := 9) (v := .ref go) (C := RX11) (T := TX11) (N := 10) hx hb hts izRX11 hown hK hP 5 rfl rfl 3 (by decide) (hts _ k542) (fun _ h9 => h9) rfl dX11_tell_19 ?_
      refine mcallV' (g := g) (q0 := 0) (ci := 4) (As := [.ref o, .ref go]) (rest := []) St hK hT hA hP hD hS hl.1 [1, 3, 0, 4, 5] [2] rfl rfl rfl (c_m_remember l g mo qT qL it il ig mh me mx fT fL o a pe wo tx ch jo tr dy sd f go gr gz gn fr PT PL b_me b_mx b_pe b_wo rf b_gz b_gn hPT hPL) (cwV 2 hts (zgL (zl4 k662 k663 k664 k378) k367) rfl rfl rfl (by decide +kernel) ⟨Nat.le_of_ble_eq_true rfl, Nat.le_of_ble_eq_true rfl⟩) rfl rfl rfl rfl (Nat.le_of_ble_eq_true rfl) dX11_tell_22 ⟨(Nat.le_of_ble_eq_true rfl), (Nat.le_of_ble_eq_true rfl)⟩ (fun u_ H locs hq7 hP hD hS => ?_)
      obtain ⟨me2_3, mx2_4, PT2_5, PL2_6⟩ := u_
      replace hq7 : (0 ≤ me2_3.toInt ∧ me2_3.toInt ≤ 12) ∧ (0 ≤ mx2_4.toInt ∧ mx2_4.toInt ≤ 11) ∧ (zPT fT PT2_5) ∧ (zPL fL PL2_6) ∧ (me2_3.toInt = min (me.toInt + 1) 12) ∧ (mx2_4.toInt = (mx.toInt + 1) % 12) ∧ (zPk PT PT2_5 mx.toInt.toNat pe.toInt wo.toInt tx.toInt) := hq7
      have hP : va_P g.1 vwCl (List.flatten [bDR g x ta o lo go tt lt mo fo ro fl9, bMem g mo qT qL it il ig mh me2_3 mx2_4 fT fL, bTown g o a pe wo tx ch jo tr dy sd f, bLog g go gr gz gn fr, bPT g PT2_5, bPL g PL2_6]) H := hP
      have hD : va_D A (List.flatten [bDR g x ta o lo go tt lt mo fo ro fl9, bMem g mo qT qL it il ig mh me2_3 mx2_4 fT fL, bTown g o a pe wo tx ch jo tr dy sd f, bLog g go gr gz gn fr, bPT g PT2_5, bPL g PL2_6]) := hD
      refine W.widen (k := 2) (n := 12) (Nat.le_of_ble_eq_true rfl) (Nat.le_of_ble_eq_true rfl) ?_
      refine W.eq (g2 := F0 m 25 ls []) rfl ?_
      obtain ⟨hq7_0, hq7_1, hq7_2, hq7_3, hq7_4, hq7_5, hq7_6⟩ := hq7
      refine lv_aload_n hx hb dX11_tell_25 rfl (lv_at hl 0 rfl) ?_
      refine va_get (D := g.1) (ci := 9) (v := .ref o) (C := RX11) (T := TX11) (N := 10) hx hb hts izRX11 hown hK hP 0 rfl rfl 1 (by decide) (hts _ k538) (fun _ h9 => h9) rfl dX11_tell_26 ?_
      refine lv_iload_n hx hb dX11_tell_29 rfl (lv_at hl 1 rfl) ?_
      refine lv_bipush (v := 20) hx hb dX11_tell_30 (by decide) ?_
      refine mcallV' (g := g) (q0 := 0) (ci := 7) (As := [.int pp, .int 20]) (rest := []) St hK hT hA hP hD hS hl.1 [2] [0, 1, 3, 4, 5] rfl rfl rfl (c_raise l g o a pe wo tx ch jo tr dy sd f pp 20 rf hq1_0) (cwV 2 hts (zgL (zl4 k665 k132 k133 k24) k47) rfl rfl rfl (by decide +kernel) ⟨Nat.le_of_ble_eq_true rfl, Nat.le_of_ble_eq_true rfl⟩) rfl rfl rfl rfl (Nat.le_of_ble_eq_true rfl) dX11_tell_32 ⟨(Nat.le_of_ble_eq_true rfl), (Nat.le_of_ble_eq_true rfl)⟩ (fun f2_8 H locs hq9 hP hD hS => ?_)
      replace hq9 : (zZ4 f2_8) := hq9
      have hP : va_P g.1 vwCl (List.flatten [bDR g x ta o lo go tt lt mo fo ro fl9, bMem g mo qT qL it il ig mh me2_3 mx2_4 fT fL, bLog g go gr gz gn fr, bPT g PT2_5, bPL g PL2_6, bTown g o a pe wo tx ch jo tr dy sd f2_8]) H := hP
      have hD : va_D A (List.flatten [bDR g x ta o lo go tt lt mo fo ro fl9, bMem g mo qT qL it il ig mh me2_3 mx2_4 fT fL, bLog g go gr gz gn fr, bPT g PT2_5, bPL g PL2_6, bTown g o a pe wo tx ch jo tr dy sd f2_8]) := hD
      refine W.widen (k := 2) (n := 12) (Nat.le_of_ble_eq_true rfl) (Nat.le_of_ble_eq_true rfl) ?_
      refine W.eq (g2 := F0 m 35 ls []) rfl ?_
      have hP : va_P g.1 vwCl (List.flatten [bDR g x ta o lo go tt lt mo fo ro fl9, bMem g mo qT qL it il ig mh me2_3 mx2_4 fT fL, bLog g go gr gz gn fr, bPT g PT2_5, bPL g PL2_6, bTown g o a pe wo tx ch jo tr dy sd f2_8]) H := hP
      have hD : va_D A (List.flatten [bDR g x ta o lo go tt lt mo fo ro fl9, bMem g mo qT qL it il ig mh me2_3 mx2_4 fT fL, bLog g go gr gz gn fr, bPT g PT2_5, bPL g PL2_6, bTown g o a pe wo tx ch jo tr dy sd f2_8]) := hD
      obtain ⟨hP, hD⟩ := zord (g := g) (Bs' := [bDR g x ta o lo go tt lt mo fo ro fl9, bMem g mo qT qL it il ig mh me2_3 mx2_4 fT fL, bLog g go gr gz gn fr, bTown g o a pe wo tx ch jo tr dy sd f2_8, bPT g PT2_5, bPL g PL2_6]) [0, 1, 2, 5, 3, 4] rfl rfl hP hD
      have rf2_8 := hq9; clear hq9
      refine lv_aload_n hx hb dX11_tell_35 rfl (lv_at hl 0 rfl) ?_
      refine va_get (D := g.1) (ci := 9) (v := .ref o) (C := RX11) (T := TX11) (N := 10) hx hb hts izRX11 hown hK hP 0 rfl rfl 1 (by decide) (hts _ k538) (fun _ h9 => h9) rfl dX11_tell_36 ?_
      refine va_get (D := g.1) (ci := 7) (v := .ref (a 0)) (C := RX9) (T := TX9) (N := 19) hx hb hts izRX9 hown hK hP 6 rfl rfl 8 (by decide) (hts _ k613) (fun _ h9 => h9) rfl dX11_tell_39 ?_
      refine lv_iload_n hx hb dX11_tell_42 rfl (lv_at hl 1 rfl) ?_
      refine va_iald hx hb hK hP 7 0 rfl rfl (zinK (a := 0) (b := 7) hq1_0.1 hq1_0.2 (by decide)) dX11_tell_43 ?_
      refine zg (fun x_10 => ?_)
      have hP : va_P g.1 vwCl (List.flatten [bDR g x ta o lo go tt lt mo fo ro fl9, bMem g mo qT qL it il ig mh me2_3 mx2_4 fT fL, bLog g go gr gz gn fr, bTown g o a pe wo tx ch jo tr dy sd f2_8, bPT g PT2_5, bPL g PL2_6]) H := hP
      have hD : va_D A (List.flatten [bDR g x ta o lo go tt lt mo fo ro fl9, bMem g mo qT qL it il ig mh me2_3 mx2_4 fT fL, bLog g go gr gz gn fr, bTown g o a pe wo tx ch jo tr dy sd f2_8, bPT g PT2_5, bPL g PL2_6]) := hD
      obtain ⟨hP, hD⟩ := zord (g := g) (Bs' := [bDR g x ta o lo go tt lt mo fo ro fl9, bTown g o a pe wo tx ch jo tr dy sd f2_8, bLog g go gr gz gn fr, bMem g mo qT qL it il ig mh me2_3 mx2_4 fT fL, bPT g PT2_5, bPL g PL2_6]) [0, 3, 2, 1, 4, 5] rfl rfl hP hD
      exact zret_i hx hb hr hlocks hS (Nat.le_of_ble_eq_true rfl) (Nat.le_of_ble_eq_true rfl) dX11_tell_44 (f2_8, me2_3, mx2_4, PT2_5, PL2_6, x_10) rfl (show (zZ4 f2_8) ∧ (0 ≤ me2_3.toInt ∧ me2_3.toInt ≤ 12) ∧ (0 ≤ mx2_4.toInt ∧ mx2_4.toInt ≤ 11) ∧ (zPT fT PT2_5) ∧ (zPL fL PL2_6) ∧ (zRk PT PT2_5 me.toInt me2_3.toInt mx.toInt mx2_4.toInt pe.toInt wo.toInt tx.toInt) from ⟨rf2_8, hq7_0, hq7_1, hq7_2, hq7_3, (Or.inr ⟨hq7_4, hq7_5, hq7_6⟩)⟩) hP hD
set_option maxRecDepth 100000 in
set_option maxHeartbeats 4000000 in
theorem c_x_tie (l : Launch) (hfl : l.stackTraces = false) (g : zG) (x : Nat) (ta : Nat) (o : Nat) (lo : Nat) (go : Nat) (tt : Nat) (lt : Nat) (mo : Nat) (fo : Nat) (ro : Nat) (fl9 : Int32) (a : Nat → Nat) (pe : Int32) (wo : Int32) (tx : Int32) (ch : Int32) (jo : Int32) (tr : Int32) (dy : Int32) (sd : Int32) (f : Nat → Nat → Int32) (gr : Nat) (gz : Int32) (gn : Int32) (fr : Nat → Int32) (qT : Nat) (qL : Nat) (it : Nat) (il : Nat) (ig : Nat) (mh : Int32) (me : Int32) (mx : Int32) (fT : Nat → Option Nat) (fL : Nat → Option Nat) (PT : Nat → zTR) (PL : Nat → zLR) (pp : Int32) (oo : Int32) (n : Int32) (b_pe : 0 ≤ pe.toInt ∧ pe.toInt ≤ 8) (b_wo : 0 ≤ wo.toInt ∧ wo.toInt ≤ 6) (rf : zZ4 f) (b_gz : 0 ≤ gz.toInt ∧ gz.toInt ≤ 60) (b_gn : 0 ≤ gn.toInt ∧ gn.toInt ≤ 59) (b_me : 0 ≤ me.toInt ∧ me.toInt ≤ 12) (b_mx : 0 ≤ mx.toInt ∧ mx.toInt ≤ 11) (hPT : zPT fT PT) (hPL : zPL fL PL) : zX' g l yX11_tie (Cond.code yX11_tie cX11_tie 5 (some .int) :: zB) ({ frames := 8, cells := 4, slots := 24, locals := 125 } : Room) [.ref x, .int pp, .int oo, .int n] [bDR g x ta o lo go tt lt mo fo ro fl9, bTown g o a pe wo tx ch jo tr dy sd f, bLog g go gr gz gn fr, bMem g mo qT qL it il ig mh me mx fT fL, bPT g PT, bPL g PL] (fun u : (Nat → Nat → Int32) × Int32 × Int32 × (Nat → zTR) × (Nat → zLR) × Int32 => (fun (f2 : Nat → Nat → Int32) (me2 : Int32) (mx2 : Int32) (PT2 : Nat → zTR) (PL2 : Nat → zLR) (q : Int32) => some (.int q)) (u.1) (u.2.1) (u.2.2.1) (u.2.2.2.1) (u.2.2.2.2.1) (u.2.2.2.2.2)) (fun u : (Nat → Nat → Int32) × Int32 × Int32 × (Nat → zTR) × (Nat → zLR) × Int32 => (fun (f2 : Nat → Nat → Int32) (me2 : Int32) (mx2 : Int32) (PT2 : Nat → zTR) (PL2 : Nat → zLR) (q : Int32) => (zZ4 f2) ∧ (0 ≤ me2.toInt ∧ me2.toInt ≤ 12) ∧ (0 ≤ mx2.toInt ∧ mx2.toInt ≤ 11) ∧ (zPT fT PT2) ∧ (zPL fL PL2) ∧ (zRk PT PT2 me.toInt me2.toInt mx.toInt mx2.toInt pe.toInt wo.toInt tx.toInt)) (u.1) (u.2.1) (u.2.2.1) (u.2.2.2.1) (u.2.2.2.2.1) (u.2.2.2.2.2)) (fun u : (Nat → Nat → Int32) × Int32 × Int32 × (Nat → zTR) × (Nat → zLR) × Int32 => (fun (f2 : Nat → Nat → Int32) (me2 : Int32) (mx2 : Int32) (PT2 : Nat → zTR) (PL2 : Nat → zLR) (q : Int32) => [bDR g x ta o lo go tt lt mo fo ro fl9, bTown g o a pe wo tx ch jo tr dy sd f2, bLog g go gr gz gn fr, bMem g mo qT qL it il ig mh me2 mx2 fT fL, bPT g PT2, bPL g PL2]) (u.1) (u.2.1) (u.2.2.1) (u.2.2.2.1) (u.2.2.2.2.1) (u.2.2.2.2.2)) (fun (E : String) => fun u : (Nat → Nat → Int32) × Int32 × Int32 × (Nat → zTR) × (Nat → zLR) => (fun (f2 : Nat → Nat → Int32) (me2 : Int32) (mx2 : Int32) (PT2 : Nat → zTR) (PL2 : Nat → zLR) => (E = "java/lang/IndexOutOfBoundsException" ∨ E = "java/lang/IllegalArgumentException") ∧ (zZ4 f2) ∧ (0 ≤ me2.toInt ∧ me2.toInt ≤ 12) ∧ (0 ≤ mx2.toInt ∧ mx2.toInt ≤ 11) ∧ (zPT fT PT2) ∧ (zPL fL PL2) ∧ (zRk PT PT2 me.toInt me2.toInt mx.toInt mx2.toInt pe.toInt wo.toInt tx.toInt)) (u.1) (u.2.1) (u.2.2.1) (u.2.2.2.1) (u.2.2.2.2)) (fun u : (Nat → Nat → Int32) × Int32 × Int32 × (Nat → zTR) × (Nat → zLR) => (fun (f2 : Nat → Nat → Int32) (me2 : Int32) (mx2 : Int32) (PT2 : Nat → zTR) (PL2 : Nat → zLR) => [bDR g x ta o lo go tt lt mo fo ro fl9, bTown g o a pe wo tx ch jo tr dy sd f2, bLog g go gr gz gn fr, bMem g mo qT qL it il ig mh me2 mx2 fT fL, bPT g PT2, bPL g PL2]) (u.1) (u.2.1) (u.2.2.1) (u.2.2.2.1) (u.2.2.2.2)) := by
  refine zX'.of (cc := cX11_tie) (maxL := 5) (rt := (some .int)) (by decide) rfl (Nat.le_of_ble_eq_true rfl) ?_
  intro p e s m args below meth c A ls St hr hlocks htab hin hK hT hA hP hD hS hl
  obtain ⟨hx, hb, hml, hown, hts⟩ := id St
  have hl : lv_has ls 5 [(0, .ref x), (1, .int pp), (2, .int oo), (3, .int n)] := hl
  refine lv_aload_n hx hb dX11_tie_0 rfl (lv_at hl 0 rfl) ?_
  refine lv_iload_n hx hb dX11_tie_1 rfl (lv_at hl 1 rfl) ?_
  refine lv_iload_n hx hb dX11_tie_2 rfl (lv_at hl 2 rfl) ?_
  refine xcallV' (g := g) (q0 := 0) (ci := 9) (As := [.int pp, .int oo]) (rest := []) St hK hT hA hP hD hS hl.1 [0, 1] [2, 3, 4, 5] rfl rfl rfl (c_x_needTwo l hfl g x ta o lo go tt lt mo fo ro fl9 a pe wo tx ch jo tr dy sd f pp oo b_pe b_wo rf) (cwV 2 hts (zgL (zl4 k635 k636 k637 k621) k633) rfl rfl rfl (by decide +kernel) ⟨Nat.le_of_ble_eq_true rfl, Nat.le_of_ble_eq_true rfl⟩) rfl rfl rfl rfl (Nat.le_of_ble_eq_true rfl) dX11_tie_3 ⟨(Nat.le_of_ble_eq_true rfl), (Nat.le_of_ble_eq_true rfl)⟩ (fun E ce q9 u9 H locs hpx hP hD hS hce hcv hcl => ?_) (fun _u H locs hq1 hP hD hS => ?_)
  · skip
    have hpx : (E = "java/lang/IndexOutOfBoundsException" ∨ E = "java/lang/IllegalArgumentException") := hpx
    have hP : va_P g.1 vwCl (List.flatten [bLog g go gr gz gn fr, bMem g mo qT qL it il ig mh me mx fT fL, bPT g PT, bPL g PL, bDR g x ta o lo go tt lt mo fo ro fl9, bTown g o a pe wo tx ch jo tr dy sd f]) H := hP
    have hD : va_D A (List.flatten [bLog g go gr gz gn fr, bMem g mo qT qL it il ig mh me mx fT fL, bPT g PT, bPL g PL, bDR g x ta o lo go tt lt mo fo ro fl9, bTown g o a pe wo tx ch jo tr dy sd f]) := hD
    have hP : va_P g.1 vwCl (List.flatten [bLog g go gr gz gn fr, bMem g mo qT qL it il ig mh me mx fT fL, bPT g PT, bPL g PL, bDR g x ta o lo go tt lt mo fo ro fl9, bTown g o a pe wo tx ch jo tr dy sd f]) H := hP
    have hD : va_D A (List.flatten [bLog g go gr gz gn fr, bMem g mo qT qL it il ig mh me mx fT fL, bPT g PT, bPL g PL, bDR g x ta o lo go tt lt mo fo ro fl9, bTown g o a pe wo tx ch jo tr dy sd f]) := hD
    obtain ⟨hP, hD⟩ := zord (g := g) (Bs' := [bLog g go gr gz gn fr, bMem g mo qT qL it il ig mh me mx fT fL, bDR g x ta o lo go tt lt mo fo ro fl9, bTown g o a pe wo tx ch jo tr dy sd f, bPT g PT, bPL g PL]) [0, 1, 4, 5, 2, 3] rfl rfl hP hD
    have hP : va_P g.1 vwCl (List.flatten [bLog g go gr gz gn fr, bMem g mo qT qL it il ig mh me mx fT fL, bDR g x ta o lo go tt lt mo fo ro fl9, bTown g o a pe wo tx ch jo tr dy sd f, bPT g PT, bPL g PL]) H := hP
    have hD : va_D A (List.flatten [bLog g go gr gz gn fr, bMem g mo qT qL it il ig mh me mx fT fL, bDR g x ta o lo go tt lt mo fo ro fl9, bTown g o a pe wo tx ch jo tr dy sd f, bPT g PT, bPL g PL]) := hD
    obtain ⟨hP, hD⟩ := zord (g := g) (Bs' := [bDR g x ta o lo go tt lt mo fo ro fl9, bTown g o a pe wo tx ch jo tr dy sd f, bLog g go gr gz gn fr, bMem g mo qT qL it il ig mh me mx fT fL, bPT g PT, bPL g PL]) [2, 3, 0, 1, 4, 5] rfl rfl hP hD
    exact zout htab hlocks hS (Nat.le_of_ble_eq_true rfl) (Nat.le_of_ble_eq_true rfl) hce hcv hcl (f, me, mx, PT, PL) (show (E = "java/lang/IndexOutOfBoundsException" ∨ E = "java/lang/IllegalArgumentException") ∧ (zZ4 f) ∧ (0 ≤ me.toInt ∧ me.toInt ≤ 12) ∧ (0 ≤ mx.toInt ∧ mx.toInt ≤ 11) ∧ (zPT fT PT) ∧ (zPL fL PL) ∧ (zRk PT PT me.toInt me.toInt mx.toInt mx.toInt pe.toInt wo.toInt tx.toInt) from ⟨hpx, (show zZ4 f from rf), (show 0 ≤ me.toInt ∧ me.toInt ≤ 12 from b_me), (show 0 ≤ mx.toInt ∧ mx.toInt ≤ 11 from b_mx), (show zPT fT PT from hPT), (show zPL fL PL from hPL), (show zRk PT PT me.toInt me.toInt mx.toInt mx.toInt pe.toInt wo.toInt tx.toInt from zRk_0)⟩) hP hD
  · skip
    replace hq1 : (0 ≤ pp.toInt ∧ pp.toInt ≤ 7) ∧ (0 ≤ oo.toInt ∧ oo.toInt ≤ 7) := hq1
    have hP : va_P g.1 vwCl (List.flatten [bLog g go gr gz gn fr, bMem g mo qT qL it il ig mh me mx fT fL, bPT g PT, bPL g PL, bDR g x ta o lo go tt lt mo fo ro fl9, bTown g o a pe wo tx ch jo tr dy sd f]) H := hP
    have hD : va_D A (List.flatten [bLog g go gr gz gn fr, bMem g mo qT qL it il ig mh me mx fT fL, bPT g PT, bPL g PL, bDR g x ta o lo go tt lt mo fo ro fl9, bTown g o a pe wo tx ch jo tr dy sd f]) := hD
    refine W.widen (k := 3) (n := 18) (Nat.le_of_ble_eq_true rfl) (Nat.le_of_ble_eq_true rfl) ?_
    refine W.eq (g2 := F0 m 6 ls []) rfl ?_
    have hP : va_P g.1 vwCl (List.flatten [bLog g go gr gz gn fr, bMem g mo qT qL it il ig mh me mx fT fL, bPT g PT, bPL g PL, bDR g x ta o lo go tt lt mo fo ro fl9, bTown g o a pe wo tx ch jo tr dy sd f]) H := hP
    have hD : va_D A (List.flatten [bLog g go gr gz gn fr, bMem g mo qT qL it il ig mh me mx fT fL, bPT g PT, bPL g PL, bDR g x ta o lo go tt lt mo fo ro fl9, bTown g o a pe wo tx ch jo tr dy sd f]) := hD
    obtain ⟨hP, hD⟩ := zord (g := g) (Bs' := [bLog g go gr gz gn fr, bMem g mo qT qL it il ig mh me mx fT fL, bDR g x ta o lo go tt lt mo fo ro fl9, bTown g o a pe wo tx ch jo tr dy sd f, bPT g PT, bPL g PL]) [0, 1, 4, 5, 2, 3] rfl rfl hP hD
    obtain ⟨hq1_0, hq1_1⟩ := hq1
    refine lv_aload_n hx hb dX11_tie_6 rfl (lv_at hl 0 rfl) ?_
    refine lv_iload_n hx hb dX11_tie_7 rfl (lv_at hl 3 rfl) ?_
    refine lv_iconst (v := 0) hx hb dX11_tie_8 (by decide) ?_
    refine lv_bipush (v := 9) hx hb dX11_tie_9 (by decide) ?_
    refine xcallV' (g := g) (q0 := 0) (ci := 9) (As := [.int n, .int 0, .int 9]) (rest := []) St hK hT hA hP hD hS hl.1 [2] [0, 1, 3, 4, 5] rfl rfl rfl (c_x_nw_0_9 l hfl g x ta o lo go tt lt mo fo ro fl9 n ) (cwV 3 hts (zgL (zl4 k668 k669 k670 k621) k667) rfl rfl rfl (by decide +kernel) ⟨Nat.le_of_ble_eq_true rfl, Nat.le_of_ble_eq_true rfl⟩) rfl rfl rfl rfl (Nat.le_of_ble_eq_true rfl) dX11_tie_11 ⟨(Nat.le_of_ble_eq_true rfl), (Nat.le_of_ble_eq_true rfl)⟩ (fun E ce q9 u9 H locs hpx hP hD hS hce hcv hcl => ?_) (fun _u H locs hq2 hP hD hS => ?_)
    · skip
      have hpx : (E = "java/lang/IllegalArgumentException") := hpx
      have hP : va_P g.1 vwCl (List.flatten [bLog g go gr gz gn fr, bMem g mo qT qL it il ig mh me mx fT fL, bTown g o a pe wo tx ch jo tr dy sd f, bPT g PT, bPL g PL, bDR g x ta o lo go tt lt mo fo ro fl9]) H := hP
      have hD : va_D A (List.flatten [bLog g go gr gz gn fr, bMem g mo qT qL it il ig mh me mx fT fL, bTown g o a pe wo tx ch jo tr dy sd f, bPT g PT, bPL g PL, bDR g x ta o lo go tt lt mo fo ro fl9]) := hD
      have hP : va_P g.1 vwCl (List.flatten [bLog g go gr gz gn fr, bMem g mo qT qL it il ig mh me mx fT fL, bTown g o a pe wo tx ch jo tr dy sd f, bPT g PT, bPL g PL, bDR g x ta o lo go tt lt mo fo ro fl9]) H := hP
      have hD : va_D A (List.flatten [bLog g go gr gz gn fr, bMem g mo qT qL it il ig mh me mx fT fL, bTown g o a pe wo tx ch jo tr dy sd f, bPT g PT, bPL g PL, bDR g x ta o lo go tt lt mo fo ro fl9]) := hD
      obtain ⟨hP, hD⟩ := zord (g := g) (Bs' := [bLog g go gr gz gn fr, bMem g mo qT qL it il ig mh me mx fT fL, bTown g o a pe wo tx ch jo tr dy sd f, bDR g x ta o lo go tt lt mo fo ro fl9, bPT g PT, bPL g PL]) [0, 1, 2, 5, 3, 4] rfl rfl hP hD
      have hP : va_P g.1 vwCl (List.flatten [bLog g go gr gz gn fr, bMem g mo qT qL it il ig mh me mx fT fL, bTown g o a pe wo tx ch jo tr dy sd f, bDR g x ta o lo go tt lt mo fo ro fl9, bPT g PT, bPL g PL]) H := hP
      have hD : va_D A (List.flatten [bLog g go gr gz gn fr, bMem g mo qT qL it il ig mh me mx fT fL, bTown g o a pe wo tx ch jo tr dy sd f, bDR g x ta o lo go tt lt mo fo ro fl9, bPT g PT, bPL g PL]) := hD
      obtain ⟨hP, hD⟩ := zord (g := g) (Bs' := [bDR g x ta o lo go tt lt mo fo ro fl9, bTown g o a pe wo tx ch jo tr dy sd f, bLog g go gr gz gn fr, bMem g mo qT qL it il ig mh me mx fT fL, bPT g PT, bPL g PL]) [3, 2, 0, 1, 4, 5] rfl rfl hP hD
      exact zout htab hlocks hS (Nat.le_of_ble_eq_true rfl) (Nat.le_of_ble_eq_true rfl) hce hcv hcl (f, me, mx, PT, PL) (show (E = "java/lang/IndexOutOfBoundsException" ∨ E = "java/lang/IllegalArgumentException") ∧ (zZ4 f) ∧ (0 ≤ me.toInt ∧ me.toInt ≤ 12) ∧ (0 ≤ mx.toInt ∧ mx.toInt ≤ 11) ∧ (zPT fT PT) ∧ (zPL fL PL) ∧ (zRk PT PT me.toInt me.toInt mx.toInt mx.toInt pe.toInt wo.toInt tx.toInt) from ⟨(Or.inr hpx), (show zZ4 f from rf), (show 0 ≤ me.toInt ∧ me.toInt ≤ 12 from b_me), (show 0 ≤ mx.toInt ∧ mx.toInt ≤ 11 from b_mx), (show zPT fT PT from hPT), (show zPL fL PL from hPL), (show zRk PT PT me.toInt me.toInt mx.toInt mx.toInt pe.toInt wo.toInt tx.toInt from zRk_0)⟩) hP hD
    · skip
      replace hq2 : (0 ≤ n.toInt ∧ n.toInt ≤ 9) := hq2
      have hP : va_P g.1 vwCl (List.flatten [bLog g go gr gz gn fr, bMem g mo qT qL it il ig mh me mx fT fL, bTown g o a pe wo tx ch jo tr dy sd f, bPT g PT, bPL g PL, bDR g x ta o lo go tt lt mo fo ro fl9]) H := hP
      have hD : va_D A (List.flatten [bLog g go gr gz gn fr, bMem g mo qT qL it il ig mh me mx fT fL, bTown g o a pe wo tx ch jo tr dy sd f, bPT g PT, bPL g PL, bDR g x ta o lo go tt lt mo fo ro fl9]) := hD
      refine W.widen (k := 4) (n := 24) (Nat.le_of_ble_eq_true rfl) (Nat.le_of_ble_eq_true rfl) ?_
      refine W.eq (g2 := F0 m 14 ls []) rfl ?_
      have hP : va_P g.1 vwCl (List.flatten [bLog g go gr gz gn fr, bMem g mo qT qL it il ig mh me mx fT fL, bTown g o a pe wo tx ch jo tr dy sd f, bPT g PT, bPL g PL, bDR g x ta o lo go tt lt mo fo ro fl9]) H := hP
      have hD : va_D A (List.flatten [bLog g go gr gz gn fr, bMem g mo qT qL it il ig mh me mx fT fL, bTown g o a pe wo tx ch jo tr dy sd f, bPT g PT, bPL g PL, bDR g x ta o lo go tt lt mo fo ro fl9]) := hD
      obtain ⟨hP, hD⟩ := zord (g := g) (Bs' := [bLog g go gr gz gn fr, bMem g mo qT qL it il ig mh me mx fT fL, bTown g o a pe wo tx ch jo tr dy sd f, bDR g x ta o lo go tt lt mo fo ro fl9, bPT g PT, bPL g PL]) [0, 1, 2, 5, 3, 4] rfl rfl hP hD
      refine lv_aload_n hx hb dX11_tie_14 rfl (lv_at hl 0 rfl) ?_
      refine va_get (D := g.1) (ci := 9) (v := .ref mo) (C := RX11) (T := TX11) (N := 10) hx hb hts izRX11 hown hK hP 17 rfl rfl 6 (by decide) (hts _ k551) (fun _ h9 => h9) rfl dX11_tie_15 ?_
      refine lv_aload_n hx hb dX11_tie_18 rfl (lv_at hl 0 rfl) ?_
      refine va_get (D := g.1) (ci := 9) (v := .ref o) (C := RX11) (T := TX11) (N := 10) hx hb hts izRX11 hown hK hP 17 rfl rfl 1 (by decide) (hts _ k538) (fun _ h9 => h9) rfl dX11_tie_19 ?_
      refine lv_aload_n hx hb dX11_tie_22 rfl (lv_at hl 0 rfl) ?_
      refine va_get (D := g.1) (ci := 9) (v := .ref go) (C := RX11) (T := TX11) (N := 10) hx hb hts izRX11 hown hK hP 17 rfl rfl 3 (by decide) (hts _ k542) (fun _ h9 => h9) rfl dX11_tie_23 ?_
      refine mcallV' (g := g) (q0 := 0) (ci := 4) (As := [.ref o, .ref go]) (rest := []) St hK hT hA hP hD hS hl.1 [1, 2, 0, 4, 5] [3] rfl rfl rfl (c_m_remember l g mo qT qL it il ig mh me mx fT fL o a pe wo tx ch jo tr dy sd f go gr gz gn fr PT PL b_me b_mx b_pe b_wo rf b_gz b_gn hPT hPL) (cwV 2 hts (zgL (zl4 k662 k663 k664 k378) k367) rfl rfl rfl (by decide +kernel) ⟨Nat.le_of_ble_eq_true rfl, Nat.le_of_ble_eq_true rfl⟩) rfl rfl rfl rfl (Nat.le_of_ble_eq_true rfl) dX11_tie_26 ⟨(Nat.le_of_ble_eq_true rfl), (Nat.le_of_ble_eq_true rfl)⟩ (fun u_ H locs hq7 hP hD hS => ?_)
      obtain ⟨me2_3, mx2_4, PT2_5, PL2_6⟩ := u_
      replace hq7 : (0 ≤ me2_3.toInt ∧ me2_3.toInt ≤ 12) ∧ (0 ≤ mx2_4.toInt ∧ mx2_4.toInt ≤ 11) ∧ (zPT fT PT2_5) ∧ (zPL fL PL2_6) ∧ (me2_3.toInt = min (me.toInt + 1) 12) ∧ (mx2_4.toInt = (mx.toInt + 1) % 12) ∧ (zPk PT PT2_5 mx.toInt.toNat pe.toInt wo.toInt tx.toInt) := hq7
      have hP : va_P g.1 vwCl (List.flatten [bDR g x ta o lo go tt lt mo fo ro fl9, bMem g mo qT qL it il ig mh me2_3 mx2_4 fT fL, bTown g o a pe wo tx ch jo tr dy sd f, bLog g go gr gz gn fr, bPT g PT2_5, bPL g PL2_6]) H := hP
      have hD : va_D A (List.flatten [bDR g x ta o lo go tt lt mo fo ro fl9, bMem g mo qT qL it il ig mh me2_3 mx2_4 fT fL, bTown g o a pe wo tx ch jo tr dy sd f, bLog g go gr gz gn fr, bPT g PT2_5, bPL g PL2_6]) := hD
      refine W.widen (k := 4) (n := 24) (Nat.le_of_ble_eq_true rfl) (Nat.le_of_ble_eq_true rfl) ?_
      refine W.eq (g2 := F0 m 29 ls []) rfl ?_
      obtain ⟨hq7_0, hq7_1, hq7_2, hq7_3, hq7_4, hq7_5, hq7_6⟩ := hq7
      refine lv_aload_n hx hb dX11_tie_29 rfl (lv_at hl 0 rfl) ?_
      refine va_get (D := g.1) (ci := 9) (v := .ref o) (C := RX11) (T := TX11) (N := 10) hx hb hts izRX11 hown hK hP 0 rfl rfl 1 (by decide) (hts _ k538) (fun _ h9 => h9) rfl dX11_tie_30 ?_
      refine lv_iload_n hx hb dX11_tie_33 rfl (lv_at hl 1 rfl) ?_
      refine lv_iload_n hx hb dX11_tie_34 rfl (lv_at hl 2 rfl) ?_
      refine mcallV' (g := g) (q0 := 0) (ci := 7) (As := [.int pp, .int oo]) (rest := []) St hK hT hA hP hD hS hl.1 [2] [0, 1, 3, 4, 5] rfl rfl rfl (c_trustOf l g o a pe wo tx ch jo tr dy sd f pp oo hq1_0 hq1_1) (cwV 2 hts (zgL (zl4 k638 k90 k91 k24) k87) rfl rfl rfl (by decide +kernel) ⟨Nat.le_of_ble_eq_true rfl, Nat.le_of_ble_eq_true rfl⟩) rfl rfl rfl rfl (Nat.le_of_ble_eq_true rfl) dX11_tie_35 ⟨(Nat.le_of_ble_eq_true rfl), (Nat.le_of_ble_eq_true rfl)⟩ (fun q_8 H locs hq9 hP hD hS => ?_)
      have hP : va_P g.1 vwCl (List.flatten [bDR g x ta o lo go tt lt mo fo ro fl9, bMem g mo qT qL it il ig mh me2_3 mx2_4 fT fL, bLog g go gr gz gn fr, bPT g PT2_5, bPL g PL2_6, bTown g o a pe wo tx ch jo tr dy sd f]) H := hP
      have hD : va_D A (List.flatten [bDR g x ta o lo go tt lt mo fo ro fl9, bMem g mo qT qL it il ig mh me2_3 mx2_4 fT fL, bLog g go gr gz gn fr, bPT g PT2_5, bPL g PL2_6, bTown g o a pe wo tx ch jo tr dy sd f]) := hD
      refine W.widen (k := 4) (n := 24) (Nat.le_of_ble_eq_true rfl) (Nat.le_of_ble_eq_true rfl) ?_
      refine W.eq (g2 := F0 m 38 ls [.int q_8]) rfl ?_
      have hP : va_P g.1 vwCl (List.flatten [bDR g x ta o lo go tt lt mo fo ro fl9, bMem g mo qT qL it il ig mh me2_3 mx2_4 fT fL, bLog g go gr gz gn fr, bPT g PT2_5, bPL g PL2_6, bTown g o a pe wo tx ch jo tr dy sd f]) H := hP
      have hD : va_D A (List.flatten [bDR g x ta o lo go tt lt mo fo ro fl9, bMem g mo qT qL it il ig mh me2_3 mx2_4 fT fL, bLog g go gr gz gn fr, bPT g PT2_5, bPL g PL2_6, bTown g o a pe wo tx ch jo tr dy sd f]) := hD
      obtain ⟨hP, hD⟩ := zord (g := g) (Bs' := [bDR g x ta o lo go tt lt mo fo ro fl9, bMem g mo qT qL it il ig mh me2_3 mx2_4 fT fL, bLog g go gr gz gn fr, bTown g o a pe wo tx ch jo tr dy sd f, bPT g PT2_5, bPL g PL2_6]) [0, 1, 2, 5, 3, 4] rfl rfl hP hD
      refine lv_istore (lv' := [(4, .int q_8), (0, .ref x), (1, .int pp), (2, .int oo), (3, .int n)]) hx hb dX11_tie_38 hl (by decide) rfl (fun ls hl => ?_)
      refine lv_aload_n hx hb dX11_tie_40 rfl (lv_at hl 1 rfl) ?_
      refine va_get (D := g.1) (ci := 9) (v := .ref o) (C := RX11) (T := TX11) (N := 10) hx hb hts izRX11 hown hK hP 0 rfl rfl 1 (by decide) (hts _ k538) (fun _ h9 => h9) rfl dX11_tie_41 ?_
      refine lv_iload_n hx hb dX11_tie_44 rfl (lv_at hl 2 rfl) ?_
      refine lv_iload_n hx hb dX11_tie_45 rfl (lv_at hl 3 rfl) ?_
      refine lv_iload_n hx hb dX11_tie_46 rfl (lv_at hl 4 rfl) ?_
      refine mcallV' (g := g) (q0 := 0) (ci := 7) (As := [.int pp, .int oo, .int n]) (rest := []) St hK hT hA hP hD hS hl.1 [3] [0, 1, 2, 4, 5] rfl rfl rfl (c_setTrust l g o a pe wo tx ch jo tr dy sd f pp oo n rf hq1_0 hq1_1) (cwV 3 hts (zgL (zl4 k671 k437 k438 k24) k434) rfl rfl rfl (by decide +kernel) ⟨Nat.le_of_ble_eq_true rfl, Nat.le_of_ble_eq_true rfl⟩) rfl rfl rfl rfl (Nat.le_of_ble_eq_true rfl) dX11_tie_47 ⟨(Nat.le_of_ble_eq_true rfl), (Nat.le_of_ble_eq_true rfl)⟩ (fun f2_10 H locs hq11 hP hD hS => ?_)
      replace hq11 : (zZ4 f2_10) := hq11
      have hP : va_P g.1 vwCl (List.flatten [bDR g x ta o lo go tt lt mo fo ro fl9, bMem g mo qT qL it il ig mh me2_3 mx2_4 fT fL, bLog g go gr gz gn fr, bPT g PT2_5, bPL g PL2_6, bTown g o a pe wo tx ch jo tr dy sd f2_10]) H := hP
      have hD : va_D A (List.flatten [bDR g x ta o lo go tt lt mo fo ro fl9, bMem g mo qT qL it il ig mh me2_3 mx2_4 fT fL, bLog g go gr gz gn fr, bPT g PT2_5, bPL g PL2_6, bTown g o a pe wo tx ch jo tr dy sd f2_10]) := hD
      refine W.widen (k := 4) (n := 24) (Nat.le_of_ble_eq_true rfl) (Nat.le_of_ble_eq_true rfl) ?_
      refine W.eq (g2 := F0 m 50 ls []) rfl ?_
      have hP : va_P g.1 vwCl (List.flatten [bDR g x ta o lo go tt lt mo fo ro fl9, bMem g mo qT qL it il ig mh me2_3 mx2_4 fT fL, bLog g go gr gz gn fr, bPT g PT2_5, bPL g PL2_6, bTown g o a pe wo tx ch jo tr dy sd f2_10]) H := hP
      have hD : va_D A (List.flatten [bDR g x ta o lo go tt lt mo fo ro fl9, bMem g mo qT qL it il ig mh me2_3 mx2_4 fT fL, bLog g go gr gz gn fr, bPT g PT2_5, bPL g PL2_6, bTown g o a pe wo tx ch jo tr dy sd f2_10]) := hD
      obtain ⟨hP, hD⟩ := zord (g := g) (Bs' := [bDR g x ta o lo go tt lt mo fo ro fl9, bMem g mo qT qL it il ig mh me2_3 mx2_4 fT fL, bLog g go gr gz gn fr, bTown g o a pe wo tx ch jo tr dy sd f2_10, bPT g PT2_5, bPL g PL2_6]) [0, 1, 2, 5, 3, 4] rfl rfl hP hD
      have rf2_10 := hq11; clear hq11
      refine lv_iload hx hb dX11_tie_50 (lv_at hl 0 rfl) ?_
      have hP : va_P g.1 vwCl (List.flatten [bDR g x ta o lo go tt lt mo fo ro fl9, bMem g mo qT qL it il ig mh me2_3 mx2_4 fT fL, bLog g go gr gz gn fr, bTown g o a pe wo tx ch jo tr dy sd f2_10, bPT g PT2_5, bPL g PL2_6]) H := hP
      have hD : va_D A (List.flatten [bDR g x ta o lo go tt lt mo fo ro fl9, bMem g mo qT qL it il ig mh me2_3 mx2_4 fT fL, bLog g go gr gz gn fr, bTown g o a pe wo tx ch jo tr dy sd f2_10, bPT g PT2_5, bPL g PL2_6]) := hD
      obtain ⟨hP, hD⟩ := zord (g := g) (Bs' := [bDR g x ta o lo go tt lt mo fo ro fl9, bTown g o a pe wo tx ch jo tr dy sd f2_10, bLog g go gr gz gn fr, bMem g mo qT qL it il ig mh me2_3 mx2_4 fT fL, bPT g PT2_5, bPL g PL2_6]) [0, 3, 2, 1, 4, 5] rfl rfl hP hD
      exact zret_i hx hb hr hlocks hS (Nat.le_of_ble_eq_true rfl) (Nat.le_of_ble_eq_true rfl) dX11_tie_52 (f2_10, me2_3, mx2_4, PT2_5, PL2_6, q_8) rfl (show (zZ4 f2_10) ∧ (0 ≤ me2_3.toInt ∧ me2_3.toInt ≤ 12) ∧ (0 ≤ mx2_4.toInt ∧ mx2_4.toInt ≤ 11) ∧ (zPT fT PT2_5) ∧ (zPL fL PL2_6) ∧ (zRk PT PT2_5 me.toInt me2_3.toInt mx.toInt mx2_4.toInt pe.toInt wo.toInt tx.toInt) from ⟨rf2_10, hq7_0, hq7_1, hq7_2, hq7_3, (Or.inr ⟨hq7_4, hq7_5, hq7_6⟩)⟩) hP hD
set_option maxRecDepth 100000 in
set_option maxHeartbeats 4000000 in
theorem c_x_plan (l : Launch) (hfl : l.stackTraces = false) (g : zG) (x : Nat) (ta : Nat) (o : Nat) (lo : Nat) (go : Nat) (tt : Nat) (lt : Nat) (mo : Nat) (fo : Nat) (ro : Nat) (fl9 : Int32) (a : Nat → Nat) (pe : Int32) (wo : Int32) (tx : Int32) (ch : Int32) (jo : Int32) (tr : Int32) (dy : Int32) (sd : Int32) (f : Nat → Nat → Int32) (gr : Nat) (gz : Int32) (gn : Int32) (fr : Nat → Int32) (qT : Nat) (qL : Nat) (it : Nat) (il : Nat) (ig : Nat) (mh : Int32) (me : Int32) (mx : Int32) (fT : Nat → Option Nat) (fL : Nat → Option Nat) (PT : Nat → zTR) (PL : Nat → zLR) (ww : Int32) (b_pe : 0 ≤ pe.toInt ∧ pe.toInt ≤ 8) (b_wo : 0 ≤ wo.toInt ∧ wo.toInt ≤ 6) (rf : zZ4 f) (b_gz : 0 ≤ gz.toInt ∧ gz.toInt ≤ 60) (b_gn : 0 ≤ gn.toInt ∧ gn.toInt ≤ 59) (b_me : 0 ≤ me.toInt ∧ me.toInt ≤ 12) (b_mx : 0 ≤ mx.toInt ∧ mx.toInt ≤ 11) (hPT : zPT fT PT) (hPL : zPL fL PL) : zX' g l yX11_plan (Cond.code yX11_plan cX11_plan 2 none :: zB) ({ frames := 7, cells := 2, slots := 12, locals := 103 } : Room) [.ref x, .int ww] [bDR g x ta o lo go tt lt mo fo ro fl9, bTown g o a pe wo tx ch jo tr dy sd f, bLog g go gr gz gn fr, bMem g mo qT qL it il ig mh me mx fT fL, bPT g PT, bPL g PL] (fun u : (Nat → Nat → Int32) × Int32 × Int32 × (Nat → zTR) × (Nat → zLR) => (fun (f2 : Nat → Nat → Int32) (me2 : Int32) (mx2 : Int32) (PT2 : Nat → zTR) (PL2 : Nat → zLR) => none) (u.1) (u.2.1) (u.2.2.1) (u.2.2.2.1) (u.2.2.2.2)) (fun u : (Nat → Nat → Int32) × Int32 × Int32 × (Nat → zTR) × (Nat → zLR) => (fun (f2 : Nat → Nat → Int32) (me2 : Int32) (mx2 : Int32) (PT2 : Nat → zTR) (PL2 : Nat → zLR) => (zZ4 f2) ∧ (0 ≤ me2.toInt ∧ me2.toInt ≤ 12) ∧ (0 ≤ mx2.toInt ∧ mx2.toInt ≤ 11) ∧ (zPT fT PT2) ∧ (zPL fL PL2) ∧ (zRk PT PT2 me.toInt me2.toInt mx.toInt mx2.toInt pe.toInt wo.toInt tx.toInt)) (u.1) (u.2.1) (u.2.2.1) (u.2.2.2.1) (u.2.2.2.2)) (fun u : (Nat → Nat → Int32) × Int32 × Int32 × (Nat → zTR) × (Nat → zLR) => (fun (f2 : Nat → Nat → Int32) (me2 : Int32) (mx2 : Int32) (PT2 : Nat → zTR) (PL2 : Nat → zLR) => [bDR g x ta o lo go tt lt mo fo ro fl9, bTown g o a pe wo tx ch jo tr dy sd f2, bLog g go gr gz gn fr, bMem g mo qT qL it il ig mh me2 mx2 fT fL, bPT g PT2, bPL g PL2]) (u.1) (u.2.1) (u.2.2.1) (u.2.2.2.1) (u.2.2.2.2)) (fun (E : String) => fun u : (Nat → Nat → Int32) × Int32 × Int32 × (Nat → zTR) × (Nat → zLR) => (fun (f2 : Nat → Nat → Int32) (me2 : Int32) (mx2 : Int32) (PT2 : Nat → zTR) (PL2 : Nat → zLR) => (E = "java/lang/IndexOutOfBoundsException" ∨ E = "java/lang/IllegalStateException") ∧ (zZ4 f2) ∧ (0 ≤ me2.toInt ∧ me2.toInt ≤ 12) ∧ (0 ≤ mx2.toInt ∧ mx2.toInt ≤ 11) ∧ (zPT fT PT2) ∧ (zPL fL PL2) ∧ (zRk PT PT2 me.toInt me2.toInt mx.toInt mx2.toInt pe.toInt wo.toInt tx.toInt)) (u.1) (u.2.1) (u.2.2.1) (u.2.2.2.1) (u.2.2.2.2)) (fun u : (Nat → Nat → Int32) × Int32 × Int32 × (Nat → zTR) × (Nat → zLR) => (fun (f2 : Nat → Nat → Int32) (me2 : Int32) (mx2 : Int32) (PT2 : Nat → zTR) (PL2 : Nat → zLR) => [bDR g x ta o lo go tt lt mo fo ro fl9, bTown g o a pe wo tx ch jo tr dy sd f2, bLog g go gr gz gn fr, bMem g mo qT qL it il ig mh me2 mx2 fT fL, bPT g PT2, bPL g PL2]) (u.1) (u.2.1) (u.2.2.1) (u.2.2.2.1) (u.2.2.2.2)) := by
  refine zX'.of (cc := cX11_plan) (maxL := 2) (rt := none) (by decide) rfl (Nat.le_of_ble_eq_true rfl) ?_
  intro p e s m args below meth c A ls St hr hlocks htab hin hK hT hA hP hD hS hl
  obtain ⟨hx, hb, hml, hown, hts⟩ := id St
  have hl : lv_has ls 2 [(0, .ref x), (1, .int ww)] := hl
  refine lv_aload_n hx hb dX11_plan_0 rfl (lv_at hl 0 rfl) ?_
  refine lv_iload_n hx hb dX11_plan_1 rfl (lv_at hl 1 rfl) ?_
  refine xcallV' (g := g) (q0 := 0) (ci := 9) (As := [.int ww]) (rest := []) St hK hT hA hP hD hS hl.1 [0, 1] [2, 3, 4, 5] rfl rfl rfl (c_x_needWork l hfl g x ta o lo go tt lt mo fo ro fl9 a pe wo tx ch jo tr dy sd f ww b_pe b_wo rf) (cwV 1 hts (zgL (zl4 k646 k647 k648 k621) k639) rfl rfl rfl (by decide +kernel) ⟨Nat.le_of_ble_eq_true rfl, Nat.le_of_ble_eq_true rfl⟩) rfl rfl rfl rfl (Nat.le_of_ble_eq_true rfl) dX11_plan_2 ⟨(Nat.le_of_ble_eq_true rfl), (Nat.le_of_ble_eq_true rfl)⟩ (fun E ce q9 u9 H locs hpx hP hD hS hce hcv hcl => ?_) (fun _u H locs hq1 hP hD hS => ?_)
  · skip
    have hpx : (E = "java/lang/IndexOutOfBoundsException") := hpx
    have hP : va_P g.1 vwCl (List.flatten [bLog g go gr gz gn fr, bMem g mo qT qL it il ig mh me mx fT fL, bPT g PT, bPL g PL, bDR g x ta o lo go tt lt mo fo ro fl9, bTown g o a pe wo tx ch jo tr dy sd f]) H := hP
    have hD : va_D A (List.flatten [bLog g go gr gz gn fr, bMem g mo qT qL it il ig mh me mx fT fL, bPT g PT, bPL g PL, bDR g x ta o lo go tt lt mo fo ro fl9, bTown g o a pe wo tx ch jo tr dy sd f]) := hD
    have hP : va_P g.1 vwCl (List.flatten [bLog g go gr gz gn fr, bMem g mo qT qL it il ig mh me mx fT fL, bPT g PT, bPL g PL, bDR g x ta o lo go tt lt mo fo ro fl9, bTown g o a pe wo tx ch jo tr dy sd f]) H := hP
    have hD : va_D A (List.flatten [bLog g go gr gz gn fr, bMem g mo qT qL it il ig mh me mx fT fL, bPT g PT, bPL g PL, bDR g x ta o lo go tt lt mo fo ro fl9, bTown g o a pe wo tx ch jo tr dy sd f]) := hD
    obtain ⟨hP, hD⟩ := zord (g := g) (Bs' := [bLog g go gr gz gn fr, bMem g mo qT qL it il ig mh me mx fT fL, bDR g x ta o lo go tt lt mo fo ro fl9, bTown g o a pe wo tx ch jo tr dy sd f, bPT g PT, bPL g PL]) [0, 1, 4, 5, 2, 3] rfl rfl hP hD
    have hP : va_P g.1 vwCl (List.flatten [bLog g go gr gz gn fr, bMem g mo qT qL it il ig mh me mx fT fL, bDR g x ta o lo go tt lt mo fo ro fl9, bTown g o a pe wo tx ch jo tr dy sd f, bPT g PT, bPL g PL]) H := hP
    have hD : va_D A (List.flatten [bLog g go gr gz gn fr, bMem g mo qT qL it il ig mh me mx fT fL, bDR g x ta o lo go tt lt mo fo ro fl9, bTown g o a pe wo tx ch jo tr dy sd f, bPT g PT, bPL g PL]) := hD
    obtain ⟨hP, hD⟩ := zord (g := g) (Bs' := [bDR g x ta o lo go tt lt mo fo ro fl9, bTown g o a pe wo tx ch jo tr dy sd f, bLog g go gr gz gn fr, bMem g mo qT qL it il ig mh me mx fT fL, bPT g PT, bPL g PL]) [2, 3, 0, 1, 4, 5] rfl rfl hP hD
    exact zout htab hlocks hS (Nat.le_of_ble_eq_true rfl) (Nat.le_of_ble_eq_true rfl) hce hcv hcl (f, me, mx, PT, PL) (show (E = "java/lang/IndexOutOfBoundsException" ∨ E = "java/lang/IllegalStateException") ∧ (zZ4 f) ∧ (0 ≤ me.toInt ∧ me.toInt ≤ 12) ∧ (0 ≤ mx.toInt ∧ mx.toInt ≤ 11) ∧ (zPT fT PT) ∧ (zPL fL PL) ∧ (zRk PT PT me.toInt me.toInt mx.toInt mx.toInt pe.toInt wo.toInt tx.toInt) from ⟨(Or.inl hpx), (show zZ4 f from rf), (show 0 ≤ me.toInt ∧ me.toInt ≤ 12 from b_me), (show 0 ≤ mx.toInt ∧ mx.toInt ≤ 11 from b_mx), (show zPT fT PT from hPT), (show zPL fL PL from hPL), (show zRk PT PT me.toInt me.toInt mx.toInt mx.toInt pe.toInt wo.toInt tx.toInt from zRk_0)⟩) hP hD
  · skip
    replace hq1 : (0 ≤ ww.toInt ∧ ww.toInt ≤ 5) ∧ (ww.toInt < wo.toInt) := hq1
    have hP : va_P g.1 vwCl (List.flatten [bLog g go gr gz gn fr, bMem g mo qT qL it il ig mh me mx fT fL, bPT g PT, bPL g PL, bDR g x ta o lo go tt lt mo fo ro fl9, bTown g o a pe wo tx ch jo tr dy sd f]) H := hP
    have hD : va_D A (List.flatten [bLog g go gr gz gn fr, bMem g mo qT qL it il ig mh me mx fT fL, bPT g PT, bPL g PL, bDR g x ta o lo go tt lt mo fo ro fl9, bTown g o a pe wo tx ch jo tr dy sd f]) := hD
    refine W.widen (k := 1) (n := 6) (Nat.le_of_ble_eq_true rfl) (Nat.le_of_ble_eq_true rfl) ?_
    refine W.eq (g2 := F0 m 5 ls []) rfl ?_
    have hP : va_P g.1 vwCl (List.flatten [bLog g go gr gz gn fr, bMem g mo qT qL it il ig mh me mx fT fL, bPT g PT, bPL g PL, bDR g x ta o lo go tt lt mo fo ro fl9, bTown g o a pe wo tx ch jo tr dy sd f]) H := hP
    have hD : va_D A (List.flatten [bLog g go gr gz gn fr, bMem g mo qT qL it il ig mh me mx fT fL, bPT g PT, bPL g PL, bDR g x ta o lo go tt lt mo fo ro fl9, bTown g o a pe wo tx ch jo tr dy sd f]) := hD
    obtain ⟨hP, hD⟩ := zord (g := g) (Bs' := [bLog g go gr gz gn fr, bMem g mo qT qL it il ig mh me mx fT fL, bDR g x ta o lo go tt lt mo fo ro fl9, bTown g o a pe wo tx ch jo tr dy sd f, bPT g PT, bPL g PL]) [0, 1, 4, 5, 2, 3] rfl rfl hP hD
    obtain ⟨hq1_0, hq1_1⟩ := hq1
    refine lv_aload_n hx hb dX11_plan_5 rfl (lv_at hl 0 rfl) ?_
    refine lv_aload_n hx hb dX11_plan_6 rfl (lv_at hl 0 rfl) ?_
    refine va_get (D := g.1) (ci := 9) (v := .ref o) (C := RX11) (T := TX11) (N := 10) hx hb hts izRX11 hown hK hP 5 rfl rfl 1 (by decide) (hts _ k538) (fun _ h9 => h9) rfl dX11_plan_7 ?_
    refine va_get (D := g.1) (ci := 7) (v := .ref (a 9)) (C := RX9) (T := TX9) (N := 19) hx hb hts izRX9 hown hK hP 6 rfl rfl 17 (by decide) (hts _ k645) (fun _ h9 => h9) rfl dX11_plan_10 ?_
    refine lv_iload_n hx hb dX11_plan_13 rfl (lv_at hl 1 rfl) ?_
    refine va_iald hx hb hK hP 16 0 rfl rfl (zinK (a := 0) (b := 5) hq1_0.1 hq1_0.2 (by decide)) dX11_plan_14 ?_
    refine zg (fun x_2 => ?_)
    refine lv_iconst (v := 2) hx hb dX11_plan_15 (by decide) ?_
    refine lv_icmp_ne (tgt := 23) hx hb dX11_plan_16 (by decide) (fun cb9 => ?_) (fun cb9 => ?_)
    · skip
      have c3 : ¬ x_2.toInt = 2 := zne cb9 rfl (by decide)
      refine lv_iconst (v := 0) hx hb dX11_plan_23 (by decide) ?_
      refine xcallV' (g := g) (q0 := 0) (ci := 9) (As := [.int 0]) (rest := []) St hK hT hA hP hD hS hl.1 [2] [0, 1, 3, 4, 5] rfl rfl rfl (c_x_needState l hfl g x ta o lo go tt lt mo fo ro fl9 0 ) (cwV 1 hts (zgL (zl4 k656 k657 k658 k621) k651) rfl rfl rfl (by decide +kernel) ⟨Nat.le_of_ble_eq_true rfl, Nat.le_of_ble_eq_true rfl⟩) rfl rfl rfl rfl (Nat.le_of_ble_eq_true rfl) dX11_plan_24 ⟨(Nat.le_of_ble_eq_true rfl), (Nat.le_of_ble_eq_true rfl)⟩ (fun E ce q9 u9 H locs hpx hP hD hS hce hcv hcl => ?_) (fun _u H locs hq4 hP hD hS => ?_)
      · skip
        have hpx : (E = "java/lang/IllegalStateException") := hpx
        have hP : va_P g.1 vwCl (List.flatten [bLog g go gr gz gn fr, bMem g mo qT qL it il ig mh me mx fT fL, bTown g o a pe wo tx ch jo tr dy sd f, bPT g PT, bPL g PL, bDR g x ta o lo go tt lt mo fo ro fl9]) H := hP
        have hD : va_D A (List.flatten [bLog g go gr gz gn fr, bMem g mo qT qL it il ig mh me mx fT fL, bTown g o a pe wo tx ch jo tr dy sd f, bPT g PT, bPL g PL, bDR g x ta o lo go tt lt mo fo ro fl9]) := hD
        have hP : va_P g.1 vwCl (List.flatten [bLog g go gr gz gn fr, bMem g mo qT qL it il ig mh me mx fT fL, bTown g o a pe wo tx ch jo tr dy sd f, bPT g PT, bPL g PL, bDR g x ta o lo go tt lt mo fo ro fl9]) H := hP
        have hD : va_D A (List.flatten [bLog g go gr gz gn fr, bMem g mo qT qL it il ig mh me mx fT fL, bTown g o a pe wo tx ch jo tr dy sd f, bPT g PT, bPL g PL, bDR g x ta o lo go tt lt mo fo ro fl9]) := hD
        obtain ⟨hP, hD⟩ := zord (g := g) (Bs' := [bLog g go gr gz gn fr, bMem g mo qT qL it il ig mh me mx fT fL, bTown g o a pe wo tx ch jo tr dy sd f, bDR g x ta o lo go tt lt mo fo ro fl9, bPT g PT, bPL g PL]) [0, 1, 2, 5, 3, 4] rfl rfl hP hD
        have hP : va_P g.1 vwCl (List.flatten [bLog g go gr gz gn fr, bMem g mo qT qL it il ig mh me mx fT fL, bTown g o a pe wo tx ch jo tr dy sd f, bDR g x ta o lo go tt lt mo fo ro fl9, bPT g PT, bPL g PL]) H := hP
        have hD : va_D A (List.flatten [bLog g go gr gz gn fr, bMem g mo qT qL it il ig mh me mx fT fL, bTown g o a pe wo tx ch jo tr dy sd f, bDR g x ta o lo go tt lt mo fo ro fl9, bPT g PT, bPL g PL]) := hD
        obtain ⟨hP, hD⟩ := zord (g := g) (Bs' := [bDR g x ta o lo go tt lt mo fo ro fl9, bTown g o a pe wo tx ch jo tr dy sd f, bLog g go gr gz gn fr, bMem g mo qT qL it il ig mh me mx fT fL, bPT g PT, bPL g PL]) [3, 2, 0, 1, 4, 5] rfl rfl hP hD
        exact zout htab hlocks hS (Nat.le_of_ble_eq_true rfl) (Nat.le_of_ble_eq_true rfl) hce hcv hcl (f, me, mx, PT, PL) (show (E = "java/lang/IndexOutOfBoundsException" ∨ E = "java/lang/IllegalStateException") ∧ (zZ4 f) ∧ (0 ≤ me.toInt ∧ me.toInt ≤ 12) ∧ (0 ≤ mx.toInt ∧ mx.toInt ≤ 11) ∧ (zPT fT PT) ∧ (zPL fL PL) ∧ (zRk PT PT me.toInt me.toInt mx.toInt mx.toInt pe.toInt wo.toInt tx.toInt) from ⟨(Or.inr hpx), (show zZ4 f from rf), (show 0 ≤ me.toInt ∧ me.toInt ≤ 12 from b_me), (show 0 ≤ mx.toInt ∧ mx.toInt ≤ 11 from b_mx), (show zPT fT PT from hPT), (show zPL fL PL from hPL), (show zRk PT PT me.toInt me.toInt mx.toInt mx.toInt pe.toInt wo.toInt tx.toInt from zRk_0)⟩) hP hD
      · skip
        have hP : va_P g.1 vwCl (List.flatten [bLog g go gr gz gn fr, bMem g mo qT qL it il ig mh me mx fT fL, bTown g o a pe wo tx ch jo tr dy sd f, bPT g PT, bPL g PL, bDR g x ta o lo go tt lt mo fo ro fl9]) H := hP
        have hD : va_D A (List.flatten [bLog g go gr gz gn fr, bMem g mo qT qL it il ig mh me mx fT fL, bTown g o a pe wo tx ch jo tr dy sd f, bPT g PT, bPL g PL, bDR g x ta o lo go tt lt mo fo ro fl9]) := hD
        refine W.widen (k := 2) (n := 12) (Nat.le_of_ble_eq_true rfl) (Nat.le_of_ble_eq_true rfl) ?_
        refine W.eq (g2 := F0 m 27 ls []) rfl ?_
        have hP : va_P g.1 vwCl (List.flatten [bLog g go gr gz gn fr, bMem g mo qT qL it il ig mh me mx fT fL, bTown g o a pe wo tx ch jo tr dy sd f, bPT g PT, bPL g PL, bDR g x ta o lo go tt lt mo fo ro fl9]) H := hP
        have hD : va_D A (List.flatten [bLog g go gr gz gn fr, bMem g mo qT qL it il ig mh me mx fT fL, bTown g o a pe wo tx ch jo tr dy sd f, bPT g PT, bPL g PL, bDR g x ta o lo go tt lt mo fo ro fl9]) := hD
        obtain ⟨hP, hD⟩ := zord (g := g) (Bs' := [bLog g go gr gz gn fr, bMem g mo qT qL it il ig mh me mx fT fL, bTown g o a pe wo tx ch jo tr dy sd f, bDR g x ta o lo go tt lt mo fo ro fl9, bPT g PT, bPL g PL]) [0, 1, 2, 5, 3, 4] rfl rfl hP hD
        refine lv_aload_n hx hb dX11_plan_27 rfl (lv_at hl 0 rfl) ?_
        refine va_get (D := g.1) (ci := 9) (v := .ref mo) (C := RX11) (T := TX11) (N := 10) hx hb hts izRX11 hown hK hP 17 rfl rfl 6 (by decide) (hts _ k551) (fun _ h9 => h9) rfl dX11_plan_28 ?_
        refine lv_aload_n hx hb dX11_plan_31 rfl (lv_at hl 0 rfl) ?_
        refine va_get (D := g.1) (ci := 9) (v := .ref o) (C := RX11) (T := TX11) (N := 10) hx hb hts izRX11 hown hK hP 17 rfl rfl 1 (by decide) (hts _ k538) (fun _ h9 => h9) rfl dX11_plan_32 ?_
        refine lv_aload_n hx hb dX11_plan_35 rfl (lv_at hl 0 rfl) ?_
        refine va_get (D := g.1) (ci := 9) (v := .ref go) (C := RX11) (T := TX11) (N := 10) hx hb hts izRX11 hown hK hP 17 rfl rfl 3 (by decide) (hts _ k542) (fun _ h9 => h9) rfl dX11_plan_36 ?_
        refine mcallV' (g := g) (q0 := 0) (ci := 4) (As := [.ref o, .ref go]) (rest := []) St hK hT hA hP hD hS hl.1 [1, 2, 0, 4, 5] [3] rfl rfl rfl (c_m_remember l g mo qT qL it il ig mh me mx fT fL o a pe wo tx ch jo tr dy sd f go gr gz gn fr PT PL b_me b_mx b_pe b_wo rf b_gz b_gn hPT hPL) (cwV 2 hts (zgL (zl4 k662 k663 k664 k378) k367) rfl rfl rfl (by decide +kernel) ⟨Nat.le_of_ble_eq_true rfl, Nat.le_of_ble_eq_true rfl⟩) rfl rfl rfl rfl (Nat.le_of_ble_eq_true rfl) dX11_plan_39 ⟨(Nat.le_of_ble_eq_true rfl), (Nat.le_of_ble_eq_true rfl)⟩ (fun u_ H locs hq9 hP hD hS => ?_)
        obtain ⟨me2_5, mx2_6, PT2_7, PL2_8⟩ := u_
        replace hq9 : (0 ≤ me2_5.toInt ∧ me2_5.toInt ≤ 12) ∧ (0 ≤ mx2_6.toInt ∧ mx2_6.toInt ≤ 11) ∧ (zPT fT PT2_7) ∧ (zPL fL PL2_8) ∧ (me2_5.toInt = min (me.toInt + 1) 12) ∧ (mx2_6.toInt = (mx.toInt + 1) % 12) ∧ (zPk PT PT2_7 mx.toInt.toNat pe.toInt wo.toInt tx.toInt) := hq9
        have hP : va_P g.1 vwCl (List.flatten [bDR g x ta o lo go tt lt mo fo ro fl9, bMem g mo qT qL it il ig mh me2_5 mx2_6 fT fL, bTown g o a pe wo tx ch jo tr dy sd f, bLog g go gr gz gn fr, bPT g PT2_7, bPL g PL2_8]) H := hP
        have hD : va_D A (List.flatten [bDR g x ta o lo go tt lt mo fo ro fl9, bMem g mo qT qL it il ig mh me2_5 mx2_6 fT fL, bTown g o a pe wo tx ch jo tr dy sd f, bLog g go gr gz gn fr, bPT g PT2_7, bPL g PL2_8]) := hD
        refine W.widen (k := 2) (n := 12) (Nat.le_of_ble_eq_true rfl) (Nat.le_of_ble_eq_true rfl) ?_
        refine W.eq (g2 := F0 m 42 ls []) rfl ?_
        obtain ⟨hq9_0, hq9_1, hq9_2, hq9_3, hq9_4, hq9_5, hq9_6⟩ := hq9
        refine lv_aload_n hx hb dX11_plan_42 rfl (lv_at hl 0 rfl) ?_
        refine va_get (D := g.1) (ci := 9) (v := .ref o) (C := RX11) (T := TX11) (N := 10) hx hb hts izRX11 hown hK hP 0 rfl rfl 1 (by decide) (hts _ k538) (fun _ h9 => h9) rfl dX11_plan_43 ?_
        refine va_get (D := g.1) (ci := 7) (v := .ref (a 9)) (C := RX9) (T := TX9) (N := 19) hx hb hts izRX9 hown hK hP 4 rfl rfl 17 (by decide) (hts _ k645) (fun _ h9 => h9) rfl dX11_plan_46 ?_
        refine lv_iload_n hx hb dX11_plan_49 rfl (lv_at hl 1 rfl) ?_
        refine lv_iconst (v := 0) hx hb dX11_plan_50 (by decide) ?_
        refine va_iast hx hb hK hP hD hS 14 0 rfl rfl (zinK (a := 0) (b := 5) hq1_0.1 hq1_0.2 (by decide)) dX11_plan_51 (fun H locs hP hD hS => ?_)
        obtain ⟨f10, rf10, hP, hD⟩ : ∃ f10 : Nat → Nat → Int32, zZ4 f10 ∧ va_P g.1 vwCl (List.flatten [bDR g x ta o lo go tt lt mo fo ro fl9, bMem g mo qT qL it il ig mh me2_5 mx2_6 fT fL, bTown g o a pe wo tx ch jo tr dy sd f10, bLog g go gr gz gn fr, bPT g PT2_7, bPL g PL2_8]) H ∧ va_D A (List.flatten [bDR g x ta o lo go tt lt mo fo ro fl9, bMem g mo qT qL it il ig mh me2_5 mx2_6 fT fL, bTown g o a pe wo tx ch jo tr dy sd f10, bLog g go gr gz gn fr, bPT g PT2_7, bPL g PL2_8]) := ⟨zu f 9 (upd (f 9) ww.toNatClampNeg 0), (zZ4_u rf (by decide)), hP, hD⟩
        have hP : va_P g.1 vwCl (List.flatten [bDR g x ta o lo go tt lt mo fo ro fl9, bMem g mo qT qL it il ig mh me2_5 mx2_6 fT fL, bTown g o a pe wo tx ch jo tr dy sd f10, bLog g go gr gz gn fr, bPT g PT2_7, bPL g PL2_8]) H := hP
        have hD : va_D A (List.flatten [bDR g x ta o lo go tt lt mo fo ro fl9, bMem g mo qT qL it il ig mh me2_5 mx2_6 fT fL, bTown g o a pe wo tx ch jo tr dy sd f10, bLog g go gr gz gn fr, bPT g PT2_7, bPL g PL2_8]) := hD
        obtain ⟨hP, hD⟩ := zord (g := g) (Bs' := [bDR g x ta o lo go tt lt mo fo ro fl9, bTown g o a pe wo tx ch jo tr dy sd f10, bLog g go gr gz gn fr, bMem g mo qT qL it il ig mh me2_5 mx2_6 fT fL, bPT g PT2_7, bPL g PL2_8]) [0, 2, 3, 1, 4, 5] rfl rfl hP hD
        exact zret_v hx hb hr hlocks hS (Nat.le_of_ble_eq_true rfl) (Nat.le_of_ble_eq_true rfl) dX11_plan_52 (f10, me2_5, mx2_6, PT2_7, PL2_8) rfl (show (zZ4 f10) ∧ (0 ≤ me2_5.toInt ∧ me2_5.toInt ≤ 12) ∧ (0 ≤ mx2_6.toInt ∧ mx2_6.toInt ≤ 11) ∧ (zPT fT PT2_7) ∧ (zPL fL PL2_8) ∧ (zRk PT PT2_7 me.toInt me2_5.toInt mx.toInt mx2_6.toInt pe.toInt wo.toInt tx.toInt) from ⟨rf10, hq9_0, hq9_1, hq9_2, hq9_3, (Or.inr ⟨hq9_4, hq9_5, hq9_6⟩)⟩) hP hD
    · skip
      have c11 : x_2.toInt = 2 := zeq cb9 rfl (by decide)
      have n12 : 2 ≤ x_2.toInt := Int.le_trans (Int.le_refl _) (Int.le_of_eq c11.symm)
      have n13 : x_2.toInt ≤ 2 := Int.le_trans (Int.le_of_eq c11) (Int.le_refl _)
      refine lv_iconst (v := 1) hx hb dX11_plan_19 (by decide) ?_
      refine lv_goto (tgt := 24) hx hb dX11_plan_20 (by decide) ?_
      refine xcallV' (g := g) (q0 := 0) (ci := 9) (As := [.int 1]) (rest := []) St hK hT hA hP hD hS hl.1 [2] [0, 1, 3, 4, 5] rfl rfl rfl (c_x_needState l hfl g x ta o lo go tt lt mo fo ro fl9 1 ) (cwV 1 hts (zgL (zl4 k656 k657 k658 k621) k651) rfl rfl rfl (by decide +kernel) ⟨Nat.le_of_ble_eq_true rfl, Nat.le_of_ble_eq_true rfl⟩) rfl rfl rfl rfl (Nat.le_of_ble_eq_true rfl) dX11_plan_24 ⟨(Nat.le_of_ble_eq_true rfl), (Nat.le_of_ble_eq_true rfl)⟩ (fun E ce q9 u9 H locs hpx hP hD hS hce hcv hcl => ?_) (fun _u H locs hq14 hP hD hS => ?_)
      · skip
        have hpx : (E = "java/lang/IllegalStateException") := hpx
        have hP : va_P g.1 vwCl (List.flatten [bLog g go gr gz gn fr, bMem g mo qT qL it il ig mh me mx fT fL, bTown g o a pe wo tx ch jo tr dy sd f, bPT g PT, bPL g PL, bDR g x ta o lo go tt lt mo fo ro fl9]) H := hP
        have hD : va_D A (List.flatten [bLog g go gr gz gn fr, bMem g mo qT qL it il ig mh me mx fT fL, bTown g o a pe wo tx ch jo tr dy sd f, bPT g PT, bPL g PL, bDR g x ta o lo go tt lt mo fo ro fl9]) := hD
        have hP : va_P g.1 vwCl (List.flatten [bLog g go gr gz gn fr, bMem g mo qT qL it il ig mh me mx fT fL, bTown g o a pe wo tx ch jo tr dy sd f, bPT g PT, bPL g PL, bDR g x ta o lo go tt lt mo fo ro fl9]) H := hP
        have hD : va_D A (List.flatten [bLog g go gr gz gn fr, bMem g mo qT qL it il ig mh me mx fT fL, bTown g o a pe wo tx ch jo tr dy sd f, bPT g PT, bPL g PL, bDR g x ta o lo go tt lt mo fo ro fl9]) := hD
        obtain ⟨hP, hD⟩ := zord (g := g) (Bs' := [bLog g go gr gz gn fr, bMem g mo qT qL it il ig mh me mx fT fL, bTown g o a pe wo tx ch jo tr dy sd f, bDR g x ta o lo go tt lt mo fo ro fl9, bPT g PT, bPL g PL]) [0, 1, 2, 5, 3, 4] rfl rfl hP hD
        have hP : va_P g.1 vwCl (List.flatten [bLog g go gr gz gn fr, bMem g mo qT qL it il ig mh me mx fT fL, bTown g o a pe wo tx ch jo tr dy sd f, bDR g x ta o lo go tt lt mo fo ro fl9, bPT g PT, bPL g PL]) H := hP
        have hD : va_D A (List.flatten [bLog g go gr gz gn fr, bMem g mo qT qL it il ig mh me mx fT fL, bTown g o a pe wo tx ch jo tr dy sd f, bDR g x ta o lo go tt lt mo fo ro fl9, bPT g PT, bPL g PL]) := hD
        obtain ⟨hP, hD⟩ := zord (g := g) (Bs' := [bDR g x ta o lo go tt lt mo fo ro fl9, bTown g o a pe wo tx ch jo tr dy sd f, bLog g go gr gz gn fr, bMem g mo qT qL it il ig mh me mx fT fL, bPT g PT, bPL g PL]) [3, 2, 0, 1, 4, 5] rfl rfl hP hD
        exact zout htab hlocks hS (Nat.le_of_ble_eq_true rfl) (Nat.le_of_ble_eq_true rfl) hce hcv hcl (f, me, mx, PT, PL) (show (E = "java/lang/IndexOutOfBoundsException" ∨ E = "java/lang/IllegalStateException") ∧ (zZ4 f) ∧ (0 ≤ me.toInt ∧ me.toInt ≤ 12) ∧ (0 ≤ mx.toInt ∧ mx.toInt ≤ 11) ∧ (zPT fT PT) ∧ (zPL fL PL) ∧ (zRk PT PT me.toInt me.toInt mx.toInt mx.toInt pe.toInt wo.toInt tx.toInt) from ⟨(Or.inr hpx), (show zZ4 f from rf), (show 0 ≤ me.toInt ∧ me.toInt ≤ 12 from b_me), (show 0 ≤ mx.toInt ∧ mx.toInt ≤ 11 from b_mx), (show zPT fT PT from hPT), (show zPL fL PL from hPL), (show zRk PT PT me.toInt me.toInt mx.toInt mx.toInt pe.toInt wo.toInt tx.toInt from zRk_0)⟩) hP hD
      · skip
        have hP : va_P g.1 vwCl (List.flatten [bLog g go gr gz gn fr, bMem g mo qT qL it il ig mh me mx fT fL, bTown g o a pe wo tx ch jo tr dy sd f, bPT g PT, bPL g PL, bDR g x ta o lo go tt lt mo fo ro fl9]) H := hP
        have hD : va_D A (List.flatten [bLog g go gr gz gn fr, bMem g mo qT qL it il ig mh me mx fT fL, bTown g o a pe wo tx ch jo tr dy sd f, bPT g PT, bPL g PL, bDR g x ta o lo go tt lt mo fo ro fl9]) := hD
        refine W.widen (k := 2) (n := 12) (Nat.le_of_ble_eq_true rfl) (Nat.le_of_ble_eq_true rfl) ?_
        refine W.eq (g2 := F0 m 27 ls []) rfl ?_
        have hP : va_P g.1 vwCl (List.flatten [bLog g go gr gz gn fr, bMem g mo qT qL it il ig mh me mx fT fL, bTown g o a pe wo tx ch jo tr dy sd f, bPT g PT, bPL g PL, bDR g x ta o lo go tt lt mo fo ro fl9]) H := hP
        have hD : va_D A (List.flatten [bLog g go gr gz gn fr, bMem g mo qT qL it il ig mh me mx fT fL, bTown g o a pe wo tx ch jo tr dy sd f, bPT g PT, bPL g PL, bDR g x ta o lo go tt lt mo fo ro fl9]) := hD
        obtain ⟨hP, hD⟩ := zord (g := g) (Bs' := [bLog g go gr gz gn fr, bMem g mo qT qL it il ig mh me mx fT fL, bTown g o a pe wo tx ch jo tr dy sd f, bDR g x ta o lo go tt lt mo fo ro fl9, bPT g PT, bPL g PL]) [0, 1, 2, 5, 3, 4] rfl rfl hP hD
        refine lv_aload_n hx hb dX11_plan_27 rfl (lv_at hl 0 rfl) ?_
        refine va_get (D := g.1) (ci := 9) (v := .ref mo) (C := RX11) (T := TX11) (N := 10) hx hb hts izRX11 hown hK hP 17 rfl rfl 6 (by decide) (hts _ k551) (fun _ h9 => h9) rfl dX11_plan_28 ?_
        refine lv_aload_n hx hb dX11_plan_31 rfl (lv_at hl 0 rfl) ?_
        refine va_get (D := g.1) (ci := 9) (v := .ref o) (C := RX11) (T := TX11) (N := 10) hx hb hts izRX11 hown hK hP 17 rfl rfl 1 (by decide) (hts _ k538) (fun _ h9 => h9) rfl dX11_plan_32 ?_
        refine lv_aload_n hx hb dX11_plan_35 rfl (lv_at hl 0 rfl) ?_
        refine va_get (D := g.1) (ci := 9) (v := .ref go) (C := RX11) (T := TX11) (N := 10) hx hb hts izRX11 hown hK hP 17 rfl rfl 3 (by decide) (hts _ k542) (fun _ h9 => h9) rfl dX11_plan_36 ?_
        refine mcallV' (g := g) (q0 := 0) (ci := 4) (As := [.ref o, .ref go]) (rest := []) St hK hT hA hP hD hS hl.1 [1, 2, 0, 4, 5] [3] rfl rfl rfl (c_m_remember l g mo qT qL it il ig mh me mx fT fL o a pe wo tx ch jo tr dy sd f go gr gz gn fr PT PL b_me b_mx b_pe b_wo rf b_gz b_gn hPT hPL) (cwV 2 hts (zgL (zl4 k662 k663 k664 k378) k367) rfl rfl rfl (by decide +kernel) ⟨Nat.le_of_ble_eq_true rfl, Nat.le_of_ble_eq_true rfl⟩) rfl rfl rfl rfl (Nat.le_of_ble_eq_true rfl) dX11_plan_39 ⟨(Nat.le_of_ble_eq_true rfl), (Nat.le_of_ble_eq_true rfl)⟩ (fun u_ H locs hq19 hP hD hS => ?_)
        obtain ⟨me2_15, mx2_16, PT2_17, PL2_18⟩ := u_
        replace hq19 : (0 ≤ me2_15.toInt ∧ me2_15.toInt ≤ 12) ∧ (0 ≤ mx2_16.toInt ∧ mx2_16.toInt ≤ 11) ∧ (zPT fT PT2_17) ∧ (zPL fL PL2_18) ∧ (me2_15.toInt = min (me.toInt + 1) 12) ∧ (mx2_16.toInt = (mx.toInt + 1) % 12) ∧ (zPk PT PT2_17 mx.toInt.toNat pe.toInt wo.toInt tx.toInt) := hq19
        have hP : va_P g.1 vwCl (List.flatten [bDR g x ta o lo go tt lt mo fo ro fl9, bMem g mo qT qL it il ig mh me2_15 mx2_16 fT fL, bTown g o a pe wo tx ch jo tr dy sd f, bLog g go gr gz gn fr, bPT g PT2_17, bPL g PL2_18]) H := hP
        have hD : va_D A (List.flatten [bDR g x ta o lo go tt lt mo fo ro fl9, bMem g mo qT qL it il ig mh me2_15 mx2_16 fT fL, bTown g o a pe wo tx ch jo tr dy sd f, bLog g go gr gz gn fr, bPT g PT2_17, bPL g PL2_18]) := hD
        refine W.widen (k := 2) (n := 12) (Nat.le_of_ble_eq_true rfl) (Nat.le_of_ble_eq_true rfl) ?_
        refine W.eq (g2 := F0 m 42 ls []) rfl ?_
        obtain ⟨hq19_0, hq19_1, hq19_2, hq19_3, hq19_4, hq19_5, hq19_6⟩ := hq19
        refine lv_aload_n hx hb dX11_plan_42 rfl (lv_at hl 0 rfl) ?_
        refine va_get (D := g.1) (ci := 9) (v := .ref o) (C := RX11) (T := TX11) (N := 10) hx hb hts izRX11 hown hK hP 0 rfl rfl 1 (by decide) (hts _ k538) (fun _ h9 => h9) rfl dX11_plan_43 ?_
        refine va_get (D := g.1) (ci := 7) (v := .ref (a 9)) (C := RX9) (T := TX9) (N := 19) hx hb hts izRX9 hown hK hP 4 rfl rfl 17 (by decide) (hts _ k645) (fun _ h9 => h9) rfl dX11_plan_46 ?_
        refine lv_iload_n hx hb dX11_plan_49 rfl (lv_at hl 1 rfl) ?_
        refine lv_iconst (v := 0) hx hb dX11_plan_50 (by decide) ?_
        refine va_iast hx hb hK hP hD hS 14 0 rfl rfl (zinK (a := 0) (b := 5) hq1_0.1 hq1_0.2 (by decide)) dX11_plan_51 (fun H locs hP hD hS => ?_)
        obtain ⟨f20, rf20, hP, hD⟩ : ∃ f20 : Nat → Nat → Int32, zZ4 f20 ∧ va_P g.1 vwCl (List.flatten [bDR g x ta o lo go tt lt mo fo ro fl9, bMem g mo qT qL it il ig mh me2_15 mx2_16 fT fL, bTown g o a pe wo tx ch jo tr dy sd f20, bLog g go gr gz gn fr, bPT g PT2_17, bPL g PL2_18]) H ∧ va_D A (List.flatten [bDR g x ta o lo go tt lt mo fo ro fl9, bMem g mo qT qL it il ig mh me2_15 mx2_16 fT fL, bTown g o a pe wo tx ch jo tr dy sd f20, bLog g go gr gz gn fr, bPT g PT2_17, bPL g PL2_18]) := ⟨zu f 9 (upd (f 9) ww.toNatClampNeg 0), (zZ4_u rf (by decide)), hP, hD⟩
        have hP : va_P g.1 vwCl (List.flatten [bDR g x ta o lo go tt lt mo fo ro fl9, bMem g mo qT qL it il ig mh me2_15 mx2_16 fT fL, bTown g o a pe wo tx ch jo tr dy sd f20, bLog g go gr gz gn fr, bPT g PT2_17, bPL g PL2_18]) H := hP
        have hD : va_D A (List.flatten [bDR g x ta o lo go tt lt mo fo ro fl9, bMem g mo qT qL it il ig mh me2_15 mx2_16 fT fL, bTown g o a pe wo tx ch jo tr dy sd f20, bLog g go gr gz gn fr, bPT g PT2_17, bPL g PL2_18]) := hD
        obtain ⟨hP, hD⟩ := zord (g := g) (Bs' := [bDR g x ta o lo go tt lt mo fo ro fl9, bTown g o a pe wo tx ch jo tr dy sd f20, bLog g go gr gz gn fr, bMem g mo qT qL it il ig mh me2_15 mx2_16 fT fL, bPT g PT2_17, bPL g PL2_18]) [0, 2, 3, 1, 4, 5] rfl rfl hP hD
        exact zret_v hx hb hr hlocks hS (Nat.le_of_ble_eq_true rfl) (Nat.le_of_ble_eq_true rfl) dX11_plan_52 (f20, me2_15, mx2_16, PT2_17, PL2_18) rfl (show (zZ4 f20) ∧ (0 ≤ me2_15.toInt ∧ me2_15.toInt ≤ 12) ∧ (0 ≤ mx2_16.toInt ∧ mx2_16.toInt ≤ 11) ∧ (zPT fT PT2_17) ∧ (zPL fL PL2_18) ∧ (zRk PT PT2_17 me.toInt me2_15.toInt mx.toInt mx2_16.toInt pe.toInt wo.toInt tx.toInt) from ⟨rf20, hq19_0, hq19_1, hq19_2, hq19_3, (Or.inr ⟨hq19_4, hq19_5, hq19_6⟩)⟩) hP hD
set_option maxRecDepth 100000 in
set_option maxHeartbeats 4000000 in
theorem c_x_send (l : Launch) (hfl : l.stackTraces = false) (g : zG) (x : Nat) (ta : Nat) (o : Nat) (lo : Nat) (go : Nat) (tt : Nat) (lt : Nat) (mo : Nat) (fo : Nat) (ro : Nat) (fl9 : Int32) (a : Nat → Nat) (pe : Int32) (wo : Int32) (tx : Int32) (ch : Int32) (jo : Int32) (tr : Int32) (dy : Int32) (sd : Int32) (f : Nat → Nat → Int32) (gr : Nat) (gz : Int32) (gn : Int32) (fr : Nat → Int32) (qT : Nat) (qL : Nat) (it : Nat) (il : Nat) (ig : Nat) (mh : Int32) (me : Int32) (mx : Int32) (fT : Nat → Option Nat) (fL : Nat → Option Nat) (PT : Nat → zTR) (PL : Nat → zLR) (pp : Int32) (b_pe : 0 ≤ pe.toInt ∧ pe.toInt ≤ 8) (b_wo : 0 ≤ wo.toInt ∧ wo.toInt ≤ 6) (rf : zZ4 f) (b_gz : 0 ≤ gz.toInt ∧ gz.toInt ≤ 60) (b_gn : 0 ≤ gn.toInt ∧ gn.toInt ≤ 59) (b_me : 0 ≤ me.toInt ∧ me.toInt ≤ 12) (b_mx : 0 ≤ mx.toInt ∧ mx.toInt ≤ 11) (hPT : zPT fT PT) (hPL : zPL fL PL) : zX' g l yX11_send (Cond.code yX11_send cX11_send 2 (some .int) :: zB) ({ frames := 8, cells := 2, slots := 12, locals := 124 } : Room) [.ref x, .int pp] [bDR g x ta o lo go tt lt mo fo ro fl9, bTown g o a pe wo tx ch jo tr dy sd f, bLog g go gr gz gn fr, bMem g mo qT qL it il ig mh me mx fT fL, bPT g PT, bPL g PL] (fun u : (Nat → Nat → Int32) × Int32 × Int32 × (Nat → zTR) × (Nat → zLR) × Int32 => (fun (f2 : Nat → Nat → Int32) (me2 : Int32) (mx2 : Int32) (PT2 : Nat → zTR) (PL2 : Nat → zLR) (q : Int32) => some (.int q)) (u.1) (u.2.1) (u.2.2.1) (u.2.2.2.1) (u.2.2.2.2.1) (u.2.2.2.2.2)) (fun u : (Nat → Nat → Int32) × Int32 × Int32 × (Nat → zTR) × (Nat → zLR) × Int32 => (fun (f2 : Nat → Nat → Int32) (me2 : Int32) (mx2 : Int32) (PT2 : Nat → zTR) (PL2 : Nat → zLR) (q : Int32) => (zZ4 f2) ∧ (0 ≤ me2.toInt ∧ me2.toInt ≤ 12) ∧ (0 ≤ mx2.toInt ∧ mx2.toInt ≤ 11) ∧ (zPT fT PT2) ∧ (zPL fL PL2) ∧ (zRk PT PT2 me.toInt me2.toInt mx.toInt mx2.toInt pe.toInt wo.toInt tx.toInt)) (u.1) (u.2.1) (u.2.2.1) (u.2.2.2.1) (u.2.2.2.2.1) (u.2.2.2.2.2)) (fun u : (Nat → Nat → Int32) × Int32 × Int32 × (Nat → zTR) × (Nat → zLR) × Int32 => (fun (f2 : Nat → Nat → Int32) (me2 : Int32) (mx2 : Int32) (PT2 : Nat → zTR) (PL2 : Nat → zLR) (q : Int32) => [bDR g x ta o lo go tt lt mo fo ro fl9, bTown g o a pe wo tx ch jo tr dy sd f2, bLog g go gr gz gn fr, bMem g mo qT qL it il ig mh me2 mx2 fT fL, bPT g PT2, bPL g PL2]) (u.1) (u.2.1) (u.2.2.1) (u.2.2.2.1) (u.2.2.2.2.1) (u.2.2.2.2.2)) (fun (E : String) => fun u : (Nat → Nat → Int32) × Int32 × Int32 × (Nat → zTR) × (Nat → zLR) => (fun (f2 : Nat → Nat → Int32) (me2 : Int32) (mx2 : Int32) (PT2 : Nat → zTR) (PL2 : Nat → zLR) => (E = "java/lang/IndexOutOfBoundsException" ∨ E = "java/lang/IllegalStateException") ∧ (zZ4 f2) ∧ (0 ≤ me2.toInt ∧ me2.toInt ≤ 12) ∧ (0 ≤ mx2.toInt ∧ mx2.toInt ≤ 11) ∧ (zPT fT PT2) ∧ (zPL fL PL2) ∧ (zRk PT PT2 me.toInt me2.toInt mx.toInt mx2.toInt pe.toInt wo.toInt tx.toInt)) (u.1) (u.2.1) (u.2.2.1) (u.2.2.2.1) (u.2.2.2.2)) (fun u : (Nat → Nat → Int32) × Int32 × Int32 × (Nat → zTR) × (Nat → zLR) => (fun (f2 : Nat → Nat → Int32) (me2 : Int32) (mx2 : Int32) (PT2 : Nat → zTR) (PL2 : Nat → zLR) => [bDR g x ta o lo go tt lt mo fo ro fl9, bTown g o a pe wo tx ch jo tr dy sd f2, bLog g go gr gz gn fr, bMem g mo qT qL it il ig mh me2 mx2 fT fL, bPT g PT2, bPL g PL2]) (u.1) (u.2.1) (u.2.2.1) (u.2.2.2.1) (u.2.2.2.2)) := by
  refine zX'.of (cc := cX11_send) (maxL := 2) (rt := (some .int)) (by decide) rfl (Nat.le_of_ble_eq_true rfl) ?_
  intro p e s m args below meth c A ls St hr hlocks htab hin hK hT hA hP hD hS hl
  obtain ⟨hx, hb, hml, hown, hts⟩ := id St
  have hl : lv_has ls 2 [(0, .ref x), (1, .int pp)] := hl
  refine lv_aload_n hx hb dX11_send_0 rfl (lv_at hl 0 rfl) ?_
  refine lv_iload_n hx hb dX11_send_1 rfl (lv_at hl 1 rfl) ?_
  refine xcallV' (g := g) (q0 := 0) (ci := 9) (As := [.int pp]) (rest := []) St hK hT hA hP hD hS hl.1 [0, 1] [2, 3, 4, 5] rfl rfl rfl (c_x_needPerson l hfl g x ta o lo go tt lt mo fo ro fl9 a pe wo tx ch jo tr dy sd f pp b_pe b_wo rf) (cwV 1 hts (zgL (zl4 k618 k619 k620 k621) k607) rfl rfl rfl (by decide +kernel) ⟨Nat.le_of_ble_eq_true rfl, Nat.le_of_ble_eq_true rfl⟩) rfl rfl rfl rfl (Nat.le_of_ble_eq_true rfl) dX11_send_2 ⟨(Nat.le_of_ble_eq_true rfl), (Nat.le_of_ble_eq_true rfl)⟩ (fun E ce q9 u9 H locs hpx hP hD hS hce hcv hcl => ?_) (fun _u H locs hq1 hP hD hS => ?_)
  · skip
    have hpx : (E = "java/lang/IndexOutOfBoundsException") := hpx
    have hP : va_P g.1 vwCl (List.flatten [bLog g go gr gz gn fr, bMem g mo qT qL it il ig mh me mx fT fL, bPT g PT, bPL g PL, bDR g x ta o lo go tt lt mo fo ro fl9, bTown g o a pe wo tx ch jo tr dy sd f]) H := hP
    have hD : va_D A (List.flatten [bLog g go gr gz gn fr, bMem g mo qT qL it il ig mh me mx fT fL, bPT g PT, bPL g PL, bDR g x ta o lo go tt lt mo fo ro fl9, bTown g o a pe wo tx ch jo tr dy sd f]) := hD
    have hP : va_P g.1 vwCl (List.flatten [bLog g go gr gz gn fr, bMem g mo qT qL it il ig mh me mx fT fL, bPT g PT, bPL g PL, bDR g x ta o lo go tt lt mo fo ro fl9, bTown g o a pe wo tx ch jo tr dy sd f]) H := hP
    have hD : va_D A (List.flatten [bLog g go gr gz gn fr, bMem g mo qT qL it il ig mh me mx fT fL, bPT g PT, bPL g PL, bDR g x ta o lo go tt lt mo fo ro fl9, bTown g o a pe wo tx ch jo tr dy sd f]) := hD
    obtain ⟨hP, hD⟩ := zord (g := g) (Bs' := [bLog g go gr gz gn fr, bMem g mo qT qL it il ig mh me mx fT fL, bDR g x ta o lo go tt lt mo fo ro fl9, bTown g o a pe wo tx ch jo tr dy sd f, bPT g PT, bPL g PL]) [0, 1, 4, 5, 2, 3] rfl rfl hP hD
    have hP : va_P g.1 vwCl (List.flatten [bLog g go gr gz gn fr, bMem g mo qT qL it il ig mh me mx fT fL, bDR g x ta o lo go tt lt mo fo ro fl9, bTown g o a pe wo tx ch jo tr dy sd f, bPT g PT, bPL g PL]) H := hP
    have hD : va_D A (List.flatten [bLog g go gr gz gn fr, bMem g mo qT qL it il ig mh me mx fT fL, bDR g x ta o lo go tt lt mo fo ro fl9, bTown g o a pe wo tx ch jo tr dy sd f, bPT g PT, bPL g PL]) := hD
    obtain ⟨hP, hD⟩ := zord (g := g) (Bs' := [bDR g x ta o lo go tt lt mo fo ro fl9, bTown g o a pe wo tx ch jo tr dy sd f, bLog g go gr gz gn fr, bMem g mo qT qL it il ig mh me mx fT fL, bPT g PT, bPL g PL]) [2, 3, 0, 1, 4, 5] rfl rfl hP hD
    exact zout htab hlocks hS (Nat.le_of_ble_eq_true rfl) (Nat.le_of_ble_eq_true rfl) hce hcv hcl (f, me, mx, PT, PL) (show (E = "java/lang/IndexOutOfBoundsException" ∨ E = "java/lang/IllegalStateException") ∧ (zZ4 f) ∧ (0 ≤ me.toInt ∧ me.toInt ≤ 12) ∧ (0 ≤ mx.toInt ∧ mx.toInt ≤ 11) ∧ (zPT fT PT) ∧ (zPL fL PL) ∧ (zRk PT PT me.toInt me.toInt mx.toInt mx.toInt pe.toInt wo.toInt tx.toInt) from ⟨(Or.inl hpx), (show zZ4 f from rf), (show 0 ≤ me.toInt ∧ me.toInt ≤ 12 from b_me), (show 0 ≤ mx.toInt ∧ mx.toInt ≤ 11 from b_mx), (show zPT fT PT from hPT), (show zPL fL PL from hPL), (show zRk PT PT me.toInt me.toInt mx.toInt mx.toInt pe.toInt wo.toInt tx.toInt from zRk_0)⟩) hP hD
  · skip
    replace hq1 : (0 ≤ pp.toInt ∧ pp.toInt ≤ 7) ∧ (pp.toInt < pe.toInt) := hq1
    have hP : va_P g.1 vwCl (List.flatten [bLog g go gr gz gn fr, bMem g mo qT qL it il ig mh me mx fT fL, bPT g PT, bPL g PL, bDR g x ta o lo go tt lt mo fo ro fl9, bTown g o a pe wo tx ch jo tr dy sd f]) H := hP
    have hD : va_D A (List.flatten [bLog g go gr gz gn fr, bMem g mo qT qL it il ig mh me mx fT fL, bPT g PT, bPL g PL, bDR g x ta o lo go tt lt mo fo ro fl9, bTown g o a pe wo tx ch jo tr dy sd f]) := hD
    refine W.widen (k := 1) (n := 6) (Nat.le_of_ble_eq_true rfl) (Nat.le_of_ble_eq_true rfl) ?_
    refine W.eq (g2 := F0 m 5 ls []) rfl ?_
    have hP : va_P g.1 vwCl (List.flatten [bLog g go gr gz gn fr, bMem g mo qT qL it il ig mh me mx fT fL, bPT g PT, bPL g PL, bDR g x ta o lo go tt lt mo fo ro fl9, bTown g o a pe wo tx ch jo tr dy sd f]) H := hP
    have hD : va_D A (List.flatten [bLog g go gr gz gn fr, bMem g mo qT qL it il ig mh me mx fT fL, bPT g PT, bPL g PL, bDR g x ta o lo go tt lt mo fo ro fl9, bTown g o a pe wo tx ch jo tr dy sd f]) := hD
    obtain ⟨hP, hD⟩ := zord (g := g) (Bs' := [bLog g go gr gz gn fr, bMem g mo qT qL it il ig mh me mx fT fL, bDR g x ta o lo go tt lt mo fo ro fl9, bTown g o a pe wo tx ch jo tr dy sd f, bPT g PT, bPL g PL]) [0, 1, 4, 5, 2, 3] rfl rfl hP hD
    obtain ⟨hq1_0, hq1_1⟩ := hq1
    refine lv_aload_n hx hb dX11_send_5 rfl (lv_at hl 0 rfl) ?_
    refine lv_iload_n hx hb dX11_send_6 rfl (lv_at hl 1 rfl) ?_
    refine xcallV' (g := g) (q0 := 0) (ci := 9) (As := [.int pp]) (rest := []) St hK hT hA hP hD hS hl.1 [2, 3] [0, 1, 4, 5] rfl rfl rfl (c_x_needHere l hfl g x ta o lo go tt lt mo fo ro fl9 a pe wo tx ch jo tr dy sd f pp b_pe b_wo rf hq1_0) (cwV 1 hts (zgL (zl4 k659 k660 k661 k621) k654) rfl rfl rfl (by decide +kernel) ⟨Nat.le_of_ble_eq_true rfl, Nat.le_of_ble_eq_true rfl⟩) rfl rfl rfl rfl (Nat.le_of_ble_eq_true rfl) dX11_send_7 ⟨(Nat.le_of_ble_eq_true rfl), (Nat.le_of_ble_eq_true rfl)⟩ (fun E ce q9 u9 H locs hpx hP hD hS hce hcv hcl => ?_) (fun _u H locs hq2 hP hD hS => ?_)
    · skip
      have hpx : (E = "java/lang/IllegalStateException") := hpx
      have hP : va_P g.1 vwCl (List.flatten [bLog g go gr gz gn fr, bMem g mo qT qL it il ig mh me mx fT fL, bPT g PT, bPL g PL, bDR g x ta o lo go tt lt mo fo ro fl9, bTown g o a pe wo tx ch jo tr dy sd f]) H := hP
      have hD : va_D A (List.flatten [bLog g go gr gz gn fr, bMem g mo qT qL it il ig mh me mx fT fL, bPT g PT, bPL g PL, bDR g x ta o lo go tt lt mo fo ro fl9, bTown g o a pe wo tx ch jo tr dy sd f]) := hD
      have hP : va_P g.1 vwCl (List.flatten [bLog g go gr gz gn fr, bMem g mo qT qL it il ig mh me mx fT fL, bPT g PT, bPL g PL, bDR g x ta o lo go tt lt mo fo ro fl9, bTown g o a pe wo tx ch jo tr dy sd f]) H := hP
      have hD : va_D A (List.flatten [bLog g go gr gz gn fr, bMem g mo qT qL it il ig mh me mx fT fL, bPT g PT, bPL g PL, bDR g x ta o lo go tt lt mo fo ro fl9, bTown g o a pe wo tx ch jo tr dy sd f]) := hD
      obtain ⟨hP, hD⟩ := zord (g := g) (Bs' := [bLog g go gr gz gn fr, bMem g mo qT qL it il ig mh me mx fT fL, bDR g x ta o lo go tt lt mo fo ro fl9, bTown g o a pe wo tx ch jo tr dy sd f, bPT g PT, bPL g PL]) [0, 1, 4, 5, 2, 3] rfl rfl hP hD
      have hP : va_P g.1 vwCl (List.flatten [bLog g go gr gz gn fr, bMem g mo qT qL it il ig mh me mx fT fL, bDR g x ta o lo go tt lt mo fo ro fl9, bTown g o a pe wo tx ch jo tr dy sd f, bPT g PT, bPL g PL]) H := hP
      have hD : va_D A (List.flatten [bLog g go gr gz gn fr, bMem g mo qT qL it il ig mh me mx fT fL, bDR g x ta o lo go tt lt mo fo ro fl9, bTown g o a pe wo tx ch jo tr dy sd f, bPT g PT, bPL g PL]) := hD
      obtain ⟨hP, hD⟩ := zord (g := g) (Bs' := [bDR g x ta o lo go tt lt mo fo ro fl9, bTown g o a pe wo tx ch jo tr dy sd f, bLog g go gr gz gn fr, bMem g mo qT qL it il ig mh me mx fT fL, bPT g PT, bPL g PL]) [2, 3, 0, 1, 4, 5] rfl rfl hP hD
      exact zout htab hlocks hS (Nat.le_of_ble_eq_true rfl) (Nat.le_of_ble_eq_true rfl) hce hcv hcl (f, me, mx, PT, PL) (show (E = "java/lang/IndexOutOfBoundsException" ∨ E = "java/lang/IllegalStateException") ∧ (zZ4 f) ∧ (0 ≤ me.toInt ∧ me.toInt ≤ 12) ∧ (0 ≤ mx.toInt ∧ mx.toInt ≤ 11) ∧ (zPT fT PT) ∧ (zPL fL PL) ∧ (zRk PT PT me.toInt me.toInt mx.toInt mx.toInt pe.toInt wo.toInt tx.toInt) from ⟨(Or.inr hpx), (show zZ4 f from rf), (show 0 ≤ me.toInt ∧ me.toInt ≤ 12 from b_me), (show 0 ≤ mx.toInt ∧ mx.toInt ≤ 11 from b_mx), (show zPT fT PT from hPT), (show zPL fL PL from hPL), (show zRk PT PT me.toInt me.toInt mx.toInt mx.toInt pe.toInt wo.toInt tx.toInt from zRk_0)⟩) hP hD
    · skip
      have hP : va_P g.1 vwCl (List.flatten [bLog g go gr gz gn fr, bMem g mo qT qL it il ig mh me mx fT fL, bPT g PT, bPL g PL, bDR g x ta o lo go tt lt mo fo ro fl9, bTown g o a pe wo tx ch jo tr dy sd f]) H := hP
      have hD : va_D A (List.flatten [bLog g go gr gz gn fr, bMem g mo qT qL it il ig mh me mx fT fL, bPT g PT, bPL g PL, bDR g x ta o lo go tt lt mo fo ro fl9, bTown g o a pe wo tx ch jo tr dy sd f]) := hD
      refine W.widen (k := 2) (n := 12) (Nat.le_of_ble_eq_true rfl) (Nat.le_of_ble_eq_true rfl) ?_
      refine W.eq (g2 := F0 m 10 ls []) rfl ?_
      have hP : va_P g.1 vwCl (List.flatten [bLog g go gr gz gn fr, bMem g mo qT qL it il ig mh me mx fT fL, bPT g PT, bPL g PL, bDR g x ta o lo go tt lt mo fo ro fl9, bTown g o a pe wo tx ch jo tr dy sd f]) H := hP
      have hD : va_D A (List.flatten [bLog g go gr gz gn fr, bMem g mo qT qL it il ig mh me mx fT fL, bPT g PT, bPL g PL, bDR g x ta o lo go tt lt mo fo ro fl9, bTown g o a pe wo tx ch jo tr dy sd f]) := hD
      obtain ⟨hP, hD⟩ := zord (g := g) (Bs' := [bLog g go gr gz gn fr, bMem g mo qT qL it il ig mh me mx fT fL, bDR g x ta o lo go tt lt mo fo ro fl9, bTown g o a pe wo tx ch jo tr dy sd f, bPT g PT, bPL g PL]) [0, 1, 4, 5, 2, 3] rfl rfl hP hD
      refine lv_aload_n hx hb dX11_send_10 rfl (lv_at hl 0 rfl) ?_
      refine va_get (D := g.1) (ci := 9) (v := .ref mo) (C := RX11) (T := TX11) (N := 10) hx hb hts izRX11 hown hK hP 5 rfl rfl 6 (by decide) (hts _ k551) (fun _ h9 => h9) rfl dX11_send_11 ?_
      refine lv_aload_n hx hb dX11_send_14 rfl (lv_at hl 0 rfl) ?_
      refine va_get (D := g.1) (ci := 9) (v := .ref o) (C := RX11) (T := TX11) (N := 10) hx hb hts izRX11 hown hK hP 5 rfl rfl 1 (by decide) (hts _ k538) (fun _ h9 => h9) rfl dX11_send_15 ?_
      refine lv_aload_n hx hb dX11_send_18 rfl (lv_at hl 0 rfl) ?_
      refine va_get (D := g.1) (ci := 9) (v := .ref go) (C := RX11) (T := TX11) (N := 10) hx hb hts izRX11 hown hK hP 5 rfl rfl 3 (by decide) (hts _ k542) (fun _ h9 => h9) rfl dX11_send_19 ?_
      refine mcallV' (g := g) (q0 := 0) (ci := 4) (As := [.ref o, .ref go]) (rest := []) St hK hT hA hP hD hS hl.1 [1, 3, 0, 4, 5] [2] rfl rfl rfl (c_m_remember l g mo qT qL it il ig mh me mx fT fL o a pe wo tx ch jo tr dy sd f go gr gz gn fr PT PL b_me b_mx b_pe b_wo rf b_gz b_gn hPT hPL) (cwV 2 hts (zgL (zl4 k662 k663 k664 k378) k367) rfl rfl rfl (by decide +kernel) ⟨Nat.le_of_ble_eq_true rfl, Nat.le_of_ble_eq_true rfl⟩) rfl rfl rfl rfl (Nat.le_of_ble_eq_true rfl) dX11_send_22 ⟨(Nat.le_of_ble_eq_true rfl), (Nat.le_of_ble_eq_true rfl)⟩ (fun u_ H locs hq7 hP hD hS => ?_)
      obtain ⟨me2_3, mx2_4, PT2_5, PL2_6⟩ := u_
      replace hq7 : (0 ≤ me2_3.toInt ∧ me2_3.toInt ≤ 12) ∧ (0 ≤ mx2_4.toInt ∧ mx2_4.toInt ≤ 11) ∧ (zPT fT PT2_5) ∧ (zPL fL PL2_6) ∧ (me2_3.toInt = min (me.toInt + 1) 12) ∧ (mx2_4.toInt = (mx.toInt + 1) % 12) ∧ (zPk PT PT2_5 mx.toInt.toNat pe.toInt wo.toInt tx.toInt) := hq7
      have hP : va_P g.1 vwCl (List.flatten [bDR g x ta o lo go tt lt mo fo ro fl9, bMem g mo qT qL it il ig mh me2_3 mx2_4 fT fL, bTown g o a pe wo tx ch jo tr dy sd f, bLog g go gr gz gn fr, bPT g PT2_5, bPL g PL2_6]) H := hP
      have hD : va_D A (List.flatten [bDR g x ta o lo go tt lt mo fo ro fl9, bMem g mo qT qL it il ig mh me2_3 mx2_4 fT fL, bTown g o a pe wo tx ch jo tr dy sd f, bLog g go gr gz gn fr, bPT g PT2_5, bPL g PL2_6]) := hD
      refine W.widen (k := 2) (n := 12) (Nat.le_of_ble_eq_true rfl) (Nat.le_of_ble_eq_true rfl) ?_
      refine W.eq (g2 := F0 m 25 ls []) rfl ?_
      obtain ⟨hq7_0, hq7_1, hq7_2, hq7_3, hq7_4, hq7_5, hq7_6⟩ := hq7
      refine lv_aload_n hx hb dX11_send_25 rfl (lv_at hl 0 rfl) ?_
      refine va_get (D := g.1) (ci := 9) (v := .ref o) (C := RX11) (T := TX11) (N := 10) hx hb hts izRX11 hown hK hP 0 rfl rfl 1 (by decide) (hts _ k538) (fun _ h9 => h9) rfl dX11_send_26 ?_
      refine va_get (D := g.1) (ci := 7) (v := .ref (a 3)) (C := RX9) (T := TX9) (N := 19) hx hb hts izRX9 hown hK hP 4 rfl rfl 11 (by decide) (hts _ k617) (fun _ h9 => h9) rfl dX11_send_29 ?_
      refine lv_iload_n hx hb dX11_send_32 rfl (lv_at hl 1 rfl) ?_
      refine lv_aload_n hx hb dX11_send_33 rfl (lv_at hl 0 rfl) ?_
      refine va_get (D := g.1) (ci := 9) (v := .ref o) (C := RX11) (T := TX11) (N := 10) hx hb hts izRX11 hown hK hP 0 rfl rfl 1 (by decide) (hts _ k538) (fun _ h9 => h9) rfl dX11_send_34 ?_
      refine va_get (D := g.1) (ci := 7) (v := .int dy) (C := RX9) (T := TX9) (N := 19) hx hb hts izRX9 hown hK hP 4 rfl rfl 6 (by decide) (hts _ k674) (fun _ h9 => h9) rfl dX11_send_37 ?_
      refine lv_aload_n hx hb dX11_send_40 rfl (lv_at hl 0 rfl) ?_
      refine va_get (D := g.1) (ci := 9) (v := .ref o) (C := RX11) (T := TX11) (N := 10) hx hb hts izRX11 hown hK hP 0 rfl rfl 1 (by decide) (hts _ k538) (fun _ h9 => h9) rfl dX11_send_41 ?_
      refine va_get (D := g.1) (ci := 7) (v := .int jo) (C := RX9) (T := TX9) (N := 19) hx hb hts izRX9 hown hK hP 4 rfl rfl 4 (by decide) (hts _ k675) (fun _ h9 => h9) rfl dX11_send_44 ?_
      refine lv_iadd hx hb dX11_send_47 ?_
      refine zg (fun x_8 => ?_)
      refine va_iast hx hb hK hP hD hS 8 0 rfl rfl (zinK (a := 0) (b := 7) hq1_0.1 hq1_0.2 (by decide)) dX11_send_48 (fun H locs hP hD hS => ?_)
      obtain ⟨f9, rf9, hP, hD⟩ : ∃ f9 : Nat → Nat → Int32, zZ4 f9 ∧ va_P g.1 vwCl (List.flatten [bDR g x ta o lo go tt lt mo fo ro fl9, bMem g mo qT qL it il ig mh me2_3 mx2_4 fT fL, bTown g o a pe wo tx ch jo tr dy sd f9, bLog g go gr gz gn fr, bPT g PT2_5, bPL g PL2_6]) H ∧ va_D A (List.flatten [bDR g x ta o lo go tt lt mo fo ro fl9, bMem g mo qT qL it il ig mh me2_3 mx2_4 fT fL, bTown g o a pe wo tx ch jo tr dy sd f9, bLog g go gr gz gn fr, bPT g PT2_5, bPL g PL2_6]) := ⟨zu f 3 (upd (f 3) pp.toNatClampNeg x_8), (zZ4_u rf (by decide)), hP, hD⟩
      refine lv_aload_n hx hb dX11_send_49 rfl (lv_at hl 0 rfl) ?_
      refine va_get (D := g.1) (ci := 9) (v := .ref o) (C := RX11) (T := TX11) (N := 10) hx hb hts izRX11 hown hK hP 0 rfl rfl 1 (by decide) (hts _ k538) (fun _ h9 => h9) rfl dX11_send_50 ?_
      refine va_get (D := g.1) (ci := 7) (v := .ref (a 3)) (C := RX9) (T := TX9) (N := 19) hx hb hts izRX9 hown hK hP 4 rfl rfl 11 (by decide) (hts _ k617) (fun _ h9 => h9) rfl dX11_send_53 ?_
      refine lv_iload_n hx hb dX11_send_56 rfl (lv_at hl 1 rfl) ?_
      refine va_iald hx hb hK hP 8 0 rfl rfl (zinK (a := 0) (b := 7) hq1_0.1 hq1_0.2 (by decide)) dX11_send_57 ?_
      refine zg (fun x_10 => ?_)
      have hP : va_P g.1 vwCl (List.flatten [bDR g x ta o lo go tt lt mo fo ro fl9, bMem g mo qT qL it il ig mh me2_3 mx2_4 fT fL, bTown g o a pe wo tx ch jo tr dy sd f9, bLog g go gr gz gn fr, bPT g PT2_5, bPL g PL2_6]) H := hP
      have hD : va_D A (List.flatten [bDR g x ta o lo go tt lt mo fo ro fl9, bMem g mo qT qL it il ig mh me2_3 mx2_4 fT fL, bTown g o a pe wo tx ch jo tr dy sd f9, bLog g go gr gz gn fr, bPT g PT2_5, bPL g PL2_6]) := hD
      obtain ⟨hP, hD⟩ := zord (g := g) (Bs' := [bDR g x ta o lo go tt lt mo fo ro fl9, bTown g o a pe wo tx ch jo tr dy sd f9, bLog g go gr gz gn fr, bMem g mo qT qL it il ig mh me2_3 mx2_4 fT fL, bPT g PT2_5, bPL g PL2_6]) [0, 2, 3, 1, 4, 5] rfl rfl hP hD
      exact zret_i hx hb hr hlocks hS (Nat.le_of_ble_eq_true rfl) (Nat.le_of_ble_eq_true rfl) dX11_send_58 (f9, me2_3, mx2_4, PT2_5, PL2_6, x_10) rfl (show (zZ4 f9) ∧ (0 ≤ me2_3.toInt ∧ me2_3.toInt ≤ 12) ∧ (0 ≤ mx2_4.toInt ∧ mx2_4.toInt ≤ 11) ∧ (zPT fT PT2_5) ∧ (zPL fL PL2_6) ∧ (zRk PT PT2_5 me.toInt me2_3.toInt mx.toInt mx2_4.toInt pe.toInt wo.toInt tx.toInt) from ⟨rf9, hq7_0, hq7_1, hq7_2, hq7_3, (Or.inr ⟨hq7_4, hq7_5, hq7_6⟩)⟩) hP hD
set_option maxRecDepth 100000 in
set_option maxHeartbeats 4000000 in
theorem c_x_buy (l : Launch) (hfl : l.stackTraces = false) (g : zG) (x : Nat) (ta : Nat) (o : Nat) (lo : Nat) (go : Nat) (tt : Nat) (lt : Nat) (mo : Nat) (fo : Nat) (ro : Nat) (fl9 : Int32) (a : Nat → Nat) (pe : Int32) (wo : Int32) (tx : Int32) (ch : Int32) (jo : Int32) (tr : Int32) (dy : Int32) (sd : Int32) (f : Nat → Nat → Int32) (gr : Nat) (gz : Int32) (gn : Int32) (fr : Nat → Int32) (qT : Nat) (qL : Nat) (it : Nat) (il : Nat) (ig : Nat) (mh : Int32) (me : Int32) (mx : Int32) (fT : Nat → Option Nat) (fL : Nat → Option Nat) (PT : Nat → zTR) (PL : Nat → zLR) (pp : Int32) (n : Int32) (b_pe : 0 ≤ pe.toInt ∧ pe.toInt ≤ 8) (b_wo : 0 ≤ wo.toInt ∧ wo.toInt ≤ 6) (rf : zZ4 f) (b_gz : 0 ≤ gz.toInt ∧ gz.toInt ≤ 60) (b_gn : 0 ≤ gn.toInt ∧ gn.toInt ≤ 59) (b_me : 0 ≤ me.toInt ∧ me.toInt ≤ 12) (b_mx : 0 ≤ mx.toInt ∧ mx.toInt ≤ 11) (hPT : zPT fT PT) (hPL : zPL fL PL) : zX' g l yX11_buy (Cond.code yX11_buy cX11_buy 4 (some .int) :: zB) ({ frames := 7, cells := 3, slots := 18, locals := 105 } : Room) [.ref x, .int pp, .int n] [bDR g x ta o lo go tt lt mo fo ro fl9, bTown g o a pe wo tx ch jo tr dy sd f, bLog g go gr gz gn fr, bMem g mo qT qL it il ig mh me mx fT fL, bPT g PT, bPL g PL] (fun u : (Nat → Nat → Int32) × Int32 × Int32 × Int32 × (Nat → zTR) × (Nat → zLR) × Int32 => (fun (f2 : Nat → Nat → Int32) (ch2 : Int32) (me2 : Int32) (mx2 : Int32) (PT2 : Nat → zTR) (PL2 : Nat → zLR) (q : Int32) => some (.int q)) (u.1) (u.2.1) (u.2.2.1) (u.2.2.2.1) (u.2.2.2.2.1) (u.2.2.2.2.2.1) (u.2.2.2.2.2.2)) (fun u : (Nat → Nat → Int32) × Int32 × Int32 × Int32 × (Nat → zTR) × (Nat → zLR) × Int32 => (fun (f2 : Nat → Nat → Int32) (ch2 : Int32) (me2 : Int32) (mx2 : Int32) (PT2 : Nat → zTR) (PL2 : Nat → zLR) (q : Int32) => (zZ4 f2) ∧ (0 ≤ me2.toInt ∧ me2.toInt ≤ 12) ∧ (0 ≤ mx2.toInt ∧ mx2.toInt ≤ 11) ∧ (zPT fT PT2) ∧ (zPL fL PL2) ∧ (zRk PT PT2 me.toInt me2.toInt mx.toInt mx2.toInt pe.toInt wo.toInt tx.toInt)) (u.1) (u.2.1) (u.2.2.1) (u.2.2.2.1) (u.2.2.2.2.1) (u.2.2.2.2.2.1) (u.2.2.2.2.2.2)) (fun u : (Nat → Nat → Int32) × Int32 × Int32 × Int32 × (Nat → zTR) × (Nat → zLR) × Int32 => (fun (f2 : Nat → Nat → Int32) (ch2 : Int32) (me2 : Int32) (mx2 : Int32) (PT2 : Nat → zTR) (PL2 : Nat → zLR) (q : Int32) => [bDR g x ta o lo go tt lt mo fo ro fl9, bTown g o a pe wo tx ch2 jo tr dy sd f2, bLog g go gr gz gn fr, bMem g mo qT qL it il ig mh me2 mx2 fT fL, bPT g PT2, bPL g PL2]) (u.1) (u.2.1) (u.2.2.1) (u.2.2.2.1) (u.2.2.2.2.1) (u.2.2.2.2.2.1) (u.2.2.2.2.2.2)) (fun (E : String) => fun u : (Nat → Nat → Int32) × Int32 × Int32 × Int32 × (Nat → zTR) × (Nat → zLR) => (fun (f2 : Nat → Nat → Int32) (ch2 : Int32) (me2 : Int32) (mx2 : Int32) (PT2 : Nat → zTR) (PL2 : Nat → zLR) => (E = "java/lang/IndexOutOfBoundsException" ∨ E = "java/lang/IllegalArgumentException" ∨ E = "java/lang/IllegalStateException") ∧ (zZ4 f2) ∧ (0 ≤ me2.toInt ∧ me2.toInt ≤ 12) ∧ (0 ≤ mx2.toInt ∧ mx2.toInt ≤ 11) ∧ (zPT fT PT2) ∧ (zPL fL PL2) ∧ (zRk PT PT2 me.toInt me2.toInt mx.toInt mx2.toInt pe.toInt wo.toInt tx.toInt)) (u.1) (u.2.1) (u.2.2.1) (u.2.2.2.1) (u.2.2.2.2.1) (u.2.2.2.2.2)) (fun u : (Nat → Nat → Int32) × Int32 × Int32 × Int32 × (Nat → zTR) × (Nat → zLR) => (fun (f2 : Nat → Nat → Int32) (ch2 : Int32) (me2 : Int32) (mx2 : Int32) (PT2 : Nat → zTR) (PL2 : Nat → zLR) => [bDR g x ta o lo go tt lt mo fo ro fl9, bTown g o a pe wo tx ch2 jo tr dy sd f2, bLog g go gr gz gn fr, bMem g mo qT qL it il ig mh me2 mx2 fT fL, bPT g PT2, bPL g PL2]) (u.1) (u.2.1) (u.2.2.1) (u.2.2.2.1) (u.2.2.2.2.1) (u.2.2.2.2.2)) := by
  refine zX'.of (cc := cX11_buy) (maxL := 4) (rt := (some .int)) (by decide) rfl (Nat.le_of_ble_eq_true rfl) ?_
  intro p e s m args below meth c A ls St hr hlocks htab hin hK hT hA hP hD hS hl
  obtain ⟨hx, hb, hml, hown, hts⟩ := id St
  have hl : lv_has ls 4 [(0, .ref x), (1, .int pp), (2, .int n)] := hl
  refine lv_aload_n hx hb dX11_buy_0 rfl (lv_at hl 0 rfl) ?_
  refine lv_iload_n hx hb dX11_buy_1 rfl (lv_at hl 1 rfl) ?_
  refine xcallV' (g := g) (q0 := 0) (ci := 9) (As := [.int pp]) (rest := []) St hK hT hA hP hD hS hl.1 [0, 1] [2, 3, 4, 5] rfl rfl rfl (c_x_needPerson l hfl g x ta o lo go tt lt mo fo ro fl9 a pe wo tx ch jo tr dy sd f pp b_pe b_wo rf) (cwV 1 hts (zgL (zl4 k618 k619 k620 k621) k607) rfl rfl rfl (by decide +kernel) ⟨Nat.le_of_ble_eq_true rfl, Nat.le_of_ble_eq_true rfl⟩) rfl rfl rfl rfl (Nat.le_of_ble_eq_true rfl) dX11_buy_2 ⟨(Nat.le_of_ble_eq_true rfl), (Nat.le_of_ble_eq_true rfl)⟩ (fun E ce q9 u9 H locs hpx hP hD hS hce hcv hcl => ?_) (fun _u H locs hq1 hP hD hS => ?_)
  · skip
    have hpx : (E = "java/lang/IndexOutOfBoundsException") := hpx
    have hP : va_P g.1 vwCl (List.flatten [bLog g go gr gz gn fr, bMem g mo qT qL it il ig mh me mx fT fL, bPT g PT, bPL g PL, bDR g x ta o lo go tt lt mo fo ro fl9, bTown g o a pe wo tx ch jo tr dy sd f]) H := hP
    have hD : va_D A (List.flatten [bLog g go gr gz gn fr, bMem g mo qT qL it il ig mh me mx fT fL, bPT g PT, bPL g PL, bDR g x ta o lo go tt lt mo fo ro fl9, bTown g o a pe wo tx ch jo tr dy sd f]) := hD
    have hP : va_P g.1 vwCl (List.flatten [bLog g go gr gz gn fr, bMem g mo qT qL it il ig mh me mx fT fL, bPT g PT, bPL g PL, bDR g x ta o lo go tt lt mo fo ro fl9, bTown g o a pe wo tx ch jo tr dy sd f]) H := hP
    have hD : va_D A (List.flatten [bLog g go gr gz gn fr, bMem g mo qT qL it il ig mh me mx fT fL, bPT g PT, bPL g PL, bDR g x ta o lo go tt lt mo fo ro fl9, bTown g o a pe wo tx ch jo tr dy sd f]) := hD
    obtain ⟨hP, hD⟩ := zord (g := g) (Bs' := [bLog g go gr gz gn fr, bMem g mo qT qL it il ig mh me mx fT fL, bDR g x ta o lo go tt lt mo fo ro fl9, bTown g o a pe wo tx ch jo tr dy sd f, bPT g PT, bPL g PL]) [0, 1, 4, 5, 2, 3] rfl rfl hP hD
    have hP : va_P g.1 vwCl (List.flatten [bLog g go gr gz gn fr, bMem g mo qT qL it il ig mh me mx fT fL, bDR g x ta o lo go tt lt mo fo ro fl9, bTown g o a pe wo tx ch jo tr dy sd f, bPT g PT, bPL g PL]) H := hP
    have hD : va_D A (List.flatten [bLog g go gr gz gn fr, bMem g mo qT qL it il ig mh me mx fT fL, bDR g x ta o lo go tt lt mo fo ro fl9, bTown g o a pe wo tx ch jo tr dy sd f, bPT g PT, bPL g PL]) := hD
    obtain ⟨hP, hD⟩ := zord (g := g) (Bs' := [bDR g x ta o lo go tt lt mo fo ro fl9, bTown g o a pe wo tx ch jo tr dy sd f, bLog g go gr gz gn fr, bMem g mo qT qL it il ig mh me mx fT fL, bPT g PT, bPL g PL]) [2, 3, 0, 1, 4, 5] rfl rfl hP hD
    exact zout htab hlocks hS (Nat.le_of_ble_eq_true rfl) (Nat.le_of_ble_eq_true rfl) hce hcv hcl (f, ch, me, mx, PT, PL) (show (E = "java/lang/IndexOutOfBoundsException" ∨ E = "java/lang/IllegalArgumentException" ∨ E = "java/lang/IllegalStateException") ∧ (zZ4 f) ∧ (0 ≤ me.toInt ∧ me.toInt ≤ 12) ∧ (0 ≤ mx.toInt ∧ mx.toInt ≤ 11) ∧ (zPT fT PT) ∧ (zPL fL PL) ∧ (zRk PT PT me.toInt me.toInt mx.toInt mx.toInt pe.toInt wo.toInt tx.toInt) from ⟨(Or.inl hpx), (show zZ4 f from rf), (show 0 ≤ me.toInt ∧ me.toInt ≤ 12 from b_me), (show 0 ≤ mx.toInt ∧ mx.toInt ≤ 11 from b_mx), (show zPT fT PT from hPT), (show zPL fL PL from hPL), (show zRk PT PT me.toInt me.toInt mx.toInt mx.toInt pe.toInt wo.toInt tx.toInt from zRk_0)⟩) hP hD
  · skip
    replace hq1 : (0 ≤ pp.toInt ∧ pp.toInt ≤ 7) ∧ (pp.toInt < pe.toInt) := hq1
    have hP : va_P g.1 vwCl (List.flatten [bLog g go gr gz gn fr, bMem g mo qT qL it il ig mh me mx fT fL, bPT g PT, bPL g PL, bDR g x ta o lo go tt lt mo fo ro fl9, bTown g o a pe wo tx ch jo tr dy sd f]) H := hP
    have hD : va_D A (List.flatten [bLog g go gr gz gn fr, bMem g mo qT qL it il ig mh me mx fT fL, bPT g PT, bPL g PL, bDR g x ta o lo go tt lt mo fo ro fl9, bTown g o a pe wo tx ch jo tr dy sd f]) := hD
    refine W.widen (k := 1) (n := 6) (Nat.le_of_ble_eq_true rfl) (Nat.le_of_ble_eq_true rfl) ?_
    refine W.eq (g2 := F0 m 5 ls []) rfl ?_
    have hP : va_P g.1 vwCl (List.flatten [bLog g go gr gz gn fr, bMem g mo qT qL it il ig mh me mx fT fL, bPT g PT, bPL g PL, bDR g x ta o lo go tt lt mo fo ro fl9, bTown g o a pe wo tx ch jo tr dy sd f]) H := hP
    have hD : va_D A (List.flatten [bLog g go gr gz gn fr, bMem g mo qT qL it il ig mh me mx fT fL, bPT g PT, bPL g PL, bDR g x ta o lo go tt lt mo fo ro fl9, bTown g o a pe wo tx ch jo tr dy sd f]) := hD
    obtain ⟨hP, hD⟩ := zord (g := g) (Bs' := [bLog g go gr gz gn fr, bMem g mo qT qL it il ig mh me mx fT fL, bDR g x ta o lo go tt lt mo fo ro fl9, bTown g o a pe wo tx ch jo tr dy sd f, bPT g PT, bPL g PL]) [0, 1, 4, 5, 2, 3] rfl rfl hP hD
    obtain ⟨hq1_0, hq1_1⟩ := hq1
    refine lv_aload_n hx hb dX11_buy_5 rfl (lv_at hl 0 rfl) ?_
    refine lv_iload_n hx hb dX11_buy_6 rfl (lv_at hl 2 rfl) ?_
    refine lv_iconst (v := 1) hx hb dX11_buy_7 (by decide) ?_
    refine lv_bipush (v := 99) hx hb dX11_buy_8 (by decide) ?_
    refine xcallV' (g := g) (q0 := 0) (ci := 9) (As := [.int n, .int 1, .int 99]) (rest := []) St hK hT hA hP hD hS hl.1 [2] [0, 1, 3, 4, 5] rfl rfl rfl (c_x_nw_1_99 l hfl g x ta o lo go tt lt mo fo ro fl9 n ) (cwV 3 hts (zgL (zl4 k668 k669 k670 k621) k667) rfl rfl rfl (by decide +kernel) ⟨Nat.le_of_ble_eq_true rfl, Nat.le_of_ble_eq_true rfl⟩) rfl rfl rfl rfl (Nat.le_of_ble_eq_true rfl) dX11_buy_10 ⟨(Nat.le_of_ble_eq_true rfl), (Nat.le_of_ble_eq_true rfl)⟩ (fun E ce q9 u9 H locs hpx hP hD hS hce hcv hcl => ?_) (fun _u H locs hq2 hP hD hS => ?_)
    · skip
      have hpx : (E = "java/lang/IllegalArgumentException") := hpx
      have hP : va_P g.1 vwCl (List.flatten [bLog g go gr gz gn fr, bMem g mo qT qL it il ig mh me mx fT fL, bTown g o a pe wo tx ch jo tr dy sd f, bPT g PT, bPL g PL, bDR g x ta o lo go tt lt mo fo ro fl9]) H := hP
      have hD : va_D A (List.flatten [bLog g go gr gz gn fr, bMem g mo qT qL it il ig mh me mx fT fL, bTown g o a pe wo tx ch jo tr dy sd f, bPT g PT, bPL g PL, bDR g x ta o lo go tt lt mo fo ro fl9]) := hD
      have hP : va_P g.1 vwCl (List.flatten [bLog g go gr gz gn fr, bMem g mo qT qL it il ig mh me mx fT fL, bTown g o a pe wo tx ch jo tr dy sd f, bPT g PT, bPL g PL, bDR g x ta o lo go tt lt mo fo ro fl9]) H := hP
      have hD : va_D A (List.flatten [bLog g go gr gz gn fr, bMem g mo qT qL it il ig mh me mx fT fL, bTown g o a pe wo tx ch jo tr dy sd f, bPT g PT, bPL g PL, bDR g x ta o lo go tt lt mo fo ro fl9]) := hD
      obtain ⟨hP, hD⟩ := zord (g := g) (Bs' := [bLog g go gr gz gn fr, bMem g mo qT qL it il ig mh me mx fT fL, bTown g o a pe wo tx ch jo tr dy sd f, bDR g x ta o lo go tt lt mo fo ro fl9, bPT g PT, bPL g PL]) [0, 1, 2, 5, 3, 4] rfl rfl hP hD
      have hP : va_P g.1 vwCl (List.flatten [bLog g go gr gz gn fr, bMem g mo qT qL it il ig mh me mx fT fL, bTown g o a pe wo tx ch jo tr dy sd f, bDR g x ta o lo go tt lt mo fo ro fl9, bPT g PT, bPL g PL]) H := hP
      have hD : va_D A (List.flatten [bLog g go gr gz gn fr, bMem g mo qT qL it il ig mh me mx fT fL, bTown g o a pe wo tx ch jo tr dy sd f, bDR g x ta o lo go tt lt mo fo ro fl9, bPT g PT, bPL g PL]) := hD
      obtain ⟨hP, hD⟩ := zord (g := g) (Bs' := [bDR g x ta o lo go tt lt mo fo ro fl9, bTown g o a pe wo tx ch jo tr dy sd f, bLog g go gr gz gn fr, bMem g mo qT qL it il ig mh me mx fT fL, bPT g PT, bPL g PL]) [3, 2, 0, 1, 4, 5] rfl rfl hP hD
      exact zout htab hlocks hS (Nat.le_of_ble_eq_true rfl) (Nat.le_of_ble_eq_true rfl) hce hcv hcl (f, ch, me, mx, PT, PL) (show (E = "java/lang/IndexOutOfBoundsException" ∨ E = "java/lang/IllegalArgumentException" ∨ E = "java/lang/IllegalStateException") ∧ (zZ4 f) ∧ (0 ≤ me.toInt ∧ me.toInt ≤ 12) ∧ (0 ≤ mx.toInt ∧ mx.toInt ≤ 11) ∧ (zPT fT PT) ∧ (zPL fL PL) ∧ (zRk PT PT me.toInt me.toInt mx.toInt mx.toInt pe.toInt wo.toInt tx.toInt) from ⟨(Or.inr (Or.inl hpx)), (show zZ4 f from rf), (show 0 ≤ me.toInt ∧ me.toInt ≤ 12 from b_me), (show 0 ≤ mx.toInt ∧ mx.toInt ≤ 11 from b_mx), (show zPT fT PT from hPT), (show zPL fL PL from hPL), (show zRk PT PT me.toInt me.toInt mx.toInt mx.toInt pe.toInt wo.toInt tx.toInt from zRk_0)⟩) hP hD
    · skip
      replace hq2 : (1 ≤ n.toInt ∧ n.toInt ≤ 99) := hq2
      have hP : va_P g.1 vwCl (List.flatten [bLog g go gr gz gn fr, bMem g mo qT qL it il ig mh me mx fT fL, bTown g o a pe wo tx ch jo tr dy sd f, bPT g PT, bPL g PL, bDR g x ta o lo go tt lt mo fo ro fl9]) H := hP
      have hD : va_D A (List.flatten [bLog g go gr gz gn fr, bMem g mo qT qL it il ig mh me mx fT fL, bTown g o a pe wo tx ch jo tr dy sd f, bPT g PT, bPL g PL, bDR g x ta o lo go tt lt mo fo ro fl9]) := hD
      refine W.widen (k := 2) (n := 12) (Nat.le_of_ble_eq_true rfl) (Nat.le_of_ble_eq_true rfl) ?_
      refine W.eq (g2 := F0 m 13 ls []) rfl ?_
      have hP : va_P g.1 vwCl (List.flatten [bLog g go gr gz gn fr, bMem g mo qT qL it il ig mh me mx fT fL, bTown g o a pe wo tx ch jo tr dy sd f, bPT g PT, bPL g PL, bDR g x ta o lo go tt lt mo fo ro fl9]) H := hP
      have hD : va_D A (List.flatten [bLog g go gr gz gn fr, bMem g mo qT qL it il ig mh me mx fT fL, bTown g o a pe wo tx ch jo tr dy sd f, bPT g PT, bPL g PL, bDR g x ta o lo go tt lt mo fo ro fl9]) := hD
      obtain ⟨hP, hD⟩ := zord (g := g) (Bs' := [bLog g go gr gz gn fr, bMem g mo qT qL it il ig mh me mx fT fL, bTown g o a pe wo tx ch jo tr dy sd f, bDR g x ta o lo go tt lt mo fo ro fl9, bPT g PT, bPL g PL]) [0, 1, 2, 5, 3, 4] rfl rfl hP hD
      refine lv_iload_n hx hb dX11_buy_13 rfl (lv_at hl 2 rfl) ?_
      refine lv_aload_n hx hb dX11_buy_14 rfl (lv_at hl 0 rfl) ?_
      refine va_get (D := g.1) (ci := 9) (v := .ref o) (C := RX11) (T := TX11) (N := 10) hx hb hts izRX11 hown hK hP 17 rfl rfl 1 (by decide) (hts _ k538) (fun _ h9 => h9) rfl dX11_buy_15 ?_
      refine mcallV' (g := g) (q0 := 0) (ci := 7) (As := []) (rest := [.int n]) St hK hT hA hP hD hS hl.1 [2] [0, 1, 3, 4, 5] rfl rfl rfl (c_sharePrice l g o a pe wo tx ch jo tr dy sd f b_pe b_wo rf) (cwV 0 hts (zgL (zl4 k649 k188 k189 k24) k186) rfl rfl rfl (by decide +kernel) ⟨Nat.le_of_ble_eq_true rfl, Nat.le_of_ble_eq_true rfl⟩) rfl rfl rfl rfl (Nat.le_of_ble_eq_true rfl) dX11_buy_18 ⟨(Nat.le_of_ble_eq_true rfl), (Nat.le_of_ble_eq_true rfl)⟩ (fun q_3 H locs hq4 hP hD hS => ?_)
      have hP : va_P g.1 vwCl (List.flatten [bLog g go gr gz gn fr, bMem g mo qT qL it il ig mh me mx fT fL, bDR g x ta o lo go tt lt mo fo ro fl9, bPT g PT, bPL g PL, bTown g o a pe wo tx ch jo tr dy sd f]) H := hP
      have hD : va_D A (List.flatten [bLog g go gr gz gn fr, bMem g mo qT qL it il ig mh me mx fT fL, bDR g x ta o lo go tt lt mo fo ro fl9, bPT g PT, bPL g PL, bTown g o a pe wo tx ch jo tr dy sd f]) := hD
      refine W.widen (k := 2) (n := 12) (Nat.le_of_ble_eq_true rfl) (Nat.le_of_ble_eq_true rfl) ?_
      refine W.eq (g2 := F0 m 21 ls [.int q_3, .int n]) rfl ?_
      have hP : va_P g.1 vwCl (List.flatten [bLog g go gr gz gn fr, bMem g mo qT qL it il ig mh me mx fT fL, bDR g x ta o lo go tt lt mo fo ro fl9, bPT g PT, bPL g PL, bTown g o a pe wo tx ch jo tr dy sd f]) H := hP
      have hD : va_D A (List.flatten [bLog g go gr gz gn fr, bMem g mo qT qL it il ig mh me mx fT fL, bDR g x ta o lo go tt lt mo fo ro fl9, bPT g PT, bPL g PL, bTown g o a pe wo tx ch jo tr dy sd f]) := hD
      obtain ⟨hP, hD⟩ := zord (g := g) (Bs' := [bLog g go gr gz gn fr, bMem g mo qT qL it il ig mh me mx fT fL, bDR g x ta o lo go tt lt mo fo ro fl9, bTown g o a pe wo tx ch jo tr dy sd f, bPT g PT, bPL g PL]) [0, 1, 2, 5, 3, 4] rfl rfl hP hD
      refine lv_imul hx hb dX11_buy_21 ?_
      refine zg (fun x_5 => ?_)
      refine lv_istore_n (lv' := [(3, .int x_5), (0, .ref x), (1, .int pp), (2, .int n)]) hx hb dX11_buy_22 rfl hl (by decide) rfl (fun ls hl => ?_)
      refine lv_aload_n hx hb dX11_buy_23 rfl (lv_at hl 1 rfl) ?_
      refine lv_aload_n hx hb dX11_buy_24 rfl (lv_at hl 1 rfl) ?_
      refine va_get (D := g.1) (ci := 9) (v := .ref o) (C := RX11) (T := TX11) (N := 10) hx hb hts izRX11 hown hK hP 5 rfl rfl 1 (by decide) (hts _ k538) (fun _ h9 => h9) rfl dX11_buy_25 ?_
      refine va_get (D := g.1) (ci := 7) (v := .ref (a 2)) (C := RX9) (T := TX9) (N := 19) hx hb hts izRX9 hown hK hP 6 rfl rfl 10 (by decide) (hts _ k615) (fun _ h9 => h9) rfl dX11_buy_28 ?_
      refine lv_iload_n hx hb dX11_buy_31 rfl (lv_at hl 2 rfl) ?_
      refine va_iald hx hb hK hP 9 0 rfl rfl (zinK (a := 0) (b := 7) hq1_0.1 hq1_0.2 (by decide)) dX11_buy_32 ?_
      refine zg (fun x_6 => ?_)
      refine lv_iload_n hx hb dX11_buy_33 rfl (lv_at hl 3 rfl) ?_
      refine lv_iadd hx hb dX11_buy_34 ?_
      refine zg (fun x_7 => ?_)
      refine lv_bipush (v := 99) hx hb dX11_buy_35 (by decide) ?_
      refine lv_icmp_gt (tgt := 57) hx hb dX11_buy_37 (by decide) (fun cb9 => ?_) (fun cb9 => ?_)
      · skip
        have c8 : 99 < x_7.toInt := zlti cb9 (by decide) rfl
        have n9 : 100 ≤ x_7.toInt := zL2 (a := 99) c8 (Int.le_refl _) (by decide)
        refine lv_iconst (v := 0) hx hb dX11_buy_57 (by decide) ?_
        refine xcallV' (g := g) (q0 := 0) (ci := 9) (As := [.int 0]) (rest := []) St hK hT hA hP hD hS hl.1 [2] [0, 1, 3, 4, 5] rfl rfl rfl (c_x_needState l hfl g x ta o lo go tt lt mo fo ro fl9 0 ) (cwV 1 hts (zgL (zl4 k656 k657 k658 k621) k651) rfl rfl rfl (by decide +kernel) ⟨Nat.le_of_ble_eq_true rfl, Nat.le_of_ble_eq_true rfl⟩) rfl rfl rfl rfl (Nat.le_of_ble_eq_true rfl) dX11_buy_58 ⟨(Nat.le_of_ble_eq_true rfl), (Nat.le_of_ble_eq_true rfl)⟩ (fun E ce q9 u9 H locs hpx hP hD hS hce hcv hcl => ?_) (fun _u H locs hq10 hP hD hS => ?_)
        · skip
          have hpx : (E = "java/lang/IllegalStateException") := hpx
          have hP : va_P g.1 vwCl (List.flatten [bLog g go gr gz gn fr, bMem g mo qT qL it il ig mh me mx fT fL, bTown g o a pe wo tx ch jo tr dy sd f, bPT g PT, bPL g PL, bDR g x ta o lo go tt lt mo fo ro fl9]) H := hP
          have hD : va_D A (List.flatten [bLog g go gr gz gn fr, bMem g mo qT qL it il ig mh me mx fT fL, bTown g o a pe wo tx ch jo tr dy sd f, bPT g PT, bPL g PL, bDR g x ta o lo go tt lt mo fo ro fl9]) := hD
          have hP : va_P g.1 vwCl (List.flatten [bLog g go gr gz gn fr, bMem g mo qT qL it il ig mh me mx fT fL, bTown g o a pe wo tx ch jo tr dy sd f, bPT g PT, bPL g PL, bDR g x ta o lo go tt lt mo fo ro fl9]) H := hP
          have hD : va_D A (List.flatten [bLog g go gr gz gn fr, bMem g mo qT qL it il ig mh me mx fT fL, bTown g o a pe wo tx ch jo tr dy sd f, bPT g PT, bPL g PL, bDR g x ta o lo go tt lt mo fo ro fl9]) := hD
          obtain ⟨hP, hD⟩ := zord (g := g) (Bs' := [bLog g go gr gz gn fr, bMem g mo qT qL it il ig mh me mx fT fL, bTown g o a pe wo tx ch jo tr dy sd f, bDR g x ta o lo go tt lt mo fo ro fl9, bPT g PT, bPL g PL]) [0, 1, 2, 5, 3, 4] rfl rfl hP hD
          have hP : va_P g.1 vwCl (List.flatten [bLog g go gr gz gn fr, bMem g mo qT qL it il ig mh me mx fT fL, bTown g o a pe wo tx ch jo tr dy sd f, bDR g x ta o lo go tt lt mo fo ro fl9, bPT g PT, bPL g PL]) H := hP
          have hD : va_D A (List.flatten [bLog g go gr gz gn fr, bMem g mo qT qL it il ig mh me mx fT fL, bTown g o a pe wo tx ch jo tr dy sd f, bDR g x ta o lo go tt lt mo fo ro fl9, bPT g PT, bPL g PL]) := hD
          obtain ⟨hP, hD⟩ := zord (g := g) (Bs' := [bDR g x ta o lo go tt lt mo fo ro fl9, bTown g o a pe wo tx ch jo tr dy sd f, bLog g go gr gz gn fr, bMem g mo qT qL it il ig mh me mx fT fL, bPT g PT, bPL g PL]) [3, 2, 0, 1, 4, 5] rfl rfl hP hD
          exact zout htab hlocks hS (Nat.le_of_ble_eq_true rfl) (Nat.le_of_ble_eq_true rfl) hce hcv hcl (f, ch, me, mx, PT, PL) (show (E = "java/lang/IndexOutOfBoundsException" ∨ E = "java/lang/IllegalArgumentException" ∨ E = "java/lang/IllegalStateException") ∧ (zZ4 f) ∧ (0 ≤ me.toInt ∧ me.toInt ≤ 12) ∧ (0 ≤ mx.toInt ∧ mx.toInt ≤ 11) ∧ (zPT fT PT) ∧ (zPL fL PL) ∧ (zRk PT PT me.toInt me.toInt mx.toInt mx.toInt pe.toInt wo.toInt tx.toInt) from ⟨(Or.inr (Or.inr hpx)), (show zZ4 f from rf), (show 0 ≤ me.toInt ∧ me.toInt ≤ 12 from b_me), (show 0 ≤ mx.toInt ∧ mx.toInt ≤ 11 from b_mx), (show zPT fT PT from hPT), (show zPL fL PL from hPL), (show zRk PT PT me.toInt me.toInt mx.toInt mx.toInt pe.toInt wo.toInt tx.toInt from zRk_0)⟩) hP hD
        · skip
          have hP : va_P g.1 vwCl (List.flatten [bLog g go gr gz gn fr, bMem g mo qT qL it il ig mh me mx fT fL, bTown g o a pe wo tx ch jo tr dy sd f, bPT g PT, bPL g PL, bDR g x ta o lo go tt lt mo fo ro fl9]) H := hP
          have hD : va_D A (List.flatten [bLog g go gr gz gn fr, bMem g mo qT qL it il ig mh me mx fT fL, bTown g o a pe wo tx ch jo tr dy sd f, bPT g PT, bPL g PL, bDR g x ta o lo go tt lt mo fo ro fl9]) := hD
          refine W.widen (k := 3) (n := 18) (Nat.le_of_ble_eq_true rfl) (Nat.le_of_ble_eq_true rfl) ?_
          refine W.eq (g2 := F0 m 61 ls []) rfl ?_
          have hP : va_P g.1 vwCl (List.flatten [bLog g go gr gz gn fr, bMem g mo qT qL it il ig mh me mx fT fL, bTown g o a pe wo tx ch jo tr dy sd f, bPT g PT, bPL g PL, bDR g x ta o lo go tt lt mo fo ro fl9]) H := hP
          have hD : va_D A (List.flatten [bLog g go gr gz gn fr, bMem g mo qT qL it il ig mh me mx fT fL, bTown g o a pe wo tx ch jo tr dy sd f, bPT g PT, bPL g PL, bDR g x ta o lo go tt lt mo fo ro fl9]) := hD
          obtain ⟨hP, hD⟩ := zord (g := g) (Bs' := [bLog g go gr gz gn fr, bMem g mo qT qL it il ig mh me mx fT fL, bTown g o a pe wo tx ch jo tr dy sd f, bDR g x ta o lo go tt lt mo fo ro fl9, bPT g PT, bPL g PL]) [0, 1, 2, 5, 3, 4] rfl rfl hP hD
          refine lv_aload_n hx hb dX11_buy_61 rfl (lv_at hl 1 rfl) ?_
          refine va_get (D := g.1) (ci := 9) (v := .ref mo) (C := RX11) (T := TX11) (N := 10) hx hb hts izRX11 hown hK hP 17 rfl rfl 6 (by decide) (hts _ k551) (fun _ h9 => h9) rfl dX11_buy_62 ?_
          refine lv_aload_n hx hb dX11_buy_65 rfl (lv_at hl 1 rfl) ?_
          refine va_get (D := g.1) (ci := 9) (v := .ref o) (C := RX11) (T := TX11) (N := 10) hx hb hts izRX11 hown hK hP 17 rfl rfl 1 (by decide) (hts _ k538) (fun _ h9 => h9) rfl dX11_buy_66 ?_
          refine lv_aload_n hx hb dX11_buy_69 rfl (lv_at hl 1 rfl) ?_
          refine va_get (D := g.1) (ci := 9) (v := .ref go) (C := RX11) (T := TX11) (N := 10) hx hb hts izRX11 hown hK hP 17 rfl rfl 3 (by decide) (hts _ k542) (fun _ h9 => h9) rfl dX11_buy_70 ?_
          refine mcallV' (g := g) (q0 := 0) (ci := 4) (As := [.ref o, .ref go]) (rest := []) St hK hT hA hP hD hS hl.1 [1, 2, 0, 4, 5] [3] rfl rfl rfl (c_m_remember l g mo qT qL it il ig mh me mx fT fL o a pe wo tx ch jo tr dy sd f go gr gz gn fr PT PL b_me b_mx b_pe b_wo rf b_gz b_gn hPT hPL) (cwV 2 hts (zgL (zl4 k662 k663 k664 k378) k367) rfl rfl rfl (by decide +kernel) ⟨Nat.le_of_ble_eq_true rfl, Nat.le_of_ble_eq_true rfl⟩) rfl rfl rfl rfl (Nat.le_of_ble_eq_true rfl) dX11_buy_73 ⟨(Nat.le_of_ble_eq_true rfl), (Nat.le_of_ble_eq_true rfl)⟩ (fun u_ H locs hq15 hP hD hS => ?_)
          obtain ⟨me2_11, mx2_12, PT2_13, PL2_14⟩ := u_
          replace hq15 : (0 ≤ me2_11.toInt ∧ me2_11.toInt ≤ 12) ∧ (0 ≤ mx2_12.toInt ∧ mx2_12.toInt ≤ 11) ∧ (zPT fT PT2_13) ∧ (zPL fL PL2_14) ∧ (me2_11.toInt = min (me.toInt + 1) 12) ∧ (mx2_12.toInt = (mx.toInt + 1) % 12) ∧ (zPk PT PT2_13 mx.toInt.toNat pe.toInt wo.toInt tx.toInt) := hq15
          have hP : va_P g.1 vwCl (List.flatten [bDR g x ta o lo go tt lt mo fo ro fl9, bMem g mo qT qL it il ig mh me2_11 mx2_12 fT fL, bTown g o a pe wo tx ch jo tr dy sd f, bLog g go gr gz gn fr, bPT g PT2_13, bPL g PL2_14]) H := hP
          have hD : va_D A (List.flatten [bDR g x ta o lo go tt lt mo fo ro fl9, bMem g mo qT qL it il ig mh me2_11 mx2_12 fT fL, bTown g o a pe wo tx ch jo tr dy sd f, bLog g go gr gz gn fr, bPT g PT2_13, bPL g PL2_14]) := hD
          refine W.widen (k := 3) (n := 18) (Nat.le_of_ble_eq_true rfl) (Nat.le_of_ble_eq_true rfl) ?_
          refine W.eq (g2 := F0 m 76 ls []) rfl ?_
          obtain ⟨hq15_0, hq15_1, hq15_2, hq15_3, hq15_4, hq15_5, hq15_6⟩ := hq15
          refine lv_aload_n hx hb dX11_buy_76 rfl (lv_at hl 1 rfl) ?_
          refine va_get (D := g.1) (ci := 9) (v := .ref o) (C := RX11) (T := TX11) (N := 10) hx hb hts izRX11 hown hK hP 0 rfl rfl 1 (by decide) (hts _ k538) (fun _ h9 => h9) rfl dX11_buy_77 ?_
          refine va_get (D := g.1) (ci := 7) (v := .ref (a 2)) (C := RX9) (T := TX9) (N := 19) hx hb hts izRX9 hown hK hP 4 rfl rfl 10 (by decide) (hts _ k615) (fun _ h9 => h9) rfl dX11_buy_80 ?_
          refine lv_iload_n hx hb dX11_buy_83 rfl (lv_at hl 2 rfl) ?_
          refine lv_dup2_11 hx hb dX11_buy_84 rfl rfl ?_
          refine va_iald hx hb hK hP 7 0 rfl rfl (zinK (a := 0) (b := 7) hq1_0.1 hq1_0.2 (by decide)) dX11_buy_85 ?_
          refine zg (fun x_16 => ?_)
          refine lv_iload_n hx hb dX11_buy_86 rfl (lv_at hl 3 rfl) ?_
          refine lv_iadd hx hb dX11_buy_87 ?_
          refine zg (fun x_17 => ?_)
          refine va_iast hx hb hK hP hD hS 7 0 rfl rfl (zinK (a := 0) (b := 7) hq1_0.1 hq1_0.2 (by decide)) dX11_buy_88 (fun H locs hP hD hS => ?_)
          obtain ⟨f18, rf18, hP, hD⟩ : ∃ f18 : Nat → Nat → Int32, zZ4 f18 ∧ va_P g.1 vwCl (List.flatten [bDR g x ta o lo go tt lt mo fo ro fl9, bMem g mo qT qL it il ig mh me2_11 mx2_12 fT fL, bTown g o a pe wo tx ch jo tr dy sd f18, bLog g go gr gz gn fr, bPT g PT2_13, bPL g PL2_14]) H ∧ va_D A (List.flatten [bDR g x ta o lo go tt lt mo fo ro fl9, bMem g mo qT qL it il ig mh me2_11 mx2_12 fT fL, bTown g o a pe wo tx ch jo tr dy sd f18, bLog g go gr gz gn fr, bPT g PT2_13, bPL g PL2_14]) := ⟨zu f 2 (upd (f 2) pp.toNatClampNeg x_17), (zZ4_u rf (by decide)), hP, hD⟩
          refine lv_aload_n hx hb dX11_buy_89 rfl (lv_at hl 1 rfl) ?_
          refine va_get (D := g.1) (ci := 9) (v := .ref o) (C := RX11) (T := TX11) (N := 10) hx hb hts izRX11 hown hK hP 0 rfl rfl 1 (by decide) (hts _ k538) (fun _ h9 => h9) rfl dX11_buy_90 ?_
          refine va_get (D := g.1) (ci := 7) (v := .ref (a 1)) (C := RX9) (T := TX9) (N := 19) hx hb hts izRX9 hown hK hP 4 rfl rfl 9 (by decide) (hts _ k614) (fun _ h9 => h9) rfl dX11_buy_93 ?_
          refine lv_iload_n hx hb dX11_buy_96 rfl (lv_at hl 2 rfl) ?_
          refine lv_dup2_11 hx hb dX11_buy_97 rfl rfl ?_
          refine va_iald hx hb hK hP 6 0 rfl rfl (zinK (a := 0) (b := 7) hq1_0.1 hq1_0.2 (by decide)) dX11_buy_98 ?_
          refine zg (fun x_19 => ?_)
          refine lv_iload_n hx hb dX11_buy_99 rfl (lv_at hl 0 rfl) ?_
          refine lv_isub hx hb dX11_buy_100 ?_
          refine zg (fun x_20 => ?_)
          refine va_iast hx hb hK hP hD hS 6 0 rfl rfl (zinK (a := 0) (b := 7) hq1_0.1 hq1_0.2 (by decide)) dX11_buy_101 (fun H locs hP hD hS => ?_)
          obtain ⟨f21, rf21, hP, hD⟩ : ∃ f21 : Nat → Nat → Int32, zZ4 f21 ∧ va_P g.1 vwCl (List.flatten [bDR g x ta o lo go tt lt mo fo ro fl9, bMem g mo qT qL it il ig mh me2_11 mx2_12 fT fL, bTown g o a pe wo tx ch jo tr dy sd f21, bLog g go gr gz gn fr, bPT g PT2_13, bPL g PL2_14]) H ∧ va_D A (List.flatten [bDR g x ta o lo go tt lt mo fo ro fl9, bMem g mo qT qL it il ig mh me2_11 mx2_12 fT fL, bTown g o a pe wo tx ch jo tr dy sd f21, bLog g go gr gz gn fr, bPT g PT2_13, bPL g PL2_14]) := ⟨zu f18 1 (upd (f18 1) pp.toNatClampNeg x_20), (zZ4_u rf18 (by decide)), hP, hD⟩
          refine lv_aload_n hx hb dX11_buy_102 rfl (lv_at hl 1 rfl) ?_
          refine va_get (D := g.1) (ci := 9) (v := .ref o) (C := RX11) (T := TX11) (N := 10) hx hb hts izRX11 hown hK hP 0 rfl rfl 1 (by decide) (hts _ k538) (fun _ h9 => h9) rfl dX11_buy_103 ?_
          refine lv_sipush (v := 9999) hx hb dX11_buy_106 (by decide) ?_
          refine lv_aload_n hx hb dX11_buy_109 rfl (lv_at hl 1 rfl) ?_
          refine va_get (D := g.1) (ci := 9) (v := .ref o) (C := RX11) (T := TX11) (N := 10) hx hb hts izRX11 hown hK hP 0 rfl rfl 1 (by decide) (hts _ k538) (fun _ h9 => h9) rfl dX11_buy_110 ?_
          refine va_get (D := g.1) (ci := 7) (v := .int ch) (C := RX9) (T := TX9) (N := 19) hx hb hts izRX9 hown hK hP 4 rfl rfl 3 (by decide) (hts _ k677) (fun _ h9 => h9) rfl dX11_buy_113 ?_
          refine lv_iload_n hx hb dX11_buy_116 rfl (lv_at hl 0 rfl) ?_
          refine lv_iadd hx hb dX11_buy_117 ?_
          refine zg (fun x_22 => ?_)
          refine va_mmin hx hb (by rw [hml]; exact hl.1.symm) hown (hts _ k678) (hts _ k41) (hts _ k42) (hts _ k43) (Nat.le_of_ble_eq_true rfl) (Nat.le_of_ble_eq_true rfl) (Nat.le_of_ble_eq_true rfl) (Nat.le_of_ble_eq_true rfl) dX11_buy_118 ?_
          refine zgmn (i := 9999) (j := x_22.toInt) (by decide) rfl (fun x_23 hx_23 => ?_)
          refine va_put (D := g.1) (ci := 7) (v := .int x_23) (ty := .int) (C := RX9) (T := TX9) (N := 19) hx hb hts izRX9 tyX9 tyX9_ok nmX9 hown hK hP hD hS 4 rfl rfl 3 (by decide) (hts _ k677) (fun _ h9 => h9) rfl (by decide +kernel) rfl rfl (Nat.le_of_ble_eq_true rfl) dX11_buy_121 (fun H locs hP hD hS => ?_)
          have hP : va_P g.1 vwCl (List.flatten [bDR g x ta o lo go tt lt mo fo ro fl9, bMem g mo qT qL it il ig mh me2_11 mx2_12 fT fL, bTown g o a pe wo tx x_23 jo tr dy sd f21, bLog g go gr gz gn fr, bPT g PT2_13, bPL g PL2_14]) H := hP
          have hD : va_D A (List.flatten [bDR g x ta o lo go tt lt mo fo ro fl9, bMem g mo qT qL it il ig mh me2_11 mx2_12 fT fL, bTown g o a pe wo tx x_23 jo tr dy sd f21, bLog g go gr gz gn fr, bPT g PT2_13, bPL g PL2_14]) := hD
          refine lv_aload_n hx hb dX11_buy_124 rfl (lv_at hl 1 rfl) ?_
          refine va_get (D := g.1) (ci := 9) (v := .ref o) (C := RX11) (T := TX11) (N := 10) hx hb hts izRX11 hown hK hP 0 rfl rfl 1 (by decide) (hts _ k538) (fun _ h9 => h9) rfl dX11_buy_125 ?_
          refine va_get (D := g.1) (ci := 7) (v := .ref (a 1)) (C := RX9) (T := TX9) (N := 19) hx hb hts izRX9 hown hK hP 4 rfl rfl 9 (by decide) (hts _ k614) (fun _ h9 => h9) rfl dX11_buy_128 ?_
          refine lv_iload_n hx hb dX11_buy_131 rfl (lv_at hl 2 rfl) ?_
          refine va_iald hx hb hK hP 6 0 rfl rfl (zinK (a := 0) (b := 7) hq1_0.1 hq1_0.2 (by decide)) dX11_buy_132 ?_
          refine zg (fun x_24 => ?_)
          have hP : va_P g.1 vwCl (List.flatten [bDR g x ta o lo go tt lt mo fo ro fl9, bMem g mo qT qL it il ig mh me2_11 mx2_12 fT fL, bTown g o a pe wo tx x_23 jo tr dy sd f21, bLog g go gr gz gn fr, bPT g PT2_13, bPL g PL2_14]) H := hP
          have hD : va_D A (List.flatten [bDR g x ta o lo go tt lt mo fo ro fl9, bMem g mo qT qL it il ig mh me2_11 mx2_12 fT fL, bTown g o a pe wo tx x_23 jo tr dy sd f21, bLog g go gr gz gn fr, bPT g PT2_13, bPL g PL2_14]) := hD
          obtain ⟨hP, hD⟩ := zord (g := g) (Bs' := [bDR g x ta o lo go tt lt mo fo ro fl9, bTown g o a pe wo tx x_23 jo tr dy sd f21, bLog g go gr gz gn fr, bMem g mo qT qL it il ig mh me2_11 mx2_12 fT fL, bPT g PT2_13, bPL g PL2_14]) [0, 2, 3, 1, 4, 5] rfl rfl hP hD
          exact zret_i hx hb hr hlocks hS (Nat.le_of_ble_eq_true rfl) (Nat.le_of_ble_eq_true rfl) dX11_buy_133 (f21, x_23, me2_11, mx2_12, PT2_13, PL2_14, x_24) rfl (show (zZ4 f21) ∧ (0 ≤ me2_11.toInt ∧ me2_11.toInt ≤ 12) ∧ (0 ≤ mx2_12.toInt ∧ mx2_12.toInt ≤ 11) ∧ (zPT fT PT2_13) ∧ (zPL fL PL2_14) ∧ (zRk PT PT2_13 me.toInt me2_11.toInt mx.toInt mx2_12.toInt pe.toInt wo.toInt tx.toInt) from ⟨rf21, hq15_0, hq15_1, hq15_2, hq15_3, (Or.inr ⟨hq15_4, hq15_5, hq15_6⟩)⟩) hP hD
      · skip
        have c25 : x_7.toInt ≤ 99 := zle (Int32.not_lt.mp cb9) rfl (by decide)
        have n26 : x_7.toInt ≤ 99 := Int.le_trans c25 (Int.le_refl _)
        refine lv_aload_n hx hb dX11_buy_40 rfl (lv_at hl 1 rfl) ?_
        refine va_get (D := g.1) (ci := 9) (v := .ref o) (C := RX11) (T := TX11) (N := 10) hx hb hts izRX11 hown hK hP 5 rfl rfl 1 (by decide) (hts _ k538) (fun _ h9 => h9) rfl dX11_buy_41 ?_
        refine va_get (D := g.1) (ci := 7) (v := .ref (a 1)) (C := RX9) (T := TX9) (N := 19) hx hb hts izRX9 hown hK hP 6 rfl rfl 9 (by decide) (hts _ k614) (fun _ h9 => h9) rfl dX11_buy_44 ?_
        refine lv_iload_n hx hb dX11_buy_47 rfl (lv_at hl 2 rfl) ?_
        refine va_iald hx hb hK hP 8 0 rfl rfl (zinK (a := 0) (b := 7) hq1_0.1 hq1_0.2 (by decide)) dX11_buy_48 ?_
        refine zg (fun x_27 => ?_)
        refine lv_iload_n hx hb dX11_buy_49 rfl (lv_at hl 0 rfl) ?_
        refine lv_icmp_lt (tgt := 57) hx hb dX11_buy_50 (by decide) (fun cb9 => ?_) (fun cb9 => ?_)
        · skip
          have c28 : x_27.toInt < x_5.toInt := zlti cb9 rfl rfl
          refine lv_iconst (v := 0) hx hb dX11_buy_57 (by decide) ?_
          refine xcallV' (g := g) (q0 := 0) (ci := 9) (As := [.int 0]) (rest := []) St hK hT hA hP hD hS hl.1 [2] [0, 1, 3, 4, 5] rfl rfl rfl (c_x_needState l hfl g x ta o lo go tt lt mo fo ro fl9 0 ) (cwV 1 hts (zgL (zl4 k656 k657 k658 k621) k651) rfl rfl rfl (by decide +kernel) ⟨Nat.le_of_ble_eq_true rfl, Nat.le_of_ble_eq_true rfl⟩) rfl rfl rfl rfl (Nat.le_of_ble_eq_true rfl) dX11_buy_58 ⟨(Nat.le_of_ble_eq_true rfl), (Nat.le_of_ble_eq_true rfl)⟩ (fun E ce q9 u9 H locs hpx hP hD hS hce hcv hcl => ?_) (fun _u H locs hq29 hP hD hS => ?_)
          · skip
            have hpx : (E = "java/lang/IllegalStateException") := hpx
            have hP : va_P g.1 vwCl (List.flatten [bLog g go gr gz gn fr, bMem g mo qT qL it il ig mh me mx fT fL, bTown g o a pe wo tx ch jo tr dy sd f, bPT g PT, bPL g PL, bDR g x ta o lo go tt lt mo fo ro fl9]) H := hP
            have hD : va_D A (List.flatten [bLog g go gr gz gn fr, bMem g mo qT qL it il ig mh me mx fT fL, bTown g o a pe wo tx ch jo tr dy sd f, bPT g PT, bPL g PL, bDR g x ta o lo go tt lt mo fo ro fl9]) := hD
            have hP : va_P g.1 vwCl (List.flatten [bLog g go gr gz gn fr, bMem g mo qT qL it il ig mh me mx fT fL, bTown g o a pe wo tx ch jo tr dy sd f, bPT g PT, bPL g PL, bDR g x ta o lo go tt lt mo fo ro fl9]) H := hP
            have hD : va_D A (List.flatten [bLog g go gr gz gn fr, bMem g mo qT qL it il ig mh me mx fT fL, bTown g o a pe wo tx ch jo tr dy sd f, bPT g PT, bPL g PL, bDR g x ta o lo go tt lt mo fo ro fl9]) := hD
            obtain ⟨hP, hD⟩ := zord (g := g) (Bs' := [bLog g go gr gz gn fr, bMem g mo qT qL it il ig mh me mx fT fL, bTown g o a pe wo tx ch jo tr dy sd f, bDR g x ta o lo go tt lt mo fo ro fl9, bPT g PT, bPL g PL]) [0, 1, 2, 5, 3, 4] rfl rfl hP hD
            have hP : va_P g.1 vwCl (List.flatten [bLog g go gr gz gn fr, bMem g mo qT qL it il ig mh me mx fT fL, bTown g o a pe wo tx ch jo tr dy sd f, bDR g x ta o lo go tt lt mo fo ro fl9, bPT g PT, bPL g PL]) H := hP
            have hD : va_D A (List.flatten [bLog g go gr gz gn fr, bMem g mo qT qL it il ig mh me mx fT fL, bTown g o a pe wo tx ch jo tr dy sd f, bDR g x ta o lo go tt lt mo fo ro fl9, bPT g PT, bPL g PL]) := hD
            obtain ⟨hP, hD⟩ := zord (g := g) (Bs' := [bDR g x ta o lo go tt lt mo fo ro fl9, bTown g o a pe wo tx ch jo tr dy sd f, bLog g go gr gz gn fr, bMem g mo qT qL it il ig mh me mx fT fL, bPT g PT, bPL g PL]) [3, 2, 0, 1, 4, 5] rfl rfl hP hD
            exact zout htab hlocks hS (Nat.le_of_ble_eq_true rfl) (Nat.le_of_ble_eq_true rfl) hce hcv hcl (f, ch, me, mx, PT, PL) (show (E = "java/lang/IndexOutOfBoundsException" ∨ E = "java/lang/IllegalArgumentException" ∨ E = "java/lang/IllegalStateException") ∧ (zZ4 f) ∧ (0 ≤ me.toInt ∧ me.toInt ≤ 12) ∧ (0 ≤ mx.toInt ∧ mx.toInt ≤ 11) ∧ (zPT fT PT) ∧ (zPL fL PL) ∧ (zRk PT PT me.toInt me.toInt mx.toInt mx.toInt pe.toInt wo.toInt tx.toInt) from ⟨(Or.inr (Or.inr hpx)), (show zZ4 f from rf), (show 0 ≤ me.toInt ∧ me.toInt ≤ 12 from b_me), (show 0 ≤ mx.toInt ∧ mx.toInt ≤ 11 from b_mx), (show zPT fT PT from hPT), (show zPL fL PL from hPL), (show zRk PT PT me.toInt me.toInt mx.toInt mx.toInt pe.toInt wo.toInt tx.toInt from zRk_0)⟩) hP hD
          · skip
            have hP : va_P g.1 vwCl (List.flatten [bLog g go gr gz gn fr, bMem g mo qT qL it il ig mh me mx fT fL, bTown g o a pe wo tx ch jo tr dy sd f, bPT g PT, bPL g PL, bDR g x ta o lo go tt lt mo fo ro fl9]) H := hP
            have hD : va_D A (List.flatten [bLog g go gr gz gn fr, bMem g mo qT qL it il ig mh me mx fT fL, bTown g o a pe wo tx ch jo tr dy sd f, bPT g PT, bPL g PL, bDR g x ta o lo go tt lt mo fo ro fl9]) := hD
            refine W.widen (k := 3) (n := 18) (Nat.le_of_ble_eq_true rfl) (Nat.le_of_ble_eq_true rfl) ?_
            refine W.eq (g2 := F0 m 61 ls []) rfl ?_
            have hP : va_P g.1 vwCl (List.flatten [bLog g go gr gz gn fr, bMem g mo qT qL it il ig mh me mx fT fL, bTown g o a pe wo tx ch jo tr dy sd f, bPT g PT, bPL g PL, bDR g x ta o lo go tt lt mo fo ro fl9]) H := hP
            have hD : va_D A (List.flatten [bLog g go gr gz gn fr, bMem g mo qT qL it il ig mh me mx fT fL, bTown g o a pe wo tx ch jo tr dy sd f, bPT g PT, bPL g PL, bDR g x ta o lo go tt lt mo fo ro fl9]) := hD
            obtain ⟨hP, hD⟩ := zord (g := g) (Bs' := [bLog g go gr gz gn fr, bMem g mo qT qL it il ig mh me mx fT fL, bTown g o a pe wo tx ch jo tr dy sd f, bDR g x ta o lo go tt lt mo fo ro fl9, bPT g PT, bPL g PL]) [0, 1, 2, 5, 3, 4] rfl rfl hP hD
            refine lv_aload_n hx hb dX11_buy_61 rfl (lv_at hl 1 rfl) ?_
            refine va_get (D := g.1) (ci := 9) (v := .ref mo) (C := RX11) (T := TX11) (N := 10) hx hb hts izRX11 hown hK hP 17 rfl rfl 6 (by decide) (hts _ k551) (fun _ h9 => h9) rfl dX11_buy_62 ?_
            refine lv_aload_n hx hb dX11_buy_65 rfl (lv_at hl 1 rfl) ?_
            refine va_get (D := g.1) (ci := 9) (v := .ref o) (C := RX11) (T := TX11) (N := 10) hx hb hts izRX11 hown hK hP 17 rfl rfl 1 (by decide) (hts _ k538) (fun _ h9 => h9) rfl dX11_buy_66 ?_
            refine lv_aload_n hx hb dX11_buy_69 rfl (lv_at hl 1 rfl) ?_
            refine va_get (D := g.1) (ci := 9) (v := .ref go) (C := RX11) (T := TX11) (N := 10) hx hb hts izRX11 hown hK hP 17 rfl rfl 3 (by decide) (hts _ k542) (fun _ h9 => h9) rfl dX11_buy_70 ?_
            refine mcallV' (g := g) (q0 := 0) (ci := 4) (As := [.ref o, .ref go]) (rest := []) St hK hT hA hP hD hS hl.1 [1, 2, 0, 4, 5] [3] rfl rfl rfl (c_m_remember l g mo qT qL it il ig mh me mx fT fL o a pe wo tx ch jo tr dy sd f go gr gz gn fr PT PL b_me b_mx b_pe b_wo rf b_gz b_gn hPT hPL) (cwV 2 hts (zgL (zl4 k662 k663 k664 k378) k367) rfl rfl rfl (by decide +kernel) ⟨Nat.le_of_ble_eq_true rfl, Nat.le_of_ble_eq_true rfl⟩) rfl rfl rfl rfl (Nat.le_of_ble_eq_true rfl) dX11_buy_73 ⟨(Nat.le_of_ble_eq_true rfl), (Nat.le_of_ble_eq_true rfl)⟩ (fun u_ H locs hq34 hP hD hS => ?_)
            obtain ⟨me2_30, mx2_31, PT2_32, PL2_33⟩ := u_
            replace hq34 : (0 ≤ me2_30.toInt ∧ me2_30.toInt ≤ 12) ∧ (0 ≤ mx2_31.toInt ∧ mx2_31.toInt ≤ 11) ∧ (zPT fT PT2_32) ∧ (zPL fL PL2_33) ∧ (me2_30.toInt = min (me.toInt + 1) 12) ∧ (mx2_31.toInt = (mx.toInt + 1) % 12) ∧ (zPk PT PT2_32 mx.toInt.toNat pe.toInt wo.toInt tx.toInt) := hq34
            have hP : va_P g.1 vwCl (List.flatten [bDR g x ta o lo go tt lt mo fo ro fl9, bMem g mo qT qL it il ig mh me2_30 mx2_31 fT fL, bTown g o a pe wo tx ch jo tr dy sd f, bLog g go gr gz gn fr, bPT g PT2_32, bPL g PL2_33]) H := hP
            have hD : va_D A (List.flatten [bDR g x ta o lo go tt lt mo fo ro fl9, bMem g mo qT qL it il ig mh me2_30 mx2_31 fT fL, bTown g o a pe wo tx ch jo tr dy sd f, bLog g go gr gz gn fr, bPT g PT2_32, bPL g PL2_33]) := hD
            refine W.widen (k := 3) (n := 18) (Nat.le_of_ble_eq_true rfl) (Nat.le_of_ble_eq_true rfl) ?_
            refine W.eq (g2 := F0 m 76 ls []) rfl ?_
            obtain ⟨hq34_0, hq34_1, hq34_2, hq34_3, hq34_4, hq34_5, hq34_6⟩ := hq34
            refine lv_aload_n hx hb dX11_buy_76 rfl (lv_at hl 1 rfl) ?_
            refine va_get (D := g.1) (ci := 9) (v := .ref o) (C := RX11) (T := TX11) (N := 10) hx hb hts izRX11 hown hK hP 0 rfl rfl 1 (by decide) (hts _ k538) (fun _ h9 => h9) rfl dX11_buy_77 ?_
            refine va_get (D := g.1) (ci := 7) (v := .ref (a 2)) (C := RX9) (T := TX9) (N := 19) hx hb hts izRX9 hown hK hP 4 rfl rfl 10 (by decide) (hts _ k615) (fun _ h9 => h9) rfl dX11_buy_80 ?_
            refine lv_iload_n hx hb dX11_buy_83 rfl (lv_at hl 2 rfl) ?_
            refine lv_dup2_11 hx hb dX11_buy_84 rfl rfl ?_
            refine va_iald hx hb hK hP 7 0 rfl rfl (zinK (a := 0) (b := 7) hq1_0.1 hq1_0.2 (by decide)) dX11_buy_85 ?_
            refine zg (fun x_35 => ?_)
            refine lv_iload_n hx hb dX11_buy_86 rfl (lv_at hl 3 rfl) ?_
            refine lv_iadd hx hb dX11_buy_87 ?_
            refine zg (fun x_36 => ?_)
            refine va_iast hx hb hK hP hD hS 7 0 rfl rfl (zinK (a := 0) (b := 7) hq1_0.1 hq1_0.2 (by decide)) dX11_buy_88 (fun H locs hP hD hS => ?_)
            obtain ⟨f37, rf37, hP, hD⟩ : ∃ f37 : Nat → Nat → Int32, zZ4 f37 ∧ va_P g.1 vwCl (List.flatten [bDR g x ta o lo go tt lt mo fo ro fl9, bMem g mo qT qL it il ig mh me2_30 mx2_31 fT fL, bTown g o a pe wo tx ch jo tr dy sd f37, bLog g go gr gz gn fr, bPT g PT2_32, bPL g PL2_33]) H ∧ va_D A (List.flatten [bDR g x ta o lo go tt lt mo fo ro fl9, bMem g mo qT qL it il ig mh me2_30 mx2_31 fT fL, bTown g o a pe wo tx ch jo tr dy sd f37, bLog g go gr gz gn fr, bPT g PT2_32, bPL g PL2_33]) := ⟨zu f 2 (upd (f 2) pp.toNatClampNeg x_36), (zZ4_u rf (by decide)), hP, hD⟩
            refine lv_aload_n hx hb dX11_buy_89 rfl (lv_at hl 1 rfl) ?_
            refine va_get (D := g.1) (ci := 9) (v := .ref o) (C := RX11) (T := TX11) (N := 10) hx hb hts izRX11 hown hK hP 0 rfl rfl 1 (by decide) (hts _ k538) (fun _ h9 => h9) rfl dX11_buy_90 ?_
            refine va_get (D := g.1) (ci := 7) (v := .ref (a 1)) (C := RX9) (T := TX9) (N := 19) hx hb hts izRX9 hown hK hP 4 rfl rfl 9 (by decide) (hts _ k614) (fun _ h9 => h9) rfl dX11_buy_93 ?_
            refine lv_iload_n hx hb dX11_buy_96 rfl (lv_at hl 2 rfl) ?_
            refine lv_dup2_11 hx hb dX11_buy_97 rfl rfl ?_
            refine va_iald hx hb hK hP 6 0 rfl rfl (zinK (a := 0) (b := 7) hq1_0.1 hq1_0.2 (by decide)) dX11_buy_98 ?_
            refine zg (fun x_38 => ?_)
            refine lv_iload_n hx hb dX11_buy_99 rfl (lv_at hl 0 rfl) ?_
            refine lv_isub hx hb dX11_buy_100 ?_
            refine zg (fun x_39 => ?_)
            refine va_iast hx hb hK hP hD hS 6 0 rfl rfl (zinK (a := 0) (b := 7) hq1_0.1 hq1_0.2 (by decide)) dX11_buy_101 (fun H locs hP hD hS => ?_)
            obtain ⟨f40, rf40, hP, hD⟩ : ∃ f40 : Nat → Nat → Int32, zZ4 f40 ∧ va_P g.1 vwCl (List.flatten [bDR g x ta o lo go tt lt mo fo ro fl9, bMem g mo qT qL it il ig mh me2_30 mx2_31 fT fL, bTown g o a pe wo tx ch jo tr dy sd f40, bLog g go gr gz gn fr, bPT g PT2_32, bPL g PL2_33]) H ∧ va_D A (List.flatten [bDR g x ta o lo go tt lt mo fo ro fl9, bMem g mo qT qL it il ig mh me2_30 mx2_31 fT fL, bTown g o a pe wo tx ch jo tr dy sd f40, bLog g go gr gz gn fr, bPT g PT2_32, bPL g PL2_33]) := ⟨zu f37 1 (upd (f37 1) pp.toNatClampNeg x_39), (zZ4_u rf37 (by decide)), hP, hD⟩
            refine lv_aload_n hx hb dX11_buy_102 rfl (lv_at hl 1 rfl) ?_
            refine va_get (D := g.1) (ci := 9) (v := .ref o) (C := RX11) (T := TX11) (N := 10) hx hb hts izRX11 hown hK hP 0 rfl rfl 1 (by decide) (hts _ k538) (fun _ h9 => h9) rfl dX11_buy_103 ?_
            refine lv_sipush (v := 9999) hx hb dX11_buy_106 (by decide) ?_
            refine lv_aload_n hx hb dX11_buy_109 rfl (lv_at hl 1 rfl) ?_
            refine va_get (D := g.1) (ci := 9) (v := .ref o) (C := RX11) (T := TX11) (N := 10) hx hb hts izRX11 hown hK hP 0 rfl rfl 1 (by decide) (hts _ k538) (fun _ h9 => h9) rfl dX11_buy_110 ?_
            refine va_get (D := g.1) (ci := 7) (v := .int ch) (C := RX9) (T := TX9) (N := 19) hx hb hts izRX9 hown hK hP 4 rfl rfl 3 (by decide) (hts _ k677) (fun _ h9 => h9) rfl dX11_buy_113 ?_
            refine lv_iload_n hx hb dX11_buy_116 rfl (lv_at hl 0 rfl) ?_
            refine lv_iadd hx hb dX11_buy_117 ?_
            refine zg (fun x_41 => ?_)
            refine va_mmin hx hb (by rw [hml]; exact hl.1.symm) hown (hts _ k678) (hts _ k41) (hts _ k42) (hts _ k43) (Nat.le_of_ble_eq_true rfl) (Nat.le_of_ble_eq_true rfl) (Nat.le_of_ble_eq_true rfl) (Nat.le_of_ble_eq_true rfl) dX11_buy_118 ?_
            refine zgmn (i := 9999) (j := x_41.toInt) (by decide) rfl (fun x_42 hx_42 => ?_)
            refine va_put (D := g.1) (ci := 7) (v := .int x_42) (ty := .int) (C := RX9) (T := TX9) (N := 19) hx hb hts izRX9 tyX9 tyX9_ok nmX9 hown hK hP hD hS 4 rfl rfl 3 (by decide) (hts _ k677) (fun _ h9 => h9) rfl (by decide +kernel) rfl rfl (Nat.le_of_ble_eq_true rfl) dX11_buy_121 (fun H locs hP hD hS => ?_)
            have hP : va_P g.1 vwCl (List.flatten [bDR g x ta o lo go tt lt mo fo ro fl9, bMem g mo qT qL it il ig mh me2_30 mx2_31 fT fL, bTown g o a pe wo tx x_42 jo tr dy sd f40, bLog g go gr gz gn fr, bPT g PT2_32, bPL g PL2_33]) H := hP
            have hD : va_D A (List.flatten [bDR g x ta o lo go tt lt mo fo ro fl9, bMem g mo qT qL it il ig mh me2_30 mx2_31 fT fL, bTown g o a pe wo tx x_42 jo tr dy sd f40, bLog g go gr gz gn fr, bPT g PT2_32, bPL g PL2_33]) := hD
            refine lv_aload_n hx hb dX11_buy_124 rfl (lv_at hl 1 rfl) ?_
            refine va_get (D := g.1) (ci := 9) (v := .ref o) (C := RX11) (T := TX11) (N := 10) hx hb hts izRX11 hown hK hP 0 rfl rfl 1 (by decide) (hts _ k538) (fun _ h9 => h9) rfl dX11_buy_125 ?_
            refine va_get (D := g.1) (ci := 7) (v := .ref (a 1)) (C := RX9) (T := TX9) (N := 19) hx hb hts izRX9 hown hK hP 4 rfl rfl 9 (by decide) (hts _ k614) (fun _ h9 => h9) rfl dX11_buy_128 ?_
            refine lv_iload_n hx hb dX11_buy_131 rfl (lv_at hl 2 rfl) ?_
            refine va_iald hx hb hK hP 6 0 rfl rfl (zinK (a := 0) (b := 7) hq1_0.1 hq1_0.2 (by decide)) dX11_buy_132 ?_
            refine zg (fun x_43 => ?_)
            have hP : va_P g.1 vwCl (List.flatten [bDR g x ta o lo go tt lt mo fo ro fl9, bMem g mo qT qL it il ig mh me2_30 mx2_31 fT fL, bTown g o a pe wo tx x_42 jo tr dy sd f40, bLog g go gr gz gn fr, bPT g PT2_32, bPL g PL2_33]) H := hP
            have hD : va_D A (List.flatten [bDR g x ta o lo go tt lt mo fo ro fl9, bMem g mo qT qL it il ig mh me2_30 mx2_31 fT fL, bTown g o a pe wo tx x_42 jo tr dy sd f40, bLog g go gr gz gn fr, bPT g PT2_32, bPL g PL2_33]) := hD
            obtain ⟨hP, hD⟩ := zord (g := g) (Bs' := [bDR g x ta o lo go tt lt mo fo ro fl9, bTown g o a pe wo tx x_42 jo tr dy sd f40, bLog g go gr gz gn fr, bMem g mo qT qL it il ig mh me2_30 mx2_31 fT fL, bPT g PT2_32, bPL g PL2_33]) [0, 2, 3, 1, 4, 5] rfl rfl hP hD
            exact zret_i hx hb hr hlocks hS (Nat.le_of_ble_eq_true rfl) (Nat.le_of_ble_eq_true rfl) dX11_buy_133 (f40, x_42, me2_30, mx2_31, PT2_32, PL2_33, x_43) rfl (show (zZ4 f40) ∧ (0 ≤ me2_30.toInt ∧ me2_30.toInt ≤ 12) ∧ (0 ≤ mx2_31.toInt ∧ mx2_31.toInt ≤ 11) ∧ (zPT fT PT2_32) ∧ (zPL fL PL2_33) ∧ (zRk PT PT2_32 me.toInt me2_30.toInt mx.toInt mx2_31.toInt pe.toInt wo.toInt tx.toInt) from ⟨rf40, hq34_0, hq34_1, hq34_2, hq34_3, (Or.inr ⟨hq34_4, hq34_5, hq34_6⟩)⟩) hP hD
        · skip
          have c44 : x_5.toInt ≤ x_27.toInt := zle (Int32.not_lt.mp cb9) rfl rfl
          refine lv_iconst (v := 1) hx hb dX11_buy_53 (by decide) ?_
          refine lv_goto (tgt := 58) hx hb dX11_buy_54 (by decide) ?_
          refine xcallV' (g := g) (q0 := 0) (ci := 9) (As := [.int 1]) (rest := []) St hK hT hA hP hD hS hl.1 [2] [0, 1, 3, 4, 5] rfl rfl rfl (c_x_needState l hfl g x ta o lo go tt lt mo fo ro fl9 1 ) (cwV 1 hts (zgL (zl4 k656 k657 k658 k621) k651) rfl rfl rfl (by decide +kernel) ⟨Nat.le_of_ble_eq_true rfl, Nat.le_of_ble_eq_true rfl⟩) rfl rfl rfl rfl (Nat.le_of_ble_eq_true rfl) dX11_buy_58 ⟨(Nat.le_of_ble_eq_true rfl), (Nat.le_of_ble_eq_true rfl)⟩ (fun E ce q9 u9 H locs hpx hP hD hS hce hcv hcl => ?_) (fun _u H locs hq45 hP hD hS => ?_)
          · skip
            have hpx : (E = "java/lang/IllegalStateException") := hpx
            have hP : va_P g.1 vwCl (List.flatten [bLog g go gr gz gn fr, bMem g mo qT qL it il ig mh me mx fT fL, bTown g o a pe wo tx ch jo tr dy sd f, bPT g PT, bPL g PL, bDR g x ta o lo go tt lt mo fo ro fl9]) H := hP
            have hD : va_D A (List.flatten [bLog g go gr gz gn fr, bMem g mo qT qL it il ig mh me mx fT fL, bTown g o a pe wo tx ch jo tr dy sd f, bPT g PT, bPL g PL, bDR g x ta o lo go tt lt mo fo ro fl9]) := hD
            have hP : va_P g.1 vwCl (List.flatten [bLog g go gr gz gn fr, bMem g mo qT qL it il ig mh me mx fT fL, bTown g o a pe wo tx ch jo tr dy sd f, bPT g PT, bPL g PL, bDR g x ta o lo go tt lt mo fo ro fl9]) H := hP
            have hD : va_D A (List.flatten [bLog g go gr gz gn fr, bMem g mo qT qL it il ig mh me mx fT fL, bTown g o a pe wo tx ch jo tr dy sd f, bPT g PT, bPL g PL, bDR g x ta o lo go tt lt mo fo ro fl9]) := hD
            obtain ⟨hP, hD⟩ := zord (g := g) (Bs' := [bLog g go gr gz gn fr, bMem g mo qT qL it il ig mh me mx fT fL, bTown g o a pe wo tx ch jo tr dy sd f, bDR g x ta o lo go tt lt mo fo ro fl9, bPT g PT, bPL g PL]) [0, 1, 2, 5, 3, 4] rfl rfl hP hD
            have hP : va_P g.1 vwCl (List.flatten [bLog g go gr gz gn fr, bMem g mo qT qL it il ig mh me mx fT fL, bTown g o a pe wo tx ch jo tr dy sd f, bDR g x ta o lo go tt lt mo fo ro fl9, bPT g PT, bPL g PL]) H := hP
            have hD : va_D A (List.flatten [bLog g go gr gz gn fr, bMem g mo qT qL it il ig mh me mx fT fL, bTown g o a pe wo tx ch jo tr dy sd f, bDR g x ta o lo go tt lt mo fo ro fl9, bPT g PT, bPL g PL]) := hD
            obtain ⟨hP, hD⟩ := zord (g := g) (Bs' := [bDR g x ta o lo go tt lt mo fo ro fl9, bTown g o a pe wo tx ch jo tr dy sd f, bLog g go gr gz gn fr, bMem g mo qT qL it il ig mh me mx fT fL, bPT g PT, bPL g PL]) [3, 2, 0, 1, 4, 5] rfl rfl hP hD
            exact zout htab hlocks hS (Nat.le_of_ble_eq_true rfl) (Nat.le_of_ble_eq_true rfl) hce hcv hcl (f, ch, me, mx, PT, PL) (show (E = "java/lang/IndexOutOfBoundsException" ∨ E = "java/lang/IllegalArgumentException" ∨ E = "java/lang/IllegalStateException") ∧ (zZ4 f) ∧ (0 ≤ me.toInt ∧ me.toInt ≤ 12) ∧ (0 ≤ mx.toInt ∧ mx.toInt ≤ 11) ∧ (zPT fT PT) ∧ (zPL fL PL) ∧ (zRk PT PT me.toInt me.toInt mx.toInt mx.toInt pe.toInt wo.toInt tx.toInt) from ⟨(Or.inr (Or.inr hpx)), (show zZ4 f from rf), (show 0 ≤ me.toInt ∧ me.toInt ≤ 12 from b_me), (show 0 ≤ mx.toInt ∧ mx.toInt ≤ 11 from b_mx), (show zPT fT PT from hPT), (show zPL fL PL from hPL), (show zRk PT PT me.toInt me.toInt mx.toInt mx.toInt pe.toInt wo.toInt tx.toInt from zRk_0)⟩) hP hD
          · skip
            have hP : va_P g.1 vwCl (List.flatten [bLog g go gr gz gn fr, bMem g mo qT qL it il ig mh me mx fT fL, bTown g o a pe wo tx ch jo tr dy sd f, bPT g PT, bPL g PL, bDR g x ta o lo go tt lt mo fo ro fl9]) H := hP
            have hD : va_D A (List.flatten [bLog g go gr gz gn fr, bMem g mo qT qL it il ig mh me mx fT fL, bTown g o a pe wo tx ch jo tr dy sd f, bPT g PT, bPL g PL, bDR g x ta o lo go tt lt mo fo ro fl9]) := hD
            refine W.widen (k := 3) (n := 18) (Nat.le_of_ble_eq_true rfl) (Nat.le_of_ble_eq_true rfl) ?_
            refine W.eq (g2 := F0 m 61 ls []) rfl ?_
            have hP : va_P g.1 vwCl (List.flatten [bLog g go gr gz gn fr, bMem g mo qT qL it il ig mh me mx fT fL, bTown g o a pe wo tx ch jo tr dy sd f, bPT g PT, bPL g PL, bDR g x ta o lo go tt lt mo fo ro fl9]) H := hP
            have hD : va_D A (List.flatten [bLog g go gr gz gn fr, bMem g mo qT qL it il ig mh me mx fT fL, bTown g o a pe wo tx ch jo tr dy sd f, bPT g PT, bPL g PL, bDR g x ta o lo go tt lt mo fo ro fl9]) := hD
            obtain ⟨hP, hD⟩ := zord (g := g) (Bs' := [bLog g go gr gz gn fr, bMem g mo qT qL it il ig mh me mx fT fL, bTown g o a pe wo tx ch jo tr dy sd f, bDR g x ta o lo go tt lt mo fo ro fl9, bPT g PT, bPL g PL]) [0, 1, 2, 5, 3, 4] rfl rfl hP hD
            refine lv_aload_n hx hb dX11_buy_61 rfl (lv_at hl 1 rfl) ?_
            refine va_get (D := g.1) (ci := 9) (v := .ref mo) (C := RX11) (T := TX11) (N := 10) hx hb hts izRX11 hown hK hP 17 rfl rfl 6 (by decide) (hts _ k551) (fun _ h9 => h9) rfl dX11_buy_62 ?_
            refine lv_aload_n hx hb dX11_buy_65 rfl (lv_at hl 1 rfl) ?_
            refine va_get (D := g.1) (ci := 9) (v := .ref o) (C := RX11) (T := TX11) (N := 10) hx hb hts izRX11 hown hK hP 17 rfl rfl 1 (by decide) (hts _ k538) (fun _ h9 => h9) rfl dX11_buy_66 ?_
            refine lv_aload_n hx hb dX11_buy_69 rfl (lv_at hl 1 rfl) ?_
            refine va_get (D := g.1) (ci := 9) (v := .ref go) (C := RX11) (T := TX11) (N := 10) hx hb hts izRX11 hown hK hP 17 rfl rfl 3 (by decide) (hts _ k542) (fun _ h9 => h9) rfl dX11_buy_70 ?_
            refine mcallV' (g := g) (q0 := 0) (ci := 4) (As := [.ref o, .ref go]) (rest := []) St hK hT hA hP hD hS hl.1 [1, 2, 0, 4, 5] [3] rfl rfl rfl (c_m_remember l g mo qT qL it il ig mh me mx fT fL o a pe wo tx ch jo tr dy sd f go gr gz gn fr PT PL b_me b_mx b_pe b_wo rf b_gz b_gn hPT hPL) (cwV 2 hts (zgL (zl4 k662 k663 k664 k378) k367) rfl rfl rfl (by decide +kernel) ⟨Nat.le_of_ble_eq_true rfl, Nat.le_of_ble_eq_true rfl⟩) rfl rfl rfl rfl (Nat.le_of_ble_eq_true rfl) dX11_buy_73 ⟨(Nat.le_of_ble_eq_true rfl), (Nat.le_of_ble_eq_true rfl)⟩ (fun u_ H locs hq50 hP hD hS => ?_)
            obtain ⟨me2_46, mx2_47, PT2_48, PL2_49⟩ := u_
            replace hq50 : (0 ≤ me2_46.toInt ∧ me2_46.toInt ≤ 12) ∧ (0 ≤ mx2_47.toInt ∧ mx2_47.toInt ≤ 11) ∧ (zPT fT PT2_48) ∧ (zPL fL PL2_49) ∧ (me2_46.toInt = min (me.toInt + 1) 12) ∧ (mx2_47.toInt = (mx.toInt + 1) % 12) ∧ (zPk PT PT2_48 mx.toInt.toNat pe.toInt wo.toInt tx.toInt) := hq50
            have hP : va_P g.1 vwCl (List.flatten [bDR g x ta o lo go tt lt mo fo ro fl9, bMem g mo qT qL it il ig mh me2_46 mx2_47 fT fL, bTown g o a pe wo tx ch jo tr dy sd f, bLog g go gr gz gn fr, bPT g PT2_48, bPL g PL2_49]) H := hP
            have hD : va_D A (List.flatten [bDR g x ta o lo go tt lt mo fo ro fl9, bMem g mo qT qL it il ig mh me2_46 mx2_47 fT fL, bTown g o a pe wo tx ch jo tr dy sd f, bLog g go gr gz gn fr, bPT g PT2_48, bPL g PL2_49]) := hD
            refine W.widen (k := 3) (n := 18) (Nat.le_of_ble_eq_true rfl) (Nat.le_of_ble_eq_true rfl) ?_
            refine W.eq (g2 := F0 m 76 ls []) rfl ?_
            obtain ⟨hq50_0, hq50_1, hq50_2, hq50_3, hq50_4, hq50_5, hq50_6⟩ := hq50
            refine lv_aload_n hx hb dX11_buy_76 rfl (lv_at hl 1 rfl) ?_
            refine va_get (D := g.1) (ci := 9) (v := .ref o) (C := RX11) (T := TX11) (N := 10) hx hb hts izRX11 hown hK hP 0 rfl rfl 1 (by decide) (hts _ k538) (fun _ h9 => h9) rfl dX11_buy_77 ?_
            refine va_get (D := g.1) (ci := 7) (v := .ref (a 2)) (C := RX9) (T := TX9) (N := 19) hx hb hts izRX9 hown hK hP 4 rfl rfl 10 (by decide) (hts _ k615) (fun _ h9 => h9) rfl dX11_buy_80 ?_
            refine lv_iload_n hx hb dX11_buy_83 rfl (lv_at hl 2 rfl) ?_
            refine lv_dup2_11 hx hb dX11_buy_84 rfl rfl ?_
            refine va_iald hx hb hK hP 7 0 rfl rfl (zinK (a := 0) (b := 7) hq1_0.1 hq1_0.2 (by decide)) dX11_buy_85 ?_
            refine zg (fun x_51 => ?_)
            refine lv_iload_n hx hb dX11_buy_86 rfl (lv_at hl 3 rfl) ?_
            refine lv_iadd hx hb dX11_buy_87 ?_
            refine zg (fun x_52 => ?_)
            refine va_iast hx hb hK hP hD hS 7 0 rfl rfl (zinK (a := 0) (b := 7) hq1_0.1 hq1_0.2 (by decide)) dX11_buy_88 (fun H locs hP hD hS => ?_)
            obtain ⟨f53, rf53, hP, hD⟩ : ∃ f53 : Nat → Nat → Int32, zZ4 f53 ∧ va_P g.1 vwCl (List.flatten [bDR g x ta o lo go tt lt mo fo ro fl9, bMem g mo qT qL it il ig mh me2_46 mx2_47 fT fL, bTown g o a pe wo tx ch jo tr dy sd f53, bLog g go gr gz gn fr, bPT g PT2_48, bPL g PL2_49]) H ∧ va_D A (List.flatten [bDR g x ta o lo go tt lt mo fo ro fl9, bMem g mo qT qL it il ig mh me2_46 mx2_47 fT fL, bTown g o a pe wo tx ch jo tr dy sd f53, bLog g go gr gz gn fr, bPT g PT2_48, bPL g PL2_49]) := ⟨zu f 2 (upd (f 2) pp.toNatClampNeg x_52), (zZ4_u rf (by decide)), hP, hD⟩
            refine lv_aload_n hx hb dX11_buy_89 rfl (lv_at hl 1 rfl) ?_
            refine va_get (D := g.1) (ci := 9) (v := .ref o) (C := RX11) (T := TX11) (N := 10) hx hb hts izRX11 hown hK hP 0 rfl rfl 1 (by decide) (hts _ k538) (fun _ h9 => h9) rfl dX11_buy_90 ?_
            refine va_get (D := g.1) (ci := 7) (v := .ref (a 1)) (C := RX9) (T := TX9) (N := 19) hx hb hts izRX9 hown hK hP 4 rfl rfl 9 (by decide) (hts _ k614) (fun _ h9 => h9) rfl dX11_buy_93 ?_
            refine lv_iload_n hx hb dX11_buy_96 rfl (lv_at hl 2 rfl) ?_
            refine lv_dup2_11 hx hb dX11_buy_97 rfl rfl ?_
            refine va_iald hx hb hK hP 6 0 rfl rfl (zinK (a := 0) (b := 7) hq1_0.1 hq1_0.2 (by decide)) dX11_buy_98 ?_
            refine zg (fun x_54 => ?_)
            refine lv_iload_n hx hb dX11_buy_99 rfl (lv_at hl 0 rfl) ?_
            refine lv_isub hx hb dX11_buy_100 ?_
            refine zg (fun x_55 => ?_)
            refine va_iast hx hb hK hP hD hS 6 0 rfl rfl (zinK (a := 0) (b := 7) hq1_0.1 hq1_0.2 (by decide)) dX11_buy_101 (fun H locs hP hD hS => ?_)
            obtain ⟨f56, rf56, hP, hD⟩ : ∃ f56 : Nat → Nat → Int32, zZ4 f56 ∧ va_P g.1 vwCl (List.flatten [bDR g x ta o lo go tt lt mo fo ro fl9, bMem g mo qT qL it il ig mh me2_46 mx2_47 fT fL, bTown g o a pe wo tx ch jo tr dy sd f56, bLog g go gr gz gn fr, bPT g PT2_48, bPL g PL2_49]) H ∧ va_D A (List.flatten [bDR g x ta o lo go tt lt mo fo ro fl9, bMem g mo qT qL it il ig mh me2_46 mx2_47 fT fL, bTown g o a pe wo tx ch jo tr dy sd f56, bLog g go gr gz gn fr, bPT g PT2_48, bPL g PL2_49]) := ⟨zu f53 1 (upd (f53 1) pp.toNatClampNeg x_55), (zZ4_u rf53 (by decide)), hP, hD⟩
            refine lv_aload_n hx hb dX11_buy_102 rfl (lv_at hl 1 rfl) ?_
            refine va_get (D := g.1) (ci := 9) (v := .ref o) (C := RX11) (T := TX11) (N := 10) hx hb hts izRX11 hown hK hP 0 rfl rfl 1 (by decide) (hts _ k538) (fun _ h9 => h9) rfl dX11_buy_103 ?_
            refine lv_sipush (v := 9999) hx hb dX11_buy_106 (by decide) ?_
            refine lv_aload_n hx hb dX11_buy_109 rfl (lv_at hl 1 rfl) ?_
            refine va_get (D := g.1) (ci := 9) (v := .ref o) (C := RX11) (T := TX11) (N := 10) hx hb hts izRX11 hown hK hP 0 rfl rfl 1 (by decide) (hts _ k538) (fun _ h9 => h9) rfl dX11_buy_110 ?_
            refine va_get (D := g.1) (ci := 7) (v := .int ch) (C := RX9) (T := TX9) (N := 19) hx hb hts izRX9 hown hK hP 4 rfl rfl 3 (by decide) (hts _ k677) (fun _ h9 => h9) rfl dX11_buy_113 ?_
            refine lv_iload_n hx hb dX11_buy_116 rfl (lv_at hl 0 rfl) ?_
            refine lv_iadd hx hb dX11_buy_117 ?_
            refine zg (fun x_57 => ?_)
            refine va_mmin hx hb (by rw [hml]; exact hl.1.symm) hown (hts _ k678) (hts _ k41) (hts _ k42) (hts _ k43) (Nat.le_of_ble_eq_true rfl) (Nat.le_of_ble_eq_true rfl) (Nat.le_of_ble_eq_true rfl) (Nat.le_of_ble_eq_true rfl) dX11_buy_118 ?_
            refine zgmn (i := 9999) (j := x_57.toInt) (by decide) rfl (fun x_58 hx_58 => ?_)
            refine va_put (D := g.1) (ci := 7) (v := .int x_58) (ty := .int) (C := RX9) (T := TX9) (N := 19) hx hb hts izRX9 tyX9 tyX9_ok nmX9 hown hK hP hD hS 4 rfl rfl 3 (by decide) (hts _ k677) (fun _ h9 => h9) rfl (by decide +kernel) rfl rfl (Nat.le_of_ble_eq_true rfl) dX11_buy_121 (fun H locs hP hD hS => ?_)
            have hP : va_P g.1 vwCl (List.flatten [bDR g x ta o lo go tt lt mo fo ro fl9, bMem g mo qT qL it il ig mh me2_46 mx2_47 fT fL, bTown g o a pe wo tx x_58 jo tr dy sd f56, bLog g go gr gz gn fr, bPT g PT2_48, bPL g PL2_49]) H := hP
            have hD : va_D A (List.flatten [bDR g x ta o lo go tt lt mo fo ro fl9, bMem g mo qT qL it il ig mh me2_46 mx2_47 fT fL, bTown g o a pe wo tx x_58 jo tr dy sd f56, bLog g go gr gz gn fr, bPT g PT2_48, bPL g PL2_49]) := hD
            refine lv_aload_n hx hb dX11_buy_124 rfl (lv_at hl 1 rfl) ?_
            refine va_get (D := g.1) (ci := 9) (v := .ref o) (C := RX11) (T := TX11) (N := 10) hx hb hts izRX11 hown hK hP 0 rfl rfl 1 (by decide) (hts _ k538) (fun _ h9 => h9) rfl dX11_buy_125 ?_
            refine va_get (D := g.1) (ci := 7) (v := .ref (a 1)) (C := RX9) (T := TX9) (N := 19) hx hb hts izRX9 hown hK hP 4 rfl rfl 9 (by decide) (hts _ k614) (fun _ h9 => h9) rfl dX11_buy_128 ?_
            refine lv_iload_n hx hb dX11_buy_131 rfl (lv_at hl 2 rfl) ?_
            refine va_iald hx hb hK hP 6 0 rfl rfl (zinK (a := 0) (b := 7) hq1_0.1 hq1_0.2 (by decide)) dX11_buy_132 ?_
            refine zg (fun x_59 => ?_)
            have hP : va_P g.1 vwCl (List.flatten [bDR g x ta o lo go tt lt mo fo ro fl9, bMem g mo qT qL it il ig mh me2_46 mx2_47 fT fL, bTown g o a pe wo tx x_58 jo tr dy sd f56, bLog g go gr gz gn fr, bPT g PT2_48, bPL g PL2_49]) H := hP
            have hD : va_D A (List.flatten [bDR g x ta o lo go tt lt mo fo ro fl9, bMem g mo qT qL it il ig mh me2_46 mx2_47 fT fL, bTown g o a pe wo tx x_58 jo tr dy sd f56, bLog g go gr gz gn fr, bPT g PT2_48, bPL g PL2_49]) := hD
            obtain ⟨hP, hD⟩ := zord (g := g) (Bs' := [bDR g x ta o lo go tt lt mo fo ro fl9, bTown g o a pe wo tx x_58 jo tr dy sd f56, bLog g go gr gz gn fr, bMem g mo qT qL it il ig mh me2_46 mx2_47 fT fL, bPT g PT2_48, bPL g PL2_49]) [0, 2, 3, 1, 4, 5] rfl rfl hP hD
            exact zret_i hx hb hr hlocks hS (Nat.le_of_ble_eq_true rfl) (Nat.le_of_ble_eq_true rfl) dX11_buy_133 (f56, x_58, me2_46, mx2_47, PT2_48, PL2_49, x_59) rfl (show (zZ4 f56) ∧ (0 ≤ me2_46.toInt ∧ me2_46.toInt ≤ 12) ∧ (0 ≤ mx2_47.toInt ∧ mx2_47.toInt ≤ 11) ∧ (zPT fT PT2_48) ∧ (zPL fL PL2_49) ∧ (zRk PT PT2_48 me.toInt me2_46.toInt mx.toInt mx2_47.toInt pe.toInt wo.toInt tx.toInt) from ⟨rf56, hq50_0, hq50_1, hq50_2, hq50_3, (Or.inr ⟨hq50_4, hq50_5, hq50_6⟩)⟩) hP hD
set_option maxRecDepth 100000 in
set_option maxHeartbeats 4000000 in
theorem c_x_sell (l : Launch) (hfl : l.stackTraces = false) (g : zG) (x : Nat) (ta : Nat) (o : Nat) (lo : Nat) (go : Nat) (tt : Nat) (lt : Nat) (mo : Nat) (fo : Nat) (ro : Nat) (fl9 : Int32) (a : Nat → Nat) (pe : Int32) (wo : Int32) (tx : Int32) (ch : Int32) (jo : Int32) (tr : Int32) (dy : Int32) (sd : Int32) (f : Nat → Nat → Int32) (gr : Nat) (gz : Int32) (gn : Int32) (fr : Nat → Int32) (qT : Nat) (qL : Nat) (it : Nat) (il : Nat) (ig : Nat) (mh : Int32) (me : Int32) (mx : Int32) (fT : Nat → Option Nat) (fL : Nat → Option Nat) (PT : Nat → zTR) (PL : Nat → zLR) (pp : Int32) (n : Int32) (b_pe : 0 ≤ pe.toInt ∧ pe.toInt ≤ 8) (b_wo : 0 ≤ wo.toInt ∧ wo.toInt ≤ 6) (rf : zZ4 f) (b_gz : 0 ≤ gz.toInt ∧ gz.toInt ≤ 60) (b_gn : 0 ≤ gn.toInt ∧ gn.toInt ≤ 59) (b_me : 0 ≤ me.toInt ∧ me.toInt ≤ 12) (b_mx : 0 ≤ mx.toInt ∧ mx.toInt ≤ 11) (hPT : zPT fT PT) (hPL : zPL fL PL) : zX' g l yX11_sell (Cond.code yX11_sell cX11_sell 4 (some .int) :: zB) ({ frames := 7, cells := 3, slots := 18, locals := 105 } : Room) [.ref x, .int pp, .int n] [bDR g x ta o lo go tt lt mo fo ro fl9, bTown g o a pe wo tx ch jo tr dy sd f, bLog g go gr gz gn fr, bMem g mo qT qL it il ig mh me mx fT fL, bPT g PT, bPL g PL] (fun u : (Nat → Nat → Int32) × Int32 × Int32 × Int32 × (Nat → zTR) × (Nat → zLR) × Int32 => (fun (f2 : Nat → Nat → Int32) (ch2 : Int32) (me2 : Int32) (mx2 : Int32) (PT2 : Nat → zTR) (PL2 : Nat → zLR) (q : Int32) => some (.int q)) (u.1) (u.2.1) (u.2.2.1) (u.2.2.2.1) (u.2.2.2.2.1) (u.2.2.2.2.2.1) (u.2.2.2.2.2.2)) (fun u : (Nat → Nat → Int32) × Int32 × Int32 × Int32 × (Nat → zTR) × (Nat → zLR) × Int32 => (fun (f2 : Nat → Nat → Int32) (ch2 : Int32) (me2 : Int32) (mx2 : Int32) (PT2 : Nat → zTR) (PL2 : Nat → zLR) (q : Int32) => (zZ4 f2) ∧ (0 ≤ me2.toInt ∧ me2.toInt ≤ 12) ∧ (0 ≤ mx2.toInt ∧ mx2.toInt ≤ 11) ∧ (zPT fT PT2) ∧ (zPL fL PL2) ∧ (zRk PT PT2 me.toInt me2.toInt mx.toInt mx2.toInt pe.toInt wo.toInt tx.toInt)) (u.1) (u.2.1) (u.2.2.1) (u.2.2.2.1) (u.2.2.2.2.1) (u.2.2.2.2.2.1) (u.2.2.2.2.2.2)) (fun u : (Nat → Nat → Int32) × Int32 × Int32 × Int32 × (Nat → zTR) × (Nat → zLR) × Int32 => (fun (f2 : Nat → Nat → Int32) (ch2 : Int32) (me2 : Int32) (mx2 : Int32) (PT2 : Nat → zTR) (PL2 : Nat → zLR) (q : Int32) => [bDR g x ta o lo go tt lt mo fo ro fl9, bTown g o a pe wo tx ch2 jo tr dy sd f2, bLog g go gr gz gn fr, bMem g mo qT qL it il ig mh me2 mx2 fT fL, bPT g PT2, bPL g PL2]) (u.1) (u.2.1) (u.2.2.1) (u.2.2.2.1) (u.2.2.2.2.1) (u.2.2.2.2.2.1) (u.2.2.2.2.2.2)) (fun (E : String) => fun u : (Nat → Nat → Int32) × Int32 × Int32 × Int32 × (Nat → zTR) × (Nat → zLR) => (fun (f2 : Nat → Nat → Int32) (ch2 : Int32) (me2 : Int32) (mx2 : Int32) (PT2 : Nat → zTR) (PL2 : Nat → zLR) => (E = "java/lang/IndexOutOfBoundsException" ∨ E = "java/lang/IllegalArgumentException" ∨ E = "java/lang/IllegalStateException") ∧ (zZ4 f2) ∧ (0 ≤ me2.toInt ∧ me2.toInt ≤ 12) ∧ (0 ≤ mx2.toInt ∧ mx2.toInt ≤ 11) ∧ (zPT fT PT2) ∧ (zPL fL PL2) ∧ (zRk PT PT2 me.toInt me2.toInt mx.toInt mx2.toInt pe.toInt wo.toInt tx.toInt)) (u.1) (u.2.1) (u.2.2.1) (u.2.2.2.1) (u.2.2.2.2.1) (u.2.2.2.2.2)) (fun u : (Nat → Nat → Int32) × Int32 × Int32 × Int32 × (Nat → zTR) × (Nat → zLR) => (fun (f2 : Nat → Nat → Int32) (ch2 : Int32) (me2 : Int32) (mx2 : Int32) (PT2 : Nat → zTR) (PL2 : Nat → zLR) => [bDR g x ta o lo go tt lt mo fo ro fl9, bTown g o a pe wo tx ch2 jo tr dy sd f2, bLog g go gr gz gn fr, bMem g mo qT qL it il ig mh me2 mx2 fT fL, bPT g PT2, bPL g PL2]) (u.1) (u.2.1) (u.2.2.1) (u.2.2.2.1) (u.2.2.2.2.1) (u.2.2.2.2.2)) := by
  refine zX'.of (cc := cX11_sell) (maxL := 4) (rt := (some .int)) (by decide) rfl (Nat.le_of_ble_eq_true rfl) ?_
  intro p e s m args below meth c A ls St hr hlocks htab hin hK hT hA hP hD hS hl
  obtain ⟨hx, hb, hml, hown, hts⟩ := id St
  have hl : lv_has ls 4 [(0, .ref x), (1, .int pp), (2, .int n)] := hl
  refine lv_aload_n hx hb dX11_sell_0 rfl (lv_at hl 0 rfl) ?_
  refine lv_iload_n hx hb dX11_sell_1 rfl (lv_at hl 1 rfl) ?_
  refine xcallV' (g := g) (q0 := 0) (ci := 9) (As := [.int pp]) (rest := []) St hK hT hA hP hD hS hl.1 [0, 1] [2, 3, 4, 5] rfl rfl rfl (c_x_needPerson l hfl g x ta o lo go tt lt mo fo ro fl9 a pe wo tx ch jo tr dy sd f pp b_pe b_wo rf) (cwV 1 hts (zgL (zl4 k618 k619 k620 k621) k607) rfl rfl rfl (by decide +kernel) ⟨Nat.le_of_ble_eq_true rfl, Nat.le_of_ble_eq_true rfl⟩) rfl rfl rfl rfl (Nat.le_of_ble_eq_true rfl) dX11_sell_2 ⟨(Nat.le_of_ble_eq_true rfl), (Nat.le_of_ble_eq_true rfl)⟩ (fun E ce q9 u9 H locs hpx hP hD hS hce hcv hcl => ?_) (fun _u H locs hq1 hP hD hS => ?_)
  · skip
    have hpx : (E = "java/lang/IndexOutOfBoundsException") := hpx
    have hP : va_P g.1 vwCl (List.flatten [bLog g go gr gz gn fr, bMem g mo qT qL it il ig mh me mx fT fL, bPT g PT, bPL g PL, bDR g x ta o lo go tt lt mo fo ro fl9, bTown g o a pe wo tx ch jo tr dy sd f]) H := hP
    have hD : va_D A (List.flatten [bLog g go gr gz gn fr, bMem g mo qT qL it il ig mh me mx fT fL, bPT g PT, bPL g PL, bDR g x ta o lo go tt lt mo fo ro fl9, bTown g o a pe wo tx ch jo tr dy sd f]) := hD
    have hP : va_P g.1 vwCl (List.flatten [bLog g go gr gz gn fr, bMem g mo qT qL it il ig mh me mx fT fL, bPT g PT, bPL g PL, bDR g x ta o lo go tt lt mo fo ro fl9, bTown g o a pe wo tx ch jo tr dy sd f]) H := hP
    have hD : va_D A (List.flatten [bLog g go gr gz gn fr, bMem g mo qT qL it il ig mh me mx fT fL, bPT g PT, bPL g PL, bDR g x ta o lo go tt lt mo fo ro fl9, bTown g o a pe wo tx ch jo tr dy sd f]) := hD
    obtain ⟨hP, hD⟩ := zord (g := g) (Bs' := [bLog g go gr gz gn fr, bMem g mo qT qL it il ig mh me mx fT fL, bDR g x ta o lo go tt lt mo fo ro fl9, bTown g o a pe wo tx ch jo tr dy sd f, bPT g PT, bPL g PL]) [0, 1, 4, 5, 2, 3] rfl rfl hP hD
    have hP : va_P g.1 vwCl (List.flatten [bLog g go gr gz gn fr, bMem g mo qT qL it il ig mh me mx fT fL, bDR g x ta o lo go tt lt mo fo ro fl9, bTown g o a pe wo tx ch jo tr dy sd f, bPT g PT, bPL g PL]) H := hP
    have hD : va_D A (List.flatten [bLog g go gr gz gn fr, bMem g mo qT qL it il ig mh me mx fT fL, bDR g x ta o lo go tt lt mo fo ro fl9, bTown g o a pe wo tx ch jo tr dy sd f, bPT g PT, bPL g PL]) := hD
    obtain ⟨hP, hD⟩ := zord (g := g) (Bs' := [bDR g x ta o lo go tt lt mo fo ro fl9, bTown g o a pe wo tx ch jo tr dy sd f, bLog g go gr gz gn fr, bMem g mo qT qL it il ig mh me mx fT fL, bPT g PT, bPL g PL]) [2, 3, 0, 1, 4, 5] rfl rfl hP hD
    exact zout htab hlocks hS (Nat.le_of_ble_eq_true rfl) (Nat.le_of_ble_eq_true rfl) hce hcv hcl (f, ch, me, mx, PT, PL) (show (E = "java/lang/IndexOutOfBoundsException" ∨ E = "java/lang/IllegalArgumentException" ∨ E = "java/lang/IllegalStateException") ∧ (zZ4 f) ∧ (0 ≤ me.toInt ∧ me.toInt ≤ 12) ∧ (0 ≤ mx.toInt ∧ mx.toInt ≤ 11) ∧ (zPT fT PT) ∧ (zPL fL PL) ∧ (zRk PT PT me.toInt me.toInt mx.toInt mx.toInt pe.toInt wo.toInt tx.toInt) from ⟨(Or.inl hpx), (show zZ4 f from rf), (show 0 ≤ me.toInt ∧ me.toInt ≤ 12 from b_me), (show 0 ≤ mx.toInt ∧ mx.toInt ≤ 11 from b_mx), (show zPT fT PT from hPT), (show zPL fL PL from hPL), (show zRk PT PT me.toInt me.toInt mx.toInt mx.toInt pe.toInt wo.toInt tx.toInt from zRk_0)⟩) hP hD
  · skip
    replace hq1 : (0 ≤ pp.toInt ∧ pp.toInt ≤ 7) ∧ (pp.toInt < pe.toInt) := hq1
    have hP : va_P g.1 vwCl (List.flatten [bLog g go gr gz gn fr, bMem g mo qT qL it il ig mh me mx fT fL, bPT g PT, bPL g PL, bDR g x ta o lo go tt lt mo fo ro fl9, bTown g o a pe wo tx ch jo tr dy sd f]) H := hP
    have hD : va_D A (List.flatten [bLog g go gr gz gn fr, bMem g mo qT qL it il ig mh me mx fT fL, bPT g PT, bPL g PL, bDR g x ta o lo go tt lt mo fo ro fl9, bTown g o a pe wo tx ch jo tr dy sd f]) := hD
    refine W.widen (k := 1) (n := 6) (Nat.le_of_ble_eq_true rfl) (Nat.le_of_ble_eq_true rfl) ?_
    refine W.eq (g2 := F0 m 5 ls []) rfl ?_
    have hP : va_P g.1 vwCl (List.flatten [bLog g go gr gz gn fr, bMem g mo qT qL it il ig mh me mx fT fL, bPT g PT, bPL g PL, bDR g x ta o lo go tt lt mo fo ro fl9, bTown g o a pe wo tx ch jo tr dy sd f]) H := hP
    have hD : va_D A (List.flatten [bLog g go gr gz gn fr, bMem g mo qT qL it il ig mh me mx fT fL, bPT g PT, bPL g PL, bDR g x ta o lo go tt lt mo fo ro fl9, bTown g o a pe wo tx ch jo tr dy sd f]) := hD
    obtain ⟨hP, hD⟩ := zord (g := g) (Bs' := [bLog g go gr gz gn fr, bMem g mo qT qL it il ig mh me mx fT fL, bDR g x ta o lo go tt lt mo fo ro fl9, bTown g o a pe wo tx ch jo tr dy sd f, bPT g PT, bPL g PL]) [0, 1, 4, 5, 2, 3] rfl rfl hP hD
    obtain ⟨hq1_0, hq1_1⟩ := hq1
    refine lv_aload_n hx hb dX11_sell_5 rfl (lv_at hl 0 rfl) ?_
    refine lv_iload_n hx hb dX11_sell_6 rfl (lv_at hl 2 rfl) ?_
    refine lv_iconst (v := 1) hx hb dX11_sell_7 (by decide) ?_
    refine lv_bipush (v := 99) hx hb dX11_sell_8 (by decide) ?_
    refine xcallV' (g := g) (q0 := 0) (ci := 9) (As := [.int n, .int 1, .int 99]) (rest := []) St hK hT hA hP hD hS hl.1 [2] [0, 1, 3, 4, 5] rfl rfl rfl (c_x_nw_1_99 l hfl g x ta o lo go tt lt mo fo ro fl9 n ) (cwV 3 hts (zgL (zl4 k668 k669 k670 k621) k667) rfl rfl rfl (by decide +kernel) ⟨Nat.le_of_ble_eq_true rfl, Nat.le_of_ble_eq_true rfl⟩) rfl rfl rfl rfl (Nat.le_of_ble_eq_true rfl) dX11_sell_10 ⟨(Nat.le_of_ble_eq_true rfl), (Nat.le_of_ble_eq_true rfl)⟩ (fun E ce q9 u9 H locs hpx hP hD hS hce hcv hcl => ?_) (fun _u H locs hq2 hP hD hS => ?_)
    · skip
      have hpx : (E = "java/lang/IllegalArgumentException") := hpx
      have hP : va_P g.1 vwCl (List.flatten [bLog g go gr gz gn fr, bMem g mo qT qL it il ig mh me mx fT fL, bTown g o a pe wo tx ch jo tr dy sd f, bPT g PT, bPL g PL, bDR g x ta o lo go tt lt mo fo ro fl9]) H := hP
      have hD : va_D A (List.flatten [bLog g go gr gz gn fr, bMem g mo qT qL it il ig mh me mx fT fL, bTown g o a pe wo tx ch jo tr dy sd f, bPT g PT, bPL g PL, bDR g x ta o lo go tt lt mo fo ro fl9]) := hD
      have hP : va_P g.1 vwCl (List.flatten [bLog g go gr gz gn fr, bMem g mo qT qL it il ig mh me mx fT fL, bTown g o a pe wo tx ch jo tr dy sd f, bPT g PT, bPL g PL, bDR g x ta o lo go tt lt mo fo ro fl9]) H := hP
      have hD : va_D A (List.flatten [bLog g go gr gz gn fr, bMem g mo qT qL it il ig mh me mx fT fL, bTown g o a pe wo tx ch jo tr dy sd f, bPT g PT, bPL g PL, bDR g x ta o lo go tt lt mo fo ro fl9]) := hD
      obtain ⟨hP, hD⟩ := zord (g := g) (Bs' := [bLog g go gr gz gn fr, bMem g mo qT qL it il ig mh me mx fT fL, bTown g o a pe wo tx ch jo tr dy sd f, bDR g x ta o lo go tt lt mo fo ro fl9, bPT g PT, bPL g PL]) [0, 1, 2, 5, 3, 4] rfl rfl hP hD
      have hP : va_P g.1 vwCl (List.flatten [bLog g go gr gz gn fr, bMem g mo qT qL it il ig mh me mx fT fL, bTown g o a pe wo tx ch jo tr dy sd f, bDR g x ta o lo go tt lt mo fo ro fl9, bPT g PT, bPL g PL]) H := hP
      have hD : va_D A (List.flatten [bLog g go gr gz gn fr, bMem g mo qT qL it il ig mh me mx fT fL, bTown g o a pe wo tx ch jo tr dy sd f, bDR g x ta o lo go tt lt mo fo ro fl9, bPT g PT, bPL g PL]) := hD
      obtain ⟨hP, hD⟩ := zord (g := g) (Bs' := [bDR g x ta o lo go tt lt mo fo ro fl9, bTown g o a pe wo tx ch jo tr dy sd f, bLog g go gr gz gn fr, bMem g mo qT qL it il ig mh me mx fT fL, bPT g PT, bPL g PL]) [3, 2, 0, 1, 4, 5] rfl rfl hP hD
      exact zout htab hlocks hS (Nat.le_of_ble_eq_true rfl) (Nat.le_of_ble_eq_true rfl) hce hcv hcl (f, ch, me, mx, PT, PL) (show (E = "java/lang/IndexOutOfBoundsException" ∨ E = "java/lang/IllegalArgumentException" ∨ E = "java/lang/IllegalStateException") ∧ (zZ4 f) ∧ (0 ≤ me.toInt ∧ me.toInt ≤ 12) ∧ (0 ≤ mx.toInt ∧ mx.toInt ≤ 11) ∧ (zPT fT PT) ∧ (zPL fL PL) ∧ (zRk PT PT me.toInt me.toInt mx.toInt mx.toInt pe.toInt wo.toInt tx.toInt) from ⟨(Or.inr (Or.inl hpx)), (show zZ4 f from rf), (show 0 ≤ me.toInt ∧ me.toInt ≤ 12 from b_me), (show 0 ≤ mx.toInt ∧ mx.toInt ≤ 11 from b_mx), (show zPT fT PT from hPT), (show zPL fL PL from hPL), (show zRk PT PT me.toInt me.toInt mx.toInt mx.toInt pe.toInt wo.toInt tx.toInt from zRk_0)⟩) hP hD
    · skip
      replace hq2 : (1 ≤ n.toInt ∧ n.toInt ≤ 99) := hq2
      have hP : va_P g.1 vwCl (List.flatten [bLog g go gr gz gn fr, bMem g mo qT qL it il ig mh me mx fT fL, bTown g o a pe wo tx ch jo tr dy sd f, bPT g PT, bPL g PL, bDR g x ta o lo go tt lt mo fo ro fl9]) H := hP
      have hD : va_D A (List.flatten [bLog g go gr gz gn fr, bMem g mo qT qL it il ig mh me mx fT fL, bTown g o a pe wo tx ch jo tr dy sd f, bPT g PT, bPL g PL, bDR g x ta o lo go tt lt mo fo ro fl9]) := hD
      refine W.widen (k := 2) (n := 12) (Nat.le_of_ble_eq_true rfl) (Nat.le_of_ble_eq_true rfl) ?_
      refine W.eq (g2 := F0 m 13 ls []) rfl ?_
      have hP : va_P g.1 vwCl (List.flatten [bLog g go gr gz gn fr, bMem g mo qT qL it il ig mh me mx fT fL, bTown g o a pe wo tx ch jo tr dy sd f, bPT g PT, bPL g PL, bDR g x ta o lo go tt lt mo fo ro fl9]) H := hP
      have hD : va_D A (List.flatten [bLog g go gr gz gn fr, bMem g mo qT qL it il ig mh me mx fT fL, bTown g o a pe wo tx ch jo tr dy sd f, bPT g PT, bPL g PL, bDR g x ta o lo go tt lt mo fo ro fl9]) := hD
      obtain ⟨hP, hD⟩ := zord (g := g) (Bs' := [bLog g go gr gz gn fr, bMem g mo qT qL it il ig mh me mx fT fL, bTown g o a pe wo tx ch jo tr dy sd f, bDR g x ta o lo go tt lt mo fo ro fl9, bPT g PT, bPL g PL]) [0, 1, 2, 5, 3, 4] rfl rfl hP hD
      refine lv_iload_n hx hb dX11_sell_13 rfl (lv_at hl 2 rfl) ?_
      refine lv_aload_n hx hb dX11_sell_14 rfl (lv_at hl 0 rfl) ?_
      refine va_get (D := g.1) (ci := 9) (v := .ref o) (C := RX11) (T := TX11) (N := 10) hx hb hts izRX11 hown hK hP 17 rfl rfl 1 (by decide) (hts _ k538) (fun _ h9 => h9) rfl dX11_sell_15 ?_
      refine mcallV' (g := g) (q0 := 0) (ci := 7) (As := []) (rest := [.int n]) St hK hT hA hP hD hS hl.1 [2] [0, 1, 3, 4, 5] rfl rfl rfl (c_sharePrice l g o a pe wo tx ch jo tr dy sd f b_pe b_wo rf) (cwV 0 hts (zgL (zl4 k649 k188 k189 k24) k186) rfl rfl rfl (by decide +kernel) ⟨Nat.le_of_ble_eq_true rfl, Nat.le_of_ble_eq_true rfl⟩) rfl rfl rfl rfl (Nat.le_of_ble_eq_true rfl) dX11_sell_18 ⟨(Nat.le_of_ble_eq_true rfl), (Nat.le_of_ble_eq_true rfl)⟩ (fun q_3 H locs hq4 hP hD hS => ?_)
      have hP : va_P g.1 vwCl (List.flatten [bLog g go gr gz gn fr, bMem g mo qT qL it il ig mh me mx fT fL, bDR g x ta o lo go tt lt mo fo ro fl9, bPT g PT, bPL g PL, bTown g o a pe wo tx ch jo tr dy sd f]) H := hP
      have hD : va_D A (List.flatten [bLog g go gr gz gn fr, bMem g mo qT qL it il ig mh me mx fT fL, bDR g x ta o lo go tt lt mo fo ro fl9, bPT g PT, bPL g PL, bTown g o a pe wo tx ch jo tr dy sd f]) := hD
      refine W.widen (k := 2) (n := 12) (Nat.le_of_ble_eq_true rfl) (Nat.le_of_ble_eq_true rfl) ?_
      refine W.eq (g2 := F0 m 21 ls [.int q_3, .int n]) rfl ?_
      have hP : va_P g.1 vwCl (List.flatten [bLog g go gr gz gn fr, bMem g mo qT qL it il ig mh me mx fT fL, bDR g x ta o lo go tt lt mo fo ro fl9, bPT g PT, bPL g PL, bTown g o a pe wo tx ch jo tr dy sd f]) H := hP
      have hD : va_D A (List.flatten [bLog g go gr gz gn fr, bMem g mo qT qL it il ig mh me mx fT fL, bDR g x ta o lo go tt lt mo fo ro fl9, bPT g PT, bPL g PL, bTown g o a pe wo tx ch jo tr dy sd f]) := hD
      obtain ⟨hP, hD⟩ := zord (g := g) (Bs' := [bLog g go gr gz gn fr, bMem g mo qT qL it il ig mh me mx fT fL, bDR g x ta o lo go tt lt mo fo ro fl9, bTown g o a pe wo tx ch jo tr dy sd f, bPT g PT, bPL g PL]) [0, 1, 2, 5, 3, 4] rfl rfl hP hD
      refine lv_imul hx hb dX11_sell_21 ?_
      refine zg (fun x_5 => ?_)
      refine lv_istore_n (lv' := [(3, .int x_5), (0, .ref x), (1, .int pp), (2, .int n)]) hx hb dX11_sell_22 rfl hl (by decide) rfl (fun ls hl => ?_)
      refine lv_aload_n hx hb dX11_sell_23 rfl (lv_at hl 1 rfl) ?_
      refine lv_aload_n hx hb dX11_sell_24 rfl (lv_at hl 1 rfl) ?_
      refine va_get (D := g.1) (ci := 9) (v := .ref o) (C := RX11) (T := TX11) (N := 10) hx hb hts izRX11 hown hK hP 5 rfl rfl 1 (by decide) (hts _ k538) (fun _ h9 => h9) rfl dX11_sell_25 ?_
      refine va_get (D := g.1) (ci := 7) (v := .ref (a 2)) (C := RX9) (T := TX9) (N := 19) hx hb hts izRX9 hown hK hP 6 rfl rfl 10 (by decide) (hts _ k615) (fun _ h9 => h9) rfl dX11_sell_28 ?_
      refine lv_iload_n hx hb dX11_sell_31 rfl (lv_at hl 2 rfl) ?_
      refine va_iald hx hb hK hP 9 0 rfl rfl (zinK (a := 0) (b := 7) hq1_0.1 hq1_0.2 (by decide)) dX11_sell_32 ?_
      refine zg (fun x_6 => ?_)
      refine lv_iload_n hx hb dX11_sell_33 rfl (lv_at hl 3 rfl) ?_
      refine lv_icmp_lt (tgt := 52) hx hb dX11_sell_34 (by decide) (fun cb9 => ?_) (fun cb9 => ?_)
      · skip
        have c7 : x_6.toInt < n.toInt := zlti cb9 rfl rfl
        have n8 : x_6.toInt ≤ 98 := zL1 (b := 99) c7 hq2.2 (by decide)
        refine lv_iconst (v := 0) hx hb dX11_sell_52 (by decide) ?_
        refine xcallV' (g := g) (q0 := 0) (ci := 9) (As := [.int 0]) (rest := []) St hK hT hA hP hD hS hl.1 [2] [0, 1, 3, 4, 5] rfl rfl rfl (c_x_needState l hfl g x ta o lo go tt lt mo fo ro fl9 0 ) (cwV 1 hts (zgL (zl4 k656 k657 k658 k621) k651) rfl rfl rfl (by decide +kernel) ⟨Nat.le_of_ble_eq_true rfl, Nat.le_of_ble_eq_true rfl⟩) rfl rfl rfl rfl (Nat.le_of_ble_eq_true rfl) dX11_sell_53 ⟨(Nat.le_of_ble_eq_true rfl), (Nat.le_of_ble_eq_true rfl)⟩ (fun E ce q9 u9 H locs hpx hP hD hS hce hcv hcl => ?_) (fun _u H locs hq9 hP hD hS => ?_)
        · skip
          have hpx : (E = "java/lang/IllegalStateException") := hpx
          have hP : va_P g.1 vwCl (List.flatten [bLog g go gr gz gn fr, bMem g mo qT qL it il ig mh me mx fT fL, bTown g o a pe wo tx ch jo tr dy sd f, bPT g PT, bPL g PL, bDR g x ta o lo go tt lt mo fo ro fl9]) H := hP
          have hD : va_D A (List.flatten [bLog g go gr gz gn fr, bMem g mo qT qL it il ig mh me mx fT fL, bTown g o a pe wo tx ch jo tr dy sd f, bPT g PT, bPL g PL, bDR g x ta o lo go tt lt mo fo ro fl9]) := hD
          have hP : va_P g.1 vwCl (List.flatten [bLog g go gr gz gn fr, bMem g mo qT qL it il ig mh me mx fT fL, bTown g o a pe wo tx ch jo tr dy sd f, bPT g PT, bPL g PL, bDR g x ta o lo go tt lt mo fo ro fl9]) H := hP
          have hD : va_D A (List.flatten [bLog g go gr gz gn fr, bMem g mo qT qL it il ig mh me mx fT fL, bTown g o a pe wo tx ch jo tr dy sd f, bPT g PT, bPL g PL, bDR g x ta o lo go tt lt mo fo ro fl9]) := hD
          obtain ⟨hP, hD⟩ := zord (g := g) (Bs' := [bLog g go gr gz gn fr, bMem g mo qT qL it il ig mh me mx fT fL, bTown g o a pe wo tx ch jo tr dy sd f, bDR g x ta o lo go tt lt mo fo ro fl9, bPT g PT, bPL g PL]) [0, 1, 2, 5, 3, 4] rfl rfl hP hD
          have hP : va_P g.1 vwCl (List.flatten [bLog g go gr gz gn fr, bMem g mo qT qL it il ig mh me mx fT fL, bTown g o a pe wo tx ch jo tr dy sd f, bDR g x ta o lo go tt lt mo fo ro fl9, bPT g PT, bPL g PL]) H := hP
          have hD : va_D A (List.flatten [bLog g go gr gz gn fr, bMem g mo qT qL it il ig mh me mx fT fL, bTown g o a pe wo tx ch jo tr dy sd f, bDR g x ta o lo go tt lt mo fo ro fl9, bPT g PT, bPL g PL]) := hD
          obtain ⟨hP, hD⟩ := zord (g := g) (Bs' := [bDR g x ta o lo go tt lt mo fo ro fl9, bTown g o a pe wo tx ch jo tr dy sd f, bLog g go gr gz gn fr, bMem g mo qT qL it il ig mh me mx fT fL, bPT g PT, bPL g PL]) [3, 2, 0, 1, 4, 5] rfl rfl hP hD
          exact zout htab hlocks hS (Nat.le_of_ble_eq_true rfl) (Nat.le_of_ble_eq_true rfl) hce hcv hcl (f, ch, me, mx, PT, PL) (show (E = "java/lang/IndexOutOfBoundsException" ∨ E = "java/lang/IllegalArgumentException" ∨ E = "java/lang/IllegalStateException") ∧ (zZ4 f) ∧ (0 ≤ me.toInt ∧ me.toInt ≤ 12) ∧ (0 ≤ mx.toInt ∧ mx.toInt ≤ 11) ∧ (zPT fT PT) ∧ (zPL fL PL) ∧ (zRk PT PT me.toInt me.toInt mx.toInt mx.toInt pe.toInt wo.toInt tx.toInt) from ⟨(Or.inr (Or.inr hpx)), (show zZ4 f from rf), (show 0 ≤ me.toInt ∧ me.toInt ≤ 12 from b_me), (show 0 ≤ mx.toInt ∧ mx.toInt ≤ 11 from b_mx), (show zPT fT PT from hPT), (show zPL fL PL from hPL), (show zRk PT PT me.toInt me.toInt mx.toInt mx.toInt pe.toInt wo.toInt tx.toInt from zRk_0)⟩) hP hD
        · skip
          have hP : va_P g.1 vwCl (List.flatten [bLog g go gr gz gn fr, bMem g mo qT qL it il ig mh me mx fT fL, bTown g o a pe wo tx ch jo tr dy sd f, bPT g PT, bPL g PL, bDR g x ta o lo go tt lt mo fo ro fl9]) H := hP
          have hD : va_D A (List.flatten [bLog g go gr gz gn fr, bMem g mo qT qL it il ig mh me mx fT fL, bTown g o a pe wo tx ch jo tr dy sd f, bPT g PT, bPL g PL, bDR g x ta o lo go tt lt mo fo ro fl9]) := hD
          refine W.widen (k := 3) (n := 18) (Nat.le_of_ble_eq_true rfl) (Nat.le_of_ble_eq_true rfl) ?_
          refine W.eq (g2 := F0 m 56 ls []) rfl ?_
          have hP : va_P g.1 vwCl (List.flatten [bLog g go gr gz gn fr, bMem g mo qT qL it il ig mh me mx fT fL, bTown g o a pe wo tx ch jo tr dy sd f, bPT g PT, bPL g PL, bDR g x ta o lo go tt lt mo fo ro fl9]) H := hP
          have hD : va_D A (List.flatten [bLog g go gr gz gn fr, bMem g mo qT qL it il ig mh me mx fT fL, bTown g o a pe wo tx ch jo tr dy sd f, bPT g PT, bPL g PL, bDR g x ta o lo go tt lt mo fo ro fl9]) := hD
          obtain ⟨hP, hD⟩ := zord (g := g) (Bs' := [bLog g go gr gz gn fr, bMem g mo qT qL it il ig mh me mx fT fL, bTown g o a pe wo tx ch jo tr dy sd f, bDR g x ta o lo go tt lt mo fo ro fl9, bPT g PT, bPL g PL]) [0, 1, 2, 5, 3, 4] rfl rfl hP hD
          refine lv_aload_n hx hb dX11_sell_56 rfl (lv_at hl 1 rfl) ?_
          refine va_get (D := g.1) (ci := 9) (v := .ref mo) (C := RX11) (T := TX11) (N := 10) hx hb hts izRX11 hown hK hP 17 rfl rfl 6 (by decide) (hts _ k551) (fun _ h9 => h9) rfl dX11_sell_57 ?_
          refine lv_aload_n hx hb dX11_sell_60 rfl (lv_at hl 1 rfl) ?_
          refine va_get (D := g.1) (ci := 9) (v := .ref o) (C := RX11) (T := TX11) (N := 10) hx hb hts izRX11 hown hK hP 17 rfl rfl 1 (by decide) (hts _ k538) (fun _ h9 => h9) rfl dX11_sell_61 ?_
          refine lv_aload_n hx hb dX11_sell_64 rfl (lv_at hl 1 rfl) ?_
          refine va_get (D := g.1) (ci := 9) (v := .ref go) (C := RX11) (T := TX11) (N := 10) hx hb hts izRX11 hown hK hP 17 rfl rfl 3 (by decide) (hts _ k542) (fun _ h9 => h9) rfl dX11_sell_65 ?_
          refine mcallV' (g := g) (q0 := 0) (ci := 4) (As := [.ref o, .ref go]) (rest := []) St hK hT hA hP hD hS hl.1 [1, 2, 0, 4, 5] [3] rfl rfl rfl (c_m_remember l g mo qT qL it il ig mh me mx fT fL o a pe wo tx ch jo tr dy sd f go gr gz gn fr PT PL b_me b_mx b_pe b_wo rf b_gz b_gn hPT hPL) (cwV 2 hts (zgL (zl4 k662 k663 k664 k378) k367) rfl rfl rfl (by decide +kernel) ⟨Nat.le_of_ble_eq_true rfl, Nat.le_of_ble_eq_true rfl⟩) rfl rfl rfl rfl (Nat.le_of_ble_eq_true rfl) dX11_sell_68 ⟨(Nat.le_of_ble_eq_true rfl), (Nat.le_of_ble_eq_true rfl)⟩ (fun u_ H locs hq14 hP hD hS => ?_)
          obtain ⟨me2_10, mx2_11, PT2_12, PL2_13⟩ := u_
          replace hq14 : (0 ≤ me2_10.toInt ∧ me2_10.toInt ≤ 12) ∧ (0 ≤ mx2_11.toInt ∧ mx2_11.toInt ≤ 11) ∧ (zPT fT PT2_12) ∧ (zPL fL PL2_13) ∧ (me2_10.toInt = min (me.toInt + 1) 12) ∧ (mx2_11.toInt = (mx.toInt + 1) % 12) ∧ (zPk PT PT2_12 mx.toInt.toNat pe.toInt wo.toInt tx.toInt) := hq14
          have hP : va_P g.1 vwCl (List.flatten [bDR g x ta o lo go tt lt mo fo ro fl9, bMem g mo qT qL it il ig mh me2_10 mx2_11 fT fL, bTown g o a pe wo tx ch jo tr dy sd f, bLog g go gr gz gn fr, bPT g PT2_12, bPL g PL2_13]) H := hP
          have hD : va_D A (List.flatten [bDR g x ta o lo go tt lt mo fo ro fl9, bMem g mo qT qL it il ig mh me2_10 mx2_11 fT fL, bTown g o a pe wo tx ch jo tr dy sd f, bLog g go gr gz gn fr, bPT g PT2_12, bPL g PL2_13]) := hD
          refine W.widen (k := 3) (n := 18) (Nat.le_of_ble_eq_true rfl) (Nat.le_of_ble_eq_true rfl) ?_
          refine W.eq (g2 := F0 m 71 ls []) rfl ?_
          obtain ⟨hq14_0, hq14_1, hq14_2, hq14_3, hq14_4, hq14_5, hq14_6⟩ := hq14
          refine lv_aload_n hx hb dX11_sell_71 rfl (lv_at hl 1 rfl) ?_
          refine va_get (D := g.1) (ci := 9) (v := .ref o) (C := RX11) (T := TX11) (N := 10) hx hb hts izRX11 hown hK hP 0 rfl rfl 1 (by decide) (hts _ k538) (fun _ h9 => h9) rfl dX11_sell_72 ?_
          refine va_get (D := g.1) (ci := 7) (v := .ref (a 2)) (C := RX9) (T := TX9) (N := 19) hx hb hts izRX9 hown hK hP 4 rfl rfl 10 (by decide) (hts _ k615) (fun _ h9 => h9) rfl dX11_sell_75 ?_
          refine lv_iload_n hx hb dX11_sell_78 rfl (lv_at hl 2 rfl) ?_
          refine lv_dup2_11 hx hb dX11_sell_79 rfl rfl ?_
          refine va_iald hx hb hK hP 7 0 rfl rfl (zinK (a := 0) (b := 7) hq1_0.1 hq1_0.2 (by decide)) dX11_sell_80 ?_
          refine zg (fun x_15 => ?_)
          refine lv_iload_n hx hb dX11_sell_81 rfl (lv_at hl 3 rfl) ?_
          refine lv_isub hx hb dX11_sell_82 ?_
          refine zg (fun x_16 => ?_)
          refine va_iast hx hb hK hP hD hS 7 0 rfl rfl (zinK (a := 0) (b := 7) hq1_0.1 hq1_0.2 (by decide)) dX11_sell_83 (fun H locs hP hD hS => ?_)
          obtain ⟨f17, rf17, hP, hD⟩ : ∃ f17 : Nat → Nat → Int32, zZ4 f17 ∧ va_P g.1 vwCl (List.flatten [bDR g x ta o lo go tt lt mo fo ro fl9, bMem g mo qT qL it il ig mh me2_10 mx2_11 fT fL, bTown g o a pe wo tx ch jo tr dy sd f17, bLog g go gr gz gn fr, bPT g PT2_12, bPL g PL2_13]) H ∧ va_D A (List.flatten [bDR g x ta o lo go tt lt mo fo ro fl9, bMem g mo qT qL it il ig mh me2_10 mx2_11 fT fL, bTown g o a pe wo tx ch jo tr dy sd f17, bLog g go gr gz gn fr, bPT g PT2_12, bPL g PL2_13]) := ⟨zu f 2 (upd (f 2) pp.toNatClampNeg x_16), (zZ4_u rf (by decide)), hP, hD⟩
          refine lv_aload_n hx hb dX11_sell_84 rfl (lv_at hl 1 rfl) ?_
          refine va_get (D := g.1) (ci := 9) (v := .ref o) (C := RX11) (T := TX11) (N := 10) hx hb hts izRX11 hown hK hP 0 rfl rfl 1 (by decide) (hts _ k538) (fun _ h9 => h9) rfl dX11_sell_85 ?_
          refine lv_dup hx hb dX11_sell_88 rfl ?_
          refine va_get (D := g.1) (ci := 7) (v := .int ch) (C := RX9) (T := TX9) (N := 19) hx hb hts izRX9 hown hK hP 4 rfl rfl 3 (by decide) (hts _ k677) (fun _ h9 => h9) rfl dX11_sell_89 ?_
          refine lv_iload_n hx hb dX11_sell_92 rfl (lv_at hl 0 rfl) ?_
          refine lv_isub hx hb dX11_sell_93 ?_
          refine zg (fun x_18 => ?_)
          refine va_put (D := g.1) (ci := 7) (v := .int x_18) (ty := .int) (C := RX9) (T := TX9) (N := 19) hx hb hts izRX9 tyX9 tyX9_ok nmX9 hown hK hP hD hS 4 rfl rfl 3 (by decide) (hts _ k677) (fun _ h9 => h9) rfl (by decide +kernel) rfl rfl (Nat.le_of_ble_eq_true rfl) dX11_sell_94 (fun H locs hP hD hS => ?_)
          have hP : va_P g.1 vwCl (List.flatten [bDR g x ta o lo go tt lt mo fo ro fl9, bMem g mo qT qL it il ig mh me2_10 mx2_11 fT fL, bTown g o a pe wo tx x_18 jo tr dy sd f17, bLog g go gr gz gn fr, bPT g PT2_12, bPL g PL2_13]) H := hP
          have hD : va_D A (List.flatten [bDR g x ta o lo go tt lt mo fo ro fl9, bMem g mo qT qL it il ig mh me2_10 mx2_11 fT fL, bTown g o a pe wo tx x_18 jo tr dy sd f17, bLog g go gr gz gn fr, bPT g PT2_12, bPL g PL2_13]) := hD
          refine lv_aload_n hx hb dX11_sell_97 rfl (lv_at hl 1 rfl) ?_
          refine va_get (D := g.1) (ci := 9) (v := .ref o) (C := RX11) (T := TX11) (N := 10) hx hb hts izRX11 hown hK hP 0 rfl rfl 1 (by decide) (hts _ k538) (fun _ h9 => h9) rfl dX11_sell_98 ?_
          refine va_get (D := g.1) (ci := 7) (v := .ref (a 1)) (C := RX9) (T := TX9) (N := 19) hx hb hts izRX9 hown hK hP 4 rfl rfl 9 (by decide) (hts _ k614) (fun _ h9 => h9) rfl dX11_sell_101 ?_
          refine lv_iload_n hx hb dX11_sell_104 rfl (lv_at hl 2 rfl) ?_
          refine lv_sipush (v := 9999) hx hb dX11_sell_105 (by decide) ?_
          refine lv_aload_n hx hb dX11_sell_108 rfl (lv_at hl 1 rfl) ?_
          refine va_get (D := g.1) (ci := 9) (v := .ref o) (C := RX11) (T := TX11) (N := 10) hx hb hts izRX11 hown hK hP 0 rfl rfl 1 (by decide) (hts _ k538) (fun _ h9 => h9) rfl dX11_sell_109 ?_
          refine va_get (D := g.1) (ci := 7) (v := .ref (a 1)) (C := RX9) (T := TX9) (N := 19) hx hb hts izRX9 hown hK hP 4 rfl rfl 9 (by decide) (hts _ k614) (fun _ h9 => h9) rfl dX11_sell_112 ?_
          refine lv_iload_n hx hb dX11_sell_115 rfl (lv_at hl 2 rfl) ?_
          refine va_iald hx hb hK hP 6 0 rfl rfl (zinK (a := 0) (b := 7) hq1_0.1 hq1_0.2 (by decide)) dX11_sell_116 ?_
          refine zg (fun x_19 => ?_)
          refine lv_iload_n hx hb dX11_sell_117 rfl (lv_at hl 0 rfl) ?_
          refine lv_iadd hx hb dX11_sell_118 ?_
          refine zg (fun x_20 => ?_)
          refine va_mmin hx hb (by rw [hml]; exact hl.1.symm) hown (hts _ k678) (hts _ k41) (hts _ k42) (hts _ k43) (Nat.le_of_ble_eq_true rfl) (Nat.le_of_ble_eq_true rfl) (Nat.le_of_ble_eq_true rfl) (Nat.le_of_ble_eq_true rfl) dX11_sell_119 ?_
          refine zgmn (i := 9999) (j := x_20.toInt) (by decide) rfl (fun x_21 hx_21 => ?_)
          refine va_iast hx hb hK hP hD hS 6 0 rfl rfl (zinK (a := 0) (b := 7) hq1_0.1 hq1_0.2 (by decide)) dX11_sell_122 (fun H locs hP hD hS => ?_)
          obtain ⟨f22, rf22, hP, hD⟩ : ∃ f22 : Nat → Nat → Int32, zZ4 f22 ∧ va_P g.1 vwCl (List.flatten [bDR g x ta o lo go tt lt mo fo ro fl9, bMem g mo qT qL it il ig mh me2_10 mx2_11 fT fL, bTown g o a pe wo tx x_18 jo tr dy sd f22, bLog g go gr gz gn fr, bPT g PT2_12, bPL g PL2_13]) H ∧ va_D A (List.flatten [bDR g x ta o lo go tt lt mo fo ro fl9, bMem g mo qT qL it il ig mh me2_10 mx2_11 fT fL, bTown g o a pe wo tx x_18 jo tr dy sd f22, bLog g go gr gz gn fr, bPT g PT2_12, bPL g PL2_13]) := ⟨zu f17 1 (upd (f17 1) pp.toNatClampNeg x_21), (zZ4_u rf17 (by decide)), hP, hD⟩
          refine lv_aload_n hx hb dX11_sell_123 rfl (lv_at hl 1 rfl) ?_
          refine va_get (D := g.1) (ci := 9) (v := .ref o) (C := RX11) (T := TX11) (N := 10) hx hb hts izRX11 hown hK hP 0 rfl rfl 1 (by decide) (hts _ k538) (fun _ h9 => h9) rfl dX11_sell_124 ?_
          refine va_get (D := g.1) (ci := 7) (v := .ref (a 1)) (C := RX9) (T := TX9) (N := 19) hx hb hts izRX9 hown hK hP 4 rfl rfl 9 (by decide) (hts _ k614) (fun _ h9 => h9) rfl dX11_sell_127 ?_
          refine lv_iload_n hx hb dX11_sell_130 rfl (lv_at hl 2 rfl) ?_
          refine va_iald hx hb hK hP 6 0 rfl rfl (zinK (a := 0) (b := 7) hq1_0.1 hq1_0.2 (by decide)) dX11_sell_131 ?_
          refine zg (fun x_23 => ?_)
          have hP : va_P g.1 vwCl (List.flatten [bDR g x ta o lo go tt lt mo fo ro fl9, bMem g mo qT qL it il ig mh me2_10 mx2_11 fT fL, bTown g o a pe wo tx x_18 jo tr dy sd f22, bLog g go gr gz gn fr, bPT g PT2_12, bPL g PL2_13]) H := hP
          have hD : va_D A (List.flatten [bDR g x ta o lo go tt lt mo fo ro fl9, bMem g mo qT qL it il ig mh me2_10 mx2_11 fT fL, bTown g o a pe wo tx x_18 jo tr dy sd f22, bLog g go gr gz gn fr, bPT g PT2_12, bPL g PL2_13]) := hD
          obtain ⟨hP, hD⟩ := zord (g := g) (Bs' := [bDR g x ta o lo go tt lt mo fo ro fl9, bTown g o a pe wo tx x_18 jo tr dy sd f22, bLog g go gr gz gn fr, bMem g mo qT qL it il ig mh me2_10 mx2_11 fT fL, bPT g PT2_12, bPL g PL2_13]) [0, 2, 3, 1, 4, 5] rfl rfl hP hD
          exact zret_i hx hb hr hlocks hS (Nat.le_of_ble_eq_true rfl) (Nat.le_of_ble_eq_true rfl) dX11_sell_132 (f22, x_18, me2_10, mx2_11, PT2_12, PL2_13, x_23) rfl (show (zZ4 f22) ∧ (0 ≤ me2_10.toInt ∧ me2_10.toInt ≤ 12) ∧ (0 ≤ mx2_11.toInt ∧ mx2_11.toInt ≤ 11) ∧ (zPT fT PT2_12) ∧ (zPL fL PL2_13) ∧ (zRk PT PT2_12 me.toInt me2_10.toInt mx.toInt mx2_11.toInt pe.toInt wo.toInt tx.toInt) from ⟨rf22, hq14_0, hq14_1, hq14_2, hq14_3, (Or.inr ⟨hq14_4, hq14_5, hq14_6⟩)⟩) hP hD
      · skip
        have c24 : n.toInt ≤ x_6.toInt := zle (Int32.not_lt.mp cb9) rfl rfl
        have n25 : 1 ≤ x_6.toInt := Int.le_trans hq2.1 c24
        refine lv_aload_n hx hb dX11_sell_37 rfl (lv_at hl 1 rfl) ?_
        refine va_get (D := g.1) (ci := 9) (v := .ref o) (C := RX11) (T := TX11) (N := 10) hx hb hts izRX11 hown hK hP 5 rfl rfl 1 (by decide) (hts _ k538) (fun _ h9 => h9) rfl dX11_sell_38 ?_
        refine va_get (D := g.1) (ci := 7) (v := .int ch) (C := RX9) (T := TX9) (N := 19) hx hb hts izRX9 hown hK hP 6 rfl rfl 3 (by decide) (hts _ k677) (fun _ h9 => h9) rfl dX11_sell_41 ?_
        refine lv_iload_n hx hb dX11_sell_44 rfl (lv_at hl 0 rfl) ?_
        refine lv_icmp_lt (tgt := 52) hx hb dX11_sell_45 (by decide) (fun cb9 => ?_) (fun cb9 => ?_)
        · skip
          have c26 : ch.toInt < x_5.toInt := zlti cb9 rfl rfl
          refine lv_iconst (v := 0) hx hb dX11_sell_52 (by decide) ?_
          refine xcallV' (g := g) (q0 := 0) (ci := 9) (As := [.int 0]) (rest := []) St hK hT hA hP hD hS hl.1 [2] [0, 1, 3, 4, 5] rfl rfl rfl (c_x_needState l hfl g x ta o lo go tt lt mo fo ro fl9 0 ) (cwV 1 hts (zgL (zl4 k656 k657 k658 k621) k651) rfl rfl rfl (by decide +kernel) ⟨Nat.le_of_ble_eq_true rfl, Nat.le_of_ble_eq_true rfl⟩) rfl rfl rfl rfl (Nat.le_of_ble_eq_true rfl) dX11_sell_53 ⟨(Nat.le_of_ble_eq_true rfl), (Nat.le_of_ble_eq_true rfl)⟩ (fun E ce q9 u9 H locs hpx hP hD hS hce hcv hcl => ?_) (fun _u H locs hq27 hP hD hS => ?_)
          · skip
            have hpx : (E = "java/lang/IllegalStateException") := hpx
            have hP : va_P g.1 vwCl (List.flatten [bLog g go gr gz gn fr, bMem g mo qT qL it il ig mh me mx fT fL, bTown g o a pe wo tx ch jo tr dy sd f, bPT g PT, bPL g PL, bDR g x ta o lo go tt lt mo fo ro fl9]) H := hP
            have hD : va_D A (List.flatten [bLog g go gr gz gn fr, bMem g mo qT qL it il ig mh me mx fT fL, bTown g o a pe wo tx ch jo tr dy sd f, bPT g PT, bPL g PL, bDR g x ta o lo go tt lt mo fo ro fl9]) := hD
            have hP : va_P g.1 vwCl (List.flatten [bLog g go gr gz gn fr, bMem g mo qT qL it il ig mh me mx fT fL, bTown g o a pe wo tx ch jo tr dy sd f, bPT g PT, bPL g PL, bDR g x ta o lo go tt lt mo fo ro fl9]) H := hP
            have hD : va_D A (List.flatten [bLog g go gr gz gn fr, bMem g mo qT qL it il ig mh me mx fT fL, bTown g o a pe wo tx ch jo tr dy sd f, bPT g PT, bPL g PL, bDR g x ta o lo go tt lt mo fo ro fl9]) := hD
            obtain ⟨hP, hD⟩ := zord (g := g) (Bs' := [bLog g go gr gz gn fr, bMem g mo qT qL it il ig mh me mx fT fL, bTown g o a pe wo tx ch jo tr dy sd f, bDR g x ta o lo go tt lt mo fo ro fl9, bPT g PT, bPL g PL]) [0, 1, 2, 5, 3, 4] rfl rfl hP hD
            have hP : va_P g.1 vwCl (List.flatten [bLog g go gr gz gn fr, bMem g mo qT qL it il ig mh me mx fT fL, bTown g o a pe wo tx ch jo tr dy sd f, bDR g x ta o lo go tt lt mo fo ro fl9, bPT g PT, bPL g PL]) H := hP
            have hD : va_D A (List.flatten [bLog g go gr gz gn fr, bMem g mo qT qL it il ig mh me mx fT fL, bTown g o a pe wo tx ch jo tr dy sd f, bDR g x ta o lo go tt lt mo fo ro fl9, bPT g PT, bPL g PL]) := hD
            obtain ⟨hP, hD⟩ := zord (g := g) (Bs' := [bDR g x ta o lo go tt lt mo fo ro fl9, bTown g o a pe wo tx ch jo tr dy sd f, bLog g go gr gz gn fr, bMem g mo qT qL it il ig mh me mx fT fL, bPT g PT, bPL g PL]) [3, 2, 0, 1, 4, 5] rfl rfl hP hD
            exact zout htab hlocks hS (Nat.le_of_ble_eq_true rfl) (Nat.le_of_ble_eq_true rfl) hce hcv hcl (f, ch, me, mx, PT, PL) (show (E = "java/lang/IndexOutOfBoundsException" ∨ E = "java/lang/IllegalArgumentException" ∨ E = "java/lang/IllegalStateException") ∧ (zZ4 f) ∧ (0 ≤ me.toInt ∧ me.toInt ≤ 12) ∧ (0 ≤ mx.toInt ∧ mx.toInt ≤ 11) ∧ (zPT fT PT) ∧ (zPL fL PL) ∧ (zRk PT PT me.toInt me.toInt mx.toInt mx.toInt pe.toInt wo.toInt tx.toInt) from ⟨(Or.inr (Or.inr hpx)), (show zZ4 f from rf), (show 0 ≤ me.toInt ∧ me.toInt ≤ 12 from b_me), (show 0 ≤ mx.toInt ∧ mx.toInt ≤ 11 from b_mx), (show zPT fT PT from hPT), (show zPL fL PL from hPL), (show zRk PT PT me.toInt me.toInt mx.toInt mx.toInt pe.toInt wo.toInt tx.toInt from zRk_0)⟩) hP hD
          · skip
            have hP : va_P g.1 vwCl (List.flatten [bLog g go gr gz gn fr, bMem g mo qT qL it il ig mh me mx fT fL, bTown g o a pe wo tx ch jo tr dy sd f, bPT g PT, bPL g PL, bDR g x ta o lo go tt lt mo fo ro fl9]) H := hP
            have hD : va_D A (List.flatten [bLog g go gr gz gn fr, bMem g mo qT qL it il ig mh me mx fT fL, bTown g o a pe wo tx ch jo tr dy sd f, bPT g PT, bPL g PL, bDR g x ta o lo go tt lt mo fo ro fl9]) := hD
            refine W.widen (k := 3) (n := 18) (Nat.le_of_ble_eq_true rfl) (Nat.le_of_ble_eq_true rfl) ?_
            refine W.eq (g2 := F0 m 56 ls []) rfl ?_
            have hP : va_P g.1 vwCl (List.flatten [bLog g go gr gz gn fr, bMem g mo qT qL it il ig mh me mx fT fL, bTown g o a pe wo tx ch jo tr dy sd f, bPT g PT, bPL g PL, bDR g x ta o lo go tt lt mo fo ro fl9]) H := hP
            have hD : va_D A (List.flatten [bLog g go gr gz gn fr, bMem g mo qT qL it il ig mh me mx fT fL, bTown g o a pe wo tx ch jo tr dy sd f, bPT g PT, bPL g PL, bDR g x ta o lo go tt lt mo fo ro fl9]) := hD
            obtain ⟨hP, hD⟩ := zord (g := g) (Bs' := [bLog g go gr gz gn fr, bMem g mo qT qL it il ig mh me mx fT fL, bTown g o a pe wo tx ch jo tr dy sd f, bDR g x ta o lo go tt lt mo fo ro fl9, bPT g PT, bPL g PL]) [0, 1, 2, 5, 3, 4] rfl rfl hP hD
            refine lv_aload_n hx hb dX11_sell_56 rfl (lv_at hl 1 rfl) ?_
            refine va_get (D := g.1) (ci := 9) (v := .ref mo) (C := RX11) (T := TX11) (N := 10) hx hb hts izRX11 hown hK hP 17 rfl rfl 6 (by decide) (hts _ k551) (fun _ h9 => h9) rfl dX11_sell_57 ?_
            refine lv_aload_n hx hb dX11_sell_60 rfl (lv_at hl 1 rfl) ?_
            refine va_get (D := g.1) (ci := 9) (v := .ref o) (C := RX11) (T := TX11) (N := 10) hx hb hts izRX11 hown hK hP 17 rfl rfl 1 (by decide) (hts _ k538) (fun _ h9 => h9) rfl dX11_sell_61 ?_
            refine lv_aload_n hx hb dX11_sell_64 rfl (lv_at hl 1 rfl) ?_
            refine va_get (D := g.1) (ci := 9) (v := .ref go) (C := RX11) (T := TX11) (N := 10) hx hb hts izRX11 hown hK hP 17 rfl rfl 3 (by decide) (hts _ k542) (fun _ h9 => h9) rfl dX11_sell_65 ?_
            refine mcallV' (g := g) (q0 := 0) (ci := 4) (As := [.ref o, .ref go]) (rest := []) St hK hT hA hP hD hS hl.1 [1, 2, 0, 4, 5] [3] rfl rfl rfl (c_m_remember l g mo qT qL it il ig mh me mx fT fL o a pe wo tx ch jo tr dy sd f go gr gz gn fr PT PL b_me b_mx b_pe b_wo rf b_gz b_gn hPT hPL) (cwV 2 hts (zgL (zl4 k662 k663 k664 k378) k367) rfl rfl rfl (by decide +kernel) ⟨Nat.le_of_ble_eq_true rfl, Nat.le_of_ble_eq_true rfl⟩) rfl rfl rfl rfl (Nat.le_of_ble_eq_true rfl) dX11_sell_68 ⟨(Nat.le_of_ble_eq_true rfl), (Nat.le_of_ble_eq_true rfl)⟩ (fun u_ H locs hq32 hP hD hS => ?_)
            obtain ⟨me2_28, mx2_29, PT2_30, PL2_31⟩ := u_
            replace hq32 : (0 ≤ me2_28.toInt ∧ me2_28.toInt ≤ 12) ∧ (0 ≤ mx2_29.toInt ∧ mx2_29.toInt ≤ 11) ∧ (zPT fT PT2_30) ∧ (zPL fL PL2_31) ∧ (me2_28.toInt = min (me.toInt + 1) 12) ∧ (mx2_29.toInt = (mx.toInt + 1) % 12) ∧ (zPk PT PT2_30 mx.toInt.toNat pe.toInt wo.toInt tx.toInt) := hq32
            have hP : va_P g.1 vwCl (List.flatten [bDR g x ta o lo go tt lt mo fo ro fl9, bMem g mo qT qL it il ig mh me2_28 mx2_29 fT fL, bTown g o a pe wo tx ch jo tr dy sd f, bLog g go gr gz gn fr, bPT g PT2_30, bPL g PL2_31]) H := hP
            have hD : va_D A (List.flatten [bDR g x ta o lo go tt lt mo fo ro fl9, bMem g mo qT qL it il ig mh me2_28 mx2_29 fT fL, bTown g o a pe wo tx ch jo tr dy sd f, bLog g go gr gz gn fr, bPT g PT2_30, bPL g PL2_31]) := hD
            refine W.widen (k := 3) (n := 18) (Nat.le_of_ble_eq_true rfl) (Nat.le_of_ble_eq_true rfl) ?_
            refine W.eq (g2 := F0 m 71 ls []) rfl ?_
            obtain ⟨hq32_0, hq32_1, hq32_2, hq32_3, hq32_4, hq32_5, hq32_6⟩ := hq32
            refine lv_aload_n hx hb dX11_sell_71 rfl (lv_at hl 1 rfl) ?_
            refine va_get (D := g.1) (ci := 9) (v := .ref o) (C := RX11) (T := TX11) (N := 10) hx hb hts izRX11 hown hK hP 0 rfl rfl 1 (by decide) (hts _ k538) (fun _ h9 => h9) rfl dX11_sell_72 ?_
            refine va_get (D := g.1) (ci := 7) (v := .ref (a 2)) (C := RX9) (T := TX9) (N := 19) hx hb hts izRX9 hown hK hP 4 rfl rfl 10 (by decide) (hts _ k615) (fun _ h9 => h9) rfl dX11_sell_75 ?_
            refine lv_iload_n hx hb dX11_sell_78 rfl (lv_at hl 2 rfl) ?_
            refine lv_dup2_11 hx hb dX11_sell_79 rfl rfl ?_
            refine va_iald hx hb hK hP 7 0 rfl rfl (zinK (a := 0) (b := 7) hq1_0.1 hq1_0.2 (by decide)) dX11_sell_80 ?_
            refine zg (fun x_33 => ?_)
            refine lv_iload_n hx hb dX11_sell_81 rfl (lv_at hl 3 rfl) ?_
            refine lv_isub hx hb dX11_sell_82 ?_
            refine zg (fun x_34 => ?_)
            refine va_iast hx hb hK hP hD hS 7 0 rfl rfl (zinK (a := 0) (b := 7) hq1_0.1 hq1_0.2 (by decide)) dX11_sell_83 (fun H locs hP hD hS => ?_)
            obtain ⟨f35, rf35, hP, hD⟩ : ∃ f35 : Nat → Nat → Int32, zZ4 f35 ∧ va_P g.1 vwCl (List.flatten [bDR g x ta o lo go tt lt mo fo ro fl9, bMem g mo qT qL it il ig mh me2_28 mx2_29 fT fL, bTown g o a pe wo tx ch jo tr dy sd f35, bLog g go gr gz gn fr, bPT g PT2_30, bPL g PL2_31]) H ∧ va_D A (List.flatten [bDR g x ta o lo go tt lt mo fo ro fl9, bMem g mo qT qL it il ig mh me2_28 mx2_29 fT fL, bTown g o a pe wo tx ch jo tr dy sd f35, bLog g go gr gz gn fr, bPT g PT2_30, bPL g PL2_31]) := ⟨zu f 2 (upd (f 2) pp.toNatClampNeg x_34), (zZ4_u rf (by decide)), hP, hD⟩
            refine lv_aload_n hx hb dX11_sell_84 rfl (lv_at hl 1 rfl) ?_
            refine va_get (D := g.1) (ci := 9) (v := .ref o) (C := RX11) (T := TX11) (N := 10) hx hb hts izRX11 hown hK hP 0 rfl rfl 1 (by decide) (hts _ k538) (fun _ h9 => h9) rfl dX11_sell_85 ?_
            refine lv_dup hx hb dX11_sell_88 rfl ?_
            refine va_get (D := g.1) (ci := 7) (v := .int ch) (C := RX9) (T := TX9) (N := 19) hx hb hts izRX9 hown hK hP 4 rfl rfl 3 (by decide) (hts _ k677) (fun _ h9 => h9) rfl dX11_sell_89 ?_
            refine lv_iload_n hx hb dX11_sell_92 rfl (lv_at hl 0 rfl) ?_
            refine lv_isub hx hb dX11_sell_93 ?_
            refine zg (fun x_36 => ?_)
            refine va_put (D := g.1) (ci := 7) (v := .int x_36) (ty := .int) (C := RX9) (T := TX9) (N := 19) hx hb hts izRX9 tyX9 tyX9_ok nmX9 hown hK hP hD hS 4 rfl rfl 3 (by decide) (hts _ k677) (fun _ h9 => h9) rfl (by decide +kernel) rfl rfl (Nat.le_of_ble_eq_true rfl) dX11_sell_94 (fun H locs hP hD hS => ?_)
            have hP : va_P g.1 vwCl (List.flatten [bDR g x ta o lo go tt lt mo fo ro fl9, bMem g mo qT qL it il ig mh me2_28 mx2_29 fT fL, bTown g o a pe wo tx x_36 jo tr dy sd f35, bLog g go gr gz gn fr, bPT g PT2_30, bPL g PL2_31]) H := hP
            have hD : va_D A (List.flatten [bDR g x ta o lo go tt lt mo fo ro fl9, bMem g mo qT qL it il ig mh me2_28 mx2_29 fT fL, bTown g o a pe wo tx x_36 jo tr dy sd f35, bLog g go gr gz gn fr, bPT g PT2_30, bPL g PL2_31]) := hD
            refine lv_aload_n hx hb dX11_sell_97 rfl (lv_at hl 1 rfl) ?_
            refine va_get (D := g.1) (ci := 9) (v := .ref o) (C := RX11) (T := TX11) (N := 10) hx hb hts izRX11 hown hK hP 0 rfl rfl 1 (by decide) (hts _ k538) (fun _ h9 => h9) rfl dX11_sell_98 ?_
            refine va_get (D := g.1) (ci := 7) (v := .ref (a 1)) (C := RX9) (T := TX9) (N := 19) hx hb hts izRX9 hown hK hP 4 rfl rfl 9 (by decide) (hts _ k614) (fun _ h9 => h9) rfl dX11_sell_101 ?_
            refine lv_iload_n hx hb dX11_sell_104 rfl (lv_at hl 2 rfl) ?_
            refine lv_sipush (v := 9999) hx hb dX11_sell_105 (by decide) ?_
            refine lv_aload_n hx hb dX11_sell_108 rfl (lv_at hl 1 rfl) ?_
            refine va_get (D := g.1) (ci := 9) (v := .ref o) (C := RX11) (T := TX11) (N := 10) hx hb hts izRX11 hown hK hP 0 rfl rfl 1 (by decide) (hts _ k538) (fun _ h9 => h9) rfl dX11_sell_109 ?_
            refine va_get (D := g.1) (ci := 7) (v := .ref (a 1)) (C := RX9) (T := TX9) (N := 19) hx hb hts izRX9 hown hK hP 4 rfl rfl 9 (by decide) (hts _ k614) (fun _ h9 => h9) rfl dX11_sell_112 ?_
            refine lv_iload_n hx hb dX11_sell_115 rfl (lv_at hl 2 rfl) ?_
            refine va_iald hx hb hK hP 6 0 rfl rfl (zinK (a := 0) (b := 7) hq1_0.1 hq1_0.2 (by decide)) dX11_sell_116 ?_
            refine zg (fun x_37 => ?_)
            refine lv_iload_n hx hb dX11_sell_117 rfl (lv_at hl 0 rfl) ?_
            refine lv_iadd hx hb dX11_sell_118 ?_
            refine zg (fun x_38 => ?_)
            refine va_mmin hx hb (by rw [hml]; exact hl.1.symm) hown (hts _ k678) (hts _ k41) (hts _ k42) (hts _ k43) (Nat.le_of_ble_eq_true rfl) (Nat.le_of_ble_eq_true rfl) (Nat.le_of_ble_eq_true rfl) (Nat.le_of_ble_eq_true rfl) dX11_sell_119 ?_
            refine zgmn (i := 9999) (j := x_38.toInt) (by decide) rfl (fun x_39 hx_39 => ?_)
            refine va_iast hx hb hK hP hD hS 6 0 rfl rfl (zinK (a := 0) (b := 7) hq1_0.1 hq1_0.2 (by decide)) dX11_sell_122 (fun H locs hP hD hS => ?_)
            obtain ⟨f40, rf40, hP, hD⟩ : ∃ f40 : Nat → Nat → Int32, zZ4 f40 ∧ va_P g.1 vwCl (List.flatten [bDR g x ta o lo go tt lt mo fo ro fl9, bMem g mo qT qL it il ig mh me2_28 mx2_29 fT fL, bTown g o a pe wo tx x_36 jo tr dy sd f40, bLog g go gr gz gn fr, bPT g PT2_30, bPL g PL2_31]) H ∧ va_D A (List.flatten [bDR g x ta o lo go tt lt mo fo ro fl9, bMem g mo qT qL it il ig mh me2_28 mx2_29 fT fL, bTown g o a pe wo tx x_36 jo tr dy sd f40, bLog g go gr gz gn fr, bPT g PT2_30, bPL g PL2_31]) := ⟨zu f35 1 (upd (f35 1) pp.toNatClampNeg x_39), (zZ4_u rf35 (by decide)), hP, hD⟩
            refine lv_aload_n hx hb dX11_sell_123 rfl (lv_at hl 1 rfl) ?_
            refine va_get (D := g.1) (ci := 9) (v := .ref o) (C := RX11) (T := TX11) (N := 10) hx hb hts izRX11 hown hK hP 0 rfl rfl 1 (by decide) (hts _ k538) (fun _ h9 => h9) rfl dX11_sell_124 ?_
            refine va_get (D := g.1) (ci := 7) (v := .ref (a 1)) (C := RX9) (T := TX9) (N := 19) hx hb hts izRX9 hown hK hP 4 rfl rfl 9 (by decide) (hts _ k614) (fun _ h9 => h9) rfl dX11_sell_127 ?_
            refine lv_iload_n hx hb dX11_sell_130 rfl (lv_at hl 2 rfl) ?_
            refine va_iald hx hb hK hP 6 0 rfl rfl (zinK (a := 0) (b := 7) hq1_0.1 hq1_0.2 (by decide)) dX11_sell_131 ?_
            refine zg (fun x_41 => ?_)
            have hP : va_P g.1 vwCl (List.flatten [bDR g x ta o lo go tt lt mo fo ro fl9, bMem g mo qT qL it il ig mh me2_28 mx2_29 fT fL, bTown g o a pe wo tx x_36 jo tr dy sd f40, bLog g go gr gz gn fr, bPT g PT2_30, bPL g PL2_31]) H := hP
            have hD : va_D A (List.flatten [bDR g x ta o lo go tt lt mo fo ro fl9, bMem g mo qT qL it il ig mh me2_28 mx2_29 fT fL, bTown g o a pe wo tx x_36 jo tr dy sd f40, bLog g go gr gz gn fr, bPT g PT2_30, bPL g PL2_31]) := hD
            obtain ⟨hP, hD⟩ := zord (g := g) (Bs' := [bDR g x ta o lo go tt lt mo fo ro fl9, bTown g o a pe wo tx x_36 jo tr dy sd f40, bLog g go gr gz gn fr, bMem g mo qT qL it il ig mh me2_28 mx2_29 fT fL, bPT g PT2_30, bPL g PL2_31]) [0, 2, 3, 1, 4, 5] rfl rfl hP hD
            exact zret_i hx hb hr hlocks hS (Nat.le_of_ble_eq_true rfl) (Nat.le_of_ble_eq_true rfl) dX11_sell_132 (f40, x_36, me2_28, mx2_29, PT2_30, PL2_31, x_41) rfl (show (zZ4 f40) ∧ (0 ≤ me2_28.toInt ∧ me2_28.toInt ≤ 12) ∧ (0 ≤ mx2_29.toInt ∧ mx2_29.toInt ≤ 11) ∧ (zPT fT PT2_30) ∧ (zPL fL PL2_31) ∧ (zRk PT PT2_30 me.toInt me2_28.toInt mx.toInt mx2_29.toInt pe.toInt wo.toInt tx.toInt) from ⟨rf40, hq32_0, hq32_1, hq32_2, hq32_3, (Or.inr ⟨hq32_4, hq32_5, hq32_6⟩)⟩) hP hD
        · skip
          have c42 : x_5.toInt ≤ ch.toInt := zle (Int32.not_lt.mp cb9) rfl rfl
          refine lv_iconst (v := 1) hx hb dX11_sell_48 (by decide) ?_
          refine lv_goto (tgt := 53) hx hb dX11_sell_49 (by decide) ?_
          refine xcallV' (g := g) (q0 := 0) (ci := 9) (As := [.int 1]) (rest := []) St hK hT hA hP hD hS hl.1 [2] [0, 1, 3, 4, 5] rfl rfl rfl (c_x_needState l hfl g x ta o lo go tt lt mo fo ro fl9 1 ) (cwV 1 hts (zgL (zl4 k656 k657 k658 k621) k651) rfl rfl rfl (by decide +kernel) ⟨Nat.le_of_ble_eq_true rfl, Nat.le_of_ble_eq_true rfl⟩) rfl rfl rfl rfl (Nat.le_of_ble_eq_true rfl) dX11_sell_53 ⟨(Nat.le_of_ble_eq_true rfl), (Nat.le_of_ble_eq_true rfl)⟩ (fun E ce q9 u9 H locs hpx hP hD hS hce hcv hcl => ?_) (fun _u H locs hq43 hP hD hS => ?_)
          · skip
            have hpx : (E = "java/lang/IllegalStateException") := hpx
            have hP : va_P g.1 vwCl (List.flatten [bLog g go gr gz gn fr, bMem g mo qT qL it il ig mh me mx fT fL, bTown g o a pe wo tx ch jo tr dy sd f, bPT g PT, bPL g PL, bDR g x ta o lo go tt lt mo fo ro fl9]) H := hP
            have hD : va_D A (List.flatten [bLog g go gr gz gn fr, bMem g mo qT qL it il ig mh me mx fT fL, bTown g o a pe wo tx ch jo tr dy sd f, bPT g PT, bPL g PL, bDR g x ta o lo go tt lt mo fo ro fl9]) := hD
            have hP : va_P g.1 vwCl (List.flatten [bLog g go gr gz gn fr, bMem g mo qT qL it il ig mh me mx fT fL, bTown g o a pe wo tx ch jo tr dy sd f, bPT g PT, bPL g PL, bDR g x ta o lo go tt lt mo fo ro fl9]) H := hP
            have hD : va_D A (List.flatten [bLog g go gr gz gn fr, bMem g mo qT qL it il ig mh me mx fT fL, bTown g o a pe wo tx ch jo tr dy sd f, bPT g PT, bPL g PL, bDR g x ta o lo go tt lt mo fo ro fl9]) := hD
            obtain ⟨hP, hD⟩ := zord (g := g) (Bs' := [bLog g go gr gz gn fr, bMem g mo qT qL it il ig mh me mx fT fL, bTown g o a pe wo tx ch jo tr dy sd f, bDR g x ta o lo go tt lt mo fo ro fl9, bPT g PT, bPL g PL]) [0, 1, 2, 5, 3, 4] rfl rfl hP hD
            have hP : va_P g.1 vwCl (List.flatten [bLog g go gr gz gn fr, bMem g mo qT qL it il ig mh me mx fT fL, bTown g o a pe wo tx ch jo tr dy sd f, bDR g x ta o lo go tt lt mo fo ro fl9, bPT g PT, bPL g PL]) H := hP
            have hD : va_D A (List.flatten [bLog g go gr gz gn fr, bMem g mo qT qL it il ig mh me mx fT fL, bTown g o a pe wo tx ch jo tr dy sd f, bDR g x ta o lo go tt lt mo fo ro fl9, bPT g PT, bPL g PL]) := hD
            obtain ⟨hP, hD⟩ := zord (g := g) (Bs' := [bDR g x ta o lo go tt lt mo fo ro fl9, bTown g o a pe wo tx ch jo tr dy sd f, bLog g go gr gz gn fr, bMem g mo qT qL it il ig mh me mx fT fL, bPT g PT, bPL g PL]) [3, 2, 0, 1, 4, 5] rfl rfl hP hD
            exact zout htab hlocks hS (Nat.le_of_ble_eq_true rfl) (Nat.le_of_ble_eq_true rfl) hce hcv hcl (f, ch, me, mx, PT, PL) (show (E = "java/lang/IndexOutOfBoundsException" ∨ E = "java/lang/IllegalArgumentException" ∨ E = "java/lang/IllegalStateException") ∧ (zZ4 f) ∧ (0 ≤ me.toInt ∧ me.toInt ≤ 12) ∧ (0 ≤ mx.toInt ∧ mx.toInt ≤ 11) ∧ (zPT fT PT) ∧ (zPL fL PL) ∧ (zRk PT PT me.toInt me.toInt mx.toInt mx.toInt pe.toInt wo.toInt tx.toInt) from ⟨(Or.inr (Or.inr hpx)), (show zZ4 f from rf), (show 0 ≤ me.toInt ∧ me.toInt ≤ 12 from b_me), (show 0 ≤ mx.toInt ∧ mx.toInt ≤ 11 from b_mx), (show zPT fT PT from hPT), (show zPL fL PL from hPL), (show zRk PT PT me.toInt me.toInt mx.toInt mx.toInt pe.toInt wo.toInt tx.toInt from zRk_0)⟩) hP hD
          · skip
            have hP : va_P g.1 vwCl (List.flatten [bLog g go gr gz gn fr, bMem g mo qT qL it il ig mh me mx fT fL, bTown g o a pe wo tx ch jo tr dy sd f, bPT g PT, bPL g PL, bDR g x ta o lo go tt lt mo fo ro fl9]) H := hP
            have hD : va_D A (List.flatten [bLog g go gr gz gn fr, bMem g mo qT qL it il ig mh me mx fT fL, bTown g o a pe wo tx ch jo tr dy sd f, bPT g PT, bPL g PL, bDR g x ta o lo go tt lt mo fo ro fl9]) := hD
            refine W.widen (k := 3) (n := 18) (Nat.le_of_ble_eq_true rfl) (Nat.le_of_ble_eq_true rfl) ?_
            refine W.eq (g2 := F0 m 56 ls []) rfl ?_
            have hP : va_P g.1 vwCl (List.flatten [bLog g go gr gz gn fr, bMem g mo qT qL it il ig mh me mx fT fL, bTown g o a pe wo tx ch jo tr dy sd f, bPT g PT, bPL g PL, bDR g x ta o lo go tt lt mo fo ro fl9]) H := hP
            have hD : va_D A (List.flatten [bLog g go gr gz gn fr, bMem g mo qT qL it il ig mh me mx fT fL, bTown g o a pe wo tx ch jo tr dy sd f, bPT g PT, bPL g PL, bDR g x ta o lo go tt lt mo fo ro fl9]) := hD
            obtain ⟨hP, hD⟩ := zord (g := g) (Bs' := [bLog g go gr gz gn fr, bMem g mo qT qL it il ig mh me mx fT fL, bTown g o a pe wo tx ch jo tr dy sd f, bDR g x ta o lo go tt lt mo fo ro fl9, bPT g PT, bPL g PL]) [0, 1, 2, 5, 3, 4] rfl rfl hP hD
            refine lv_aload_n hx hb dX11_sell_56 rfl (lv_at hl 1 rfl) ?_
            refine va_get (D := g.1) (ci := 9) (v := .ref mo) (C := RX11) (T := TX11) (N := 10) hx hb hts izRX11 hown hK hP 17 rfl rfl 6 (by decide) (hts _ k551) (fun _ h9 => h9) rfl dX11_sell_57 ?_
            refine lv_aload_n hx hb dX11_sell_60 rfl (lv_at hl 1 rfl) ?_
            refine va_get (D := g.1) (ci := 9) (v := .ref o) (C := RX11) (T := TX11) (N := 10) hx hb hts izRX11 hown hK hP 17 rfl rfl 1 (by decide) (hts _ k538) (fun _ h9 => h9) rfl dX11_sell_61 ?_
            refine lv_aload_n hx hb dX11_sell_64 rfl (lv_at hl 1 rfl) ?_
            refine va_get (D := g.1) (ci := 9) (v := .ref go) (C := RX11) (T := TX11) (N := 10) hx hb hts izRX11 hown hK hP 17 rfl rfl 3 (by decide) (hts _ k542) (fun _ h9 => h9) rfl dX11_sell_65 ?_
            refine mcallV' (g := g) (q0 := 0) (ci := 4) (As := [.ref o, .ref go]) (rest := []) St hK hT hA hP hD hS hl.1 [1, 2, 0, 4, 5] [3] rfl rfl rfl (c_m_remember l g mo qT qL it il ig mh me mx fT fL o a pe wo tx ch jo tr dy sd f go gr gz gn fr PT PL b_me b_mx b_pe b_wo rf b_gz b_gn hPT hPL) (cwV 2 hts (zgL (zl4 k662 k663 k664 k378) k367) rfl rfl rfl (by decide +kernel) ⟨Nat.le_of_ble_eq_true rfl, Nat.le_of_ble_eq_true rfl⟩) rfl rfl rfl rfl (Nat.le_of_ble_eq_true rfl) dX11_sell_68 ⟨(Nat.le_of_ble_eq_true rfl), (Nat.le_of_ble_eq_true rfl)⟩ (fun u_ H locs hq48 hP hD hS => ?_)
            obtain ⟨me2_44, mx2_45, PT2_46, PL2_47⟩ := u_
            replace hq48 : (0 ≤ me2_44.toInt ∧ me2_44.toInt ≤ 12) ∧ (0 ≤ mx2_45.toInt ∧ mx2_45.toInt ≤ 11) ∧ (zPT fT PT2_46) ∧ (zPL fL PL2_47) ∧ (me2_44.toInt = min (me.toInt + 1) 12) ∧ (mx2_45.toInt = (mx.toInt + 1) % 12) ∧ (zPk PT PT2_46 mx.toInt.toNat pe.toInt wo.toInt tx.toInt) := hq48
            have hP : va_P g.1 vwCl (List.flatten [bDR g x ta o lo go tt lt mo fo ro fl9, bMem g mo qT qL it il ig mh me2_44 mx2_45 fT fL, bTown g o a pe wo tx ch jo tr dy sd f, bLog g go gr gz gn fr, bPT g PT2_46, bPL g PL2_47]) H := hP
            have hD : va_D A (List.flatten [bDR g x ta o lo go tt lt mo fo ro fl9, bMem g mo qT qL it il ig mh me2_44 mx2_45 fT fL, bTown g o a pe wo tx ch jo tr dy sd f, bLog g go gr gz gn fr, bPT g PT2_46, bPL g PL2_47]) := hD
            refine W.widen (k := 3) (n := 18) (Nat.le_of_ble_eq_true rfl) (Nat.le_of_ble_eq_true rfl) ?_
            refine W.eq (g2 := F0 m 71 ls []) rfl ?_
            obtain ⟨hq48_0, hq48_1, hq48_2, hq48_3, hq48_4, hq48_5, hq48_6⟩ := hq48
            refine lv_aload_n hx hb dX11_sell_71 rfl (lv_at hl 1 rfl) ?_
            refine va_get (D := g.1) (ci := 9) (v := .ref o) (C := RX11) (T := TX11) (N := 10) hx hb hts izRX11 hown hK hP 0 rfl rfl 1 (by decide) (hts _ k538) (fun _ h9 => h9) rfl dX11_sell_72 ?_
            refine va_get (D := g.1) (ci := 7) (v := .ref (a 2)) (C := RX9) (T := TX9) (N := 19) hx hb hts izRX9 hown hK hP 4 rfl rfl 10 (by decide) (hts _ k615) (fun _ h9 => h9) rfl dX11_sell_75 ?_
            refine lv_iload_n hx hb dX11_sell_78 rfl (lv_at hl 2 rfl) ?_
            refine lv_dup2_11 hx hb dX11_sell_79 rfl rfl ?_
            refine va_iald hx hb hK hP 7 0 rfl rfl (zinK (a := 0) (b := 7) hq1_0.1 hq1_0.2 (by decide)) dX11_sell_80 ?_
            refine zg (fun x_49 => ?_)
            refine lv_iload_n hx hb dX11_sell_81 rfl (lv_at hl 3 rfl) ?_
            refine lv_isub hx hb dX11_sell_82 ?_
            refine zg (fun x_50 => ?_)
            refine va_iast hx hb hK hP hD hS 7 0 rfl rfl (zinK (a := 0) (b := 7) hq1_0.1 hq1_0.2 (by decide)) dX11_sell_83 (fun H locs hP hD hS => ?_)
            obtain ⟨f51, rf51, hP, hD⟩ : ∃ f51 : Nat → Nat → Int32, zZ4 f51 ∧ va_P g.1 vwCl (List.flatten [bDR g x ta o lo go tt lt mo fo ro fl9, bMem g mo qT qL it il ig mh me2_44 mx2_45 fT fL, bTown g o a pe wo tx ch jo tr dy sd f51, bLog g go gr gz gn fr, bPT g PT2_46, bPL g PL2_47]) H ∧ va_D A (List.flatten [bDR g x ta o lo go tt lt mo fo ro fl9, bMem g mo qT qL it il ig mh me2_44 mx2_45 fT fL, bTown g o a pe wo tx ch jo tr dy sd f51, bLog g go gr gz gn fr, bPT g PT2_46, bPL g PL2_47]) := ⟨zu f 2 (upd (f 2) pp.toNatClampNeg x_50), (zZ4_u rf (by decide)), hP, hD⟩
            refine lv_aload_n hx hb dX11_sell_84 rfl (lv_at hl 1 rfl) ?_
            refine va_get (D := g.1) (ci := 9) (v := .ref o) (C := RX11) (T := TX11) (N := 10) hx hb hts izRX11 hown hK hP 0 rfl rfl 1 (by decide) (hts _ k538) (fun _ h9 => h9) rfl dX11_sell_85 ?_
            refine lv_dup hx hb dX11_sell_88 rfl ?_
            refine va_get (D := g.1) (ci := 7) (v := .int ch) (C := RX9) (T := TX9) (N := 19) hx hb hts izRX9 hown hK hP 4 rfl rfl 3 (by decide) (hts _ k677) (fun _ h9 => h9) rfl dX11_sell_89 ?_
            refine lv_iload_n hx hb dX11_sell_92 rfl (lv_at hl 0 rfl) ?_
            refine lv_isub hx hb dX11_sell_93 ?_
            refine zg (fun x_52 => ?_)
            refine va_put (D := g.1) (ci := 7) (v := .int x_52) (ty := .int) (C := RX9) (T := TX9) (N := 19) hx hb hts izRX9 tyX9 tyX9_ok nmX9 hown hK hP hD hS 4 rfl rfl 3 (by decide) (hts _ k677) (fun _ h9 => h9) rfl (by decide +kernel) rfl rfl (Nat.le_of_ble_eq_true rfl) dX11_sell_94 (fun H locs hP hD hS => ?_)
            have hP : va_P g.1 vwCl (List.flatten [bDR g x ta o lo go tt lt mo fo ro fl9, bMem g mo qT qL it il ig mh me2_44 mx2_45 fT fL, bTown g o a pe wo tx x_52 jo tr dy sd f51, bLog g go gr gz gn fr, bPT g PT2_46, bPL g PL2_47]) H := hP
            have hD : va_D A (List.flatten [bDR g x ta o lo go tt lt mo fo ro fl9, bMem g mo qT qL it il ig mh me2_44 mx2_45 fT fL, bTown g o a pe wo tx x_52 jo tr dy sd f51, bLog g go gr gz gn fr, bPT g PT2_46, bPL g PL2_47]) := hD
            refine lv_aload_n hx hb dX11_sell_97 rfl (lv_at hl 1 rfl) ?_
            refine va_get (D := g.1) (ci := 9) (v := .ref o) (C := RX11) (T := TX11) (N := 10) hx hb hts izRX11 hown hK hP 0 rfl rfl 1 (by decide) (hts _ k538) (fun _ h9 => h9) rfl dX11_sell_98 ?_
            refine va_get (D := g.1) (ci := 7) (v := .ref (a 1)) (C := RX9) (T := TX9) (N := 19) hx hb hts izRX9 hown hK hP 4 rfl rfl 9 (by decide) (hts _ k614) (fun _ h9 => h9) rfl dX11_sell_101 ?_
            refine lv_iload_n hx hb dX11_sell_104 rfl (lv_at hl 2 rfl) ?_
            refine lv_sipush (v := 9999) hx hb dX11_sell_105 (by decide) ?_
            refine lv_aload_n hx hb dX11_sell_108 rfl (lv_at hl 1 rfl) ?_
            refine va_get (D := g.1) (ci := 9) (v := .ref o) (C := RX11) (T := TX11) (N := 10) hx hb hts izRX11 hown hK hP 0 rfl rfl 1 (by decide) (hts _ k538) (fun _ h9 => h9) rfl dX11_sell_109 ?_
            refine va_get (D := g.1) (ci := 7) (v := .ref (a 1)) (C := RX9) (T := TX9) (N := 19) hx hb hts izRX9 hown hK hP 4 rfl rfl 9 (by decide) (hts _ k614) (fun _ h9 => h9) rfl dX11_sell_112 ?_
            refine lv_iload_n hx hb dX11_sell_115 rfl (lv_at hl 2 rfl) ?_
            refine va_iald hx hb hK hP 6 0 rfl rfl (zinK (a := 0) (b := 7) hq1_0.1 hq1_0.2 (by decide)) dX11_sell_116 ?_
            refine zg (fun x_53 => ?_)
            refine lv_iload_n hx hb dX11_sell_117 rfl (lv_at hl 0 rfl) ?_
            refine lv_iadd hx hb dX11_sell_118 ?_
            refine zg (fun x_54 => ?_)
            refine va_mmin hx hb (by rw [hml]; exact hl.1.symm) hown (hts _ k678) (hts _ k41) (hts _ k42) (hts _ k43) (Nat.le_of_ble_eq_true rfl) (Nat.le_of_ble_eq_true rfl) (Nat.le_of_ble_eq_true rfl) (Nat.le_of_ble_eq_true rfl) dX11_sell_119 ?_
            refine zgmn (i := 9999) (j := x_54.toInt) (by decide) rfl (fun x_55 hx_55 => ?_)
            refine va_iast hx hb hK hP hD hS 6 0 rfl rfl (zinK (a := 0) (b := 7) hq1_0.1 hq1_0.2 (by decide)) dX11_sell_122 (fun H locs hP hD hS => ?_)
            obtain ⟨f56, rf56, hP, hD⟩ : ∃ f56 : Nat → Nat → Int32, zZ4 f56 ∧ va_P g.1 vwCl (List.flatten [bDR g x ta o lo go tt lt mo fo ro fl9, bMem g mo qT qL it il ig mh me2_44 mx2_45 fT fL, bTown g o a pe wo tx x_52 jo tr dy sd f56, bLog g go gr gz gn fr, bPT g PT2_46, bPL g PL2_47]) H ∧ va_D A (List.flatten [bDR g x ta o lo go tt lt mo fo ro fl9, bMem g mo qT qL it il ig mh me2_44 mx2_45 fT fL, bTown g o a pe wo tx x_52 jo tr dy sd f56, bLog g go gr gz gn fr, bPT g PT2_46, bPL g PL2_47]) := ⟨zu f51 1 (upd (f51 1) pp.toNatClampNeg x_55), (zZ4_u rf51 (by decide)), hP, hD⟩
            refine lv_aload_n hx hb dX11_sell_123 rfl (lv_at hl 1 rfl) ?_
            refine va_get (D := g.1) (ci := 9) (v := .ref o) (C := RX11) (T := TX11) (N := 10) hx hb hts izRX11 hown hK hP 0 rfl rfl 1 (by decide) (hts _ k538) (fun _ h9 => h9) rfl dX11_sell_124 ?_
            refine va_get (D := g.1) (ci := 7) (v := .ref (a 1)) (C := RX9) (T := TX9) (N := 19) hx hb hts izRX9 hown hK hP 4 rfl rfl 9 (by decide) (hts _ k614) (fun _ h9 => h9) rfl dX11_sell_127 ?_
            refine lv_iload_n hx hb dX11_sell_130 rfl (lv_at hl 2 rfl) ?_
            refine va_iald hx hb hK hP 6 0 rfl rfl (zinK (a := 0) (b := 7) hq1_0.1 hq1_0.2 (by decide)) dX11_sell_131 ?_
            refine zg (fun x_57 => ?_)
            have hP : va_P g.1 vwCl (List.flatten [bDR g x ta o lo go tt lt mo fo ro fl9, bMem g mo qT qL it il ig mh me2_44 mx2_45 fT fL, bTown g o a pe wo tx x_52 jo tr dy sd f56, bLog g go gr gz gn fr, bPT g PT2_46, bPL g PL2_47]) H := hP
            have hD : va_D A (List.flatten [bDR g x ta o lo go tt lt mo fo ro fl9, bMem g mo qT qL it il ig mh me2_44 mx2_45 fT fL, bTown g o a pe wo tx x_52 jo tr dy sd f56, bLog g go gr gz gn fr, bPT g PT2_46, bPL g PL2_47]) := hD
            obtain ⟨hP, hD⟩ := zord (g := g) (Bs' := [bDR g x ta o lo go tt lt mo fo ro fl9, bTown g o a pe wo tx x_52 jo tr dy sd f56, bLog g go gr gz gn fr, bMem g mo qT qL it il ig mh me2_44 mx2_45 fT fL, bPT g PT2_46, bPL g PL2_47]) [0, 2, 3, 1, 4, 5] rfl rfl hP hD
            exact zret_i hx hb hr hlocks hS (Nat.le_of_ble_eq_true rfl) (Nat.le_of_ble_eq_true rfl) dX11_sell_132 (f56, x_52, me2_44, mx2_45, PT2_46, PL2_47, x_57) rfl (show (zZ4 f56) ∧ (0 ≤ me2_44.toInt ∧ me2_44.toInt ≤ 12) ∧ (0 ≤ mx2_45.toInt ∧ mx2_45.toInt ≤ 11) ∧ (zPT fT PT2_46) ∧ (zPL fL PL2_47) ∧ (zRk PT PT2_46 me.toInt me2_44.toInt mx.toInt mx2_45.toInt pe.toInt wo.toInt tx.toInt) from ⟨rf56, hq48_0, hq48_1, hq48_2, hq48_3, (Or.inr ⟨hq48_4, hq48_5, hq48_6⟩)⟩) hP hD
