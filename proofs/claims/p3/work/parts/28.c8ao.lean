set_option maxRecDepth 100000 in
set_option maxHeartbeats 4000000 in
theorem c_x_needSaid (l : Launch) (hfl : l.stackTraces = false) (g : zG) (x : Nat) (ta : Nat) (o : Nat) (lo : Nat) (go : Nat) (tt : Nat) (lt : Nat) (mo : Nat) (fo : Nat) (ro : Nat) (fl9 : Int32) (a : Nat → Nat) (pe : Int32) (wo : Int32) (tx : Int32) (ch : Int32) (jo : Int32) (tr : Int32) (dy : Int32) (sd : Int32) (f : Nat → Nat → Int32) (ab : Nat) (sz : Int32) (ln : Int32) (kd : Int32) (bg : Int32) (nx : Int32) (ft : Int32) (fb : Nat → Int32) (ln9 : Int32) (b_pe : 0 ≤ pe.toInt ∧ pe.toInt ≤ 8) (b_wo : 0 ≤ wo.toInt ∧ wo.toInt ≤ 6) (rf : zZ4 f) (b_sz : 0 ≤ sz.toInt ∧ sz.toInt ≤ 400) (b_ln9 : 0 ≤ ln9.toInt ∧ ln9.toInt ≤ 400) : zX' g l yX11_needSaid (Cond.code yX11_needSaid cX11_needSaid 2 none :: zB) ({ frames := 7, cells := 2, slots := 12, locals := 105 } : Room) [.ref x, .int ln9] [bDR g x ta o lo go tt lt mo fo ro fl9, bTown g o a pe wo tx ch jo tr dy sd f, bTape g ta ab sz ln kd bg nx ft fb] (fun _ : Unit => none) (fun _ : Unit => (0 ≤ ln9.toInt ∧ ln9.toInt ≤ 36)) (fun _ : Unit => [bDR g x ta o lo go tt lt mo fo ro fl9, bTown g o a pe wo tx ch jo tr dy sd f, bTape g ta ab sz ln kd bg nx ft fb]) (fun (E : String) (_ : Unit) => (E = "java/lang/IllegalArgumentException")) (fun _ : Unit => [bDR g x ta o lo go tt lt mo fo ro fl9, bTown g o a pe wo tx ch jo tr dy sd f, bTape g ta ab sz ln kd bg nx ft fb]) := by
  refine zX'.of (cc := cX11_needSaid) (maxL := 2) (rt := none) (by decide) rfl (Nat.le_of_ble_eq_true rfl) ?_
  intro p e s m args below meth c A ls St hr hlocks htab hin hK hT hA hP hD hS hl
  obtain ⟨hx, hb, hml, hown, hts⟩ := id St
  have hl : lv_has ls 2 [(0, .ref x), (1, .int ln9)] := hl
  refine lv_aload_n hx hb dX11_needSaid_0 rfl (lv_at hl 0 rfl) ?_
  refine lv_iload_n hx hb dX11_needSaid_1 rfl (lv_at hl 1 rfl) ?_
  refine lv_iconst (v := 0) hx hb dX11_needSaid_2 (by decide) ?_
  refine lv_bipush (v := 36) hx hb dX11_needSaid_3 (by decide) ?_
  refine xcallV' (g := g) (q0 := 0) (ci := 9) (As := [.int ln9, .int 0, .int 36]) (rest := []) St hK hT hA hP hD hS hl.1 [0] [1, 2] rfl rfl rfl (c_x_nw_0_36 l hfl g x ta o lo go tt lt mo fo ro fl9 ln9 ) (cwV 3 hts (zgL (zl4 k668 k669 k670 k621) k667) rfl rfl rfl (by decide +kernel) ⟨Nat.le_of_ble_eq_true rfl, Nat.le_of_ble_eq_true rfl⟩) rfl rfl rfl rfl (Nat.le_of_ble_eq_true rfl) dX11_needSaid_5 ⟨(Nat.le_of_ble_eq_true rfl), (Nat.le_of_ble_eq_true rfl)⟩ (fun E ce q9 u9 H locs hpx hP hD hS hce hcv hcl => ?_) (fun _u H locs hq1 hP hD hS => ?_)
  · skip
    have hpx : (E = "java/lang/IllegalArgumentException") := hpx
    have hP : va_P g.1 vwCl (List.flatten [bTown g o a pe wo tx ch jo tr dy sd f, bTape g ta ab sz ln kd bg nx ft fb, bDR g x ta o lo go tt lt mo fo ro fl9]) H := hP
    have hD : va_D A (List.flatten [bTown g o a pe wo tx ch jo tr dy sd f, bTape g ta ab sz ln kd bg nx ft fb, bDR g x ta o lo go tt lt mo fo ro fl9]) := hD
    have hP : va_P g.1 vwCl (List.flatten [bTown g o a pe wo tx ch jo tr dy sd f, bTape g ta ab sz ln kd bg nx ft fb, bDR g x ta o lo go tt lt mo fo ro fl9]) H := hP
    have hD : va_D A (List.flatten [bTown g o a pe wo tx ch jo tr dy sd f, bTape g ta ab sz ln kd bg nx ft fb, bDR g x ta o lo go tt lt mo fo ro fl9]) := hD
    obtain ⟨hP, hD⟩ := zord (g := g) (Bs' := [bDR g x ta o lo go tt lt mo fo ro fl9, bTown g o a pe wo tx ch jo tr dy sd f, bTape g ta ab sz ln kd bg nx ft fb]) [2, 0, 1] rfl rfl hP hD
    exact zout htab hlocks hS (Nat.le_of_ble_eq_true rfl) (Nat.le_of_ble_eq_true rfl) hce hcv hcl () (show (E = "java/lang/IllegalArgumentException") from hpx) hP hD
  · skip
    replace hq1 : (0 ≤ ln9.toInt ∧ ln9.toInt ≤ 36) := hq1
    have hP : va_P g.1 vwCl (List.flatten [bTown g o a pe wo tx ch jo tr dy sd f, bTape g ta ab sz ln kd bg nx ft fb, bDR g x ta o lo go tt lt mo fo ro fl9]) H := hP
    have hD : va_D A (List.flatten [bTown g o a pe wo tx ch jo tr dy sd f, bTape g ta ab sz ln kd bg nx ft fb, bDR g x ta o lo go tt lt mo fo ro fl9]) := hD
    refine W.widen (k := 1) (n := 6) (Nat.le_of_ble_eq_true rfl) (Nat.le_of_ble_eq_true rfl) ?_
    refine W.eq (g2 := F0 m 8 ls []) rfl ?_
    refine lv_aload_n hx hb dX11_needSaid_8 rfl (lv_at hl 0 rfl) ?_
    refine va_get (D := g.1) (ci := 9) (v := .ref ta) (C := RX11) (T := TX11) (N := 10) hx hb hts izRX11 hown hK hP 14 rfl rfl 0 (by decide) (hts _ k536) (fun _ h9 => h9) rfl dX11_needSaid_9 ?_
    refine lv_iload_n hx hb dX11_needSaid_12 rfl (lv_at hl 1 rfl) ?_
    refine lv_aload_n hx hb dX11_needSaid_13 rfl (lv_at hl 0 rfl) ?_
    refine va_get (D := g.1) (ci := 9) (v := .ref o) (C := RX11) (T := TX11) (N := 10) hx hb hts izRX11 hown hK hP 14 rfl rfl 1 (by decide) (hts _ k538) (fun _ h9 => h9) rfl dX11_needSaid_14 ?_
    refine va_get (D := g.1) (ci := 7) (v := .int pe) (C := RX9) (T := TX9) (N := 19) hx hb hts izRX9 hown hK hP 0 rfl rfl 0 (by decide) (hts _ k610) (fun _ h9 => h9) rfl dX11_needSaid_17 ?_
    refine mcallV' (g := g) (q0 := 0) (ci := 6) (As := [.int ln9, .int pe]) (rest := []) St hK hT hA hP hD hS hl.1 [1] [0, 2] rfl rfl rfl (c_t_holdsSaid l g ta ab sz ln kd bg nx ft fb ln9 pe hq1) (cwV 2 hts (zgL (zl4 k734 k735 k736 k277) k427) rfl rfl rfl (by decide +kernel) ⟨Nat.le_of_ble_eq_true rfl, Nat.le_of_ble_eq_true rfl⟩) rfl rfl rfl rfl (Nat.le_of_ble_eq_true rfl) dX11_needSaid_20 ⟨(Nat.le_of_ble_eq_true rfl), (Nat.le_of_ble_eq_true rfl)⟩ (fun q_2 H locs hq3 hP hD hS => ?_)
    replace hq3 : (q_2 = 0 ∨ q_2 = 1) := hq3
    have hP : va_P g.1 vwCl (List.flatten [bTown g o a pe wo tx ch jo tr dy sd f, bDR g x ta o lo go tt lt mo fo ro fl9, bTape g ta ab sz ln kd bg nx ft fb]) H := hP
    have hD : va_D A (List.flatten [bTown g o a pe wo tx ch jo tr dy sd f, bDR g x ta o lo go tt lt mo fo ro fl9, bTape g ta ab sz ln kd bg nx ft fb]) := hD
    refine W.widen (k := 1) (n := 6) (Nat.le_of_ble_eq_true rfl) (Nat.le_of_ble_eq_true rfl) ?_
    refine W.eq (g2 := F0 m 23 ls [.int q_2]) rfl ?_
    rcases hq3 with rfl | rfl
    · skip
      refine lv_if_ne (tgt := 37) hx hb dX11_needSaid_23 (by decide) (fun c4 => absurd (by decide) c4) (fun _ => ?_)
      obtain ⟨sa5, hsa5⟩ := hT.1.2.2.1 _ (List.mem_of_getElem? (i := 12) rfl)
      have hP : va_P g.1 vwCl (List.flatten [bTown g o a pe wo tx ch jo tr dy sd f, bDR g x ta o lo go tt lt mo fo ro fl9, bTape g ta ab sz ln kd bg nx ft fb]) H := hP
      have hD : va_D A (List.flatten [bTown g o a pe wo tx ch jo tr dy sd f, bDR g x ta o lo go tt lt mo fo ro fl9, bTape g ta ab sz ln kd bg nx ft fb]) := hD
      obtain ⟨hP, hD⟩ := zord (g := g) (Bs' := [bDR g x ta o lo go tt lt mo fo ro fl9, bTown g o a pe wo tx ch jo tr dy sd f, bTape g ta ab sz ln kd bg nx ft fb]) [1, 0, 2] rfl rfl hP hD
      exact vx_throwSW (A := A) (names := ["java/lang/RuntimeException", "java/lang/Exception"]) hx hb hfl hown (by decide +kernel) (by decide +kernel) (hts _ k576) (hts _ k577) hsa5 (zhat hat_RX11_110_IllegalArgumentExceptiona hat_RX11_110_IllegalArgumentExceptionb hts (hT.1.2.2.2.2.1 _ (List.mem_of_getElem? (i := 1) rfl))) hat_RX11_110_IllegalArgumentExceptionc hT.1.1 hT.1.2.1 hS (by rw [hml]; exact hl.1) dX11_needSaid_26 dX11_needSaid_29 dX11_needSaid_30 dX11_needSaid_33 dX11_needSaid_36 (fun x hx => (htab x hx).elim) (Nat.le_of_ble_eq_true rfl) (Nat.le_of_ble_eq_true rfl) (Nat.le_of_ble_eq_true rfl) (Nat.le_of_ble_eq_true rfl) hlocks (fun t ht hz hk => ⟨⟨(), rfl, hP.kept (fun k q hq => hk q.1 (hP k q hq).lt), hD⟩, ⟨Nat.le_trans hS.1 hz, fun q h1 h2 => (hk q (Nat.lt_of_lt_of_le h1 hS.1)).trans (hS.2.1 q h1 h2)⟩⟩) hS.2.2 (Nat.le_of_ble_eq_true rfl) (Nat.le_of_ble_eq_true rfl)
    · skip
      refine lv_if_ne (tgt := 37) hx hb dX11_needSaid_23 (by decide) (fun _ => ?_) (fun c6 => absurd c6 (by decide))
      have hP : va_P g.1 vwCl (List.flatten [bTown g o a pe wo tx ch jo tr dy sd f, bDR g x ta o lo go tt lt mo fo ro fl9, bTape g ta ab sz ln kd bg nx ft fb]) H := hP
      have hD : va_D A (List.flatten [bTown g o a pe wo tx ch jo tr dy sd f, bDR g x ta o lo go tt lt mo fo ro fl9, bTape g ta ab sz ln kd bg nx ft fb]) := hD
      obtain ⟨hP, hD⟩ := zord (g := g) (Bs' := [bDR g x ta o lo go tt lt mo fo ro fl9, bTown g o a pe wo tx ch jo tr dy sd f, bTape g ta ab sz ln kd bg nx ft fb]) [1, 0, 2] rfl rfl hP hD
      exact zret_v hx hb hr hlocks hS (Nat.le_of_ble_eq_true rfl) (Nat.le_of_ble_eq_true rfl) dX11_needSaid_37 () rfl (show (0 ≤ ln9.toInt ∧ ln9.toInt ≤ 36) from hq1) hP hD
