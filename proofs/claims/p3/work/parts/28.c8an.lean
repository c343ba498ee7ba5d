set_option maxRecDepth 100000 in
set_option maxHeartbeats 4000000 in
theorem c_x_needTales (l : Launch) (hfl : l.stackTraces = false) (g : zG) (x : Nat) (ta : Nat) (o : Nat) (lo : Nat) (go : Nat) (tt : Nat) (lt : Nat) (mo : Nat) (fo : Nat) (ro : Nat) (fl9 : Int32) (ab : Nat) (sz : Int32) (ln : Int32) (kd : Int32) (bg : Int32) (nx : Int32) (ft : Int32) (fb : Nat → Int32) (ln9 : Int32) (r9 : Int32) (b_sz : 0 ≤ sz.toInt ∧ sz.toInt ≤ 400) (b_ln9 : 0 ≤ ln9.toInt ∧ ln9.toInt ≤ 400) : zX' g l yX11_needTales (Cond.code yX11_needTales cX11_needTales 3 none :: zB) ({ frames := 7, cells := 3, slots := 18, locals := 105 } : Room) [.ref x, .int ln9, .int r9] [bDR g x ta o lo go tt lt mo fo ro fl9, bTape g ta ab sz ln kd bg nx ft fb] (fun _ : Unit => none) (fun _ : Unit => (0 ≤ ln9.toInt ∧ ln9.toInt ≤ 12) ∧ (0 ≤ r9.toInt ∧ r9.toInt ≤ 100)) (fun _ : Unit => [bDR g x ta o lo go tt lt mo fo ro fl9, bTape g ta ab sz ln kd bg nx ft fb]) (fun (E : String) (_ : Unit) => (E = "java/lang/IllegalArgumentException")) (fun _ : Unit => [bDR g x ta o lo go tt lt mo fo ro fl9, bTape g ta ab sz ln kd bg nx ft fb]) := by
  refine zX'.of (cc := cX11_needTales) (maxL := 3) (rt := none) (by decide) rfl (Nat.le_of_ble_eq_true rfl) ?_
  intro p e s m args below meth c A ls St hr hlocks htab hin hK hT hA hP hD hS hl
  obtain ⟨hx, hb, hml, hown, hts⟩ := id St
  have hl : lv_has ls 3 [(0, .ref x), (1, .int ln9), (2, .int r9)] := hl
  refine lv_aload_n hx hb dX11_needTales_0 rfl (lv_at hl 0 rfl) ?_
  refine lv_iload_n hx hb dX11_needTales_1 rfl (lv_at hl 2 rfl) ?_
  refine lv_iconst (v := 0) hx hb dX11_needTales_2 (by decide) ?_
  refine lv_bipush (v := 100) hx hb dX11_needTales_3 (by decide) ?_
  refine xcallV' (g := g) (q0 := 0) (ci := 9) (As := [.int r9, .int 0, .int 100]) (rest := []) St hK hT hA hP hD hS hl.1 [0] [1] rfl rfl rfl (c_x_nw_0_100 l hfl g x ta o lo go tt lt mo fo ro fl9 r9 ) (cwV 3 hts (zgL (zl4 k668 k669 k670 k621) k667) rfl rfl rfl (by decide +kernel) ⟨Nat.le_of_ble_eq_true rfl, Nat.le_of_ble_eq_true rfl⟩) rfl rfl rfl rfl (Nat.le_of_ble_eq_true rfl) dX11_needTales_5 ⟨(Nat.le_of_ble_eq_true rfl), (Nat.le_of_ble_eq_true rfl)⟩ (fun E ce q9 u9 H locs hpx hP hD hS hce hcv hcl => ?_) (fun _u H locs hq1 hP hD hS => ?_)
  · skip
    have hpx : (E = "java/lang/IllegalArgumentException") := hpx
    have hP : va_P g.1 vwCl (List.flatten [bTape g ta ab sz ln kd bg nx ft fb, bDR g x ta o lo go tt lt mo fo ro fl9]) H := hP
    have hD : va_D A (List.flatten [bTape g ta ab sz ln kd bg nx ft fb, bDR g x ta o lo go tt lt mo fo ro fl9]) := hD
    have hP : va_P g.1 vwCl (List.flatten [bTape g ta ab sz ln kd bg nx ft fb, bDR g x ta o lo go tt lt mo fo ro fl9]) H := hP
    have hD : va_D A (List.flatten [bTape g ta ab sz ln kd bg nx ft fb, bDR g x ta o lo go tt lt mo fo ro fl9]) := hD
    obtain ⟨hP, hD⟩ := zord (g := g) (Bs' := [bDR g x ta o lo go tt lt mo fo ro fl9, bTape g ta ab sz ln kd bg nx ft fb]) [1, 0] rfl rfl hP hD
    exact zout htab hlocks hS (Nat.le_of_ble_eq_true rfl) (Nat.le_of_ble_eq_true rfl) hce hcv hcl () (show (E = "java/lang/IllegalArgumentException") from hpx) hP hD
  · skip
    replace hq1 : (0 ≤ r9.toInt ∧ r9.toInt ≤ 100) := hq1
    have hP : va_P g.1 vwCl (List.flatten [bTape g ta ab sz ln kd bg nx ft fb, bDR g x ta o lo go tt lt mo fo ro fl9]) H := hP
    have hD : va_D A (List.flatten [bTape g ta ab sz ln kd bg nx ft fb, bDR g x ta o lo go tt lt mo fo ro fl9]) := hD
    refine W.widen (k := 1) (n := 6) (Nat.le_of_ble_eq_true rfl) (Nat.le_of_ble_eq_true rfl) ?_
    refine W.eq (g2 := F0 m 8 ls []) rfl ?_
    refine lv_aload_n hx hb dX11_needTales_8 rfl (lv_at hl 0 rfl) ?_
    refine lv_iload_n hx hb dX11_needTales_9 rfl (lv_at hl 1 rfl) ?_
    refine lv_iconst (v := 0) hx hb dX11_needTales_10 (by decide) ?_
    refine lv_bipush (v := 12) hx hb dX11_needTales_11 (by decide) ?_
    refine xcallV' (g := g) (q0 := 0) (ci := 9) (As := [.int ln9, .int 0, .int 12]) (rest := []) St hK hT hA hP hD hS hl.1 [1] [0] rfl rfl rfl (c_x_nw_0_12 l hfl g x ta o lo go tt lt mo fo ro fl9 ln9 ) (cwV 3 hts (zgL (zl4 k668 k669 k670 k621) k667) rfl rfl rfl (by decide +kernel) ⟨Nat.le_of_ble_eq_true rfl, Nat.le_of_ble_eq_true rfl⟩) rfl rfl rfl rfl (Nat.le_of_ble_eq_true rfl) dX11_needTales_13 ⟨(Nat.le_of_ble_eq_true rfl), (Nat.le_of_ble_eq_true rfl)⟩ (fun E ce q9 u9 H locs hpx hP hD hS hce hcv hcl => ?_) (fun _u H locs hq2 hP hD hS => ?_)
    · skip
      have hpx : (E = "java/lang/IllegalArgumentException") := hpx
      have hP : va_P g.1 vwCl (List.flatten [bTape g ta ab sz ln kd bg nx ft fb, bDR g x ta o lo go tt lt mo fo ro fl9]) H := hP
      have hD : va_D A (List.flatten [bTape g ta ab sz ln kd bg nx ft fb, bDR g x ta o lo go tt lt mo fo ro fl9]) := hD
      have hP : va_P g.1 vwCl (List.flatten [bTape g ta ab sz ln kd bg nx ft fb, bDR g x ta o lo go tt lt mo fo ro fl9]) H := hP
      have hD : va_D A (List.flatten [bTape g ta ab sz ln kd bg nx ft fb, bDR g x ta o lo go tt lt mo fo ro fl9]) := hD
      obtain ⟨hP, hD⟩ := zord (g := g) (Bs' := [bDR g x ta o lo go tt lt mo fo ro fl9, bTape g ta ab sz ln kd bg nx ft fb]) [1, 0] rfl rfl hP hD
      exact zout htab hlocks hS (Nat.le_of_ble_eq_true rfl) (Nat.le_of_ble_eq_true rfl) hce hcv hcl () (show (E = "java/lang/IllegalArgumentException") from hpx) hP hD
    · skip
      replace hq2 : (0 ≤ ln9.toInt ∧ ln9.toInt ≤ 12) := hq2
      have hP : va_P g.1 vwCl (List.flatten [bTape g ta ab sz ln kd bg nx ft fb, bDR g x ta o lo go tt lt mo fo ro fl9]) H := hP
      have hD : va_D A (List.flatten [bTape g ta ab sz ln kd bg nx ft fb, bDR g x ta o lo go tt lt mo fo ro fl9]) := hD
      refine W.widen (k := 2) (n := 12) (Nat.le_of_ble_eq_true rfl) (Nat.le_of_ble_eq_true rfl) ?_
      refine W.eq (g2 := F0 m 16 ls []) rfl ?_
      refine lv_aload_n hx hb dX11_needTales_16 rfl (lv_at hl 0 rfl) ?_
      refine va_get (D := g.1) (ci := 9) (v := .ref ta) (C := RX11) (T := TX11) (N := 10) hx hb hts izRX11 hown hK hP 2 rfl rfl 0 (by decide) (hts _ k536) (fun _ h9 => h9) rfl dX11_needTales_17 ?_
      refine lv_iload_n hx hb dX11_needTales_20 rfl (lv_at hl 1 rfl) ?_
      refine mcallV' (g := g) (q0 := 0) (ci := 6) (As := [.int ln9]) (rest := []) St hK hT hA hP hD hS hl.1 [0] [1] rfl rfl rfl (c_t_holdsTales l g ta ab sz ln kd bg nx ft fb ln9 hq2) (cwV 1 hts (zgL (zl4 k719 k720 k721 k277) k425) rfl rfl rfl (by decide +kernel) ⟨Nat.le_of_ble_eq_true rfl, Nat.le_of_ble_eq_true rfl⟩) rfl rfl rfl rfl (Nat.le_of_ble_eq_true rfl) dX11_needTales_21 ⟨(Nat.le_of_ble_eq_true rfl), (Nat.le_of_ble_eq_true rfl)⟩ (fun q_3 H locs hq4 hP hD hS => ?_)
      replace hq4 : (q_3 = 0 ∨ q_3 = 1) := hq4
      have hP : va_P g.1 vwCl (List.flatten [bDR g x ta o lo go tt lt mo fo ro fl9, bTape g ta ab sz ln kd bg nx ft fb]) H := hP
      have hD : va_D A (List.flatten [bDR g x ta o lo go tt lt mo fo ro fl9, bTape g ta ab sz ln kd bg nx ft fb]) := hD
      refine W.widen (k := 2) (n := 12) (Nat.le_of_ble_eq_true rfl) (Nat.le_of_ble_eq_true rfl) ?_
      refine W.eq (g2 := F0 m 24 ls [.int q_3]) rfl ?_
      rcases hq4 with rfl | rfl
      · skip
        refine lv_if_ne (tgt := 38) hx hb dX11_needTales_24 (by decide) (fun c5 => absurd (by decide) c5) (fun _ => ?_)
        obtain ⟨sa6, hsa6⟩ := hT.1.2.2.1 _ (List.mem_of_getElem? (i := 11) rfl)
        exact vx_throwSW (A := A) (names := ["java/lang/RuntimeException", "java/lang/Exception"]) hx hb hfl hown (by decide +kernel) (by decide +kernel) (hts _ k576) (hts _ k577) hsa6 (zhat hat_RX11_110_IllegalArgumentExceptiona hat_RX11_110_IllegalArgumentExceptionb hts (hT.1.2.2.2.2.1 _ (List.mem_of_getElem? (i := 1) rfl))) hat_RX11_110_IllegalArgumentExceptionc hT.1.1 hT.1.2.1 hS (by rw [hml]; exact hl.1) dX11_needTales_27 dX11_needTales_30 dX11_needTales_31 dX11_needTales_34 dX11_needTales_37 (fun x hx => (htab x hx).elim) (Nat.le_of_ble_eq_true rfl) (Nat.le_of_ble_eq_true rfl) (Nat.le_of_ble_eq_true rfl) (Nat.le_of_ble_eq_true rfl) hlocks (fun t ht hz hk => ⟨⟨(), rfl, hP.kept (fun k q hq => hk q.1 (hP k q hq).lt), hD⟩, ⟨Nat.le_trans hS.1 hz, fun q h1 h2 => (hk q (Nat.lt_of_lt_of_le h1 hS.1)).trans (hS.2.1 q h1 h2)⟩⟩) hS.2.2 (Nat.le_of_ble_eq_true rfl) (Nat.le_of_ble_eq_true rfl)
      · skip
        refine lv_if_ne (tgt := 38) hx hb dX11_needTales_24 (by decide) (fun _ => ?_) (fun c7 => absurd c7 (by decide))
        have hP : va_P g.1 vwCl (List.flatten [bDR g x ta o lo go tt lt mo fo ro fl9, bTape g ta ab sz ln kd bg nx ft fb]) H := hP
        have hD : va_D A (List.flatten [bDR g x ta o lo go tt lt mo fo ro fl9, bTape g ta ab sz ln kd bg nx ft fb]) := hD
        exact zret_v hx hb hr hlocks hS (Nat.le_of_ble_eq_true rfl) (Nat.le_of_ble_eq_true rfl) dX11_needTales_38 () rfl (show (0 ≤ ln9.toInt ∧ ln9.toInt ≤ 12) ∧ (0 ≤ r9.toInt ∧ r9.toInt ≤ 100) from ⟨hq2, hq1⟩) hP hD
