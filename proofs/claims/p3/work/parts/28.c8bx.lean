set_option maxRecDepth 100000 in
set_option maxHeartbeats 4000000 in
theorem c_x_ask (l : Launch) (hfl : l.stackTraces = false) (g : zG) (x : Nat) (ta : Nat) (o : Nat) (lo : Nat) (go : Nat) (tt : Nat) (lt : Nat) (mo : Nat) (fo : Nat) (ro : Nat) (fl9 : Int32) (a : Nat → Nat) (pe : Int32) (wo : Int32) (tx : Int32) (ch : Int32) (jo : Int32) (tr : Int32) (dy : Int32) (sd : Int32) (f : Nat → Nat → Int32) (ab : Nat) (sz : Int32) (ln : Int32) (kd : Int32) (bg : Int32) (nx : Int32) (ft : Int32) (fb : Nat → Int32) (rw : Nat) (ri : Int32) (rt : Int32) (rb : Nat → Int32) (b_pe : 0 ≤ pe.toInt ∧ pe.toInt ≤ 8) (b_wo : 0 ≤ wo.toInt ∧ wo.toInt ≤ 6) (rf : zZ4 f) (b_sz : 0 ≤ sz.toInt ∧ sz.toInt ≤ 400) (b_ri : 0 ≤ ri.toInt ∧ ri.toInt ≤ 8) : zX' g l yX11_ask (Cond.code yX11_ask cX11_ask 2 (some .int) :: zB) ({ frames := 8, cells := 2, slots := 12, locals := 126 } : Room) [.ref x] [bDR g x ta o lo go tt lt mo fo ro fl9, bTown g o a pe wo tx ch jo tr dy sd f, bTape g ta ab sz ln kd bg nx ft fb, bRi g ro rw ri rt rb] (fun u : Int32 × Int32 × (Nat → Int32) × Int32 => (fun (ri2 : Int32) (rt2 : Int32) (rb2 : Nat → Int32) (q : Int32) => some (.int q)) (u.1) (u.2.1) (u.2.2.1) (u.2.2.2)) (fun u : Int32 × Int32 × (Nat → Int32) × Int32 => (fun (ri2 : Int32) (rt2 : Int32) (rb2 : Nat → Int32) (q : Int32) => (0 ≤ ri2.toInt ∧ ri2.toInt ≤ 8)) (u.1) (u.2.1) (u.2.2.1) (u.2.2.2)) (fun u : Int32 × Int32 × (Nat → Int32) × Int32 => (fun (ri2 : Int32) (rt2 : Int32) (rb2 : Nat → Int32) (q : Int32) => [bDR g x ta o lo go tt lt mo fo ro fl9, bTown g o a pe wo tx ch jo tr dy sd f, bTape g ta ab 0 ln kd bg nx ft fb, bRi g ro rw ri2 rt2 rb2]) (u.1) (u.2.1) (u.2.2.1) (u.2.2.2)) (fun (E : String) => fun u : Int32 × Int32 × (Nat → Int32) => (fun (ri2 : Int32) (rt2 : Int32) (rb2 : Nat → Int32) => (E = "java/lang/IllegalArgumentException") ∧ (0 ≤ ri2.toInt ∧ ri2.toInt ≤ 8)) (u.1) (u.2.1) (u.2.2)) (fun u : Int32 × Int32 × (Nat → Int32) => (fun (ri2 : Int32) (rt2 : Int32) (rb2 : Nat → Int32) => [bDR g x ta o lo go tt lt mo fo ro fl9, bTown g o a pe wo tx ch jo tr dy sd f, bTape g ta ab 0 ln kd bg nx ft fb, bRi g ro rw ri2 rt2 rb2]) (u.1) (u.2.1) (u.2.2)) := by
  refine zX'.of (cc := cX11_ask) (maxL := 2) (rt := (some .int)) (by decide) rfl (Nat.le_of_ble_eq_true rfl) ?_
  intro p e s m args below meth c A ls St hr hlocks htab hin hK hT hA hP hD hS hl
  obtain ⟨hx, hb, hml, hown, hts⟩ := id St
  have hl : lv_has ls 2 [(0, .ref x)] := hl
  refine lv_aload_n hx hb dX11_ask_0 rfl (lv_at hl 0 rfl) ?_
  refine va_get (D := g.1) (ci := 9) (v := .ref ta) (C := RX11) (T := TX11) (N := 10) hx hb hts izRX11 hown hK hP 0 rfl rfl 0 (by decide) (hts _ k536) (fun _ h9 => h9) rfl dX11_ask_1 ?_
  refine mcallV' (g := g) (q0 := 0) (ci := 6) (As := []) (rest := []) St hK hT hA hP hD hS hl.1 [2] [0, 1, 3] rfl rfl rfl (c_t_useUp l g ta ab sz ln kd bg nx ft fb ) (cwV 0 hts (zgL (zl4 k583 k584 k585 k277) k424) rfl rfl rfl (by decide +kernel) ⟨Nat.le_of_ble_eq_true rfl, Nat.le_of_ble_eq_true rfl⟩) rfl rfl rfl rfl (Nat.le_of_ble_eq_true rfl) dX11_ask_4 ⟨(Nat.le_of_ble_eq_true rfl), (Nat.le_of_ble_eq_true rfl)⟩ (fun _u H locs hq1 hP hD hS => ?_)
  have hP : va_P g.1 vwCl (List.flatten [bDR g x ta o lo go tt lt mo fo ro fl9, bTown g o a pe wo tx ch jo tr dy sd f, bRi g ro rw ri rt rb, bTape g ta ab 0 ln kd bg nx ft fb]) H := hP
  have hD : va_D A (List.flatten [bDR g x ta o lo go tt lt mo fo ro fl9, bTown g o a pe wo tx ch jo tr dy sd f, bRi g ro rw ri rt rb, bTape g ta ab 0 ln kd bg nx ft fb]) := hD
  refine W.widen (k := 0) (n := 0) (Nat.le_of_ble_eq_true rfl) (Nat.le_of_ble_eq_true rfl) ?_
  refine W.eq (g2 := F0 m 7 ls [.int sz]) rfl ?_
  refine lv_istore_n (lv' := [(1, .int sz), (0, .ref x)]) hx hb dX11_ask_7 rfl hl (by decide) rfl (fun ls hl => ?_)
  refine lv_aload_n hx hb dX11_ask_8 rfl (lv_at hl 1 rfl) ?_
  refine lv_iload_n hx hb dX11_ask_9 rfl (lv_at hl 0 rfl) ?_
  have hL0 : (0 : Int32).toInt = 0 := by decide
  refine xcallV' (g := g) (q0 := 0) (ci := 9) (As := [.int sz]) (rest := []) St hK hT hA hP hD hS hl.1 [0, 1, 3] [2] rfl rfl rfl (c_x_needSaid l hfl g x ta o lo go tt lt mo fo ro fl9 a pe wo tx ch jo tr dy sd f ab 0 ln kd bg nx ft fb sz b_pe b_wo rf (by decide) b_sz) (cwV 1 hts (zgL (zl4 k738 k739 k740 k621) k733) rfl rfl rfl (by decide +kernel) ⟨Nat.le_of_ble_eq_true rfl, Nat.le_of_ble_eq_true rfl⟩) rfl rfl rfl rfl (Nat.le_of_ble_eq_true rfl) dX11_ask_10 ⟨(Nat.le_of_ble_eq_true rfl), (Nat.le_of_ble_eq_true rfl)⟩ (fun E ce q9 u9 H locs hpx hP hD hS hce hcv hcl => ?_) (fun _u H locs hq2 hP hD hS => ?_)
  · skip
    have hpx : (E = "java/lang/IllegalArgumentException") := hpx
    have hP : va_P g.1 vwCl (List.flatten [bRi g ro rw ri rt rb, bDR g x ta o lo go tt lt mo fo ro fl9, bTown g o a pe wo tx ch jo tr dy sd f, bTape g ta ab 0 ln kd bg nx ft fb]) H := hP
    have hD : va_D A (List.flatten [bRi g ro rw ri rt rb, bDR g x ta o lo go tt lt mo fo ro fl9, bTown g o a pe wo tx ch jo tr dy sd f, bTape g ta ab 0 ln kd bg nx ft fb]) := hD
    have hP : va_P g.1 vwCl (List.flatten [bRi g ro rw ri rt rb, bDR g x ta o lo go tt lt mo fo ro fl9, bTown g o a pe wo tx ch jo tr dy sd f, bTape g ta ab 0 ln kd bg nx ft fb]) H := hP
    have hD : va_D A (List.flatten [bRi g ro rw ri rt rb, bDR g x ta o lo go tt lt mo fo ro fl9, bTown g o a pe wo tx ch jo tr dy sd f, bTape g ta ab 0 ln kd bg nx ft fb]) := hD
    obtain ⟨hP, hD⟩ := zord (g := g) (Bs' := [bDR g x ta o lo go tt lt mo fo ro fl9, bTown g o a pe wo tx ch jo tr dy sd f, bTape g ta ab 0 ln kd bg nx ft fb, bRi g ro rw ri rt rb]) [1, 2, 3, 0] rfl rfl hP hD
    exact zout htab hlocks hS (Nat.le_of_ble_eq_true rfl) (Nat.le_of_ble_eq_true rfl) hce hcv hcl (ri, rt, rb) (show (E = "java/lang/IllegalArgumentException") ∧ (0 ≤ ri.toInt ∧ ri.toInt ≤ 8) from ⟨hpx, (show 0 ≤ ri.toInt ∧ ri.toInt ≤ 8 from b_ri)⟩) hP hD
  · skip
    replace hq2 : (0 ≤ sz.toInt ∧ sz.toInt ≤ 36) := hq2
    have hP : va_P g.1 vwCl (List.flatten [bRi g ro rw ri rt rb, bDR g x ta o lo go tt lt mo fo ro fl9, bTown g o a pe wo tx ch jo tr dy sd f, bTape g ta ab 0 ln kd bg nx ft fb]) H := hP
    have hD : va_D A (List.flatten [bRi g ro rw ri rt rb, bDR g x ta o lo go tt lt mo fo ro fl9, bTown g o a pe wo tx ch jo tr dy sd f, bTape g ta ab 0 ln kd bg nx ft fb]) := hD
    refine W.widen (k := 2) (n := 12) (Nat.le_of_ble_eq_true rfl) (Nat.le_of_ble_eq_true rfl) ?_
    refine W.eq (g2 := F0 m 13 ls []) rfl ?_
    refine lv_aload_n hx hb dX11_ask_13 rfl (lv_at hl 1 rfl) ?_
    refine va_get (D := g.1) (ci := 9) (v := .ref ro) (C := RX11) (T := TX11) (N := 10) hx hb hts izRX11 hown hK hP 2 rfl rfl 8 (by decide) (hts _ k557) (fun _ h9 => h9) rfl dX11_ask_14 ?_
    refine lv_aload_n hx hb dX11_ask_17 rfl (lv_at hl 1 rfl) ?_
    refine va_get (D := g.1) (ci := 9) (v := .ref ta) (C := RX11) (T := TX11) (N := 10) hx hb hts izRX11 hown hK hP 2 rfl rfl 0 (by decide) (hts _ k536) (fun _ h9 => h9) rfl dX11_ask_18 ?_
    refine lv_iload_n hx hb dX11_ask_21 rfl (lv_at hl 0 rfl) ?_
    refine lv_aload_n hx hb dX11_ask_22 rfl (lv_at hl 1 rfl) ?_
    refine va_get (D := g.1) (ci := 9) (v := .ref o) (C := RX11) (T := TX11) (N := 10) hx hb hts izRX11 hown hK hP 2 rfl rfl 1 (by decide) (hts _ k538) (fun _ h9 => h9) rfl dX11_ask_23 ?_
    refine va_get (D := g.1) (ci := 7) (v := .int pe) (C := RX9) (T := TX9) (N := 19) hx hb hts izRX9 hown hK hP 3 rfl rfl 0 (by decide) (hts _ k610) (fun _ h9 => h9) rfl dX11_ask_26 ?_
    refine mcallV' (g := g) (q0 := 0) (ci := 5) (As := [.ref ta, .int sz, .int pe]) (rest := []) St hK hT hA hP hD hS hl.1 [0, 3] [1, 2] rfl rfl rfl (c_r_hear l g ro rw ri rt rb ta ab 0 ln kd bg nx ft fb sz pe b_pe) (cwV 3 hts (zgL (zl4 k741 k742 k743 k389) k390) rfl rfl rfl (by decide +kernel) ⟨Nat.le_of_ble_eq_true rfl, Nat.le_of_ble_eq_true rfl⟩) rfl rfl rfl rfl (Nat.le_of_ble_eq_true rfl) dX11_ask_29 ⟨(Nat.le_of_ble_eq_true rfl), (Nat.le_of_ble_eq_true rfl)⟩ (fun u_ H locs hq6 hP hD hS => ?_)
    obtain ⟨ri2_3, rt2_4, rb2_5⟩ := u_
    replace hq6 : (0 ≤ ri2_3.toInt ∧ ri2_3.toInt ≤ 8) := hq6
    have hP : va_P g.1 vwCl (List.flatten [bDR g x ta o lo go tt lt mo fo ro fl9, bTown g o a pe wo tx ch jo tr dy sd f, bRi g ro rw ri2_3 rt2_4 rb2_5, bTape g ta ab 0 ln kd bg nx ft fb]) H := hP
    have hD : va_D A (List.flatten [bDR g x ta o lo go tt lt mo fo ro fl9, bTown g o a pe wo tx ch jo tr dy sd f, bRi g ro rw ri2_3 rt2_4 rb2_5, bTape g ta ab 0 ln kd bg nx ft fb]) := hD
    refine W.widen (k := 2) (n := 12) (Nat.le_of_ble_eq_true rfl) (Nat.le_of_ble_eq_true rfl) ?_
    refine W.eq (g2 := F0 m 32 ls []) rfl ?_
    refine lv_aload_n hx hb dX11_ask_32 rfl (lv_at hl 1 rfl) ?_
    refine va_get (D := g.1) (ci := 9) (v := .ref ro) (C := RX11) (T := TX11) (N := 10) hx hb hts izRX11 hown hK hP 0 rfl rfl 8 (by decide) (hts _ k557) (fun _ h9 => h9) rfl dX11_ask_33 ?_
    refine mcallV' (g := g) (q0 := 0) (ci := 5) (As := []) (rest := []) St hK hT hA hP hD hS hl.1 [2] [0, 1, 3] rfl rfl rfl (c_r_bestQuestion l g ro rw ri2_3 rt2_4 rb2_5 hq6) (cwV 0 hts (zgL (zl4 k748 k749 k750 k389) k400) rfl rfl rfl (by decide +kernel) ⟨Nat.le_of_ble_eq_true rfl, Nat.le_of_ble_eq_true rfl⟩) rfl rfl rfl rfl (Nat.le_of_ble_eq_true rfl) dX11_ask_36 ⟨(Nat.le_of_ble_eq_true rfl), (Nat.le_of_ble_eq_true rfl)⟩ (fun q_7 H locs hq8 hP hD hS => ?_)
    have hP : va_P g.1 vwCl (List.flatten [bDR g x ta o lo go tt lt mo fo ro fl9, bTown g o a pe wo tx ch jo tr dy sd f, bTape g ta ab 0 ln kd bg nx ft fb, bRi g ro rw ri2_3 rt2_4 rb2_5]) H := hP
    have hD : va_D A (List.flatten [bDR g x ta o lo go tt lt mo fo ro fl9, bTown g o a pe wo tx ch jo tr dy sd f, bTape g ta ab 0 ln kd bg nx ft fb, bRi g ro rw ri2_3 rt2_4 rb2_5]) := hD
    refine W.widen (k := 2) (n := 12) (Nat.le_of_ble_eq_true rfl) (Nat.le_of_ble_eq_true rfl) ?_
    refine W.eq (g2 := F0 m 39 ls [.int q_7]) rfl ?_
    have hP : va_P g.1 vwCl (List.flatten [bDR g x ta o lo go tt lt mo fo ro fl9, bTown g o a pe wo tx ch jo tr dy sd f, bTape g ta ab 0 ln kd bg nx ft fb, bRi g ro rw ri2_3 rt2_4 rb2_5]) H := hP
    have hD : va_D A (List.flatten [bDR g x ta o lo go tt lt mo fo ro fl9, bTown g o a pe wo tx ch jo tr dy sd f, bTape g ta ab 0 ln kd bg nx ft fb, bRi g ro rw ri2_3 rt2_4 rb2_5]) := hD
    exact zret_i hx hb hr hlocks hS (Nat.le_of_ble_eq_true rfl) (Nat.le_of_ble_eq_true rfl) dX11_ask_39 (ri2_3, rt2_4, rb2_5, q_7) rfl (show (0 ≤ ri2_3.toInt ∧ ri2_3.toInt ≤ 8) from hq6) hP hD
