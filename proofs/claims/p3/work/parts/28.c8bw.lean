set_option maxRecDepth 100000 in
set_option maxHeartbeats 4000000 in
theorem c_x_liars (l : Launch) (hfl : l.stackTraces = false) (g : zG) (x : Nat) (ta : Nat) (o : Nat) (lo : Nat) (go : Nat) (tt : Nat) (lt : Nat) (mo : Nat) (fo : Nat) (ro : Nat) (fl9 : Int32) (a : Nat → Nat) (pe : Int32) (wo : Int32) (tx : Int32) (ch : Int32) (jo : Int32) (tr : Int32) (dy : Int32) (sd : Int32) (f : Nat → Nat → Int32) (ab : Nat) (sz : Int32) (ln : Int32) (kd : Int32) (bg : Int32) (nx : Int32) (ft : Int32) (fb : Nat → Int32) (rw : Nat) (ri : Int32) (rt : Int32) (rb : Nat → Int32) (su : Int32) (b_pe : 0 ≤ pe.toInt ∧ pe.toInt ≤ 8) (b_wo : 0 ≤ wo.toInt ∧ wo.toInt ≤ 6) (rf : zZ4 f) (b_sz : 0 ≤ sz.toInt ∧ sz.toInt ≤ 400) (b_ri : 0 ≤ ri.toInt ∧ ri.toInt ≤ 8) : zX' g l yX11_liars (Cond.code yX11_liars cX11_liars 3 (some .int) :: zB) ({ frames := 8, cells := 2, slots := 12, locals := 126 } : Room) [.ref x, .int su] [bDR g x ta o lo go tt lt mo fo ro fl9, bTown g o a pe wo tx ch jo tr dy sd f, bTape g ta ab sz ln kd bg nx ft fb, bRi g ro rw ri rt rb] (fun u : Int32 × Int32 × (Nat → Int32) × Int32 => (fun (ri2 : Int32) (rt2 : Int32) (rb2 : Nat → Int32) (q : Int32) => some (.int q)) (u.1) (u.2.1) (u.2.2.1) (u.2.2.2)) (fun u : Int32 × Int32 × (Nat → Int32) × Int32 => (fun (ri2 : Int32) (rt2 : Int32) (rb2 : Nat → Int32) (q : Int32) => (0 ≤ ri2.toInt ∧ ri2.toInt ≤ 8)) (u.1) (u.2.1) (u.2.2.1) (u.2.2.2)) (fun u : Int32 × Int32 × (Nat → Int32) × Int32 => (fun (ri2 : Int32) (rt2 : Int32) (rb2 : Nat → Int32) (q : Int32) => [bDR g x ta o lo go tt lt mo fo ro fl9, bTown g o a pe wo tx ch jo tr dy sd f, bTape g ta ab 0 ln kd bg nx ft fb, bRi g ro rw ri2 rt2 rb2]) (u.1) (u.2.1) (u.2.2.1) (u.2.2.2)) (fun (E : String) => fun u : Int32 × Int32 × (Nat → Int32) => (fun (ri2 : Int32) (rt2 : Int32) (rb2 : Nat → Int32) => (E = "java/lang/IllegalArgumentException") ∧ (0 ≤ ri2.toInt ∧ ri2.toInt ≤ 8)) (u.1) (u.2.1) (u.2.2)) (fun u : Int32 × Int32 × (Nat → Int32) => (fun (ri2 : Int32) (rt2 : Int32) (rb2 : Nat → Int32) => [bDR g x ta o lo go tt lt mo fo ro fl9, bTown g o a pe wo tx ch jo tr dy sd f, bTape g ta ab 0 ln kd bg nx ft fb, bRi g ro rw ri2 rt2 rb2]) (u.1) (u.2.1) (u.2.2)) := by
  refine zX'.of (cc := cX11_liars) (maxL := 3) (rt := (some .int)) (by decide) rfl (Nat.le_of_ble_eq_true rfl) ?_
  intro p e s m args below meth c A ls St hr hlocks htab hin hK hT hA hP hD hS hl
  obtain ⟨hx, hb, hml, hown, hts⟩ := id St
  have hl : lv_has ls 3 [(0, .ref x), (1, .int su)] := hl
  refine lv_aload_n hx hb dX11_liars_0 rfl (lv_at hl 0 rfl) ?_
  refine va_get (D := g.1) (ci := 9) (v := .ref ta) (C := RX11) (T := TX11) (N := 10) hx hb hts izRX11 hown hK hP 0 rfl rfl 0 (by decide) (hts _ k536) (fun _ h9 => h9) rfl dX11_liars_1 ?_
  refine mcallV' (g := g) (q0 := 0) (ci := 6) (As := []) (rest := []) St hK hT hA hP hD hS hl.1 [2] [0, 1, 3] rfl rfl rfl (c_t_useUp l g ta ab sz ln kd bg nx ft fb ) (cwV 0 hts (zgL (zl4 k583 k584 k585 k277) k424) rfl rfl rfl (by decide +kernel) ⟨Nat.le_of_ble_eq_true rfl, Nat.le_of_ble_eq_true rfl⟩) rfl rfl rfl rfl (Nat.le_of_ble_eq_true rfl) dX11_liars_4 ⟨(Nat.le_of_ble_eq_true rfl), (Nat.le_of_ble_eq_true rfl)⟩ (fun _u H locs hq1 hP hD hS => ?_)
  have hP : va_P g.1 vwCl (List.flatten [bDR g x ta o lo go tt lt mo fo ro fl9, bTown g o a pe wo tx ch jo tr dy sd f, bRi g ro rw ri rt rb, bTape g ta ab 0 ln kd bg nx ft fb]) H := hP
  have hD : va_D A (List.flatten [bDR g x ta o lo go tt lt mo fo ro fl9, bTown g o a pe wo tx ch jo tr dy sd f, bRi g ro rw ri rt rb, bTape g ta ab 0 ln kd bg nx ft fb]) := hD
  refine W.widen (k := 0) (n := 0) (Nat.le_of_ble_eq_true rfl) (Nat.le_of_ble_eq_true rfl) ?_
  refine W.eq (g2 := F0 m 7 ls [.int sz]) rfl ?_
  refine lv_istore_n (lv' := [(2, .int sz), (0, .ref x), (1, .int su)]) hx hb dX11_liars_7 rfl hl (by decide) rfl (fun ls hl => ?_)
  refine lv_aload_n hx hb dX11_liars_8 rfl (lv_at hl 1 rfl) ?_
  refine lv_iload_n hx hb dX11_liars_9 rfl (lv_at hl 0 rfl) ?_
  have hL0 : (0 : Int32).toInt = 0 := by decide
  refine xcallV' (g := g) (q0 := 0) (ci := 9) (As := [.int sz]) (rest := []) St hK hT hA hP hD hS hl.1 [0, 1, 3] [2] rfl rfl rfl (c_x_needSaid l hfl g x ta o lo go tt lt mo fo ro fl9 a pe wo tx ch jo tr dy sd f ab 0 ln kd bg nx ft fb sz b_pe b_wo rf (by decide) b_sz) (cwV 1 hts (zgL (zl4 k738 k739 k740 k621) k733) rfl rfl rfl (by decide +kernel) ⟨Nat.le_of_ble_eq_true rfl, Nat.le_of_ble_eq_true rfl⟩) rfl rfl rfl rfl (Nat.le_of_ble_eq_true rfl) dX11_liars_10 ⟨(Nat.le_of_ble_eq_true rfl), (Nat.le_of_ble_eq_true rfl)⟩ (fun E ce q9 u9 H locs hpx hP hD hS hce hcv hcl => ?_) (fun _u H locs hq2 hP hD hS => ?_)
  · skip
    have hpx : (E = "java/lang/IllegalArgumentException") := hpx
    have hP : va_P g.1 vwCl (List.flatten [bRi g ro rw ri rt rb, bDR g x ta o lo go tt lt mo fo ro fl9, bTown g o a pe wo tx ch jo tr dy sd f, bTape g ta ab 0 ln kd bg nx ft fb]) H := hP
    have hD : va_D A (List.flatten [bRi g ro rw ri rt rb, bDR g x ta o lo go tt lt mo fo ro fl9, bTown g o a pe wo tx ch jo tr dy sd f, bTape g ta ab 0 ln kd bg nx ft fb]) := hD
    have hP : va_P g.1 vwCl (List.flatten [bRi g ro rw ri rt rb, bDR g x ta o lo go tt lt mo fo ro fl9, bTown g o a pe wo tx ch jo tr dy sd f, bTape g ta ab 0 ln kd bg nx ft fb]) H := hP
    have hD : va_D A (List.flatten [bRi g ro rw ri rt rb, bDR g x ta o lo go tt lt mo fo ro fl9, bTown g o a pe wo tx ch jo tr dy sd f, bTape g ta ab 0 ln kd bg nx ft fb]) := hD
    obtain ⟨hP, hD⟩ := zord (g := g) (Bs' := [bDR g x ta o lo go tt lt mo fo ro fl9, bTown g o a pe wo tx ch jo tr dy sd f, bTape g ta ab 0 ln kd bg nx ft fb, bRi g ro rw ri rt rb]) [1, 2, 3, 0] rfl rfl hP hD
    exact zout htab hlocks hS (Nat.le_of_ble_eq_true rfl) (Nat.le_of_ble_eq_true rfl) hce hcv hcl (ri, rt, rb) (show (E = "java/lang/IllegalArgumentException") ∧ (0 ≤ ri.toInt ∧ ri.toInt ≤ 8) from ⟨hpx, (show 0 ≤ ri.toInt ∧ ri.toInt ≤ 8 from b_ri)⟩) hP hD
  · skip
    replace hq2 : (0 ≤ sz.toInt ∧ sz.toInt ≤ 36) := hq2
    have hP : va_P g.1 vwCl (List.flatten [bRi g ro rw ri rt rb, bDR g x ta o lo go tt lt mo fo ro fl9, bTown g o a pe wo tx ch jo tr dy sd f, bTape g ta ab 0 ln kd bg nx ft fb]) H := hP
    have hD : va_D A (List.flatten [bRi g ro rw ri rt rb, bDR g x ta o lo go tt lt mo fo ro fl9, bTown g o a pe wo tx ch jo tr dy sd f, bTape g ta ab 0 ln kd bg nx ft fb]) := hD
    refine W.widen (k := 2) (n := 12) (Nat.le_of_ble_eq_true rfl) (Nat.le_of_ble_eq_true rfl) ?_
    refine W.eq (g2 := F0 m 13 ls []) rfl ?_
    refine lv_aload_n hx hb dX11_liars_13 rfl (lv_at hl 1 rfl) ?_
    refine va_get (D := g.1) (ci := 9) (v := .ref ro) (C := RX11) (T := TX11) (N := 10) hx hb hts izRX11 hown hK hP 2 rfl rfl 8 (by decide) (hts _ k557) (fun _ h9 => h9) rfl dX11_liars_14 ?_
    refine lv_aload_n hx hb dX11_liars_17 rfl (lv_at hl 1 rfl) ?_
    refine va_get (D := g.1) (ci := 9) (v := .ref ta) (C := RX11) (T := TX11) (N := 10) hx hb hts izRX11 hown hK hP 2 rfl rfl 0 (by decide) (hts _ k536) (fun _ h9 => h9) rfl dX11_liars_18 ?_
    refine lv_iload_n hx hb dX11_liars_21 rfl (lv_at hl 0 rfl) ?_
    refine lv_aload_n hx hb dX11_liars_22 rfl (lv_at hl 1 rfl) ?_
    refine va_get (D := g.1) (ci := 9) (v := .ref o) (C := RX11) (T := TX11) (N := 10) hx hb hts izRX11 hown hK hP 2 rfl rfl 1 (by decide) (hts _ k538) (fun _ h9 => h9) rfl dX11_liars_23 ?_
    refine va_get (D := g.1) (ci := 7) (v := .int pe) (C := RX9) (T := TX9) (N := 19) hx hb hts izRX9 hown hK hP 3 rfl rfl 0 (by decide) (hts _ k610) (fun _ h9 => h9) rfl dX11_liars_26 ?_
    refine mcallV' (g := g) (q0 := 0) (ci := 5) (As := [.ref ta, .int sz, .int pe]) (rest := []) St hK hT hA hP hD hS hl.1 [0, 3] [1, 2] rfl rfl rfl (c_r_hear l g ro rw ri rt rb ta ab 0 ln kd bg nx ft fb sz pe b_pe) (cwV 3 hts (zgL (zl4 k741 k742 k743 k389) k390) rfl rfl rfl (by decide +kernel) ⟨Nat.le_of_ble_eq_true rfl, Nat.le_of_ble_eq_true rfl⟩) rfl rfl rfl rfl (Nat.le_of_ble_eq_true rfl) dX11_liars_29 ⟨(Nat.le_of_ble_eq_true rfl), (Nat.le_of_ble_eq_true rfl)⟩ (fun u_ H locs hq6 hP hD hS => ?_)
    obtain ⟨ri2_3, rt2_4, rb2_5⟩ := u_
    replace hq6 : (0 ≤ ri2_3.toInt ∧ ri2_3.toInt ≤ 8) := hq6
    have hP : va_P g.1 vwCl (List.flatten [bDR g x ta o lo go tt lt mo fo ro fl9, bTown g o a pe wo tx ch jo tr dy sd f, bRi g ro rw ri2_3 rt2_4 rb2_5, bTape g ta ab 0 ln kd bg nx ft fb]) H := hP
    have hD : va_D A (List.flatten [bDR g x ta o lo go tt lt mo fo ro fl9, bTown g o a pe wo tx ch jo tr dy sd f, bRi g ro rw ri2_3 rt2_4 rb2_5, bTape g ta ab 0 ln kd bg nx ft fb]) := hD
    refine W.widen (k := 2) (n := 12) (Nat.le_of_ble_eq_true rfl) (Nat.le_of_ble_eq_true rfl) ?_
    refine W.eq (g2 := F0 m 32 ls []) rfl ?_
    refine lv_iload_n hx hb dX11_liars_32 rfl (lv_at hl 2 rfl) ?_
    refine lv_if_eq (tgt := 46) hx hb dX11_liars_33 (by decide) (fun cb9 => ?_) (fun cb9 => ?_)
    · skip
      have c7 : su.toInt = 0 := zeq cb9 rfl (by decide)
      have n8 : 0 ≤ su.toInt := Int.le_trans (Int.le_refl _) (Int.le_of_eq c7.symm)
      have n9 : su.toInt ≤ 0 := Int.le_trans (Int.le_of_eq c7) (Int.le_refl _)
      refine lv_aload_n hx hb dX11_liars_46 rfl (lv_at hl 1 rfl) ?_
      refine va_get (D := g.1) (ci := 9) (v := .ref ro) (C := RX11) (T := TX11) (N := 10) hx hb hts izRX11 hown hK hP 0 rfl rfl 8 (by decide) (hts _ k557) (fun _ h9 => h9) rfl dX11_liars_47 ?_
      refine va_get (D := g.1) (ci := 5) (v := .int rt2_4) (C := RX5) (T := TX5) (N := 3) hx hb hts izRX5 hown hK hP 13 rfl rfl 2 (by decide) (hts _ k737) (fun _ h9 => h9) rfl dX11_liars_50 ?_
      have hP : va_P g.1 vwCl (List.flatten [bDR g x ta o lo go tt lt mo fo ro fl9, bTown g o a pe wo tx ch jo tr dy sd f, bRi g ro rw ri2_3 rt2_4 rb2_5, bTape g ta ab 0 ln kd bg nx ft fb]) H := hP
      have hD : va_D A (List.flatten [bDR g x ta o lo go tt lt mo fo ro fl9, bTown g o a pe wo tx ch jo tr dy sd f, bRi g ro rw ri2_3 rt2_4 rb2_5, bTape g ta ab 0 ln kd bg nx ft fb]) := hD
      obtain ⟨hP, hD⟩ := zord (g := g) (Bs' := [bDR g x ta o lo go tt lt mo fo ro fl9, bTown g o a pe wo tx ch jo tr dy sd f, bTape g ta ab 0 ln kd bg nx ft fb, bRi g ro rw ri2_3 rt2_4 rb2_5]) [0, 1, 3, 2] rfl rfl hP hD
      exact zret_i hx hb hr hlocks hS (Nat.le_of_ble_eq_true rfl) (Nat.le_of_ble_eq_true rfl) dX11_liars_53 (ri2_3, rt2_4, rb2_5, rt2_4) rfl (show (0 ≤ ri2_3.toInt ∧ ri2_3.toInt ≤ 8) from hq6) hP hD
    · skip
      have c10 : ¬ su.toInt = 0 := zne cb9 rfl (by decide)
      refine lv_aload_n hx hb dX11_liars_36 rfl (lv_at hl 1 rfl) ?_
      refine va_get (D := g.1) (ci := 9) (v := .ref ro) (C := RX11) (T := TX11) (N := 10) hx hb hts izRX11 hown hK hP 0 rfl rfl 8 (by decide) (hts _ k557) (fun _ h9 => h9) rfl dX11_liars_37 ?_
      refine mcallV' (g := g) (q0 := 0) (ci := 5) (As := []) (rest := []) St hK hT hA hP hD hS hl.1 [2] [0, 1, 3] rfl rfl rfl (c_r_honestInAll l g ro rw ri2_3 rt2_4 rb2_5 hq6) (cwV 0 hts (zgL (zl4 k744 k745 k746 k389) k397) rfl rfl rfl (by decide +kernel) ⟨Nat.le_of_ble_eq_true rfl, Nat.le_of_ble_eq_true rfl⟩) rfl rfl rfl rfl (Nat.le_of_ble_eq_true rfl) dX11_liars_40 ⟨(Nat.le_of_ble_eq_true rfl), (Nat.le_of_ble_eq_true rfl)⟩ (fun q_11 H locs hq12 hP hD hS => ?_)
      have hP : va_P g.1 vwCl (List.flatten [bDR g x ta o lo go tt lt mo fo ro fl9, bTown g o a pe wo tx ch jo tr dy sd f, bTape g ta ab 0 ln kd bg nx ft fb, bRi g ro rw ri2_3 rt2_4 rb2_5]) H := hP
      have hD : va_D A (List.flatten [bDR g x ta o lo go tt lt mo fo ro fl9, bTown g o a pe wo tx ch jo tr dy sd f, bTape g ta ab 0 ln kd bg nx ft fb, bRi g ro rw ri2_3 rt2_4 rb2_5]) := hD
      refine W.widen (k := 2) (n := 12) (Nat.le_of_ble_eq_true rfl) (Nat.le_of_ble_eq_true rfl) ?_
      refine W.eq (g2 := F0 m 43 ls [.int q_11]) rfl ?_
      refine lv_goto (tgt := 53) hx hb dX11_liars_43 (by decide) ?_
      have hP : va_P g.1 vwCl (List.flatten [bDR g x ta o lo go tt lt mo fo ro fl9, bTown g o a pe wo tx ch jo tr dy sd f, bTape g ta ab 0 ln kd bg nx ft fb, bRi g ro rw ri2_3 rt2_4 rb2_5]) H := hP
      have hD : va_D A (List.flatten [bDR g x ta o lo go tt lt mo fo ro fl9, bTown g o a pe wo tx ch jo tr dy sd f, bTape g ta ab 0 ln kd bg nx ft fb, bRi g ro rw ri2_3 rt2_4 rb2_5]) := hD
      exact zret_i hx hb hr hlocks hS (Nat.le_of_ble_eq_true rfl) (Nat.le_of_ble_eq_true rfl) dX11_liars_53 (ri2_3, rt2_4, rb2_5, q_11) rfl (show (0 ≤ ri2_3.toInt ∧ ri2_3.toInt ≤ 8) from hq6) hP hD
