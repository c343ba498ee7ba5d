set_option maxRecDepth 100000 in
set_option maxHeartbeats 4000000 in
theorem l_ask (l : Launch) (hfl : l.stackTraces = false) (g : zG) (x : Nat) (ta : Nat) (o : Nat) (lo : Nat) (go : Nat) (tt : Nat) (lt : Nat) (mo : Nat) (fo : Nat) (ro : Nat) (fl9 : Int32) (a : Nat → Nat) (pe : Int32) (wo : Int32) (tx : Int32) (ch : Int32) (jo : Int32) (tr : Int32) (dy : Int32) (sd : Int32) (f : Nat → Nat → Int32) (ab : Nat) (sz : Int32) (ln : Int32) (kd : Int32) (bg : Int32) (nx : Int32) (ft : Int32) (fb : Nat → Int32) (rw : Nat) (ri : Int32) (rt : Int32) (rb : Nat → Int32) (oa : Nat) (fz : Nat → Int64) (b_pe : 0 ≤ pe.toInt ∧ pe.toInt ≤ 8) (b_wo : 0 ≤ wo.toInt ∧ wo.toInt ≤ 6) (rf : zZ4 f) (b_sz : 0 ≤ sz.toInt ∧ sz.toInt ≤ 400) (b_ri : 0 ≤ ri.toInt ∧ ri.toInt ≤ 8) : zX' g l yL_ask (Cond.codeWith yL_ask cL_ask 3 (some .int) [(0, 8, 11, 13)] :: zB) ({ frames := 9, cells := 2, slots := 12, locals := 147 } : Room) [.ref x, .ref oa] [bDR g x ta o lo go tt lt mo fo ro fl9, bTown g o a pe wo tx ch jo tr dy sd f, bTape g ta ab sz ln kd bg nx ft fb, bRi g ro rw ri rt rb, bOut g oa fz] (fun u : Int32 × Int32 × (Nat → Int32) × (Nat → Int64) × Int32 => (fun (ri2 : Int32) (rt2 : Int32) (rb2 : Nat → Int32) (fz2 : Nat → Int64) (q : Int32) => some (.int q)) (u.1) (u.2.1) (u.2.2.1) (u.2.2.2.1) (u.2.2.2.2)) (fun u : Int32 × Int32 × (Nat → Int32) × (Nat → Int64) × Int32 => (fun (ri2 : Int32) (rt2 : Int32) (rb2 : Nat → Int32) (fz2 : Nat → Int64) (q : Int32) => (0 ≤ ri2.toInt ∧ ri2.toInt ≤ 8)) (u.1) (u.2.1) (u.2.2.1) (u.2.2.2.1) (u.2.2.2.2)) (fun u : Int32 × Int32 × (Nat → Int32) × (Nat → Int64) × Int32 => (fun (ri2 : Int32) (rt2 : Int32) (rb2 : Nat → Int32) (fz2 : Nat → Int64) (q : Int32) => [bDR g x ta o lo go tt lt mo fo ro fl9, bTown g o a pe wo tx ch jo tr dy sd f, bTape g ta ab 0 ln kd bg nx ft fb, bRi g ro rw ri2 rt2 rb2, bOut g oa fz2]) (u.1) (u.2.1) (u.2.2.1) (u.2.2.2.1) (u.2.2.2.2)) zNo zN0 := by
  refine zX'.ofH (cc := cL_ask) (maxL := 3) (rt := (some .int)) (by decide) rfl (Nat.le_of_ble_eq_true rfl) ?_
  intro p e s m args below meth c A ls St hr hlocks htab hin hK hT hA hP hD hS hl
  obtain ⟨hx, hb, hml, hown, hts⟩ := id St
  have hl : lv_has ls 3 [(0, .ref x), (1, .ref oa)] := hl
  refine lv_aload_n hx hb dL_ask_0 rfl (lv_at hl 1 rfl) ?_
  refine lv_iconst (v := 0) hx hb dL_ask_1 (by decide) ?_
  refine lv_aload_n hx hb dL_ask_2 rfl (lv_at hl 0 rfl) ?_
  refine xcallV' (g := g) (q0 := 0) (ci := 9) (As := []) (rest := [.int 0, .ref oa]) St hK hT hA hP hD hS hl.1 [0, 1, 2, 3] [4] rfl rfl rfl (c_x_ask l hfl g x ta o lo go tt lt mo fo ro fl9 a pe wo tx ch jo tr dy sd f ab sz ln kd bg nx ft fb rw ri rt rb b_pe b_wo rf b_sz b_ri) (cwV 0 hts (zgL (zl4 k1255 k1256 k1257 k621) k751) rfl rfl rfl (by decide +kernel) ⟨Nat.le_of_ble_eq_true rfl, Nat.le_of_ble_eq_true rfl⟩) rfl rfl rfl rfl (Nat.le_of_ble_eq_true rfl) dL_ask_3 ⟨(Nat.le_of_ble_eq_true rfl), (Nat.le_of_ble_eq_true rfl)⟩ (fun E ce q9 u9 H locs hpx hP hD hS hce hcv hcl => ?_) (fun u_ H locs hq5 hP hD hS => ?_)
  · skip
    obtain ⟨ri2_6, rt2_7, rb2_8⟩ := u9
    have hpx : (E = "java/lang/IllegalArgumentException") ∧ (0 ≤ ri2_6.toInt ∧ ri2_6.toInt ≤ 8) := hpx
    have hP : va_P g.1 vwCl (List.flatten [bOut g oa fz, bDR g x ta o lo go tt lt mo fo ro fl9, bTown g o a pe wo tx ch jo tr dy sd f, bTape g ta ab 0 ln kd bg nx ft fb, bRi g ro rw ri2_6 rt2_7 rb2_8]) H := hP
    have hD : va_D A (List.flatten [bOut g oa fz, bDR g x ta o lo go tt lt mo fo ro fl9, bTown g o a pe wo tx ch jo tr dy sd f, bTape g ta ab 0 ln kd bg nx ft fb, bRi g ro rw ri2_6 rt2_7 rb2_8]) := hD
    obtain ⟨hE9, hy9⟩ := hpx
    obtain rfl := hE9
    refine vx_catch hown [] ⟨0, 8, 11, 13⟩ [] (by rw [htab]; rfl) (fun z hz => absurd hz List.not_mem_nil) (by decide) (by decide) (hts _ k1154) ((hT.1.2.2.2.2.1 _ (List.mem_of_getElem? (i := 1) rfl)).use) hce hcv hcl ?_
    refine W.widen (k := 2) (n := 12) (Nat.le_of_ble_eq_true rfl) (Nat.le_of_ble_eq_true rfl) ?_
    refine lv_astore_n (lv' := [(2, .ref q9), (0, .ref x), (1, .ref oa)]) hx hb dL_ask_11 rfl hl (by decide) rfl (fun ls hl => ?_)
    refine lv_iconst (v := 1) hx hb dL_ask_12 (by decide) ?_
    have hP : va_P g.1 vwCl (List.flatten [bOut g oa fz, bDR g x ta o lo go tt lt mo fo ro fl9, bTown g o a pe wo tx ch jo tr dy sd f, bTape g ta ab 0 ln kd bg nx ft fb, bRi g ro rw ri2_6 rt2_7 rb2_8]) H := hP
    have hD : va_D A (List.flatten [bOut g oa fz, bDR g x ta o lo go tt lt mo fo ro fl9, bTown g o a pe wo tx ch jo tr dy sd f, bTape g ta ab 0 ln kd bg nx ft fb, bRi g ro rw ri2_6 rt2_7 rb2_8]) := hD
    obtain ⟨hP, hD⟩ := zord (g := g) (Bs' := [bDR g x ta o lo go tt lt mo fo ro fl9, bTown g o a pe wo tx ch jo tr dy sd f, bTape g ta ab 0 ln kd bg nx ft fb, bRi g ro rw ri2_6 rt2_7 rb2_8, bOut g oa fz]) [1, 2, 3, 4, 0] rfl rfl hP hD
    exact zret_i hx hb hr hlocks hS (Nat.le_of_ble_eq_true rfl) (Nat.le_of_ble_eq_true rfl) dL_ask_13 (ri2_6, rt2_7, rb2_8, fz, (1 : Int32)) rfl (show (0 ≤ ri2_6.toInt ∧ ri2_6.toInt ≤ 8) from hy9) hP hD
  · skip
    obtain ⟨ri2_1, rt2_2, rb2_3, q_4⟩ := u_
    replace hq5 : (0 ≤ ri2_1.toInt ∧ ri2_1.toInt ≤ 8) := hq5
    have hP : va_P g.1 vwCl (List.flatten [bOut g oa fz, bDR g x ta o lo go tt lt mo fo ro fl9, bTown g o a pe wo tx ch jo tr dy sd f, bTape g ta ab 0 ln kd bg nx ft fb, bRi g ro rw ri2_1 rt2_2 rb2_3]) H := hP
    have hD : va_D A (List.flatten [bOut g oa fz, bDR g x ta o lo go tt lt mo fo ro fl9, bTown g o a pe wo tx ch jo tr dy sd f, bTape g ta ab 0 ln kd bg nx ft fb, bRi g ro rw ri2_1 rt2_2 rb2_3]) := hD
    refine W.widen (k := 2) (n := 12) (Nat.le_of_ble_eq_true rfl) (Nat.le_of_ble_eq_true rfl) ?_
    refine W.eq (g2 := F0 m 6 ls [.int q_4, .int 0, .ref oa]) rfl ?_
    refine lv_i2l hx hb dL_ask_6 rfl (zgl (fun y10 => ?_))
    refine va_last hx hb hK hP hD hS 0 2 rfl rfl (zin rfl) dL_ask_7 (fun H locs hP hD hS => ?_)
    have hP : va_P g.1 vwCl (List.flatten [[(oa, .inl (g.2 2, 1, .inr (.inl (vp_updL fz 0 y10))))], bDR g x ta o lo go tt lt mo fo ro fl9, bTown g o a pe wo tx ch jo tr dy sd f, bTape g ta ab 0 ln kd bg nx ft fb, bRi g ro rw ri2_1 rt2_2 rb2_3]) H := hP
    have hD : va_D A (List.flatten [[(oa, .inl (g.2 2, 1, .inr (.inl (vp_updL fz 0 y10))))], bDR g x ta o lo go tt lt mo fo ro fl9, bTown g o a pe wo tx ch jo tr dy sd f, bTape g ta ab 0 ln kd bg nx ft fb, bRi g ro rw ri2_1 rt2_2 rb2_3]) := hD
    refine lv_goto (tgt := 14) hx hb dL_ask_8 (by decide) ?_
    refine lv_iconst (v := 0) hx hb dL_ask_14 (by decide) ?_
    have hP : va_P g.1 vwCl (List.flatten [bOut g oa (vp_updL fz 0 y10), bDR g x ta o lo go tt lt mo fo ro fl9, bTown g o a pe wo tx ch jo tr dy sd f, bTape g ta ab 0 ln kd bg nx ft fb, bRi g ro rw ri2_1 rt2_2 rb2_3]) H := hP
    have hD : va_D A (List.flatten [bOut g oa (vp_updL fz 0 y10), bDR g x ta o lo go tt lt mo fo ro fl9, bTown g o a pe wo tx ch jo tr dy sd f, bTape g ta ab 0 ln kd bg nx ft fb, bRi g ro rw ri2_1 rt2_2 rb2_3]) := hD
    obtain ⟨hP, hD⟩ := zord (g := g) (Bs' := [bDR g x ta o lo go tt lt mo fo ro fl9, bTown g o a pe wo tx ch jo tr dy sd f, bTape g ta ab 0 ln kd bg nx ft fb, bRi g ro rw ri2_1 rt2_2 rb2_3, bOut g oa (vp_updL fz 0 y10)]) [1, 2, 3, 4, 0] rfl rfl hP hD
    exact zret_i hx hb hr hlocks hS (Nat.le_of_ble_eq_true rfl) (Nat.le_of_ble_eq_true rfl) dL_ask_15 (ri2_1, rt2_2, rb2_3, vp_updL fz 0 y10, (0 : Int32)) rfl (show (0 ≤ ri2_1.toInt ∧ ri2_1.toInt ≤ 8) from hq5) hP hD
