set_option maxRecDepth 100000 in
set_option maxHeartbeats 4000000 in
theorem l_led (l : Launch) (hfl : l.stackTraces = false) (g : zG) (x : Nat) (ta : Nat) (o : Nat) (lo : Nat) (go : Nat) (tt : Nat) (lt : Nat) (mo : Nat) (fo : Nat) (ro : Nat) (fl9 : Int32) (a : Nat → Nat) (pe : Int32) (wo : Int32) (tx : Int32) (ch : Int32) (jo : Int32) (tr : Int32) (dy : Int32) (sd : Int32) (f : Nat → Nat → Int32) (gr : Nat) (gz : Int32) (gn : Int32) (fr : Nat → Int32) (oa : Nat) (fz : Nat → Int64) (ww : Int32) (dd : Int32) (b_pe : 0 ≤ pe.toInt ∧ pe.toInt ≤ 8) (b_wo : 0 ≤ wo.toInt ∧ wo.toInt ≤ 6) (rf : zZ4 f) (b_gz : 0 ≤ gz.toInt ∧ gz.toInt ≤ 60) (b_gn : 0 ≤ gn.toInt ∧ gn.toInt ≤ 59) : zX' g l yL_led (Cond.codeWith yL_led cL_led 5 (some .int) [(0, 10, 13, 24)] :: zB) ({ frames := 8, cells := 1, slots := 6, locals := 125 } : Room) [.ref x, .int ww, .int dd, .ref oa] [bDR g x ta o lo go tt lt mo fo ro fl9, bTown g o a pe wo tx ch jo tr dy sd f, bLog g go gr gz gn fr, bOut g oa fz] (fun u : (Nat → Int64) × Int32 => (fun (fz2 : Nat → Int64) (q : Int32) => some (.int q)) (u.1) (u.2)) (fun u : (Nat → Int64) × Int32 => (fun (fz2 : Nat → Int64) (q : Int32) => True) (u.1) (u.2)) (fun u : (Nat → Int64) × Int32 => (fun (fz2 : Nat → Int64) (q : Int32) => [bDR g x ta o lo go tt lt mo fo ro fl9, bTown g o a pe wo tx ch jo tr dy sd f, bLog g go gr gz gn fr, bOut g oa fz2]) (u.1) (u.2)) zNo zN0 := by
  refine zX'.ofH (cc := cL_led) (maxL := 5) (rt := (some .int)) (by decide) rfl (Nat.le_of_ble_eq_true rfl) ?_
  intro p e s m args below meth c A ls St hr hlocks htab hin hK hT hA hP hD hS hl
  obtain ⟨hx, hb, hml, hown, hts⟩ := id St
  have hl : lv_has ls 5 [(0, .ref x), (1, .int ww), (2, .int dd), (3, .ref oa)] := hl
  refine lv_aload_n hx hb dL_led_0 rfl (lv_at hl 3 rfl) ?_
  refine lv_iconst (v := 0) hx hb dL_led_1 (by decide) ?_
  refine lv_aload_n hx hb dL_led_2 rfl (lv_at hl 0 rfl) ?_
  refine lv_iload_n hx hb dL_led_3 rfl (lv_at hl 1 rfl) ?_
  refine lv_iload_n hx hb dL_led_4 rfl (lv_at hl 2 rfl) ?_
  refine xcallV' (g := g) (q0 := 0) (ci := 9) (As := [.int ww, .int dd]) (rest := [.int 0, .ref oa]) St hK hT hA hP hD hS hl.1 [0, 1, 2] [3] rfl rfl rfl (c_x_led l hfl g x ta o lo go tt lt mo fo ro fl9 a pe wo tx ch jo tr dy sd f gr gz gn fr ww dd b_pe b_wo rf b_gz b_gn) (cwV 2 hts (zgL (zl4 k1283 k1284 k1285 k621) k789) rfl rfl rfl (by decide +kernel) ⟨Nat.le_of_ble_eq_true rfl, Nat.le_of_ble_eq_true rfl⟩) rfl rfl rfl rfl (Nat.le_of_ble_eq_true rfl) dL_led_5 ⟨(Nat.le_of_ble_eq_true rfl), (Nat.le_of_ble_eq_true rfl)⟩ (fun E ce q9 u9 H locs hpx hP hD hS hce hcv hcl => ?_) (fun q_1 H locs hq2 hP hD hS => ?_)
  · skip
    have hpx : (E = "java/lang/IndexOutOfBoundsException") := hpx
    have hP : va_P g.1 vwCl (List.flatten [bOut g oa fz, bDR g x ta o lo go tt lt mo fo ro fl9, bTown g o a pe wo tx ch jo tr dy sd f, bLog g go gr gz gn fr]) H := hP
    have hD : va_D A (List.flatten [bOut g oa fz, bDR g x ta o lo go tt lt mo fo ro fl9, bTown g o a pe wo tx ch jo tr dy sd f, bLog g go gr gz gn fr]) := hD
    obtain rfl := hpx
    refine vx_catch hown [] ⟨0, 10, 13, 24⟩ [] (by rw [htab]; rfl) (fun z hz => absurd hz List.not_mem_nil) (by decide) (by decide) (hts _ k1164) ((hT.1.2.2.2.2.1 _ (List.mem_of_getElem? (i := 0) rfl)).use) hce hcv hcl ?_
    refine W.widen (k := 1) (n := 6) (Nat.le_of_ble_eq_true rfl) (Nat.le_of_ble_eq_true rfl) ?_
    refine lv_astore (lv' := [(4, .ref q9), (0, .ref x), (1, .int ww), (2, .int dd), (3, .ref oa)]) hx hb dL_led_13 hl (by decide) rfl (fun ls hl => ?_)
    refine lv_iconst (v := 1) hx hb dL_led_15 (by decide) ?_
    have hP : va_P g.1 vwCl (List.flatten [bOut g oa fz, bDR g x ta o lo go tt lt mo fo ro fl9, bTown g o a pe wo tx ch jo tr dy sd f, bLog g go gr gz gn fr]) H := hP
    have hD : va_D A (List.flatten [bOut g oa fz, bDR g x ta o lo go tt lt mo fo ro fl9, bTown g o a pe wo tx ch jo tr dy sd f, bLog g go gr gz gn fr]) := hD
    obtain ⟨hP, hD⟩ := zord (g := g) (Bs' := [bDR g x ta o lo go tt lt mo fo ro fl9, bTown g o a pe wo tx ch jo tr dy sd f, bLog g go gr gz gn fr, bOut g oa fz]) [1, 2, 3, 0] rfl rfl hP hD
    exact zret_i hx hb hr hlocks hS (Nat.le_of_ble_eq_true rfl) (Nat.le_of_ble_eq_true rfl) dL_led_16 (fz, (1 : Int32)) rfl trivial hP hD
  · skip
    have hP : va_P g.1 vwCl (List.flatten [bOut g oa fz, bDR g x ta o lo go tt lt mo fo ro fl9, bTown g o a pe wo tx ch jo tr dy sd f, bLog g go gr gz gn fr]) H := hP
    have hD : va_D A (List.flatten [bOut g oa fz, bDR g x ta o lo go tt lt mo fo ro fl9, bTown g o a pe wo tx ch jo tr dy sd f, bLog g go gr gz gn fr]) := hD
    refine W.widen (k := 1) (n := 6) (Nat.le_of_ble_eq_true rfl) (Nat.le_of_ble_eq_true rfl) ?_
    refine W.eq (g2 := F0 m 8 ls [.int q_1, .int 0, .ref oa]) rfl ?_
    refine lv_i2l hx hb dL_led_8 rfl (zgl (fun y3 => ?_))
    refine va_last hx hb hK hP hD hS 0 2 rfl rfl (zin rfl) dL_led_9 (fun H locs hP hD hS => ?_)
    have hP : va_P g.1 vwCl (List.flatten [[(oa, .inl (g.2 2, 1, .inr (.inl (vp_updL fz 0 y3))))], bDR g x ta o lo go tt lt mo fo ro fl9, bTown g o a pe wo tx ch jo tr dy sd f, bLog g go gr gz gn fr]) H := hP
    have hD : va_D A (List.flatten [[(oa, .inl (g.2 2, 1, .inr (.inl (vp_updL fz 0 y3))))], bDR g x ta o lo go tt lt mo fo ro fl9, bTown g o a pe wo tx ch jo tr dy sd f, bLog g go gr gz gn fr]) := hD
    refine lv_goto (tgt := 17) hx hb dL_led_10 (by decide) ?_
    refine lv_iconst (v := 0) hx hb dL_led_17 (by decide) ?_
    have hP : va_P g.1 vwCl (List.flatten [bOut g oa (vp_updL fz 0 y3), bDR g x ta o lo go tt lt mo fo ro fl9, bTown g o a pe wo tx ch jo tr dy sd f, bLog g go gr gz gn fr]) H := hP
    have hD : va_D A (List.flatten [bOut g oa (vp_updL fz 0 y3), bDR g x ta o lo go tt lt mo fo ro fl9, bTown g o a pe wo tx ch jo tr dy sd f, bLog g go gr gz gn fr]) := hD
    obtain ⟨hP, hD⟩ := zord (g := g) (Bs' := [bDR g x ta o lo go tt lt mo fo ro fl9, bTown g o a pe wo tx ch jo tr dy sd f, bLog g go gr gz gn fr, bOut g oa (vp_updL fz 0 y3)]) [1, 2, 3, 0] rfl rfl hP hD
    exact zret_i hx hb hr hlocks hS (Nat.le_of_ble_eq_true rfl) (Nat.le_of_ble_eq_true rfl) dL_led_18 (vp_updL fz 0 y3, (0 : Int32)) rfl trivial hP hD
