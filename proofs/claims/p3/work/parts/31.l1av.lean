set_option maxRecDepth 100000 in
set_option maxHeartbeats 4000000 in
theorem l_river (l : Launch) (hfl : l.stackTraces = false) (g : zG) (x : Nat) (ta : Nat) (o : Nat) (lo : Nat) (go : Nat) (tt : Nat) (lt : Nat) (mo : Nat) (fo : Nat) (ro : Nat) (fl9 : Int32) (ab : Nat) (sz : Int32) (ln : Int32) (kd : Int32) (bg : Int32) (nx : Int32) (ft : Int32) (fb : Nat → Int32) (oa : Nat) (fz : Nat → Int64) (r9 : Int32) (b_sz : 0 ≤ sz.toInt ∧ sz.toInt ≤ 400) : zX' g l yL_river (Cond.codeWith yL_river cL_river 4 (some .int) [(0, 9, 12, 13)] :: zB) ({ frames := 9, cells := 3, slots := 18, locals := 149 } : Room) [.ref x, .int r9, .ref oa] [bDR g x ta o lo go tt lt mo fo ro fl9, bTape g ta ab sz ln kd bg nx ft fb, bOut g oa fz] (fun u : (Nat → Int64) × Int32 => (fun (fz2 : Nat → Int64) (q : Int32) => some (.int q)) (u.1) (u.2)) (fun u : (Nat → Int64) × Int32 => (fun (fz2 : Nat → Int64) (q : Int32) => True) (u.1) (u.2)) (fun u : (Nat → Int64) × Int32 => (fun (fz2 : Nat → Int64) (q : Int32) => [bDR g x ta o lo go tt lt mo fo ro fl9, bTape g ta ab 0 ln kd bg nx ft fb, bOut g oa fz2]) (u.1) (u.2)) zNo zN0 := by
  refine zX'.ofH (cc := cL_river) (maxL := 4) (rt := (some .int)) (by decide) rfl (Nat.le_of_ble_eq_true rfl) ?_
  intro p e s m args below meth c A ls St hr hlocks htab hin hK hT hA hP hD hS hl
  obtain ⟨hx, hb, hml, hown, hts⟩ := id St
  have hl : lv_has ls 4 [(0, .ref x), (1, .int r9), (2, .ref oa)] := hl
  refine lv_aload_n hx hb dL_river_0 rfl (lv_at hl 2 rfl) ?_
  refine lv_iconst (v := 0) hx hb dL_river_1 (by decide) ?_
  refine lv_aload_n hx hb dL_river_2 rfl (lv_at hl 0 rfl) ?_
  refine lv_iload_n hx hb dL_river_3 rfl (lv_at hl 1 rfl) ?_
  refine xcallV' (g := g) (q0 := 0) (ci := 9) (As := [.int r9]) (rest := [.int 0, .ref oa]) St hK hT hA hP hD hS hl.1 [0, 1] [2] rfl rfl rfl (c_x_river l hfl g x ta o lo go tt lt mo fo ro fl9 ab sz ln kd bg nx ft fb r9 b_sz) (cwV 1 hts (zgL (zl4 k1243 k1244 k1245 k621) k729) rfl rfl rfl (by decide +kernel) ⟨Nat.le_of_ble_eq_true rfl, Nat.le_of_ble_eq_true rfl⟩) rfl rfl rfl rfl (Nat.le_of_ble_eq_true rfl) dL_river_4 ⟨(Nat.le_of_ble_eq_true rfl), (Nat.le_of_ble_eq_true rfl)⟩ (fun E ce q9 u9 H locs hpx hP hD hS hce hcv hcl => ?_) (fun q_1 H locs hq2 hP hD hS => ?_)
  · skip
    have hpx : (E = "java/lang/IllegalArgumentException") := hpx
    have hP : va_P g.1 vwCl (List.flatten [bOut g oa fz, bDR g x ta o lo go tt lt mo fo ro fl9, bTape g ta ab 0 ln kd bg nx ft fb]) H := hP
    have hD : va_D A (List.flatten [bOut g oa fz, bDR g x ta o lo go tt lt mo fo ro fl9, bTape g ta ab 0 ln kd bg nx ft fb]) := hD
    obtain rfl := hpx
    refine vx_catch hown [] ⟨0, 9, 12, 13⟩ [] (by rw [htab]; rfl) (fun z hz => absurd hz List.not_mem_nil) (by decide) (by decide) (hts _ k1154) ((hT.1.2.2.2.2.1 _ (List.mem_of_getElem? (i := 1) rfl)).use) hce hcv hcl ?_
    refine W.widen (k := 3) (n := 18) (Nat.le_of_ble_eq_true rfl) (Nat.le_of_ble_eq_true rfl) ?_
    refine lv_astore_n (lv' := [(3, .ref q9), (0, .ref x), (1, .int r9), (2, .ref oa)]) hx hb dL_river_12 rfl hl (by decide) rfl (fun ls hl => ?_)
    refine lv_iconst (v := 1) hx hb dL_river_13 (by decide) ?_
    have hP : va_P g.1 vwCl (List.flatten [bOut g oa fz, bDR g x ta o lo go tt lt mo fo ro fl9, bTape g ta ab 0 ln kd bg nx ft fb]) H := hP
    have hD : va_D A (List.flatten [bOut g oa fz, bDR g x ta o lo go tt lt mo fo ro fl9, bTape g ta ab 0 ln kd bg nx ft fb]) := hD
    obtain ⟨hP, hD⟩ := zord (g := g) (Bs' := [bDR g x ta o lo go tt lt mo fo ro fl9, bTape g ta ab 0 ln kd bg nx ft fb, bOut g oa fz]) [1, 2, 0] rfl rfl hP hD
    exact zret_i hx hb hr hlocks hS (Nat.le_of_ble_eq_true rfl) (Nat.le_of_ble_eq_true rfl) dL_river_14 (fz, (1 : Int32)) rfl trivial hP hD
  · skip
    have hP : va_P g.1 vwCl (List.flatten [bOut g oa fz, bDR g x ta o lo go tt lt mo fo ro fl9, bTape g ta ab 0 ln kd bg nx ft fb]) H := hP
    have hD : va_D A (List.flatten [bOut g oa fz, bDR g x ta o lo go tt lt mo fo ro fl9, bTape g ta ab 0 ln kd bg nx ft fb]) := hD
    refine W.widen (k := 3) (n := 18) (Nat.le_of_ble_eq_true rfl) (Nat.le_of_ble_eq_true rfl) ?_
    refine W.eq (g2 := F0 m 7 ls [.int q_1, .int 0, .ref oa]) rfl ?_
    refine lv_i2l hx hb dL_river_7 rfl (zgl (fun y3 => ?_))
    refine va_last hx hb hK hP hD hS 0 2 rfl rfl (zin rfl) dL_river_8 (fun H locs hP hD hS => ?_)
    have hP : va_P g.1 vwCl (List.flatten [[(oa, .inl (g.2 2, 1, .inr (.inl (vp_updL fz 0 y3))))], bDR g x ta o lo go tt lt mo fo ro fl9, bTape g ta ab 0 ln kd bg nx ft fb]) H := hP
    have hD : va_D A (List.flatten [[(oa, .inl (g.2 2, 1, .inr (.inl (vp_updL fz 0 y3))))], bDR g x ta o lo go tt lt mo fo ro fl9, bTape g ta ab 0 ln kd bg nx ft fb]) := hD
    refine lv_goto (tgt := 15) hx hb dL_river_9 (by decide) ?_
    refine lv_iconst (v := 0) hx hb dL_river_15 (by decide) ?_
    have hP : va_P g.1 vwCl (List.flatten [bOut g oa (vp_updL fz 0 y3), bDR g x ta o lo go tt lt mo fo ro fl9, bTape g ta ab 0 ln kd bg nx ft fb]) H := hP
    have hD : va_D A (List.flatten [bOut g oa (vp_updL fz 0 y3), bDR g x ta o lo go tt lt mo fo ro fl9, bTape g ta ab 0 ln kd bg nx ft fb]) := hD
    obtain ⟨hP, hD⟩ := zord (g := g) (Bs' := [bDR g x ta o lo go tt lt mo fo ro fl9, bTape g ta ab 0 ln kd bg nx ft fb, bOut g oa (vp_updL fz 0 y3)]) [1, 2, 0] rfl rfl hP hD
    exact zret_i hx hb hr hlocks hS (Nat.le_of_ble_eq_true rfl) (Nat.le_of_ble_eq_true rfl) dL_river_16 (vp_updL fz 0 y3, (0 : Int32)) rfl trivial hP hD
