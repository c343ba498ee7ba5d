set_option maxRecDepth 100000 in
set_option maxHeartbeats 4000000 in
theorem l_log (l : Launch) (hfl : l.stackTraces = false) (g : zG) (x : Nat) (ta : Nat) (o : Nat) (lo : Nat) (go : Nat) (tt : Nat) (lt : Nat) (mo : Nat) (fo : Nat) (ro : Nat) (fl9 : Int32) (gr : Nat) (gz : Int32) (gn : Int32) (fr : Nat → Int32) (oa : Nat) (fz : Nat → Int64) (ago : Int32) (wh : Int32) (b_gz : 0 ≤ gz.toInt ∧ gz.toInt ≤ 60) (b_gn : 0 ≤ gn.toInt ∧ gn.toInt ≤ 59) : zX' g l yL_log (Cond.codeWith yL_log cL_log 5 (some .int) [(0, 10, 13, 26)] :: zB) ({ frames := 7, cells := 1, slots := 6, locals := 104 } : Room) [.ref x, .int ago, .int wh, .ref oa] [bDR g x ta o lo go tt lt mo fo ro fl9, bLog g go gr gz gn fr, bOut g oa fz] (fun u : (Nat → Int64) × Int32 => (fun (fz2 : Nat → Int64) (q : Int32) => some (.int q)) (u.1) (u.2)) (fun u : (Nat → Int64) × Int32 => (fun (fz2 : Nat → Int64) (q : Int32) => True) (u.1) (u.2)) (fun u : (Nat → Int64) × Int32 => (fun (fz2 : Nat → Int64) (q : Int32) => [bDR g x ta o lo go tt lt mo fo ro fl9, bLog g go gr gz gn fr, bOut g oa fz2]) (u.1) (u.2)) zNo zN0 := by
  refine zX'.ofH (cc := cL_log) (maxL := 5) (rt := (some .int)) (by decide) rfl (Nat.le_of_ble_eq_true rfl) ?_
  intro p e s m args below meth c A ls St hr hlocks htab hin hK hT hA hP hD hS hl
  obtain ⟨hx, hb, hml, hown, hts⟩ := id St
  have hl : lv_has ls 5 [(0, .ref x), (1, .int ago), (2, .int wh), (3, .ref oa)] := hl
  refine lv_aload_n hx hb dL_log_0 rfl (lv_at hl 3 rfl) ?_
  refine lv_iconst (v := 0) hx hb dL_log_1 (by decide) ?_
  refine lv_aload_n hx hb dL_log_2 rfl (lv_at hl 0 rfl) ?_
  refine lv_iload_n hx hb dL_log_3 rfl (lv_at hl 1 rfl) ?_
  refine lv_iload_n hx hb dL_log_4 rfl (lv_at hl 2 rfl) ?_
  refine xcallV' (g := g) (q0 := 0) (ci := 9) (As := [.int ago, .int wh]) (rest := [.int 0, .ref oa]) St hK hT hA hP hD hS hl.1 [0, 1] [2] rfl rfl rfl (c_x_log l hfl g x ta o lo go tt lt mo fo ro fl9 gr gz gn fr ago wh b_gz b_gn) (cwV 2 hts (zgL (zl4 k1288 k1289 k1290 k621) k790) rfl rfl rfl (by decide +kernel) ⟨Nat.le_of_ble_eq_true rfl, Nat.le_of_ble_eq_true rfl⟩) rfl rfl rfl rfl (Nat.le_of_ble_eq_true rfl) dL_log_5 ⟨(Nat.le_of_ble_eq_true rfl), (Nat.le_of_ble_eq_true rfl)⟩ (fun E ce q9 u9 H locs hpx hP hD hS hce hcv hcl => ?_) (fun q_1 H locs hq2 hP hD hS => ?_)
  · skip
    have hpx : (E = "java/util/NoSuchElementException") := hpx
    have hP : va_P g.1 vwCl (List.flatten [bOut g oa fz, bDR g x ta o lo go tt lt mo fo ro fl9, bLog g go gr gz gn fr]) H := hP
    have hD : va_D A (List.flatten [bOut g oa fz, bDR g x ta o lo go tt lt mo fo ro fl9, bLog g go gr gz gn fr]) := hD
    obtain rfl := hpx
    refine vx_catch hown [] ⟨0, 10, 13, 26⟩ [] (by rw [htab]; rfl) (fun z hz => absurd hz List.not_mem_nil) (by decide) (by decide) (hts _ k1165) ((hT.1.2.2.2.2.1 _ (List.mem_of_getElem? (i := 4) rfl)).use) hce hcv hcl ?_
    refine W.widen (k := 1) (n := 6) (Nat.le_of_ble_eq_true rfl) (Nat.le_of_ble_eq_true rfl) ?_
    refine lv_astore (lv' := [(4, .ref q9), (0, .ref x), (1, .int ago), (2, .int wh), (3, .ref oa)]) hx hb dL_log_13 hl (by decide) rfl (fun ls hl => ?_)
    refine lv_iconst (v := 1) hx hb dL_log_15 (by decide) ?_
    have hP : va_P g.1 vwCl (List.flatten [bOut g oa fz, bDR g x ta o lo go tt lt mo fo ro fl9, bLog g go gr gz gn fr]) H := hP
    have hD : va_D A (List.flatten [bOut g oa fz, bDR g x ta o lo go tt lt mo fo ro fl9, bLog g go gr gz gn fr]) := hD
    obtain ⟨hP, hD⟩ := zord (g := g) (Bs' := [bDR g x ta o lo go tt lt mo fo ro fl9, bLog g go gr gz gn fr, bOut g oa fz]) [1, 2, 0] rfl rfl hP hD
    exact zret_i hx hb hr hlocks hS (Nat.le_of_ble_eq_true rfl) (Nat.le_of_ble_eq_true rfl) dL_log_16 (fz, (1 : Int32)) rfl trivial hP hD
  · skip
    have hP : va_P g.1 vwCl (List.flatten [bOut g oa fz, bDR g x ta o lo go tt lt mo fo ro fl9, bLog g go gr gz gn fr]) H := hP
    have hD : va_D A (List.flatten [bOut g oa fz, bDR g x ta o lo go tt lt mo fo ro fl9, bLog g go gr gz gn fr]) := hD
    refine W.widen (k := 1) (n := 6) (Nat.le_of_ble_eq_true rfl) (Nat.le_of_ble_eq_true rfl) ?_
    refine W.eq (g2 := F0 m 8 ls [.int q_1, .int 0, .ref oa]) rfl ?_
    refine lv_i2l hx hb dL_log_8 rfl (zgl (fun y3 => ?_))
    refine va_last hx hb hK hP hD hS 0 2 rfl rfl (zin rfl) dL_log_9 (fun H locs hP hD hS => ?_)
    have hP : va_P g.1 vwCl (List.flatten [[(oa, .inl (g.2 2, 1, .inr (.inl (vp_updL fz 0 y3))))], bDR g x ta o lo go tt lt mo fo ro fl9, bLog g go gr gz gn fr]) H := hP
    have hD : va_D A (List.flatten [[(oa, .inl (g.2 2, 1, .inr (.inl (vp_updL fz 0 y3))))], bDR g x ta o lo go tt lt mo fo ro fl9, bLog g go gr gz gn fr]) := hD
    refine lv_goto (tgt := 17) hx hb dL_log_10 (by decide) ?_
    refine lv_iconst (v := 0) hx hb dL_log_17 (by decide) ?_
    have hP : va_P g.1 vwCl (List.flatten [bOut g oa (vp_updL fz 0 y3), bDR g x ta o lo go tt lt mo fo ro fl9, bLog g go gr gz gn fr]) H := hP
    have hD : va_D A (List.flatten [bOut g oa (vp_updL fz 0 y3), bDR g x ta o lo go tt lt mo fo ro fl9, bLog g go gr gz gn fr]) := hD
    obtain ⟨hP, hD⟩ := zord (g := g) (Bs' := [bDR g x ta o lo go tt lt mo fo ro fl9, bLog g go gr gz gn fr, bOut g oa (vp_updL fz 0 y3)]) [1, 2, 0] rfl rfl hP hD
    exact zret_i hx hb hr hlocks hS (Nat.le_of_ble_eq_true rfl) (Nat.le_of_ble_eq_true rfl) dL_log_18 (vp_updL fz 0 y3, (0 : Int32)) rfl trivial hP hD
