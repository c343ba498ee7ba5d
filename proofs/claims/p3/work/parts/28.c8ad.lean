set_option maxRecDepth 20000 in
theorem hat_RX11_400_IllegalStateExceptiona : ∀ w ∈ (vx_atS RX11 400 "java/lang/IllegalStateException" zNm).filter goodWord, w ∈ zB := by decide +kernel
set_option maxRecDepth 20000 in
theorem hat_RX11_400_IllegalStateExceptionb : ∀ w ∈ (vx_atS RX11 400 "java/lang/IllegalStateException" zNm).filter (fun w => !goodWord w), w ∈ zBad "java/lang/IllegalStateException" := by decide +kernel
set_option maxRecDepth 20000 in
theorem hat_RX11_400_IllegalStateExceptionc : ∀ w ∈ Cond.classLink RX11 396 "java/lang/IllegalStateException" :: Cond.initialized "java/lang/IllegalStateException" :: vx_atS RX11 400 "java/lang/IllegalStateException" zNm, vx_ot w = true := by decide +kernel
set_option maxRecDepth 100000 in
set_option maxHeartbeats 4000000 in
theorem c_x_needState (l : Launch) (hfl : l.stackTraces = false) (g : zG) (x : Nat) (ta : Nat) (o : Nat) (lo : Nat) (go : Nat) (tt : Nat) (lt : Nat) (mo : Nat) (fo : Nat) (ro : Nat) (fl9 : Int32) (can : Int32)  : zX' g l yX11_needState (Cond.code yX11_needState cX11_needState 2 none :: zB) ({ frames := 6, cells := 1, slots := 6, locals := 82 } : Room) [.ref x, .int can] [bDR g x ta o lo go tt lt mo fo ro fl9] (fun _ : Unit => none) (fun _ : Unit => True) (fun _ : Unit => [bDR g x ta o lo go tt lt mo fo ro fl9]) (fun (E : String) (_ : Unit) => (E = "java/lang/IllegalStateException")) (fun _ : Unit => [bDR g x ta o lo go tt lt mo fo ro fl9]) := by
  refine zX'.of (cc := cX11_needState) (maxL := 2) (rt := none) (by decide) rfl (Nat.le_of_ble_eq_true rfl) ?_
  intro p e s m args below meth c A ls St hr hlocks htab hin hK hT hA hP hD hS hl
  obtain ⟨hx, hb, hml, hown, hts⟩ := id St
  have hl : lv_has ls 2 [(0, .ref x), (1, .int can)] := hl
  refine lv_iload_n hx hb dX11_needState_0 rfl (lv_at hl 1 rfl) ?_
  refine lv_if_ne (tgt := 15) hx hb dX11_needState_1 (by decide) (fun cb9 => ?_) (fun cb9 => ?_)
  · skip
    have c1 : ¬ can.toInt = 0 := zne cb9 rfl (by decide)
    have hP : va_P g.1 vwCl (List.flatten [bDR g x ta o lo go tt lt mo fo ro fl9]) s.heap := hP
    have hD : va_D A (List.flatten [bDR g x ta o lo go tt lt mo fo ro fl9]) := hD
    exact zret_v hx hb hr hlocks hS (Nat.le_of_ble_eq_true rfl) (Nat.le_of_ble_eq_true rfl) dX11_needState_15 () rfl trivial hP hD
  · skip
    have c2 : can.toInt = 0 := zeq cb9 rfl (by decide)
    have n3 : 0 ≤ can.toInt := Int.le_trans (Int.le_refl _) (Int.le_of_eq c2.symm)
    have n4 : can.toInt ≤ 0 := Int.le_trans (Int.le_of_eq c2) (Int.le_refl _)
    obtain ⟨sa5, hsa5⟩ := hT.1.2.2.1 _ (List.mem_of_getElem? (i := 9) rfl)
    exact vx_throwSW (A := A) (names := ["java/lang/RuntimeException", "java/lang/Exception"]) hx hb hfl hown (by decide +kernel) (by decide +kernel) (hts _ k652) (hts _ k653) hsa5 (zhat hat_RX11_400_IllegalStateExceptiona hat_RX11_400_IllegalStateExceptionb hts (hT.1.2.2.2.2.1 _ (List.mem_of_getElem? (i := 2) rfl))) hat_RX11_400_IllegalStateExceptionc hT.1.1 hT.1.2.1 hS (by rw [hml]; exact hl.1) dX11_needState_4 dX11_needState_7 dX11_needState_8 dX11_needState_11 dX11_needState_14 (fun x hx => (htab x hx).elim) (Nat.le_of_ble_eq_true rfl) (Nat.le_of_ble_eq_true rfl) (Nat.le_of_ble_eq_true rfl) (Nat.le_of_ble_eq_true rfl) hlocks (fun t ht hz hk => ⟨⟨(), rfl, hP.kept (fun k q hq => hk q.1 (hP k q hq).lt), hD⟩, ⟨Nat.le_trans hS.1 hz, fun q h1 h2 => (hk q (Nat.lt_of_lt_of_le h1 hS.1)).trans (hS.2.1 q h1 h2)⟩⟩) hS.2.2 (Nat.le_of_ble_eq_true rfl) (Nat.le_of_ble_eq_true rfl)
set_option maxRecDepth 100000 in
set_option maxHeartbeats 4000000 in
theorem c_x_needHere (l : Launch) (hfl : l.stackTraces = false) (g : zG) (x : Nat) (ta : Nat) (o : Nat) (lo : Nat) (go : Nat) (tt : Nat) (lt : Nat) (mo : Nat) (fo : Nat) (ro : Nat) (fl9 : Int32) (a : Nat → Nat) (pe : Int32) (wo : Int32) (tx : Int32) (ch : Int32) (jo : Int32) (tr : Int32) (dy : Int32) (sd : Int32) (f : Nat → Nat → Int32) (pp : Int32) (b_pe : 0 ≤ pe.toInt ∧ pe.toInt ≤ 8) (b_wo : 0 ≤ wo.toInt ∧ wo.toInt ≤ 6) (rf : zZ4 f) (b_pp : 0 ≤ pp.toInt ∧ pp.toInt ≤ 7) : zX' g l yX11_needHere (Cond.code yX11_needHere cX11_needHere 2 none :: zB) ({ frames := 7, cells := 1, slots := 6, locals := 103 } : Room) [.ref x, .int pp] [bDR g x ta o lo go tt lt mo fo ro fl9, bTown g o a pe wo tx ch jo tr dy sd f] (fun _ : Unit => none) (fun _ : Unit => True) (fun _ : Unit => [bDR g x ta o lo go tt lt mo fo ro fl9, bTown g o a pe wo tx ch jo tr dy sd f]) (fun (E : String) (_ : Unit) => (E = "java/lang/IllegalStateException")) (fun _ : Unit => [bDR g x ta o lo go tt lt mo fo ro fl9, bTown g o a pe wo tx ch jo tr dy sd f]) := by
  refine zX'.of (cc := cX11_needHere) (maxL := 2) (rt := none) (by decide) rfl (Nat.le_of_ble_eq_true rfl) ?_
  intro p e s m args below meth c A ls St hr hlocks htab hin hK hT hA hP hD hS hl
  obtain ⟨hx, hb, hml, hown, hts⟩ := id St
  have hl : lv_has ls 2 [(0, .ref x), (1, .int pp)] := hl
  refine lv_aload_n hx hb dX11_needHere_0 rfl (lv_at hl 0 rfl) ?_
  refine lv_aload_n hx hb dX11_needHere_1 rfl (lv_at hl 0 rfl) ?_
  refine va_get (D := g.1) (ci := 9) (v := .ref o) (C := RX11) (T := TX11) (N := 10) hx hb hts izRX11 hown hK hP 0 rfl rfl 1 (by decide) (hts _ k538) (fun _ h9 => h9) rfl dX11_needHere_2 ?_
  refine lv_iload_n hx hb dX11_needHere_5 rfl (lv_at hl 1 rfl) ?_
  refine mcallV' (g := g) (q0 := 0) (ci := 7) (As := [.int pp]) (rest := [.ref x]) St hK hT hA hP hD hS hl.1 [1] [0] rfl rfl rfl (c_isHere l g o a pe wo tx ch jo tr dy sd f pp b_pp) (cwV 1 hts (zgL (zl4 k655 k54 k55 k24) k51) rfl rfl rfl (by decide +kernel) ⟨Nat.le_of_ble_eq_true rfl, Nat.le_of_ble_eq_true rfl⟩) rfl rfl rfl rfl (Nat.le_of_ble_eq_true rfl) dX11_needHere_6 ⟨(Nat.le_of_ble_eq_true rfl), (Nat.le_of_ble_eq_true rfl)⟩ (fun q_1 H locs hq2 hP hD hS => ?_)
  replace hq2 : (q_1 = 0 ∨ q_1 = 1) := hq2
  have hP : va_P g.1 vwCl (List.flatten [bDR g x ta o lo go tt lt mo fo ro fl9, bTown g o a pe wo tx ch jo tr dy sd f]) H := hP
  have hD : va_D A (List.flatten [bDR g x ta o lo go tt lt mo fo ro fl9, bTown g o a pe wo tx ch jo tr dy sd f]) := hD
  refine W.widen (k := 0) (n := 0) (Nat.le_of_ble_eq_true rfl) (Nat.le_of_ble_eq_true rfl) ?_
  refine W.eq (g2 := F0 m 9 ls [.int q_1, .ref x]) rfl ?_
  rcases hq2 with rfl | rfl
  · skip
    refine xcallV' (g := g) (q0 := 0) (ci := 9) (As := [.int 0]) (rest := []) St hK hT hA hP hD hS hl.1 [0] [1] rfl rfl rfl (c_x_needState l hfl g x ta o lo go tt lt mo fo ro fl9 0 ) (cwV 1 hts (zgL (zl4 k656 k657 k658 k621) k651) rfl rfl rfl (by decide +kernel) ⟨Nat.le_of_ble_eq_true rfl, Nat.le_of_ble_eq_true rfl⟩) rfl rfl rfl rfl (Nat.le_of_ble_eq_true rfl) dX11_needHere_9 ⟨(Nat.le_of_ble_eq_true rfl), (Nat.le_of_ble_eq_true rfl)⟩ (fun E ce q9 u9 H locs hpx hP hD hS hce hcv hcl => ?_) (fun _u H locs hq3 hP hD hS => ?_)
    · skip
      have hpx : (E = "java/lang/IllegalStateException") := hpx
      have hP : va_P g.1 vwCl (List.flatten [bTown g o a pe wo tx ch jo tr dy sd f, bDR g x ta o lo go tt lt mo fo ro fl9]) H := hP
      have hD : va_D A (List.flatten [bTown g o a pe wo tx ch jo tr dy sd f, bDR g x ta o lo go tt lt mo fo ro fl9]) := hD
      have hP : va_P g.1 vwCl (List.flatten [bTown g o a pe wo tx ch jo tr dy sd f, bDR g x ta o lo go tt lt mo fo ro fl9]) H := hP
      have hD : va_D A (List.flatten [bTown g o a pe wo tx ch jo tr dy sd f, bDR g x ta o lo go tt lt mo fo ro fl9]) := hD
      obtain ⟨hP, hD⟩ := zord (g := g) (Bs' := [bDR g x ta o lo go tt lt mo fo ro fl9, bTown g o a pe wo tx ch jo tr dy sd f]) [1, 0] rfl rfl hP hD
      exact zout htab hlocks hS (Nat.le_of_ble_eq_true rfl) (Nat.le_of_ble_eq_true rfl) hce hcv hcl () (show (E = "java/lang/IllegalStateException") from hpx) hP hD
    · skip
      have hP : va_P g.1 vwCl (List.flatten [bTown g o a pe wo tx ch jo tr dy sd f, bDR g x ta o lo go tt lt mo fo ro fl9]) H := hP
      have hD : va_D A (List.flatten [bTown g o a pe wo tx ch jo tr dy sd f, bDR g x ta o lo go tt lt mo fo ro fl9]) := hD
      refine W.widen (k := 1) (n := 6) (Nat.le_of_ble_eq_true rfl) (Nat.le_of_ble_eq_true rfl) ?_
      refine W.eq (g2 := F0 m 12 ls []) rfl ?_
      have hP : va_P g.1 vwCl (List.flatten [bTown g o a pe wo tx ch jo tr dy sd f, bDR g x ta o lo go tt lt mo fo ro fl9]) H := hP
      have hD : va_D A (List.flatten [bTown g o a pe wo tx ch jo tr dy sd f, bDR g x ta o lo go tt lt mo fo ro fl9]) := hD
      obtain ⟨hP, hD⟩ := zord (g := g) (Bs' := [bDR g x ta o lo go tt lt mo fo ro fl9, bTown g o a pe wo tx ch jo tr dy sd f]) [1, 0] rfl rfl hP hD
      exact zret_v hx hb hr hlocks hS (Nat.le_of_ble_eq_true rfl) (Nat.le_of_ble_eq_true rfl) dX11_needHere_12 () rfl trivial hP hD
  · skip
    refine xcallV' (g := g) (q0 := 0) (ci := 9) (As := [.int 1]) (rest := []) St hK hT hA hP hD hS hl.1 [0] [1] rfl rfl rfl (c_x_needState l hfl g x ta o lo go tt lt mo fo ro fl9 1 ) (cwV 1 hts (zgL (zl4 k656 k657 k658 k621) k651) rfl rfl rfl (by decide +kernel) ⟨Nat.le_of_ble_eq_true rfl, Nat.le_of_ble_eq_true rfl⟩) rfl rfl rfl rfl (Nat.le_of_ble_eq_true rfl) dX11_needHere_9 ⟨(Nat.le_of_ble_eq_true rfl), (Nat.le_of_ble_eq_true rfl)⟩ (fun E ce q9 u9 H locs hpx hP hD hS hce hcv hcl => ?_) (fun _u H locs hq4 hP hD hS => ?_)
    · skip
      have hpx : (E = "java/lang/IllegalStateException") := hpx
      have hP : va_P g.1 vwCl (List.flatten [bTown g o a pe wo tx ch jo tr dy sd f, bDR g x ta o lo go tt lt mo fo ro fl9]) H := hP
      have hD : va_D A (List.flatten [bTown g o a pe wo tx ch jo tr dy sd f, bDR g x ta o lo go tt lt mo fo ro fl9]) := hD
      have hP : va_P g.1 vwCl (List.flatten [bTown g o a pe wo tx ch jo tr dy sd f, bDR g x ta o lo go tt lt mo fo ro fl9]) H := hP
      have hD : va_D A (List.flatten [bTown g o a pe wo tx ch jo tr dy sd f, bDR g x ta o lo go tt lt mo fo ro fl9]) := hD
      obtain ⟨hP, hD⟩ := zord (g := g) (Bs' := [bDR g x ta o lo go tt lt mo fo ro fl9, bTown g o a pe wo tx ch jo tr dy sd f]) [1, 0] rfl rfl hP hD
      exact zout htab hlocks hS (Nat.le_of_ble_eq_true rfl) (Nat.le_of_ble_eq_true rfl) hce hcv hcl () (show (E = "java/lang/IllegalStateException") from hpx) hP hD
    · skip
      have hP : va_P g.1 vwCl (List.flatten [bTown g o a pe wo tx ch jo tr dy sd f, bDR g x ta o lo go tt lt mo fo ro fl9]) H := hP
      have hD : va_D A (List.flatten [bTown g o a pe wo tx ch jo tr dy sd f, bDR g x ta o lo go tt lt mo fo ro fl9]) := hD
      refine W.widen (k := 1) (n := 6) (Nat.le_of_ble_eq_true rfl) (Nat.le_of_ble_eq_true rfl) ?_
      refine W.eq (g2 := F0 m 12 ls []) rfl ?_
      have hP : va_P g.1 vwCl (List.flatten [bTown g o a pe wo tx ch jo tr dy sd f, bDR g x ta o lo go tt lt mo fo ro fl9]) H := hP
      have hD : va_D A (List.flatten [bTown g o a pe wo tx ch jo tr dy sd f, bDR g x ta o lo go tt lt mo fo ro fl9]) := hD
      obtain ⟨hP, hD⟩ := zord (g := g) (Bs' := [bDR g x ta o lo go tt lt mo fo ro fl9, bTown g o a pe wo tx ch jo tr dy sd f]) [1, 0] rfl rfl hP hD
      exact zret_v hx hb hr hlocks hS (Nat.le_of_ble_eq_true rfl) (Nat.le_of_ble_eq_true rfl) dX11_needHere_12 () rfl trivial hP hD
