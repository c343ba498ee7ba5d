set_option maxRecDepth 100000 in
set_option maxHeartbeats 4000000 in
theorem c_x_log (l : Launch) (hfl : l.stackTraces = false) (g : zG) (x : Nat) (ta : Nat) (o : Nat) (lo : Nat) (go : Nat) (tt : Nat) (lt : Nat) (mo : Nat) (fo : Nat) (ro : Nat) (fl9 : Int32) (gr : Nat) (gz : Int32) (gn : Int32) (fr : Nat → Int32) (ago : Int32) (wh : Int32) (b_gz : 0 ≤ gz.toInt ∧ gz.toInt ≤ 60) (b_gn : 0 ≤ gn.toInt ∧ gn.toInt ≤ 59) : zX' g l yX11_log (Cond.code yX11_log cX11_log 3 (some .int) :: zB) ({ frames := 6, cells := 1, slots := 6, locals := 82 } : Room) [.ref x, .int ago, .int wh] [bDR g x ta o lo go tt lt mo fo ro fl9, bLog g go gr gz gn fr] (fun (q : Int32) => some (.int q)) (fun (q : Int32) => True) (fun (q : Int32) => [bDR g x ta o lo go tt lt mo fo ro fl9, bLog g go gr gz gn fr]) (fun (E : String) (_ : Unit) => (E = "java/util/NoSuchElementException")) (fun _ : Unit => [bDR g x ta o lo go tt lt mo fo ro fl9, bLog g go gr gz gn fr]) := by
  refine zX'.of (cc := cX11_log) (maxL := 3) (rt := (some .int)) (by decide) rfl (Nat.le_of_ble_eq_true rfl) ?_
  intro p e s m args below meth c A ls St hr hlocks htab hin hK hT hA hP hD hS hl
  obtain ⟨hx, hb, hml, hown, hts⟩ := id St
  have hl : lv_has ls 3 [(0, .ref x), (1, .int ago), (2, .int wh)] := hl
  refine lv_iload_n hx hb dX11_log_0 rfl (lv_at hl 2 rfl) ?_
  refine lv_if_lt (tgt := 9) hx hb dX11_log_1 (by decide) (fun cb9 => ?_) (fun cb9 => ?_)
  · skip
    have c1 : wh.toInt < 0 := zlti cb9 rfl (by decide)
    have n2 : wh.toInt ≤ (-1) := zL1 (b := 0) c1 (Int.le_refl _) (by decide)
    obtain ⟨sa3, hsa3⟩ := hT.1.2.2.1 _ (List.mem_of_getElem? (i := 5) rfl)
    exact nx_throw (A := A) hx hb hfl hown (hts _ k611) (hts _ k612) hsa3 (nx_hat hts (hT.1.2.2.2.2.1 _ (List.mem_of_getElem? (i := 4) rfl))) hT.1.1 hT.1.2.1 hS (by rw [hml]; exact hl.1) dX11_log_9 dX11_log_12 dX11_log_13 dX11_log_16 dX11_log_19 (fun x hx => (htab x hx).elim) (Nat.le_of_ble_eq_true rfl) (Nat.le_of_ble_eq_true rfl) (Nat.le_of_ble_eq_true rfl) (Nat.le_of_ble_eq_true rfl) hlocks (fun t ht hz hk => ⟨⟨(), rfl, hP.kept (fun k q hq => hk q.1 (hP k q hq).lt), hD⟩, ⟨Nat.le_trans hS.1 hz, fun q h1 h2 => (hk q (Nat.lt_of_lt_of_le h1 hS.1)).trans (hS.2.1 q h1 h2)⟩⟩) hS.2.2 (Nat.le_of_ble_eq_true rfl) (Nat.le_of_ble_eq_true rfl)
  · skip
    have c4 : 0 ≤ wh.toInt := zle (Int32.not_lt.mp cb9) (by decide) rfl
    have n5 : 0 ≤ wh.toInt := Int.le_trans (Int.le_refl _) c4
    refine lv_iload_n hx hb dX11_log_4 rfl (lv_at hl 2 rfl) ?_
    refine lv_iconst (v := 4) hx hb dX11_log_5 (by decide) ?_
    refine lv_icmp_lt (tgt := 20) hx hb dX11_log_6 (by decide) (fun cb9 => ?_) (fun cb9 => ?_)
    · skip
      have c6 : wh.toInt < 4 := zlti cb9 rfl (by decide)
      have n7 : wh.toInt ≤ 3 := zL1 (b := 4) c6 (Int.le_refl _) (by decide)
      refine lv_aload_n hx hb dX11_log_20 rfl (lv_at hl 0 rfl) ?_
      refine va_get (D := g.1) (ci := 9) (v := .ref go) (C := RX11) (T := TX11) (N := 10) hx hb hts izRX11 hown hK hP 0 rfl rfl 3 (by decide) (hts _ k542) (fun _ h9 => h9) rfl dX11_log_21 ?_
      refine lv_iload_n hx hb dX11_log_24 rfl (lv_at hl 1 rfl) ?_
      refine lv_iload_n hx hb dX11_log_25 rfl (lv_at hl 2 rfl) ?_
      refine mcallV' (g := g) (q0 := 0) (ci := 3) (As := [.int ago, .int wh]) (rest := []) St hK hT hA hP hD hS hl.1 [1] [0] rfl rfl rfl (c_g_at l g go gr gz gn fr ago wh b_gz b_gn (⟨n5, n7⟩)) (cwV 2 hts (zgL (zl4 k791 k340 k341 k123) k334) rfl rfl rfl (by decide +kernel) ⟨Nat.le_of_ble_eq_true rfl, Nat.le_of_ble_eq_true rfl⟩) rfl rfl rfl rfl (Nat.le_of_ble_eq_true rfl) dX11_log_26 ⟨(Nat.le_of_ble_eq_true rfl), (Nat.le_of_ble_eq_true rfl)⟩ (fun q_8 H locs hq9 hP hD hS => ?_)
      have hP : va_P g.1 vwCl (List.flatten [bDR g x ta o lo go tt lt mo fo ro fl9, bLog g go gr gz gn fr]) H := hP
      have hD : va_D A (List.flatten [bDR g x ta o lo go tt lt mo fo ro fl9, bLog g go gr gz gn fr]) := hD
      refine W.widen (k := 0) (n := 0) (Nat.le_of_ble_eq_true rfl) (Nat.le_of_ble_eq_true rfl) ?_
      refine W.eq (g2 := F0 m 29 ls [.int q_8]) rfl ?_
      have hP : va_P g.1 vwCl (List.flatten [bDR g x ta o lo go tt lt mo fo ro fl9, bLog g go gr gz gn fr]) H := hP
      have hD : va_D A (List.flatten [bDR g x ta o lo go tt lt mo fo ro fl9, bLog g go gr gz gn fr]) := hD
      exact zret_i hx hb hr hlocks hS (Nat.le_of_ble_eq_true rfl) (Nat.le_of_ble_eq_true rfl) dX11_log_29 (q_8) rfl trivial hP hD
    · skip
      have c10 : 4 ≤ wh.toInt := zle (Int32.not_lt.mp cb9) (by decide) rfl
      have n11 : 4 ≤ wh.toInt := Int.le_trans (Int.le_refl _) c10
      obtain ⟨sa12, hsa12⟩ := hT.1.2.2.1 _ (List.mem_of_getElem? (i := 5) rfl)
      exact nx_throw (A := A) hx hb hfl hown (hts _ k611) (hts _ k612) hsa12 (nx_hat hts (hT.1.2.2.2.2.1 _ (List.mem_of_getElem? (i := 4) rfl))) hT.1.1 hT.1.2.1 hS (by rw [hml]; exact hl.1) dX11_log_9 dX11_log_12 dX11_log_13 dX11_log_16 dX11_log_19 (fun x hx => (htab x hx).elim) (Nat.le_of_ble_eq_true rfl) (Nat.le_of_ble_eq_true rfl) (Nat.le_of_ble_eq_true rfl) (Nat.le_of_ble_eq_true rfl) hlocks (fun t ht hz hk => ⟨⟨(), rfl, hP.kept (fun k q hq => hk q.1 (hP k q hq).lt), hD⟩, ⟨Nat.le_trans hS.1 hz, fun q h1 h2 => (hk q (Nat.lt_of_lt_of_le h1 hS.1)).trans (hS.2.1 q h1 h2)⟩⟩) hS.2.2 (Nat.le_of_ble_eq_true rfl) (Nat.le_of_ble_eq_true rfl)
