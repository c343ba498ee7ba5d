set_option maxRecDepth 100000 in
set_option maxHeartbeats 4000000 in
theorem c_x_nw_1_60 (l : Launch) (hfl : l.stackTraces = false) (g : zG) (x : Nat) (ta : Nat) (o : Nat) (lo : Nat) (go : Nat) (tt : Nat) (lt : Nat) (mo : Nat) (fo : Nat) (ro : Nat) (fl9 : Int32) (n : Int32)  : zX' g l yX11_needWithin (Cond.code yX11_needWithin cX11_needWithin 4 none :: zB) ({ frames := 6, cells := 1, slots := 6, locals := 82 } : Room) [.ref x, .int n, .int 1, .int 60] [bDR g x ta o lo go tt lt mo fo ro fl9] (fun _ : Unit => none) (fun _ : Unit => (1 ≤ n.toInt ∧ n.toInt ≤ 60)) (fun _ : Unit => [bDR g x ta o lo go tt lt mo fo ro fl9]) (fun (E : String) (_ : Unit) => (E = "java/lang/IllegalArgumentException")) (fun _ : Unit => [bDR g x ta o lo go tt lt mo fo ro fl9]) := by
  refine zX'.of (cc := cX11_needWithin) (maxL := 4) (rt := none) (by decide) rfl (Nat.le_of_ble_eq_true rfl) ?_
  intro p e s m args below meth c A ls St hr hlocks htab hin hK hT hA hP hD hS hl
  obtain ⟨hx, hb, hml, hown, hts⟩ := id St
  have hl : lv_has ls 4 [(0, .ref x), (1, .int n), (2, .int 1), (3, .int 60)] := hl
  refine lv_iload_n hx hb dX11_needWithin_0 rfl (lv_at hl 1 rfl) ?_
  refine lv_iload_n hx hb dX11_needWithin_1 rfl (lv_at hl 2 rfl) ?_
  refine lv_icmp_lt (tgt := 10) hx hb dX11_needWithin_2 (by decide) (fun cb9 => ?_) (fun cb9 => ?_)
  · skip
    have c1 : n.toInt < 1 := zlti cb9 rfl (by decide)
    have n2 : n.toInt ≤ 0 := zL1 (b := 1) c1 (Int.le_refl _) (by decide)
    obtain ⟨sa3, hsa3⟩ := hT.1.2.2.1 _ (List.mem_of_getElem? (i := 10) rfl)
    exact vx_throwSW (A := A) (names := ["java/lang/RuntimeException", "java/lang/Exception"]) hx hb hfl hown (by decide +kernel) (by decide +kernel) (hts _ k576) (hts _ k577) hsa3 (zhat hat_RX11_110_IllegalArgumentExceptiona hat_RX11_110_IllegalArgumentExceptionb hts (hT.1.2.2.2.2.1 _ (List.mem_of_getElem? (i := 1) rfl))) hat_RX11_110_IllegalArgumentExceptionc hT.1.1 hT.1.2.1 hS (by rw [hml]; exact hl.1) dX11_needWithin_10 dX11_needWithin_13 dX11_needWithin_14 dX11_needWithin_17 dX11_needWithin_20 (fun x hx => (htab x hx).elim) (Nat.le_of_ble_eq_true rfl) (Nat.le_of_ble_eq_true rfl) (Nat.le_of_ble_eq_true rfl) (Nat.le_of_ble_eq_true rfl) hlocks (fun t ht hz hk => ⟨⟨(), rfl, hP.kept (fun k q hq => hk q.1 (hP k q hq).lt), hD⟩, ⟨Nat.le_trans hS.1 hz, fun q h1 h2 => (hk q (Nat.lt_of_lt_of_le h1 hS.1)).trans (hS.2.1 q h1 h2)⟩⟩) hS.2.2 (Nat.le_of_ble_eq_true rfl) (Nat.le_of_ble_eq_true rfl)
  · skip
    have c4 : 1 ≤ n.toInt := zle (Int32.not_lt.mp cb9) (by decide) rfl
    have n5 : 1 ≤ n.toInt := Int.le_trans (Int.le_refl _) c4
    refine lv_iload_n hx hb dX11_needWithin_5 rfl (lv_at hl 1 rfl) ?_
    refine lv_iload_n hx hb dX11_needWithin_6 rfl (lv_at hl 3 rfl) ?_
    refine lv_icmp_le (tgt := 21) hx hb dX11_needWithin_7 (by decide) (fun cb9 => ?_) (fun cb9 => ?_)
    · skip
      have c6 : n.toInt ≤ 60 := zle cb9 rfl (by decide)
      have n7 : n.toInt ≤ 60 := Int.le_trans c6 (Int.le_refl _)
      have hP : va_P g.1 vwCl (List.flatten [bDR g x ta o lo go tt lt mo fo ro fl9]) s.heap := hP
      have hD : va_D A (List.flatten [bDR g x ta o lo go tt lt mo fo ro fl9]) := hD
      exact zret_v hx hb hr hlocks hS (Nat.le_of_ble_eq_true rfl) (Nat.le_of_ble_eq_true rfl) dX11_needWithin_21 () rfl (show (1 ≤ n.toInt ∧ n.toInt ≤ 60) from (by first | assumption | omega | decide | exact rfl | exact zb01 (by omega) | exact Or.inl (by decide) | exact Or.inr (by first | omega | decide))) hP hD
    · skip
      have c8 : 60 < n.toInt := zlti (Int32.not_le.mp cb9) (by decide) rfl
      have n9 : 61 ≤ n.toInt := zL2 (a := 60) c8 (Int.le_refl _) (by decide)
      obtain ⟨sa10, hsa10⟩ := hT.1.2.2.1 _ (List.mem_of_getElem? (i := 10) rfl)
      exact vx_throwSW (A := A) (names := ["java/lang/RuntimeException", "java/lang/Exception"]) hx hb hfl hown (by decide +kernel) (by decide +kernel) (hts _ k576) (hts _ k577) hsa10 (zhat hat_RX11_110_IllegalArgumentExceptiona hat_RX11_110_IllegalArgumentExceptionb hts (hT.1.2.2.2.2.1 _ (List.mem_of_getElem? (i := 1) rfl))) hat_RX11_110_IllegalArgumentExceptionc hT.1.1 hT.1.2.1 hS (by rw [hml]; exact hl.1) dX11_needWithin_10 dX11_needWithin_13 dX11_needWithin_14 dX11_needWithin_17 dX11_needWithin_20 (fun x hx => (htab x hx).elim) (Nat.le_of_ble_eq_true rfl) (Nat.le_of_ble_eq_true rfl) (Nat.le_of_ble_eq_true rfl) (Nat.le_of_ble_eq_true rfl) hlocks (fun t ht hz hk => ⟨⟨(), rfl, hP.kept (fun k q hq => hk q.1 (hP k q hq).lt), hD⟩, ⟨Nat.le_trans hS.1 hz, fun q h1 h2 => (hk q (Nat.lt_of_lt_of_le h1 hS.1)).trans (hS.2.1 q h1 h2)⟩⟩) hS.2.2 (Nat.le_of_ble_eq_true rfl) (Nat.le_of_ble_eq_true rfl)
