def bDR (g : zG) (x : Nat) (ta : Nat) (o : Nat) (lo : Nat) (go : Nat) (tt : Nat) (lt : Nat) (mo : Nat) (fo : Nat) (ro : Nat) (fl9 : Int32) : va_W := [(x, .inr (9, [.ref ta, .ref o, .ref lo, .ref go, .ref tt, .ref lt, .ref mo, .ref fo, .ref ro, .int fl9]))]
set_option maxRecDepth 20000 in
theorem hat_RX11_391_IndexOutOfBoundsExceptiona : ∀ w ∈ (vx_atS RX11 391 "java/lang/IndexOutOfBoundsException" zNm).filter goodWord, w ∈ zB := by decide +kernel
set_option maxRecDepth 20000 in
theorem hat_RX11_391_IndexOutOfBoundsExceptionb : ∀ w ∈ (vx_atS RX11 391 "java/lang/IndexOutOfBoundsException" zNm).filter (fun w => !goodWord w), w ∈ zBad "java/lang/IndexOutOfBoundsException" := by decide +kernel
set_option maxRecDepth 20000 in
theorem hat_RX11_391_IndexOutOfBoundsExceptionc : ∀ w ∈ Cond.classLink RX11 387 "java/lang/IndexOutOfBoundsException" :: Cond.initialized "java/lang/IndexOutOfBoundsException" :: vx_atS RX11 391 "java/lang/IndexOutOfBoundsException" zNm, vx_ot w = true := by decide +kernel
set_option maxRecDepth 100000 in
set_option maxHeartbeats 4000000 in
theorem c_x_needPerson (l : Launch) (hfl : l.stackTraces = false) (g : zG) (x : Nat) (ta : Nat) (o : Nat) (lo : Nat) (go : Nat) (tt : Nat) (lt : Nat) (mo : Nat) (fo : Nat) (ro : Nat) (fl9 : Int32) (a : Nat → Nat) (pe : Int32) (wo : Int32) (tx : Int32) (ch : Int32) (jo : Int32) (tr : Int32) (dy : Int32) (sd : Int32) (f : Nat → Nat → Int32) (pp : Int32) (b_pe : 0 ≤ pe.toInt ∧ pe.toInt ≤ 8) (b_wo : 0 ≤ wo.toInt ∧ wo.toInt ≤ 6) (rf : zZ4 f) : zX' g l yX11_needPerson (Cond.code yX11_needPerson cX11_needPerson 2 none :: zB) ({ frames := 6, cells := 1, slots := 6, locals := 82 } : Room) [.ref x, .int pp] [bDR g x ta o lo go tt lt mo fo ro fl9, bTown g o a pe wo tx ch jo tr dy sd f] (fun _ : Unit => none) (fun _ : Unit => (0 ≤ pp.toInt ∧ pp.toInt ≤ 7) ∧ (pp.toInt < pe.toInt)) (fun _ : Unit => [bDR g x ta o lo go tt lt mo fo ro fl9, bTown g o a pe wo tx ch jo tr dy sd f]) (fun (E : String) (_ : Unit) => (E = "java/lang/IndexOutOfBoundsException")) (fun _ : Unit => [bDR g x ta o lo go tt lt mo fo ro fl9, bTown g o a pe wo tx ch jo tr dy sd f]) := by
  refine zX'.of (cc := cX11_needPerson) (maxL := 2) (rt := none) (by decide) rfl (Nat.le_of_ble_eq_true rfl) ?_
  intro p e s m args below meth c A ls St hr hlocks htab hin hK hT hA hP hD hS hl
  obtain ⟨hx, hb, hml, hown, hts⟩ := id St
  have hl : lv_has ls 2 [(0, .ref x), (1, .int pp)] := hl
  refine lv_iload_n hx hb dX11_needPerson_0 rfl (lv_at hl 1 rfl) ?_
  refine lv_if_lt (tgt := 15) hx hb dX11_needPerson_1 (by decide) (fun cb9 => ?_) (fun cb9 => ?_)
  · skip
    have c1 : pp.toInt < 0 := zlti cb9 rfl (by decide)
    have n2 : pp.toInt ≤ (-1) := zL1 (b := 0) c1 (Int.le_refl _) (by decide)
    obtain ⟨sa3, hsa3⟩ := hT.1.2.2.1 _ (List.mem_of_getElem? (i := 6) rfl)
    exact vx_throwSW (A := A) (names := ["java/lang/RuntimeException", "java/lang/Exception"]) hx hb hfl hown (by decide +kernel) (by decide +kernel) (hts _ k608) (hts _ k609) hsa3 (zhat hat_RX11_391_IndexOutOfBoundsExceptiona hat_RX11_391_IndexOutOfBoundsExceptionb hts (hT.1.2.2.2.2.1 _ (List.mem_of_getElem? (i := 0) rfl))) hat_RX11_391_IndexOutOfBoundsExceptionc hT.1.1 hT.1.2.1 hS (by rw [hml]; exact hl.1) dX11_needPerson_15 dX11_needPerson_18 dX11_needPerson_19 dX11_needPerson_22 dX11_needPerson_25 (fun x hx => (htab x hx).elim) (Nat.le_of_ble_eq_true rfl) (Nat.le_of_ble_eq_true rfl) (Nat.le_of_ble_eq_true rfl) (Nat.le_of_ble_eq_true rfl) hlocks (fun t ht hz hk => ⟨⟨(), rfl, hP.kept (fun k q hq => hk q.1 (hP k q hq).lt), hD⟩, ⟨Nat.le_trans hS.1 hz, fun q h1 h2 => (hk q (Nat.lt_of_lt_of_le h1 hS.1)).trans (hS.2.1 q h1 h2)⟩⟩) hS.2.2 (Nat.le_of_ble_eq_true rfl) (Nat.le_of_ble_eq_true rfl)
  · skip
    have c4 : 0 ≤ pp.toInt := zle (Int32.not_lt.mp cb9) (by decide) rfl
    have n5 : 0 ≤ pp.toInt := Int.le_trans (Int.le_refl _) c4
    refine lv_iload_n hx hb dX11_needPerson_4 rfl (lv_at hl 1 rfl) ?_
    refine lv_aload_n hx hb dX11_needPerson_5 rfl (lv_at hl 0 rfl) ?_
    refine va_get (D := g.1) (ci := 9) (v := .ref o) (C := RX11) (T := TX11) (N := 10) hx hb hts izRX11 hown hK hP 0 rfl rfl 1 (by decide) (hts _ k538) (fun _ h9 => h9) rfl dX11_needPerson_6 ?_
    refine va_get (D := g.1) (ci := 7) (v := .int pe) (C := RX9) (T := TX9) (N := 19) hx hb hts izRX9 hown hK hP 1 rfl rfl 0 (by decide) (hts _ k610) (fun _ h9 => h9) rfl dX11_needPerson_9 ?_
    refine lv_icmp_lt (tgt := 26) hx hb dX11_needPerson_12 (by decide) (fun cb9 => ?_) (fun cb9 => ?_)
    · skip
      have c6 : pp.toInt < pe.toInt := zlti cb9 rfl rfl
      have n7 : pp.toInt ≤ 7 := zL1 (b := 8) c6 b_pe.2 (by decide)
      have n8 : 1 ≤ pe.toInt := zL2 (a := 0) c6 n5 (by decide)
      have hP : va_P g.1 vwCl (List.flatten [bDR g x ta o lo go tt lt mo fo ro fl9, bTown g o a pe wo tx ch jo tr dy sd f]) s.heap := hP
      have hD : va_D A (List.flatten [bDR g x ta o lo go tt lt mo fo ro fl9, bTown g o a pe wo tx ch jo tr dy sd f]) := hD
      exact zret_v hx hb hr hlocks hS (Nat.le_of_ble_eq_true rfl) (Nat.le_of_ble_eq_true rfl) dX11_needPerson_26 () rfl (show (0 ≤ pp.toInt ∧ pp.toInt ≤ 7) ∧ (pp.toInt < pe.toInt) from ⟨(by first | assumption | omega | decide | exact rfl | exact zb01 (by omega) | exact Or.inl (by decide) | exact Or.inr (by first | omega | decide)), (by first | assumption | omega | decide | exact rfl | exact zb01 (by omega) | exact Or.inl (by decide) | exact Or.inr (by first | omega | decide))⟩) hP hD
    · skip
      have c9 : pe.toInt ≤ pp.toInt := zle (Int32.not_lt.mp cb9) rfl rfl
      obtain ⟨sa10, hsa10⟩ := hT.1.2.2.1 _ (List.mem_of_getElem? (i := 6) rfl)
      exact vx_throwSW (A := A) (names := ["java/lang/RuntimeException", "java/lang/Exception"]) hx hb hfl hown (by decide +kernel) (by decide +kernel) (hts _ k608) (hts _ k609) hsa10 (zhat hat_RX11_391_IndexOutOfBoundsExceptiona hat_RX11_391_IndexOutOfBoundsExceptionb hts (hT.1.2.2.2.2.1 _ (List.mem_of_getElem? (i := 0) rfl))) hat_RX11_391_IndexOutOfBoundsExceptionc hT.1.1 hT.1.2.1 hS (by rw [hml]; exact hl.1) dX11_needPerson_15 dX11_needPerson_18 dX11_needPerson_19 dX11_needPerson_22 dX11_needPerson_25 (fun x hx => (htab x hx).elim) (Nat.le_of_ble_eq_true rfl) (Nat.le_of_ble_eq_true rfl) (Nat.le_of_ble_eq_true rfl) (Nat.le_of_ble_eq_true rfl) hlocks (fun t ht hz hk => ⟨⟨(), rfl, hP.kept (fun k q hq => hk q.1 (hP k q hq).lt), hD⟩, ⟨Nat.le_trans hS.1 hz, fun q h1 h2 => (hk q (Nat.lt_of_lt_of_le h1 hS.1)).trans (hS.2.1 q h1 h2)⟩⟩) hS.2.2 (Nat.le_of_ble_eq_true rfl) (Nat.le_of_ble_eq_true rfl)
