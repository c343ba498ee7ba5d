theorem zlt34 {n : Int32} (h : n < 4) : ¬ 3 < n := by
  intro q
  have h1 := Int32.lt_iff_toInt_lt.mp h
  have h2 := Int32.lt_iff_toInt_lt.mp q
  have e1 : (4 : Int32).toInt = 4 := by decide
  have e2 : (3 : Int32).toInt = 3 := by decide
  omega
theorem zlt43 {n : Int32} (h : ¬ n < 4) : 3 < n := by
  have h1 : ¬ n.toInt < (4 : Int32).toInt := fun q => h (Int32.lt_iff_toInt_lt.mpr q)
  have e1 : (4 : Int32).toInt = 4 := by decide
  have e2 : (3 : Int32).toInt = 3 := by decide
  exact Int32.lt_iff_toInt_lt.mpr (by omega)
set_option maxRecDepth 100000 in
set_option maxHeartbeats 4000000 in
theorem c_log (l : Launch) (hfl : l.stackTraces = false) (g : zG) (x : Nat) (ta : Nat) (o : Nat) (lo : Nat) (go : Nat) (tt : Nat) (lt : Nat) (mo : Nat) (fo : Nat) (ro : Nat) (fl9 : Int32) (a : Nat → Nat) (tx : Int32) (ch : Int32) (jo : Int32) (tr : Int32) (dy : Int32) (sd : Int32) (f : Nat → Nat → Int32) (ar : Nat) (gn : Int32) (fr : Nat → Int32) (n1 : Int32) (n : Int32)  : zX g l yX11_log (Cond.code yX11_log cX11_log 3 (some .int) :: zB) ({ frames := 6, cells := 1, slots := 6, locals := 82 } : Room) [.ref x, .int n1, .int n] [bDR g x ta o lo go tt lt mo fo ro fl9, bTown g o a 0 0 tx ch jo tr dy sd f, bLog g go ar 0 gn fr] (fun _ : Unit => some (.int (-1))) (fun _ : Unit => ¬ n < 0 ∧ ¬ 3 < n) (fun _ : Unit => []) (fun (E : String) (_ : Unit) => E = "java/util/NoSuchElementException" ∧ (n < 0 ∨ 3 < n)) (fun _ : Unit => []) := by
  refine zX.of (cc := cX11_log) (maxL := 3) (rt := (some .int)) (by decide) rfl (Nat.le_of_ble_eq_true rfl) ?_
  intro p e s m args below meth c A ls St hr hlocks htab hin hK hT hA hP hD hS hl
  obtain ⟨hx, hb, hml, hown, hts⟩ := id St
  have hl : lv_has ls 3 [(0, .ref x), (1, .int n1), (2, .int n)] := hl
  refine lv_iload_n hx hb dX11_log_0 rfl (lv_at hl 2 rfl) ?_
  refine lv_if_lt (tgt := 9) hx hb dX11_log_1 (by decide) (fun cA => ?_) (fun cA => ?_)
  · skip
    obtain ⟨sa2, hsa2⟩ := hT.2.2.1 _ (List.mem_of_getElem? (i := 5) rfl)
    have hP : va_P g.1 vwCl (List.flatten [bDR g x ta o lo go tt lt mo fo ro fl9, bTown g o a 0 0 tx ch jo tr dy sd f, bLog g go ar 0 gn fr]) s.heap := hP
    have hD : va_D A (List.flatten [bDR g x ta o lo go tt lt mo fo ro fl9, bTown g o a 0 0 tx ch jo tr dy sd f, bLog g go ar 0 gn fr]) := hD
    obtain ⟨hP, hD⟩ := zord (g := g) (Bs' := []) [] rfl rfl hP hD
    exact nx_throw (A := A) hx hb hfl hown (hts _ k585) (hts _ k586) hsa2 (nx_hat hts (hT.2.2.2.2.1 _ (List.mem_of_getElem? (i := 4) rfl))) hT.1 hT.2.1 hS (by rw [hml]; exact hl.1) dX11_log_9 dX11_log_12 dX11_log_13 dX11_log_16 dX11_log_19 (fun x hx => (htab x hx).elim) (Nat.le_of_ble_eq_true rfl) (Nat.le_of_ble_eq_true rfl) (Nat.le_of_ble_eq_true rfl) (Nat.le_of_ble_eq_true rfl) hlocks (fun t ht hz hk => ⟨⟨(), ⟨rfl, Or.inl cA⟩, hP.kept (fun k q hq => hk q.1 (hP k q hq).lt), hD⟩, ⟨Nat.le_trans hS.1 hz, fun q h1 h2 => (hk q (Nat.lt_of_lt_of_le h1 hS.1)).trans (hS.2.1 q h1 h2)⟩⟩) hS.2.2 (Nat.le_of_ble_eq_true rfl) (Nat.le_of_ble_eq_true rfl)
  · skip
    refine lv_iload_n hx hb dX11_log_4 rfl (lv_at hl 2 rfl) ?_
    refine lv_iconst (v := 4) hx hb dX11_log_5 (by decide) ?_
    refine lv_icmp_lt (tgt := 20) hx hb dX11_log_6 (by decide) (fun cB => ?_) (fun cB => ?_)
    · skip
      refine lv_aload_n hx hb dX11_log_20 rfl (lv_at hl 0 rfl) ?_
      refine va_get (D := g.1) (ci := 9) (v := .ref go) (C := RX11) (T := TX11) (N := 10) hx hb hts izRX11 hown hK hP 0 rfl rfl 3 (by decide) (hts _ k516) (fun _ h9 => h9) rfl dX11_log_21 ?_
      refine lv_iload_n hx hb dX11_log_24 rfl (lv_at hl 1 rfl) ?_
      refine lv_iload_n hx hb dX11_log_25 rfl (lv_at hl 2 rfl) ?_
      refine mcallV (g := g) (q0 := 0) (ci := 3) (As := [.int n1, .int n]) (rest := []) St hK hT hA hP hD hS hl.1 [2] [0, 1] rfl rfl rfl (c_Log_at0 l g go ar gn fr n1 n ) (cwV 2 hts (zgL (zl4 k791 k783 k784 k121) k221) rfl rfl rfl (by decide +kernel) ⟨Nat.le_of_ble_eq_true rfl, Nat.le_of_ble_eq_true rfl⟩) rfl rfl rfl rfl (Nat.le_of_ble_eq_true rfl) dX11_log_26 ⟨(Nat.le_of_ble_eq_true rfl), (Nat.le_of_ble_eq_true rfl)⟩ (fun _u H locs hq4 hP hD hS => ?_)
      have hP : va_P g.1 vwCl (List.flatten [bDR g x ta o lo go tt lt mo fo ro fl9, bTown g o a 0 0 tx ch jo tr dy sd f, bLog g go ar 0 gn fr]) H := hP
      have hD : va_D A (List.flatten [bDR g x ta o lo go tt lt mo fo ro fl9, bTown g o a 0 0 tx ch jo tr dy sd f, bLog g go ar 0 gn fr]) := hD
      refine W.widen (k := 0) (n := 0) (Nat.le_of_ble_eq_true rfl) (Nat.le_of_ble_eq_true rfl) ?_
      refine W.eq (g2 := F0 m 29 ls [.int (-1)]) rfl ?_
      have hP : va_P g.1 vwCl (List.flatten [bDR g x ta o lo go tt lt mo fo ro fl9, bTown g o a 0 0 tx ch jo tr dy sd f, bLog g go ar 0 gn fr]) H := hP
      have hD : va_D A (List.flatten [bDR g x ta o lo go tt lt mo fo ro fl9, bTown g o a 0 0 tx ch jo tr dy sd f, bLog g go ar 0 gn fr]) := hD
      obtain ⟨hP, hD⟩ := zord (g := g) (Bs' := []) [] rfl rfl hP hD
      exact zret_i hx hb hr hlocks hS (Nat.le_of_ble_eq_true rfl) (Nat.le_of_ble_eq_true rfl) dX11_log_29 () rfl (⟨cA, zlt34 cB⟩) hP hD
    · skip
      obtain ⟨sa5, hsa5⟩ := hT.2.2.1 _ (List.mem_of_getElem? (i := 5) rfl)
      have hP : va_P g.1 vwCl (List.flatten [bDR g x ta o lo go tt lt mo fo ro fl9, bTown g o a 0 0 tx ch jo tr dy sd f, bLog g go ar 0 gn fr]) s.heap := hP
      have hD : va_D A (List.flatten [bDR g x ta o lo go tt lt mo fo ro fl9, bTown g o a 0 0 tx ch jo tr dy sd f, bLog g go ar 0 gn fr]) := hD
      obtain ⟨hP, hD⟩ := zord (g := g) (Bs' := []) [] rfl rfl hP hD
      exact nx_throw (A := A) hx hb hfl hown (hts _ k585) (hts _ k586) hsa5 (nx_hat hts (hT.2.2.2.2.1 _ (List.mem_of_getElem? (i := 4) rfl))) hT.1 hT.2.1 hS (by rw [hml]; exact hl.1) dX11_log_9 dX11_log_12 dX11_log_13 dX11_log_16 dX11_log_19 (fun x hx => (htab x hx).elim) (Nat.le_of_ble_eq_true rfl) (Nat.le_of_ble_eq_true rfl) (Nat.le_of_ble_eq_true rfl) (Nat.le_of_ble_eq_true rfl) hlocks (fun t ht hz hk => ⟨⟨(), ⟨rfl, Or.inr (zlt43 cB)⟩, hP.kept (fun k q hq => hk q.1 (hP k q hq).lt), hD⟩, ⟨Nat.le_trans hS.1 hz, fun q h1 h2 => (hk q (Nat.lt_of_lt_of_le h1 hS.1)).trans (hS.2.1 q h1 h2)⟩⟩) hS.2.2 (Nat.le_of_ble_eq_true rfl) (Nat.le_of_ble_eq_true rfl)
set_option maxRecDepth 100000 in
set_option maxHeartbeats 4000000 in
theorem l_log (l : Launch) (hfl : l.stackTraces = false) (g : zG) (x : Nat) (ta : Nat) (o : Nat) (lo : Nat) (go : Nat) (tt : Nat) (lt : Nat) (mo : Nat) (fo : Nat) (ro : Nat) (fl9 : Int32) (a : Nat → Nat) (tx : Int32) (ch : Int32) (jo : Int32) (tr : Int32) (dy : Int32) (sd : Int32) (f : Nat → Nat → Int32) (ar : Nat) (gn : Int32) (fr : Nat → Int32) (n1 : Int32) (n : Int32) (oa : Nat) (fz : Nat → Int64)  : zX g l yL_log (Cond.codeWith yL_log cL_log 5 (some .int) [(0, 10, 13, 26)] :: zB) ({ frames := 7, cells := 1, slots := 6, locals := 104 } : Room) [.ref x, .int n1, .int n, .ref oa] [bDR g x ta o lo go tt lt mo fo ro fl9, bTown g o a 0 0 tx ch jo tr dy sd f, bLog g go ar 0 gn fr, [(oa, .inl (g.2 2, 1, .inr (.inl fz)))]] (fun u : Int32 × (Nat → Int64) => (fun (r : Int32) (fz2 : Nat → Int64) => some (.int r)) (u.1) (u.2)) (fun u : Int32 × (Nat → Int64) => (fun (r : Int32) (fz2 : Nat → Int64) => (r = 1 ∧ (n < 0 ∨ 3 < n)) ∨ (r = 0 ∧ (¬ n < 0 ∧ ¬ 3 < n) ∧ fz2 0 = ((-1) : Int32).toInt64)) (u.1) (u.2)) (fun u : Int32 × (Nat → Int64) => (fun (r : Int32) (fz2 : Nat → Int64) => [[(oa, .inl (g.2 2, 1, .inr (.inl fz2)))]]) (u.1) (u.2)) zNo zN0 := by
  refine zX.ofH (cc := cL_log) (maxL := 5) (rt := (some .int)) (by decide) rfl (Nat.le_of_ble_eq_true rfl) ?_
  intro p e s m args below meth c A ls St hr hlocks htab hin hK hT hA hP hD hS hl
  obtain ⟨hx, hb, hml, hown, hts⟩ := id St
  have hl : lv_has ls 5 [(0, .ref x), (1, .int n1), (2, .int n), (3, .ref oa)] := hl
  refine lv_aload_n hx hb dL_log_0 rfl (lv_at hl 3 rfl) ?_
  refine lv_iconst (v := 0) hx hb dL_log_1 (by decide) ?_
  refine lv_aload_n hx hb dL_log_2 rfl (lv_at hl 0 rfl) ?_
  refine lv_iload_n hx hb dL_log_3 rfl (lv_at hl 1 rfl) ?_
  refine lv_iload_n hx hb dL_log_4 rfl (lv_at hl 2 rfl) ?_
  refine xcallV (g := g) (q0 := 0) (ci := 9) (As := [.int n1, .int n]) (rest := [.int 0, .ref oa]) St hK hT hA hP hD hS hl.1 [0, 1, 2] [3] rfl rfl rfl (c_log l hfl g x ta o lo go tt lt mo fo ro fl9 a tx ch jo tr dy sd f ar gn fr n1 n ) (cwV 2 hts (zgL (zl4 k1287 k1288 k1289 k595) k790) rfl rfl rfl (by decide +kernel) ⟨Nat.le_of_ble_eq_true rfl, Nat.le_of_ble_eq_true rfl⟩) rfl rfl rfl rfl (Nat.le_of_ble_eq_true rfl) dL_log_5 ⟨(Nat.le_of_ble_eq_true rfl), (Nat.le_of_ble_eq_true rfl)⟩ (fun E ce q9 u9 H locs hpx hP hD hS hce hcv hcl => ?_) (fun _u H locs hq1 hP hD hS => ?_)
  · skip
    have hpx : (fun (E : String) (_ : Unit) => E = "java/util/NoSuchElementException" ∧ (n < 0 ∨ 3 < n)) E u9 := hpx
    have hP : va_P g.1 vwCl (List.flatten [[(oa, .inl (g.2 2, 1, .inr (.inl fz)))]]) H := hP
    have hD : va_D A (List.flatten [[(oa, .inl (g.2 2, 1, .inr (.inl fz)))]]) := hD
    obtain ⟨rfl, hpy⟩ := hpx
    refine vx_catch hown [] ⟨0, 10, 13, 26⟩ [] (by rw [htab]; rfl) (fun z hz => absurd hz List.not_mem_nil) (by decide) (by decide) (hts _ k1164) ((hT.2.2.2.2.1 _ (List.mem_of_getElem? (i := 4) rfl)).use) hce hcv hcl ?_
    refine W.widen (k := 1) (n := 6) (Nat.le_of_ble_eq_true rfl) (Nat.le_of_ble_eq_true rfl) ?_
    refine lv_astore (lv' := [(4, .ref q9), (0, .ref x), (1, .int n1), (2, .int n), (3, .ref oa)]) hx hb dL_log_13 hl (by decide) rfl (fun ls hl => ?_)
    refine lv_iconst (v := 1) hx hb dL_log_15 (by decide) ?_
    have hP : va_P g.1 vwCl (List.flatten [[(oa, .inl (g.2 2, 1, .inr (.inl fz)))]]) H := hP
    have hD : va_D A (List.flatten [[(oa, .inl (g.2 2, 1, .inr (.inl fz)))]]) := hD
    exact zret_i hx hb hr hlocks hS (Nat.le_of_ble_eq_true rfl) (Nat.le_of_ble_eq_true rfl) dL_log_16 (1, fz) rfl (Or.inl ⟨rfl, hpy⟩) hP hD
  · skip
    have hq1 : ¬ n < 0 ∧ ¬ 3 < n := hq1
    have hP : va_P g.1 vwCl (List.flatten [[(oa, .inl (g.2 2, 1, .inr (.inl fz)))]]) H := hP
    have hD : va_D A (List.flatten [[(oa, .inl (g.2 2, 1, .inr (.inl fz)))]]) := hD
    refine W.widen (k := 1) (n := 6) (Nat.le_of_ble_eq_true rfl) (Nat.le_of_ble_eq_true rfl) ?_
    refine W.eq (g2 := F0 m 8 ls [.int (-1), .int 0, .ref oa]) rfl ?_
    refine lv_i2l (v := ((-1) : Int32).toInt64) hx hb dL_log_8 rfl ?_
    refine ztopl (r := (-1)) (by decide) ?_
    refine va_last hx hb hK hP hD hS 0 2 rfl rfl (zin rfl) dL_log_9 (fun H locs hP hD hS => ?_)
    have hP : va_P g.1 vwCl (List.flatten [[(oa, .inl (g.2 2, 1, .inr (.inl (vp_updL fz 0 (-1)))))]]) H := hP
    have hD : va_D A (List.flatten [[(oa, .inl (g.2 2, 1, .inr (.inl (vp_updL fz 0 (-1)))))]]) := hD
    refine lv_goto (tgt := 17) hx hb dL_log_10 (by decide) ?_
    refine lv_iconst (v := 0) hx hb dL_log_17 (by decide) ?_
    have hP : va_P g.1 vwCl (List.flatten [[(oa, .inl (g.2 2, 1, .inr (.inl (vp_updL fz 0 (-1)))))]]) H := hP
    have hD : va_D A (List.flatten [[(oa, .inl (g.2 2, 1, .inr (.inl (vp_updL fz 0 (-1)))))]]) := hD
    exact zret_i hx hb hr hlocks hS (Nat.le_of_ble_eq_true rfl) (Nat.le_of_ble_eq_true rfl) dL_log_18 (0, vp_updL fz 0 (-1)) rfl (Or.inr ⟨rfl, hq1, rfl⟩) hP hD
