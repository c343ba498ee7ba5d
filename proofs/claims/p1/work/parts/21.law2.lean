theorem lg_self (x : Int64) : lg_cmp x x = 0 := by simp [lg_cmp]
set_option maxRecDepth 100000 in
set_option maxHeartbeats 4000000 in
/-- the law: feed -/
theorem w_0 {p : Program} {e : Env} {s : State} {m : MethodId} {below : List Frame} {meth : Method} {c : Code} (l : Launch) (hfl : l.stackTraces = false) (g : zG) {b : Nat} {xs : Nat → Int32} {A : Nat → Prop} (hAe : A = fun q => s.heap.size ≤ q) (hA : ∀ q, s.heap.size ≤ q → A q) (hbA : ¬ A b) (St : CallFix p m c cL_law_ 7 s #[Value.ref b] zB RL) (hr : meth.sig.returnType = ret) (hlocks : meth.locks = false) (hX : va_X b 6 xs s s.heap) (hbl : b < s.heap.size) (hK : zK g s) (hT : zTh A s) (x : Nat) (ta : Nat) (o : Nat) (lo : Nat) (go : Nat) (tt : Nat) (lt : Nat) (mo : Nat) (fo : Nat) (ro : Nat) (ab : Nat) (ac : Nat) (ar : Nat) (td : Nat) (a : Nat → Nat) (tda : Nat → Nat) (ldr : Nat) (lda : Nat) (qT : Nat) (qL : Nat) (it : Nat) (il : Nat) (ig : Nat) (fT : Nat → Option Nat) (fL : Nat → Option Nat) (ia : Nat → Nat) (ic : Nat) (ir : Nat) (t0 : Nat) (ta0 : Nat → Nat) (l0 : Nat) (la0 : Nat) (od : Nat) (ad : Nat → Nat) (af : Nat) (om : Nat) (am : Nat → Nat) (m0 : Nat → Int32) (oa : Nat) (hT0 : fT 0 = some t0) (hL0 : fL 0 = some l0) (hm : zMo m0) (h8 : m0 8 = 0) (h10 : m0 10 = 1) (H : Heap) (locs : List Loc) (ls : Array Slot) (hP : va_P g.1 vwCl (List.flatten [bDR g x ta o lo go tt lt mo fo ro (-1), bTape g ta ab 0 0 0 0 0 (-1) (fun _ => 0), bTown g o a 0 0 0 20 6 50 0 1 (fun _ _ => 0), bLaw g lo ac 0 (-1) 0 0 0 (fun _ => 0), bLog g go ar 0 0 (fun _ => 0), [(tt, .inr (8, [.ref ta, .ref td]))], bTown g td tda 0 0 0 20 6 50 0 1 (fun _ _ => 0), [(lt, .inr (2, [.ref ta, .ref ldr]))], bLaw g ldr lda 0 (-1) 0 0 0 (fun _ => 0), bMem g mo qT qL it il ig 0 0 0 fT fL, bTown g it ia 0 0 0 20 6 50 0 1 (fun _ _ => 0), bLaw g il ic 0 (-1) 0 0 0 (fun _ => 0), bLog g ig ir 0 0 (fun _ => 0), bTown g t0 ta0 0 0 0 20 6 50 0 1 (fun _ _ => 0), bLog g l0 la0 0 0 (fun _ => 0), [(fo, .inr (0, [.ref o, .ref lo, .ref od]))], bTown g od ad 0 0 0 20 6 50 0 1 (fun _ _ => 0), bRid g ro af 0 0 (fun _ => 0), bObj g om am 0 0 0 0 0 0 0 (-1) 0 0 0 0, bArr g am (zf [m0, fun _ => 0, fun _ => 0, fun _ => 0, fun _ => 0, fun _ => 0, fun _ => 0, fun _ => 0]), [(oa, .inl (g.2 2, 1, .inr (.inl (fun _ => 0))))]]) H) (hD : va_D A (List.flatten [bDR g x ta o lo go tt lt mo fo ro (-1), bTape g ta ab 0 0 0 0 0 (-1) (fun _ => 0), bTown g o a 0 0 0 20 6 50 0 1 (fun _ _ => 0), bLaw g lo ac 0 (-1) 0 0 0 (fun _ => 0), bLog g go ar 0 0 (fun _ => 0), [(tt, .inr (8, [.ref ta, .ref td]))], bTown g td tda 0 0 0 20 6 50 0 1 (fun _ _ => 0), [(lt, .inr (2, [.ref ta, .ref ldr]))], bLaw g ldr lda 0 (-1) 0 0 0 (fun _ => 0), bMem g mo qT qL it il ig 0 0 0 fT fL, bTown g it ia 0 0 0 20 6 50 0 1 (fun _ _ => 0), bLaw g il ic 0 (-1) 0 0 0 (fun _ => 0), bLog g ig ir 0 0 (fun _ => 0), bTown g t0 ta0 0 0 0 20 6 50 0 1 (fun _ _ => 0), bLog g l0 la0 0 0 (fun _ => 0), [(fo, .inr (0, [.ref o, .ref lo, .ref od]))], bTown g od ad 0 0 0 20 6 50 0 1 (fun _ _ => 0), bRid g ro af 0 0 (fun _ => 0), bObj g om am 0 0 0 0 0 0 0 (-1) 0 0 0 0, bArr g am (zf [m0, fun _ => 0, fun _ => 0, fun _ => 0, fun _ => 0, fun _ => 0, fun _ => 0, fun _ => 0]), [(oa, .inl (g.2 2, 1, .inr (.inl (fun _ => 0))))]])) (hS : va_S A s.heap H locs) (hl : lv_has ls 7 [(4, .int 0), (3, .ref oa), (2, .ref om), (1, .ref x), (0, .ref b)]) : W p l e room_1 s m #[Value.ref b] below meth c H locs 247 14991 (lw_Z below #[Value.ref b] s) (F0 m 256 ls []) := by
  obtain ⟨hx, hb, hml, hown, hts⟩ := id St
  have hz0 : zZ (fun _ => 0) := zZ0
  refine lv_aload_n hx hb dL_law__256 rfl (lv_at hl 3 rfl) ?_
  refine lv_aload_n hx hb dL_law__257 rfl (lv_at hl 4 rfl) ?_
  refine lv_iload hx hb dL_law__258 (lv_at hl 0 rfl) ?_
  refine lv_iconst (v := 1) hx hb dL_law__260 (by decide) ?_
  refine lv_iadd hx hb dL_law__261 ?_
  refine ztop (r := 1) (by decide) ?_
  refine va_sld hx hb hX hbl hbA hS (zin rfl) dL_law__262 ?_
  refine ztop (r := xs 1) rfl ?_
  refine lv_aload_n hx hb dL_law__263 rfl (lv_at hl 4 rfl) ?_
  refine lv_iload hx hb dL_law__264 (lv_at hl 0 rfl) ?_
  refine lv_iconst (v := 2) hx hb dL_law__266 (by decide) ?_
  refine lv_iadd hx hb dL_law__267 ?_
  refine ztop (r := 2) (by decide) ?_
  refine va_sld hx hb hX hbl hbA hS (zin rfl) dL_law__268 ?_
  refine ztop (r := xs 2) rfl ?_
  refine lv_aload_n hx hb dL_law__269 rfl (lv_at hl 4 rfl) ?_
  refine lv_iload hx hb dL_law__270 (lv_at hl 0 rfl) ?_
  refine lv_iconst (v := 3) hx hb dL_law__272 (by decide) ?_
  refine lv_iadd hx hb dL_law__273 ?_
  refine ztop (r := 3) (by decide) ?_
  refine va_sld hx hb hX hbl hbA hS (zin rfl) dL_law__274 ?_
  refine ztop (r := xs 3) rfl ?_
  refine lv_aload_n hx hb dL_law__275 rfl (lv_at hl 4 rfl) ?_
  refine lv_iload hx hb dL_law__276 (lv_at hl 0 rfl) ?_
  refine lv_iconst (v := 4) hx hb dL_law__278 (by decide) ?_
  refine lv_iadd hx hb dL_law__279 ?_
  refine ztop (r := 4) (by decide) ?_
  refine va_sld hx hb hX hbl hbA hS (zin rfl) dL_law__280 ?_
  refine ztop (r := xs 4) rfl ?_
  refine lv_aload_n hx hb dL_law__281 rfl (lv_at hl 4 rfl) ?_
  refine lv_iload hx hb dL_law__282 (lv_at hl 0 rfl) ?_
  refine lv_iconst (v := 5) hx hb dL_law__284 (by decide) ?_
  refine lv_iadd hx hb dL_law__285 ?_
  refine ztop (r := 5) (by decide) ?_
  refine va_sld hx hb hX hbl hbA hS (zin rfl) dL_law__286 ?_
  refine ztop (r := xs 5) rfl ?_
  refine mcallV (g := g) (q0 := 0) (ci := 9) (As := [.int (xs 1), .int (xs 2), .int (xs 3), .int (xs 4), .int (xs 5)]) (rest := []) St hK hT hA hP hD hS hl.1 [0, 1] [2, 3, 4, 5, 6, 7, 8, 9, 10, 11, 12, 13, 14, 15, 16, 17, 18, 19, 20] rfl rfl rfl (c_feed l g x ta o lo go tt lt mo fo ro (-1) ab 0 0 0 0 (-1) (fun _ => 0) (xs 1) (xs 2) (xs 3) (xs 4) (xs 5) ) (cwV 5 hts (zgL (zl4 k1299 k1300 k1301 k595) k544) rfl rfl rfl (by decide +kernel) ⟨Nat.le_of_ble_eq_true rfl, Nat.le_of_ble_eq_true rfl⟩) rfl rfl rfl rfl (Nat.le_of_ble_eq_true rfl) dL_law__287 ⟨(Nat.le_of_ble_eq_true rfl), (Nat.le_of_ble_eq_true rfl)⟩ (fun _u H locs hq1 hP hD hS => ?_)
  have hP : va_P g.1 vwCl (List.flatten [bTown g o a 0 0 0 20 6 50 0 1 (fun _ _ => 0), bLaw g lo ac 0 (-1) 0 0 0 (fun _ => 0), bLog g go ar 0 0 (fun _ => 0), [(tt, .inr (8, [.ref ta, .ref td]))], bTown g td tda 0 0 0 20 6 50 0 1 (fun _ _ => 0), [(lt, .inr (2, [.ref ta, .ref ldr]))], bLaw g ldr lda 0 (-1) 0 0 0 (fun _ => 0), bMem g mo qT qL it il ig 0 0 0 fT fL, bTown g it ia 0 0 0 20 6 50 0 1 (fun _ _ => 0), bLaw g il ic 0 (-1) 0 0 0 (fun _ => 0), bLog g ig ir 0 0 (fun _ => 0), bTown g t0 ta0 0 0 0 20 6 50 0 1 (fun _ _ => 0), bLog g l0 la0 0 0 (fun _ => 0), [(fo, .inr (0, [.ref o, .ref lo, .ref od]))], bTown g od ad 0 0 0 20 6 50 0 1 (fun _ _ => 0), bRid g ro af 0 0 (fun _ => 0), bObj g om am 0 0 0 0 0 0 0 (-1) 0 0 0 0, bArr g am (zf [m0, fun _ => 0, fun _ => 0, fun _ => 0, fun _ => 0, fun _ => 0, fun _ => 0, fun _ => 0]), [(oa, .inl (g.2 2, 1, .inr (.inl (fun _ => 0))))]]) H := hP
  have hD : va_D A (List.flatten [bTown g o a 0 0 0 20 6 50 0 1 (fun _ _ => 0), bLaw g lo ac 0 (-1) 0 0 0 (fun _ => 0), bLog g go ar 0 0 (fun _ => 0), [(tt, .inr (8, [.ref ta, .ref td]))], bTown g td tda 0 0 0 20 6 50 0 1 (fun _ _ => 0), [(lt, .inr (2, [.ref ta, .ref ldr]))], bLaw g ldr lda 0 (-1) 0 0 0 (fun _ => 0), bMem g mo qT qL it il ig 0 0 0 fT fL, bTown g it ia 0 0 0 20 6 50 0 1 (fun _ _ => 0), bLaw g il ic 0 (-1) 0 0 0 (fun _ => 0), bLog g ig ir 0 0 (fun _ => 0), bTown g t0 ta0 0 0 0 20 6 50 0 1 (fun _ _ => 0), bLog g l0 la0 0 0 (fun _ => 0), [(fo, .inr (0, [.ref o, .ref lo, .ref od]))], bTown g od ad 0 0 0 20 6 50 0 1 (fun _ _ => 0), bRid g ro af 0 0 (fun _ => 0), bObj g om am 0 0 0 0 0 0 0 (-1) 0 0 0 0, bArr g am (zf [m0, fun _ => 0, fun _ => 0, fun _ => 0, fun _ => 0, fun _ => 0, fun _ => 0, fun _ => 0]), [(oa, .inl (g.2 2, 1, .inr (.inl (fun _ => 0))))]]) := hD
  refine W.widen (k := 247) (n := 14991) (Nat.le_of_ble_eq_true rfl) (Nat.le_of_ble_eq_true rfl) ?_
  refine W.eq (g2 := F0 m 290 ls [.int 20]) rfl ?_
  refine lv_aload_n hx hb dL_law__290 rfl (lv_at hl 2 rfl) ?_
  refine lv_aload_n hx hb dL_law__291 rfl (lv_at hl 4 rfl) ?_
  refine lv_iload hx hb dL_law__292 (lv_at hl 0 rfl) ?_
  refine lv_iconst (v := 1) hx hb dL_law__294 (by decide) ?_
  refine lv_iadd hx hb dL_law__295 ?_
  refine ztop (r := 1) (by decide) ?_
  refine va_sld hx hb hX hbl hbA hS (zin rfl) dL_law__296 ?_
  refine ztop (r := xs 1) rfl ?_
  refine lv_aload_n hx hb dL_law__297 rfl (lv_at hl 4 rfl) ?_
  refine lv_iload hx hb dL_law__298 (lv_at hl 0 rfl) ?_
  refine lv_iconst (v := 2) hx hb dL_law__300 (by decide) ?_
  refine lv_iadd hx hb dL_law__301 ?_
  refine ztop (r := 2) (by decide) ?_
  refine va_sld hx hb hX hbl hbA hS (zin rfl) dL_law__302 ?_
  refine ztop (r := xs 2) rfl ?_
  refine lv_aload_n hx hb dL_law__303 rfl (lv_at hl 4 rfl) ?_
  refine lv_iload hx hb dL_law__304 (lv_at hl 0 rfl) ?_
  refine lv_iconst (v := 3) hx hb dL_law__306 (by decide) ?_
  refine lv_iadd hx hb dL_law__307 ?_
  refine ztop (r := 3) (by decide) ?_
  refine va_sld hx hb hX hbl hbA hS (zin rfl) dL_law__308 ?_
  refine ztop (r := xs 3) rfl ?_
  refine lv_aload_n hx hb dL_law__309 rfl (lv_at hl 4 rfl) ?_
  refine lv_iload hx hb dL_law__310 (lv_at hl 0 rfl) ?_
  refine lv_iconst (v := 4) hx hb dL_law__312 (by decide) ?_
  refine lv_iadd hx hb dL_law__313 ?_
  refine ztop (r := 4) (by decide) ?_
  refine va_sld hx hb hX hbl hbA hS (zin rfl) dL_law__314 ?_
  refine ztop (r := xs 4) rfl ?_
  refine lv_aload_n hx hb dL_law__315 rfl (lv_at hl 4 rfl) ?_
  refine lv_iload hx hb dL_law__316 (lv_at hl 0 rfl) ?_
  refine lv_iconst (v := 5) hx hb dL_law__318 (by decide) ?_
  refine lv_iadd hx hb dL_law__319 ?_
  refine ztop (r := 5) (by decide) ?_
  refine va_sld hx hb hX hbl hbA hS (zin rfl) dL_law__320 ?_
  refine ztop (r := xs 5) rfl ?_
  refine mcallV (g := g) (q0 := 0) (ci := 10) (As := [.int (xs 1), .int (xs 2), .int (xs 3), .int (xs 4), .int (xs 5)]) (rest := [.int 20]) St hK hT hA hP hD hS hl.1 [16, 17] [0, 1, 2, 3, 4, 5, 6, 7, 8, 9, 10, 11, 12, 13, 14, 15, 18] rfl rfl rfl (m_feed l g om am 0 0 0 0 0 0 (-1) 0 0 0 0 (zf [m0, fun _ => 0, fun _ => 0, fun _ => 0, fun _ => 0, fun _ => 0, fun _ => 0, fun _ => 0]) (xs 1) (xs 2) (xs 3) (xs 4) (xs 5) (by assumption)) (cwV 5 hts (zgL (zl4 k1302 k1303 k1304 k833) k863) rfl rfl rfl (by decide +kernel) ⟨Nat.le_of_ble_eq_true rfl, Nat.le_of_ble_eq_true rfl⟩) rfl rfl rfl rfl (Nat.le_of_ble_eq_true rfl) dL_law__321 ⟨(Nat.le_of_ble_eq_true rfl), (Nat.le_of_ble_eq_true rfl)⟩ (fun u_ H locs hq15 hP hD hS => ?_)
  obtain ⟨th2_2, hi2_3, ac2_4, tp2_5, ba2_6, en2_7, tA2_8, fl2_9, de2_10, iD2_11, iO2_12, tU2_13, q_14⟩ := u_
  have hq15 : th2_2 = 0 ∧ q_14 = 20 := hq15
  have hP : va_P g.1 vwCl (List.flatten [bTown g o a 0 0 0 20 6 50 0 1 (fun _ _ => 0), bLaw g lo ac 0 (-1) 0 0 0 (fun _ => 0), bLog g go ar 0 0 (fun _ => 0), [(tt, .inr (8, [.ref ta, .ref td]))], bTown g td tda 0 0 0 20 6 50 0 1 (fun _ _ => 0), [(lt, .inr (2, [.ref ta, .ref ldr]))], bLaw g ldr lda 0 (-1) 0 0 0 (fun _ => 0), bMem g mo qT qL it il ig 0 0 0 fT fL, bTown g it ia 0 0 0 20 6 50 0 1 (fun _ _ => 0), bLaw g il ic 0 (-1) 0 0 0 (fun _ => 0), bLog g ig ir 0 0 (fun _ => 0), bTown g t0 ta0 0 0 0 20 6 50 0 1 (fun _ _ => 0), bLog g l0 la0 0 0 (fun _ => 0), [(fo, .inr (0, [.ref o, .ref lo, .ref od]))], bTown g od ad 0 0 0 20 6 50 0 1 (fun _ _ => 0), bRid g ro af 0 0 (fun _ => 0), [(oa, .inl (g.2 2, 1, .inr (.inl (fun _ => 0))))], bObj g om am th2_2 hi2_3 ac2_4 tp2_5 ba2_6 en2_7 tA2_8 fl2_9 de2_10 iD2_11 iO2_12 tU2_13]) H := hP
  have hD : va_D A (List.flatten [bTown g o a 0 0 0 20 6 50 0 1 (fun _ _ => 0), bLaw g lo ac 0 (-1) 0 0 0 (fun _ => 0), bLog g go ar 0 0 (fun _ => 0), [(tt, .inr (8, [.ref ta, .ref td]))], bTown g td tda 0 0 0 20 6 50 0 1 (fun _ _ => 0), [(lt, .inr (2, [.ref ta, .ref ldr]))], bLaw g ldr lda 0 (-1) 0 0 0 (fun _ => 0), bMem g mo qT qL it il ig 0 0 0 fT fL, bTown g it ia 0 0 0 20 6 50 0 1 (fun _ _ => 0), bLaw g il ic 0 (-1) 0 0 0 (fun _ => 0), bLog g ig ir 0 0 (fun _ => 0), bTown g t0 ta0 0 0 0 20 6 50 0 1 (fun _ _ => 0), bLog g l0 la0 0 0 (fun _ => 0), [(fo, .inr (0, [.ref o, .ref lo, .ref od]))], bTown g od ad 0 0 0 20 6 50 0 1 (fun _ _ => 0), bRid g ro af 0 0 (fun _ => 0), [(oa, .inl (g.2 2, 1, .inr (.inl (fun _ => 0))))], bObj g om am th2_2 hi2_3 ac2_4 tp2_5 ba2_6 en2_7 tA2_8 fl2_9 de2_10 iD2_11 iO2_12 tU2_13]) := hD
  refine W.widen (k := 247) (n := 14991) (Nat.le_of_ble_eq_true rfl) (Nat.le_of_ble_eq_true rfl) ?_
  refine W.eq (g2 := F0 m 324 ls [.int q_14, .int 20]) rfl ?_
  refine lv_icmp_eq (tgt := 2738) hx hb dL_law__324 (by decide) (fun _ => ?_) (fun c16 => absurd ((hq15.2).symm) c16)
  refine lv_iinc (v := 6) (lv' := [(4, .int 6), (3, .ref oa), (2, .ref om), (1, .ref x), (0, .ref b)]) hx hb dL_law__2738 hl (k := 0) rfl (by decide) (by decide) rfl (fun ls hl => ?_)
  refine lv_goto (tgt := 23) hx hb dL_law__2741 (by decide) ?_
  refine lv_iload hx hb dL_law__23 (lv_at hl 0 rfl) ?_
  refine lv_aload_n hx hb dL_law__25 rfl (lv_at hl 4 rfl) ?_
  refine va_slen hx hb hX hbl hbA hS dL_law__26 ?_
  refine ztop (r := 6) rfl ?_
  refine lv_bipush (v := 6) hx hb dL_law__27 (by decide) ?_
  refine lv_isub hx hb dL_law__29 ?_
  refine ztop (r := 0) (by decide) ?_
  refine lv_icmp_gt (tgt := 2744) hx hb dL_law__30 (by decide) (fun _ => ?_) (fun c17 => absurd (by decide) c17)
  refine lv_iconst (v := 1) hx hb dL_law__2744 (by decide) ?_
  refine va_forget (fun q hq => by have h9 := hS.2.2 q hq; rw [hAe] at h9; exact h9) ?_
  refine W.widen (k := 600002) (n := 7302232) (Nat.le_of_ble_eq_true rfl) (Nat.le_of_ble_eq_true rfl) ?_
  exact lw_ret hx hb hr hlocks dL_law__2745
set_option maxRecDepth 100000 in
set_option maxHeartbeats 4000000 in
/-- the law: end -/
theorem w_1 {p : Program} {e : Env} {s : State} {m : MethodId} {below : List Frame} {meth : Method} {c : Code} (l : Launch) (hfl : l.stackTraces = false) (g : zG) {b : Nat} {xs : Nat → Int32} {A : Nat → Prop} (hAe : A = fun q => s.heap.size ≤ q) (hA : ∀ q, s.heap.size ≤ q → A q) (hbA : ¬ A b) (St : CallFix p m c cL_law_ 7 s #[Value.ref b] zB RL) (hr : meth.sig.returnType = ret) (hlocks : meth.locks = false) (hX : va_X b 6 xs s s.heap) (hbl : b < s.heap.size) (hK : zK g s) (hT : zTh A s) (x : Nat) (ta : Nat) (o : Nat) (lo : Nat) (go : Nat) (tt : Nat) (lt : Nat) (mo : Nat) (fo : Nat) (ro : Nat) (ab : Nat) (ac : Nat) (ar : Nat) (td : Nat) (a : Nat → Nat) (tda : Nat → Nat) (ldr : Nat) (lda : Nat) (qT : Nat) (qL : Nat) (it : Nat) (il : Nat) (ig : Nat) (fT : Nat → Option Nat) (fL : Nat → Option Nat) (ia : Nat → Nat) (ic : Nat) (ir : Nat) (t0 : Nat) (ta0 : Nat → Nat) (l0 : Nat) (la0 : Nat) (od : Nat) (ad : Nat → Nat) (af : Nat) (om : Nat) (am : Nat → Nat) (m0 : Nat → Int32) (oa : Nat) (hT0 : fT 0 = some t0) (hL0 : fL 0 = some l0) (hm : zMo m0) (h8 : m0 8 = 0) (h10 : m0 10 = 1) (H : Heap) (locs : List Loc) (ls : Array Slot) (hP : va_P g.1 vwCl (List.flatten [bDR g x ta o lo go tt lt mo fo ro (-1), bTape g ta ab 0 0 0 0 0 (-1) (fun _ => 0), bTown g o a 0 0 0 20 6 50 0 1 (fun _ _ => 0), bLaw g lo ac 0 (-1) 0 0 0 (fun _ => 0), bLog g go ar 0 0 (fun _ => 0), [(tt, .inr (8, [.ref ta, .ref td]))], bTown g td tda 0 0 0 20 6 50 0 1 (fun _ _ => 0), [(lt, .inr (2, [.ref ta, .ref ldr]))], bLaw g ldr lda 0 (-1) 0 0 0 (fun _ => 0), bMem g mo qT qL it il ig 0 0 0 fT fL, bTown g it ia 0 0 0 20 6 50 0 1 (fun _ _ => 0), bLaw g il ic 0 (-1) 0 0 0 (fun _ => 0), bLog g ig ir 0 0 (fun _ => 0), bTown g t0 ta0 0 0 0 20 6 50 0 1 (fun _ _ => 0), bLog g l0 la0 0 0 (fun _ => 0), [(fo, .inr (0, [.ref o, .ref lo, .ref od]))], bTown g od ad 0 0 0 20 6 50 0 1 (fun _ _ => 0), bRid g ro af 0 0 (fun _ => 0), bObj g om am 0 0 0 0 0 0 0 (-1) 0 0 0 0, bArr g am (zf [m0, fun _ => 0, fun _ => 0, fun _ => 0, fun _ => 0, fun _ => 0, fun _ => 0, fun _ => 0]), [(oa, .inl (g.2 2, 1, .inr (.inl (fun _ => 0))))]]) H) (hD : va_D A (List.flatten [bDR g x ta o lo go tt lt mo fo ro (-1), bTape g ta ab 0 0 0 0 0 (-1) (fun _ => 0), bTown g o a 0 0 0 20 6 50 0 1 (fun _ _ => 0), bLaw g lo ac 0 (-1) 0 0 0 (fun _ => 0), bLog g go ar 0 0 (fun _ => 0), [(tt, .inr (8, [.ref ta, .ref td]))], bTown g td tda 0 0 0 20 6 50 0 1 (fun _ _ => 0), [(lt, .inr (2, [.ref ta, .ref ldr]))], bLaw g ldr lda 0 (-1) 0 0 0 (fun _ => 0), bMem g mo qT qL it il ig 0 0 0 fT fL, bTown g it ia 0 0 0 20 6 50 0 1 (fun _ _ => 0), bLaw g il ic 0 (-1) 0 0 0 (fun _ => 0), bLog g ig ir 0 0 (fun _ => 0), bTown g t0 ta0 0 0 0 20 6 50 0 1 (fun _ _ => 0), bLog g l0 la0 0 0 (fun _ => 0), [(fo, .inr (0, [.ref o, .ref lo, .ref od]))], bTown g od ad 0 0 0 20 6 50 0 1 (fun _ _ => 0), bRid g ro af 0 0 (fun _ => 0), bObj g om am 0 0 0 0 0 0 0 (-1) 0 0 0 0, bArr g am (zf [m0, fun _ => 0, fun _ => 0, fun _ => 0, fun _ => 0, fun _ => 0, fun _ => 0, fun _ => 0]), [(oa, .inl (g.2 2, 1, .inr (.inl (fun _ => 0))))]])) (hS : va_S A s.heap H locs) (hl : lv_has ls 7 [(4, .int 0), (3, .ref oa), (2, .ref om), (1, .ref x), (0, .ref b)]) : W p l e room_1 s m #[Value.ref b] below meth c H locs 247 14991 (lw_Z below #[Value.ref b] s) (F0 m 329 ls []) := by
  obtain ⟨hx, hb, hml, hown, hts⟩ := id St
  have hz0 : zZ (fun _ => 0) := zZ0
  refine lv_aload_n hx hb dL_law__329 rfl (lv_at hl 3 rfl) ?_
  refine lv_aload_n hx hb dL_law__330 rfl (lv_at hl 4 rfl) ?_
  refine lv_iload hx hb dL_law__331 (lv_at hl 0 rfl) ?_
  refine lv_iconst (v := 1) hx hb dL_law__333 (by decide) ?_
  refine lv_iadd hx hb dL_law__334 ?_
  refine ztop (r := 1) (by decide) ?_
  refine va_sld hx hb hX hbl hbA hS (zin rfl) dL_law__335 ?_
  refine ztop (r := xs 1) rfl ?_
  refine mcallV (g := g) (q0 := 0) (ci := 9) (As := [.int (xs 1)]) (rest := []) St hK hT hA hP hD hS hl.1 [0, 1] [2, 3, 4, 5, 6, 7, 8, 9, 10, 11, 12, 13, 14, 15, 16, 17, 18, 19, 20] rfl rfl rfl (c_end l g x ta o lo go tt lt mo fo ro (-1) ab 0 0 0 0 (-1) (fun _ => 0) (xs 1) ) (cwV 1 hts (zgL (zl4 k1305 k1306 k1307 k595) k549) rfl rfl rfl (by decide +kernel) ⟨Nat.le_of_ble_eq_true rfl, Nat.le_of_ble_eq_true rfl⟩) rfl rfl rfl rfl (Nat.le_of_ble_eq_true rfl) dL_law__336 ⟨(Nat.le_of_ble_eq_true rfl), (Nat.le_of_ble_eq_true rfl)⟩ (fun q_1 H locs hq2 hP hD hS => ?_)
  have hq2 : q_1 = if (xs 1) < 0 ∨ 0 < (xs 1) then 0 else 1 := hq2
  have hP : va_P g.1 vwCl (List.flatten [bTown g o a 0 0 0 20 6 50 0 1 (fun _ _ => 0), bLaw g lo ac 0 (-1) 0 0 0 (fun _ => 0), bLog g go ar 0 0 (fun _ => 0), [(tt, .inr (8, [.ref ta, .ref td]))], bTown g td tda 0 0 0 20 6 50 0 1 (fun _ _ => 0), [(lt, .inr (2, [.ref ta, .ref ldr]))], bLaw g ldr lda 0 (-1) 0 0 0 (fun _ => 0), bMem g mo qT qL it il ig 0 0 0 fT fL, bTown g it ia 0 0 0 20 6 50 0 1 (fun _ _ => 0), bLaw g il ic 0 (-1) 0 0 0 (fun _ => 0), bLog g ig ir 0 0 (fun _ => 0), bTown g t0 ta0 0 0 0 20 6 50 0 1 (fun _ _ => 0), bLog g l0 la0 0 0 (fun _ => 0), [(fo, .inr (0, [.ref o, .ref lo, .ref od]))], bTown g od ad 0 0 0 20 6 50 0 1 (fun _ _ => 0), bRid g ro af 0 0 (fun _ => 0), bObj g om am 0 0 0 0 0 0 0 (-1) 0 0 0 0, bArr g am (zf [m0, fun _ => 0, fun _ => 0, fun _ => 0, fun _ => 0, fun _ => 0, fun _ => 0, fun _ => 0]), [(oa, .inl (g.2 2, 1, .inr (.inl (fun _ => 0))))]]) H := hP
  have hD : va_D A (List.flatten [bTown g o a 0 0 0 20 6 50 0 1 (fun _ _ => 0), bLaw g lo ac 0 (-1) 0 0 0 (fun _ => 0), bLog g go ar 0 0 (fun _ => 0), [(tt, .inr (8, [.ref ta, .ref td]))], bTown g td tda 0 0 0 20 6 50 0 1 (fun _ _ => 0), [(lt, .inr (2, [.ref ta, .ref ldr]))], bLaw g ldr lda 0 (-1) 0 0 0 (fun _ => 0), bMem g mo qT qL it il ig 0 0 0 fT fL, bTown g it ia 0 0 0 20 6 50 0 1 (fun _ _ => 0), bLaw g il ic 0 (-1) 0 0 0 (fun _ => 0), bLog g ig ir 0 0 (fun _ => 0), bTown g t0 ta0 0 0 0 20 6 50 0 1 (fun _ _ => 0), bLog g l0 la0 0 0 (fun _ => 0), [(fo, .inr (0, [.ref o, .ref lo, .ref od]))], bTown g od ad 0 0 0 20 6 50 0 1 (fun _ _ => 0), bRid g ro af 0 0 (fun _ => 0), bObj g om am 0 0 0 0 0 0 0 (-1) 0 0 0 0, bArr g am (zf [m0, fun _ => 0, fun _ => 0, fun _ => 0, fun _ => 0, fun _ => 0, fun _ => 0, fun _ => 0]), [(oa, .inl (g.2 2, 1, .inr (.inl (fun _ => 0))))]]) := hD
  refine W.widen (k := 247) (n := 14991) (Nat.le_of_ble_eq_true rfl) (Nat.le_of_ble_eq_true rfl) ?_
  refine W.eq (g2 := F0 m 339 ls [.int q_1]) rfl ?_
  refine lv_aload_n hx hb dL_law__339 rfl (lv_at hl 2 rfl) ?_
  refine lv_aload_n hx hb dL_law__340 rfl (lv_at hl 4 rfl) ?_
  refine lv_iload hx hb dL_law__341 (lv_at hl 0 rfl) ?_
  refine lv_iconst (v := 1) hx hb dL_law__343 (by decide) ?_
  refine lv_iadd hx hb dL_law__344 ?_
  refine ztop (r := 1) (by decide) ?_
  refine va_sld hx hb hX hbl hbA hS (zin rfl) dL_law__345 ?_
  refine ztop (r := xs 1) rfl ?_
  refine mcallV (g := g) (q0 := 0) (ci := 10) (As := [.int (xs 1)]) (rest := [.int q_1]) St hK hT hA hP hD hS hl.1 [16, 17] [0, 1, 2, 3, 4, 5, 6, 7, 8, 9, 10, 11, 12, 13, 14, 15, 18] rfl rfl rfl (m_end l g om am 0 0 0 0 0 0 (-1) 0 0 0 0 (zf [m0, fun _ => 0, fun _ => 0, fun _ => 0, fun _ => 0, fun _ => 0, fun _ => 0, fun _ => 0]) (xs 1) (by assumption)) (cwV 1 hts (zgL (zl4 k1308 k1309 k1310 k833) k865) rfl rfl rfl (by decide +kernel) ⟨Nat.le_of_ble_eq_true rfl, Nat.le_of_ble_eq_true rfl⟩) rfl rfl rfl rfl (Nat.le_of_ble_eq_true rfl) dL_law__346 ⟨(Nat.le_of_ble_eq_true rfl), (Nat.le_of_ble_eq_true rfl)⟩ (fun u_ H locs hq16 hP hD hS => ?_)
  obtain ⟨th2_3, hi2_4, ac2_5, tp2_6, ba2_7, en2_8, tA2_9, fl2_10, de2_11, iD2_12, iO2_13, tU2_14, q_15⟩ := u_
  have hq16 : th2_3 = 0 ∧ q_15 = if (xs 1) < 0 ∨ 0 < (xs 1) then 0 else 1 := hq16
  have hP : va_P g.1 vwCl (List.flatten [bTown g o a 0 0 0 20 6 50 0 1 (fun _ _ => 0), bLaw g lo ac 0 (-1) 0 0 0 (fun _ => 0), bLog g go ar 0 0 (fun _ => 0), [(tt, .inr (8, [.ref ta, .ref td]))], bTown g td tda 0 0 0 20 6 50 0 1 (fun _ _ => 0), [(lt, .inr (2, [.ref ta, .ref ldr]))], bLaw g ldr lda 0 (-1) 0 0 0 (fun _ => 0), bMem g mo qT qL it il ig 0 0 0 fT fL, bTown g it ia 0 0 0 20 6 50 0 1 (fun _ _ => 0), bLaw g il ic 0 (-1) 0 0 0 (fun _ => 0), bLog g ig ir 0 0 (fun _ => 0), bTown g t0 ta0 0 0 0 20 6 50 0 1 (fun _ _ => 0), bLog g l0 la0 0 0 (fun _ => 0), [(fo, .inr (0, [.ref o, .ref lo, .ref od]))], bTown g od ad 0 0 0 20 6 50 0 1 (fun _ _ => 0), bRid g ro af 0 0 (fun _ => 0), [(oa, .inl (g.2 2, 1, .inr (.inl (fun _ => 0))))], bObj g om am th2_3 hi2_4 ac2_5 tp2_6 ba2_7 en2_8 tA2_9 fl2_10 de2_11 iD2_12 iO2_13 tU2_14]) H := hP
  have hD : va_D A (List.flatten [bTown g o a 0 0 0 20 6 50 0 1 (fun _ _ => 0), bLaw g lo ac 0 (-1) 0 0 0 (fun _ => 0), bLog g go ar 0 0 (fun _ => 0), [(tt, .inr (8, [.ref ta, .ref td]))], bTown g td tda 0 0 0 20 6 50 0 1 (fun _ _ => 0), [(lt, .inr (2, [.ref ta, .ref ldr]))], bLaw g ldr lda 0 (-1) 0 0 0 (fun _ => 0), bMem g mo qT qL it il ig 0 0 0 fT fL, bTown g it ia 0 0 0 20 6 50 0 1 (fun _ _ => 0), bLaw g il ic 0 (-1) 0 0 0 (fun _ => 0), bLog g ig ir 0 0 (fun _ => 0), bTown g t0 ta0 0 0 0 20 6 50 0 1 (fun _ _ => 0), bLog g l0 la0 0 0 (fun _ => 0), [(fo, .inr (0, [.ref o, .ref lo, .ref od]))], bTown g od ad 0 0 0 20 6 50 0 1 (fun _ _ => 0), bRid g ro af 0 0 (fun _ => 0), [(oa, .inl (g.2 2, 1, .inr (.inl (fun _ => 0))))], bObj g om am th2_3 hi2_4 ac2_5 tp2_6 ba2_7 en2_8 tA2_9 fl2_10 de2_11 iD2_12 iO2_13 tU2_14]) := hD
  refine W.widen (k := 247) (n := 14991) (Nat.le_of_ble_eq_true rfl) (Nat.le_of_ble_eq_true rfl) ?_
  refine W.eq (g2 := F0 m 349 ls [.int q_15, .int q_1]) rfl ?_
  refine lv_icmp_eq (tgt := 2738) hx hb dL_law__349 (by decide) (fun _ => ?_) (fun c17 => absurd (hq2.trans (hq16.2).symm) c17)
  refine lv_iinc (v := 6) (lv' := [(4, .int 6), (3, .ref oa), (2, .ref om), (1, .ref x), (0, .ref b)]) hx hb dL_law__2738 hl (k := 0) rfl (by decide) (by decide) rfl (fun ls hl => ?_)
  refine lv_goto (tgt := 23) hx hb dL_law__2741 (by decide) ?_
  refine lv_iload hx hb dL_law__23 (lv_at hl 0 rfl) ?_
  refine lv_aload_n hx hb dL_law__25 rfl (lv_at hl 4 rfl) ?_
  refine va_slen hx hb hX hbl hbA hS dL_law__26 ?_
  refine ztop (r := 6) rfl ?_
  refine lv_bipush (v := 6) hx hb dL_law__27 (by decide) ?_
  refine lv_isub hx hb dL_law__29 ?_
  refine ztop (r := 0) (by decide) ?_
  refine lv_icmp_gt (tgt := 2744) hx hb dL_law__30 (by decide) (fun _ => ?_) (fun c18 => absurd (by decide) c18)
  refine lv_iconst (v := 1) hx hb dL_law__2744 (by decide) ?_
  refine va_forget (fun q hq => by have h9 := hS.2.2 q hq; rw [hAe] at h9; exact h9) ?_
  refine W.widen (k := 600002) (n := 7302232) (Nat.le_of_ble_eq_true rfl) (Nat.le_of_ble_eq_true rfl) ?_
  exact lw_ret hx hb hr hlocks dL_law__2745
set_option maxRecDepth 100000 in
set_option maxHeartbeats 4000000 in
/-- the law: town -/
theorem w_2 {p : Program} {e : Env} {s : State} {m : MethodId} {below : List Frame} {meth : Method} {c : Code} (l : Launch) (hfl : l.stackTraces = false) (g : zG) {b : Nat} {xs : Nat → Int32} {A : Nat → Prop} (hAe : A = fun q => s.heap.size ≤ q) (hA : ∀ q, s.heap.size ≤ q → A q) (hbA : ¬ A b) (St : CallFix p m c cL_law_ 7 s #[Value.ref b] zB RL) (hr : meth.sig.returnType = ret) (hlocks : meth.locks = false) (hX : va_X b 6 xs s s.heap) (hbl : b < s.heap.size) (hK : zK g s) (hT : zTh A s) (x : Nat) (ta : Nat) (o : Nat) (lo : Nat) (go : Nat) (tt : Nat) (lt : Nat) (mo : Nat) (fo : Nat) (ro : Nat) (ab : Nat) (ac : Nat) (ar : Nat) (td : Nat) (a : Nat → Nat) (tda : Nat → Nat) (ldr : Nat) (lda : Nat) (qT : Nat) (qL : Nat) (it : Nat) (il : Nat) (ig : Nat) (fT : Nat → Option Nat) (fL : Nat → Option Nat) (ia : Nat → Nat) (ic : Nat) (ir : Nat) (t0 : Nat) (ta0 : Nat → Nat) (l0 : Nat) (la0 : Nat) (od : Nat) (ad : Nat → Nat) (af : Nat) (om : Nat) (am : Nat → Nat) (m0 : Nat → Int32) (oa : Nat) (hT0 : fT 0 = some t0) (hL0 : fL 0 = some l0) (hm : zMo m0) (h8 : m0 8 = 0) (h10 : m0 10 = 1) (H : Heap) (locs : List Loc) (ls : Array Slot) (hP : va_P g.1 vwCl (List.flatten [bDR g x ta o lo go tt lt mo fo ro (-1), bTape g ta ab 0 0 0 0 0 (-1) (fun _ => 0), bTown g o a 0 0 0 20 6 50 0 1 (fun _ _ => 0), bLaw g lo ac 0 (-1) 0 0 0 (fun _ => 0), bLog g go ar 0 0 (fun _ => 0), [(tt, .inr (8, [.ref ta, .ref td]))], bTown g td tda 0 0 0 20 6 50 0 1 (fun _ _ => 0), [(lt, .inr (2, [.ref ta, .ref ldr]))], bLaw g ldr lda 0 (-1) 0 0 0 (fun _ => 0), bMem g mo qT qL it il ig 0 0 0 fT fL, bTown g it ia 0 0 0 20 6 50 0 1 (fun _ _ => 0), bLaw g il ic 0 (-1) 0 0 0 (fun _ => 0), bLog g ig ir 0 0 (fun _ => 0), bTown g t0 ta0 0 0 0 20 6 50 0 1 (fun _ _ => 0), bLog g l0 la0 0 0 (fun _ => 0), [(fo, .inr (0, [.ref o, .ref lo, .ref od]))], bTown g od ad 0 0 0 20 6 50 0 1 (fun _ _ => 0), bRid g ro af 0 0 (fun _ => 0), bObj g om am 0 0 0 0 0 0 0 (-1) 0 0 0 0, bArr g am (zf [m0, fun _ => 0, fun _ => 0, fun _ => 0, fun _ => 0, fun _ => 0, fun _ => 0, fun _ => 0]), [(oa, .inl (g.2 2, 1, .inr (.inl (fun _ => 0))))]]) H) (hD : va_D A (List.flatten [bDR g x ta o lo go tt lt mo fo ro (-1), bTape g ta ab 0 0 0 0 0 (-1) (fun _ => 0), bTown g o a 0 0 0 20 6 50 0 1 (fun _ _ => 0), bLaw g lo ac 0 (-1) 0 0 0 (fun _ => 0), bLog g go ar 0 0 (fun _ => 0), [(tt, .inr (8, [.ref ta, .ref td]))], bTown g td tda 0 0 0 20 6 50 0 1 (fun _ _ => 0), [(lt, .inr (2, [.ref ta, .ref ldr]))], bLaw g ldr lda 0 (-1) 0 0 0 (fun _ => 0), bMem g mo qT qL it il ig 0 0 0 fT fL, bTown g it ia 0 0 0 20 6 50 0 1 (fun _ _ => 0), bLaw g il ic 0 (-1) 0 0 0 (fun _ => 0), bLog g ig ir 0 0 (fun _ => 0), bTown g t0 ta0 0 0 0 20 6 50 0 1 (fun _ _ => 0), bLog g l0 la0 0 0 (fun _ => 0), [(fo, .inr (0, [.ref o, .ref lo, .ref od]))], bTown g od ad 0 0 0 20 6 50 0 1 (fun _ _ => 0), bRid g ro af 0 0 (fun _ => 0), bObj g om am 0 0 0 0 0 0 0 (-1) 0 0 0 0, bArr g am (zf [m0, fun _ => 0, fun _ => 0, fun _ => 0, fun _ => 0, fun _ => 0, fun _ => 0, fun _ => 0]), [(oa, .inl (g.2 2, 1, .inr (.inl (fun _ => 0))))]])) (hS : va_S A s.heap H locs) (hl : lv_has ls 7 [(4, .int 0), (3, .ref oa), (2, .ref om), (1, .ref x), (0, .ref b)]) : W p l e room_1 s m #[Value.ref b] below meth c H locs 247 14991 (lw_Z below #[Value.ref b] s) (F0 m 354 ls []) := by
  obtain ⟨hx, hb, hml, hown, hts⟩ := id St
  have hz0 : zZ (fun _ => 0) := zZ0
  refine lv_aload_n hx hb dL_law__354 rfl (lv_at hl 3 rfl) ?_
  refine lv_aload_n hx hb dL_law__355 rfl (lv_at hl 1 rfl) ?_
  refine xcallSX (g := g) (As := [.ref x, .ref oa]) (rest := []) St hK hT hA hP hD hS hl.1 [0, 2, 1, 5, 6, 9, 20] [3, 4, 7, 8, 10, 11, 12, 13, 14, 15, 16, 17, 18, 19] rfl rfl rfl (l_town l g x ta o lo go tt lt mo fo ro (-1) a 20 6 50 0 1 (fun _ _ => 0) ab 0 0 0 0 (-1) (fun _ => 0) qT qL it il ig 0 0 0 fT fL td tda 0 0 0 20 6 50 0 1 (fun _ _ => 0) oa (fun _ => 0) (by assumption)) (vx_cwSW 2 hts (zgL (zl3 k1311 k1312 k1313) k1158) rfl rfl rfl (by decide +kernel) ⟨Nat.le_of_ble_eq_true rfl, Nat.le_of_ble_eq_true rfl⟩) rfl rfl (Nat.le_of_ble_eq_true rfl) dL_law__356 ⟨(Nat.le_of_ble_eq_true rfl), (Nat.le_of_ble_eq_true rfl)⟩ (fun E ce q9 u9 H locs hpx hP hD hS hce hcv hcl => hpx.elim) (fun u_ H locs hq3 hP hD hS => ?_)
  obtain ⟨r_1, fz2_2⟩ := u_
  have hq3 : r_1 = 0 ∧ fz2_2 0 = (1 : Int32).toInt64 := hq3
  have hP : va_P g.1 vwCl (List.flatten [bLaw g lo ac 0 (-1) 0 0 0 (fun _ => 0), bLog g go ar 0 0 (fun _ => 0), [(lt, .inr (2, [.ref ta, .ref ldr]))], bLaw g ldr lda 0 (-1) 0 0 0 (fun _ => 0), bTown g it ia 0 0 0 20 6 50 0 1 (fun _ _ => 0), bLaw g il ic 0 (-1) 0 0 0 (fun _ => 0), bLog g ig ir 0 0 (fun _ => 0), bTown g t0 ta0 0 0 0 20 6 50 0 1 (fun _ _ => 0), bLog g l0 la0 0 0 (fun _ => 0), [(fo, .inr (0, [.ref o, .ref lo, .ref od]))], bTown g od ad 0 0 0 20 6 50 0 1 (fun _ _ => 0), bRid g ro af 0 0 (fun _ => 0), bObj g om am 0 0 0 0 0 0 0 (-1) 0 0 0 0, bArr g am (zf [m0, fun _ => 0, fun _ => 0, fun _ => 0, fun _ => 0, fun _ => 0, fun _ => 0, fun _ => 0]), [(oa, .inl (g.2 2, 1, .inr (.inl fz2_2)))]]) H := hP
  have hD : va_D A (List.flatten [bLaw g lo ac 0 (-1) 0 0 0 (fun _ => 0), bLog g go ar 0 0 (fun _ => 0), [(lt, .inr (2, [.ref ta, .ref ldr]))], bLaw g ldr lda 0 (-1) 0 0 0 (fun _ => 0), bTown g it ia 0 0 0 20 6 50 0 1 (fun _ _ => 0), bLaw g il ic 0 (-1) 0 0 0 (fun _ => 0), bLog g ig ir 0 0 (fun _ => 0), bTown g t0 ta0 0 0 0 20 6 50 0 1 (fun _ _ => 0), bLog g l0 la0 0 0 (fun _ => 0), [(fo, .inr (0, [.ref o, .ref lo, .ref od]))], bTown g od ad 0 0 0 20 6 50 0 1 (fun _ _ => 0), bRid g ro af 0 0 (fun _ => 0), bObj g om am 0 0 0 0 0 0 0 (-1) 0 0 0 0, bArr g am (zf [m0, fun _ => 0, fun _ => 0, fun _ => 0, fun _ => 0, fun _ => 0, fun _ => 0, fun _ => 0]), [(oa, .inl (g.2 2, 1, .inr (.inl fz2_2)))]]) := hD
  refine W.widen (k := 247) (n := 14991) (Nat.le_of_ble_eq_true rfl) (Nat.le_of_ble_eq_true rfl) ?_
  refine W.eq (g2 := F0 m 359 ls [.int r_1]) rfl ?_
  obtain ⟨hr9, hg9⟩ := hq3
  subst hr9
  refine lv_istore (lv' := [(5, .int 0), (4, .int 0), (3, .ref oa), (2, .ref om), (1, .ref x), (0, .ref b)]) hx hb dL_law__359 hl (by decide) rfl (fun ls hl => ?_)
  refine lv_aload_n hx hb dL_law__361 rfl (lv_at hl 3 rfl) ?_
  refine mcallV (g := g) (q0 := 0) (ci := 10) (As := []) (rest := []) St hK hT hA hP hD hS hl.1 [12, 13] [0, 1, 2, 3, 4, 5, 6, 7, 8, 9, 10, 11, 14] rfl rfl rfl (m_town l g om am 0 0 0 0 0 0 (-1) 0 0 0 0 (zf [m0, fun _ => 0, fun _ => 0, fun _ => 0, fun _ => 0, fun _ => 0, fun _ => 0, fun _ => 0]) (by assumption)) (cwV 0 hts (zgL (zl4 k1314 k1315 k1316 k833) k980) rfl rfl rfl (by decide +kernel) ⟨Nat.le_of_ble_eq_true rfl, Nat.le_of_ble_eq_true rfl⟩) rfl rfl rfl rfl (Nat.le_of_ble_eq_true rfl) dL_law__362 ⟨(Nat.le_of_ble_eq_true rfl), (Nat.le_of_ble_eq_true rfl)⟩ (fun u_ H locs hq17 hP hD hS => ?_)
  obtain ⟨th2_4, hi2_5, ac2_6, tp2_7, ba2_8, en2_9, tA2_10, fl2_11, de2_12, iD2_13, iO2_14, tU2_15, q_16⟩ := u_
  have hq17 : th2_4 = 0 ∧ q_16 = 1 := hq17
  have hP : va_P g.1 vwCl (List.flatten [bLaw g lo ac 0 (-1) 0 0 0 (fun _ => 0), bLog g go ar 0 0 (fun _ => 0), [(lt, .inr (2, [.ref ta, .ref ldr]))], bLaw g ldr lda 0 (-1) 0 0 0 (fun _ => 0), bTown g it ia 0 0 0 20 6 50 0 1 (fun _ _ => 0), bLaw g il ic 0 (-1) 0 0 0 (fun _ => 0), bLog g ig ir 0 0 (fun _ => 0), bTown g t0 ta0 0 0 0 20 6 50 0 1 (fun _ _ => 0), bLog g l0 la0 0 0 (fun _ => 0), [(fo, .inr (0, [.ref o, .ref lo, .ref od]))], bTown g od ad 0 0 0 20 6 50 0 1 (fun _ _ => 0), bRid g ro af 0 0 (fun _ => 0), [(oa, .inl (g.2 2, 1, .inr (.inl fz2_2)))], bObj g om am th2_4 hi2_5 ac2_6 tp2_7 ba2_8 en2_9 tA2_10 fl2_11 de2_12 iD2_13 iO2_14 tU2_15]) H := hP
  have hD : va_D A (List.flatten [bLaw g lo ac 0 (-1) 0 0 0 (fun _ => 0), bLog g go ar 0 0 (fun _ => 0), [(lt, .inr (2, [.ref ta, .ref ldr]))], bLaw g ldr lda 0 (-1) 0 0 0 (fun _ => 0), bTown g it ia 0 0 0 20 6 50 0 1 (fun _ _ => 0), bLaw g il ic 0 (-1) 0 0 0 (fun _ => 0), bLog g ig ir 0 0 (fun _ => 0), bTown g t0 ta0 0 0 0 20 6 50 0 1 (fun _ _ => 0), bLog g l0 la0 0 0 (fun _ => 0), [(fo, .inr (0, [.ref o, .ref lo, .ref od]))], bTown g od ad 0 0 0 20 6 50 0 1 (fun _ _ => 0), bRid g ro af 0 0 (fun _ => 0), [(oa, .inl (g.2 2, 1, .inr (.inl fz2_2)))], bObj g om am th2_4 hi2_5 ac2_6 tp2_7 ba2_8 en2_9 tA2_10 fl2_11 de2_12 iD2_13 iO2_14 tU2_15]) := hD
  refine W.widen (k := 247) (n := 14991) (Nat.le_of_ble_eq_true rfl) (Nat.le_of_ble_eq_true rfl) ?_
  refine W.eq (g2 := F0 m 365 ls [.int q_16]) rfl ?_
  obtain ⟨ht9, hq9⟩ := hq17
  subst ht9
  refine lv_istore (lv' := [(6, .int q_16), (5, .int 0), (4, .int 0), (3, .ref oa), (2, .ref om), (1, .ref x), (0, .ref b)]) hx hb dL_law__365 hl (by decide) rfl (fun ls hl => ?_)
  refine lv_aload_n hx hb dL_law__367 rfl (lv_at hl 4 rfl) ?_
  refine mcallV (g := g) (q0 := 0) (ci := 10) (As := []) (rest := []) St hK hT hA hP hD hS hl.1 [13] [0, 1, 2, 3, 4, 5, 6, 7, 8, 9, 10, 11, 12] rfl rfl rfl (m_thrown l g om am 0 hi2_5 ac2_6 tp2_7 ba2_8 en2_9 tA2_10 fl2_11 de2_12 iD2_13 iO2_14 tU2_15 ) (cwV 0 hts (zgL (zl4 k1317 k1318 k1319 k833) k824) rfl rfl rfl (by decide +kernel) ⟨Nat.le_of_ble_eq_true rfl, Nat.le_of_ble_eq_true rfl⟩) rfl rfl rfl rfl (Nat.le_of_ble_eq_true rfl) dL_law__368 ⟨(Nat.le_of_ble_eq_true rfl), (Nat.le_of_ble_eq_true rfl)⟩ (fun _u H locs hq18 hP hD hS => ?_)
  have hP : va_P g.1 vwCl (List.flatten [bLaw g lo ac 0 (-1) 0 0 0 (fun _ => 0), bLog g go ar 0 0 (fun _ => 0), [(lt, .inr (2, [.ref ta, .ref ldr]))], bLaw g ldr lda 0 (-1) 0 0 0 (fun _ => 0), bTown g it ia 0 0 0 20 6 50 0 1 (fun _ _ => 0), bLaw g il ic 0 (-1) 0 0 0 (fun _ => 0), bLog g ig ir 0 0 (fun _ => 0), bTown g t0 ta0 0 0 0 20 6 50 0 1 (fun _ _ => 0), bLog g l0 la0 0 0 (fun _ => 0), [(fo, .inr (0, [.ref o, .ref lo, .ref od]))], bTown g od ad 0 0 0 20 6 50 0 1 (fun _ _ => 0), bRid g ro af 0 0 (fun _ => 0), [(oa, .inl (g.2 2, 1, .inr (.inl fz2_2)))], bObj g om am 0 hi2_5 ac2_6 tp2_7 ba2_8 en2_9 tA2_10 fl2_11 de2_12 iD2_13 iO2_14 tU2_15]) H := hP
  have hD : va_D A (List.flatten [bLaw g lo ac 0 (-1) 0 0 0 (fun _ => 0), bLog g go ar 0 0 (fun _ => 0), [(lt, .inr (2, [.ref ta, .ref ldr]))], bLaw g ldr lda 0 (-1) 0 0 0 (fun _ => 0), bTown g it ia 0 0 0 20 6 50 0 1 (fun _ _ => 0), bLaw g il ic 0 (-1) 0 0 0 (fun _ => 0), bLog g ig ir 0 0 (fun _ => 0), bTown g t0 ta0 0 0 0 20 6 50 0 1 (fun _ _ => 0), bLog g l0 la0 0 0 (fun _ => 0), [(fo, .inr (0, [.ref o, .ref lo, .ref od]))], bTown g od ad 0 0 0 20 6 50 0 1 (fun _ _ => 0), bRid g ro af 0 0 (fun _ => 0), [(oa, .inl (g.2 2, 1, .inr (.inl fz2_2)))], bObj g om am 0 hi2_5 ac2_6 tp2_7 ba2_8 en2_9 tA2_10 fl2_11 de2_12 iD2_13 iO2_14 tU2_15]) := hD
  refine W.widen (k := 247) (n := 14991) (Nat.le_of_ble_eq_true rfl) (Nat.le_of_ble_eq_true rfl) ?_
  refine W.eq (g2 := F0 m 371 ls [.int 0]) rfl ?_
  refine lv_iload hx hb dL_law__371 (lv_at hl 1 rfl) ?_
  refine lv_icmp_eq (tgt := 378) hx hb dL_law__373 (by decide) (fun _ => ?_) (fun c19 => absurd (by decide) c19)
  refine lv_iload hx hb dL_law__378 (lv_at hl 1 rfl) ?_
  refine lv_if_ne (tgt := 395) hx hb dL_law__380 (by decide) (fun c20 => absurd (by decide) c20) (fun _ => ?_)
  refine lv_aload_n hx hb dL_law__383 rfl (lv_at hl 3 rfl) ?_
  refine lv_iconst (v := 0) hx hb dL_law__384 (by decide) ?_
  refine va_lald hx hb hK hP 52 2 rfl rfl (zin rfl) dL_law__385 ?_
  refine ztopl (r := fz2_2 0) rfl ?_
  refine lv_iload hx hb dL_law__386 (lv_at hl 0 rfl) ?_
  refine lv_i2l (v := (q_16 : Int32).toInt64) hx hb dL_law__388 rfl ?_
  refine W.lcmp hx hb dL_law__389 ?_
  refine lv_if_eq (tgt := 395) hx hb dL_law__390 (by decide) (fun _ => ?_) (fun c21 => absurd (by rw [hg9, hq9]; exact lg_self _) c21)
  refine lv_goto (tgt := 2738) hx hb dL_law__395 (by decide) ?_
  refine lv_iinc (v := 6) (lv' := [(4, .int 6), (6, .int q_16), (5, .int 0), (3, .ref oa), (2, .ref om), (1, .ref x), (0, .ref b)]) hx hb dL_law__2738 hl (k := 2) rfl (by decide) (by decide) rfl (fun ls hl => ?_)
  refine lv_goto (tgt := 23) hx hb dL_law__2741 (by decide) ?_
  refine lv_iload hx hb dL_law__23 (lv_at hl 0 rfl) ?_
  refine lv_aload_n hx hb dL_law__25 rfl (lv_at hl 6 rfl) ?_
  refine va_slen hx hb hX hbl hbA hS dL_law__26 ?_
  refine ztop (r := 6) rfl ?_
  refine lv_bipush (v := 6) hx hb dL_law__27 (by decide) ?_
  refine lv_isub hx hb dL_law__29 ?_
  refine ztop (r := 0) (by decide) ?_
  refine lv_icmp_gt (tgt := 2744) hx hb dL_law__30 (by decide) (fun _ => ?_) (fun c22 => absurd (by decide) c22)
  refine lv_iconst (v := 1) hx hb dL_law__2744 (by decide) ?_
  refine va_forget (fun q hq => by have h9 := hS.2.2 q hq; rw [hAe] at h9; exact h9) ?_
  refine W.widen (k := 600002) (n := 7302232) (Nat.le_of_ble_eq_true rfl) (Nat.le_of_ble_eq_true rfl) ?_
  exact lw_ret hx hb hr hlocks dL_law__2745
set_option maxRecDepth 100000 in
set_option maxHeartbeats 4000000 in
/-- the law: law -/
theorem w_3 {p : Program} {e : Env} {s : State} {m : MethodId} {below : List Frame} {meth : Method} {c : Code} (l : Launch) (hfl : l.stackTraces = false) (g : zG) {b : Nat} {xs : Nat → Int32} {A : Nat → Prop} (hAe : A = fun q => s.heap.size ≤ q) (hA : ∀ q, s.heap.size ≤ q → A q) (hbA : ¬ A b) (St : CallFix p m c cL_law_ 7 s #[Value.ref b] zB RL) (hr : meth.sig.returnType = ret) (hlocks : meth.locks = false) (hX : va_X b 6 xs s s.heap) (hbl : b < s.heap.size) (hK : zK g s) (hT : zTh A s) (x : Nat) (ta : Nat) (o : Nat) (lo : Nat) (go : Nat) (tt : Nat) (lt : Nat) (mo : Nat) (fo : Nat) (ro : Nat) (ab : Nat) (ac : Nat) (ar : Nat) (td : Nat) (a : Nat → Nat) (tda : Nat → Nat) (ldr : Nat) (lda : Nat) (qT : Nat) (qL : Nat) (it : Nat) (il : Nat) (ig : Nat) (fT : Nat → Option Nat) (fL : Nat → Option Nat) (ia : Nat → Nat) (ic : Nat) (ir : Nat) (t0 : Nat) (ta0 : Nat → Nat) (l0 : Nat) (la0 : Nat) (od : Nat) (ad : Nat → Nat) (af : Nat) (om : Nat) (am : Nat → Nat) (m0 : Nat → Int32) (oa : Nat) (hT0 : fT 0 = some t0) (hL0 : fL 0 = some l0) (hm : zMo m0) (h8 : m0 8 = 0) (h10 : m0 10 = 1) (H : Heap) (locs : List Loc) (ls : Array Slot) (hP : va_P g.1 vwCl (List.flatten [bDR g x ta o lo go tt lt mo fo ro (-1), bTape g ta ab 0 0 0 0 0 (-1) (fun _ => 0), bTown g o a 0 0 0 20 6 50 0 1 (fun _ _ => 0), bLaw g lo ac 0 (-1) 0 0 0 (fun _ => 0), bLog g go ar 0 0 (fun _ => 0), [(tt, .inr (8, [.ref ta, .ref td]))], bTown g td tda 0 0 0 20 6 50 0 1 (fun _ _ => 0), [(lt, .inr (2, [.ref ta, .ref ldr]))], bLaw g ldr lda 0 (-1) 0 0 0 (fun _ => 0), bMem g mo qT qL it il ig 0 0 0 fT fL, bTown g it ia 0 0 0 20 6 50 0 1 (fun _ _ => 0), bLaw g il ic 0 (-1) 0 0 0 (fun _ => 0), bLog g ig ir 0 0 (fun _ => 0), bTown g t0 ta0 0 0 0 20 6 50 0 1 (fun _ _ => 0), bLog g l0 la0 0 0 (fun _ => 0), [(fo, .inr (0, [.ref o, .ref lo, .ref od]))], bTown g od ad 0 0 0 20 6 50 0 1 (fun _ _ => 0), bRid g ro af 0 0 (fun _ => 0), bObj g om am 0 0 0 0 0 0 0 (-1) 0 0 0 0, bArr g am (zf [m0, fun _ => 0, fun _ => 0, fun _ => 0, fun _ => 0, fun _ => 0, fun _ => 0, fun _ => 0]), [(oa, .inl (g.2 2, 1, .inr (.inl (fun _ => 0))))]]) H) (hD : va_D A (List.flatten [bDR g x ta o lo go tt lt mo fo ro (-1), bTape g ta ab 0 0 0 0 0 (-1) (fun _ => 0), bTown g o a 0 0 0 20 6 50 0 1 (fun _ _ => 0), bLaw g lo ac 0 (-1) 0 0 0 (fun _ => 0), bLog g go ar 0 0 (fun _ => 0), [(tt, .inr (8, [.ref ta, .ref td]))], bTown g td tda 0 0 0 20 6 50 0 1 (fun _ _ => 0), [(lt, .inr (2, [.ref ta, .ref ldr]))], bLaw g ldr lda 0 (-1) 0 0 0 (fun _ => 0), bMem g mo qT qL it il ig 0 0 0 fT fL, bTown g it ia 0 0 0 20 6 50 0 1 (fun _ _ => 0), bLaw g il ic 0 (-1) 0 0 0 (fun _ => 0), bLog g ig ir 0 0 (fun _ => 0), bTown g t0 ta0 0 0 0 20 6 50 0 1 (fun _ _ => 0), bLog g l0 la0 0 0 (fun _ => 0), [(fo, .inr (0, [.ref o, .ref lo, .ref od]))], bTown g od ad 0 0 0 20 6 50 0 1 (fun _ _ => 0), bRid g ro af 0 0 (fun _ => 0), bObj g om am 0 0 0 0 0 0 0 (-1) 0 0 0 0, bArr g am (zf [m0, fun _ => 0, fun _ => 0, fun _ => 0, fun _ => 0, fun _ => 0, fun _ => 0, fun _ => 0]), [(oa, .inl (g.2 2, 1, .inr (.inl (fun _ => 0))))]])) (hS : va_S A s.heap H locs) (hl : lv_has ls 7 [(4, .int 0), (3, .ref oa), (2, .ref om), (1, .ref x), (0, .ref b)]) : W p l e room_1 s m #[Value.ref b] below meth c H locs 247 14991 (lw_Z below #[Value.ref b] s) (F0 m 398 ls []) := by
  obtain ⟨hx, hb, hml, hown, hts⟩ := id St
  have hz0 : zZ (fun _ => 0) := zZ0
  refine lv_aload_n hx hb dL_law__398 rfl (lv_at hl 3 rfl) ?_
  refine lv_aload_n hx hb dL_law__399 rfl (lv_at hl 1 rfl) ?_
  refine xcallSX (g := g) (As := [.ref x, .ref oa]) (rest := []) St hK hT hA hP hD hS hl.1 [0, 2, 1, 3, 7, 8, 9, 20] [4, 5, 6, 10, 11, 12, 13, 14, 15, 16, 17, 18, 19] rfl rfl rfl (l_law l g x ta o lo go tt lt mo fo ro (-1) a 0 20 6 50 0 1 (fun _ _ => 0) ac 0 (-1) 0 0 0 (fun _ => 0) ab 0 0 0 0 (-1) (fun _ => 0) qT qL it il ig 0 0 0 fT fL ldr lda 0 (-1) 0 0 0 (fun _ => 0) oa (fun _ => 0) ) (vx_cwSW 2 hts (zgL (zl3 k1320 k1321 k1313) k1162) rfl rfl rfl (by decide +kernel) ⟨Nat.le_of_ble_eq_true rfl, Nat.le_of_ble_eq_true rfl⟩) rfl rfl (Nat.le_of_ble_eq_true rfl) dL_law__400 ⟨(Nat.le_of_ble_eq_true rfl), (Nat.le_of_ble_eq_true rfl)⟩ (fun E ce q9 u9 H locs hpx hP hD hS hce hcv hcl => hpx.elim) (fun u_ H locs hq3 hP hD hS => ?_)
  obtain ⟨r_1, fz2_2⟩ := u_
  have hq3 : r_1 = 0 ∧ fz2_2 0 = (0 : Int32).toInt64 := hq3
  have hP : va_P g.1 vwCl (List.flatten [bLog g go ar 0 0 (fun _ => 0), [(tt, .inr (8, [.ref ta, .ref td]))], bTown g td tda 0 0 0 20 6 50 0 1 (fun _ _ => 0), bTown g it ia 0 0 0 20 6 50 0 1 (fun _ _ => 0), bLaw g il ic 0 (-1) 0 0 0 (fun _ => 0), bLog g ig ir 0 0 (fun _ => 0), bTown g t0 ta0 0 0 0 20 6 50 0 1 (fun _ _ => 0), bLog g l0 la0 0 0 (fun _ => 0), [(fo, .inr (0, [.ref o, .ref lo, .ref od]))], bTown g od ad 0 0 0 20 6 50 0 1 (fun _ _ => 0), bRid g ro af 0 0 (fun _ => 0), bObj g om am 0 0 0 0 0 0 0 (-1) 0 0 0 0, bArr g am (zf [m0, fun _ => 0, fun _ => 0, fun _ => 0, fun _ => 0, fun _ => 0, fun _ => 0, fun _ => 0]), [(oa, .inl (g.2 2, 1, .inr (.inl fz2_2)))]]) H := hP
  have hD : va_D A (List.flatten [bLog g go ar 0 0 (fun _ => 0), [(tt, .inr (8, [.ref ta, .ref td]))], bTown g td tda 0 0 0 20 6 50 0 1 (fun _ _ => 0), bTown g it ia 0 0 0 20 6 50 0 1 (fun _ _ => 0), bLaw g il ic 0 (-1) 0 0 0 (fun _ => 0), bLog g ig ir 0 0 (fun _ => 0), bTown g t0 ta0 0 0 0 20 6 50 0 1 (fun _ _ => 0), bLog g l0 la0 0 0 (fun _ => 0), [(fo, .inr (0, [.ref o, .ref lo, .ref od]))], bTown g od ad 0 0 0 20 6 50 0 1 (fun _ _ => 0), bRid g ro af 0 0 (fun _ => 0), bObj g om am 0 0 0 0 0 0 0 (-1) 0 0 0 0, bArr g am (zf [m0, fun _ => 0, fun _ => 0, fun _ => 0, fun _ => 0, fun _ => 0, fun _ => 0, fun _ => 0]), [(oa, .inl (g.2 2, 1, .inr (.inl fz2_2)))]]) := hD
  refine W.widen (k := 247) (n := 14991) (Nat.le_of_ble_eq_true rfl) (Nat.le_of_ble_eq_true rfl) ?_
  refine W.eq (g2 := F0 m 403 ls [.int r_1]) rfl ?_
  obtain ⟨hr9, hg9⟩ := hq3
  subst hr9
  refine lv_istore (lv' := [(5, .int 0), (4, .int 0), (3, .ref oa), (2, .ref om), (1, .ref x), (0, .ref b)]) hx hb dL_law__403 hl (by decide) rfl (fun ls hl => ?_)
  refine lv_aload_n hx hb dL_law__405 rfl (lv_at hl 3 rfl) ?_
  refine mcallV (g := g) (q0 := 0) (ci := 10) (As := []) (rest := []) St hK hT hA hP hD hS hl.1 [11, 12] [0, 1, 2, 3, 4, 5, 6, 7, 8, 9, 10, 13] rfl rfl rfl (m_law l g om am 0 0 0 0 0 0 (-1) 0 0 0 0 (zf [m0, fun _ => 0, fun _ => 0, fun _ => 0, fun _ => 0, fun _ => 0, fun _ => 0, fun _ => 0]) (by assumption)) (cwV 0 hts (zgL (zl4 k1322 k1323 k1324 k833) k981) rfl rfl rfl (by decide +kernel) ⟨Nat.le_of_ble_eq_true rfl, Nat.le_of_ble_eq_true rfl⟩) rfl rfl rfl rfl (Nat.le_of_ble_eq_true rfl) dL_law__406 ⟨(Nat.le_of_ble_eq_true rfl), (Nat.le_of_ble_eq_true rfl)⟩ (fun u_ H locs hq17 hP hD hS => ?_)
  obtain ⟨th2_4, hi2_5, ac2_6, tp2_7, ba2_8, en2_9, tA2_10, fl2_11, de2_12, iD2_13, iO2_14, tU2_15, q_16⟩ := u_
  have hq17 : th2_4 = 0 ∧ q_16 = 0 := hq17
  have hP : va_P g.1 vwCl (List.flatten [bLog g go ar 0 0 (fun _ => 0), [(tt, .inr (8, [.ref ta, .ref td]))], bTown g td tda 0 0 0 20 6 50 0 1 (fun _ _ => 0), bTown g it ia 0 0 0 20 6 50 0 1 (fun _ _ => 0), bLaw g il ic 0 (-1) 0 0 0 (fun _ => 0), bLog g ig ir 0 0 (fun _ => 0), bTown g t0 ta0 0 0 0 20 6 50 0 1 (fun _ _ => 0), bLog g l0 la0 0 0 (fun _ => 0), [(fo, .inr (0, [.ref o, .ref lo, .ref od]))], bTown g od ad 0 0 0 20 6 50 0 1 (fun _ _ => 0), bRid g ro af 0 0 (fun _ => 0), [(oa, .inl (g.2 2, 1, .inr (.inl fz2_2)))], bObj g om am th2_4 hi2_5 ac2_6 tp2_7 ba2_8 en2_9 tA2_10 fl2_11 de2_12 iD2_13 iO2_14 tU2_15]) H := hP
  have hD : va_D A (List.flatten [bLog g go ar 0 0 (fun _ => 0), [(tt, .inr (8, [.ref ta, .ref td]))], bTown g td tda 0 0 0 20 6 50 0 1 (fun _ _ => 0), bTown g it ia 0 0 0 20 6 50 0 1 (fun _ _ => 0), bLaw g il ic 0 (-1) 0 0 0 (fun _ => 0), bLog g ig ir 0 0 (fun _ => 0), bTown g t0 ta0 0 0 0 20 6 50 0 1 (fun _ _ => 0), bLog g l0 la0 0 0 (fun _ => 0), [(fo, .inr (0, [.ref o, .ref lo, .ref od]))], bTown g od ad 0 0 0 20 6 50 0 1 (fun _ _ => 0), bRid g ro af 0 0 (fun _ => 0), [(oa, .inl (g.2 2, 1, .inr (.inl fz2_2)))], bObj g om am th2_4 hi2_5 ac2_6 tp2_7 ba2_8 en2_9 tA2_10 fl2_11 de2_12 iD2_13 iO2_14 tU2_15]) := hD
  refine W.widen (k := 247) (n := 14991) (Nat.le_of_ble_eq_true rfl) (Nat.le_of_ble_eq_true rfl) ?_
  refine W.eq (g2 := F0 m 409 ls [.int q_16]) rfl ?_
  obtain ⟨ht9, hq9⟩ := hq17
  subst ht9
  refine lv_istore (lv' := [(6, .int q_16), (5, .int 0), (4, .int 0), (3, .ref oa), (2, .ref om), (1, .ref x), (0, .ref b)]) hx hb dL_law__409 hl (by decide) rfl (fun ls hl => ?_)
  refine lv_aload_n hx hb dL_law__411 rfl (lv_at hl 4 rfl) ?_
  refine mcallV (g := g) (q0 := 0) (ci := 10) (As := []) (rest := []) St hK hT hA hP hD hS hl.1 [12] [0, 1, 2, 3, 4, 5, 6, 7, 8, 9, 10, 11] rfl rfl rfl (m_thrown l g om am 0 hi2_5 ac2_6 tp2_7 ba2_8 en2_9 tA2_10 fl2_11 de2_12 iD2_13 iO2_14 tU2_15 ) (cwV 0 hts (zgL (zl4 k1317 k1318 k1319 k833) k824) rfl rfl rfl (by decide +kernel) ⟨Nat.le_of_ble_eq_true rfl, Nat.le_of_ble_eq_true rfl⟩) rfl rfl rfl rfl (Nat.le_of_ble_eq_true rfl) dL_law__412 ⟨(Nat.le_of_ble_eq_true rfl), (Nat.le_of_ble_eq_true rfl)⟩ (fun _u H locs hq18 hP hD hS => ?_)
  have hP : va_P g.1 vwCl (List.flatten [bLog g go ar 0 0 (fun _ => 0), [(tt, .inr (8, [.ref ta, .ref td]))], bTown g td tda 0 0 0 20 6 50 0 1 (fun _ _ => 0), bTown g it ia 0 0 0 20 6 50 0 1 (fun _ _ => 0), bLaw g il ic 0 (-1) 0 0 0 (fun _ => 0), bLog g ig ir 0 0 (fun _ => 0), bTown g t0 ta0 0 0 0 20 6 50 0 1 (fun _ _ => 0), bLog g l0 la0 0 0 (fun _ => 0), [(fo, .inr (0, [.ref o, .ref lo, .ref od]))], bTown g od ad 0 0 0 20 6 50 0 1 (fun _ _ => 0), bRid g ro af 0 0 (fun _ => 0), [(oa, .inl (g.2 2, 1, .inr (.inl fz2_2)))], bObj g om am 0 hi2_5 ac2_6 tp2_7 ba2_8 en2_9 tA2_10 fl2_11 de2_12 iD2_13 iO2_14 tU2_15]) H := hP
  have hD : va_D A (List.flatten [bLog g go ar 0 0 (fun _ => 0), [(tt, .inr (8, [.ref ta, .ref td]))], bTown g td tda 0 0 0 20 6 50 0 1 (fun _ _ => 0), bTown g it ia 0 0 0 20 6 50 0 1 (fun _ _ => 0), bLaw g il ic 0 (-1) 0 0 0 (fun _ => 0), bLog g ig ir 0 0 (fun _ => 0), bTown g t0 ta0 0 0 0 20 6 50 0 1 (fun _ _ => 0), bLog g l0 la0 0 0 (fun _ => 0), [(fo, .inr (0, [.ref o, .ref lo, .ref od]))], bTown g od ad 0 0 0 20 6 50 0 1 (fun _ _ => 0), bRid g ro af 0 0 (fun _ => 0), [(oa, .inl (g.2 2, 1, .inr (.inl fz2_2)))], bObj g om am 0 hi2_5 ac2_6 tp2_7 ba2_8 en2_9 tA2_10 fl2_11 de2_12 iD2_13 iO2_14 tU2_15]) := hD
  refine W.widen (k := 247) (n := 14991) (Nat.le_of_ble_eq_true rfl) (Nat.le_of_ble_eq_true rfl) ?_
  refine W.eq (g2 := F0 m 415 ls [.int 0]) rfl ?_
  refine lv_iload hx hb dL_law__415 (lv_at hl 1 rfl) ?_
  refine lv_icmp_eq (tgt := 422) hx hb dL_law__417 (by decide) (fun _ => ?_) (fun c19 => absurd (by decide) c19)
  refine lv_iload hx hb dL_law__422 (lv_at hl 1 rfl) ?_
  refine lv_if_ne (tgt := 439) hx hb dL_law__424 (by decide) (fun c20 => absurd (by decide) c20) (fun _ => ?_)
  refine lv_aload_n hx hb dL_law__427 rfl (lv_at hl 3 rfl) ?_
  refine lv_iconst (v := 0) hx hb dL_law__428 (by decide) ?_
  refine va_lald hx hb hK hP 60 2 rfl rfl (zin rfl) dL_law__429 ?_
  refine ztopl (r := fz2_2 0) rfl ?_
  refine lv_iload hx hb dL_law__430 (lv_at hl 0 rfl) ?_
  refine lv_i2l (v := (q_16 : Int32).toInt64) hx hb dL_law__432 rfl ?_
  refine W.lcmp hx hb dL_law__433 ?_
  refine lv_if_eq (tgt := 439) hx hb dL_law__434 (by decide) (fun _ => ?_) (fun c21 => absurd (by rw [hg9, hq9]; exact lg_self _) c21)
  refine lv_goto (tgt := 2738) hx hb dL_law__439 (by decide) ?_
  refine lv_iinc (v := 6) (lv' := [(4, .int 6), (6, .int q_16), (5, .int 0), (3, .ref oa), (2, .ref om), (1, .ref x), (0, .ref b)]) hx hb dL_law__2738 hl (k := 2) rfl (by decide) (by decide) rfl (fun ls hl => ?_)
  refine lv_goto (tgt := 23) hx hb dL_law__2741 (by decide) ?_
  refine lv_iload hx hb dL_law__23 (lv_at hl 0 rfl) ?_
  refine lv_aload_n hx hb dL_law__25 rfl (lv_at hl 6 rfl) ?_
  refine va_slen hx hb hX hbl hbA hS dL_law__26 ?_
  refine ztop (r := 6) rfl ?_
  refine lv_bipush (v := 6) hx hb dL_law__27 (by decide) ?_
  refine lv_isub hx hb dL_law__29 ?_
  refine ztop (r := 0) (by decide) ?_
  refine lv_icmp_gt (tgt := 2744) hx hb dL_law__30 (by decide) (fun _ => ?_) (fun c22 => absurd (by decide) c22)
  refine lv_iconst (v := 1) hx hb dL_law__2744 (by decide) ?_
  refine va_forget (fun q hq => by have h9 := hS.2.2 q hq; rw [hAe] at h9; exact h9) ?_
  refine W.widen (k := 600002) (n := 7302232) (Nat.le_of_ble_eq_true rfl) (Nat.le_of_ble_eq_true rfl) ?_
  exact lw_ret hx hb hr hlocks dL_law__2745
set_option maxRecDepth 100000 in
set_option maxHeartbeats 4000000 in
/-- the law: fault -/
theorem w_4 {p : Program} {e : Env} {s : State} {m : MethodId} {below : List Frame} {meth : Method} {c : Code} (l : Launch) (hfl : l.stackTraces = false) (g : zG) {b : Nat} {xs : Nat → Int32} {A : Nat → Prop} (hAe : A = fun q => s.heap.size ≤ q) (hA : ∀ q, s.heap.size ≤ q → A q) (hbA : ¬ A b) (St : CallFix p m c cL_law_ 7 s #[Value.ref b] zB RL) (hr : meth.sig.returnType = ret) (hlocks : meth.locks = false) (hX : va_X b 6 xs s s.heap) (hbl : b < s.heap.size) (hK : zK g s) (hT : zTh A s) (x : Nat) (ta : Nat) (o : Nat) (lo : Nat) (go : Nat) (tt : Nat) (lt : Nat) (mo : Nat) (fo : Nat) (ro : Nat) (ab : Nat) (ac : Nat) (ar : Nat) (td : Nat) (a : Nat → Nat) (tda : Nat → Nat) (ldr : Nat) (lda : Nat) (qT : Nat) (qL : Nat) (it : Nat) (il : Nat) (ig : Nat) (fT : Nat → Option Nat) (fL : Nat → Option Nat) (ia : Nat → Nat) (ic : Nat) (ir : Nat) (t0 : Nat) (ta0 : Nat → Nat) (l0 : Nat) (la0 : Nat) (od : Nat) (ad : Nat → Nat) (af : Nat) (om : Nat) (am : Nat → Nat) (m0 : Nat → Int32) (oa : Nat) (hT0 : fT 0 = some t0) (hL0 : fL 0 = some l0) (hm : zMo m0) (h8 : m0 8 = 0) (h10 : m0 10 = 1) (H : Heap) (locs : List Loc) (ls : Array Slot) (hP : va_P g.1 vwCl (List.flatten [bDR g x ta o lo go tt lt mo fo ro (-1), bTape g ta ab 0 0 0 0 0 (-1) (fun _ => 0), bTown g o a 0 0 0 20 6 50 0 1 (fun _ _ => 0), bLaw g lo ac 0 (-1) 0 0 0 (fun _ => 0), bLog g go ar 0 0 (fun _ => 0), [(tt, .inr (8, [.ref ta, .ref td]))], bTown g td tda 0 0 0 20 6 50 0 1 (fun _ _ => 0), [(lt, .inr (2, [.ref ta, .ref ldr]))], bLaw g ldr lda 0 (-1) 0 0 0 (fun _ => 0), bMem g mo qT qL it il ig 0 0 0 fT fL, bTown g it ia 0 0 0 20 6 50 0 1 (fun _ _ => 0), bLaw g il ic 0 (-1) 0 0 0 (fun _ => 0), bLog g ig ir 0 0 (fun _ => 0), bTown g t0 ta0 0 0 0 20 6 50 0 1 (fun _ _ => 0), bLog g l0 la0 0 0 (fun _ => 0), [(fo, .inr (0, [.ref o, .ref lo, .ref od]))], bTown g od ad 0 0 0 20 6 50 0 1 (fun _ _ => 0), bRid g ro af 0 0 (fun _ => 0), bObj g om am 0 0 0 0 0 0 0 (-1) 0 0 0 0, bArr g am (zf [m0, fun _ => 0, fun _ => 0, fun _ => 0, fun _ => 0, fun _ => 0, fun _ => 0, fun _ => 0]), [(oa, .inl (g.2 2, 1, .inr (.inl (fun _ => 0))))]]) H) (hD : va_D A (List.flatten [bDR g x ta o lo go tt lt mo fo ro (-1), bTape g ta ab 0 0 0 0 0 (-1) (fun _ => 0), bTown g o a 0 0 0 20 6 50 0 1 (fun _ _ => 0), bLaw g lo ac 0 (-1) 0 0 0 (fun _ => 0), bLog g go ar 0 0 (fun _ => 0), [(tt, .inr (8, [.ref ta, .ref td]))], bTown g td tda 0 0 0 20 6 50 0 1 (fun _ _ => 0), [(lt, .inr (2, [.ref ta, .ref ldr]))], bLaw g ldr lda 0 (-1) 0 0 0 (fun _ => 0), bMem g mo qT qL it il ig 0 0 0 fT fL, bTown g it ia 0 0 0 20 6 50 0 1 (fun _ _ => 0), bLaw g il ic 0 (-1) 0 0 0 (fun _ => 0), bLog g ig ir 0 0 (fun _ => 0), bTown g t0 ta0 0 0 0 20 6 50 0 1 (fun _ _ => 0), bLog g l0 la0 0 0 (fun _ => 0), [(fo, .inr (0, [.ref o, .ref lo, .ref od]))], bTown g od ad 0 0 0 20 6 50 0 1 (fun _ _ => 0), bRid g ro af 0 0 (fun _ => 0), bObj g om am 0 0 0 0 0 0 0 (-1) 0 0 0 0, bArr g am (zf [m0, fun _ => 0, fun _ => 0, fun _ => 0, fun _ => 0, fun _ => 0, fun _ => 0, fun _ => 0]), [(oa, .inl (g.2 2, 1, .inr (.inl (fun _ => 0))))]])) (hS : va_S A s.heap H locs) (hl : lv_has ls 7 [(4, .int 0), (3, .ref oa), (2, .ref om), (1, .ref x), (0, .ref b)]) : W p l e room_1 s m #[Value.ref b] below meth c H locs 247 14991 (lw_Z below #[Value.ref b] s) (F0 m 442 ls []) := by
  obtain ⟨hx, hb, hml, hown, hts⟩ := id St
  have hz0 : zZ (fun _ => 0) := zZ0
  refine lv_aload_n hx hb dL_law__442 rfl (lv_at hl 3 rfl) ?_
  refine mcallV (g := g) (q0 := 0) (ci := 9) (As := []) (rest := []) St hK hT hA hP hD hS hl.1 [0, 2] [1, 3, 4, 5, 6, 7, 8, 9, 10, 11, 12, 13, 14, 15, 16, 17, 18, 19, 20] rfl rfl rfl (c_fault l g x ta o lo go tt lt mo fo ro (-1) a 0 20 6 50 0 1 (fun _ _ => 0) ) (cwV 0 hts (zgL (zl4 k1325 k1326 k1327 k595) k580) rfl rfl rfl (by decide +kernel) ⟨Nat.le_of_ble_eq_true rfl, Nat.le_of_ble_eq_true rfl⟩) rfl rfl rfl rfl (Nat.le_of_ble_eq_true rfl) dL_law__443 ⟨(Nat.le_of_ble_eq_true rfl), (Nat.le_of_ble_eq_true rfl)⟩ (fun _u H locs hq1 hP hD hS => ?_)
  have hP : va_P g.1 vwCl (List.flatten [bTape g ta ab 0 0 0 0 0 (-1) (fun _ => 0), bLaw g lo ac 0 (-1) 0 0 0 (fun _ => 0), bLog g go ar 0 0 (fun _ => 0), [(tt, .inr (8, [.ref ta, .ref td]))], bTown g td tda 0 0 0 20 6 50 0 1 (fun _ _ => 0), [(lt, .inr (2, [.ref ta, .ref ldr]))], bLaw g ldr lda 0 (-1) 0 0 0 (fun _ => 0), bMem g mo qT qL it il ig 0 0 0 fT fL, bTown g it ia 0 0 0 20 6 50 0 1 (fun _ _ => 0), bLaw g il ic 0 (-1) 0 0 0 (fun _ => 0), bLog g ig ir 0 0 (fun _ => 0), bTown g t0 ta0 0 0 0 20 6 50 0 1 (fun _ _ => 0), bLog g l0 la0 0 0 (fun _ => 0), [(fo, .inr (0, [.ref o, .ref lo, .ref od]))], bTown g od ad 0 0 0 20 6 50 0 1 (fun _ _ => 0), bRid g ro af 0 0 (fun _ => 0), bObj g om am 0 0 0 0 0 0 0 (-1) 0 0 0 0, bArr g am (zf [m0, fun _ => 0, fun _ => 0, fun _ => 0, fun _ => 0, fun _ => 0, fun _ => 0, fun _ => 0]), [(oa, .inl (g.2 2, 1, .inr (.inl (fun _ => 0))))]]) H := hP
  have hD : va_D A (List.flatten [bTape g ta ab 0 0 0 0 0 (-1) (fun _ => 0), bLaw g lo ac 0 (-1) 0 0 0 (fun _ => 0), bLog g go ar 0 0 (fun _ => 0), [(tt, .inr (8, [.ref ta, .ref td]))], bTown g td tda 0 0 0 20 6 50 0 1 (fun _ _ => 0), [(lt, .inr (2, [.ref ta, .ref ldr]))], bLaw g ldr lda 0 (-1) 0 0 0 (fun _ => 0), bMem g mo qT qL it il ig 0 0 0 fT fL, bTown g it ia 0 0 0 20 6 50 0 1 (fun _ _ => 0), bLaw g il ic 0 (-1) 0 0 0 (fun _ => 0), bLog g ig ir 0 0 (fun _ => 0), bTown g t0 ta0 0 0 0 20 6 50 0 1 (fun _ _ => 0), bLog g l0 la0 0 0 (fun _ => 0), [(fo, .inr (0, [.ref o, .ref lo, .ref od]))], bTown g od ad 0 0 0 20 6 50 0 1 (fun _ _ => 0), bRid g ro af 0 0 (fun _ => 0), bObj g om am 0 0 0 0 0 0 0 (-1) 0 0 0 0, bArr g am (zf [m0, fun _ => 0, fun _ => 0, fun _ => 0, fun _ => 0, fun _ => 0, fun _ => 0, fun _ => 0]), [(oa, .inl (g.2 2, 1, .inr (.inl (fun _ => 0))))]]) := hD
  refine W.widen (k := 247) (n := 14991) (Nat.le_of_ble_eq_true rfl) (Nat.le_of_ble_eq_true rfl) ?_
  refine W.eq (g2 := F0 m 446 ls [.int (-1)]) rfl ?_
  refine lv_aload_n hx hb dL_law__446 rfl (lv_at hl 2 rfl) ?_
  refine mcallV (g := g) (q0 := 0) (ci := 10) (As := []) (rest := [.int (-1)]) St hK hT hA hP hD hS hl.1 [16, 17] [0, 1, 2, 3, 4, 5, 6, 7, 8, 9, 10, 11, 12, 13, 14, 15, 18] rfl rfl rfl (m_fault l g om am 0 0 0 0 0 0 0 0 0 0 0 (zf [m0, fun _ => 0, fun _ => 0, fun _ => 0, fun _ => 0, fun _ => 0, fun _ => 0, fun _ => 0]) (by assumption)) (cwV 0 hts (zgL (zl4 k1328 k1329 k1330 k833) k982) rfl rfl rfl (by decide +kernel) ⟨Nat.le_of_ble_eq_true rfl, Nat.le_of_ble_eq_true rfl⟩) rfl rfl rfl rfl (Nat.le_of_ble_eq_true rfl) dL_law__447 ⟨(Nat.le_of_ble_eq_true rfl), (Nat.le_of_ble_eq_true rfl)⟩ (fun u_ H locs hq15 hP hD hS => ?_)
  obtain ⟨th2_2, hi2_3, ac2_4, tp2_5, ba2_6, en2_7, tA2_8, fl2_9, de2_10, iD2_11, iO2_12, tU2_13, q_14⟩ := u_
  have hq15 : th2_2 = 0 ∧ q_14 = -1 := hq15
  have hP : va_P g.1 vwCl (List.flatten [bTape g ta ab 0 0 0 0 0 (-1) (fun _ => 0), bLaw g lo ac 0 (-1) 0 0 0 (fun _ => 0), bLog g go ar 0 0 (fun _ => 0), [(tt, .inr (8, [.ref ta, .ref td]))], bTown g td tda 0 0 0 20 6 50 0 1 (fun _ _ => 0), [(lt, .inr (2, [.ref ta, .ref ldr]))], bLaw g ldr lda 0 (-1) 0 0 0 (fun _ => 0), bMem g mo qT qL it il ig 0 0 0 fT fL, bTown g it ia 0 0 0 20 6 50 0 1 (fun _ _ => 0), bLaw g il ic 0 (-1) 0 0 0 (fun _ => 0), bLog g ig ir 0 0 (fun _ => 0), bTown g t0 ta0 0 0 0 20 6 50 0 1 (fun _ _ => 0), bLog g l0 la0 0 0 (fun _ => 0), [(fo, .inr (0, [.ref o, .ref lo, .ref od]))], bTown g od ad 0 0 0 20 6 50 0 1 (fun _ _ => 0), bRid g ro af 0 0 (fun _ => 0), [(oa, .inl (g.2 2, 1, .inr (.inl (fun _ => 0))))], bObj g om am th2_2 hi2_3 ac2_4 tp2_5 ba2_6 en2_7 tA2_8 fl2_9 de2_10 iD2_11 iO2_12 tU2_13]) H := hP
  have hD : va_D A (List.flatten [bTape g ta ab 0 0 0 0 0 (-1) (fun _ => 0), bLaw g lo ac 0 (-1) 0 0 0 (fun _ => 0), bLog g go ar 0 0 (fun _ => 0), [(tt, .inr (8, [.ref ta, .ref td]))], bTown g td tda 0 0 0 20 6 50 0 1 (fun _ _ => 0), [(lt, .inr (2, [.ref ta, .ref ldr]))], bLaw g ldr lda 0 (-1) 0 0 0 (fun _ => 0), bMem g mo qT qL it il ig 0 0 0 fT fL, bTown g it ia 0 0 0 20 6 50 0 1 (fun _ _ => 0), bLaw g il ic 0 (-1) 0 0 0 (fun _ => 0), bLog g ig ir 0 0 (fun _ => 0), bTown g t0 ta0 0 0 0 20 6 50 0 1 (fun _ _ => 0), bLog g l0 la0 0 0 (fun _ => 0), [(fo, .inr (0, [.ref o, .ref lo, .ref od]))], bTown g od ad 0 0 0 20 6 50 0 1 (fun _ _ => 0), bRid g ro af 0 0 (fun _ => 0), [(oa, .inl (g.2 2, 1, .inr (.inl (fun _ => 0))))], bObj g om am th2_2 hi2_3 ac2_4 tp2_5 ba2_6 en2_7 tA2_8 fl2_9 de2_10 iD2_11 iO2_12 tU2_13]) := hD
  refine W.widen (k := 247) (n := 14991) (Nat.le_of_ble_eq_true rfl) (Nat.le_of_ble_eq_true rfl) ?_
  refine W.eq (g2 := F0 m 450 ls [.int q_14, .int (-1)]) rfl ?_
  refine lv_icmp_eq (tgt := 2738) hx hb dL_law__450 (by decide) (fun _ => ?_) (fun c16 => absurd ((hq15.2).symm) c16)
  refine lv_iinc (v := 6) (lv' := [(4, .int 6), (3, .ref oa), (2, .ref om), (1, .ref x), (0, .ref b)]) hx hb dL_law__2738 hl (k := 0) rfl (by decide) (by decide) rfl (fun ls hl => ?_)
  refine lv_goto (tgt := 23) hx hb dL_law__2741 (by decide) ?_
  refine lv_iload hx hb dL_law__23 (lv_at hl 0 rfl) ?_
  refine lv_aload_n hx hb dL_law__25 rfl (lv_at hl 4 rfl) ?_
  refine va_slen hx hb hX hbl hbA hS dL_law__26 ?_
  refine ztop (r := 6) rfl ?_
  refine lv_bipush (v := 6) hx hb dL_law__27 (by decide) ?_
  refine lv_isub hx hb dL_law__29 ?_
  refine ztop (r := 0) (by decide) ?_
  refine lv_icmp_gt (tgt := 2744) hx hb dL_law__30 (by decide) (fun _ => ?_) (fun c17 => absurd (by decide) c17)
  refine lv_iconst (v := 1) hx hb dL_law__2744 (by decide) ?_
  refine va_forget (fun q hq => by have h9 := hS.2.2 q hq; rw [hAe] at h9; exact h9) ?_
  refine W.widen (k := 600002) (n := 7302232) (Nat.le_of_ble_eq_true rfl) (Nat.le_of_ble_eq_true rfl) ?_
  exact lw_ret hx hb hr hlocks dL_law__2745
set_option maxRecDepth 100000 in
set_option maxHeartbeats 4000000 in
/-- the law: person -/
theorem w_5 {p : Program} {e : Env} {s : State} {m : MethodId} {below : List Frame} {meth : Method} {c : Code} (l : Launch) (hfl : l.stackTraces = false) (g : zG) {b : Nat} {xs : Nat → Int32} {A : Nat → Prop} (hAe : A = fun q => s.heap.size ≤ q) (hA : ∀ q, s.heap.size ≤ q → A q) (hbA : ¬ A b) (St : CallFix p m c cL_law_ 7 s #[Value.ref b] zB RL) (hr : meth.sig.returnType = ret) (hlocks : meth.locks = false) (hX : va_X b 6 xs s s.heap) (hbl : b < s.heap.size) (hK : zK g s) (hT : zTh A s) (x : Nat) (ta : Nat) (o : Nat) (lo : Nat) (go : Nat) (tt : Nat) (lt : Nat) (mo : Nat) (fo : Nat) (ro : Nat) (ab : Nat) (ac : Nat) (ar : Nat) (td : Nat) (a : Nat → Nat) (tda : Nat → Nat) (ldr : Nat) (lda : Nat) (qT : Nat) (qL : Nat) (it : Nat) (il : Nat) (ig : Nat) (fT : Nat → Option Nat) (fL : Nat → Option Nat) (ia : Nat → Nat) (ic : Nat) (ir : Nat) (t0 : Nat) (ta0 : Nat → Nat) (l0 : Nat) (la0 : Nat) (od : Nat) (ad : Nat → Nat) (af : Nat) (om : Nat) (am : Nat → Nat) (m0 : Nat → Int32) (oa : Nat) (hT0 : fT 0 = some t0) (hL0 : fL 0 = some l0) (hm : zMo m0) (h8 : m0 8 = 0) (h10 : m0 10 = 1) (H : Heap) (locs : List Loc) (ls : Array Slot) (hP : va_P g.1 vwCl (List.flatten [bDR g x ta o lo go tt lt mo fo ro (-1), bTape g ta ab 0 0 0 0 0 (-1) (fun _ => 0), bTown g o a 0 0 0 20 6 50 0 1 (fun _ _ => 0), bLaw g lo ac 0 (-1) 0 0 0 (fun _ => 0), bLog g go ar 0 0 (fun _ => 0), [(tt, .inr (8, [.ref ta, .ref td]))], bTown g td tda 0 0 0 20 6 50 0 1 (fun _ _ => 0), [(lt, .inr (2, [.ref ta, .ref ldr]))], bLaw g ldr lda 0 (-1) 0 0 0 (fun _ => 0), bMem g mo qT qL it il ig 0 0 0 fT fL, bTown g it ia 0 0 0 20 6 50 0 1 (fun _ _ => 0), bLaw g il ic 0 (-1) 0 0 0 (fun _ => 0), bLog g ig ir 0 0 (fun _ => 0), bTown g t0 ta0 0 0 0 20 6 50 0 1 (fun _ _ => 0), bLog g l0 la0 0 0 (fun _ => 0), [(fo, .inr (0, [.ref o, .ref lo, .ref od]))], bTown g od ad 0 0 0 20 6 50 0 1 (fun _ _ => 0), bRid g ro af 0 0 (fun _ => 0), bObj g om am 0 0 0 0 0 0 0 (-1) 0 0 0 0, bArr g am (zf [m0, fun _ => 0, fun _ => 0, fun _ => 0, fun _ => 0, fun _ => 0, fun _ => 0, fun _ => 0]), [(oa, .inl (g.2 2, 1, .inr (.inl (fun _ => 0))))]]) H) (hD : va_D A (List.flatten [bDR g x ta o lo go tt lt mo fo ro (-1), bTape g ta ab 0 0 0 0 0 (-1) (fun _ => 0), bTown g o a 0 0 0 20 6 50 0 1 (fun _ _ => 0), bLaw g lo ac 0 (-1) 0 0 0 (fun _ => 0), bLog g go ar 0 0 (fun _ => 0), [(tt, .inr (8, [.ref ta, .ref td]))], bTown g td tda 0 0 0 20 6 50 0 1 (fun _ _ => 0), [(lt, .inr (2, [.ref ta, .ref ldr]))], bLaw g ldr lda 0 (-1) 0 0 0 (fun _ => 0), bMem g mo qT qL it il ig 0 0 0 fT fL, bTown g it ia 0 0 0 20 6 50 0 1 (fun _ _ => 0), bLaw g il ic 0 (-1) 0 0 0 (fun _ => 0), bLog g ig ir 0 0 (fun _ => 0), bTown g t0 ta0 0 0 0 20 6 50 0 1 (fun _ _ => 0), bLog g l0 la0 0 0 (fun _ => 0), [(fo, .inr (0, [.ref o, .ref lo, .ref od]))], bTown g od ad 0 0 0 20 6 50 0 1 (fun _ _ => 0), bRid g ro af 0 0 (fun _ => 0), bObj g om am 0 0 0 0 0 0 0 (-1) 0 0 0 0, bArr g am (zf [m0, fun _ => 0, fun _ => 0, fun _ => 0, fun _ => 0, fun _ => 0, fun _ => 0, fun _ => 0]), [(oa, .inl (g.2 2, 1, .inr (.inl (fun _ => 0))))]])) (hS : va_S A s.heap H locs) (hl : lv_has ls 7 [(4, .int 0), (3, .ref oa), (2, .ref om), (1, .ref x), (0, .ref b)]) : W p l e room_1 s m #[Value.ref b] below meth c H locs 247 14991 (lw_Z below #[Value.ref b] s) (F0 m 455 ls []) := by
  obtain ⟨hx, hb, hml, hown, hts⟩ := id St
  have hz0 : zZ (fun _ => 0) := zZ0
  refine lv_aload_n hx hb dL_law__455 rfl (lv_at hl 3 rfl) ?_
  refine lv_aload_n hx hb dL_law__456 rfl (lv_at hl 4 rfl) ?_
  refine lv_iload hx hb dL_law__457 (lv_at hl 0 rfl) ?_
  refine lv_iconst (v := 1) hx hb dL_law__459 (by decide) ?_
  refine lv_iadd hx hb dL_law__460 ?_
  refine ztop (r := 1) (by decide) ?_
  refine va_sld hx hb hX hbl hbA hS (zin rfl) dL_law__461 ?_
  refine ztop (r := xs 1) rfl ?_
  refine lv_aload_n hx hb dL_law__462 rfl (lv_at hl 4 rfl) ?_
  refine lv_iload hx hb dL_law__463 (lv_at hl 0 rfl) ?_
  refine lv_iconst (v := 2) hx hb dL_law__465 (by decide) ?_
  refine lv_iadd hx hb dL_law__466 ?_
  refine ztop (r := 2) (by decide) ?_
  refine va_sld hx hb hX hbl hbA hS (zin rfl) dL_law__467 ?_
  refine ztop (r := xs 2) rfl ?_
  refine lv_aload_n hx hb dL_law__468 rfl (lv_at hl 1 rfl) ?_
  refine xcallSX (g := g) (As := [.ref x, .int (xs 1), .int (xs 2), .ref oa]) (rest := []) St hK hT hA hP hD hS hl.1 [0, 2, 20] [1, 3, 4, 5, 6, 7, 8, 9, 10, 11, 12, 13, 14, 15, 16, 17, 18, 19] rfl rfl rfl (l_person l hfl g x ta o lo go tt lt mo fo ro (-1) o a 0 20 6 50 0 1 (fun _ _ => 0) (xs 1) (xs 2) oa (fun _ => 0) ) (vx_cwSW 4 hts (zgL (zl3 k1331 k1332 k1313) k1168) rfl rfl rfl (by decide +kernel) ⟨Nat.le_of_ble_eq_true rfl, Nat.le_of_ble_eq_true rfl⟩) rfl rfl (Nat.le_of_ble_eq_true rfl) dL_law__469 ⟨(Nat.le_of_ble_eq_true rfl), (Nat.le_of_ble_eq_true rfl)⟩ (fun E ce q9 u9 H locs hpx hP hD hS hce hcv hcl => hpx.elim) (fun u_ H locs hq3 hP hD hS => ?_)
  obtain ⟨r_1, fz2_2⟩ := u_
  have hq3 : r_1 = 1 := hq3
  have hP : va_P g.1 vwCl (List.flatten [bTape g ta ab 0 0 0 0 0 (-1) (fun _ => 0), bLaw g lo ac 0 (-1) 0 0 0 (fun _ => 0), bLog g go ar 0 0 (fun _ => 0), [(tt, .inr (8, [.ref ta, .ref td]))], bTown g td tda 0 0 0 20 6 50 0 1 (fun _ _ => 0), [(lt, .inr (2, [.ref ta, .ref ldr]))], bLaw g ldr lda 0 (-1) 0 0 0 (fun _ => 0), bMem g mo qT qL it il ig 0 0 0 fT fL, bTown g it ia 0 0 0 20 6 50 0 1 (fun _ _ => 0), bLaw g il ic 0 (-1) 0 0 0 (fun _ => 0), bLog g ig ir 0 0 (fun _ => 0), bTown g t0 ta0 0 0 0 20 6 50 0 1 (fun _ _ => 0), bLog g l0 la0 0 0 (fun _ => 0), [(fo, .inr (0, [.ref o, .ref lo, .ref od]))], bTown g od ad 0 0 0 20 6 50 0 1 (fun _ _ => 0), bRid g ro af 0 0 (fun _ => 0), bObj g om am 0 0 0 0 0 0 0 (-1) 0 0 0 0, bArr g am (zf [m0, fun _ => 0, fun _ => 0, fun _ => 0, fun _ => 0, fun _ => 0, fun _ => 0, fun _ => 0]), [(oa, .inl (g.2 2, 1, .inr (.inl fz2_2)))]]) H := hP
  have hD : va_D A (List.flatten [bTape g ta ab 0 0 0 0 0 (-1) (fun _ => 0), bLaw g lo ac 0 (-1) 0 0 0 (fun _ => 0), bLog g go ar 0 0 (fun _ => 0), [(tt, .inr (8, [.ref ta, .ref td]))], bTown g td tda 0 0 0 20 6 50 0 1 (fun _ _ => 0), [(lt, .inr (2, [.ref ta, .ref ldr]))], bLaw g ldr lda 0 (-1) 0 0 0 (fun _ => 0), bMem g mo qT qL it il ig 0 0 0 fT fL, bTown g it ia 0 0 0 20 6 50 0 1 (fun _ _ => 0), bLaw g il ic 0 (-1) 0 0 0 (fun _ => 0), bLog g ig ir 0 0 (fun _ => 0), bTown g t0 ta0 0 0 0 20 6 50 0 1 (fun _ _ => 0), bLog g l0 la0 0 0 (fun _ => 0), [(fo, .inr (0, [.ref o, .ref lo, .ref od]))], bTown g od ad 0 0 0 20 6 50 0 1 (fun _ _ => 0), bRid g ro af 0 0 (fun _ => 0), bObj g om am 0 0 0 0 0 0 0 (-1) 0 0 0 0, bArr g am (zf [m0, fun _ => 0, fun _ => 0, fun _ => 0, fun _ => 0, fun _ => 0, fun _ => 0, fun _ => 0]), [(oa, .inl (g.2 2, 1, .inr (.inl fz2_2)))]]) := hD
  refine W.widen (k := 248) (n := 14997) (Nat.le_of_ble_eq_true rfl) (Nat.le_of_ble_eq_true rfl) ?_
  refine W.eq (g2 := F0 m 472 ls [.int r_1]) rfl ?_
  subst hq3
  refine lv_istore (lv' := [(5, .int 1), (4, .int 0), (3, .ref oa), (2, .ref om), (1, .ref x), (0, .ref b)]) hx hb dL_law__472 hl (by decide) rfl (fun ls hl => ?_)
  refine lv_aload_n hx hb dL_law__474 rfl (lv_at hl 3 rfl) ?_
  refine lv_aload_n hx hb dL_law__475 rfl (lv_at hl 5 rfl) ?_
  refine lv_iload hx hb dL_law__476 (lv_at hl 1 rfl) ?_
  refine lv_iconst (v := 1) hx hb dL_law__478 (by decide) ?_
  refine lv_iadd hx hb dL_law__479 ?_
  refine ztop (r := 1) (by decide) ?_
  refine va_sld hx hb hX hbl hbA hS (zin rfl) dL_law__480 ?_
  refine ztop (r := xs 1) rfl ?_
  refine lv_aload_n hx hb dL_law__481 rfl (lv_at hl 5 rfl) ?_
  refine lv_iload hx hb dL_law__482 (lv_at hl 1 rfl) ?_
  refine lv_iconst (v := 2) hx hb dL_law__484 (by decide) ?_
  refine lv_iadd hx hb dL_law__485 ?_
  refine ztop (r := 2) (by decide) ?_
  refine va_sld hx hb hX hbl hbA hS (zin rfl) dL_law__486 ?_
  refine ztop (r := xs 2) rfl ?_
  refine mcallV (g := g) (q0 := 0) (ci := 10) (As := [.int (xs 1), .int (xs 2)]) (rest := []) St hK hT hA hP hD hS hl.1 [16, 17] [0, 1, 2, 3, 4, 5, 6, 7, 8, 9, 10, 11, 12, 13, 14, 15, 18] rfl rfl rfl (m_person l g om am 0 0 0 0 0 0 0 (-1) 0 0 0 0 (zf [m0, fun _ => 0, fun _ => 0, fun _ => 0, fun _ => 0, fun _ => 0, fun _ => 0, fun _ => 0]) (xs 1) (xs 2) (by assumption)) (cwV 2 hts (zgL (zl4 k1333 k1334 k1335 k833) k1038) rfl rfl rfl (by decide +kernel) ⟨Nat.le_of_ble_eq_true rfl, Nat.le_of_ble_eq_true rfl⟩) rfl rfl rfl rfl (Nat.le_of_ble_eq_true rfl) dL_law__487 ⟨(Nat.le_of_ble_eq_true rfl), (Nat.le_of_ble_eq_true rfl)⟩ (fun u_ H locs hq17 hP hD hS => ?_)
  obtain ⟨th2_4, hi2_5, ac2_6, tp2_7, ba2_8, en2_9, tA2_10, fl2_11, de2_12, iD2_13, iO2_14, tU2_15, q_16⟩ := u_
  have hq17 : th2_4 = 1 := hq17
  have hP : va_P g.1 vwCl (List.flatten [bTape g ta ab 0 0 0 0 0 (-1) (fun _ => 0), bLaw g lo ac 0 (-1) 0 0 0 (fun _ => 0), bLog g go ar 0 0 (fun _ => 0), [(tt, .inr (8, [.ref ta, .ref td]))], bTown g td tda 0 0 0 20 6 50 0 1 (fun _ _ => 0), [(lt, .inr (2, [.ref ta, .ref ldr]))], bLaw g ldr lda 0 (-1) 0 0 0 (fun _ => 0), bMem g mo qT qL it il ig 0 0 0 fT fL, bTown g it ia 0 0 0 20 6 50 0 1 (fun _ _ => 0), bLaw g il ic 0 (-1) 0 0 0 (fun _ => 0), bLog g ig ir 0 0 (fun _ => 0), bTown g t0 ta0 0 0 0 20 6 50 0 1 (fun _ _ => 0), bLog g l0 la0 0 0 (fun _ => 0), [(fo, .inr (0, [.ref o, .ref lo, .ref od]))], bTown g od ad 0 0 0 20 6 50 0 1 (fun _ _ => 0), bRid g ro af 0 0 (fun _ => 0), [(oa, .inl (g.2 2, 1, .inr (.inl fz2_2)))], bObj g om am th2_4 hi2_5 ac2_6 tp2_7 ba2_8 en2_9 tA2_10 fl2_11 de2_12 iD2_13 iO2_14 tU2_15]) H := hP
  have hD : va_D A (List.flatten [bTape g ta ab 0 0 0 0 0 (-1) (fun _ => 0), bLaw g lo ac 0 (-1) 0 0 0 (fun _ => 0), bLog g go ar 0 0 (fun _ => 0), [(tt, .inr (8, [.ref ta, .ref td]))], bTown g td tda 0 0 0 20 6 50 0 1 (fun _ _ => 0), [(lt, .inr (2, [.ref ta, .ref ldr]))], bLaw g ldr lda 0 (-1) 0 0 0 (fun _ => 0), bMem g mo qT qL it il ig 0 0 0 fT fL, bTown g it ia 0 0 0 20 6 50 0 1 (fun _ _ => 0), bLaw g il ic 0 (-1) 0 0 0 (fun _ => 0), bLog g ig ir 0 0 (fun _ => 0), bTown g t0 ta0 0 0 0 20 6 50 0 1 (fun _ _ => 0), bLog g l0 la0 0 0 (fun _ => 0), [(fo, .inr (0, [.ref o, .ref lo, .ref od]))], bTown g od ad 0 0 0 20 6 50 0 1 (fun _ _ => 0), bRid g ro af 0 0 (fun _ => 0), [(oa, .inl (g.2 2, 1, .inr (.inl fz2_2)))], bObj g om am th2_4 hi2_5 ac2_6 tp2_7 ba2_8 en2_9 tA2_10 fl2_11 de2_12 iD2_13 iO2_14 tU2_15]) := hD
  refine W.widen (k := 248) (n := 14997) (Nat.le_of_ble_eq_true rfl) (Nat.le_of_ble_eq_true rfl) ?_
  refine W.eq (g2 := F0 m 490 ls [.int q_16]) rfl ?_
  subst hq17
  refine lv_istore (lv' := [(6, .int q_16), (5, .int 1), (4, .int 0), (3, .ref oa), (2, .ref om), (1, .ref x), (0, .ref b)]) hx hb dL_law__490 hl (by decide) rfl (fun ls hl => ?_)
  refine lv_aload_n hx hb dL_law__492 rfl (lv_at hl 4 rfl) ?_
  refine mcallV (g := g) (q0 := 0) (ci := 10) (As := []) (rest := []) St hK hT hA hP hD hS hl.1 [17] [0, 1, 2, 3, 4, 5, 6, 7, 8, 9, 10, 11, 12, 13, 14, 15, 16] rfl rfl rfl (m_thrown l g om am 1 hi2_5 ac2_6 tp2_7 ba2_8 en2_9 tA2_10 fl2_11 de2_12 iD2_13 iO2_14 tU2_15 ) (cwV 0 hts (zgL (zl4 k1317 k1318 k1319 k833) k824) rfl rfl rfl (by decide +kernel) ⟨Nat.le_of_ble_eq_true rfl, Nat.le_of_ble_eq_true rfl⟩) rfl rfl rfl rfl (Nat.le_of_ble_eq_true rfl) dL_law__493 ⟨(Nat.le_of_ble_eq_true rfl), (Nat.le_of_ble_eq_true rfl)⟩ (fun _u H locs hq18 hP hD hS => ?_)
  have hP : va_P g.1 vwCl (List.flatten [bTape g ta ab 0 0 0 0 0 (-1) (fun _ => 0), bLaw g lo ac 0 (-1) 0 0 0 (fun _ => 0), bLog g go ar 0 0 (fun _ => 0), [(tt, .inr (8, [.ref ta, .ref td]))], bTown g td tda 0 0 0 20 6 50 0 1 (fun _ _ => 0), [(lt, .inr (2, [.ref ta, .ref ldr]))], bLaw g ldr lda 0 (-1) 0 0 0 (fun _ => 0), bMem g mo qT qL it il ig 0 0 0 fT fL, bTown g it ia 0 0 0 20 6 50 0 1 (fun _ _ => 0), bLaw g il ic 0 (-1) 0 0 0 (fun _ => 0), bLog g ig ir 0 0 (fun _ => 0), bTown g t0 ta0 0 0 0 20 6 50 0 1 (fun _ _ => 0), bLog g l0 la0 0 0 (fun _ => 0), [(fo, .inr (0, [.ref o, .ref lo, .ref od]))], bTown g od ad 0 0 0 20 6 50 0 1 (fun _ _ => 0), bRid g ro af 0 0 (fun _ => 0), [(oa, .inl (g.2 2, 1, .inr (.inl fz2_2)))], bObj g om am 1 hi2_5 ac2_6 tp2_7 ba2_8 en2_9 tA2_10 fl2_11 de2_12 iD2_13 iO2_14 tU2_15]) H := hP
  have hD : va_D A (List.flatten [bTape g ta ab 0 0 0 0 0 (-1) (fun _ => 0), bLaw g lo ac 0 (-1) 0 0 0 (fun _ => 0), bLog g go ar 0 0 (fun _ => 0), [(tt, .inr (8, [.ref ta, .ref td]))], bTown g td tda 0 0 0 20 6 50 0 1 (fun _ _ => 0), [(lt, .inr (2, [.ref ta, .ref ldr]))], bLaw g ldr lda 0 (-1) 0 0 0 (fun _ => 0), bMem g mo qT qL it il ig 0 0 0 fT fL, bTown g it ia 0 0 0 20 6 50 0 1 (fun _ _ => 0), bLaw g il ic 0 (-1) 0 0 0 (fun _ => 0), bLog g ig ir 0 0 (fun _ => 0), bTown g t0 ta0 0 0 0 20 6 50 0 1 (fun _ _ => 0), bLog g l0 la0 0 0 (fun _ => 0), [(fo, .inr (0, [.ref o, .ref lo, .ref od]))], bTown g od ad 0 0 0 20 6 50 0 1 (fun _ _ => 0), bRid g ro af 0 0 (fun _ => 0), [(oa, .inl (g.2 2, 1, .inr (.inl fz2_2)))], bObj g om am 1 hi2_5 ac2_6 tp2_7 ba2_8 en2_9 tA2_10 fl2_11 de2_12 iD2_13 iO2_14 tU2_15]) := hD
  refine W.widen (k := 248) (n := 14997) (Nat.le_of_ble_eq_true rfl) (Nat.le_of_ble_eq_true rfl) ?_
  refine W.eq (g2 := F0 m 496 ls [.int 1]) rfl ?_
  refine lv_iload hx hb dL_law__496 (lv_at hl 1 rfl) ?_
  refine lv_icmp_eq (tgt := 503) hx hb dL_law__498 (by decide) (fun _ => ?_) (fun c19 => absurd (by decide) c19)
  refine lv_iload hx hb dL_law__503 (lv_at hl 1 rfl) ?_
  refine lv_if_ne (tgt := 520) hx hb dL_law__505 (by decide) (fun _ => ?_) (fun c20 => absurd c20 (by decide))
  refine lv_goto (tgt := 2738) hx hb dL_law__520 (by decide) ?_
  refine lv_iinc (v := 6) (lv' := [(4, .int 6), (6, .int q_16), (5, .int 1), (3, .ref oa), (2, .ref om), (1, .ref x), (0, .ref b)]) hx hb dL_law__2738 hl (k := 2) rfl (by decide) (by decide) rfl (fun ls hl => ?_)
  refine lv_goto (tgt := 23) hx hb dL_law__2741 (by decide) ?_
  refine lv_iload hx hb dL_law__23 (lv_at hl 0 rfl) ?_
  refine lv_aload_n hx hb dL_law__25 rfl (lv_at hl 6 rfl) ?_
  refine va_slen hx hb hX hbl hbA hS dL_law__26 ?_
  refine ztop (r := 6) rfl ?_
  refine lv_bipush (v := 6) hx hb dL_law__27 (by decide) ?_
  refine lv_isub hx hb dL_law__29 ?_
  refine ztop (r := 0) (by decide) ?_
  refine lv_icmp_gt (tgt := 2744) hx hb dL_law__30 (by decide) (fun _ => ?_) (fun c21 => absurd (by decide) c21)
  refine lv_iconst (v := 1) hx hb dL_law__2744 (by decide) ?_
  refine va_forget (fun q hq => by have h9 := hS.2.2 q hq; rw [hAe] at h9; exact h9) ?_
  refine W.widen (k := 600002) (n := 7302232) (Nat.le_of_ble_eq_true rfl) (Nat.le_of_ble_eq_true rfl) ?_
  exact lw_ret hx hb hr hlocks dL_law__2745
set_option maxRecDepth 100000 in
set_option maxHeartbeats 4000000 in
/-- the law: trust -/
theorem w_6 {p : Program} {e : Env} {s : State} {m : MethodId} {below : List Frame} {meth : Method} {c : Code} (l : Launch) (hfl : l.stackTraces = false) (g : zG) {b : Nat} {xs : Nat → Int32} {A : Nat → Prop} (hAe : A = fun q => s.heap.size ≤ q) (hA : ∀ q, s.heap.size ≤ q → A q) (hbA : ¬ A b) (St : CallFix p m c cL_law_ 7 s #[Value.ref b] zB RL) (hr : meth.sig.returnType = ret) (hlocks : meth.locks = false) (hX : va_X b 6 xs s s.heap) (hbl : b < s.heap.size) (hK : zK g s) (hT : zTh A s) (x : Nat) (ta : Nat) (o : Nat) (lo : Nat) (go : Nat) (tt : Nat) (lt : Nat) (mo : Nat) (fo : Nat) (ro : Nat) (ab : Nat) (ac : Nat) (ar : Nat) (td : Nat) (a : Nat → Nat) (tda : Nat → Nat) (ldr : Nat) (lda : Nat) (qT : Nat) (qL : Nat) (it : Nat) (il : Nat) (ig : Nat) (fT : Nat → Option Nat) (fL : Nat → Option Nat) (ia : Nat → Nat) (ic : Nat) (ir : Nat) (t0 : Nat) (ta0 : Nat → Nat) (l0 : Nat) (la0 : Nat) (od : Nat) (ad : Nat → Nat) (af : Nat) (om : Nat) (am : Nat → Nat) (m0 : Nat → Int32) (oa : Nat) (hT0 : fT 0 = some t0) (hL0 : fL 0 = some l0) (hm : zMo m0) (h8 : m0 8 = 0) (h10 : m0 10 = 1) (H : Heap) (locs : List Loc) (ls : Array Slot) (hP : va_P g.1 vwCl (List.flatten [bDR g x ta o lo go tt lt mo fo ro (-1), bTape g ta ab 0 0 0 0 0 (-1) (fun _ => 0), bTown g o a 0 0 0 20 6 50 0 1 (fun _ _ => 0), bLaw g lo ac 0 (-1) 0 0 0 (fun _ => 0), bLog g go ar 0 0 (fun _ => 0), [(tt, .inr (8, [.ref ta, .ref td]))], bTown g td tda 0 0 0 20 6 50 0 1 (fun _ _ => 0), [(lt, .inr (2, [.ref ta, .ref ldr]))], bLaw g ldr lda 0 (-1) 0 0 0 (fun _ => 0), bMem g mo qT qL it il ig 0 0 0 fT fL, bTown g it ia 0 0 0 20 6 50 0 1 (fun _ _ => 0), bLaw g il ic 0 (-1) 0 0 0 (fun _ => 0), bLog g ig ir 0 0 (fun _ => 0), bTown g t0 ta0 0 0 0 20 6 50 0 1 (fun _ _ => 0), bLog g l0 la0 0 0 (fun _ => 0), [(fo, .inr (0, [.ref o, .ref lo, .ref od]))], bTown g od ad 0 0 0 20 6 50 0 1 (fun _ _ => 0), bRid g ro af 0 0 (fun _ => 0), bObj g om am 0 0 0 0 0 0 0 (-1) 0 0 0 0, bArr g am (zf [m0, fun _ => 0, fun _ => 0, fun _ => 0, fun _ => 0, fun _ => 0, fun _ => 0, fun _ => 0]), [(oa, .inl (g.2 2, 1, .inr (.inl (fun _ => 0))))]]) H) (hD : va_D A (List.flatten [bDR g x ta o lo go tt lt mo fo ro (-1), bTape g ta ab 0 0 0 0 0 (-1) (fun _ => 0), bTown g o a 0 0 0 20 6 50 0 1 (fun _ _ => 0), bLaw g lo ac 0 (-1) 0 0 0 (fun _ => 0), bLog g go ar 0 0 (fun _ => 0), [(tt, .inr (8, [.ref ta, .ref td]))], bTown g td tda 0 0 0 20 6 50 0 1 (fun _ _ => 0), [(lt, .inr (2, [.ref ta, .ref ldr]))], bLaw g ldr lda 0 (-1) 0 0 0 (fun _ => 0), bMem g mo qT qL it il ig 0 0 0 fT fL, bTown g it ia 0 0 0 20 6 50 0 1 (fun _ _ => 0), bLaw g il ic 0 (-1) 0 0 0 (fun _ => 0), bLog g ig ir 0 0 (fun _ => 0), bTown g t0 ta0 0 0 0 20 6 50 0 1 (fun _ _ => 0), bLog g l0 la0 0 0 (fun _ => 0), [(fo, .inr (0, [.ref o, .ref lo, .ref od]))], bTown g od ad 0 0 0 20 6 50 0 1 (fun _ _ => 0), bRid g ro af 0 0 (fun _ => 0), bObj g om am 0 0 0 0 0 0 0 (-1) 0 0 0 0, bArr g am (zf [m0, fun _ => 0, fun _ => 0, fun _ => 0, fun _ => 0, fun _ => 0, fun _ => 0, fun _ => 0]), [(oa, .inl (g.2 2, 1, .inr (.inl (fun _ => 0))))]])) (hS : va_S A s.heap H locs) (hl : lv_has ls 7 [(4, .int 0), (3, .ref oa), (2, .ref om), (1, .ref x), (0, .ref b)]) : W p l e room_1 s m #[Value.ref b] below meth c H locs 247 14991 (lw_Z below #[Value.ref b] s) (F0 m 523 ls []) := by
  obtain ⟨hx, hb, hml, hown, hts⟩ := id St
  have hz0 : zZ (fun _ => 0) := zZ0
  refine lv_aload_n hx hb dL_law__523 rfl (lv_at hl 3 rfl) ?_
  refine lv_aload_n hx hb dL_law__524 rfl (lv_at hl 4 rfl) ?_
  refine lv_iload hx hb dL_law__525 (lv_at hl 0 rfl) ?_
  refine lv_iconst (v := 1) hx hb dL_law__527 (by decide) ?_
  refine lv_iadd hx hb dL_law__528 ?_
  refine ztop (r := 1) (by decide) ?_
  refine va_sld hx hb hX hbl hbA hS (zin rfl) dL_law__529 ?_
  refine ztop (r := xs 1) rfl ?_
  refine lv_aload_n hx hb dL_law__530 rfl (lv_at hl 4 rfl) ?_
  refine lv_iload hx hb dL_law__531 (lv_at hl 0 rfl) ?_
  refine lv_iconst (v := 2) hx hb dL_law__533 (by decide) ?_
  refine lv_iadd hx hb dL_law__534 ?_
  refine ztop (r := 2) (by decide) ?_
  refine va_sld hx hb hX hbl hbA hS (zin rfl) dL_law__535 ?_
  refine ztop (r := xs 2) rfl ?_
  refine lv_aload_n hx hb dL_law__536 rfl (lv_at hl 1 rfl) ?_
  refine xcallSX (g := g) (As := [.ref x, .int (xs 1), .int (xs 2), .ref oa]) (rest := []) St hK hT hA hP hD hS hl.1 [0, 2, 20] [1, 3, 4, 5, 6, 7, 8, 9, 10, 11, 12, 13, 14, 15, 16, 17, 18, 19] rfl rfl rfl (l_trust l hfl g x ta o lo go tt lt mo fo ro (-1) o a 0 20 6 50 0 1 (fun _ _ => 0) (xs 1) (xs 2) oa (fun _ => 0) ) (vx_cwSW 4 hts (zgL (zl3 k1336 k1337 k1313) k1172) rfl rfl rfl (by decide +kernel) ⟨Nat.le_of_ble_eq_true rfl, Nat.le_of_ble_eq_true rfl⟩) rfl rfl (Nat.le_of_ble_eq_true rfl) dL_law__537 ⟨(Nat.le_of_ble_eq_true rfl), (Nat.le_of_ble_eq_true rfl)⟩ (fun E ce q9 u9 H locs hpx hP hD hS hce hcv hcl => hpx.elim) (fun u_ H locs hq3 hP hD hS => ?_)
  obtain ⟨r_1, fz2_2⟩ := u_
  have hq3 : r_1 = 1 := hq3
  have hP : va_P g.1 vwCl (List.flatten [bTape g ta ab 0 0 0 0 0 (-1) (fun _ => 0), bLaw g lo ac 0 (-1) 0 0 0 (fun _ => 0), bLog g go ar 0 0 (fun _ => 0), [(tt, .inr (8, [.ref ta, .ref td]))], bTown g td tda 0 0 0 20 6 50 0 1 (fun _ _ => 0), [(lt, .inr (2, [.ref ta, .ref ldr]))], bLaw g ldr lda 0 (-1) 0 0 0 (fun _ => 0), bMem g mo qT qL it il ig 0 0 0 fT fL, bTown g it ia 0 0 0 20 6 50 0 1 (fun _ _ => 0), bLaw g il ic 0 (-1) 0 0 0 (fun _ => 0), bLog g ig ir 0 0 (fun _ => 0), bTown g t0 ta0 0 0 0 20 6 50 0 1 (fun _ _ => 0), bLog g l0 la0 0 0 (fun _ => 0), [(fo, .inr (0, [.ref o, .ref lo, .ref od]))], bTown g od ad 0 0 0 20 6 50 0 1 (fun _ _ => 0), bRid g ro af 0 0 (fun _ => 0), bObj g om am 0 0 0 0 0 0 0 (-1) 0 0 0 0, bArr g am (zf [m0, fun _ => 0, fun _ => 0, fun _ => 0, fun _ => 0, fun _ => 0, fun _ => 0, fun _ => 0]), [(oa, .inl (g.2 2, 1, .inr (.inl fz2_2)))]]) H := hP
  have hD : va_D A (List.flatten [bTape g ta ab 0 0 0 0 0 (-1) (fun _ => 0), bLaw g lo ac 0 (-1) 0 0 0 (fun _ => 0), bLog g go ar 0 0 (fun _ => 0), [(tt, .inr (8, [.ref ta, .ref td]))], bTown g td tda 0 0 0 20 6 50 0 1 (fun _ _ => 0), [(lt, .inr (2, [.ref ta, .ref ldr]))], bLaw g ldr lda 0 (-1) 0 0 0 (fun _ => 0), bMem g mo qT qL it il ig 0 0 0 fT fL, bTown g it ia 0 0 0 20 6 50 0 1 (fun _ _ => 0), bLaw g il ic 0 (-1) 0 0 0 (fun _ => 0), bLog g ig ir 0 0 (fun _ => 0), bTown g t0 ta0 0 0 0 20 6 50 0 1 (fun _ _ => 0), bLog g l0 la0 0 0 (fun _ => 0), [(fo, .inr (0, [.ref o, .ref lo, .ref od]))], bTown g od ad 0 0 0 20 6 50 0 1 (fun _ _ => 0), bRid g ro af 0 0 (fun _ => 0), bObj g om am 0 0 0 0 0 0 0 (-1) 0 0 0 0, bArr g am (zf [m0, fun _ => 0, fun _ => 0, fun _ => 0, fun _ => 0, fun _ => 0, fun _ => 0, fun _ => 0]), [(oa, .inl (g.2 2, 1, .inr (.inl fz2_2)))]]) := hD
  refine W.widen (k := 248) (n := 14997) (Nat.le_of_ble_eq_true rfl) (Nat.le_of_ble_eq_true rfl) ?_
  refine W.eq (g2 := F0 m 540 ls [.int r_1]) rfl ?_
  subst hq3
  refine lv_istore (lv' := [(5, .int 1), (4, .int 0), (3, .ref oa), (2, .ref om), (1, .ref x), (0, .ref b)]) hx hb dL_law__540 hl (by decide) rfl (fun ls hl => ?_)
  refine lv_aload_n hx hb dL_law__542 rfl (lv_at hl 3 rfl) ?_
  refine lv_aload_n hx hb dL_law__543 rfl (lv_at hl 5 rfl) ?_
  refine lv_iload hx hb dL_law__544 (lv_at hl 1 rfl) ?_
  refine lv_iconst (v := 1) hx hb dL_law__546 (by decide) ?_
  refine lv_iadd hx hb dL_law__547 ?_
  refine ztop (r := 1) (by decide) ?_
  refine va_sld hx hb hX hbl hbA hS (zin rfl) dL_law__548 ?_
  refine ztop (r := xs 1) rfl ?_
  refine lv_aload_n hx hb dL_law__549 rfl (lv_at hl 5 rfl) ?_
  refine lv_iload hx hb dL_law__550 (lv_at hl 1 rfl) ?_
  refine lv_iconst (v := 2) hx hb dL_law__552 (by decide) ?_
  refine lv_iadd hx hb dL_law__553 ?_
  refine ztop (r := 2) (by decide) ?_
  refine va_sld hx hb hX hbl hbA hS (zin rfl) dL_law__554 ?_
  refine ztop (r := xs 2) rfl ?_
  refine mcallV (g := g) (q0 := 0) (ci := 10) (As := [.int (xs 1), .int (xs 2)]) (rest := []) St hK hT hA hP hD hS hl.1 [16, 17] [0, 1, 2, 3, 4, 5, 6, 7, 8, 9, 10, 11, 12, 13, 14, 15, 18] rfl rfl rfl (m_trust l g om am 0 0 0 0 0 0 0 (-1) 0 0 0 0 (zf [m0, fun _ => 0, fun _ => 0, fun _ => 0, fun _ => 0, fun _ => 0, fun _ => 0, fun _ => 0]) (xs 1) (xs 2) (by assumption)) (cwV 2 hts (zgL (zl4 k1338 k1339 k1340 k833) k1039) rfl rfl rfl (by decide +kernel) ⟨Nat.le_of_ble_eq_true rfl, Nat.le_of_ble_eq_true rfl⟩) rfl rfl rfl rfl (Nat.le_of_ble_eq_true rfl) dL_law__555 ⟨(Nat.le_of_ble_eq_true rfl), (Nat.le_of_ble_eq_true rfl)⟩ (fun u_ H locs hq17 hP hD hS => ?_)
  obtain ⟨th2_4, hi2_5, ac2_6, tp2_7, ba2_8, en2_9, tA2_10, fl2_11, de2_12, iD2_13, iO2_14, tU2_15, q_16⟩ := u_
  have hq17 : th2_4 = 1 := hq17
  have hP : va_P g.1 vwCl (List.flatten [bTape g ta ab 0 0 0 0 0 (-1) (fun _ => 0), bLaw g lo ac 0 (-1) 0 0 0 (fun _ => 0), bLog g go ar 0 0 (fun _ => 0), [(tt, .inr (8, [.ref ta, .ref td]))], bTown g td tda 0 0 0 20 6 50 0 1 (fun _ _ => 0), [(lt, .inr (2, [.ref ta, .ref ldr]))], bLaw g ldr lda 0 (-1) 0 0 0 (fun _ => 0), bMem g mo qT qL it il ig 0 0 0 fT fL, bTown g it ia 0 0 0 20 6 50 0 1 (fun _ _ => 0), bLaw g il ic 0 (-1) 0 0 0 (fun _ => 0), bLog g ig ir 0 0 (fun _ => 0), bTown g t0 ta0 0 0 0 20 6 50 0 1 (fun _ _ => 0), bLog g l0 la0 0 0 (fun _ => 0), [(fo, .inr (0, [.ref o, .ref lo, .ref od]))], bTown g od ad 0 0 0 20 6 50 0 1 (fun _ _ => 0), bRid g ro af 0 0 (fun _ => 0), [(oa, .inl (g.2 2, 1, .inr (.inl fz2_2)))], bObj g om am th2_4 hi2_5 ac2_6 tp2_7 ba2_8 en2_9 tA2_10 fl2_11 de2_12 iD2_13 iO2_14 tU2_15]) H := hP
  have hD : va_D A (List.flatten [bTape g ta ab 0 0 0 0 0 (-1) (fun _ => 0), bLaw g lo ac 0 (-1) 0 0 0 (fun _ => 0), bLog g go ar 0 0 (fun _ => 0), [(tt, .inr (8, [.ref ta, .ref td]))], bTown g td tda 0 0 0 20 6 50 0 1 (fun _ _ => 0), [(lt, .inr (2, [.ref ta, .ref ldr]))], bLaw g ldr lda 0 (-1) 0 0 0 (fun _ => 0), bMem g mo qT qL it il ig 0 0 0 fT fL, bTown g it ia 0 0 0 20 6 50 0 1 (fun _ _ => 0), bLaw g il ic 0 (-1) 0 0 0 (fun _ => 0), bLog g ig ir 0 0 (fun _ => 0), bTown g t0 ta0 0 0 0 20 6 50 0 1 (fun _ _ => 0), bLog g l0 la0 0 0 (fun _ => 0), [(fo, .inr (0, [.ref o, .ref lo, .ref od]))], bTown g od ad 0 0 0 20 6 50 0 1 (fun _ _ => 0), bRid g ro af 0 0 (fun _ => 0), [(oa, .inl (g.2 2, 1, .inr (.inl fz2_2)))], bObj g om am th2_4 hi2_5 ac2_6 tp2_7 ba2_8 en2_9 tA2_10 fl2_11 de2_12 iD2_13 iO2_14 tU2_15]) := hD
  refine W.widen (k := 248) (n := 14997) (Nat.le_of_ble_eq_true rfl) (Nat.le_of_ble_eq_true rfl) ?_
  refine W.eq (g2 := F0 m 558 ls [.int q_16]) rfl ?_
  subst hq17
  refine lv_istore (lv' := [(6, .int q_16), (5, .int 1), (4, .int 0), (3, .ref oa), (2, .ref om), (1, .ref x), (0, .ref b)]) hx hb dL_law__558 hl (by decide) rfl (fun ls hl => ?_)
  refine lv_aload_n hx hb dL_law__560 rfl (lv_at hl 4 rfl) ?_
  refine mcallV (g := g) (q0 := 0) (ci := 10) (As := []) (rest := []) St hK hT hA hP hD hS hl.1 [17] [0, 1, 2, 3, 4, 5, 6, 7, 8, 9, 10, 11, 12, 13, 14, 15, 16] rfl rfl rfl (m_thrown l g om am 1 hi2_5 ac2_6 tp2_7 ba2_8 en2_9 tA2_10 fl2_11 de2_12 iD2_13 iO2_14 tU2_15 ) (cwV 0 hts (zgL (zl4 k1317 k1318 k1319 k833) k824) rfl rfl rfl (by decide +kernel) ⟨Nat.le_of_ble_eq_true rfl, Nat.le_of_ble_eq_true rfl⟩) rfl rfl rfl rfl (Nat.le_of_ble_eq_true rfl) dL_law__561 ⟨(Nat.le_of_ble_eq_true rfl), (Nat.le_of_ble_eq_true rfl)⟩ (fun _u H locs hq18 hP hD hS => ?_)
  have hP : va_P g.1 vwCl (List.flatten [bTape g ta ab 0 0 0 0 0 (-1) (fun _ => 0), bLaw g lo ac 0 (-1) 0 0 0 (fun _ => 0), bLog g go ar 0 0 (fun _ => 0), [(tt, .inr (8, [.ref ta, .ref td]))], bTown g td tda 0 0 0 20 6 50 0 1 (fun _ _ => 0), [(lt, .inr (2, [.ref ta, .ref ldr]))], bLaw g ldr lda 0 (-1) 0 0 0 (fun _ => 0), bMem g mo qT qL it il ig 0 0 0 fT fL, bTown g it ia 0 0 0 20 6 50 0 1 (fun _ _ => 0), bLaw g il ic 0 (-1) 0 0 0 (fun _ => 0), bLog g ig ir 0 0 (fun _ => 0), bTown g t0 ta0 0 0 0 20 6 50 0 1 (fun _ _ => 0), bLog g l0 la0 0 0 (fun _ => 0), [(fo, .inr (0, [.ref o, .ref lo, .ref od]))], bTown g od ad 0 0 0 20 6 50 0 1 (fun _ _ => 0), bRid g ro af 0 0 (fun _ => 0), [(oa, .inl (g.2 2, 1, .inr (.inl fz2_2)))], bObj g om am 1 hi2_5 ac2_6 tp2_7 ba2_8 en2_9 tA2_10 fl2_11 de2_12 iD2_13 iO2_14 tU2_15]) H := hP
  have hD : va_D A (List.flatten [bTape g ta ab 0 0 0 0 0 (-1) (fun _ => 0), bLaw g lo ac 0 (-1) 0 0 0 (fun _ => 0), bLog g go ar 0 0 (fun _ => 0), [(tt, .inr (8, [.ref ta, .ref td]))], bTown g td tda 0 0 0 20 6 50 0 1 (fun _ _ => 0), [(lt, .inr (2, [.ref ta, .ref ldr]))], bLaw g ldr lda 0 (-1) 0 0 0 (fun _ => 0), bMem g mo qT qL it il ig 0 0 0 fT fL, bTown g it ia 0 0 0 20 6 50 0 1 (fun _ _ => 0), bLaw g il ic 0 (-1) 0 0 0 (fun _ => 0), bLog g ig ir 0 0 (fun _ => 0), bTown g t0 ta0 0 0 0 20 6 50 0 1 (fun _ _ => 0), bLog g l0 la0 0 0 (fun _ => 0), [(fo, .inr (0, [.ref o, .ref lo, .ref od]))], bTown g od ad 0 0 0 20 6 50 0 1 (fun _ _ => 0), bRid g ro af 0 0 (fun _ => 0), [(oa, .inl (g.2 2, 1, .inr (.inl fz2_2)))], bObj g om am 1 hi2_5 ac2_6 tp2_7 ba2_8 en2_9 tA2_10 fl2_11 de2_12 iD2_13 iO2_14 tU2_15]) := hD
  refine W.widen (k := 248) (n := 14997) (Nat.le_of_ble_eq_true rfl) (Nat.le_of_ble_eq_true rfl) ?_
  refine W.eq (g2 := F0 m 564 ls [.int 1]) rfl ?_
  refine lv_iload hx hb dL_law__564 (lv_at hl 1 rfl) ?_
  refine lv_icmp_eq (tgt := 571) hx hb dL_law__566 (by decide) (fun _ => ?_) (fun c19 => absurd (by decide) c19)
  refine lv_iload hx hb dL_law__571 (lv_at hl 1 rfl) ?_
  refine lv_if_ne (tgt := 588) hx hb dL_law__573 (by decide) (fun _ => ?_) (fun c20 => absurd c20 (by decide))
  refine lv_goto (tgt := 2738) hx hb dL_law__588 (by decide) ?_
  refine lv_iinc (v := 6) (lv' := [(4, .int 6), (6, .int q_16), (5, .int 1), (3, .ref oa), (2, .ref om), (1, .ref x), (0, .ref b)]) hx hb dL_law__2738 hl (k := 2) rfl (by decide) (by decide) rfl (fun ls hl => ?_)
  refine lv_goto (tgt := 23) hx hb dL_law__2741 (by decide) ?_
  refine lv_iload hx hb dL_law__23 (lv_at hl 0 rfl) ?_
  refine lv_aload_n hx hb dL_law__25 rfl (lv_at hl 6 rfl) ?_
  refine va_slen hx hb hX hbl hbA hS dL_law__26 ?_
  refine ztop (r := 6) rfl ?_
  refine lv_bipush (v := 6) hx hb dL_law__27 (by decide) ?_
  refine lv_isub hx hb dL_law__29 ?_
  refine ztop (r := 0) (by decide) ?_
  refine lv_icmp_gt (tgt := 2744) hx hb dL_law__30 (by decide) (fun _ => ?_) (fun c21 => absurd (by decide) c21)
  refine lv_iconst (v := 1) hx hb dL_law__2744 (by decide) ?_
  refine va_forget (fun q hq => by have h9 := hS.2.2 q hq; rw [hAe] at h9; exact h9) ?_
  refine W.widen (k := 600002) (n := 7302232) (Nat.le_of_ble_eq_true rfl) (Nat.le_of_ble_eq_true rfl) ?_
  exact lw_ret hx hb hr hlocks dL_law__2745
set_option maxRecDepth 100000 in
set_option maxHeartbeats 4000000 in
/-- the law: work -/
theorem w_7 {p : Program} {e : Env} {s : State} {m : MethodId} {below : List Frame} {meth : Method} {c : Code} (l : Launch) (hfl : l.stackTraces = false) (g : zG) {b : Nat} {xs : Nat → Int32} {A : Nat → Prop} (hAe : A = fun q => s.heap.size ≤ q) (hA : ∀ q, s.heap.size ≤ q → A q) (hbA : ¬ A b) (St : CallFix p m c cL_law_ 7 s #[Value.ref b] zB RL) (hr : meth.sig.returnType = ret) (hlocks : meth.locks = false) (hX : va_X b 6 xs s s.heap) (hbl : b < s.heap.size) (hK : zK g s) (hT : zTh A s) (x : Nat) (ta : Nat) (o : Nat) (lo : Nat) (go : Nat) (tt : Nat) (lt : Nat) (mo : Nat) (fo : Nat) (ro : Nat) (ab : Nat) (ac : Nat) (ar : Nat) (td : Nat) (a : Nat → Nat) (tda : Nat → Nat) (ldr : Nat) (lda : Nat) (qT : Nat) (qL : Nat) (it : Nat) (il : Nat) (ig : Nat) (fT : Nat → Option Nat) (fL : Nat → Option Nat) (ia : Nat → Nat) (ic : Nat) (ir : Nat) (t0 : Nat) (ta0 : Nat → Nat) (l0 : Nat) (la0 : Nat) (od : Nat) (ad : Nat → Nat) (af : Nat) (om : Nat) (am : Nat → Nat) (m0 : Nat → Int32) (oa : Nat) (hT0 : fT 0 = some t0) (hL0 : fL 0 = some l0) (hm : zMo m0) (h8 : m0 8 = 0) (h10 : m0 10 = 1) (H : Heap) (locs : List Loc) (ls : Array Slot) (hP : va_P g.1 vwCl (List.flatten [bDR g x ta o lo go tt lt mo fo ro (-1), bTape g ta ab 0 0 0 0 0 (-1) (fun _ => 0), bTown g o a 0 0 0 20 6 50 0 1 (fun _ _ => 0), bLaw g lo ac 0 (-1) 0 0 0 (fun _ => 0), bLog g go ar 0 0 (fun _ => 0), [(tt, .inr (8, [.ref ta, .ref td]))], bTown g td tda 0 0 0 20 6 50 0 1 (fun _ _ => 0), [(lt, .inr (2, [.ref ta, .ref ldr]))], bLaw g ldr lda 0 (-1) 0 0 0 (fun _ => 0), bMem g mo qT qL it il ig 0 0 0 fT fL, bTown g it ia 0 0 0 20 6 50 0 1 (fun _ _ => 0), bLaw g il ic 0 (-1) 0 0 0 (fun _ => 0), bLog g ig ir 0 0 (fun _ => 0), bTown g t0 ta0 0 0 0 20 6 50 0 1 (fun _ _ => 0), bLog g l0 la0 0 0 (fun _ => 0), [(fo, .inr (0, [.ref o, .ref lo, .ref od]))], bTown g od ad 0 0 0 20 6 50 0 1 (fun _ _ => 0), bRid g ro af 0 0 (fun _ => 0), bObj g om am 0 0 0 0 0 0 0 (-1) 0 0 0 0, bArr g am (zf [m0, fun _ => 0, fun _ => 0, fun _ => 0, fun _ => 0, fun _ => 0, fun _ => 0, fun _ => 0]), [(oa, .inl (g.2 2, 1, .inr (.inl (fun _ => 0))))]]) H) (hD : va_D A (List.flatten [bDR g x ta o lo go tt lt mo fo ro (-1), bTape g ta ab 0 0 0 0 0 (-1) (fun _ => 0), bTown g o a 0 0 0 20 6 50 0 1 (fun _ _ => 0), bLaw g lo ac 0 (-1) 0 0 0 (fun _ => 0), bLog g go ar 0 0 (fun _ => 0), [(tt, .inr (8, [.ref ta, .ref td]))], bTown g td tda 0 0 0 20 6 50 0 1 (fun _ _ => 0), [(lt, .inr (2, [.ref ta, .ref ldr]))], bLaw g ldr lda 0 (-1) 0 0 0 (fun _ => 0), bMem g mo qT qL it il ig 0 0 0 fT fL, bTown g it ia 0 0 0 20 6 50 0 1 (fun _ _ => 0), bLaw g il ic 0 (-1) 0 0 0 (fun _ => 0), bLog g ig ir 0 0 (fun _ => 0), bTown g t0 ta0 0 0 0 20 6 50 0 1 (fun _ _ => 0), bLog g l0 la0 0 0 (fun _ => 0), [(fo, .inr (0, [.ref o, .ref lo, .ref od]))], bTown g od ad 0 0 0 20 6 50 0 1 (fun _ _ => 0), bRid g ro af 0 0 (fun _ => 0), bObj g om am 0 0 0 0 0 0 0 (-1) 0 0 0 0, bArr g am (zf [m0, fun _ => 0, fun _ => 0, fun _ => 0, fun _ => 0, fun _ => 0, fun _ => 0, fun _ => 0]), [(oa, .inl (g.2 2, 1, .inr (.inl (fun _ => 0))))]])) (hS : va_S A s.heap H locs) (hl : lv_has ls 7 [(4, .int 0), (3, .ref oa), (2, .ref om), (1, .ref x), (0, .ref b)]) : W p l e room_1 s m #[Value.ref b] below meth c H locs 247 14991 (lw_Z below #[Value.ref b] s) (F0 m 591 ls []) := by
  obtain ⟨hx, hb, hml, hown, hts⟩ := id St
  have hz0 : zZ (fun _ => 0) := zZ0
  refine lv_aload_n hx hb dL_law__591 rfl (lv_at hl 3 rfl) ?_
  refine lv_aload_n hx hb dL_law__592 rfl (lv_at hl 4 rfl) ?_
  refine lv_iload hx hb dL_law__593 (lv_at hl 0 rfl) ?_
  refine lv_iconst (v := 1) hx hb dL_law__595 (by decide) ?_
  refine lv_iadd hx hb dL_law__596 ?_
  refine ztop (r := 1) (by decide) ?_
  refine va_sld hx hb hX hbl hbA hS (zin rfl) dL_law__597 ?_
  refine ztop (r := xs 1) rfl ?_
  refine lv_aload_n hx hb dL_law__598 rfl (lv_at hl 4 rfl) ?_
  refine lv_iload hx hb dL_law__599 (lv_at hl 0 rfl) ?_
  refine lv_iconst (v := 2) hx hb dL_law__601 (by decide) ?_
  refine lv_iadd hx hb dL_law__602 ?_
  refine ztop (r := 2) (by decide) ?_
  refine va_sld hx hb hX hbl hbA hS (zin rfl) dL_law__603 ?_
  refine ztop (r := xs 2) rfl ?_
  refine lv_aload_n hx hb dL_law__604 rfl (lv_at hl 1 rfl) ?_
  refine xcallSX (g := g) (As := [.ref x, .int (xs 1), .int (xs 2), .ref oa]) (rest := []) St hK hT hA hP hD hS hl.1 [0, 2, 20] [1, 3, 4, 5, 6, 7, 8, 9, 10, 11, 12, 13, 14, 15, 16, 17, 18, 19] rfl rfl rfl (l_work l hfl g x ta o lo go tt lt mo fo ro (-1) o a 0 20 6 50 0 1 (fun _ _ => 0) (xs 1) (xs 2) oa (fun _ => 0) ) (vx_cwSW 4 hts (zgL (zl3 k1341 k1342 k1313) k1173) rfl rfl rfl (by decide +kernel) ⟨Nat.le_of_ble_eq_true rfl, Nat.le_of_ble_eq_true rfl⟩) rfl rfl (Nat.le_of_ble_eq_true rfl) dL_law__605 ⟨(Nat.le_of_ble_eq_true rfl), (Nat.le_of_ble_eq_true rfl)⟩ (fun E ce q9 u9 H locs hpx hP hD hS hce hcv hcl => hpx.elim) (fun u_ H locs hq3 hP hD hS => ?_)
  obtain ⟨r_1, fz2_2⟩ := u_
  have hq3 : r_1 = 1 := hq3
  have hP : va_P g.1 vwCl (List.flatten [bTape g ta ab 0 0 0 0 0 (-1) (fun _ => 0), bLaw g lo ac 0 (-1) 0 0 0 (fun _ => 0), bLog g go ar 0 0 (fun _ => 0), [(tt, .inr (8, [.ref ta, .ref td]))], bTown g td tda 0 0 0 20 6 50 0 1 (fun _ _ => 0), [(lt, .inr (2, [.ref ta, .ref ldr]))], bLaw g ldr lda 0 (-1) 0 0 0 (fun _ => 0), bMem g mo qT qL it il ig 0 0 0 fT fL, bTown g it ia 0 0 0 20 6 50 0 1 (fun _ _ => 0), bLaw g il ic 0 (-1) 0 0 0 (fun _ => 0), bLog g ig ir 0 0 (fun _ => 0), bTown g t0 ta0 0 0 0 20 6 50 0 1 (fun _ _ => 0), bLog g l0 la0 0 0 (fun _ => 0), [(fo, .inr (0, [.ref o, .ref lo, .ref od]))], bTown g od ad 0 0 0 20 6 50 0 1 (fun _ _ => 0), bRid g ro af 0 0 (fun _ => 0), bObj g om am 0 0 0 0 0 0 0 (-1) 0 0 0 0, bArr g am (zf [m0, fun _ => 0, fun _ => 0, fun _ => 0, fun _ => 0, fun _ => 0, fun _ => 0, fun _ => 0]), [(oa, .inl (g.2 2, 1, .inr (.inl fz2_2)))]]) H := hP
  have hD : va_D A (List.flatten [bTape g ta ab 0 0 0 0 0 (-1) (fun _ => 0), bLaw g lo ac 0 (-1) 0 0 0 (fun _ => 0), bLog g go ar 0 0 (fun _ => 0), [(tt, .inr (8, [.ref ta, .ref td]))], bTown g td tda 0 0 0 20 6 50 0 1 (fun _ _ => 0), [(lt, .inr (2, [.ref ta, .ref ldr]))], bLaw g ldr lda 0 (-1) 0 0 0 (fun _ => 0), bMem g mo qT qL it il ig 0 0 0 fT fL, bTown g it ia 0 0 0 20 6 50 0 1 (fun _ _ => 0), bLaw g il ic 0 (-1) 0 0 0 (fun _ => 0), bLog g ig ir 0 0 (fun _ => 0), bTown g t0 ta0 0 0 0 20 6 50 0 1 (fun _ _ => 0), bLog g l0 la0 0 0 (fun _ => 0), [(fo, .inr (0, [.ref o, .ref lo, .ref od]))], bTown g od ad 0 0 0 20 6 50 0 1 (fun _ _ => 0), bRid g ro af 0 0 (fun _ => 0), bObj g om am 0 0 0 0 0 0 0 (-1) 0 0 0 0, bArr g am (zf [m0, fun _ => 0, fun _ => 0, fun _ => 0, fun _ => 0, fun _ => 0, fun _ => 0, fun _ => 0]), [(oa, .inl (g.2 2, 1, .inr (.inl fz2_2)))]]) := hD
  refine W.widen (k := 248) (n := 14997) (Nat.le_of_ble_eq_true rfl) (Nat.le_of_ble_eq_true rfl) ?_
  refine W.eq (g2 := F0 m 608 ls [.int r_1]) rfl ?_
  subst hq3
  refine lv_istore (lv' := [(5, .int 1), (4, .int 0), (3, .ref oa), (2, .ref om), (1, .ref x), (0, .ref b)]) hx hb dL_law__608 hl (by decide) rfl (fun ls hl => ?_)
  refine lv_aload_n hx hb dL_law__610 rfl (lv_at hl 3 rfl) ?_
  refine lv_aload_n hx hb dL_law__611 rfl (lv_at hl 5 rfl) ?_
  refine lv_iload hx hb dL_law__612 (lv_at hl 1 rfl) ?_
  refine lv_iconst (v := 1) hx hb dL_law__614 (by decide) ?_
  refine lv_iadd hx hb dL_law__615 ?_
  refine ztop (r := 1) (by decide) ?_
  refine va_sld hx hb hX hbl hbA hS (zin rfl) dL_law__616 ?_
  refine ztop (r := xs 1) rfl ?_
  refine lv_aload_n hx hb dL_law__617 rfl (lv_at hl 5 rfl) ?_
  refine lv_iload hx hb dL_law__618 (lv_at hl 1 rfl) ?_
  refine lv_iconst (v := 2) hx hb dL_law__620 (by decide) ?_
  refine lv_iadd hx hb dL_law__621 ?_
  refine ztop (r := 2) (by decide) ?_
  refine va_sld hx hb hX hbl hbA hS (zin rfl) dL_law__622 ?_
  refine ztop (r := xs 2) rfl ?_
  refine mcallV (g := g) (q0 := 0) (ci := 10) (As := [.int (xs 1), .int (xs 2)]) (rest := []) St hK hT hA hP hD hS hl.1 [16, 17] [0, 1, 2, 3, 4, 5, 6, 7, 8, 9, 10, 11, 12, 13, 14, 15, 18] rfl rfl rfl (m_work l g om am 0 0 0 0 0 0 0 (-1) 0 0 0 0 (zf [m0, fun _ => 0, fun _ => 0, fun _ => 0, fun _ => 0, fun _ => 0, fun _ => 0, fun _ => 0]) (xs 1) (xs 2) (by assumption)) (cwV 2 hts (zgL (zl4 k1343 k1344 k1345 k833) k1040) rfl rfl rfl (by decide +kernel) ⟨Nat.le_of_ble_eq_true rfl, Nat.le_of_ble_eq_true rfl⟩) rfl rfl rfl rfl (Nat.le_of_ble_eq_true rfl) dL_law__623 ⟨(Nat.le_of_ble_eq_true rfl), (Nat.le_of_ble_eq_true rfl)⟩ (fun u_ H locs hq17 hP hD hS => ?_)
  obtain ⟨th2_4, hi2_5, ac2_6, tp2_7, ba2_8, en2_9, tA2_10, fl2_11, de2_12, iD2_13, iO2_14, tU2_15, q_16⟩ := u_
  have hq17 : th2_4 = 1 := hq17
  have hP : va_P g.1 vwCl (List.flatten [bTape g ta ab 0 0 0 0 0 (-1) (fun _ => 0), bLaw g lo ac 0 (-1) 0 0 0 (fun _ => 0), bLog g go ar 0 0 (fun _ => 0), [(tt, .inr (8, [.ref ta, .ref td]))], bTown g td tda 0 0 0 20 6 50 0 1 (fun _ _ => 0), [(lt, .inr (2, [.ref ta, .ref ldr]))], bLaw g ldr lda 0 (-1) 0 0 0 (fun _ => 0), bMem g mo qT qL it il ig 0 0 0 fT fL, bTown g it ia 0 0 0 20 6 50 0 1 (fun _ _ => 0), bLaw g il ic 0 (-1) 0 0 0 (fun _ => 0), bLog g ig ir 0 0 (fun _ => 0), bTown g t0 ta0 0 0 0 20 6 50 0 1 (fun _ _ => 0), bLog g l0 la0 0 0 (fun _ => 0), [(fo, .inr (0, [.ref o, .ref lo, .ref od]))], bTown g od ad 0 0 0 20 6 50 0 1 (fun _ _ => 0), bRid g ro af 0 0 (fun _ => 0), [(oa, .inl (g.2 2, 1, .inr (.inl fz2_2)))], bObj g om am th2_4 hi2_5 ac2_6 tp2_7 ba2_8 en2_9 tA2_10 fl2_11 de2_12 iD2_13 iO2_14 tU2_15]) H := hP
  have hD : va_D A (List.flatten [bTape g ta ab 0 0 0 0 0 (-1) (fun _ => 0), bLaw g lo ac 0 (-1) 0 0 0 (fun _ => 0), bLog g go ar 0 0 (fun _ => 0), [(tt, .inr (8, [.ref ta, .ref td]))], bTown g td tda 0 0 0 20 6 50 0 1 (fun _ _ => 0), [(lt, .inr (2, [.ref ta, .ref ldr]))], bLaw g ldr lda 0 (-1) 0 0 0 (fun _ => 0), bMem g mo qT qL it il ig 0 0 0 fT fL, bTown g it ia 0 0 0 20 6 50 0 1 (fun _ _ => 0), bLaw g il ic 0 (-1) 0 0 0 (fun _ => 0), bLog g ig ir 0 0 (fun _ => 0), bTown g t0 ta0 0 0 0 20 6 50 0 1 (fun _ _ => 0), bLog g l0 la0 0 0 (fun _ => 0), [(fo, .inr (0, [.ref o, .ref lo, .ref od]))], bTown g od ad 0 0 0 20 6 50 0 1 (fun _ _ => 0), bRid g ro af 0 0 (fun _ => 0), [(oa, .inl (g.2 2, 1, .inr (.inl fz2_2)))], bObj g om am th2_4 hi2_5 ac2_6 tp2_7 ba2_8 en2_9 tA2_10 fl2_11 de2_12 iD2_13 iO2_14 tU2_15]) := hD
  refine W.widen (k := 248) (n := 14997) (Nat.le_of_ble_eq_true rfl) (Nat.le_of_ble_eq_true rfl) ?_
  refine W.eq (g2 := F0 m 626 ls [.int q_16]) rfl ?_
  subst hq17
  refine lv_istore (lv' := [(6, .int q_16), (5, .int 1), (4, .int 0), (3, .ref oa), (2, .ref om), (1, .ref x), (0, .ref b)]) hx hb dL_law__626 hl (by decide) rfl (fun ls hl => ?_)
  refine lv_aload_n hx hb dL_law__628 rfl (lv_at hl 4 rfl) ?_
  refine mcallV (g := g) (q0 := 0) (ci := 10) (As := []) (rest := []) St hK hT hA hP hD hS hl.1 [17] [0, 1, 2, 3, 4, 5, 6, 7, 8, 9, 10, 11, 12, 13, 14, 15, 16] rfl rfl rfl (m_thrown l g om am 1 hi2_5 ac2_6 tp2_7 ba2_8 en2_9 tA2_10 fl2_11 de2_12 iD2_13 iO2_14 tU2_15 ) (cwV 0 hts (zgL (zl4 k1317 k1318 k1319 k833) k824) rfl rfl rfl (by decide +kernel) ⟨Nat.le_of_ble_eq_true rfl, Nat.le_of_ble_eq_true rfl⟩) rfl rfl rfl rfl (Nat.le_of_ble_eq_true rfl) dL_law__629 ⟨(Nat.le_of_ble_eq_true rfl), (Nat.le_of_ble_eq_true rfl)⟩ (fun _u H locs hq18 hP hD hS => ?_)
  have hP : va_P g.1 vwCl (List.flatten [bTape g ta ab 0 0 0 0 0 (-1) (fun _ => 0), bLaw g lo ac 0 (-1) 0 0 0 (fun _ => 0), bLog g go ar 0 0 (fun _ => 0), [(tt, .inr (8, [.ref ta, .ref td]))], bTown g td tda 0 0 0 20 6 50 0 1 (fun _ _ => 0), [(lt, .inr (2, [.ref ta, .ref ldr]))], bLaw g ldr lda 0 (-1) 0 0 0 (fun _ => 0), bMem g mo qT qL it il ig 0 0 0 fT fL, bTown g it ia 0 0 0 20 6 50 0 1 (fun _ _ => 0), bLaw g il ic 0 (-1) 0 0 0 (fun _ => 0), bLog g ig ir 0 0 (fun _ => 0), bTown g t0 ta0 0 0 0 20 6 50 0 1 (fun _ _ => 0), bLog g l0 la0 0 0 (fun _ => 0), [(fo, .inr (0, [.ref o, .ref lo, .ref od]))], bTown g od ad 0 0 0 20 6 50 0 1 (fun _ _ => 0), bRid g ro af 0 0 (fun _ => 0), [(oa, .inl (g.2 2, 1, .inr (.inl fz2_2)))], bObj g om am 1 hi2_5 ac2_6 tp2_7 ba2_8 en2_9 tA2_10 fl2_11 de2_12 iD2_13 iO2_14 tU2_15]) H := hP
  have hD : va_D A (List.flatten [bTape g ta ab 0 0 0 0 0 (-1) (fun _ => 0), bLaw g lo ac 0 (-1) 0 0 0 (fun _ => 0), bLog g go ar 0 0 (fun _ => 0), [(tt, .inr (8, [.ref ta, .ref td]))], bTown g td tda 0 0 0 20 6 50 0 1 (fun _ _ => 0), [(lt, .inr (2, [.ref ta, .ref ldr]))], bLaw g ldr lda 0 (-1) 0 0 0 (fun _ => 0), bMem g mo qT qL it il ig 0 0 0 fT fL, bTown g it ia 0 0 0 20 6 50 0 1 (fun _ _ => 0), bLaw g il ic 0 (-1) 0 0 0 (fun _ => 0), bLog g ig ir 0 0 (fun _ => 0), bTown g t0 ta0 0 0 0 20 6 50 0 1 (fun _ _ => 0), bLog g l0 la0 0 0 (fun _ => 0), [(fo, .inr (0, [.ref o, .ref lo, .ref od]))], bTown g od ad 0 0 0 20 6 50 0 1 (fun _ _ => 0), bRid g ro af 0 0 (fun _ => 0), [(oa, .inl (g.2 2, 1, .inr (.inl fz2_2)))], bObj g om am 1 hi2_5 ac2_6 tp2_7 ba2_8 en2_9 tA2_10 fl2_11 de2_12 iD2_13 iO2_14 tU2_15]) := hD
  refine W.widen (k := 248) (n := 14997) (Nat.le_of_ble_eq_true rfl) (Nat.le_of_ble_eq_true rfl) ?_
  refine W.eq (g2 := F0 m 632 ls [.int 1]) rfl ?_
  refine lv_iload hx hb dL_law__632 (lv_at hl 1 rfl) ?_
  refine lv_icmp_eq (tgt := 639) hx hb dL_law__634 (by decide) (fun _ => ?_) (fun c19 => absurd (by decide) c19)
  refine lv_iload hx hb dL_law__639 (lv_at hl 1 rfl) ?_
  refine lv_if_ne (tgt := 656) hx hb dL_law__641 (by decide) (fun _ => ?_) (fun c20 => absurd c20 (by decide))
  refine lv_goto (tgt := 2738) hx hb dL_law__656 (by decide) ?_
  refine lv_iinc (v := 6) (lv' := [(4, .int 6), (6, .int q_16), (5, .int 1), (3, .ref oa), (2, .ref om), (1, .ref x), (0, .ref b)]) hx hb dL_law__2738 hl (k := 2) rfl (by decide) (by decide) rfl (fun ls hl => ?_)
  refine lv_goto (tgt := 23) hx hb dL_law__2741 (by decide) ?_
  refine lv_iload hx hb dL_law__23 (lv_at hl 0 rfl) ?_
  refine lv_aload_n hx hb dL_law__25 rfl (lv_at hl 6 rfl) ?_
  refine va_slen hx hb hX hbl hbA hS dL_law__26 ?_
  refine ztop (r := 6) rfl ?_
  refine lv_bipush (v := 6) hx hb dL_law__27 (by decide) ?_
  refine lv_isub hx hb dL_law__29 ?_
  refine ztop (r := 0) (by decide) ?_
  refine lv_icmp_gt (tgt := 2744) hx hb dL_law__30 (by decide) (fun _ => ?_) (fun c21 => absurd (by decide) c21)
  refine lv_iconst (v := 1) hx hb dL_law__2744 (by decide) ?_
  refine va_forget (fun q hq => by have h9 := hS.2.2 q hq; rw [hAe] at h9; exact h9) ?_
  refine W.widen (k := 600002) (n := 7302232) (Nat.le_of_ble_eq_true rfl) (Nat.le_of_ble_eq_true rfl) ?_
  exact lw_ret hx hb hr hlocks dL_law__2745
set_option maxRecDepth 100000 in
set_option maxHeartbeats 4000000 in
/-- the law: price -/
theorem w_8 {p : Program} {e : Env} {s : State} {m : MethodId} {below : List Frame} {meth : Method} {c : Code} (l : Launch) (hfl : l.stackTraces = false) (g : zG) {b : Nat} {xs : Nat → Int32} {A : Nat → Prop} (hAe : A = fun q => s.heap.size ≤ q) (hA : ∀ q, s.heap.size ≤ q → A q) (hbA : ¬ A b) (St : CallFix p m c cL_law_ 7 s #[Value.ref b] zB RL) (hr : meth.sig.returnType = ret) (hlocks : meth.locks = false) (hX : va_X b 6 xs s s.heap) (hbl : b < s.heap.size) (hK : zK g s) (hT : zTh A s) (x : Nat) (ta : Nat) (o : Nat) (lo : Nat) (go : Nat) (tt : Nat) (lt : Nat) (mo : Nat) (fo : Nat) (ro : Nat) (ab : Nat) (ac : Nat) (ar : Nat) (td : Nat) (a : Nat → Nat) (tda : Nat → Nat) (ldr : Nat) (lda : Nat) (qT : Nat) (qL : Nat) (it : Nat) (il : Nat) (ig : Nat) (fT : Nat → Option Nat) (fL : Nat → Option Nat) (ia : Nat → Nat) (ic : Nat) (ir : Nat) (t0 : Nat) (ta0 : Nat → Nat) (l0 : Nat) (la0 : Nat) (od : Nat) (ad : Nat → Nat) (af : Nat) (om : Nat) (am : Nat → Nat) (m0 : Nat → Int32) (oa : Nat) (hT0 : fT 0 = some t0) (hL0 : fL 0 = some l0) (hm : zMo m0) (h8 : m0 8 = 0) (h10 : m0 10 = 1) (H : Heap) (locs : List Loc) (ls : Array Slot) (hP : va_P g.1 vwCl (List.flatten [bDR g x ta o lo go tt lt mo fo ro (-1), bTape g ta ab 0 0 0 0 0 (-1) (fun _ => 0), bTown g o a 0 0 0 20 6 50 0 1 (fun _ _ => 0), bLaw g lo ac 0 (-1) 0 0 0 (fun _ => 0), bLog g go ar 0 0 (fun _ => 0), [(tt, .inr (8, [.ref ta, .ref td]))], bTown g td tda 0 0 0 20 6 50 0 1 (fun _ _ => 0), [(lt, .inr (2, [.ref ta, .ref ldr]))], bLaw g ldr lda 0 (-1) 0 0 0 (fun _ => 0), bMem g mo qT qL it il ig 0 0 0 fT fL, bTown g it ia 0 0 0 20 6 50 0 1 (fun _ _ => 0), bLaw g il ic 0 (-1) 0 0 0 (fun _ => 0), bLog g ig ir 0 0 (fun _ => 0), bTown g t0 ta0 0 0 0 20 6 50 0 1 (fun _ _ => 0), bLog g l0 la0 0 0 (fun _ => 0), [(fo, .inr (0, [.ref o, .ref lo, .ref od]))], bTown g od ad 0 0 0 20 6 50 0 1 (fun _ _ => 0), bRid g ro af 0 0 (fun _ => 0), bObj g om am 0 0 0 0 0 0 0 (-1) 0 0 0 0, bArr g am (zf [m0, fun _ => 0, fun _ => 0, fun _ => 0, fun _ => 0, fun _ => 0, fun _ => 0, fun _ => 0]), [(oa, .inl (g.2 2, 1, .inr (.inl (fun _ => 0))))]]) H) (hD : va_D A (List.flatten [bDR g x ta o lo go tt lt mo fo ro (-1), bTape g ta ab 0 0 0 0 0 (-1) (fun _ => 0), bTown g o a 0 0 0 20 6 50 0 1 (fun _ _ => 0), bLaw g lo ac 0 (-1) 0 0 0 (fun _ => 0), bLog g go ar 0 0 (fun _ => 0), [(tt, .inr (8, [.ref ta, .ref td]))], bTown g td tda 0 0 0 20 6 50 0 1 (fun _ _ => 0), [(lt, .inr (2, [.ref ta, .ref ldr]))], bLaw g ldr lda 0 (-1) 0 0 0 (fun _ => 0), bMem g mo qT qL it il ig 0 0 0 fT fL, bTown g it ia 0 0 0 20 6 50 0 1 (fun _ _ => 0), bLaw g il ic 0 (-1) 0 0 0 (fun _ => 0), bLog g ig ir 0 0 (fun _ => 0), bTown g t0 ta0 0 0 0 20 6 50 0 1 (fun _ _ => 0), bLog g l0 la0 0 0 (fun _ => 0), [(fo, .inr (0, [.ref o, .ref lo, .ref od]))], bTown g od ad 0 0 0 20 6 50 0 1 (fun _ _ => 0), bRid g ro af 0 0 (fun _ => 0), bObj g om am 0 0 0 0 0 0 0 (-1) 0 0 0 0, bArr g am (zf [m0, fun _ => 0, fun _ => 0, fun _ => 0, fun _ => 0, fun _ => 0, fun _ => 0, fun _ => 0]), [(oa, .inl (g.2 2, 1, .inr (.inl (fun _ => 0))))]])) (hS : va_S A s.heap H locs) (hl : lv_has ls 7 [(4, .int 0), (3, .ref oa), (2, .ref om), (1, .ref x), (0, .ref b)]) : W p l e room_1 s m #[Value.ref b] below meth c H locs 247 14991 (lw_Z below #[Value.ref b] s) (F0 m 659 ls []) := by
  obtain ⟨hx, hb, hml, hown, hts⟩ := id St
  have hz0 : zZ (fun _ => 0) := zZ0
  refine lv_aload_n hx hb dL_law__659 rfl (lv_at hl 3 rfl) ?_
  refine mcallV (g := g) (q0 := 0) (ci := 9) (As := []) (rest := []) St hK hT hA hP hD hS hl.1 [0, 2] [1, 3, 4, 5, 6, 7, 8, 9, 10, 11, 12, 13, 14, 15, 16, 17, 18, 19, 20] rfl rfl rfl (c_price l g x ta o lo go tt lt mo fo ro (-1) a 0 20 6 50 0 1 (fun _ _ => 0) ) (cwV 0 hts (zgL (zl4 k1346 k1347 k1348 k595) k628) rfl rfl rfl (by decide +kernel) ⟨Nat.le_of_ble_eq_true rfl, Nat.le_of_ble_eq_true rfl⟩) rfl rfl rfl rfl (Nat.le_of_ble_eq_true rfl) dL_law__660 ⟨(Nat.le_of_ble_eq_true rfl), (Nat.le_of_ble_eq_true rfl)⟩ (fun _u H locs hq1 hP hD hS => ?_)
  have hP : va_P g.1 vwCl (List.flatten [bTape g ta ab 0 0 0 0 0 (-1) (fun _ => 0), bLaw g lo ac 0 (-1) 0 0 0 (fun _ => 0), bLog g go ar 0 0 (fun _ => 0), [(tt, .inr (8, [.ref ta, .ref td]))], bTown g td tda 0 0 0 20 6 50 0 1 (fun _ _ => 0), [(lt, .inr (2, [.ref ta, .ref ldr]))], bLaw g ldr lda 0 (-1) 0 0 0 (fun _ => 0), bMem g mo qT qL it il ig 0 0 0 fT fL, bTown g it ia 0 0 0 20 6 50 0 1 (fun _ _ => 0), bLaw g il ic 0 (-1) 0 0 0 (fun _ => 0), bLog g ig ir 0 0 (fun _ => 0), bTown g t0 ta0 0 0 0 20 6 50 0 1 (fun _ _ => 0), bLog g l0 la0 0 0 (fun _ => 0), [(fo, .inr (0, [.ref o, .ref lo, .ref od]))], bTown g od ad 0 0 0 20 6 50 0 1 (fun _ _ => 0), bRid g ro af 0 0 (fun _ => 0), bObj g om am 0 0 0 0 0 0 0 (-1) 0 0 0 0, bArr g am (zf [m0, fun _ => 0, fun _ => 0, fun _ => 0, fun _ => 0, fun _ => 0, fun _ => 0, fun _ => 0]), [(oa, .inl (g.2 2, 1, .inr (.inl (fun _ => 0))))]]) H := hP
  have hD : va_D A (List.flatten [bTape g ta ab 0 0 0 0 0 (-1) (fun _ => 0), bLaw g lo ac 0 (-1) 0 0 0 (fun _ => 0), bLog g go ar 0 0 (fun _ => 0), [(tt, .inr (8, [.ref ta, .ref td]))], bTown g td tda 0 0 0 20 6 50 0 1 (fun _ _ => 0), [(lt, .inr (2, [.ref ta, .ref ldr]))], bLaw g ldr lda 0 (-1) 0 0 0 (fun _ => 0), bMem g mo qT qL it il ig 0 0 0 fT fL, bTown g it ia 0 0 0 20 6 50 0 1 (fun _ _ => 0), bLaw g il ic 0 (-1) 0 0 0 (fun _ => 0), bLog g ig ir 0 0 (fun _ => 0), bTown g t0 ta0 0 0 0 20 6 50 0 1 (fun _ _ => 0), bLog g l0 la0 0 0 (fun _ => 0), [(fo, .inr (0, [.ref o, .ref lo, .ref od]))], bTown g od ad 0 0 0 20 6 50 0 1 (fun _ _ => 0), bRid g ro af 0 0 (fun _ => 0), bObj g om am 0 0 0 0 0 0 0 (-1) 0 0 0 0, bArr g am (zf [m0, fun _ => 0, fun _ => 0, fun _ => 0, fun _ => 0, fun _ => 0, fun _ => 0, fun _ => 0]), [(oa, .inl (g.2 2, 1, .inr (.inl (fun _ => 0))))]]) := hD
  refine W.widen (k := 247) (n := 14991) (Nat.le_of_ble_eq_true rfl) (Nat.le_of_ble_eq_true rfl) ?_
  refine W.eq (g2 := F0 m 663 ls [.int 1]) rfl ?_
  refine lv_aload_n hx hb dL_law__663 rfl (lv_at hl 2 rfl) ?_
  refine mcallV (g := g) (q0 := 0) (ci := 10) (As := []) (rest := [.int 1]) St hK hT hA hP hD hS hl.1 [16, 17] [0, 1, 2, 3, 4, 5, 6, 7, 8, 9, 10, 11, 12, 13, 14, 15, 18] rfl rfl rfl (m_price l g om am 0 0 0 0 0 0 0 (-1) 0 0 0 0 (zf [m0, fun _ => 0, fun _ => 0, fun _ => 0, fun _ => 0, fun _ => 0, fun _ => 0, fun _ => 0]) (by assumption)) (cwV 0 hts (zgL (zl4 k1349 k1350 k1351 k833) k1044) rfl rfl rfl (by decide +kernel) ⟨Nat.le_of_ble_eq_true rfl, Nat.le_of_ble_eq_true rfl⟩) rfl rfl rfl rfl (Nat.le_of_ble_eq_true rfl) dL_law__664 ⟨(Nat.le_of_ble_eq_true rfl), (Nat.le_of_ble_eq_true rfl)⟩ (fun u_ H locs hq15 hP hD hS => ?_)
  obtain ⟨th2_2, hi2_3, ac2_4, tp2_5, ba2_6, en2_7, tA2_8, fl2_9, de2_10, iD2_11, iO2_12, tU2_13, q_14⟩ := u_
  have hq15 : th2_2 = 0 ∧ q_14 = 1 := hq15
  have hP : va_P g.1 vwCl (List.flatten [bTape g ta ab 0 0 0 0 0 (-1) (fun _ => 0), bLaw g lo ac 0 (-1) 0 0 0 (fun _ => 0), bLog g go ar 0 0 (fun _ => 0), [(tt, .inr (8, [.ref ta, .ref td]))], bTown g td tda 0 0 0 20 6 50 0 1 (fun _ _ => 0), [(lt, .inr (2, [.ref ta, .ref ldr]))], bLaw g ldr lda 0 (-1) 0 0 0 (fun _ => 0), bMem g mo qT qL it il ig 0 0 0 fT fL, bTown g it ia 0 0 0 20 6 50 0 1 (fun _ _ => 0), bLaw g il ic 0 (-1) 0 0 0 (fun _ => 0), bLog g ig ir 0 0 (fun _ => 0), bTown g t0 ta0 0 0 0 20 6 50 0 1 (fun _ _ => 0), bLog g l0 la0 0 0 (fun _ => 0), [(fo, .inr (0, [.ref o, .ref lo, .ref od]))], bTown g od ad 0 0 0 20 6 50 0 1 (fun _ _ => 0), bRid g ro af 0 0 (fun _ => 0), [(oa, .inl (g.2 2, 1, .inr (.inl (fun _ => 0))))], bObj g om am th2_2 hi2_3 ac2_4 tp2_5 ba2_6 en2_7 tA2_8 fl2_9 de2_10 iD2_11 iO2_12 tU2_13]) H := hP
  have hD : va_D A (List.flatten [bTape g ta ab 0 0 0 0 0 (-1) (fun _ => 0), bLaw g lo ac 0 (-1) 0 0 0 (fun _ => 0), bLog g go ar 0 0 (fun _ => 0), [(tt, .inr (8, [.ref ta, .ref td]))], bTown g td tda 0 0 0 20 6 50 0 1 (fun _ _ => 0), [(lt, .inr (2, [.ref ta, .ref ldr]))], bLaw g ldr lda 0 (-1) 0 0 0 (fun _ => 0), bMem g mo qT qL it il ig 0 0 0 fT fL, bTown g it ia 0 0 0 20 6 50 0 1 (fun _ _ => 0), bLaw g il ic 0 (-1) 0 0 0 (fun _ => 0), bLog g ig ir 0 0 (fun _ => 0), bTown g t0 ta0 0 0 0 20 6 50 0 1 (fun _ _ => 0), bLog g l0 la0 0 0 (fun _ => 0), [(fo, .inr (0, [.ref o, .ref lo, .ref od]))], bTown g od ad 0 0 0 20 6 50 0 1 (fun _ _ => 0), bRid g ro af 0 0 (fun _ => 0), [(oa, .inl (g.2 2, 1, .inr (.inl (fun _ => 0))))], bObj g om am th2_2 hi2_3 ac2_4 tp2_5 ba2_6 en2_7 tA2_8 fl2_9 de2_10 iD2_11 iO2_12 tU2_13]) := hD
  refine W.widen (k := 247) (n := 14991) (Nat.le_of_ble_eq_true rfl) (Nat.le_of_ble_eq_true rfl) ?_
  refine W.eq (g2 := F0 m 667 ls [.int q_14, .int 1]) rfl ?_
  refine lv_icmp_eq (tgt := 2738) hx hb dL_law__667 (by decide) (fun _ => ?_) (fun c16 => absurd ((hq15.2).symm) c16)
  refine lv_iinc (v := 6) (lv' := [(4, .int 6), (3, .ref oa), (2, .ref om), (1, .ref x), (0, .ref b)]) hx hb dL_law__2738 hl (k := 0) rfl (by decide) (by decide) rfl (fun ls hl => ?_)
  refine lv_goto (tgt := 23) hx hb dL_law__2741 (by decide) ?_
  refine lv_iload hx hb dL_law__23 (lv_at hl 0 rfl) ?_
  refine lv_aload_n hx hb dL_law__25 rfl (lv_at hl 4 rfl) ?_
  refine va_slen hx hb hX hbl hbA hS dL_law__26 ?_
  refine ztop (r := 6) rfl ?_
  refine lv_bipush (v := 6) hx hb dL_law__27 (by decide) ?_
  refine lv_isub hx hb dL_law__29 ?_
  refine ztop (r := 0) (by decide) ?_
  refine lv_icmp_gt (tgt := 2744) hx hb dL_law__30 (by decide) (fun _ => ?_) (fun c17 => absurd (by decide) c17)
  refine lv_iconst (v := 1) hx hb dL_law__2744 (by decide) ?_
  refine va_forget (fun q hq => by have h9 := hS.2.2 q hq; rw [hAe] at h9; exact h9) ?_
  refine W.widen (k := 600002) (n := 7302232) (Nat.le_of_ble_eq_true rfl) (Nat.le_of_ble_eq_true rfl) ?_
  exact lw_ret hx hb hr hlocks dL_law__2745
set_option maxRecDepth 100000 in
set_option maxHeartbeats 4000000 in
/-- the law: tell -/
theorem w_9 {p : Program} {e : Env} {s : State} {m : MethodId} {below : List Frame} {meth : Method} {c : Code} (l : Launch) (hfl : l.stackTraces = false) (g : zG) {b : Nat} {xs : Nat → Int32} {A : Nat → Prop} (hAe : A = fun q => s.heap.size ≤ q) (hA : ∀ q, s.heap.size ≤ q → A q) (hbA : ¬ A b) (St : CallFix p m c cL_law_ 7 s #[Value.ref b] zB RL) (hr : meth.sig.returnType = ret) (hlocks : meth.locks = false) (hX : va_X b 6 xs s s.heap) (hbl : b < s.heap.size) (hK : zK g s) (hT : zTh A s) (x : Nat) (ta : Nat) (o : Nat) (lo : Nat) (go : Nat) (tt : Nat) (lt : Nat) (mo : Nat) (fo : Nat) (ro : Nat) (ab : Nat) (ac : Nat) (ar : Nat) (td : Nat) (a : Nat → Nat) (tda : Nat → Nat) (ldr : Nat) (lda : Nat) (qT : Nat) (qL : Nat) (it : Nat) (il : Nat) (ig : Nat) (fT : Nat → Option Nat) (fL : Nat → Option Nat) (ia : Nat → Nat) (ic : Nat) (ir : Nat) (t0 : Nat) (ta0 : Nat → Nat) (l0 : Nat) (la0 : Nat) (od : Nat) (ad : Nat → Nat) (af : Nat) (om : Nat) (am : Nat → Nat) (m0 : Nat → Int32) (oa : Nat) (hT0 : fT 0 = some t0) (hL0 : fL 0 = some l0) (hm : zMo m0) (h8 : m0 8 = 0) (h10 : m0 10 = 1) (H : Heap) (locs : List Loc) (ls : Array Slot) (hP : va_P g.1 vwCl (List.flatten [bDR g x ta o lo go tt lt mo fo ro (-1), bTape g ta ab 0 0 0 0 0 (-1) (fun _ => 0), bTown g o a 0 0 0 20 6 50 0 1 (fun _ _ => 0), bLaw g lo ac 0 (-1) 0 0 0 (fun _ => 0), bLog g go ar 0 0 (fun _ => 0), [(tt, .inr (8, [.ref ta, .ref td]))], bTown g td tda 0 0 0 20 6 50 0 1 (fun _ _ => 0), [(lt, .inr (2, [.ref ta, .ref ldr]))], bLaw g ldr lda 0 (-1) 0 0 0 (fun _ => 0), bMem g mo qT qL it il ig 0 0 0 fT fL, bTown g it ia 0 0 0 20 6 50 0 1 (fun _ _ => 0), bLaw g il ic 0 (-1) 0 0 0 (fun _ => 0), bLog g ig ir 0 0 (fun _ => 0), bTown g t0 ta0 0 0 0 20 6 50 0 1 (fun _ _ => 0), bLog g l0 la0 0 0 (fun _ => 0), [(fo, .inr (0, [.ref o, .ref lo, .ref od]))], bTown g od ad 0 0 0 20 6 50 0 1 (fun _ _ => 0), bRid g ro af 0 0 (fun _ => 0), bObj g om am 0 0 0 0 0 0 0 (-1) 0 0 0 0, bArr g am (zf [m0, fun _ => 0, fun _ => 0, fun _ => 0, fun _ => 0, fun _ => 0, fun _ => 0, fun _ => 0]), [(oa, .inl (g.2 2, 1, .inr (.inl (fun _ => 0))))]]) H) (hD : va_D A (List.flatten [bDR g x ta o lo go tt lt mo fo ro (-1), bTape g ta ab 0 0 0 0 0 (-1) (fun _ => 0), bTown g o a 0 0 0 20 6 50 0 1 (fun _ _ => 0), bLaw g lo ac 0 (-1) 0 0 0 (fun _ => 0), bLog g go ar 0 0 (fun _ => 0), [(tt, .inr (8, [.ref ta, .ref td]))], bTown g td tda 0 0 0 20 6 50 0 1 (fun _ _ => 0), [(lt, .inr (2, [.ref ta, .ref ldr]))], bLaw g ldr lda 0 (-1) 0 0 0 (fun _ => 0), bMem g mo qT qL it il ig 0 0 0 fT fL, bTown g it ia 0 0 0 20 6 50 0 1 (fun _ _ => 0), bLaw g il ic 0 (-1) 0 0 0 (fun _ => 0), bLog g ig ir 0 0 (fun _ => 0), bTown g t0 ta0 0 0 0 20 6 50 0 1 (fun _ _ => 0), bLog g l0 la0 0 0 (fun _ => 0), [(fo, .inr (0, [.ref o, .ref lo, .ref od]))], bTown g od ad 0 0 0 20 6 50 0 1 (fun _ _ => 0), bRid g ro af 0 0 (fun _ => 0), bObj g om am 0 0 0 0 0 0 0 (-1) 0 0 0 0, bArr g am (zf [m0, fun _ => 0, fun _ => 0, fun _ => 0, fun _ => 0, fun _ => 0, fun _ => 0, fun _ => 0]), [(oa, .inl (g.2 2, 1, .inr (.inl (fun _ => 0))))]])) (hS : va_S A s.heap H locs) (hl : lv_has ls 7 [(4, .int 0), (3, .ref oa), (2, .ref om), (1, .ref x), (0, .ref b)]) : W p l e room_1 s m #[Value.ref b] below meth c H locs 247 14991 (lw_Z below #[Value.ref b] s) (F0 m 672 ls []) := by
  obtain ⟨hx, hb, hml, hown, hts⟩ := id St
  have hz0 : zZ (fun _ => 0) := zZ0
  refine lv_aload_n hx hb dL_law__672 rfl (lv_at hl 3 rfl) ?_
  refine lv_aload_n hx hb dL_law__673 rfl (lv_at hl 4 rfl) ?_
  refine lv_iload hx hb dL_law__674 (lv_at hl 0 rfl) ?_
  refine lv_iconst (v := 1) hx hb dL_law__676 (by decide) ?_
  refine lv_iadd hx hb dL_law__677 ?_
  refine ztop (r := 1) (by decide) ?_
  refine va_sld hx hb hX hbl hbA hS (zin rfl) dL_law__678 ?_
  refine ztop (r := xs 1) rfl ?_
  refine lv_aload_n hx hb dL_law__679 rfl (lv_at hl 1 rfl) ?_
  refine xcallSX (g := g) (As := [.ref x, .int (xs 1), .ref oa]) (rest := []) St hK hT hA hP hD hS hl.1 [0, 2, 20] [1, 3, 4, 5, 6, 7, 8, 9, 10, 11, 12, 13, 14, 15, 16, 17, 18, 19] rfl rfl rfl (l_tell l hfl g x ta o lo go tt lt mo fo ro (-1) o a 0 20 6 50 0 1 (fun _ _ => 0) (xs 1) oa (fun _ => 0) ) (vx_cwSW 3 hts (zgL (zl3 k1352 k1353 k1313) k1181) rfl rfl rfl (by decide +kernel) ⟨Nat.le_of_ble_eq_true rfl, Nat.le_of_ble_eq_true rfl⟩) rfl rfl (Nat.le_of_ble_eq_true rfl) dL_law__680 ⟨(Nat.le_of_ble_eq_true rfl), (Nat.le_of_ble_eq_true rfl)⟩ (fun E ce q9 u9 H locs hpx hP hD hS hce hcv hcl => hpx.elim) (fun u_ H locs hq3 hP hD hS => ?_)
  obtain ⟨r_1, fz2_2⟩ := u_
  have hq3 : r_1 = 1 := hq3
  have hP : va_P g.1 vwCl (List.flatten [bTape g ta ab 0 0 0 0 0 (-1) (fun _ => 0), bLaw g lo ac 0 (-1) 0 0 0 (fun _ => 0), bLog g go ar 0 0 (fun _ => 0), [(tt, .inr (8, [.ref ta, .ref td]))], bTown g td tda 0 0 0 20 6 50 0 1 (fun _ _ => 0), [(lt, .inr (2, [.ref ta, .ref ldr]))], bLaw g ldr lda 0 (-1) 0 0 0 (fun _ => 0), bMem g mo qT qL it il ig 0 0 0 fT fL, bTown g it ia 0 0 0 20 6 50 0 1 (fun _ _ => 0), bLaw g il ic 0 (-1) 0 0 0 (fun _ => 0), bLog g ig ir 0 0 (fun _ => 0), bTown g t0 ta0 0 0 0 20 6 50 0 1 (fun _ _ => 0), bLog g l0 la0 0 0 (fun _ => 0), [(fo, .inr (0, [.ref o, .ref lo, .ref od]))], bTown g od ad 0 0 0 20 6 50 0 1 (fun _ _ => 0), bRid g ro af 0 0 (fun _ => 0), bObj g om am 0 0 0 0 0 0 0 (-1) 0 0 0 0, bArr g am (zf [m0, fun _ => 0, fun _ => 0, fun _ => 0, fun _ => 0, fun _ => 0, fun _ => 0, fun _ => 0]), [(oa, .inl (g.2 2, 1, .inr (.inl fz2_2)))]]) H := hP
  have hD : va_D A (List.flatten [bTape g ta ab 0 0 0 0 0 (-1) (fun _ => 0), bLaw g lo ac 0 (-1) 0 0 0 (fun _ => 0), bLog g go ar 0 0 (fun _ => 0), [(tt, .inr (8, [.ref ta, .ref td]))], bTown g td tda 0 0 0 20 6 50 0 1 (fun _ _ => 0), [(lt, .inr (2, [.ref ta, .ref ldr]))], bLaw g ldr lda 0 (-1) 0 0 0 (fun _ => 0), bMem g mo qT qL it il ig 0 0 0 fT fL, bTown g it ia 0 0 0 20 6 50 0 1 (fun _ _ => 0), bLaw g il ic 0 (-1) 0 0 0 (fun _ => 0), bLog g ig ir 0 0 (fun _ => 0), bTown g t0 ta0 0 0 0 20 6 50 0 1 (fun _ _ => 0), bLog g l0 la0 0 0 (fun _ => 0), [(fo, .inr (0, [.ref o, .ref lo, .ref od]))], bTown g od ad 0 0 0 20 6 50 0 1 (fun _ _ => 0), bRid g ro af 0 0 (fun _ => 0), bObj g om am 0 0 0 0 0 0 0 (-1) 0 0 0 0, bArr g am (zf [m0, fun _ => 0, fun _ => 0, fun _ => 0, fun _ => 0, fun _ => 0, fun _ => 0, fun _ => 0]), [(oa, .inl (g.2 2, 1, .inr (.inl fz2_2)))]]) := hD
  refine W.widen (k := 248) (n := 14997) (Nat.le_of_ble_eq_true rfl) (Nat.le_of_ble_eq_true rfl) ?_
  refine W.eq (g2 := F0 m 683 ls [.int r_1]) rfl ?_
  subst hq3
  refine lv_istore (lv' := [(5, .int 1), (4, .int 0), (3, .ref oa), (2, .ref om), (1, .ref x), (0, .ref b)]) hx hb dL_law__683 hl (by decide) rfl (fun ls hl => ?_)
  refine lv_aload_n hx hb dL_law__685 rfl (lv_at hl 3 rfl) ?_
  refine lv_aload_n hx hb dL_law__686 rfl (lv_at hl 5 rfl) ?_
  refine lv_iload hx hb dL_law__687 (lv_at hl 1 rfl) ?_
  refine lv_iconst (v := 1) hx hb dL_law__689 (by decide) ?_
  refine lv_iadd hx hb dL_law__690 ?_
  refine ztop (r := 1) (by decide) ?_
  refine va_sld hx hb hX hbl hbA hS (zin rfl) dL_law__691 ?_
  refine ztop (r := xs 1) rfl ?_
  refine mcallV (g := g) (q0 := 0) (ci := 10) (As := [.int (xs 1)]) (rest := []) St hK hT hA hP hD hS hl.1 [16, 17] [0, 1, 2, 3, 4, 5, 6, 7, 8, 9, 10, 11, 12, 13, 14, 15, 18] rfl rfl rfl (m_tell l g om am 0 0 0 0 0 0 0 (-1) 0 0 0 0 (zf [m0, fun _ => 0, fun _ => 0, fun _ => 0, fun _ => 0, fun _ => 0, fun _ => 0, fun _ => 0]) (xs 1) (by assumption)) (cwV 1 hts (zgL (zl4 k1354 k1355 k1356 k833) k1049) rfl rfl rfl (by decide +kernel) ⟨Nat.le_of_ble_eq_true rfl, Nat.le_of_ble_eq_true rfl⟩) rfl rfl rfl rfl (Nat.le_of_ble_eq_true rfl) dL_law__692 ⟨(Nat.le_of_ble_eq_true rfl), (Nat.le_of_ble_eq_true rfl)⟩ (fun u_ H locs hq17 hP hD hS => ?_)
  obtain ⟨th2_4, hi2_5, ac2_6, tp2_7, ba2_8, en2_9, tA2_10, fl2_11, de2_12, iD2_13, iO2_14, tU2_15, q_16⟩ := u_
  have hq17 : th2_4 = 1 := hq17
  have hP : va_P g.1 vwCl (List.flatten [bTape g ta ab 0 0 0 0 0 (-1) (fun _ => 0), bLaw g lo ac 0 (-1) 0 0 0 (fun _ => 0), bLog g go ar 0 0 (fun _ => 0), [(tt, .inr (8, [.ref ta, .ref td]))], bTown g td tda 0 0 0 20 6 50 0 1 (fun _ _ => 0), [(lt, .inr (2, [.ref ta, .ref ldr]))], bLaw g ldr lda 0 (-1) 0 0 0 (fun _ => 0), bMem g mo qT qL it il ig 0 0 0 fT fL, bTown g it ia 0 0 0 20 6 50 0 1 (fun _ _ => 0), bLaw g il ic 0 (-1) 0 0 0 (fun _ => 0), bLog g ig ir 0 0 (fun _ => 0), bTown g t0 ta0 0 0 0 20 6 50 0 1 (fun _ _ => 0), bLog g l0 la0 0 0 (fun _ => 0), [(fo, .inr (0, [.ref o, .ref lo, .ref od]))], bTown g od ad 0 0 0 20 6 50 0 1 (fun _ _ => 0), bRid g ro af 0 0 (fun _ => 0), [(oa, .inl (g.2 2, 1, .inr (.inl fz2_2)))], bObj g om am th2_4 hi2_5 ac2_6 tp2_7 ba2_8 en2_9 tA2_10 fl2_11 de2_12 iD2_13 iO2_14 tU2_15]) H := hP
  have hD : va_D A (List.flatten [bTape g ta ab 0 0 0 0 0 (-1) (fun _ => 0), bLaw g lo ac 0 (-1) 0 0 0 (fun _ => 0), bLog g go ar 0 0 (fun _ => 0), [(tt, .inr (8, [.ref ta, .ref td]))], bTown g td tda 0 0 0 20 6 50 0 1 (fun _ _ => 0), [(lt, .inr (2, [.ref ta, .ref ldr]))], bLaw g ldr lda 0 (-1) 0 0 0 (fun _ => 0), bMem g mo qT qL it il ig 0 0 0 fT fL, bTown g it ia 0 0 0 20 6 50 0 1 (fun _ _ => 0), bLaw g il ic 0 (-1) 0 0 0 (fun _ => 0), bLog g ig ir 0 0 (fun _ => 0), bTown g t0 ta0 0 0 0 20 6 50 0 1 (fun _ _ => 0), bLog g l0 la0 0 0 (fun _ => 0), [(fo, .inr (0, [.ref o, .ref lo, .ref od]))], bTown g od ad 0 0 0 20 6 50 0 1 (fun _ _ => 0), bRid g ro af 0 0 (fun _ => 0), [(oa, .inl (g.2 2, 1, .inr (.inl fz2_2)))], bObj g om am th2_4 hi2_5 ac2_6 tp2_7 ba2_8 en2_9 tA2_10 fl2_11 de2_12 iD2_13 iO2_14 tU2_15]) := hD
  refine W.widen (k := 248) (n := 14997) (Nat.le_of_ble_eq_true rfl) (Nat.le_of_ble_eq_true rfl) ?_
  refine W.eq (g2 := F0 m 695 ls [.int q_16]) rfl ?_
  subst hq17
  refine lv_istore (lv' := [(6, .int q_16), (5, .int 1), (4, .int 0), (3, .ref oa), (2, .ref om), (1, .ref x), (0, .ref b)]) hx hb dL_law__695 hl (by decide) rfl (fun ls hl => ?_)
  refine lv_aload_n hx hb dL_law__697 rfl (lv_at hl 4 rfl) ?_
  refine mcallV (g := g) (q0 := 0) (ci := 10) (As := []) (rest := []) St hK hT hA hP hD hS hl.1 [17] [0, 1, 2, 3, 4, 5, 6, 7, 8, 9, 10, 11, 12, 13, 14, 15, 16] rfl rfl rfl (m_thrown l g om am 1 hi2_5 ac2_6 tp2_7 ba2_8 en2_9 tA2_10 fl2_11 de2_12 iD2_13 iO2_14 tU2_15 ) (cwV 0 hts (zgL (zl4 k1317 k1318 k1319 k833) k824) rfl rfl rfl (by decide +kernel) ⟨Nat.le_of_ble_eq_true rfl, Nat.le_of_ble_eq_true rfl⟩) rfl rfl rfl rfl (Nat.le_of_ble_eq_true rfl) dL_law__698 ⟨(Nat.le_of_ble_eq_true rfl), (Nat.le_of_ble_eq_true rfl)⟩ (fun _u H locs hq18 hP hD hS => ?_)
  have hP : va_P g.1 vwCl (List.flatten [bTape g ta ab 0 0 0 0 0 (-1) (fun _ => 0), bLaw g lo ac 0 (-1) 0 0 0 (fun _ => 0), bLog g go ar 0 0 (fun _ => 0), [(tt, .inr (8, [.ref ta, .ref td]))], bTown g td tda 0 0 0 20 6 50 0 1 (fun _ _ => 0), [(lt, .inr (2, [.ref ta, .ref ldr]))], bLaw g ldr lda 0 (-1) 0 0 0 (fun _ => 0), bMem g mo qT qL it il ig 0 0 0 fT fL, bTown g it ia 0 0 0 20 6 50 0 1 (fun _ _ => 0), bLaw g il ic 0 (-1) 0 0 0 (fun _ => 0), bLog g ig ir 0 0 (fun _ => 0), bTown g t0 ta0 0 0 0 20 6 50 0 1 (fun _ _ => 0), bLog g l0 la0 0 0 (fun _ => 0), [(fo, .inr (0, [.ref o, .ref lo, .ref od]))], bTown g od ad 0 0 0 20 6 50 0 1 (fun _ _ => 0), bRid g ro af 0 0 (fun _ => 0), [(oa, .inl (g.2 2, 1, .inr (.inl fz2_2)))], bObj g om am 1 hi2_5 ac2_6 tp2_7 ba2_8 en2_9 tA2_10 fl2_11 de2_12 iD2_13 iO2_14 tU2_15]) H := hP
  have hD : va_D A (List.flatten [bTape g ta ab 0 0 0 0 0 (-1) (fun _ => 0), bLaw g lo ac 0 (-1) 0 0 0 (fun _ => 0), bLog g go ar 0 0 (fun _ => 0), [(tt, .inr (8, [.ref ta, .ref td]))], bTown g td tda 0 0 0 20 6 50 0 1 (fun _ _ => 0), [(lt, .inr (2, [.ref ta, .ref ldr]))], bLaw g ldr lda 0 (-1) 0 0 0 (fun _ => 0), bMem g mo qT qL it il ig 0 0 0 fT fL, bTown g it ia 0 0 0 20 6 50 0 1 (fun _ _ => 0), bLaw g il ic 0 (-1) 0 0 0 (fun _ => 0), bLog g ig ir 0 0 (fun _ => 0), bTown g t0 ta0 0 0 0 20 6 50 0 1 (fun _ _ => 0), bLog g l0 la0 0 0 (fun _ => 0), [(fo, .inr (0, [.ref o, .ref lo, .ref od]))], bTown g od ad 0 0 0 20 6 50 0 1 (fun _ _ => 0), bRid g ro af 0 0 (fun _ => 0), [(oa, .inl (g.2 2, 1, .inr (.inl fz2_2)))], bObj g om am 1 hi2_5 ac2_6 tp2_7 ba2_8 en2_9 tA2_10 fl2_11 de2_12 iD2_13 iO2_14 tU2_15]) := hD
  refine W.widen (k := 248) (n := 14997) (Nat.le_of_ble_eq_true rfl) (Nat.le_of_ble_eq_true rfl) ?_
  refine W.eq (g2 := F0 m 701 ls [.int 1]) rfl ?_
  refine lv_iload hx hb dL_law__701 (lv_at hl 1 rfl) ?_
  refine lv_icmp_eq (tgt := 708) hx hb dL_law__703 (by decide) (fun _ => ?_) (fun c19 => absurd (by decide) c19)
  refine lv_iload hx hb dL_law__708 (lv_at hl 1 rfl) ?_
  refine lv_if_ne (tgt := 725) hx hb dL_law__710 (by decide) (fun _ => ?_) (fun c20 => absurd c20 (by decide))
  refine lv_goto (tgt := 2738) hx hb dL_law__725 (by decide) ?_
  refine lv_iinc (v := 6) (lv' := [(4, .int 6), (6, .int q_16), (5, .int 1), (3, .ref oa), (2, .ref om), (1, .ref x), (0, .ref b)]) hx hb dL_law__2738 hl (k := 2) rfl (by decide) (by decide) rfl (fun ls hl => ?_)
  refine lv_goto (tgt := 23) hx hb dL_law__2741 (by decide) ?_
  refine lv_iload hx hb dL_law__23 (lv_at hl 0 rfl) ?_
  refine lv_aload_n hx hb dL_law__25 rfl (lv_at hl 6 rfl) ?_
  refine va_slen hx hb hX hbl hbA hS dL_law__26 ?_
  refine ztop (r := 6) rfl ?_
  refine lv_bipush (v := 6) hx hb dL_law__27 (by decide) ?_
  refine lv_isub hx hb dL_law__29 ?_
  refine ztop (r := 0) (by decide) ?_
  refine lv_icmp_gt (tgt := 2744) hx hb dL_law__30 (by decide) (fun _ => ?_) (fun c21 => absurd (by decide) c21)
  refine lv_iconst (v := 1) hx hb dL_law__2744 (by decide) ?_
  refine va_forget (fun q hq => by have h9 := hS.2.2 q hq; rw [hAe] at h9; exact h9) ?_
  refine W.widen (k := 600002) (n := 7302232) (Nat.le_of_ble_eq_true rfl) (Nat.le_of_ble_eq_true rfl) ?_
  exact lw_ret hx hb hr hlocks dL_law__2745
set_option maxRecDepth 100000 in
set_option maxHeartbeats 4000000 in
/-- the law: tie -/
theorem w_10 {p : Program} {e : Env} {s : State} {m : MethodId} {below : List Frame} {meth : Method} {c : Code} (l : Launch) (hfl : l.stackTraces = false) (g : zG) {b : Nat} {xs : Nat → Int32} {A : Nat → Prop} (hAe : A = fun q => s.heap.size ≤ q) (hA : ∀ q, s.heap.size ≤ q → A q) (hbA : ¬ A b) (St : CallFix p m c cL_law_ 7 s #[Value.ref b] zB RL) (hr : meth.sig.returnType = ret) (hlocks : meth.locks = false) (hX : va_X b 6 xs s s.heap) (hbl : b < s.heap.size) (hK : zK g s) (hT : zTh A s) (x : Nat) (ta : Nat) (o : Nat) (lo : Nat) (go : Nat) (tt : Nat) (lt : Nat) (mo : Nat) (fo : Nat) (ro : Nat) (ab : Nat) (ac : Nat) (ar : Nat) (td : Nat) (a : Nat → Nat) (tda : Nat → Nat) (ldr : Nat) (lda : Nat) (qT : Nat) (qL : Nat) (it : Nat) (il : Nat) (ig : Nat) (fT : Nat → Option Nat) (fL : Nat → Option Nat) (ia : Nat → Nat) (ic : Nat) (ir : Nat) (t0 : Nat) (ta0 : Nat → Nat) (l0 : Nat) (la0 : Nat) (od : Nat) (ad : Nat → Nat) (af : Nat) (om : Nat) (am : Nat → Nat) (m0 : Nat → Int32) (oa : Nat) (hT0 : fT 0 = some t0) (hL0 : fL 0 = some l0) (hm : zMo m0) (h8 : m0 8 = 0) (h10 : m0 10 = 1) (H : Heap) (locs : List Loc) (ls : Array Slot) (hP : va_P g.1 vwCl (List.flatten [bDR g x ta o lo go tt lt mo fo ro (-1), bTape g ta ab 0 0 0 0 0 (-1) (fun _ => 0), bTown g o a 0 0 0 20 6 50 0 1 (fun _ _ => 0), bLaw g lo ac 0 (-1) 0 0 0 (fun _ => 0), bLog g go ar 0 0 (fun _ => 0), [(tt, .inr (8, [.ref ta, .ref td]))], bTown g td tda 0 0 0 20 6 50 0 1 (fun _ _ => 0), [(lt, .inr (2, [.ref ta, .ref ldr]))], bLaw g ldr lda 0 (-1) 0 0 0 (fun _ => 0), bMem g mo qT qL it il ig 0 0 0 fT fL, bTown g it ia 0 0 0 20 6 50 0 1 (fun _ _ => 0), bLaw g il ic 0 (-1) 0 0 0 (fun _ => 0), bLog g ig ir 0 0 (fun _ => 0), bTown g t0 ta0 0 0 0 20 6 50 0 1 (fun _ _ => 0), bLog g l0 la0 0 0 (fun _ => 0), [(fo, .inr (0, [.ref o, .ref lo, .ref od]))], bTown g od ad 0 0 0 20 6 50 0 1 (fun _ _ => 0), bRid g ro af 0 0 (fun _ => 0), bObj g om am 0 0 0 0 0 0 0 (-1) 0 0 0 0, bArr g am (zf [m0, fun _ => 0, fun _ => 0, fun _ => 0, fun _ => 0, fun _ => 0, fun _ => 0, fun _ => 0]), [(oa, .inl (g.2 2, 1, .inr (.inl (fun _ => 0))))]]) H) (hD : va_D A (List.flatten [bDR g x ta o lo go tt lt mo fo ro (-1), bTape g ta ab 0 0 0 0 0 (-1) (fun _ => 0), bTown g o a 0 0 0 20 6 50 0 1 (fun _ _ => 0), bLaw g lo ac 0 (-1) 0 0 0 (fun _ => 0), bLog g go ar 0 0 (fun _ => 0), [(tt, .inr (8, [.ref ta, .ref td]))], bTown g td tda 0 0 0 20 6 50 0 1 (fun _ _ => 0), [(lt, .inr (2, [.ref ta, .ref ldr]))], bLaw g ldr lda 0 (-1) 0 0 0 (fun _ => 0), bMem g mo qT qL it il ig 0 0 0 fT fL, bTown g it ia 0 0 0 20 6 50 0 1 (fun _ _ => 0), bLaw g il ic 0 (-1) 0 0 0 (fun _ => 0), bLog g ig ir 0 0 (fun _ => 0), bTown g t0 ta0 0 0 0 20 6 50 0 1 (fun _ _ => 0), bLog g l0 la0 0 0 (fun _ => 0), [(fo, .inr (0, [.ref o, .ref lo, .ref od]))], bTown g od ad 0 0 0 20 6 50 0 1 (fun _ _ => 0), bRid g ro af 0 0 (fun _ => 0), bObj g om am 0 0 0 0 0 0 0 (-1) 0 0 0 0, bArr g am (zf [m0, fun _ => 0, fun _ => 0, fun _ => 0, fun _ => 0, fun _ => 0, fun _ => 0, fun _ => 0]), [(oa, .inl (g.2 2, 1, .inr (.inl (fun _ => 0))))]])) (hS : va_S A s.heap H locs) (hl : lv_has ls 7 [(4, .int 0), (3, .ref oa), (2, .ref om), (1, .ref x), (0, .ref b)]) : W p l e room_1 s m #[Value.ref b] below meth c H locs 247 14991 (lw_Z below #[Value.ref b] s) (F0 m 728 ls []) := by
  obtain ⟨hx, hb, hml, hown, hts⟩ := id St
  have hz0 : zZ (fun _ => 0) := zZ0
  refine lv_aload_n hx hb dL_law__728 rfl (lv_at hl 3 rfl) ?_
  refine lv_aload_n hx hb dL_law__729 rfl (lv_at hl 4 rfl) ?_
  refine lv_iload hx hb dL_law__730 (lv_at hl 0 rfl) ?_
  refine lv_iconst (v := 1) hx hb dL_law__732 (by decide) ?_
  refine lv_iadd hx hb dL_law__733 ?_
  refine ztop (r := 1) (by decide) ?_
  refine va_sld hx hb hX hbl hbA hS (zin rfl) dL_law__734 ?_
  refine ztop (r := xs 1) rfl ?_
  refine lv_aload_n hx hb dL_law__735 rfl (lv_at hl 4 rfl) ?_
  refine lv_iload hx hb dL_law__736 (lv_at hl 0 rfl) ?_
  refine lv_iconst (v := 2) hx hb dL_law__738 (by decide) ?_
  refine lv_iadd hx hb dL_law__739 ?_
  refine ztop (r := 2) (by decide) ?_
  refine va_sld hx hb hX hbl hbA hS (zin rfl) dL_law__740 ?_
  refine ztop (r := xs 2) rfl ?_
  refine lv_aload_n hx hb dL_law__741 rfl (lv_at hl 4 rfl) ?_
  refine lv_iload hx hb dL_law__742 (lv_at hl 0 rfl) ?_
  refine lv_iconst (v := 3) hx hb dL_law__744 (by decide) ?_
  refine lv_iadd hx hb dL_law__745 ?_
  refine ztop (r := 3) (by decide) ?_
  refine va_sld hx hb hX hbl hbA hS (zin rfl) dL_law__746 ?_
  refine ztop (r := xs 3) rfl ?_
  refine lv_aload_n hx hb dL_law__747 rfl (lv_at hl 1 rfl) ?_
  refine xcallSX (g := g) (As := [.ref x, .int (xs 1), .int (xs 2), .int (xs 3), .ref oa]) (rest := []) St hK hT hA hP hD hS hl.1 [0, 2, 20] [1, 3, 4, 5, 6, 7, 8, 9, 10, 11, 12, 13, 14, 15, 16, 17, 18, 19] rfl rfl rfl (l_tie l hfl g x ta o lo go tt lt mo fo ro (-1) o a 0 20 6 50 0 1 (fun _ _ => 0) (xs 1) (xs 2) (xs 3) oa (fun _ => 0) ) (vx_cwSW 5 hts (zgL (zl3 k1357 k1358 k1313) k1185) rfl rfl rfl (by decide +kernel) ⟨Nat.le_of_ble_eq_true rfl, Nat.le_of_ble_eq_true rfl⟩) rfl rfl (Nat.le_of_ble_eq_true rfl) dL_law__748 ⟨(Nat.le_of_ble_eq_true rfl), (Nat.le_of_ble_eq_true rfl)⟩ (fun E ce q9 u9 H locs hpx hP hD hS hce hcv hcl => hpx.elim) (fun u_ H locs hq3 hP hD hS => ?_)
  obtain ⟨r_1, fz2_2⟩ := u_
  have hq3 : r_1 = 1 := hq3
  have hP : va_P g.1 vwCl (List.flatten [bTape g ta ab 0 0 0 0 0 (-1) (fun _ => 0), bLaw g lo ac 0 (-1) 0 0 0 (fun _ => 0), bLog g go ar 0 0 (fun _ => 0), [(tt, .inr (8, [.ref ta, .ref td]))], bTown g td tda 0 0 0 20 6 50 0 1 (fun _ _ => 0), [(lt, .inr (2, [.ref ta, .ref ldr]))], bLaw g ldr lda 0 (-1) 0 0 0 (fun _ => 0), bMem g mo qT qL it il ig 0 0 0 fT fL, bTown g it ia 0 0 0 20 6 50 0 1 (fun _ _ => 0), bLaw g il ic 0 (-1) 0 0 0 (fun _ => 0), bLog g ig ir 0 0 (fun _ => 0), bTown g t0 ta0 0 0 0 20 6 50 0 1 (fun _ _ => 0), bLog g l0 la0 0 0 (fun _ => 0), [(fo, .inr (0, [.ref o, .ref lo, .ref od]))], bTown g od ad 0 0 0 20 6 50 0 1 (fun _ _ => 0), bRid g ro af 0 0 (fun _ => 0), bObj g om am 0 0 0 0 0 0 0 (-1) 0 0 0 0, bArr g am (zf [m0, fun _ => 0, fun _ => 0, fun _ => 0, fun _ => 0, fun _ => 0, fun _ => 0, fun _ => 0]), [(oa, .inl (g.2 2, 1, .inr (.inl fz2_2)))]]) H := hP
  have hD : va_D A (List.flatten [bTape g ta ab 0 0 0 0 0 (-1) (fun _ => 0), bLaw g lo ac 0 (-1) 0 0 0 (fun _ => 0), bLog g go ar 0 0 (fun _ => 0), [(tt, .inr (8, [.ref ta, .ref td]))], bTown g td tda 0 0 0 20 6 50 0 1 (fun _ _ => 0), [(lt, .inr (2, [.ref ta, .ref ldr]))], bLaw g ldr lda 0 (-1) 0 0 0 (fun _ => 0), bMem g mo qT qL it il ig 0 0 0 fT fL, bTown g it ia 0 0 0 20 6 50 0 1 (fun _ _ => 0), bLaw g il ic 0 (-1) 0 0 0 (fun _ => 0), bLog g ig ir 0 0 (fun _ => 0), bTown g t0 ta0 0 0 0 20 6 50 0 1 (fun _ _ => 0), bLog g l0 la0 0 0 (fun _ => 0), [(fo, .inr (0, [.ref o, .ref lo, .ref od]))], bTown g od ad 0 0 0 20 6 50 0 1 (fun _ _ => 0), bRid g ro af 0 0 (fun _ => 0), bObj g om am 0 0 0 0 0 0 0 (-1) 0 0 0 0, bArr g am (zf [m0, fun _ => 0, fun _ => 0, fun _ => 0, fun _ => 0, fun _ => 0, fun _ => 0, fun _ => 0]), [(oa, .inl (g.2 2, 1, .inr (.inl fz2_2)))]]) := hD
  refine W.widen (k := 248) (n := 14997) (Nat.le_of_ble_eq_true rfl) (Nat.le_of_ble_eq_true rfl) ?_
  refine W.eq (g2 := F0 m 751 ls [.int r_1]) rfl ?_
  subst hq3
  refine lv_istore (lv' := [(5, .int 1), (4, .int 0), (3, .ref oa), (2, .ref om), (1, .ref x), (0, .ref b)]) hx hb dL_law__751 hl (by decide) rfl (fun ls hl => ?_)
  refine lv_aload_n hx hb dL_law__753 rfl (lv_at hl 3 rfl) ?_
  refine lv_aload_n hx hb dL_law__754 rfl (lv_at hl 5 rfl) ?_
  refine lv_iload hx hb dL_law__755 (lv_at hl 1 rfl) ?_
  refine lv_iconst (v := 1) hx hb dL_law__757 (by decide) ?_
  refine lv_iadd hx hb dL_law__758 ?_
  refine ztop (r := 1) (by decide) ?_
  refine va_sld hx hb hX hbl hbA hS (zin rfl) dL_law__759 ?_
  refine ztop (r := xs 1) rfl ?_
  refine lv_aload_n hx hb dL_law__760 rfl (lv_at hl 5 rfl) ?_
  refine lv_iload hx hb dL_law__761 (lv_at hl 1 rfl) ?_
  refine lv_iconst (v := 2) hx hb dL_law__763 (by decide) ?_
  refine lv_iadd hx hb dL_law__764 ?_
  refine ztop (r := 2) (by decide) ?_
  refine va_sld hx hb hX hbl hbA hS (zin rfl) dL_law__765 ?_
  refine ztop (r := xs 2) rfl ?_
  refine lv_aload_n hx hb dL_law__766 rfl (lv_at hl 5 rfl) ?_
  refine lv_iload hx hb dL_law__767 (lv_at hl 1 rfl) ?_
  refine lv_iconst (v := 3) hx hb dL_law__769 (by decide) ?_
  refine lv_iadd hx hb dL_law__770 ?_
  refine ztop (r := 3) (by decide) ?_
  refine va_sld hx hb hX hbl hbA hS (zin rfl) dL_law__771 ?_
  refine ztop (r := xs 3) rfl ?_
  refine mcallV (g := g) (q0 := 0) (ci := 10) (As := [.int (xs 1), .int (xs 2), .int (xs 3)]) (rest := []) St hK hT hA hP hD hS hl.1 [16, 17] [0, 1, 2, 3, 4, 5, 6, 7, 8, 9, 10, 11, 12, 13, 14, 15, 18] rfl rfl rfl (m_tie l g om am 0 0 0 0 0 0 0 (-1) 0 0 0 0 (zf [m0, fun _ => 0, fun _ => 0, fun _ => 0, fun _ => 0, fun _ => 0, fun _ => 0, fun _ => 0]) (xs 1) (xs 2) (xs 3) (by assumption)) (cwV 3 hts (zgL (zl4 k1359 k1360 k1361 k833) k1050) rfl rfl rfl (by decide +kernel) ⟨Nat.le_of_ble_eq_true rfl, Nat.le_of_ble_eq_true rfl⟩) rfl rfl rfl rfl (Nat.le_of_ble_eq_true rfl) dL_law__772 ⟨(Nat.le_of_ble_eq_true rfl), (Nat.le_of_ble_eq_true rfl)⟩ (fun u_ H locs hq17 hP hD hS => ?_)
  obtain ⟨th2_4, hi2_5, ac2_6, tp2_7, ba2_8, en2_9, tA2_10, fl2_11, de2_12, iD2_13, iO2_14, tU2_15, q_16⟩ := u_
  have hq17 : th2_4 = 1 := hq17
  have hP : va_P g.1 vwCl (List.flatten [bTape g ta ab 0 0 0 0 0 (-1) (fun _ => 0), bLaw g lo ac 0 (-1) 0 0 0 (fun _ => 0), bLog g go ar 0 0 (fun _ => 0), [(tt, .inr (8, [.ref ta, .ref td]))], bTown g td tda 0 0 0 20 6 50 0 1 (fun _ _ => 0), [(lt, .inr (2, [.ref ta, .ref ldr]))], bLaw g ldr lda 0 (-1) 0 0 0 (fun _ => 0), bMem g mo qT qL it il ig 0 0 0 fT fL, bTown g it ia 0 0 0 20 6 50 0 1 (fun _ _ => 0), bLaw g il ic 0 (-1) 0 0 0 (fun _ => 0), bLog g ig ir 0 0 (fun _ => 0), bTown g t0 ta0 0 0 0 20 6 50 0 1 (fun _ _ => 0), bLog g l0 la0 0 0 (fun _ => 0), [(fo, .inr (0, [.ref o, .ref lo, .ref od]))], bTown g od ad 0 0 0 20 6 50 0 1 (fun _ _ => 0), bRid g ro af 0 0 (fun _ => 0), [(oa, .inl (g.2 2, 1, .inr (.inl fz2_2)))], bObj g om am th2_4 hi2_5 ac2_6 tp2_7 ba2_8 en2_9 tA2_10 fl2_11 de2_12 iD2_13 iO2_14 tU2_15]) H := hP
  have hD : va_D A (List.flatten [bTape g ta ab 0 0 0 0 0 (-1) (fun _ => 0), bLaw g lo ac 0 (-1) 0 0 0 (fun _ => 0), bLog g go ar 0 0 (fun _ => 0), [(tt, .inr (8, [.ref ta, .ref td]))], bTown g td tda 0 0 0 20 6 50 0 1 (fun _ _ => 0), [(lt, .inr (2, [.ref ta, .ref ldr]))], bLaw g ldr lda 0 (-1) 0 0 0 (fun _ => 0), bMem g mo qT qL it il ig 0 0 0 fT fL, bTown g it ia 0 0 0 20 6 50 0 1 (fun _ _ => 0), bLaw g il ic 0 (-1) 0 0 0 (fun _ => 0), bLog g ig ir 0 0 (fun _ => 0), bTown g t0 ta0 0 0 0 20 6 50 0 1 (fun _ _ => 0), bLog g l0 la0 0 0 (fun _ => 0), [(fo, .inr (0, [.ref o, .ref lo, .ref od]))], bTown g od ad 0 0 0 20 6 50 0 1 (fun _ _ => 0), bRid g ro af 0 0 (fun _ => 0), [(oa, .inl (g.2 2, 1, .inr (.inl fz2_2)))], bObj g om am th2_4 hi2_5 ac2_6 tp2_7 ba2_8 en2_9 tA2_10 fl2_11 de2_12 iD2_13 iO2_14 tU2_15]) := hD
  refine W.widen (k := 248) (n := 14997) (Nat.le_of_ble_eq_true rfl) (Nat.le_of_ble_eq_true rfl) ?_
  refine W.eq (g2 := F0 m 775 ls [.int q_16]) rfl ?_
  subst hq17
  refine lv_istore (lv' := [(6, .int q_16), (5, .int 1), (4, .int 0), (3, .ref oa), (2, .ref om), (1, .ref x), (0, .ref b)]) hx hb dL_law__775 hl (by decide) rfl (fun ls hl => ?_)
  refine lv_aload_n hx hb dL_law__777 rfl (lv_at hl 4 rfl) ?_
  refine mcallV (g := g) (q0 := 0) (ci := 10) (As := []) (rest := []) St hK hT hA hP hD hS hl.1 [17] [0, 1, 2, 3, 4, 5, 6, 7, 8, 9, 10, 11, 12, 13, 14, 15, 16] rfl rfl rfl (m_thrown l g om am 1 hi2_5 ac2_6 tp2_7 ba2_8 en2_9 tA2_10 fl2_11 de2_12 iD2_13 iO2_14 tU2_15 ) (cwV 0 hts (zgL (zl4 k1317 k1318 k1319 k833) k824) rfl rfl rfl (by decide +kernel) ⟨Nat.le_of_ble_eq_true rfl, Nat.le_of_ble_eq_true rfl⟩) rfl rfl rfl rfl (Nat.le_of_ble_eq_true rfl) dL_law__778 ⟨(Nat.le_of_ble_eq_true rfl), (Nat.le_of_ble_eq_true rfl)⟩ (fun _u H locs hq18 hP hD hS => ?_)
  have hP : va_P g.1 vwCl (List.flatten [bTape g ta ab 0 0 0 0 0 (-1) (fun _ => 0), bLaw g lo ac 0 (-1) 0 0 0 (fun _ => 0), bLog g go ar 0 0 (fun _ => 0), [(tt, .inr (8, [.ref ta, .ref td]))], bTown g td tda 0 0 0 20 6 50 0 1 (fun _ _ => 0), [(lt, .inr (2, [.ref ta, .ref ldr]))], bLaw g ldr lda 0 (-1) 0 0 0 (fun _ => 0), bMem g mo qT qL it il ig 0 0 0 fT fL, bTown g it ia 0 0 0 20 6 50 0 1 (fun _ _ => 0), bLaw g il ic 0 (-1) 0 0 0 (fun _ => 0), bLog g ig ir 0 0 (fun _ => 0), bTown g t0 ta0 0 0 0 20 6 50 0 1 (fun _ _ => 0), bLog g l0 la0 0 0 (fun _ => 0), [(fo, .inr (0, [.ref o, .ref lo, .ref od]))], bTown g od ad 0 0 0 20 6 50 0 1 (fun _ _ => 0), bRid g ro af 0 0 (fun _ => 0), [(oa, .inl (g.2 2, 1, .inr (.inl fz2_2)))], bObj g om am 1 hi2_5 ac2_6 tp2_7 ba2_8 en2_9 tA2_10 fl2_11 de2_12 iD2_13 iO2_14 tU2_15]) H := hP
  have hD : va_D A (List.flatten [bTape g ta ab 0 0 0 0 0 (-1) (fun _ => 0), bLaw g lo ac 0 (-1) 0 0 0 (fun _ => 0), bLog g go ar 0 0 (fun _ => 0), [(tt, .inr (8, [.ref ta, .ref td]))], bTown g td tda 0 0 0 20 6 50 0 1 (fun _ _ => 0), [(lt, .inr (2, [.ref ta, .ref ldr]))], bLaw g ldr lda 0 (-1) 0 0 0 (fun _ => 0), bMem g mo qT qL it il ig 0 0 0 fT fL, bTown g it ia 0 0 0 20 6 50 0 1 (fun _ _ => 0), bLaw g il ic 0 (-1) 0 0 0 (fun _ => 0), bLog g ig ir 0 0 (fun _ => 0), bTown g t0 ta0 0 0 0 20 6 50 0 1 (fun _ _ => 0), bLog g l0 la0 0 0 (fun _ => 0), [(fo, .inr (0, [.ref o, .ref lo, .ref od]))], bTown g od ad 0 0 0 20 6 50 0 1 (fun _ _ => 0), bRid g ro af 0 0 (fun _ => 0), [(oa, .inl (g.2 2, 1, .inr (.inl fz2_2)))], bObj g om am 1 hi2_5 ac2_6 tp2_7 ba2_8 en2_9 tA2_10 fl2_11 de2_12 iD2_13 iO2_14 tU2_15]) := hD
  refine W.widen (k := 248) (n := 14997) (Nat.le_of_ble_eq_true rfl) (Nat.le_of_ble_eq_true rfl) ?_
  refine W.eq (g2 := F0 m 781 ls [.int 1]) rfl ?_
  refine lv_iload hx hb dL_law__781 (lv_at hl 1 rfl) ?_
  refine lv_icmp_eq (tgt := 788) hx hb dL_law__783 (by decide) (fun _ => ?_) (fun c19 => absurd (by decide) c19)
  refine lv_iload hx hb dL_law__788 (lv_at hl 1 rfl) ?_
  refine lv_if_ne (tgt := 805) hx hb dL_law__790 (by decide) (fun _ => ?_) (fun c20 => absurd c20 (by decide))
  refine lv_goto (tgt := 2738) hx hb dL_law__805 (by decide) ?_
  refine lv_iinc (v := 6) (lv' := [(4, .int 6), (6, .int q_16), (5, .int 1), (3, .ref oa), (2, .ref om), (1, .ref x), (0, .ref b)]) hx hb dL_law__2738 hl (k := 2) rfl (by decide) (by decide) rfl (fun ls hl => ?_)
  refine lv_goto (tgt := 23) hx hb dL_law__2741 (by decide) ?_
  refine lv_iload hx hb dL_law__23 (lv_at hl 0 rfl) ?_
  refine lv_aload_n hx hb dL_law__25 rfl (lv_at hl 6 rfl) ?_
  refine va_slen hx hb hX hbl hbA hS dL_law__26 ?_
  refine ztop (r := 6) rfl ?_
  refine lv_bipush (v := 6) hx hb dL_law__27 (by decide) ?_
  refine lv_isub hx hb dL_law__29 ?_
  refine ztop (r := 0) (by decide) ?_
  refine lv_icmp_gt (tgt := 2744) hx hb dL_law__30 (by decide) (fun _ => ?_) (fun c21 => absurd (by decide) c21)
  refine lv_iconst (v := 1) hx hb dL_law__2744 (by decide) ?_
  refine va_forget (fun q hq => by have h9 := hS.2.2 q hq; rw [hAe] at h9; exact h9) ?_
  refine W.widen (k := 600002) (n := 7302232) (Nat.le_of_ble_eq_true rfl) (Nat.le_of_ble_eq_true rfl) ?_
  exact lw_ret hx hb hr hlocks dL_law__2745
set_option maxRecDepth 100000 in
set_option maxHeartbeats 4000000 in
/-- the law: plan -/
theorem w_11 {p : Program} {e : Env} {s : State} {m : MethodId} {below : List Frame} {meth : Method} {c : Code} (l : Launch) (hfl : l.stackTraces = false) (g : zG) {b : Nat} {xs : Nat → Int32} {A : Nat → Prop} (hAe : A = fun q => s.heap.size ≤ q) (hA : ∀ q, s.heap.size ≤ q → A q) (hbA : ¬ A b) (St : CallFix p m c cL_law_ 7 s #[Value.ref b] zB RL) (hr : meth.sig.returnType = ret) (hlocks : meth.locks = false) (hX : va_X b 6 xs s s.heap) (hbl : b < s.heap.size) (hK : zK g s) (hT : zTh A s) (x : Nat) (ta : Nat) (o : Nat) (lo : Nat) (go : Nat) (tt : Nat) (lt : Nat) (mo : Nat) (fo : Nat) (ro : Nat) (ab : Nat) (ac : Nat) (ar : Nat) (td : Nat) (a : Nat → Nat) (tda : Nat → Nat) (ldr : Nat) (lda : Nat) (qT : Nat) (qL : Nat) (it : Nat) (il : Nat) (ig : Nat) (fT : Nat → Option Nat) (fL : Nat → Option Nat) (ia : Nat → Nat) (ic : Nat) (ir : Nat) (t0 : Nat) (ta0 : Nat → Nat) (l0 : Nat) (la0 : Nat) (od : Nat) (ad : Nat → Nat) (af : Nat) (om : Nat) (am : Nat → Nat) (m0 : Nat → Int32) (oa : Nat) (hT0 : fT 0 = some t0) (hL0 : fL 0 = some l0) (hm : zMo m0) (h8 : m0 8 = 0) (h10 : m0 10 = 1) (H : Heap) (locs : List Loc) (ls : Array Slot) (hP : va_P g.1 vwCl (List.flatten [bDR g x ta o lo go tt lt mo fo ro (-1), bTape g ta ab 0 0 0 0 0 (-1) (fun _ => 0), bTown g o a 0 0 0 20 6 50 0 1 (fun _ _ => 0), bLaw g lo ac 0 (-1) 0 0 0 (fun _ => 0), bLog g go ar 0 0 (fun _ => 0), [(tt, .inr (8, [.ref ta, .ref td]))], bTown g td tda 0 0 0 20 6 50 0 1 (fun _ _ => 0), [(lt, .inr (2, [.ref ta, .ref ldr]))], bLaw g ldr lda 0 (-1) 0 0 0 (fun _ => 0), bMem g mo qT qL it il ig 0 0 0 fT fL, bTown g it ia 0 0 0 20 6 50 0 1 (fun _ _ => 0), bLaw g il ic 0 (-1) 0 0 0 (fun _ => 0), bLog g ig ir 0 0 (fun _ => 0), bTown g t0 ta0 0 0 0 20 6 50 0 1 (fun _ _ => 0), bLog g l0 la0 0 0 (fun _ => 0), [(fo, .inr (0, [.ref o, .ref lo, .ref od]))], bTown g od ad 0 0 0 20 6 50 0 1 (fun _ _ => 0), bRid g ro af 0 0 (fun _ => 0), bObj g om am 0 0 0 0 0 0 0 (-1) 0 0 0 0, bArr g am (zf [m0, fun _ => 0, fun _ => 0, fun _ => 0, fun _ => 0, fun _ => 0, fun _ => 0, fun _ => 0]), [(oa, .inl (g.2 2, 1, .inr (.inl (fun _ => 0))))]]) H) (hD : va_D A (List.flatten [bDR g x ta o lo go tt lt mo fo ro (-1), bTape g ta ab 0 0 0 0 0 (-1) (fun _ => 0), bTown g o a 0 0 0 20 6 50 0 1 (fun _ _ => 0), bLaw g lo ac 0 (-1) 0 0 0 (fun _ => 0), bLog g go ar 0 0 (fun _ => 0), [(tt, .inr (8, [.ref ta, .ref td]))], bTown g td tda 0 0 0 20 6 50 0 1 (fun _ _ => 0), [(lt, .inr (2, [.ref ta, .ref ldr]))], bLaw g ldr lda 0 (-1) 0 0 0 (fun _ => 0), bMem g mo qT qL it il ig 0 0 0 fT fL, bTown g it ia 0 0 0 20 6 50 0 1 (fun _ _ => 0), bLaw g il ic 0 (-1) 0 0 0 (fun _ => 0), bLog g ig ir 0 0 (fun _ => 0), bTown g t0 ta0 0 0 0 20 6 50 0 1 (fun _ _ => 0), bLog g l0 la0 0 0 (fun _ => 0), [(fo, .inr (0, [.ref o, .ref lo, .ref od]))], bTown g od ad 0 0 0 20 6 50 0 1 (fun _ _ => 0), bRid g ro af 0 0 (fun _ => 0), bObj g om am 0 0 0 0 0 0 0 (-1) 0 0 0 0, bArr g am (zf [m0, fun _ => 0, fun _ => 0, fun _ => 0, fun _ => 0, fun _ => 0, fun _ => 0, fun _ => 0]), [(oa, .inl (g.2 2, 1, .inr (.inl (fun _ => 0))))]])) (hS : va_S A s.heap H locs) (hl : lv_has ls 7 [(4, .int 0), (3, .ref oa), (2, .ref om), (1, .ref x), (0, .ref b)]) : W p l e room_1 s m #[Value.ref b] below meth c H locs 247 14991 (lw_Z below #[Value.ref b] s) (F0 m 808 ls []) := by
  obtain ⟨hx, hb, hml, hown, hts⟩ := id St
  have hz0 : zZ (fun _ => 0) := zZ0
  refine lv_aload_n hx hb dL_law__808 rfl (lv_at hl 3 rfl) ?_
  refine lv_aload_n hx hb dL_law__809 rfl (lv_at hl 4 rfl) ?_
  refine lv_iload hx hb dL_law__810 (lv_at hl 0 rfl) ?_
  refine lv_iconst (v := 1) hx hb dL_law__812 (by decide) ?_
  refine lv_iadd hx hb dL_law__813 ?_
  refine ztop (r := 1) (by decide) ?_
  refine va_sld hx hb hX hbl hbA hS (zin rfl) dL_law__814 ?_
  refine ztop (r := xs 1) rfl ?_
  refine xcallSX (g := g) (As := [.ref x, .int (xs 1)]) (rest := []) St hK hT hA hP hD hS hl.1 [0, 2] [1, 3, 4, 5, 6, 7, 8, 9, 10, 11, 12, 13, 14, 15, 16, 17, 18, 19, 20] rfl rfl rfl (l_plan l hfl g x ta o lo go tt lt mo fo ro (-1) o a 0 20 6 50 0 1 (fun _ _ => 0) (xs 1) ) (vx_cwSW 2 hts (zgL (zl3 k1362 k1363 k1313) k1189) rfl rfl rfl (by decide +kernel) ⟨Nat.le_of_ble_eq_true rfl, Nat.le_of_ble_eq_true rfl⟩) rfl rfl (Nat.le_of_ble_eq_true rfl) dL_law__815 ⟨(Nat.le_of_ble_eq_true rfl), (Nat.le_of_ble_eq_true rfl)⟩ (fun E ce q9 u9 H locs hpx hP hD hS hce hcv hcl => hpx.elim) (fun r_1 H locs hq2 hP hD hS => ?_)
  have hq2 : r_1 = 1 := hq2
  have hP : va_P g.1 vwCl (List.flatten [bTape g ta ab 0 0 0 0 0 (-1) (fun _ => 0), bLaw g lo ac 0 (-1) 0 0 0 (fun _ => 0), bLog g go ar 0 0 (fun _ => 0), [(tt, .inr (8, [.ref ta, .ref td]))], bTown g td tda 0 0 0 20 6 50 0 1 (fun _ _ => 0), [(lt, .inr (2, [.ref ta, .ref ldr]))], bLaw g ldr lda 0 (-1) 0 0 0 (fun _ => 0), bMem g mo qT qL it il ig 0 0 0 fT fL, bTown g it ia 0 0 0 20 6 50 0 1 (fun _ _ => 0), bLaw g il ic 0 (-1) 0 0 0 (fun _ => 0), bLog g ig ir 0 0 (fun _ => 0), bTown g t0 ta0 0 0 0 20 6 50 0 1 (fun _ _ => 0), bLog g l0 la0 0 0 (fun _ => 0), [(fo, .inr (0, [.ref o, .ref lo, .ref od]))], bTown g od ad 0 0 0 20 6 50 0 1 (fun _ _ => 0), bRid g ro af 0 0 (fun _ => 0), bObj g om am 0 0 0 0 0 0 0 (-1) 0 0 0 0, bArr g am (zf [m0, fun _ => 0, fun _ => 0, fun _ => 0, fun _ => 0, fun _ => 0, fun _ => 0, fun _ => 0]), [(oa, .inl (g.2 2, 1, .inr (.inl (fun _ => 0))))]]) H := hP
  have hD : va_D A (List.flatten [bTape g ta ab 0 0 0 0 0 (-1) (fun _ => 0), bLaw g lo ac 0 (-1) 0 0 0 (fun _ => 0), bLog g go ar 0 0 (fun _ => 0), [(tt, .inr (8, [.ref ta, .ref td]))], bTown g td tda 0 0 0 20 6 50 0 1 (fun _ _ => 0), [(lt, .inr (2, [.ref ta, .ref ldr]))], bLaw g ldr lda 0 (-1) 0 0 0 (fun _ => 0), bMem g mo qT qL it il ig 0 0 0 fT fL, bTown g it ia 0 0 0 20 6 50 0 1 (fun _ _ => 0), bLaw g il ic 0 (-1) 0 0 0 (fun _ => 0), bLog g ig ir 0 0 (fun _ => 0), bTown g t0 ta0 0 0 0 20 6 50 0 1 (fun _ _ => 0), bLog g l0 la0 0 0 (fun _ => 0), [(fo, .inr (0, [.ref o, .ref lo, .ref od]))], bTown g od ad 0 0 0 20 6 50 0 1 (fun _ _ => 0), bRid g ro af 0 0 (fun _ => 0), bObj g om am 0 0 0 0 0 0 0 (-1) 0 0 0 0, bArr g am (zf [m0, fun _ => 0, fun _ => 0, fun _ => 0, fun _ => 0, fun _ => 0, fun _ => 0, fun _ => 0]), [(oa, .inl (g.2 2, 1, .inr (.inl (fun _ => 0))))]]) := hD
  refine W.widen (k := 248) (n := 14997) (Nat.le_of_ble_eq_true rfl) (Nat.le_of_ble_eq_true rfl) ?_
  refine W.eq (g2 := F0 m 818 ls [.int r_1]) rfl ?_
  subst hq2
  refine lv_istore (lv' := [(5, .int 1), (4, .int 0), (3, .ref oa), (2, .ref om), (1, .ref x), (0, .ref b)]) hx hb dL_law__818 hl (by decide) rfl (fun ls hl => ?_)
  refine lv_aload_n hx hb dL_law__820 rfl (lv_at hl 3 rfl) ?_
  refine lv_aload_n hx hb dL_law__821 rfl (lv_at hl 5 rfl) ?_
  refine lv_iload hx hb dL_law__822 (lv_at hl 1 rfl) ?_
  refine lv_iconst (v := 1) hx hb dL_law__824 (by decide) ?_
  refine lv_iadd hx hb dL_law__825 ?_
  refine ztop (r := 1) (by decide) ?_
  refine va_sld hx hb hX hbl hbA hS (zin rfl) dL_law__826 ?_
  refine ztop (r := xs 1) rfl ?_
  refine mcallV (g := g) (q0 := 0) (ci := 10) (As := [.int (xs 1)]) (rest := []) St hK hT hA hP hD hS hl.1 [16, 17] [0, 1, 2, 3, 4, 5, 6, 7, 8, 9, 10, 11, 12, 13, 14, 15, 18] rfl rfl rfl (m_plan l g om am 0 0 0 0 0 0 0 (-1) 0 0 0 0 (zf [m0, fun _ => 0, fun _ => 0, fun _ => 0, fun _ => 0, fun _ => 0, fun _ => 0, fun _ => 0]) (xs 1) (by assumption)) (cwV 1 hts (zgL (zl4 k1364 k1365 k1366 k833) k1051) rfl rfl rfl (by decide +kernel) ⟨Nat.le_of_ble_eq_true rfl, Nat.le_of_ble_eq_true rfl⟩) rfl rfl rfl rfl (Nat.le_of_ble_eq_true rfl) dL_law__827 ⟨(Nat.le_of_ble_eq_true rfl), (Nat.le_of_ble_eq_true rfl)⟩ (fun u_ H locs hq15 hP hD hS => ?_)
  obtain ⟨th2_3, hi2_4, ac2_5, tp2_6, ba2_7, en2_8, tA2_9, fl2_10, de2_11, iD2_12, iO2_13, tU2_14⟩ := u_
  have hq15 : th2_3 = 1 := hq15
  have hP : va_P g.1 vwCl (List.flatten [bTape g ta ab 0 0 0 0 0 (-1) (fun _ => 0), bLaw g lo ac 0 (-1) 0 0 0 (fun _ => 0), bLog g go ar 0 0 (fun _ => 0), [(tt, .inr (8, [.ref ta, .ref td]))], bTown g td tda 0 0 0 20 6 50 0 1 (fun _ _ => 0), [(lt, .inr (2, [.ref ta, .ref ldr]))], bLaw g ldr lda 0 (-1) 0 0 0 (fun _ => 0), bMem g mo qT qL it il ig 0 0 0 fT fL, bTown g it ia 0 0 0 20 6 50 0 1 (fun _ _ => 0), bLaw g il ic 0 (-1) 0 0 0 (fun _ => 0), bLog g ig ir 0 0 (fun _ => 0), bTown g t0 ta0 0 0 0 20 6 50 0 1 (fun _ _ => 0), bLog g l0 la0 0 0 (fun _ => 0), [(fo, .inr (0, [.ref o, .ref lo, .ref od]))], bTown g od ad 0 0 0 20 6 50 0 1 (fun _ _ => 0), bRid g ro af 0 0 (fun _ => 0), [(oa, .inl (g.2 2, 1, .inr (.inl (fun _ => 0))))], bObj g om am th2_3 hi2_4 ac2_5 tp2_6 ba2_7 en2_8 tA2_9 fl2_10 de2_11 iD2_12 iO2_13 tU2_14]) H := hP
  have hD : va_D A (List.flatten [bTape g ta ab 0 0 0 0 0 (-1) (fun _ => 0), bLaw g lo ac 0 (-1) 0 0 0 (fun _ => 0), bLog g go ar 0 0 (fun _ => 0), [(tt, .inr (8, [.ref ta, .ref td]))], bTown g td tda 0 0 0 20 6 50 0 1 (fun _ _ => 0), [(lt, .inr (2, [.ref ta, .ref ldr]))], bLaw g ldr lda 0 (-1) 0 0 0 (fun _ => 0), bMem g mo qT qL it il ig 0 0 0 fT fL, bTown g it ia 0 0 0 20 6 50 0 1 (fun _ _ => 0), bLaw g il ic 0 (-1) 0 0 0 (fun _ => 0), bLog g ig ir 0 0 (fun _ => 0), bTown g t0 ta0 0 0 0 20 6 50 0 1 (fun _ _ => 0), bLog g l0 la0 0 0 (fun _ => 0), [(fo, .inr (0, [.ref o, .ref lo, .ref od]))], bTown g od ad 0 0 0 20 6 50 0 1 (fun _ _ => 0), bRid g ro af 0 0 (fun _ => 0), [(oa, .inl (g.2 2, 1, .inr (.inl (fun _ => 0))))], bObj g om am th2_3 hi2_4 ac2_5 tp2_6 ba2_7 en2_8 tA2_9 fl2_10 de2_11 iD2_12 iO2_13 tU2_14]) := hD
  refine W.widen (k := 248) (n := 14997) (Nat.le_of_ble_eq_true rfl) (Nat.le_of_ble_eq_true rfl) ?_
  refine W.eq (g2 := F0 m 830 ls []) rfl ?_
  subst hq15
  refine lv_aload_n hx hb dL_law__830 rfl (lv_at hl 3 rfl) ?_
  refine mcallV (g := g) (q0 := 0) (ci := 10) (As := []) (rest := []) St hK hT hA hP hD hS hl.1 [17] [0, 1, 2, 3, 4, 5, 6, 7, 8, 9, 10, 11, 12, 13, 14, 15, 16] rfl rfl rfl (m_thrown l g om am 1 hi2_4 ac2_5 tp2_6 ba2_7 en2_8 tA2_9 fl2_10 de2_11 iD2_12 iO2_13 tU2_14 ) (cwV 0 hts (zgL (zl4 k1317 k1318 k1319 k833) k824) rfl rfl rfl (by decide +kernel) ⟨Nat.le_of_ble_eq_true rfl, Nat.le_of_ble_eq_true rfl⟩) rfl rfl rfl rfl (Nat.le_of_ble_eq_true rfl) dL_law__831 ⟨(Nat.le_of_ble_eq_true rfl), (Nat.le_of_ble_eq_true rfl)⟩ (fun _u H locs hq16 hP hD hS => ?_)
  have hP : va_P g.1 vwCl (List.flatten [bTape g ta ab 0 0 0 0 0 (-1) (fun _ => 0), bLaw g lo ac 0 (-1) 0 0 0 (fun _ => 0), bLog g go ar 0 0 (fun _ => 0), [(tt, .inr (8, [.ref ta, .ref td]))], bTown g td tda 0 0 0 20 6 50 0 1 (fun _ _ => 0), [(lt, .inr (2, [.ref ta, .ref ldr]))], bLaw g ldr lda 0 (-1) 0 0 0 (fun _ => 0), bMem g mo qT qL it il ig 0 0 0 fT fL, bTown g it ia 0 0 0 20 6 50 0 1 (fun _ _ => 0), bLaw g il ic 0 (-1) 0 0 0 (fun _ => 0), bLog g ig ir 0 0 (fun _ => 0), bTown g t0 ta0 0 0 0 20 6 50 0 1 (fun _ _ => 0), bLog g l0 la0 0 0 (fun _ => 0), [(fo, .inr (0, [.ref o, .ref lo, .ref od]))], bTown g od ad 0 0 0 20 6 50 0 1 (fun _ _ => 0), bRid g ro af 0 0 (fun _ => 0), [(oa, .inl (g.2 2, 1, .inr (.inl (fun _ => 0))))], bObj g om am 1 hi2_4 ac2_5 tp2_6 ba2_7 en2_8 tA2_9 fl2_10 de2_11 iD2_12 iO2_13 tU2_14]) H := hP
  have hD : va_D A (List.flatten [bTape g ta ab 0 0 0 0 0 (-1) (fun _ => 0), bLaw g lo ac 0 (-1) 0 0 0 (fun _ => 0), bLog g go ar 0 0 (fun _ => 0), [(tt, .inr (8, [.ref ta, .ref td]))], bTown g td tda 0 0 0 20 6 50 0 1 (fun _ _ => 0), [(lt, .inr (2, [.ref ta, .ref ldr]))], bLaw g ldr lda 0 (-1) 0 0 0 (fun _ => 0), bMem g mo qT qL it il ig 0 0 0 fT fL, bTown g it ia 0 0 0 20 6 50 0 1 (fun _ _ => 0), bLaw g il ic 0 (-1) 0 0 0 (fun _ => 0), bLog g ig ir 0 0 (fun _ => 0), bTown g t0 ta0 0 0 0 20 6 50 0 1 (fun _ _ => 0), bLog g l0 la0 0 0 (fun _ => 0), [(fo, .inr (0, [.ref o, .ref lo, .ref od]))], bTown g od ad 0 0 0 20 6 50 0 1 (fun _ _ => 0), bRid g ro af 0 0 (fun _ => 0), [(oa, .inl (g.2 2, 1, .inr (.inl (fun _ => 0))))], bObj g om am 1 hi2_4 ac2_5 tp2_6 ba2_7 en2_8 tA2_9 fl2_10 de2_11 iD2_12 iO2_13 tU2_14]) := hD
  refine W.widen (k := 248) (n := 14997) (Nat.le_of_ble_eq_true rfl) (Nat.le_of_ble_eq_true rfl) ?_
  refine W.eq (g2 := F0 m 834 ls [.int 1]) rfl ?_
  refine lv_iload hx hb dL_law__834 (lv_at hl 0 rfl) ?_
  refine lv_icmp_eq (tgt := 841) hx hb dL_law__836 (by decide) (fun _ => ?_) (fun c17 => absurd (by decide) c17)
  refine lv_goto (tgt := 2738) hx hb dL_law__841 (by decide) ?_
  refine lv_iinc (v := 6) (lv' := [(4, .int 6), (5, .int 1), (3, .ref oa), (2, .ref om), (1, .ref x), (0, .ref b)]) hx hb dL_law__2738 hl (k := 1) rfl (by decide) (by decide) rfl (fun ls hl => ?_)
  refine lv_goto (tgt := 23) hx hb dL_law__2741 (by decide) ?_
  refine lv_iload hx hb dL_law__23 (lv_at hl 0 rfl) ?_
  refine lv_aload_n hx hb dL_law__25 rfl (lv_at hl 5 rfl) ?_
  refine va_slen hx hb hX hbl hbA hS dL_law__26 ?_
  refine ztop (r := 6) rfl ?_
  refine lv_bipush (v := 6) hx hb dL_law__27 (by decide) ?_
  refine lv_isub hx hb dL_law__29 ?_
  refine ztop (r := 0) (by decide) ?_
  refine lv_icmp_gt (tgt := 2744) hx hb dL_law__30 (by decide) (fun _ => ?_) (fun c18 => absurd (by decide) c18)
  refine lv_iconst (v := 1) hx hb dL_law__2744 (by decide) ?_
  refine va_forget (fun q hq => by have h9 := hS.2.2 q hq; rw [hAe] at h9; exact h9) ?_
  refine W.widen (k := 600002) (n := 7302232) (Nat.le_of_ble_eq_true rfl) (Nat.le_of_ble_eq_true rfl) ?_
  exact lw_ret hx hb hr hlocks dL_law__2745
set_option maxRecDepth 100000 in
set_option maxHeartbeats 4000000 in
/-- the law: send -/
theorem w_12 {p : Program} {e : Env} {s : State} {m : MethodId} {below : List Frame} {meth : Method} {c : Code} (l : Launch) (hfl : l.stackTraces = false) (g : zG) {b : Nat} {xs : Nat → Int32} {A : Nat → Prop} (hAe : A = fun q => s.heap.size ≤ q) (hA : ∀ q, s.heap.size ≤ q → A q) (hbA : ¬ A b) (St : CallFix p m c cL_law_ 7 s #[Value.ref b] zB RL) (hr : meth.sig.returnType = ret) (hlocks : meth.locks = false) (hX : va_X b 6 xs s s.heap) (hbl : b < s.heap.size) (hK : zK g s) (hT : zTh A s) (x : Nat) (ta : Nat) (o : Nat) (lo : Nat) (go : Nat) (tt : Nat) (lt : Nat) (mo : Nat) (fo : Nat) (ro : Nat) (ab : Nat) (ac : Nat) (ar : Nat) (td : Nat) (a : Nat → Nat) (tda : Nat → Nat) (ldr : Nat) (lda : Nat) (qT : Nat) (qL : Nat) (it : Nat) (il : Nat) (ig : Nat) (fT : Nat → Option Nat) (fL : Nat → Option Nat) (ia : Nat → Nat) (ic : Nat) (ir : Nat) (t0 : Nat) (ta0 : Nat → Nat) (l0 : Nat) (la0 : Nat) (od : Nat) (ad : Nat → Nat) (af : Nat) (om : Nat) (am : Nat → Nat) (m0 : Nat → Int32) (oa : Nat) (hT0 : fT 0 = some t0) (hL0 : fL 0 = some l0) (hm : zMo m0) (h8 : m0 8 = 0) (h10 : m0 10 = 1) (H : Heap) (locs : List Loc) (ls : Array Slot) (hP : va_P g.1 vwCl (List.flatten [bDR g x ta o lo go tt lt mo fo ro (-1), bTape g ta ab 0 0 0 0 0 (-1) (fun _ => 0), bTown g o a 0 0 0 20 6 50 0 1 (fun _ _ => 0), bLaw g lo ac 0 (-1) 0 0 0 (fun _ => 0), bLog g go ar 0 0 (fun _ => 0), [(tt, .inr (8, [.ref ta, .ref td]))], bTown g td tda 0 0 0 20 6 50 0 1 (fun _ _ => 0), [(lt, .inr (2, [.ref ta, .ref ldr]))], bLaw g ldr lda 0 (-1) 0 0 0 (fun _ => 0), bMem g mo qT qL it il ig 0 0 0 fT fL, bTown g it ia 0 0 0 20 6 50 0 1 (fun _ _ => 0), bLaw g il ic 0 (-1) 0 0 0 (fun _ => 0), bLog g ig ir 0 0 (fun _ => 0), bTown g t0 ta0 0 0 0 20 6 50 0 1 (fun _ _ => 0), bLog g l0 la0 0 0 (fun _ => 0), [(fo, .inr (0, [.ref o, .ref lo, .ref od]))], bTown g od ad 0 0 0 20 6 50 0 1 (fun _ _ => 0), bRid g ro af 0 0 (fun _ => 0), bObj g om am 0 0 0 0 0 0 0 (-1) 0 0 0 0, bArr g am (zf [m0, fun _ => 0, fun _ => 0, fun _ => 0, fun _ => 0, fun _ => 0, fun _ => 0, fun _ => 0]), [(oa, .inl (g.2 2, 1, .inr (.inl (fun _ => 0))))]]) H) (hD : va_D A (List.flatten [bDR g x ta o lo go tt lt mo fo ro (-1), bTape g ta ab 0 0 0 0 0 (-1) (fun _ => 0), bTown g o a 0 0 0 20 6 50 0 1 (fun _ _ => 0), bLaw g lo ac 0 (-1) 0 0 0 (fun _ => 0), bLog g go ar 0 0 (fun _ => 0), [(tt, .inr (8, [.ref ta, .ref td]))], bTown g td tda 0 0 0 20 6 50 0 1 (fun _ _ => 0), [(lt, .inr (2, [.ref ta, .ref ldr]))], bLaw g ldr lda 0 (-1) 0 0 0 (fun _ => 0), bMem g mo qT qL it il ig 0 0 0 fT fL, bTown g it ia 0 0 0 20 6 50 0 1 (fun _ _ => 0), bLaw g il ic 0 (-1) 0 0 0 (fun _ => 0), bLog g ig ir 0 0 (fun _ => 0), bTown g t0 ta0 0 0 0 20 6 50 0 1 (fun _ _ => 0), bLog g l0 la0 0 0 (fun _ => 0), [(fo, .inr (0, [.ref o, .ref lo, .ref od]))], bTown g od ad 0 0 0 20 6 50 0 1 (fun _ _ => 0), bRid g ro af 0 0 (fun _ => 0), bObj g om am 0 0 0 0 0 0 0 (-1) 0 0 0 0, bArr g am (zf [m0, fun _ => 0, fun _ => 0, fun _ => 0, fun _ => 0, fun _ => 0, fun _ => 0, fun _ => 0]), [(oa, .inl (g.2 2, 1, .inr (.inl (fun _ => 0))))]])) (hS : va_S A s.heap H locs) (hl : lv_has ls 7 [(4, .int 0), (3, .ref oa), (2, .ref om), (1, .ref x), (0, .ref b)]) : W p l e room_1 s m #[Value.ref b] below meth c H locs 247 14991 (lw_Z below #[Value.ref b] s) (F0 m 844 ls []) := by
  obtain ⟨hx, hb, hml, hown, hts⟩ := id St
  have hz0 : zZ (fun _ => 0) := zZ0
  refine lv_aload_n hx hb dL_law__844 rfl (lv_at hl 3 rfl) ?_
  refine lv_aload_n hx hb dL_law__845 rfl (lv_at hl 4 rfl) ?_
  refine lv_iload hx hb dL_law__846 (lv_at hl 0 rfl) ?_
  refine lv_iconst (v := 1) hx hb dL_law__848 (by decide) ?_
  refine lv_iadd hx hb dL_law__849 ?_
  refine ztop (r := 1) (by decide) ?_
  refine va_sld hx hb hX hbl hbA hS (zin rfl) dL_law__850 ?_
  refine ztop (r := xs 1) rfl ?_
  refine lv_aload_n hx hb dL_law__851 rfl (lv_at hl 1 rfl) ?_
  refine xcallSX (g := g) (As := [.ref x, .int (xs 1), .ref oa]) (rest := []) St hK hT hA hP hD hS hl.1 [0, 2, 20] [1, 3, 4, 5, 6, 7, 8, 9, 10, 11, 12, 13, 14, 15, 16, 17, 18, 19] rfl rfl rfl (l_send l hfl g x ta o lo go tt lt mo fo ro (-1) o a 0 20 6 50 0 1 (fun _ _ => 0) (xs 1) oa (fun _ => 0) ) (vx_cwSW 3 hts (zgL (zl3 k1367 k1368 k1313) k1193) rfl rfl rfl (by decide +kernel) ⟨Nat.le_of_ble_eq_true rfl, Nat.le_of_ble_eq_true rfl⟩) rfl rfl (Nat.le_of_ble_eq_true rfl) dL_law__852 ⟨(Nat.le_of_ble_eq_true rfl), (Nat.le_of_ble_eq_true rfl)⟩ (fun E ce q9 u9 H locs hpx hP hD hS hce hcv hcl => hpx.elim) (fun u_ H locs hq3 hP hD hS => ?_)
  obtain ⟨r_1, fz2_2⟩ := u_
  have hq3 : r_1 = 1 := hq3
  have hP : va_P g.1 vwCl (List.flatten [bTape g ta ab 0 0 0 0 0 (-1) (fun _ => 0), bLaw g lo ac 0 (-1) 0 0 0 (fun _ => 0), bLog g go ar 0 0 (fun _ => 0), [(tt, .inr (8, [.ref ta, .ref td]))], bTown g td tda 0 0 0 20 6 50 0 1 (fun _ _ => 0), [(lt, .inr (2, [.ref ta, .ref ldr]))], bLaw g ldr lda 0 (-1) 0 0 0 (fun _ => 0), bMem g mo qT qL it il ig 0 0 0 fT fL, bTown g it ia 0 0 0 20 6 50 0 1 (fun _ _ => 0), bLaw g il ic 0 (-1) 0 0 0 (fun _ => 0), bLog g ig ir 0 0 (fun _ => 0), bTown g t0 ta0 0 0 0 20 6 50 0 1 (fun _ _ => 0), bLog g l0 la0 0 0 (fun _ => 0), [(fo, .inr (0, [.ref o, .ref lo, .ref od]))], bTown g od ad 0 0 0 20 6 50 0 1 (fun _ _ => 0), bRid g ro af 0 0 (fun _ => 0), bObj g om am 0 0 0 0 0 0 0 (-1) 0 0 0 0, bArr g am (zf [m0, fun _ => 0, fun _ => 0, fun _ => 0, fun _ => 0, fun _ => 0, fun _ => 0, fun _ => 0]), [(oa, .inl (g.2 2, 1, .inr (.inl fz2_2)))]]) H := hP
  have hD : va_D A (List.flatten [bTape g ta ab 0 0 0 0 0 (-1) (fun _ => 0), bLaw g lo ac 0 (-1) 0 0 0 (fun _ => 0), bLog g go ar 0 0 (fun _ => 0), [(tt, .inr (8, [.ref ta, .ref td]))], bTown g td tda 0 0 0 20 6 50 0 1 (fun _ _ => 0), [(lt, .inr (2, [.ref ta, .ref ldr]))], bLaw g ldr lda 0 (-1) 0 0 0 (fun _ => 0), bMem g mo qT qL it il ig 0 0 0 fT fL, bTown g it ia 0 0 0 20 6 50 0 1 (fun _ _ => 0), bLaw g il ic 0 (-1) 0 0 0 (fun _ => 0), bLog g ig ir 0 0 (fun _ => 0), bTown g t0 ta0 0 0 0 20 6 50 0 1 (fun _ _ => 0), bLog g l0 la0 0 0 (fun _ => 0), [(fo, .inr (0, [.ref o, .ref lo, .ref od]))], bTown g od ad 0 0 0 20 6 50 0 1 (fun _ _ => 0), bRid g ro af 0 0 (fun _ => 0), bObj g om am 0 0 0 0 0 0 0 (-1) 0 0 0 0, bArr g am (zf [m0, fun _ => 0, fun _ => 0, fun _ => 0, fun _ => 0, fun _ => 0, fun _ => 0, fun _ => 0]), [(oa, .inl (g.2 2, 1, .inr (.inl fz2_2)))]]) := hD
  refine W.widen (k := 248) (n := 14997) (Nat.le_of_ble_eq_true rfl) (Nat.le_of_ble_eq_true rfl) ?_
  refine W.eq (g2 := F0 m 855 ls [.int r_1]) rfl ?_
  subst hq3
  refine lv_istore (lv' := [(5, .int 1), (4, .int 0), (3, .ref oa), (2, .ref om), (1, .ref x), (0, .ref b)]) hx hb dL_law__855 hl (by decide) rfl (fun ls hl => ?_)
  refine lv_aload_n hx hb dL_law__857 rfl (lv_at hl 3 rfl) ?_
  refine lv_aload_n hx hb dL_law__858 rfl (lv_at hl 5 rfl) ?_
  refine lv_iload hx hb dL_law__859 (lv_at hl 1 rfl) ?_
  refine lv_iconst (v := 1) hx hb dL_law__861 (by decide) ?_
  refine lv_iadd hx hb dL_law__862 ?_
  refine ztop (r := 1) (by decide) ?_
  refine va_sld hx hb hX hbl hbA hS (zin rfl) dL_law__863 ?_
  refine ztop (r := xs 1) rfl ?_
  refine mcallV (g := g) (q0 := 0) (ci := 10) (As := [.int (xs 1)]) (rest := []) St hK hT hA hP hD hS hl.1 [16, 17] [0, 1, 2, 3, 4, 5, 6, 7, 8, 9, 10, 11, 12, 13, 14, 15, 18] rfl rfl rfl (m_send l g om am 0 0 0 0 0 0 0 (-1) 0 0 0 0 (zf [m0, fun _ => 0, fun _ => 0, fun _ => 0, fun _ => 0, fun _ => 0, fun _ => 0, fun _ => 0]) (xs 1) (by assumption)) (cwV 1 hts (zgL (zl4 k1369 k1370 k1371 k833) k1052) rfl rfl rfl (by decide +kernel) ⟨Nat.le_of_ble_eq_true rfl, Nat.le_of_ble_eq_true rfl⟩) rfl rfl rfl rfl (Nat.le_of_ble_eq_true rfl) dL_law__864 ⟨(Nat.le_of_ble_eq_true rfl), (Nat.le_of_ble_eq_true rfl)⟩ (fun u_ H locs hq17 hP hD hS => ?_)
  obtain ⟨th2_4, hi2_5, ac2_6, tp2_7, ba2_8, en2_9, tA2_10, fl2_11, de2_12, iD2_13, iO2_14, tU2_15, q_16⟩ := u_
  have hq17 : th2_4 = 1 := hq17
  have hP : va_P g.1 vwCl (List.flatten [bTape g ta ab 0 0 0 0 0 (-1) (fun _ => 0), bLaw g lo ac 0 (-1) 0 0 0 (fun _ => 0), bLog g go ar 0 0 (fun _ => 0), [(tt, .inr (8, [.ref ta, .ref td]))], bTown g td tda 0 0 0 20 6 50 0 1 (fun _ _ => 0), [(lt, .inr (2, [.ref ta, .ref ldr]))], bLaw g ldr lda 0 (-1) 0 0 0 (fun _ => 0), bMem g mo qT qL it il ig 0 0 0 fT fL, bTown g it ia 0 0 0 20 6 50 0 1 (fun _ _ => 0), bLaw g il ic 0 (-1) 0 0 0 (fun _ => 0), bLog g ig ir 0 0 (fun _ => 0), bTown g t0 ta0 0 0 0 20 6 50 0 1 (fun _ _ => 0), bLog g l0 la0 0 0 (fun _ => 0), [(fo, .inr (0, [.ref o, .ref lo, .ref od]))], bTown g od ad 0 0 0 20 6 50 0 1 (fun _ _ => 0), bRid g ro af 0 0 (fun _ => 0), [(oa, .inl (g.2 2, 1, .inr (.inl fz2_2)))], bObj g om am th2_4 hi2_5 ac2_6 tp2_7 ba2_8 en2_9 tA2_10 fl2_11 de2_12 iD2_13 iO2_14 tU2_15]) H := hP
  have hD : va_D A (List.flatten [bTape g ta ab 0 0 0 0 0 (-1) (fun _ => 0), bLaw g lo ac 0 (-1) 0 0 0 (fun _ => 0), bLog g go ar 0 0 (fun _ => 0), [(tt, .inr (8, [.ref ta, .ref td]))], bTown g td tda 0 0 0 20 6 50 0 1 (fun _ _ => 0), [(lt, .inr (2, [.ref ta, .ref ldr]))], bLaw g ldr lda 0 (-1) 0 0 0 (fun _ => 0), bMem g mo qT qL it il ig 0 0 0 fT fL, bTown g it ia 0 0 0 20 6 50 0 1 (fun _ _ => 0), bLaw g il ic 0 (-1) 0 0 0 (fun _ => 0), bLog g ig ir 0 0 (fun _ => 0), bTown g t0 ta0 0 0 0 20 6 50 0 1 (fun _ _ => 0), bLog g l0 la0 0 0 (fun _ => 0), [(fo, .inr (0, [.ref o, .ref lo, .ref od]))], bTown g od ad 0 0 0 20 6 50 0 1 (fun _ _ => 0), bRid g ro af 0 0 (fun _ => 0), [(oa, .inl (g.2 2, 1, .inr (.inl fz2_2)))], bObj g om am th2_4 hi2_5 ac2_6 tp2_7 ba2_8 en2_9 tA2_10 fl2_11 de2_12 iD2_13 iO2_14 tU2_15]) := hD
  refine W.widen (k := 248) (n := 14997) (Nat.le_of_ble_eq_true rfl) (Nat.le_of_ble_eq_true rfl) ?_
  refine W.eq (g2 := F0 m 867 ls [.int q_16]) rfl ?_
  subst hq17
  refine lv_istore (lv' := [(6, .int q_16), (5, .int 1), (4, .int 0), (3, .ref oa), (2, .ref om), (1, .ref x), (0, .ref b)]) hx hb dL_law__867 hl (by decide) rfl (fun ls hl => ?_)
  refine lv_aload_n hx hb dL_law__869 rfl (lv_at hl 4 rfl) ?_
  refine mcallV (g := g) (q0 := 0) (ci := 10) (As := []) (rest := []) St hK hT hA hP hD hS hl.1 [17] [0, 1, 2, 3, 4, 5, 6, 7, 8, 9, 10, 11, 12, 13, 14, 15, 16] rfl rfl rfl (m_thrown l g om am 1 hi2_5 ac2_6 tp2_7 ba2_8 en2_9 tA2_10 fl2_11 de2_12 iD2_13 iO2_14 tU2_15 ) (cwV 0 hts (zgL (zl4 k1317 k1318 k1319 k833) k824) rfl rfl rfl (by decide +kernel) ⟨Nat.le_of_ble_eq_true rfl, Nat.le_of_ble_eq_true rfl⟩) rfl rfl rfl rfl (Nat.le_of_ble_eq_true rfl) dL_law__870 ⟨(Nat.le_of_ble_eq_true rfl), (Nat.le_of_ble_eq_true rfl)⟩ (fun _u H locs hq18 hP hD hS => ?_)
  have hP : va_P g.1 vwCl (List.flatten [bTape g ta ab 0 0 0 0 0 (-1) (fun _ => 0), bLaw g lo ac 0 (-1) 0 0 0 (fun _ => 0), bLog g go ar 0 0 (fun _ => 0), [(tt, .inr (8, [.ref ta, .ref td]))], bTown g td tda 0 0 0 20 6 50 0 1 (fun _ _ => 0), [(lt, .inr (2, [.ref ta, .ref ldr]))], bLaw g ldr lda 0 (-1) 0 0 0 (fun _ => 0), bMem g mo qT qL it il ig 0 0 0 fT fL, bTown g it ia 0 0 0 20 6 50 0 1 (fun _ _ => 0), bLaw g il ic 0 (-1) 0 0 0 (fun _ => 0), bLog g ig ir 0 0 (fun _ => 0), bTown g t0 ta0 0 0 0 20 6 50 0 1 (fun _ _ => 0), bLog g l0 la0 0 0 (fun _ => 0), [(fo, .inr (0, [.ref o, .ref lo, .ref od]))], bTown g od ad 0 0 0 20 6 50 0 1 (fun _ _ => 0), bRid g ro af 0 0 (fun _ => 0), [(oa, .inl (g.2 2, 1, .inr (.inl fz2_2)))], bObj g om am 1 hi2_5 ac2_6 tp2_7 ba2_8 en2_9 tA2_10 fl2_11 de2_12 iD2_13 iO2_14 tU2_15]) H := hP
  have hD : va_D A (List.flatten [bTape g ta ab 0 0 0 0 0 (-1) (fun _ => 0), bLaw g lo ac 0 (-1) 0 0 0 (fun _ => 0), bLog g go ar 0 0 (fun _ => 0), [(tt, .inr (8, [.ref ta, .ref td]))], bTown g td tda 0 0 0 20 6 50 0 1 (fun _ _ => 0), [(lt, .inr (2, [.ref ta, .ref ldr]))], bLaw g ldr lda 0 (-1) 0 0 0 (fun _ => 0), bMem g mo qT qL it il ig 0 0 0 fT fL, bTown g it ia 0 0 0 20 6 50 0 1 (fun _ _ => 0), bLaw g il ic 0 (-1) 0 0 0 (fun _ => 0), bLog g ig ir 0 0 (fun _ => 0), bTown g t0 ta0 0 0 0 20 6 50 0 1 (fun _ _ => 0), bLog g l0 la0 0 0 (fun _ => 0), [(fo, .inr (0, [.ref o, .ref lo, .ref od]))], bTown g od ad 0 0 0 20 6 50 0 1 (fun _ _ => 0), bRid g ro af 0 0 (fun _ => 0), [(oa, .inl (g.2 2, 1, .inr (.inl fz2_2)))], bObj g om am 1 hi2_5 ac2_6 tp2_7 ba2_8 en2_9 tA2_10 fl2_11 de2_12 iD2_13 iO2_14 tU2_15]) := hD
  refine W.widen (k := 248) (n := 14997) (Nat.le_of_ble_eq_true rfl) (Nat.le_of_ble_eq_true rfl) ?_
  refine W.eq (g2 := F0 m 873 ls [.int 1]) rfl ?_
  refine lv_iload hx hb dL_law__873 (lv_at hl 1 rfl) ?_
  refine lv_icmp_eq (tgt := 880) hx hb dL_law__875 (by decide) (fun _ => ?_) (fun c19 => absurd (by decide) c19)
  refine lv_iload hx hb dL_law__880 (lv_at hl 1 rfl) ?_
  refine lv_if_ne (tgt := 897) hx hb dL_law__882 (by decide) (fun _ => ?_) (fun c20 => absurd c20 (by decide))
  refine lv_goto (tgt := 2738) hx hb dL_law__897 (by decide) ?_
  refine lv_iinc (v := 6) (lv' := [(4, .int 6), (6, .int q_16), (5, .int 1), (3, .ref oa), (2, .ref om), (1, .ref x), (0, .ref b)]) hx hb dL_law__2738 hl (k := 2) rfl (by decide) (by decide) rfl (fun ls hl => ?_)
  refine lv_goto (tgt := 23) hx hb dL_law__2741 (by decide) ?_
  refine lv_iload hx hb dL_law__23 (lv_at hl 0 rfl) ?_
  refine lv_aload_n hx hb dL_law__25 rfl (lv_at hl 6 rfl) ?_
  refine va_slen hx hb hX hbl hbA hS dL_law__26 ?_
  refine ztop (r := 6) rfl ?_
  refine lv_bipush (v := 6) hx hb dL_law__27 (by decide) ?_
  refine lv_isub hx hb dL_law__29 ?_
  refine ztop (r := 0) (by decide) ?_
  refine lv_icmp_gt (tgt := 2744) hx hb dL_law__30 (by decide) (fun _ => ?_) (fun c21 => absurd (by decide) c21)
  refine lv_iconst (v := 1) hx hb dL_law__2744 (by decide) ?_
  refine va_forget (fun q hq => by have h9 := hS.2.2 q hq; rw [hAe] at h9; exact h9) ?_
  refine W.widen (k := 600002) (n := 7302232) (Nat.le_of_ble_eq_true rfl) (Nat.le_of_ble_eq_true rfl) ?_
  exact lw_ret hx hb hr hlocks dL_law__2745
set_option maxRecDepth 100000 in
set_option maxHeartbeats 4000000 in
/-- the law: buy -/
theorem w_13 {p : Program} {e : Env} {s : State} {m : MethodId} {below : List Frame} {meth : Method} {c : Code} (l : Launch) (hfl : l.stackTraces = false) (g : zG) {b : Nat} {xs : Nat → Int32} {A : Nat → Prop} (hAe : A = fun q => s.heap.size ≤ q) (hA : ∀ q, s.heap.size ≤ q → A q) (hbA : ¬ A b) (St : CallFix p m c cL_law_ 7 s #[Value.ref b] zB RL) (hr : meth.sig.returnType = ret) (hlocks : meth.locks = false) (hX : va_X b 6 xs s s.heap) (hbl : b < s.heap.size) (hK : zK g s) (hT : zTh A s) (x : Nat) (ta : Nat) (o : Nat) (lo : Nat) (go : Nat) (tt : Nat) (lt : Nat) (mo : Nat) (fo : Nat) (ro : Nat) (ab : Nat) (ac : Nat) (ar : Nat) (td : Nat) (a : Nat → Nat) (tda : Nat → Nat) (ldr : Nat) (lda : Nat) (qT : Nat) (qL : Nat) (it : Nat) (il : Nat) (ig : Nat) (fT : Nat → Option Nat) (fL : Nat → Option Nat) (ia : Nat → Nat) (ic : Nat) (ir : Nat) (t0 : Nat) (ta0 : Nat → Nat) (l0 : Nat) (la0 : Nat) (od : Nat) (ad : Nat → Nat) (af : Nat) (om : Nat) (am : Nat → Nat) (m0 : Nat → Int32) (oa : Nat) (hT0 : fT 0 = some t0) (hL0 : fL 0 = some l0) (hm : zMo m0) (h8 : m0 8 = 0) (h10 : m0 10 = 1) (H : Heap) (locs : List Loc) (ls : Array Slot) (hP : va_P g.1 vwCl (List.flatten [bDR g x ta o lo go tt lt mo fo ro (-1), bTape g ta ab 0 0 0 0 0 (-1) (fun _ => 0), bTown g o a 0 0 0 20 6 50 0 1 (fun _ _ => 0), bLaw g lo ac 0 (-1) 0 0 0 (fun _ => 0), bLog g go ar 0 0 (fun _ => 0), [(tt, .inr (8, [.ref ta, .ref td]))], bTown g td tda 0 0 0 20 6 50 0 1 (fun _ _ => 0), [(lt, .inr (2, [.ref ta, .ref ldr]))], bLaw g ldr lda 0 (-1) 0 0 0 (fun _ => 0), bMem g mo qT qL it il ig 0 0 0 fT fL, bTown g it ia 0 0 0 20 6 50 0 1 (fun _ _ => 0), bLaw g il ic 0 (-1) 0 0 0 (fun _ => 0), bLog g ig ir 0 0 (fun _ => 0), bTown g t0 ta0 0 0 0 20 6 50 0 1 (fun _ _ => 0), bLog g l0 la0 0 0 (fun _ => 0), [(fo, .inr (0, [.ref o, .ref lo, .ref od]))], bTown g od ad 0 0 0 20 6 50 0 1 (fun _ _ => 0), bRid g ro af 0 0 (fun _ => 0), bObj g om am 0 0 0 0 0 0 0 (-1) 0 0 0 0, bArr g am (zf [m0, fun _ => 0, fun _ => 0, fun _ => 0, fun _ => 0, fun _ => 0, fun _ => 0, fun _ => 0]), [(oa, .inl (g.2 2, 1, .inr (.inl (fun _ => 0))))]]) H) (hD : va_D A (List.flatten [bDR g x ta o lo go tt lt mo fo ro (-1), bTape g ta ab 0 0 0 0 0 (-1) (fun _ => 0), bTown g o a 0 0 0 20 6 50 0 1 (fun _ _ => 0), bLaw g lo ac 0 (-1) 0 0 0 (fun _ => 0), bLog g go ar 0 0 (fun _ => 0), [(tt, .inr (8, [.ref ta, .ref td]))], bTown g td tda 0 0 0 20 6 50 0 1 (fun _ _ => 0), [(lt, .inr (2, [.ref ta, .ref ldr]))], bLaw g ldr lda 0 (-1) 0 0 0 (fun _ => 0), bMem g mo qT qL it il ig 0 0 0 fT fL, bTown g it ia 0 0 0 20 6 50 0 1 (fun _ _ => 0), bLaw g il ic 0 (-1) 0 0 0 (fun _ => 0), bLog g ig ir 0 0 (fun _ => 0), bTown g t0 ta0 0 0 0 20 6 50 0 1 (fun _ _ => 0), bLog g l0 la0 0 0 (fun _ => 0), [(fo, .inr (0, [.ref o, .ref lo, .ref od]))], bTown g od ad 0 0 0 20 6 50 0 1 (fun _ _ => 0), bRid g ro af 0 0 (fun _ => 0), bObj g om am 0 0 0 0 0 0 0 (-1) 0 0 0 0, bArr g am (zf [m0, fun _ => 0, fun _ => 0, fun _ => 0, fun _ => 0, fun _ => 0, fun _ => 0, fun _ => 0]), [(oa, .inl (g.2 2, 1, .inr (.inl (fun _ => 0))))]])) (hS : va_S A s.heap H locs) (hl : lv_has ls 7 [(4, .int 0), (3, .ref oa), (2, .ref om), (1, .ref x), (0, .ref b)]) : W p l e room_1 s m #[Value.ref b] below meth c H locs 247 14991 (lw_Z below #[Value.ref b] s) (F0 m 900 ls []) := by
  obtain ⟨hx, hb, hml, hown, hts⟩ := id St
  have hz0 : zZ (fun _ => 0) := zZ0
  refine lv_aload_n hx hb dL_law__900 rfl (lv_at hl 3 rfl) ?_
  refine lv_aload_n hx hb dL_law__901 rfl (lv_at hl 4 rfl) ?_
  refine lv_iload hx hb dL_law__902 (lv_at hl 0 rfl) ?_
  refine lv_iconst (v := 1) hx hb dL_law__904 (by decide) ?_
  refine lv_iadd hx hb dL_law__905 ?_
  refine ztop (r := 1) (by decide) ?_
  refine va_sld hx hb hX hbl hbA hS (zin rfl) dL_law__906 ?_
  refine ztop (r := xs 1) rfl ?_
  refine lv_aload_n hx hb dL_law__907 rfl (lv_at hl 4 rfl) ?_
  refine lv_iload hx hb dL_law__908 (lv_at hl 0 rfl) ?_
  refine lv_iconst (v := 2) hx hb dL_law__910 (by decide) ?_
  refine lv_iadd hx hb dL_law__911 ?_
  refine ztop (r := 2) (by decide) ?_
  refine va_sld hx hb hX hbl hbA hS (zin rfl) dL_law__912 ?_
  refine ztop (r := xs 2) rfl ?_
  refine lv_aload_n hx hb dL_law__913 rfl (lv_at hl 1 rfl) ?_
  refine xcallSX (g := g) (As := [.ref x, .int (xs 1), .int (xs 2), .ref oa]) (rest := []) St hK hT hA hP hD hS hl.1 [0, 2, 20] [1, 3, 4, 5, 6, 7, 8, 9, 10, 11, 12, 13, 14, 15, 16, 17, 18, 19] rfl rfl rfl (l_buy l hfl g x ta o lo go tt lt mo fo ro (-1) o a 0 20 6 50 0 1 (fun _ _ => 0) (xs 1) (xs 2) oa (fun _ => 0) ) (vx_cwSW 4 hts (zgL (zl3 k1372 k1373 k1313) k1197) rfl rfl rfl (by decide +kernel) ⟨Nat.le_of_ble_eq_true rfl, Nat.le_of_ble_eq_true rfl⟩) rfl rfl (Nat.le_of_ble_eq_true rfl) dL_law__914 ⟨(Nat.le_of_ble_eq_true rfl), (Nat.le_of_ble_eq_true rfl)⟩ (fun E ce q9 u9 H locs hpx hP hD hS hce hcv hcl => hpx.elim) (fun u_ H locs hq3 hP hD hS => ?_)
  obtain ⟨r_1, fz2_2⟩ := u_
  have hq3 : r_1 = 1 := hq3
  have hP : va_P g.1 vwCl (List.flatten [bTape g ta ab 0 0 0 0 0 (-1) (fun _ => 0), bLaw g lo ac 0 (-1) 0 0 0 (fun _ => 0), bLog g go ar 0 0 (fun _ => 0), [(tt, .inr (8, [.ref ta, .ref td]))], bTown g td tda 0 0 0 20 6 50 0 1 (fun _ _ => 0), [(lt, .inr (2, [.ref ta, .ref ldr]))], bLaw g ldr lda 0 (-1) 0 0 0 (fun _ => 0), bMem g mo qT qL it il ig 0 0 0 fT fL, bTown g it ia 0 0 0 20 6 50 0 1 (fun _ _ => 0), bLaw g il ic 0 (-1) 0 0 0 (fun _ => 0), bLog g ig ir 0 0 (fun _ => 0), bTown g t0 ta0 0 0 0 20 6 50 0 1 (fun _ _ => 0), bLog g l0 la0 0 0 (fun _ => 0), [(fo, .inr (0, [.ref o, .ref lo, .ref od]))], bTown g od ad 0 0 0 20 6 50 0 1 (fun _ _ => 0), bRid g ro af 0 0 (fun _ => 0), bObj g om am 0 0 0 0 0 0 0 (-1) 0 0 0 0, bArr g am (zf [m0, fun _ => 0, fun _ => 0, fun _ => 0, fun _ => 0, fun _ => 0, fun _ => 0, fun _ => 0]), [(oa, .inl (g.2 2, 1, .inr (.inl fz2_2)))]]) H := hP
  have hD : va_D A (List.flatten [bTape g ta ab 0 0 0 0 0 (-1) (fun _ => 0), bLaw g lo ac 0 (-1) 0 0 0 (fun _ => 0), bLog g go ar 0 0 (fun _ => 0), [(tt, .inr (8, [.ref ta, .ref td]))], bTown g td tda 0 0 0 20 6 50 0 1 (fun _ _ => 0), [(lt, .inr (2, [.ref ta, .ref ldr]))], bLaw g ldr lda 0 (-1) 0 0 0 (fun _ => 0), bMem g mo qT qL it il ig 0 0 0 fT fL, bTown g it ia 0 0 0 20 6 50 0 1 (fun _ _ => 0), bLaw g il ic 0 (-1) 0 0 0 (fun _ => 0), bLog g ig ir 0 0 (fun _ => 0), bTown g t0 ta0 0 0 0 20 6 50 0 1 (fun _ _ => 0), bLog g l0 la0 0 0 (fun _ => 0), [(fo, .inr (0, [.ref o, .ref lo, .ref od]))], bTown g od ad 0 0 0 20 6 50 0 1 (fun _ _ => 0), bRid g ro af 0 0 (fun _ => 0), bObj g om am 0 0 0 0 0 0 0 (-1) 0 0 0 0, bArr g am (zf [m0, fun _ => 0, fun _ => 0, fun _ => 0, fun _ => 0, fun _ => 0, fun _ => 0, fun _ => 0]), [(oa, .inl (g.2 2, 1, .inr (.inl fz2_2)))]]) := hD
  refine W.widen (k := 248) (n := 14997) (Nat.le_of_ble_eq_true rfl) (Nat.le_of_ble_eq_true rfl) ?_
  refine W.eq (g2 := F0 m 917 ls [.int r_1]) rfl ?_
  subst hq3
  refine lv_istore (lv' := [(5, .int 1), (4, .int 0), (3, .ref oa), (2, .ref om), (1, .ref x), (0, .ref b)]) hx hb dL_law__917 hl (by decide) rfl (fun ls hl => ?_)
  refine lv_aload_n hx hb dL_law__919 rfl (lv_at hl 3 rfl) ?_
  refine lv_aload_n hx hb dL_law__920 rfl (lv_at hl 5 rfl) ?_
  refine lv_iload hx hb dL_law__921 (lv_at hl 1 rfl) ?_
  refine lv_iconst (v := 1) hx hb dL_law__923 (by decide) ?_
  refine lv_iadd hx hb dL_law__924 ?_
  refine ztop (r := 1) (by decide) ?_
  refine va_sld hx hb hX hbl hbA hS (zin rfl) dL_law__925 ?_
  refine ztop (r := xs 1) rfl ?_
  refine lv_aload_n hx hb dL_law__926 rfl (lv_at hl 5 rfl) ?_
  refine lv_iload hx hb dL_law__927 (lv_at hl 1 rfl) ?_
  refine lv_iconst (v := 2) hx hb dL_law__929 (by decide) ?_
  refine lv_iadd hx hb dL_law__930 ?_
  refine ztop (r := 2) (by decide) ?_
  refine va_sld hx hb hX hbl hbA hS (zin rfl) dL_law__931 ?_
  refine ztop (r := xs 2) rfl ?_
  refine mcallV (g := g) (q0 := 0) (ci := 10) (As := [.int (xs 1), .int (xs 2)]) (rest := []) St hK hT hA hP hD hS hl.1 [16, 17] [0, 1, 2, 3, 4, 5, 6, 7, 8, 9, 10, 11, 12, 13, 14, 15, 18] rfl rfl rfl (m_buy l g om am 0 0 0 0 0 0 0 (-1) 0 0 0 0 (zf [m0, fun _ => 0, fun _ => 0, fun _ => 0, fun _ => 0, fun _ => 0, fun _ => 0, fun _ => 0]) (xs 1) (xs 2) (by assumption)) (cwV 2 hts (zgL (zl4 k1374 k1375 k1376 k833) k1053) rfl rfl rfl (by decide +kernel) ⟨Nat.le_of_ble_eq_true rfl, Nat.le_of_ble_eq_true rfl⟩) rfl rfl rfl rfl (Nat.le_of_ble_eq_true rfl) dL_law__932 ⟨(Nat.le_of_ble_eq_true rfl), (Nat.le_of_ble_eq_true rfl)⟩ (fun u_ H locs hq17 hP hD hS => ?_)
  obtain ⟨th2_4, hi2_5, ac2_6, tp2_7, ba2_8, en2_9, tA2_10, fl2_11, de2_12, iD2_13, iO2_14, tU2_15, q_16⟩ := u_
  have hq17 : th2_4 = 1 := hq17
  have hP : va_P g.1 vwCl (List.flatten [bTape g ta ab 0 0 0 0 0 (-1) (fun _ => 0), bLaw g lo ac 0 (-1) 0 0 0 (fun _ => 0), bLog g go ar 0 0 (fun _ => 0), [(tt, .inr (8, [.ref ta, .ref td]))], bTown g td tda 0 0 0 20 6 50 0 1 (fun _ _ => 0), [(lt, .inr (2, [.ref ta, .ref ldr]))], bLaw g ldr lda 0 (-1) 0 0 0 (fun _ => 0), bMem g mo qT qL it il ig 0 0 0 fT fL, bTown g it ia 0 0 0 20 6 50 0 1 (fun _ _ => 0), bLaw g il ic 0 (-1) 0 0 0 (fun _ => 0), bLog g ig ir 0 0 (fun _ => 0), bTown g t0 ta0 0 0 0 20 6 50 0 1 (fun _ _ => 0), bLog g l0 la0 0 0 (fun _ => 0), [(fo, .inr (0, [.ref o, .ref lo, .ref od]))], bTown g od ad 0 0 0 20 6 50 0 1 (fun _ _ => 0), bRid g ro af 0 0 (fun _ => 0), [(oa, .inl (g.2 2, 1, .inr (.inl fz2_2)))], bObj g om am th2_4 hi2_5 ac2_6 tp2_7 ba2_8 en2_9 tA2_10 fl2_11 de2_12 iD2_13 iO2_14 tU2_15]) H := hP
  have hD : va_D A (List.flatten [bTape g ta ab 0 0 0 0 0 (-1) (fun _ => 0), bLaw g lo ac 0 (-1) 0 0 0 (fun _ => 0), bLog g go ar 0 0 (fun _ => 0), [(tt, .inr (8, [.ref ta, .ref td]))], bTown g td tda 0 0 0 20 6 50 0 1 (fun _ _ => 0), [(lt, .inr (2, [.ref ta, .ref ldr]))], bLaw g ldr lda 0 (-1) 0 0 0 (fun _ => 0), bMem g mo qT qL it il ig 0 0 0 fT fL, bTown g it ia 0 0 0 20 6 50 0 1 (fun _ _ => 0), bLaw g il ic 0 (-1) 0 0 0 (fun _ => 0), bLog g ig ir 0 0 (fun _ => 0), bTown g t0 ta0 0 0 0 20 6 50 0 1 (fun _ _ => 0), bLog g l0 la0 0 0 (fun _ => 0), [(fo, .inr (0, [.ref o, .ref lo, .ref od]))], bTown g od ad 0 0 0 20 6 50 0 1 (fun _ _ => 0), bRid g ro af 0 0 (fun _ => 0), [(oa, .inl (g.2 2, 1, .inr (.inl fz2_2)))], bObj g om am th2_4 hi2_5 ac2_6 tp2_7 ba2_8 en2_9 tA2_10 fl2_11 de2_12 iD2_13 iO2_14 tU2_15]) := hD
  refine W.widen (k := 248) (n := 14997) (Nat.le_of_ble_eq_true rfl) (Nat.le_of_ble_eq_true rfl) ?_
  refine W.eq (g2 := F0 m 935 ls [.int q_16]) rfl ?_
  subst hq17
  refine lv_istore (lv' := [(6, .int q_16), (5, .int 1), (4, .int 0), (3, .ref oa), (2, .ref om), (1, .ref x), (0, .ref b)]) hx hb dL_law__935 hl (by decide) rfl (fun ls hl => ?_)
  refine lv_aload_n hx hb dL_law__937 rfl (lv_at hl 4 rfl) ?_
  refine mcallV (g := g) (q0 := 0) (ci := 10) (As := []) (rest := []) St hK hT hA hP hD hS hl.1 [17] [0, 1, 2, 3, 4, 5, 6, 7, 8, 9, 10, 11, 12, 13, 14, 15, 16] rfl rfl rfl (m_thrown l g om am 1 hi2_5 ac2_6 tp2_7 ba2_8 en2_9 tA2_10 fl2_11 de2_12 iD2_13 iO2_14 tU2_15 ) (cwV 0 hts (zgL (zl4 k1317 k1318 k1319 k833) k824) rfl rfl rfl (by decide +kernel) ⟨Nat.le_of_ble_eq_true rfl, Nat.le_of_ble_eq_true rfl⟩) rfl rfl rfl rfl (Nat.le_of_ble_eq_true rfl) dL_law__938 ⟨(Nat.le_of_ble_eq_true rfl), (Nat.le_of_ble_eq_true rfl)⟩ (fun _u H locs hq18 hP hD hS => ?_)
  have hP : va_P g.1 vwCl (List.flatten [bTape g ta ab 0 0 0 0 0 (-1) (fun _ => 0), bLaw g lo ac 0 (-1) 0 0 0 (fun _ => 0), bLog g go ar 0 0 (fun _ => 0), [(tt, .inr (8, [.ref ta, .ref td]))], bTown g td tda 0 0 0 20 6 50 0 1 (fun _ _ => 0), [(lt, .inr (2, [.ref ta, .ref ldr]))], bLaw g ldr lda 0 (-1) 0 0 0 (fun _ => 0), bMem g mo qT qL it il ig 0 0 0 fT fL, bTown g it ia 0 0 0 20 6 50 0 1 (fun _ _ => 0), bLaw g il ic 0 (-1) 0 0 0 (fun _ => 0), bLog g ig ir 0 0 (fun _ => 0), bTown g t0 ta0 0 0 0 20 6 50 0 1 (fun _ _ => 0), bLog g l0 la0 0 0 (fun _ => 0), [(fo, .inr (0, [.ref o, .ref lo, .ref od]))], bTown g od ad 0 0 0 20 6 50 0 1 (fun _ _ => 0), bRid g ro af 0 0 (fun _ => 0), [(oa, .inl (g.2 2, 1, .inr (.inl fz2_2)))], bObj g om am 1 hi2_5 ac2_6 tp2_7 ba2_8 en2_9 tA2_10 fl2_11 de2_12 iD2_13 iO2_14 tU2_15]) H := hP
  have hD : va_D A (List.flatten [bTape g ta ab 0 0 0 0 0 (-1) (fun _ => 0), bLaw g lo ac 0 (-1) 0 0 0 (fun _ => 0), bLog g go ar 0 0 (fun _ => 0), [(tt, .inr (8, [.ref ta, .ref td]))], bTown g td tda 0 0 0 20 6 50 0 1 (fun _ _ => 0), [(lt, .inr (2, [.ref ta, .ref ldr]))], bLaw g ldr lda 0 (-1) 0 0 0 (fun _ => 0), bMem g mo qT qL it il ig 0 0 0 fT fL, bTown g it ia 0 0 0 20 6 50 0 1 (fun _ _ => 0), bLaw g il ic 0 (-1) 0 0 0 (fun _ => 0), bLog g ig ir 0 0 (fun _ => 0), bTown g t0 ta0 0 0 0 20 6 50 0 1 (fun _ _ => 0), bLog g l0 la0 0 0 (fun _ => 0), [(fo, .inr (0, [.ref o, .ref lo, .ref od]))], bTown g od ad 0 0 0 20 6 50 0 1 (fun _ _ => 0), bRid g ro af 0 0 (fun _ => 0), [(oa, .inl (g.2 2, 1, .inr (.inl fz2_2)))], bObj g om am 1 hi2_5 ac2_6 tp2_7 ba2_8 en2_9 tA2_10 fl2_11 de2_12 iD2_13 iO2_14 tU2_15]) := hD
  refine W.widen (k := 248) (n := 14997) (Nat.le_of_ble_eq_true rfl) (Nat.le_of_ble_eq_true rfl) ?_
  refine W.eq (g2 := F0 m 941 ls [.int 1]) rfl ?_
  refine lv_iload hx hb dL_law__941 (lv_at hl 1 rfl) ?_
  refine lv_icmp_eq (tgt := 948) hx hb dL_law__943 (by decide) (fun _ => ?_) (fun c19 => absurd (by decide) c19)
  refine lv_iload hx hb dL_law__948 (lv_at hl 1 rfl) ?_
  refine lv_if_ne (tgt := 965) hx hb dL_law__950 (by decide) (fun _ => ?_) (fun c20 => absurd c20 (by decide))
  refine lv_goto (tgt := 2738) hx hb dL_law__965 (by decide) ?_
  refine lv_iinc (v := 6) (lv' := [(4, .int 6), (6, .int q_16), (5, .int 1), (3, .ref oa), (2, .ref om), (1, .ref x), (0, .ref b)]) hx hb dL_law__2738 hl (k := 2) rfl (by decide) (by decide) rfl (fun ls hl => ?_)
  refine lv_goto (tgt := 23) hx hb dL_law__2741 (by decide) ?_
  refine lv_iload hx hb dL_law__23 (lv_at hl 0 rfl) ?_
  refine lv_aload_n hx hb dL_law__25 rfl (lv_at hl 6 rfl) ?_
  refine va_slen hx hb hX hbl hbA hS dL_law__26 ?_
  refine ztop (r := 6) rfl ?_
  refine lv_bipush (v := 6) hx hb dL_law__27 (by decide) ?_
  refine lv_isub hx hb dL_law__29 ?_
  refine ztop (r := 0) (by decide) ?_
  refine lv_icmp_gt (tgt := 2744) hx hb dL_law__30 (by decide) (fun _ => ?_) (fun c21 => absurd (by decide) c21)
  refine lv_iconst (v := 1) hx hb dL_law__2744 (by decide) ?_
  refine va_forget (fun q hq => by have h9 := hS.2.2 q hq; rw [hAe] at h9; exact h9) ?_
  refine W.widen (k := 600002) (n := 7302232) (Nat.le_of_ble_eq_true rfl) (Nat.le_of_ble_eq_true rfl) ?_
  exact lw_ret hx hb hr hlocks dL_law__2745
set_option maxRecDepth 100000 in
set_option maxHeartbeats 4000000 in
/-- the law: sell -/
theorem w_14 {p : Program} {e : Env} {s : State} {m : MethodId} {below : List Frame} {meth : Method} {c : Code} (l : Launch) (hfl : l.stackTraces = false) (g : zG) {b : Nat} {xs : Nat → Int32} {A : Nat → Prop} (hAe : A = fun q => s.heap.size ≤ q) (hA : ∀ q, s.heap.size ≤ q → A q) (hbA : ¬ A b) (St : CallFix p m c cL_law_ 7 s #[Value.ref b] zB RL) (hr : meth.sig.returnType = ret) (hlocks : meth.locks = false) (hX : va_X b 6 xs s s.heap) (hbl : b < s.heap.size) (hK : zK g s) (hT : zTh A s) (x : Nat) (ta : Nat) (o : Nat) (lo : Nat) (go : Nat) (tt : Nat) (lt : Nat) (mo : Nat) (fo : Nat) (ro : Nat) (ab : Nat) (ac : Nat) (ar : Nat) (td : Nat) (a : Nat → Nat) (tda : Nat → Nat) (ldr : Nat) (lda : Nat) (qT : Nat) (qL : Nat) (it : Nat) (il : Nat) (ig : Nat) (fT : Nat → Option Nat) (fL : Nat → Option Nat) (ia : Nat → Nat) (ic : Nat) (ir : Nat) (t0 : Nat) (ta0 : Nat → Nat) (l0 : Nat) (la0 : Nat) (od : Nat) (ad : Nat → Nat) (af : Nat) (om : Nat) (am : Nat → Nat) (m0 : Nat → Int32) (oa : Nat) (hT0 : fT 0 = some t0) (hL0 : fL 0 = some l0) (hm : zMo m0) (h8 : m0 8 = 0) (h10 : m0 10 = 1) (H : Heap) (locs : List Loc) (ls : Array Slot) (hP : va_P g.1 vwCl (List.flatten [bDR g x ta o lo go tt lt mo fo ro (-1), bTape g ta ab 0 0 0 0 0 (-1) (fun _ => 0), bTown g o a 0 0 0 20 6 50 0 1 (fun _ _ => 0), bLaw g lo ac 0 (-1) 0 0 0 (fun _ => 0), bLog g go ar 0 0 (fun _ => 0), [(tt, .inr (8, [.ref ta, .ref td]))], bTown g td tda 0 0 0 20 6 50 0 1 (fun _ _ => 0), [(lt, .inr (2, [.ref ta, .ref ldr]))], bLaw g ldr lda 0 (-1) 0 0 0 (fun _ => 0), bMem g mo qT qL it il ig 0 0 0 fT fL, bTown g it ia 0 0 0 20 6 50 0 1 (fun _ _ => 0), bLaw g il ic 0 (-1) 0 0 0 (fun _ => 0), bLog g ig ir 0 0 (fun _ => 0), bTown g t0 ta0 0 0 0 20 6 50 0 1 (fun _ _ => 0), bLog g l0 la0 0 0 (fun _ => 0), [(fo, .inr (0, [.ref o, .ref lo, .ref od]))], bTown g od ad 0 0 0 20 6 50 0 1 (fun _ _ => 0), bRid g ro af 0 0 (fun _ => 0), bObj g om am 0 0 0 0 0 0 0 (-1) 0 0 0 0, bArr g am (zf [m0, fun _ => 0, fun _ => 0, fun _ => 0, fun _ => 0, fun _ => 0, fun _ => 0, fun _ => 0]), [(oa, .inl (g.2 2, 1, .inr (.inl (fun _ => 0))))]]) H) (hD : va_D A (List.flatten [bDR g x ta o lo go tt lt mo fo ro (-1), bTape g ta ab 0 0 0 0 0 (-1) (fun _ => 0), bTown g o a 0 0 0 20 6 50 0 1 (fun _ _ => 0), bLaw g lo ac 0 (-1) 0 0 0 (fun _ => 0), bLog g go ar 0 0 (fun _ => 0), [(tt, .inr (8, [.ref ta, .ref td]))], bTown g td tda 0 0 0 20 6 50 0 1 (fun _ _ => 0), [(lt, .inr (2, [.ref ta, .ref ldr]))], bLaw g ldr lda 0 (-1) 0 0 0 (fun _ => 0), bMem g mo qT qL it il ig 0 0 0 fT fL, bTown g it ia 0 0 0 20 6 50 0 1 (fun _ _ => 0), bLaw g il ic 0 (-1) 0 0 0 (fun _ => 0), bLog g ig ir 0 0 (fun _ => 0), bTown g t0 ta0 0 0 0 20 6 50 0 1 (fun _ _ => 0), bLog g l0 la0 0 0 (fun _ => 0), [(fo, .inr (0, [.ref o, .ref lo, .ref od]))], bTown g od ad 0 0 0 20 6 50 0 1 (fun _ _ => 0), bRid g ro af 0 0 (fun _ => 0), bObj g om am 0 0 0 0 0 0 0 (-1) 0 0 0 0, bArr g am (zf [m0, fun _ => 0, fun _ => 0, fun _ => 0, fun _ => 0, fun _ => 0, fun _ => 0, fun _ => 0]), [(oa, .inl (g.2 2, 1, .inr (.inl (fun _ => 0))))]])) (hS : va_S A s.heap H locs) (hl : lv_has ls 7 [(4, .int 0), (3, .ref oa), (2, .ref om), (1, .ref x), (0, .ref b)]) : W p l e room_1 s m #[Value.ref b] below meth c H locs 247 14991 (lw_Z below #[Value.ref b] s) (F0 m 968 ls []) := by
  obtain ⟨hx, hb, hml, hown, hts⟩ := id St
  have hz0 : zZ (fun _ => 0) := zZ0
  refine lv_aload_n hx hb dL_law__968 rfl (lv_at hl 3 rfl) ?_
  refine lv_aload_n hx hb dL_law__969 rfl (lv_at hl 4 rfl) ?_
  refine lv_iload hx hb dL_law__970 (lv_at hl 0 rfl) ?_
  refine lv_iconst (v := 1) hx hb dL_law__972 (by decide) ?_
  refine lv_iadd hx hb dL_law__973 ?_
  refine ztop (r := 1) (by decide) ?_
  refine va_sld hx hb hX hbl hbA hS (zin rfl) dL_law__974 ?_
  refine ztop (r := xs 1) rfl ?_
  refine lv_aload_n hx hb dL_law__975 rfl (lv_at hl 4 rfl) ?_
  refine lv_iload hx hb dL_law__976 (lv_at hl 0 rfl) ?_
  refine lv_iconst (v := 2) hx hb dL_law__978 (by decide) ?_
  refine lv_iadd hx hb dL_law__979 ?_
  refine ztop (r := 2) (by decide) ?_
  refine va_sld hx hb hX hbl hbA hS (zin rfl) dL_law__980 ?_
  refine ztop (r := xs 2) rfl ?_
  refine lv_aload_n hx hb dL_law__981 rfl (lv_at hl 1 rfl) ?_
  refine xcallSX (g := g) (As := [.ref x, .int (xs 1), .int (xs 2), .ref oa]) (rest := []) St hK hT hA hP hD hS hl.1 [0, 2, 20] [1, 3, 4, 5, 6, 7, 8, 9, 10, 11, 12, 13, 14, 15, 16, 17, 18, 19] rfl rfl rfl (l_sell l hfl g x ta o lo go tt lt mo fo ro (-1) o a 0 20 6 50 0 1 (fun _ _ => 0) (xs 1) (xs 2) oa (fun _ => 0) ) (vx_cwSW 4 hts (zgL (zl3 k1377 k1378 k1313) k1201) rfl rfl rfl (by decide +kernel) ⟨Nat.le_of_ble_eq_true rfl, Nat.le_of_ble_eq_true rfl⟩) rfl rfl (Nat.le_of_ble_eq_true rfl) dL_law__982 ⟨(Nat.le_of_ble_eq_true rfl), (Nat.le_of_ble_eq_true rfl)⟩ (fun E ce q9 u9 H locs hpx hP hD hS hce hcv hcl => hpx.elim) (fun u_ H locs hq3 hP hD hS => ?_)
  obtain ⟨r_1, fz2_2⟩ := u_
  have hq3 : r_1 = 1 := hq3
  have hP : va_P g.1 vwCl (List.flatten [bTape g ta ab 0 0 0 0 0 (-1) (fun _ => 0), bLaw g lo ac 0 (-1) 0 0 0 (fun _ => 0), bLog g go ar 0 0 (fun _ => 0), [(tt, .inr (8, [.ref ta, .ref td]))], bTown g td tda 0 0 0 20 6 50 0 1 (fun _ _ => 0), [(lt, .inr (2, [.ref ta, .ref ldr]))], bLaw g ldr lda 0 (-1) 0 0 0 (fun _ => 0), bMem g mo qT qL it il ig 0 0 0 fT fL, bTown g it ia 0 0 0 20 6 50 0 1 (fun _ _ => 0), bLaw g il ic 0 (-1) 0 0 0 (fun _ => 0), bLog g ig ir 0 0 (fun _ => 0), bTown g t0 ta0 0 0 0 20 6 50 0 1 (fun _ _ => 0), bLog g l0 la0 0 0 (fun _ => 0), [(fo, .inr (0, [.ref o, .ref lo, .ref od]))], bTown g od ad 0 0 0 20 6 50 0 1 (fun _ _ => 0), bRid g ro af 0 0 (fun _ => 0), bObj g om am 0 0 0 0 0 0 0 (-1) 0 0 0 0, bArr g am (zf [m0, fun _ => 0, fun _ => 0, fun _ => 0, fun _ => 0, fun _ => 0, fun _ => 0, fun _ => 0]), [(oa, .inl (g.2 2, 1, .inr (.inl fz2_2)))]]) H := hP
  have hD : va_D A (List.flatten [bTape g ta ab 0 0 0 0 0 (-1) (fun _ => 0), bLaw g lo ac 0 (-1) 0 0 0 (fun _ => 0), bLog g go ar 0 0 (fun _ => 0), [(tt, .inr (8, [.ref ta, .ref td]))], bTown g td tda 0 0 0 20 6 50 0 1 (fun _ _ => 0), [(lt, .inr (2, [.ref ta, .ref ldr]))], bLaw g ldr lda 0 (-1) 0 0 0 (fun _ => 0), bMem g mo qT qL it il ig 0 0 0 fT fL, bTown g it ia 0 0 0 20 6 50 0 1 (fun _ _ => 0), bLaw g il ic 0 (-1) 0 0 0 (fun _ => 0), bLog g ig ir 0 0 (fun _ => 0), bTown g t0 ta0 0 0 0 20 6 50 0 1 (fun _ _ => 0), bLog g l0 la0 0 0 (fun _ => 0), [(fo, .inr (0, [.ref o, .ref lo, .ref od]))], bTown g od ad 0 0 0 20 6 50 0 1 (fun _ _ => 0), bRid g ro af 0 0 (fun _ => 0), bObj g om am 0 0 0 0 0 0 0 (-1) 0 0 0 0, bArr g am (zf [m0, fun _ => 0, fun _ => 0, fun _ => 0, fun _ => 0, fun _ => 0, fun _ => 0, fun _ => 0]), [(oa, .inl (g.2 2, 1, .inr (.inl fz2_2)))]]) := hD
  refine W.widen (k := 248) (n := 14997) (Nat.le_of_ble_eq_true rfl) (Nat.le_of_ble_eq_true rfl) ?_
  refine W.eq (g2 := F0 m 985 ls [.int r_1]) rfl ?_
  subst hq3
  refine lv_istore (lv' := [(5, .int 1), (4, .int 0), (3, .ref oa), (2, .ref om), (1, .ref x), (0, .ref b)]) hx hb dL_law__985 hl (by decide) rfl (fun ls hl => ?_)
  refine lv_aload_n hx hb dL_law__987 rfl (lv_at hl 3 rfl) ?_
  refine lv_aload_n hx hb dL_law__988 rfl (lv_at hl 5 rfl) ?_
  refine lv_iload hx hb dL_law__989 (lv_at hl 1 rfl) ?_
  refine lv_iconst (v := 1) hx hb dL_law__991 (by decide) ?_
  refine lv_iadd hx hb dL_law__992 ?_
  refine ztop (r := 1) (by decide) ?_
  refine va_sld hx hb hX hbl hbA hS (zin rfl) dL_law__993 ?_
  refine ztop (r := xs 1) rfl ?_
  refine lv_aload_n hx hb dL_law__994 rfl (lv_at hl 5 rfl) ?_
  refine lv_iload hx hb dL_law__995 (lv_at hl 1 rfl) ?_
  refine lv_iconst (v := 2) hx hb dL_law__997 (by decide) ?_
  refine lv_iadd hx hb dL_law__998 ?_
  refine ztop (r := 2) (by decide) ?_
  refine va_sld hx hb hX hbl hbA hS (zin rfl) dL_law__999 ?_
  refine ztop (r := xs 2) rfl ?_
  refine mcallV (g := g) (q0 := 0) (ci := 10) (As := [.int (xs 1), .int (xs 2)]) (rest := []) St hK hT hA hP hD hS hl.1 [16, 17] [0, 1, 2, 3, 4, 5, 6, 7, 8, 9, 10, 11, 12, 13, 14, 15, 18] rfl rfl rfl (m_sell l g om am 0 0 0 0 0 0 0 (-1) 0 0 0 0 (zf [m0, fun _ => 0, fun _ => 0, fun _ => 0, fun _ => 0, fun _ => 0, fun _ => 0, fun _ => 0]) (xs 1) (xs 2) (by assumption)) (cwV 2 hts (zgL (zl4 k1379 k1380 k1381 k833) k1054) rfl rfl rfl (by decide +kernel) ⟨Nat.le_of_ble_eq_true rfl, Nat.le_of_ble_eq_true rfl⟩) rfl rfl rfl rfl (Nat.le_of_ble_eq_true rfl) dL_law__1000 ⟨(Nat.le_of_ble_eq_true rfl), (Nat.le_of_ble_eq_true rfl)⟩ (fun u_ H locs hq17 hP hD hS => ?_)
  obtain ⟨th2_4, hi2_5, ac2_6, tp2_7, ba2_8, en2_9, tA2_10, fl2_11, de2_12, iD2_13, iO2_14, tU2_15, q_16⟩ := u_
  have hq17 : th2_4 = 1 := hq17
  have hP : va_P g.1 vwCl (List.flatten [bTape g ta ab 0 0 0 0 0 (-1) (fun _ => 0), bLaw g lo ac 0 (-1) 0 0 0 (fun _ => 0), bLog g go ar 0 0 (fun _ => 0), [(tt, .inr (8, [.ref ta, .ref td]))], bTown g td tda 0 0 0 20 6 50 0 1 (fun _ _ => 0), [(lt, .inr (2, [.ref ta, .ref ldr]))], bLaw g ldr lda 0 (-1) 0 0 0 (fun _ => 0), bMem g mo qT qL it il ig 0 0 0 fT fL, bTown g it ia 0 0 0 20 6 50 0 1 (fun _ _ => 0), bLaw g il ic 0 (-1) 0 0 0 (fun _ => 0), bLog g ig ir 0 0 (fun _ => 0), bTown g t0 ta0 0 0 0 20 6 50 0 1 (fun _ _ => 0), bLog g l0 la0 0 0 (fun _ => 0), [(fo, .inr (0, [.ref o, .ref lo, .ref od]))], bTown g od ad 0 0 0 20 6 50 0 1 (fun _ _ => 0), bRid g ro af 0 0 (fun _ => 0), [(oa, .inl (g.2 2, 1, .inr (.inl fz2_2)))], bObj g om am th2_4 hi2_5 ac2_6 tp2_7 ba2_8 en2_9 tA2_10 fl2_11 de2_12 iD2_13 iO2_14 tU2_15]) H := hP
  have hD : va_D A (List.flatten [bTape g ta ab 0 0 0 0 0 (-1) (fun _ => 0), bLaw g lo ac 0 (-1) 0 0 0 (fun _ => 0), bLog g go ar 0 0 (fun _ => 0), [(tt, .inr (8, [.ref ta, .ref td]))], bTown g td tda 0 0 0 20 6 50 0 1 (fun _ _ => 0), [(lt, .inr (2, [.ref ta, .ref ldr]))], bLaw g ldr lda 0 (-1) 0 0 0 (fun _ => 0), bMem g mo qT qL it il ig 0 0 0 fT fL, bTown g it ia 0 0 0 20 6 50 0 1 (fun _ _ => 0), bLaw g il ic 0 (-1) 0 0 0 (fun _ => 0), bLog g ig ir 0 0 (fun _ => 0), bTown g t0 ta0 0 0 0 20 6 50 0 1 (fun _ _ => 0), bLog g l0 la0 0 0 (fun _ => 0), [(fo, .inr (0, [.ref o, .ref lo, .ref od]))], bTown g od ad 0 0 0 20 6 50 0 1 (fun _ _ => 0), bRid g ro af 0 0 (fun _ => 0), [(oa, .inl (g.2 2, 1, .inr (.inl fz2_2)))], bObj g om am th2_4 hi2_5 ac2_6 tp2_7 ba2_8 en2_9 tA2_10 fl2_11 de2_12 iD2_13 iO2_14 tU2_15]) := hD
  refine W.widen (k := 248) (n := 14997) (Nat.le_of_ble_eq_true rfl) (Nat.le_of_ble_eq_true rfl) ?_
  refine W.eq (g2 := F0 m 1003 ls [.int q_16]) rfl ?_
  subst hq17
  refine lv_istore (lv' := [(6, .int q_16), (5, .int 1), (4, .int 0), (3, .ref oa), (2, .ref om), (1, .ref x), (0, .ref b)]) hx hb dL_law__1003 hl (by decide) rfl (fun ls hl => ?_)
  refine lv_aload_n hx hb dL_law__1005 rfl (lv_at hl 4 rfl) ?_
  refine mcallV (g := g) (q0 := 0) (ci := 10) (As := []) (rest := []) St hK hT hA hP hD hS hl.1 [17] [0, 1, 2, 3, 4, 5, 6, 7, 8, 9, 10, 11, 12, 13, 14, 15, 16] rfl rfl rfl (m_thrown l g om am 1 hi2_5 ac2_6 tp2_7 ba2_8 en2_9 tA2_10 fl2_11 de2_12 iD2_13 iO2_14 tU2_15 ) (cwV 0 hts (zgL (zl4 k1317 k1318 k1319 k833) k824) rfl rfl rfl (by decide +kernel) ⟨Nat.le_of_ble_eq_true rfl, Nat.le_of_ble_eq_true rfl⟩) rfl rfl rfl rfl (Nat.le_of_ble_eq_true rfl) dL_law__1006 ⟨(Nat.le_of_ble_eq_true rfl), (Nat.le_of_ble_eq_true rfl)⟩ (fun _u H locs hq18 hP hD hS => ?_)
  have hP : va_P g.1 vwCl (List.flatten [bTape g ta ab 0 0 0 0 0 (-1) (fun _ => 0), bLaw g lo ac 0 (-1) 0 0 0 (fun _ => 0), bLog g go ar 0 0 (fun _ => 0), [(tt, .inr (8, [.ref ta, .ref td]))], bTown g td tda 0 0 0 20 6 50 0 1 (fun _ _ => 0), [(lt, .inr (2, [.ref ta, .ref ldr]))], bLaw g ldr lda 0 (-1) 0 0 0 (fun _ => 0), bMem g mo qT qL it il ig 0 0 0 fT fL, bTown g it ia 0 0 0 20 6 50 0 1 (fun _ _ => 0), bLaw g il ic 0 (-1) 0 0 0 (fun _ => 0), bLog g ig ir 0 0 (fun _ => 0), bTown g t0 ta0 0 0 0 20 6 50 0 1 (fun _ _ => 0), bLog g l0 la0 0 0 (fun _ => 0), [(fo, .inr (0, [.ref o, .ref lo, .ref od]))], bTown g od ad 0 0 0 20 6 50 0 1 (fun _ _ => 0), bRid g ro af 0 0 (fun _ => 0), [(oa, .inl (g.2 2, 1, .inr (.inl fz2_2)))], bObj g om am 1 hi2_5 ac2_6 tp2_7 ba2_8 en2_9 tA2_10 fl2_11 de2_12 iD2_13 iO2_14 tU2_15]) H := hP
  have hD : va_D A (List.flatten [bTape g ta ab 0 0 0 0 0 (-1) (fun _ => 0), bLaw g lo ac 0 (-1) 0 0 0 (fun _ => 0), bLog g go ar 0 0 (fun _ => 0), [(tt, .inr (8, [.ref ta, .ref td]))], bTown g td tda 0 0 0 20 6 50 0 1 (fun _ _ => 0), [(lt, .inr (2, [.ref ta, .ref ldr]))], bLaw g ldr lda 0 (-1) 0 0 0 (fun _ => 0), bMem g mo qT qL it il ig 0 0 0 fT fL, bTown g it ia 0 0 0 20 6 50 0 1 (fun _ _ => 0), bLaw g il ic 0 (-1) 0 0 0 (fun _ => 0), bLog g ig ir 0 0 (fun _ => 0), bTown g t0 ta0 0 0 0 20 6 50 0 1 (fun _ _ => 0), bLog g l0 la0 0 0 (fun _ => 0), [(fo, .inr (0, [.ref o, .ref lo, .ref od]))], bTown g od ad 0 0 0 20 6 50 0 1 (fun _ _ => 0), bRid g ro af 0 0 (fun _ => 0), [(oa, .inl (g.2 2, 1, .inr (.inl fz2_2)))], bObj g om am 1 hi2_5 ac2_6 tp2_7 ba2_8 en2_9 tA2_10 fl2_11 de2_12 iD2_13 iO2_14 tU2_15]) := hD
  refine W.widen (k := 248) (n := 14997) (Nat.le_of_ble_eq_true rfl) (Nat.le_of_ble_eq_true rfl) ?_
  refine W.eq (g2 := F0 m 1009 ls [.int 1]) rfl ?_
  refine lv_iload hx hb dL_law__1009 (lv_at hl 1 rfl) ?_
  refine lv_icmp_eq (tgt := 1016) hx hb dL_law__1011 (by decide) (fun _ => ?_) (fun c19 => absurd (by decide) c19)
  refine lv_iload hx hb dL_law__1016 (lv_at hl 1 rfl) ?_
  refine lv_if_ne (tgt := 1033) hx hb dL_law__1018 (by decide) (fun _ => ?_) (fun c20 => absurd c20 (by decide))
  refine lv_goto (tgt := 2738) hx hb dL_law__1033 (by decide) ?_
  refine lv_iinc (v := 6) (lv' := [(4, .int 6), (6, .int q_16), (5, .int 1), (3, .ref oa), (2, .ref om), (1, .ref x), (0, .ref b)]) hx hb dL_law__2738 hl (k := 2) rfl (by decide) (by decide) rfl (fun ls hl => ?_)
  refine lv_goto (tgt := 23) hx hb dL_law__2741 (by decide) ?_
  refine lv_iload hx hb dL_law__23 (lv_at hl 0 rfl) ?_
  refine lv_aload_n hx hb dL_law__25 rfl (lv_at hl 6 rfl) ?_
  refine va_slen hx hb hX hbl hbA hS dL_law__26 ?_
  refine ztop (r := 6) rfl ?_
  refine lv_bipush (v := 6) hx hb dL_law__27 (by decide) ?_
  refine lv_isub hx hb dL_law__29 ?_
  refine ztop (r := 0) (by decide) ?_
  refine lv_icmp_gt (tgt := 2744) hx hb dL_law__30 (by decide) (fun _ => ?_) (fun c21 => absurd (by decide) c21)
  refine lv_iconst (v := 1) hx hb dL_law__2744 (by decide) ?_
  refine va_forget (fun q hq => by have h9 := hS.2.2 q hq; rw [hAe] at h9; exact h9) ?_
  refine W.widen (k := 600002) (n := 7302232) (Nat.le_of_ble_eq_true rfl) (Nat.le_of_ble_eq_true rfl) ?_
  exact lw_ret hx hb hr hlocks dL_law__2745
set_option maxRecDepth 100000 in
set_option maxHeartbeats 4000000 in
/-- the law: dry -/
theorem w_15 {p : Program} {e : Env} {s : State} {m : MethodId} {below : List Frame} {meth : Method} {c : Code} (l : Launch) (hfl : l.stackTraces = false) (g : zG) {b : Nat} {xs : Nat → Int32} {A : Nat → Prop} (hAe : A = fun q => s.heap.size ≤ q) (hA : ∀ q, s.heap.size ≤ q → A q) (hbA : ¬ A b) (St : CallFix p m c cL_law_ 7 s #[Value.ref b] zB RL) (hr : meth.sig.returnType = ret) (hlocks : meth.locks = false) (hX : va_X b 6 xs s s.heap) (hbl : b < s.heap.size) (hK : zK g s) (hT : zTh A s) (x : Nat) (ta : Nat) (o : Nat) (lo : Nat) (go : Nat) (tt : Nat) (lt : Nat) (mo : Nat) (fo : Nat) (ro : Nat) (ab : Nat) (ac : Nat) (ar : Nat) (td : Nat) (a : Nat → Nat) (tda : Nat → Nat) (ldr : Nat) (lda : Nat) (qT : Nat) (qL : Nat) (it : Nat) (il : Nat) (ig : Nat) (fT : Nat → Option Nat) (fL : Nat → Option Nat) (ia : Nat → Nat) (ic : Nat) (ir : Nat) (t0 : Nat) (ta0 : Nat → Nat) (l0 : Nat) (la0 : Nat) (od : Nat) (ad : Nat → Nat) (af : Nat) (om : Nat) (am : Nat → Nat) (m0 : Nat → Int32) (oa : Nat) (hT0 : fT 0 = some t0) (hL0 : fL 0 = some l0) (hm : zMo m0) (h8 : m0 8 = 0) (h10 : m0 10 = 1) (H : Heap) (locs : List Loc) (ls : Array Slot) (hP : va_P g.1 vwCl (List.flatten [bDR g x ta o lo go tt lt mo fo ro (-1), bTape g ta ab 0 0 0 0 0 (-1) (fun _ => 0), bTown g o a 0 0 0 20 6 50 0 1 (fun _ _ => 0), bLaw g lo ac 0 (-1) 0 0 0 (fun _ => 0), bLog g go ar 0 0 (fun _ => 0), [(tt, .inr (8, [.ref ta, .ref td]))], bTown g td tda 0 0 0 20 6 50 0 1 (fun _ _ => 0), [(lt, .inr (2, [.ref ta, .ref ldr]))], bLaw g ldr lda 0 (-1) 0 0 0 (fun _ => 0), bMem g mo qT qL it il ig 0 0 0 fT fL, bTown g it ia 0 0 0 20 6 50 0 1 (fun _ _ => 0), bLaw g il ic 0 (-1) 0 0 0 (fun _ => 0), bLog g ig ir 0 0 (fun _ => 0), bTown g t0 ta0 0 0 0 20 6 50 0 1 (fun _ _ => 0), bLog g l0 la0 0 0 (fun _ => 0), [(fo, .inr (0, [.ref o, .ref lo, .ref od]))], bTown g od ad 0 0 0 20 6 50 0 1 (fun _ _ => 0), bRid g ro af 0 0 (fun _ => 0), bObj g om am 0 0 0 0 0 0 0 (-1) 0 0 0 0, bArr g am (zf [m0, fun _ => 0, fun _ => 0, fun _ => 0, fun _ => 0, fun _ => 0, fun _ => 0, fun _ => 0]), [(oa, .inl (g.2 2, 1, .inr (.inl (fun _ => 0))))]]) H) (hD : va_D A (List.flatten [bDR g x ta o lo go tt lt mo fo ro (-1), bTape g ta ab 0 0 0 0 0 (-1) (fun _ => 0), bTown g o a 0 0 0 20 6 50 0 1 (fun _ _ => 0), bLaw g lo ac 0 (-1) 0 0 0 (fun _ => 0), bLog g go ar 0 0 (fun _ => 0), [(tt, .inr (8, [.ref ta, .ref td]))], bTown g td tda 0 0 0 20 6 50 0 1 (fun _ _ => 0), [(lt, .inr (2, [.ref ta, .ref ldr]))], bLaw g ldr lda 0 (-1) 0 0 0 (fun _ => 0), bMem g mo qT qL it il ig 0 0 0 fT fL, bTown g it ia 0 0 0 20 6 50 0 1 (fun _ _ => 0), bLaw g il ic 0 (-1) 0 0 0 (fun _ => 0), bLog g ig ir 0 0 (fun _ => 0), bTown g t0 ta0 0 0 0 20 6 50 0 1 (fun _ _ => 0), bLog g l0 la0 0 0 (fun _ => 0), [(fo, .inr (0, [.ref o, .ref lo, .ref od]))], bTown g od ad 0 0 0 20 6 50 0 1 (fun _ _ => 0), bRid g ro af 0 0 (fun _ => 0), bObj g om am 0 0 0 0 0 0 0 (-1) 0 0 0 0, bArr g am (zf [m0, fun _ => 0, fun _ => 0, fun _ => 0, fun _ => 0, fun _ => 0, fun _ => 0, fun _ => 0]), [(oa, .inl (g.2 2, 1, .inr (.inl (fun _ => 0))))]])) (hS : va_S A s.heap H locs) (hl : lv_has ls 7 [(4, .int 0), (3, .ref oa), (2, .ref om), (1, .ref x), (0, .ref b)]) : W p l e room_1 s m #[Value.ref b] below meth c H locs 247 14991 (lw_Z below #[Value.ref b] s) (F0 m 1036 ls []) := by
  obtain ⟨hx, hb, hml, hown, hts⟩ := id St
  have hz0 : zZ (fun _ => 0) := zZ0
  refine lv_aload_n hx hb dL_law__1036 rfl (lv_at hl 3 rfl) ?_
  refine lv_aload_n hx hb dL_law__1037 rfl (lv_at hl 4 rfl) ?_
  refine lv_iload hx hb dL_law__1038 (lv_at hl 0 rfl) ?_
  refine lv_iconst (v := 1) hx hb dL_law__1040 (by decide) ?_
  refine lv_iadd hx hb dL_law__1041 ?_
  refine ztop (r := 1) (by decide) ?_
  refine va_sld hx hb hX hbl hbA hS (zin rfl) dL_law__1042 ?_
  refine ztop (r := xs 1) rfl ?_
  refine lv_aload_n hx hb dL_law__1043 rfl (lv_at hl 4 rfl) ?_
  refine lv_iload hx hb dL_law__1044 (lv_at hl 0 rfl) ?_
  refine lv_iconst (v := 2) hx hb dL_law__1046 (by decide) ?_
  refine lv_iadd hx hb dL_law__1047 ?_
  refine ztop (r := 2) (by decide) ?_
  refine va_sld hx hb hX hbl hbA hS (zin rfl) dL_law__1048 ?_
  refine ztop (r := xs 2) rfl ?_
  refine lv_if_eq (tgt := 1056) hx hb dL_law__1049 (by decide) (fun cZ => ?_) (fun cZ => ?_)
  · skip
    refine lv_iconst (v := 0) hx hb dL_law__1056 (by decide) ?_
    refine lv_aload_n hx hb dL_law__1057 rfl (lv_at hl 1 rfl) ?_
    refine xcallSX (g := g) (As := [.ref x, .int (xs 1), .int 0, .ref oa]) (rest := []) St hK hT hA hP hD hS hl.1 [0, 2, 20] [1, 3, 4, 5, 6, 7, 8, 9, 10, 11, 12, 13, 14, 15, 16, 17, 18, 19] rfl rfl rfl (l_dry l hfl g x ta o lo go tt lt mo fo ro (-1) o a 0 20 6 50 0 1 (fun _ _ => 0) (xs 1) 0 oa (fun _ => 0) ) (vx_cwSW 4 hts (zgL (zl3 k1382 k1383 k1313) k1205) rfl rfl rfl (by decide +kernel) ⟨Nat.le_of_ble_eq_true rfl, Nat.le_of_ble_eq_true rfl⟩) rfl rfl (Nat.le_of_ble_eq_true rfl) dL_law__1058 ⟨(Nat.le_of_ble_eq_true rfl), (Nat.le_of_ble_eq_true rfl)⟩ (fun E ce q9 u9 H locs hpx hP hD hS hce hcv hcl => hpx.elim) (fun u_ H locs hq4 hP hD hS => ?_)
    obtain ⟨r_2, fz2_3⟩ := u_
    have hq4 : r_2 = 1 := hq4
    have hP : va_P g.1 vwCl (List.flatten [bTape g ta ab 0 0 0 0 0 (-1) (fun _ => 0), bLaw g lo ac 0 (-1) 0 0 0 (fun _ => 0), bLog g go ar 0 0 (fun _ => 0), [(tt, .inr (8, [.ref ta, .ref td]))], bTown g td tda 0 0 0 20 6 50 0 1 (fun _ _ => 0), [(lt, .inr (2, [.ref ta, .ref ldr]))], bLaw g ldr lda 0 (-1) 0 0 0 (fun _ => 0), bMem g mo qT qL it il ig 0 0 0 fT fL, bTown g it ia 0 0 0 20 6 50 0 1 (fun _ _ => 0), bLaw g il ic 0 (-1) 0 0 0 (fun _ => 0), bLog g ig ir 0 0 (fun _ => 0), bTown g t0 ta0 0 0 0 20 6 50 0 1 (fun _ _ => 0), bLog g l0 la0 0 0 (fun _ => 0), [(fo, .inr (0, [.ref o, .ref lo, .ref od]))], bTown g od ad 0 0 0 20 6 50 0 1 (fun _ _ => 0), bRid g ro af 0 0 (fun _ => 0), bObj g om am 0 0 0 0 0 0 0 (-1) 0 0 0 0, bArr g am (zf [m0, fun _ => 0, fun _ => 0, fun _ => 0, fun _ => 0, fun _ => 0, fun _ => 0, fun _ => 0]), [(oa, .inl (g.2 2, 1, .inr (.inl fz2_3)))]]) H := hP
    have hD : va_D A (List.flatten [bTape g ta ab 0 0 0 0 0 (-1) (fun _ => 0), bLaw g lo ac 0 (-1) 0 0 0 (fun _ => 0), bLog g go ar 0 0 (fun _ => 0), [(tt, .inr (8, [.ref ta, .ref td]))], bTown g td tda 0 0 0 20 6 50 0 1 (fun _ _ => 0), [(lt, .inr (2, [.ref ta, .ref ldr]))], bLaw g ldr lda 0 (-1) 0 0 0 (fun _ => 0), bMem g mo qT qL it il ig 0 0 0 fT fL, bTown g it ia 0 0 0 20 6 50 0 1 (fun _ _ => 0), bLaw g il ic 0 (-1) 0 0 0 (fun _ => 0), bLog g ig ir 0 0 (fun _ => 0), bTown g t0 ta0 0 0 0 20 6 50 0 1 (fun _ _ => 0), bLog g l0 la0 0 0 (fun _ => 0), [(fo, .inr (0, [.ref o, .ref lo, .ref od]))], bTown g od ad 0 0 0 20 6 50 0 1 (fun _ _ => 0), bRid g ro af 0 0 (fun _ => 0), bObj g om am 0 0 0 0 0 0 0 (-1) 0 0 0 0, bArr g am (zf [m0, fun _ => 0, fun _ => 0, fun _ => 0, fun _ => 0, fun _ => 0, fun _ => 0, fun _ => 0]), [(oa, .inl (g.2 2, 1, .inr (.inl fz2_3)))]]) := hD
    refine W.widen (k := 248) (n := 14997) (Nat.le_of_ble_eq_true rfl) (Nat.le_of_ble_eq_true rfl) ?_
    refine W.eq (g2 := F0 m 1061 ls [.int r_2]) rfl ?_
    subst hq4
    refine lv_istore (lv' := [(5, .int 1), (4, .int 0), (3, .ref oa), (2, .ref om), (1, .ref x), (0, .ref b)]) hx hb dL_law__1061 hl (by decide) rfl (fun ls hl => ?_)
    refine lv_aload_n hx hb dL_law__1063 rfl (lv_at hl 3 rfl) ?_
    refine lv_aload_n hx hb dL_law__1064 rfl (lv_at hl 5 rfl) ?_
    refine lv_iload hx hb dL_law__1065 (lv_at hl 1 rfl) ?_
    refine lv_iconst (v := 1) hx hb dL_law__1067 (by decide) ?_
    refine lv_iadd hx hb dL_law__1068 ?_
    refine ztop (r := 1) (by decide) ?_
    refine va_sld hx hb hX hbl hbA hS (zin rfl) dL_law__1069 ?_
    refine ztop (r := xs 1) rfl ?_
    refine lv_aload_n hx hb dL_law__1070 rfl (lv_at hl 5 rfl) ?_
    refine lv_iload hx hb dL_law__1071 (lv_at hl 1 rfl) ?_
    refine lv_iconst (v := 2) hx hb dL_law__1073 (by decide) ?_
    refine lv_iadd hx hb dL_law__1074 ?_
    refine ztop (r := 2) (by decide) ?_
    refine va_sld hx hb hX hbl hbA hS (zin rfl) dL_law__1075 ?_
    refine ztop (r := xs 2) rfl ?_
    refine lv_if_eq (tgt := 1083) hx hb dL_law__1076 (by decide) (fun _ => ?_) (fun c5 => absurd cZ c5)
    refine lv_iconst (v := 0) hx hb dL_law__1083 (by decide) ?_
    refine mcallV (g := g) (q0 := 0) (ci := 10) (As := [.int (xs 1), .int 0]) (rest := []) St hK hT hA hP hD hS hl.1 [16, 17] [0, 1, 2, 3, 4, 5, 6, 7, 8, 9, 10, 11, 12, 13, 14, 15, 18] rfl rfl rfl (m_dry l g om am 0 0 0 0 0 0 0 (-1) 0 0 0 0 (zf [m0, fun _ => 0, fun _ => 0, fun _ => 0, fun _ => 0, fun _ => 0, fun _ => 0, fun _ => 0]) (xs 1) 0 (by assumption)) (cwV 2 hts (zgL (zl4 k1384 k1385 k1386 k833) k1055) rfl rfl rfl (by decide +kernel) ⟨Nat.le_of_ble_eq_true rfl, Nat.le_of_ble_eq_true rfl⟩) rfl rfl rfl rfl (Nat.le_of_ble_eq_true rfl) dL_law__1084 ⟨(Nat.le_of_ble_eq_true rfl), (Nat.le_of_ble_eq_true rfl)⟩ (fun u_ H locs hq19 hP hD hS => ?_)
    obtain ⟨th2_6, hi2_7, ac2_8, tp2_9, ba2_10, en2_11, tA2_12, fl2_13, de2_14, iD2_15, iO2_16, tU2_17, q_18⟩ := u_
    have hq19 : th2_6 = 1 := hq19
    have hP : va_P g.1 vwCl (List.flatten [bTape g ta ab 0 0 0 0 0 (-1) (fun _ => 0), bLaw g lo ac 0 (-1) 0 0 0 (fun _ => 0), bLog g go ar 0 0 (fun _ => 0), [(tt, .inr (8, [.ref ta, .ref td]))], bTown g td tda 0 0 0 20 6 50 0 1 (fun _ _ => 0), [(lt, .inr (2, [.ref ta, .ref ldr]))], bLaw g ldr lda 0 (-1) 0 0 0 (fun _ => 0), bMem g mo qT qL it il ig 0 0 0 fT fL, bTown g it ia 0 0 0 20 6 50 0 1 (fun _ _ => 0), bLaw g il ic 0 (-1) 0 0 0 (fun _ => 0), bLog g ig ir 0 0 (fun _ => 0), bTown g t0 ta0 0 0 0 20 6 50 0 1 (fun _ _ => 0), bLog g l0 la0 0 0 (fun _ => 0), [(fo, .inr (0, [.ref o, .ref lo, .ref od]))], bTown g od ad 0 0 0 20 6 50 0 1 (fun _ _ => 0), bRid g ro af 0 0 (fun _ => 0), [(oa, .inl (g.2 2, 1, .inr (.inl fz2_3)))], bObj g om am th2_6 hi2_7 ac2_8 tp2_9 ba2_10 en2_11 tA2_12 fl2_13 de2_14 iD2_15 iO2_16 tU2_17]) H := hP
    have hD : va_D A (List.flatten [bTape g ta ab 0 0 0 0 0 (-1) (fun _ => 0), bLaw g lo ac 0 (-1) 0 0 0 (fun _ => 0), bLog g go ar 0 0 (fun _ => 0), [(tt, .inr (8, [.ref ta, .ref td]))], bTown g td tda 0 0 0 20 6 50 0 1 (fun _ _ => 0), [(lt, .inr (2, [.ref ta, .ref ldr]))], bLaw g ldr lda 0 (-1) 0 0 0 (fun _ => 0), bMem g mo qT qL it il ig 0 0 0 fT fL, bTown g it ia 0 0 0 20 6 50 0 1 (fun _ _ => 0), bLaw g il ic 0 (-1) 0 0 0 (fun _ => 0), bLog g ig ir 0 0 (fun _ => 0), bTown g t0 ta0 0 0 0 20 6 50 0 1 (fun _ _ => 0), bLog g l0 la0 0 0 (fun _ => 0), [(fo, .inr (0, [.ref o, .ref lo, .ref od]))], bTown g od ad 0 0 0 20 6 50 0 1 (fun _ _ => 0), bRid g ro af 0 0 (fun _ => 0), [(oa, .inl (g.2 2, 1, .inr (.inl fz2_3)))], bObj g om am th2_6 hi2_7 ac2_8 tp2_9 ba2_10 en2_11 tA2_12 fl2_13 de2_14 iD2_15 iO2_16 tU2_17]) := hD
    refine W.widen (k := 248) (n := 14997) (Nat.le_of_ble_eq_true rfl) (Nat.le_of_ble_eq_true rfl) ?_
    refine W.eq (g2 := F0 m 1087 ls [.int q_18]) rfl ?_
    subst hq19
    refine lv_istore (lv' := [(6, .int q_18), (5, .int 1), (4, .int 0), (3, .ref oa), (2, .ref om), (1, .ref x), (0, .ref b)]) hx hb dL_law__1087 hl (by decide) rfl (fun ls hl => ?_)
    refine lv_aload_n hx hb dL_law__1089 rfl (lv_at hl 4 rfl) ?_
    refine mcallV (g := g) (q0 := 0) (ci := 10) (As := []) (rest := []) St hK hT hA hP hD hS hl.1 [17] [0, 1, 2, 3, 4, 5, 6, 7, 8, 9, 10, 11, 12, 13, 14, 15, 16] rfl rfl rfl (m_thrown l g om am 1 hi2_7 ac2_8 tp2_9 ba2_10 en2_11 tA2_12 fl2_13 de2_14 iD2_15 iO2_16 tU2_17 ) (cwV 0 hts (zgL (zl4 k1317 k1318 k1319 k833) k824) rfl rfl rfl (by decide +kernel) ⟨Nat.le_of_ble_eq_true rfl, Nat.le_of_ble_eq_true rfl⟩) rfl rfl rfl rfl (Nat.le_of_ble_eq_true rfl) dL_law__1090 ⟨(Nat.le_of_ble_eq_true rfl), (Nat.le_of_ble_eq_true rfl)⟩ (fun _u H locs hq20 hP hD hS => ?_)
    have hP : va_P g.1 vwCl (List.flatten [bTape g ta ab 0 0 0 0 0 (-1) (fun _ => 0), bLaw g lo ac 0 (-1) 0 0 0 (fun _ => 0), bLog g go ar 0 0 (fun _ => 0), [(tt, .inr (8, [.ref ta, .ref td]))], bTown g td tda 0 0 0 20 6 50 0 1 (fun _ _ => 0), [(lt, .inr (2, [.ref ta, .ref ldr]))], bLaw g ldr lda 0 (-1) 0 0 0 (fun _ => 0), bMem g mo qT qL it il ig 0 0 0 fT fL, bTown g it ia 0 0 0 20 6 50 0 1 (fun _ _ => 0), bLaw g il ic 0 (-1) 0 0 0 (fun _ => 0), bLog g ig ir 0 0 (fun _ => 0), bTown g t0 ta0 0 0 0 20 6 50 0 1 (fun _ _ => 0), bLog g l0 la0 0 0 (fun _ => 0), [(fo, .inr (0, [.ref o, .ref lo, .ref od]))], bTown g od ad 0 0 0 20 6 50 0 1 (fun _ _ => 0), bRid g ro af 0 0 (fun _ => 0), [(oa, .inl (g.2 2, 1, .inr (.inl fz2_3)))], bObj g om am 1 hi2_7 ac2_8 tp2_9 ba2_10 en2_11 tA2_12 fl2_13 de2_14 iD2_15 iO2_16 tU2_17]) H := hP
    have hD : va_D A (List.flatten [bTape g ta ab 0 0 0 0 0 (-1) (fun _ => 0), bLaw g lo ac 0 (-1) 0 0 0 (fun _ => 0), bLog g go ar 0 0 (fun _ => 0), [(tt, .inr (8, [.ref ta, .ref td]))], bTown g td tda 0 0 0 20 6 50 0 1 (fun _ _ => 0), [(lt, .inr (2, [.ref ta, .ref ldr]))], bLaw g ldr lda 0 (-1) 0 0 0 (fun _ => 0), bMem g mo qT qL it il ig 0 0 0 fT fL, bTown g it ia 0 0 0 20 6 50 0 1 (fun _ _ => 0), bLaw g il ic 0 (-1) 0 0 0 (fun _ => 0), bLog g ig ir 0 0 (fun _ => 0), bTown g t0 ta0 0 0 0 20 6 50 0 1 (fun _ _ => 0), bLog g l0 la0 0 0 (fun _ => 0), [(fo, .inr (0, [.ref o, .ref lo, .ref od]))], bTown g od ad 0 0 0 20 6 50 0 1 (fun _ _ => 0), bRid g ro af 0 0 (fun _ => 0), [(oa, .inl (g.2 2, 1, .inr (.inl fz2_3)))], bObj g om am 1 hi2_7 ac2_8 tp2_9 ba2_10 en2_11 tA2_12 fl2_13 de2_14 iD2_15 iO2_16 tU2_17]) := hD
    refine W.widen (k := 248) (n := 14997) (Nat.le_of_ble_eq_true rfl) (Nat.le_of_ble_eq_true rfl) ?_
    refine W.eq (g2 := F0 m 1093 ls [.int 1]) rfl ?_
    refine lv_iload hx hb dL_law__1093 (lv_at hl 1 rfl) ?_
    refine lv_icmp_eq (tgt := 1100) hx hb dL_law__1095 (by decide) (fun _ => ?_) (fun c21 => absurd (by decide) c21)
    refine lv_iload hx hb dL_law__1100 (lv_at hl 1 rfl) ?_
    refine lv_if_ne (tgt := 1124) hx hb dL_law__1102 (by decide) (fun _ => ?_) (fun c22 => absurd c22 (by decide))
    refine lv_goto (tgt := 2738) hx hb dL_law__1124 (by decide) ?_
    refine lv_iinc (v := 6) (lv' := [(4, .int 6), (6, .int q_18), (5, .int 1), (3, .ref oa), (2, .ref om), (1, .ref x), (0, .ref b)]) hx hb dL_law__2738 hl (k := 2) rfl (by decide) (by decide) rfl (fun ls hl => ?_)
    refine lv_goto (tgt := 23) hx hb dL_law__2741 (by decide) ?_
    refine lv_iload hx hb dL_law__23 (lv_at hl 0 rfl) ?_
    refine lv_aload_n hx hb dL_law__25 rfl (lv_at hl 6 rfl) ?_
    refine va_slen hx hb hX hbl hbA hS dL_law__26 ?_
    refine ztop (r := 6) rfl ?_
    refine lv_bipush (v := 6) hx hb dL_law__27 (by decide) ?_
    refine lv_isub hx hb dL_law__29 ?_
    refine ztop (r := 0) (by decide) ?_
    refine lv_icmp_gt (tgt := 2744) hx hb dL_law__30 (by decide) (fun _ => ?_) (fun c23 => absurd (by decide) c23)
    refine lv_iconst (v := 1) hx hb dL_law__2744 (by decide) ?_
    refine va_forget (fun q hq => by have h9 := hS.2.2 q hq; rw [hAe] at h9; exact h9) ?_
    refine W.widen (k := 600002) (n := 7302232) (Nat.le_of_ble_eq_true rfl) (Nat.le_of_ble_eq_true rfl) ?_
    exact lw_ret hx hb hr hlocks dL_law__2745
  · skip
    refine lv_iconst (v := 1) hx hb dL_law__1052 (by decide) ?_
    refine lv_goto (tgt := 1057) hx hb dL_law__1053 (by decide) ?_
    refine lv_aload_n hx hb dL_law__1057 rfl (lv_at hl 1 rfl) ?_
    refine xcallSX (g := g) (As := [.ref x, .int (xs 1), .int 1, .ref oa]) (rest := []) St hK hT hA hP hD hS hl.1 [0, 2, 20] [1, 3, 4, 5, 6, 7, 8, 9, 10, 11, 12, 13, 14, 15, 16, 17, 18, 19] rfl rfl rfl (l_dry l hfl g x ta o lo go tt lt mo fo ro (-1) o a 0 20 6 50 0 1 (fun _ _ => 0) (xs 1) 1 oa (fun _ => 0) ) (vx_cwSW 4 hts (zgL (zl3 k1382 k1383 k1313) k1205) rfl rfl rfl (by decide +kernel) ⟨Nat.le_of_ble_eq_true rfl, Nat.le_of_ble_eq_true rfl⟩) rfl rfl (Nat.le_of_ble_eq_true rfl) dL_law__1058 ⟨(Nat.le_of_ble_eq_true rfl), (Nat.le_of_ble_eq_true rfl)⟩ (fun E ce q9 u9 H locs hpx hP hD hS hce hcv hcl => hpx.elim) (fun u_ H locs hq26 hP hD hS => ?_)
    obtain ⟨r_24, fz2_25⟩ := u_
    have hq26 : r_24 = 1 := hq26
    have hP : va_P g.1 vwCl (List.flatten [bTape g ta ab 0 0 0 0 0 (-1) (fun _ => 0), bLaw g lo ac 0 (-1) 0 0 0 (fun _ => 0), bLog g go ar 0 0 (fun _ => 0), [(tt, .inr (8, [.ref ta, .ref td]))], bTown g td tda 0 0 0 20 6 50 0 1 (fun _ _ => 0), [(lt, .inr (2, [.ref ta, .ref ldr]))], bLaw g ldr lda 0 (-1) 0 0 0 (fun _ => 0), bMem g mo qT qL it il ig 0 0 0 fT fL, bTown g it ia 0 0 0 20 6 50 0 1 (fun _ _ => 0), bLaw g il ic 0 (-1) 0 0 0 (fun _ => 0), bLog g ig ir 0 0 (fun _ => 0), bTown g t0 ta0 0 0 0 20 6 50 0 1 (fun _ _ => 0), bLog g l0 la0 0 0 (fun _ => 0), [(fo, .inr (0, [.ref o, .ref lo, .ref od]))], bTown g od ad 0 0 0 20 6 50 0 1 (fun _ _ => 0), bRid g ro af 0 0 (fun _ => 0), bObj g om am 0 0 0 0 0 0 0 (-1) 0 0 0 0, bArr g am (zf [m0, fun _ => 0, fun _ => 0, fun _ => 0, fun _ => 0, fun _ => 0, fun _ => 0, fun _ => 0]), [(oa, .inl (g.2 2, 1, .inr (.inl fz2_25)))]]) H := hP
    have hD : va_D A (List.flatten [bTape g ta ab 0 0 0 0 0 (-1) (fun _ => 0), bLaw g lo ac 0 (-1) 0 0 0 (fun _ => 0), bLog g go ar 0 0 (fun _ => 0), [(tt, .inr (8, [.ref ta, .ref td]))], bTown g td tda 0 0 0 20 6 50 0 1 (fun _ _ => 0), [(lt, .inr (2, [.ref ta, .ref ldr]))], bLaw g ldr lda 0 (-1) 0 0 0 (fun _ => 0), bMem g mo qT qL it il ig 0 0 0 fT fL, bTown g it ia 0 0 0 20 6 50 0 1 (fun _ _ => 0), bLaw g il ic 0 (-1) 0 0 0 (fun _ => 0), bLog g ig ir 0 0 (fun _ => 0), bTown g t0 ta0 0 0 0 20 6 50 0 1 (fun _ _ => 0), bLog g l0 la0 0 0 (fun _ => 0), [(fo, .inr (0, [.ref o, .ref lo, .ref od]))], bTown g od ad 0 0 0 20 6 50 0 1 (fun _ _ => 0), bRid g ro af 0 0 (fun _ => 0), bObj g om am 0 0 0 0 0 0 0 (-1) 0 0 0 0, bArr g am (zf [m0, fun _ => 0, fun _ => 0, fun _ => 0, fun _ => 0, fun _ => 0, fun _ => 0, fun _ => 0]), [(oa, .inl (g.2 2, 1, .inr (.inl fz2_25)))]]) := hD
    refine W.widen (k := 248) (n := 14997) (Nat.le_of_ble_eq_true rfl) (Nat.le_of_ble_eq_true rfl) ?_
    refine W.eq (g2 := F0 m 1061 ls [.int r_24]) rfl ?_
    subst hq26
    refine lv_istore (lv' := [(5, .int 1), (4, .int 0), (3, .ref oa), (2, .ref om), (1, .ref x), (0, .ref b)]) hx hb dL_law__1061 hl (by decide) rfl (fun ls hl => ?_)
    refine lv_aload_n hx hb dL_law__1063 rfl (lv_at hl 3 rfl) ?_
    refine lv_aload_n hx hb dL_law__1064 rfl (lv_at hl 5 rfl) ?_
    refine lv_iload hx hb dL_law__1065 (lv_at hl 1 rfl) ?_
    refine lv_iconst (v := 1) hx hb dL_law__1067 (by decide) ?_
    refine lv_iadd hx hb dL_law__1068 ?_
    refine ztop (r := 1) (by decide) ?_
    refine va_sld hx hb hX hbl hbA hS (zin rfl) dL_law__1069 ?_
    refine ztop (r := xs 1) rfl ?_
    refine lv_aload_n hx hb dL_law__1070 rfl (lv_at hl 5 rfl) ?_
    refine lv_iload hx hb dL_law__1071 (lv_at hl 1 rfl) ?_
    refine lv_iconst (v := 2) hx hb dL_law__1073 (by decide) ?_
    refine lv_iadd hx hb dL_law__1074 ?_
    refine ztop (r := 2) (by decide) ?_
    refine va_sld hx hb hX hbl hbA hS (zin rfl) dL_law__1075 ?_
    refine ztop (r := xs 2) rfl ?_
    refine lv_if_eq (tgt := 1083) hx hb dL_law__1076 (by decide) (fun c27 => absurd c27 cZ) (fun _ => ?_)
    refine lv_iconst (v := 1) hx hb dL_law__1079 (by decide) ?_
    refine lv_goto (tgt := 1084) hx hb dL_law__1080 (by decide) ?_
    refine mcallV (g := g) (q0 := 0) (ci := 10) (As := [.int (xs 1), .int 1]) (rest := []) St hK hT hA hP hD hS hl.1 [16, 17] [0, 1, 2, 3, 4, 5, 6, 7, 8, 9, 10, 11, 12, 13, 14, 15, 18] rfl rfl rfl (m_dry l g om am 0 0 0 0 0 0 0 (-1) 0 0 0 0 (zf [m0, fun _ => 0, fun _ => 0, fun _ => 0, fun _ => 0, fun _ => 0, fun _ => 0, fun _ => 0]) (xs 1) 1 (by assumption)) (cwV 2 hts (zgL (zl4 k1384 k1385 k1386 k833) k1055) rfl rfl rfl (by decide +kernel) ⟨Nat.le_of_ble_eq_true rfl, Nat.le_of_ble_eq_true rfl⟩) rfl rfl rfl rfl (Nat.le_of_ble_eq_true rfl) dL_law__1084 ⟨(Nat.le_of_ble_eq_true rfl), (Nat.le_of_ble_eq_true rfl)⟩ (fun u_ H locs hq41 hP hD hS => ?_)
    obtain ⟨th2_28, hi2_29, ac2_30, tp2_31, ba2_32, en2_33, tA2_34, fl2_35, de2_36, iD2_37, iO2_38, tU2_39, q_40⟩ := u_
    have hq41 : th2_28 = 1 := hq41
    have hP : va_P g.1 vwCl (List.flatten [bTape g ta ab 0 0 0 0 0 (-1) (fun _ => 0), bLaw g lo ac 0 (-1) 0 0 0 (fun _ => 0), bLog g go ar 0 0 (fun _ => 0), [(tt, .inr (8, [.ref ta, .ref td]))], bTown g td tda 0 0 0 20 6 50 0 1 (fun _ _ => 0), [(lt, .inr (2, [.ref ta, .ref ldr]))], bLaw g ldr lda 0 (-1) 0 0 0 (fun _ => 0), bMem g mo qT qL it il ig 0 0 0 fT fL, bTown g it ia 0 0 0 20 6 50 0 1 (fun _ _ => 0), bLaw g il ic 0 (-1) 0 0 0 (fun _ => 0), bLog g ig ir 0 0 (fun _ => 0), bTown g t0 ta0 0 0 0 20 6 50 0 1 (fun _ _ => 0), bLog g l0 la0 0 0 (fun _ => 0), [(fo, .inr (0, [.ref o, .ref lo, .ref od]))], bTown g od ad 0 0 0 20 6 50 0 1 (fun _ _ => 0), bRid g ro af 0 0 (fun _ => 0), [(oa, .inl (g.2 2, 1, .inr (.inl fz2_25)))], bObj g om am th2_28 hi2_29 ac2_30 tp2_31 ba2_32 en2_33 tA2_34 fl2_35 de2_36 iD2_37 iO2_38 tU2_39]) H := hP
    have hD : va_D A (List.flatten [bTape g ta ab 0 0 0 0 0 (-1) (fun _ => 0), bLaw g lo ac 0 (-1) 0 0 0 (fun _ => 0), bLog g go ar 0 0 (fun _ => 0), [(tt, .inr (8, [.ref ta, .ref td]))], bTown g td tda 0 0 0 20 6 50 0 1 (fun _ _ => 0), [(lt, .inr (2, [.ref ta, .ref ldr]))], bLaw g ldr lda 0 (-1) 0 0 0 (fun _ => 0), bMem g mo qT qL it il ig 0 0 0 fT fL, bTown g it ia 0 0 0 20 6 50 0 1 (fun _ _ => 0), bLaw g il ic 0 (-1) 0 0 0 (fun _ => 0), bLog g ig ir 0 0 (fun _ => 0), bTown g t0 ta0 0 0 0 20 6 50 0 1 (fun _ _ => 0), bLog g l0 la0 0 0 (fun _ => 0), [(fo, .inr (0, [.ref o, .ref lo, .ref od]))], bTown g od ad 0 0 0 20 6 50 0 1 (fun _ _ => 0), bRid g ro af 0 0 (fun _ => 0), [(oa, .inl (g.2 2, 1, .inr (.inl fz2_25)))], bObj g om am th2_28 hi2_29 ac2_30 tp2_31 ba2_32 en2_33 tA2_34 fl2_35 de2_36 iD2_37 iO2_38 tU2_39]) := hD
    refine W.widen (k := 248) (n := 14997) (Nat.le_of_ble_eq_true rfl) (Nat.le_of_ble_eq_true rfl) ?_
    refine W.eq (g2 := F0 m 1087 ls [.int q_40]) rfl ?_
    subst hq41
    refine lv_istore (lv' := [(6, .int q_40), (5, .int 1), (4, .int 0), (3, .ref oa), (2, .ref om), (1, .ref x), (0, .ref b)]) hx hb dL_law__1087 hl (by decide) rfl (fun ls hl => ?_)
    refine lv_aload_n hx hb dL_law__1089 rfl (lv_at hl 4 rfl) ?_
    refine mcallV (g := g) (q0 := 0) (ci := 10) (As := []) (rest := []) St hK hT hA hP hD hS hl.1 [17] [0, 1, 2, 3, 4, 5, 6, 7, 8, 9, 10, 11, 12, 13, 14, 15, 16] rfl rfl rfl (m_thrown l g om am 1 hi2_29 ac2_30 tp2_31 ba2_32 en2_33 tA2_34 fl2_35 de2_36 iD2_37 iO2_38 tU2_39 ) (cwV 0 hts (zgL (zl4 k1317 k1318 k1319 k833) k824) rfl rfl rfl (by decide +kernel) ⟨Nat.le_of_ble_eq_true rfl, Nat.le_of_ble_eq_true rfl⟩) rfl rfl rfl rfl (Nat.le_of_ble_eq_true rfl) dL_law__1090 ⟨(Nat.le_of_ble_eq_true rfl), (Nat.le_of_ble_eq_true rfl)⟩ (fun _u H locs hq42 hP hD hS => ?_)
    have hP : va_P g.1 vwCl (List.flatten [bTape g ta ab 0 0 0 0 0 (-1) (fun _ => 0), bLaw g lo ac 0 (-1) 0 0 0 (fun _ => 0), bLog g go ar 0 0 (fun _ => 0), [(tt, .inr (8, [.ref ta, .ref td]))], bTown g td tda 0 0 0 20 6 50 0 1 (fun _ _ => 0), [(lt, .inr (2, [.ref ta, .ref ldr]))], bLaw g ldr lda 0 (-1) 0 0 0 (fun _ => 0), bMem g mo qT qL it il ig 0 0 0 fT fL, bTown g it ia 0 0 0 20 6 50 0 1 (fun _ _ => 0), bLaw g il ic 0 (-1) 0 0 0 (fun _ => 0), bLog g ig ir 0 0 (fun _ => 0), bTown g t0 ta0 0 0 0 20 6 50 0 1 (fun _ _ => 0), bLog g l0 la0 0 0 (fun _ => 0), [(fo, .inr (0, [.ref o, .ref lo, .ref od]))], bTown g od ad 0 0 0 20 6 50 0 1 (fun _ _ => 0), bRid g ro af 0 0 (fun _ => 0), [(oa, .inl (g.2 2, 1, .inr (.inl fz2_25)))], bObj g om am 1 hi2_29 ac2_30 tp2_31 ba2_32 en2_33 tA2_34 fl2_35 de2_36 iD2_37 iO2_38 tU2_39]) H := hP
    have hD : va_D A (List.flatten [bTape g ta ab 0 0 0 0 0 (-1) (fun _ => 0), bLaw g lo ac 0 (-1) 0 0 0 (fun _ => 0), bLog g go ar 0 0 (fun _ => 0), [(tt, .inr (8, [.ref ta, .ref td]))], bTown g td tda 0 0 0 20 6 50 0 1 (fun _ _ => 0), [(lt, .inr (2, [.ref ta, .ref ldr]))], bLaw g ldr lda 0 (-1) 0 0 0 (fun _ => 0), bMem g mo qT qL it il ig 0 0 0 fT fL, bTown g it ia 0 0 0 20 6 50 0 1 (fun _ _ => 0), bLaw g il ic 0 (-1) 0 0 0 (fun _ => 0), bLog g ig ir 0 0 (fun _ => 0), bTown g t0 ta0 0 0 0 20 6 50 0 1 (fun _ _ => 0), bLog g l0 la0 0 0 (fun _ => 0), [(fo, .inr (0, [.ref o, .ref lo, .ref od]))], bTown g od ad 0 0 0 20 6 50 0 1 (fun _ _ => 0), bRid g ro af 0 0 (fun _ => 0), [(oa, .inl (g.2 2, 1, .inr (.inl fz2_25)))], bObj g om am 1 hi2_29 ac2_30 tp2_31 ba2_32 en2_33 tA2_34 fl2_35 de2_36 iD2_37 iO2_38 tU2_39]) := hD
    refine W.widen (k := 248) (n := 14997) (Nat.le_of_ble_eq_true rfl) (Nat.le_of_ble_eq_true rfl) ?_
    refine W.eq (g2 := F0 m 1093 ls [.int 1]) rfl ?_
    refine lv_iload hx hb dL_law__1093 (lv_at hl 1 rfl) ?_
    refine lv_icmp_eq (tgt := 1100) hx hb dL_law__1095 (by decide) (fun _ => ?_) (fun c43 => absurd (by decide) c43)
    refine lv_iload hx hb dL_law__1100 (lv_at hl 1 rfl) ?_
    refine lv_if_ne (tgt := 1124) hx hb dL_law__1102 (by decide) (fun _ => ?_) (fun c44 => absurd c44 (by decide))
    refine lv_goto (tgt := 2738) hx hb dL_law__1124 (by decide) ?_
    refine lv_iinc (v := 6) (lv' := [(4, .int 6), (6, .int q_40), (5, .int 1), (3, .ref oa), (2, .ref om), (1, .ref x), (0, .ref b)]) hx hb dL_law__2738 hl (k := 2) rfl (by decide) (by decide) rfl (fun ls hl => ?_)
    refine lv_goto (tgt := 23) hx hb dL_law__2741 (by decide) ?_
    refine lv_iload hx hb dL_law__23 (lv_at hl 0 rfl) ?_
    refine lv_aload_n hx hb dL_law__25 rfl (lv_at hl 6 rfl) ?_
    refine va_slen hx hb hX hbl hbA hS dL_law__26 ?_
    refine ztop (r := 6) rfl ?_
    refine lv_bipush (v := 6) hx hb dL_law__27 (by decide) ?_
    refine lv_isub hx hb dL_law__29 ?_
    refine ztop (r := 0) (by decide) ?_
    refine lv_icmp_gt (tgt := 2744) hx hb dL_law__30 (by decide) (fun _ => ?_) (fun c45 => absurd (by decide) c45)
    refine lv_iconst (v := 1) hx hb dL_law__2744 (by decide) ?_
    refine va_forget (fun q hq => by have h9 := hS.2.2 q hq; rw [hAe] at h9; exact h9) ?_
    refine W.widen (k := 600002) (n := 7302232) (Nat.le_of_ble_eq_true rfl) (Nat.le_of_ble_eq_true rfl) ?_
    exact lw_ret hx hb hr hlocks dL_law__2745
set_option maxRecDepth 100000 in
set_option maxHeartbeats 4000000 in
/-- the law: days -/
theorem w_16 {p : Program} {e : Env} {s : State} {m : MethodId} {below : List Frame} {meth : Method} {c : Code} (l : Launch) (hfl : l.stackTraces = false) (g : zG) {b : Nat} {xs : Nat → Int32} {A : Nat → Prop} (hAe : A = fun q => s.heap.size ≤ q) (hA : ∀ q, s.heap.size ≤ q → A q) (hbA : ¬ A b) (St : CallFix p m c cL_law_ 7 s #[Value.ref b] zB RL) (hr : meth.sig.returnType = ret) (hlocks : meth.locks = false) (hX : va_X b 6 xs s s.heap) (hbl : b < s.heap.size) (hK : zK g s) (hT : zTh A s) (x : Nat) (ta : Nat) (o : Nat) (lo : Nat) (go : Nat) (tt : Nat) (lt : Nat) (mo : Nat) (fo : Nat) (ro : Nat) (ab : Nat) (ac : Nat) (ar : Nat) (td : Nat) (a : Nat → Nat) (tda : Nat → Nat) (ldr : Nat) (lda : Nat) (qT : Nat) (qL : Nat) (it : Nat) (il : Nat) (ig : Nat) (fT : Nat → Option Nat) (fL : Nat → Option Nat) (ia : Nat → Nat) (ic : Nat) (ir : Nat) (t0 : Nat) (ta0 : Nat → Nat) (l0 : Nat) (la0 : Nat) (od : Nat) (ad : Nat → Nat) (af : Nat) (om : Nat) (am : Nat → Nat) (m0 : Nat → Int32) (oa : Nat) (hT0 : fT 0 = some t0) (hL0 : fL 0 = some l0) (hm : zMo m0) (h8 : m0 8 = 0) (h10 : m0 10 = 1) (H : Heap) (locs : List Loc) (ls : Array Slot) (hP : va_P g.1 vwCl (List.flatten [bDR g x ta o lo go tt lt mo fo ro (-1), bTape g ta ab 0 0 0 0 0 (-1) (fun _ => 0), bTown g o a 0 0 0 20 6 50 0 1 (fun _ _ => 0), bLaw g lo ac 0 (-1) 0 0 0 (fun _ => 0), bLog g go ar 0 0 (fun _ => 0), [(tt, .inr (8, [.ref ta, .ref td]))], bTown g td tda 0 0 0 20 6 50 0 1 (fun _ _ => 0), [(lt, .inr (2, [.ref ta, .ref ldr]))], bLaw g ldr lda 0 (-1) 0 0 0 (fun _ => 0), bMem g mo qT qL it il ig 0 0 0 fT fL, bTown g it ia 0 0 0 20 6 50 0 1 (fun _ _ => 0), bLaw g il ic 0 (-1) 0 0 0 (fun _ => 0), bLog g ig ir 0 0 (fun _ => 0), bTown g t0 ta0 0 0 0 20 6 50 0 1 (fun _ _ => 0), bLog g l0 la0 0 0 (fun _ => 0), [(fo, .inr (0, [.ref o, .ref lo, .ref od]))], bTown g od ad 0 0 0 20 6 50 0 1 (fun _ _ => 0), bRid g ro af 0 0 (fun _ => 0), bObj g om am 0 0 0 0 0 0 0 (-1) 0 0 0 0, bArr g am (zf [m0, fun _ => 0, fun _ => 0, fun _ => 0, fun _ => 0, fun _ => 0, fun _ => 0, fun _ => 0]), [(oa, .inl (g.2 2, 1, .inr (.inl (fun _ => 0))))]]) H) (hD : va_D A (List.flatten [bDR g x ta o lo go tt lt mo fo ro (-1), bTape g ta ab 0 0 0 0 0 (-1) (fun _ => 0), bTown g o a 0 0 0 20 6 50 0 1 (fun _ _ => 0), bLaw g lo ac 0 (-1) 0 0 0 (fun _ => 0), bLog g go ar 0 0 (fun _ => 0), [(tt, .inr (8, [.ref ta, .ref td]))], bTown g td tda 0 0 0 20 6 50 0 1 (fun _ _ => 0), [(lt, .inr (2, [.ref ta, .ref ldr]))], bLaw g ldr lda 0 (-1) 0 0 0 (fun _ => 0), bMem g mo qT qL it il ig 0 0 0 fT fL, bTown g it ia 0 0 0 20 6 50 0 1 (fun _ _ => 0), bLaw g il ic 0 (-1) 0 0 0 (fun _ => 0), bLog g ig ir 0 0 (fun _ => 0), bTown g t0 ta0 0 0 0 20 6 50 0 1 (fun _ _ => 0), bLog g l0 la0 0 0 (fun _ => 0), [(fo, .inr (0, [.ref o, .ref lo, .ref od]))], bTown g od ad 0 0 0 20 6 50 0 1 (fun _ _ => 0), bRid g ro af 0 0 (fun _ => 0), bObj g om am 0 0 0 0 0 0 0 (-1) 0 0 0 0, bArr g am (zf [m0, fun _ => 0, fun _ => 0, fun _ => 0, fun _ => 0, fun _ => 0, fun _ => 0, fun _ => 0]), [(oa, .inl (g.2 2, 1, .inr (.inl (fun _ => 0))))]])) (hS : va_S A s.heap H locs) (hl : lv_has ls 7 [(4, .int 0), (3, .ref oa), (2, .ref om), (1, .ref x), (0, .ref b)]) : W p l e room_1 s m #[Value.ref b] below meth c H locs 247 14991 (lw_Z below #[Value.ref b] s) (F0 m 1127 ls []) := by
  obtain ⟨hx, hb, hml, hown, hts⟩ := id St
  have hz0 : zZ (fun _ => 0) := zZ0
  refine lv_aload_n hx hb dL_law__1127 rfl (lv_at hl 3 rfl) ?_
  refine lv_aload_n hx hb dL_law__1128 rfl (lv_at hl 4 rfl) ?_
  refine lv_iload hx hb dL_law__1129 (lv_at hl 0 rfl) ?_
  refine lv_iconst (v := 1) hx hb dL_law__1131 (by decide) ?_
  refine lv_iadd hx hb dL_law__1132 ?_
  refine ztop (r := 1) (by decide) ?_
  refine va_sld hx hb hX hbl hbA hS (zin rfl) dL_law__1133 ?_
  refine ztop (r := xs 1) rfl ?_
  refine lv_aload_n hx hb dL_law__1134 rfl (lv_at hl 1 rfl) ?_
  refine xcallSX (g := g) (As := [.ref x, .int (xs 1), .ref oa]) (rest := []) St hK hT hA hP hD hS hl.1 [0, 2, 3, 4, 9, 13, 14, 20] [1, 5, 6, 7, 8, 10, 11, 12, 15, 16, 17, 18, 19] rfl rfl rfl (l_days l hfl g x ta o lo go tt lt mo fo ro (-1) a 0 20 6 50 0 1 (fun _ _ => 0) ac 0 (-1) 0 0 0 (fun _ => 0) ar 0 0 (fun _ => 0) qT qL it il ig 0 fT fL t0 ta0 0 0 0 20 6 50 0 1 (fun _ _ => 0) l0 la0 0 0 (fun _ => 0) (xs 1) oa (fun _ => 0) (by assumption) (by assumption) (by assumption)) (vx_cwSW 3 hts (zgL (zl3 k1387 k1388 k1313) k1209) rfl rfl rfl (by decide +kernel) ⟨Nat.le_of_ble_eq_true rfl, Nat.le_of_ble_eq_true rfl⟩) rfl rfl (Nat.le_of_ble_eq_true rfl) dL_law__1135 ⟨(Nat.le_of_ble_eq_true rfl), (Nat.le_of_ble_eq_true rfl)⟩ (fun E ce q9 u9 H locs hpx hP hD hS hce hcv hcl => hpx.elim) (fun u_ H locs hq3 hP hD hS => ?_)
  obtain ⟨r_1, fz2_2⟩ := u_
  have hq3 : (r_1 = 1 ∧ ((xs 1) < 1 ∨ 60 < (xs 1))) ∨ (r_1 = 0 ∧ (¬ (xs 1) < 1 ∧ ¬ 60 < (xs 1)) ∧ fz2_2 0 = (0 : Int32).toInt64) := hq3
  have hP : va_P g.1 vwCl (List.flatten [bTape g ta ab 0 0 0 0 0 (-1) (fun _ => 0), [(tt, .inr (8, [.ref ta, .ref td]))], bTown g td tda 0 0 0 20 6 50 0 1 (fun _ _ => 0), [(lt, .inr (2, [.ref ta, .ref ldr]))], bLaw g ldr lda 0 (-1) 0 0 0 (fun _ => 0), bTown g it ia 0 0 0 20 6 50 0 1 (fun _ _ => 0), bLaw g il ic 0 (-1) 0 0 0 (fun _ => 0), bLog g ig ir 0 0 (fun _ => 0), [(fo, .inr (0, [.ref o, .ref lo, .ref od]))], bTown g od ad 0 0 0 20 6 50 0 1 (fun _ _ => 0), bRid g ro af 0 0 (fun _ => 0), bObj g om am 0 0 0 0 0 0 0 (-1) 0 0 0 0, bArr g am (zf [m0, fun _ => 0, fun _ => 0, fun _ => 0, fun _ => 0, fun _ => 0, fun _ => 0, fun _ => 0]), [(oa, .inl (g.2 2, 1, .inr (.inl fz2_2)))]]) H := hP
  have hD : va_D A (List.flatten [bTape g ta ab 0 0 0 0 0 (-1) (fun _ => 0), [(tt, .inr (8, [.ref ta, .ref td]))], bTown g td tda 0 0 0 20 6 50 0 1 (fun _ _ => 0), [(lt, .inr (2, [.ref ta, .ref ldr]))], bLaw g ldr lda 0 (-1) 0 0 0 (fun _ => 0), bTown g it ia 0 0 0 20 6 50 0 1 (fun _ _ => 0), bLaw g il ic 0 (-1) 0 0 0 (fun _ => 0), bLog g ig ir 0 0 (fun _ => 0), [(fo, .inr (0, [.ref o, .ref lo, .ref od]))], bTown g od ad 0 0 0 20 6 50 0 1 (fun _ _ => 0), bRid g ro af 0 0 (fun _ => 0), bObj g om am 0 0 0 0 0 0 0 (-1) 0 0 0 0, bArr g am (zf [m0, fun _ => 0, fun _ => 0, fun _ => 0, fun _ => 0, fun _ => 0, fun _ => 0, fun _ => 0]), [(oa, .inl (g.2 2, 1, .inr (.inl fz2_2)))]]) := hD
  refine W.widen (k := 248) (n := 14997) (Nat.le_of_ble_eq_true rfl) (Nat.le_of_ble_eq_true rfl) ?_
  refine W.eq (g2 := F0 m 1138 ls [.int r_1]) rfl ?_
  refine lv_istore (lv' := [(5, .int r_1), (4, .int 0), (3, .ref oa), (2, .ref om), (1, .ref x), (0, .ref b)]) hx hb dL_law__1138 hl (by decide) rfl (fun ls hl => ?_)
  refine lv_aload_n hx hb dL_law__1140 rfl (lv_at hl 3 rfl) ?_
  refine lv_aload_n hx hb dL_law__1141 rfl (lv_at hl 5 rfl) ?_
  refine lv_iload hx hb dL_law__1142 (lv_at hl 1 rfl) ?_
  refine lv_iconst (v := 1) hx hb dL_law__1144 (by decide) ?_
  refine lv_iadd hx hb dL_law__1145 ?_
  refine ztop (r := 1) (by decide) ?_
  refine va_sld hx hb hX hbl hbA hS (zin rfl) dL_law__1146 ?_
  refine ztop (r := xs 1) rfl ?_
  refine mcallV (g := g) (q0 := 0) (ci := 10) (As := [.int (xs 1)]) (rest := []) St hK hT hA hP hD hS hl.1 [11, 12] [0, 1, 2, 3, 4, 5, 6, 7, 8, 9, 10, 13] rfl rfl rfl (m_days l g om am 0 0 0 0 0 0 (-1) 0 0 0 0 (zf [m0, fun _ => 0, fun _ => 0, fun _ => 0, fun _ => 0, fun _ => 0, fun _ => 0, fun _ => 0]) (xs 1) (by assumption)) (cwV 1 hts (zgL (zl4 k1389 k1390 k1391 k833) k1059) rfl rfl rfl (by decide +kernel) ⟨Nat.le_of_ble_eq_true rfl, Nat.le_of_ble_eq_true rfl⟩) rfl rfl rfl rfl (Nat.le_of_ble_eq_true rfl) dL_law__1147 ⟨(Nat.le_of_ble_eq_true rfl), (Nat.le_of_ble_eq_true rfl)⟩ (fun u_ H locs hq17 hP hD hS => ?_)
  obtain ⟨th2_4, hi2_5, ac2_6, tp2_7, ba2_8, en2_9, tA2_10, fl2_11, de2_12, iD2_13, iO2_14, tU2_15, q_16⟩ := u_
  have hq17 : (th2_4 = 1 ∧ (((xs 1) : Int32) < 1 ∨ 60 < ((xs 1) : Int32))) ∨ (th2_4 = 0 ∧ (¬ ((xs 1) : Int32) < 1 ∧ ¬ 60 < ((xs 1) : Int32)) ∧ q_16 = 0) := hq17
  have hP : va_P g.1 vwCl (List.flatten [bTape g ta ab 0 0 0 0 0 (-1) (fun _ => 0), [(tt, .inr (8, [.ref ta, .ref td]))], bTown g td tda 0 0 0 20 6 50 0 1 (fun _ _ => 0), [(lt, .inr (2, [.ref ta, .ref ldr]))], bLaw g ldr lda 0 (-1) 0 0 0 (fun _ => 0), bTown g it ia 0 0 0 20 6 50 0 1 (fun _ _ => 0), bLaw g il ic 0 (-1) 0 0 0 (fun _ => 0), bLog g ig ir 0 0 (fun _ => 0), [(fo, .inr (0, [.ref o, .ref lo, .ref od]))], bTown g od ad 0 0 0 20 6 50 0 1 (fun _ _ => 0), bRid g ro af 0 0 (fun _ => 0), [(oa, .inl (g.2 2, 1, .inr (.inl fz2_2)))], bObj g om am th2_4 hi2_5 ac2_6 tp2_7 ba2_8 en2_9 tA2_10 fl2_11 de2_12 iD2_13 iO2_14 tU2_15]) H := hP
  have hD : va_D A (List.flatten [bTape g ta ab 0 0 0 0 0 (-1) (fun _ => 0), [(tt, .inr (8, [.ref ta, .ref td]))], bTown g td tda 0 0 0 20 6 50 0 1 (fun _ _ => 0), [(lt, .inr (2, [.ref ta, .ref ldr]))], bLaw g ldr lda 0 (-1) 0 0 0 (fun _ => 0), bTown g it ia 0 0 0 20 6 50 0 1 (fun _ _ => 0), bLaw g il ic 0 (-1) 0 0 0 (fun _ => 0), bLog g ig ir 0 0 (fun _ => 0), [(fo, .inr (0, [.ref o, .ref lo, .ref od]))], bTown g od ad 0 0 0 20 6 50 0 1 (fun _ _ => 0), bRid g ro af 0 0 (fun _ => 0), [(oa, .inl (g.2 2, 1, .inr (.inl fz2_2)))], bObj g om am th2_4 hi2_5 ac2_6 tp2_7 ba2_8 en2_9 tA2_10 fl2_11 de2_12 iD2_13 iO2_14 tU2_15]) := hD
  refine W.widen (k := 248) (n := 14997) (Nat.le_of_ble_eq_true rfl) (Nat.le_of_ble_eq_true rfl) ?_
  refine W.eq (g2 := F0 m 1150 ls [.int q_16]) rfl ?_
  rcases hq3 with ⟨hr9, hb9⟩ | ⟨hr9, hg9⟩
  · skip
    rcases hq17 with ⟨ht9, hB9⟩ | ⟨ht9, hG9⟩
    · skip
      subst hr9
      subst ht9
      refine lv_istore (lv' := [(6, .int q_16), (5, .int 1), (4, .int 0), (3, .ref oa), (2, .ref om), (1, .ref x), (0, .ref b)]) hx hb dL_law__1150 hl (by decide) rfl (fun ls hl => ?_)
      refine lv_aload_n hx hb dL_law__1152 rfl (lv_at hl 4 rfl) ?_
      refine mcallV (g := g) (q0 := 0) (ci := 10) (As := []) (rest := []) St hK hT hA hP hD hS hl.1 [12] [0, 1, 2, 3, 4, 5, 6, 7, 8, 9, 10, 11] rfl rfl rfl (m_thrown l g om am 1 hi2_5 ac2_6 tp2_7 ba2_8 en2_9 tA2_10 fl2_11 de2_12 iD2_13 iO2_14 tU2_15 ) (cwV 0 hts (zgL (zl4 k1317 k1318 k1319 k833) k824) rfl rfl rfl (by decide +kernel) ⟨Nat.le_of_ble_eq_true rfl, Nat.le_of_ble_eq_true rfl⟩) rfl rfl rfl rfl (Nat.le_of_ble_eq_true rfl) dL_law__1153 ⟨(Nat.le_of_ble_eq_true rfl), (Nat.le_of_ble_eq_true rfl)⟩ (fun _u H locs hq18 hP hD hS => ?_)
      have hP : va_P g.1 vwCl (List.flatten [bTape g ta ab 0 0 0 0 0 (-1) (fun _ => 0), [(tt, .inr (8, [.ref ta, .ref td]))], bTown g td tda 0 0 0 20 6 50 0 1 (fun _ _ => 0), [(lt, .inr (2, [.ref ta, .ref ldr]))], bLaw g ldr lda 0 (-1) 0 0 0 (fun _ => 0), bTown g it ia 0 0 0 20 6 50 0 1 (fun _ _ => 0), bLaw g il ic 0 (-1) 0 0 0 (fun _ => 0), bLog g ig ir 0 0 (fun _ => 0), [(fo, .inr (0, [.ref o, .ref lo, .ref od]))], bTown g od ad 0 0 0 20 6 50 0 1 (fun _ _ => 0), bRid g ro af 0 0 (fun _ => 0), [(oa, .inl (g.2 2, 1, .inr (.inl fz2_2)))], bObj g om am 1 hi2_5 ac2_6 tp2_7 ba2_8 en2_9 tA2_10 fl2_11 de2_12 iD2_13 iO2_14 tU2_15]) H := hP
      have hD : va_D A (List.flatten [bTape g ta ab 0 0 0 0 0 (-1) (fun _ => 0), [(tt, .inr (8, [.ref ta, .ref td]))], bTown g td tda 0 0 0 20 6 50 0 1 (fun _ _ => 0), [(lt, .inr (2, [.ref ta, .ref ldr]))], bLaw g ldr lda 0 (-1) 0 0 0 (fun _ => 0), bTown g it ia 0 0 0 20 6 50 0 1 (fun _ _ => 0), bLaw g il ic 0 (-1) 0 0 0 (fun _ => 0), bLog g ig ir 0 0 (fun _ => 0), [(fo, .inr (0, [.ref o, .ref lo, .ref od]))], bTown g od ad 0 0 0 20 6 50 0 1 (fun _ _ => 0), bRid g ro af 0 0 (fun _ => 0), [(oa, .inl (g.2 2, 1, .inr (.inl fz2_2)))], bObj g om am 1 hi2_5 ac2_6 tp2_7 ba2_8 en2_9 tA2_10 fl2_11 de2_12 iD2_13 iO2_14 tU2_15]) := hD
      refine W.widen (k := 248) (n := 14997) (Nat.le_of_ble_eq_true rfl) (Nat.le_of_ble_eq_true rfl) ?_
      refine W.eq (g2 := F0 m 1156 ls [.int 1]) rfl ?_
      refine lv_iload hx hb dL_law__1156 (lv_at hl 1 rfl) ?_
      refine lv_icmp_eq (tgt := 1163) hx hb dL_law__1158 (by decide) (fun _ => ?_) (fun c19 => absurd (by decide) c19)
      refine lv_iload hx hb dL_law__1163 (lv_at hl 1 rfl) ?_
      refine lv_if_ne (tgt := 1180) hx hb dL_law__1165 (by decide) (fun _ => ?_) (fun c20 => absurd c20 (by decide))
      refine lv_goto (tgt := 2738) hx hb dL_law__1180 (by decide) ?_
      refine lv_iinc (v := 6) (lv' := [(4, .int 6), (6, .int q_16), (5, .int 1), (3, .ref oa), (2, .ref om), (1, .ref x), (0, .ref b)]) hx hb dL_law__2738 hl (k := 2) rfl (by decide) (by decide) rfl (fun ls hl => ?_)
      refine lv_goto (tgt := 23) hx hb dL_law__2741 (by decide) ?_
      refine lv_iload hx hb dL_law__23 (lv_at hl 0 rfl) ?_
      refine lv_aload_n hx hb dL_law__25 rfl (lv_at hl 6 rfl) ?_
      refine va_slen hx hb hX hbl hbA hS dL_law__26 ?_
      refine ztop (r := 6) rfl ?_
      refine lv_bipush (v := 6) hx hb dL_law__27 (by decide) ?_
      refine lv_isub hx hb dL_law__29 ?_
      refine ztop (r := 0) (by decide) ?_
      refine lv_icmp_gt (tgt := 2744) hx hb dL_law__30 (by decide) (fun _ => ?_) (fun c21 => absurd (by decide) c21)
      refine lv_iconst (v := 1) hx hb dL_law__2744 (by decide) ?_
      refine va_forget (fun q hq => by have h9 := hS.2.2 q hq; rw [hAe] at h9; exact h9) ?_
      refine W.widen (k := 600002) (n := 7302232) (Nat.le_of_ble_eq_true rfl) (Nat.le_of_ble_eq_true rfl) ?_
      exact lw_ret hx hb hr hlocks dL_law__2745
    · skip
      exact (hb9.elim hG9.1.1 hG9.1.2).elim
  · skip
    rcases hq17 with ⟨ht9, hB9⟩ | ⟨ht9, hG9⟩
    · skip
      exact (hB9.elim hg9.1.1 hg9.1.2).elim
    · skip
      subst hr9
      subst ht9
      refine lv_istore (lv' := [(6, .int q_16), (5, .int 0), (4, .int 0), (3, .ref oa), (2, .ref om), (1, .ref x), (0, .ref b)]) hx hb dL_law__1150 hl (by decide) rfl (fun ls hl => ?_)
      refine lv_aload_n hx hb dL_law__1152 rfl (lv_at hl 4 rfl) ?_
      refine mcallV (g := g) (q0 := 0) (ci := 10) (As := []) (rest := []) St hK hT hA hP hD hS hl.1 [12] [0, 1, 2, 3, 4, 5, 6, 7, 8, 9, 10, 11] rfl rfl rfl (m_thrown l g om am 0 hi2_5 ac2_6 tp2_7 ba2_8 en2_9 tA2_10 fl2_11 de2_12 iD2_13 iO2_14 tU2_15 ) (cwV 0 hts (zgL (zl4 k1317 k1318 k1319 k833) k824) rfl rfl rfl (by decide +kernel) ⟨Nat.le_of_ble_eq_true rfl, Nat.le_of_ble_eq_true rfl⟩) rfl rfl rfl rfl (Nat.le_of_ble_eq_true rfl) dL_law__1153 ⟨(Nat.le_of_ble_eq_true rfl), (Nat.le_of_ble_eq_true rfl)⟩ (fun _u H locs hq22 hP hD hS => ?_)
      have hP : va_P g.1 vwCl (List.flatten [bTape g ta ab 0 0 0 0 0 (-1) (fun _ => 0), [(tt, .inr (8, [.ref ta, .ref td]))], bTown g td tda 0 0 0 20 6 50 0 1 (fun _ _ => 0), [(lt, .inr (2, [.ref ta, .ref ldr]))], bLaw g ldr lda 0 (-1) 0 0 0 (fun _ => 0), bTown g it ia 0 0 0 20 6 50 0 1 (fun _ _ => 0), bLaw g il ic 0 (-1) 0 0 0 (fun _ => 0), bLog g ig ir 0 0 (fun _ => 0), [(fo, .inr (0, [.ref o, .ref lo, .ref od]))], bTown g od ad 0 0 0 20 6 50 0 1 (fun _ _ => 0), bRid g ro af 0 0 (fun _ => 0), [(oa, .inl (g.2 2, 1, .inr (.inl fz2_2)))], bObj g om am 0 hi2_5 ac2_6 tp2_7 ba2_8 en2_9 tA2_10 fl2_11 de2_12 iD2_13 iO2_14 tU2_15]) H := hP
      have hD : va_D A (List.flatten [bTape g ta ab 0 0 0 0 0 (-1) (fun _ => 0), [(tt, .inr (8, [.ref ta, .ref td]))], bTown g td tda 0 0 0 20 6 50 0 1 (fun _ _ => 0), [(lt, .inr (2, [.ref ta, .ref ldr]))], bLaw g ldr lda 0 (-1) 0 0 0 (fun _ => 0), bTown g it ia 0 0 0 20 6 50 0 1 (fun _ _ => 0), bLaw g il ic 0 (-1) 0 0 0 (fun _ => 0), bLog g ig ir 0 0 (fun _ => 0), [(fo, .inr (0, [.ref o, .ref lo, .ref od]))], bTown g od ad 0 0 0 20 6 50 0 1 (fun _ _ => 0), bRid g ro af 0 0 (fun _ => 0), [(oa, .inl (g.2 2, 1, .inr (.inl fz2_2)))], bObj g om am 0 hi2_5 ac2_6 tp2_7 ba2_8 en2_9 tA2_10 fl2_11 de2_12 iD2_13 iO2_14 tU2_15]) := hD
      refine W.widen (k := 248) (n := 14997) (Nat.le_of_ble_eq_true rfl) (Nat.le_of_ble_eq_true rfl) ?_
      refine W.eq (g2 := F0 m 1156 ls [.int 0]) rfl ?_
      refine lv_iload hx hb dL_law__1156 (lv_at hl 1 rfl) ?_
      refine lv_icmp_eq (tgt := 1163) hx hb dL_law__1158 (by decide) (fun _ => ?_) (fun c23 => absurd (by decide) c23)
      refine lv_iload hx hb dL_law__1163 (lv_at hl 1 rfl) ?_
      refine lv_if_ne (tgt := 1180) hx hb dL_law__1165 (by decide) (fun c24 => absurd (by decide) c24) (fun _ => ?_)
      refine lv_aload_n hx hb dL_law__1168 rfl (lv_at hl 3 rfl) ?_
      refine lv_iconst (v := 0) hx hb dL_law__1169 (by decide) ?_
      refine va_lald hx hb hK hP 49 2 rfl rfl (zin rfl) dL_law__1170 ?_
      refine ztopl (r := fz2_2 0) rfl ?_
      refine lv_iload hx hb dL_law__1171 (lv_at hl 0 rfl) ?_
      refine lv_i2l (v := (q_16 : Int32).toInt64) hx hb dL_law__1173 rfl ?_
      refine W.lcmp hx hb dL_law__1174 ?_
      refine lv_if_eq (tgt := 1180) hx hb dL_law__1175 (by decide) (fun _ => ?_) (fun c25 => absurd (by rw [hg9.2, hG9.2]; exact lg_self _) c25)
      refine lv_goto (tgt := 2738) hx hb dL_law__1180 (by decide) ?_
      refine lv_iinc (v := 6) (lv' := [(4, .int 6), (6, .int q_16), (5, .int 0), (3, .ref oa), (2, .ref om), (1, .ref x), (0, .ref b)]) hx hb dL_law__2738 hl (k := 2) rfl (by decide) (by decide) rfl (fun ls hl => ?_)
      refine lv_goto (tgt := 23) hx hb dL_law__2741 (by decide) ?_
      refine lv_iload hx hb dL_law__23 (lv_at hl 0 rfl) ?_
      refine lv_aload_n hx hb dL_law__25 rfl (lv_at hl 6 rfl) ?_
      refine va_slen hx hb hX hbl hbA hS dL_law__26 ?_
      refine ztop (r := 6) rfl ?_
      refine lv_bipush (v := 6) hx hb dL_law__27 (by decide) ?_
      refine lv_isub hx hb dL_law__29 ?_
      refine ztop (r := 0) (by decide) ?_
      refine lv_icmp_gt (tgt := 2744) hx hb dL_law__30 (by decide) (fun _ => ?_) (fun c26 => absurd (by decide) c26)
      refine lv_iconst (v := 1) hx hb dL_law__2744 (by decide) ?_
      refine va_forget (fun q hq => by have h9 := hS.2.2 q hq; rw [hAe] at h9; exact h9) ?_
      refine W.widen (k := 600002) (n := 7302232) (Nat.le_of_ble_eq_true rfl) (Nat.le_of_ble_eq_true rfl) ?_
      exact lw_ret hx hb hr hlocks dL_law__2745
set_option maxRecDepth 100000 in
set_option maxHeartbeats 4000000 in
/-- the law: ahead -/
theorem w_17 {p : Program} {e : Env} {s : State} {m : MethodId} {below : List Frame} {meth : Method} {c : Code} (l : Launch) (hfl : l.stackTraces = false) (g : zG) {b : Nat} {xs : Nat → Int32} {A : Nat → Prop} (hAe : A = fun q => s.heap.size ≤ q) (hA : ∀ q, s.heap.size ≤ q → A q) (hbA : ¬ A b) (St : CallFix p m c cL_law_ 7 s #[Value.ref b] zB RL) (hr : meth.sig.returnType = ret) (hlocks : meth.locks = false) (hX : va_X b 6 xs s s.heap) (hbl : b < s.heap.size) (hK : zK g s) (hT : zTh A s) (x : Nat) (ta : Nat) (o : Nat) (lo : Nat) (go : Nat) (tt : Nat) (lt : Nat) (mo : Nat) (fo : Nat) (ro : Nat) (ab : Nat) (ac : Nat) (ar : Nat) (td : Nat) (a : Nat → Nat) (tda : Nat → Nat) (ldr : Nat) (lda : Nat) (qT : Nat) (qL : Nat) (it : Nat) (il : Nat) (ig : Nat) (fT : Nat → Option Nat) (fL : Nat → Option Nat) (ia : Nat → Nat) (ic : Nat) (ir : Nat) (t0 : Nat) (ta0 : Nat → Nat) (l0 : Nat) (la0 : Nat) (od : Nat) (ad : Nat → Nat) (af : Nat) (om : Nat) (am : Nat → Nat) (m0 : Nat → Int32) (oa : Nat) (hT0 : fT 0 = some t0) (hL0 : fL 0 = some l0) (hm : zMo m0) (h8 : m0 8 = 0) (h10 : m0 10 = 1) (H : Heap) (locs : List Loc) (ls : Array Slot) (hP : va_P g.1 vwCl (List.flatten [bDR g x ta o lo go tt lt mo fo ro (-1), bTape g ta ab 0 0 0 0 0 (-1) (fun _ => 0), bTown g o a 0 0 0 20 6 50 0 1 (fun _ _ => 0), bLaw g lo ac 0 (-1) 0 0 0 (fun _ => 0), bLog g go ar 0 0 (fun _ => 0), [(tt, .inr (8, [.ref ta, .ref td]))], bTown g td tda 0 0 0 20 6 50 0 1 (fun _ _ => 0), [(lt, .inr (2, [.ref ta, .ref ldr]))], bLaw g ldr lda 0 (-1) 0 0 0 (fun _ => 0), bMem g mo qT qL it il ig 0 0 0 fT fL, bTown g it ia 0 0 0 20 6 50 0 1 (fun _ _ => 0), bLaw g il ic 0 (-1) 0 0 0 (fun _ => 0), bLog g ig ir 0 0 (fun _ => 0), bTown g t0 ta0 0 0 0 20 6 50 0 1 (fun _ _ => 0), bLog g l0 la0 0 0 (fun _ => 0), [(fo, .inr (0, [.ref o, .ref lo, .ref od]))], bTown g od ad 0 0 0 20 6 50 0 1 (fun _ _ => 0), bRid g ro af 0 0 (fun _ => 0), bObj g om am 0 0 0 0 0 0 0 (-1) 0 0 0 0, bArr g am (zf [m0, fun _ => 0, fun _ => 0, fun _ => 0, fun _ => 0, fun _ => 0, fun _ => 0, fun _ => 0]), [(oa, .inl (g.2 2, 1, .inr (.inl (fun _ => 0))))]]) H) (hD : va_D A (List.flatten [bDR g x ta o lo go tt lt mo fo ro (-1), bTape g ta ab 0 0 0 0 0 (-1) (fun _ => 0), bTown g o a 0 0 0 20 6 50 0 1 (fun _ _ => 0), bLaw g lo ac 0 (-1) 0 0 0 (fun _ => 0), bLog g go ar 0 0 (fun _ => 0), [(tt, .inr (8, [.ref ta, .ref td]))], bTown g td tda 0 0 0 20 6 50 0 1 (fun _ _ => 0), [(lt, .inr (2, [.ref ta, .ref ldr]))], bLaw g ldr lda 0 (-1) 0 0 0 (fun _ => 0), bMem g mo qT qL it il ig 0 0 0 fT fL, bTown g it ia 0 0 0 20 6 50 0 1 (fun _ _ => 0), bLaw g il ic 0 (-1) 0 0 0 (fun _ => 0), bLog g ig ir 0 0 (fun _ => 0), bTown g t0 ta0 0 0 0 20 6 50 0 1 (fun _ _ => 0), bLog g l0 la0 0 0 (fun _ => 0), [(fo, .inr (0, [.ref o, .ref lo, .ref od]))], bTown g od ad 0 0 0 20 6 50 0 1 (fun _ _ => 0), bRid g ro af 0 0 (fun _ => 0), bObj g om am 0 0 0 0 0 0 0 (-1) 0 0 0 0, bArr g am (zf [m0, fun _ => 0, fun _ => 0, fun _ => 0, fun _ => 0, fun _ => 0, fun _ => 0, fun _ => 0]), [(oa, .inl (g.2 2, 1, .inr (.inl (fun _ => 0))))]])) (hS : va_S A s.heap H locs) (hl : lv_has ls 7 [(4, .int 0), (3, .ref oa), (2, .ref om), (1, .ref x), (0, .ref b)]) : W p l e room_1 s m #[Value.ref b] below meth c H locs 247 14991 (lw_Z below #[Value.ref b] s) (F0 m 1183 ls []) := by
  obtain ⟨hx, hb, hml, hown, hts⟩ := id St
  have hz0 : zZ (fun _ => 0) := zZ0
  refine lv_aload_n hx hb dL_law__1183 rfl (lv_at hl 3 rfl) ?_
  refine lv_aload_n hx hb dL_law__1184 rfl (lv_at hl 4 rfl) ?_
  refine lv_iload hx hb dL_law__1185 (lv_at hl 0 rfl) ?_
  refine lv_iconst (v := 1) hx hb dL_law__1187 (by decide) ?_
  refine lv_iadd hx hb dL_law__1188 ?_
  refine ztop (r := 1) (by decide) ?_
  refine va_sld hx hb hX hbl hbA hS (zin rfl) dL_law__1189 ?_
  refine ztop (r := xs 1) rfl ?_
  refine lv_aload_n hx hb dL_law__1190 rfl (lv_at hl 4 rfl) ?_
  refine lv_iload hx hb dL_law__1191 (lv_at hl 0 rfl) ?_
  refine lv_iconst (v := 2) hx hb dL_law__1193 (by decide) ?_
  refine lv_iadd hx hb dL_law__1194 ?_
  refine ztop (r := 2) (by decide) ?_
  refine va_sld hx hb hX hbl hbA hS (zin rfl) dL_law__1195 ?_
  refine ztop (r := xs 2) rfl ?_
  refine lv_aload_n hx hb dL_law__1196 rfl (lv_at hl 1 rfl) ?_
  refine xcallSX (g := g) (As := [.ref x, .int (xs 1), .int (xs 2), .ref oa]) (rest := []) St hK hT hA hP hD hS hl.1 [0, 2, 20] [1, 3, 4, 5, 6, 7, 8, 9, 10, 11, 12, 13, 14, 15, 16, 17, 18, 19] rfl rfl rfl (l_ahead l hfl g x ta o lo go tt lt mo fo ro (-1) o a 0 20 6 50 0 1 (fun _ _ => 0) (xs 1) (xs 2) oa (fun _ => 0) ) (vx_cwSW 4 hts (zgL (zl3 k1392 k1393 k1313) k1213) rfl rfl rfl (by decide +kernel) ⟨Nat.le_of_ble_eq_true rfl, Nat.le_of_ble_eq_true rfl⟩) rfl rfl (Nat.le_of_ble_eq_true rfl) dL_law__1197 ⟨(Nat.le_of_ble_eq_true rfl), (Nat.le_of_ble_eq_true rfl)⟩ (fun E ce q9 u9 H locs hpx hP hD hS hce hcv hcl => hpx.elim) (fun u_ H locs hq3 hP hD hS => ?_)
  obtain ⟨r_1, fz2_2⟩ := u_
  have hq3 : r_1 = 1 := hq3
  have hP : va_P g.1 vwCl (List.flatten [bTape g ta ab 0 0 0 0 0 (-1) (fun _ => 0), bLaw g lo ac 0 (-1) 0 0 0 (fun _ => 0), bLog g go ar 0 0 (fun _ => 0), [(tt, .inr (8, [.ref ta, .ref td]))], bTown g td tda 0 0 0 20 6 50 0 1 (fun _ _ => 0), [(lt, .inr (2, [.ref ta, .ref ldr]))], bLaw g ldr lda 0 (-1) 0 0 0 (fun _ => 0), bMem g mo qT qL it il ig 0 0 0 fT fL, bTown g it ia 0 0 0 20 6 50 0 1 (fun _ _ => 0), bLaw g il ic 0 (-1) 0 0 0 (fun _ => 0), bLog g ig ir 0 0 (fun _ => 0), bTown g t0 ta0 0 0 0 20 6 50 0 1 (fun _ _ => 0), bLog g l0 la0 0 0 (fun _ => 0), [(fo, .inr (0, [.ref o, .ref lo, .ref od]))], bTown g od ad 0 0 0 20 6 50 0 1 (fun _ _ => 0), bRid g ro af 0 0 (fun _ => 0), bObj g om am 0 0 0 0 0 0 0 (-1) 0 0 0 0, bArr g am (zf [m0, fun _ => 0, fun _ => 0, fun _ => 0, fun _ => 0, fun _ => 0, fun _ => 0, fun _ => 0]), [(oa, .inl (g.2 2, 1, .inr (.inl fz2_2)))]]) H := hP
  have hD : va_D A (List.flatten [bTape g ta ab 0 0 0 0 0 (-1) (fun _ => 0), bLaw g lo ac 0 (-1) 0 0 0 (fun _ => 0), bLog g go ar 0 0 (fun _ => 0), [(tt, .inr (8, [.ref ta, .ref td]))], bTown g td tda 0 0 0 20 6 50 0 1 (fun _ _ => 0), [(lt, .inr (2, [.ref ta, .ref ldr]))], bLaw g ldr lda 0 (-1) 0 0 0 (fun _ => 0), bMem g mo qT qL it il ig 0 0 0 fT fL, bTown g it ia 0 0 0 20 6 50 0 1 (fun _ _ => 0), bLaw g il ic 0 (-1) 0 0 0 (fun _ => 0), bLog g ig ir 0 0 (fun _ => 0), bTown g t0 ta0 0 0 0 20 6 50 0 1 (fun _ _ => 0), bLog g l0 la0 0 0 (fun _ => 0), [(fo, .inr (0, [.ref o, .ref lo, .ref od]))], bTown g od ad 0 0 0 20 6 50 0 1 (fun _ _ => 0), bRid g ro af 0 0 (fun _ => 0), bObj g om am 0 0 0 0 0 0 0 (-1) 0 0 0 0, bArr g am (zf [m0, fun _ => 0, fun _ => 0, fun _ => 0, fun _ => 0, fun _ => 0, fun _ => 0, fun _ => 0]), [(oa, .inl (g.2 2, 1, .inr (.inl fz2_2)))]]) := hD
  refine W.widen (k := 248) (n := 14997) (Nat.le_of_ble_eq_true rfl) (Nat.le_of_ble_eq_true rfl) ?_
  refine W.eq (g2 := F0 m 1200 ls [.int r_1]) rfl ?_
  subst hq3
  refine lv_istore (lv' := [(5, .int 1), (4, .int 0), (3, .ref oa), (2, .ref om), (1, .ref x), (0, .ref b)]) hx hb dL_law__1200 hl (by decide) rfl (fun ls hl => ?_)
  refine lv_aload_n hx hb dL_law__1202 rfl (lv_at hl 3 rfl) ?_
  refine lv_aload_n hx hb dL_law__1203 rfl (lv_at hl 5 rfl) ?_
  refine lv_iload hx hb dL_law__1204 (lv_at hl 1 rfl) ?_
  refine lv_iconst (v := 1) hx hb dL_law__1206 (by decide) ?_
  refine lv_iadd hx hb dL_law__1207 ?_
  refine ztop (r := 1) (by decide) ?_
  refine va_sld hx hb hX hbl hbA hS (zin rfl) dL_law__1208 ?_
  refine ztop (r := xs 1) rfl ?_
  refine lv_aload_n hx hb dL_law__1209 rfl (lv_at hl 5 rfl) ?_
  refine lv_iload hx hb dL_law__1210 (lv_at hl 1 rfl) ?_
  refine lv_iconst (v := 2) hx hb dL_law__1212 (by decide) ?_
  refine lv_iadd hx hb dL_law__1213 ?_
  refine ztop (r := 2) (by decide) ?_
  refine va_sld hx hb hX hbl hbA hS (zin rfl) dL_law__1214 ?_
  refine ztop (r := xs 2) rfl ?_
  refine mcallV (g := g) (q0 := 0) (ci := 10) (As := [.int (xs 1), .int (xs 2)]) (rest := []) St hK hT hA hP hD hS hl.1 [16, 17] [0, 1, 2, 3, 4, 5, 6, 7, 8, 9, 10, 11, 12, 13, 14, 15, 18] rfl rfl rfl (m_ahead l g om am 0 0 0 0 0 0 0 (-1) 0 0 0 0 (zf [m0, fun _ => 0, fun _ => 0, fun _ => 0, fun _ => 0, fun _ => 0, fun _ => 0, fun _ => 0]) (xs 1) (xs 2) (by assumption)) (cwV 2 hts (zgL (zl4 k1394 k1395 k1396 k833) k1060) rfl rfl rfl (by decide +kernel) ⟨Nat.le_of_ble_eq_true rfl, Nat.le_of_ble_eq_true rfl⟩) rfl rfl rfl rfl (Nat.le_of_ble_eq_true rfl) dL_law__1215 ⟨(Nat.le_of_ble_eq_true rfl), (Nat.le_of_ble_eq_true rfl)⟩ (fun u_ H locs hq17 hP hD hS => ?_)
  obtain ⟨th2_4, hi2_5, ac2_6, tp2_7, ba2_8, en2_9, tA2_10, fl2_11, de2_12, iD2_13, iO2_14, tU2_15, q_16⟩ := u_
  have hq17 : th2_4 = 1 := hq17
  have hP : va_P g.1 vwCl (List.flatten [bTape g ta ab 0 0 0 0 0 (-1) (fun _ => 0), bLaw g lo ac 0 (-1) 0 0 0 (fun _ => 0), bLog g go ar 0 0 (fun _ => 0), [(tt, .inr (8, [.ref ta, .ref td]))], bTown g td tda 0 0 0 20 6 50 0 1 (fun _ _ => 0), [(lt, .inr (2, [.ref ta, .ref ldr]))], bLaw g ldr lda 0 (-1) 0 0 0 (fun _ => 0), bMem g mo qT qL it il ig 0 0 0 fT fL, bTown g it ia 0 0 0 20 6 50 0 1 (fun _ _ => 0), bLaw g il ic 0 (-1) 0 0 0 (fun _ => 0), bLog g ig ir 0 0 (fun _ => 0), bTown g t0 ta0 0 0 0 20 6 50 0 1 (fun _ _ => 0), bLog g l0 la0 0 0 (fun _ => 0), [(fo, .inr (0, [.ref o, .ref lo, .ref od]))], bTown g od ad 0 0 0 20 6 50 0 1 (fun _ _ => 0), bRid g ro af 0 0 (fun _ => 0), [(oa, .inl (g.2 2, 1, .inr (.inl fz2_2)))], bObj g om am th2_4 hi2_5 ac2_6 tp2_7 ba2_8 en2_9 tA2_10 fl2_11 de2_12 iD2_13 iO2_14 tU2_15]) H := hP
  have hD : va_D A (List.flatten [bTape g ta ab 0 0 0 0 0 (-1) (fun _ => 0), bLaw g lo ac 0 (-1) 0 0 0 (fun _ => 0), bLog g go ar 0 0 (fun _ => 0), [(tt, .inr (8, [.ref ta, .ref td]))], bTown g td tda 0 0 0 20 6 50 0 1 (fun _ _ => 0), [(lt, .inr (2, [.ref ta, .ref ldr]))], bLaw g ldr lda 0 (-1) 0 0 0 (fun _ => 0), bMem g mo qT qL it il ig 0 0 0 fT fL, bTown g it ia 0 0 0 20 6 50 0 1 (fun _ _ => 0), bLaw g il ic 0 (-1) 0 0 0 (fun _ => 0), bLog g ig ir 0 0 (fun _ => 0), bTown g t0 ta0 0 0 0 20 6 50 0 1 (fun _ _ => 0), bLog g l0 la0 0 0 (fun _ => 0), [(fo, .inr (0, [.ref o, .ref lo, .ref od]))], bTown g od ad 0 0 0 20 6 50 0 1 (fun _ _ => 0), bRid g ro af 0 0 (fun _ => 0), [(oa, .inl (g.2 2, 1, .inr (.inl fz2_2)))], bObj g om am th2_4 hi2_5 ac2_6 tp2_7 ba2_8 en2_9 tA2_10 fl2_11 de2_12 iD2_13 iO2_14 tU2_15]) := hD
  refine W.widen (k := 248) (n := 14997) (Nat.le_of_ble_eq_true rfl) (Nat.le_of_ble_eq_true rfl) ?_
  refine W.eq (g2 := F0 m 1218 ls [.int q_16]) rfl ?_
  subst hq17
  refine lv_istore (lv' := [(6, .int q_16), (5, .int 1), (4, .int 0), (3, .ref oa), (2, .ref om), (1, .ref x), (0, .ref b)]) hx hb dL_law__1218 hl (by decide) rfl (fun ls hl => ?_)
  refine lv_aload_n hx hb dL_law__1220 rfl (lv_at hl 4 rfl) ?_
  refine mcallV (g := g) (q0 := 0) (ci := 10) (As := []) (rest := []) St hK hT hA hP hD hS hl.1 [17] [0, 1, 2, 3, 4, 5, 6, 7, 8, 9, 10, 11, 12, 13, 14, 15, 16] rfl rfl rfl (m_thrown l g om am 1 hi2_5 ac2_6 tp2_7 ba2_8 en2_9 tA2_10 fl2_11 de2_12 iD2_13 iO2_14 tU2_15 ) (cwV 0 hts (zgL (zl4 k1317 k1318 k1319 k833) k824) rfl rfl rfl (by decide +kernel) ⟨Nat.le_of_ble_eq_true rfl, Nat.le_of_ble_eq_true rfl⟩) rfl rfl rfl rfl (Nat.le_of_ble_eq_true rfl) dL_law__1221 ⟨(Nat.le_of_ble_eq_true rfl), (Nat.le_of_ble_eq_true rfl)⟩ (fun _u H locs hq18 hP hD hS => ?_)
  have hP : va_P g.1 vwCl (List.flatten [bTape g ta ab 0 0 0 0 0 (-1) (fun _ => 0), bLaw g lo ac 0 (-1) 0 0 0 (fun _ => 0), bLog g go ar 0 0 (fun _ => 0), [(tt, .inr (8, [.ref ta, .ref td]))], bTown g td tda 0 0 0 20 6 50 0 1 (fun _ _ => 0), [(lt, .inr (2, [.ref ta, .ref ldr]))], bLaw g ldr lda 0 (-1) 0 0 0 (fun _ => 0), bMem g mo qT qL it il ig 0 0 0 fT fL, bTown g it ia 0 0 0 20 6 50 0 1 (fun _ _ => 0), bLaw g il ic 0 (-1) 0 0 0 (fun _ => 0), bLog g ig ir 0 0 (fun _ => 0), bTown g t0 ta0 0 0 0 20 6 50 0 1 (fun _ _ => 0), bLog g l0 la0 0 0 (fun _ => 0), [(fo, .inr (0, [.ref o, .ref lo, .ref od]))], bTown g od ad 0 0 0 20 6 50 0 1 (fun _ _ => 0), bRid g ro af 0 0 (fun _ => 0), [(oa, .inl (g.2 2, 1, .inr (.inl fz2_2)))], bObj g om am 1 hi2_5 ac2_6 tp2_7 ba2_8 en2_9 tA2_10 fl2_11 de2_12 iD2_13 iO2_14 tU2_15]) H := hP
  have hD : va_D A (List.flatten [bTape g ta ab 0 0 0 0 0 (-1) (fun _ => 0), bLaw g lo ac 0 (-1) 0 0 0 (fun _ => 0), bLog g go ar 0 0 (fun _ => 0), [(tt, .inr (8, [.ref ta, .ref td]))], bTown g td tda 0 0 0 20 6 50 0 1 (fun _ _ => 0), [(lt, .inr (2, [.ref ta, .ref ldr]))], bLaw g ldr lda 0 (-1) 0 0 0 (fun _ => 0), bMem g mo qT qL it il ig 0 0 0 fT fL, bTown g it ia 0 0 0 20 6 50 0 1 (fun _ _ => 0), bLaw g il ic 0 (-1) 0 0 0 (fun _ => 0), bLog g ig ir 0 0 (fun _ => 0), bTown g t0 ta0 0 0 0 20 6 50 0 1 (fun _ _ => 0), bLog g l0 la0 0 0 (fun _ => 0), [(fo, .inr (0, [.ref o, .ref lo, .ref od]))], bTown g od ad 0 0 0 20 6 50 0 1 (fun _ _ => 0), bRid g ro af 0 0 (fun _ => 0), [(oa, .inl (g.2 2, 1, .inr (.inl fz2_2)))], bObj g om am 1 hi2_5 ac2_6 tp2_7 ba2_8 en2_9 tA2_10 fl2_11 de2_12 iD2_13 iO2_14 tU2_15]) := hD
  refine W.widen (k := 248) (n := 14997) (Nat.le_of_ble_eq_true rfl) (Nat.le_of_ble_eq_true rfl) ?_
  refine W.eq (g2 := F0 m 1224 ls [.int 1]) rfl ?_
  refine lv_iload hx hb dL_law__1224 (lv_at hl 1 rfl) ?_
  refine lv_icmp_eq (tgt := 1231) hx hb dL_law__1226 (by decide) (fun _ => ?_) (fun c19 => absurd (by decide) c19)
  refine lv_iload hx hb dL_law__1231 (lv_at hl 1 rfl) ?_
  refine lv_if_ne (tgt := 1248) hx hb dL_law__1233 (by decide) (fun _ => ?_) (fun c20 => absurd c20 (by decide))
  refine lv_goto (tgt := 2738) hx hb dL_law__1248 (by decide) ?_
  refine lv_iinc (v := 6) (lv' := [(4, .int 6), (6, .int q_16), (5, .int 1), (3, .ref oa), (2, .ref om), (1, .ref x), (0, .ref b)]) hx hb dL_law__2738 hl (k := 2) rfl (by decide) (by decide) rfl (fun ls hl => ?_)
  refine lv_goto (tgt := 23) hx hb dL_law__2741 (by decide) ?_
  refine lv_iload hx hb dL_law__23 (lv_at hl 0 rfl) ?_
  refine lv_aload_n hx hb dL_law__25 rfl (lv_at hl 6 rfl) ?_
  refine va_slen hx hb hX hbl hbA hS dL_law__26 ?_
  refine ztop (r := 6) rfl ?_
  refine lv_bipush (v := 6) hx hb dL_law__27 (by decide) ?_
  refine lv_isub hx hb dL_law__29 ?_
  refine ztop (r := 0) (by decide) ?_
  refine lv_icmp_gt (tgt := 2744) hx hb dL_law__30 (by decide) (fun _ => ?_) (fun c21 => absurd (by decide) c21)
  refine lv_iconst (v := 1) hx hb dL_law__2744 (by decide) ?_
  refine va_forget (fun q hq => by have h9 := hS.2.2 q hq; rw [hAe] at h9; exact h9) ?_
  refine W.widen (k := 600002) (n := 7302232) (Nat.le_of_ble_eq_true rfl) (Nat.le_of_ble_eq_true rfl) ?_
  exact lw_ret hx hb hr hlocks dL_law__2745
set_option maxRecDepth 100000 in
set_option maxHeartbeats 4000000 in
/-- the law: then -/
theorem w_18 {p : Program} {e : Env} {s : State} {m : MethodId} {below : List Frame} {meth : Method} {c : Code} (l : Launch) (hfl : l.stackTraces = false) (g : zG) {b : Nat} {xs : Nat → Int32} {A : Nat → Prop} (hAe : A = fun q => s.heap.size ≤ q) (hA : ∀ q, s.heap.size ≤ q → A q) (hbA : ¬ A b) (St : CallFix p m c cL_law_ 7 s #[Value.ref b] zB RL) (hr : meth.sig.returnType = ret) (hlocks : meth.locks = false) (hX : va_X b 6 xs s s.heap) (hbl : b < s.heap.size) (hK : zK g s) (hT : zTh A s) (x : Nat) (ta : Nat) (o : Nat) (lo : Nat) (go : Nat) (tt : Nat) (lt : Nat) (mo : Nat) (fo : Nat) (ro : Nat) (ab : Nat) (ac : Nat) (ar : Nat) (td : Nat) (a : Nat → Nat) (tda : Nat → Nat) (ldr : Nat) (lda : Nat) (qT : Nat) (qL : Nat) (it : Nat) (il : Nat) (ig : Nat) (fT : Nat → Option Nat) (fL : Nat → Option Nat) (ia : Nat → Nat) (ic : Nat) (ir : Nat) (t0 : Nat) (ta0 : Nat → Nat) (l0 : Nat) (la0 : Nat) (od : Nat) (ad : Nat → Nat) (af : Nat) (om : Nat) (am : Nat → Nat) (m0 : Nat → Int32) (oa : Nat) (hT0 : fT 0 = some t0) (hL0 : fL 0 = some l0) (hm : zMo m0) (h8 : m0 8 = 0) (h10 : m0 10 = 1) (H : Heap) (locs : List Loc) (ls : Array Slot) (hP : va_P g.1 vwCl (List.flatten [bDR g x ta o lo go tt lt mo fo ro (-1), bTape g ta ab 0 0 0 0 0 (-1) (fun _ => 0), bTown g o a 0 0 0 20 6 50 0 1 (fun _ _ => 0), bLaw g lo ac 0 (-1) 0 0 0 (fun _ => 0), bLog g go ar 0 0 (fun _ => 0), [(tt, .inr (8, [.ref ta, .ref td]))], bTown g td tda 0 0 0 20 6 50 0 1 (fun _ _ => 0), [(lt, .inr (2, [.ref ta, .ref ldr]))], bLaw g ldr lda 0 (-1) 0 0 0 (fun _ => 0), bMem g mo qT qL it il ig 0 0 0 fT fL, bTown g it ia 0 0 0 20 6 50 0 1 (fun _ _ => 0), bLaw g il ic 0 (-1) 0 0 0 (fun _ => 0), bLog g ig ir 0 0 (fun _ => 0), bTown g t0 ta0 0 0 0 20 6 50 0 1 (fun _ _ => 0), bLog g l0 la0 0 0 (fun _ => 0), [(fo, .inr (0, [.ref o, .ref lo, .ref od]))], bTown g od ad 0 0 0 20 6 50 0 1 (fun _ _ => 0), bRid g ro af 0 0 (fun _ => 0), bObj g om am 0 0 0 0 0 0 0 (-1) 0 0 0 0, bArr g am (zf [m0, fun _ => 0, fun _ => 0, fun _ => 0, fun _ => 0, fun _ => 0, fun _ => 0, fun _ => 0]), [(oa, .inl (g.2 2, 1, .inr (.inl (fun _ => 0))))]]) H) (hD : va_D A (List.flatten [bDR g x ta o lo go tt lt mo fo ro (-1), bTape g ta ab 0 0 0 0 0 (-1) (fun _ => 0), bTown g o a 0 0 0 20 6 50 0 1 (fun _ _ => 0), bLaw g lo ac 0 (-1) 0 0 0 (fun _ => 0), bLog g go ar 0 0 (fun _ => 0), [(tt, .inr (8, [.ref ta, .ref td]))], bTown g td tda 0 0 0 20 6 50 0 1 (fun _ _ => 0), [(lt, .inr (2, [.ref ta, .ref ldr]))], bLaw g ldr lda 0 (-1) 0 0 0 (fun _ => 0), bMem g mo qT qL it il ig 0 0 0 fT fL, bTown g it ia 0 0 0 20 6 50 0 1 (fun _ _ => 0), bLaw g il ic 0 (-1) 0 0 0 (fun _ => 0), bLog g ig ir 0 0 (fun _ => 0), bTown g t0 ta0 0 0 0 20 6 50 0 1 (fun _ _ => 0), bLog g l0 la0 0 0 (fun _ => 0), [(fo, .inr (0, [.ref o, .ref lo, .ref od]))], bTown g od ad 0 0 0 20 6 50 0 1 (fun _ _ => 0), bRid g ro af 0 0 (fun _ => 0), bObj g om am 0 0 0 0 0 0 0 (-1) 0 0 0 0, bArr g am (zf [m0, fun _ => 0, fun _ => 0, fun _ => 0, fun _ => 0, fun _ => 0, fun _ => 0, fun _ => 0]), [(oa, .inl (g.2 2, 1, .inr (.inl (fun _ => 0))))]])) (hS : va_S A s.heap H locs) (hl : lv_has ls 7 [(4, .int 0), (3, .ref oa), (2, .ref om), (1, .ref x), (0, .ref b)]) : W p l e room_1 s m #[Value.ref b] below meth c H locs 247 14991 (lw_Z below #[Value.ref b] s) (F0 m 1251 ls []) := by
  obtain ⟨hx, hb, hml, hown, hts⟩ := id St
  have hz0 : zZ (fun _ => 0) := zZ0
  refine lv_aload_n hx hb dL_law__1251 rfl (lv_at hl 3 rfl) ?_
  refine lv_aload_n hx hb dL_law__1252 rfl (lv_at hl 4 rfl) ?_
  refine lv_iload hx hb dL_law__1253 (lv_at hl 0 rfl) ?_
  refine lv_iconst (v := 1) hx hb dL_law__1255 (by decide) ?_
  refine lv_iadd hx hb dL_law__1256 ?_
  refine ztop (r := 1) (by decide) ?_
  refine va_sld hx hb hX hbl hbA hS (zin rfl) dL_law__1257 ?_
  refine ztop (r := xs 1) rfl ?_
  refine lv_aload_n hx hb dL_law__1258 rfl (lv_at hl 4 rfl) ?_
  refine lv_iload hx hb dL_law__1259 (lv_at hl 0 rfl) ?_
  refine lv_iconst (v := 2) hx hb dL_law__1261 (by decide) ?_
  refine lv_iadd hx hb dL_law__1262 ?_
  refine ztop (r := 2) (by decide) ?_
  refine va_sld hx hb hX hbl hbA hS (zin rfl) dL_law__1263 ?_
  refine ztop (r := xs 2) rfl ?_
  refine lv_if_eq (tgt := 1271) hx hb dL_law__1264 (by decide) (fun cZ => ?_) (fun cZ => ?_)
  · skip
    refine lv_iconst (v := 0) hx hb dL_law__1271 (by decide) ?_
    refine lv_aload_n hx hb dL_law__1272 rfl (lv_at hl 1 rfl) ?_
    refine xcallSX (g := g) (As := [.ref x, .int (xs 1), .int 0, .ref oa]) (rest := []) St hK hT hA hP hD hS hl.1 [0, 2, 15, 3, 16, 20] [1, 4, 5, 6, 7, 8, 9, 10, 11, 12, 13, 14, 17, 18, 19] rfl rfl rfl (l_then l hfl g x ta o lo go tt lt mo fo ro (-1) a 0 20 6 50 0 1 (fun _ _ => 0) ac 0 (-1) 0 0 0 (fun _ => 0) od ad 0 0 0 20 6 50 0 1 (fun _ _ => 0) (xs 1) 0 oa (fun _ => 0) (by assumption)) (vx_cwSW 4 hts (zgL (zl3 k1397 k1398 k1313) k1217) rfl rfl rfl (by decide +kernel) ⟨Nat.le_of_ble_eq_true rfl, Nat.le_of_ble_eq_true rfl⟩) rfl rfl (Nat.le_of_ble_eq_true rfl) dL_law__1273 ⟨(Nat.le_of_ble_eq_true rfl), (Nat.le_of_ble_eq_true rfl)⟩ (fun E ce q9 u9 H locs hpx hP hD hS hce hcv hcl => hpx.elim) (fun u_ H locs hq5 hP hD hS => ?_)
    obtain ⟨r_2, fz2_3, q_4⟩ := u_
    have hq5 : (r_2 = 1 ∧ ((xs 1) < 0 ∨ 100 < (xs 1))) ∨ (r_2 = 0 ∧ ((¬ (xs 1) < 0 ∧ ¬ 100 < (xs 1)) ∧ q_4 = if 0 = 0 then 0 else 20) ∧ fz2_3 0 = (q_4 : Int32).toInt64) := hq5
    have hP : va_P g.1 vwCl (List.flatten [bTape g ta ab 0 0 0 0 0 (-1) (fun _ => 0), bLog g go ar 0 0 (fun _ => 0), [(tt, .inr (8, [.ref ta, .ref td]))], bTown g td tda 0 0 0 20 6 50 0 1 (fun _ _ => 0), [(lt, .inr (2, [.ref ta, .ref ldr]))], bLaw g ldr lda 0 (-1) 0 0 0 (fun _ => 0), bMem g mo qT qL it il ig 0 0 0 fT fL, bTown g it ia 0 0 0 20 6 50 0 1 (fun _ _ => 0), bLaw g il ic 0 (-1) 0 0 0 (fun _ => 0), bLog g ig ir 0 0 (fun _ => 0), bTown g t0 ta0 0 0 0 20 6 50 0 1 (fun _ _ => 0), bLog g l0 la0 0 0 (fun _ => 0), bRid g ro af 0 0 (fun _ => 0), bObj g om am 0 0 0 0 0 0 0 (-1) 0 0 0 0, bArr g am (zf [m0, fun _ => 0, fun _ => 0, fun _ => 0, fun _ => 0, fun _ => 0, fun _ => 0, fun _ => 0]), [(oa, .inl (g.2 2, 1, .inr (.inl fz2_3)))]]) H := hP
    have hD : va_D A (List.flatten [bTape g ta ab 0 0 0 0 0 (-1) (fun _ => 0), bLog g go ar 0 0 (fun _ => 0), [(tt, .inr (8, [.ref ta, .ref td]))], bTown g td tda 0 0 0 20 6 50 0 1 (fun _ _ => 0), [(lt, .inr (2, [.ref ta, .ref ldr]))], bLaw g ldr lda 0 (-1) 0 0 0 (fun _ => 0), bMem g mo qT qL it il ig 0 0 0 fT fL, bTown g it ia 0 0 0 20 6 50 0 1 (fun _ _ => 0), bLaw g il ic 0 (-1) 0 0 0 (fun _ => 0), bLog g ig ir 0 0 (fun _ => 0), bTown g t0 ta0 0 0 0 20 6 50 0 1 (fun _ _ => 0), bLog g l0 la0 0 0 (fun _ => 0), bRid g ro af 0 0 (fun _ => 0), bObj g om am 0 0 0 0 0 0 0 (-1) 0 0 0 0, bArr g am (zf [m0, fun _ => 0, fun _ => 0, fun _ => 0, fun _ => 0, fun _ => 0, fun _ => 0, fun _ => 0]), [(oa, .inl (g.2 2, 1, .inr (.inl fz2_3)))]]) := hD
    refine W.widen (k := 248) (n := 14997) (Nat.le_of_ble_eq_true rfl) (Nat.le_of_ble_eq_true rfl) ?_
    refine W.eq (g2 := F0 m 1276 ls [.int r_2]) rfl ?_
    refine lv_istore (lv' := [(5, .int r_2), (4, .int 0), (3, .ref oa), (2, .ref om), (1, .ref x), (0, .ref b)]) hx hb dL_law__1276 hl (by decide) rfl (fun ls hl => ?_)
    refine lv_aload_n hx hb dL_law__1278 rfl (lv_at hl 3 rfl) ?_
    refine lv_aload_n hx hb dL_law__1279 rfl (lv_at hl 5 rfl) ?_
    refine lv_iload hx hb dL_law__1280 (lv_at hl 1 rfl) ?_
    refine lv_iconst (v := 1) hx hb dL_law__1282 (by decide) ?_
    refine lv_iadd hx hb dL_law__1283 ?_
    refine ztop (r := 1) (by decide) ?_
    refine va_sld hx hb hX hbl hbA hS (zin rfl) dL_law__1284 ?_
    refine ztop (r := xs 1) rfl ?_
    refine lv_aload_n hx hb dL_law__1285 rfl (lv_at hl 5 rfl) ?_
    refine lv_iload hx hb dL_law__1286 (lv_at hl 1 rfl) ?_
    refine lv_iconst (v := 2) hx hb dL_law__1288 (by decide) ?_
    refine lv_iadd hx hb dL_law__1289 ?_
    refine ztop (r := 2) (by decide) ?_
    refine va_sld hx hb hX hbl hbA hS (zin rfl) dL_law__1290 ?_
    refine ztop (r := xs 2) rfl ?_
    refine lv_if_eq (tgt := 1298) hx hb dL_law__1291 (by decide) (fun _ => ?_) (fun c6 => absurd cZ c6)
    refine lv_iconst (v := 0) hx hb dL_law__1298 (by decide) ?_
    refine mcallV (g := g) (q0 := 0) (ci := 10) (As := [.int (xs 1), .int 0]) (rest := []) St hK hT hA hP hD hS hl.1 [13, 14] [0, 1, 2, 3, 4, 5, 6, 7, 8, 9, 10, 11, 12, 15] rfl rfl rfl (m_then l g om am 0 0 0 0 0 0 0 (-1) 0 0 0 0 (zf [m0, fun _ => 0, fun _ => 0, fun _ => 0, fun _ => 0, fun _ => 0, fun _ => 0, fun _ => 0]) (xs 1) 0 (by assumption)) (cwV 2 hts (zgL (zl4 k1399 k1400 k1401 k833) k1065) rfl rfl rfl (by decide +kernel) ⟨Nat.le_of_ble_eq_true rfl, Nat.le_of_ble_eq_true rfl⟩) rfl rfl rfl rfl (Nat.le_of_ble_eq_true rfl) dL_law__1299 ⟨(Nat.le_of_ble_eq_true rfl), (Nat.le_of_ble_eq_true rfl)⟩ (fun u_ H locs hq20 hP hD hS => ?_)
    obtain ⟨th2_7, hi2_8, ac2_9, tp2_10, ba2_11, en2_12, tA2_13, fl2_14, de2_15, iD2_16, iO2_17, tU2_18, q_19⟩ := u_
    have hq20 : (th2_7 = 1 ∧ (((xs 1) : Int32) < 0 ∨ 100 < ((xs 1) : Int32))) ∨ (th2_7 = 0 ∧ (¬ ((xs 1) : Int32) < 0 ∧ ¬ 100 < ((xs 1) : Int32)) ∧ q_19 = if 0 = 0 then 0 else 20) := hq20
    have hP : va_P g.1 vwCl (List.flatten [bTape g ta ab 0 0 0 0 0 (-1) (fun _ => 0), bLog g go ar 0 0 (fun _ => 0), [(tt, .inr (8, [.ref ta, .ref td]))], bTown g td tda 0 0 0 20 6 50 0 1 (fun _ _ => 0), [(lt, .inr (2, [.ref ta, .ref ldr]))], bLaw g ldr lda 0 (-1) 0 0 0 (fun _ => 0), bMem g mo qT qL it il ig 0 0 0 fT fL, bTown g it ia 0 0 0 20 6 50 0 1 (fun _ _ => 0), bLaw g il ic 0 (-1) 0 0 0 (fun _ => 0), bLog g ig ir 0 0 (fun _ => 0), bTown g t0 ta0 0 0 0 20 6 50 0 1 (fun _ _ => 0), bLog g l0 la0 0 0 (fun _ => 0), bRid g ro af 0 0 (fun _ => 0), [(oa, .inl (g.2 2, 1, .inr (.inl fz2_3)))], bObj g om am th2_7 hi2_8 ac2_9 tp2_10 ba2_11 en2_12 tA2_13 fl2_14 de2_15 iD2_16 iO2_17 tU2_18]) H := hP
    have hD : va_D A (List.flatten [bTape g ta ab 0 0 0 0 0 (-1) (fun _ => 0), bLog g go ar 0 0 (fun _ => 0), [(tt, .inr (8, [.ref ta, .ref td]))], bTown g td tda 0 0 0 20 6 50 0 1 (fun _ _ => 0), [(lt, .inr (2, [.ref ta, .ref ldr]))], bLaw g ldr lda 0 (-1) 0 0 0 (fun _ => 0), bMem g mo qT qL it il ig 0 0 0 fT fL, bTown g it ia 0 0 0 20 6 50 0 1 (fun _ _ => 0), bLaw g il ic 0 (-1) 0 0 0 (fun _ => 0), bLog g ig ir 0 0 (fun _ => 0), bTown g t0 ta0 0 0 0 20 6 50 0 1 (fun _ _ => 0), bLog g l0 la0 0 0 (fun _ => 0), bRid g ro af 0 0 (fun _ => 0), [(oa, .inl (g.2 2, 1, .inr (.inl fz2_3)))], bObj g om am th2_7 hi2_8 ac2_9 tp2_10 ba2_11 en2_12 tA2_13 fl2_14 de2_15 iD2_16 iO2_17 tU2_18]) := hD
    refine W.widen (k := 248) (n := 14997) (Nat.le_of_ble_eq_true rfl) (Nat.le_of_ble_eq_true rfl) ?_
    refine W.eq (g2 := F0 m 1302 ls [.int q_19]) rfl ?_
    rcases hq5 with ⟨hr9, hb9⟩ | ⟨hr9, hg9⟩
    · skip
      rcases hq20 with ⟨ht9, hB9⟩ | ⟨ht9, hG9⟩
      · skip
        subst hr9
        subst ht9
        refine lv_istore (lv' := [(6, .int q_19), (5, .int 1), (4, .int 0), (3, .ref oa), (2, .ref om), (1, .ref x), (0, .ref b)]) hx hb dL_law__1302 hl (by decide) rfl (fun ls hl => ?_)
        refine lv_aload_n hx hb dL_law__1304 rfl (lv_at hl 4 rfl) ?_
        refine mcallV (g := g) (q0 := 0) (ci := 10) (As := []) (rest := []) St hK hT hA hP hD hS hl.1 [14] [0, 1, 2, 3, 4, 5, 6, 7, 8, 9, 10, 11, 12, 13] rfl rfl rfl (m_thrown l g om am 1 hi2_8 ac2_9 tp2_10 ba2_11 en2_12 tA2_13 fl2_14 de2_15 iD2_16 iO2_17 tU2_18 ) (cwV 0 hts (zgL (zl4 k1317 k1318 k1319 k833) k824) rfl rfl rfl (by decide +kernel) ⟨Nat.le_of_ble_eq_true rfl, Nat.le_of_ble_eq_true rfl⟩) rfl rfl rfl rfl (Nat.le_of_ble_eq_true rfl) dL_law__1305 ⟨(Nat.le_of_ble_eq_true rfl), (Nat.le_of_ble_eq_true rfl)⟩ (fun _u H locs hq21 hP hD hS => ?_)
        have hP : va_P g.1 vwCl (List.flatten [bTape g ta ab 0 0 0 0 0 (-1) (fun _ => 0), bLog g go ar 0 0 (fun _ => 0), [(tt, .inr (8, [.ref ta, .ref td]))], bTown g td tda 0 0 0 20 6 50 0 1 (fun _ _ => 0), [(lt, .inr (2, [.ref ta, .ref ldr]))], bLaw g ldr lda 0 (-1) 0 0 0 (fun _ => 0), bMem g mo qT qL it il ig 0 0 0 fT fL, bTown g it ia 0 0 0 20 6 50 0 1 (fun _ _ => 0), bLaw g il ic 0 (-1) 0 0 0 (fun _ => 0), bLog g ig ir 0 0 (fun _ => 0), bTown g t0 ta0 0 0 0 20 6 50 0 1 (fun _ _ => 0), bLog g l0 la0 0 0 (fun _ => 0), bRid g ro af 0 0 (fun _ => 0), [(oa, .inl (g.2 2, 1, .inr (.inl fz2_3)))], bObj g om am 1 hi2_8 ac2_9 tp2_10 ba2_11 en2_12 tA2_13 fl2_14 de2_15 iD2_16 iO2_17 tU2_18]) H := hP
        have hD : va_D A (List.flatten [bTape g ta ab 0 0 0 0 0 (-1) (fun _ => 0), bLog g go ar 0 0 (fun _ => 0), [(tt, .inr (8, [.ref ta, .ref td]))], bTown g td tda 0 0 0 20 6 50 0 1 (fun _ _ => 0), [(lt, .inr (2, [.ref ta, .ref ldr]))], bLaw g ldr lda 0 (-1) 0 0 0 (fun _ => 0), bMem g mo qT qL it il ig 0 0 0 fT fL, bTown g it ia 0 0 0 20 6 50 0 1 (fun _ _ => 0), bLaw g il ic 0 (-1) 0 0 0 (fun _ => 0), bLog g ig ir 0 0 (fun _ => 0), bTown g t0 ta0 0 0 0 20 6 50 0 1 (fun _ _ => 0), bLog g l0 la0 0 0 (fun _ => 0), bRid g ro af 0 0 (fun _ => 0), [(oa, .inl (g.2 2, 1, .inr (.inl fz2_3)))], bObj g om am 1 hi2_8 ac2_9 tp2_10 ba2_11 en2_12 tA2_13 fl2_14 de2_15 iD2_16 iO2_17 tU2_18]) := hD
        refine W.widen (k := 248) (n := 14997) (Nat.le_of_ble_eq_true rfl) (Nat.le_of_ble_eq_true rfl) ?_
        refine W.eq (g2 := F0 m 1308 ls [.int 1]) rfl ?_
        refine lv_iload hx hb dL_law__1308 (lv_at hl 1 rfl) ?_
        refine lv_icmp_eq (tgt := 1315) hx hb dL_law__1310 (by decide) (fun _ => ?_) (fun c22 => absurd (by decide) c22)
        refine lv_iload hx hb dL_law__1315 (lv_at hl 1 rfl) ?_
        refine lv_if_ne (tgt := 1332) hx hb dL_law__1317 (by decide) (fun _ => ?_) (fun c23 => absurd c23 (by decide))
        refine lv_goto (tgt := 2738) hx hb dL_law__1332 (by decide) ?_
        refine lv_iinc (v := 6) (lv' := [(4, .int 6), (6, .int q_19), (5, .int 1), (3, .ref oa), (2, .ref om), (1, .ref x), (0, .ref b)]) hx hb dL_law__2738 hl (k := 2) rfl (by decide) (by decide) rfl (fun ls hl => ?_)
        refine lv_goto (tgt := 23) hx hb dL_law__2741 (by decide) ?_
        refine lv_iload hx hb dL_law__23 (lv_at hl 0 rfl) ?_
        refine lv_aload_n hx hb dL_law__25 rfl (lv_at hl 6 rfl) ?_
        refine va_slen hx hb hX hbl hbA hS dL_law__26 ?_
        refine ztop (r := 6) rfl ?_
        refine lv_bipush (v := 6) hx hb dL_law__27 (by decide) ?_
        refine lv_isub hx hb dL_law__29 ?_
        refine ztop (r := 0) (by decide) ?_
        refine lv_icmp_gt (tgt := 2744) hx hb dL_law__30 (by decide) (fun _ => ?_) (fun c24 => absurd (by decide) c24)
        refine lv_iconst (v := 1) hx hb dL_law__2744 (by decide) ?_
        refine va_forget (fun q hq => by have h9 := hS.2.2 q hq; rw [hAe] at h9; exact h9) ?_
        refine W.widen (k := 600002) (n := 7302232) (Nat.le_of_ble_eq_true rfl) (Nat.le_of_ble_eq_true rfl) ?_
        exact lw_ret hx hb hr hlocks dL_law__2745
      · skip
        exact (hb9.elim hG9.1.1 hG9.1.2).elim
    · skip
      rcases hq20 with ⟨ht9, hB9⟩ | ⟨ht9, hG9⟩
      · skip
        exact (hB9.elim hg9.1.1.1 hg9.1.1.2).elim
      · skip
        subst hr9
        subst ht9
        refine lv_istore (lv' := [(6, .int q_19), (5, .int 0), (4, .int 0), (3, .ref oa), (2, .ref om), (1, .ref x), (0, .ref b)]) hx hb dL_law__1302 hl (by decide) rfl (fun ls hl => ?_)
        refine lv_aload_n hx hb dL_law__1304 rfl (lv_at hl 4 rfl) ?_
        refine mcallV (g := g) (q0 := 0) (ci := 10) (As := []) (rest := []) St hK hT hA hP hD hS hl.1 [14] [0, 1, 2, 3, 4, 5, 6, 7, 8, 9, 10, 11, 12, 13] rfl rfl rfl (m_thrown l g om am 0 hi2_8 ac2_9 tp2_10 ba2_11 en2_12 tA2_13 fl2_14 de2_15 iD2_16 iO2_17 tU2_18 ) (cwV 0 hts (zgL (zl4 k1317 k1318 k1319 k833) k824) rfl rfl rfl (by decide +kernel) ⟨Nat.le_of_ble_eq_true rfl, Nat.le_of_ble_eq_true rfl⟩) rfl rfl rfl rfl (Nat.le_of_ble_eq_true rfl) dL_law__1305 ⟨(Nat.le_of_ble_eq_true rfl), (Nat.le_of_ble_eq_true rfl)⟩ (fun _u H locs hq25 hP hD hS => ?_)
        have hP : va_P g.1 vwCl (List.flatten [bTape g ta ab 0 0 0 0 0 (-1) (fun _ => 0), bLog g go ar 0 0 (fun _ => 0), [(tt, .inr (8, [.ref ta, .ref td]))], bTown g td tda 0 0 0 20 6 50 0 1 (fun _ _ => 0), [(lt, .inr (2, [.ref ta, .ref ldr]))], bLaw g ldr lda 0 (-1) 0 0 0 (fun _ => 0), bMem g mo qT qL it il ig 0 0 0 fT fL, bTown g it ia 0 0 0 20 6 50 0 1 (fun _ _ => 0), bLaw g il ic 0 (-1) 0 0 0 (fun _ => 0), bLog g ig ir 0 0 (fun _ => 0), bTown g t0 ta0 0 0 0 20 6 50 0 1 (fun _ _ => 0), bLog g l0 la0 0 0 (fun _ => 0), bRid g ro af 0 0 (fun _ => 0), [(oa, .inl (g.2 2, 1, .inr (.inl fz2_3)))], bObj g om am 0 hi2_8 ac2_9 tp2_10 ba2_11 en2_12 tA2_13 fl2_14 de2_15 iD2_16 iO2_17 tU2_18]) H := hP
        have hD : va_D A (List.flatten [bTape g ta ab 0 0 0 0 0 (-1) (fun _ => 0), bLog g go ar 0 0 (fun _ => 0), [(tt, .inr (8, [.ref ta, .ref td]))], bTown g td tda 0 0 0 20 6 50 0 1 (fun _ _ => 0), [(lt, .inr (2, [.ref ta, .ref ldr]))], bLaw g ldr lda 0 (-1) 0 0 0 (fun _ => 0), bMem g mo qT qL it il ig 0 0 0 fT fL, bTown g it ia 0 0 0 20 6 50 0 1 (fun _ _ => 0), bLaw g il ic 0 (-1) 0 0 0 (fun _ => 0), bLog g ig ir 0 0 (fun _ => 0), bTown g t0 ta0 0 0 0 20 6 50 0 1 (fun _ _ => 0), bLog g l0 la0 0 0 (fun _ => 0), bRid g ro af 0 0 (fun _ => 0), [(oa, .inl (g.2 2, 1, .inr (.inl fz2_3)))], bObj g om am 0 hi2_8 ac2_9 tp2_10 ba2_11 en2_12 tA2_13 fl2_14 de2_15 iD2_16 iO2_17 tU2_18]) := hD
        refine W.widen (k := 248) (n := 14997) (Nat.le_of_ble_eq_true rfl) (Nat.le_of_ble_eq_true rfl) ?_
        refine W.eq (g2 := F0 m 1308 ls [.int 0]) rfl ?_
        refine lv_iload hx hb dL_law__1308 (lv_at hl 1 rfl) ?_
        refine lv_icmp_eq (tgt := 1315) hx hb dL_law__1310 (by decide) (fun _ => ?_) (fun c26 => absurd (by decide) c26)
        refine lv_iload hx hb dL_law__1315 (lv_at hl 1 rfl) ?_
        refine lv_if_ne (tgt := 1332) hx hb dL_law__1317 (by decide) (fun c27 => absurd (by decide) c27) (fun _ => ?_)
        refine lv_aload_n hx hb dL_law__1320 rfl (lv_at hl 3 rfl) ?_
        refine lv_iconst (v := 0) hx hb dL_law__1321 (by decide) ?_
        refine va_lald hx hb hK hP 55 2 rfl rfl (zin rfl) dL_law__1322 ?_
        refine ztopl (r := fz2_3 0) rfl ?_
        refine lv_iload hx hb dL_law__1323 (lv_at hl 0 rfl) ?_
        refine lv_i2l (v := (q_19 : Int32).toInt64) hx hb dL_law__1325 rfl ?_
        refine W.lcmp hx hb dL_law__1326 ?_
        refine lv_if_eq (tgt := 1332) hx hb dL_law__1327 (by decide) (fun _ => ?_) (fun c28 => absurd (by rw [hg9.2, hg9.1.2, hG9.2]; exact lg_self _) c28)
        refine lv_goto (tgt := 2738) hx hb dL_law__1332 (by decide) ?_
        refine lv_iinc (v := 6) (lv' := [(4, .int 6), (6, .int q_19), (5, .int 0), (3, .ref oa), (2, .ref om), (1, .ref x), (0, .ref b)]) hx hb dL_law__2738 hl (k := 2) rfl (by decide) (by decide) rfl (fun ls hl => ?_)
        refine lv_goto (tgt := 23) hx hb dL_law__2741 (by decide) ?_
        refine lv_iload hx hb dL_law__23 (lv_at hl 0 rfl) ?_
        refine lv_aload_n hx hb dL_law__25 rfl (lv_at hl 6 rfl) ?_
        refine va_slen hx hb hX hbl hbA hS dL_law__26 ?_
        refine ztop (r := 6) rfl ?_
        refine lv_bipush (v := 6) hx hb dL_law__27 (by decide) ?_
        refine lv_isub hx hb dL_law__29 ?_
        refine ztop (r := 0) (by decide) ?_
        refine lv_icmp_gt (tgt := 2744) hx hb dL_law__30 (by decide) (fun _ => ?_) (fun c29 => absurd (by decide) c29)
        refine lv_iconst (v := 1) hx hb dL_law__2744 (by decide) ?_
        refine va_forget (fun q hq => by have h9 := hS.2.2 q hq; rw [hAe] at h9; exact h9) ?_
        refine W.widen (k := 600002) (n := 7302232) (Nat.le_of_ble_eq_true rfl) (Nat.le_of_ble_eq_true rfl) ?_
        exact lw_ret hx hb hr hlocks dL_law__2745
  · skip
    refine lv_iconst (v := 1) hx hb dL_law__1267 (by decide) ?_
    refine lv_goto (tgt := 1272) hx hb dL_law__1268 (by decide) ?_
    refine lv_aload_n hx hb dL_law__1272 rfl (lv_at hl 1 rfl) ?_
    refine xcallSX (g := g) (As := [.ref x, .int (xs 1), .int 1, .ref oa]) (rest := []) St hK hT hA hP hD hS hl.1 [0, 2, 15, 3, 16, 20] [1, 4, 5, 6, 7, 8, 9, 10, 11, 12, 13, 14, 17, 18, 19] rfl rfl rfl (l_then l hfl g x ta o lo go tt lt mo fo ro (-1) a 0 20 6 50 0 1 (fun _ _ => 0) ac 0 (-1) 0 0 0 (fun _ => 0) od ad 0 0 0 20 6 50 0 1 (fun _ _ => 0) (xs 1) 1 oa (fun _ => 0) (by assumption)) (vx_cwSW 4 hts (zgL (zl3 k1397 k1398 k1313) k1217) rfl rfl rfl (by decide +kernel) ⟨Nat.le_of_ble_eq_true rfl, Nat.le_of_ble_eq_true rfl⟩) rfl rfl (Nat.le_of_ble_eq_true rfl) dL_law__1273 ⟨(Nat.le_of_ble_eq_true rfl), (Nat.le_of_ble_eq_true rfl)⟩ (fun E ce q9 u9 H locs hpx hP hD hS hce hcv hcl => hpx.elim) (fun u_ H locs hq33 hP hD hS => ?_)
    obtain ⟨r_30, fz2_31, q_32⟩ := u_
    have hq33 : (r_30 = 1 ∧ ((xs 1) < 0 ∨ 100 < (xs 1))) ∨ (r_30 = 0 ∧ ((¬ (xs 1) < 0 ∧ ¬ 100 < (xs 1)) ∧ q_32 = if 1 = 0 then 0 else 20) ∧ fz2_31 0 = (q_32 : Int32).toInt64) := hq33
    have hP : va_P g.1 vwCl (List.flatten [bTape g ta ab 0 0 0 0 0 (-1) (fun _ => 0), bLog g go ar 0 0 (fun _ => 0), [(tt, .inr (8, [.ref ta, .ref td]))], bTown g td tda 0 0 0 20 6 50 0 1 (fun _ _ => 0), [(lt, .inr (2, [.ref ta, .ref ldr]))], bLaw g ldr lda 0 (-1) 0 0 0 (fun _ => 0), bMem g mo qT qL it il ig 0 0 0 fT fL, bTown g it ia 0 0 0 20 6 50 0 1 (fun _ _ => 0), bLaw g il ic 0 (-1) 0 0 0 (fun _ => 0), bLog g ig ir 0 0 (fun _ => 0), bTown g t0 ta0 0 0 0 20 6 50 0 1 (fun _ _ => 0), bLog g l0 la0 0 0 (fun _ => 0), bRid g ro af 0 0 (fun _ => 0), bObj g om am 0 0 0 0 0 0 0 (-1) 0 0 0 0, bArr g am (zf [m0, fun _ => 0, fun _ => 0, fun _ => 0, fun _ => 0, fun _ => 0, fun _ => 0, fun _ => 0]), [(oa, .inl (g.2 2, 1, .inr (.inl fz2_31)))]]) H := hP
    have hD : va_D A (List.flatten [bTape g ta ab 0 0 0 0 0 (-1) (fun _ => 0), bLog g go ar 0 0 (fun _ => 0), [(tt, .inr (8, [.ref ta, .ref td]))], bTown g td tda 0 0 0 20 6 50 0 1 (fun _ _ => 0), [(lt, .inr (2, [.ref ta, .ref ldr]))], bLaw g ldr lda 0 (-1) 0 0 0 (fun _ => 0), bMem g mo qT qL it il ig 0 0 0 fT fL, bTown g it ia 0 0 0 20 6 50 0 1 (fun _ _ => 0), bLaw g il ic 0 (-1) 0 0 0 (fun _ => 0), bLog g ig ir 0 0 (fun _ => 0), bTown g t0 ta0 0 0 0 20 6 50 0 1 (fun _ _ => 0), bLog g l0 la0 0 0 (fun _ => 0), bRid g ro af 0 0 (fun _ => 0), bObj g om am 0 0 0 0 0 0 0 (-1) 0 0 0 0, bArr g am (zf [m0, fun _ => 0, fun _ => 0, fun _ => 0, fun _ => 0, fun _ => 0, fun _ => 0, fun _ => 0]), [(oa, .inl (g.2 2, 1, .inr (.inl fz2_31)))]]) := hD
    refine W.widen (k := 248) (n := 14997) (Nat.le_of_ble_eq_true rfl) (Nat.le_of_ble_eq_true rfl) ?_
    refine W.eq (g2 := F0 m 1276 ls [.int r_30]) rfl ?_
    refine lv_istore (lv' := [(5, .int r_30), (4, .int 0), (3, .ref oa), (2, .ref om), (1, .ref x), (0, .ref b)]) hx hb dL_law__1276 hl (by decide) rfl (fun ls hl => ?_)
    refine lv_aload_n hx hb dL_law__1278 rfl (lv_at hl 3 rfl) ?_
    refine lv_aload_n hx hb dL_law__1279 rfl (lv_at hl 5 rfl) ?_
    refine lv_iload hx hb dL_law__1280 (lv_at hl 1 rfl) ?_
    refine lv_iconst (v := 1) hx hb dL_law__1282 (by decide) ?_
    refine lv_iadd hx hb dL_law__1283 ?_
    refine ztop (r := 1) (by decide) ?_
    refine va_sld hx hb hX hbl hbA hS (zin rfl) dL_law__1284 ?_
    refine ztop (r := xs 1) rfl ?_
    refine lv_aload_n hx hb dL_law__1285 rfl (lv_at hl 5 rfl) ?_
    refine lv_iload hx hb dL_law__1286 (lv_at hl 1 rfl) ?_
    refine lv_iconst (v := 2) hx hb dL_law__1288 (by decide) ?_
    refine lv_iadd hx hb dL_law__1289 ?_
    refine ztop (r := 2) (by decide) ?_
    refine va_sld hx hb hX hbl hbA hS (zin rfl) dL_law__1290 ?_
    refine ztop (r := xs 2) rfl ?_
    refine lv_if_eq (tgt := 1298) hx hb dL_law__1291 (by decide) (fun c34 => absurd c34 cZ) (fun _ => ?_)
    refine lv_iconst (v := 1) hx hb dL_law__1294 (by decide) ?_
    refine lv_goto (tgt := 1299) hx hb dL_law__1295 (by decide) ?_
    refine mcallV (g := g) (q0 := 0) (ci := 10) (As := [.int (xs 1), .int 1]) (rest := []) St hK hT hA hP hD hS hl.1 [13, 14] [0, 1, 2, 3, 4, 5, 6, 7, 8, 9, 10, 11, 12, 15] rfl rfl rfl (m_then l g om am 0 0 0 0 0 0 0 (-1) 0 0 0 0 (zf [m0, fun _ => 0, fun _ => 0, fun _ => 0, fun _ => 0, fun _ => 0, fun _ => 0, fun _ => 0]) (xs 1) 1 (by assumption)) (cwV 2 hts (zgL (zl4 k1399 k1400 k1401 k833) k1065) rfl rfl rfl (by decide +kernel) ⟨Nat.le_of_ble_eq_true rfl, Nat.le_of_ble_eq_true rfl⟩) rfl rfl rfl rfl (Nat.le_of_ble_eq_true rfl) dL_law__1299 ⟨(Nat.le_of_ble_eq_true rfl), (Nat.le_of_ble_eq_true rfl)⟩ (fun u_ H locs hq48 hP hD hS => ?_)
    obtain ⟨th2_35, hi2_36, ac2_37, tp2_38, ba2_39, en2_40, tA2_41, fl2_42, de2_43, iD2_44, iO2_45, tU2_46, q_47⟩ := u_
    have hq48 : (th2_35 = 1 ∧ (((xs 1) : Int32) < 0 ∨ 100 < ((xs 1) : Int32))) ∨ (th2_35 = 0 ∧ (¬ ((xs 1) : Int32) < 0 ∧ ¬ 100 < ((xs 1) : Int32)) ∧ q_47 = if 1 = 0 then 0 else 20) := hq48
    have hP : va_P g.1 vwCl (List.flatten [bTape g ta ab 0 0 0 0 0 (-1) (fun _ => 0), bLog g go ar 0 0 (fun _ => 0), [(tt, .inr (8, [.ref ta, .ref td]))], bTown g td tda 0 0 0 20 6 50 0 1 (fun _ _ => 0), [(lt, .inr (2, [.ref ta, .ref ldr]))], bLaw g ldr lda 0 (-1) 0 0 0 (fun _ => 0), bMem g mo qT qL it il ig 0 0 0 fT fL, bTown g it ia 0 0 0 20 6 50 0 1 (fun _ _ => 0), bLaw g il ic 0 (-1) 0 0 0 (fun _ => 0), bLog g ig ir 0 0 (fun _ => 0), bTown g t0 ta0 0 0 0 20 6 50 0 1 (fun _ _ => 0), bLog g l0 la0 0 0 (fun _ => 0), bRid g ro af 0 0 (fun _ => 0), [(oa, .inl (g.2 2, 1, .inr (.inl fz2_31)))], bObj g om am th2_35 hi2_36 ac2_37 tp2_38 ba2_39 en2_40 tA2_41 fl2_42 de2_43 iD2_44 iO2_45 tU2_46]) H := hP
    have hD : va_D A (List.flatten [bTape g ta ab 0 0 0 0 0 (-1) (fun _ => 0), bLog g go ar 0 0 (fun _ => 0), [(tt, .inr (8, [.ref ta, .ref td]))], bTown g td tda 0 0 0 20 6 50 0 1 (fun _ _ => 0), [(lt, .inr (2, [.ref ta, .ref ldr]))], bLaw g ldr lda 0 (-1) 0 0 0 (fun _ => 0), bMem g mo qT qL it il ig 0 0 0 fT fL, bTown g it ia 0 0 0 20 6 50 0 1 (fun _ _ => 0), bLaw g il ic 0 (-1) 0 0 0 (fun _ => 0), bLog g ig ir 0 0 (fun _ => 0), bTown g t0 ta0 0 0 0 20 6 50 0 1 (fun _ _ => 0), bLog g l0 la0 0 0 (fun _ => 0), bRid g ro af 0 0 (fun _ => 0), [(oa, .inl (g.2 2, 1, .inr (.inl fz2_31)))], bObj g om am th2_35 hi2_36 ac2_37 tp2_38 ba2_39 en2_40 tA2_41 fl2_42 de2_43 iD2_44 iO2_45 tU2_46]) := hD
    refine W.widen (k := 248) (n := 14997) (Nat.le_of_ble_eq_true rfl) (Nat.le_of_ble_eq_true rfl) ?_
    refine W.eq (g2 := F0 m 1302 ls [.int q_47]) rfl ?_
    rcases hq33 with ⟨hr9, hb9⟩ | ⟨hr9, hg9⟩
    · skip
      rcases hq48 with ⟨ht9, hB9⟩ | ⟨ht9, hG9⟩
      · skip
        subst hr9
        subst ht9
        refine lv_istore (lv' := [(6, .int q_47), (5, .int 1), (4, .int 0), (3, .ref oa), (2, .ref om), (1, .ref x), (0, .ref b)]) hx hb dL_law__1302 hl (by decide) rfl (fun ls hl => ?_)
        refine lv_aload_n hx hb dL_law__1304 rfl (lv_at hl 4 rfl) ?_
        refine mcallV (g := g) (q0 := 0) (ci := 10) (As := []) (rest := []) St hK hT hA hP hD hS hl.1 [14] [0, 1, 2, 3, 4, 5, 6, 7, 8, 9, 10, 11, 12, 13] rfl rfl rfl (m_thrown l g om am 1 hi2_36 ac2_37 tp2_38 ba2_39 en2_40 tA2_41 fl2_42 de2_43 iD2_44 iO2_45 tU2_46 ) (cwV 0 hts (zgL (zl4 k1317 k1318 k1319 k833) k824) rfl rfl rfl (by decide +kernel) ⟨Nat.le_of_ble_eq_true rfl, Nat.le_of_ble_eq_true rfl⟩) rfl rfl rfl rfl (Nat.le_of_ble_eq_true rfl) dL_law__1305 ⟨(Nat.le_of_ble_eq_true rfl), (Nat.le_of_ble_eq_true rfl)⟩ (fun _u H locs hq49 hP hD hS => ?_)
        have hP : va_P g.1 vwCl (List.flatten [bTape g ta ab 0 0 0 0 0 (-1) (fun _ => 0), bLog g go ar 0 0 (fun _ => 0), [(tt, .inr (8, [.ref ta, .ref td]))], bTown g td tda 0 0 0 20 6 50 0 1 (fun _ _ => 0), [(lt, .inr (2, [.ref ta, .ref ldr]))], bLaw g ldr lda 0 (-1) 0 0 0 (fun _ => 0), bMem g mo qT qL it il ig 0 0 0 fT fL, bTown g it ia 0 0 0 20 6 50 0 1 (fun _ _ => 0), bLaw g il ic 0 (-1) 0 0 0 (fun _ => 0), bLog g ig ir 0 0 (fun _ => 0), bTown g t0 ta0 0 0 0 20 6 50 0 1 (fun _ _ => 0), bLog g l0 la0 0 0 (fun _ => 0), bRid g ro af 0 0 (fun _ => 0), [(oa, .inl (g.2 2, 1, .inr (.inl fz2_31)))], bObj g om am 1 hi2_36 ac2_37 tp2_38 ba2_39 en2_40 tA2_41 fl2_42 de2_43 iD2_44 iO2_45 tU2_46]) H := hP
        have hD : va_D A (List.flatten [bTape g ta ab 0 0 0 0 0 (-1) (fun _ => 0), bLog g go ar 0 0 (fun _ => 0), [(tt, .inr (8, [.ref ta, .ref td]))], bTown g td tda 0 0 0 20 6 50 0 1 (fun _ _ => 0), [(lt, .inr (2, [.ref ta, .ref ldr]))], bLaw g ldr lda 0 (-1) 0 0 0 (fun _ => 0), bMem g mo qT qL it il ig 0 0 0 fT fL, bTown g it ia 0 0 0 20 6 50 0 1 (fun _ _ => 0), bLaw g il ic 0 (-1) 0 0 0 (fun _ => 0), bLog g ig ir 0 0 (fun _ => 0), bTown g t0 ta0 0 0 0 20 6 50 0 1 (fun _ _ => 0), bLog g l0 la0 0 0 (fun _ => 0), bRid g ro af 0 0 (fun _ => 0), [(oa, .inl (g.2 2, 1, .inr (.inl fz2_31)))], bObj g om am 1 hi2_36 ac2_37 tp2_38 ba2_39 en2_40 tA2_41 fl2_42 de2_43 iD2_44 iO2_45 tU2_46]) := hD
        refine W.widen (k := 248) (n := 14997) (Nat.le_of_ble_eq_true rfl) (Nat.le_of_ble_eq_true rfl) ?_
        refine W.eq (g2 := F0 m 1308 ls [.int 1]) rfl ?_
        refine lv_iload hx hb dL_law__1308 (lv_at hl 1 rfl) ?_
        refine lv_icmp_eq (tgt := 1315) hx hb dL_law__1310 (by decide) (fun _ => ?_) (fun c50 => absurd (by decide) c50)
        refine lv_iload hx hb dL_law__1315 (lv_at hl 1 rfl) ?_
        refine lv_if_ne (tgt := 1332) hx hb dL_law__1317 (by decide) (fun _ => ?_) (fun c51 => absurd c51 (by decide))
        refine lv_goto (tgt := 2738) hx hb dL_law__1332 (by decide) ?_
        refine lv_iinc (v := 6) (lv' := [(4, .int 6), (6, .int q_47), (5, .int 1), (3, .ref oa), (2, .ref om), (1, .ref x), (0, .ref b)]) hx hb dL_law__2738 hl (k := 2) rfl (by decide) (by decide) rfl (fun ls hl => ?_)
        refine lv_goto (tgt := 23) hx hb dL_law__2741 (by decide) ?_
        refine lv_iload hx hb dL_law__23 (lv_at hl 0 rfl) ?_
        refine lv_aload_n hx hb dL_law__25 rfl (lv_at hl 6 rfl) ?_
        refine va_slen hx hb hX hbl hbA hS dL_law__26 ?_
        refine ztop (r := 6) rfl ?_
        refine lv_bipush (v := 6) hx hb dL_law__27 (by decide) ?_
        refine lv_isub hx hb dL_law__29 ?_
        refine ztop (r := 0) (by decide) ?_
        refine lv_icmp_gt (tgt := 2744) hx hb dL_law__30 (by decide) (fun _ => ?_) (fun c52 => absurd (by decide) c52)
        refine lv_iconst (v := 1) hx hb dL_law__2744 (by decide) ?_
        refine va_forget (fun q hq => by have h9 := hS.2.2 q hq; rw [hAe] at h9; exact h9) ?_
        refine W.widen (k := 600002) (n := 7302232) (Nat.le_of_ble_eq_true rfl) (Nat.le_of_ble_eq_true rfl) ?_
        exact lw_ret hx hb hr hlocks dL_law__2745
      · skip
        exact (hb9.elim hG9.1.1 hG9.1.2).elim
    · skip
      rcases hq48 with ⟨ht9, hB9⟩ | ⟨ht9, hG9⟩
      · skip
        exact (hB9.elim hg9.1.1.1 hg9.1.1.2).elim
      · skip
        subst hr9
        subst ht9
        refine lv_istore (lv' := [(6, .int q_47), (5, .int 0), (4, .int 0), (3, .ref oa), (2, .ref om), (1, .ref x), (0, .ref b)]) hx hb dL_law__1302 hl (by decide) rfl (fun ls hl => ?_)
        refine lv_aload_n hx hb dL_law__1304 rfl (lv_at hl 4 rfl) ?_
        refine mcallV (g := g) (q0 := 0) (ci := 10) (As := []) (rest := []) St hK hT hA hP hD hS hl.1 [14] [0, 1, 2, 3, 4, 5, 6, 7, 8, 9, 10, 11, 12, 13] rfl rfl rfl (m_thrown l g om am 0 hi2_36 ac2_37 tp2_38 ba2_39 en2_40 tA2_41 fl2_42 de2_43 iD2_44 iO2_45 tU2_46 ) (cwV 0 hts (zgL (zl4 k1317 k1318 k1319 k833) k824) rfl rfl rfl (by decide +kernel) ⟨Nat.le_of_ble_eq_true rfl, Nat.le_of_ble_eq_true rfl⟩) rfl rfl rfl rfl (Nat.le_of_ble_eq_true rfl) dL_law__1305 ⟨(Nat.le_of_ble_eq_true rfl), (Nat.le_of_ble_eq_true rfl)⟩ (fun _u H locs hq53 hP hD hS => ?_)
        have hP : va_P g.1 vwCl (List.flatten [bTape g ta ab 0 0 0 0 0 (-1) (fun _ => 0), bLog g go ar 0 0 (fun _ => 0), [(tt, .inr (8, [.ref ta, .ref td]))], bTown g td tda 0 0 0 20 6 50 0 1 (fun _ _ => 0), [(lt, .inr (2, [.ref ta, .ref ldr]))], bLaw g ldr lda 0 (-1) 0 0 0 (fun _ => 0), bMem g mo qT qL it il ig 0 0 0 fT fL, bTown g it ia 0 0 0 20 6 50 0 1 (fun _ _ => 0), bLaw g il ic 0 (-1) 0 0 0 (fun _ => 0), bLog g ig ir 0 0 (fun _ => 0), bTown g t0 ta0 0 0 0 20 6 50 0 1 (fun _ _ => 0), bLog g l0 la0 0 0 (fun _ => 0), bRid g ro af 0 0 (fun _ => 0), [(oa, .inl (g.2 2, 1, .inr (.inl fz2_31)))], bObj g om am 0 hi2_36 ac2_37 tp2_38 ba2_39 en2_40 tA2_41 fl2_42 de2_43 iD2_44 iO2_45 tU2_46]) H := hP
        have hD : va_D A (List.flatten [bTape g ta ab 0 0 0 0 0 (-1) (fun _ => 0), bLog g go ar 0 0 (fun _ => 0), [(tt, .inr (8, [.ref ta, .ref td]))], bTown g td tda 0 0 0 20 6 50 0 1 (fun _ _ => 0), [(lt, .inr (2, [.ref ta, .ref ldr]))], bLaw g ldr lda 0 (-1) 0 0 0 (fun _ => 0), bMem g mo qT qL it il ig 0 0 0 fT fL, bTown g it ia 0 0 0 20 6 50 0 1 (fun _ _ => 0), bLaw g il ic 0 (-1) 0 0 0 (fun _ => 0), bLog g ig ir 0 0 (fun _ => 0), bTown g t0 ta0 0 0 0 20 6 50 0 1 (fun _ _ => 0), bLog g l0 la0 0 0 (fun _ => 0), bRid g ro af 0 0 (fun _ => 0), [(oa, .inl (g.2 2, 1, .inr (.inl fz2_31)))], bObj g om am 0 hi2_36 ac2_37 tp2_38 ba2_39 en2_40 tA2_41 fl2_42 de2_43 iD2_44 iO2_45 tU2_46]) := hD
        refine W.widen (k := 248) (n := 14997) (Nat.le_of_ble_eq_true rfl) (Nat.le_of_ble_eq_true rfl) ?_
        refine W.eq (g2 := F0 m 1308 ls [.int 0]) rfl ?_
        refine lv_iload hx hb dL_law__1308 (lv_at hl 1 rfl) ?_
        refine lv_icmp_eq (tgt := 1315) hx hb dL_law__1310 (by decide) (fun _ => ?_) (fun c54 => absurd (by decide) c54)
        refine lv_iload hx hb dL_law__1315 (lv_at hl 1 rfl) ?_
        refine lv_if_ne (tgt := 1332) hx hb dL_law__1317 (by decide) (fun c55 => absurd (by decide) c55) (fun _ => ?_)
        refine lv_aload_n hx hb dL_law__1320 rfl (lv_at hl 3 rfl) ?_
        refine lv_iconst (v := 0) hx hb dL_law__1321 (by decide) ?_
        refine va_lald hx hb hK hP 55 2 rfl rfl (zin rfl) dL_law__1322 ?_
        refine ztopl (r := fz2_31 0) rfl ?_
        refine lv_iload hx hb dL_law__1323 (lv_at hl 0 rfl) ?_
        refine lv_i2l (v := (q_47 : Int32).toInt64) hx hb dL_law__1325 rfl ?_
        refine W.lcmp hx hb dL_law__1326 ?_
        refine lv_if_eq (tgt := 1332) hx hb dL_law__1327 (by decide) (fun _ => ?_) (fun c56 => absurd (by rw [hg9.2, hg9.1.2, hG9.2]; exact lg_self _) c56)
        refine lv_goto (tgt := 2738) hx hb dL_law__1332 (by decide) ?_
        refine lv_iinc (v := 6) (lv' := [(4, .int 6), (6, .int q_47), (5, .int 0), (3, .ref oa), (2, .ref om), (1, .ref x), (0, .ref b)]) hx hb dL_law__2738 hl (k := 2) rfl (by decide) (by decide) rfl (fun ls hl => ?_)
        refine lv_goto (tgt := 23) hx hb dL_law__2741 (by decide) ?_
        refine lv_iload hx hb dL_law__23 (lv_at hl 0 rfl) ?_
        refine lv_aload_n hx hb dL_law__25 rfl (lv_at hl 6 rfl) ?_
        refine va_slen hx hb hX hbl hbA hS dL_law__26 ?_
        refine ztop (r := 6) rfl ?_
        refine lv_bipush (v := 6) hx hb dL_law__27 (by decide) ?_
        refine lv_isub hx hb dL_law__29 ?_
        refine ztop (r := 0) (by decide) ?_
        refine lv_icmp_gt (tgt := 2744) hx hb dL_law__30 (by decide) (fun _ => ?_) (fun c57 => absurd (by decide) c57)
        refine lv_iconst (v := 1) hx hb dL_law__2744 (by decide) ?_
        refine va_forget (fun q hq => by have h9 := hS.2.2 q hq; rw [hAe] at h9; exact h9) ?_
        refine W.widen (k := 600002) (n := 7302232) (Nat.le_of_ble_eq_true rfl) (Nat.le_of_ble_eq_true rfl) ?_
        exact lw_ret hx hb hr hlocks dL_law__2745
set_option maxRecDepth 100000 in
set_option maxHeartbeats 4000000 in
/-- the law: sways -/
theorem w_19 {p : Program} {e : Env} {s : State} {m : MethodId} {below : List Frame} {meth : Method} {c : Code} (l : Launch) (hfl : l.stackTraces = false) (g : zG) {b : Nat} {xs : Nat → Int32} {A : Nat → Prop} (hAe : A = fun q => s.heap.size ≤ q) (hA : ∀ q, s.heap.size ≤ q → A q) (hbA : ¬ A b) (St : CallFix p m c cL_law_ 7 s #[Value.ref b] zB RL) (hr : meth.sig.returnType = ret) (hlocks : meth.locks = false) (hX : va_X b 6 xs s s.heap) (hbl : b < s.heap.size) (hK : zK g s) (hT : zTh A s) (x : Nat) (ta : Nat) (o : Nat) (lo : Nat) (go : Nat) (tt : Nat) (lt : Nat) (mo : Nat) (fo : Nat) (ro : Nat) (ab : Nat) (ac : Nat) (ar : Nat) (td : Nat) (a : Nat → Nat) (tda : Nat → Nat) (ldr : Nat) (lda : Nat) (qT : Nat) (qL : Nat) (it : Nat) (il : Nat) (ig : Nat) (fT : Nat → Option Nat) (fL : Nat → Option Nat) (ia : Nat → Nat) (ic : Nat) (ir : Nat) (t0 : Nat) (ta0 : Nat → Nat) (l0 : Nat) (la0 : Nat) (od : Nat) (ad : Nat → Nat) (af : Nat) (om : Nat) (am : Nat → Nat) (m0 : Nat → Int32) (oa : Nat) (hT0 : fT 0 = some t0) (hL0 : fL 0 = some l0) (hm : zMo m0) (h8 : m0 8 = 0) (h10 : m0 10 = 1) (H : Heap) (locs : List Loc) (ls : Array Slot) (hP : va_P g.1 vwCl (List.flatten [bDR g x ta o lo go tt lt mo fo ro (-1), bTape g ta ab 0 0 0 0 0 (-1) (fun _ => 0), bTown g o a 0 0 0 20 6 50 0 1 (fun _ _ => 0), bLaw g lo ac 0 (-1) 0 0 0 (fun _ => 0), bLog g go ar 0 0 (fun _ => 0), [(tt, .inr (8, [.ref ta, .ref td]))], bTown g td tda 0 0 0 20 6 50 0 1 (fun _ _ => 0), [(lt, .inr (2, [.ref ta, .ref ldr]))], bLaw g ldr lda 0 (-1) 0 0 0 (fun _ => 0), bMem g mo qT qL it il ig 0 0 0 fT fL, bTown g it ia 0 0 0 20 6 50 0 1 (fun _ _ => 0), bLaw g il ic 0 (-1) 0 0 0 (fun _ => 0), bLog g ig ir 0 0 (fun _ => 0), bTown g t0 ta0 0 0 0 20 6 50 0 1 (fun _ _ => 0), bLog g l0 la0 0 0 (fun _ => 0), [(fo, .inr (0, [.ref o, .ref lo, .ref od]))], bTown g od ad 0 0 0 20 6 50 0 1 (fun _ _ => 0), bRid g ro af 0 0 (fun _ => 0), bObj g om am 0 0 0 0 0 0 0 (-1) 0 0 0 0, bArr g am (zf [m0, fun _ => 0, fun _ => 0, fun _ => 0, fun _ => 0, fun _ => 0, fun _ => 0, fun _ => 0]), [(oa, .inl (g.2 2, 1, .inr (.inl (fun _ => 0))))]]) H) (hD : va_D A (List.flatten [bDR g x ta o lo go tt lt mo fo ro (-1), bTape g ta ab 0 0 0 0 0 (-1) (fun _ => 0), bTown g o a 0 0 0 20 6 50 0 1 (fun _ _ => 0), bLaw g lo ac 0 (-1) 0 0 0 (fun _ => 0), bLog g go ar 0 0 (fun _ => 0), [(tt, .inr (8, [.ref ta, .ref td]))], bTown g td tda 0 0 0 20 6 50 0 1 (fun _ _ => 0), [(lt, .inr (2, [.ref ta, .ref ldr]))], bLaw g ldr lda 0 (-1) 0 0 0 (fun _ => 0), bMem g mo qT qL it il ig 0 0 0 fT fL, bTown g it ia 0 0 0 20 6 50 0 1 (fun _ _ => 0), bLaw g il ic 0 (-1) 0 0 0 (fun _ => 0), bLog g ig ir 0 0 (fun _ => 0), bTown g t0 ta0 0 0 0 20 6 50 0 1 (fun _ _ => 0), bLog g l0 la0 0 0 (fun _ => 0), [(fo, .inr (0, [.ref o, .ref lo, .ref od]))], bTown g od ad 0 0 0 20 6 50 0 1 (fun _ _ => 0), bRid g ro af 0 0 (fun _ => 0), bObj g om am 0 0 0 0 0 0 0 (-1) 0 0 0 0, bArr g am (zf [m0, fun _ => 0, fun _ => 0, fun _ => 0, fun _ => 0, fun _ => 0, fun _ => 0, fun _ => 0]), [(oa, .inl (g.2 2, 1, .inr (.inl (fun _ => 0))))]])) (hS : va_S A s.heap H locs) (hl : lv_has ls 7 [(4, .int 0), (3, .ref oa), (2, .ref om), (1, .ref x), (0, .ref b)]) : W p l e room_1 s m #[Value.ref b] below meth c H locs 247 14991 (lw_Z below #[Value.ref b] s) (F0 m 1335 ls []) := by
  obtain ⟨hx, hb, hml, hown, hts⟩ := id St
  have hz0 : zZ (fun _ => 0) := zZ0
  refine lv_aload_n hx hb dL_law__1335 rfl (lv_at hl 3 rfl) ?_
  refine lv_aload_n hx hb dL_law__1336 rfl (lv_at hl 4 rfl) ?_
  refine lv_iload hx hb dL_law__1337 (lv_at hl 0 rfl) ?_
  refine lv_iconst (v := 1) hx hb dL_law__1339 (by decide) ?_
  refine lv_iadd hx hb dL_law__1340 ?_
  refine ztop (r := 1) (by decide) ?_
  refine va_sld hx hb hX hbl hbA hS (zin rfl) dL_law__1341 ?_
  refine ztop (r := xs 1) rfl ?_
  refine lv_aload_n hx hb dL_law__1342 rfl (lv_at hl 4 rfl) ?_
  refine lv_iload hx hb dL_law__1343 (lv_at hl 0 rfl) ?_
  refine lv_iconst (v := 2) hx hb dL_law__1345 (by decide) ?_
  refine lv_iadd hx hb dL_law__1346 ?_
  refine ztop (r := 2) (by decide) ?_
  refine va_sld hx hb hX hbl hbA hS (zin rfl) dL_law__1347 ?_
  refine ztop (r := xs 2) rfl ?_
  refine lv_aload_n hx hb dL_law__1348 rfl (lv_at hl 1 rfl) ?_
  refine xcallSX (g := g) (As := [.ref x, .int (xs 1), .int (xs 2), .ref oa]) (rest := []) St hK hT hA hP hD hS hl.1 [0, 2, 20] [1, 3, 4, 5, 6, 7, 8, 9, 10, 11, 12, 13, 14, 15, 16, 17, 18, 19] rfl rfl rfl (l_sways l hfl g x ta o lo go tt lt mo fo ro (-1) o a 0 20 6 50 0 1 (fun _ _ => 0) (xs 1) (xs 2) oa (fun _ => 0) ) (vx_cwSW 4 hts (zgL (zl3 k1402 k1403 k1313) k1221) rfl rfl rfl (by decide +kernel) ⟨Nat.le_of_ble_eq_true rfl, Nat.le_of_ble_eq_true rfl⟩) rfl rfl (Nat.le_of_ble_eq_true rfl) dL_law__1349 ⟨(Nat.le_of_ble_eq_true rfl), (Nat.le_of_ble_eq_true rfl)⟩ (fun E ce q9 u9 H locs hpx hP hD hS hce hcv hcl => hpx.elim) (fun u_ H locs hq3 hP hD hS => ?_)
  obtain ⟨r_1, fz2_2⟩ := u_
  have hq3 : r_1 = 1 := hq3
  have hP : va_P g.1 vwCl (List.flatten [bTape g ta ab 0 0 0 0 0 (-1) (fun _ => 0), bLaw g lo ac 0 (-1) 0 0 0 (fun _ => 0), bLog g go ar 0 0 (fun _ => 0), [(tt, .inr (8, [.ref ta, .ref td]))], bTown g td tda 0 0 0 20 6 50 0 1 (fun _ _ => 0), [(lt, .inr (2, [.ref ta, .ref ldr]))], bLaw g ldr lda 0 (-1) 0 0 0 (fun _ => 0), bMem g mo qT qL it il ig 0 0 0 fT fL, bTown g it ia 0 0 0 20 6 50 0 1 (fun _ _ => 0), bLaw g il ic 0 (-1) 0 0 0 (fun _ => 0), bLog g ig ir 0 0 (fun _ => 0), bTown g t0 ta0 0 0 0 20 6 50 0 1 (fun _ _ => 0), bLog g l0 la0 0 0 (fun _ => 0), [(fo, .inr (0, [.ref o, .ref lo, .ref od]))], bTown g od ad 0 0 0 20 6 50 0 1 (fun _ _ => 0), bRid g ro af 0 0 (fun _ => 0), bObj g om am 0 0 0 0 0 0 0 (-1) 0 0 0 0, bArr g am (zf [m0, fun _ => 0, fun _ => 0, fun _ => 0, fun _ => 0, fun _ => 0, fun _ => 0, fun _ => 0]), [(oa, .inl (g.2 2, 1, .inr (.inl fz2_2)))]]) H := hP
  have hD : va_D A (List.flatten [bTape g ta ab 0 0 0 0 0 (-1) (fun _ => 0), bLaw g lo ac 0 (-1) 0 0 0 (fun _ => 0), bLog g go ar 0 0 (fun _ => 0), [(tt, .inr (8, [.ref ta, .ref td]))], bTown g td tda 0 0 0 20 6 50 0 1 (fun _ _ => 0), [(lt, .inr (2, [.ref ta, .ref ldr]))], bLaw g ldr lda 0 (-1) 0 0 0 (fun _ => 0), bMem g mo qT qL it il ig 0 0 0 fT fL, bTown g it ia 0 0 0 20 6 50 0 1 (fun _ _ => 0), bLaw g il ic 0 (-1) 0 0 0 (fun _ => 0), bLog g ig ir 0 0 (fun _ => 0), bTown g t0 ta0 0 0 0 20 6 50 0 1 (fun _ _ => 0), bLog g l0 la0 0 0 (fun _ => 0), [(fo, .inr (0, [.ref o, .ref lo, .ref od]))], bTown g od ad 0 0 0 20 6 50 0 1 (fun _ _ => 0), bRid g ro af 0 0 (fun _ => 0), bObj g om am 0 0 0 0 0 0 0 (-1) 0 0 0 0, bArr g am (zf [m0, fun _ => 0, fun _ => 0, fun _ => 0, fun _ => 0, fun _ => 0, fun _ => 0, fun _ => 0]), [(oa, .inl (g.2 2, 1, .inr (.inl fz2_2)))]]) := hD
  refine W.widen (k := 248) (n := 14997) (Nat.le_of_ble_eq_true rfl) (Nat.le_of_ble_eq_true rfl) ?_
  refine W.eq (g2 := F0 m 1352 ls [.int r_1]) rfl ?_
  subst hq3
  refine lv_istore (lv' := [(5, .int 1), (4, .int 0), (3, .ref oa), (2, .ref om), (1, .ref x), (0, .ref b)]) hx hb dL_law__1352 hl (by decide) rfl (fun ls hl => ?_)
  refine lv_aload_n hx hb dL_law__1354 rfl (lv_at hl 3 rfl) ?_
  refine lv_aload_n hx hb dL_law__1355 rfl (lv_at hl 5 rfl) ?_
  refine lv_iload hx hb dL_law__1356 (lv_at hl 1 rfl) ?_
  refine lv_iconst (v := 1) hx hb dL_law__1358 (by decide) ?_
  refine lv_iadd hx hb dL_law__1359 ?_
  refine ztop (r := 1) (by decide) ?_
  refine va_sld hx hb hX hbl hbA hS (zin rfl) dL_law__1360 ?_
  refine ztop (r := xs 1) rfl ?_
  refine lv_aload_n hx hb dL_law__1361 rfl (lv_at hl 5 rfl) ?_
  refine lv_iload hx hb dL_law__1362 (lv_at hl 1 rfl) ?_
  refine lv_iconst (v := 2) hx hb dL_law__1364 (by decide) ?_
  refine lv_iadd hx hb dL_law__1365 ?_
  refine ztop (r := 2) (by decide) ?_
  refine va_sld hx hb hX hbl hbA hS (zin rfl) dL_law__1366 ?_
  refine ztop (r := xs 2) rfl ?_
  refine mcallV (g := g) (q0 := 0) (ci := 10) (As := [.int (xs 1), .int (xs 2)]) (rest := []) St hK hT hA hP hD hS hl.1 [16, 17] [0, 1, 2, 3, 4, 5, 6, 7, 8, 9, 10, 11, 12, 13, 14, 15, 18] rfl rfl rfl (m_sways l g om am 0 0 0 0 0 0 0 (-1) 0 0 0 0 (zf [m0, fun _ => 0, fun _ => 0, fun _ => 0, fun _ => 0, fun _ => 0, fun _ => 0, fun _ => 0]) (xs 1) (xs 2) (by assumption)) (cwV 2 hts (zgL (zl4 k1404 k1405 k1406 k833) k1069) rfl rfl rfl (by decide +kernel) ⟨Nat.le_of_ble_eq_true rfl, Nat.le_of_ble_eq_true rfl⟩) rfl rfl rfl rfl (Nat.le_of_ble_eq_true rfl) dL_law__1367 ⟨(Nat.le_of_ble_eq_true rfl), (Nat.le_of_ble_eq_true rfl)⟩ (fun u_ H locs hq17 hP hD hS => ?_)
  obtain ⟨th2_4, hi2_5, ac2_6, tp2_7, ba2_8, en2_9, tA2_10, fl2_11, de2_12, iD2_13, iO2_14, tU2_15, q_16⟩ := u_
  have hq17 : th2_4 = 1 := hq17
  have hP : va_P g.1 vwCl (List.flatten [bTape g ta ab 0 0 0 0 0 (-1) (fun _ => 0), bLaw g lo ac 0 (-1) 0 0 0 (fun _ => 0), bLog g go ar 0 0 (fun _ => 0), [(tt, .inr (8, [.ref ta, .ref td]))], bTown g td tda 0 0 0 20 6 50 0 1 (fun _ _ => 0), [(lt, .inr (2, [.ref ta, .ref ldr]))], bLaw g ldr lda 0 (-1) 0 0 0 (fun _ => 0), bMem g mo qT qL it il ig 0 0 0 fT fL, bTown g it ia 0 0 0 20 6 50 0 1 (fun _ _ => 0), bLaw g il ic 0 (-1) 0 0 0 (fun _ => 0), bLog g ig ir 0 0 (fun _ => 0), bTown g t0 ta0 0 0 0 20 6 50 0 1 (fun _ _ => 0), bLog g l0 la0 0 0 (fun _ => 0), [(fo, .inr (0, [.ref o, .ref lo, .ref od]))], bTown g od ad 0 0 0 20 6 50 0 1 (fun _ _ => 0), bRid g ro af 0 0 (fun _ => 0), [(oa, .inl (g.2 2, 1, .inr (.inl fz2_2)))], bObj g om am th2_4 hi2_5 ac2_6 tp2_7 ba2_8 en2_9 tA2_10 fl2_11 de2_12 iD2_13 iO2_14 tU2_15]) H := hP
  have hD : va_D A (List.flatten [bTape g ta ab 0 0 0 0 0 (-1) (fun _ => 0), bLaw g lo ac 0 (-1) 0 0 0 (fun _ => 0), bLog g go ar 0 0 (fun _ => 0), [(tt, .inr (8, [.ref ta, .ref td]))], bTown g td tda 0 0 0 20 6 50 0 1 (fun _ _ => 0), [(lt, .inr (2, [.ref ta, .ref ldr]))], bLaw g ldr lda 0 (-1) 0 0 0 (fun _ => 0), bMem g mo qT qL it il ig 0 0 0 fT fL, bTown g it ia 0 0 0 20 6 50 0 1 (fun _ _ => 0), bLaw g il ic 0 (-1) 0 0 0 (fun _ => 0), bLog g ig ir 0 0 (fun _ => 0), bTown g t0 ta0 0 0 0 20 6 50 0 1 (fun _ _ => 0), bLog g l0 la0 0 0 (fun _ => 0), [(fo, .inr (0, [.ref o, .ref lo, .ref od]))], bTown g od ad 0 0 0 20 6 50 0 1 (fun _ _ => 0), bRid g ro af 0 0 (fun _ => 0), [(oa, .inl (g.2 2, 1, .inr (.inl fz2_2)))], bObj g om am th2_4 hi2_5 ac2_6 tp2_7 ba2_8 en2_9 tA2_10 fl2_11 de2_12 iD2_13 iO2_14 tU2_15]) := hD
  refine W.widen (k := 248) (n := 14997) (Nat.le_of_ble_eq_true rfl) (Nat.le_of_ble_eq_true rfl) ?_
  refine W.eq (g2 := F0 m 1370 ls [.int q_16]) rfl ?_
  subst hq17
  refine lv_istore (lv' := [(6, .int q_16), (5, .int 1), (4, .int 0), (3, .ref oa), (2, .ref om), (1, .ref x), (0, .ref b)]) hx hb dL_law__1370 hl (by decide) rfl (fun ls hl => ?_)
  refine lv_aload_n hx hb dL_law__1372 rfl (lv_at hl 4 rfl) ?_
  refine mcallV (g := g) (q0 := 0) (ci := 10) (As := []) (rest := []) St hK hT hA hP hD hS hl.1 [17] [0, 1, 2, 3, 4, 5, 6, 7, 8, 9, 10, 11, 12, 13, 14, 15, 16] rfl rfl rfl (m_thrown l g om am 1 hi2_5 ac2_6 tp2_7 ba2_8 en2_9 tA2_10 fl2_11 de2_12 iD2_13 iO2_14 tU2_15 ) (cwV 0 hts (zgL (zl4 k1317 k1318 k1319 k833) k824) rfl rfl rfl (by decide +kernel) ⟨Nat.le_of_ble_eq_true rfl, Nat.le_of_ble_eq_true rfl⟩) rfl rfl rfl rfl (Nat.le_of_ble_eq_true rfl) dL_law__1373 ⟨(Nat.le_of_ble_eq_true rfl), (Nat.le_of_ble_eq_true rfl)⟩ (fun _u H locs hq18 hP hD hS => ?_)
  have hP : va_P g.1 vwCl (List.flatten [bTape g ta ab 0 0 0 0 0 (-1) (fun _ => 0), bLaw g lo ac 0 (-1) 0 0 0 (fun _ => 0), bLog g go ar 0 0 (fun _ => 0), [(tt, .inr (8, [.ref ta, .ref td]))], bTown g td tda 0 0 0 20 6 50 0 1 (fun _ _ => 0), [(lt, .inr (2, [.ref ta, .ref ldr]))], bLaw g ldr lda 0 (-1) 0 0 0 (fun _ => 0), bMem g mo qT qL it il ig 0 0 0 fT fL, bTown g it ia 0 0 0 20 6 50 0 1 (fun _ _ => 0), bLaw g il ic 0 (-1) 0 0 0 (fun _ => 0), bLog g ig ir 0 0 (fun _ => 0), bTown g t0 ta0 0 0 0 20 6 50 0 1 (fun _ _ => 0), bLog g l0 la0 0 0 (fun _ => 0), [(fo, .inr (0, [.ref o, .ref lo, .ref od]))], bTown g od ad 0 0 0 20 6 50 0 1 (fun _ _ => 0), bRid g ro af 0 0 (fun _ => 0), [(oa, .inl (g.2 2, 1, .inr (.inl fz2_2)))], bObj g om am 1 hi2_5 ac2_6 tp2_7 ba2_8 en2_9 tA2_10 fl2_11 de2_12 iD2_13 iO2_14 tU2_15]) H := hP
  have hD : va_D A (List.flatten [bTape g ta ab 0 0 0 0 0 (-1) (fun _ => 0), bLaw g lo ac 0 (-1) 0 0 0 (fun _ => 0), bLog g go ar 0 0 (fun _ => 0), [(tt, .inr (8, [.ref ta, .ref td]))], bTown g td tda 0 0 0 20 6 50 0 1 (fun _ _ => 0), [(lt, .inr (2, [.ref ta, .ref ldr]))], bLaw g ldr lda 0 (-1) 0 0 0 (fun _ => 0), bMem g mo qT qL it il ig 0 0 0 fT fL, bTown g it ia 0 0 0 20 6 50 0 1 (fun _ _ => 0), bLaw g il ic 0 (-1) 0 0 0 (fun _ => 0), bLog g ig ir 0 0 (fun _ => 0), bTown g t0 ta0 0 0 0 20 6 50 0 1 (fun _ _ => 0), bLog g l0 la0 0 0 (fun _ => 0), [(fo, .inr (0, [.ref o, .ref lo, .ref od]))], bTown g od ad 0 0 0 20 6 50 0 1 (fun _ _ => 0), bRid g ro af 0 0 (fun _ => 0), [(oa, .inl (g.2 2, 1, .inr (.inl fz2_2)))], bObj g om am 1 hi2_5 ac2_6 tp2_7 ba2_8 en2_9 tA2_10 fl2_11 de2_12 iD2_13 iO2_14 tU2_15]) := hD
  refine W.widen (k := 248) (n := 14997) (Nat.le_of_ble_eq_true rfl) (Nat.le_of_ble_eq_true rfl) ?_
  refine W.eq (g2 := F0 m 1376 ls [.int 1]) rfl ?_
  refine lv_iload hx hb dL_law__1376 (lv_at hl 1 rfl) ?_
  refine lv_icmp_eq (tgt := 1383) hx hb dL_law__1378 (by decide) (fun _ => ?_) (fun c19 => absurd (by decide) c19)
  refine lv_iload hx hb dL_law__1383 (lv_at hl 1 rfl) ?_
  refine lv_if_ne (tgt := 1400) hx hb dL_law__1385 (by decide) (fun _ => ?_) (fun c20 => absurd c20 (by decide))
  refine lv_goto (tgt := 2738) hx hb dL_law__1400 (by decide) ?_
  refine lv_iinc (v := 6) (lv' := [(4, .int 6), (6, .int q_16), (5, .int 1), (3, .ref oa), (2, .ref om), (1, .ref x), (0, .ref b)]) hx hb dL_law__2738 hl (k := 2) rfl (by decide) (by decide) rfl (fun ls hl => ?_)
  refine lv_goto (tgt := 23) hx hb dL_law__2741 (by decide) ?_
  refine lv_iload hx hb dL_law__23 (lv_at hl 0 rfl) ?_
  refine lv_aload_n hx hb dL_law__25 rfl (lv_at hl 6 rfl) ?_
  refine va_slen hx hb hX hbl hbA hS dL_law__26 ?_
  refine ztop (r := 6) rfl ?_
  refine lv_bipush (v := 6) hx hb dL_law__27 (by decide) ?_
  refine lv_isub hx hb dL_law__29 ?_
  refine ztop (r := 0) (by decide) ?_
  refine lv_icmp_gt (tgt := 2744) hx hb dL_law__30 (by decide) (fun _ => ?_) (fun c21 => absurd (by decide) c21)
  refine lv_iconst (v := 1) hx hb dL_law__2744 (by decide) ?_
  refine va_forget (fun q hq => by have h9 := hS.2.2 q hq; rw [hAe] at h9; exact h9) ?_
  refine W.widen (k := 600002) (n := 7302232) (Nat.le_of_ble_eq_true rfl) (Nat.le_of_ble_eq_true rfl) ?_
  exact lw_ret hx hb hr hlocks dL_law__2745
set_option maxRecDepth 100000 in
set_option maxHeartbeats 4000000 in
/-- the law: guru -/
theorem w_20 {p : Program} {e : Env} {s : State} {m : MethodId} {below : List Frame} {meth : Method} {c : Code} (l : Launch) (hfl : l.stackTraces = false) (g : zG) {b : Nat} {xs : Nat → Int32} {A : Nat → Prop} (hAe : A = fun q => s.heap.size ≤ q) (hA : ∀ q, s.heap.size ≤ q → A q) (hbA : ¬ A b) (St : CallFix p m c cL_law_ 7 s #[Value.ref b] zB RL) (hr : meth.sig.returnType = ret) (hlocks : meth.locks = false) (hX : va_X b 6 xs s s.heap) (hbl : b < s.heap.size) (hK : zK g s) (hT : zTh A s) (x : Nat) (ta : Nat) (o : Nat) (lo : Nat) (go : Nat) (tt : Nat) (lt : Nat) (mo : Nat) (fo : Nat) (ro : Nat) (ab : Nat) (ac : Nat) (ar : Nat) (td : Nat) (a : Nat → Nat) (tda : Nat → Nat) (ldr : Nat) (lda : Nat) (qT : Nat) (qL : Nat) (it : Nat) (il : Nat) (ig : Nat) (fT : Nat → Option Nat) (fL : Nat → Option Nat) (ia : Nat → Nat) (ic : Nat) (ir : Nat) (t0 : Nat) (ta0 : Nat → Nat) (l0 : Nat) (la0 : Nat) (od : Nat) (ad : Nat → Nat) (af : Nat) (om : Nat) (am : Nat → Nat) (m0 : Nat → Int32) (oa : Nat) (hT0 : fT 0 = some t0) (hL0 : fL 0 = some l0) (hm : zMo m0) (h8 : m0 8 = 0) (h10 : m0 10 = 1) (H : Heap) (locs : List Loc) (ls : Array Slot) (hP : va_P g.1 vwCl (List.flatten [bDR g x ta o lo go tt lt mo fo ro (-1), bTape g ta ab 0 0 0 0 0 (-1) (fun _ => 0), bTown g o a 0 0 0 20 6 50 0 1 (fun _ _ => 0), bLaw g lo ac 0 (-1) 0 0 0 (fun _ => 0), bLog g go ar 0 0 (fun _ => 0), [(tt, .inr (8, [.ref ta, .ref td]))], bTown g td tda 0 0 0 20 6 50 0 1 (fun _ _ => 0), [(lt, .inr (2, [.ref ta, .ref ldr]))], bLaw g ldr lda 0 (-1) 0 0 0 (fun _ => 0), bMem g mo qT qL it il ig 0 0 0 fT fL, bTown g it ia 0 0 0 20 6 50 0 1 (fun _ _ => 0), bLaw g il ic 0 (-1) 0 0 0 (fun _ => 0), bLog g ig ir 0 0 (fun _ => 0), bTown g t0 ta0 0 0 0 20 6 50 0 1 (fun _ _ => 0), bLog g l0 la0 0 0 (fun _ => 0), [(fo, .inr (0, [.ref o, .ref lo, .ref od]))], bTown g od ad 0 0 0 20 6 50 0 1 (fun _ _ => 0), bRid g ro af 0 0 (fun _ => 0), bObj g om am 0 0 0 0 0 0 0 (-1) 0 0 0 0, bArr g am (zf [m0, fun _ => 0, fun _ => 0, fun _ => 0, fun _ => 0, fun _ => 0, fun _ => 0, fun _ => 0]), [(oa, .inl (g.2 2, 1, .inr (.inl (fun _ => 0))))]]) H) (hD : va_D A (List.flatten [bDR g x ta o lo go tt lt mo fo ro (-1), bTape g ta ab 0 0 0 0 0 (-1) (fun _ => 0), bTown g o a 0 0 0 20 6 50 0 1 (fun _ _ => 0), bLaw g lo ac 0 (-1) 0 0 0 (fun _ => 0), bLog g go ar 0 0 (fun _ => 0), [(tt, .inr (8, [.ref ta, .ref td]))], bTown g td tda 0 0 0 20 6 50 0 1 (fun _ _ => 0), [(lt, .inr (2, [.ref ta, .ref ldr]))], bLaw g ldr lda 0 (-1) 0 0 0 (fun _ => 0), bMem g mo qT qL it il ig 0 0 0 fT fL, bTown g it ia 0 0 0 20 6 50 0 1 (fun _ _ => 0), bLaw g il ic 0 (-1) 0 0 0 (fun _ => 0), bLog g ig ir 0 0 (fun _ => 0), bTown g t0 ta0 0 0 0 20 6 50 0 1 (fun _ _ => 0), bLog g l0 la0 0 0 (fun _ => 0), [(fo, .inr (0, [.ref o, .ref lo, .ref od]))], bTown g od ad 0 0 0 20 6 50 0 1 (fun _ _ => 0), bRid g ro af 0 0 (fun _ => 0), bObj g om am 0 0 0 0 0 0 0 (-1) 0 0 0 0, bArr g am (zf [m0, fun _ => 0, fun _ => 0, fun _ => 0, fun _ => 0, fun _ => 0, fun _ => 0, fun _ => 0]), [(oa, .inl (g.2 2, 1, .inr (.inl (fun _ => 0))))]])) (hS : va_S A s.heap H locs) (hl : lv_has ls 7 [(4, .int 0), (3, .ref oa), (2, .ref om), (1, .ref x), (0, .ref b)]) : W p l e room_1 s m #[Value.ref b] below meth c H locs 247 14991 (lw_Z below #[Value.ref b] s) (F0 m 1403 ls []) := by
  obtain ⟨hx, hb, hml, hown, hts⟩ := id St
  have hz0 : zZ (fun _ => 0) := zZ0
  refine lv_aload_n hx hb dL_law__1403 rfl (lv_at hl 3 rfl) ?_
  refine lv_aload_n hx hb dL_law__1404 rfl (lv_at hl 4 rfl) ?_
  refine lv_iload hx hb dL_law__1405 (lv_at hl 0 rfl) ?_
  refine lv_iconst (v := 1) hx hb dL_law__1407 (by decide) ?_
  refine lv_iadd hx hb dL_law__1408 ?_
  refine ztop (r := 1) (by decide) ?_
  refine va_sld hx hb hX hbl hbA hS (zin rfl) dL_law__1409 ?_
  refine ztop (r := xs 1) rfl ?_
  refine lv_aload_n hx hb dL_law__1410 rfl (lv_at hl 1 rfl) ?_
  refine xcallSX (g := g) (As := [.ref x, .int (xs 1), .ref oa]) (rest := []) St hK hT hA hP hD hS hl.1 [0, 2, 15, 3, 16, 20] [1, 4, 5, 6, 7, 8, 9, 10, 11, 12, 13, 14, 17, 18, 19] rfl rfl rfl (l_guru l hfl g x ta o lo go tt lt mo fo ro (-1) a 0 20 6 50 0 1 (fun _ _ => 0) ac 0 (-1) 0 0 0 (fun _ => 0) od ad 0 0 0 20 6 50 0 1 (fun _ _ => 0) (xs 1) oa (fun _ => 0) (by assumption)) (vx_cwSW 3 hts (zgL (zl3 k1407 k1408 k1313) k1225) rfl rfl rfl (by decide +kernel) ⟨Nat.le_of_ble_eq_true rfl, Nat.le_of_ble_eq_true rfl⟩) rfl rfl (Nat.le_of_ble_eq_true rfl) dL_law__1411 ⟨(Nat.le_of_ble_eq_true rfl), (Nat.le_of_ble_eq_true rfl)⟩ (fun E ce q9 u9 H locs hpx hP hD hS hce hcv hcl => hpx.elim) (fun u_ H locs hq3 hP hD hS => ?_)
  obtain ⟨r_1, fz2_2⟩ := u_
  have hq3 : (r_1 = 1 ∧ ((xs 1) < 0 ∨ 30 < (xs 1))) ∨ (r_1 = 0 ∧ (¬ (xs 1) < 0 ∧ ¬ 30 < (xs 1)) ∧ fz2_2 0 = ((-1) : Int32).toInt64) := hq3
  have hP : va_P g.1 vwCl (List.flatten [bTape g ta ab 0 0 0 0 0 (-1) (fun _ => 0), bLog g go ar 0 0 (fun _ => 0), [(tt, .inr (8, [.ref ta, .ref td]))], bTown g td tda 0 0 0 20 6 50 0 1 (fun _ _ => 0), [(lt, .inr (2, [.ref ta, .ref ldr]))], bLaw g ldr lda 0 (-1) 0 0 0 (fun _ => 0), bMem g mo qT qL it il ig 0 0 0 fT fL, bTown g it ia 0 0 0 20 6 50 0 1 (fun _ _ => 0), bLaw g il ic 0 (-1) 0 0 0 (fun _ => 0), bLog g ig ir 0 0 (fun _ => 0), bTown g t0 ta0 0 0 0 20 6 50 0 1 (fun _ _ => 0), bLog g l0 la0 0 0 (fun _ => 0), bRid g ro af 0 0 (fun _ => 0), bObj g om am 0 0 0 0 0 0 0 (-1) 0 0 0 0, bArr g am (zf [m0, fun _ => 0, fun _ => 0, fun _ => 0, fun _ => 0, fun _ => 0, fun _ => 0, fun _ => 0]), [(oa, .inl (g.2 2, 1, .inr (.inl fz2_2)))]]) H := hP
  have hD : va_D A (List.flatten [bTape g ta ab 0 0 0 0 0 (-1) (fun _ => 0), bLog g go ar 0 0 (fun _ => 0), [(tt, .inr (8, [.ref ta, .ref td]))], bTown g td tda 0 0 0 20 6 50 0 1 (fun _ _ => 0), [(lt, .inr (2, [.ref ta, .ref ldr]))], bLaw g ldr lda 0 (-1) 0 0 0 (fun _ => 0), bMem g mo qT qL it il ig 0 0 0 fT fL, bTown g it ia 0 0 0 20 6 50 0 1 (fun _ _ => 0), bLaw g il ic 0 (-1) 0 0 0 (fun _ => 0), bLog g ig ir 0 0 (fun _ => 0), bTown g t0 ta0 0 0 0 20 6 50 0 1 (fun _ _ => 0), bLog g l0 la0 0 0 (fun _ => 0), bRid g ro af 0 0 (fun _ => 0), bObj g om am 0 0 0 0 0 0 0 (-1) 0 0 0 0, bArr g am (zf [m0, fun _ => 0, fun _ => 0, fun _ => 0, fun _ => 0, fun _ => 0, fun _ => 0, fun _ => 0]), [(oa, .inl (g.2 2, 1, .inr (.inl fz2_2)))]]) := hD
  refine W.widen (k := 248) (n := 14997) (Nat.le_of_ble_eq_true rfl) (Nat.le_of_ble_eq_true rfl) ?_
  refine W.eq (g2 := F0 m 1414 ls [.int r_1]) rfl ?_
  refine lv_istore (lv' := [(5, .int r_1), (4, .int 0), (3, .ref oa), (2, .ref om), (1, .ref x), (0, .ref b)]) hx hb dL_law__1414 hl (by decide) rfl (fun ls hl => ?_)
  refine lv_aload_n hx hb dL_law__1416 rfl (lv_at hl 3 rfl) ?_
  refine lv_aload_n hx hb dL_law__1417 rfl (lv_at hl 5 rfl) ?_
  refine lv_iload hx hb dL_law__1418 (lv_at hl 1 rfl) ?_
  refine lv_iconst (v := 1) hx hb dL_law__1420 (by decide) ?_
  refine lv_iadd hx hb dL_law__1421 ?_
  refine ztop (r := 1) (by decide) ?_
  refine va_sld hx hb hX hbl hbA hS (zin rfl) dL_law__1422 ?_
  refine ztop (r := xs 1) rfl ?_
  refine mcallV (g := g) (q0 := 0) (ci := 10) (As := [.int (xs 1)]) (rest := []) St hK hT hA hP hD hS hl.1 [13, 14] [0, 1, 2, 3, 4, 5, 6, 7, 8, 9, 10, 11, 12, 15] rfl rfl rfl (m_guru l g om am 0 0 0 0 0 0 0 (-1) 0 0 0 0 (zf [m0, fun _ => 0, fun _ => 0, fun _ => 0, fun _ => 0, fun _ => 0, fun _ => 0, fun _ => 0]) (xs 1) (by assumption)) (cwV 1 hts (zgL (zl4 k1409 k1410 k1411 k833) k1070) rfl rfl rfl (by decide +kernel) ⟨Nat.le_of_ble_eq_true rfl, Nat.le_of_ble_eq_true rfl⟩) rfl rfl rfl rfl (Nat.le_of_ble_eq_true rfl) dL_law__1423 ⟨(Nat.le_of_ble_eq_true rfl), (Nat.le_of_ble_eq_true rfl)⟩ (fun u_ H locs hq17 hP hD hS => ?_)
  obtain ⟨th2_4, hi2_5, ac2_6, tp2_7, ba2_8, en2_9, tA2_10, fl2_11, de2_12, iD2_13, iO2_14, tU2_15, q_16⟩ := u_
  have hq17 : (th2_4 = 1 ∧ (((xs 1) : Int32) < 0 ∨ 30 < ((xs 1) : Int32))) ∨ (th2_4 = 0 ∧ (¬ ((xs 1) : Int32) < 0 ∧ ¬ 30 < ((xs 1) : Int32)) ∧ q_16 = -1) := hq17
  have hP : va_P g.1 vwCl (List.flatten [bTape g ta ab 0 0 0 0 0 (-1) (fun _ => 0), bLog g go ar 0 0 (fun _ => 0), [(tt, .inr (8, [.ref ta, .ref td]))], bTown g td tda 0 0 0 20 6 50 0 1 (fun _ _ => 0), [(lt, .inr (2, [.ref ta, .ref ldr]))], bLaw g ldr lda 0 (-1) 0 0 0 (fun _ => 0), bMem g mo qT qL it il ig 0 0 0 fT fL, bTown g it ia 0 0 0 20 6 50 0 1 (fun _ _ => 0), bLaw g il ic 0 (-1) 0 0 0 (fun _ => 0), bLog g ig ir 0 0 (fun _ => 0), bTown g t0 ta0 0 0 0 20 6 50 0 1 (fun _ _ => 0), bLog g l0 la0 0 0 (fun _ => 0), bRid g ro af 0 0 (fun _ => 0), [(oa, .inl (g.2 2, 1, .inr (.inl fz2_2)))], bObj g om am th2_4 hi2_5 ac2_6 tp2_7 ba2_8 en2_9 tA2_10 fl2_11 de2_12 iD2_13 iO2_14 tU2_15]) H := hP
  have hD : va_D A (List.flatten [bTape g ta ab 0 0 0 0 0 (-1) (fun _ => 0), bLog g go ar 0 0 (fun _ => 0), [(tt, .inr (8, [.ref ta, .ref td]))], bTown g td tda 0 0 0 20 6 50 0 1 (fun _ _ => 0), [(lt, .inr (2, [.ref ta, .ref ldr]))], bLaw g ldr lda 0 (-1) 0 0 0 (fun _ => 0), bMem g mo qT qL it il ig 0 0 0 fT fL, bTown g it ia 0 0 0 20 6 50 0 1 (fun _ _ => 0), bLaw g il ic 0 (-1) 0 0 0 (fun _ => 0), bLog g ig ir 0 0 (fun _ => 0), bTown g t0 ta0 0 0 0 20 6 50 0 1 (fun _ _ => 0), bLog g l0 la0 0 0 (fun _ => 0), bRid g ro af 0 0 (fun _ => 0), [(oa, .inl (g.2 2, 1, .inr (.inl fz2_2)))], bObj g om am th2_4 hi2_5 ac2_6 tp2_7 ba2_8 en2_9 tA2_10 fl2_11 de2_12 iD2_13 iO2_14 tU2_15]) := hD
  refine W.widen (k := 248) (n := 14997) (Nat.le_of_ble_eq_true rfl) (Nat.le_of_ble_eq_true rfl) ?_
  refine W.eq (g2 := F0 m 1426 ls [.int q_16]) rfl ?_
  rcases hq3 with ⟨hr9, hb9⟩ | ⟨hr9, hg9⟩
  · skip
    rcases hq17 with ⟨ht9, hB9⟩ | ⟨ht9, hG9⟩
    · skip
      subst hr9
      subst ht9
      refine lv_istore (lv' := [(6, .int q_16), (5, .int 1), (4, .int 0), (3, .ref oa), (2, .ref om), (1, .ref x), (0, .ref b)]) hx hb dL_law__1426 hl (by decide) rfl (fun ls hl => ?_)
      refine lv_aload_n hx hb dL_law__1428 rfl (lv_at hl 4 rfl) ?_
      refine mcallV (g := g) (q0 := 0) (ci := 10) (As := []) (rest := []) St hK hT hA hP hD hS hl.1 [14] [0, 1, 2, 3, 4, 5, 6, 7, 8, 9, 10, 11, 12, 13] rfl rfl rfl (m_thrown l g om am 1 hi2_5 ac2_6 tp2_7 ba2_8 en2_9 tA2_10 fl2_11 de2_12 iD2_13 iO2_14 tU2_15 ) (cwV 0 hts (zgL (zl4 k1317 k1318 k1319 k833) k824) rfl rfl rfl (by decide +kernel) ⟨Nat.le_of_ble_eq_true rfl, Nat.le_of_ble_eq_true rfl⟩) rfl rfl rfl rfl (Nat.le_of_ble_eq_true rfl) dL_law__1429 ⟨(Nat.le_of_ble_eq_true rfl), (Nat.le_of_ble_eq_true rfl)⟩ (fun _u H locs hq18 hP hD hS => ?_)
      have hP : va_P g.1 vwCl (List.flatten [bTape g ta ab 0 0 0 0 0 (-1) (fun _ => 0), bLog g go ar 0 0 (fun _ => 0), [(tt, .inr (8, [.ref ta, .ref td]))], bTown g td tda 0 0 0 20 6 50 0 1 (fun _ _ => 0), [(lt, .inr (2, [.ref ta, .ref ldr]))], bLaw g ldr lda 0 (-1) 0 0 0 (fun _ => 0), bMem g mo qT qL it il ig 0 0 0 fT fL, bTown g it ia 0 0 0 20 6 50 0 1 (fun _ _ => 0), bLaw g il ic 0 (-1) 0 0 0 (fun _ => 0), bLog g ig ir 0 0 (fun _ => 0), bTown g t0 ta0 0 0 0 20 6 50 0 1 (fun _ _ => 0), bLog g l0 la0 0 0 (fun _ => 0), bRid g ro af 0 0 (fun _ => 0), [(oa, .inl (g.2 2, 1, .inr (.inl fz2_2)))], bObj g om am 1 hi2_5 ac2_6 tp2_7 ba2_8 en2_9 tA2_10 fl2_11 de2_12 iD2_13 iO2_14 tU2_15]) H := hP
      have hD : va_D A (List.flatten [bTape g ta ab 0 0 0 0 0 (-1) (fun _ => 0), bLog g go ar 0 0 (fun _ => 0), [(tt, .inr (8, [.ref ta, .ref td]))], bTown g td tda 0 0 0 20 6 50 0 1 (fun _ _ => 0), [(lt, .inr (2, [.ref ta, .ref ldr]))], bLaw g ldr lda 0 (-1) 0 0 0 (fun _ => 0), bMem g mo qT qL it il ig 0 0 0 fT fL, bTown g it ia 0 0 0 20 6 50 0 1 (fun _ _ => 0), bLaw g il ic 0 (-1) 0 0 0 (fun _ => 0), bLog g ig ir 0 0 (fun _ => 0), bTown g t0 ta0 0 0 0 20 6 50 0 1 (fun _ _ => 0), bLog g l0 la0 0 0 (fun _ => 0), bRid g ro af 0 0 (fun _ => 0), [(oa, .inl (g.2 2, 1, .inr (.inl fz2_2)))], bObj g om am 1 hi2_5 ac2_6 tp2_7 ba2_8 en2_9 tA2_10 fl2_11 de2_12 iD2_13 iO2_14 tU2_15]) := hD
      refine W.widen (k := 248) (n := 14997) (Nat.le_of_ble_eq_true rfl) (Nat.le_of_ble_eq_true rfl) ?_
      refine W.eq (g2 := F0 m 1432 ls [.int 1]) rfl ?_
      refine lv_iload hx hb dL_law__1432 (lv_at hl 1 rfl) ?_
      refine lv_icmp_eq (tgt := 1439) hx hb dL_law__1434 (by decide) (fun _ => ?_) (fun c19 => absurd (by decide) c19)
      refine lv_iload hx hb dL_law__1439 (lv_at hl 1 rfl) ?_
      refine lv_if_ne (tgt := 1456) hx hb dL_law__1441 (by decide) (fun _ => ?_) (fun c20 => absurd c20 (by decide))
      refine lv_goto (tgt := 2738) hx hb dL_law__1456 (by decide) ?_
      refine lv_iinc (v := 6) (lv' := [(4, .int 6), (6, .int q_16), (5, .int 1), (3, .ref oa), (2, .ref om), (1, .ref x), (0, .ref b)]) hx hb dL_law__2738 hl (k := 2) rfl (by decide) (by decide) rfl (fun ls hl => ?_)
      refine lv_goto (tgt := 23) hx hb dL_law__2741 (by decide) ?_
      refine lv_iload hx hb dL_law__23 (lv_at hl 0 rfl) ?_
      refine lv_aload_n hx hb dL_law__25 rfl (lv_at hl 6 rfl) ?_
      refine va_slen hx hb hX hbl hbA hS dL_law__26 ?_
      refine ztop (r := 6) rfl ?_
      refine lv_bipush (v := 6) hx hb dL_law__27 (by decide) ?_
      refine lv_isub hx hb dL_law__29 ?_
      refine ztop (r := 0) (by decide) ?_
      refine lv_icmp_gt (tgt := 2744) hx hb dL_law__30 (by decide) (fun _ => ?_) (fun c21 => absurd (by decide) c21)
      refine lv_iconst (v := 1) hx hb dL_law__2744 (by decide) ?_
      refine va_forget (fun q hq => by have h9 := hS.2.2 q hq; rw [hAe] at h9; exact h9) ?_
      refine W.widen (k := 600002) (n := 7302232) (Nat.le_of_ble_eq_true rfl) (Nat.le_of_ble_eq_true rfl) ?_
      exact lw_ret hx hb hr hlocks dL_law__2745
    · skip
      exact (hb9.elim hG9.1.1 hG9.1.2).elim
  · skip
    rcases hq17 with ⟨ht9, hB9⟩ | ⟨ht9, hG9⟩
    · skip
      exact (hB9.elim hg9.1.1 hg9.1.2).elim
    · skip
      subst hr9
      subst ht9
      refine lv_istore (lv' := [(6, .int q_16), (5, .int 0), (4, .int 0), (3, .ref oa), (2, .ref om), (1, .ref x), (0, .ref b)]) hx hb dL_law__1426 hl (by decide) rfl (fun ls hl => ?_)
      refine lv_aload_n hx hb dL_law__1428 rfl (lv_at hl 4 rfl) ?_
      refine mcallV (g := g) (q0 := 0) (ci := 10) (As := []) (rest := []) St hK hT hA hP hD hS hl.1 [14] [0, 1, 2, 3, 4, 5, 6, 7, 8, 9, 10, 11, 12, 13] rfl rfl rfl (m_thrown l g om am 0 hi2_5 ac2_6 tp2_7 ba2_8 en2_9 tA2_10 fl2_11 de2_12 iD2_13 iO2_14 tU2_15 ) (cwV 0 hts (zgL (zl4 k1317 k1318 k1319 k833) k824) rfl rfl rfl (by decide +kernel) ⟨Nat.le_of_ble_eq_true rfl, Nat.le_of_ble_eq_true rfl⟩) rfl rfl rfl rfl (Nat.le_of_ble_eq_true rfl) dL_law__1429 ⟨(Nat.le_of_ble_eq_true rfl), (Nat.le_of_ble_eq_true rfl)⟩ (fun _u H locs hq22 hP hD hS => ?_)
      have hP : va_P g.1 vwCl (List.flatten [bTape g ta ab 0 0 0 0 0 (-1) (fun _ => 0), bLog g go ar 0 0 (fun _ => 0), [(tt, .inr (8, [.ref ta, .ref td]))], bTown g td tda 0 0 0 20 6 50 0 1 (fun _ _ => 0), [(lt, .inr (2, [.ref ta, .ref ldr]))], bLaw g ldr lda 0 (-1) 0 0 0 (fun _ => 0), bMem g mo qT qL it il ig 0 0 0 fT fL, bTown g it ia 0 0 0 20 6 50 0 1 (fun _ _ => 0), bLaw g il ic 0 (-1) 0 0 0 (fun _ => 0), bLog g ig ir 0 0 (fun _ => 0), bTown g t0 ta0 0 0 0 20 6 50 0 1 (fun _ _ => 0), bLog g l0 la0 0 0 (fun _ => 0), bRid g ro af 0 0 (fun _ => 0), [(oa, .inl (g.2 2, 1, .inr (.inl fz2_2)))], bObj g om am 0 hi2_5 ac2_6 tp2_7 ba2_8 en2_9 tA2_10 fl2_11 de2_12 iD2_13 iO2_14 tU2_15]) H := hP
      have hD : va_D A (List.flatten [bTape g ta ab 0 0 0 0 0 (-1) (fun _ => 0), bLog g go ar 0 0 (fun _ => 0), [(tt, .inr (8, [.ref ta, .ref td]))], bTown g td tda 0 0 0 20 6 50 0 1 (fun _ _ => 0), [(lt, .inr (2, [.ref ta, .ref ldr]))], bLaw g ldr lda 0 (-1) 0 0 0 (fun _ => 0), bMem g mo qT qL it il ig 0 0 0 fT fL, bTown g it ia 0 0 0 20 6 50 0 1 (fun _ _ => 0), bLaw g il ic 0 (-1) 0 0 0 (fun _ => 0), bLog g ig ir 0 0 (fun _ => 0), bTown g t0 ta0 0 0 0 20 6 50 0 1 (fun _ _ => 0), bLog g l0 la0 0 0 (fun _ => 0), bRid g ro af 0 0 (fun _ => 0), [(oa, .inl (g.2 2, 1, .inr (.inl fz2_2)))], bObj g om am 0 hi2_5 ac2_6 tp2_7 ba2_8 en2_9 tA2_10 fl2_11 de2_12 iD2_13 iO2_14 tU2_15]) := hD
      refine W.widen (k := 248) (n := 14997) (Nat.le_of_ble_eq_true rfl) (Nat.le_of_ble_eq_true rfl) ?_
      refine W.eq (g2 := F0 m 1432 ls [.int 0]) rfl ?_
      refine lv_iload hx hb dL_law__1432 (lv_at hl 1 rfl) ?_
      refine lv_icmp_eq (tgt := 1439) hx hb dL_law__1434 (by decide) (fun _ => ?_) (fun c23 => absurd (by decide) c23)
      refine lv_iload hx hb dL_law__1439 (lv_at hl 1 rfl) ?_
      refine lv_if_ne (tgt := 1456) hx hb dL_law__1441 (by decide) (fun c24 => absurd (by decide) c24) (fun _ => ?_)
      refine lv_aload_n hx hb dL_law__1444 rfl (lv_at hl 3 rfl) ?_
      refine lv_iconst (v := 0) hx hb dL_law__1445 (by decide) ?_
      refine va_lald hx hb hK hP 55 2 rfl rfl (zin rfl) dL_law__1446 ?_
      refine ztopl (r := fz2_2 0) rfl ?_
      refine lv_iload hx hb dL_law__1447 (lv_at hl 0 rfl) ?_
      refine lv_i2l (v := (q_16 : Int32).toInt64) hx hb dL_law__1449 rfl ?_
      refine W.lcmp hx hb dL_law__1450 ?_
      refine lv_if_eq (tgt := 1456) hx hb dL_law__1451 (by decide) (fun _ => ?_) (fun c25 => absurd (by rw [hg9.2, hG9.2]; exact lg_self _) c25)
      refine lv_goto (tgt := 2738) hx hb dL_law__1456 (by decide) ?_
      refine lv_iinc (v := 6) (lv' := [(4, .int 6), (6, .int q_16), (5, .int 0), (3, .ref oa), (2, .ref om), (1, .ref x), (0, .ref b)]) hx hb dL_law__2738 hl (k := 2) rfl (by decide) (by decide) rfl (fun ls hl => ?_)
      refine lv_goto (tgt := 23) hx hb dL_law__2741 (by decide) ?_
      refine lv_iload hx hb dL_law__23 (lv_at hl 0 rfl) ?_
      refine lv_aload_n hx hb dL_law__25 rfl (lv_at hl 6 rfl) ?_
      refine va_slen hx hb hX hbl hbA hS dL_law__26 ?_
      refine ztop (r := 6) rfl ?_
      refine lv_bipush (v := 6) hx hb dL_law__27 (by decide) ?_
      refine lv_isub hx hb dL_law__29 ?_
      refine ztop (r := 0) (by decide) ?_
      refine lv_icmp_gt (tgt := 2744) hx hb dL_law__30 (by decide) (fun _ => ?_) (fun c26 => absurd (by decide) c26)
      refine lv_iconst (v := 1) hx hb dL_law__2744 (by decide) ?_
      refine va_forget (fun q hq => by have h9 := hS.2.2 q hq; rw [hAe] at h9; exact h9) ?_
      refine W.widen (k := 600002) (n := 7302232) (Nat.le_of_ble_eq_true rfl) (Nat.le_of_ble_eq_true rfl) ?_
      exact lw_ret hx hb hr hlocks dL_law__2745
set_option maxRecDepth 100000 in
set_option maxHeartbeats 4000000 in
/-- the law: must -/
theorem w_21 {p : Program} {e : Env} {s : State} {m : MethodId} {below : List Frame} {meth : Method} {c : Code} (l : Launch) (hfl : l.stackTraces = false) (g : zG) {b : Nat} {xs : Nat → Int32} {A : Nat → Prop} (hAe : A = fun q => s.heap.size ≤ q) (hA : ∀ q, s.heap.size ≤ q → A q) (hbA : ¬ A b) (St : CallFix p m c cL_law_ 7 s #[Value.ref b] zB RL) (hr : meth.sig.returnType = ret) (hlocks : meth.locks = false) (hX : va_X b 6 xs s s.heap) (hbl : b < s.heap.size) (hK : zK g s) (hT : zTh A s) (x : Nat) (ta : Nat) (o : Nat) (lo : Nat) (go : Nat) (tt : Nat) (lt : Nat) (mo : Nat) (fo : Nat) (ro : Nat) (ab : Nat) (ac : Nat) (ar : Nat) (td : Nat) (a : Nat → Nat) (tda : Nat → Nat) (ldr : Nat) (lda : Nat) (qT : Nat) (qL : Nat) (it : Nat) (il : Nat) (ig : Nat) (fT : Nat → Option Nat) (fL : Nat → Option Nat) (ia : Nat → Nat) (ic : Nat) (ir : Nat) (t0 : Nat) (ta0 : Nat → Nat) (l0 : Nat) (la0 : Nat) (od : Nat) (ad : Nat → Nat) (af : Nat) (om : Nat) (am : Nat → Nat) (m0 : Nat → Int32) (oa : Nat) (hT0 : fT 0 = some t0) (hL0 : fL 0 = some l0) (hm : zMo m0) (h8 : m0 8 = 0) (h10 : m0 10 = 1) (H : Heap) (locs : List Loc) (ls : Array Slot) (hP : va_P g.1 vwCl (List.flatten [bDR g x ta o lo go tt lt mo fo ro (-1), bTape g ta ab 0 0 0 0 0 (-1) (fun _ => 0), bTown g o a 0 0 0 20 6 50 0 1 (fun _ _ => 0), bLaw g lo ac 0 (-1) 0 0 0 (fun _ => 0), bLog g go ar 0 0 (fun _ => 0), [(tt, .inr (8, [.ref ta, .ref td]))], bTown g td tda 0 0 0 20 6 50 0 1 (fun _ _ => 0), [(lt, .inr (2, [.ref ta, .ref ldr]))], bLaw g ldr lda 0 (-1) 0 0 0 (fun _ => 0), bMem g mo qT qL it il ig 0 0 0 fT fL, bTown g it ia 0 0 0 20 6 50 0 1 (fun _ _ => 0), bLaw g il ic 0 (-1) 0 0 0 (fun _ => 0), bLog g ig ir 0 0 (fun _ => 0), bTown g t0 ta0 0 0 0 20 6 50 0 1 (fun _ _ => 0), bLog g l0 la0 0 0 (fun _ => 0), [(fo, .inr (0, [.ref o, .ref lo, .ref od]))], bTown g od ad 0 0 0 20 6 50 0 1 (fun _ _ => 0), bRid g ro af 0 0 (fun _ => 0), bObj g om am 0 0 0 0 0 0 0 (-1) 0 0 0 0, bArr g am (zf [m0, fun _ => 0, fun _ => 0, fun _ => 0, fun _ => 0, fun _ => 0, fun _ => 0, fun _ => 0]), [(oa, .inl (g.2 2, 1, .inr (.inl (fun _ => 0))))]]) H) (hD : va_D A (List.flatten [bDR g x ta o lo go tt lt mo fo ro (-1), bTape g ta ab 0 0 0 0 0 (-1) (fun _ => 0), bTown g o a 0 0 0 20 6 50 0 1 (fun _ _ => 0), bLaw g lo ac 0 (-1) 0 0 0 (fun _ => 0), bLog g go ar 0 0 (fun _ => 0), [(tt, .inr (8, [.ref ta, .ref td]))], bTown g td tda 0 0 0 20 6 50 0 1 (fun _ _ => 0), [(lt, .inr (2, [.ref ta, .ref ldr]))], bLaw g ldr lda 0 (-1) 0 0 0 (fun _ => 0), bMem g mo qT qL it il ig 0 0 0 fT fL, bTown g it ia 0 0 0 20 6 50 0 1 (fun _ _ => 0), bLaw g il ic 0 (-1) 0 0 0 (fun _ => 0), bLog g ig ir 0 0 (fun _ => 0), bTown g t0 ta0 0 0 0 20 6 50 0 1 (fun _ _ => 0), bLog g l0 la0 0 0 (fun _ => 0), [(fo, .inr (0, [.ref o, .ref lo, .ref od]))], bTown g od ad 0 0 0 20 6 50 0 1 (fun _ _ => 0), bRid g ro af 0 0 (fun _ => 0), bObj g om am 0 0 0 0 0 0 0 (-1) 0 0 0 0, bArr g am (zf [m0, fun _ => 0, fun _ => 0, fun _ => 0, fun _ => 0, fun _ => 0, fun _ => 0, fun _ => 0]), [(oa, .inl (g.2 2, 1, .inr (.inl (fun _ => 0))))]])) (hS : va_S A s.heap H locs) (hl : lv_has ls 7 [(4, .int 0), (3, .ref oa), (2, .ref om), (1, .ref x), (0, .ref b)]) : W p l e room_1 s m #[Value.ref b] below meth c H locs 247 14991 (lw_Z below #[Value.ref b] s) (F0 m 1459 ls []) := by
  obtain ⟨hx, hb, hml, hown, hts⟩ := id St
  have hz0 : zZ (fun _ => 0) := zZ0
  refine lv_aload_n hx hb dL_law__1459 rfl (lv_at hl 3 rfl) ?_
  refine lv_aload_n hx hb dL_law__1460 rfl (lv_at hl 4 rfl) ?_
  refine lv_iload hx hb dL_law__1461 (lv_at hl 0 rfl) ?_
  refine lv_iconst (v := 1) hx hb dL_law__1463 (by decide) ?_
  refine lv_iadd hx hb dL_law__1464 ?_
  refine ztop (r := 1) (by decide) ?_
  refine va_sld hx hb hX hbl hbA hS (zin rfl) dL_law__1465 ?_
  refine ztop (r := xs 1) rfl ?_
  refine lv_aload_n hx hb dL_law__1466 rfl (lv_at hl 4 rfl) ?_
  refine lv_iload hx hb dL_law__1467 (lv_at hl 0 rfl) ?_
  refine lv_iconst (v := 2) hx hb dL_law__1469 (by decide) ?_
  refine lv_iadd hx hb dL_law__1470 ?_
  refine ztop (r := 2) (by decide) ?_
  refine va_sld hx hb hX hbl hbA hS (zin rfl) dL_law__1471 ?_
  refine ztop (r := xs 2) rfl ?_
  refine lv_aload_n hx hb dL_law__1472 rfl (lv_at hl 1 rfl) ?_
  refine xcallSX (g := g) (As := [.ref x, .int (xs 1), .int (xs 2), .ref oa]) (rest := []) St hK hT hA hP hD hS hl.1 [0, 2, 15, 3, 16, 20] [1, 4, 5, 6, 7, 8, 9, 10, 11, 12, 13, 14, 17, 18, 19] rfl rfl rfl (l_must l hfl g x ta o lo go tt lt mo fo ro (-1) a 0 20 6 50 0 1 (fun _ _ => 0) ac 0 (-1) 0 0 0 (fun _ => 0) od ad 0 0 0 20 6 50 0 1 (fun _ _ => 0) (xs 1) (xs 2) oa (fun _ => 0) (by assumption)) (vx_cwSW 4 hts (zgL (zl3 k1412 k1413 k1313) k1229) rfl rfl rfl (by decide +kernel) ⟨Nat.le_of_ble_eq_true rfl, Nat.le_of_ble_eq_true rfl⟩) rfl rfl (Nat.le_of_ble_eq_true rfl) dL_law__1473 ⟨(Nat.le_of_ble_eq_true rfl), (Nat.le_of_ble_eq_true rfl)⟩ (fun E ce q9 u9 H locs hpx hP hD hS hce hcv hcl => hpx.elim) (fun u_ H locs hq3 hP hD hS => ?_)
  obtain ⟨r_1, fz2_2⟩ := u_
  have hq3 : (r_1 = 1 ∧ (((xs 1) < 1 ∨ 792 < (xs 1)) ∨ ((xs 2) < 0 ∨ 30 < (xs 2)))) ∨ (r_1 = 0 ∧ ((¬ (xs 1) < 1 ∧ ¬ 792 < (xs 1)) ∧ (¬ (xs 2) < 0 ∧ ¬ 30 < (xs 2))) ∧ fz2_2 0 = ((-1) : Int32).toInt64) := hq3
  have hP : va_P g.1 vwCl (List.flatten [bTape g ta ab 0 0 0 0 0 (-1) (fun _ => 0), bLog g go ar 0 0 (fun _ => 0), [(tt, .inr (8, [.ref ta, .ref td]))], bTown g td tda 0 0 0 20 6 50 0 1 (fun _ _ => 0), [(lt, .inr (2, [.ref ta, .ref ldr]))], bLaw g ldr lda 0 (-1) 0 0 0 (fun _ => 0), bMem g mo qT qL it il ig 0 0 0 fT fL, bTown g it ia 0 0 0 20 6 50 0 1 (fun _ _ => 0), bLaw g il ic 0 (-1) 0 0 0 (fun _ => 0), bLog g ig ir 0 0 (fun _ => 0), bTown g t0 ta0 0 0 0 20 6 50 0 1 (fun _ _ => 0), bLog g l0 la0 0 0 (fun _ => 0), bRid g ro af 0 0 (fun _ => 0), bObj g om am 0 0 0 0 0 0 0 (-1) 0 0 0 0, bArr g am (zf [m0, fun _ => 0, fun _ => 0, fun _ => 0, fun _ => 0, fun _ => 0, fun _ => 0, fun _ => 0]), [(oa, .inl (g.2 2, 1, .inr (.inl fz2_2)))]]) H := hP
  have hD : va_D A (List.flatten [bTape g ta ab 0 0 0 0 0 (-1) (fun _ => 0), bLog g go ar 0 0 (fun _ => 0), [(tt, .inr (8, [.ref ta, .ref td]))], bTown g td tda 0 0 0 20 6 50 0 1 (fun _ _ => 0), [(lt, .inr (2, [.ref ta, .ref ldr]))], bLaw g ldr lda 0 (-1) 0 0 0 (fun _ => 0), bMem g mo qT qL it il ig 0 0 0 fT fL, bTown g it ia 0 0 0 20 6 50 0 1 (fun _ _ => 0), bLaw g il ic 0 (-1) 0 0 0 (fun _ => 0), bLog g ig ir 0 0 (fun _ => 0), bTown g t0 ta0 0 0 0 20 6 50 0 1 (fun _ _ => 0), bLog g l0 la0 0 0 (fun _ => 0), bRid g ro af 0 0 (fun _ => 0), bObj g om am 0 0 0 0 0 0 0 (-1) 0 0 0 0, bArr g am (zf [m0, fun _ => 0, fun _ => 0, fun _ => 0, fun _ => 0, fun _ => 0, fun _ => 0, fun _ => 0]), [(oa, .inl (g.2 2, 1, .inr (.inl fz2_2)))]]) := hD
  refine W.widen (k := 249) (n := 15003) (Nat.le_of_ble_eq_true rfl) (Nat.le_of_ble_eq_true rfl) ?_
  refine W.eq (g2 := F0 m 1476 ls [.int r_1]) rfl ?_
  refine lv_istore (lv' := [(5, .int r_1), (4, .int 0), (3, .ref oa), (2, .ref om), (1, .ref x), (0, .ref b)]) hx hb dL_law__1476 hl (by decide) rfl (fun ls hl => ?_)
  refine lv_aload_n hx hb dL_law__1478 rfl (lv_at hl 3 rfl) ?_
  refine lv_aload_n hx hb dL_law__1479 rfl (lv_at hl 5 rfl) ?_
  refine lv_iload hx hb dL_law__1480 (lv_at hl 1 rfl) ?_
  refine lv_iconst (v := 1) hx hb dL_law__1482 (by decide) ?_
  refine lv_iadd hx hb dL_law__1483 ?_
  refine ztop (r := 1) (by decide) ?_
  refine va_sld hx hb hX hbl hbA hS (zin rfl) dL_law__1484 ?_
  refine ztop (r := xs 1) rfl ?_
  refine lv_aload_n hx hb dL_law__1485 rfl (lv_at hl 5 rfl) ?_
  refine lv_iload hx hb dL_law__1486 (lv_at hl 1 rfl) ?_
  refine lv_iconst (v := 2) hx hb dL_law__1488 (by decide) ?_
  refine lv_iadd hx hb dL_law__1489 ?_
  refine ztop (r := 2) (by decide) ?_
  refine va_sld hx hb hX hbl hbA hS (zin rfl) dL_law__1490 ?_
  refine ztop (r := xs 2) rfl ?_
  refine mcallV (g := g) (q0 := 0) (ci := 10) (As := [.int (xs 1), .int (xs 2)]) (rest := []) St hK hT hA hP hD hS hl.1 [13, 14] [0, 1, 2, 3, 4, 5, 6, 7, 8, 9, 10, 11, 12, 15] rfl rfl rfl (m_must l g om am 0 0 0 0 0 0 0 (-1) 0 0 0 0 (zf [m0, fun _ => 0, fun _ => 0, fun _ => 0, fun _ => 0, fun _ => 0, fun _ => 0, fun _ => 0]) (xs 1) (xs 2) (by assumption)) (cwV 2 hts (zgL (zl4 k1414 k1415 k1416 k833) k1071) rfl rfl rfl (by decide +kernel) ⟨Nat.le_of_ble_eq_true rfl, Nat.le_of_ble_eq_true rfl⟩) rfl rfl rfl rfl (Nat.le_of_ble_eq_true rfl) dL_law__1491 ⟨(Nat.le_of_ble_eq_true rfl), (Nat.le_of_ble_eq_true rfl)⟩ (fun u_ H locs hq17 hP hD hS => ?_)
  obtain ⟨th2_4, hi2_5, ac2_6, tp2_7, ba2_8, en2_9, tA2_10, fl2_11, de2_12, iD2_13, iO2_14, tU2_15, q_16⟩ := u_
  have hq17 : (th2_4 = 1 ∧ ((((xs 1) : Int32) < 1 ∨ 792 < ((xs 1) : Int32)) ∨ (((xs 2) : Int32) < 0 ∨ 30 < ((xs 2) : Int32)))) ∨ (th2_4 = 0 ∧ ((¬ ((xs 1) : Int32) < 1 ∧ ¬ 792 < ((xs 1) : Int32)) ∧ (¬ ((xs 2) : Int32) < 0 ∧ ¬ 30 < ((xs 2) : Int32))) ∧ q_16 = -1) := hq17
  have hP : va_P g.1 vwCl (List.flatten [bTape g ta ab 0 0 0 0 0 (-1) (fun _ => 0), bLog g go ar 0 0 (fun _ => 0), [(tt, .inr (8, [.ref ta, .ref td]))], bTown g td tda 0 0 0 20 6 50 0 1 (fun _ _ => 0), [(lt, .inr (2, [.ref ta, .ref ldr]))], bLaw g ldr lda 0 (-1) 0 0 0 (fun _ => 0), bMem g mo qT qL it il ig 0 0 0 fT fL, bTown g it ia 0 0 0 20 6 50 0 1 (fun _ _ => 0), bLaw g il ic 0 (-1) 0 0 0 (fun _ => 0), bLog g ig ir 0 0 (fun _ => 0), bTown g t0 ta0 0 0 0 20 6 50 0 1 (fun _ _ => 0), bLog g l0 la0 0 0 (fun _ => 0), bRid g ro af 0 0 (fun _ => 0), [(oa, .inl (g.2 2, 1, .inr (.inl fz2_2)))], bObj g om am th2_4 hi2_5 ac2_6 tp2_7 ba2_8 en2_9 tA2_10 fl2_11 de2_12 iD2_13 iO2_14 tU2_15]) H := hP
  have hD : va_D A (List.flatten [bTape g ta ab 0 0 0 0 0 (-1) (fun _ => 0), bLog g go ar 0 0 (fun _ => 0), [(tt, .inr (8, [.ref ta, .ref td]))], bTown g td tda 0 0 0 20 6 50 0 1 (fun _ _ => 0), [(lt, .inr (2, [.ref ta, .ref ldr]))], bLaw g ldr lda 0 (-1) 0 0 0 (fun _ => 0), bMem g mo qT qL it il ig 0 0 0 fT fL, bTown g it ia 0 0 0 20 6 50 0 1 (fun _ _ => 0), bLaw g il ic 0 (-1) 0 0 0 (fun _ => 0), bLog g ig ir 0 0 (fun _ => 0), bTown g t0 ta0 0 0 0 20 6 50 0 1 (fun _ _ => 0), bLog g l0 la0 0 0 (fun _ => 0), bRid g ro af 0 0 (fun _ => 0), [(oa, .inl (g.2 2, 1, .inr (.inl fz2_2)))], bObj g om am th2_4 hi2_5 ac2_6 tp2_7 ba2_8 en2_9 tA2_10 fl2_11 de2_12 iD2_13 iO2_14 tU2_15]) := hD
  refine W.widen (k := 249) (n := 15003) (Nat.le_of_ble_eq_true rfl) (Nat.le_of_ble_eq_true rfl) ?_
  refine W.eq (g2 := F0 m 1494 ls [.int q_16]) rfl ?_
  rcases hq3 with ⟨hr9, hb9⟩ | ⟨hr9, hg9⟩
  · skip
    rcases hq17 with ⟨ht9, hB9⟩ | ⟨ht9, hG9⟩
    · skip
      subst hr9
      subst ht9
      refine lv_istore (lv' := [(6, .int q_16), (5, .int 1), (4, .int 0), (3, .ref oa), (2, .ref om), (1, .ref x), (0, .ref b)]) hx hb dL_law__1494 hl (by decide) rfl (fun ls hl => ?_)
      refine lv_aload_n hx hb dL_law__1496 rfl (lv_at hl 4 rfl) ?_
      refine mcallV (g := g) (q0 := 0) (ci := 10) (As := []) (rest := []) St hK hT hA hP hD hS hl.1 [14] [0, 1, 2, 3, 4, 5, 6, 7, 8, 9, 10, 11, 12, 13] rfl rfl rfl (m_thrown l g om am 1 hi2_5 ac2_6 tp2_7 ba2_8 en2_9 tA2_10 fl2_11 de2_12 iD2_13 iO2_14 tU2_15 ) (cwV 0 hts (zgL (zl4 k1317 k1318 k1319 k833) k824) rfl rfl rfl (by decide +kernel) ⟨Nat.le_of_ble_eq_true rfl, Nat.le_of_ble_eq_true rfl⟩) rfl rfl rfl rfl (Nat.le_of_ble_eq_true rfl) dL_law__1497 ⟨(Nat.le_of_ble_eq_true rfl), (Nat.le_of_ble_eq_true rfl)⟩ (fun _u H locs hq18 hP hD hS => ?_)
      have hP : va_P g.1 vwCl (List.flatten [bTape g ta ab 0 0 0 0 0 (-1) (fun _ => 0), bLog g go ar 0 0 (fun _ => 0), [(tt, .inr (8, [.ref ta, .ref td]))], bTown g td tda 0 0 0 20 6 50 0 1 (fun _ _ => 0), [(lt, .inr (2, [.ref ta, .ref ldr]))], bLaw g ldr lda 0 (-1) 0 0 0 (fun _ => 0), bMem g mo qT qL it il ig 0 0 0 fT fL, bTown g it ia 0 0 0 20 6 50 0 1 (fun _ _ => 0), bLaw g il ic 0 (-1) 0 0 0 (fun _ => 0), bLog g ig ir 0 0 (fun _ => 0), bTown g t0 ta0 0 0 0 20 6 50 0 1 (fun _ _ => 0), bLog g l0 la0 0 0 (fun _ => 0), bRid g ro af 0 0 (fun _ => 0), [(oa, .inl (g.2 2, 1, .inr (.inl fz2_2)))], bObj g om am 1 hi2_5 ac2_6 tp2_7 ba2_8 en2_9 tA2_10 fl2_11 de2_12 iD2_13 iO2_14 tU2_15]) H := hP
      have hD : va_D A (List.flatten [bTape g ta ab 0 0 0 0 0 (-1) (fun _ => 0), bLog g go ar 0 0 (fun _ => 0), [(tt, .inr (8, [.ref ta, .ref td]))], bTown g td tda 0 0 0 20 6 50 0 1 (fun _ _ => 0), [(lt, .inr (2, [.ref ta, .ref ldr]))], bLaw g ldr lda 0 (-1) 0 0 0 (fun _ => 0), bMem g mo qT qL it il ig 0 0 0 fT fL, bTown g it ia 0 0 0 20 6 50 0 1 (fun _ _ => 0), bLaw g il ic 0 (-1) 0 0 0 (fun _ => 0), bLog g ig ir 0 0 (fun _ => 0), bTown g t0 ta0 0 0 0 20 6 50 0 1 (fun _ _ => 0), bLog g l0 la0 0 0 (fun _ => 0), bRid g ro af 0 0 (fun _ => 0), [(oa, .inl (g.2 2, 1, .inr (.inl fz2_2)))], bObj g om am 1 hi2_5 ac2_6 tp2_7 ba2_8 en2_9 tA2_10 fl2_11 de2_12 iD2_13 iO2_14 tU2_15]) := hD
      refine W.widen (k := 249) (n := 15003) (Nat.le_of_ble_eq_true rfl) (Nat.le_of_ble_eq_true rfl) ?_
      refine W.eq (g2 := F0 m 1500 ls [.int 1]) rfl ?_
      refine lv_iload hx hb dL_law__1500 (lv_at hl 1 rfl) ?_
      refine lv_icmp_eq (tgt := 1507) hx hb dL_law__1502 (by decide) (fun _ => ?_) (fun c19 => absurd (by decide) c19)
      refine lv_iload hx hb dL_law__1507 (lv_at hl 1 rfl) ?_
      refine lv_if_ne (tgt := 1524) hx hb dL_law__1509 (by decide) (fun _ => ?_) (fun c20 => absurd c20 (by decide))
      refine lv_goto (tgt := 2738) hx hb dL_law__1524 (by decide) ?_
      refine lv_iinc (v := 6) (lv' := [(4, .int 6), (6, .int q_16), (5, .int 1), (3, .ref oa), (2, .ref om), (1, .ref x), (0, .ref b)]) hx hb dL_law__2738 hl (k := 2) rfl (by decide) (by decide) rfl (fun ls hl => ?_)
      refine lv_goto (tgt := 23) hx hb dL_law__2741 (by decide) ?_
      refine lv_iload hx hb dL_law__23 (lv_at hl 0 rfl) ?_
      refine lv_aload_n hx hb dL_law__25 rfl (lv_at hl 6 rfl) ?_
      refine va_slen hx hb hX hbl hbA hS dL_law__26 ?_
      refine ztop (r := 6) rfl ?_
      refine lv_bipush (v := 6) hx hb dL_law__27 (by decide) ?_
      refine lv_isub hx hb dL_law__29 ?_
      refine ztop (r := 0) (by decide) ?_
      refine lv_icmp_gt (tgt := 2744) hx hb dL_law__30 (by decide) (fun _ => ?_) (fun c21 => absurd (by decide) c21)
      refine lv_iconst (v := 1) hx hb dL_law__2744 (by decide) ?_
      refine va_forget (fun q hq => by have h9 := hS.2.2 q hq; rw [hAe] at h9; exact h9) ?_
      refine W.widen (k := 600002) (n := 7302232) (Nat.le_of_ble_eq_true rfl) (Nat.le_of_ble_eq_true rfl) ?_
      exact lw_ret hx hb hr hlocks dL_law__2745
    · skip
      exact (hb9.elim (fun h => h.elim hG9.1.1.1 hG9.1.1.2) (fun h => h.elim hG9.1.2.1 hG9.1.2.2)).elim
  · skip
    rcases hq17 with ⟨ht9, hB9⟩ | ⟨ht9, hG9⟩
    · skip
      exact (hB9.elim (fun h => h.elim hg9.1.1.1 hg9.1.1.2) (fun h => h.elim hg9.1.2.1 hg9.1.2.2)).elim
    · skip
      subst hr9
      subst ht9
      refine lv_istore (lv' := [(6, .int q_16), (5, .int 0), (4, .int 0), (3, .ref oa), (2, .ref om), (1, .ref x), (0, .ref b)]) hx hb dL_law__1494 hl (by decide) rfl (fun ls hl => ?_)
      refine lv_aload_n hx hb dL_law__1496 rfl (lv_at hl 4 rfl) ?_
      refine mcallV (g := g) (q0 := 0) (ci := 10) (As := []) (rest := []) St hK hT hA hP hD hS hl.1 [14] [0, 1, 2, 3, 4, 5, 6, 7, 8, 9, 10, 11, 12, 13] rfl rfl rfl (m_thrown l g om am 0 hi2_5 ac2_6 tp2_7 ba2_8 en2_9 tA2_10 fl2_11 de2_12 iD2_13 iO2_14 tU2_15 ) (cwV 0 hts (zgL (zl4 k1317 k1318 k1319 k833) k824) rfl rfl rfl (by decide +kernel) ⟨Nat.le_of_ble_eq_true rfl, Nat.le_of_ble_eq_true rfl⟩) rfl rfl rfl rfl (Nat.le_of_ble_eq_true rfl) dL_law__1497 ⟨(Nat.le_of_ble_eq_true rfl), (Nat.le_of_ble_eq_true rfl)⟩ (fun _u H locs hq22 hP hD hS => ?_)
      have hP : va_P g.1 vwCl (List.flatten [bTape g ta ab 0 0 0 0 0 (-1) (fun _ => 0), bLog g go ar 0 0 (fun _ => 0), [(tt, .inr (8, [.ref ta, .ref td]))], bTown g td tda 0 0 0 20 6 50 0 1 (fun _ _ => 0), [(lt, .inr (2, [.ref ta, .ref ldr]))], bLaw g ldr lda 0 (-1) 0 0 0 (fun _ => 0), bMem g mo qT qL it il ig 0 0 0 fT fL, bTown g it ia 0 0 0 20 6 50 0 1 (fun _ _ => 0), bLaw g il ic 0 (-1) 0 0 0 (fun _ => 0), bLog g ig ir 0 0 (fun _ => 0), bTown g t0 ta0 0 0 0 20 6 50 0 1 (fun _ _ => 0), bLog g l0 la0 0 0 (fun _ => 0), bRid g ro af 0 0 (fun _ => 0), [(oa, .inl (g.2 2, 1, .inr (.inl fz2_2)))], bObj g om am 0 hi2_5 ac2_6 tp2_7 ba2_8 en2_9 tA2_10 fl2_11 de2_12 iD2_13 iO2_14 tU2_15]) H := hP
      have hD : va_D A (List.flatten [bTape g ta ab 0 0 0 0 0 (-1) (fun _ => 0), bLog g go ar 0 0 (fun _ => 0), [(tt, .inr (8, [.ref ta, .ref td]))], bTown g td tda 0 0 0 20 6 50 0 1 (fun _ _ => 0), [(lt, .inr (2, [.ref ta, .ref ldr]))], bLaw g ldr lda 0 (-1) 0 0 0 (fun _ => 0), bMem g mo qT qL it il ig 0 0 0 fT fL, bTown g it ia 0 0 0 20 6 50 0 1 (fun _ _ => 0), bLaw g il ic 0 (-1) 0 0 0 (fun _ => 0), bLog g ig ir 0 0 (fun _ => 0), bTown g t0 ta0 0 0 0 20 6 50 0 1 (fun _ _ => 0), bLog g l0 la0 0 0 (fun _ => 0), bRid g ro af 0 0 (fun _ => 0), [(oa, .inl (g.2 2, 1, .inr (.inl fz2_2)))], bObj g om am 0 hi2_5 ac2_6 tp2_7 ba2_8 en2_9 tA2_10 fl2_11 de2_12 iD2_13 iO2_14 tU2_15]) := hD
      refine W.widen (k := 249) (n := 15003) (Nat.le_of_ble_eq_true rfl) (Nat.le_of_ble_eq_true rfl) ?_
      refine W.eq (g2 := F0 m 1500 ls [.int 0]) rfl ?_
      refine lv_iload hx hb dL_law__1500 (lv_at hl 1 rfl) ?_
      refine lv_icmp_eq (tgt := 1507) hx hb dL_law__1502 (by decide) (fun _ => ?_) (fun c23 => absurd (by decide) c23)
      refine lv_iload hx hb dL_law__1507 (lv_at hl 1 rfl) ?_
      refine lv_if_ne (tgt := 1524) hx hb dL_law__1509 (by decide) (fun c24 => absurd (by decide) c24) (fun _ => ?_)
      refine lv_aload_n hx hb dL_law__1512 rfl (lv_at hl 3 rfl) ?_
      refine lv_iconst (v := 0) hx hb dL_law__1513 (by decide) ?_
      refine va_lald hx hb hK hP 55 2 rfl rfl (zin rfl) dL_law__1514 ?_
      refine ztopl (r := fz2_2 0) rfl ?_
      refine lv_iload hx hb dL_law__1515 (lv_at hl 0 rfl) ?_
      refine lv_i2l (v := (q_16 : Int32).toInt64) hx hb dL_law__1517 rfl ?_
      refine W.lcmp hx hb dL_law__1518 ?_
      refine lv_if_eq (tgt := 1524) hx hb dL_law__1519 (by decide) (fun _ => ?_) (fun c25 => absurd (by rw [hg9.2, hG9.2]; exact lg_self _) c25)
      refine lv_goto (tgt := 2738) hx hb dL_law__1524 (by decide) ?_
      refine lv_iinc (v := 6) (lv' := [(4, .int 6), (6, .int q_16), (5, .int 0), (3, .ref oa), (2, .ref om), (1, .ref x), (0, .ref b)]) hx hb dL_law__2738 hl (k := 2) rfl (by decide) (by decide) rfl (fun ls hl => ?_)
      refine lv_goto (tgt := 23) hx hb dL_law__2741 (by decide) ?_
      refine lv_iload hx hb dL_law__23 (lv_at hl 0 rfl) ?_
      refine lv_aload_n hx hb dL_law__25 rfl (lv_at hl 6 rfl) ?_
      refine va_slen hx hb hX hbl hbA hS dL_law__26 ?_
      refine ztop (r := 6) rfl ?_
      refine lv_bipush (v := 6) hx hb dL_law__27 (by decide) ?_
      refine lv_isub hx hb dL_law__29 ?_
      refine ztop (r := 0) (by decide) ?_
      refine lv_icmp_gt (tgt := 2744) hx hb dL_law__30 (by decide) (fun _ => ?_) (fun c26 => absurd (by decide) c26)
      refine lv_iconst (v := 1) hx hb dL_law__2744 (by decide) ?_
      refine va_forget (fun q hq => by have h9 := hS.2.2 q hq; rw [hAe] at h9; exact h9) ?_
      refine W.widen (k := 600002) (n := 7302232) (Nat.le_of_ble_eq_true rfl) (Nat.le_of_ble_eq_true rfl) ?_
      exact lw_ret hx hb hr hlocks dL_law__2745
set_option maxRecDepth 100000 in
set_option maxHeartbeats 4000000 in
/-- the law: reaches -/
theorem w_22 {p : Program} {e : Env} {s : State} {m : MethodId} {below : List Frame} {meth : Method} {c : Code} (l : Launch) (hfl : l.stackTraces = false) (g : zG) {b : Nat} {xs : Nat → Int32} {A : Nat → Prop} (hAe : A = fun q => s.heap.size ≤ q) (hA : ∀ q, s.heap.size ≤ q → A q) (hbA : ¬ A b) (St : CallFix p m c cL_law_ 7 s #[Value.ref b] zB RL) (hr : meth.sig.returnType = ret) (hlocks : meth.locks = false) (hX : va_X b 6 xs s s.heap) (hbl : b < s.heap.size) (hK : zK g s) (hT : zTh A s) (x : Nat) (ta : Nat) (o : Nat) (lo : Nat) (go : Nat) (tt : Nat) (lt : Nat) (mo : Nat) (fo : Nat) (ro : Nat) (ab : Nat) (ac : Nat) (ar : Nat) (td : Nat) (a : Nat → Nat) (tda : Nat → Nat) (ldr : Nat) (lda : Nat) (qT : Nat) (qL : Nat) (it : Nat) (il : Nat) (ig : Nat) (fT : Nat → Option Nat) (fL : Nat → Option Nat) (ia : Nat → Nat) (ic : Nat) (ir : Nat) (t0 : Nat) (ta0 : Nat → Nat) (l0 : Nat) (la0 : Nat) (od : Nat) (ad : Nat → Nat) (af : Nat) (om : Nat) (am : Nat → Nat) (m0 : Nat → Int32) (oa : Nat) (hT0 : fT 0 = some t0) (hL0 : fL 0 = some l0) (hm : zMo m0) (h8 : m0 8 = 0) (h10 : m0 10 = 1) (H : Heap) (locs : List Loc) (ls : Array Slot) (hP : va_P g.1 vwCl (List.flatten [bDR g x ta o lo go tt lt mo fo ro (-1), bTape g ta ab 0 0 0 0 0 (-1) (fun _ => 0), bTown g o a 0 0 0 20 6 50 0 1 (fun _ _ => 0), bLaw g lo ac 0 (-1) 0 0 0 (fun _ => 0), bLog g go ar 0 0 (fun _ => 0), [(tt, .inr (8, [.ref ta, .ref td]))], bTown g td tda 0 0 0 20 6 50 0 1 (fun _ _ => 0), [(lt, .inr (2, [.ref ta, .ref ldr]))], bLaw g ldr lda 0 (-1) 0 0 0 (fun _ => 0), bMem g mo qT qL it il ig 0 0 0 fT fL, bTown g it ia 0 0 0 20 6 50 0 1 (fun _ _ => 0), bLaw g il ic 0 (-1) 0 0 0 (fun _ => 0), bLog g ig ir 0 0 (fun _ => 0), bTown g t0 ta0 0 0 0 20 6 50 0 1 (fun _ _ => 0), bLog g l0 la0 0 0 (fun _ => 0), [(fo, .inr (0, [.ref o, .ref lo, .ref od]))], bTown g od ad 0 0 0 20 6 50 0 1 (fun _ _ => 0), bRid g ro af 0 0 (fun _ => 0), bObj g om am 0 0 0 0 0 0 0 (-1) 0 0 0 0, bArr g am (zf [m0, fun _ => 0, fun _ => 0, fun _ => 0, fun _ => 0, fun _ => 0, fun _ => 0, fun _ => 0]), [(oa, .inl (g.2 2, 1, .inr (.inl (fun _ => 0))))]]) H) (hD : va_D A (List.flatten [bDR g x ta o lo go tt lt mo fo ro (-1), bTape g ta ab 0 0 0 0 0 (-1) (fun _ => 0), bTown g o a 0 0 0 20 6 50 0 1 (fun _ _ => 0), bLaw g lo ac 0 (-1) 0 0 0 (fun _ => 0), bLog g go ar 0 0 (fun _ => 0), [(tt, .inr (8, [.ref ta, .ref td]))], bTown g td tda 0 0 0 20 6 50 0 1 (fun _ _ => 0), [(lt, .inr (2, [.ref ta, .ref ldr]))], bLaw g ldr lda 0 (-1) 0 0 0 (fun _ => 0), bMem g mo qT qL it il ig 0 0 0 fT fL, bTown g it ia 0 0 0 20 6 50 0 1 (fun _ _ => 0), bLaw g il ic 0 (-1) 0 0 0 (fun _ => 0), bLog g ig ir 0 0 (fun _ => 0), bTown g t0 ta0 0 0 0 20 6 50 0 1 (fun _ _ => 0), bLog g l0 la0 0 0 (fun _ => 0), [(fo, .inr (0, [.ref o, .ref lo, .ref od]))], bTown g od ad 0 0 0 20 6 50 0 1 (fun _ _ => 0), bRid g ro af 0 0 (fun _ => 0), bObj g om am 0 0 0 0 0 0 0 (-1) 0 0 0 0, bArr g am (zf [m0, fun _ => 0, fun _ => 0, fun _ => 0, fun _ => 0, fun _ => 0, fun _ => 0, fun _ => 0]), [(oa, .inl (g.2 2, 1, .inr (.inl (fun _ => 0))))]])) (hS : va_S A s.heap H locs) (hl : lv_has ls 7 [(4, .int 0), (3, .ref oa), (2, .ref om), (1, .ref x), (0, .ref b)]) : W p l e room_1 s m #[Value.ref b] below meth c H locs 247 14991 (lw_Z below #[Value.ref b] s) (F0 m 1527 ls []) := by
  obtain ⟨hx, hb, hml, hown, hts⟩ := id St
  have hz0 : zZ (fun _ => 0) := zZ0
  refine lv_aload_n hx hb dL_law__1527 rfl (lv_at hl 3 rfl) ?_
  refine lv_aload_n hx hb dL_law__1528 rfl (lv_at hl 4 rfl) ?_
  refine lv_iload hx hb dL_law__1529 (lv_at hl 0 rfl) ?_
  refine lv_iconst (v := 1) hx hb dL_law__1531 (by decide) ?_
  refine lv_iadd hx hb dL_law__1532 ?_
  refine ztop (r := 1) (by decide) ?_
  refine va_sld hx hb hX hbl hbA hS (zin rfl) dL_law__1533 ?_
  refine ztop (r := xs 1) rfl ?_
  refine lv_aload_n hx hb dL_law__1534 rfl (lv_at hl 1 rfl) ?_
  refine xcallSX (g := g) (As := [.ref x, .int (xs 1), .ref oa]) (rest := []) St hK hT hA hP hD hS hl.1 [0, 2, 15, 3, 16, 20] [1, 4, 5, 6, 7, 8, 9, 10, 11, 12, 13, 14, 17, 18, 19] rfl rfl rfl (l_reaches l hfl g x ta o lo go tt lt mo fo ro (-1) a 0 20 6 50 0 1 (fun _ _ => 0) ac 0 (-1) 0 0 0 (fun _ => 0) od ad 0 0 0 20 6 50 0 1 (fun _ _ => 0) (xs 1) oa (fun _ => 0) (by assumption)) (vx_cwSW 3 hts (zgL (zl3 k1417 k1418 k1313) k1233) rfl rfl rfl (by decide +kernel) ⟨Nat.le_of_ble_eq_true rfl, Nat.le_of_ble_eq_true rfl⟩) rfl rfl (Nat.le_of_ble_eq_true rfl) dL_law__1535 ⟨(Nat.le_of_ble_eq_true rfl), (Nat.le_of_ble_eq_true rfl)⟩ (fun E ce q9 u9 H locs hpx hP hD hS hce hcv hcl => hpx.elim) (fun u_ H locs hq3 hP hD hS => ?_)
  obtain ⟨r_1, fz2_2⟩ := u_
  have hq3 : (r_1 = 1 ∧ ((xs 1) < 1 ∨ 792 < (xs 1))) ∨ (r_1 = 0 ∧ (¬ (xs 1) < 1 ∧ ¬ 792 < (xs 1)) ∧ fz2_2 0 = ((-1) : Int32).toInt64) := hq3
  have hP : va_P g.1 vwCl (List.flatten [bTape g ta ab 0 0 0 0 0 (-1) (fun _ => 0), bLog g go ar 0 0 (fun _ => 0), [(tt, .inr (8, [.ref ta, .ref td]))], bTown g td tda 0 0 0 20 6 50 0 1 (fun _ _ => 0), [(lt, .inr (2, [.ref ta, .ref ldr]))], bLaw g ldr lda 0 (-1) 0 0 0 (fun _ => 0), bMem g mo qT qL it il ig 0 0 0 fT fL, bTown g it ia 0 0 0 20 6 50 0 1 (fun _ _ => 0), bLaw g il ic 0 (-1) 0 0 0 (fun _ => 0), bLog g ig ir 0 0 (fun _ => 0), bTown g t0 ta0 0 0 0 20 6 50 0 1 (fun _ _ => 0), bLog g l0 la0 0 0 (fun _ => 0), bRid g ro af 0 0 (fun _ => 0), bObj g om am 0 0 0 0 0 0 0 (-1) 0 0 0 0, bArr g am (zf [m0, fun _ => 0, fun _ => 0, fun _ => 0, fun _ => 0, fun _ => 0, fun _ => 0, fun _ => 0]), [(oa, .inl (g.2 2, 1, .inr (.inl fz2_2)))]]) H := hP
  have hD : va_D A (List.flatten [bTape g ta ab 0 0 0 0 0 (-1) (fun _ => 0), bLog g go ar 0 0 (fun _ => 0), [(tt, .inr (8, [.ref ta, .ref td]))], bTown g td tda 0 0 0 20 6 50 0 1 (fun _ _ => 0), [(lt, .inr (2, [.ref ta, .ref ldr]))], bLaw g ldr lda 0 (-1) 0 0 0 (fun _ => 0), bMem g mo qT qL it il ig 0 0 0 fT fL, bTown g it ia 0 0 0 20 6 50 0 1 (fun _ _ => 0), bLaw g il ic 0 (-1) 0 0 0 (fun _ => 0), bLog g ig ir 0 0 (fun _ => 0), bTown g t0 ta0 0 0 0 20 6 50 0 1 (fun _ _ => 0), bLog g l0 la0 0 0 (fun _ => 0), bRid g ro af 0 0 (fun _ => 0), bObj g om am 0 0 0 0 0 0 0 (-1) 0 0 0 0, bArr g am (zf [m0, fun _ => 0, fun _ => 0, fun _ => 0, fun _ => 0, fun _ => 0, fun _ => 0, fun _ => 0]), [(oa, .inl (g.2 2, 1, .inr (.inl fz2_2)))]]) := hD
  refine W.widen (k := 248) (n := 14997) (Nat.le_of_ble_eq_true rfl) (Nat.le_of_ble_eq_true rfl) ?_
  refine W.eq (g2 := F0 m 1538 ls [.int r_1]) rfl ?_
  refine lv_istore (lv' := [(5, .int r_1), (4, .int 0), (3, .ref oa), (2, .ref om), (1, .ref x), (0, .ref b)]) hx hb dL_law__1538 hl (by decide) rfl (fun ls hl => ?_)
  refine lv_aload_n hx hb dL_law__1540 rfl (lv_at hl 3 rfl) ?_
  refine lv_aload_n hx hb dL_law__1541 rfl (lv_at hl 5 rfl) ?_
  refine lv_iload hx hb dL_law__1542 (lv_at hl 1 rfl) ?_
  refine lv_iconst (v := 1) hx hb dL_law__1544 (by decide) ?_
  refine lv_iadd hx hb dL_law__1545 ?_
  refine ztop (r := 1) (by decide) ?_
  refine va_sld hx hb hX hbl hbA hS (zin rfl) dL_law__1546 ?_
  refine ztop (r := xs 1) rfl ?_
  refine mcallV (g := g) (q0 := 0) (ci := 10) (As := [.int (xs 1)]) (rest := []) St hK hT hA hP hD hS hl.1 [13, 14] [0, 1, 2, 3, 4, 5, 6, 7, 8, 9, 10, 11, 12, 15] rfl rfl rfl (m_reaches l g om am 0 0 0 0 0 0 0 (-1) 0 0 0 0 (zf [m0, fun _ => 0, fun _ => 0, fun _ => 0, fun _ => 0, fun _ => 0, fun _ => 0, fun _ => 0]) (xs 1) (by assumption)) (cwV 1 hts (zgL (zl4 k1419 k1420 k1421 k833) k1072) rfl rfl rfl (by decide +kernel) ⟨Nat.le_of_ble_eq_true rfl, Nat.le_of_ble_eq_true rfl⟩) rfl rfl rfl rfl (Nat.le_of_ble_eq_true rfl) dL_law__1547 ⟨(Nat.le_of_ble_eq_true rfl), (Nat.le_of_ble_eq_true rfl)⟩ (fun u_ H locs hq17 hP hD hS => ?_)
  obtain ⟨th2_4, hi2_5, ac2_6, tp2_7, ba2_8, en2_9, tA2_10, fl2_11, de2_12, iD2_13, iO2_14, tU2_15, q_16⟩ := u_
  have hq17 : (th2_4 = 1 ∧ (((xs 1) : Int32) < 1 ∨ 792 < ((xs 1) : Int32))) ∨ (th2_4 = 0 ∧ (¬ ((xs 1) : Int32) < 1 ∧ ¬ 792 < ((xs 1) : Int32)) ∧ q_16 = -1) := hq17
  have hP : va_P g.1 vwCl (List.flatten [bTape g ta ab 0 0 0 0 0 (-1) (fun _ => 0), bLog g go ar 0 0 (fun _ => 0), [(tt, .inr (8, [.ref ta, .ref td]))], bTown g td tda 0 0 0 20 6 50 0 1 (fun _ _ => 0), [(lt, .inr (2, [.ref ta, .ref ldr]))], bLaw g ldr lda 0 (-1) 0 0 0 (fun _ => 0), bMem g mo qT qL it il ig 0 0 0 fT fL, bTown g it ia 0 0 0 20 6 50 0 1 (fun _ _ => 0), bLaw g il ic 0 (-1) 0 0 0 (fun _ => 0), bLog g ig ir 0 0 (fun _ => 0), bTown g t0 ta0 0 0 0 20 6 50 0 1 (fun _ _ => 0), bLog g l0 la0 0 0 (fun _ => 0), bRid g ro af 0 0 (fun _ => 0), [(oa, .inl (g.2 2, 1, .inr (.inl fz2_2)))], bObj g om am th2_4 hi2_5 ac2_6 tp2_7 ba2_8 en2_9 tA2_10 fl2_11 de2_12 iD2_13 iO2_14 tU2_15]) H := hP
  have hD : va_D A (List.flatten [bTape g ta ab 0 0 0 0 0 (-1) (fun _ => 0), bLog g go ar 0 0 (fun _ => 0), [(tt, .inr (8, [.ref ta, .ref td]))], bTown g td tda 0 0 0 20 6 50 0 1 (fun _ _ => 0), [(lt, .inr (2, [.ref ta, .ref ldr]))], bLaw g ldr lda 0 (-1) 0 0 0 (fun _ => 0), bMem g mo qT qL it il ig 0 0 0 fT fL, bTown g it ia 0 0 0 20 6 50 0 1 (fun _ _ => 0), bLaw g il ic 0 (-1) 0 0 0 (fun _ => 0), bLog g ig ir 0 0 (fun _ => 0), bTown g t0 ta0 0 0 0 20 6 50 0 1 (fun _ _ => 0), bLog g l0 la0 0 0 (fun _ => 0), bRid g ro af 0 0 (fun _ => 0), [(oa, .inl (g.2 2, 1, .inr (.inl fz2_2)))], bObj g om am th2_4 hi2_5 ac2_6 tp2_7 ba2_8 en2_9 tA2_10 fl2_11 de2_12 iD2_13 iO2_14 tU2_15]) := hD
  refine W.widen (k := 248) (n := 14997) (Nat.le_of_ble_eq_true rfl) (Nat.le_of_ble_eq_true rfl) ?_
  refine W.eq (g2 := F0 m 1550 ls [.int q_16]) rfl ?_
  rcases hq3 with ⟨hr9, hb9⟩ | ⟨hr9, hg9⟩
  · skip
    rcases hq17 with ⟨ht9, hB9⟩ | ⟨ht9, hG9⟩
    · skip
      subst hr9
      subst ht9
      refine lv_istore (lv' := [(6, .int q_16), (5, .int 1), (4, .int 0), (3, .ref oa), (2, .ref om), (1, .ref x), (0, .ref b)]) hx hb dL_law__1550 hl (by decide) rfl (fun ls hl => ?_)
      refine lv_aload_n hx hb dL_law__1552 rfl (lv_at hl 4 rfl) ?_
      refine mcallV (g := g) (q0 := 0) (ci := 10) (As := []) (rest := []) St hK hT hA hP hD hS hl.1 [14] [0, 1, 2, 3, 4, 5, 6, 7, 8, 9, 10, 11, 12, 13] rfl rfl rfl (m_thrown l g om am 1 hi2_5 ac2_6 tp2_7 ba2_8 en2_9 tA2_10 fl2_11 de2_12 iD2_13 iO2_14 tU2_15 ) (cwV 0 hts (zgL (zl4 k1317 k1318 k1319 k833) k824) rfl rfl rfl (by decide +kernel) ⟨Nat.le_of_ble_eq_true rfl, Nat.le_of_ble_eq_true rfl⟩) rfl rfl rfl rfl (Nat.le_of_ble_eq_true rfl) dL_law__1553 ⟨(Nat.le_of_ble_eq_true rfl), (Nat.le_of_ble_eq_true rfl)⟩ (fun _u H locs hq18 hP hD hS => ?_)
      have hP : va_P g.1 vwCl (List.flatten [bTape g ta ab 0 0 0 0 0 (-1) (fun _ => 0), bLog g go ar 0 0 (fun _ => 0), [(tt, .inr (8, [.ref ta, .ref td]))], bTown g td tda 0 0 0 20 6 50 0 1 (fun _ _ => 0), [(lt, .inr (2, [.ref ta, .ref ldr]))], bLaw g ldr lda 0 (-1) 0 0 0 (fun _ => 0), bMem g mo qT qL it il ig 0 0 0 fT fL, bTown g it ia 0 0 0 20 6 50 0 1 (fun _ _ => 0), bLaw g il ic 0 (-1) 0 0 0 (fun _ => 0), bLog g ig ir 0 0 (fun _ => 0), bTown g t0 ta0 0 0 0 20 6 50 0 1 (fun _ _ => 0), bLog g l0 la0 0 0 (fun _ => 0), bRid g ro af 0 0 (fun _ => 0), [(oa, .inl (g.2 2, 1, .inr (.inl fz2_2)))], bObj g om am 1 hi2_5 ac2_6 tp2_7 ba2_8 en2_9 tA2_10 fl2_11 de2_12 iD2_13 iO2_14 tU2_15]) H := hP
      have hD : va_D A (List.flatten [bTape g ta ab 0 0 0 0 0 (-1) (fun _ => 0), bLog g go ar 0 0 (fun _ => 0), [(tt, .inr (8, [.ref ta, .ref td]))], bTown g td tda 0 0 0 20 6 50 0 1 (fun _ _ => 0), [(lt, .inr (2, [.ref ta, .ref ldr]))], bLaw g ldr lda 0 (-1) 0 0 0 (fun _ => 0), bMem g mo qT qL it il ig 0 0 0 fT fL, bTown g it ia 0 0 0 20 6 50 0 1 (fun _ _ => 0), bLaw g il ic 0 (-1) 0 0 0 (fun _ => 0), bLog g ig ir 0 0 (fun _ => 0), bTown g t0 ta0 0 0 0 20 6 50 0 1 (fun _ _ => 0), bLog g l0 la0 0 0 (fun _ => 0), bRid g ro af 0 0 (fun _ => 0), [(oa, .inl (g.2 2, 1, .inr (.inl fz2_2)))], bObj g om am 1 hi2_5 ac2_6 tp2_7 ba2_8 en2_9 tA2_10 fl2_11 de2_12 iD2_13 iO2_14 tU2_15]) := hD
      refine W.widen (k := 248) (n := 14997) (Nat.le_of_ble_eq_true rfl) (Nat.le_of_ble_eq_true rfl) ?_
      refine W.eq (g2 := F0 m 1556 ls [.int 1]) rfl ?_
      refine lv_iload hx hb dL_law__1556 (lv_at hl 1 rfl) ?_
      refine lv_icmp_eq (tgt := 1563) hx hb dL_law__1558 (by decide) (fun _ => ?_) (fun c19 => absurd (by decide) c19)
      refine lv_iload hx hb dL_law__1563 (lv_at hl 1 rfl) ?_
      refine lv_if_ne (tgt := 1580) hx hb dL_law__1565 (by decide) (fun _ => ?_) (fun c20 => absurd c20 (by decide))
      refine lv_goto (tgt := 2738) hx hb dL_law__1580 (by decide) ?_
      refine lv_iinc (v := 6) (lv' := [(4, .int 6), (6, .int q_16), (5, .int 1), (3, .ref oa), (2, .ref om), (1, .ref x), (0, .ref b)]) hx hb dL_law__2738 hl (k := 2) rfl (by decide) (by decide) rfl (fun ls hl => ?_)
      refine lv_goto (tgt := 23) hx hb dL_law__2741 (by decide) ?_
      refine lv_iload hx hb dL_law__23 (lv_at hl 0 rfl) ?_
      refine lv_aload_n hx hb dL_law__25 rfl (lv_at hl 6 rfl) ?_
      refine va_slen hx hb hX hbl hbA hS dL_law__26 ?_
      refine ztop (r := 6) rfl ?_
      refine lv_bipush (v := 6) hx hb dL_law__27 (by decide) ?_
      refine lv_isub hx hb dL_law__29 ?_
      refine ztop (r := 0) (by decide) ?_
      refine lv_icmp_gt (tgt := 2744) hx hb dL_law__30 (by decide) (fun _ => ?_) (fun c21 => absurd (by decide) c21)
      refine lv_iconst (v := 1) hx hb dL_law__2744 (by decide) ?_
      refine va_forget (fun q hq => by have h9 := hS.2.2 q hq; rw [hAe] at h9; exact h9) ?_
      refine W.widen (k := 600002) (n := 7302232) (Nat.le_of_ble_eq_true rfl) (Nat.le_of_ble_eq_true rfl) ?_
      exact lw_ret hx hb hr hlocks dL_law__2745
    · skip
      exact (hb9.elim hG9.1.1 hG9.1.2).elim
  · skip
    rcases hq17 with ⟨ht9, hB9⟩ | ⟨ht9, hG9⟩
    · skip
      exact (hB9.elim hg9.1.1 hg9.1.2).elim
    · skip
      subst hr9
      subst ht9
      refine lv_istore (lv' := [(6, .int q_16), (5, .int 0), (4, .int 0), (3, .ref oa), (2, .ref om), (1, .ref x), (0, .ref b)]) hx hb dL_law__1550 hl (by decide) rfl (fun ls hl => ?_)
      refine lv_aload_n hx hb dL_law__1552 rfl (lv_at hl 4 rfl) ?_
      refine mcallV (g := g) (q0 := 0) (ci := 10) (As := []) (rest := []) St hK hT hA hP hD hS hl.1 [14] [0, 1, 2, 3, 4, 5, 6, 7, 8, 9, 10, 11, 12, 13] rfl rfl rfl (m_thrown l g om am 0 hi2_5 ac2_6 tp2_7 ba2_8 en2_9 tA2_10 fl2_11 de2_12 iD2_13 iO2_14 tU2_15 ) (cwV 0 hts (zgL (zl4 k1317 k1318 k1319 k833) k824) rfl rfl rfl (by decide +kernel) ⟨Nat.le_of_ble_eq_true rfl, Nat.le_of_ble_eq_true rfl⟩) rfl rfl rfl rfl (Nat.le_of_ble_eq_true rfl) dL_law__1553 ⟨(Nat.le_of_ble_eq_true rfl), (Nat.le_of_ble_eq_true rfl)⟩ (fun _u H locs hq22 hP hD hS => ?_)
      have hP : va_P g.1 vwCl (List.flatten [bTape g ta ab 0 0 0 0 0 (-1) (fun _ => 0), bLog g go ar 0 0 (fun _ => 0), [(tt, .inr (8, [.ref ta, .ref td]))], bTown g td tda 0 0 0 20 6 50 0 1 (fun _ _ => 0), [(lt, .inr (2, [.ref ta, .ref ldr]))], bLaw g ldr lda 0 (-1) 0 0 0 (fun _ => 0), bMem g mo qT qL it il ig 0 0 0 fT fL, bTown g it ia 0 0 0 20 6 50 0 1 (fun _ _ => 0), bLaw g il ic 0 (-1) 0 0 0 (fun _ => 0), bLog g ig ir 0 0 (fun _ => 0), bTown g t0 ta0 0 0 0 20 6 50 0 1 (fun _ _ => 0), bLog g l0 la0 0 0 (fun _ => 0), bRid g ro af 0 0 (fun _ => 0), [(oa, .inl (g.2 2, 1, .inr (.inl fz2_2)))], bObj g om am 0 hi2_5 ac2_6 tp2_7 ba2_8 en2_9 tA2_10 fl2_11 de2_12 iD2_13 iO2_14 tU2_15]) H := hP
      have hD : va_D A (List.flatten [bTape g ta ab 0 0 0 0 0 (-1) (fun _ => 0), bLog g go ar 0 0 (fun _ => 0), [(tt, .inr (8, [.ref ta, .ref td]))], bTown g td tda 0 0 0 20 6 50 0 1 (fun _ _ => 0), [(lt, .inr (2, [.ref ta, .ref ldr]))], bLaw g ldr lda 0 (-1) 0 0 0 (fun _ => 0), bMem g mo qT qL it il ig 0 0 0 fT fL, bTown g it ia 0 0 0 20 6 50 0 1 (fun _ _ => 0), bLaw g il ic 0 (-1) 0 0 0 (fun _ => 0), bLog g ig ir 0 0 (fun _ => 0), bTown g t0 ta0 0 0 0 20 6 50 0 1 (fun _ _ => 0), bLog g l0 la0 0 0 (fun _ => 0), bRid g ro af 0 0 (fun _ => 0), [(oa, .inl (g.2 2, 1, .inr (.inl fz2_2)))], bObj g om am 0 hi2_5 ac2_6 tp2_7 ba2_8 en2_9 tA2_10 fl2_11 de2_12 iD2_13 iO2_14 tU2_15]) := hD
      refine W.widen (k := 248) (n := 14997) (Nat.le_of_ble_eq_true rfl) (Nat.le_of_ble_eq_true rfl) ?_
      refine W.eq (g2 := F0 m 1556 ls [.int 0]) rfl ?_
      refine lv_iload hx hb dL_law__1556 (lv_at hl 1 rfl) ?_
      refine lv_icmp_eq (tgt := 1563) hx hb dL_law__1558 (by decide) (fun _ => ?_) (fun c23 => absurd (by decide) c23)
      refine lv_iload hx hb dL_law__1563 (lv_at hl 1 rfl) ?_
      refine lv_if_ne (tgt := 1580) hx hb dL_law__1565 (by decide) (fun c24 => absurd (by decide) c24) (fun _ => ?_)
      refine lv_aload_n hx hb dL_law__1568 rfl (lv_at hl 3 rfl) ?_
      refine lv_iconst (v := 0) hx hb dL_law__1569 (by decide) ?_
      refine va_lald hx hb hK hP 55 2 rfl rfl (zin rfl) dL_law__1570 ?_
      refine ztopl (r := fz2_2 0) rfl ?_
      refine lv_iload hx hb dL_law__1571 (lv_at hl 0 rfl) ?_
      refine lv_i2l (v := (q_16 : Int32).toInt64) hx hb dL_law__1573 rfl ?_
      refine W.lcmp hx hb dL_law__1574 ?_
      refine lv_if_eq (tgt := 1580) hx hb dL_law__1575 (by decide) (fun _ => ?_) (fun c25 => absurd (by rw [hg9.2, hG9.2]; exact lg_self _) c25)
      refine lv_goto (tgt := 2738) hx hb dL_law__1580 (by decide) ?_
      refine lv_iinc (v := 6) (lv' := [(4, .int 6), (6, .int q_16), (5, .int 0), (3, .ref oa), (2, .ref om), (1, .ref x), (0, .ref b)]) hx hb dL_law__2738 hl (k := 2) rfl (by decide) (by decide) rfl (fun ls hl => ?_)
      refine lv_goto (tgt := 23) hx hb dL_law__2741 (by decide) ?_
      refine lv_iload hx hb dL_law__23 (lv_at hl 0 rfl) ?_
      refine lv_aload_n hx hb dL_law__25 rfl (lv_at hl 6 rfl) ?_
      refine va_slen hx hb hX hbl hbA hS dL_law__26 ?_
      refine ztop (r := 6) rfl ?_
      refine lv_bipush (v := 6) hx hb dL_law__27 (by decide) ?_
      refine lv_isub hx hb dL_law__29 ?_
      refine ztop (r := 0) (by decide) ?_
      refine lv_icmp_gt (tgt := 2744) hx hb dL_law__30 (by decide) (fun _ => ?_) (fun c26 => absurd (by decide) c26)
      refine lv_iconst (v := 1) hx hb dL_law__2744 (by decide) ?_
      refine va_forget (fun q hq => by have h9 := hS.2.2 q hq; rw [hAe] at h9; exact h9) ?_
      refine W.widen (k := 600002) (n := 7302232) (Nat.le_of_ble_eq_true rfl) (Nat.le_of_ble_eq_true rfl) ?_
      exact lw_ret hx hb hr hlocks dL_law__2745
set_option maxRecDepth 100000 in
set_option maxHeartbeats 4000000 in
/-- the law: doubts -/
theorem w_23 {p : Program} {e : Env} {s : State} {m : MethodId} {below : List Frame} {meth : Method} {c : Code} (l : Launch) (hfl : l.stackTraces = false) (g : zG) {b : Nat} {xs : Nat → Int32} {A : Nat → Prop} (hAe : A = fun q => s.heap.size ≤ q) (hA : ∀ q, s.heap.size ≤ q → A q) (hbA : ¬ A b) (St : CallFix p m c cL_law_ 7 s #[Value.ref b] zB RL) (hr : meth.sig.returnType = ret) (hlocks : meth.locks = false) (hX : va_X b 6 xs s s.heap) (hbl : b < s.heap.size) (hK : zK g s) (hT : zTh A s) (x : Nat) (ta : Nat) (o : Nat) (lo : Nat) (go : Nat) (tt : Nat) (lt : Nat) (mo : Nat) (fo : Nat) (ro : Nat) (ab : Nat) (ac : Nat) (ar : Nat) (td : Nat) (a : Nat → Nat) (tda : Nat → Nat) (ldr : Nat) (lda : Nat) (qT : Nat) (qL : Nat) (it : Nat) (il : Nat) (ig : Nat) (fT : Nat → Option Nat) (fL : Nat → Option Nat) (ia : Nat → Nat) (ic : Nat) (ir : Nat) (t0 : Nat) (ta0 : Nat → Nat) (l0 : Nat) (la0 : Nat) (od : Nat) (ad : Nat → Nat) (af : Nat) (om : Nat) (am : Nat → Nat) (m0 : Nat → Int32) (oa : Nat) (hT0 : fT 0 = some t0) (hL0 : fL 0 = some l0) (hm : zMo m0) (h8 : m0 8 = 0) (h10 : m0 10 = 1) (H : Heap) (locs : List Loc) (ls : Array Slot) (hP : va_P g.1 vwCl (List.flatten [bDR g x ta o lo go tt lt mo fo ro (-1), bTape g ta ab 0 0 0 0 0 (-1) (fun _ => 0), bTown g o a 0 0 0 20 6 50 0 1 (fun _ _ => 0), bLaw g lo ac 0 (-1) 0 0 0 (fun _ => 0), bLog g go ar 0 0 (fun _ => 0), [(tt, .inr (8, [.ref ta, .ref td]))], bTown g td tda 0 0 0 20 6 50 0 1 (fun _ _ => 0), [(lt, .inr (2, [.ref ta, .ref ldr]))], bLaw g ldr lda 0 (-1) 0 0 0 (fun _ => 0), bMem g mo qT qL it il ig 0 0 0 fT fL, bTown g it ia 0 0 0 20 6 50 0 1 (fun _ _ => 0), bLaw g il ic 0 (-1) 0 0 0 (fun _ => 0), bLog g ig ir 0 0 (fun _ => 0), bTown g t0 ta0 0 0 0 20 6 50 0 1 (fun _ _ => 0), bLog g l0 la0 0 0 (fun _ => 0), [(fo, .inr (0, [.ref o, .ref lo, .ref od]))], bTown g od ad 0 0 0 20 6 50 0 1 (fun _ _ => 0), bRid g ro af 0 0 (fun _ => 0), bObj g om am 0 0 0 0 0 0 0 (-1) 0 0 0 0, bArr g am (zf [m0, fun _ => 0, fun _ => 0, fun _ => 0, fun _ => 0, fun _ => 0, fun _ => 0, fun _ => 0]), [(oa, .inl (g.2 2, 1, .inr (.inl (fun _ => 0))))]]) H) (hD : va_D A (List.flatten [bDR g x ta o lo go tt lt mo fo ro (-1), bTape g ta ab 0 0 0 0 0 (-1) (fun _ => 0), bTown g o a 0 0 0 20 6 50 0 1 (fun _ _ => 0), bLaw g lo ac 0 (-1) 0 0 0 (fun _ => 0), bLog g go ar 0 0 (fun _ => 0), [(tt, .inr (8, [.ref ta, .ref td]))], bTown g td tda 0 0 0 20 6 50 0 1 (fun _ _ => 0), [(lt, .inr (2, [.ref ta, .ref ldr]))], bLaw g ldr lda 0 (-1) 0 0 0 (fun _ => 0), bMem g mo qT qL it il ig 0 0 0 fT fL, bTown g it ia 0 0 0 20 6 50 0 1 (fun _ _ => 0), bLaw g il ic 0 (-1) 0 0 0 (fun _ => 0), bLog g ig ir 0 0 (fun _ => 0), bTown g t0 ta0 0 0 0 20 6 50 0 1 (fun _ _ => 0), bLog g l0 la0 0 0 (fun _ => 0), [(fo, .inr (0, [.ref o, .ref lo, .ref od]))], bTown g od ad 0 0 0 20 6 50 0 1 (fun _ _ => 0), bRid g ro af 0 0 (fun _ => 0), bObj g om am 0 0 0 0 0 0 0 (-1) 0 0 0 0, bArr g am (zf [m0, fun _ => 0, fun _ => 0, fun _ => 0, fun _ => 0, fun _ => 0, fun _ => 0, fun _ => 0]), [(oa, .inl (g.2 2, 1, .inr (.inl (fun _ => 0))))]])) (hS : va_S A s.heap H locs) (hl : lv_has ls 7 [(4, .int 0), (3, .ref oa), (2, .ref om), (1, .ref x), (0, .ref b)]) : W p l e room_1 s m #[Value.ref b] below meth c H locs 247 14991 (lw_Z below #[Value.ref b] s) (F0 m 1583 ls []) := by
  obtain ⟨hx, hb, hml, hown, hts⟩ := id St
  have hz0 : zZ (fun _ => 0) := zZ0
  refine lv_aload_n hx hb dL_law__1583 rfl (lv_at hl 3 rfl) ?_
  refine mcallV (g := g) (q0 := 0) (ci := 9) (As := []) (rest := []) St hK hT hA hP hD hS hl.1 [0, 2] [1, 3, 4, 5, 6, 7, 8, 9, 10, 11, 12, 13, 14, 15, 16, 17, 18, 19, 20] rfl rfl rfl (c_doubts l g x ta o lo go tt lt mo fo ro (-1) a 0 20 6 50 0 1 (fun _ _ => 0) ) (cwV 0 hts (zgL (zl4 k1422 k1423 k1424 k595) k679) rfl rfl rfl (by decide +kernel) ⟨Nat.le_of_ble_eq_true rfl, Nat.le_of_ble_eq_true rfl⟩) rfl rfl rfl rfl (Nat.le_of_ble_eq_true rfl) dL_law__1584 ⟨(Nat.le_of_ble_eq_true rfl), (Nat.le_of_ble_eq_true rfl)⟩ (fun _u H locs hq1 hP hD hS => ?_)
  have hP : va_P g.1 vwCl (List.flatten [bTape g ta ab 0 0 0 0 0 (-1) (fun _ => 0), bLaw g lo ac 0 (-1) 0 0 0 (fun _ => 0), bLog g go ar 0 0 (fun _ => 0), [(tt, .inr (8, [.ref ta, .ref td]))], bTown g td tda 0 0 0 20 6 50 0 1 (fun _ _ => 0), [(lt, .inr (2, [.ref ta, .ref ldr]))], bLaw g ldr lda 0 (-1) 0 0 0 (fun _ => 0), bMem g mo qT qL it il ig 0 0 0 fT fL, bTown g it ia 0 0 0 20 6 50 0 1 (fun _ _ => 0), bLaw g il ic 0 (-1) 0 0 0 (fun _ => 0), bLog g ig ir 0 0 (fun _ => 0), bTown g t0 ta0 0 0 0 20 6 50 0 1 (fun _ _ => 0), bLog g l0 la0 0 0 (fun _ => 0), [(fo, .inr (0, [.ref o, .ref lo, .ref od]))], bTown g od ad 0 0 0 20 6 50 0 1 (fun _ _ => 0), bRid g ro af 0 0 (fun _ => 0), bObj g om am 0 0 0 0 0 0 0 (-1) 0 0 0 0, bArr g am (zf [m0, fun _ => 0, fun _ => 0, fun _ => 0, fun _ => 0, fun _ => 0, fun _ => 0, fun _ => 0]), [(oa, .inl (g.2 2, 1, .inr (.inl (fun _ => 0))))]]) H := hP
  have hD : va_D A (List.flatten [bTape g ta ab 0 0 0 0 0 (-1) (fun _ => 0), bLaw g lo ac 0 (-1) 0 0 0 (fun _ => 0), bLog g go ar 0 0 (fun _ => 0), [(tt, .inr (8, [.ref ta, .ref td]))], bTown g td tda 0 0 0 20 6 50 0 1 (fun _ _ => 0), [(lt, .inr (2, [.ref ta, .ref ldr]))], bLaw g ldr lda 0 (-1) 0 0 0 (fun _ => 0), bMem g mo qT qL it il ig 0 0 0 fT fL, bTown g it ia 0 0 0 20 6 50 0 1 (fun _ _ => 0), bLaw g il ic 0 (-1) 0 0 0 (fun _ => 0), bLog g ig ir 0 0 (fun _ => 0), bTown g t0 ta0 0 0 0 20 6 50 0 1 (fun _ _ => 0), bLog g l0 la0 0 0 (fun _ => 0), [(fo, .inr (0, [.ref o, .ref lo, .ref od]))], bTown g od ad 0 0 0 20 6 50 0 1 (fun _ _ => 0), bRid g ro af 0 0 (fun _ => 0), bObj g om am 0 0 0 0 0 0 0 (-1) 0 0 0 0, bArr g am (zf [m0, fun _ => 0, fun _ => 0, fun _ => 0, fun _ => 0, fun _ => 0, fun _ => 0, fun _ => 0]), [(oa, .inl (g.2 2, 1, .inr (.inl (fun _ => 0))))]]) := hD
  refine W.widen (k := 247) (n := 14991) (Nat.le_of_ble_eq_true rfl) (Nat.le_of_ble_eq_true rfl) ?_
  refine W.eq (g2 := F0 m 1587 ls [.int 0]) rfl ?_
  refine lv_aload_n hx hb dL_law__1587 rfl (lv_at hl 2 rfl) ?_
  refine mcallV (g := g) (q0 := 0) (ci := 10) (As := []) (rest := [.int 0]) St hK hT hA hP hD hS hl.1 [16, 17] [0, 1, 2, 3, 4, 5, 6, 7, 8, 9, 10, 11, 12, 13, 14, 15, 18] rfl rfl rfl (m_doubts l g om am 0 0 0 0 0 0 0 (-1) 0 0 0 0 (zf [m0, fun _ => 0, fun _ => 0, fun _ => 0, fun _ => 0, fun _ => 0, fun _ => 0, fun _ => 0]) (by assumption)) (cwV 0 hts (zgL (zl4 k1425 k1426 k1427 k833) k1074) rfl rfl rfl (by decide +kernel) ⟨Nat.le_of_ble_eq_true rfl, Nat.le_of_ble_eq_true rfl⟩) rfl rfl rfl rfl (Nat.le_of_ble_eq_true rfl) dL_law__1588 ⟨(Nat.le_of_ble_eq_true rfl), (Nat.le_of_ble_eq_true rfl)⟩ (fun u_ H locs hq15 hP hD hS => ?_)
  obtain ⟨th2_2, hi2_3, ac2_4, tp2_5, ba2_6, en2_7, tA2_8, fl2_9, de2_10, iD2_11, iO2_12, tU2_13, q_14⟩ := u_
  have hq15 : th2_2 = 0 ∧ q_14 = 0 := hq15
  have hP : va_P g.1 vwCl (List.flatten [bTape g ta ab 0 0 0 0 0 (-1) (fun _ => 0), bLaw g lo ac 0 (-1) 0 0 0 (fun _ => 0), bLog g go ar 0 0 (fun _ => 0), [(tt, .inr (8, [.ref ta, .ref td]))], bTown g td tda 0 0 0 20 6 50 0 1 (fun _ _ => 0), [(lt, .inr (2, [.ref ta, .ref ldr]))], bLaw g ldr lda 0 (-1) 0 0 0 (fun _ => 0), bMem g mo qT qL it il ig 0 0 0 fT fL, bTown g it ia 0 0 0 20 6 50 0 1 (fun _ _ => 0), bLaw g il ic 0 (-1) 0 0 0 (fun _ => 0), bLog g ig ir 0 0 (fun _ => 0), bTown g t0 ta0 0 0 0 20 6 50 0 1 (fun _ _ => 0), bLog g l0 la0 0 0 (fun _ => 0), [(fo, .inr (0, [.ref o, .ref lo, .ref od]))], bTown g od ad 0 0 0 20 6 50 0 1 (fun _ _ => 0), bRid g ro af 0 0 (fun _ => 0), [(oa, .inl (g.2 2, 1, .inr (.inl (fun _ => 0))))], bObj g om am th2_2 hi2_3 ac2_4 tp2_5 ba2_6 en2_7 tA2_8 fl2_9 de2_10 iD2_11 iO2_12 tU2_13]) H := hP
  have hD : va_D A (List.flatten [bTape g ta ab 0 0 0 0 0 (-1) (fun _ => 0), bLaw g lo ac 0 (-1) 0 0 0 (fun _ => 0), bLog g go ar 0 0 (fun _ => 0), [(tt, .inr (8, [.ref ta, .ref td]))], bTown g td tda 0 0 0 20 6 50 0 1 (fun _ _ => 0), [(lt, .inr (2, [.ref ta, .ref ldr]))], bLaw g ldr lda 0 (-1) 0 0 0 (fun _ => 0), bMem g mo qT qL it il ig 0 0 0 fT fL, bTown g it ia 0 0 0 20 6 50 0 1 (fun _ _ => 0), bLaw g il ic 0 (-1) 0 0 0 (fun _ => 0), bLog g ig ir 0 0 (fun _ => 0), bTown g t0 ta0 0 0 0 20 6 50 0 1 (fun _ _ => 0), bLog g l0 la0 0 0 (fun _ => 0), [(fo, .inr (0, [.ref o, .ref lo, .ref od]))], bTown g od ad 0 0 0 20 6 50 0 1 (fun _ _ => 0), bRid g ro af 0 0 (fun _ => 0), [(oa, .inl (g.2 2, 1, .inr (.inl (fun _ => 0))))], bObj g om am th2_2 hi2_3 ac2_4 tp2_5 ba2_6 en2_7 tA2_8 fl2_9 de2_10 iD2_11 iO2_12 tU2_13]) := hD
  refine W.widen (k := 247) (n := 14991) (Nat.le_of_ble_eq_true rfl) (Nat.le_of_ble_eq_true rfl) ?_
  refine W.eq (g2 := F0 m 1591 ls [.int q_14, .int 0]) rfl ?_
  refine lv_icmp_eq (tgt := 2738) hx hb dL_law__1591 (by decide) (fun _ => ?_) (fun c16 => absurd ((hq15.2).symm) c16)
  refine lv_iinc (v := 6) (lv' := [(4, .int 6), (3, .ref oa), (2, .ref om), (1, .ref x), (0, .ref b)]) hx hb dL_law__2738 hl (k := 0) rfl (by decide) (by decide) rfl (fun ls hl => ?_)
  refine lv_goto (tgt := 23) hx hb dL_law__2741 (by decide) ?_
  refine lv_iload hx hb dL_law__23 (lv_at hl 0 rfl) ?_
  refine lv_aload_n hx hb dL_law__25 rfl (lv_at hl 4 rfl) ?_
  refine va_slen hx hb hX hbl hbA hS dL_law__26 ?_
  refine ztop (r := 6) rfl ?_
  refine lv_bipush (v := 6) hx hb dL_law__27 (by decide) ?_
  refine lv_isub hx hb dL_law__29 ?_
  refine ztop (r := 0) (by decide) ?_
  refine lv_icmp_gt (tgt := 2744) hx hb dL_law__30 (by decide) (fun _ => ?_) (fun c17 => absurd (by decide) c17)
  refine lv_iconst (v := 1) hx hb dL_law__2744 (by decide) ?_
  refine va_forget (fun q hq => by have h9 := hS.2.2 q hq; rw [hAe] at h9; exact h9) ?_
  refine W.widen (k := 600002) (n := 7302232) (Nat.le_of_ble_eq_true rfl) (Nat.le_of_ble_eq_true rfl) ?_
  exact lw_ret hx hb hr hlocks dL_law__2745
set_option maxRecDepth 100000 in
set_option maxHeartbeats 4000000 in
/-- the law: ruin -/
theorem w_24 {p : Program} {e : Env} {s : State} {m : MethodId} {below : List Frame} {meth : Method} {c : Code} (l : Launch) (hfl : l.stackTraces = false) (g : zG) {b : Nat} {xs : Nat → Int32} {A : Nat → Prop} (hAe : A = fun q => s.heap.size ≤ q) (hA : ∀ q, s.heap.size ≤ q → A q) (hbA : ¬ A b) (St : CallFix p m c cL_law_ 7 s #[Value.ref b] zB RL) (hr : meth.sig.returnType = ret) (hlocks : meth.locks = false) (hX : va_X b 6 xs s s.heap) (hbl : b < s.heap.size) (hK : zK g s) (hT : zTh A s) (x : Nat) (ta : Nat) (o : Nat) (lo : Nat) (go : Nat) (tt : Nat) (lt : Nat) (mo : Nat) (fo : Nat) (ro : Nat) (ab : Nat) (ac : Nat) (ar : Nat) (td : Nat) (a : Nat → Nat) (tda : Nat → Nat) (ldr : Nat) (lda : Nat) (qT : Nat) (qL : Nat) (it : Nat) (il : Nat) (ig : Nat) (fT : Nat → Option Nat) (fL : Nat → Option Nat) (ia : Nat → Nat) (ic : Nat) (ir : Nat) (t0 : Nat) (ta0 : Nat → Nat) (l0 : Nat) (la0 : Nat) (od : Nat) (ad : Nat → Nat) (af : Nat) (om : Nat) (am : Nat → Nat) (m0 : Nat → Int32) (oa : Nat) (hT0 : fT 0 = some t0) (hL0 : fL 0 = some l0) (hm : zMo m0) (h8 : m0 8 = 0) (h10 : m0 10 = 1) (H : Heap) (locs : List Loc) (ls : Array Slot) (hP : va_P g.1 vwCl (List.flatten [bDR g x ta o lo go tt lt mo fo ro (-1), bTape g ta ab 0 0 0 0 0 (-1) (fun _ => 0), bTown g o a 0 0 0 20 6 50 0 1 (fun _ _ => 0), bLaw g lo ac 0 (-1) 0 0 0 (fun _ => 0), bLog g go ar 0 0 (fun _ => 0), [(tt, .inr (8, [.ref ta, .ref td]))], bTown g td tda 0 0 0 20 6 50 0 1 (fun _ _ => 0), [(lt, .inr (2, [.ref ta, .ref ldr]))], bLaw g ldr lda 0 (-1) 0 0 0 (fun _ => 0), bMem g mo qT qL it il ig 0 0 0 fT fL, bTown g it ia 0 0 0 20 6 50 0 1 (fun _ _ => 0), bLaw g il ic 0 (-1) 0 0 0 (fun _ => 0), bLog g ig ir 0 0 (fun _ => 0), bTown g t0 ta0 0 0 0 20 6 50 0 1 (fun _ _ => 0), bLog g l0 la0 0 0 (fun _ => 0), [(fo, .inr (0, [.ref o, .ref lo, .ref od]))], bTown g od ad 0 0 0 20 6 50 0 1 (fun _ _ => 0), bRid g ro af 0 0 (fun _ => 0), bObj g om am 0 0 0 0 0 0 0 (-1) 0 0 0 0, bArr g am (zf [m0, fun _ => 0, fun _ => 0, fun _ => 0, fun _ => 0, fun _ => 0, fun _ => 0, fun _ => 0]), [(oa, .inl (g.2 2, 1, .inr (.inl (fun _ => 0))))]]) H) (hD : va_D A (List.flatten [bDR g x ta o lo go tt lt mo fo ro (-1), bTape g ta ab 0 0 0 0 0 (-1) (fun _ => 0), bTown g o a 0 0 0 20 6 50 0 1 (fun _ _ => 0), bLaw g lo ac 0 (-1) 0 0 0 (fun _ => 0), bLog g go ar 0 0 (fun _ => 0), [(tt, .inr (8, [.ref ta, .ref td]))], bTown g td tda 0 0 0 20 6 50 0 1 (fun _ _ => 0), [(lt, .inr (2, [.ref ta, .ref ldr]))], bLaw g ldr lda 0 (-1) 0 0 0 (fun _ => 0), bMem g mo qT qL it il ig 0 0 0 fT fL, bTown g it ia 0 0 0 20 6 50 0 1 (fun _ _ => 0), bLaw g il ic 0 (-1) 0 0 0 (fun _ => 0), bLog g ig ir 0 0 (fun _ => 0), bTown g t0 ta0 0 0 0 20 6 50 0 1 (fun _ _ => 0), bLog g l0 la0 0 0 (fun _ => 0), [(fo, .inr (0, [.ref o, .ref lo, .ref od]))], bTown g od ad 0 0 0 20 6 50 0 1 (fun _ _ => 0), bRid g ro af 0 0 (fun _ => 0), bObj g om am 0 0 0 0 0 0 0 (-1) 0 0 0 0, bArr g am (zf [m0, fun _ => 0, fun _ => 0, fun _ => 0, fun _ => 0, fun _ => 0, fun _ => 0, fun _ => 0]), [(oa, .inl (g.2 2, 1, .inr (.inl (fun _ => 0))))]])) (hS : va_S A s.heap H locs) (hl : lv_has ls 7 [(4, .int 0), (3, .ref oa), (2, .ref om), (1, .ref x), (0, .ref b)]) : W p l e room_1 s m #[Value.ref b] below meth c H locs 247 14991 (lw_Z below #[Value.ref b] s) (F0 m 1596 ls []) := by
  obtain ⟨hx, hb, hml, hown, hts⟩ := id St
  have hz0 : zZ (fun _ => 0) := zZ0
  refine lv_aload_n hx hb dL_law__1596 rfl (lv_at hl 3 rfl) ?_
  refine mcallV (g := g) (q0 := 0) (ci := 9) (As := []) (rest := []) St hK hT hA hP hD hS hl.1 [0, 2, 15, 3, 16] [1, 4, 5, 6, 7, 8, 9, 10, 11, 12, 13, 14, 17, 18, 19, 20] rfl rfl rfl (c_ruin l g x ta o lo go tt lt mo fo ro (-1) a 0 20 6 50 0 1 (fun _ _ => 0) ac 0 (-1) 0 0 0 (fun _ => 0) od ad 0 0 0 20 6 50 0 1 (fun _ _ => 0) (by assumption)) (cwV 0 hts (zgL (zl4 k1428 k1429 k1430 k595) k684) rfl rfl rfl (by decide +kernel) ⟨Nat.le_of_ble_eq_true rfl, Nat.le_of_ble_eq_true rfl⟩) rfl rfl rfl rfl (Nat.le_of_ble_eq_true rfl) dL_law__1597 ⟨(Nat.le_of_ble_eq_true rfl), (Nat.le_of_ble_eq_true rfl)⟩ (fun _u H locs hq1 hP hD hS => ?_)
  have hP : va_P g.1 vwCl (List.flatten [bTape g ta ab 0 0 0 0 0 (-1) (fun _ => 0), bLog g go ar 0 0 (fun _ => 0), [(tt, .inr (8, [.ref ta, .ref td]))], bTown g td tda 0 0 0 20 6 50 0 1 (fun _ _ => 0), [(lt, .inr (2, [.ref ta, .ref ldr]))], bLaw g ldr lda 0 (-1) 0 0 0 (fun _ => 0), bMem g mo qT qL it il ig 0 0 0 fT fL, bTown g it ia 0 0 0 20 6 50 0 1 (fun _ _ => 0), bLaw g il ic 0 (-1) 0 0 0 (fun _ => 0), bLog g ig ir 0 0 (fun _ => 0), bTown g t0 ta0 0 0 0 20 6 50 0 1 (fun _ _ => 0), bLog g l0 la0 0 0 (fun _ => 0), bRid g ro af 0 0 (fun _ => 0), bObj g om am 0 0 0 0 0 0 0 (-1) 0 0 0 0, bArr g am (zf [m0, fun _ => 0, fun _ => 0, fun _ => 0, fun _ => 0, fun _ => 0, fun _ => 0, fun _ => 0]), [(oa, .inl (g.2 2, 1, .inr (.inl (fun _ => 0))))]]) H := hP
  have hD : va_D A (List.flatten [bTape g ta ab 0 0 0 0 0 (-1) (fun _ => 0), bLog g go ar 0 0 (fun _ => 0), [(tt, .inr (8, [.ref ta, .ref td]))], bTown g td tda 0 0 0 20 6 50 0 1 (fun _ _ => 0), [(lt, .inr (2, [.ref ta, .ref ldr]))], bLaw g ldr lda 0 (-1) 0 0 0 (fun _ => 0), bMem g mo qT qL it il ig 0 0 0 fT fL, bTown g it ia 0 0 0 20 6 50 0 1 (fun _ _ => 0), bLaw g il ic 0 (-1) 0 0 0 (fun _ => 0), bLog g ig ir 0 0 (fun _ => 0), bTown g t0 ta0 0 0 0 20 6 50 0 1 (fun _ _ => 0), bLog g l0 la0 0 0 (fun _ => 0), bRid g ro af 0 0 (fun _ => 0), bObj g om am 0 0 0 0 0 0 0 (-1) 0 0 0 0, bArr g am (zf [m0, fun _ => 0, fun _ => 0, fun _ => 0, fun _ => 0, fun _ => 0, fun _ => 0, fun _ => 0]), [(oa, .inl (g.2 2, 1, .inr (.inl (fun _ => 0))))]]) := hD
  refine W.widen (k := 247) (n := 14991) (Nat.le_of_ble_eq_true rfl) (Nat.le_of_ble_eq_true rfl) ?_
  refine W.eq (g2 := F0 m 1600 ls [.int (-1)]) rfl ?_
  refine lv_aload_n hx hb dL_law__1600 rfl (lv_at hl 2 rfl) ?_
  refine mcallV (g := g) (q0 := 0) (ci := 10) (As := []) (rest := [.int (-1)]) St hK hT hA hP hD hS hl.1 [13, 14] [0, 1, 2, 3, 4, 5, 6, 7, 8, 9, 10, 11, 12, 15] rfl rfl rfl (m_ruin l g om am 0 0 0 0 0 0 0 (-1) 0 0 0 0 (zf [m0, fun _ => 0, fun _ => 0, fun _ => 0, fun _ => 0, fun _ => 0, fun _ => 0, fun _ => 0]) (by assumption)) (cwV 0 hts (zgL (zl4 k1431 k1432 k1433 k833) k1078) rfl rfl rfl (by decide +kernel) ⟨Nat.le_of_ble_eq_true rfl, Nat.le_of_ble_eq_true rfl⟩) rfl rfl rfl rfl (Nat.le_of_ble_eq_true rfl) dL_law__1601 ⟨(Nat.le_of_ble_eq_true rfl), (Nat.le_of_ble_eq_true rfl)⟩ (fun u_ H locs hq15 hP hD hS => ?_)
  obtain ⟨th2_2, hi2_3, ac2_4, tp2_5, ba2_6, en2_7, tA2_8, fl2_9, de2_10, iD2_11, iO2_12, tU2_13, q_14⟩ := u_
  have hq15 : th2_2 = 0 ∧ q_14 = -1 := hq15
  have hP : va_P g.1 vwCl (List.flatten [bTape g ta ab 0 0 0 0 0 (-1) (fun _ => 0), bLog g go ar 0 0 (fun _ => 0), [(tt, .inr (8, [.ref ta, .ref td]))], bTown g td tda 0 0 0 20 6 50 0 1 (fun _ _ => 0), [(lt, .inr (2, [.ref ta, .ref ldr]))], bLaw g ldr lda 0 (-1) 0 0 0 (fun _ => 0), bMem g mo qT qL it il ig 0 0 0 fT fL, bTown g it ia 0 0 0 20 6 50 0 1 (fun _ _ => 0), bLaw g il ic 0 (-1) 0 0 0 (fun _ => 0), bLog g ig ir 0 0 (fun _ => 0), bTown g t0 ta0 0 0 0 20 6 50 0 1 (fun _ _ => 0), bLog g l0 la0 0 0 (fun _ => 0), bRid g ro af 0 0 (fun _ => 0), [(oa, .inl (g.2 2, 1, .inr (.inl (fun _ => 0))))], bObj g om am th2_2 hi2_3 ac2_4 tp2_5 ba2_6 en2_7 tA2_8 fl2_9 de2_10 iD2_11 iO2_12 tU2_13]) H := hP
  have hD : va_D A (List.flatten [bTape g ta ab 0 0 0 0 0 (-1) (fun _ => 0), bLog g go ar 0 0 (fun _ => 0), [(tt, .inr (8, [.ref ta, .ref td]))], bTown g td tda 0 0 0 20 6 50 0 1 (fun _ _ => 0), [(lt, .inr (2, [.ref ta, .ref ldr]))], bLaw g ldr lda 0 (-1) 0 0 0 (fun _ => 0), bMem g mo qT qL it il ig 0 0 0 fT fL, bTown g it ia 0 0 0 20 6 50 0 1 (fun _ _ => 0), bLaw g il ic 0 (-1) 0 0 0 (fun _ => 0), bLog g ig ir 0 0 (fun _ => 0), bTown g t0 ta0 0 0 0 20 6 50 0 1 (fun _ _ => 0), bLog g l0 la0 0 0 (fun _ => 0), bRid g ro af 0 0 (fun _ => 0), [(oa, .inl (g.2 2, 1, .inr (.inl (fun _ => 0))))], bObj g om am th2_2 hi2_3 ac2_4 tp2_5 ba2_6 en2_7 tA2_8 fl2_9 de2_10 iD2_11 iO2_12 tU2_13]) := hD
  refine W.widen (k := 247) (n := 14991) (Nat.le_of_ble_eq_true rfl) (Nat.le_of_ble_eq_true rfl) ?_
  refine W.eq (g2 := F0 m 1604 ls [.int q_14, .int (-1)]) rfl ?_
  refine lv_icmp_eq (tgt := 2738) hx hb dL_law__1604 (by decide) (fun _ => ?_) (fun c16 => absurd ((hq15.2).symm) c16)
  refine lv_iinc (v := 6) (lv' := [(4, .int 6), (3, .ref oa), (2, .ref om), (1, .ref x), (0, .ref b)]) hx hb dL_law__2738 hl (k := 0) rfl (by decide) (by decide) rfl (fun ls hl => ?_)
  refine lv_goto (tgt := 23) hx hb dL_law__2741 (by decide) ?_
  refine lv_iload hx hb dL_law__23 (lv_at hl 0 rfl) ?_
  refine lv_aload_n hx hb dL_law__25 rfl (lv_at hl 4 rfl) ?_
  refine va_slen hx hb hX hbl hbA hS dL_law__26 ?_
  refine ztop (r := 6) rfl ?_
  refine lv_bipush (v := 6) hx hb dL_law__27 (by decide) ?_
  refine lv_isub hx hb dL_law__29 ?_
  refine ztop (r := 0) (by decide) ?_
  refine lv_icmp_gt (tgt := 2744) hx hb dL_law__30 (by decide) (fun _ => ?_) (fun c17 => absurd (by decide) c17)
  refine lv_iconst (v := 1) hx hb dL_law__2744 (by decide) ?_
  refine va_forget (fun q hq => by have h9 := hS.2.2 q hq; rw [hAe] at h9; exact h9) ?_
  refine W.widen (k := 600002) (n := 7302232) (Nat.le_of_ble_eq_true rfl) (Nat.le_of_ble_eq_true rfl) ?_
  exact lw_ret hx hb hr hlocks dL_law__2745
set_option maxRecDepth 100000 in
set_option maxHeartbeats 4000000 in
/-- the law: dearest -/
theorem w_25 {p : Program} {e : Env} {s : State} {m : MethodId} {below : List Frame} {meth : Method} {c : Code} (l : Launch) (hfl : l.stackTraces = false) (g : zG) {b : Nat} {xs : Nat → Int32} {A : Nat → Prop} (hAe : A = fun q => s.heap.size ≤ q) (hA : ∀ q, s.heap.size ≤ q → A q) (hbA : ¬ A b) (St : CallFix p m c cL_law_ 7 s #[Value.ref b] zB RL) (hr : meth.sig.returnType = ret) (hlocks : meth.locks = false) (hX : va_X b 6 xs s s.heap) (hbl : b < s.heap.size) (hK : zK g s) (hT : zTh A s) (x : Nat) (ta : Nat) (o : Nat) (lo : Nat) (go : Nat) (tt : Nat) (lt : Nat) (mo : Nat) (fo : Nat) (ro : Nat) (ab : Nat) (ac : Nat) (ar : Nat) (td : Nat) (a : Nat → Nat) (tda : Nat → Nat) (ldr : Nat) (lda : Nat) (qT : Nat) (qL : Nat) (it : Nat) (il : Nat) (ig : Nat) (fT : Nat → Option Nat) (fL : Nat → Option Nat) (ia : Nat → Nat) (ic : Nat) (ir : Nat) (t0 : Nat) (ta0 : Nat → Nat) (l0 : Nat) (la0 : Nat) (od : Nat) (ad : Nat → Nat) (af : Nat) (om : Nat) (am : Nat → Nat) (m0 : Nat → Int32) (oa : Nat) (hT0 : fT 0 = some t0) (hL0 : fL 0 = some l0) (hm : zMo m0) (h8 : m0 8 = 0) (h10 : m0 10 = 1) (H : Heap) (locs : List Loc) (ls : Array Slot) (hP : va_P g.1 vwCl (List.flatten [bDR g x ta o lo go tt lt mo fo ro (-1), bTape g ta ab 0 0 0 0 0 (-1) (fun _ => 0), bTown g o a 0 0 0 20 6 50 0 1 (fun _ _ => 0), bLaw g lo ac 0 (-1) 0 0 0 (fun _ => 0), bLog g go ar 0 0 (fun _ => 0), [(tt, .inr (8, [.ref ta, .ref td]))], bTown g td tda 0 0 0 20 6 50 0 1 (fun _ _ => 0), [(lt, .inr (2, [.ref ta, .ref ldr]))], bLaw g ldr lda 0 (-1) 0 0 0 (fun _ => 0), bMem g mo qT qL it il ig 0 0 0 fT fL, bTown g it ia 0 0 0 20 6 50 0 1 (fun _ _ => 0), bLaw g il ic 0 (-1) 0 0 0 (fun _ => 0), bLog g ig ir 0 0 (fun _ => 0), bTown g t0 ta0 0 0 0 20 6 50 0 1 (fun _ _ => 0), bLog g l0 la0 0 0 (fun _ => 0), [(fo, .inr (0, [.ref o, .ref lo, .ref od]))], bTown g od ad 0 0 0 20 6 50 0 1 (fun _ _ => 0), bRid g ro af 0 0 (fun _ => 0), bObj g om am 0 0 0 0 0 0 0 (-1) 0 0 0 0, bArr g am (zf [m0, fun _ => 0, fun _ => 0, fun _ => 0, fun _ => 0, fun _ => 0, fun _ => 0, fun _ => 0]), [(oa, .inl (g.2 2, 1, .inr (.inl (fun _ => 0))))]]) H) (hD : va_D A (List.flatten [bDR g x ta o lo go tt lt mo fo ro (-1), bTape g ta ab 0 0 0 0 0 (-1) (fun _ => 0), bTown g o a 0 0 0 20 6 50 0 1 (fun _ _ => 0), bLaw g lo ac 0 (-1) 0 0 0 (fun _ => 0), bLog g go ar 0 0 (fun _ => 0), [(tt, .inr (8, [.ref ta, .ref td]))], bTown g td tda 0 0 0 20 6 50 0 1 (fun _ _ => 0), [(lt, .inr (2, [.ref ta, .ref ldr]))], bLaw g ldr lda 0 (-1) 0 0 0 (fun _ => 0), bMem g mo qT qL it il ig 0 0 0 fT fL, bTown g it ia 0 0 0 20 6 50 0 1 (fun _ _ => 0), bLaw g il ic 0 (-1) 0 0 0 (fun _ => 0), bLog g ig ir 0 0 (fun _ => 0), bTown g t0 ta0 0 0 0 20 6 50 0 1 (fun _ _ => 0), bLog g l0 la0 0 0 (fun _ => 0), [(fo, .inr (0, [.ref o, .ref lo, .ref od]))], bTown g od ad 0 0 0 20 6 50 0 1 (fun _ _ => 0), bRid g ro af 0 0 (fun _ => 0), bObj g om am 0 0 0 0 0 0 0 (-1) 0 0 0 0, bArr g am (zf [m0, fun _ => 0, fun _ => 0, fun _ => 0, fun _ => 0, fun _ => 0, fun _ => 0, fun _ => 0]), [(oa, .inl (g.2 2, 1, .inr (.inl (fun _ => 0))))]])) (hS : va_S A s.heap H locs) (hl : lv_has ls 7 [(4, .int 0), (3, .ref oa), (2, .ref om), (1, .ref x), (0, .ref b)]) : W p l e room_1 s m #[Value.ref b] below meth c H locs 247 14991 (lw_Z below #[Value.ref b] s) (F0 m 1609 ls []) := by
  obtain ⟨hx, hb, hml, hown, hts⟩ := id St
  have hz0 : zZ (fun _ => 0) := zZ0
  refine lv_aload_n hx hb dL_law__1609 rfl (lv_at hl 3 rfl) ?_
  refine lv_aload_n hx hb dL_law__1610 rfl (lv_at hl 4 rfl) ?_
  refine lv_iload hx hb dL_law__1611 (lv_at hl 0 rfl) ?_
  refine lv_iconst (v := 1) hx hb dL_law__1613 (by decide) ?_
  refine lv_iadd hx hb dL_law__1614 ?_
  refine ztop (r := 1) (by decide) ?_
  refine va_sld hx hb hX hbl hbA hS (zin rfl) dL_law__1615 ?_
  refine ztop (r := xs 1) rfl ?_
  refine lv_aload_n hx hb dL_law__1616 rfl (lv_at hl 4 rfl) ?_
  refine lv_iload hx hb dL_law__1617 (lv_at hl 0 rfl) ?_
  refine lv_iconst (v := 2) hx hb dL_law__1619 (by decide) ?_
  refine lv_iadd hx hb dL_law__1620 ?_
  refine ztop (r := 2) (by decide) ?_
  refine va_sld hx hb hX hbl hbA hS (zin rfl) dL_law__1621 ?_
  refine ztop (r := xs 2) rfl ?_
  refine lv_if_eq (tgt := 1629) hx hb dL_law__1622 (by decide) (fun cZ => ?_) (fun cZ => ?_)
  · skip
    refine lv_iconst (v := 0) hx hb dL_law__1629 (by decide) ?_
    refine lv_aload_n hx hb dL_law__1630 rfl (lv_at hl 1 rfl) ?_
    refine xcallSX (g := g) (As := [.ref x, .int (xs 1), .int 0, .ref oa]) (rest := []) St hK hT hA hP hD hS hl.1 [0, 2, 15, 3, 16, 20] [1, 4, 5, 6, 7, 8, 9, 10, 11, 12, 13, 14, 17, 18, 19] rfl rfl rfl (l_dearest l hfl g x ta o lo go tt lt mo fo ro (-1) a 0 20 6 50 0 1 (fun _ _ => 0) ac 0 (-1) 0 0 0 (fun _ => 0) od ad 0 0 0 20 6 50 0 1 (fun _ _ => 0) (xs 1) 0 oa (fun _ => 0) (by assumption)) (vx_cwSW 4 hts (zgL (zl3 k1434 k1435 k1313) k1237) rfl rfl rfl (by decide +kernel) ⟨Nat.le_of_ble_eq_true rfl, Nat.le_of_ble_eq_true rfl⟩) rfl rfl (Nat.le_of_ble_eq_true rfl) dL_law__1631 ⟨(Nat.le_of_ble_eq_true rfl), (Nat.le_of_ble_eq_true rfl)⟩ (fun E ce q9 u9 H locs hpx hP hD hS hce hcv hcl => hpx.elim) (fun u_ H locs hq5 hP hD hS => ?_)
    obtain ⟨r_2, fz2_3, q_4⟩ := u_
    have hq5 : (r_2 = 1 ∧ ((xs 1) < 0 ∨ 100 < (xs 1))) ∨ (r_2 = 0 ∧ ((¬ (xs 1) < 0 ∧ ¬ 100 < (xs 1)) ∧ q_4 = if 0 = 0 then 0 else 1) ∧ fz2_3 0 = (q_4 : Int32).toInt64) := hq5
    have hP : va_P g.1 vwCl (List.flatten [bTape g ta ab 0 0 0 0 0 (-1) (fun _ => 0), bLog g go ar 0 0 (fun _ => 0), [(tt, .inr (8, [.ref ta, .ref td]))], bTown g td tda 0 0 0 20 6 50 0 1 (fun _ _ => 0), [(lt, .inr (2, [.ref ta, .ref ldr]))], bLaw g ldr lda 0 (-1) 0 0 0 (fun _ => 0), bMem g mo qT qL it il ig 0 0 0 fT fL, bTown g it ia 0 0 0 20 6 50 0 1 (fun _ _ => 0), bLaw g il ic 0 (-1) 0 0 0 (fun _ => 0), bLog g ig ir 0 0 (fun _ => 0), bTown g t0 ta0 0 0 0 20 6 50 0 1 (fun _ _ => 0), bLog g l0 la0 0 0 (fun _ => 0), bRid g ro af 0 0 (fun _ => 0), bObj g om am 0 0 0 0 0 0 0 (-1) 0 0 0 0, bArr g am (zf [m0, fun _ => 0, fun _ => 0, fun _ => 0, fun _ => 0, fun _ => 0, fun _ => 0, fun _ => 0]), [(oa, .inl (g.2 2, 1, .inr (.inl fz2_3)))]]) H := hP
    have hD : va_D A (List.flatten [bTape g ta ab 0 0 0 0 0 (-1) (fun _ => 0), bLog g go ar 0 0 (fun _ => 0), [(tt, .inr (8, [.ref ta, .ref td]))], bTown g td tda 0 0 0 20 6 50 0 1 (fun _ _ => 0), [(lt, .inr (2, [.ref ta, .ref ldr]))], bLaw g ldr lda 0 (-1) 0 0 0 (fun _ => 0), bMem g mo qT qL it il ig 0 0 0 fT fL, bTown g it ia 0 0 0 20 6 50 0 1 (fun _ _ => 0), bLaw g il ic 0 (-1) 0 0 0 (fun _ => 0), bLog g ig ir 0 0 (fun _ => 0), bTown g t0 ta0 0 0 0 20 6 50 0 1 (fun _ _ => 0), bLog g l0 la0 0 0 (fun _ => 0), bRid g ro af 0 0 (fun _ => 0), bObj g om am 0 0 0 0 0 0 0 (-1) 0 0 0 0, bArr g am (zf [m0, fun _ => 0, fun _ => 0, fun _ => 0, fun _ => 0, fun _ => 0, fun _ => 0, fun _ => 0]), [(oa, .inl (g.2 2, 1, .inr (.inl fz2_3)))]]) := hD
    refine W.widen (k := 248) (n := 14997) (Nat.le_of_ble_eq_true rfl) (Nat.le_of_ble_eq_true rfl) ?_
    refine W.eq (g2 := F0 m 1634 ls [.int r_2]) rfl ?_
    refine lv_istore (lv' := [(5, .int r_2), (4, .int 0), (3, .ref oa), (2, .ref om), (1, .ref x), (0, .ref b)]) hx hb dL_law__1634 hl (by decide) rfl (fun ls hl => ?_)
    refine lv_aload_n hx hb dL_law__1636 rfl (lv_at hl 3 rfl) ?_
    refine lv_aload_n hx hb dL_law__1637 rfl (lv_at hl 5 rfl) ?_
    refine lv_iload hx hb dL_law__1638 (lv_at hl 1 rfl) ?_
    refine lv_iconst (v := 1) hx hb dL_law__1640 (by decide) ?_
    refine lv_iadd hx hb dL_law__1641 ?_
    refine ztop (r := 1) (by decide) ?_
    refine va_sld hx hb hX hbl hbA hS (zin rfl) dL_law__1642 ?_
    refine ztop (r := xs 1) rfl ?_
    refine lv_aload_n hx hb dL_law__1643 rfl (lv_at hl 5 rfl) ?_
    refine lv_iload hx hb dL_law__1644 (lv_at hl 1 rfl) ?_
    refine lv_iconst (v := 2) hx hb dL_law__1646 (by decide) ?_
    refine lv_iadd hx hb dL_law__1647 ?_
    refine ztop (r := 2) (by decide) ?_
    refine va_sld hx hb hX hbl hbA hS (zin rfl) dL_law__1648 ?_
    refine ztop (r := xs 2) rfl ?_
    refine lv_if_eq (tgt := 1656) hx hb dL_law__1649 (by decide) (fun _ => ?_) (fun c6 => absurd cZ c6)
    refine lv_iconst (v := 0) hx hb dL_law__1656 (by decide) ?_
    refine mcallV (g := g) (q0 := 0) (ci := 10) (As := [.int (xs 1), .int 0]) (rest := []) St hK hT hA hP hD hS hl.1 [13, 14] [0, 1, 2, 3, 4, 5, 6, 7, 8, 9, 10, 11, 12, 15] rfl rfl rfl (m_dearest l g om am 0 0 0 0 0 0 0 (-1) 0 0 0 0 (zf [m0, fun _ => 0, fun _ => 0, fun _ => 0, fun _ => 0, fun _ => 0, fun _ => 0, fun _ => 0]) (xs 1) 0 (by assumption)) (cwV 2 hts (zgL (zl4 k1436 k1437 k1438 k833) k1079) rfl rfl rfl (by decide +kernel) ⟨Nat.le_of_ble_eq_true rfl, Nat.le_of_ble_eq_true rfl⟩) rfl rfl rfl rfl (Nat.le_of_ble_eq_true rfl) dL_law__1657 ⟨(Nat.le_of_ble_eq_true rfl), (Nat.le_of_ble_eq_true rfl)⟩ (fun u_ H locs hq20 hP hD hS => ?_)
    obtain ⟨th2_7, hi2_8, ac2_9, tp2_10, ba2_11, en2_12, tA2_13, fl2_14, de2_15, iD2_16, iO2_17, tU2_18, q_19⟩ := u_
    have hq20 : (th2_7 = 1 ∧ (((xs 1) : Int32) < 0 ∨ 100 < ((xs 1) : Int32))) ∨ (th2_7 = 0 ∧ (¬ ((xs 1) : Int32) < 0 ∧ ¬ 100 < ((xs 1) : Int32)) ∧ q_19 = if 0 = 0 then 0 else 1) := hq20
    have hP : va_P g.1 vwCl (List.flatten [bTape g ta ab 0 0 0 0 0 (-1) (fun _ => 0), bLog g go ar 0 0 (fun _ => 0), [(tt, .inr (8, [.ref ta, .ref td]))], bTown g td tda 0 0 0 20 6 50 0 1 (fun _ _ => 0), [(lt, .inr (2, [.ref ta, .ref ldr]))], bLaw g ldr lda 0 (-1) 0 0 0 (fun _ => 0), bMem g mo qT qL it il ig 0 0 0 fT fL, bTown g it ia 0 0 0 20 6 50 0 1 (fun _ _ => 0), bLaw g il ic 0 (-1) 0 0 0 (fun _ => 0), bLog g ig ir 0 0 (fun _ => 0), bTown g t0 ta0 0 0 0 20 6 50 0 1 (fun _ _ => 0), bLog g l0 la0 0 0 (fun _ => 0), bRid g ro af 0 0 (fun _ => 0), [(oa, .inl (g.2 2, 1, .inr (.inl fz2_3)))], bObj g om am th2_7 hi2_8 ac2_9 tp2_10 ba2_11 en2_12 tA2_13 fl2_14 de2_15 iD2_16 iO2_17 tU2_18]) H := hP
    have hD : va_D A (List.flatten [bTape g ta ab 0 0 0 0 0 (-1) (fun _ => 0), bLog g go ar 0 0 (fun _ => 0), [(tt, .inr (8, [.ref ta, .ref td]))], bTown g td tda 0 0 0 20 6 50 0 1 (fun _ _ => 0), [(lt, .inr (2, [.ref ta, .ref ldr]))], bLaw g ldr lda 0 (-1) 0 0 0 (fun _ => 0), bMem g mo qT qL it il ig 0 0 0 fT fL, bTown g it ia 0 0 0 20 6 50 0 1 (fun _ _ => 0), bLaw g il ic 0 (-1) 0 0 0 (fun _ => 0), bLog g ig ir 0 0 (fun _ => 0), bTown g t0 ta0 0 0 0 20 6 50 0 1 (fun _ _ => 0), bLog g l0 la0 0 0 (fun _ => 0), bRid g ro af 0 0 (fun _ => 0), [(oa, .inl (g.2 2, 1, .inr (.inl fz2_3)))], bObj g om am th2_7 hi2_8 ac2_9 tp2_10 ba2_11 en2_12 tA2_13 fl2_14 de2_15 iD2_16 iO2_17 tU2_18]) := hD
    refine W.widen (k := 248) (n := 14997) (Nat.le_of_ble_eq_true rfl) (Nat.le_of_ble_eq_true rfl) ?_
    refine W.eq (g2 := F0 m 1660 ls [.int q_19]) rfl ?_
    rcases hq5 with ⟨hr9, hb9⟩ | ⟨hr9, hg9⟩
    · skip
      rcases hq20 with ⟨ht9, hB9⟩ | ⟨ht9, hG9⟩
      · skip
        subst hr9
        subst ht9
        refine lv_istore (lv' := [(6, .int q_19), (5, .int 1), (4, .int 0), (3, .ref oa), (2, .ref om), (1, .ref x), (0, .ref b)]) hx hb dL_law__1660 hl (by decide) rfl (fun ls hl => ?_)
        refine lv_aload_n hx hb dL_law__1662 rfl (lv_at hl 4 rfl) ?_
        refine mcallV (g := g) (q0 := 0) (ci := 10) (As := []) (rest := []) St hK hT hA hP hD hS hl.1 [14] [0, 1, 2, 3, 4, 5, 6, 7, 8, 9, 10, 11, 12, 13] rfl rfl rfl (m_thrown l g om am 1 hi2_8 ac2_9 tp2_10 ba2_11 en2_12 tA2_13 fl2_14 de2_15 iD2_16 iO2_17 tU2_18 ) (cwV 0 hts (zgL (zl4 k1317 k1318 k1319 k833) k824) rfl rfl rfl (by decide +kernel) ⟨Nat.le_of_ble_eq_true rfl, Nat.le_of_ble_eq_true rfl⟩) rfl rfl rfl rfl (Nat.le_of_ble_eq_true rfl) dL_law__1663 ⟨(Nat.le_of_ble_eq_true rfl), (Nat.le_of_ble_eq_true rfl)⟩ (fun _u H locs hq21 hP hD hS => ?_)
        have hP : va_P g.1 vwCl (List.flatten [bTape g ta ab 0 0 0 0 0 (-1) (fun _ => 0), bLog g go ar 0 0 (fun _ => 0), [(tt, .inr (8, [.ref ta, .ref td]))], bTown g td tda 0 0 0 20 6 50 0 1 (fun _ _ => 0), [(lt, .inr (2, [.ref ta, .ref ldr]))], bLaw g ldr lda 0 (-1) 0 0 0 (fun _ => 0), bMem g mo qT qL it il ig 0 0 0 fT fL, bTown g it ia 0 0 0 20 6 50 0 1 (fun _ _ => 0), bLaw g il ic 0 (-1) 0 0 0 (fun _ => 0), bLog g ig ir 0 0 (fun _ => 0), bTown g t0 ta0 0 0 0 20 6 50 0 1 (fun _ _ => 0), bLog g l0 la0 0 0 (fun _ => 0), bRid g ro af 0 0 (fun _ => 0), [(oa, .inl (g.2 2, 1, .inr (.inl fz2_3)))], bObj g om am 1 hi2_8 ac2_9 tp2_10 ba2_11 en2_12 tA2_13 fl2_14 de2_15 iD2_16 iO2_17 tU2_18]) H := hP
        have hD : va_D A (List.flatten [bTape g ta ab 0 0 0 0 0 (-1) (fun _ => 0), bLog g go ar 0 0 (fun _ => 0), [(tt, .inr (8, [.ref ta, .ref td]))], bTown g td tda 0 0 0 20 6 50 0 1 (fun _ _ => 0), [(lt, .inr (2, [.ref ta, .ref ldr]))], bLaw g ldr lda 0 (-1) 0 0 0 (fun _ => 0), bMem g mo qT qL it il ig 0 0 0 fT fL, bTown g it ia 0 0 0 20 6 50 0 1 (fun _ _ => 0), bLaw g il ic 0 (-1) 0 0 0 (fun _ => 0), bLog g ig ir 0 0 (fun _ => 0), bTown g t0 ta0 0 0 0 20 6 50 0 1 (fun _ _ => 0), bLog g l0 la0 0 0 (fun _ => 0), bRid g ro af 0 0 (fun _ => 0), [(oa, .inl (g.2 2, 1, .inr (.inl fz2_3)))], bObj g om am 1 hi2_8 ac2_9 tp2_10 ba2_11 en2_12 tA2_13 fl2_14 de2_15 iD2_16 iO2_17 tU2_18]) := hD
        refine W.widen (k := 248) (n := 14997) (Nat.le_of_ble_eq_true rfl) (Nat.le_of_ble_eq_true rfl) ?_
        refine W.eq (g2 := F0 m 1666 ls [.int 1]) rfl ?_
        refine lv_iload hx hb dL_law__1666 (lv_at hl 1 rfl) ?_
        refine lv_icmp_eq (tgt := 1673) hx hb dL_law__1668 (by decide) (fun _ => ?_) (fun c22 => absurd (by decide) c22)
        refine lv_iload hx hb dL_law__1673 (lv_at hl 1 rfl) ?_
        refine lv_if_ne (tgt := 1690) hx hb dL_law__1675 (by decide) (fun _ => ?_) (fun c23 => absurd c23 (by decide))
        refine lv_goto (tgt := 2738) hx hb dL_law__1690 (by decide) ?_
        refine lv_iinc (v := 6) (lv' := [(4, .int 6), (6, .int q_19), (5, .int 1), (3, .ref oa), (2, .ref om), (1, .ref x), (0, .ref b)]) hx hb dL_law__2738 hl (k := 2) rfl (by decide) (by decide) rfl (fun ls hl => ?_)
        refine lv_goto (tgt := 23) hx hb dL_law__2741 (by decide) ?_
        refine lv_iload hx hb dL_law__23 (lv_at hl 0 rfl) ?_
        refine lv_aload_n hx hb dL_law__25 rfl (lv_at hl 6 rfl) ?_
        refine va_slen hx hb hX hbl hbA hS dL_law__26 ?_
        refine ztop (r := 6) rfl ?_
        refine lv_bipush (v := 6) hx hb dL_law__27 (by decide) ?_
        refine lv_isub hx hb dL_law__29 ?_
        refine ztop (r := 0) (by decide) ?_
        refine lv_icmp_gt (tgt := 2744) hx hb dL_law__30 (by decide) (fun _ => ?_) (fun c24 => absurd (by decide) c24)
        refine lv_iconst (v := 1) hx hb dL_law__2744 (by decide) ?_
        refine va_forget (fun q hq => by have h9 := hS.2.2 q hq; rw [hAe] at h9; exact h9) ?_
        refine W.widen (k := 600002) (n := 7302232) (Nat.le_of_ble_eq_true rfl) (Nat.le_of_ble_eq_true rfl) ?_
        exact lw_ret hx hb hr hlocks dL_law__2745
      · skip
        exact (hb9.elim hG9.1.1 hG9.1.2).elim
    · skip
      rcases hq20 with ⟨ht9, hB9⟩ | ⟨ht9, hG9⟩
      · skip
        exact (hB9.elim hg9.1.1.1 hg9.1.1.2).elim
      · skip
        subst hr9
        subst ht9
        refine lv_istore (lv' := [(6, .int q_19), (5, .int 0), (4, .int 0), (3, .ref oa), (2, .ref om), (1, .ref x), (0, .ref b)]) hx hb dL_law__1660 hl (by decide) rfl (fun ls hl => ?_)
        refine lv_aload_n hx hb dL_law__1662 rfl (lv_at hl 4 rfl) ?_
        refine mcallV (g := g) (q0 := 0) (ci := 10) (As := []) (rest := []) St hK hT hA hP hD hS hl.1 [14] [0, 1, 2, 3, 4, 5, 6, 7, 8, 9, 10, 11, 12, 13] rfl rfl rfl (m_thrown l g om am 0 hi2_8 ac2_9 tp2_10 ba2_11 en2_12 tA2_13 fl2_14 de2_15 iD2_16 iO2_17 tU2_18 ) (cwV 0 hts (zgL (zl4 k1317 k1318 k1319 k833) k824) rfl rfl rfl (by decide +kernel) ⟨Nat.le_of_ble_eq_true rfl, Nat.le_of_ble_eq_true rfl⟩) rfl rfl rfl rfl (Nat.le_of_ble_eq_true rfl) dL_law__1663 ⟨(Nat.le_of_ble_eq_true rfl), (Nat.le_of_ble_eq_true rfl)⟩ (fun _u H locs hq25 hP hD hS => ?_)
        have hP : va_P g.1 vwCl (List.flatten [bTape g ta ab 0 0 0 0 0 (-1) (fun _ => 0), bLog g go ar 0 0 (fun _ => 0), [(tt, .inr (8, [.ref ta, .ref td]))], bTown g td tda 0 0 0 20 6 50 0 1 (fun _ _ => 0), [(lt, .inr (2, [.ref ta, .ref ldr]))], bLaw g ldr lda 0 (-1) 0 0 0 (fun _ => 0), bMem g mo qT qL it il ig 0 0 0 fT fL, bTown g it ia 0 0 0 20 6 50 0 1 (fun _ _ => 0), bLaw g il ic 0 (-1) 0 0 0 (fun _ => 0), bLog g ig ir 0 0 (fun _ => 0), bTown g t0 ta0 0 0 0 20 6 50 0 1 (fun _ _ => 0), bLog g l0 la0 0 0 (fun _ => 0), bRid g ro af 0 0 (fun _ => 0), [(oa, .inl (g.2 2, 1, .inr (.inl fz2_3)))], bObj g om am 0 hi2_8 ac2_9 tp2_10 ba2_11 en2_12 tA2_13 fl2_14 de2_15 iD2_16 iO2_17 tU2_18]) H := hP
        have hD : va_D A (List.flatten [bTape g ta ab 0 0 0 0 0 (-1) (fun _ => 0), bLog g go ar 0 0 (fun _ => 0), [(tt, .inr (8, [.ref ta, .ref td]))], bTown g td tda 0 0 0 20 6 50 0 1 (fun _ _ => 0), [(lt, .inr (2, [.ref ta, .ref ldr]))], bLaw g ldr lda 0 (-1) 0 0 0 (fun _ => 0), bMem g mo qT qL it il ig 0 0 0 fT fL, bTown g it ia 0 0 0 20 6 50 0 1 (fun _ _ => 0), bLaw g il ic 0 (-1) 0 0 0 (fun _ => 0), bLog g ig ir 0 0 (fun _ => 0), bTown g t0 ta0 0 0 0 20 6 50 0 1 (fun _ _ => 0), bLog g l0 la0 0 0 (fun _ => 0), bRid g ro af 0 0 (fun _ => 0), [(oa, .inl (g.2 2, 1, .inr (.inl fz2_3)))], bObj g om am 0 hi2_8 ac2_9 tp2_10 ba2_11 en2_12 tA2_13 fl2_14 de2_15 iD2_16 iO2_17 tU2_18]) := hD
        refine W.widen (k := 248) (n := 14997) (Nat.le_of_ble_eq_true rfl) (Nat.le_of_ble_eq_true rfl) ?_
        refine W.eq (g2 := F0 m 1666 ls [.int 0]) rfl ?_
        refine lv_iload hx hb dL_law__1666 (lv_at hl 1 rfl) ?_
        refine lv_icmp_eq (tgt := 1673) hx hb dL_law__1668 (by decide) (fun _ => ?_) (fun c26 => absurd (by decide) c26)
        refine lv_iload hx hb dL_law__1673 (lv_at hl 1 rfl) ?_
        refine lv_if_ne (tgt := 1690) hx hb dL_law__1675 (by decide) (fun c27 => absurd (by decide) c27) (fun _ => ?_)
        refine lv_aload_n hx hb dL_law__1678 rfl (lv_at hl 3 rfl) ?_
        refine lv_iconst (v := 0) hx hb dL_law__1679 (by decide) ?_
        refine va_lald hx hb hK hP 55 2 rfl rfl (zin rfl) dL_law__1680 ?_
        refine ztopl (r := fz2_3 0) rfl ?_
        refine lv_iload hx hb dL_law__1681 (lv_at hl 0 rfl) ?_
        refine lv_i2l (v := (q_19 : Int32).toInt64) hx hb dL_law__1683 rfl ?_
        refine W.lcmp hx hb dL_law__1684 ?_
        refine lv_if_eq (tgt := 1690) hx hb dL_law__1685 (by decide) (fun _ => ?_) (fun c28 => absurd (by rw [hg9.2, hg9.1.2, hG9.2]; exact lg_self _) c28)
        refine lv_goto (tgt := 2738) hx hb dL_law__1690 (by decide) ?_
        refine lv_iinc (v := 6) (lv' := [(4, .int 6), (6, .int q_19), (5, .int 0), (3, .ref oa), (2, .ref om), (1, .ref x), (0, .ref b)]) hx hb dL_law__2738 hl (k := 2) rfl (by decide) (by decide) rfl (fun ls hl => ?_)
        refine lv_goto (tgt := 23) hx hb dL_law__2741 (by decide) ?_
        refine lv_iload hx hb dL_law__23 (lv_at hl 0 rfl) ?_
        refine lv_aload_n hx hb dL_law__25 rfl (lv_at hl 6 rfl) ?_
        refine va_slen hx hb hX hbl hbA hS dL_law__26 ?_
        refine ztop (r := 6) rfl ?_
        refine lv_bipush (v := 6) hx hb dL_law__27 (by decide) ?_
        refine lv_isub hx hb dL_law__29 ?_
        refine ztop (r := 0) (by decide) ?_
        refine lv_icmp_gt (tgt := 2744) hx hb dL_law__30 (by decide) (fun _ => ?_) (fun c29 => absurd (by decide) c29)
        refine lv_iconst (v := 1) hx hb dL_law__2744 (by decide) ?_
        refine va_forget (fun q hq => by have h9 := hS.2.2 q hq; rw [hAe] at h9; exact h9) ?_
        refine W.widen (k := 600002) (n := 7302232) (Nat.le_of_ble_eq_true rfl) (Nat.le_of_ble_eq_true rfl) ?_
        exact lw_ret hx hb hr hlocks dL_law__2745
  · skip
    refine lv_iconst (v := 1) hx hb dL_law__1625 (by decide) ?_
    refine lv_goto (tgt := 1630) hx hb dL_law__1626 (by decide) ?_
    refine lv_aload_n hx hb dL_law__1630 rfl (lv_at hl 1 rfl) ?_
    refine xcallSX (g := g) (As := [.ref x, .int (xs 1), .int 1, .ref oa]) (rest := []) St hK hT hA hP hD hS hl.1 [0, 2, 15, 3, 16, 20] [1, 4, 5, 6, 7, 8, 9, 10, 11, 12, 13, 14, 17, 18, 19] rfl rfl rfl (l_dearest l hfl g x ta o lo go tt lt mo fo ro (-1) a 0 20 6 50 0 1 (fun _ _ => 0) ac 0 (-1) 0 0 0 (fun _ => 0) od ad 0 0 0 20 6 50 0 1 (fun _ _ => 0) (xs 1) 1 oa (fun _ => 0) (by assumption)) (vx_cwSW 4 hts (zgL (zl3 k1434 k1435 k1313) k1237) rfl rfl rfl (by decide +kernel) ⟨Nat.le_of_ble_eq_true rfl, Nat.le_of_ble_eq_true rfl⟩) rfl rfl (Nat.le_of_ble_eq_true rfl) dL_law__1631 ⟨(Nat.le_of_ble_eq_true rfl), (Nat.le_of_ble_eq_true rfl)⟩ (fun E ce q9 u9 H locs hpx hP hD hS hce hcv hcl => hpx.elim) (fun u_ H locs hq33 hP hD hS => ?_)
    obtain ⟨r_30, fz2_31, q_32⟩ := u_
    have hq33 : (r_30 = 1 ∧ ((xs 1) < 0 ∨ 100 < (xs 1))) ∨ (r_30 = 0 ∧ ((¬ (xs 1) < 0 ∧ ¬ 100 < (xs 1)) ∧ q_32 = if 1 = 0 then 0 else 1) ∧ fz2_31 0 = (q_32 : Int32).toInt64) := hq33
    have hP : va_P g.1 vwCl (List.flatten [bTape g ta ab 0 0 0 0 0 (-1) (fun _ => 0), bLog g go ar 0 0 (fun _ => 0), [(tt, .inr (8, [.ref ta, .ref td]))], bTown g td tda 0 0 0 20 6 50 0 1 (fun _ _ => 0), [(lt, .inr (2, [.ref ta, .ref ldr]))], bLaw g ldr lda 0 (-1) 0 0 0 (fun _ => 0), bMem g mo qT qL it il ig 0 0 0 fT fL, bTown g it ia 0 0 0 20 6 50 0 1 (fun _ _ => 0), bLaw g il ic 0 (-1) 0 0 0 (fun _ => 0), bLog g ig ir 0 0 (fun _ => 0), bTown g t0 ta0 0 0 0 20 6 50 0 1 (fun _ _ => 0), bLog g l0 la0 0 0 (fun _ => 0), bRid g ro af 0 0 (fun _ => 0), bObj g om am 0 0 0 0 0 0 0 (-1) 0 0 0 0, bArr g am (zf [m0, fun _ => 0, fun _ => 0, fun _ => 0, fun _ => 0, fun _ => 0, fun _ => 0, fun _ => 0]), [(oa, .inl (g.2 2, 1, .inr (.inl fz2_31)))]]) H := hP
    have hD : va_D A (List.flatten [bTape g ta ab 0 0 0 0 0 (-1) (fun _ => 0), bLog g go ar 0 0 (fun _ => 0), [(tt, .inr (8, [.ref ta, .ref td]))], bTown g td tda 0 0 0 20 6 50 0 1 (fun _ _ => 0), [(lt, .inr (2, [.ref ta, .ref ldr]))], bLaw g ldr lda 0 (-1) 0 0 0 (fun _ => 0), bMem g mo qT qL it il ig 0 0 0 fT fL, bTown g it ia 0 0 0 20 6 50 0 1 (fun _ _ => 0), bLaw g il ic 0 (-1) 0 0 0 (fun _ => 0), bLog g ig ir 0 0 (fun _ => 0), bTown g t0 ta0 0 0 0 20 6 50 0 1 (fun _ _ => 0), bLog g l0 la0 0 0 (fun _ => 0), bRid g ro af 0 0 (fun _ => 0), bObj g om am 0 0 0 0 0 0 0 (-1) 0 0 0 0, bArr g am (zf [m0, fun _ => 0, fun _ => 0, fun _ => 0, fun _ => 0, fun _ => 0, fun _ => 0, fun _ => 0]), [(oa, .inl (g.2 2, 1, .inr (.inl fz2_31)))]]) := hD
    refine W.widen (k := 248) (n := 14997) (Nat.le_of_ble_eq_true rfl) (Nat.le_of_ble_eq_true rfl) ?_
    refine W.eq (g2 := F0 m 1634 ls [.int r_30]) rfl ?_
    refine lv_istore (lv' := [(5, .int r_30), (4, .int 0), (3, .ref oa), (2, .ref om), (1, .ref x), (0, .ref b)]) hx hb dL_law__1634 hl (by decide) rfl (fun ls hl => ?_)
    refine lv_aload_n hx hb dL_law__1636 rfl (lv_at hl 3 rfl) ?_
    refine lv_aload_n hx hb dL_law__1637 rfl (lv_at hl 5 rfl) ?_
    refine lv_iload hx hb dL_law__1638 (lv_at hl 1 rfl) ?_
    refine lv_iconst (v := 1) hx hb dL_law__1640 (by decide) ?_
    refine lv_iadd hx hb dL_law__1641 ?_
    refine ztop (r := 1) (by decide) ?_
    refine va_sld hx hb hX hbl hbA hS (zin rfl) dL_law__1642 ?_
    refine ztop (r := xs 1) rfl ?_
    refine lv_aload_n hx hb dL_law__1643 rfl (lv_at hl 5 rfl) ?_
    refine lv_iload hx hb dL_law__1644 (lv_at hl 1 rfl) ?_
    refine lv_iconst (v := 2) hx hb dL_law__1646 (by decide) ?_
    refine lv_iadd hx hb dL_law__1647 ?_
    refine ztop (r := 2) (by decide) ?_
    refine va_sld hx hb hX hbl hbA hS (zin rfl) dL_law__1648 ?_
    refine ztop (r := xs 2) rfl ?_
    refine lv_if_eq (tgt := 1656) hx hb dL_law__1649 (by decide) (fun c34 => absurd c34 cZ) (fun _ => ?_)
    refine lv_iconst (v := 1) hx hb dL_law__1652 (by decide) ?_
    refine lv_goto (tgt := 1657) hx hb dL_law__1653 (by decide) ?_
    refine mcallV (g := g) (q0 := 0) (ci := 10) (As := [.int (xs 1), .int 1]) (rest := []) St hK hT hA hP hD hS hl.1 [13, 14] [0, 1, 2, 3, 4, 5, 6, 7, 8, 9, 10, 11, 12, 15] rfl rfl rfl (m_dearest l g om am 0 0 0 0 0 0 0 (-1) 0 0 0 0 (zf [m0, fun _ => 0, fun _ => 0, fun _ => 0, fun _ => 0, fun _ => 0, fun _ => 0, fun _ => 0]) (xs 1) 1 (by assumption)) (cwV 2 hts (zgL (zl4 k1436 k1437 k1438 k833) k1079) rfl rfl rfl (by decide +kernel) ⟨Nat.le_of_ble_eq_true rfl, Nat.le_of_ble_eq_true rfl⟩) rfl rfl rfl rfl (Nat.le_of_ble_eq_true rfl) dL_law__1657 ⟨(Nat.le_of_ble_eq_true rfl), (Nat.le_of_ble_eq_true rfl)⟩ (fun u_ H locs hq48 hP hD hS => ?_)
    obtain ⟨th2_35, hi2_36, ac2_37, tp2_38, ba2_39, en2_40, tA2_41, fl2_42, de2_43, iD2_44, iO2_45, tU2_46, q_47⟩ := u_
    have hq48 : (th2_35 = 1 ∧ (((xs 1) : Int32) < 0 ∨ 100 < ((xs 1) : Int32))) ∨ (th2_35 = 0 ∧ (¬ ((xs 1) : Int32) < 0 ∧ ¬ 100 < ((xs 1) : Int32)) ∧ q_47 = if 1 = 0 then 0 else 1) := hq48
    have hP : va_P g.1 vwCl (List.flatten [bTape g ta ab 0 0 0 0 0 (-1) (fun _ => 0), bLog g go ar 0 0 (fun _ => 0), [(tt, .inr (8, [.ref ta, .ref td]))], bTown g td tda 0 0 0 20 6 50 0 1 (fun _ _ => 0), [(lt, .inr (2, [.ref ta, .ref ldr]))], bLaw g ldr lda 0 (-1) 0 0 0 (fun _ => 0), bMem g mo qT qL it il ig 0 0 0 fT fL, bTown g it ia 0 0 0 20 6 50 0 1 (fun _ _ => 0), bLaw g il ic 0 (-1) 0 0 0 (fun _ => 0), bLog g ig ir 0 0 (fun _ => 0), bTown g t0 ta0 0 0 0 20 6 50 0 1 (fun _ _ => 0), bLog g l0 la0 0 0 (fun _ => 0), bRid g ro af 0 0 (fun _ => 0), [(oa, .inl (g.2 2, 1, .inr (.inl fz2_31)))], bObj g om am th2_35 hi2_36 ac2_37 tp2_38 ba2_39 en2_40 tA2_41 fl2_42 de2_43 iD2_44 iO2_45 tU2_46]) H := hP
    have hD : va_D A (List.flatten [bTape g ta ab 0 0 0 0 0 (-1) (fun _ => 0), bLog g go ar 0 0 (fun _ => 0), [(tt, .inr (8, [.ref ta, .ref td]))], bTown g td tda 0 0 0 20 6 50 0 1 (fun _ _ => 0), [(lt, .inr (2, [.ref ta, .ref ldr]))], bLaw g ldr lda 0 (-1) 0 0 0 (fun _ => 0), bMem g mo qT qL it il ig 0 0 0 fT fL, bTown g it ia 0 0 0 20 6 50 0 1 (fun _ _ => 0), bLaw g il ic 0 (-1) 0 0 0 (fun _ => 0), bLog g ig ir 0 0 (fun _ => 0), bTown g t0 ta0 0 0 0 20 6 50 0 1 (fun _ _ => 0), bLog g l0 la0 0 0 (fun _ => 0), bRid g ro af 0 0 (fun _ => 0), [(oa, .inl (g.2 2, 1, .inr (.inl fz2_31)))], bObj g om am th2_35 hi2_36 ac2_37 tp2_38 ba2_39 en2_40 tA2_41 fl2_42 de2_43 iD2_44 iO2_45 tU2_46]) := hD
    refine W.widen (k := 248) (n := 14997) (Nat.le_of_ble_eq_true rfl) (Nat.le_of_ble_eq_true rfl) ?_
    refine W.eq (g2 := F0 m 1660 ls [.int q_47]) rfl ?_
    rcases hq33 with ⟨hr9, hb9⟩ | ⟨hr9, hg9⟩
    · skip
      rcases hq48 with ⟨ht9, hB9⟩ | ⟨ht9, hG9⟩
      · skip
        subst hr9
        subst ht9
        refine lv_istore (lv' := [(6, .int q_47), (5, .int 1), (4, .int 0), (3, .ref oa), (2, .ref om), (1, .ref x), (0, .ref b)]) hx hb dL_law__1660 hl (by decide) rfl (fun ls hl => ?_)
        refine lv_aload_n hx hb dL_law__1662 rfl (lv_at hl 4 rfl) ?_
        refine mcallV (g := g) (q0 := 0) (ci := 10) (As := []) (rest := []) St hK hT hA hP hD hS hl.1 [14] [0, 1, 2, 3, 4, 5, 6, 7, 8, 9, 10, 11, 12, 13] rfl rfl rfl (m_thrown l g om am 1 hi2_36 ac2_37 tp2_38 ba2_39 en2_40 tA2_41 fl2_42 de2_43 iD2_44 iO2_45 tU2_46 ) (cwV 0 hts (zgL (zl4 k1317 k1318 k1319 k833) k824) rfl rfl rfl (by decide +kernel) ⟨Nat.le_of_ble_eq_true rfl, Nat.le_of_ble_eq_true rfl⟩) rfl rfl rfl rfl (Nat.le_of_ble_eq_true rfl) dL_law__1663 ⟨(Nat.le_of_ble_eq_true rfl), (Nat.le_of_ble_eq_true rfl)⟩ (fun _u H locs hq49 hP hD hS => ?_)
        have hP : va_P g.1 vwCl (List.flatten [bTape g ta ab 0 0 0 0 0 (-1) (fun _ => 0), bLog g go ar 0 0 (fun _ => 0), [(tt, .inr (8, [.ref ta, .ref td]))], bTown g td tda 0 0 0 20 6 50 0 1 (fun _ _ => 0), [(lt, .inr (2, [.ref ta, .ref ldr]))], bLaw g ldr lda 0 (-1) 0 0 0 (fun _ => 0), bMem g mo qT qL it il ig 0 0 0 fT fL, bTown g it ia 0 0 0 20 6 50 0 1 (fun _ _ => 0), bLaw g il ic 0 (-1) 0 0 0 (fun _ => 0), bLog g ig ir 0 0 (fun _ => 0), bTown g t0 ta0 0 0 0 20 6 50 0 1 (fun _ _ => 0), bLog g l0 la0 0 0 (fun _ => 0), bRid g ro af 0 0 (fun _ => 0), [(oa, .inl (g.2 2, 1, .inr (.inl fz2_31)))], bObj g om am 1 hi2_36 ac2_37 tp2_38 ba2_39 en2_40 tA2_41 fl2_42 de2_43 iD2_44 iO2_45 tU2_46]) H := hP
        have hD : va_D A (List.flatten [bTape g ta ab 0 0 0 0 0 (-1) (fun _ => 0), bLog g go ar 0 0 (fun _ => 0), [(tt, .inr (8, [.ref ta, .ref td]))], bTown g td tda 0 0 0 20 6 50 0 1 (fun _ _ => 0), [(lt, .inr (2, [.ref ta, .ref ldr]))], bLaw g ldr lda 0 (-1) 0 0 0 (fun _ => 0), bMem g mo qT qL it il ig 0 0 0 fT fL, bTown g it ia 0 0 0 20 6 50 0 1 (fun _ _ => 0), bLaw g il ic 0 (-1) 0 0 0 (fun _ => 0), bLog g ig ir 0 0 (fun _ => 0), bTown g t0 ta0 0 0 0 20 6 50 0 1 (fun _ _ => 0), bLog g l0 la0 0 0 (fun _ => 0), bRid g ro af 0 0 (fun _ => 0), [(oa, .inl (g.2 2, 1, .inr (.inl fz2_31)))], bObj g om am 1 hi2_36 ac2_37 tp2_38 ba2_39 en2_40 tA2_41 fl2_42 de2_43 iD2_44 iO2_45 tU2_46]) := hD
        refine W.widen (k := 248) (n := 14997) (Nat.le_of_ble_eq_true rfl) (Nat.le_of_ble_eq_true rfl) ?_
        refine W.eq (g2 := F0 m 1666 ls [.int 1]) rfl ?_
        refine lv_iload hx hb dL_law__1666 (lv_at hl 1 rfl) ?_
        refine lv_icmp_eq (tgt := 1673) hx hb dL_law__1668 (by decide) (fun _ => ?_) (fun c50 => absurd (by decide) c50)
        refine lv_iload hx hb dL_law__1673 (lv_at hl 1 rfl) ?_
        refine lv_if_ne (tgt := 1690) hx hb dL_law__1675 (by decide) (fun _ => ?_) (fun c51 => absurd c51 (by decide))
        refine lv_goto (tgt := 2738) hx hb dL_law__1690 (by decide) ?_
        refine lv_iinc (v := 6) (lv' := [(4, .int 6), (6, .int q_47), (5, .int 1), (3, .ref oa), (2, .ref om), (1, .ref x), (0, .ref b)]) hx hb dL_law__2738 hl (k := 2) rfl (by decide) (by decide) rfl (fun ls hl => ?_)
        refine lv_goto (tgt := 23) hx hb dL_law__2741 (by decide) ?_
        refine lv_iload hx hb dL_law__23 (lv_at hl 0 rfl) ?_
        refine lv_aload_n hx hb dL_law__25 rfl (lv_at hl 6 rfl) ?_
        refine va_slen hx hb hX hbl hbA hS dL_law__26 ?_
        refine ztop (r := 6) rfl ?_
        refine lv_bipush (v := 6) hx hb dL_law__27 (by decide) ?_
        refine lv_isub hx hb dL_law__29 ?_
        refine ztop (r := 0) (by decide) ?_
        refine lv_icmp_gt (tgt := 2744) hx hb dL_law__30 (by decide) (fun _ => ?_) (fun c52 => absurd (by decide) c52)
        refine lv_iconst (v := 1) hx hb dL_law__2744 (by decide) ?_
        refine va_forget (fun q hq => by have h9 := hS.2.2 q hq; rw [hAe] at h9; exact h9) ?_
        refine W.widen (k := 600002) (n := 7302232) (Nat.le_of_ble_eq_true rfl) (Nat.le_of_ble_eq_true rfl) ?_
        exact lw_ret hx hb hr hlocks dL_law__2745
      · skip
        exact (hb9.elim hG9.1.1 hG9.1.2).elim
    · skip
      rcases hq48 with ⟨ht9, hB9⟩ | ⟨ht9, hG9⟩
      · skip
        exact (hB9.elim hg9.1.1.1 hg9.1.1.2).elim
      · skip
        subst hr9
        subst ht9
        refine lv_istore (lv' := [(6, .int q_47), (5, .int 0), (4, .int 0), (3, .ref oa), (2, .ref om), (1, .ref x), (0, .ref b)]) hx hb dL_law__1660 hl (by decide) rfl (fun ls hl => ?_)
        refine lv_aload_n hx hb dL_law__1662 rfl (lv_at hl 4 rfl) ?_
        refine mcallV (g := g) (q0 := 0) (ci := 10) (As := []) (rest := []) St hK hT hA hP hD hS hl.1 [14] [0, 1, 2, 3, 4, 5, 6, 7, 8, 9, 10, 11, 12, 13] rfl rfl rfl (m_thrown l g om am 0 hi2_36 ac2_37 tp2_38 ba2_39 en2_40 tA2_41 fl2_42 de2_43 iD2_44 iO2_45 tU2_46 ) (cwV 0 hts (zgL (zl4 k1317 k1318 k1319 k833) k824) rfl rfl rfl (by decide +kernel) ⟨Nat.le_of_ble_eq_true rfl, Nat.le_of_ble_eq_true rfl⟩) rfl rfl rfl rfl (Nat.le_of_ble_eq_true rfl) dL_law__1663 ⟨(Nat.le_of_ble_eq_true rfl), (Nat.le_of_ble_eq_true rfl)⟩ (fun _u H locs hq53 hP hD hS => ?_)
        have hP : va_P g.1 vwCl (List.flatten [bTape g ta ab 0 0 0 0 0 (-1) (fun _ => 0), bLog g go ar 0 0 (fun _ => 0), [(tt, .inr (8, [.ref ta, .ref td]))], bTown g td tda 0 0 0 20 6 50 0 1 (fun _ _ => 0), [(lt, .inr (2, [.ref ta, .ref ldr]))], bLaw g ldr lda 0 (-1) 0 0 0 (fun _ => 0), bMem g mo qT qL it il ig 0 0 0 fT fL, bTown g it ia 0 0 0 20 6 50 0 1 (fun _ _ => 0), bLaw g il ic 0 (-1) 0 0 0 (fun _ => 0), bLog g ig ir 0 0 (fun _ => 0), bTown g t0 ta0 0 0 0 20 6 50 0 1 (fun _ _ => 0), bLog g l0 la0 0 0 (fun _ => 0), bRid g ro af 0 0 (fun _ => 0), [(oa, .inl (g.2 2, 1, .inr (.inl fz2_31)))], bObj g om am 0 hi2_36 ac2_37 tp2_38 ba2_39 en2_40 tA2_41 fl2_42 de2_43 iD2_44 iO2_45 tU2_46]) H := hP
        have hD : va_D A (List.flatten [bTape g ta ab 0 0 0 0 0 (-1) (fun _ => 0), bLog g go ar 0 0 (fun _ => 0), [(tt, .inr (8, [.ref ta, .ref td]))], bTown g td tda 0 0 0 20 6 50 0 1 (fun _ _ => 0), [(lt, .inr (2, [.ref ta, .ref ldr]))], bLaw g ldr lda 0 (-1) 0 0 0 (fun _ => 0), bMem g mo qT qL it il ig 0 0 0 fT fL, bTown g it ia 0 0 0 20 6 50 0 1 (fun _ _ => 0), bLaw g il ic 0 (-1) 0 0 0 (fun _ => 0), bLog g ig ir 0 0 (fun _ => 0), bTown g t0 ta0 0 0 0 20 6 50 0 1 (fun _ _ => 0), bLog g l0 la0 0 0 (fun _ => 0), bRid g ro af 0 0 (fun _ => 0), [(oa, .inl (g.2 2, 1, .inr (.inl fz2_31)))], bObj g om am 0 hi2_36 ac2_37 tp2_38 ba2_39 en2_40 tA2_41 fl2_42 de2_43 iD2_44 iO2_45 tU2_46]) := hD
        refine W.widen (k := 248) (n := 14997) (Nat.le_of_ble_eq_true rfl) (Nat.le_of_ble_eq_true rfl) ?_
        refine W.eq (g2 := F0 m 1666 ls [.int 0]) rfl ?_
        refine lv_iload hx hb dL_law__1666 (lv_at hl 1 rfl) ?_
        refine lv_icmp_eq (tgt := 1673) hx hb dL_law__1668 (by decide) (fun _ => ?_) (fun c54 => absurd (by decide) c54)
        refine lv_iload hx hb dL_law__1673 (lv_at hl 1 rfl) ?_
        refine lv_if_ne (tgt := 1690) hx hb dL_law__1675 (by decide) (fun c55 => absurd (by decide) c55) (fun _ => ?_)
        refine lv_aload_n hx hb dL_law__1678 rfl (lv_at hl 3 rfl) ?_
        refine lv_iconst (v := 0) hx hb dL_law__1679 (by decide) ?_
        refine va_lald hx hb hK hP 55 2 rfl rfl (zin rfl) dL_law__1680 ?_
        refine ztopl (r := fz2_31 0) rfl ?_
        refine lv_iload hx hb dL_law__1681 (lv_at hl 0 rfl) ?_
        refine lv_i2l (v := (q_47 : Int32).toInt64) hx hb dL_law__1683 rfl ?_
        refine W.lcmp hx hb dL_law__1684 ?_
        refine lv_if_eq (tgt := 1690) hx hb dL_law__1685 (by decide) (fun _ => ?_) (fun c56 => absurd (by rw [hg9.2, hg9.1.2, hG9.2]; exact lg_self _) c56)
        refine lv_goto (tgt := 2738) hx hb dL_law__1690 (by decide) ?_
        refine lv_iinc (v := 6) (lv' := [(4, .int 6), (6, .int q_47), (5, .int 0), (3, .ref oa), (2, .ref om), (1, .ref x), (0, .ref b)]) hx hb dL_law__2738 hl (k := 2) rfl (by decide) (by decide) rfl (fun ls hl => ?_)
        refine lv_goto (tgt := 23) hx hb dL_law__2741 (by decide) ?_
        refine lv_iload hx hb dL_law__23 (lv_at hl 0 rfl) ?_
        refine lv_aload_n hx hb dL_law__25 rfl (lv_at hl 6 rfl) ?_
        refine va_slen hx hb hX hbl hbA hS dL_law__26 ?_
        refine ztop (r := 6) rfl ?_
        refine lv_bipush (v := 6) hx hb dL_law__27 (by decide) ?_
        refine lv_isub hx hb dL_law__29 ?_
        refine ztop (r := 0) (by decide) ?_
        refine lv_icmp_gt (tgt := 2744) hx hb dL_law__30 (by decide) (fun _ => ?_) (fun c57 => absurd (by decide) c57)
        refine lv_iconst (v := 1) hx hb dL_law__2744 (by decide) ?_
        refine va_forget (fun q hq => by have h9 := hS.2.2 q hq; rw [hAe] at h9; exact h9) ?_
        refine W.widen (k := 600002) (n := 7302232) (Nat.le_of_ble_eq_true rfl) (Nat.le_of_ble_eq_true rfl) ?_
        exact lw_ret hx hb hr hlocks dL_law__2745
set_option maxRecDepth 100000 in
set_option maxHeartbeats 4000000 in
/-- the law: falls -/
theorem w_26 {p : Program} {e : Env} {s : State} {m : MethodId} {below : List Frame} {meth : Method} {c : Code} (l : Launch) (hfl : l.stackTraces = false) (g : zG) {b : Nat} {xs : Nat → Int32} {A : Nat → Prop} (hAe : A = fun q => s.heap.size ≤ q) (hA : ∀ q, s.heap.size ≤ q → A q) (hbA : ¬ A b) (St : CallFix p m c cL_law_ 7 s #[Value.ref b] zB RL) (hr : meth.sig.returnType = ret) (hlocks : meth.locks = false) (hX : va_X b 6 xs s s.heap) (hbl : b < s.heap.size) (hK : zK g s) (hT : zTh A s) (x : Nat) (ta : Nat) (o : Nat) (lo : Nat) (go : Nat) (tt : Nat) (lt : Nat) (mo : Nat) (fo : Nat) (ro : Nat) (ab : Nat) (ac : Nat) (ar : Nat) (td : Nat) (a : Nat → Nat) (tda : Nat → Nat) (ldr : Nat) (lda : Nat) (qT : Nat) (qL : Nat) (it : Nat) (il : Nat) (ig : Nat) (fT : Nat → Option Nat) (fL : Nat → Option Nat) (ia : Nat → Nat) (ic : Nat) (ir : Nat) (t0 : Nat) (ta0 : Nat → Nat) (l0 : Nat) (la0 : Nat) (od : Nat) (ad : Nat → Nat) (af : Nat) (om : Nat) (am : Nat → Nat) (m0 : Nat → Int32) (oa : Nat) (hT0 : fT 0 = some t0) (hL0 : fL 0 = some l0) (hm : zMo m0) (h8 : m0 8 = 0) (h10 : m0 10 = 1) (H : Heap) (locs : List Loc) (ls : Array Slot) (hP : va_P g.1 vwCl (List.flatten [bDR g x ta o lo go tt lt mo fo ro (-1), bTape g ta ab 0 0 0 0 0 (-1) (fun _ => 0), bTown g o a 0 0 0 20 6 50 0 1 (fun _ _ => 0), bLaw g lo ac 0 (-1) 0 0 0 (fun _ => 0), bLog g go ar 0 0 (fun _ => 0), [(tt, .inr (8, [.ref ta, .ref td]))], bTown g td tda 0 0 0 20 6 50 0 1 (fun _ _ => 0), [(lt, .inr (2, [.ref ta, .ref ldr]))], bLaw g ldr lda 0 (-1) 0 0 0 (fun _ => 0), bMem g mo qT qL it il ig 0 0 0 fT fL, bTown g it ia 0 0 0 20 6 50 0 1 (fun _ _ => 0), bLaw g il ic 0 (-1) 0 0 0 (fun _ => 0), bLog g ig ir 0 0 (fun _ => 0), bTown g t0 ta0 0 0 0 20 6 50 0 1 (fun _ _ => 0), bLog g l0 la0 0 0 (fun _ => 0), [(fo, .inr (0, [.ref o, .ref lo, .ref od]))], bTown g od ad 0 0 0 20 6 50 0 1 (fun _ _ => 0), bRid g ro af 0 0 (fun _ => 0), bObj g om am 0 0 0 0 0 0 0 (-1) 0 0 0 0, bArr g am (zf [m0, fun _ => 0, fun _ => 0, fun _ => 0, fun _ => 0, fun _ => 0, fun _ => 0, fun _ => 0]), [(oa, .inl (g.2 2, 1, .inr (.inl (fun _ => 0))))]]) H) (hD : va_D A (List.flatten [bDR g x ta o lo go tt lt mo fo ro (-1), bTape g ta ab 0 0 0 0 0 (-1) (fun _ => 0), bTown g o a 0 0 0 20 6 50 0 1 (fun _ _ => 0), bLaw g lo ac 0 (-1) 0 0 0 (fun _ => 0), bLog g go ar 0 0 (fun _ => 0), [(tt, .inr (8, [.ref ta, .ref td]))], bTown g td tda 0 0 0 20 6 50 0 1 (fun _ _ => 0), [(lt, .inr (2, [.ref ta, .ref ldr]))], bLaw g ldr lda 0 (-1) 0 0 0 (fun _ => 0), bMem g mo qT qL it il ig 0 0 0 fT fL, bTown g it ia 0 0 0 20 6 50 0 1 (fun _ _ => 0), bLaw g il ic 0 (-1) 0 0 0 (fun _ => 0), bLog g ig ir 0 0 (fun _ => 0), bTown g t0 ta0 0 0 0 20 6 50 0 1 (fun _ _ => 0), bLog g l0 la0 0 0 (fun _ => 0), [(fo, .inr (0, [.ref o, .ref lo, .ref od]))], bTown g od ad 0 0 0 20 6 50 0 1 (fun _ _ => 0), bRid g ro af 0 0 (fun _ => 0), bObj g om am 0 0 0 0 0 0 0 (-1) 0 0 0 0, bArr g am (zf [m0, fun _ => 0, fun _ => 0, fun _ => 0, fun _ => 0, fun _ => 0, fun _ => 0, fun _ => 0]), [(oa, .inl (g.2 2, 1, .inr (.inl (fun _ => 0))))]])) (hS : va_S A s.heap H locs) (hl : lv_has ls 7 [(4, .int 0), (3, .ref oa), (2, .ref om), (1, .ref x), (0, .ref b)]) : W p l e room_1 s m #[Value.ref b] below meth c H locs 247 14991 (lw_Z below #[Value.ref b] s) (F0 m 1693 ls []) := by
  obtain ⟨hx, hb, hml, hown, hts⟩ := id St
  have hz0 : zZ (fun _ => 0) := zZ0
  refine lv_aload_n hx hb dL_law__1693 rfl (lv_at hl 3 rfl) ?_
  refine lv_aload_n hx hb dL_law__1694 rfl (lv_at hl 4 rfl) ?_
  refine lv_iload hx hb dL_law__1695 (lv_at hl 0 rfl) ?_
  refine lv_iconst (v := 1) hx hb dL_law__1697 (by decide) ?_
  refine lv_iadd hx hb dL_law__1698 ?_
  refine ztop (r := 1) (by decide) ?_
  refine va_sld hx hb hX hbl hbA hS (zin rfl) dL_law__1699 ?_
  refine ztop (r := xs 1) rfl ?_
  refine lv_aload_n hx hb dL_law__1700 rfl (lv_at hl 1 rfl) ?_
  refine xcallSX (g := g) (As := [.ref x, .int (xs 1), .ref oa]) (rest := []) St hK hT hA hP hD hS hl.1 [0, 2, 15, 3, 16, 20] [1, 4, 5, 6, 7, 8, 9, 10, 11, 12, 13, 14, 17, 18, 19] rfl rfl rfl (l_falls l hfl g x ta o lo go tt lt mo fo ro (-1) a 0 20 6 50 0 1 (fun _ _ => 0) ac 0 (-1) 0 0 0 (fun _ => 0) od ad 0 0 0 20 6 50 0 1 (fun _ _ => 0) (xs 1) oa (fun _ => 0) (by assumption)) (vx_cwSW 3 hts (zgL (zl3 k1439 k1440 k1313) k1241) rfl rfl rfl (by decide +kernel) ⟨Nat.le_of_ble_eq_true rfl, Nat.le_of_ble_eq_true rfl⟩) rfl rfl (Nat.le_of_ble_eq_true rfl) dL_law__1701 ⟨(Nat.le_of_ble_eq_true rfl), (Nat.le_of_ble_eq_true rfl)⟩ (fun E ce q9 u9 H locs hpx hP hD hS hce hcv hcl => hpx.elim) (fun u_ H locs hq3 hP hD hS => ?_)
  obtain ⟨r_1, fz2_2⟩ := u_
  have hq3 : (r_1 = 1 ∧ ((xs 1) < 0 ∨ 100 < (xs 1))) ∨ (r_1 = 0 ∧ (¬ (xs 1) < 0 ∧ ¬ 100 < (xs 1)) ∧ fz2_2 0 = (0 : Int32).toInt64) := hq3
  have hP : va_P g.1 vwCl (List.flatten [bTape g ta ab 0 0 0 0 0 (-1) (fun _ => 0), bLog g go ar 0 0 (fun _ => 0), [(tt, .inr (8, [.ref ta, .ref td]))], bTown g td tda 0 0 0 20 6 50 0 1 (fun _ _ => 0), [(lt, .inr (2, [.ref ta, .ref ldr]))], bLaw g ldr lda 0 (-1) 0 0 0 (fun _ => 0), bMem g mo qT qL it il ig 0 0 0 fT fL, bTown g it ia 0 0 0 20 6 50 0 1 (fun _ _ => 0), bLaw g il ic 0 (-1) 0 0 0 (fun _ => 0), bLog g ig ir 0 0 (fun _ => 0), bTown g t0 ta0 0 0 0 20 6 50 0 1 (fun _ _ => 0), bLog g l0 la0 0 0 (fun _ => 0), bRid g ro af 0 0 (fun _ => 0), bObj g om am 0 0 0 0 0 0 0 (-1) 0 0 0 0, bArr g am (zf [m0, fun _ => 0, fun _ => 0, fun _ => 0, fun _ => 0, fun _ => 0, fun _ => 0, fun _ => 0]), [(oa, .inl (g.2 2, 1, .inr (.inl fz2_2)))]]) H := hP
  have hD : va_D A (List.flatten [bTape g ta ab 0 0 0 0 0 (-1) (fun _ => 0), bLog g go ar 0 0 (fun _ => 0), [(tt, .inr (8, [.ref ta, .ref td]))], bTown g td tda 0 0 0 20 6 50 0 1 (fun _ _ => 0), [(lt, .inr (2, [.ref ta, .ref ldr]))], bLaw g ldr lda 0 (-1) 0 0 0 (fun _ => 0), bMem g mo qT qL it il ig 0 0 0 fT fL, bTown g it ia 0 0 0 20 6 50 0 1 (fun _ _ => 0), bLaw g il ic 0 (-1) 0 0 0 (fun _ => 0), bLog g ig ir 0 0 (fun _ => 0), bTown g t0 ta0 0 0 0 20 6 50 0 1 (fun _ _ => 0), bLog g l0 la0 0 0 (fun _ => 0), bRid g ro af 0 0 (fun _ => 0), bObj g om am 0 0 0 0 0 0 0 (-1) 0 0 0 0, bArr g am (zf [m0, fun _ => 0, fun _ => 0, fun _ => 0, fun _ => 0, fun _ => 0, fun _ => 0, fun _ => 0]), [(oa, .inl (g.2 2, 1, .inr (.inl fz2_2)))]]) := hD
  refine W.widen (k := 248) (n := 14997) (Nat.le_of_ble_eq_true rfl) (Nat.le_of_ble_eq_true rfl) ?_
  refine W.eq (g2 := F0 m 1704 ls [.int r_1]) rfl ?_
  refine lv_istore (lv' := [(5, .int r_1), (4, .int 0), (3, .ref oa), (2, .ref om), (1, .ref x), (0, .ref b)]) hx hb dL_law__1704 hl (by decide) rfl (fun ls hl => ?_)
  refine lv_aload_n hx hb dL_law__1706 rfl (lv_at hl 3 rfl) ?_
  refine lv_aload_n hx hb dL_law__1707 rfl (lv_at hl 5 rfl) ?_
  refine lv_iload hx hb dL_law__1708 (lv_at hl 1 rfl) ?_
  refine lv_iconst (v := 1) hx hb dL_law__1710 (by decide) ?_
  refine lv_iadd hx hb dL_law__1711 ?_
  refine ztop (r := 1) (by decide) ?_
  refine va_sld hx hb hX hbl hbA hS (zin rfl) dL_law__1712 ?_
  refine ztop (r := xs 1) rfl ?_
  refine mcallV (g := g) (q0 := 0) (ci := 10) (As := [.int (xs 1)]) (rest := []) St hK hT hA hP hD hS hl.1 [13, 14] [0, 1, 2, 3, 4, 5, 6, 7, 8, 9, 10, 11, 12, 15] rfl rfl rfl (m_falls l g om am 0 0 0 0 0 0 0 (-1) 0 0 0 0 (zf [m0, fun _ => 0, fun _ => 0, fun _ => 0, fun _ => 0, fun _ => 0, fun _ => 0, fun _ => 0]) (xs 1) (by assumption)) (cwV 1 hts (zgL (zl4 k1441 k1442 k1443 k833) k1080) rfl rfl rfl (by decide +kernel) ⟨Nat.le_of_ble_eq_true rfl, Nat.le_of_ble_eq_true rfl⟩) rfl rfl rfl rfl (Nat.le_of_ble_eq_true rfl) dL_law__1713 ⟨(Nat.le_of_ble_eq_true rfl), (Nat.le_of_ble_eq_true rfl)⟩ (fun u_ H locs hq17 hP hD hS => ?_)
  obtain ⟨th2_4, hi2_5, ac2_6, tp2_7, ba2_8, en2_9, tA2_10, fl2_11, de2_12, iD2_13, iO2_14, tU2_15, q_16⟩ := u_
  have hq17 : (th2_4 = 1 ∧ (((xs 1) : Int32) < 0 ∨ 100 < ((xs 1) : Int32))) ∨ (th2_4 = 0 ∧ (¬ ((xs 1) : Int32) < 0 ∧ ¬ 100 < ((xs 1) : Int32)) ∧ q_16 = 0) := hq17
  have hP : va_P g.1 vwCl (List.flatten [bTape g ta ab 0 0 0 0 0 (-1) (fun _ => 0), bLog g go ar 0 0 (fun _ => 0), [(tt, .inr (8, [.ref ta, .ref td]))], bTown g td tda 0 0 0 20 6 50 0 1 (fun _ _ => 0), [(lt, .inr (2, [.ref ta, .ref ldr]))], bLaw g ldr lda 0 (-1) 0 0 0 (fun _ => 0), bMem g mo qT qL it il ig 0 0 0 fT fL, bTown g it ia 0 0 0 20 6 50 0 1 (fun _ _ => 0), bLaw g il ic 0 (-1) 0 0 0 (fun _ => 0), bLog g ig ir 0 0 (fun _ => 0), bTown g t0 ta0 0 0 0 20 6 50 0 1 (fun _ _ => 0), bLog g l0 la0 0 0 (fun _ => 0), bRid g ro af 0 0 (fun _ => 0), [(oa, .inl (g.2 2, 1, .inr (.inl fz2_2)))], bObj g om am th2_4 hi2_5 ac2_6 tp2_7 ba2_8 en2_9 tA2_10 fl2_11 de2_12 iD2_13 iO2_14 tU2_15]) H := hP
  have hD : va_D A (List.flatten [bTape g ta ab 0 0 0 0 0 (-1) (fun _ => 0), bLog g go ar 0 0 (fun _ => 0), [(tt, .inr (8, [.ref ta, .ref td]))], bTown g td tda 0 0 0 20 6 50 0 1 (fun _ _ => 0), [(lt, .inr (2, [.ref ta, .ref ldr]))], bLaw g ldr lda 0 (-1) 0 0 0 (fun _ => 0), bMem g mo qT qL it il ig 0 0 0 fT fL, bTown g it ia 0 0 0 20 6 50 0 1 (fun _ _ => 0), bLaw g il ic 0 (-1) 0 0 0 (fun _ => 0), bLog g ig ir 0 0 (fun _ => 0), bTown g t0 ta0 0 0 0 20 6 50 0 1 (fun _ _ => 0), bLog g l0 la0 0 0 (fun _ => 0), bRid g ro af 0 0 (fun _ => 0), [(oa, .inl (g.2 2, 1, .inr (.inl fz2_2)))], bObj g om am th2_4 hi2_5 ac2_6 tp2_7 ba2_8 en2_9 tA2_10 fl2_11 de2_12 iD2_13 iO2_14 tU2_15]) := hD
  refine W.widen (k := 248) (n := 14997) (Nat.le_of_ble_eq_true rfl) (Nat.le_of_ble_eq_true rfl) ?_
  refine W.eq (g2 := F0 m 1716 ls [.int q_16]) rfl ?_
  rcases hq3 with ⟨hr9, hb9⟩ | ⟨hr9, hg9⟩
  · skip
    rcases hq17 with ⟨ht9, hB9⟩ | ⟨ht9, hG9⟩
    · skip
      subst hr9
      subst ht9
      refine lv_istore (lv' := [(6, .int q_16), (5, .int 1), (4, .int 0), (3, .ref oa), (2, .ref om), (1, .ref x), (0, .ref b)]) hx hb dL_law__1716 hl (by decide) rfl (fun ls hl => ?_)
      refine lv_aload_n hx hb dL_law__1718 rfl (lv_at hl 4 rfl) ?_
      refine mcallV (g := g) (q0 := 0) (ci := 10) (As := []) (rest := []) St hK hT hA hP hD hS hl.1 [14] [0, 1, 2, 3, 4, 5, 6, 7, 8, 9, 10, 11, 12, 13] rfl rfl rfl (m_thrown l g om am 1 hi2_5 ac2_6 tp2_7 ba2_8 en2_9 tA2_10 fl2_11 de2_12 iD2_13 iO2_14 tU2_15 ) (cwV 0 hts (zgL (zl4 k1317 k1318 k1319 k833) k824) rfl rfl rfl (by decide +kernel) ⟨Nat.le_of_ble_eq_true rfl, Nat.le_of_ble_eq_true rfl⟩) rfl rfl rfl rfl (Nat.le_of_ble_eq_true rfl) dL_law__1719 ⟨(Nat.le_of_ble_eq_true rfl), (Nat.le_of_ble_eq_true rfl)⟩ (fun _u H locs hq18 hP hD hS => ?_)
      have hP : va_P g.1 vwCl (List.flatten [bTape g ta ab 0 0 0 0 0 (-1) (fun _ => 0), bLog g go ar 0 0 (fun _ => 0), [(tt, .inr (8, [.ref ta, .ref td]))], bTown g td tda 0 0 0 20 6 50 0 1 (fun _ _ => 0), [(lt, .inr (2, [.ref ta, .ref ldr]))], bLaw g ldr lda 0 (-1) 0 0 0 (fun _ => 0), bMem g mo qT qL it il ig 0 0 0 fT fL, bTown g it ia 0 0 0 20 6 50 0 1 (fun _ _ => 0), bLaw g il ic 0 (-1) 0 0 0 (fun _ => 0), bLog g ig ir 0 0 (fun _ => 0), bTown g t0 ta0 0 0 0 20 6 50 0 1 (fun _ _ => 0), bLog g l0 la0 0 0 (fun _ => 0), bRid g ro af 0 0 (fun _ => 0), [(oa, .inl (g.2 2, 1, .inr (.inl fz2_2)))], bObj g om am 1 hi2_5 ac2_6 tp2_7 ba2_8 en2_9 tA2_10 fl2_11 de2_12 iD2_13 iO2_14 tU2_15]) H := hP
      have hD : va_D A (List.flatten [bTape g ta ab 0 0 0 0 0 (-1) (fun _ => 0), bLog g go ar 0 0 (fun _ => 0), [(tt, .inr (8, [.ref ta, .ref td]))], bTown g td tda 0 0 0 20 6 50 0 1 (fun _ _ => 0), [(lt, .inr (2, [.ref ta, .ref ldr]))], bLaw g ldr lda 0 (-1) 0 0 0 (fun _ => 0), bMem g mo qT qL it il ig 0 0 0 fT fL, bTown g it ia 0 0 0 20 6 50 0 1 (fun _ _ => 0), bLaw g il ic 0 (-1) 0 0 0 (fun _ => 0), bLog g ig ir 0 0 (fun _ => 0), bTown g t0 ta0 0 0 0 20 6 50 0 1 (fun _ _ => 0), bLog g l0 la0 0 0 (fun _ => 0), bRid g ro af 0 0 (fun _ => 0), [(oa, .inl (g.2 2, 1, .inr (.inl fz2_2)))], bObj g om am 1 hi2_5 ac2_6 tp2_7 ba2_8 en2_9 tA2_10 fl2_11 de2_12 iD2_13 iO2_14 tU2_15]) := hD
      refine W.widen (k := 248) (n := 14997) (Nat.le_of_ble_eq_true rfl) (Nat.le_of_ble_eq_true rfl) ?_
      refine W.eq (g2 := F0 m 1722 ls [.int 1]) rfl ?_
      refine lv_iload hx hb dL_law__1722 (lv_at hl 1 rfl) ?_
      refine lv_icmp_eq (tgt := 1729) hx hb dL_law__1724 (by decide) (fun _ => ?_) (fun c19 => absurd (by decide) c19)
      refine lv_iload hx hb dL_law__1729 (lv_at hl 1 rfl) ?_
      refine lv_if_ne (tgt := 1746) hx hb dL_law__1731 (by decide) (fun _ => ?_) (fun c20 => absurd c20 (by decide))
      refine lv_goto (tgt := 2738) hx hb dL_law__1746 (by decide) ?_
      refine lv_iinc (v := 6) (lv' := [(4, .int 6), (6, .int q_16), (5, .int 1), (3, .ref oa), (2, .ref om), (1, .ref x), (0, .ref b)]) hx hb dL_law__2738 hl (k := 2) rfl (by decide) (by decide) rfl (fun ls hl => ?_)
      refine lv_goto (tgt := 23) hx hb dL_law__2741 (by decide) ?_
      refine lv_iload hx hb dL_law__23 (lv_at hl 0 rfl) ?_
      refine lv_aload_n hx hb dL_law__25 rfl (lv_at hl 6 rfl) ?_
      refine va_slen hx hb hX hbl hbA hS dL_law__26 ?_
      refine ztop (r := 6) rfl ?_
      refine lv_bipush (v := 6) hx hb dL_law__27 (by decide) ?_
      refine lv_isub hx hb dL_law__29 ?_
      refine ztop (r := 0) (by decide) ?_
      refine lv_icmp_gt (tgt := 2744) hx hb dL_law__30 (by decide) (fun _ => ?_) (fun c21 => absurd (by decide) c21)
      refine lv_iconst (v := 1) hx hb dL_law__2744 (by decide) ?_
      refine va_forget (fun q hq => by have h9 := hS.2.2 q hq; rw [hAe] at h9; exact h9) ?_
      refine W.widen (k := 600002) (n := 7302232) (Nat.le_of_ble_eq_true rfl) (Nat.le_of_ble_eq_true rfl) ?_
      exact lw_ret hx hb hr hlocks dL_law__2745
    · skip
      exact (hb9.elim hG9.1.1 hG9.1.2).elim
  · skip
    rcases hq17 with ⟨ht9, hB9⟩ | ⟨ht9, hG9⟩
    · skip
      exact (hB9.elim hg9.1.1 hg9.1.2).elim
    · skip
      subst hr9
      subst ht9
      refine lv_istore (lv' := [(6, .int q_16), (5, .int 0), (4, .int 0), (3, .ref oa), (2, .ref om), (1, .ref x), (0, .ref b)]) hx hb dL_law__1716 hl (by decide) rfl (fun ls hl => ?_)
      refine lv_aload_n hx hb dL_law__1718 rfl (lv_at hl 4 rfl) ?_
      refine mcallV (g := g) (q0 := 0) (ci := 10) (As := []) (rest := []) St hK hT hA hP hD hS hl.1 [14] [0, 1, 2, 3, 4, 5, 6, 7, 8, 9, 10, 11, 12, 13] rfl rfl rfl (m_thrown l g om am 0 hi2_5 ac2_6 tp2_7 ba2_8 en2_9 tA2_10 fl2_11 de2_12 iD2_13 iO2_14 tU2_15 ) (cwV 0 hts (zgL (zl4 k1317 k1318 k1319 k833) k824) rfl rfl rfl (by decide +kernel) ⟨Nat.le_of_ble_eq_true rfl, Nat.le_of_ble_eq_true rfl⟩) rfl rfl rfl rfl (Nat.le_of_ble_eq_true rfl) dL_law__1719 ⟨(Nat.le_of_ble_eq_true rfl), (Nat.le_of_ble_eq_true rfl)⟩ (fun _u H locs hq22 hP hD hS => ?_)
      have hP : va_P g.1 vwCl (List.flatten [bTape g ta ab 0 0 0 0 0 (-1) (fun _ => 0), bLog g go ar 0 0 (fun _ => 0), [(tt, .inr (8, [.ref ta, .ref td]))], bTown g td tda 0 0 0 20 6 50 0 1 (fun _ _ => 0), [(lt, .inr (2, [.ref ta, .ref ldr]))], bLaw g ldr lda 0 (-1) 0 0 0 (fun _ => 0), bMem g mo qT qL it il ig 0 0 0 fT fL, bTown g it ia 0 0 0 20 6 50 0 1 (fun _ _ => 0), bLaw g il ic 0 (-1) 0 0 0 (fun _ => 0), bLog g ig ir 0 0 (fun _ => 0), bTown g t0 ta0 0 0 0 20 6 50 0 1 (fun _ _ => 0), bLog g l0 la0 0 0 (fun _ => 0), bRid g ro af 0 0 (fun _ => 0), [(oa, .inl (g.2 2, 1, .inr (.inl fz2_2)))], bObj g om am 0 hi2_5 ac2_6 tp2_7 ba2_8 en2_9 tA2_10 fl2_11 de2_12 iD2_13 iO2_14 tU2_15]) H := hP
      have hD : va_D A (List.flatten [bTape g ta ab 0 0 0 0 0 (-1) (fun _ => 0), bLog g go ar 0 0 (fun _ => 0), [(tt, .inr (8, [.ref ta, .ref td]))], bTown g td tda 0 0 0 20 6 50 0 1 (fun _ _ => 0), [(lt, .inr (2, [.ref ta, .ref ldr]))], bLaw g ldr lda 0 (-1) 0 0 0 (fun _ => 0), bMem g mo qT qL it il ig 0 0 0 fT fL, bTown g it ia 0 0 0 20 6 50 0 1 (fun _ _ => 0), bLaw g il ic 0 (-1) 0 0 0 (fun _ => 0), bLog g ig ir 0 0 (fun _ => 0), bTown g t0 ta0 0 0 0 20 6 50 0 1 (fun _ _ => 0), bLog g l0 la0 0 0 (fun _ => 0), bRid g ro af 0 0 (fun _ => 0), [(oa, .inl (g.2 2, 1, .inr (.inl fz2_2)))], bObj g om am 0 hi2_5 ac2_6 tp2_7 ba2_8 en2_9 tA2_10 fl2_11 de2_12 iD2_13 iO2_14 tU2_15]) := hD
      refine W.widen (k := 248) (n := 14997) (Nat.le_of_ble_eq_true rfl) (Nat.le_of_ble_eq_true rfl) ?_
      refine W.eq (g2 := F0 m 1722 ls [.int 0]) rfl ?_
      refine lv_iload hx hb dL_law__1722 (lv_at hl 1 rfl) ?_
      refine lv_icmp_eq (tgt := 1729) hx hb dL_law__1724 (by decide) (fun _ => ?_) (fun c23 => absurd (by decide) c23)
      refine lv_iload hx hb dL_law__1729 (lv_at hl 1 rfl) ?_
      refine lv_if_ne (tgt := 1746) hx hb dL_law__1731 (by decide) (fun c24 => absurd (by decide) c24) (fun _ => ?_)
      refine lv_aload_n hx hb dL_law__1734 rfl (lv_at hl 3 rfl) ?_
      refine lv_iconst (v := 0) hx hb dL_law__1735 (by decide) ?_
      refine va_lald hx hb hK hP 55 2 rfl rfl (zin rfl) dL_law__1736 ?_
      refine ztopl (r := fz2_2 0) rfl ?_
      refine lv_iload hx hb dL_law__1737 (lv_at hl 0 rfl) ?_
      refine lv_i2l (v := (q_16 : Int32).toInt64) hx hb dL_law__1739 rfl ?_
      refine W.lcmp hx hb dL_law__1740 ?_
      refine lv_if_eq (tgt := 1746) hx hb dL_law__1741 (by decide) (fun _ => ?_) (fun c25 => absurd (by rw [hg9.2, hG9.2]; exact lg_self _) c25)
      refine lv_goto (tgt := 2738) hx hb dL_law__1746 (by decide) ?_
      refine lv_iinc (v := 6) (lv' := [(4, .int 6), (6, .int q_16), (5, .int 0), (3, .ref oa), (2, .ref om), (1, .ref x), (0, .ref b)]) hx hb dL_law__2738 hl (k := 2) rfl (by decide) (by decide) rfl (fun ls hl => ?_)
      refine lv_goto (tgt := 23) hx hb dL_law__2741 (by decide) ?_
      refine lv_iload hx hb dL_law__23 (lv_at hl 0 rfl) ?_
      refine lv_aload_n hx hb dL_law__25 rfl (lv_at hl 6 rfl) ?_
      refine va_slen hx hb hX hbl hbA hS dL_law__26 ?_
      refine ztop (r := 6) rfl ?_
      refine lv_bipush (v := 6) hx hb dL_law__27 (by decide) ?_
      refine lv_isub hx hb dL_law__29 ?_
      refine ztop (r := 0) (by decide) ?_
      refine lv_icmp_gt (tgt := 2744) hx hb dL_law__30 (by decide) (fun _ => ?_) (fun c26 => absurd (by decide) c26)
      refine lv_iconst (v := 1) hx hb dL_law__2744 (by decide) ?_
      refine va_forget (fun q hq => by have h9 := hS.2.2 q hq; rw [hAe] at h9; exact h9) ?_
      refine W.widen (k := 600002) (n := 7302232) (Nat.le_of_ble_eq_true rfl) (Nat.le_of_ble_eq_true rfl) ?_
      exact lw_ret hx hb hr hlocks dL_law__2745
set_option maxRecDepth 100000 in
set_option maxHeartbeats 4000000 in
/-- the law: chosen -/
theorem w_27 {p : Program} {e : Env} {s : State} {m : MethodId} {below : List Frame} {meth : Method} {c : Code} (l : Launch) (hfl : l.stackTraces = false) (g : zG) {b : Nat} {xs : Nat → Int32} {A : Nat → Prop} (hAe : A = fun q => s.heap.size ≤ q) (hA : ∀ q, s.heap.size ≤ q → A q) (hbA : ¬ A b) (St : CallFix p m c cL_law_ 7 s #[Value.ref b] zB RL) (hr : meth.sig.returnType = ret) (hlocks : meth.locks = false) (hX : va_X b 6 xs s s.heap) (hbl : b < s.heap.size) (hK : zK g s) (hT : zTh A s) (x : Nat) (ta : Nat) (o : Nat) (lo : Nat) (go : Nat) (tt : Nat) (lt : Nat) (mo : Nat) (fo : Nat) (ro : Nat) (ab : Nat) (ac : Nat) (ar : Nat) (td : Nat) (a : Nat → Nat) (tda : Nat → Nat) (ldr : Nat) (lda : Nat) (qT : Nat) (qL : Nat) (it : Nat) (il : Nat) (ig : Nat) (fT : Nat → Option Nat) (fL : Nat → Option Nat) (ia : Nat → Nat) (ic : Nat) (ir : Nat) (t0 : Nat) (ta0 : Nat → Nat) (l0 : Nat) (la0 : Nat) (od : Nat) (ad : Nat → Nat) (af : Nat) (om : Nat) (am : Nat → Nat) (m0 : Nat → Int32) (oa : Nat) (hT0 : fT 0 = some t0) (hL0 : fL 0 = some l0) (hm : zMo m0) (h8 : m0 8 = 0) (h10 : m0 10 = 1) (H : Heap) (locs : List Loc) (ls : Array Slot) (hP : va_P g.1 vwCl (List.flatten [bDR g x ta o lo go tt lt mo fo ro (-1), bTape g ta ab 0 0 0 0 0 (-1) (fun _ => 0), bTown g o a 0 0 0 20 6 50 0 1 (fun _ _ => 0), bLaw g lo ac 0 (-1) 0 0 0 (fun _ => 0), bLog g go ar 0 0 (fun _ => 0), [(tt, .inr (8, [.ref ta, .ref td]))], bTown g td tda 0 0 0 20 6 50 0 1 (fun _ _ => 0), [(lt, .inr (2, [.ref ta, .ref ldr]))], bLaw g ldr lda 0 (-1) 0 0 0 (fun _ => 0), bMem g mo qT qL it il ig 0 0 0 fT fL, bTown g it ia 0 0 0 20 6 50 0 1 (fun _ _ => 0), bLaw g il ic 0 (-1) 0 0 0 (fun _ => 0), bLog g ig ir 0 0 (fun _ => 0), bTown g t0 ta0 0 0 0 20 6 50 0 1 (fun _ _ => 0), bLog g l0 la0 0 0 (fun _ => 0), [(fo, .inr (0, [.ref o, .ref lo, .ref od]))], bTown g od ad 0 0 0 20 6 50 0 1 (fun _ _ => 0), bRid g ro af 0 0 (fun _ => 0), bObj g om am 0 0 0 0 0 0 0 (-1) 0 0 0 0, bArr g am (zf [m0, fun _ => 0, fun _ => 0, fun _ => 0, fun _ => 0, fun _ => 0, fun _ => 0, fun _ => 0]), [(oa, .inl (g.2 2, 1, .inr (.inl (fun _ => 0))))]]) H) (hD : va_D A (List.flatten [bDR g x ta o lo go tt lt mo fo ro (-1), bTape g ta ab 0 0 0 0 0 (-1) (fun _ => 0), bTown g o a 0 0 0 20 6 50 0 1 (fun _ _ => 0), bLaw g lo ac 0 (-1) 0 0 0 (fun _ => 0), bLog g go ar 0 0 (fun _ => 0), [(tt, .inr (8, [.ref ta, .ref td]))], bTown g td tda 0 0 0 20 6 50 0 1 (fun _ _ => 0), [(lt, .inr (2, [.ref ta, .ref ldr]))], bLaw g ldr lda 0 (-1) 0 0 0 (fun _ => 0), bMem g mo qT qL it il ig 0 0 0 fT fL, bTown g it ia 0 0 0 20 6 50 0 1 (fun _ _ => 0), bLaw g il ic 0 (-1) 0 0 0 (fun _ => 0), bLog g ig ir 0 0 (fun _ => 0), bTown g t0 ta0 0 0 0 20 6 50 0 1 (fun _ _ => 0), bLog g l0 la0 0 0 (fun _ => 0), [(fo, .inr (0, [.ref o, .ref lo, .ref od]))], bTown g od ad 0 0 0 20 6 50 0 1 (fun _ _ => 0), bRid g ro af 0 0 (fun _ => 0), bObj g om am 0 0 0 0 0 0 0 (-1) 0 0 0 0, bArr g am (zf [m0, fun _ => 0, fun _ => 0, fun _ => 0, fun _ => 0, fun _ => 0, fun _ => 0, fun _ => 0]), [(oa, .inl (g.2 2, 1, .inr (.inl (fun _ => 0))))]])) (hS : va_S A s.heap H locs) (hl : lv_has ls 7 [(4, .int 0), (3, .ref oa), (2, .ref om), (1, .ref x), (0, .ref b)]) : W p l e room_1 s m #[Value.ref b] below meth c H locs 247 14991 (lw_Z below #[Value.ref b] s) (F0 m 1749 ls []) := by
  obtain ⟨hx, hb, hml, hown, hts⟩ := id St
  have hz0 : zZ (fun _ => 0) := zZ0
  refine lv_aload_n hx hb dL_law__1749 rfl (lv_at hl 3 rfl) ?_
  refine lv_aload_n hx hb dL_law__1750 rfl (lv_at hl 4 rfl) ?_
  refine lv_iload hx hb dL_law__1751 (lv_at hl 0 rfl) ?_
  refine lv_iconst (v := 1) hx hb dL_law__1753 (by decide) ?_
  refine lv_iadd hx hb dL_law__1754 ?_
  refine ztop (r := 1) (by decide) ?_
  refine va_sld hx hb hX hbl hbA hS (zin rfl) dL_law__1755 ?_
  refine ztop (r := xs 1) rfl ?_
  refine lv_if_eq (tgt := 1763) hx hb dL_law__1756 (by decide) (fun cZ => ?_) (fun cZ => ?_)
  · skip
    refine lv_iconst (v := 0) hx hb dL_law__1763 (by decide) ?_
    refine mcallV (g := g) (q0 := 0) (ci := 9) (As := [.int 0]) (rest := []) St hK hT hA hP hD hS hl.1 [0, 2] [1, 3, 4, 5, 6, 7, 8, 9, 10, 11, 12, 13, 14, 15, 16, 17, 18, 19, 20] rfl rfl rfl (c_chosen l g x ta o lo go tt lt mo fo ro (-1) a 0 20 6 50 0 1 (fun _ _ => 0) 0 ) (cwV 1 hts (zgL (zl4 k1444 k1445 k1446 k595) k695) rfl rfl rfl (by decide +kernel) ⟨Nat.le_of_ble_eq_true rfl, Nat.le_of_ble_eq_true rfl⟩) rfl rfl rfl rfl (Nat.le_of_ble_eq_true rfl) dL_law__1764 ⟨(Nat.le_of_ble_eq_true rfl), (Nat.le_of_ble_eq_true rfl)⟩ (fun _u H locs hq2 hP hD hS => ?_)
    have hP : va_P g.1 vwCl (List.flatten [bTape g ta ab 0 0 0 0 0 (-1) (fun _ => 0), bLaw g lo ac 0 (-1) 0 0 0 (fun _ => 0), bLog g go ar 0 0 (fun _ => 0), [(tt, .inr (8, [.ref ta, .ref td]))], bTown g td tda 0 0 0 20 6 50 0 1 (fun _ _ => 0), [(lt, .inr (2, [.ref ta, .ref ldr]))], bLaw g ldr lda 0 (-1) 0 0 0 (fun _ => 0), bMem g mo qT qL it il ig 0 0 0 fT fL, bTown g it ia 0 0 0 20 6 50 0 1 (fun _ _ => 0), bLaw g il ic 0 (-1) 0 0 0 (fun _ => 0), bLog g ig ir 0 0 (fun _ => 0), bTown g t0 ta0 0 0 0 20 6 50 0 1 (fun _ _ => 0), bLog g l0 la0 0 0 (fun _ => 0), [(fo, .inr (0, [.ref o, .ref lo, .ref od]))], bTown g od ad 0 0 0 20 6 50 0 1 (fun _ _ => 0), bRid g ro af 0 0 (fun _ => 0), bObj g om am 0 0 0 0 0 0 0 (-1) 0 0 0 0, bArr g am (zf [m0, fun _ => 0, fun _ => 0, fun _ => 0, fun _ => 0, fun _ => 0, fun _ => 0, fun _ => 0]), [(oa, .inl (g.2 2, 1, .inr (.inl (fun _ => 0))))]]) H := hP
    have hD : va_D A (List.flatten [bTape g ta ab 0 0 0 0 0 (-1) (fun _ => 0), bLaw g lo ac 0 (-1) 0 0 0 (fun _ => 0), bLog g go ar 0 0 (fun _ => 0), [(tt, .inr (8, [.ref ta, .ref td]))], bTown g td tda 0 0 0 20 6 50 0 1 (fun _ _ => 0), [(lt, .inr (2, [.ref ta, .ref ldr]))], bLaw g ldr lda 0 (-1) 0 0 0 (fun _ => 0), bMem g mo qT qL it il ig 0 0 0 fT fL, bTown g it ia 0 0 0 20 6 50 0 1 (fun _ _ => 0), bLaw g il ic 0 (-1) 0 0 0 (fun _ => 0), bLog g ig ir 0 0 (fun _ => 0), bTown g t0 ta0 0 0 0 20 6 50 0 1 (fun _ _ => 0), bLog g l0 la0 0 0 (fun _ => 0), [(fo, .inr (0, [.ref o, .ref lo, .ref od]))], bTown g od ad 0 0 0 20 6 50 0 1 (fun _ _ => 0), bRid g ro af 0 0 (fun _ => 0), bObj g om am 0 0 0 0 0 0 0 (-1) 0 0 0 0, bArr g am (zf [m0, fun _ => 0, fun _ => 0, fun _ => 0, fun _ => 0, fun _ => 0, fun _ => 0, fun _ => 0]), [(oa, .inl (g.2 2, 1, .inr (.inl (fun _ => 0))))]]) := hD
    refine W.widen (k := 247) (n := 14991) (Nat.le_of_ble_eq_true rfl) (Nat.le_of_ble_eq_true rfl) ?_
    refine W.eq (g2 := F0 m 1767 ls [.int 0]) rfl ?_
    refine lv_aload_n hx hb dL_law__1767 rfl (lv_at hl 2 rfl) ?_
    refine lv_aload_n hx hb dL_law__1768 rfl (lv_at hl 4 rfl) ?_
    refine lv_iload hx hb dL_law__1769 (lv_at hl 0 rfl) ?_
    refine lv_iconst (v := 1) hx hb dL_law__1771 (by decide) ?_
    refine lv_iadd hx hb dL_law__1772 ?_
    refine ztop (r := 1) (by decide) ?_
    refine va_sld hx hb hX hbl hbA hS (zin rfl) dL_law__1773 ?_
    refine ztop (r := xs 1) rfl ?_
    refine lv_if_eq (tgt := 1781) hx hb dL_law__1774 (by decide) (fun _ => ?_) (fun c3 => absurd cZ c3)
    refine lv_iconst (v := 0) hx hb dL_law__1781 (by decide) ?_
    refine mcallV (g := g) (q0 := 0) (ci := 10) (As := [.int 0]) (rest := [.int 0]) St hK hT hA hP hD hS hl.1 [16, 17] [0, 1, 2, 3, 4, 5, 6, 7, 8, 9, 10, 11, 12, 13, 14, 15, 18] rfl rfl rfl (m_chosen l g om am 0 0 0 0 0 0 0 (-1) 0 0 0 0 (zf [m0, fun _ => 0, fun _ => 0, fun _ => 0, fun _ => 0, fun _ => 0, fun _ => 0, fun _ => 0]) 0 (by assumption)) (cwV 1 hts (zgL (zl4 k1447 k1448 k1449 k833) k1086) rfl rfl rfl (by decide +kernel) ⟨Nat.le_of_ble_eq_true rfl, Nat.le_of_ble_eq_true rfl⟩) rfl rfl rfl rfl (Nat.le_of_ble_eq_true rfl) dL_law__1782 ⟨(Nat.le_of_ble_eq_true rfl), (Nat.le_of_ble_eq_true rfl)⟩ (fun u_ H locs hq17 hP hD hS => ?_)
    obtain ⟨th2_4, hi2_5, ac2_6, tp2_7, ba2_8, en2_9, tA2_10, fl2_11, de2_12, iD2_13, iO2_14, tU2_15, q_16⟩ := u_
    have hq17 : th2_4 = 0 ∧ q_16 = 0 := hq17
    have hP : va_P g.1 vwCl (List.flatten [bTape g ta ab 0 0 0 0 0 (-1) (fun _ => 0), bLaw g lo ac 0 (-1) 0 0 0 (fun _ => 0), bLog g go ar 0 0 (fun _ => 0), [(tt, .inr (8, [.ref ta, .ref td]))], bTown g td tda 0 0 0 20 6 50 0 1 (fun _ _ => 0), [(lt, .inr (2, [.ref ta, .ref ldr]))], bLaw g ldr lda 0 (-1) 0 0 0 (fun _ => 0), bMem g mo qT qL it il ig 0 0 0 fT fL, bTown g it ia 0 0 0 20 6 50 0 1 (fun _ _ => 0), bLaw g il ic 0 (-1) 0 0 0 (fun _ => 0), bLog g ig ir 0 0 (fun _ => 0), bTown g t0 ta0 0 0 0 20 6 50 0 1 (fun _ _ => 0), bLog g l0 la0 0 0 (fun _ => 0), [(fo, .inr (0, [.ref o, .ref lo, .ref od]))], bTown g od ad 0 0 0 20 6 50 0 1 (fun _ _ => 0), bRid g ro af 0 0 (fun _ => 0), [(oa, .inl (g.2 2, 1, .inr (.inl (fun _ => 0))))], bObj g om am th2_4 hi2_5 ac2_6 tp2_7 ba2_8 en2_9 tA2_10 fl2_11 de2_12 iD2_13 iO2_14 tU2_15]) H := hP
    have hD : va_D A (List.flatten [bTape g ta ab 0 0 0 0 0 (-1) (fun _ => 0), bLaw g lo ac 0 (-1) 0 0 0 (fun _ => 0), bLog g go ar 0 0 (fun _ => 0), [(tt, .inr (8, [.ref ta, .ref td]))], bTown g td tda 0 0 0 20 6 50 0 1 (fun _ _ => 0), [(lt, .inr (2, [.ref ta, .ref ldr]))], bLaw g ldr lda 0 (-1) 0 0 0 (fun _ => 0), bMem g mo qT qL it il ig 0 0 0 fT fL, bTown g it ia 0 0 0 20 6 50 0 1 (fun _ _ => 0), bLaw g il ic 0 (-1) 0 0 0 (fun _ => 0), bLog g ig ir 0 0 (fun _ => 0), bTown g t0 ta0 0 0 0 20 6 50 0 1 (fun _ _ => 0), bLog g l0 la0 0 0 (fun _ => 0), [(fo, .inr (0, [.ref o, .ref lo, .ref od]))], bTown g od ad 0 0 0 20 6 50 0 1 (fun _ _ => 0), bRid g ro af 0 0 (fun _ => 0), [(oa, .inl (g.2 2, 1, .inr (.inl (fun _ => 0))))], bObj g om am th2_4 hi2_5 ac2_6 tp2_7 ba2_8 en2_9 tA2_10 fl2_11 de2_12 iD2_13 iO2_14 tU2_15]) := hD
    refine W.widen (k := 247) (n := 14991) (Nat.le_of_ble_eq_true rfl) (Nat.le_of_ble_eq_true rfl) ?_
    refine W.eq (g2 := F0 m 1785 ls [.int q_16, .int 0]) rfl ?_
    refine lv_icmp_eq (tgt := 2738) hx hb dL_law__1785 (by decide) (fun _ => ?_) (fun c18 => absurd ((hq17.2).symm) c18)
    refine lv_iinc (v := 6) (lv' := [(4, .int 6), (3, .ref oa), (2, .ref om), (1, .ref x), (0, .ref b)]) hx hb dL_law__2738 hl (k := 0) rfl (by decide) (by decide) rfl (fun ls hl => ?_)
    refine lv_goto (tgt := 23) hx hb dL_law__2741 (by decide) ?_
    refine lv_iload hx hb dL_law__23 (lv_at hl 0 rfl) ?_
    refine lv_aload_n hx hb dL_law__25 rfl (lv_at hl 4 rfl) ?_
    refine va_slen hx hb hX hbl hbA hS dL_law__26 ?_
    refine ztop (r := 6) rfl ?_
    refine lv_bipush (v := 6) hx hb dL_law__27 (by decide) ?_
    refine lv_isub hx hb dL_law__29 ?_
    refine ztop (r := 0) (by decide) ?_
    refine lv_icmp_gt (tgt := 2744) hx hb dL_law__30 (by decide) (fun _ => ?_) (fun c19 => absurd (by decide) c19)
    refine lv_iconst (v := 1) hx hb dL_law__2744 (by decide) ?_
    refine va_forget (fun q hq => by have h9 := hS.2.2 q hq; rw [hAe] at h9; exact h9) ?_
    refine W.widen (k := 600002) (n := 7302232) (Nat.le_of_ble_eq_true rfl) (Nat.le_of_ble_eq_true rfl) ?_
    exact lw_ret hx hb hr hlocks dL_law__2745
  · skip
    refine lv_iconst (v := 1) hx hb dL_law__1759 (by decide) ?_
    refine lv_goto (tgt := 1764) hx hb dL_law__1760 (by decide) ?_
    refine mcallV (g := g) (q0 := 0) (ci := 9) (As := [.int 1]) (rest := []) St hK hT hA hP hD hS hl.1 [0, 2] [1, 3, 4, 5, 6, 7, 8, 9, 10, 11, 12, 13, 14, 15, 16, 17, 18, 19, 20] rfl rfl rfl (c_chosen l g x ta o lo go tt lt mo fo ro (-1) a 0 20 6 50 0 1 (fun _ _ => 0) 1 ) (cwV 1 hts (zgL (zl4 k1444 k1445 k1446 k595) k695) rfl rfl rfl (by decide +kernel) ⟨Nat.le_of_ble_eq_true rfl, Nat.le_of_ble_eq_true rfl⟩) rfl rfl rfl rfl (Nat.le_of_ble_eq_true rfl) dL_law__1764 ⟨(Nat.le_of_ble_eq_true rfl), (Nat.le_of_ble_eq_true rfl)⟩ (fun _u H locs hq20 hP hD hS => ?_)
    have hP : va_P g.1 vwCl (List.flatten [bTape g ta ab 0 0 0 0 0 (-1) (fun _ => 0), bLaw g lo ac 0 (-1) 0 0 0 (fun _ => 0), bLog g go ar 0 0 (fun _ => 0), [(tt, .inr (8, [.ref ta, .ref td]))], bTown g td tda 0 0 0 20 6 50 0 1 (fun _ _ => 0), [(lt, .inr (2, [.ref ta, .ref ldr]))], bLaw g ldr lda 0 (-1) 0 0 0 (fun _ => 0), bMem g mo qT qL it il ig 0 0 0 fT fL, bTown g it ia 0 0 0 20 6 50 0 1 (fun _ _ => 0), bLaw g il ic 0 (-1) 0 0 0 (fun _ => 0), bLog g ig ir 0 0 (fun _ => 0), bTown g t0 ta0 0 0 0 20 6 50 0 1 (fun _ _ => 0), bLog g l0 la0 0 0 (fun _ => 0), [(fo, .inr (0, [.ref o, .ref lo, .ref od]))], bTown g od ad 0 0 0 20 6 50 0 1 (fun _ _ => 0), bRid g ro af 0 0 (fun _ => 0), bObj g om am 0 0 0 0 0 0 0 (-1) 0 0 0 0, bArr g am (zf [m0, fun _ => 0, fun _ => 0, fun _ => 0, fun _ => 0, fun _ => 0, fun _ => 0, fun _ => 0]), [(oa, .inl (g.2 2, 1, .inr (.inl (fun _ => 0))))]]) H := hP
    have hD : va_D A (List.flatten [bTape g ta ab 0 0 0 0 0 (-1) (fun _ => 0), bLaw g lo ac 0 (-1) 0 0 0 (fun _ => 0), bLog g go ar 0 0 (fun _ => 0), [(tt, .inr (8, [.ref ta, .ref td]))], bTown g td tda 0 0 0 20 6 50 0 1 (fun _ _ => 0), [(lt, .inr (2, [.ref ta, .ref ldr]))], bLaw g ldr lda 0 (-1) 0 0 0 (fun _ => 0), bMem g mo qT qL it il ig 0 0 0 fT fL, bTown g it ia 0 0 0 20 6 50 0 1 (fun _ _ => 0), bLaw g il ic 0 (-1) 0 0 0 (fun _ => 0), bLog g ig ir 0 0 (fun _ => 0), bTown g t0 ta0 0 0 0 20 6 50 0 1 (fun _ _ => 0), bLog g l0 la0 0 0 (fun _ => 0), [(fo, .inr (0, [.ref o, .ref lo, .ref od]))], bTown g od ad 0 0 0 20 6 50 0 1 (fun _ _ => 0), bRid g ro af 0 0 (fun _ => 0), bObj g om am 0 0 0 0 0 0 0 (-1) 0 0 0 0, bArr g am (zf [m0, fun _ => 0, fun _ => 0, fun _ => 0, fun _ => 0, fun _ => 0, fun _ => 0, fun _ => 0]), [(oa, .inl (g.2 2, 1, .inr (.inl (fun _ => 0))))]]) := hD
    refine W.widen (k := 247) (n := 14991) (Nat.le_of_ble_eq_true rfl) (Nat.le_of_ble_eq_true rfl) ?_
    refine W.eq (g2 := F0 m 1767 ls [.int 0]) rfl ?_
    refine lv_aload_n hx hb dL_law__1767 rfl (lv_at hl 2 rfl) ?_
    refine lv_aload_n hx hb dL_law__1768 rfl (lv_at hl 4 rfl) ?_
    refine lv_iload hx hb dL_law__1769 (lv_at hl 0 rfl) ?_
    refine lv_iconst (v := 1) hx hb dL_law__1771 (by decide) ?_
    refine lv_iadd hx hb dL_law__1772 ?_
    refine ztop (r := 1) (by decide) ?_
    refine va_sld hx hb hX hbl hbA hS (zin rfl) dL_law__1773 ?_
    refine ztop (r := xs 1) rfl ?_
    refine lv_if_eq (tgt := 1781) hx hb dL_law__1774 (by decide) (fun c21 => absurd c21 cZ) (fun _ => ?_)
    refine lv_iconst (v := 1) hx hb dL_law__1777 (by decide) ?_
    refine lv_goto (tgt := 1782) hx hb dL_law__1778 (by decide) ?_
    refine mcallV (g := g) (q0 := 0) (ci := 10) (As := [.int 1]) (rest := [.int 0]) St hK hT hA hP hD hS hl.1 [16, 17] [0, 1, 2, 3, 4, 5, 6, 7, 8, 9, 10, 11, 12, 13, 14, 15, 18] rfl rfl rfl (m_chosen l g om am 0 0 0 0 0 0 0 (-1) 0 0 0 0 (zf [m0, fun _ => 0, fun _ => 0, fun _ => 0, fun _ => 0, fun _ => 0, fun _ => 0, fun _ => 0]) 1 (by assumption)) (cwV 1 hts (zgL (zl4 k1447 k1448 k1449 k833) k1086) rfl rfl rfl (by decide +kernel) ⟨Nat.le_of_ble_eq_true rfl, Nat.le_of_ble_eq_true rfl⟩) rfl rfl rfl rfl (Nat.le_of_ble_eq_true rfl) dL_law__1782 ⟨(Nat.le_of_ble_eq_true rfl), (Nat.le_of_ble_eq_true rfl)⟩ (fun u_ H locs hq35 hP hD hS => ?_)
    obtain ⟨th2_22, hi2_23, ac2_24, tp2_25, ba2_26, en2_27, tA2_28, fl2_29, de2_30, iD2_31, iO2_32, tU2_33, q_34⟩ := u_
    have hq35 : th2_22 = 0 ∧ q_34 = 0 := hq35
    have hP : va_P g.1 vwCl (List.flatten [bTape g ta ab 0 0 0 0 0 (-1) (fun _ => 0), bLaw g lo ac 0 (-1) 0 0 0 (fun _ => 0), bLog g go ar 0 0 (fun _ => 0), [(tt, .inr (8, [.ref ta, .ref td]))], bTown g td tda 0 0 0 20 6 50 0 1 (fun _ _ => 0), [(lt, .inr (2, [.ref ta, .ref ldr]))], bLaw g ldr lda 0 (-1) 0 0 0 (fun _ => 0), bMem g mo qT qL it il ig 0 0 0 fT fL, bTown g it ia 0 0 0 20 6 50 0 1 (fun _ _ => 0), bLaw g il ic 0 (-1) 0 0 0 (fun _ => 0), bLog g ig ir 0 0 (fun _ => 0), bTown g t0 ta0 0 0 0 20 6 50 0 1 (fun _ _ => 0), bLog g l0 la0 0 0 (fun _ => 0), [(fo, .inr (0, [.ref o, .ref lo, .ref od]))], bTown g od ad 0 0 0 20 6 50 0 1 (fun _ _ => 0), bRid g ro af 0 0 (fun _ => 0), [(oa, .inl (g.2 2, 1, .inr (.inl (fun _ => 0))))], bObj g om am th2_22 hi2_23 ac2_24 tp2_25 ba2_26 en2_27 tA2_28 fl2_29 de2_30 iD2_31 iO2_32 tU2_33]) H := hP
    have hD : va_D A (List.flatten [bTape g ta ab 0 0 0 0 0 (-1) (fun _ => 0), bLaw g lo ac 0 (-1) 0 0 0 (fun _ => 0), bLog g go ar 0 0 (fun _ => 0), [(tt, .inr (8, [.ref ta, .ref td]))], bTown g td tda 0 0 0 20 6 50 0 1 (fun _ _ => 0), [(lt, .inr (2, [.ref ta, .ref ldr]))], bLaw g ldr lda 0 (-1) 0 0 0 (fun _ => 0), bMem g mo qT qL it il ig 0 0 0 fT fL, bTown g it ia 0 0 0 20 6 50 0 1 (fun _ _ => 0), bLaw g il ic 0 (-1) 0 0 0 (fun _ => 0), bLog g ig ir 0 0 (fun _ => 0), bTown g t0 ta0 0 0 0 20 6 50 0 1 (fun _ _ => 0), bLog g l0 la0 0 0 (fun _ => 0), [(fo, .inr (0, [.ref o, .ref lo, .ref od]))], bTown g od ad 0 0 0 20 6 50 0 1 (fun _ _ => 0), bRid g ro af 0 0 (fun _ => 0), [(oa, .inl (g.2 2, 1, .inr (.inl (fun _ => 0))))], bObj g om am th2_22 hi2_23 ac2_24 tp2_25 ba2_26 en2_27 tA2_28 fl2_29 de2_30 iD2_31 iO2_32 tU2_33]) := hD
    refine W.widen (k := 247) (n := 14991) (Nat.le_of_ble_eq_true rfl) (Nat.le_of_ble_eq_true rfl) ?_
    refine W.eq (g2 := F0 m 1785 ls [.int q_34, .int 0]) rfl ?_
    refine lv_icmp_eq (tgt := 2738) hx hb dL_law__1785 (by decide) (fun _ => ?_) (fun c36 => absurd ((hq35.2).symm) c36)
    refine lv_iinc (v := 6) (lv' := [(4, .int 6), (3, .ref oa), (2, .ref om), (1, .ref x), (0, .ref b)]) hx hb dL_law__2738 hl (k := 0) rfl (by decide) (by decide) rfl (fun ls hl => ?_)
    refine lv_goto (tgt := 23) hx hb dL_law__2741 (by decide) ?_
    refine lv_iload hx hb dL_law__23 (lv_at hl 0 rfl) ?_
    refine lv_aload_n hx hb dL_law__25 rfl (lv_at hl 4 rfl) ?_
    refine va_slen hx hb hX hbl hbA hS dL_law__26 ?_
    refine ztop (r := 6) rfl ?_
    refine lv_bipush (v := 6) hx hb dL_law__27 (by decide) ?_
    refine lv_isub hx hb dL_law__29 ?_
    refine ztop (r := 0) (by decide) ?_
    refine lv_icmp_gt (tgt := 2744) hx hb dL_law__30 (by decide) (fun _ => ?_) (fun c37 => absurd (by decide) c37)
    refine lv_iconst (v := 1) hx hb dL_law__2744 (by decide) ?_
    refine va_forget (fun q hq => by have h9 := hS.2.2 q hq; rw [hAe] at h9; exact h9) ?_
    refine W.widen (k := 600002) (n := 7302232) (Nat.le_of_ble_eq_true rfl) (Nat.le_of_ble_eq_true rfl) ?_
    exact lw_ret hx hb hr hlocks dL_law__2745
set_option maxRecDepth 100000 in
set_option maxHeartbeats 4000000 in
/-- the law: river -/
theorem w_28 {p : Program} {e : Env} {s : State} {m : MethodId} {below : List Frame} {meth : Method} {c : Code} (l : Launch) (hfl : l.stackTraces = false) (g : zG) {b : Nat} {xs : Nat → Int32} {A : Nat → Prop} (hAe : A = fun q => s.heap.size ≤ q) (hA : ∀ q, s.heap.size ≤ q → A q) (hbA : ¬ A b) (St : CallFix p m c cL_law_ 7 s #[Value.ref b] zB RL) (hr : meth.sig.returnType = ret) (hlocks : meth.locks = false) (hX : va_X b 6 xs s s.heap) (hbl : b < s.heap.size) (hK : zK g s) (hT : zTh A s) (x : Nat) (ta : Nat) (o : Nat) (lo : Nat) (go : Nat) (tt : Nat) (lt : Nat) (mo : Nat) (fo : Nat) (ro : Nat) (ab : Nat) (ac : Nat) (ar : Nat) (td : Nat) (a : Nat → Nat) (tda : Nat → Nat) (ldr : Nat) (lda : Nat) (qT : Nat) (qL : Nat) (it : Nat) (il : Nat) (ig : Nat) (fT : Nat → Option Nat) (fL : Nat → Option Nat) (ia : Nat → Nat) (ic : Nat) (ir : Nat) (t0 : Nat) (ta0 : Nat → Nat) (l0 : Nat) (la0 : Nat) (od : Nat) (ad : Nat → Nat) (af : Nat) (om : Nat) (am : Nat → Nat) (m0 : Nat → Int32) (oa : Nat) (hT0 : fT 0 = some t0) (hL0 : fL 0 = some l0) (hm : zMo m0) (h8 : m0 8 = 0) (h10 : m0 10 = 1) (H : Heap) (locs : List Loc) (ls : Array Slot) (hP : va_P g.1 vwCl (List.flatten [bDR g x ta o lo go tt lt mo fo ro (-1), bTape g ta ab 0 0 0 0 0 (-1) (fun _ => 0), bTown g o a 0 0 0 20 6 50 0 1 (fun _ _ => 0), bLaw g lo ac 0 (-1) 0 0 0 (fun _ => 0), bLog g go ar 0 0 (fun _ => 0), [(tt, .inr (8, [.ref ta, .ref td]))], bTown g td tda 0 0 0 20 6 50 0 1 (fun _ _ => 0), [(lt, .inr (2, [.ref ta, .ref ldr]))], bLaw g ldr lda 0 (-1) 0 0 0 (fun _ => 0), bMem g mo qT qL it il ig 0 0 0 fT fL, bTown g it ia 0 0 0 20 6 50 0 1 (fun _ _ => 0), bLaw g il ic 0 (-1) 0 0 0 (fun _ => 0), bLog g ig ir 0 0 (fun _ => 0), bTown g t0 ta0 0 0 0 20 6 50 0 1 (fun _ _ => 0), bLog g l0 la0 0 0 (fun _ => 0), [(fo, .inr (0, [.ref o, .ref lo, .ref od]))], bTown g od ad 0 0 0 20 6 50 0 1 (fun _ _ => 0), bRid g ro af 0 0 (fun _ => 0), bObj g om am 0 0 0 0 0 0 0 (-1) 0 0 0 0, bArr g am (zf [m0, fun _ => 0, fun _ => 0, fun _ => 0, fun _ => 0, fun _ => 0, fun _ => 0, fun _ => 0]), [(oa, .inl (g.2 2, 1, .inr (.inl (fun _ => 0))))]]) H) (hD : va_D A (List.flatten [bDR g x ta o lo go tt lt mo fo ro (-1), bTape g ta ab 0 0 0 0 0 (-1) (fun _ => 0), bTown g o a 0 0 0 20 6 50 0 1 (fun _ _ => 0), bLaw g lo ac 0 (-1) 0 0 0 (fun _ => 0), bLog g go ar 0 0 (fun _ => 0), [(tt, .inr (8, [.ref ta, .ref td]))], bTown g td tda 0 0 0 20 6 50 0 1 (fun _ _ => 0), [(lt, .inr (2, [.ref ta, .ref ldr]))], bLaw g ldr lda 0 (-1) 0 0 0 (fun _ => 0), bMem g mo qT qL it il ig 0 0 0 fT fL, bTown g it ia 0 0 0 20 6 50 0 1 (fun _ _ => 0), bLaw g il ic 0 (-1) 0 0 0 (fun _ => 0), bLog g ig ir 0 0 (fun _ => 0), bTown g t0 ta0 0 0 0 20 6 50 0 1 (fun _ _ => 0), bLog g l0 la0 0 0 (fun _ => 0), [(fo, .inr (0, [.ref o, .ref lo, .ref od]))], bTown g od ad 0 0 0 20 6 50 0 1 (fun _ _ => 0), bRid g ro af 0 0 (fun _ => 0), bObj g om am 0 0 0 0 0 0 0 (-1) 0 0 0 0, bArr g am (zf [m0, fun _ => 0, fun _ => 0, fun _ => 0, fun _ => 0, fun _ => 0, fun _ => 0, fun _ => 0]), [(oa, .inl (g.2 2, 1, .inr (.inl (fun _ => 0))))]])) (hS : va_S A s.heap H locs) (hl : lv_has ls 7 [(4, .int 0), (3, .ref oa), (2, .ref om), (1, .ref x), (0, .ref b)]) : W p l e room_1 s m #[Value.ref b] below meth c H locs 247 14991 (lw_Z below #[Value.ref b] s) (F0 m 1790 ls []) := by
  obtain ⟨hx, hb, hml, hown, hts⟩ := id St
  have hz0 : zZ (fun _ => 0) := zZ0
  refine lv_aload_n hx hb dL_law__1790 rfl (lv_at hl 3 rfl) ?_
  refine lv_aload_n hx hb dL_law__1791 rfl (lv_at hl 4 rfl) ?_
  refine lv_iload hx hb dL_law__1792 (lv_at hl 0 rfl) ?_
  refine lv_iconst (v := 1) hx hb dL_law__1794 (by decide) ?_
  refine lv_iadd hx hb dL_law__1795 ?_
  refine ztop (r := 1) (by decide) ?_
  refine va_sld hx hb hX hbl hbA hS (zin rfl) dL_law__1796 ?_
  refine ztop (r := xs 1) rfl ?_
  refine lv_aload_n hx hb dL_law__1797 rfl (lv_at hl 1 rfl) ?_
  refine xcallSX (g := g) (As := [.ref x, .int (xs 1), .ref oa]) (rest := []) St hK hT hA hP hD hS hl.1 [0, 1, 20] [2, 3, 4, 5, 6, 7, 8, 9, 10, 11, 12, 13, 14, 15, 16, 17, 18, 19] rfl rfl rfl (l_river l hfl g x ta o lo go tt lt mo fo ro (-1) ab 0 0 0 0 (-1) (fun _ => 0) (xs 1) oa (fun _ => 0) ) (vx_cwSW 3 hts (zgL (zl3 k1450 k1451 k1313) k1245) rfl rfl rfl (by decide +kernel) ⟨Nat.le_of_ble_eq_true rfl, Nat.le_of_ble_eq_true rfl⟩) rfl rfl (Nat.le_of_ble_eq_true rfl) dL_law__1798 ⟨(Nat.le_of_ble_eq_true rfl), (Nat.le_of_ble_eq_true rfl)⟩ (fun E ce q9 u9 H locs hpx hP hD hS hce hcv hcl => hpx.elim) (fun u_ H locs hq4 hP hD hS => ?_)
  obtain ⟨rr0_1, fz2_2, q_3⟩ := u_
  have hq4 : (rr0_1 = 1 ∧ ((xs 1) < 0 ∨ 100 < (xs 1))) ∨ (rr0_1 = 0 ∧ ((¬ (xs 1) < 0 ∧ ¬ 100 < (xs 1)) ∧ q_3 = zod (xs 1) 0) ∧ fz2_2 0 = (q_3 : Int32).toInt64) := hq4
  have hP : va_P g.1 vwCl (List.flatten [bTown g o a 0 0 0 20 6 50 0 1 (fun _ _ => 0), bLaw g lo ac 0 (-1) 0 0 0 (fun _ => 0), bLog g go ar 0 0 (fun _ => 0), [(tt, .inr (8, [.ref ta, .ref td]))], bTown g td tda 0 0 0 20 6 50 0 1 (fun _ _ => 0), [(lt, .inr (2, [.ref ta, .ref ldr]))], bLaw g ldr lda 0 (-1) 0 0 0 (fun _ => 0), bMem g mo qT qL it il ig 0 0 0 fT fL, bTown g it ia 0 0 0 20 6 50 0 1 (fun _ _ => 0), bLaw g il ic 0 (-1) 0 0 0 (fun _ => 0), bLog g ig ir 0 0 (fun _ => 0), bTown g t0 ta0 0 0 0 20 6 50 0 1 (fun _ _ => 0), bLog g l0 la0 0 0 (fun _ => 0), [(fo, .inr (0, [.ref o, .ref lo, .ref od]))], bTown g od ad 0 0 0 20 6 50 0 1 (fun _ _ => 0), bRid g ro af 0 0 (fun _ => 0), bObj g om am 0 0 0 0 0 0 0 (-1) 0 0 0 0, bArr g am (zf [m0, fun _ => 0, fun _ => 0, fun _ => 0, fun _ => 0, fun _ => 0, fun _ => 0, fun _ => 0]), [(oa, .inl (g.2 2, 1, .inr (.inl fz2_2)))]]) H := hP
  have hD : va_D A (List.flatten [bTown g o a 0 0 0 20 6 50 0 1 (fun _ _ => 0), bLaw g lo ac 0 (-1) 0 0 0 (fun _ => 0), bLog g go ar 0 0 (fun _ => 0), [(tt, .inr (8, [.ref ta, .ref td]))], bTown g td tda 0 0 0 20 6 50 0 1 (fun _ _ => 0), [(lt, .inr (2, [.ref ta, .ref ldr]))], bLaw g ldr lda 0 (-1) 0 0 0 (fun _ => 0), bMem g mo qT qL it il ig 0 0 0 fT fL, bTown g it ia 0 0 0 20 6 50 0 1 (fun _ _ => 0), bLaw g il ic 0 (-1) 0 0 0 (fun _ => 0), bLog g ig ir 0 0 (fun _ => 0), bTown g t0 ta0 0 0 0 20 6 50 0 1 (fun _ _ => 0), bLog g l0 la0 0 0 (fun _ => 0), [(fo, .inr (0, [.ref o, .ref lo, .ref od]))], bTown g od ad 0 0 0 20 6 50 0 1 (fun _ _ => 0), bRid g ro af 0 0 (fun _ => 0), bObj g om am 0 0 0 0 0 0 0 (-1) 0 0 0 0, bArr g am (zf [m0, fun _ => 0, fun _ => 0, fun _ => 0, fun _ => 0, fun _ => 0, fun _ => 0, fun _ => 0]), [(oa, .inl (g.2 2, 1, .inr (.inl fz2_2)))]]) := hD
  refine W.widen (k := 249) (n := 15003) (Nat.le_of_ble_eq_true rfl) (Nat.le_of_ble_eq_true rfl) ?_
  refine W.eq (g2 := F0 m 1801 ls [.int rr0_1]) rfl ?_
  refine lv_istore (lv' := [(5, .int rr0_1), (4, .int 0), (3, .ref oa), (2, .ref om), (1, .ref x), (0, .ref b)]) hx hb dL_law__1801 hl (by decide) rfl (fun ls hl => ?_)
  refine lv_aload_n hx hb dL_law__1803 rfl (lv_at hl 3 rfl) ?_
  refine lv_aload_n hx hb dL_law__1804 rfl (lv_at hl 5 rfl) ?_
  refine lv_iload hx hb dL_law__1805 (lv_at hl 1 rfl) ?_
  refine lv_iconst (v := 1) hx hb dL_law__1807 (by decide) ?_
  refine lv_iadd hx hb dL_law__1808 ?_
  refine ztop (r := 1) (by decide) ?_
  refine va_sld hx hb hX hbl hbA hS (zin rfl) dL_law__1809 ?_
  refine ztop (r := xs 1) rfl ?_
  refine mcallV (g := g) (q0 := 0) (ci := 10) (As := [.int (xs 1)]) (rest := []) St hK hT hA hP hD hS hl.1 [16, 17] [0, 1, 2, 3, 4, 5, 6, 7, 8, 9, 10, 11, 12, 13, 14, 15, 18] rfl rfl rfl (m_river l g om am 0 0 0 0 0 0 (-1) 0 0 0 0 (zf [m0, fun _ => 0, fun _ => 0, fun _ => 0, fun _ => 0, fun _ => 0, fun _ => 0, fun _ => 0]) (xs 1) (by assumption)) (cwV 1 hts (zgL (zl4 k1452 k1453 k1454 k833) k1090) rfl rfl rfl (by decide +kernel) ⟨Nat.le_of_ble_eq_true rfl, Nat.le_of_ble_eq_true rfl⟩) rfl rfl rfl rfl (Nat.le_of_ble_eq_true rfl) dL_law__1810 ⟨(Nat.le_of_ble_eq_true rfl), (Nat.le_of_ble_eq_true rfl)⟩ (fun u_ H locs hq18 hP hD hS => ?_)
  obtain ⟨th2_5, hi2_6, ac2_7, tp2_8, ba2_9, en2_10, tA2_11, fl2_12, de2_13, iD2_14, iO2_15, tU2_16, q_17⟩ := u_
  have hq18 : (th2_5 = 1 ∧ (((xs 1) : Int32) < 0 ∨ 100 < ((xs 1) : Int32))) ∨ (th2_5 = 0 ∧ (¬ ((xs 1) : Int32) < 0 ∧ ¬ 100 < ((xs 1) : Int32)) ∧ q_17 = zri (xs 1)) := hq18
  have hP : va_P g.1 vwCl (List.flatten [bTown g o a 0 0 0 20 6 50 0 1 (fun _ _ => 0), bLaw g lo ac 0 (-1) 0 0 0 (fun _ => 0), bLog g go ar 0 0 (fun _ => 0), [(tt, .inr (8, [.ref ta, .ref td]))], bTown g td tda 0 0 0 20 6 50 0 1 (fun _ _ => 0), [(lt, .inr (2, [.ref ta, .ref ldr]))], bLaw g ldr lda 0 (-1) 0 0 0 (fun _ => 0), bMem g mo qT qL it il ig 0 0 0 fT fL, bTown g it ia 0 0 0 20 6 50 0 1 (fun _ _ => 0), bLaw g il ic 0 (-1) 0 0 0 (fun _ => 0), bLog g ig ir 0 0 (fun _ => 0), bTown g t0 ta0 0 0 0 20 6 50 0 1 (fun _ _ => 0), bLog g l0 la0 0 0 (fun _ => 0), [(fo, .inr (0, [.ref o, .ref lo, .ref od]))], bTown g od ad 0 0 0 20 6 50 0 1 (fun _ _ => 0), bRid g ro af 0 0 (fun _ => 0), [(oa, .inl (g.2 2, 1, .inr (.inl fz2_2)))], bObj g om am th2_5 hi2_6 ac2_7 tp2_8 ba2_9 en2_10 tA2_11 fl2_12 de2_13 iD2_14 iO2_15 tU2_16]) H := hP
  have hD : va_D A (List.flatten [bTown g o a 0 0 0 20 6 50 0 1 (fun _ _ => 0), bLaw g lo ac 0 (-1) 0 0 0 (fun _ => 0), bLog g go ar 0 0 (fun _ => 0), [(tt, .inr (8, [.ref ta, .ref td]))], bTown g td tda 0 0 0 20 6 50 0 1 (fun _ _ => 0), [(lt, .inr (2, [.ref ta, .ref ldr]))], bLaw g ldr lda 0 (-1) 0 0 0 (fun _ => 0), bMem g mo qT qL it il ig 0 0 0 fT fL, bTown g it ia 0 0 0 20 6 50 0 1 (fun _ _ => 0), bLaw g il ic 0 (-1) 0 0 0 (fun _ => 0), bLog g ig ir 0 0 (fun _ => 0), bTown g t0 ta0 0 0 0 20 6 50 0 1 (fun _ _ => 0), bLog g l0 la0 0 0 (fun _ => 0), [(fo, .inr (0, [.ref o, .ref lo, .ref od]))], bTown g od ad 0 0 0 20 6 50 0 1 (fun _ _ => 0), bRid g ro af 0 0 (fun _ => 0), [(oa, .inl (g.2 2, 1, .inr (.inl fz2_2)))], bObj g om am th2_5 hi2_6 ac2_7 tp2_8 ba2_9 en2_10 tA2_11 fl2_12 de2_13 iD2_14 iO2_15 tU2_16]) := hD
  refine W.widen (k := 249) (n := 15003) (Nat.le_of_ble_eq_true rfl) (Nat.le_of_ble_eq_true rfl) ?_
  refine W.eq (g2 := F0 m 1813 ls [.int q_17]) rfl ?_
  rcases hq4 with ⟨hr9, hb9⟩ | ⟨hr9, hg9⟩
  · skip
    rcases hq18 with ⟨ht9, hB9⟩ | ⟨ht9, hG9⟩
    · skip
      subst hr9
      subst ht9
      refine lv_istore (lv' := [(6, .int q_17), (5, .int 1), (4, .int 0), (3, .ref oa), (2, .ref om), (1, .ref x), (0, .ref b)]) hx hb dL_law__1813 hl (by decide) rfl (fun ls hl => ?_)
      refine lv_aload_n hx hb dL_law__1815 rfl (lv_at hl 4 rfl) ?_
      refine mcallV (g := g) (q0 := 0) (ci := 10) (As := []) (rest := []) St hK hT hA hP hD hS hl.1 [17] [0, 1, 2, 3, 4, 5, 6, 7, 8, 9, 10, 11, 12, 13, 14, 15, 16] rfl rfl rfl (m_thrown l g om am 1 hi2_6 ac2_7 tp2_8 ba2_9 en2_10 tA2_11 fl2_12 de2_13 iD2_14 iO2_15 tU2_16 ) (cwV 0 hts (zgL (zl4 k1317 k1318 k1319 k833) k824) rfl rfl rfl (by decide +kernel) ⟨Nat.le_of_ble_eq_true rfl, Nat.le_of_ble_eq_true rfl⟩) rfl rfl rfl rfl (Nat.le_of_ble_eq_true rfl) dL_law__1816 ⟨(Nat.le_of_ble_eq_true rfl), (Nat.le_of_ble_eq_true rfl)⟩ (fun _u H locs hq19 hP hD hS => ?_)
      have hP : va_P g.1 vwCl (List.flatten [bTown g o a 0 0 0 20 6 50 0 1 (fun _ _ => 0), bLaw g lo ac 0 (-1) 0 0 0 (fun _ => 0), bLog g go ar 0 0 (fun _ => 0), [(tt, .inr (8, [.ref ta, .ref td]))], bTown g td tda 0 0 0 20 6 50 0 1 (fun _ _ => 0), [(lt, .inr (2, [.ref ta, .ref ldr]))], bLaw g ldr lda 0 (-1) 0 0 0 (fun _ => 0), bMem g mo qT qL it il ig 0 0 0 fT fL, bTown g it ia 0 0 0 20 6 50 0 1 (fun _ _ => 0), bLaw g il ic 0 (-1) 0 0 0 (fun _ => 0), bLog g ig ir 0 0 (fun _ => 0), bTown g t0 ta0 0 0 0 20 6 50 0 1 (fun _ _ => 0), bLog g l0 la0 0 0 (fun _ => 0), [(fo, .inr (0, [.ref o, .ref lo, .ref od]))], bTown g od ad 0 0 0 20 6 50 0 1 (fun _ _ => 0), bRid g ro af 0 0 (fun _ => 0), [(oa, .inl (g.2 2, 1, .inr (.inl fz2_2)))], bObj g om am 1 hi2_6 ac2_7 tp2_8 ba2_9 en2_10 tA2_11 fl2_12 de2_13 iD2_14 iO2_15 tU2_16]) H := hP
      have hD : va_D A (List.flatten [bTown g o a 0 0 0 20 6 50 0 1 (fun _ _ => 0), bLaw g lo ac 0 (-1) 0 0 0 (fun _ => 0), bLog g go ar 0 0 (fun _ => 0), [(tt, .inr (8, [.ref ta, .ref td]))], bTown g td tda 0 0 0 20 6 50 0 1 (fun _ _ => 0), [(lt, .inr (2, [.ref ta, .ref ldr]))], bLaw g ldr lda 0 (-1) 0 0 0 (fun _ => 0), bMem g mo qT qL it il ig 0 0 0 fT fL, bTown g it ia 0 0 0 20 6 50 0 1 (fun _ _ => 0), bLaw g il ic 0 (-1) 0 0 0 (fun _ => 0), bLog g ig ir 0 0 (fun _ => 0), bTown g t0 ta0 0 0 0 20 6 50 0 1 (fun _ _ => 0), bLog g l0 la0 0 0 (fun _ => 0), [(fo, .inr (0, [.ref o, .ref lo, .ref od]))], bTown g od ad 0 0 0 20 6 50 0 1 (fun _ _ => 0), bRid g ro af 0 0 (fun _ => 0), [(oa, .inl (g.2 2, 1, .inr (.inl fz2_2)))], bObj g om am 1 hi2_6 ac2_7 tp2_8 ba2_9 en2_10 tA2_11 fl2_12 de2_13 iD2_14 iO2_15 tU2_16]) := hD
      refine W.widen (k := 249) (n := 15003) (Nat.le_of_ble_eq_true rfl) (Nat.le_of_ble_eq_true rfl) ?_
      refine W.eq (g2 := F0 m 1819 ls [.int 1]) rfl ?_
      refine lv_iload hx hb dL_law__1819 (lv_at hl 1 rfl) ?_
      refine lv_icmp_eq (tgt := 1826) hx hb dL_law__1821 (by decide) (fun _ => ?_) (fun c20 => absurd (by decide) c20)
      refine lv_iload hx hb dL_law__1826 (lv_at hl 1 rfl) ?_
      refine lv_if_ne (tgt := 1843) hx hb dL_law__1828 (by decide) (fun _ => ?_) (fun c21 => absurd c21 (by decide))
      refine lv_goto (tgt := 2738) hx hb dL_law__1843 (by decide) ?_
      refine lv_iinc (v := 6) (lv' := [(4, .int 6), (6, .int q_17), (5, .int 1), (3, .ref oa), (2, .ref om), (1, .ref x), (0, .ref b)]) hx hb dL_law__2738 hl (k := 2) rfl (by decide) (by decide) rfl (fun ls hl => ?_)
      refine lv_goto (tgt := 23) hx hb dL_law__2741 (by decide) ?_
      refine lv_iload hx hb dL_law__23 (lv_at hl 0 rfl) ?_
      refine lv_aload_n hx hb dL_law__25 rfl (lv_at hl 6 rfl) ?_
      refine va_slen hx hb hX hbl hbA hS dL_law__26 ?_
      refine ztop (r := 6) rfl ?_
      refine lv_bipush (v := 6) hx hb dL_law__27 (by decide) ?_
      refine lv_isub hx hb dL_law__29 ?_
      refine ztop (r := 0) (by decide) ?_
      refine lv_icmp_gt (tgt := 2744) hx hb dL_law__30 (by decide) (fun _ => ?_) (fun c22 => absurd (by decide) c22)
      refine lv_iconst (v := 1) hx hb dL_law__2744 (by decide) ?_
      refine va_forget (fun q hq => by have h9 := hS.2.2 q hq; rw [hAe] at h9; exact h9) ?_
      refine W.widen (k := 600002) (n := 7302232) (Nat.le_of_ble_eq_true rfl) (Nat.le_of_ble_eq_true rfl) ?_
      exact lw_ret hx hb hr hlocks dL_law__2745
    · skip
      exact (hb9.elim hG9.1.1 hG9.1.2).elim
  · skip
    rcases hq18 with ⟨ht9, hB9⟩ | ⟨ht9, hG9⟩
    · skip
      exact (hB9.elim hg9.1.1.1 hg9.1.1.2).elim
    · skip
      subst hr9
      subst ht9
      refine lv_istore (lv' := [(6, .int q_17), (5, .int 0), (4, .int 0), (3, .ref oa), (2, .ref om), (1, .ref x), (0, .ref b)]) hx hb dL_law__1813 hl (by decide) rfl (fun ls hl => ?_)
      refine lv_aload_n hx hb dL_law__1815 rfl (lv_at hl 4 rfl) ?_
      refine mcallV (g := g) (q0 := 0) (ci := 10) (As := []) (rest := []) St hK hT hA hP hD hS hl.1 [17] [0, 1, 2, 3, 4, 5, 6, 7, 8, 9, 10, 11, 12, 13, 14, 15, 16] rfl rfl rfl (m_thrown l g om am 0 hi2_6 ac2_7 tp2_8 ba2_9 en2_10 tA2_11 fl2_12 de2_13 iD2_14 iO2_15 tU2_16 ) (cwV 0 hts (zgL (zl4 k1317 k1318 k1319 k833) k824) rfl rfl rfl (by decide +kernel) ⟨Nat.le_of_ble_eq_true rfl, Nat.le_of_ble_eq_true rfl⟩) rfl rfl rfl rfl (Nat.le_of_ble_eq_true rfl) dL_law__1816 ⟨(Nat.le_of_ble_eq_true rfl), (Nat.le_of_ble_eq_true rfl)⟩ (fun _u H locs hq23 hP hD hS => ?_)
      have hP : va_P g.1 vwCl (List.flatten [bTown g o a 0 0 0 20 6 50 0 1 (fun _ _ => 0), bLaw g lo ac 0 (-1) 0 0 0 (fun _ => 0), bLog g go ar 0 0 (fun _ => 0), [(tt, .inr (8, [.ref ta, .ref td]))], bTown g td tda 0 0 0 20 6 50 0 1 (fun _ _ => 0), [(lt, .inr (2, [.ref ta, .ref ldr]))], bLaw g ldr lda 0 (-1) 0 0 0 (fun _ => 0), bMem g mo qT qL it il ig 0 0 0 fT fL, bTown g it ia 0 0 0 20 6 50 0 1 (fun _ _ => 0), bLaw g il ic 0 (-1) 0 0 0 (fun _ => 0), bLog g ig ir 0 0 (fun _ => 0), bTown g t0 ta0 0 0 0 20 6 50 0 1 (fun _ _ => 0), bLog g l0 la0 0 0 (fun _ => 0), [(fo, .inr (0, [.ref o, .ref lo, .ref od]))], bTown g od ad 0 0 0 20 6 50 0 1 (fun _ _ => 0), bRid g ro af 0 0 (fun _ => 0), [(oa, .inl (g.2 2, 1, .inr (.inl fz2_2)))], bObj g om am 0 hi2_6 ac2_7 tp2_8 ba2_9 en2_10 tA2_11 fl2_12 de2_13 iD2_14 iO2_15 tU2_16]) H := hP
      have hD : va_D A (List.flatten [bTown g o a 0 0 0 20 6 50 0 1 (fun _ _ => 0), bLaw g lo ac 0 (-1) 0 0 0 (fun _ => 0), bLog g go ar 0 0 (fun _ => 0), [(tt, .inr (8, [.ref ta, .ref td]))], bTown g td tda 0 0 0 20 6 50 0 1 (fun _ _ => 0), [(lt, .inr (2, [.ref ta, .ref ldr]))], bLaw g ldr lda 0 (-1) 0 0 0 (fun _ => 0), bMem g mo qT qL it il ig 0 0 0 fT fL, bTown g it ia 0 0 0 20 6 50 0 1 (fun _ _ => 0), bLaw g il ic 0 (-1) 0 0 0 (fun _ => 0), bLog g ig ir 0 0 (fun _ => 0), bTown g t0 ta0 0 0 0 20 6 50 0 1 (fun _ _ => 0), bLog g l0 la0 0 0 (fun _ => 0), [(fo, .inr (0, [.ref o, .ref lo, .ref od]))], bTown g od ad 0 0 0 20 6 50 0 1 (fun _ _ => 0), bRid g ro af 0 0 (fun _ => 0), [(oa, .inl (g.2 2, 1, .inr (.inl fz2_2)))], bObj g om am 0 hi2_6 ac2_7 tp2_8 ba2_9 en2_10 tA2_11 fl2_12 de2_13 iD2_14 iO2_15 tU2_16]) := hD
      refine W.widen (k := 249) (n := 15003) (Nat.le_of_ble_eq_true rfl) (Nat.le_of_ble_eq_true rfl) ?_
      refine W.eq (g2 := F0 m 1819 ls [.int 0]) rfl ?_
      refine lv_iload hx hb dL_law__1819 (lv_at hl 1 rfl) ?_
      refine lv_icmp_eq (tgt := 1826) hx hb dL_law__1821 (by decide) (fun _ => ?_) (fun c24 => absurd (by decide) c24)
      refine lv_iload hx hb dL_law__1826 (lv_at hl 1 rfl) ?_
      refine lv_if_ne (tgt := 1843) hx hb dL_law__1828 (by decide) (fun c25 => absurd (by decide) c25) (fun _ => ?_)
      refine lv_aload_n hx hb dL_law__1831 rfl (lv_at hl 3 rfl) ?_
      refine lv_iconst (v := 0) hx hb dL_law__1832 (by decide) ?_
      refine va_lald hx hb hK hP 80 2 rfl rfl (zin rfl) dL_law__1833 ?_
      refine ztopl (r := fz2_2 0) rfl ?_
      refine lv_iload hx hb dL_law__1834 (lv_at hl 0 rfl) ?_
      refine lv_i2l (v := (q_17 : Int32).toInt64) hx hb dL_law__1836 rfl ?_
      refine W.lcmp hx hb dL_law__1837 ?_
      refine lv_if_eq (tgt := 1843) hx hb dL_law__1838 (by decide) (fun _ => ?_) (fun c26 => absurd (by rw [hg9.2, hg9.1.2, zriE hG9.1, hG9.2]; exact lg_self _) c26)
      refine lv_goto (tgt := 2738) hx hb dL_law__1843 (by decide) ?_
      refine lv_iinc (v := 6) (lv' := [(4, .int 6), (6, .int q_17), (5, .int 0), (3, .ref oa), (2, .ref om), (1, .ref x), (0, .ref b)]) hx hb dL_law__2738 hl (k := 2) rfl (by decide) (by decide) rfl (fun ls hl => ?_)
      refine lv_goto (tgt := 23) hx hb dL_law__2741 (by decide) ?_
      refine lv_iload hx hb dL_law__23 (lv_at hl 0 rfl) ?_
      refine lv_aload_n hx hb dL_law__25 rfl (lv_at hl 6 rfl) ?_
      refine va_slen hx hb hX hbl hbA hS dL_law__26 ?_
      refine ztop (r := 6) rfl ?_
      refine lv_bipush (v := 6) hx hb dL_law__27 (by decide) ?_
      refine lv_isub hx hb dL_law__29 ?_
      refine ztop (r := 0) (by decide) ?_
      refine lv_icmp_gt (tgt := 2744) hx hb dL_law__30 (by decide) (fun _ => ?_) (fun c27 => absurd (by decide) c27)
      refine lv_iconst (v := 1) hx hb dL_law__2744 (by decide) ?_
      refine va_forget (fun q hq => by have h9 := hS.2.2 q hq; rw [hAe] at h9; exact h9) ?_
      refine W.widen (k := 600002) (n := 7302232) (Nat.le_of_ble_eq_true rfl) (Nat.le_of_ble_eq_true rfl) ?_
      exact lw_ret hx hb hr hlocks dL_law__2745
set_option maxRecDepth 100000 in
set_option maxHeartbeats 4000000 in
/-- the law: more -/
theorem w_29 {p : Program} {e : Env} {s : State} {m : MethodId} {below : List Frame} {meth : Method} {c : Code} (l : Launch) (hfl : l.stackTraces = false) (g : zG) {b : Nat} {xs : Nat → Int32} {A : Nat → Prop} (hAe : A = fun q => s.heap.size ≤ q) (hA : ∀ q, s.heap.size ≤ q → A q) (hbA : ¬ A b) (St : CallFix p m c cL_law_ 7 s #[Value.ref b] zB RL) (hr : meth.sig.returnType = ret) (hlocks : meth.locks = false) (hX : va_X b 6 xs s s.heap) (hbl : b < s.heap.size) (hK : zK g s) (hT : zTh A s) (x : Nat) (ta : Nat) (o : Nat) (lo : Nat) (go : Nat) (tt : Nat) (lt : Nat) (mo : Nat) (fo : Nat) (ro : Nat) (ab : Nat) (ac : Nat) (ar : Nat) (td : Nat) (a : Nat → Nat) (tda : Nat → Nat) (ldr : Nat) (lda : Nat) (qT : Nat) (qL : Nat) (it : Nat) (il : Nat) (ig : Nat) (fT : Nat → Option Nat) (fL : Nat → Option Nat) (ia : Nat → Nat) (ic : Nat) (ir : Nat) (t0 : Nat) (ta0 : Nat → Nat) (l0 : Nat) (la0 : Nat) (od : Nat) (ad : Nat → Nat) (af : Nat) (om : Nat) (am : Nat → Nat) (m0 : Nat → Int32) (oa : Nat) (hT0 : fT 0 = some t0) (hL0 : fL 0 = some l0) (hm : zMo m0) (h8 : m0 8 = 0) (h10 : m0 10 = 1) (H : Heap) (locs : List Loc) (ls : Array Slot) (hP : va_P g.1 vwCl (List.flatten [bDR g x ta o lo go tt lt mo fo ro (-1), bTape g ta ab 0 0 0 0 0 (-1) (fun _ => 0), bTown g o a 0 0 0 20 6 50 0 1 (fun _ _ => 0), bLaw g lo ac 0 (-1) 0 0 0 (fun _ => 0), bLog g go ar 0 0 (fun _ => 0), [(tt, .inr (8, [.ref ta, .ref td]))], bTown g td tda 0 0 0 20 6 50 0 1 (fun _ _ => 0), [(lt, .inr (2, [.ref ta, .ref ldr]))], bLaw g ldr lda 0 (-1) 0 0 0 (fun _ => 0), bMem g mo qT qL it il ig 0 0 0 fT fL, bTown g it ia 0 0 0 20 6 50 0 1 (fun _ _ => 0), bLaw g il ic 0 (-1) 0 0 0 (fun _ => 0), bLog g ig ir 0 0 (fun _ => 0), bTown g t0 ta0 0 0 0 20 6 50 0 1 (fun _ _ => 0), bLog g l0 la0 0 0 (fun _ => 0), [(fo, .inr (0, [.ref o, .ref lo, .ref od]))], bTown g od ad 0 0 0 20 6 50 0 1 (fun _ _ => 0), bRid g ro af 0 0 (fun _ => 0), bObj g om am 0 0 0 0 0 0 0 (-1) 0 0 0 0, bArr g am (zf [m0, fun _ => 0, fun _ => 0, fun _ => 0, fun _ => 0, fun _ => 0, fun _ => 0, fun _ => 0]), [(oa, .inl (g.2 2, 1, .inr (.inl (fun _ => 0))))]]) H) (hD : va_D A (List.flatten [bDR g x ta o lo go tt lt mo fo ro (-1), bTape g ta ab 0 0 0 0 0 (-1) (fun _ => 0), bTown g o a 0 0 0 20 6 50 0 1 (fun _ _ => 0), bLaw g lo ac 0 (-1) 0 0 0 (fun _ => 0), bLog g go ar 0 0 (fun _ => 0), [(tt, .inr (8, [.ref ta, .ref td]))], bTown g td tda 0 0 0 20 6 50 0 1 (fun _ _ => 0), [(lt, .inr (2, [.ref ta, .ref ldr]))], bLaw g ldr lda 0 (-1) 0 0 0 (fun _ => 0), bMem g mo qT qL it il ig 0 0 0 fT fL, bTown g it ia 0 0 0 20 6 50 0 1 (fun _ _ => 0), bLaw g il ic 0 (-1) 0 0 0 (fun _ => 0), bLog g ig ir 0 0 (fun _ => 0), bTown g t0 ta0 0 0 0 20 6 50 0 1 (fun _ _ => 0), bLog g l0 la0 0 0 (fun _ => 0), [(fo, .inr (0, [.ref o, .ref lo, .ref od]))], bTown g od ad 0 0 0 20 6 50 0 1 (fun _ _ => 0), bRid g ro af 0 0 (fun _ => 0), bObj g om am 0 0 0 0 0 0 0 (-1) 0 0 0 0, bArr g am (zf [m0, fun _ => 0, fun _ => 0, fun _ => 0, fun _ => 0, fun _ => 0, fun _ => 0, fun _ => 0]), [(oa, .inl (g.2 2, 1, .inr (.inl (fun _ => 0))))]])) (hS : va_S A s.heap H locs) (hl : lv_has ls 7 [(4, .int 0), (3, .ref oa), (2, .ref om), (1, .ref x), (0, .ref b)]) : W p l e room_1 s m #[Value.ref b] below meth c H locs 247 14991 (lw_Z below #[Value.ref b] s) (F0 m 1846 ls []) := by
  obtain ⟨hx, hb, hml, hown, hts⟩ := id St
  have hz0 : zZ (fun _ => 0) := zZ0
  refine lv_aload_n hx hb dL_law__1846 rfl (lv_at hl 3 rfl) ?_
  refine lv_aload_n hx hb dL_law__1847 rfl (lv_at hl 4 rfl) ?_
  refine lv_iload hx hb dL_law__1848 (lv_at hl 0 rfl) ?_
  refine lv_iconst (v := 1) hx hb dL_law__1850 (by decide) ?_
  refine lv_iadd hx hb dL_law__1851 ?_
  refine ztop (r := 1) (by decide) ?_
  refine va_sld hx hb hX hbl hbA hS (zin rfl) dL_law__1852 ?_
  refine ztop (r := xs 1) rfl ?_
  refine lv_aload_n hx hb dL_law__1853 rfl (lv_at hl 1 rfl) ?_
  refine xcallSX (g := g) (As := [.ref x, .int (xs 1), .ref oa]) (rest := []) St hK hT hA hP hD hS hl.1 [0, 1, 20] [2, 3, 4, 5, 6, 7, 8, 9, 10, 11, 12, 13, 14, 15, 16, 17, 18, 19] rfl rfl rfl (l_more l hfl g x ta o lo go tt lt mo fo ro (-1) ab 0 0 0 0 (-1) (fun _ => 0) (xs 1) oa (fun _ => 0) ) (vx_cwSW 3 hts (zgL (zl3 k1455 k1456 k1313) k1249) rfl rfl rfl (by decide +kernel) ⟨Nat.le_of_ble_eq_true rfl, Nat.le_of_ble_eq_true rfl⟩) rfl rfl (Nat.le_of_ble_eq_true rfl) dL_law__1854 ⟨(Nat.le_of_ble_eq_true rfl), (Nat.le_of_ble_eq_true rfl)⟩ (fun E ce q9 u9 H locs hpx hP hD hS hce hcv hcl => hpx.elim) (fun u_ H locs hq4 hP hD hS => ?_)
  obtain ⟨rr0_1, fz2_2, q_3⟩ := u_
  have hq4 : (rr0_1 = 1 ∧ ((xs 1) < 0 ∨ 100 < (xs 1))) ∨ (rr0_1 = 0 ∧ ((¬ (xs 1) < 0 ∧ ¬ 100 < (xs 1)) ∧ q_3 = zfn (xs 1)) ∧ fz2_2 0 = (q_3 : Int32).toInt64) := hq4
  have hP : va_P g.1 vwCl (List.flatten [bTown g o a 0 0 0 20 6 50 0 1 (fun _ _ => 0), bLaw g lo ac 0 (-1) 0 0 0 (fun _ => 0), bLog g go ar 0 0 (fun _ => 0), [(tt, .inr (8, [.ref ta, .ref td]))], bTown g td tda 0 0 0 20 6 50 0 1 (fun _ _ => 0), [(lt, .inr (2, [.ref ta, .ref ldr]))], bLaw g ldr lda 0 (-1) 0 0 0 (fun _ => 0), bMem g mo qT qL it il ig 0 0 0 fT fL, bTown g it ia 0 0 0 20 6 50 0 1 (fun _ _ => 0), bLaw g il ic 0 (-1) 0 0 0 (fun _ => 0), bLog g ig ir 0 0 (fun _ => 0), bTown g t0 ta0 0 0 0 20 6 50 0 1 (fun _ _ => 0), bLog g l0 la0 0 0 (fun _ => 0), [(fo, .inr (0, [.ref o, .ref lo, .ref od]))], bTown g od ad 0 0 0 20 6 50 0 1 (fun _ _ => 0), bRid g ro af 0 0 (fun _ => 0), bObj g om am 0 0 0 0 0 0 0 (-1) 0 0 0 0, bArr g am (zf [m0, fun _ => 0, fun _ => 0, fun _ => 0, fun _ => 0, fun _ => 0, fun _ => 0, fun _ => 0]), [(oa, .inl (g.2 2, 1, .inr (.inl fz2_2)))]]) H := hP
  have hD : va_D A (List.flatten [bTown g o a 0 0 0 20 6 50 0 1 (fun _ _ => 0), bLaw g lo ac 0 (-1) 0 0 0 (fun _ => 0), bLog g go ar 0 0 (fun _ => 0), [(tt, .inr (8, [.ref ta, .ref td]))], bTown g td tda 0 0 0 20 6 50 0 1 (fun _ _ => 0), [(lt, .inr (2, [.ref ta, .ref ldr]))], bLaw g ldr lda 0 (-1) 0 0 0 (fun _ => 0), bMem g mo qT qL it il ig 0 0 0 fT fL, bTown g it ia 0 0 0 20 6 50 0 1 (fun _ _ => 0), bLaw g il ic 0 (-1) 0 0 0 (fun _ => 0), bLog g ig ir 0 0 (fun _ => 0), bTown g t0 ta0 0 0 0 20 6 50 0 1 (fun _ _ => 0), bLog g l0 la0 0 0 (fun _ => 0), [(fo, .inr (0, [.ref o, .ref lo, .ref od]))], bTown g od ad 0 0 0 20 6 50 0 1 (fun _ _ => 0), bRid g ro af 0 0 (fun _ => 0), bObj g om am 0 0 0 0 0 0 0 (-1) 0 0 0 0, bArr g am (zf [m0, fun _ => 0, fun _ => 0, fun _ => 0, fun _ => 0, fun _ => 0, fun _ => 0, fun _ => 0]), [(oa, .inl (g.2 2, 1, .inr (.inl fz2_2)))]]) := hD
  refine W.widen (k := 249) (n := 15003) (Nat.le_of_ble_eq_true rfl) (Nat.le_of_ble_eq_true rfl) ?_
  refine W.eq (g2 := F0 m 1857 ls [.int rr0_1]) rfl ?_
  refine lv_istore (lv' := [(5, .int rr0_1), (4, .int 0), (3, .ref oa), (2, .ref om), (1, .ref x), (0, .ref b)]) hx hb dL_law__1857 hl (by decide) rfl (fun ls hl => ?_)
  refine lv_aload_n hx hb dL_law__1859 rfl (lv_at hl 3 rfl) ?_
  refine lv_aload_n hx hb dL_law__1860 rfl (lv_at hl 5 rfl) ?_
  refine lv_iload hx hb dL_law__1861 (lv_at hl 1 rfl) ?_
  refine lv_iconst (v := 1) hx hb dL_law__1863 (by decide) ?_
  refine lv_iadd hx hb dL_law__1864 ?_
  refine ztop (r := 1) (by decide) ?_
  refine va_sld hx hb hX hbl hbA hS (zin rfl) dL_law__1865 ?_
  refine ztop (r := xs 1) rfl ?_
  refine mcallV (g := g) (q0 := 0) (ci := 10) (As := [.int (xs 1)]) (rest := []) St hK hT hA hP hD hS hl.1 [16, 17] [0, 1, 2, 3, 4, 5, 6, 7, 8, 9, 10, 11, 12, 13, 14, 15, 18] rfl rfl rfl (m_more l g om am 0 0 0 0 0 0 (-1) 0 0 0 0 (zf [m0, fun _ => 0, fun _ => 0, fun _ => 0, fun _ => 0, fun _ => 0, fun _ => 0, fun _ => 0]) (xs 1) (by assumption)) (cwV 1 hts (zgL (zl4 k1457 k1458 k1459 k833) k1097) rfl rfl rfl (by decide +kernel) ⟨Nat.le_of_ble_eq_true rfl, Nat.le_of_ble_eq_true rfl⟩) rfl rfl rfl rfl (Nat.le_of_ble_eq_true rfl) dL_law__1866 ⟨(Nat.le_of_ble_eq_true rfl), (Nat.le_of_ble_eq_true rfl)⟩ (fun u_ H locs hq18 hP hD hS => ?_)
  obtain ⟨th2_5, hi2_6, ac2_7, tp2_8, ba2_9, en2_10, tA2_11, fl2_12, de2_13, iD2_14, iO2_15, tU2_16, q_17⟩ := u_
  have hq18 : (th2_5 = 1 ∧ (((xs 1) : Int32) < 0 ∨ 100 < ((xs 1) : Int32))) ∨ (th2_5 = 0 ∧ (¬ ((xs 1) : Int32) < 0 ∧ ¬ 100 < ((xs 1) : Int32)) ∧ q_17 = zmr (xs 1)) := hq18
  have hP : va_P g.1 vwCl (List.flatten [bTown g o a 0 0 0 20 6 50 0 1 (fun _ _ => 0), bLaw g lo ac 0 (-1) 0 0 0 (fun _ => 0), bLog g go ar 0 0 (fun _ => 0), [(tt, .inr (8, [.ref ta, .ref td]))], bTown g td tda 0 0 0 20 6 50 0 1 (fun _ _ => 0), [(lt, .inr (2, [.ref ta, .ref ldr]))], bLaw g ldr lda 0 (-1) 0 0 0 (fun _ => 0), bMem g mo qT qL it il ig 0 0 0 fT fL, bTown g it ia 0 0 0 20 6 50 0 1 (fun _ _ => 0), bLaw g il ic 0 (-1) 0 0 0 (fun _ => 0), bLog g ig ir 0 0 (fun _ => 0), bTown g t0 ta0 0 0 0 20 6 50 0 1 (fun _ _ => 0), bLog g l0 la0 0 0 (fun _ => 0), [(fo, .inr (0, [.ref o, .ref lo, .ref od]))], bTown g od ad 0 0 0 20 6 50 0 1 (fun _ _ => 0), bRid g ro af 0 0 (fun _ => 0), [(oa, .inl (g.2 2, 1, .inr (.inl fz2_2)))], bObj g om am th2_5 hi2_6 ac2_7 tp2_8 ba2_9 en2_10 tA2_11 fl2_12 de2_13 iD2_14 iO2_15 tU2_16]) H := hP
  have hD : va_D A (List.flatten [bTown g o a 0 0 0 20 6 50 0 1 (fun _ _ => 0), bLaw g lo ac 0 (-1) 0 0 0 (fun _ => 0), bLog g go ar 0 0 (fun _ => 0), [(tt, .inr (8, [.ref ta, .ref td]))], bTown g td tda 0 0 0 20 6 50 0 1 (fun _ _ => 0), [(lt, .inr (2, [.ref ta, .ref ldr]))], bLaw g ldr lda 0 (-1) 0 0 0 (fun _ => 0), bMem g mo qT qL it il ig 0 0 0 fT fL, bTown g it ia 0 0 0 20 6 50 0 1 (fun _ _ => 0), bLaw g il ic 0 (-1) 0 0 0 (fun _ => 0), bLog g ig ir 0 0 (fun _ => 0), bTown g t0 ta0 0 0 0 20 6 50 0 1 (fun _ _ => 0), bLog g l0 la0 0 0 (fun _ => 0), [(fo, .inr (0, [.ref o, .ref lo, .ref od]))], bTown g od ad 0 0 0 20 6 50 0 1 (fun _ _ => 0), bRid g ro af 0 0 (fun _ => 0), [(oa, .inl (g.2 2, 1, .inr (.inl fz2_2)))], bObj g om am th2_5 hi2_6 ac2_7 tp2_8 ba2_9 en2_10 tA2_11 fl2_12 de2_13 iD2_14 iO2_15 tU2_16]) := hD
  refine W.widen (k := 249) (n := 15003) (Nat.le_of_ble_eq_true rfl) (Nat.le_of_ble_eq_true rfl) ?_
  refine W.eq (g2 := F0 m 1869 ls [.int q_17]) rfl ?_
  rcases hq4 with ⟨hr9, hb9⟩ | ⟨hr9, hg9⟩
  · skip
    rcases hq18 with ⟨ht9, hB9⟩ | ⟨ht9, hG9⟩
    · skip
      subst hr9
      subst ht9
      refine lv_istore (lv' := [(6, .int q_17), (5, .int 1), (4, .int 0), (3, .ref oa), (2, .ref om), (1, .ref x), (0, .ref b)]) hx hb dL_law__1869 hl (by decide) rfl (fun ls hl => ?_)
      refine lv_aload_n hx hb dL_law__1871 rfl (lv_at hl 4 rfl) ?_
      refine mcallV (g := g) (q0 := 0) (ci := 10) (As := []) (rest := []) St hK hT hA hP hD hS hl.1 [17] [0, 1, 2, 3, 4, 5, 6, 7, 8, 9, 10, 11, 12, 13, 14, 15, 16] rfl rfl rfl (m_thrown l g om am 1 hi2_6 ac2_7 tp2_8 ba2_9 en2_10 tA2_11 fl2_12 de2_13 iD2_14 iO2_15 tU2_16 ) (cwV 0 hts (zgL (zl4 k1317 k1318 k1319 k833) k824) rfl rfl rfl (by decide +kernel) ⟨Nat.le_of_ble_eq_true rfl, Nat.le_of_ble_eq_true rfl⟩) rfl rfl rfl rfl (Nat.le_of_ble_eq_true rfl) dL_law__1872 ⟨(Nat.le_of_ble_eq_true rfl), (Nat.le_of_ble_eq_true rfl)⟩ (fun _u H locs hq19 hP hD hS => ?_)
      have hP : va_P g.1 vwCl (List.flatten [bTown g o a 0 0 0 20 6 50 0 1 (fun _ _ => 0), bLaw g lo ac 0 (-1) 0 0 0 (fun _ => 0), bLog g go ar 0 0 (fun _ => 0), [(tt, .inr (8, [.ref ta, .ref td]))], bTown g td tda 0 0 0 20 6 50 0 1 (fun _ _ => 0), [(lt, .inr (2, [.ref ta, .ref ldr]))], bLaw g ldr lda 0 (-1) 0 0 0 (fun _ => 0), bMem g mo qT qL it il ig 0 0 0 fT fL, bTown g it ia 0 0 0 20 6 50 0 1 (fun _ _ => 0), bLaw g il ic 0 (-1) 0 0 0 (fun _ => 0), bLog g ig ir 0 0 (fun _ => 0), bTown g t0 ta0 0 0 0 20 6 50 0 1 (fun _ _ => 0), bLog g l0 la0 0 0 (fun _ => 0), [(fo, .inr (0, [.ref o, .ref lo, .ref od]))], bTown g od ad 0 0 0 20 6 50 0 1 (fun _ _ => 0), bRid g ro af 0 0 (fun _ => 0), [(oa, .inl (g.2 2, 1, .inr (.inl fz2_2)))], bObj g om am 1 hi2_6 ac2_7 tp2_8 ba2_9 en2_10 tA2_11 fl2_12 de2_13 iD2_14 iO2_15 tU2_16]) H := hP
      have hD : va_D A (List.flatten [bTown g o a 0 0 0 20 6 50 0 1 (fun _ _ => 0), bLaw g lo ac 0 (-1) 0 0 0 (fun _ => 0), bLog g go ar 0 0 (fun _ => 0), [(tt, .inr (8, [.ref ta, .ref td]))], bTown g td tda 0 0 0 20 6 50 0 1 (fun _ _ => 0), [(lt, .inr (2, [.ref ta, .ref ldr]))], bLaw g ldr lda 0 (-1) 0 0 0 (fun _ => 0), bMem g mo qT qL it il ig 0 0 0 fT fL, bTown g it ia 0 0 0 20 6 50 0 1 (fun _ _ => 0), bLaw g il ic 0 (-1) 0 0 0 (fun _ => 0), bLog g ig ir 0 0 (fun _ => 0), bTown g t0 ta0 0 0 0 20 6 50 0 1 (fun _ _ => 0), bLog g l0 la0 0 0 (fun _ => 0), [(fo, .inr (0, [.ref o, .ref lo, .ref od]))], bTown g od ad 0 0 0 20 6 50 0 1 (fun _ _ => 0), bRid g ro af 0 0 (fun _ => 0), [(oa, .inl (g.2 2, 1, .inr (.inl fz2_2)))], bObj g om am 1 hi2_6 ac2_7 tp2_8 ba2_9 en2_10 tA2_11 fl2_12 de2_13 iD2_14 iO2_15 tU2_16]) := hD
      refine W.widen (k := 249) (n := 15003) (Nat.le_of_ble_eq_true rfl) (Nat.le_of_ble_eq_true rfl) ?_
      refine W.eq (g2 := F0 m 1875 ls [.int 1]) rfl ?_
      refine lv_iload hx hb dL_law__1875 (lv_at hl 1 rfl) ?_
      refine lv_icmp_eq (tgt := 1882) hx hb dL_law__1877 (by decide) (fun _ => ?_) (fun c20 => absurd (by decide) c20)
      refine lv_iload hx hb dL_law__1882 (lv_at hl 1 rfl) ?_
      refine lv_if_ne (tgt := 1899) hx hb dL_law__1884 (by decide) (fun _ => ?_) (fun c21 => absurd c21 (by decide))
      refine lv_goto (tgt := 2738) hx hb dL_law__1899 (by decide) ?_
      refine lv_iinc (v := 6) (lv' := [(4, .int 6), (6, .int q_17), (5, .int 1), (3, .ref oa), (2, .ref om), (1, .ref x), (0, .ref b)]) hx hb dL_law__2738 hl (k := 2) rfl (by decide) (by decide) rfl (fun ls hl => ?_)
      refine lv_goto (tgt := 23) hx hb dL_law__2741 (by decide) ?_
      refine lv_iload hx hb dL_law__23 (lv_at hl 0 rfl) ?_
      refine lv_aload_n hx hb dL_law__25 rfl (lv_at hl 6 rfl) ?_
      refine va_slen hx hb hX hbl hbA hS dL_law__26 ?_
      refine ztop (r := 6) rfl ?_
      refine lv_bipush (v := 6) hx hb dL_law__27 (by decide) ?_
      refine lv_isub hx hb dL_law__29 ?_
      refine ztop (r := 0) (by decide) ?_
      refine lv_icmp_gt (tgt := 2744) hx hb dL_law__30 (by decide) (fun _ => ?_) (fun c22 => absurd (by decide) c22)
      refine lv_iconst (v := 1) hx hb dL_law__2744 (by decide) ?_
      refine va_forget (fun q hq => by have h9 := hS.2.2 q hq; rw [hAe] at h9; exact h9) ?_
      refine W.widen (k := 600002) (n := 7302232) (Nat.le_of_ble_eq_true rfl) (Nat.le_of_ble_eq_true rfl) ?_
      exact lw_ret hx hb hr hlocks dL_law__2745
    · skip
      exact (hb9.elim hG9.1.1 hG9.1.2).elim
  · skip
    rcases hq18 with ⟨ht9, hB9⟩ | ⟨ht9, hG9⟩
    · skip
      exact (hB9.elim hg9.1.1.1 hg9.1.1.2).elim
    · skip
      subst hr9
      subst ht9
      refine lv_istore (lv' := [(6, .int q_17), (5, .int 0), (4, .int 0), (3, .ref oa), (2, .ref om), (1, .ref x), (0, .ref b)]) hx hb dL_law__1869 hl (by decide) rfl (fun ls hl => ?_)
      refine lv_aload_n hx hb dL_law__1871 rfl (lv_at hl 4 rfl) ?_
      refine mcallV (g := g) (q0 := 0) (ci := 10) (As := []) (rest := []) St hK hT hA hP hD hS hl.1 [17] [0, 1, 2, 3, 4, 5, 6, 7, 8, 9, 10, 11, 12, 13, 14, 15, 16] rfl rfl rfl (m_thrown l g om am 0 hi2_6 ac2_7 tp2_8 ba2_9 en2_10 tA2_11 fl2_12 de2_13 iD2_14 iO2_15 tU2_16 ) (cwV 0 hts (zgL (zl4 k1317 k1318 k1319 k833) k824) rfl rfl rfl (by decide +kernel) ⟨Nat.le_of_ble_eq_true rfl, Nat.le_of_ble_eq_true rfl⟩) rfl rfl rfl rfl (Nat.le_of_ble_eq_true rfl) dL_law__1872 ⟨(Nat.le_of_ble_eq_true rfl), (Nat.le_of_ble_eq_true rfl)⟩ (fun _u H locs hq23 hP hD hS => ?_)
      have hP : va_P g.1 vwCl (List.flatten [bTown g o a 0 0 0 20 6 50 0 1 (fun _ _ => 0), bLaw g lo ac 0 (-1) 0 0 0 (fun _ => 0), bLog g go ar 0 0 (fun _ => 0), [(tt, .inr (8, [.ref ta, .ref td]))], bTown g td tda 0 0 0 20 6 50 0 1 (fun _ _ => 0), [(lt, .inr (2, [.ref ta, .ref ldr]))], bLaw g ldr lda 0 (-1) 0 0 0 (fun _ => 0), bMem g mo qT qL it il ig 0 0 0 fT fL, bTown g it ia 0 0 0 20 6 50 0 1 (fun _ _ => 0), bLaw g il ic 0 (-1) 0 0 0 (fun _ => 0), bLog g ig ir 0 0 (fun _ => 0), bTown g t0 ta0 0 0 0 20 6 50 0 1 (fun _ _ => 0), bLog g l0 la0 0 0 (fun _ => 0), [(fo, .inr (0, [.ref o, .ref lo, .ref od]))], bTown g od ad 0 0 0 20 6 50 0 1 (fun _ _ => 0), bRid g ro af 0 0 (fun _ => 0), [(oa, .inl (g.2 2, 1, .inr (.inl fz2_2)))], bObj g om am 0 hi2_6 ac2_7 tp2_8 ba2_9 en2_10 tA2_11 fl2_12 de2_13 iD2_14 iO2_15 tU2_16]) H := hP
      have hD : va_D A (List.flatten [bTown g o a 0 0 0 20 6 50 0 1 (fun _ _ => 0), bLaw g lo ac 0 (-1) 0 0 0 (fun _ => 0), bLog g go ar 0 0 (fun _ => 0), [(tt, .inr (8, [.ref ta, .ref td]))], bTown g td tda 0 0 0 20 6 50 0 1 (fun _ _ => 0), [(lt, .inr (2, [.ref ta, .ref ldr]))], bLaw g ldr lda 0 (-1) 0 0 0 (fun _ => 0), bMem g mo qT qL it il ig 0 0 0 fT fL, bTown g it ia 0 0 0 20 6 50 0 1 (fun _ _ => 0), bLaw g il ic 0 (-1) 0 0 0 (fun _ => 0), bLog g ig ir 0 0 (fun _ => 0), bTown g t0 ta0 0 0 0 20 6 50 0 1 (fun _ _ => 0), bLog g l0 la0 0 0 (fun _ => 0), [(fo, .inr (0, [.ref o, .ref lo, .ref od]))], bTown g od ad 0 0 0 20 6 50 0 1 (fun _ _ => 0), bRid g ro af 0 0 (fun _ => 0), [(oa, .inl (g.2 2, 1, .inr (.inl fz2_2)))], bObj g om am 0 hi2_6 ac2_7 tp2_8 ba2_9 en2_10 tA2_11 fl2_12 de2_13 iD2_14 iO2_15 tU2_16]) := hD
      refine W.widen (k := 249) (n := 15003) (Nat.le_of_ble_eq_true rfl) (Nat.le_of_ble_eq_true rfl) ?_
      refine W.eq (g2 := F0 m 1875 ls [.int 0]) rfl ?_
      refine lv_iload hx hb dL_law__1875 (lv_at hl 1 rfl) ?_
      refine lv_icmp_eq (tgt := 1882) hx hb dL_law__1877 (by decide) (fun _ => ?_) (fun c24 => absurd (by decide) c24)
      refine lv_iload hx hb dL_law__1882 (lv_at hl 1 rfl) ?_
      refine lv_if_ne (tgt := 1899) hx hb dL_law__1884 (by decide) (fun c25 => absurd (by decide) c25) (fun _ => ?_)
      refine lv_aload_n hx hb dL_law__1887 rfl (lv_at hl 3 rfl) ?_
      refine lv_iconst (v := 0) hx hb dL_law__1888 (by decide) ?_
      refine va_lald hx hb hK hP 80 2 rfl rfl (zin rfl) dL_law__1889 ?_
      refine ztopl (r := fz2_2 0) rfl ?_
      refine lv_iload hx hb dL_law__1890 (lv_at hl 0 rfl) ?_
      refine lv_i2l (v := (q_17 : Int32).toInt64) hx hb dL_law__1892 rfl ?_
      refine W.lcmp hx hb dL_law__1893 ?_
      refine lv_if_eq (tgt := 1899) hx hb dL_law__1894 (by decide) (fun _ => ?_) (fun c26 => absurd (by rw [hg9.2, hg9.1.2, zmrE hG9.1, hG9.2]; exact lg_self _) c26)
      refine lv_goto (tgt := 2738) hx hb dL_law__1899 (by decide) ?_
      refine lv_iinc (v := 6) (lv' := [(4, .int 6), (6, .int q_17), (5, .int 0), (3, .ref oa), (2, .ref om), (1, .ref x), (0, .ref b)]) hx hb dL_law__2738 hl (k := 2) rfl (by decide) (by decide) rfl (fun ls hl => ?_)
      refine lv_goto (tgt := 23) hx hb dL_law__2741 (by decide) ?_
      refine lv_iload hx hb dL_law__23 (lv_at hl 0 rfl) ?_
      refine lv_aload_n hx hb dL_law__25 rfl (lv_at hl 6 rfl) ?_
      refine va_slen hx hb hX hbl hbA hS dL_law__26 ?_
      refine ztop (r := 6) rfl ?_
      refine lv_bipush (v := 6) hx hb dL_law__27 (by decide) ?_
      refine lv_isub hx hb dL_law__29 ?_
      refine ztop (r := 0) (by decide) ?_
      refine lv_icmp_gt (tgt := 2744) hx hb dL_law__30 (by decide) (fun _ => ?_) (fun c27 => absurd (by decide) c27)
      refine lv_iconst (v := 1) hx hb dL_law__2744 (by decide) ?_
      refine va_forget (fun q hq => by have h9 := hS.2.2 q hq; rw [hAe] at h9; exact h9) ?_
      refine W.widen (k := 600002) (n := 7302232) (Nat.le_of_ble_eq_true rfl) (Nat.le_of_ble_eq_true rfl) ?_
      exact lw_ret hx hb hr hlocks dL_law__2745
set_option maxRecDepth 100000 in
set_option maxHeartbeats 4000000 in
/-- the law: liars -/
theorem w_30 {p : Program} {e : Env} {s : State} {m : MethodId} {below : List Frame} {meth : Method} {c : Code} (l : Launch) (hfl : l.stackTraces = false) (g : zG) {b : Nat} {xs : Nat → Int32} {A : Nat → Prop} (hAe : A = fun q => s.heap.size ≤ q) (hA : ∀ q, s.heap.size ≤ q → A q) (hbA : ¬ A b) (St : CallFix p m c cL_law_ 7 s #[Value.ref b] zB RL) (hr : meth.sig.returnType = ret) (hlocks : meth.locks = false) (hX : va_X b 6 xs s s.heap) (hbl : b < s.heap.size) (hK : zK g s) (hT : zTh A s) (x : Nat) (ta : Nat) (o : Nat) (lo : Nat) (go : Nat) (tt : Nat) (lt : Nat) (mo : Nat) (fo : Nat) (ro : Nat) (ab : Nat) (ac : Nat) (ar : Nat) (td : Nat) (a : Nat → Nat) (tda : Nat → Nat) (ldr : Nat) (lda : Nat) (qT : Nat) (qL : Nat) (it : Nat) (il : Nat) (ig : Nat) (fT : Nat → Option Nat) (fL : Nat → Option Nat) (ia : Nat → Nat) (ic : Nat) (ir : Nat) (t0 : Nat) (ta0 : Nat → Nat) (l0 : Nat) (la0 : Nat) (od : Nat) (ad : Nat → Nat) (af : Nat) (om : Nat) (am : Nat → Nat) (m0 : Nat → Int32) (oa : Nat) (hT0 : fT 0 = some t0) (hL0 : fL 0 = some l0) (hm : zMo m0) (h8 : m0 8 = 0) (h10 : m0 10 = 1) (H : Heap) (locs : List Loc) (ls : Array Slot) (hP : va_P g.1 vwCl (List.flatten [bDR g x ta o lo go tt lt mo fo ro (-1), bTape g ta ab 0 0 0 0 0 (-1) (fun _ => 0), bTown g o a 0 0 0 20 6 50 0 1 (fun _ _ => 0), bLaw g lo ac 0 (-1) 0 0 0 (fun _ => 0), bLog g go ar 0 0 (fun _ => 0), [(tt, .inr (8, [.ref ta, .ref td]))], bTown g td tda 0 0 0 20 6 50 0 1 (fun _ _ => 0), [(lt, .inr (2, [.ref ta, .ref ldr]))], bLaw g ldr lda 0 (-1) 0 0 0 (fun _ => 0), bMem g mo qT qL it il ig 0 0 0 fT fL, bTown g it ia 0 0 0 20 6 50 0 1 (fun _ _ => 0), bLaw g il ic 0 (-1) 0 0 0 (fun _ => 0), bLog g ig ir 0 0 (fun _ => 0), bTown g t0 ta0 0 0 0 20 6 50 0 1 (fun _ _ => 0), bLog g l0 la0 0 0 (fun _ => 0), [(fo, .inr (0, [.ref o, .ref lo, .ref od]))], bTown g od ad 0 0 0 20 6 50 0 1 (fun _ _ => 0), bRid g ro af 0 0 (fun _ => 0), bObj g om am 0 0 0 0 0 0 0 (-1) 0 0 0 0, bArr g am (zf [m0, fun _ => 0, fun _ => 0, fun _ => 0, fun _ => 0, fun _ => 0, fun _ => 0, fun _ => 0]), [(oa, .inl (g.2 2, 1, .inr (.inl (fun _ => 0))))]]) H) (hD : va_D A (List.flatten [bDR g x ta o lo go tt lt mo fo ro (-1), bTape g ta ab 0 0 0 0 0 (-1) (fun _ => 0), bTown g o a 0 0 0 20 6 50 0 1 (fun _ _ => 0), bLaw g lo ac 0 (-1) 0 0 0 (fun _ => 0), bLog g go ar 0 0 (fun _ => 0), [(tt, .inr (8, [.ref ta, .ref td]))], bTown g td tda 0 0 0 20 6 50 0 1 (fun _ _ => 0), [(lt, .inr (2, [.ref ta, .ref ldr]))], bLaw g ldr lda 0 (-1) 0 0 0 (fun _ => 0), bMem g mo qT qL it il ig 0 0 0 fT fL, bTown g it ia 0 0 0 20 6 50 0 1 (fun _ _ => 0), bLaw g il ic 0 (-1) 0 0 0 (fun _ => 0), bLog g ig ir 0 0 (fun _ => 0), bTown g t0 ta0 0 0 0 20 6 50 0 1 (fun _ _ => 0), bLog g l0 la0 0 0 (fun _ => 0), [(fo, .inr (0, [.ref o, .ref lo, .ref od]))], bTown g od ad 0 0 0 20 6 50 0 1 (fun _ _ => 0), bRid g ro af 0 0 (fun _ => 0), bObj g om am 0 0 0 0 0 0 0 (-1) 0 0 0 0, bArr g am (zf [m0, fun _ => 0, fun _ => 0, fun _ => 0, fun _ => 0, fun _ => 0, fun _ => 0, fun _ => 0]), [(oa, .inl (g.2 2, 1, .inr (.inl (fun _ => 0))))]])) (hS : va_S A s.heap H locs) (hl : lv_has ls 7 [(4, .int 0), (3, .ref oa), (2, .ref om), (1, .ref x), (0, .ref b)]) : W p l e room_1 s m #[Value.ref b] below meth c H locs 247 14991 (lw_Z below #[Value.ref b] s) (F0 m 1902 ls []) := by
  obtain ⟨hx, hb, hml, hown, hts⟩ := id St
  have hz0 : zZ (fun _ => 0) := zZ0
  refine lv_aload_n hx hb dL_law__1902 rfl (lv_at hl 3 rfl) ?_
  refine lv_aload_n hx hb dL_law__1903 rfl (lv_at hl 4 rfl) ?_
  refine lv_iload hx hb dL_law__1904 (lv_at hl 0 rfl) ?_
  refine lv_iconst (v := 1) hx hb dL_law__1906 (by decide) ?_
  refine lv_iadd hx hb dL_law__1907 ?_
  refine ztop (r := 1) (by decide) ?_
  refine va_sld hx hb hX hbl hbA hS (zin rfl) dL_law__1908 ?_
  refine ztop (r := xs 1) rfl ?_
  refine lv_if_eq (tgt := 1916) hx hb dL_law__1909 (by decide) (fun cZ => ?_) (fun cZ => ?_)
  · skip
    refine lv_iconst (v := 0) hx hb dL_law__1916 (by decide) ?_
    refine lv_aload_n hx hb dL_law__1917 rfl (lv_at hl 1 rfl) ?_
    refine xcallSX (g := g) (As := [.ref x, .int 0, .ref oa]) (rest := []) St hK hT hA hP hD hS hl.1 [0, 2, 1, 17, 20] [3, 4, 5, 6, 7, 8, 9, 10, 11, 12, 13, 14, 15, 16, 18, 19] rfl rfl rfl (l_liars l hfl g x ta o lo go tt lt mo fo ro (-1) a 0 20 6 50 0 1 (fun _ _ => 0) ab 0 0 0 0 (-1) (fun _ => 0) af 0 0 (fun _ => 0) 0 oa (fun _ => 0) ) (vx_cwSW 3 hts (zgL (zl3 k1460 k1461 k1313) k1253) rfl rfl rfl (by decide +kernel) ⟨Nat.le_of_ble_eq_true rfl, Nat.le_of_ble_eq_true rfl⟩) rfl rfl (Nat.le_of_ble_eq_true rfl) dL_law__1918 ⟨(Nat.le_of_ble_eq_true rfl), (Nat.le_of_ble_eq_true rfl)⟩ (fun E ce q9 u9 H locs hpx hP hD hS hce hcv hcl => hpx.elim) (fun u_ H locs hq5 hP hD hS => ?_)
    obtain ⟨r_2, fz2_3, q_4⟩ := u_
    have hq5 : r_2 = 0 ∧ (q_4 = if 0 = 0 then 1 else 0) ∧ fz2_3 0 = (q_4 : Int32).toInt64 := hq5
    have hP : va_P g.1 vwCl (List.flatten [bLaw g lo ac 0 (-1) 0 0 0 (fun _ => 0), bLog g go ar 0 0 (fun _ => 0), [(tt, .inr (8, [.ref ta, .ref td]))], bTown g td tda 0 0 0 20 6 50 0 1 (fun _ _ => 0), [(lt, .inr (2, [.ref ta, .ref ldr]))], bLaw g ldr lda 0 (-1) 0 0 0 (fun _ => 0), bMem g mo qT qL it il ig 0 0 0 fT fL, bTown g it ia 0 0 0 20 6 50 0 1 (fun _ _ => 0), bLaw g il ic 0 (-1) 0 0 0 (fun _ => 0), bLog g ig ir 0 0 (fun _ => 0), bTown g t0 ta0 0 0 0 20 6 50 0 1 (fun _ _ => 0), bLog g l0 la0 0 0 (fun _ => 0), [(fo, .inr (0, [.ref o, .ref lo, .ref od]))], bTown g od ad 0 0 0 20 6 50 0 1 (fun _ _ => 0), bObj g om am 0 0 0 0 0 0 0 (-1) 0 0 0 0, bArr g am (zf [m0, fun _ => 0, fun _ => 0, fun _ => 0, fun _ => 0, fun _ => 0, fun _ => 0, fun _ => 0]), [(oa, .inl (g.2 2, 1, .inr (.inl fz2_3)))]]) H := hP
    have hD : va_D A (List.flatten [bLaw g lo ac 0 (-1) 0 0 0 (fun _ => 0), bLog g go ar 0 0 (fun _ => 0), [(tt, .inr (8, [.ref ta, .ref td]))], bTown g td tda 0 0 0 20 6 50 0 1 (fun _ _ => 0), [(lt, .inr (2, [.ref ta, .ref ldr]))], bLaw g ldr lda 0 (-1) 0 0 0 (fun _ => 0), bMem g mo qT qL it il ig 0 0 0 fT fL, bTown g it ia 0 0 0 20 6 50 0 1 (fun _ _ => 0), bLaw g il ic 0 (-1) 0 0 0 (fun _ => 0), bLog g ig ir 0 0 (fun _ => 0), bTown g t0 ta0 0 0 0 20 6 50 0 1 (fun _ _ => 0), bLog g l0 la0 0 0 (fun _ => 0), [(fo, .inr (0, [.ref o, .ref lo, .ref od]))], bTown g od ad 0 0 0 20 6 50 0 1 (fun _ _ => 0), bObj g om am 0 0 0 0 0 0 0 (-1) 0 0 0 0, bArr g am (zf [m0, fun _ => 0, fun _ => 0, fun _ => 0, fun _ => 0, fun _ => 0, fun _ => 0, fun _ => 0]), [(oa, .inl (g.2 2, 1, .inr (.inl fz2_3)))]]) := hD
    refine W.widen (k := 248) (n := 14997) (Nat.le_of_ble_eq_true rfl) (Nat.le_of_ble_eq_true rfl) ?_
    refine W.eq (g2 := F0 m 1921 ls [.int r_2]) rfl ?_
    obtain ⟨hr9, hg9⟩ := hq5
    subst hr9
    refine lv_istore (lv' := [(5, .int 0), (4, .int 0), (3, .ref oa), (2, .ref om), (1, .ref x), (0, .ref b)]) hx hb dL_law__1921 hl (by decide) rfl (fun ls hl => ?_)
    refine lv_aload_n hx hb dL_law__1923 rfl (lv_at hl 3 rfl) ?_
    refine lv_aload_n hx hb dL_law__1924 rfl (lv_at hl 5 rfl) ?_
    refine lv_iload hx hb dL_law__1925 (lv_at hl 1 rfl) ?_
    refine lv_iconst (v := 1) hx hb dL_law__1927 (by decide) ?_
    refine lv_iadd hx hb dL_law__1928 ?_
    refine ztop (r := 1) (by decide) ?_
    refine va_sld hx hb hX hbl hbA hS (zin rfl) dL_law__1929 ?_
    refine ztop (r := xs 1) rfl ?_
    refine lv_if_eq (tgt := 1937) hx hb dL_law__1930 (by decide) (fun _ => ?_) (fun c6 => absurd cZ c6)
    refine lv_iconst (v := 0) hx hb dL_law__1937 (by decide) ?_
    refine mcallV (g := g) (q0 := 0) (ci := 10) (As := [.int 0]) (rest := []) St hK hT hA hP hD hS hl.1 [14, 15] [0, 1, 2, 3, 4, 5, 6, 7, 8, 9, 10, 11, 12, 13, 16] rfl rfl rfl (m_liars l g om am 0 0 0 0 0 0 (-1) 0 0 0 0 (zf [m0, fun _ => 0, fun _ => 0, fun _ => 0, fun _ => 0, fun _ => 0, fun _ => 0, fun _ => 0]) 0 (by assumption)) (cwV 1 hts (zgL (zl4 k1462 k1463 k1464 k833) k1103) rfl rfl rfl (by decide +kernel) ⟨Nat.le_of_ble_eq_true rfl, Nat.le_of_ble_eq_true rfl⟩) rfl rfl rfl rfl (Nat.le_of_ble_eq_true rfl) dL_law__1938 ⟨(Nat.le_of_ble_eq_true rfl), (Nat.le_of_ble_eq_true rfl)⟩ (fun u_ H locs hq20 hP hD hS => ?_)
    obtain ⟨th2_7, hi2_8, ac2_9, tp2_10, ba2_11, en2_12, tA2_13, fl2_14, de2_15, iD2_16, iO2_17, tU2_18, q_19⟩ := u_
    have hq20 : th2_7 = 0 ∧ q_19 = if 0 = 0 then 1 else 0 := hq20
    have hP : va_P g.1 vwCl (List.flatten [bLaw g lo ac 0 (-1) 0 0 0 (fun _ => 0), bLog g go ar 0 0 (fun _ => 0), [(tt, .inr (8, [.ref ta, .ref td]))], bTown g td tda 0 0 0 20 6 50 0 1 (fun _ _ => 0), [(lt, .inr (2, [.ref ta, .ref ldr]))], bLaw g ldr lda 0 (-1) 0 0 0 (fun _ => 0), bMem g mo qT qL it il ig 0 0 0 fT fL, bTown g it ia 0 0 0 20 6 50 0 1 (fun _ _ => 0), bLaw g il ic 0 (-1) 0 0 0 (fun _ => 0), bLog g ig ir 0 0 (fun _ => 0), bTown g t0 ta0 0 0 0 20 6 50 0 1 (fun _ _ => 0), bLog g l0 la0 0 0 (fun _ => 0), [(fo, .inr (0, [.ref o, .ref lo, .ref od]))], bTown g od ad 0 0 0 20 6 50 0 1 (fun _ _ => 0), [(oa, .inl (g.2 2, 1, .inr (.inl fz2_3)))], bObj g om am th2_7 hi2_8 ac2_9 tp2_10 ba2_11 en2_12 tA2_13 fl2_14 de2_15 iD2_16 iO2_17 tU2_18]) H := hP
    have hD : va_D A (List.flatten [bLaw g lo ac 0 (-1) 0 0 0 (fun _ => 0), bLog g go ar 0 0 (fun _ => 0), [(tt, .inr (8, [.ref ta, .ref td]))], bTown g td tda 0 0 0 20 6 50 0 1 (fun _ _ => 0), [(lt, .inr (2, [.ref ta, .ref ldr]))], bLaw g ldr lda 0 (-1) 0 0 0 (fun _ => 0), bMem g mo qT qL it il ig 0 0 0 fT fL, bTown g it ia 0 0 0 20 6 50 0 1 (fun _ _ => 0), bLaw g il ic 0 (-1) 0 0 0 (fun _ => 0), bLog g ig ir 0 0 (fun _ => 0), bTown g t0 ta0 0 0 0 20 6 50 0 1 (fun _ _ => 0), bLog g l0 la0 0 0 (fun _ => 0), [(fo, .inr (0, [.ref o, .ref lo, .ref od]))], bTown g od ad 0 0 0 20 6 50 0 1 (fun _ _ => 0), [(oa, .inl (g.2 2, 1, .inr (.inl fz2_3)))], bObj g om am th2_7 hi2_8 ac2_9 tp2_10 ba2_11 en2_12 tA2_13 fl2_14 de2_15 iD2_16 iO2_17 tU2_18]) := hD
    refine W.widen (k := 248) (n := 14997) (Nat.le_of_ble_eq_true rfl) (Nat.le_of_ble_eq_true rfl) ?_
    refine W.eq (g2 := F0 m 1941 ls [.int q_19]) rfl ?_
    obtain ⟨ht9, hq9⟩ := hq20
    subst ht9
    refine lv_istore (lv' := [(6, .int q_19), (5, .int 0), (4, .int 0), (3, .ref oa), (2, .ref om), (1, .ref x), (0, .ref b)]) hx hb dL_law__1941 hl (by decide) rfl (fun ls hl => ?_)
    refine lv_aload_n hx hb dL_law__1943 rfl (lv_at hl 4 rfl) ?_
    refine mcallV (g := g) (q0 := 0) (ci := 10) (As := []) (rest := []) St hK hT hA hP hD hS hl.1 [15] [0, 1, 2, 3, 4, 5, 6, 7, 8, 9, 10, 11, 12, 13, 14] rfl rfl rfl (m_thrown l g om am 0 hi2_8 ac2_9 tp2_10 ba2_11 en2_12 tA2_13 fl2_14 de2_15 iD2_16 iO2_17 tU2_18 ) (cwV 0 hts (zgL (zl4 k1317 k1318 k1319 k833) k824) rfl rfl rfl (by decide +kernel) ⟨Nat.le_of_ble_eq_true rfl, Nat.le_of_ble_eq_true rfl⟩) rfl rfl rfl rfl (Nat.le_of_ble_eq_true rfl) dL_law__1944 ⟨(Nat.le_of_ble_eq_true rfl), (Nat.le_of_ble_eq_true rfl)⟩ (fun _u H locs hq21 hP hD hS => ?_)
    have hP : va_P g.1 vwCl (List.flatten [bLaw g lo ac 0 (-1) 0 0 0 (fun _ => 0), bLog g go ar 0 0 (fun _ => 0), [(tt, .inr (8, [.ref ta, .ref td]))], bTown g td tda 0 0 0 20 6 50 0 1 (fun _ _ => 0), [(lt, .inr (2, [.ref ta, .ref ldr]))], bLaw g ldr lda 0 (-1) 0 0 0 (fun _ => 0), bMem g mo qT qL it il ig 0 0 0 fT fL, bTown g it ia 0 0 0 20 6 50 0 1 (fun _ _ => 0), bLaw g il ic 0 (-1) 0 0 0 (fun _ => 0), bLog g ig ir 0 0 (fun _ => 0), bTown g t0 ta0 0 0 0 20 6 50 0 1 (fun _ _ => 0), bLog g l0 la0 0 0 (fun _ => 0), [(fo, .inr (0, [.ref o, .ref lo, .ref od]))], bTown g od ad 0 0 0 20 6 50 0 1 (fun _ _ => 0), [(oa, .inl (g.2 2, 1, .inr (.inl fz2_3)))], bObj g om am 0 hi2_8 ac2_9 tp2_10 ba2_11 en2_12 tA2_13 fl2_14 de2_15 iD2_16 iO2_17 tU2_18]) H := hP
    have hD : va_D A (List.flatten [bLaw g lo ac 0 (-1) 0 0 0 (fun _ => 0), bLog g go ar 0 0 (fun _ => 0), [(tt, .inr (8, [.ref ta, .ref td]))], bTown g td tda 0 0 0 20 6 50 0 1 (fun _ _ => 0), [(lt, .inr (2, [.ref ta, .ref ldr]))], bLaw g ldr lda 0 (-1) 0 0 0 (fun _ => 0), bMem g mo qT qL it il ig 0 0 0 fT fL, bTown g it ia 0 0 0 20 6 50 0 1 (fun _ _ => 0), bLaw g il ic 0 (-1) 0 0 0 (fun _ => 0), bLog g ig ir 0 0 (fun _ => 0), bTown g t0 ta0 0 0 0 20 6 50 0 1 (fun _ _ => 0), bLog g l0 la0 0 0 (fun _ => 0), [(fo, .inr (0, [.ref o, .ref lo, .ref od]))], bTown g od ad 0 0 0 20 6 50 0 1 (fun _ _ => 0), [(oa, .inl (g.2 2, 1, .inr (.inl fz2_3)))], bObj g om am 0 hi2_8 ac2_9 tp2_10 ba2_11 en2_12 tA2_13 fl2_14 de2_15 iD2_16 iO2_17 tU2_18]) := hD
    refine W.widen (k := 248) (n := 14997) (Nat.le_of_ble_eq_true rfl) (Nat.le_of_ble_eq_true rfl) ?_
    refine W.eq (g2 := F0 m 1947 ls [.int 0]) rfl ?_
    refine lv_iload hx hb dL_law__1947 (lv_at hl 1 rfl) ?_
    refine lv_icmp_eq (tgt := 1954) hx hb dL_law__1949 (by decide) (fun _ => ?_) (fun c22 => absurd (by decide) c22)
    refine lv_iload hx hb dL_law__1954 (lv_at hl 1 rfl) ?_
    refine lv_if_ne (tgt := 1971) hx hb dL_law__1956 (by decide) (fun c23 => absurd (by decide) c23) (fun _ => ?_)
    refine lv_aload_n hx hb dL_law__1959 rfl (lv_at hl 3 rfl) ?_
    refine lv_iconst (v := 0) hx hb dL_law__1960 (by decide) ?_
    refine va_lald hx hb hK hP 66 2 rfl rfl (zin rfl) dL_law__1961 ?_
    refine ztopl (r := fz2_3 0) rfl ?_
    refine lv_iload hx hb dL_law__1962 (lv_at hl 0 rfl) ?_
    refine lv_i2l (v := (q_19 : Int32).toInt64) hx hb dL_law__1964 rfl ?_
    refine W.lcmp hx hb dL_law__1965 ?_
    refine lv_if_eq (tgt := 1971) hx hb dL_law__1966 (by decide) (fun _ => ?_) (fun c24 => absurd (by rw [hg9.2, hg9.1, hq9]; exact lg_self _) c24)
    refine lv_goto (tgt := 2738) hx hb dL_law__1971 (by decide) ?_
    refine lv_iinc (v := 6) (lv' := [(4, .int 6), (6, .int q_19), (5, .int 0), (3, .ref oa), (2, .ref om), (1, .ref x), (0, .ref b)]) hx hb dL_law__2738 hl (k := 2) rfl (by decide) (by decide) rfl (fun ls hl => ?_)
    refine lv_goto (tgt := 23) hx hb dL_law__2741 (by decide) ?_
    refine lv_iload hx hb dL_law__23 (lv_at hl 0 rfl) ?_
    refine lv_aload_n hx hb dL_law__25 rfl (lv_at hl 6 rfl) ?_
    refine va_slen hx hb hX hbl hbA hS dL_law__26 ?_
    refine ztop (r := 6) rfl ?_
    refine lv_bipush (v := 6) hx hb dL_law__27 (by decide) ?_
    refine lv_isub hx hb dL_law__29 ?_
    refine ztop (r := 0) (by decide) ?_
    refine lv_icmp_gt (tgt := 2744) hx hb dL_law__30 (by decide) (fun _ => ?_) (fun c25 => absurd (by decide) c25)
    refine lv_iconst (v := 1) hx hb dL_law__2744 (by decide) ?_
    refine va_forget (fun q hq => by have h9 := hS.2.2 q hq; rw [hAe] at h9; exact h9) ?_
    refine W.widen (k := 600002) (n := 7302232) (Nat.le_of_ble_eq_true rfl) (Nat.le_of_ble_eq_true rfl) ?_
    exact lw_ret hx hb hr hlocks dL_law__2745
  · skip
    refine lv_iconst (v := 1) hx hb dL_law__1912 (by decide) ?_
    refine lv_goto (tgt := 1917) hx hb dL_law__1913 (by decide) ?_
    refine lv_aload_n hx hb dL_law__1917 rfl (lv_at hl 1 rfl) ?_
    refine xcallSX (g := g) (As := [.ref x, .int 1, .ref oa]) (rest := []) St hK hT hA hP hD hS hl.1 [0, 2, 1, 17, 20] [3, 4, 5, 6, 7, 8, 9, 10, 11, 12, 13, 14, 15, 16, 18, 19] rfl rfl rfl (l_liars l hfl g x ta o lo go tt lt mo fo ro (-1) a 0 20 6 50 0 1 (fun _ _ => 0) ab 0 0 0 0 (-1) (fun _ => 0) af 0 0 (fun _ => 0) 1 oa (fun _ => 0) ) (vx_cwSW 3 hts (zgL (zl3 k1460 k1461 k1313) k1253) rfl rfl rfl (by decide +kernel) ⟨Nat.le_of_ble_eq_true rfl, Nat.le_of_ble_eq_true rfl⟩) rfl rfl (Nat.le_of_ble_eq_true rfl) dL_law__1918 ⟨(Nat.le_of_ble_eq_true rfl), (Nat.le_of_ble_eq_true rfl)⟩ (fun E ce q9 u9 H locs hpx hP hD hS hce hcv hcl => hpx.elim) (fun u_ H locs hq29 hP hD hS => ?_)
    obtain ⟨r_26, fz2_27, q_28⟩ := u_
    have hq29 : r_26 = 0 ∧ (q_28 = if 1 = 0 then 1 else 0) ∧ fz2_27 0 = (q_28 : Int32).toInt64 := hq29
    have hP : va_P g.1 vwCl (List.flatten [bLaw g lo ac 0 (-1) 0 0 0 (fun _ => 0), bLog g go ar 0 0 (fun _ => 0), [(tt, .inr (8, [.ref ta, .ref td]))], bTown g td tda 0 0 0 20 6 50 0 1 (fun _ _ => 0), [(lt, .inr (2, [.ref ta, .ref ldr]))], bLaw g ldr lda 0 (-1) 0 0 0 (fun _ => 0), bMem g mo qT qL it il ig 0 0 0 fT fL, bTown g it ia 0 0 0 20 6 50 0 1 (fun _ _ => 0), bLaw g il ic 0 (-1) 0 0 0 (fun _ => 0), bLog g ig ir 0 0 (fun _ => 0), bTown g t0 ta0 0 0 0 20 6 50 0 1 (fun _ _ => 0), bLog g l0 la0 0 0 (fun _ => 0), [(fo, .inr (0, [.ref o, .ref lo, .ref od]))], bTown g od ad 0 0 0 20 6 50 0 1 (fun _ _ => 0), bObj g om am 0 0 0 0 0 0 0 (-1) 0 0 0 0, bArr g am (zf [m0, fun _ => 0, fun _ => 0, fun _ => 0, fun _ => 0, fun _ => 0, fun _ => 0, fun _ => 0]), [(oa, .inl (g.2 2, 1, .inr (.inl fz2_27)))]]) H := hP
    have hD : va_D A (List.flatten [bLaw g lo ac 0 (-1) 0 0 0 (fun _ => 0), bLog g go ar 0 0 (fun _ => 0), [(tt, .inr (8, [.ref ta, .ref td]))], bTown g td tda 0 0 0 20 6 50 0 1 (fun _ _ => 0), [(lt, .inr (2, [.ref ta, .ref ldr]))], bLaw g ldr lda 0 (-1) 0 0 0 (fun _ => 0), bMem g mo qT qL it il ig 0 0 0 fT fL, bTown g it ia 0 0 0 20 6 50 0 1 (fun _ _ => 0), bLaw g il ic 0 (-1) 0 0 0 (fun _ => 0), bLog g ig ir 0 0 (fun _ => 0), bTown g t0 ta0 0 0 0 20 6 50 0 1 (fun _ _ => 0), bLog g l0 la0 0 0 (fun _ => 0), [(fo, .inr (0, [.ref o, .ref lo, .ref od]))], bTown g od ad 0 0 0 20 6 50 0 1 (fun _ _ => 0), bObj g om am 0 0 0 0 0 0 0 (-1) 0 0 0 0, bArr g am (zf [m0, fun _ => 0, fun _ => 0, fun _ => 0, fun _ => 0, fun _ => 0, fun _ => 0, fun _ => 0]), [(oa, .inl (g.2 2, 1, .inr (.inl fz2_27)))]]) := hD
    refine W.widen (k := 248) (n := 14997) (Nat.le_of_ble_eq_true rfl) (Nat.le_of_ble_eq_true rfl) ?_
    refine W.eq (g2 := F0 m 1921 ls [.int r_26]) rfl ?_
    obtain ⟨hr9, hg9⟩ := hq29
    subst hr9
    refine lv_istore (lv' := [(5, .int 0), (4, .int 0), (3, .ref oa), (2, .ref om), (1, .ref x), (0, .ref b)]) hx hb dL_law__1921 hl (by decide) rfl (fun ls hl => ?_)
    refine lv_aload_n hx hb dL_law__1923 rfl (lv_at hl 3 rfl) ?_
    refine lv_aload_n hx hb dL_law__1924 rfl (lv_at hl 5 rfl) ?_
    refine lv_iload hx hb dL_law__1925 (lv_at hl 1 rfl) ?_
    refine lv_iconst (v := 1) hx hb dL_law__1927 (by decide) ?_
    refine lv_iadd hx hb dL_law__1928 ?_
    refine ztop (r := 1) (by decide) ?_
    refine va_sld hx hb hX hbl hbA hS (zin rfl) dL_law__1929 ?_
    refine ztop (r := xs 1) rfl ?_
    refine lv_if_eq (tgt := 1937) hx hb dL_law__1930 (by decide) (fun c30 => absurd c30 cZ) (fun _ => ?_)
    refine lv_iconst (v := 1) hx hb dL_law__1933 (by decide) ?_
    refine lv_goto (tgt := 1938) hx hb dL_law__1934 (by decide) ?_
    refine mcallV (g := g) (q0 := 0) (ci := 10) (As := [.int 1]) (rest := []) St hK hT hA hP hD hS hl.1 [14, 15] [0, 1, 2, 3, 4, 5, 6, 7, 8, 9, 10, 11, 12, 13, 16] rfl rfl rfl (m_liars l g om am 0 0 0 0 0 0 (-1) 0 0 0 0 (zf [m0, fun _ => 0, fun _ => 0, fun _ => 0, fun _ => 0, fun _ => 0, fun _ => 0, fun _ => 0]) 1 (by assumption)) (cwV 1 hts (zgL (zl4 k1462 k1463 k1464 k833) k1103) rfl rfl rfl (by decide +kernel) ⟨Nat.le_of_ble_eq_true rfl, Nat.le_of_ble_eq_true rfl⟩) rfl rfl rfl rfl (Nat.le_of_ble_eq_true rfl) dL_law__1938 ⟨(Nat.le_of_ble_eq_true rfl), (Nat.le_of_ble_eq_true rfl)⟩ (fun u_ H locs hq44 hP hD hS => ?_)
    obtain ⟨th2_31, hi2_32, ac2_33, tp2_34, ba2_35, en2_36, tA2_37, fl2_38, de2_39, iD2_40, iO2_41, tU2_42, q_43⟩ := u_
    have hq44 : th2_31 = 0 ∧ q_43 = if 1 = 0 then 1 else 0 := hq44
    have hP : va_P g.1 vwCl (List.flatten [bLaw g lo ac 0 (-1) 0 0 0 (fun _ => 0), bLog g go ar 0 0 (fun _ => 0), [(tt, .inr (8, [.ref ta, .ref td]))], bTown g td tda 0 0 0 20 6 50 0 1 (fun _ _ => 0), [(lt, .inr (2, [.ref ta, .ref ldr]))], bLaw g ldr lda 0 (-1) 0 0 0 (fun _ => 0), bMem g mo qT qL it il ig 0 0 0 fT fL, bTown g it ia 0 0 0 20 6 50 0 1 (fun _ _ => 0), bLaw g il ic 0 (-1) 0 0 0 (fun _ => 0), bLog g ig ir 0 0 (fun _ => 0), bTown g t0 ta0 0 0 0 20 6 50 0 1 (fun _ _ => 0), bLog g l0 la0 0 0 (fun _ => 0), [(fo, .inr (0, [.ref o, .ref lo, .ref od]))], bTown g od ad 0 0 0 20 6 50 0 1 (fun _ _ => 0), [(oa, .inl (g.2 2, 1, .inr (.inl fz2_27)))], bObj g om am th2_31 hi2_32 ac2_33 tp2_34 ba2_35 en2_36 tA2_37 fl2_38 de2_39 iD2_40 iO2_41 tU2_42]) H := hP
    have hD : va_D A (List.flatten [bLaw g lo ac 0 (-1) 0 0 0 (fun _ => 0), bLog g go ar 0 0 (fun _ => 0), [(tt, .inr (8, [.ref ta, .ref td]))], bTown g td tda 0 0 0 20 6 50 0 1 (fun _ _ => 0), [(lt, .inr (2, [.ref ta, .ref ldr]))], bLaw g ldr lda 0 (-1) 0 0 0 (fun _ => 0), bMem g mo qT qL it il ig 0 0 0 fT fL, bTown g it ia 0 0 0 20 6 50 0 1 (fun _ _ => 0), bLaw g il ic 0 (-1) 0 0 0 (fun _ => 0), bLog g ig ir 0 0 (fun _ => 0), bTown g t0 ta0 0 0 0 20 6 50 0 1 (fun _ _ => 0), bLog g l0 la0 0 0 (fun _ => 0), [(fo, .inr (0, [.ref o, .ref lo, .ref od]))], bTown g od ad 0 0 0 20 6 50 0 1 (fun _ _ => 0), [(oa, .inl (g.2 2, 1, .inr (.inl fz2_27)))], bObj g om am th2_31 hi2_32 ac2_33 tp2_34 ba2_35 en2_36 tA2_37 fl2_38 de2_39 iD2_40 iO2_41 tU2_42]) := hD
    refine W.widen (k := 248) (n := 14997) (Nat.le_of_ble_eq_true rfl) (Nat.le_of_ble_eq_true rfl) ?_
    refine W.eq (g2 := F0 m 1941 ls [.int q_43]) rfl ?_
    obtain ⟨ht9, hq9⟩ := hq44
    subst ht9
    refine lv_istore (lv' := [(6, .int q_43), (5, .int 0), (4, .int 0), (3, .ref oa), (2, .ref om), (1, .ref x), (0, .ref b)]) hx hb dL_law__1941 hl (by decide) rfl (fun ls hl => ?_)
    refine lv_aload_n hx hb dL_law__1943 rfl (lv_at hl 4 rfl) ?_
    refine mcallV (g := g) (q0 := 0) (ci := 10) (As := []) (rest := []) St hK hT hA hP hD hS hl.1 [15] [0, 1, 2, 3, 4, 5, 6, 7, 8, 9, 10, 11, 12, 13, 14] rfl rfl rfl (m_thrown l g om am 0 hi2_32 ac2_33 tp2_34 ba2_35 en2_36 tA2_37 fl2_38 de2_39 iD2_40 iO2_41 tU2_42 ) (cwV 0 hts (zgL (zl4 k1317 k1318 k1319 k833) k824) rfl rfl rfl (by decide +kernel) ⟨Nat.le_of_ble_eq_true rfl, Nat.le_of_ble_eq_true rfl⟩) rfl rfl rfl rfl (Nat.le_of_ble_eq_true rfl) dL_law__1944 ⟨(Nat.le_of_ble_eq_true rfl), (Nat.le_of_ble_eq_true rfl)⟩ (fun _u H locs hq45 hP hD hS => ?_)
    have hP : va_P g.1 vwCl (List.flatten [bLaw g lo ac 0 (-1) 0 0 0 (fun _ => 0), bLog g go ar 0 0 (fun _ => 0), [(tt, .inr (8, [.ref ta, .ref td]))], bTown g td tda 0 0 0 20 6 50 0 1 (fun _ _ => 0), [(lt, .inr (2, [.ref ta, .ref ldr]))], bLaw g ldr lda 0 (-1) 0 0 0 (fun _ => 0), bMem g mo qT qL it il ig 0 0 0 fT fL, bTown g it ia 0 0 0 20 6 50 0 1 (fun _ _ => 0), bLaw g il ic 0 (-1) 0 0 0 (fun _ => 0), bLog g ig ir 0 0 (fun _ => 0), bTown g t0 ta0 0 0 0 20 6 50 0 1 (fun _ _ => 0), bLog g l0 la0 0 0 (fun _ => 0), [(fo, .inr (0, [.ref o, .ref lo, .ref od]))], bTown g od ad 0 0 0 20 6 50 0 1 (fun _ _ => 0), [(oa, .inl (g.2 2, 1, .inr (.inl fz2_27)))], bObj g om am 0 hi2_32 ac2_33 tp2_34 ba2_35 en2_36 tA2_37 fl2_38 de2_39 iD2_40 iO2_41 tU2_42]) H := hP
    have hD : va_D A (List.flatten [bLaw g lo ac 0 (-1) 0 0 0 (fun _ => 0), bLog g go ar 0 0 (fun _ => 0), [(tt, .inr (8, [.ref ta, .ref td]))], bTown g td tda 0 0 0 20 6 50 0 1 (fun _ _ => 0), [(lt, .inr (2, [.ref ta, .ref ldr]))], bLaw g ldr lda 0 (-1) 0 0 0 (fun _ => 0), bMem g mo qT qL it il ig 0 0 0 fT fL, bTown g it ia 0 0 0 20 6 50 0 1 (fun _ _ => 0), bLaw g il ic 0 (-1) 0 0 0 (fun _ => 0), bLog g ig ir 0 0 (fun _ => 0), bTown g t0 ta0 0 0 0 20 6 50 0 1 (fun _ _ => 0), bLog g l0 la0 0 0 (fun _ => 0), [(fo, .inr (0, [.ref o, .ref lo, .ref od]))], bTown g od ad 0 0 0 20 6 50 0 1 (fun _ _ => 0), [(oa, .inl (g.2 2, 1, .inr (.inl fz2_27)))], bObj g om am 0 hi2_32 ac2_33 tp2_34 ba2_35 en2_36 tA2_37 fl2_38 de2_39 iD2_40 iO2_41 tU2_42]) := hD
    refine W.widen (k := 248) (n := 14997) (Nat.le_of_ble_eq_true rfl) (Nat.le_of_ble_eq_true rfl) ?_
    refine W.eq (g2 := F0 m 1947 ls [.int 0]) rfl ?_
    refine lv_iload hx hb dL_law__1947 (lv_at hl 1 rfl) ?_
    refine lv_icmp_eq (tgt := 1954) hx hb dL_law__1949 (by decide) (fun _ => ?_) (fun c46 => absurd (by decide) c46)
    refine lv_iload hx hb dL_law__1954 (lv_at hl 1 rfl) ?_
    refine lv_if_ne (tgt := 1971) hx hb dL_law__1956 (by decide) (fun c47 => absurd (by decide) c47) (fun _ => ?_)
    refine lv_aload_n hx hb dL_law__1959 rfl (lv_at hl 3 rfl) ?_
    refine lv_iconst (v := 0) hx hb dL_law__1960 (by decide) ?_
    refine va_lald hx hb hK hP 66 2 rfl rfl (zin rfl) dL_law__1961 ?_
    refine ztopl (r := fz2_27 0) rfl ?_
    refine lv_iload hx hb dL_law__1962 (lv_at hl 0 rfl) ?_
    refine lv_i2l (v := (q_43 : Int32).toInt64) hx hb dL_law__1964 rfl ?_
    refine W.lcmp hx hb dL_law__1965 ?_
    refine lv_if_eq (tgt := 1971) hx hb dL_law__1966 (by decide) (fun _ => ?_) (fun c48 => absurd (by rw [hg9.2, hg9.1, hq9]; exact lg_self _) c48)
    refine lv_goto (tgt := 2738) hx hb dL_law__1971 (by decide) ?_
    refine lv_iinc (v := 6) (lv' := [(4, .int 6), (6, .int q_43), (5, .int 0), (3, .ref oa), (2, .ref om), (1, .ref x), (0, .ref b)]) hx hb dL_law__2738 hl (k := 2) rfl (by decide) (by decide) rfl (fun ls hl => ?_)
    refine lv_goto (tgt := 23) hx hb dL_law__2741 (by decide) ?_
    refine lv_iload hx hb dL_law__23 (lv_at hl 0 rfl) ?_
    refine lv_aload_n hx hb dL_law__25 rfl (lv_at hl 6 rfl) ?_
    refine va_slen hx hb hX hbl hbA hS dL_law__26 ?_
    refine ztop (r := 6) rfl ?_
    refine lv_bipush (v := 6) hx hb dL_law__27 (by decide) ?_
    refine lv_isub hx hb dL_law__29 ?_
    refine ztop (r := 0) (by decide) ?_
    refine lv_icmp_gt (tgt := 2744) hx hb dL_law__30 (by decide) (fun _ => ?_) (fun c49 => absurd (by decide) c49)
    refine lv_iconst (v := 1) hx hb dL_law__2744 (by decide) ?_
    refine va_forget (fun q hq => by have h9 := hS.2.2 q hq; rw [hAe] at h9; exact h9) ?_
    refine W.widen (k := 600002) (n := 7302232) (Nat.le_of_ble_eq_true rfl) (Nat.le_of_ble_eq_true rfl) ?_
    exact lw_ret hx hb hr hlocks dL_law__2745
set_option maxRecDepth 100000 in
set_option maxHeartbeats 4000000 in
/-- the law: ask -/
theorem w_31 {p : Program} {e : Env} {s : State} {m : MethodId} {below : List Frame} {meth : Method} {c : Code} (l : Launch) (hfl : l.stackTraces = false) (g : zG) {b : Nat} {xs : Nat → Int32} {A : Nat → Prop} (hAe : A = fun q => s.heap.size ≤ q) (hA : ∀ q, s.heap.size ≤ q → A q) (hbA : ¬ A b) (St : CallFix p m c cL_law_ 7 s #[Value.ref b] zB RL) (hr : meth.sig.returnType = ret) (hlocks : meth.locks = false) (hX : va_X b 6 xs s s.heap) (hbl : b < s.heap.size) (hK : zK g s) (hT : zTh A s) (x : Nat) (ta : Nat) (o : Nat) (lo : Nat) (go : Nat) (tt : Nat) (lt : Nat) (mo : Nat) (fo : Nat) (ro : Nat) (ab : Nat) (ac : Nat) (ar : Nat) (td : Nat) (a : Nat → Nat) (tda : Nat → Nat) (ldr : Nat) (lda : Nat) (qT : Nat) (qL : Nat) (it : Nat) (il : Nat) (ig : Nat) (fT : Nat → Option Nat) (fL : Nat → Option Nat) (ia : Nat → Nat) (ic : Nat) (ir : Nat) (t0 : Nat) (ta0 : Nat → Nat) (l0 : Nat) (la0 : Nat) (od : Nat) (ad : Nat → Nat) (af : Nat) (om : Nat) (am : Nat → Nat) (m0 : Nat → Int32) (oa : Nat) (hT0 : fT 0 = some t0) (hL0 : fL 0 = some l0) (hm : zMo m0) (h8 : m0 8 = 0) (h10 : m0 10 = 1) (H : Heap) (locs : List Loc) (ls : Array Slot) (hP : va_P g.1 vwCl (List.flatten [bDR g x ta o lo go tt lt mo fo ro (-1), bTape g ta ab 0 0 0 0 0 (-1) (fun _ => 0), bTown g o a 0 0 0 20 6 50 0 1 (fun _ _ => 0), bLaw g lo ac 0 (-1) 0 0 0 (fun _ => 0), bLog g go ar 0 0 (fun _ => 0), [(tt, .inr (8, [.ref ta, .ref td]))], bTown g td tda 0 0 0 20 6 50 0 1 (fun _ _ => 0), [(lt, .inr (2, [.ref ta, .ref ldr]))], bLaw g ldr lda 0 (-1) 0 0 0 (fun _ => 0), bMem g mo qT qL it il ig 0 0 0 fT fL, bTown g it ia 0 0 0 20 6 50 0 1 (fun _ _ => 0), bLaw g il ic 0 (-1) 0 0 0 (fun _ => 0), bLog g ig ir 0 0 (fun _ => 0), bTown g t0 ta0 0 0 0 20 6 50 0 1 (fun _ _ => 0), bLog g l0 la0 0 0 (fun _ => 0), [(fo, .inr (0, [.ref o, .ref lo, .ref od]))], bTown g od ad 0 0 0 20 6 50 0 1 (fun _ _ => 0), bRid g ro af 0 0 (fun _ => 0), bObj g om am 0 0 0 0 0 0 0 (-1) 0 0 0 0, bArr g am (zf [m0, fun _ => 0, fun _ => 0, fun _ => 0, fun _ => 0, fun _ => 0, fun _ => 0, fun _ => 0]), [(oa, .inl (g.2 2, 1, .inr (.inl (fun _ => 0))))]]) H) (hD : va_D A (List.flatten [bDR g x ta o lo go tt lt mo fo ro (-1), bTape g ta ab 0 0 0 0 0 (-1) (fun _ => 0), bTown g o a 0 0 0 20 6 50 0 1 (fun _ _ => 0), bLaw g lo ac 0 (-1) 0 0 0 (fun _ => 0), bLog g go ar 0 0 (fun _ => 0), [(tt, .inr (8, [.ref ta, .ref td]))], bTown g td tda 0 0 0 20 6 50 0 1 (fun _ _ => 0), [(lt, .inr (2, [.ref ta, .ref ldr]))], bLaw g ldr lda 0 (-1) 0 0 0 (fun _ => 0), bMem g mo qT qL it il ig 0 0 0 fT fL, bTown g it ia 0 0 0 20 6 50 0 1 (fun _ _ => 0), bLaw g il ic 0 (-1) 0 0 0 (fun _ => 0), bLog g ig ir 0 0 (fun _ => 0), bTown g t0 ta0 0 0 0 20 6 50 0 1 (fun _ _ => 0), bLog g l0 la0 0 0 (fun _ => 0), [(fo, .inr (0, [.ref o, .ref lo, .ref od]))], bTown g od ad 0 0 0 20 6 50 0 1 (fun _ _ => 0), bRid g ro af 0 0 (fun _ => 0), bObj g om am 0 0 0 0 0 0 0 (-1) 0 0 0 0, bArr g am (zf [m0, fun _ => 0, fun _ => 0, fun _ => 0, fun _ => 0, fun _ => 0, fun _ => 0, fun _ => 0]), [(oa, .inl (g.2 2, 1, .inr (.inl (fun _ => 0))))]])) (hS : va_S A s.heap H locs) (hl : lv_has ls 7 [(4, .int 0), (3, .ref oa), (2, .ref om), (1, .ref x), (0, .ref b)]) : W p l e room_1 s m #[Value.ref b] below meth c H locs 247 14991 (lw_Z below #[Value.ref b] s) (F0 m 1974 ls []) := by
  obtain ⟨hx, hb, hml, hown, hts⟩ := id St
  have hz0 : zZ (fun _ => 0) := zZ0
  refine lv_aload_n hx hb dL_law__1974 rfl (lv_at hl 3 rfl) ?_
  refine lv_aload_n hx hb dL_law__1975 rfl (lv_at hl 1 rfl) ?_
  refine xcallSX (g := g) (As := [.ref x, .ref oa]) (rest := []) St hK hT hA hP hD hS hl.1 [0, 2, 1, 17, 20] [3, 4, 5, 6, 7, 8, 9, 10, 11, 12, 13, 14, 15, 16, 18, 19] rfl rfl rfl (l_ask l hfl g x ta o lo go tt lt mo fo ro (-1) a 0 20 6 50 0 1 (fun _ _ => 0) ab 0 0 0 0 (-1) (fun _ => 0) af 0 0 (fun _ => 0) oa (fun _ => 0) ) (vx_cwSW 2 hts (zgL (zl3 k1465 k1466 k1313) k1257) rfl rfl rfl (by decide +kernel) ⟨Nat.le_of_ble_eq_true rfl, Nat.le_of_ble_eq_true rfl⟩) rfl rfl (Nat.le_of_ble_eq_true rfl) dL_law__1976 ⟨(Nat.le_of_ble_eq_true rfl), (Nat.le_of_ble_eq_true rfl)⟩ (fun E ce q9 u9 H locs hpx hP hD hS hce hcv hcl => hpx.elim) (fun u_ H locs hq3 hP hD hS => ?_)
  obtain ⟨r_1, fz2_2⟩ := u_
  have hq3 : r_1 = 0 ∧ fz2_2 0 = ((-1) : Int32).toInt64 := hq3
  have hP : va_P g.1 vwCl (List.flatten [bLaw g lo ac 0 (-1) 0 0 0 (fun _ => 0), bLog g go ar 0 0 (fun _ => 0), [(tt, .inr (8, [.ref ta, .ref td]))], bTown g td tda 0 0 0 20 6 50 0 1 (fun _ _ => 0), [(lt, .inr (2, [.ref ta, .ref ldr]))], bLaw g ldr lda 0 (-1) 0 0 0 (fun _ => 0), bMem g mo qT qL it il ig 0 0 0 fT fL, bTown g it ia 0 0 0 20 6 50 0 1 (fun _ _ => 0), bLaw g il ic 0 (-1) 0 0 0 (fun _ => 0), bLog g ig ir 0 0 (fun _ => 0), bTown g t0 ta0 0 0 0 20 6 50 0 1 (fun _ _ => 0), bLog g l0 la0 0 0 (fun _ => 0), [(fo, .inr (0, [.ref o, .ref lo, .ref od]))], bTown g od ad 0 0 0 20 6 50 0 1 (fun _ _ => 0), bObj g om am 0 0 0 0 0 0 0 (-1) 0 0 0 0, bArr g am (zf [m0, fun _ => 0, fun _ => 0, fun _ => 0, fun _ => 0, fun _ => 0, fun _ => 0, fun _ => 0]), [(oa, .inl (g.2 2, 1, .inr (.inl fz2_2)))]]) H := hP
  have hD : va_D A (List.flatten [bLaw g lo ac 0 (-1) 0 0 0 (fun _ => 0), bLog g go ar 0 0 (fun _ => 0), [(tt, .inr (8, [.ref ta, .ref td]))], bTown g td tda 0 0 0 20 6 50 0 1 (fun _ _ => 0), [(lt, .inr (2, [.ref ta, .ref ldr]))], bLaw g ldr lda 0 (-1) 0 0 0 (fun _ => 0), bMem g mo qT qL it il ig 0 0 0 fT fL, bTown g it ia 0 0 0 20 6 50 0 1 (fun _ _ => 0), bLaw g il ic 0 (-1) 0 0 0 (fun _ => 0), bLog g ig ir 0 0 (fun _ => 0), bTown g t0 ta0 0 0 0 20 6 50 0 1 (fun _ _ => 0), bLog g l0 la0 0 0 (fun _ => 0), [(fo, .inr (0, [.ref o, .ref lo, .ref od]))], bTown g od ad 0 0 0 20 6 50 0 1 (fun _ _ => 0), bObj g om am 0 0 0 0 0 0 0 (-1) 0 0 0 0, bArr g am (zf [m0, fun _ => 0, fun _ => 0, fun _ => 0, fun _ => 0, fun _ => 0, fun _ => 0, fun _ => 0]), [(oa, .inl (g.2 2, 1, .inr (.inl fz2_2)))]]) := hD
  refine W.widen (k := 248) (n := 14997) (Nat.le_of_ble_eq_true rfl) (Nat.le_of_ble_eq_true rfl) ?_
  refine W.eq (g2 := F0 m 1979 ls [.int r_1]) rfl ?_
  obtain ⟨hr9, hg9⟩ := hq3
  subst hr9
  refine lv_istore (lv' := [(5, .int 0), (4, .int 0), (3, .ref oa), (2, .ref om), (1, .ref x), (0, .ref b)]) hx hb dL_law__1979 hl (by decide) rfl (fun ls hl => ?_)
  refine lv_aload_n hx hb dL_law__1981 rfl (lv_at hl 3 rfl) ?_
  refine mcallV (g := g) (q0 := 0) (ci := 10) (As := []) (rest := []) St hK hT hA hP hD hS hl.1 [14, 15] [0, 1, 2, 3, 4, 5, 6, 7, 8, 9, 10, 11, 12, 13, 16] rfl rfl rfl (m_ask l g om am 0 0 0 0 0 0 (-1) 0 0 0 0 (zf [m0, fun _ => 0, fun _ => 0, fun _ => 0, fun _ => 0, fun _ => 0, fun _ => 0, fun _ => 0]) (by assumption)) (cwV 0 hts (zgL (zl4 k1467 k1468 k1469 k833) k1107) rfl rfl rfl (by decide +kernel) ⟨Nat.le_of_ble_eq_true rfl, Nat.le_of_ble_eq_true rfl⟩) rfl rfl rfl rfl (Nat.le_of_ble_eq_true rfl) dL_law__1982 ⟨(Nat.le_of_ble_eq_true rfl), (Nat.le_of_ble_eq_true rfl)⟩ (fun u_ H locs hq17 hP hD hS => ?_)
  obtain ⟨th2_4, hi2_5, ac2_6, tp2_7, ba2_8, en2_9, tA2_10, fl2_11, de2_12, iD2_13, iO2_14, tU2_15, q_16⟩ := u_
  have hq17 : th2_4 = 0 ∧ q_16 = -1 := hq17
  have hP : va_P g.1 vwCl (List.flatten [bLaw g lo ac 0 (-1) 0 0 0 (fun _ => 0), bLog g go ar 0 0 (fun _ => 0), [(tt, .inr (8, [.ref ta, .ref td]))], bTown g td tda 0 0 0 20 6 50 0 1 (fun _ _ => 0), [(lt, .inr (2, [.ref ta, .ref ldr]))], bLaw g ldr lda 0 (-1) 0 0 0 (fun _ => 0), bMem g mo qT qL it il ig 0 0 0 fT fL, bTown g it ia 0 0 0 20 6 50 0 1 (fun _ _ => 0), bLaw g il ic 0 (-1) 0 0 0 (fun _ => 0), bLog g ig ir 0 0 (fun _ => 0), bTown g t0 ta0 0 0 0 20 6 50 0 1 (fun _ _ => 0), bLog g l0 la0 0 0 (fun _ => 0), [(fo, .inr (0, [.ref o, .ref lo, .ref od]))], bTown g od ad 0 0 0 20 6 50 0 1 (fun _ _ => 0), [(oa, .inl (g.2 2, 1, .inr (.inl fz2_2)))], bObj g om am th2_4 hi2_5 ac2_6 tp2_7 ba2_8 en2_9 tA2_10 fl2_11 de2_12 iD2_13 iO2_14 tU2_15]) H := hP
  have hD : va_D A (List.flatten [bLaw g lo ac 0 (-1) 0 0 0 (fun _ => 0), bLog g go ar 0 0 (fun _ => 0), [(tt, .inr (8, [.ref ta, .ref td]))], bTown g td tda 0 0 0 20 6 50 0 1 (fun _ _ => 0), [(lt, .inr (2, [.ref ta, .ref ldr]))], bLaw g ldr lda 0 (-1) 0 0 0 (fun _ => 0), bMem g mo qT qL it il ig 0 0 0 fT fL, bTown g it ia 0 0 0 20 6 50 0 1 (fun _ _ => 0), bLaw g il ic 0 (-1) 0 0 0 (fun _ => 0), bLog g ig ir 0 0 (fun _ => 0), bTown g t0 ta0 0 0 0 20 6 50 0 1 (fun _ _ => 0), bLog g l0 la0 0 0 (fun _ => 0), [(fo, .inr (0, [.ref o, .ref lo, .ref od]))], bTown g od ad 0 0 0 20 6 50 0 1 (fun _ _ => 0), [(oa, .inl (g.2 2, 1, .inr (.inl fz2_2)))], bObj g om am th2_4 hi2_5 ac2_6 tp2_7 ba2_8 en2_9 tA2_10 fl2_11 de2_12 iD2_13 iO2_14 tU2_15]) := hD
  refine W.widen (k := 248) (n := 14997) (Nat.le_of_ble_eq_true rfl) (Nat.le_of_ble_eq_true rfl) ?_
  refine W.eq (g2 := F0 m 1985 ls [.int q_16]) rfl ?_
  obtain ⟨ht9, hq9⟩ := hq17
  subst ht9
  refine lv_istore (lv' := [(6, .int q_16), (5, .int 0), (4, .int 0), (3, .ref oa), (2, .ref om), (1, .ref x), (0, .ref b)]) hx hb dL_law__1985 hl (by decide) rfl (fun ls hl => ?_)
  refine lv_aload_n hx hb dL_law__1987 rfl (lv_at hl 4 rfl) ?_
  refine mcallV (g := g) (q0 := 0) (ci := 10) (As := []) (rest := []) St hK hT hA hP hD hS hl.1 [15] [0, 1, 2, 3, 4, 5, 6, 7, 8, 9, 10, 11, 12, 13, 14] rfl rfl rfl (m_thrown l g om am 0 hi2_5 ac2_6 tp2_7 ba2_8 en2_9 tA2_10 fl2_11 de2_12 iD2_13 iO2_14 tU2_15 ) (cwV 0 hts (zgL (zl4 k1317 k1318 k1319 k833) k824) rfl rfl rfl (by decide +kernel) ⟨Nat.le_of_ble_eq_true rfl, Nat.le_of_ble_eq_true rfl⟩) rfl rfl rfl rfl (Nat.le_of_ble_eq_true rfl) dL_law__1988 ⟨(Nat.le_of_ble_eq_true rfl), (Nat.le_of_ble_eq_true rfl)⟩ (fun _u H locs hq18 hP hD hS => ?_)
  have hP : va_P g.1 vwCl (List.flatten [bLaw g lo ac 0 (-1) 0 0 0 (fun _ => 0), bLog g go ar 0 0 (fun _ => 0), [(tt, .inr (8, [.ref ta, .ref td]))], bTown g td tda 0 0 0 20 6 50 0 1 (fun _ _ => 0), [(lt, .inr (2, [.ref ta, .ref ldr]))], bLaw g ldr lda 0 (-1) 0 0 0 (fun _ => 0), bMem g mo qT qL it il ig 0 0 0 fT fL, bTown g it ia 0 0 0 20 6 50 0 1 (fun _ _ => 0), bLaw g il ic 0 (-1) 0 0 0 (fun _ => 0), bLog g ig ir 0 0 (fun _ => 0), bTown g t0 ta0 0 0 0 20 6 50 0 1 (fun _ _ => 0), bLog g l0 la0 0 0 (fun _ => 0), [(fo, .inr (0, [.ref o, .ref lo, .ref od]))], bTown g od ad 0 0 0 20 6 50 0 1 (fun _ _ => 0), [(oa, .inl (g.2 2, 1, .inr (.inl fz2_2)))], bObj g om am 0 hi2_5 ac2_6 tp2_7 ba2_8 en2_9 tA2_10 fl2_11 de2_12 iD2_13 iO2_14 tU2_15]) H := hP
  have hD : va_D A (List.flatten [bLaw g lo ac 0 (-1) 0 0 0 (fun _ => 0), bLog g go ar 0 0 (fun _ => 0), [(tt, .inr (8, [.ref ta, .ref td]))], bTown g td tda 0 0 0 20 6 50 0 1 (fun _ _ => 0), [(lt, .inr (2, [.ref ta, .ref ldr]))], bLaw g ldr lda 0 (-1) 0 0 0 (fun _ => 0), bMem g mo qT qL it il ig 0 0 0 fT fL, bTown g it ia 0 0 0 20 6 50 0 1 (fun _ _ => 0), bLaw g il ic 0 (-1) 0 0 0 (fun _ => 0), bLog g ig ir 0 0 (fun _ => 0), bTown g t0 ta0 0 0 0 20 6 50 0 1 (fun _ _ => 0), bLog g l0 la0 0 0 (fun _ => 0), [(fo, .inr (0, [.ref o, .ref lo, .ref od]))], bTown g od ad 0 0 0 20 6 50 0 1 (fun _ _ => 0), [(oa, .inl (g.2 2, 1, .inr (.inl fz2_2)))], bObj g om am 0 hi2_5 ac2_6 tp2_7 ba2_8 en2_9 tA2_10 fl2_11 de2_12 iD2_13 iO2_14 tU2_15]) := hD
  refine W.widen (k := 248) (n := 14997) (Nat.le_of_ble_eq_true rfl) (Nat.le_of_ble_eq_true rfl) ?_
  refine W.eq (g2 := F0 m 1991 ls [.int 0]) rfl ?_
  refine lv_iload hx hb dL_law__1991 (lv_at hl 1 rfl) ?_
  refine lv_icmp_eq (tgt := 1998) hx hb dL_law__1993 (by decide) (fun _ => ?_) (fun c19 => absurd (by decide) c19)
  refine lv_iload hx hb dL_law__1998 (lv_at hl 1 rfl) ?_
  refine lv_if_ne (tgt := 2015) hx hb dL_law__2000 (by decide) (fun c20 => absurd (by decide) c20) (fun _ => ?_)
  refine lv_aload_n hx hb dL_law__2003 rfl (lv_at hl 3 rfl) ?_
  refine lv_iconst (v := 0) hx hb dL_law__2004 (by decide) ?_
  refine va_lald hx hb hK hP 66 2 rfl rfl (zin rfl) dL_law__2005 ?_
  refine ztopl (r := fz2_2 0) rfl ?_
  refine lv_iload hx hb dL_law__2006 (lv_at hl 0 rfl) ?_
  refine lv_i2l (v := (q_16 : Int32).toInt64) hx hb dL_law__2008 rfl ?_
  refine W.lcmp hx hb dL_law__2009 ?_
  refine lv_if_eq (tgt := 2015) hx hb dL_law__2010 (by decide) (fun _ => ?_) (fun c21 => absurd (by rw [hg9, hq9]; exact lg_self _) c21)
  refine lv_goto (tgt := 2738) hx hb dL_law__2015 (by decide) ?_
  refine lv_iinc (v := 6) (lv' := [(4, .int 6), (6, .int q_16), (5, .int 0), (3, .ref oa), (2, .ref om), (1, .ref x), (0, .ref b)]) hx hb dL_law__2738 hl (k := 2) rfl (by decide) (by decide) rfl (fun ls hl => ?_)
  refine lv_goto (tgt := 23) hx hb dL_law__2741 (by decide) ?_
  refine lv_iload hx hb dL_law__23 (lv_at hl 0 rfl) ?_
  refine lv_aload_n hx hb dL_law__25 rfl (lv_at hl 6 rfl) ?_
  refine va_slen hx hb hX hbl hbA hS dL_law__26 ?_
  refine ztop (r := 6) rfl ?_
  refine lv_bipush (v := 6) hx hb dL_law__27 (by decide) ?_
  refine lv_isub hx hb dL_law__29 ?_
  refine ztop (r := 0) (by decide) ?_
  refine lv_icmp_gt (tgt := 2744) hx hb dL_law__30 (by decide) (fun _ => ?_) (fun c22 => absurd (by decide) c22)
  refine lv_iconst (v := 1) hx hb dL_law__2744 (by decide) ?_
  refine va_forget (fun q hq => by have h9 := hS.2.2 q hq; rw [hAe] at h9; exact h9) ?_
  refine W.widen (k := 600002) (n := 7302232) (Nat.le_of_ble_eq_true rfl) (Nat.le_of_ble_eq_true rfl) ?_
  exact lw_ret hx hb hr hlocks dL_law__2745
set_option maxRecDepth 100000 in
set_option maxHeartbeats 4000000 in
/-- the law: word -/
theorem w_32 {p : Program} {e : Env} {s : State} {m : MethodId} {below : List Frame} {meth : Method} {c : Code} (l : Launch) (hfl : l.stackTraces = false) (g : zG) {b : Nat} {xs : Nat → Int32} {A : Nat → Prop} (hAe : A = fun q => s.heap.size ≤ q) (hA : ∀ q, s.heap.size ≤ q → A q) (hbA : ¬ A b) (St : CallFix p m c cL_law_ 7 s #[Value.ref b] zB RL) (hr : meth.sig.returnType = ret) (hlocks : meth.locks = false) (hX : va_X b 6 xs s s.heap) (hbl : b < s.heap.size) (hK : zK g s) (hT : zTh A s) (x : Nat) (ta : Nat) (o : Nat) (lo : Nat) (go : Nat) (tt : Nat) (lt : Nat) (mo : Nat) (fo : Nat) (ro : Nat) (ab : Nat) (ac : Nat) (ar : Nat) (td : Nat) (a : Nat → Nat) (tda : Nat → Nat) (ldr : Nat) (lda : Nat) (qT : Nat) (qL : Nat) (it : Nat) (il : Nat) (ig : Nat) (fT : Nat → Option Nat) (fL : Nat → Option Nat) (ia : Nat → Nat) (ic : Nat) (ir : Nat) (t0 : Nat) (ta0 : Nat → Nat) (l0 : Nat) (la0 : Nat) (od : Nat) (ad : Nat → Nat) (af : Nat) (om : Nat) (am : Nat → Nat) (m0 : Nat → Int32) (oa : Nat) (hT0 : fT 0 = some t0) (hL0 : fL 0 = some l0) (hm : zMo m0) (h8 : m0 8 = 0) (h10 : m0 10 = 1) (H : Heap) (locs : List Loc) (ls : Array Slot) (hP : va_P g.1 vwCl (List.flatten [bDR g x ta o lo go tt lt mo fo ro (-1), bTape g ta ab 0 0 0 0 0 (-1) (fun _ => 0), bTown g o a 0 0 0 20 6 50 0 1 (fun _ _ => 0), bLaw g lo ac 0 (-1) 0 0 0 (fun _ => 0), bLog g go ar 0 0 (fun _ => 0), [(tt, .inr (8, [.ref ta, .ref td]))], bTown g td tda 0 0 0 20 6 50 0 1 (fun _ _ => 0), [(lt, .inr (2, [.ref ta, .ref ldr]))], bLaw g ldr lda 0 (-1) 0 0 0 (fun _ => 0), bMem g mo qT qL it il ig 0 0 0 fT fL, bTown g it ia 0 0 0 20 6 50 0 1 (fun _ _ => 0), bLaw g il ic 0 (-1) 0 0 0 (fun _ => 0), bLog g ig ir 0 0 (fun _ => 0), bTown g t0 ta0 0 0 0 20 6 50 0 1 (fun _ _ => 0), bLog g l0 la0 0 0 (fun _ => 0), [(fo, .inr (0, [.ref o, .ref lo, .ref od]))], bTown g od ad 0 0 0 20 6 50 0 1 (fun _ _ => 0), bRid g ro af 0 0 (fun _ => 0), bObj g om am 0 0 0 0 0 0 0 (-1) 0 0 0 0, bArr g am (zf [m0, fun _ => 0, fun _ => 0, fun _ => 0, fun _ => 0, fun _ => 0, fun _ => 0, fun _ => 0]), [(oa, .inl (g.2 2, 1, .inr (.inl (fun _ => 0))))]]) H) (hD : va_D A (List.flatten [bDR g x ta o lo go tt lt mo fo ro (-1), bTape g ta ab 0 0 0 0 0 (-1) (fun _ => 0), bTown g o a 0 0 0 20 6 50 0 1 (fun _ _ => 0), bLaw g lo ac 0 (-1) 0 0 0 (fun _ => 0), bLog g go ar 0 0 (fun _ => 0), [(tt, .inr (8, [.ref ta, .ref td]))], bTown g td tda 0 0 0 20 6 50 0 1 (fun _ _ => 0), [(lt, .inr (2, [.ref ta, .ref ldr]))], bLaw g ldr lda 0 (-1) 0 0 0 (fun _ => 0), bMem g mo qT qL it il ig 0 0 0 fT fL, bTown g it ia 0 0 0 20 6 50 0 1 (fun _ _ => 0), bLaw g il ic 0 (-1) 0 0 0 (fun _ => 0), bLog g ig ir 0 0 (fun _ => 0), bTown g t0 ta0 0 0 0 20 6 50 0 1 (fun _ _ => 0), bLog g l0 la0 0 0 (fun _ => 0), [(fo, .inr (0, [.ref o, .ref lo, .ref od]))], bTown g od ad 0 0 0 20 6 50 0 1 (fun _ _ => 0), bRid g ro af 0 0 (fun _ => 0), bObj g om am 0 0 0 0 0 0 0 (-1) 0 0 0 0, bArr g am (zf [m0, fun _ => 0, fun _ => 0, fun _ => 0, fun _ => 0, fun _ => 0, fun _ => 0, fun _ => 0]), [(oa, .inl (g.2 2, 1, .inr (.inl (fun _ => 0))))]])) (hS : va_S A s.heap H locs) (hl : lv_has ls 7 [(4, .int 0), (3, .ref oa), (2, .ref om), (1, .ref x), (0, .ref b)]) : W p l e room_1 s m #[Value.ref b] below meth c H locs 247 14991 (lw_Z below #[Value.ref b] s) (F0 m 2018 ls []) := by
  obtain ⟨hx, hb, hml, hown, hts⟩ := id St
  have hz0 : zZ (fun _ => 0) := zZ0
  refine lv_aload_n hx hb dL_law__2018 rfl (lv_at hl 3 rfl) ?_
  refine lv_aload_n hx hb dL_law__2019 rfl (lv_at hl 4 rfl) ?_
  refine lv_iload hx hb dL_law__2020 (lv_at hl 0 rfl) ?_
  refine lv_iconst (v := 1) hx hb dL_law__2022 (by decide) ?_
  refine lv_iadd hx hb dL_law__2023 ?_
  refine ztop (r := 1) (by decide) ?_
  refine va_sld hx hb hX hbl hbA hS (zin rfl) dL_law__2024 ?_
  refine ztop (r := xs 1) rfl ?_
  refine lv_aload_n hx hb dL_law__2025 rfl (lv_at hl 1 rfl) ?_
  refine xcallSX (g := g) (As := [.ref x, .int (xs 1), .ref oa]) (rest := []) St hK hT hA hP hD hS hl.1 [0, 2, 20] [1, 3, 4, 5, 6, 7, 8, 9, 10, 11, 12, 13, 14, 15, 16, 17, 18, 19] rfl rfl rfl (l_word l hfl g x ta o lo go tt lt mo fo ro (-1) o a 0 20 6 50 0 1 (fun _ _ => 0) (xs 1) oa (fun _ => 0) ) (vx_cwSW 3 hts (zgL (zl3 k1470 k1471 k1313) k1261) rfl rfl rfl (by decide +kernel) ⟨Nat.le_of_ble_eq_true rfl, Nat.le_of_ble_eq_true rfl⟩) rfl rfl (Nat.le_of_ble_eq_true rfl) dL_law__2026 ⟨(Nat.le_of_ble_eq_true rfl), (Nat.le_of_ble_eq_true rfl)⟩ (fun E ce q9 u9 H locs hpx hP hD hS hce hcv hcl => hpx.elim) (fun u_ H locs hq3 hP hD hS => ?_)
  obtain ⟨r_1, fz2_2⟩ := u_
  have hq3 : r_1 = 1 := hq3
  have hP : va_P g.1 vwCl (List.flatten [bTape g ta ab 0 0 0 0 0 (-1) (fun _ => 0), bLaw g lo ac 0 (-1) 0 0 0 (fun _ => 0), bLog g go ar 0 0 (fun _ => 0), [(tt, .inr (8, [.ref ta, .ref td]))], bTown g td tda 0 0 0 20 6 50 0 1 (fun _ _ => 0), [(lt, .inr (2, [.ref ta, .ref ldr]))], bLaw g ldr lda 0 (-1) 0 0 0 (fun _ => 0), bMem g mo qT qL it il ig 0 0 0 fT fL, bTown g it ia 0 0 0 20 6 50 0 1 (fun _ _ => 0), bLaw g il ic 0 (-1) 0 0 0 (fun _ => 0), bLog g ig ir 0 0 (fun _ => 0), bTown g t0 ta0 0 0 0 20 6 50 0 1 (fun _ _ => 0), bLog g l0 la0 0 0 (fun _ => 0), [(fo, .inr (0, [.ref o, .ref lo, .ref od]))], bTown g od ad 0 0 0 20 6 50 0 1 (fun _ _ => 0), bRid g ro af 0 0 (fun _ => 0), bObj g om am 0 0 0 0 0 0 0 (-1) 0 0 0 0, bArr g am (zf [m0, fun _ => 0, fun _ => 0, fun _ => 0, fun _ => 0, fun _ => 0, fun _ => 0, fun _ => 0]), [(oa, .inl (g.2 2, 1, .inr (.inl fz2_2)))]]) H := hP
  have hD : va_D A (List.flatten [bTape g ta ab 0 0 0 0 0 (-1) (fun _ => 0), bLaw g lo ac 0 (-1) 0 0 0 (fun _ => 0), bLog g go ar 0 0 (fun _ => 0), [(tt, .inr (8, [.ref ta, .ref td]))], bTown g td tda 0 0 0 20 6 50 0 1 (fun _ _ => 0), [(lt, .inr (2, [.ref ta, .ref ldr]))], bLaw g ldr lda 0 (-1) 0 0 0 (fun _ => 0), bMem g mo qT qL it il ig 0 0 0 fT fL, bTown g it ia 0 0 0 20 6 50 0 1 (fun _ _ => 0), bLaw g il ic 0 (-1) 0 0 0 (fun _ => 0), bLog g ig ir 0 0 (fun _ => 0), bTown g t0 ta0 0 0 0 20 6 50 0 1 (fun _ _ => 0), bLog g l0 la0 0 0 (fun _ => 0), [(fo, .inr (0, [.ref o, .ref lo, .ref od]))], bTown g od ad 0 0 0 20 6 50 0 1 (fun _ _ => 0), bRid g ro af 0 0 (fun _ => 0), bObj g om am 0 0 0 0 0 0 0 (-1) 0 0 0 0, bArr g am (zf [m0, fun _ => 0, fun _ => 0, fun _ => 0, fun _ => 0, fun _ => 0, fun _ => 0, fun _ => 0]), [(oa, .inl (g.2 2, 1, .inr (.inl fz2_2)))]]) := hD
  refine W.widen (k := 248) (n := 14997) (Nat.le_of_ble_eq_true rfl) (Nat.le_of_ble_eq_true rfl) ?_
  refine W.eq (g2 := F0 m 2029 ls [.int r_1]) rfl ?_
  subst hq3
  refine lv_istore (lv' := [(5, .int 1), (4, .int 0), (3, .ref oa), (2, .ref om), (1, .ref x), (0, .ref b)]) hx hb dL_law__2029 hl (by decide) rfl (fun ls hl => ?_)
  refine lv_aload_n hx hb dL_law__2031 rfl (lv_at hl 3 rfl) ?_
  refine lv_aload_n hx hb dL_law__2032 rfl (lv_at hl 5 rfl) ?_
  refine lv_iload hx hb dL_law__2033 (lv_at hl 1 rfl) ?_
  refine lv_iconst (v := 1) hx hb dL_law__2035 (by decide) ?_
  refine lv_iadd hx hb dL_law__2036 ?_
  refine ztop (r := 1) (by decide) ?_
  refine va_sld hx hb hX hbl hbA hS (zin rfl) dL_law__2037 ?_
  refine ztop (r := xs 1) rfl ?_
  refine mcallV (g := g) (q0 := 0) (ci := 10) (As := [.int (xs 1)]) (rest := []) St hK hT hA hP hD hS hl.1 [16, 17] [0, 1, 2, 3, 4, 5, 6, 7, 8, 9, 10, 11, 12, 13, 14, 15, 18] rfl rfl rfl (m_word l g om am 0 0 0 0 0 0 0 (-1) 0 0 0 0 (zf [m0, fun _ => 0, fun _ => 0, fun _ => 0, fun _ => 0, fun _ => 0, fun _ => 0, fun _ => 0]) (xs 1) (by assumption)) (cwV 1 hts (zgL (zl4 k1472 k1473 k1474 k833) k1109) rfl rfl rfl (by decide +kernel) ⟨Nat.le_of_ble_eq_true rfl, Nat.le_of_ble_eq_true rfl⟩) rfl rfl rfl rfl (Nat.le_of_ble_eq_true rfl) dL_law__2038 ⟨(Nat.le_of_ble_eq_true rfl), (Nat.le_of_ble_eq_true rfl)⟩ (fun u_ H locs hq17 hP hD hS => ?_)
  obtain ⟨th2_4, hi2_5, ac2_6, tp2_7, ba2_8, en2_9, tA2_10, fl2_11, de2_12, iD2_13, iO2_14, tU2_15, q_16⟩ := u_
  have hq17 : th2_4 = 1 := hq17
  have hP : va_P g.1 vwCl (List.flatten [bTape g ta ab 0 0 0 0 0 (-1) (fun _ => 0), bLaw g lo ac 0 (-1) 0 0 0 (fun _ => 0), bLog g go ar 0 0 (fun _ => 0), [(tt, .inr (8, [.ref ta, .ref td]))], bTown g td tda 0 0 0 20 6 50 0 1 (fun _ _ => 0), [(lt, .inr (2, [.ref ta, .ref ldr]))], bLaw g ldr lda 0 (-1) 0 0 0 (fun _ => 0), bMem g mo qT qL it il ig 0 0 0 fT fL, bTown g it ia 0 0 0 20 6 50 0 1 (fun _ _ => 0), bLaw g il ic 0 (-1) 0 0 0 (fun _ => 0), bLog g ig ir 0 0 (fun _ => 0), bTown g t0 ta0 0 0 0 20 6 50 0 1 (fun _ _ => 0), bLog g l0 la0 0 0 (fun _ => 0), [(fo, .inr (0, [.ref o, .ref lo, .ref od]))], bTown g od ad 0 0 0 20 6 50 0 1 (fun _ _ => 0), bRid g ro af 0 0 (fun _ => 0), [(oa, .inl (g.2 2, 1, .inr (.inl fz2_2)))], bObj g om am th2_4 hi2_5 ac2_6 tp2_7 ba2_8 en2_9 tA2_10 fl2_11 de2_12 iD2_13 iO2_14 tU2_15]) H := hP
  have hD : va_D A (List.flatten [bTape g ta ab 0 0 0 0 0 (-1) (fun _ => 0), bLaw g lo ac 0 (-1) 0 0 0 (fun _ => 0), bLog g go ar 0 0 (fun _ => 0), [(tt, .inr (8, [.ref ta, .ref td]))], bTown g td tda 0 0 0 20 6 50 0 1 (fun _ _ => 0), [(lt, .inr (2, [.ref ta, .ref ldr]))], bLaw g ldr lda 0 (-1) 0 0 0 (fun _ => 0), bMem g mo qT qL it il ig 0 0 0 fT fL, bTown g it ia 0 0 0 20 6 50 0 1 (fun _ _ => 0), bLaw g il ic 0 (-1) 0 0 0 (fun _ => 0), bLog g ig ir 0 0 (fun _ => 0), bTown g t0 ta0 0 0 0 20 6 50 0 1 (fun _ _ => 0), bLog g l0 la0 0 0 (fun _ => 0), [(fo, .inr (0, [.ref o, .ref lo, .ref od]))], bTown g od ad 0 0 0 20 6 50 0 1 (fun _ _ => 0), bRid g ro af 0 0 (fun _ => 0), [(oa, .inl (g.2 2, 1, .inr (.inl fz2_2)))], bObj g om am th2_4 hi2_5 ac2_6 tp2_7 ba2_8 en2_9 tA2_10 fl2_11 de2_12 iD2_13 iO2_14 tU2_15]) := hD
  refine W.widen (k := 248) (n := 14997) (Nat.le_of_ble_eq_true rfl) (Nat.le_of_ble_eq_true rfl) ?_
  refine W.eq (g2 := F0 m 2041 ls [.int q_16]) rfl ?_
  subst hq17
  refine lv_istore (lv' := [(6, .int q_16), (5, .int 1), (4, .int 0), (3, .ref oa), (2, .ref om), (1, .ref x), (0, .ref b)]) hx hb dL_law__2041 hl (by decide) rfl (fun ls hl => ?_)
  refine lv_aload_n hx hb dL_law__2043 rfl (lv_at hl 4 rfl) ?_
  refine mcallV (g := g) (q0 := 0) (ci := 10) (As := []) (rest := []) St hK hT hA hP hD hS hl.1 [17] [0, 1, 2, 3, 4, 5, 6, 7, 8, 9, 10, 11, 12, 13, 14, 15, 16] rfl rfl rfl (m_thrown l g om am 1 hi2_5 ac2_6 tp2_7 ba2_8 en2_9 tA2_10 fl2_11 de2_12 iD2_13 iO2_14 tU2_15 ) (cwV 0 hts (zgL (zl4 k1317 k1318 k1319 k833) k824) rfl rfl rfl (by decide +kernel) ⟨Nat.le_of_ble_eq_true rfl, Nat.le_of_ble_eq_true rfl⟩) rfl rfl rfl rfl (Nat.le_of_ble_eq_true rfl) dL_law__2044 ⟨(Nat.le_of_ble_eq_true rfl), (Nat.le_of_ble_eq_true rfl)⟩ (fun _u H locs hq18 hP hD hS => ?_)
  have hP : va_P g.1 vwCl (List.flatten [bTape g ta ab 0 0 0 0 0 (-1) (fun _ => 0), bLaw g lo ac 0 (-1) 0 0 0 (fun _ => 0), bLog g go ar 0 0 (fun _ => 0), [(tt, .inr (8, [.ref ta, .ref td]))], bTown g td tda 0 0 0 20 6 50 0 1 (fun _ _ => 0), [(lt, .inr (2, [.ref ta, .ref ldr]))], bLaw g ldr lda 0 (-1) 0 0 0 (fun _ => 0), bMem g mo qT qL it il ig 0 0 0 fT fL, bTown g it ia 0 0 0 20 6 50 0 1 (fun _ _ => 0), bLaw g il ic 0 (-1) 0 0 0 (fun _ => 0), bLog g ig ir 0 0 (fun _ => 0), bTown g t0 ta0 0 0 0 20 6 50 0 1 (fun _ _ => 0), bLog g l0 la0 0 0 (fun _ => 0), [(fo, .inr (0, [.ref o, .ref lo, .ref od]))], bTown g od ad 0 0 0 20 6 50 0 1 (fun _ _ => 0), bRid g ro af 0 0 (fun _ => 0), [(oa, .inl (g.2 2, 1, .inr (.inl fz2_2)))], bObj g om am 1 hi2_5 ac2_6 tp2_7 ba2_8 en2_9 tA2_10 fl2_11 de2_12 iD2_13 iO2_14 tU2_15]) H := hP
  have hD : va_D A (List.flatten [bTape g ta ab 0 0 0 0 0 (-1) (fun _ => 0), bLaw g lo ac 0 (-1) 0 0 0 (fun _ => 0), bLog g go ar 0 0 (fun _ => 0), [(tt, .inr (8, [.ref ta, .ref td]))], bTown g td tda 0 0 0 20 6 50 0 1 (fun _ _ => 0), [(lt, .inr (2, [.ref ta, .ref ldr]))], bLaw g ldr lda 0 (-1) 0 0 0 (fun _ => 0), bMem g mo qT qL it il ig 0 0 0 fT fL, bTown g it ia 0 0 0 20 6 50 0 1 (fun _ _ => 0), bLaw g il ic 0 (-1) 0 0 0 (fun _ => 0), bLog g ig ir 0 0 (fun _ => 0), bTown g t0 ta0 0 0 0 20 6 50 0 1 (fun _ _ => 0), bLog g l0 la0 0 0 (fun _ => 0), [(fo, .inr (0, [.ref o, .ref lo, .ref od]))], bTown g od ad 0 0 0 20 6 50 0 1 (fun _ _ => 0), bRid g ro af 0 0 (fun _ => 0), [(oa, .inl (g.2 2, 1, .inr (.inl fz2_2)))], bObj g om am 1 hi2_5 ac2_6 tp2_7 ba2_8 en2_9 tA2_10 fl2_11 de2_12 iD2_13 iO2_14 tU2_15]) := hD
  refine W.widen (k := 248) (n := 14997) (Nat.le_of_ble_eq_true rfl) (Nat.le_of_ble_eq_true rfl) ?_
  refine W.eq (g2 := F0 m 2047 ls [.int 1]) rfl ?_
  refine lv_iload hx hb dL_law__2047 (lv_at hl 1 rfl) ?_
  refine lv_icmp_eq (tgt := 2054) hx hb dL_law__2049 (by decide) (fun _ => ?_) (fun c19 => absurd (by decide) c19)
  refine lv_iload hx hb dL_law__2054 (lv_at hl 1 rfl) ?_
  refine lv_if_ne (tgt := 2071) hx hb dL_law__2056 (by decide) (fun _ => ?_) (fun c20 => absurd c20 (by decide))
  refine lv_goto (tgt := 2738) hx hb dL_law__2071 (by decide) ?_
  refine lv_iinc (v := 6) (lv' := [(4, .int 6), (6, .int q_16), (5, .int 1), (3, .ref oa), (2, .ref om), (1, .ref x), (0, .ref b)]) hx hb dL_law__2738 hl (k := 2) rfl (by decide) (by decide) rfl (fun ls hl => ?_)
  refine lv_goto (tgt := 23) hx hb dL_law__2741 (by decide) ?_
  refine lv_iload hx hb dL_law__23 (lv_at hl 0 rfl) ?_
  refine lv_aload_n hx hb dL_law__25 rfl (lv_at hl 6 rfl) ?_
  refine va_slen hx hb hX hbl hbA hS dL_law__26 ?_
  refine ztop (r := 6) rfl ?_
  refine lv_bipush (v := 6) hx hb dL_law__27 (by decide) ?_
  refine lv_isub hx hb dL_law__29 ?_
  refine ztop (r := 0) (by decide) ?_
  refine lv_icmp_gt (tgt := 2744) hx hb dL_law__30 (by decide) (fun _ => ?_) (fun c21 => absurd (by decide) c21)
  refine lv_iconst (v := 1) hx hb dL_law__2744 (by decide) ?_
  refine va_forget (fun q hq => by have h9 := hS.2.2 q hq; rw [hAe] at h9; exact h9) ?_
  refine W.widen (k := 600002) (n := 7302232) (Nat.le_of_ble_eq_true rfl) (Nat.le_of_ble_eq_true rfl) ?_
  exact lw_ret hx hb hr hlocks dL_law__2745
set_option maxRecDepth 100000 in
set_option maxHeartbeats 4000000 in
/-- the law: steps -/
theorem w_33 {p : Program} {e : Env} {s : State} {m : MethodId} {below : List Frame} {meth : Method} {c : Code} (l : Launch) (hfl : l.stackTraces = false) (g : zG) {b : Nat} {xs : Nat → Int32} {A : Nat → Prop} (hAe : A = fun q => s.heap.size ≤ q) (hA : ∀ q, s.heap.size ≤ q → A q) (hbA : ¬ A b) (St : CallFix p m c cL_law_ 7 s #[Value.ref b] zB RL) (hr : meth.sig.returnType = ret) (hlocks : meth.locks = false) (hX : va_X b 6 xs s s.heap) (hbl : b < s.heap.size) (hK : zK g s) (hT : zTh A s) (x : Nat) (ta : Nat) (o : Nat) (lo : Nat) (go : Nat) (tt : Nat) (lt : Nat) (mo : Nat) (fo : Nat) (ro : Nat) (ab : Nat) (ac : Nat) (ar : Nat) (td : Nat) (a : Nat → Nat) (tda : Nat → Nat) (ldr : Nat) (lda : Nat) (qT : Nat) (qL : Nat) (it : Nat) (il : Nat) (ig : Nat) (fT : Nat → Option Nat) (fL : Nat → Option Nat) (ia : Nat → Nat) (ic : Nat) (ir : Nat) (t0 : Nat) (ta0 : Nat → Nat) (l0 : Nat) (la0 : Nat) (od : Nat) (ad : Nat → Nat) (af : Nat) (om : Nat) (am : Nat → Nat) (m0 : Nat → Int32) (oa : Nat) (hT0 : fT 0 = some t0) (hL0 : fL 0 = some l0) (hm : zMo m0) (h8 : m0 8 = 0) (h10 : m0 10 = 1) (H : Heap) (locs : List Loc) (ls : Array Slot) (hP : va_P g.1 vwCl (List.flatten [bDR g x ta o lo go tt lt mo fo ro (-1), bTape g ta ab 0 0 0 0 0 (-1) (fun _ => 0), bTown g o a 0 0 0 20 6 50 0 1 (fun _ _ => 0), bLaw g lo ac 0 (-1) 0 0 0 (fun _ => 0), bLog g go ar 0 0 (fun _ => 0), [(tt, .inr (8, [.ref ta, .ref td]))], bTown g td tda 0 0 0 20 6 50 0 1 (fun _ _ => 0), [(lt, .inr (2, [.ref ta, .ref ldr]))], bLaw g ldr lda 0 (-1) 0 0 0 (fun _ => 0), bMem g mo qT qL it il ig 0 0 0 fT fL, bTown g it ia 0 0 0 20 6 50 0 1 (fun _ _ => 0), bLaw g il ic 0 (-1) 0 0 0 (fun _ => 0), bLog g ig ir 0 0 (fun _ => 0), bTown g t0 ta0 0 0 0 20 6 50 0 1 (fun _ _ => 0), bLog g l0 la0 0 0 (fun _ => 0), [(fo, .inr (0, [.ref o, .ref lo, .ref od]))], bTown g od ad 0 0 0 20 6 50 0 1 (fun _ _ => 0), bRid g ro af 0 0 (fun _ => 0), bObj g om am 0 0 0 0 0 0 0 (-1) 0 0 0 0, bArr g am (zf [m0, fun _ => 0, fun _ => 0, fun _ => 0, fun _ => 0, fun _ => 0, fun _ => 0, fun _ => 0]), [(oa, .inl (g.2 2, 1, .inr (.inl (fun _ => 0))))]]) H) (hD : va_D A (List.flatten [bDR g x ta o lo go tt lt mo fo ro (-1), bTape g ta ab 0 0 0 0 0 (-1) (fun _ => 0), bTown g o a 0 0 0 20 6 50 0 1 (fun _ _ => 0), bLaw g lo ac 0 (-1) 0 0 0 (fun _ => 0), bLog g go ar 0 0 (fun _ => 0), [(tt, .inr (8, [.ref ta, .ref td]))], bTown g td tda 0 0 0 20 6 50 0 1 (fun _ _ => 0), [(lt, .inr (2, [.ref ta, .ref ldr]))], bLaw g ldr lda 0 (-1) 0 0 0 (fun _ => 0), bMem g mo qT qL it il ig 0 0 0 fT fL, bTown g it ia 0 0 0 20 6 50 0 1 (fun _ _ => 0), bLaw g il ic 0 (-1) 0 0 0 (fun _ => 0), bLog g ig ir 0 0 (fun _ => 0), bTown g t0 ta0 0 0 0 20 6 50 0 1 (fun _ _ => 0), bLog g l0 la0 0 0 (fun _ => 0), [(fo, .inr (0, [.ref o, .ref lo, .ref od]))], bTown g od ad 0 0 0 20 6 50 0 1 (fun _ _ => 0), bRid g ro af 0 0 (fun _ => 0), bObj g om am 0 0 0 0 0 0 0 (-1) 0 0 0 0, bArr g am (zf [m0, fun _ => 0, fun _ => 0, fun _ => 0, fun _ => 0, fun _ => 0, fun _ => 0, fun _ => 0]), [(oa, .inl (g.2 2, 1, .inr (.inl (fun _ => 0))))]])) (hS : va_S A s.heap H locs) (hl : lv_has ls 7 [(4, .int 0), (3, .ref oa), (2, .ref om), (1, .ref x), (0, .ref b)]) : W p l e room_1 s m #[Value.ref b] below meth c H locs 247 14991 (lw_Z below #[Value.ref b] s) (F0 m 2074 ls []) := by
  obtain ⟨hx, hb, hml, hown, hts⟩ := id St
  have hz0 : zZ (fun _ => 0) := zZ0
  refine lv_aload_n hx hb dL_law__2074 rfl (lv_at hl 3 rfl) ?_
  refine lv_aload_n hx hb dL_law__2075 rfl (lv_at hl 4 rfl) ?_
  refine lv_iload hx hb dL_law__2076 (lv_at hl 0 rfl) ?_
  refine lv_iconst (v := 1) hx hb dL_law__2078 (by decide) ?_
  refine lv_iadd hx hb dL_law__2079 ?_
  refine ztop (r := 1) (by decide) ?_
  refine va_sld hx hb hX hbl hbA hS (zin rfl) dL_law__2080 ?_
  refine ztop (r := xs 1) rfl ?_
  refine lv_aload_n hx hb dL_law__2081 rfl (lv_at hl 4 rfl) ?_
  refine lv_iload hx hb dL_law__2082 (lv_at hl 0 rfl) ?_
  refine lv_iconst (v := 2) hx hb dL_law__2084 (by decide) ?_
  refine lv_iadd hx hb dL_law__2085 ?_
  refine ztop (r := 2) (by decide) ?_
  refine va_sld hx hb hX hbl hbA hS (zin rfl) dL_law__2086 ?_
  refine ztop (r := xs 2) rfl ?_
  refine lv_aload_n hx hb dL_law__2087 rfl (lv_at hl 1 rfl) ?_
  refine xcallSX (g := g) (As := [.ref x, .int (xs 1), .int (xs 2), .ref oa]) (rest := []) St hK hT hA hP hD hS hl.1 [0, 2, 20] [1, 3, 4, 5, 6, 7, 8, 9, 10, 11, 12, 13, 14, 15, 16, 17, 18, 19] rfl rfl rfl (l_steps l hfl g x ta o lo go tt lt mo fo ro (-1) o a 0 20 6 50 0 1 (fun _ _ => 0) (xs 1) (xs 2) oa (fun _ => 0) ) (vx_cwSW 4 hts (zgL (zl3 k1475 k1476 k1313) k1265) rfl rfl rfl (by decide +kernel) ⟨Nat.le_of_ble_eq_true rfl, Nat.le_of_ble_eq_true rfl⟩) rfl rfl (Nat.le_of_ble_eq_true rfl) dL_law__2088 ⟨(Nat.le_of_ble_eq_true rfl), (Nat.le_of_ble_eq_true rfl)⟩ (fun E ce q9 u9 H locs hpx hP hD hS hce hcv hcl => hpx.elim) (fun u_ H locs hq3 hP hD hS => ?_)
  obtain ⟨r_1, fz2_2⟩ := u_
  have hq3 : r_1 = 1 := hq3
  have hP : va_P g.1 vwCl (List.flatten [bTape g ta ab 0 0 0 0 0 (-1) (fun _ => 0), bLaw g lo ac 0 (-1) 0 0 0 (fun _ => 0), bLog g go ar 0 0 (fun _ => 0), [(tt, .inr (8, [.ref ta, .ref td]))], bTown g td tda 0 0 0 20 6 50 0 1 (fun _ _ => 0), [(lt, .inr (2, [.ref ta, .ref ldr]))], bLaw g ldr lda 0 (-1) 0 0 0 (fun _ => 0), bMem g mo qT qL it il ig 0 0 0 fT fL, bTown g it ia 0 0 0 20 6 50 0 1 (fun _ _ => 0), bLaw g il ic 0 (-1) 0 0 0 (fun _ => 0), bLog g ig ir 0 0 (fun _ => 0), bTown g t0 ta0 0 0 0 20 6 50 0 1 (fun _ _ => 0), bLog g l0 la0 0 0 (fun _ => 0), [(fo, .inr (0, [.ref o, .ref lo, .ref od]))], bTown g od ad 0 0 0 20 6 50 0 1 (fun _ _ => 0), bRid g ro af 0 0 (fun _ => 0), bObj g om am 0 0 0 0 0 0 0 (-1) 0 0 0 0, bArr g am (zf [m0, fun _ => 0, fun _ => 0, fun _ => 0, fun _ => 0, fun _ => 0, fun _ => 0, fun _ => 0]), [(oa, .inl (g.2 2, 1, .inr (.inl fz2_2)))]]) H := hP
  have hD : va_D A (List.flatten [bTape g ta ab 0 0 0 0 0 (-1) (fun _ => 0), bLaw g lo ac 0 (-1) 0 0 0 (fun _ => 0), bLog g go ar 0 0 (fun _ => 0), [(tt, .inr (8, [.ref ta, .ref td]))], bTown g td tda 0 0 0 20 6 50 0 1 (fun _ _ => 0), [(lt, .inr (2, [.ref ta, .ref ldr]))], bLaw g ldr lda 0 (-1) 0 0 0 (fun _ => 0), bMem g mo qT qL it il ig 0 0 0 fT fL, bTown g it ia 0 0 0 20 6 50 0 1 (fun _ _ => 0), bLaw g il ic 0 (-1) 0 0 0 (fun _ => 0), bLog g ig ir 0 0 (fun _ => 0), bTown g t0 ta0 0 0 0 20 6 50 0 1 (fun _ _ => 0), bLog g l0 la0 0 0 (fun _ => 0), [(fo, .inr (0, [.ref o, .ref lo, .ref od]))], bTown g od ad 0 0 0 20 6 50 0 1 (fun _ _ => 0), bRid g ro af 0 0 (fun _ => 0), bObj g om am 0 0 0 0 0 0 0 (-1) 0 0 0 0, bArr g am (zf [m0, fun _ => 0, fun _ => 0, fun _ => 0, fun _ => 0, fun _ => 0, fun _ => 0, fun _ => 0]), [(oa, .inl (g.2 2, 1, .inr (.inl fz2_2)))]]) := hD
  refine W.widen (k := 248) (n := 14997) (Nat.le_of_ble_eq_true rfl) (Nat.le_of_ble_eq_true rfl) ?_
  refine W.eq (g2 := F0 m 2091 ls [.int r_1]) rfl ?_
  subst hq3
  refine lv_istore (lv' := [(5, .int 1), (4, .int 0), (3, .ref oa), (2, .ref om), (1, .ref x), (0, .ref b)]) hx hb dL_law__2091 hl (by decide) rfl (fun ls hl => ?_)
  refine lv_aload_n hx hb dL_law__2093 rfl (lv_at hl 3 rfl) ?_
  refine lv_aload_n hx hb dL_law__2094 rfl (lv_at hl 5 rfl) ?_
  refine lv_iload hx hb dL_law__2095 (lv_at hl 1 rfl) ?_
  refine lv_iconst (v := 1) hx hb dL_law__2097 (by decide) ?_
  refine lv_iadd hx hb dL_law__2098 ?_
  refine ztop (r := 1) (by decide) ?_
  refine va_sld hx hb hX hbl hbA hS (zin rfl) dL_law__2099 ?_
  refine ztop (r := xs 1) rfl ?_
  refine lv_aload_n hx hb dL_law__2100 rfl (lv_at hl 5 rfl) ?_
  refine lv_iload hx hb dL_law__2101 (lv_at hl 1 rfl) ?_
  refine lv_iconst (v := 2) hx hb dL_law__2103 (by decide) ?_
  refine lv_iadd hx hb dL_law__2104 ?_
  refine ztop (r := 2) (by decide) ?_
  refine va_sld hx hb hX hbl hbA hS (zin rfl) dL_law__2105 ?_
  refine ztop (r := xs 2) rfl ?_
  refine mcallV (g := g) (q0 := 0) (ci := 10) (As := [.int (xs 1), .int (xs 2)]) (rest := []) St hK hT hA hP hD hS hl.1 [16, 17] [0, 1, 2, 3, 4, 5, 6, 7, 8, 9, 10, 11, 12, 13, 14, 15, 18] rfl rfl rfl (m_steps l g om am 0 0 0 0 0 0 0 (-1) 0 0 0 0 (zf [m0, fun _ => 0, fun _ => 0, fun _ => 0, fun _ => 0, fun _ => 0, fun _ => 0, fun _ => 0]) (xs 1) (xs 2) (by assumption)) (cwV 2 hts (zgL (zl4 k1477 k1478 k1479 k833) k1114) rfl rfl rfl (by decide +kernel) ⟨Nat.le_of_ble_eq_true rfl, Nat.le_of_ble_eq_true rfl⟩) rfl rfl rfl rfl (Nat.le_of_ble_eq_true rfl) dL_law__2106 ⟨(Nat.le_of_ble_eq_true rfl), (Nat.le_of_ble_eq_true rfl)⟩ (fun u_ H locs hq17 hP hD hS => ?_)
  obtain ⟨th2_4, hi2_5, ac2_6, tp2_7, ba2_8, en2_9, tA2_10, fl2_11, de2_12, iD2_13, iO2_14, tU2_15, q_16⟩ := u_
  have hq17 : th2_4 = 1 := hq17
  have hP : va_P g.1 vwCl (List.flatten [bTape g ta ab 0 0 0 0 0 (-1) (fun _ => 0), bLaw g lo ac 0 (-1) 0 0 0 (fun _ => 0), bLog g go ar 0 0 (fun _ => 0), [(tt, .inr (8, [.ref ta, .ref td]))], bTown g td tda 0 0 0 20 6 50 0 1 (fun _ _ => 0), [(lt, .inr (2, [.ref ta, .ref ldr]))], bLaw g ldr lda 0 (-1) 0 0 0 (fun _ => 0), bMem g mo qT qL it il ig 0 0 0 fT fL, bTown g it ia 0 0 0 20 6 50 0 1 (fun _ _ => 0), bLaw g il ic 0 (-1) 0 0 0 (fun _ => 0), bLog g ig ir 0 0 (fun _ => 0), bTown g t0 ta0 0 0 0 20 6 50 0 1 (fun _ _ => 0), bLog g l0 la0 0 0 (fun _ => 0), [(fo, .inr (0, [.ref o, .ref lo, .ref od]))], bTown g od ad 0 0 0 20 6 50 0 1 (fun _ _ => 0), bRid g ro af 0 0 (fun _ => 0), [(oa, .inl (g.2 2, 1, .inr (.inl fz2_2)))], bObj g om am th2_4 hi2_5 ac2_6 tp2_7 ba2_8 en2_9 tA2_10 fl2_11 de2_12 iD2_13 iO2_14 tU2_15]) H := hP
  have hD : va_D A (List.flatten [bTape g ta ab 0 0 0 0 0 (-1) (fun _ => 0), bLaw g lo ac 0 (-1) 0 0 0 (fun _ => 0), bLog g go ar 0 0 (fun _ => 0), [(tt, .inr (8, [.ref ta, .ref td]))], bTown g td tda 0 0 0 20 6 50 0 1 (fun _ _ => 0), [(lt, .inr (2, [.ref ta, .ref ldr]))], bLaw g ldr lda 0 (-1) 0 0 0 (fun _ => 0), bMem g mo qT qL it il ig 0 0 0 fT fL, bTown g it ia 0 0 0 20 6 50 0 1 (fun _ _ => 0), bLaw g il ic 0 (-1) 0 0 0 (fun _ => 0), bLog g ig ir 0 0 (fun _ => 0), bTown g t0 ta0 0 0 0 20 6 50 0 1 (fun _ _ => 0), bLog g l0 la0 0 0 (fun _ => 0), [(fo, .inr (0, [.ref o, .ref lo, .ref od]))], bTown g od ad 0 0 0 20 6 50 0 1 (fun _ _ => 0), bRid g ro af 0 0 (fun _ => 0), [(oa, .inl (g.2 2, 1, .inr (.inl fz2_2)))], bObj g om am th2_4 hi2_5 ac2_6 tp2_7 ba2_8 en2_9 tA2_10 fl2_11 de2_12 iD2_13 iO2_14 tU2_15]) := hD
  refine W.widen (k := 248) (n := 14997) (Nat.le_of_ble_eq_true rfl) (Nat.le_of_ble_eq_true rfl) ?_
  refine W.eq (g2 := F0 m 2109 ls [.int q_16]) rfl ?_
  subst hq17
  refine lv_istore (lv' := [(6, .int q_16), (5, .int 1), (4, .int 0), (3, .ref oa), (2, .ref om), (1, .ref x), (0, .ref b)]) hx hb dL_law__2109 hl (by decide) rfl (fun ls hl => ?_)
  refine lv_aload_n hx hb dL_law__2111 rfl (lv_at hl 4 rfl) ?_
  refine mcallV (g := g) (q0 := 0) (ci := 10) (As := []) (rest := []) St hK hT hA hP hD hS hl.1 [17] [0, 1, 2, 3, 4, 5, 6, 7, 8, 9, 10, 11, 12, 13, 14, 15, 16] rfl rfl rfl (m_thrown l g om am 1 hi2_5 ac2_6 tp2_7 ba2_8 en2_9 tA2_10 fl2_11 de2_12 iD2_13 iO2_14 tU2_15 ) (cwV 0 hts (zgL (zl4 k1317 k1318 k1319 k833) k824) rfl rfl rfl (by decide +kernel) ⟨Nat.le_of_ble_eq_true rfl, Nat.le_of_ble_eq_true rfl⟩) rfl rfl rfl rfl (Nat.le_of_ble_eq_true rfl) dL_law__2112 ⟨(Nat.le_of_ble_eq_true rfl), (Nat.le_of_ble_eq_true rfl)⟩ (fun _u H locs hq18 hP hD hS => ?_)
  have hP : va_P g.1 vwCl (List.flatten [bTape g ta ab 0 0 0 0 0 (-1) (fun _ => 0), bLaw g lo ac 0 (-1) 0 0 0 (fun _ => 0), bLog g go ar 0 0 (fun _ => 0), [(tt, .inr (8, [.ref ta, .ref td]))], bTown g td tda 0 0 0 20 6 50 0 1 (fun _ _ => 0), [(lt, .inr (2, [.ref ta, .ref ldr]))], bLaw g ldr lda 0 (-1) 0 0 0 (fun _ => 0), bMem g mo qT qL it il ig 0 0 0 fT fL, bTown g it ia 0 0 0 20 6 50 0 1 (fun _ _ => 0), bLaw g il ic 0 (-1) 0 0 0 (fun _ => 0), bLog g ig ir 0 0 (fun _ => 0), bTown g t0 ta0 0 0 0 20 6 50 0 1 (fun _ _ => 0), bLog g l0 la0 0 0 (fun _ => 0), [(fo, .inr (0, [.ref o, .ref lo, .ref od]))], bTown g od ad 0 0 0 20 6 50 0 1 (fun _ _ => 0), bRid g ro af 0 0 (fun _ => 0), [(oa, .inl (g.2 2, 1, .inr (.inl fz2_2)))], bObj g om am 1 hi2_5 ac2_6 tp2_7 ba2_8 en2_9 tA2_10 fl2_11 de2_12 iD2_13 iO2_14 tU2_15]) H := hP
  have hD : va_D A (List.flatten [bTape g ta ab 0 0 0 0 0 (-1) (fun _ => 0), bLaw g lo ac 0 (-1) 0 0 0 (fun _ => 0), bLog g go ar 0 0 (fun _ => 0), [(tt, .inr (8, [.ref ta, .ref td]))], bTown g td tda 0 0 0 20 6 50 0 1 (fun _ _ => 0), [(lt, .inr (2, [.ref ta, .ref ldr]))], bLaw g ldr lda 0 (-1) 0 0 0 (fun _ => 0), bMem g mo qT qL it il ig 0 0 0 fT fL, bTown g it ia 0 0 0 20 6 50 0 1 (fun _ _ => 0), bLaw g il ic 0 (-1) 0 0 0 (fun _ => 0), bLog g ig ir 0 0 (fun _ => 0), bTown g t0 ta0 0 0 0 20 6 50 0 1 (fun _ _ => 0), bLog g l0 la0 0 0 (fun _ => 0), [(fo, .inr (0, [.ref o, .ref lo, .ref od]))], bTown g od ad 0 0 0 20 6 50 0 1 (fun _ _ => 0), bRid g ro af 0 0 (fun _ => 0), [(oa, .inl (g.2 2, 1, .inr (.inl fz2_2)))], bObj g om am 1 hi2_5 ac2_6 tp2_7 ba2_8 en2_9 tA2_10 fl2_11 de2_12 iD2_13 iO2_14 tU2_15]) := hD
  refine W.widen (k := 248) (n := 14997) (Nat.le_of_ble_eq_true rfl) (Nat.le_of_ble_eq_true rfl) ?_
  refine W.eq (g2 := F0 m 2115 ls [.int 1]) rfl ?_
  refine lv_iload hx hb dL_law__2115 (lv_at hl 1 rfl) ?_
  refine lv_icmp_eq (tgt := 2122) hx hb dL_law__2117 (by decide) (fun _ => ?_) (fun c19 => absurd (by decide) c19)
  refine lv_iload hx hb dL_law__2122 (lv_at hl 1 rfl) ?_
  refine lv_if_ne (tgt := 2139) hx hb dL_law__2124 (by decide) (fun _ => ?_) (fun c20 => absurd c20 (by decide))
  refine lv_goto (tgt := 2738) hx hb dL_law__2139 (by decide) ?_
  refine lv_iinc (v := 6) (lv' := [(4, .int 6), (6, .int q_16), (5, .int 1), (3, .ref oa), (2, .ref om), (1, .ref x), (0, .ref b)]) hx hb dL_law__2738 hl (k := 2) rfl (by decide) (by decide) rfl (fun ls hl => ?_)
  refine lv_goto (tgt := 23) hx hb dL_law__2741 (by decide) ?_
  refine lv_iload hx hb dL_law__23 (lv_at hl 0 rfl) ?_
  refine lv_aload_n hx hb dL_law__25 rfl (lv_at hl 6 rfl) ?_
  refine va_slen hx hb hX hbl hbA hS dL_law__26 ?_
  refine ztop (r := 6) rfl ?_
  refine lv_bipush (v := 6) hx hb dL_law__27 (by decide) ?_
  refine lv_isub hx hb dL_law__29 ?_
  refine ztop (r := 0) (by decide) ?_
  refine lv_icmp_gt (tgt := 2744) hx hb dL_law__30 (by decide) (fun _ => ?_) (fun c21 => absurd (by decide) c21)
  refine lv_iconst (v := 1) hx hb dL_law__2744 (by decide) ?_
  refine va_forget (fun q hq => by have h9 := hS.2.2 q hq; rw [hAe] at h9; exact h9) ?_
  refine W.widen (k := 600002) (n := 7302232) (Nat.le_of_ble_eq_true rfl) (Nat.le_of_ble_eq_true rfl) ?_
  exact lw_ret hx hb hr hlocks dL_law__2745
set_option maxRecDepth 100000 in
set_option maxHeartbeats 4000000 in
/-- the law: circles -/
theorem w_34 {p : Program} {e : Env} {s : State} {m : MethodId} {below : List Frame} {meth : Method} {c : Code} (l : Launch) (hfl : l.stackTraces = false) (g : zG) {b : Nat} {xs : Nat → Int32} {A : Nat → Prop} (hAe : A = fun q => s.heap.size ≤ q) (hA : ∀ q, s.heap.size ≤ q → A q) (hbA : ¬ A b) (St : CallFix p m c cL_law_ 7 s #[Value.ref b] zB RL) (hr : meth.sig.returnType = ret) (hlocks : meth.locks = false) (hX : va_X b 6 xs s s.heap) (hbl : b < s.heap.size) (hK : zK g s) (hT : zTh A s) (x : Nat) (ta : Nat) (o : Nat) (lo : Nat) (go : Nat) (tt : Nat) (lt : Nat) (mo : Nat) (fo : Nat) (ro : Nat) (ab : Nat) (ac : Nat) (ar : Nat) (td : Nat) (a : Nat → Nat) (tda : Nat → Nat) (ldr : Nat) (lda : Nat) (qT : Nat) (qL : Nat) (it : Nat) (il : Nat) (ig : Nat) (fT : Nat → Option Nat) (fL : Nat → Option Nat) (ia : Nat → Nat) (ic : Nat) (ir : Nat) (t0 : Nat) (ta0 : Nat → Nat) (l0 : Nat) (la0 : Nat) (od : Nat) (ad : Nat → Nat) (af : Nat) (om : Nat) (am : Nat → Nat) (m0 : Nat → Int32) (oa : Nat) (hT0 : fT 0 = some t0) (hL0 : fL 0 = some l0) (hm : zMo m0) (h8 : m0 8 = 0) (h10 : m0 10 = 1) (H : Heap) (locs : List Loc) (ls : Array Slot) (hP : va_P g.1 vwCl (List.flatten [bDR g x ta o lo go tt lt mo fo ro (-1), bTape g ta ab 0 0 0 0 0 (-1) (fun _ => 0), bTown g o a 0 0 0 20 6 50 0 1 (fun _ _ => 0), bLaw g lo ac 0 (-1) 0 0 0 (fun _ => 0), bLog g go ar 0 0 (fun _ => 0), [(tt, .inr (8, [.ref ta, .ref td]))], bTown g td tda 0 0 0 20 6 50 0 1 (fun _ _ => 0), [(lt, .inr (2, [.ref ta, .ref ldr]))], bLaw g ldr lda 0 (-1) 0 0 0 (fun _ => 0), bMem g mo qT qL it il ig 0 0 0 fT fL, bTown g it ia 0 0 0 20 6 50 0 1 (fun _ _ => 0), bLaw g il ic 0 (-1) 0 0 0 (fun _ => 0), bLog g ig ir 0 0 (fun _ => 0), bTown g t0 ta0 0 0 0 20 6 50 0 1 (fun _ _ => 0), bLog g l0 la0 0 0 (fun _ => 0), [(fo, .inr (0, [.ref o, .ref lo, .ref od]))], bTown g od ad 0 0 0 20 6 50 0 1 (fun _ _ => 0), bRid g ro af 0 0 (fun _ => 0), bObj g om am 0 0 0 0 0 0 0 (-1) 0 0 0 0, bArr g am (zf [m0, fun _ => 0, fun _ => 0, fun _ => 0, fun _ => 0, fun _ => 0, fun _ => 0, fun _ => 0]), [(oa, .inl (g.2 2, 1, .inr (.inl (fun _ => 0))))]]) H) (hD : va_D A (List.flatten [bDR g x ta o lo go tt lt mo fo ro (-1), bTape g ta ab 0 0 0 0 0 (-1) (fun _ => 0), bTown g o a 0 0 0 20 6 50 0 1 (fun _ _ => 0), bLaw g lo ac 0 (-1) 0 0 0 (fun _ => 0), bLog g go ar 0 0 (fun _ => 0), [(tt, .inr (8, [.ref ta, .ref td]))], bTown g td tda 0 0 0 20 6 50 0 1 (fun _ _ => 0), [(lt, .inr (2, [.ref ta, .ref ldr]))], bLaw g ldr lda 0 (-1) 0 0 0 (fun _ => 0), bMem g mo qT qL it il ig 0 0 0 fT fL, bTown g it ia 0 0 0 20 6 50 0 1 (fun _ _ => 0), bLaw g il ic 0 (-1) 0 0 0 (fun _ => 0), bLog g ig ir 0 0 (fun _ => 0), bTown g t0 ta0 0 0 0 20 6 50 0 1 (fun _ _ => 0), bLog g l0 la0 0 0 (fun _ => 0), [(fo, .inr (0, [.ref o, .ref lo, .ref od]))], bTown g od ad 0 0 0 20 6 50 0 1 (fun _ _ => 0), bRid g ro af 0 0 (fun _ => 0), bObj g om am 0 0 0 0 0 0 0 (-1) 0 0 0 0, bArr g am (zf [m0, fun _ => 0, fun _ => 0, fun _ => 0, fun _ => 0, fun _ => 0, fun _ => 0, fun _ => 0]), [(oa, .inl (g.2 2, 1, .inr (.inl (fun _ => 0))))]])) (hS : va_S A s.heap H locs) (hl : lv_has ls 7 [(4, .int 0), (3, .ref oa), (2, .ref om), (1, .ref x), (0, .ref b)]) : W p l e room_1 s m #[Value.ref b] below meth c H locs 247 14991 (lw_Z below #[Value.ref b] s) (F0 m 2142 ls []) := by
  obtain ⟨hx, hb, hml, hown, hts⟩ := id St
  have hz0 : zZ (fun _ => 0) := zZ0
  refine lv_aload_n hx hb dL_law__2142 rfl (lv_at hl 3 rfl) ?_
  refine mcallV (g := g) (q0 := 0) (ci := 9) (As := []) (rest := []) St hK hT hA hP hD hS hl.1 [0, 2] [1, 3, 4, 5, 6, 7, 8, 9, 10, 11, 12, 13, 14, 15, 16, 17, 18, 19, 20] rfl rfl rfl (c_circles l g x ta o lo go tt lt mo fo ro (-1) a 0 20 6 50 0 1 (fun _ _ => 0) ) (cwV 0 hts (zgL (zl4 k1480 k1481 k1482 k595) k736) rfl rfl rfl (by decide +kernel) ⟨Nat.le_of_ble_eq_true rfl, Nat.le_of_ble_eq_true rfl⟩) rfl rfl rfl rfl (Nat.le_of_ble_eq_true rfl) dL_law__2143 ⟨(Nat.le_of_ble_eq_true rfl), (Nat.le_of_ble_eq_true rfl)⟩ (fun _u H locs hq1 hP hD hS => ?_)
  have hP : va_P g.1 vwCl (List.flatten [bTape g ta ab 0 0 0 0 0 (-1) (fun _ => 0), bLaw g lo ac 0 (-1) 0 0 0 (fun _ => 0), bLog g go ar 0 0 (fun _ => 0), [(tt, .inr (8, [.ref ta, .ref td]))], bTown g td tda 0 0 0 20 6 50 0 1 (fun _ _ => 0), [(lt, .inr (2, [.ref ta, .ref ldr]))], bLaw g ldr lda 0 (-1) 0 0 0 (fun _ => 0), bMem g mo qT qL it il ig 0 0 0 fT fL, bTown g it ia 0 0 0 20 6 50 0 1 (fun _ _ => 0), bLaw g il ic 0 (-1) 0 0 0 (fun _ => 0), bLog g ig ir 0 0 (fun _ => 0), bTown g t0 ta0 0 0 0 20 6 50 0 1 (fun _ _ => 0), bLog g l0 la0 0 0 (fun _ => 0), [(fo, .inr (0, [.ref o, .ref lo, .ref od]))], bTown g od ad 0 0 0 20 6 50 0 1 (fun _ _ => 0), bRid g ro af 0 0 (fun _ => 0), bObj g om am 0 0 0 0 0 0 0 (-1) 0 0 0 0, bArr g am (zf [m0, fun _ => 0, fun _ => 0, fun _ => 0, fun _ => 0, fun _ => 0, fun _ => 0, fun _ => 0]), [(oa, .inl (g.2 2, 1, .inr (.inl (fun _ => 0))))]]) H := hP
  have hD : va_D A (List.flatten [bTape g ta ab 0 0 0 0 0 (-1) (fun _ => 0), bLaw g lo ac 0 (-1) 0 0 0 (fun _ => 0), bLog g go ar 0 0 (fun _ => 0), [(tt, .inr (8, [.ref ta, .ref td]))], bTown g td tda 0 0 0 20 6 50 0 1 (fun _ _ => 0), [(lt, .inr (2, [.ref ta, .ref ldr]))], bLaw g ldr lda 0 (-1) 0 0 0 (fun _ => 0), bMem g mo qT qL it il ig 0 0 0 fT fL, bTown g it ia 0 0 0 20 6 50 0 1 (fun _ _ => 0), bLaw g il ic 0 (-1) 0 0 0 (fun _ => 0), bLog g ig ir 0 0 (fun _ => 0), bTown g t0 ta0 0 0 0 20 6 50 0 1 (fun _ _ => 0), bLog g l0 la0 0 0 (fun _ => 0), [(fo, .inr (0, [.ref o, .ref lo, .ref od]))], bTown g od ad 0 0 0 20 6 50 0 1 (fun _ _ => 0), bRid g ro af 0 0 (fun _ => 0), bObj g om am 0 0 0 0 0 0 0 (-1) 0 0 0 0, bArr g am (zf [m0, fun _ => 0, fun _ => 0, fun _ => 0, fun _ => 0, fun _ => 0, fun _ => 0, fun _ => 0]), [(oa, .inl (g.2 2, 1, .inr (.inl (fun _ => 0))))]]) := hD
  refine W.widen (k := 247) (n := 14991) (Nat.le_of_ble_eq_true rfl) (Nat.le_of_ble_eq_true rfl) ?_
  refine W.eq (g2 := F0 m 2146 ls [.int 0]) rfl ?_
  refine lv_aload_n hx hb dL_law__2146 rfl (lv_at hl 2 rfl) ?_
  refine mcallV (g := g) (q0 := 0) (ci := 10) (As := []) (rest := [.int 0]) St hK hT hA hP hD hS hl.1 [16, 17] [0, 1, 2, 3, 4, 5, 6, 7, 8, 9, 10, 11, 12, 13, 14, 15, 18] rfl rfl rfl (m_circles l g om am 0 0 0 0 0 0 0 (-1) 0 0 0 0 (zf [m0, fun _ => 0, fun _ => 0, fun _ => 0, fun _ => 0, fun _ => 0, fun _ => 0, fun _ => 0]) (by assumption)) (cwV 0 hts (zgL (zl4 k1483 k1484 k1485 k833) k1115) rfl rfl rfl (by decide +kernel) ⟨Nat.le_of_ble_eq_true rfl, Nat.le_of_ble_eq_true rfl⟩) rfl rfl rfl rfl (Nat.le_of_ble_eq_true rfl) dL_law__2147 ⟨(Nat.le_of_ble_eq_true rfl), (Nat.le_of_ble_eq_true rfl)⟩ (fun u_ H locs hq15 hP hD hS => ?_)
  obtain ⟨th2_2, hi2_3, ac2_4, tp2_5, ba2_6, en2_7, tA2_8, fl2_9, de2_10, iD2_11, iO2_12, tU2_13, q_14⟩ := u_
  have hq15 : th2_2 = 0 ∧ q_14 = 0 := hq15
  have hP : va_P g.1 vwCl (List.flatten [bTape g ta ab 0 0 0 0 0 (-1) (fun _ => 0), bLaw g lo ac 0 (-1) 0 0 0 (fun _ => 0), bLog g go ar 0 0 (fun _ => 0), [(tt, .inr (8, [.ref ta, .ref td]))], bTown g td tda 0 0 0 20 6 50 0 1 (fun _ _ => 0), [(lt, .inr (2, [.ref ta, .ref ldr]))], bLaw g ldr lda 0 (-1) 0 0 0 (fun _ => 0), bMem g mo qT qL it il ig 0 0 0 fT fL, bTown g it ia 0 0 0 20 6 50 0 1 (fun _ _ => 0), bLaw g il ic 0 (-1) 0 0 0 (fun _ => 0), bLog g ig ir 0 0 (fun _ => 0), bTown g t0 ta0 0 0 0 20 6 50 0 1 (fun _ _ => 0), bLog g l0 la0 0 0 (fun _ => 0), [(fo, .inr (0, [.ref o, .ref lo, .ref od]))], bTown g od ad 0 0 0 20 6 50 0 1 (fun _ _ => 0), bRid g ro af 0 0 (fun _ => 0), [(oa, .inl (g.2 2, 1, .inr (.inl (fun _ => 0))))], bObj g om am th2_2 hi2_3 ac2_4 tp2_5 ba2_6 en2_7 tA2_8 fl2_9 de2_10 iD2_11 iO2_12 tU2_13]) H := hP
  have hD : va_D A (List.flatten [bTape g ta ab 0 0 0 0 0 (-1) (fun _ => 0), bLaw g lo ac 0 (-1) 0 0 0 (fun _ => 0), bLog g go ar 0 0 (fun _ => 0), [(tt, .inr (8, [.ref ta, .ref td]))], bTown g td tda 0 0 0 20 6 50 0 1 (fun _ _ => 0), [(lt, .inr (2, [.ref ta, .ref ldr]))], bLaw g ldr lda 0 (-1) 0 0 0 (fun _ => 0), bMem g mo qT qL it il ig 0 0 0 fT fL, bTown g it ia 0 0 0 20 6 50 0 1 (fun _ _ => 0), bLaw g il ic 0 (-1) 0 0 0 (fun _ => 0), bLog g ig ir 0 0 (fun _ => 0), bTown g t0 ta0 0 0 0 20 6 50 0 1 (fun _ _ => 0), bLog g l0 la0 0 0 (fun _ => 0), [(fo, .inr (0, [.ref o, .ref lo, .ref od]))], bTown g od ad 0 0 0 20 6 50 0 1 (fun _ _ => 0), bRid g ro af 0 0 (fun _ => 0), [(oa, .inl (g.2 2, 1, .inr (.inl (fun _ => 0))))], bObj g om am th2_2 hi2_3 ac2_4 tp2_5 ba2_6 en2_7 tA2_8 fl2_9 de2_10 iD2_11 iO2_12 tU2_13]) := hD
  refine W.widen (k := 247) (n := 14991) (Nat.le_of_ble_eq_true rfl) (Nat.le_of_ble_eq_true rfl) ?_
  refine W.eq (g2 := F0 m 2150 ls [.int q_14, .int 0]) rfl ?_
  refine lv_icmp_eq (tgt := 2738) hx hb dL_law__2150 (by decide) (fun _ => ?_) (fun c16 => absurd ((hq15.2).symm) c16)
  refine lv_iinc (v := 6) (lv' := [(4, .int 6), (3, .ref oa), (2, .ref om), (1, .ref x), (0, .ref b)]) hx hb dL_law__2738 hl (k := 0) rfl (by decide) (by decide) rfl (fun ls hl => ?_)
  refine lv_goto (tgt := 23) hx hb dL_law__2741 (by decide) ?_
  refine lv_iload hx hb dL_law__23 (lv_at hl 0 rfl) ?_
  refine lv_aload_n hx hb dL_law__25 rfl (lv_at hl 4 rfl) ?_
  refine va_slen hx hb hX hbl hbA hS dL_law__26 ?_
  refine ztop (r := 6) rfl ?_
  refine lv_bipush (v := 6) hx hb dL_law__27 (by decide) ?_
  refine lv_isub hx hb dL_law__29 ?_
  refine ztop (r := 0) (by decide) ?_
  refine lv_icmp_gt (tgt := 2744) hx hb dL_law__30 (by decide) (fun _ => ?_) (fun c17 => absurd (by decide) c17)
  refine lv_iconst (v := 1) hx hb dL_law__2744 (by decide) ?_
  refine va_forget (fun q hq => by have h9 := hS.2.2 q hq; rw [hAe] at h9; exact h9) ?_
  refine W.widen (k := 600002) (n := 7302232) (Nat.le_of_ble_eq_true rfl) (Nat.le_of_ble_eq_true rfl) ?_
  exact lw_ret hx hb hr hlocks dL_law__2745
set_option maxRecDepth 100000 in
set_option maxHeartbeats 4000000 in
/-- the law: hermits -/
theorem w_35 {p : Program} {e : Env} {s : State} {m : MethodId} {below : List Frame} {meth : Method} {c : Code} (l : Launch) (hfl : l.stackTraces = false) (g : zG) {b : Nat} {xs : Nat → Int32} {A : Nat → Prop} (hAe : A = fun q => s.heap.size ≤ q) (hA : ∀ q, s.heap.size ≤ q → A q) (hbA : ¬ A b) (St : CallFix p m c cL_law_ 7 s #[Value.ref b] zB RL) (hr : meth.sig.returnType = ret) (hlocks : meth.locks = false) (hX : va_X b 6 xs s s.heap) (hbl : b < s.heap.size) (hK : zK g s) (hT : zTh A s) (x : Nat) (ta : Nat) (o : Nat) (lo : Nat) (go : Nat) (tt : Nat) (lt : Nat) (mo : Nat) (fo : Nat) (ro : Nat) (ab : Nat) (ac : Nat) (ar : Nat) (td : Nat) (a : Nat → Nat) (tda : Nat → Nat) (ldr : Nat) (lda : Nat) (qT : Nat) (qL : Nat) (it : Nat) (il : Nat) (ig : Nat) (fT : Nat → Option Nat) (fL : Nat → Option Nat) (ia : Nat → Nat) (ic : Nat) (ir : Nat) (t0 : Nat) (ta0 : Nat → Nat) (l0 : Nat) (la0 : Nat) (od : Nat) (ad : Nat → Nat) (af : Nat) (om : Nat) (am : Nat → Nat) (m0 : Nat → Int32) (oa : Nat) (hT0 : fT 0 = some t0) (hL0 : fL 0 = some l0) (hm : zMo m0) (h8 : m0 8 = 0) (h10 : m0 10 = 1) (H : Heap) (locs : List Loc) (ls : Array Slot) (hP : va_P g.1 vwCl (List.flatten [bDR g x ta o lo go tt lt mo fo ro (-1), bTape g ta ab 0 0 0 0 0 (-1) (fun _ => 0), bTown g o a 0 0 0 20 6 50 0 1 (fun _ _ => 0), bLaw g lo ac 0 (-1) 0 0 0 (fun _ => 0), bLog g go ar 0 0 (fun _ => 0), [(tt, .inr (8, [.ref ta, .ref td]))], bTown g td tda 0 0 0 20 6 50 0 1 (fun _ _ => 0), [(lt, .inr (2, [.ref ta, .ref ldr]))], bLaw g ldr lda 0 (-1) 0 0 0 (fun _ => 0), bMem g mo qT qL it il ig 0 0 0 fT fL, bTown g it ia 0 0 0 20 6 50 0 1 (fun _ _ => 0), bLaw g il ic 0 (-1) 0 0 0 (fun _ => 0), bLog g ig ir 0 0 (fun _ => 0), bTown g t0 ta0 0 0 0 20 6 50 0 1 (fun _ _ => 0), bLog g l0 la0 0 0 (fun _ => 0), [(fo, .inr (0, [.ref o, .ref lo, .ref od]))], bTown g od ad 0 0 0 20 6 50 0 1 (fun _ _ => 0), bRid g ro af 0 0 (fun _ => 0), bObj g om am 0 0 0 0 0 0 0 (-1) 0 0 0 0, bArr g am (zf [m0, fun _ => 0, fun _ => 0, fun _ => 0, fun _ => 0, fun _ => 0, fun _ => 0, fun _ => 0]), [(oa, .inl (g.2 2, 1, .inr (.inl (fun _ => 0))))]]) H) (hD : va_D A (List.flatten [bDR g x ta o lo go tt lt mo fo ro (-1), bTape g ta ab 0 0 0 0 0 (-1) (fun _ => 0), bTown g o a 0 0 0 20 6 50 0 1 (fun _ _ => 0), bLaw g lo ac 0 (-1) 0 0 0 (fun _ => 0), bLog g go ar 0 0 (fun _ => 0), [(tt, .inr (8, [.ref ta, .ref td]))], bTown g td tda 0 0 0 20 6 50 0 1 (fun _ _ => 0), [(lt, .inr (2, [.ref ta, .ref ldr]))], bLaw g ldr lda 0 (-1) 0 0 0 (fun _ => 0), bMem g mo qT qL it il ig 0 0 0 fT fL, bTown g it ia 0 0 0 20 6 50 0 1 (fun _ _ => 0), bLaw g il ic 0 (-1) 0 0 0 (fun _ => 0), bLog g ig ir 0 0 (fun _ => 0), bTown g t0 ta0 0 0 0 20 6 50 0 1 (fun _ _ => 0), bLog g l0 la0 0 0 (fun _ => 0), [(fo, .inr (0, [.ref o, .ref lo, .ref od]))], bTown g od ad 0 0 0 20 6 50 0 1 (fun _ _ => 0), bRid g ro af 0 0 (fun _ => 0), bObj g om am 0 0 0 0 0 0 0 (-1) 0 0 0 0, bArr g am (zf [m0, fun _ => 0, fun _ => 0, fun _ => 0, fun _ => 0, fun _ => 0, fun _ => 0, fun _ => 0]), [(oa, .inl (g.2 2, 1, .inr (.inl (fun _ => 0))))]])) (hS : va_S A s.heap H locs) (hl : lv_has ls 7 [(4, .int 0), (3, .ref oa), (2, .ref om), (1, .ref x), (0, .ref b)]) : W p l e room_1 s m #[Value.ref b] below meth c H locs 247 14991 (lw_Z below #[Value.ref b] s) (F0 m 2155 ls []) := by
  obtain ⟨hx, hb, hml, hown, hts⟩ := id St
  have hz0 : zZ (fun _ => 0) := zZ0
  refine lv_aload_n hx hb dL_law__2155 rfl (lv_at hl 3 rfl) ?_
  refine mcallV (g := g) (q0 := 0) (ci := 9) (As := []) (rest := []) St hK hT hA hP hD hS hl.1 [0, 2] [1, 3, 4, 5, 6, 7, 8, 9, 10, 11, 12, 13, 14, 15, 16, 17, 18, 19, 20] rfl rfl rfl (c_hermits l g x ta o lo go tt lt mo fo ro (-1) a 0 20 6 50 0 1 (fun _ _ => 0) ) (cwV 0 hts (zgL (zl4 k1486 k1487 k1488 k595) k739) rfl rfl rfl (by decide +kernel) ⟨Nat.le_of_ble_eq_true rfl, Nat.le_of_ble_eq_true rfl⟩) rfl rfl rfl rfl (Nat.le_of_ble_eq_true rfl) dL_law__2156 ⟨(Nat.le_of_ble_eq_true rfl), (Nat.le_of_ble_eq_true rfl)⟩ (fun _u H locs hq1 hP hD hS => ?_)
  have hP : va_P g.1 vwCl (List.flatten [bTape g ta ab 0 0 0 0 0 (-1) (fun _ => 0), bLaw g lo ac 0 (-1) 0 0 0 (fun _ => 0), bLog g go ar 0 0 (fun _ => 0), [(tt, .inr (8, [.ref ta, .ref td]))], bTown g td tda 0 0 0 20 6 50 0 1 (fun _ _ => 0), [(lt, .inr (2, [.ref ta, .ref ldr]))], bLaw g ldr lda 0 (-1) 0 0 0 (fun _ => 0), bMem g mo qT qL it il ig 0 0 0 fT fL, bTown g it ia 0 0 0 20 6 50 0 1 (fun _ _ => 0), bLaw g il ic 0 (-1) 0 0 0 (fun _ => 0), bLog g ig ir 0 0 (fun _ => 0), bTown g t0 ta0 0 0 0 20 6 50 0 1 (fun _ _ => 0), bLog g l0 la0 0 0 (fun _ => 0), [(fo, .inr (0, [.ref o, .ref lo, .ref od]))], bTown g od ad 0 0 0 20 6 50 0 1 (fun _ _ => 0), bRid g ro af 0 0 (fun _ => 0), bObj g om am 0 0 0 0 0 0 0 (-1) 0 0 0 0, bArr g am (zf [m0, fun _ => 0, fun _ => 0, fun _ => 0, fun _ => 0, fun _ => 0, fun _ => 0, fun _ => 0]), [(oa, .inl (g.2 2, 1, .inr (.inl (fun _ => 0))))]]) H := hP
  have hD : va_D A (List.flatten [bTape g ta ab 0 0 0 0 0 (-1) (fun _ => 0), bLaw g lo ac 0 (-1) 0 0 0 (fun _ => 0), bLog g go ar 0 0 (fun _ => 0), [(tt, .inr (8, [.ref ta, .ref td]))], bTown g td tda 0 0 0 20 6 50 0 1 (fun _ _ => 0), [(lt, .inr (2, [.ref ta, .ref ldr]))], bLaw g ldr lda 0 (-1) 0 0 0 (fun _ => 0), bMem g mo qT qL it il ig 0 0 0 fT fL, bTown g it ia 0 0 0 20 6 50 0 1 (fun _ _ => 0), bLaw g il ic 0 (-1) 0 0 0 (fun _ => 0), bLog g ig ir 0 0 (fun _ => 0), bTown g t0 ta0 0 0 0 20 6 50 0 1 (fun _ _ => 0), bLog g l0 la0 0 0 (fun _ => 0), [(fo, .inr (0, [.ref o, .ref lo, .ref od]))], bTown g od ad 0 0 0 20 6 50 0 1 (fun _ _ => 0), bRid g ro af 0 0 (fun _ => 0), bObj g om am 0 0 0 0 0 0 0 (-1) 0 0 0 0, bArr g am (zf [m0, fun _ => 0, fun _ => 0, fun _ => 0, fun _ => 0, fun _ => 0, fun _ => 0, fun _ => 0]), [(oa, .inl (g.2 2, 1, .inr (.inl (fun _ => 0))))]]) := hD
  refine W.widen (k := 247) (n := 14991) (Nat.le_of_ble_eq_true rfl) (Nat.le_of_ble_eq_true rfl) ?_
  refine W.eq (g2 := F0 m 2159 ls [.int 0]) rfl ?_
  refine lv_aload_n hx hb dL_law__2159 rfl (lv_at hl 2 rfl) ?_
  refine mcallV (g := g) (q0 := 0) (ci := 10) (As := []) (rest := [.int 0]) St hK hT hA hP hD hS hl.1 [16, 17] [0, 1, 2, 3, 4, 5, 6, 7, 8, 9, 10, 11, 12, 13, 14, 15, 18] rfl rfl rfl (m_hermits l g om am 0 0 0 0 0 0 0 (-1) 0 0 0 0 (zf [m0, fun _ => 0, fun _ => 0, fun _ => 0, fun _ => 0, fun _ => 0, fun _ => 0, fun _ => 0]) (by assumption)) (cwV 0 hts (zgL (zl4 k1489 k1490 k1491 k833) k1120) rfl rfl rfl (by decide +kernel) ⟨Nat.le_of_ble_eq_true rfl, Nat.le_of_ble_eq_true rfl⟩) rfl rfl rfl rfl (Nat.le_of_ble_eq_true rfl) dL_law__2160 ⟨(Nat.le_of_ble_eq_true rfl), (Nat.le_of_ble_eq_true rfl)⟩ (fun u_ H locs hq15 hP hD hS => ?_)
  obtain ⟨th2_2, hi2_3, ac2_4, tp2_5, ba2_6, en2_7, tA2_8, fl2_9, de2_10, iD2_11, iO2_12, tU2_13, q_14⟩ := u_
  have hq15 : th2_2 = 0 ∧ q_14 = 0 := hq15
  have hP : va_P g.1 vwCl (List.flatten [bTape g ta ab 0 0 0 0 0 (-1) (fun _ => 0), bLaw g lo ac 0 (-1) 0 0 0 (fun _ => 0), bLog g go ar 0 0 (fun _ => 0), [(tt, .inr (8, [.ref ta, .ref td]))], bTown g td tda 0 0 0 20 6 50 0 1 (fun _ _ => 0), [(lt, .inr (2, [.ref ta, .ref ldr]))], bLaw g ldr lda 0 (-1) 0 0 0 (fun _ => 0), bMem g mo qT qL it il ig 0 0 0 fT fL, bTown g it ia 0 0 0 20 6 50 0 1 (fun _ _ => 0), bLaw g il ic 0 (-1) 0 0 0 (fun _ => 0), bLog g ig ir 0 0 (fun _ => 0), bTown g t0 ta0 0 0 0 20 6 50 0 1 (fun _ _ => 0), bLog g l0 la0 0 0 (fun _ => 0), [(fo, .inr (0, [.ref o, .ref lo, .ref od]))], bTown g od ad 0 0 0 20 6 50 0 1 (fun _ _ => 0), bRid g ro af 0 0 (fun _ => 0), [(oa, .inl (g.2 2, 1, .inr (.inl (fun _ => 0))))], bObj g om am th2_2 hi2_3 ac2_4 tp2_5 ba2_6 en2_7 tA2_8 fl2_9 de2_10 iD2_11 iO2_12 tU2_13]) H := hP
  have hD : va_D A (List.flatten [bTape g ta ab 0 0 0 0 0 (-1) (fun _ => 0), bLaw g lo ac 0 (-1) 0 0 0 (fun _ => 0), bLog g go ar 0 0 (fun _ => 0), [(tt, .inr (8, [.ref ta, .ref td]))], bTown g td tda 0 0 0 20 6 50 0 1 (fun _ _ => 0), [(lt, .inr (2, [.ref ta, .ref ldr]))], bLaw g ldr lda 0 (-1) 0 0 0 (fun _ => 0), bMem g mo qT qL it il ig 0 0 0 fT fL, bTown g it ia 0 0 0 20 6 50 0 1 (fun _ _ => 0), bLaw g il ic 0 (-1) 0 0 0 (fun _ => 0), bLog g ig ir 0 0 (fun _ => 0), bTown g t0 ta0 0 0 0 20 6 50 0 1 (fun _ _ => 0), bLog g l0 la0 0 0 (fun _ => 0), [(fo, .inr (0, [.ref o, .ref lo, .ref od]))], bTown g od ad 0 0 0 20 6 50 0 1 (fun _ _ => 0), bRid g ro af 0 0 (fun _ => 0), [(oa, .inl (g.2 2, 1, .inr (.inl (fun _ => 0))))], bObj g om am th2_2 hi2_3 ac2_4 tp2_5 ba2_6 en2_7 tA2_8 fl2_9 de2_10 iD2_11 iO2_12 tU2_13]) := hD
  refine W.widen (k := 247) (n := 14991) (Nat.le_of_ble_eq_true rfl) (Nat.le_of_ble_eq_true rfl) ?_
  refine W.eq (g2 := F0 m 2163 ls [.int q_14, .int 0]) rfl ?_
  refine lv_icmp_eq (tgt := 2738) hx hb dL_law__2163 (by decide) (fun _ => ?_) (fun c16 => absurd ((hq15.2).symm) c16)
  refine lv_iinc (v := 6) (lv' := [(4, .int 6), (3, .ref oa), (2, .ref om), (1, .ref x), (0, .ref b)]) hx hb dL_law__2738 hl (k := 0) rfl (by decide) (by decide) rfl (fun ls hl => ?_)
  refine lv_goto (tgt := 23) hx hb dL_law__2741 (by decide) ?_
  refine lv_iload hx hb dL_law__23 (lv_at hl 0 rfl) ?_
  refine lv_aload_n hx hb dL_law__25 rfl (lv_at hl 4 rfl) ?_
  refine va_slen hx hb hX hbl hbA hS dL_law__26 ?_
  refine ztop (r := 6) rfl ?_
  refine lv_bipush (v := 6) hx hb dL_law__27 (by decide) ?_
  refine lv_isub hx hb dL_law__29 ?_
  refine ztop (r := 0) (by decide) ?_
  refine lv_icmp_gt (tgt := 2744) hx hb dL_law__30 (by decide) (fun _ => ?_) (fun c17 => absurd (by decide) c17)
  refine lv_iconst (v := 1) hx hb dL_law__2744 (by decide) ?_
  refine va_forget (fun q hq => by have h9 := hS.2.2 q hq; rw [hAe] at h9; exact h9) ?_
  refine W.widen (k := 600002) (n := 7302232) (Nat.le_of_ble_eq_true rfl) (Nat.le_of_ble_eq_true rfl) ?_
  exact lw_ret hx hb hr hlocks dL_law__2745
set_option maxRecDepth 100000 in
set_option maxHeartbeats 4000000 in
/-- the law: rests -/
theorem w_36 {p : Program} {e : Env} {s : State} {m : MethodId} {below : List Frame} {meth : Method} {c : Code} (l : Launch) (hfl : l.stackTraces = false) (g : zG) {b : Nat} {xs : Nat → Int32} {A : Nat → Prop} (hAe : A = fun q => s.heap.size ≤ q) (hA : ∀ q, s.heap.size ≤ q → A q) (hbA : ¬ A b) (St : CallFix p m c cL_law_ 7 s #[Value.ref b] zB RL) (hr : meth.sig.returnType = ret) (hlocks : meth.locks = false) (hX : va_X b 6 xs s s.heap) (hbl : b < s.heap.size) (hK : zK g s) (hT : zTh A s) (x : Nat) (ta : Nat) (o : Nat) (lo : Nat) (go : Nat) (tt : Nat) (lt : Nat) (mo : Nat) (fo : Nat) (ro : Nat) (ab : Nat) (ac : Nat) (ar : Nat) (td : Nat) (a : Nat → Nat) (tda : Nat → Nat) (ldr : Nat) (lda : Nat) (qT : Nat) (qL : Nat) (it : Nat) (il : Nat) (ig : Nat) (fT : Nat → Option Nat) (fL : Nat → Option Nat) (ia : Nat → Nat) (ic : Nat) (ir : Nat) (t0 : Nat) (ta0 : Nat → Nat) (l0 : Nat) (la0 : Nat) (od : Nat) (ad : Nat → Nat) (af : Nat) (om : Nat) (am : Nat → Nat) (m0 : Nat → Int32) (oa : Nat) (hT0 : fT 0 = some t0) (hL0 : fL 0 = some l0) (hm : zMo m0) (h8 : m0 8 = 0) (h10 : m0 10 = 1) (H : Heap) (locs : List Loc) (ls : Array Slot) (hP : va_P g.1 vwCl (List.flatten [bDR g x ta o lo go tt lt mo fo ro (-1), bTape g ta ab 0 0 0 0 0 (-1) (fun _ => 0), bTown g o a 0 0 0 20 6 50 0 1 (fun _ _ => 0), bLaw g lo ac 0 (-1) 0 0 0 (fun _ => 0), bLog g go ar 0 0 (fun _ => 0), [(tt, .inr (8, [.ref ta, .ref td]))], bTown g td tda 0 0 0 20 6 50 0 1 (fun _ _ => 0), [(lt, .inr (2, [.ref ta, .ref ldr]))], bLaw g ldr lda 0 (-1) 0 0 0 (fun _ => 0), bMem g mo qT qL it il ig 0 0 0 fT fL, bTown g it ia 0 0 0 20 6 50 0 1 (fun _ _ => 0), bLaw g il ic 0 (-1) 0 0 0 (fun _ => 0), bLog g ig ir 0 0 (fun _ => 0), bTown g t0 ta0 0 0 0 20 6 50 0 1 (fun _ _ => 0), bLog g l0 la0 0 0 (fun _ => 0), [(fo, .inr (0, [.ref o, .ref lo, .ref od]))], bTown g od ad 0 0 0 20 6 50 0 1 (fun _ _ => 0), bRid g ro af 0 0 (fun _ => 0), bObj g om am 0 0 0 0 0 0 0 (-1) 0 0 0 0, bArr g am (zf [m0, fun _ => 0, fun _ => 0, fun _ => 0, fun _ => 0, fun _ => 0, fun _ => 0, fun _ => 0]), [(oa, .inl (g.2 2, 1, .inr (.inl (fun _ => 0))))]]) H) (hD : va_D A (List.flatten [bDR g x ta o lo go tt lt mo fo ro (-1), bTape g ta ab 0 0 0 0 0 (-1) (fun _ => 0), bTown g o a 0 0 0 20 6 50 0 1 (fun _ _ => 0), bLaw g lo ac 0 (-1) 0 0 0 (fun _ => 0), bLog g go ar 0 0 (fun _ => 0), [(tt, .inr (8, [.ref ta, .ref td]))], bTown g td tda 0 0 0 20 6 50 0 1 (fun _ _ => 0), [(lt, .inr (2, [.ref ta, .ref ldr]))], bLaw g ldr lda 0 (-1) 0 0 0 (fun _ => 0), bMem g mo qT qL it il ig 0 0 0 fT fL, bTown g it ia 0 0 0 20 6 50 0 1 (fun _ _ => 0), bLaw g il ic 0 (-1) 0 0 0 (fun _ => 0), bLog g ig ir 0 0 (fun _ => 0), bTown g t0 ta0 0 0 0 20 6 50 0 1 (fun _ _ => 0), bLog g l0 la0 0 0 (fun _ => 0), [(fo, .inr (0, [.ref o, .ref lo, .ref od]))], bTown g od ad 0 0 0 20 6 50 0 1 (fun _ _ => 0), bRid g ro af 0 0 (fun _ => 0), bObj g om am 0 0 0 0 0 0 0 (-1) 0 0 0 0, bArr g am (zf [m0, fun _ => 0, fun _ => 0, fun _ => 0, fun _ => 0, fun _ => 0, fun _ => 0, fun _ => 0]), [(oa, .inl (g.2 2, 1, .inr (.inl (fun _ => 0))))]])) (hS : va_S A s.heap H locs) (hl : lv_has ls 7 [(4, .int 0), (3, .ref oa), (2, .ref om), (1, .ref x), (0, .ref b)]) : W p l e room_1 s m #[Value.ref b] below meth c H locs 247 14991 (lw_Z below #[Value.ref b] s) (F0 m 2168 ls []) := by
  obtain ⟨hx, hb, hml, hown, hts⟩ := id St
  have hz0 : zZ (fun _ => 0) := zZ0
  refine lv_aload_n hx hb dL_law__2168 rfl (lv_at hl 3 rfl) ?_
  refine lv_aload_n hx hb dL_law__2169 rfl (lv_at hl 4 rfl) ?_
  refine lv_iload hx hb dL_law__2170 (lv_at hl 0 rfl) ?_
  refine lv_iconst (v := 1) hx hb dL_law__2172 (by decide) ?_
  refine lv_iadd hx hb dL_law__2173 ?_
  refine ztop (r := 1) (by decide) ?_
  refine va_sld hx hb hX hbl hbA hS (zin rfl) dL_law__2174 ?_
  refine ztop (r := xs 1) rfl ?_
  refine lv_aload_n hx hb dL_law__2175 rfl (lv_at hl 4 rfl) ?_
  refine lv_iload hx hb dL_law__2176 (lv_at hl 0 rfl) ?_
  refine lv_iconst (v := 2) hx hb dL_law__2178 (by decide) ?_
  refine lv_iadd hx hb dL_law__2179 ?_
  refine ztop (r := 2) (by decide) ?_
  refine va_sld hx hb hX hbl hbA hS (zin rfl) dL_law__2180 ?_
  refine ztop (r := xs 2) rfl ?_
  refine lv_aload_n hx hb dL_law__2181 rfl (lv_at hl 1 rfl) ?_
  refine xcallSX (g := g) (As := [.ref x, .int (xs 1), .int (xs 2), .ref oa]) (rest := []) St hK hT hA hP hD hS hl.1 [0, 2, 20] [1, 3, 4, 5, 6, 7, 8, 9, 10, 11, 12, 13, 14, 15, 16, 17, 18, 19] rfl rfl rfl (l_rests l hfl g x ta o lo go tt lt mo fo ro (-1) o a 0 20 6 50 0 1 (fun _ _ => 0) (xs 1) (xs 2) oa (fun _ => 0) ) (vx_cwSW 4 hts (zgL (zl3 k1492 k1493 k1313) k1269) rfl rfl rfl (by decide +kernel) ⟨Nat.le_of_ble_eq_true rfl, Nat.le_of_ble_eq_true rfl⟩) rfl rfl (Nat.le_of_ble_eq_true rfl) dL_law__2182 ⟨(Nat.le_of_ble_eq_true rfl), (Nat.le_of_ble_eq_true rfl)⟩ (fun E ce q9 u9 H locs hpx hP hD hS hce hcv hcl => hpx.elim) (fun u_ H locs hq3 hP hD hS => ?_)
  obtain ⟨r_1, fz2_2⟩ := u_
  have hq3 : r_1 = 1 := hq3
  have hP : va_P g.1 vwCl (List.flatten [bTape g ta ab 0 0 0 0 0 (-1) (fun _ => 0), bLaw g lo ac 0 (-1) 0 0 0 (fun _ => 0), bLog g go ar 0 0 (fun _ => 0), [(tt, .inr (8, [.ref ta, .ref td]))], bTown g td tda 0 0 0 20 6 50 0 1 (fun _ _ => 0), [(lt, .inr (2, [.ref ta, .ref ldr]))], bLaw g ldr lda 0 (-1) 0 0 0 (fun _ => 0), bMem g mo qT qL it il ig 0 0 0 fT fL, bTown g it ia 0 0 0 20 6 50 0 1 (fun _ _ => 0), bLaw g il ic 0 (-1) 0 0 0 (fun _ => 0), bLog g ig ir 0 0 (fun _ => 0), bTown g t0 ta0 0 0 0 20 6 50 0 1 (fun _ _ => 0), bLog g l0 la0 0 0 (fun _ => 0), [(fo, .inr (0, [.ref o, .ref lo, .ref od]))], bTown g od ad 0 0 0 20 6 50 0 1 (fun _ _ => 0), bRid g ro af 0 0 (fun _ => 0), bObj g om am 0 0 0 0 0 0 0 (-1) 0 0 0 0, bArr g am (zf [m0, fun _ => 0, fun _ => 0, fun _ => 0, fun _ => 0, fun _ => 0, fun _ => 0, fun _ => 0]), [(oa, .inl (g.2 2, 1, .inr (.inl fz2_2)))]]) H := hP
  have hD : va_D A (List.flatten [bTape g ta ab 0 0 0 0 0 (-1) (fun _ => 0), bLaw g lo ac 0 (-1) 0 0 0 (fun _ => 0), bLog g go ar 0 0 (fun _ => 0), [(tt, .inr (8, [.ref ta, .ref td]))], bTown g td tda 0 0 0 20 6 50 0 1 (fun _ _ => 0), [(lt, .inr (2, [.ref ta, .ref ldr]))], bLaw g ldr lda 0 (-1) 0 0 0 (fun _ => 0), bMem g mo qT qL it il ig 0 0 0 fT fL, bTown g it ia 0 0 0 20 6 50 0 1 (fun _ _ => 0), bLaw g il ic 0 (-1) 0 0 0 (fun _ => 0), bLog g ig ir 0 0 (fun _ => 0), bTown g t0 ta0 0 0 0 20 6 50 0 1 (fun _ _ => 0), bLog g l0 la0 0 0 (fun _ => 0), [(fo, .inr (0, [.ref o, .ref lo, .ref od]))], bTown g od ad 0 0 0 20 6 50 0 1 (fun _ _ => 0), bRid g ro af 0 0 (fun _ => 0), bObj g om am 0 0 0 0 0 0 0 (-1) 0 0 0 0, bArr g am (zf [m0, fun _ => 0, fun _ => 0, fun _ => 0, fun _ => 0, fun _ => 0, fun _ => 0, fun _ => 0]), [(oa, .inl (g.2 2, 1, .inr (.inl fz2_2)))]]) := hD
  refine W.widen (k := 248) (n := 14997) (Nat.le_of_ble_eq_true rfl) (Nat.le_of_ble_eq_true rfl) ?_
  refine W.eq (g2 := F0 m 2185 ls [.int r_1]) rfl ?_
  subst hq3
  refine lv_istore (lv' := [(5, .int 1), (4, .int 0), (3, .ref oa), (2, .ref om), (1, .ref x), (0, .ref b)]) hx hb dL_law__2185 hl (by decide) rfl (fun ls hl => ?_)
  refine lv_aload_n hx hb dL_law__2187 rfl (lv_at hl 3 rfl) ?_
  refine lv_aload_n hx hb dL_law__2188 rfl (lv_at hl 5 rfl) ?_
  refine lv_iload hx hb dL_law__2189 (lv_at hl 1 rfl) ?_
  refine lv_iconst (v := 1) hx hb dL_law__2191 (by decide) ?_
  refine lv_iadd hx hb dL_law__2192 ?_
  refine ztop (r := 1) (by decide) ?_
  refine va_sld hx hb hX hbl hbA hS (zin rfl) dL_law__2193 ?_
  refine ztop (r := xs 1) rfl ?_
  refine lv_aload_n hx hb dL_law__2194 rfl (lv_at hl 5 rfl) ?_
  refine lv_iload hx hb dL_law__2195 (lv_at hl 1 rfl) ?_
  refine lv_iconst (v := 2) hx hb dL_law__2197 (by decide) ?_
  refine lv_iadd hx hb dL_law__2198 ?_
  refine ztop (r := 2) (by decide) ?_
  refine va_sld hx hb hX hbl hbA hS (zin rfl) dL_law__2199 ?_
  refine ztop (r := xs 2) rfl ?_
  refine mcallV (g := g) (q0 := 0) (ci := 10) (As := [.int (xs 1), .int (xs 2)]) (rest := []) St hK hT hA hP hD hS hl.1 [16, 17] [0, 1, 2, 3, 4, 5, 6, 7, 8, 9, 10, 11, 12, 13, 14, 15, 18] rfl rfl rfl (m_rests l g om am 0 0 0 0 0 0 0 (-1) 0 0 0 0 (zf [m0, fun _ => 0, fun _ => 0, fun _ => 0, fun _ => 0, fun _ => 0, fun _ => 0, fun _ => 0]) (xs 1) (xs 2) (by assumption)) (cwV 2 hts (zgL (zl4 k1494 k1495 k1496 k833) k1121) rfl rfl rfl (by decide +kernel) ⟨Nat.le_of_ble_eq_true rfl, Nat.le_of_ble_eq_true rfl⟩) rfl rfl rfl rfl (Nat.le_of_ble_eq_true rfl) dL_law__2200 ⟨(Nat.le_of_ble_eq_true rfl), (Nat.le_of_ble_eq_true rfl)⟩ (fun u_ H locs hq17 hP hD hS => ?_)
  obtain ⟨th2_4, hi2_5, ac2_6, tp2_7, ba2_8, en2_9, tA2_10, fl2_11, de2_12, iD2_13, iO2_14, tU2_15, q_16⟩ := u_
  have hq17 : th2_4 = 1 := hq17
  have hP : va_P g.1 vwCl (List.flatten [bTape g ta ab 0 0 0 0 0 (-1) (fun _ => 0), bLaw g lo ac 0 (-1) 0 0 0 (fun _ => 0), bLog g go ar 0 0 (fun _ => 0), [(tt, .inr (8, [.ref ta, .ref td]))], bTown g td tda 0 0 0 20 6 50 0 1 (fun _ _ => 0), [(lt, .inr (2, [.ref ta, .ref ldr]))], bLaw g ldr lda 0 (-1) 0 0 0 (fun _ => 0), bMem g mo qT qL it il ig 0 0 0 fT fL, bTown g it ia 0 0 0 20 6 50 0 1 (fun _ _ => 0), bLaw g il ic 0 (-1) 0 0 0 (fun _ => 0), bLog g ig ir 0 0 (fun _ => 0), bTown g t0 ta0 0 0 0 20 6 50 0 1 (fun _ _ => 0), bLog g l0 la0 0 0 (fun _ => 0), [(fo, .inr (0, [.ref o, .ref lo, .ref od]))], bTown g od ad 0 0 0 20 6 50 0 1 (fun _ _ => 0), bRid g ro af 0 0 (fun _ => 0), [(oa, .inl (g.2 2, 1, .inr (.inl fz2_2)))], bObj g om am th2_4 hi2_5 ac2_6 tp2_7 ba2_8 en2_9 tA2_10 fl2_11 de2_12 iD2_13 iO2_14 tU2_15]) H := hP
  have hD : va_D A (List.flatten [bTape g ta ab 0 0 0 0 0 (-1) (fun _ => 0), bLaw g lo ac 0 (-1) 0 0 0 (fun _ => 0), bLog g go ar 0 0 (fun _ => 0), [(tt, .inr (8, [.ref ta, .ref td]))], bTown g td tda 0 0 0 20 6 50 0 1 (fun _ _ => 0), [(lt, .inr (2, [.ref ta, .ref ldr]))], bLaw g ldr lda 0 (-1) 0 0 0 (fun _ => 0), bMem g mo qT qL it il ig 0 0 0 fT fL, bTown g it ia 0 0 0 20 6 50 0 1 (fun _ _ => 0), bLaw g il ic 0 (-1) 0 0 0 (fun _ => 0), bLog g ig ir 0 0 (fun _ => 0), bTown g t0 ta0 0 0 0 20 6 50 0 1 (fun _ _ => 0), bLog g l0 la0 0 0 (fun _ => 0), [(fo, .inr (0, [.ref o, .ref lo, .ref od]))], bTown g od ad 0 0 0 20 6 50 0 1 (fun _ _ => 0), bRid g ro af 0 0 (fun _ => 0), [(oa, .inl (g.2 2, 1, .inr (.inl fz2_2)))], bObj g om am th2_4 hi2_5 ac2_6 tp2_7 ba2_8 en2_9 tA2_10 fl2_11 de2_12 iD2_13 iO2_14 tU2_15]) := hD
  refine W.widen (k := 248) (n := 14997) (Nat.le_of_ble_eq_true rfl) (Nat.le_of_ble_eq_true rfl) ?_
  refine W.eq (g2 := F0 m 2203 ls [.int q_16]) rfl ?_
  subst hq17
  refine lv_istore (lv' := [(6, .int q_16), (5, .int 1), (4, .int 0), (3, .ref oa), (2, .ref om), (1, .ref x), (0, .ref b)]) hx hb dL_law__2203 hl (by decide) rfl (fun ls hl => ?_)
  refine lv_aload_n hx hb dL_law__2205 rfl (lv_at hl 4 rfl) ?_
  refine mcallV (g := g) (q0 := 0) (ci := 10) (As := []) (rest := []) St hK hT hA hP hD hS hl.1 [17] [0, 1, 2, 3, 4, 5, 6, 7, 8, 9, 10, 11, 12, 13, 14, 15, 16] rfl rfl rfl (m_thrown l g om am 1 hi2_5 ac2_6 tp2_7 ba2_8 en2_9 tA2_10 fl2_11 de2_12 iD2_13 iO2_14 tU2_15 ) (cwV 0 hts (zgL (zl4 k1317 k1318 k1319 k833) k824) rfl rfl rfl (by decide +kernel) ⟨Nat.le_of_ble_eq_true rfl, Nat.le_of_ble_eq_true rfl⟩) rfl rfl rfl rfl (Nat.le_of_ble_eq_true rfl) dL_law__2206 ⟨(Nat.le_of_ble_eq_true rfl), (Nat.le_of_ble_eq_true rfl)⟩ (fun _u H locs hq18 hP hD hS => ?_)
  have hP : va_P g.1 vwCl (List.flatten [bTape g ta ab 0 0 0 0 0 (-1) (fun _ => 0), bLaw g lo ac 0 (-1) 0 0 0 (fun _ => 0), bLog g go ar 0 0 (fun _ => 0), [(tt, .inr (8, [.ref ta, .ref td]))], bTown g td tda 0 0 0 20 6 50 0 1 (fun _ _ => 0), [(lt, .inr (2, [.ref ta, .ref ldr]))], bLaw g ldr lda 0 (-1) 0 0 0 (fun _ => 0), bMem g mo qT qL it il ig 0 0 0 fT fL, bTown g it ia 0 0 0 20 6 50 0 1 (fun _ _ => 0), bLaw g il ic 0 (-1) 0 0 0 (fun _ => 0), bLog g ig ir 0 0 (fun _ => 0), bTown g t0 ta0 0 0 0 20 6 50 0 1 (fun _ _ => 0), bLog g l0 la0 0 0 (fun _ => 0), [(fo, .inr (0, [.ref o, .ref lo, .ref od]))], bTown g od ad 0 0 0 20 6 50 0 1 (fun _ _ => 0), bRid g ro af 0 0 (fun _ => 0), [(oa, .inl (g.2 2, 1, .inr (.inl fz2_2)))], bObj g om am 1 hi2_5 ac2_6 tp2_7 ba2_8 en2_9 tA2_10 fl2_11 de2_12 iD2_13 iO2_14 tU2_15]) H := hP
  have hD : va_D A (List.flatten [bTape g ta ab 0 0 0 0 0 (-1) (fun _ => 0), bLaw g lo ac 0 (-1) 0 0 0 (fun _ => 0), bLog g go ar 0 0 (fun _ => 0), [(tt, .inr (8, [.ref ta, .ref td]))], bTown g td tda 0 0 0 20 6 50 0 1 (fun _ _ => 0), [(lt, .inr (2, [.ref ta, .ref ldr]))], bLaw g ldr lda 0 (-1) 0 0 0 (fun _ => 0), bMem g mo qT qL it il ig 0 0 0 fT fL, bTown g it ia 0 0 0 20 6 50 0 1 (fun _ _ => 0), bLaw g il ic 0 (-1) 0 0 0 (fun _ => 0), bLog g ig ir 0 0 (fun _ => 0), bTown g t0 ta0 0 0 0 20 6 50 0 1 (fun _ _ => 0), bLog g l0 la0 0 0 (fun _ => 0), [(fo, .inr (0, [.ref o, .ref lo, .ref od]))], bTown g od ad 0 0 0 20 6 50 0 1 (fun _ _ => 0), bRid g ro af 0 0 (fun _ => 0), [(oa, .inl (g.2 2, 1, .inr (.inl fz2_2)))], bObj g om am 1 hi2_5 ac2_6 tp2_7 ba2_8 en2_9 tA2_10 fl2_11 de2_12 iD2_13 iO2_14 tU2_15]) := hD
  refine W.widen (k := 248) (n := 14997) (Nat.le_of_ble_eq_true rfl) (Nat.le_of_ble_eq_true rfl) ?_
  refine W.eq (g2 := F0 m 2209 ls [.int 1]) rfl ?_
  refine lv_iload hx hb dL_law__2209 (lv_at hl 1 rfl) ?_
  refine lv_icmp_eq (tgt := 2216) hx hb dL_law__2211 (by decide) (fun _ => ?_) (fun c19 => absurd (by decide) c19)
  refine lv_iload hx hb dL_law__2216 (lv_at hl 1 rfl) ?_
  refine lv_if_ne (tgt := 2233) hx hb dL_law__2218 (by decide) (fun _ => ?_) (fun c20 => absurd c20 (by decide))
  refine lv_goto (tgt := 2738) hx hb dL_law__2233 (by decide) ?_
  refine lv_iinc (v := 6) (lv' := [(4, .int 6), (6, .int q_16), (5, .int 1), (3, .ref oa), (2, .ref om), (1, .ref x), (0, .ref b)]) hx hb dL_law__2738 hl (k := 2) rfl (by decide) (by decide) rfl (fun ls hl => ?_)
  refine lv_goto (tgt := 23) hx hb dL_law__2741 (by decide) ?_
  refine lv_iload hx hb dL_law__23 (lv_at hl 0 rfl) ?_
  refine lv_aload_n hx hb dL_law__25 rfl (lv_at hl 6 rfl) ?_
  refine va_slen hx hb hX hbl hbA hS dL_law__26 ?_
  refine ztop (r := 6) rfl ?_
  refine lv_bipush (v := 6) hx hb dL_law__27 (by decide) ?_
  refine lv_isub hx hb dL_law__29 ?_
  refine ztop (r := 0) (by decide) ?_
  refine lv_icmp_gt (tgt := 2744) hx hb dL_law__30 (by decide) (fun _ => ?_) (fun c21 => absurd (by decide) c21)
  refine lv_iconst (v := 1) hx hb dL_law__2744 (by decide) ?_
  refine va_forget (fun q hq => by have h9 := hS.2.2 q hq; rw [hAe] at h9; exact h9) ?_
  refine W.widen (k := 600002) (n := 7302232) (Nat.le_of_ble_eq_true rfl) (Nat.le_of_ble_eq_true rfl) ?_
  exact lw_ret hx hb hr hlocks dL_law__2745
set_option maxRecDepth 100000 in
set_option maxHeartbeats 4000000 in
/-- the law: richest -/
theorem w_37 {p : Program} {e : Env} {s : State} {m : MethodId} {below : List Frame} {meth : Method} {c : Code} (l : Launch) (hfl : l.stackTraces = false) (g : zG) {b : Nat} {xs : Nat → Int32} {A : Nat → Prop} (hAe : A = fun q => s.heap.size ≤ q) (hA : ∀ q, s.heap.size ≤ q → A q) (hbA : ¬ A b) (St : CallFix p m c cL_law_ 7 s #[Value.ref b] zB RL) (hr : meth.sig.returnType = ret) (hlocks : meth.locks = false) (hX : va_X b 6 xs s s.heap) (hbl : b < s.heap.size) (hK : zK g s) (hT : zTh A s) (x : Nat) (ta : Nat) (o : Nat) (lo : Nat) (go : Nat) (tt : Nat) (lt : Nat) (mo : Nat) (fo : Nat) (ro : Nat) (ab : Nat) (ac : Nat) (ar : Nat) (td : Nat) (a : Nat → Nat) (tda : Nat → Nat) (ldr : Nat) (lda : Nat) (qT : Nat) (qL : Nat) (it : Nat) (il : Nat) (ig : Nat) (fT : Nat → Option Nat) (fL : Nat → Option Nat) (ia : Nat → Nat) (ic : Nat) (ir : Nat) (t0 : Nat) (ta0 : Nat → Nat) (l0 : Nat) (la0 : Nat) (od : Nat) (ad : Nat → Nat) (af : Nat) (om : Nat) (am : Nat → Nat) (m0 : Nat → Int32) (oa : Nat) (hT0 : fT 0 = some t0) (hL0 : fL 0 = some l0) (hm : zMo m0) (h8 : m0 8 = 0) (h10 : m0 10 = 1) (H : Heap) (locs : List Loc) (ls : Array Slot) (hP : va_P g.1 vwCl (List.flatten [bDR g x ta o lo go tt lt mo fo ro (-1), bTape g ta ab 0 0 0 0 0 (-1) (fun _ => 0), bTown g o a 0 0 0 20 6 50 0 1 (fun _ _ => 0), bLaw g lo ac 0 (-1) 0 0 0 (fun _ => 0), bLog g go ar 0 0 (fun _ => 0), [(tt, .inr (8, [.ref ta, .ref td]))], bTown g td tda 0 0 0 20 6 50 0 1 (fun _ _ => 0), [(lt, .inr (2, [.ref ta, .ref ldr]))], bLaw g ldr lda 0 (-1) 0 0 0 (fun _ => 0), bMem g mo qT qL it il ig 0 0 0 fT fL, bTown g it ia 0 0 0 20 6 50 0 1 (fun _ _ => 0), bLaw g il ic 0 (-1) 0 0 0 (fun _ => 0), bLog g ig ir 0 0 (fun _ => 0), bTown g t0 ta0 0 0 0 20 6 50 0 1 (fun _ _ => 0), bLog g l0 la0 0 0 (fun _ => 0), [(fo, .inr (0, [.ref o, .ref lo, .ref od]))], bTown g od ad 0 0 0 20 6 50 0 1 (fun _ _ => 0), bRid g ro af 0 0 (fun _ => 0), bObj g om am 0 0 0 0 0 0 0 (-1) 0 0 0 0, bArr g am (zf [m0, fun _ => 0, fun _ => 0, fun _ => 0, fun _ => 0, fun _ => 0, fun _ => 0, fun _ => 0]), [(oa, .inl (g.2 2, 1, .inr (.inl (fun _ => 0))))]]) H) (hD : va_D A (List.flatten [bDR g x ta o lo go tt lt mo fo ro (-1), bTape g ta ab 0 0 0 0 0 (-1) (fun _ => 0), bTown g o a 0 0 0 20 6 50 0 1 (fun _ _ => 0), bLaw g lo ac 0 (-1) 0 0 0 (fun _ => 0), bLog g go ar 0 0 (fun _ => 0), [(tt, .inr (8, [.ref ta, .ref td]))], bTown g td tda 0 0 0 20 6 50 0 1 (fun _ _ => 0), [(lt, .inr (2, [.ref ta, .ref ldr]))], bLaw g ldr lda 0 (-1) 0 0 0 (fun _ => 0), bMem g mo qT qL it il ig 0 0 0 fT fL, bTown g it ia 0 0 0 20 6 50 0 1 (fun _ _ => 0), bLaw g il ic 0 (-1) 0 0 0 (fun _ => 0), bLog g ig ir 0 0 (fun _ => 0), bTown g t0 ta0 0 0 0 20 6 50 0 1 (fun _ _ => 0), bLog g l0 la0 0 0 (fun _ => 0), [(fo, .inr (0, [.ref o, .ref lo, .ref od]))], bTown g od ad 0 0 0 20 6 50 0 1 (fun _ _ => 0), bRid g ro af 0 0 (fun _ => 0), bObj g om am 0 0 0 0 0 0 0 (-1) 0 0 0 0, bArr g am (zf [m0, fun _ => 0, fun _ => 0, fun _ => 0, fun _ => 0, fun _ => 0, fun _ => 0, fun _ => 0]), [(oa, .inl (g.2 2, 1, .inr (.inl (fun _ => 0))))]])) (hS : va_S A s.heap H locs) (hl : lv_has ls 7 [(4, .int 0), (3, .ref oa), (2, .ref om), (1, .ref x), (0, .ref b)]) : W p l e room_1 s m #[Value.ref b] below meth c H locs 247 14991 (lw_Z below #[Value.ref b] s) (F0 m 2236 ls []) := by
  obtain ⟨hx, hb, hml, hown, hts⟩ := id St
  have hz0 : zZ (fun _ => 0) := zZ0
  refine lv_aload_n hx hb dL_law__2236 rfl (lv_at hl 3 rfl) ?_
  refine mcallV (g := g) (q0 := 0) (ci := 9) (As := []) (rest := []) St hK hT hA hP hD hS hl.1 [0, 2] [1, 3, 4, 5, 6, 7, 8, 9, 10, 11, 12, 13, 14, 15, 16, 17, 18, 19, 20] rfl rfl rfl (c_richest l g x ta o lo go tt lt mo fo ro (-1) a 0 20 6 50 0 1 (fun _ _ => 0) ) (cwV 0 hts (zgL (zl4 k1497 k1498 k1499 k595) k755) rfl rfl rfl (by decide +kernel) ⟨Nat.le_of_ble_eq_true rfl, Nat.le_of_ble_eq_true rfl⟩) rfl rfl rfl rfl (Nat.le_of_ble_eq_true rfl) dL_law__2237 ⟨(Nat.le_of_ble_eq_true rfl), (Nat.le_of_ble_eq_true rfl)⟩ (fun _u H locs hq1 hP hD hS => ?_)
  have hP : va_P g.1 vwCl (List.flatten [bTape g ta ab 0 0 0 0 0 (-1) (fun _ => 0), bLaw g lo ac 0 (-1) 0 0 0 (fun _ => 0), bLog g go ar 0 0 (fun _ => 0), [(tt, .inr (8, [.ref ta, .ref td]))], bTown g td tda 0 0 0 20 6 50 0 1 (fun _ _ => 0), [(lt, .inr (2, [.ref ta, .ref ldr]))], bLaw g ldr lda 0 (-1) 0 0 0 (fun _ => 0), bMem g mo qT qL it il ig 0 0 0 fT fL, bTown g it ia 0 0 0 20 6 50 0 1 (fun _ _ => 0), bLaw g il ic 0 (-1) 0 0 0 (fun _ => 0), bLog g ig ir 0 0 (fun _ => 0), bTown g t0 ta0 0 0 0 20 6 50 0 1 (fun _ _ => 0), bLog g l0 la0 0 0 (fun _ => 0), [(fo, .inr (0, [.ref o, .ref lo, .ref od]))], bTown g od ad 0 0 0 20 6 50 0 1 (fun _ _ => 0), bRid g ro af 0 0 (fun _ => 0), bObj g om am 0 0 0 0 0 0 0 (-1) 0 0 0 0, bArr g am (zf [m0, fun _ => 0, fun _ => 0, fun _ => 0, fun _ => 0, fun _ => 0, fun _ => 0, fun _ => 0]), [(oa, .inl (g.2 2, 1, .inr (.inl (fun _ => 0))))]]) H := hP
  have hD : va_D A (List.flatten [bTape g ta ab 0 0 0 0 0 (-1) (fun _ => 0), bLaw g lo ac 0 (-1) 0 0 0 (fun _ => 0), bLog g go ar 0 0 (fun _ => 0), [(tt, .inr (8, [.ref ta, .ref td]))], bTown g td tda 0 0 0 20 6 50 0 1 (fun _ _ => 0), [(lt, .inr (2, [.ref ta, .ref ldr]))], bLaw g ldr lda 0 (-1) 0 0 0 (fun _ => 0), bMem g mo qT qL it il ig 0 0 0 fT fL, bTown g it ia 0 0 0 20 6 50 0 1 (fun _ _ => 0), bLaw g il ic 0 (-1) 0 0 0 (fun _ => 0), bLog g ig ir 0 0 (fun _ => 0), bTown g t0 ta0 0 0 0 20 6 50 0 1 (fun _ _ => 0), bLog g l0 la0 0 0 (fun _ => 0), [(fo, .inr (0, [.ref o, .ref lo, .ref od]))], bTown g od ad 0 0 0 20 6 50 0 1 (fun _ _ => 0), bRid g ro af 0 0 (fun _ => 0), bObj g om am 0 0 0 0 0 0 0 (-1) 0 0 0 0, bArr g am (zf [m0, fun _ => 0, fun _ => 0, fun _ => 0, fun _ => 0, fun _ => 0, fun _ => 0, fun _ => 0]), [(oa, .inl (g.2 2, 1, .inr (.inl (fun _ => 0))))]]) := hD
  refine W.widen (k := 247) (n := 14991) (Nat.le_of_ble_eq_true rfl) (Nat.le_of_ble_eq_true rfl) ?_
  refine W.eq (g2 := F0 m 2240 ls [.int (-1)]) rfl ?_
  refine lv_aload_n hx hb dL_law__2240 rfl (lv_at hl 2 rfl) ?_
  refine mcallV (g := g) (q0 := 0) (ci := 10) (As := []) (rest := [.int (-1)]) St hK hT hA hP hD hS hl.1 [16, 17] [0, 1, 2, 3, 4, 5, 6, 7, 8, 9, 10, 11, 12, 13, 14, 15, 18] rfl rfl rfl (m_richest l g om am 0 0 0 0 0 0 0 (-1) 0 0 0 0 (zf [m0, fun _ => 0, fun _ => 0, fun _ => 0, fun _ => 0, fun _ => 0, fun _ => 0, fun _ => 0]) (by assumption)) (cwV 0 hts (zgL (zl4 k1500 k1501 k1502 k833) k1132) rfl rfl rfl (by decide +kernel) ⟨Nat.le_of_ble_eq_true rfl, Nat.le_of_ble_eq_true rfl⟩) rfl rfl rfl rfl (Nat.le_of_ble_eq_true rfl) dL_law__2241 ⟨(Nat.le_of_ble_eq_true rfl), (Nat.le_of_ble_eq_true rfl)⟩ (fun u_ H locs hq15 hP hD hS => ?_)
  obtain ⟨th2_2, hi2_3, ac2_4, tp2_5, ba2_6, en2_7, tA2_8, fl2_9, de2_10, iD2_11, iO2_12, tU2_13, q_14⟩ := u_
  have hq15 : th2_2 = 0 ∧ q_14 = -1 := hq15
  have hP : va_P g.1 vwCl (List.flatten [bTape g ta ab 0 0 0 0 0 (-1) (fun _ => 0), bLaw g lo ac 0 (-1) 0 0 0 (fun _ => 0), bLog g go ar 0 0 (fun _ => 0), [(tt, .inr (8, [.ref ta, .ref td]))], bTown g td tda 0 0 0 20 6 50 0 1 (fun _ _ => 0), [(lt, .inr (2, [.ref ta, .ref ldr]))], bLaw g ldr lda 0 (-1) 0 0 0 (fun _ => 0), bMem g mo qT qL it il ig 0 0 0 fT fL, bTown g it ia 0 0 0 20 6 50 0 1 (fun _ _ => 0), bLaw g il ic 0 (-1) 0 0 0 (fun _ => 0), bLog g ig ir 0 0 (fun _ => 0), bTown g t0 ta0 0 0 0 20 6 50 0 1 (fun _ _ => 0), bLog g l0 la0 0 0 (fun _ => 0), [(fo, .inr (0, [.ref o, .ref lo, .ref od]))], bTown g od ad 0 0 0 20 6 50 0 1 (fun _ _ => 0), bRid g ro af 0 0 (fun _ => 0), [(oa, .inl (g.2 2, 1, .inr (.inl (fun _ => 0))))], bObj g om am th2_2 hi2_3 ac2_4 tp2_5 ba2_6 en2_7 tA2_8 fl2_9 de2_10 iD2_11 iO2_12 tU2_13]) H := hP
  have hD : va_D A (List.flatten [bTape g ta ab 0 0 0 0 0 (-1) (fun _ => 0), bLaw g lo ac 0 (-1) 0 0 0 (fun _ => 0), bLog g go ar 0 0 (fun _ => 0), [(tt, .inr (8, [.ref ta, .ref td]))], bTown g td tda 0 0 0 20 6 50 0 1 (fun _ _ => 0), [(lt, .inr (2, [.ref ta, .ref ldr]))], bLaw g ldr lda 0 (-1) 0 0 0 (fun _ => 0), bMem g mo qT qL it il ig 0 0 0 fT fL, bTown g it ia 0 0 0 20 6 50 0 1 (fun _ _ => 0), bLaw g il ic 0 (-1) 0 0 0 (fun _ => 0), bLog g ig ir 0 0 (fun _ => 0), bTown g t0 ta0 0 0 0 20 6 50 0 1 (fun _ _ => 0), bLog g l0 la0 0 0 (fun _ => 0), [(fo, .inr (0, [.ref o, .ref lo, .ref od]))], bTown g od ad 0 0 0 20 6 50 0 1 (fun _ _ => 0), bRid g ro af 0 0 (fun _ => 0), [(oa, .inl (g.2 2, 1, .inr (.inl (fun _ => 0))))], bObj g om am th2_2 hi2_3 ac2_4 tp2_5 ba2_6 en2_7 tA2_8 fl2_9 de2_10 iD2_11 iO2_12 tU2_13]) := hD
  refine W.widen (k := 247) (n := 14991) (Nat.le_of_ble_eq_true rfl) (Nat.le_of_ble_eq_true rfl) ?_
  refine W.eq (g2 := F0 m 2244 ls [.int q_14, .int (-1)]) rfl ?_
  refine lv_icmp_eq (tgt := 2738) hx hb dL_law__2244 (by decide) (fun _ => ?_) (fun c16 => absurd ((hq15.2).symm) c16)
  refine lv_iinc (v := 6) (lv' := [(4, .int 6), (3, .ref oa), (2, .ref om), (1, .ref x), (0, .ref b)]) hx hb dL_law__2738 hl (k := 0) rfl (by decide) (by decide) rfl (fun ls hl => ?_)
  refine lv_goto (tgt := 23) hx hb dL_law__2741 (by decide) ?_
  refine lv_iload hx hb dL_law__23 (lv_at hl 0 rfl) ?_
  refine lv_aload_n hx hb dL_law__25 rfl (lv_at hl 4 rfl) ?_
  refine va_slen hx hb hX hbl hbA hS dL_law__26 ?_
  refine ztop (r := 6) rfl ?_
  refine lv_bipush (v := 6) hx hb dL_law__27 (by decide) ?_
  refine lv_isub hx hb dL_law__29 ?_
  refine ztop (r := 0) (by decide) ?_
  refine lv_icmp_gt (tgt := 2744) hx hb dL_law__30 (by decide) (fun _ => ?_) (fun c17 => absurd (by decide) c17)
  refine lv_iconst (v := 1) hx hb dL_law__2744 (by decide) ?_
  refine va_forget (fun q hq => by have h9 := hS.2.2 q hq; rw [hAe] at h9; exact h9) ?_
  refine W.widen (k := 600002) (n := 7302232) (Nat.le_of_ble_eq_true rfl) (Nat.le_of_ble_eq_true rfl) ?_
  exact lw_ret hx hb hr hlocks dL_law__2745
set_option maxRecDepth 100000 in
set_option maxHeartbeats 4000000 in
/-- the law: firmest -/
theorem w_38 {p : Program} {e : Env} {s : State} {m : MethodId} {below : List Frame} {meth : Method} {c : Code} (l : Launch) (hfl : l.stackTraces = false) (g : zG) {b : Nat} {xs : Nat → Int32} {A : Nat → Prop} (hAe : A = fun q => s.heap.size ≤ q) (hA : ∀ q, s.heap.size ≤ q → A q) (hbA : ¬ A b) (St : CallFix p m c cL_law_ 7 s #[Value.ref b] zB RL) (hr : meth.sig.returnType = ret) (hlocks : meth.locks = false) (hX : va_X b 6 xs s s.heap) (hbl : b < s.heap.size) (hK : zK g s) (hT : zTh A s) (x : Nat) (ta : Nat) (o : Nat) (lo : Nat) (go : Nat) (tt : Nat) (lt : Nat) (mo : Nat) (fo : Nat) (ro : Nat) (ab : Nat) (ac : Nat) (ar : Nat) (td : Nat) (a : Nat → Nat) (tda : Nat → Nat) (ldr : Nat) (lda : Nat) (qT : Nat) (qL : Nat) (it : Nat) (il : Nat) (ig : Nat) (fT : Nat → Option Nat) (fL : Nat → Option Nat) (ia : Nat → Nat) (ic : Nat) (ir : Nat) (t0 : Nat) (ta0 : Nat → Nat) (l0 : Nat) (la0 : Nat) (od : Nat) (ad : Nat → Nat) (af : Nat) (om : Nat) (am : Nat → Nat) (m0 : Nat → Int32) (oa : Nat) (hT0 : fT 0 = some t0) (hL0 : fL 0 = some l0) (hm : zMo m0) (h8 : m0 8 = 0) (h10 : m0 10 = 1) (H : Heap) (locs : List Loc) (ls : Array Slot) (hP : va_P g.1 vwCl (List.flatten [bDR g x ta o lo go tt lt mo fo ro (-1), bTape g ta ab 0 0 0 0 0 (-1) (fun _ => 0), bTown g o a 0 0 0 20 6 50 0 1 (fun _ _ => 0), bLaw g lo ac 0 (-1) 0 0 0 (fun _ => 0), bLog g go ar 0 0 (fun _ => 0), [(tt, .inr (8, [.ref ta, .ref td]))], bTown g td tda 0 0 0 20 6 50 0 1 (fun _ _ => 0), [(lt, .inr (2, [.ref ta, .ref ldr]))], bLaw g ldr lda 0 (-1) 0 0 0 (fun _ => 0), bMem g mo qT qL it il ig 0 0 0 fT fL, bTown g it ia 0 0 0 20 6 50 0 1 (fun _ _ => 0), bLaw g il ic 0 (-1) 0 0 0 (fun _ => 0), bLog g ig ir 0 0 (fun _ => 0), bTown g t0 ta0 0 0 0 20 6 50 0 1 (fun _ _ => 0), bLog g l0 la0 0 0 (fun _ => 0), [(fo, .inr (0, [.ref o, .ref lo, .ref od]))], bTown g od ad 0 0 0 20 6 50 0 1 (fun _ _ => 0), bRid g ro af 0 0 (fun _ => 0), bObj g om am 0 0 0 0 0 0 0 (-1) 0 0 0 0, bArr g am (zf [m0, fun _ => 0, fun _ => 0, fun _ => 0, fun _ => 0, fun _ => 0, fun _ => 0, fun _ => 0]), [(oa, .inl (g.2 2, 1, .inr (.inl (fun _ => 0))))]]) H) (hD : va_D A (List.flatten [bDR g x ta o lo go tt lt mo fo ro (-1), bTape g ta ab 0 0 0 0 0 (-1) (fun _ => 0), bTown g o a 0 0 0 20 6 50 0 1 (fun _ _ => 0), bLaw g lo ac 0 (-1) 0 0 0 (fun _ => 0), bLog g go ar 0 0 (fun _ => 0), [(tt, .inr (8, [.ref ta, .ref td]))], bTown g td tda 0 0 0 20 6 50 0 1 (fun _ _ => 0), [(lt, .inr (2, [.ref ta, .ref ldr]))], bLaw g ldr lda 0 (-1) 0 0 0 (fun _ => 0), bMem g mo qT qL it il ig 0 0 0 fT fL, bTown g it ia 0 0 0 20 6 50 0 1 (fun _ _ => 0), bLaw g il ic 0 (-1) 0 0 0 (fun _ => 0), bLog g ig ir 0 0 (fun _ => 0), bTown g t0 ta0 0 0 0 20 6 50 0 1 (fun _ _ => 0), bLog g l0 la0 0 0 (fun _ => 0), [(fo, .inr (0, [.ref o, .ref lo, .ref od]))], bTown g od ad 0 0 0 20 6 50 0 1 (fun _ _ => 0), bRid g ro af 0 0 (fun _ => 0), bObj g om am 0 0 0 0 0 0 0 (-1) 0 0 0 0, bArr g am (zf [m0, fun _ => 0, fun _ => 0, fun _ => 0, fun _ => 0, fun _ => 0, fun _ => 0, fun _ => 0]), [(oa, .inl (g.2 2, 1, .inr (.inl (fun _ => 0))))]])) (hS : va_S A s.heap H locs) (hl : lv_has ls 7 [(4, .int 0), (3, .ref oa), (2, .ref om), (1, .ref x), (0, .ref b)]) : W p l e room_1 s m #[Value.ref b] below meth c H locs 247 14991 (lw_Z below #[Value.ref b] s) (F0 m 2249 ls []) := by
  obtain ⟨hx, hb, hml, hown, hts⟩ := id St
  have hz0 : zZ (fun _ => 0) := zZ0
  refine lv_aload_n hx hb dL_law__2249 rfl (lv_at hl 3 rfl) ?_
  refine mcallV (g := g) (q0 := 0) (ci := 9) (As := []) (rest := []) St hK hT hA hP hD hS hl.1 [0, 2] [1, 3, 4, 5, 6, 7, 8, 9, 10, 11, 12, 13, 14, 15, 16, 17, 18, 19, 20] rfl rfl rfl (c_firmest l g x ta o lo go tt lt mo fo ro (-1) a 0 20 6 50 0 1 (fun _ _ => 0) ) (cwV 0 hts (zgL (zl4 k1503 k1504 k1505 k595) k756) rfl rfl rfl (by decide +kernel) ⟨Nat.le_of_ble_eq_true rfl, Nat.le_of_ble_eq_true rfl⟩) rfl rfl rfl rfl (Nat.le_of_ble_eq_true rfl) dL_law__2250 ⟨(Nat.le_of_ble_eq_true rfl), (Nat.le_of_ble_eq_true rfl)⟩ (fun _u H locs hq1 hP hD hS => ?_)
  have hP : va_P g.1 vwCl (List.flatten [bTape g ta ab 0 0 0 0 0 (-1) (fun _ => 0), bLaw g lo ac 0 (-1) 0 0 0 (fun _ => 0), bLog g go ar 0 0 (fun _ => 0), [(tt, .inr (8, [.ref ta, .ref td]))], bTown g td tda 0 0 0 20 6 50 0 1 (fun _ _ => 0), [(lt, .inr (2, [.ref ta, .ref ldr]))], bLaw g ldr lda 0 (-1) 0 0 0 (fun _ => 0), bMem g mo qT qL it il ig 0 0 0 fT fL, bTown g it ia 0 0 0 20 6 50 0 1 (fun _ _ => 0), bLaw g il ic 0 (-1) 0 0 0 (fun _ => 0), bLog g ig ir 0 0 (fun _ => 0), bTown g t0 ta0 0 0 0 20 6 50 0 1 (fun _ _ => 0), bLog g l0 la0 0 0 (fun _ => 0), [(fo, .inr (0, [.ref o, .ref lo, .ref od]))], bTown g od ad 0 0 0 20 6 50 0 1 (fun _ _ => 0), bRid g ro af 0 0 (fun _ => 0), bObj g om am 0 0 0 0 0 0 0 (-1) 0 0 0 0, bArr g am (zf [m0, fun _ => 0, fun _ => 0, fun _ => 0, fun _ => 0, fun _ => 0, fun _ => 0, fun _ => 0]), [(oa, .inl (g.2 2, 1, .inr (.inl (fun _ => 0))))]]) H := hP
  have hD : va_D A (List.flatten [bTape g ta ab 0 0 0 0 0 (-1) (fun _ => 0), bLaw g lo ac 0 (-1) 0 0 0 (fun _ => 0), bLog g go ar 0 0 (fun _ => 0), [(tt, .inr (8, [.ref ta, .ref td]))], bTown g td tda 0 0 0 20 6 50 0 1 (fun _ _ => 0), [(lt, .inr (2, [.ref ta, .ref ldr]))], bLaw g ldr lda 0 (-1) 0 0 0 (fun _ => 0), bMem g mo qT qL it il ig 0 0 0 fT fL, bTown g it ia 0 0 0 20 6 50 0 1 (fun _ _ => 0), bLaw g il ic 0 (-1) 0 0 0 (fun _ => 0), bLog g ig ir 0 0 (fun _ => 0), bTown g t0 ta0 0 0 0 20 6 50 0 1 (fun _ _ => 0), bLog g l0 la0 0 0 (fun _ => 0), [(fo, .inr (0, [.ref o, .ref lo, .ref od]))], bTown g od ad 0 0 0 20 6 50 0 1 (fun _ _ => 0), bRid g ro af 0 0 (fun _ => 0), bObj g om am 0 0 0 0 0 0 0 (-1) 0 0 0 0, bArr g am (zf [m0, fun _ => 0, fun _ => 0, fun _ => 0, fun _ => 0, fun _ => 0, fun _ => 0, fun _ => 0]), [(oa, .inl (g.2 2, 1, .inr (.inl (fun _ => 0))))]]) := hD
  refine W.widen (k := 247) (n := 14991) (Nat.le_of_ble_eq_true rfl) (Nat.le_of_ble_eq_true rfl) ?_
  refine W.eq (g2 := F0 m 2253 ls [.int (-1)]) rfl ?_
  refine lv_aload_n hx hb dL_law__2253 rfl (lv_at hl 2 rfl) ?_
  refine mcallV (g := g) (q0 := 0) (ci := 10) (As := []) (rest := [.int (-1)]) St hK hT hA hP hD hS hl.1 [16, 17] [0, 1, 2, 3, 4, 5, 6, 7, 8, 9, 10, 11, 12, 13, 14, 15, 18] rfl rfl rfl (m_firmest l g om am 0 0 0 0 0 0 0 (-1) 0 0 0 0 (zf [m0, fun _ => 0, fun _ => 0, fun _ => 0, fun _ => 0, fun _ => 0, fun _ => 0, fun _ => 0]) (by assumption)) (cwV 0 hts (zgL (zl4 k1506 k1507 k1508 k833) k1133) rfl rfl rfl (by decide +kernel) ⟨Nat.le_of_ble_eq_true rfl, Nat.le_of_ble_eq_true rfl⟩) rfl rfl rfl rfl (Nat.le_of_ble_eq_true rfl) dL_law__2254 ⟨(Nat.le_of_ble_eq_true rfl), (Nat.le_of_ble_eq_true rfl)⟩ (fun u_ H locs hq15 hP hD hS => ?_)
  obtain ⟨th2_2, hi2_3, ac2_4, tp2_5, ba2_6, en2_7, tA2_8, fl2_9, de2_10, iD2_11, iO2_12, tU2_13, q_14⟩ := u_
  have hq15 : th2_2 = 0 ∧ q_14 = -1 := hq15
  have hP : va_P g.1 vwCl (List.flatten [bTape g ta ab 0 0 0 0 0 (-1) (fun _ => 0), bLaw g lo ac 0 (-1) 0 0 0 (fun _ => 0), bLog g go ar 0 0 (fun _ => 0), [(tt, .inr (8, [.ref ta, .ref td]))], bTown g td tda 0 0 0 20 6 50 0 1 (fun _ _ => 0), [(lt, .inr (2, [.ref ta, .ref ldr]))], bLaw g ldr lda 0 (-1) 0 0 0 (fun _ => 0), bMem g mo qT qL it il ig 0 0 0 fT fL, bTown g it ia 0 0 0 20 6 50 0 1 (fun _ _ => 0), bLaw g il ic 0 (-1) 0 0 0 (fun _ => 0), bLog g ig ir 0 0 (fun _ => 0), bTown g t0 ta0 0 0 0 20 6 50 0 1 (fun _ _ => 0), bLog g l0 la0 0 0 (fun _ => 0), [(fo, .inr (0, [.ref o, .ref lo, .ref od]))], bTown g od ad 0 0 0 20 6 50 0 1 (fun _ _ => 0), bRid g ro af 0 0 (fun _ => 0), [(oa, .inl (g.2 2, 1, .inr (.inl (fun _ => 0))))], bObj g om am th2_2 hi2_3 ac2_4 tp2_5 ba2_6 en2_7 tA2_8 fl2_9 de2_10 iD2_11 iO2_12 tU2_13]) H := hP
  have hD : va_D A (List.flatten [bTape g ta ab 0 0 0 0 0 (-1) (fun _ => 0), bLaw g lo ac 0 (-1) 0 0 0 (fun _ => 0), bLog g go ar 0 0 (fun _ => 0), [(tt, .inr (8, [.ref ta, .ref td]))], bTown g td tda 0 0 0 20 6 50 0 1 (fun _ _ => 0), [(lt, .inr (2, [.ref ta, .ref ldr]))], bLaw g ldr lda 0 (-1) 0 0 0 (fun _ => 0), bMem g mo qT qL it il ig 0 0 0 fT fL, bTown g it ia 0 0 0 20 6 50 0 1 (fun _ _ => 0), bLaw g il ic 0 (-1) 0 0 0 (fun _ => 0), bLog g ig ir 0 0 (fun _ => 0), bTown g t0 ta0 0 0 0 20 6 50 0 1 (fun _ _ => 0), bLog g l0 la0 0 0 (fun _ => 0), [(fo, .inr (0, [.ref o, .ref lo, .ref od]))], bTown g od ad 0 0 0 20 6 50 0 1 (fun _ _ => 0), bRid g ro af 0 0 (fun _ => 0), [(oa, .inl (g.2 2, 1, .inr (.inl (fun _ => 0))))], bObj g om am th2_2 hi2_3 ac2_4 tp2_5 ba2_6 en2_7 tA2_8 fl2_9 de2_10 iD2_11 iO2_12 tU2_13]) := hD
  refine W.widen (k := 247) (n := 14991) (Nat.le_of_ble_eq_true rfl) (Nat.le_of_ble_eq_true rfl) ?_
  refine W.eq (g2 := F0 m 2257 ls [.int q_14, .int (-1)]) rfl ?_
  refine lv_icmp_eq (tgt := 2738) hx hb dL_law__2257 (by decide) (fun _ => ?_) (fun c16 => absurd ((hq15.2).symm) c16)
  refine lv_iinc (v := 6) (lv' := [(4, .int 6), (3, .ref oa), (2, .ref om), (1, .ref x), (0, .ref b)]) hx hb dL_law__2738 hl (k := 0) rfl (by decide) (by decide) rfl (fun ls hl => ?_)
  refine lv_goto (tgt := 23) hx hb dL_law__2741 (by decide) ?_
  refine lv_iload hx hb dL_law__23 (lv_at hl 0 rfl) ?_
  refine lv_aload_n hx hb dL_law__25 rfl (lv_at hl 4 rfl) ?_
  refine va_slen hx hb hX hbl hbA hS dL_law__26 ?_
  refine ztop (r := 6) rfl ?_
  refine lv_bipush (v := 6) hx hb dL_law__27 (by decide) ?_
  refine lv_isub hx hb dL_law__29 ?_
  refine ztop (r := 0) (by decide) ?_
  refine lv_icmp_gt (tgt := 2744) hx hb dL_law__30 (by decide) (fun _ => ?_) (fun c17 => absurd (by decide) c17)
  refine lv_iconst (v := 1) hx hb dL_law__2744 (by decide) ?_
  refine va_forget (fun q hq => by have h9 := hS.2.2 q hq; rw [hAe] at h9; exact h9) ?_
  refine W.widen (k := 600002) (n := 7302232) (Nat.le_of_ble_eq_true rfl) (Nat.le_of_ble_eq_true rfl) ?_
  exact lw_ret hx hb hr hlocks dL_law__2745
set_option maxRecDepth 100000 in
set_option maxHeartbeats 4000000 in
/-- the law: last -/
theorem w_39 {p : Program} {e : Env} {s : State} {m : MethodId} {below : List Frame} {meth : Method} {c : Code} (l : Launch) (hfl : l.stackTraces = false) (g : zG) {b : Nat} {xs : Nat → Int32} {A : Nat → Prop} (hAe : A = fun q => s.heap.size ≤ q) (hA : ∀ q, s.heap.size ≤ q → A q) (hbA : ¬ A b) (St : CallFix p m c cL_law_ 7 s #[Value.ref b] zB RL) (hr : meth.sig.returnType = ret) (hlocks : meth.locks = false) (hX : va_X b 6 xs s s.heap) (hbl : b < s.heap.size) (hK : zK g s) (hT : zTh A s) (x : Nat) (ta : Nat) (o : Nat) (lo : Nat) (go : Nat) (tt : Nat) (lt : Nat) (mo : Nat) (fo : Nat) (ro : Nat) (ab : Nat) (ac : Nat) (ar : Nat) (td : Nat) (a : Nat → Nat) (tda : Nat → Nat) (ldr : Nat) (lda : Nat) (qT : Nat) (qL : Nat) (it : Nat) (il : Nat) (ig : Nat) (fT : Nat → Option Nat) (fL : Nat → Option Nat) (ia : Nat → Nat) (ic : Nat) (ir : Nat) (t0 : Nat) (ta0 : Nat → Nat) (l0 : Nat) (la0 : Nat) (od : Nat) (ad : Nat → Nat) (af : Nat) (om : Nat) (am : Nat → Nat) (m0 : Nat → Int32) (oa : Nat) (hT0 : fT 0 = some t0) (hL0 : fL 0 = some l0) (hm : zMo m0) (h8 : m0 8 = 0) (h10 : m0 10 = 1) (H : Heap) (locs : List Loc) (ls : Array Slot) (hP : va_P g.1 vwCl (List.flatten [bDR g x ta o lo go tt lt mo fo ro (-1), bTape g ta ab 0 0 0 0 0 (-1) (fun _ => 0), bTown g o a 0 0 0 20 6 50 0 1 (fun _ _ => 0), bLaw g lo ac 0 (-1) 0 0 0 (fun _ => 0), bLog g go ar 0 0 (fun _ => 0), [(tt, .inr (8, [.ref ta, .ref td]))], bTown g td tda 0 0 0 20 6 50 0 1 (fun _ _ => 0), [(lt, .inr (2, [.ref ta, .ref ldr]))], bLaw g ldr lda 0 (-1) 0 0 0 (fun _ => 0), bMem g mo qT qL it il ig 0 0 0 fT fL, bTown g it ia 0 0 0 20 6 50 0 1 (fun _ _ => 0), bLaw g il ic 0 (-1) 0 0 0 (fun _ => 0), bLog g ig ir 0 0 (fun _ => 0), bTown g t0 ta0 0 0 0 20 6 50 0 1 (fun _ _ => 0), bLog g l0 la0 0 0 (fun _ => 0), [(fo, .inr (0, [.ref o, .ref lo, .ref od]))], bTown g od ad 0 0 0 20 6 50 0 1 (fun _ _ => 0), bRid g ro af 0 0 (fun _ => 0), bObj g om am 0 0 0 0 0 0 0 (-1) 0 0 0 0, bArr g am (zf [m0, fun _ => 0, fun _ => 0, fun _ => 0, fun _ => 0, fun _ => 0, fun _ => 0, fun _ => 0]), [(oa, .inl (g.2 2, 1, .inr (.inl (fun _ => 0))))]]) H) (hD : va_D A (List.flatten [bDR g x ta o lo go tt lt mo fo ro (-1), bTape g ta ab 0 0 0 0 0 (-1) (fun _ => 0), bTown g o a 0 0 0 20 6 50 0 1 (fun _ _ => 0), bLaw g lo ac 0 (-1) 0 0 0 (fun _ => 0), bLog g go ar 0 0 (fun _ => 0), [(tt, .inr (8, [.ref ta, .ref td]))], bTown g td tda 0 0 0 20 6 50 0 1 (fun _ _ => 0), [(lt, .inr (2, [.ref ta, .ref ldr]))], bLaw g ldr lda 0 (-1) 0 0 0 (fun _ => 0), bMem g mo qT qL it il ig 0 0 0 fT fL, bTown g it ia 0 0 0 20 6 50 0 1 (fun _ _ => 0), bLaw g il ic 0 (-1) 0 0 0 (fun _ => 0), bLog g ig ir 0 0 (fun _ => 0), bTown g t0 ta0 0 0 0 20 6 50 0 1 (fun _ _ => 0), bLog g l0 la0 0 0 (fun _ => 0), [(fo, .inr (0, [.ref o, .ref lo, .ref od]))], bTown g od ad 0 0 0 20 6 50 0 1 (fun _ _ => 0), bRid g ro af 0 0 (fun _ => 0), bObj g om am 0 0 0 0 0 0 0 (-1) 0 0 0 0, bArr g am (zf [m0, fun _ => 0, fun _ => 0, fun _ => 0, fun _ => 0, fun _ => 0, fun _ => 0, fun _ => 0]), [(oa, .inl (g.2 2, 1, .inr (.inl (fun _ => 0))))]])) (hS : va_S A s.heap H locs) (hl : lv_has ls 7 [(4, .int 0), (3, .ref oa), (2, .ref om), (1, .ref x), (0, .ref b)]) : W p l e room_1 s m #[Value.ref b] below meth c H locs 247 14991 (lw_Z below #[Value.ref b] s) (F0 m 2262 ls []) := by
  obtain ⟨hx, hb, hml, hown, hts⟩ := id St
  have hz0 : zZ (fun _ => 0) := zZ0
  refine lv_aload_n hx hb dL_law__2262 rfl (lv_at hl 3 rfl) ?_
  refine lv_aload_n hx hb dL_law__2263 rfl (lv_at hl 4 rfl) ?_
  refine lv_iload hx hb dL_law__2264 (lv_at hl 0 rfl) ?_
  refine lv_iconst (v := 1) hx hb dL_law__2266 (by decide) ?_
  refine lv_iadd hx hb dL_law__2267 ?_
  refine ztop (r := 1) (by decide) ?_
  refine va_sld hx hb hX hbl hbA hS (zin rfl) dL_law__2268 ?_
  refine ztop (r := xs 1) rfl ?_
  refine lv_aload_n hx hb dL_law__2269 rfl (lv_at hl 1 rfl) ?_
  refine xcallSX (g := g) (As := [.ref x, .int (xs 1), .ref oa]) (rest := []) St hK hT hA hP hD hS hl.1 [0, 2, 20] [1, 3, 4, 5, 6, 7, 8, 9, 10, 11, 12, 13, 14, 15, 16, 17, 18, 19] rfl rfl rfl (l_last l hfl g x ta o lo go tt lt mo fo ro (-1) o a 0 20 6 50 0 1 (fun _ _ => 0) (xs 1) oa (fun _ => 0) ) (vx_cwSW 3 hts (zgL (zl3 k1509 k1510 k1313) k1273) rfl rfl rfl (by decide +kernel) ⟨Nat.le_of_ble_eq_true rfl, Nat.le_of_ble_eq_true rfl⟩) rfl rfl (Nat.le_of_ble_eq_true rfl) dL_law__2270 ⟨(Nat.le_of_ble_eq_true rfl), (Nat.le_of_ble_eq_true rfl)⟩ (fun E ce q9 u9 H locs hpx hP hD hS hce hcv hcl => hpx.elim) (fun u_ H locs hq3 hP hD hS => ?_)
  obtain ⟨r_1, fz2_2⟩ := u_
  have hq3 : r_1 = 1 := hq3
  have hP : va_P g.1 vwCl (List.flatten [bTape g ta ab 0 0 0 0 0 (-1) (fun _ => 0), bLaw g lo ac 0 (-1) 0 0 0 (fun _ => 0), bLog g go ar 0 0 (fun _ => 0), [(tt, .inr (8, [.ref ta, .ref td]))], bTown g td tda 0 0 0 20 6 50 0 1 (fun _ _ => 0), [(lt, .inr (2, [.ref ta, .ref ldr]))], bLaw g ldr lda 0 (-1) 0 0 0 (fun _ => 0), bMem g mo qT qL it il ig 0 0 0 fT fL, bTown g it ia 0 0 0 20 6 50 0 1 (fun _ _ => 0), bLaw g il ic 0 (-1) 0 0 0 (fun _ => 0), bLog g ig ir 0 0 (fun _ => 0), bTown g t0 ta0 0 0 0 20 6 50 0 1 (fun _ _ => 0), bLog g l0 la0 0 0 (fun _ => 0), [(fo, .inr (0, [.ref o, .ref lo, .ref od]))], bTown g od ad 0 0 0 20 6 50 0 1 (fun _ _ => 0), bRid g ro af 0 0 (fun _ => 0), bObj g om am 0 0 0 0 0 0 0 (-1) 0 0 0 0, bArr g am (zf [m0, fun _ => 0, fun _ => 0, fun _ => 0, fun _ => 0, fun _ => 0, fun _ => 0, fun _ => 0]), [(oa, .inl (g.2 2, 1, .inr (.inl fz2_2)))]]) H := hP
  have hD : va_D A (List.flatten [bTape g ta ab 0 0 0 0 0 (-1) (fun _ => 0), bLaw g lo ac 0 (-1) 0 0 0 (fun _ => 0), bLog g go ar 0 0 (fun _ => 0), [(tt, .inr (8, [.ref ta, .ref td]))], bTown g td tda 0 0 0 20 6 50 0 1 (fun _ _ => 0), [(lt, .inr (2, [.ref ta, .ref ldr]))], bLaw g ldr lda 0 (-1) 0 0 0 (fun _ => 0), bMem g mo qT qL it il ig 0 0 0 fT fL, bTown g it ia 0 0 0 20 6 50 0 1 (fun _ _ => 0), bLaw g il ic 0 (-1) 0 0 0 (fun _ => 0), bLog g ig ir 0 0 (fun _ => 0), bTown g t0 ta0 0 0 0 20 6 50 0 1 (fun _ _ => 0), bLog g l0 la0 0 0 (fun _ => 0), [(fo, .inr (0, [.ref o, .ref lo, .ref od]))], bTown g od ad 0 0 0 20 6 50 0 1 (fun _ _ => 0), bRid g ro af 0 0 (fun _ => 0), bObj g om am 0 0 0 0 0 0 0 (-1) 0 0 0 0, bArr g am (zf [m0, fun _ => 0, fun _ => 0, fun _ => 0, fun _ => 0, fun _ => 0, fun _ => 0, fun _ => 0]), [(oa, .inl (g.2 2, 1, .inr (.inl fz2_2)))]]) := hD
  refine W.widen (k := 248) (n := 14997) (Nat.le_of_ble_eq_true rfl) (Nat.le_of_ble_eq_true rfl) ?_
  refine W.eq (g2 := F0 m 2273 ls [.int r_1]) rfl ?_
  subst hq3
  refine lv_istore (lv' := [(5, .int 1), (4, .int 0), (3, .ref oa), (2, .ref om), (1, .ref x), (0, .ref b)]) hx hb dL_law__2273 hl (by decide) rfl (fun ls hl => ?_)
  refine lv_aload_n hx hb dL_law__2275 rfl (lv_at hl 3 rfl) ?_
  refine lv_aload_n hx hb dL_law__2276 rfl (lv_at hl 5 rfl) ?_
  refine lv_iload hx hb dL_law__2277 (lv_at hl 1 rfl) ?_
  refine lv_iconst (v := 1) hx hb dL_law__2279 (by decide) ?_
  refine lv_iadd hx hb dL_law__2280 ?_
  refine ztop (r := 1) (by decide) ?_
  refine va_sld hx hb hX hbl hbA hS (zin rfl) dL_law__2281 ?_
  refine ztop (r := xs 1) rfl ?_
  refine mcallV (g := g) (q0 := 0) (ci := 10) (As := [.int (xs 1)]) (rest := []) St hK hT hA hP hD hS hl.1 [16, 17] [0, 1, 2, 3, 4, 5, 6, 7, 8, 9, 10, 11, 12, 13, 14, 15, 18] rfl rfl rfl (m_last l g om am 0 0 0 0 0 0 0 (-1) 0 0 0 0 (zf [m0, fun _ => 0, fun _ => 0, fun _ => 0, fun _ => 0, fun _ => 0, fun _ => 0, fun _ => 0]) (xs 1) (by assumption)) (cwV 1 hts (zgL (zl4 k1511 k1512 k1513 k833) k1081) rfl rfl rfl (by decide +kernel) ⟨Nat.le_of_ble_eq_true rfl, Nat.le_of_ble_eq_true rfl⟩) rfl rfl rfl rfl (Nat.le_of_ble_eq_true rfl) dL_law__2282 ⟨(Nat.le_of_ble_eq_true rfl), (Nat.le_of_ble_eq_true rfl)⟩ (fun u_ H locs hq17 hP hD hS => ?_)
  obtain ⟨th2_4, hi2_5, ac2_6, tp2_7, ba2_8, en2_9, tA2_10, fl2_11, de2_12, iD2_13, iO2_14, tU2_15, q_16⟩ := u_
  have hq17 : th2_4 = 1 := hq17
  have hP : va_P g.1 vwCl (List.flatten [bTape g ta ab 0 0 0 0 0 (-1) (fun _ => 0), bLaw g lo ac 0 (-1) 0 0 0 (fun _ => 0), bLog g go ar 0 0 (fun _ => 0), [(tt, .inr (8, [.ref ta, .ref td]))], bTown g td tda 0 0 0 20 6 50 0 1 (fun _ _ => 0), [(lt, .inr (2, [.ref ta, .ref ldr]))], bLaw g ldr lda 0 (-1) 0 0 0 (fun _ => 0), bMem g mo qT qL it il ig 0 0 0 fT fL, bTown g it ia 0 0 0 20 6 50 0 1 (fun _ _ => 0), bLaw g il ic 0 (-1) 0 0 0 (fun _ => 0), bLog g ig ir 0 0 (fun _ => 0), bTown g t0 ta0 0 0 0 20 6 50 0 1 (fun _ _ => 0), bLog g l0 la0 0 0 (fun _ => 0), [(fo, .inr (0, [.ref o, .ref lo, .ref od]))], bTown g od ad 0 0 0 20 6 50 0 1 (fun _ _ => 0), bRid g ro af 0 0 (fun _ => 0), [(oa, .inl (g.2 2, 1, .inr (.inl fz2_2)))], bObj g om am th2_4 hi2_5 ac2_6 tp2_7 ba2_8 en2_9 tA2_10 fl2_11 de2_12 iD2_13 iO2_14 tU2_15]) H := hP
  have hD : va_D A (List.flatten [bTape g ta ab 0 0 0 0 0 (-1) (fun _ => 0), bLaw g lo ac 0 (-1) 0 0 0 (fun _ => 0), bLog g go ar 0 0 (fun _ => 0), [(tt, .inr (8, [.ref ta, .ref td]))], bTown g td tda 0 0 0 20 6 50 0 1 (fun _ _ => 0), [(lt, .inr (2, [.ref ta, .ref ldr]))], bLaw g ldr lda 0 (-1) 0 0 0 (fun _ => 0), bMem g mo qT qL it il ig 0 0 0 fT fL, bTown g it ia 0 0 0 20 6 50 0 1 (fun _ _ => 0), bLaw g il ic 0 (-1) 0 0 0 (fun _ => 0), bLog g ig ir 0 0 (fun _ => 0), bTown g t0 ta0 0 0 0 20 6 50 0 1 (fun _ _ => 0), bLog g l0 la0 0 0 (fun _ => 0), [(fo, .inr (0, [.ref o, .ref lo, .ref od]))], bTown g od ad 0 0 0 20 6 50 0 1 (fun _ _ => 0), bRid g ro af 0 0 (fun _ => 0), [(oa, .inl (g.2 2, 1, .inr (.inl fz2_2)))], bObj g om am th2_4 hi2_5 ac2_6 tp2_7 ba2_8 en2_9 tA2_10 fl2_11 de2_12 iD2_13 iO2_14 tU2_15]) := hD
  refine W.widen (k := 248) (n := 14997) (Nat.le_of_ble_eq_true rfl) (Nat.le_of_ble_eq_true rfl) ?_
  refine W.eq (g2 := F0 m 2285 ls [.int q_16]) rfl ?_
  subst hq17
  refine lv_istore (lv' := [(6, .int q_16), (5, .int 1), (4, .int 0), (3, .ref oa), (2, .ref om), (1, .ref x), (0, .ref b)]) hx hb dL_law__2285 hl (by decide) rfl (fun ls hl => ?_)
  refine lv_aload_n hx hb dL_law__2287 rfl (lv_at hl 4 rfl) ?_
  refine mcallV (g := g) (q0 := 0) (ci := 10) (As := []) (rest := []) St hK hT hA hP hD hS hl.1 [17] [0, 1, 2, 3, 4, 5, 6, 7, 8, 9, 10, 11, 12, 13, 14, 15, 16] rfl rfl rfl (m_thrown l g om am 1 hi2_5 ac2_6 tp2_7 ba2_8 en2_9 tA2_10 fl2_11 de2_12 iD2_13 iO2_14 tU2_15 ) (cwV 0 hts (zgL (zl4 k1317 k1318 k1319 k833) k824) rfl rfl rfl (by decide +kernel) ⟨Nat.le_of_ble_eq_true rfl, Nat.le_of_ble_eq_true rfl⟩) rfl rfl rfl rfl (Nat.le_of_ble_eq_true rfl) dL_law__2288 ⟨(Nat.le_of_ble_eq_true rfl), (Nat.le_of_ble_eq_true rfl)⟩ (fun _u H locs hq18 hP hD hS => ?_)
  have hP : va_P g.1 vwCl (List.flatten [bTape g ta ab 0 0 0 0 0 (-1) (fun _ => 0), bLaw g lo ac 0 (-1) 0 0 0 (fun _ => 0), bLog g go ar 0 0 (fun _ => 0), [(tt, .inr (8, [.ref ta, .ref td]))], bTown g td tda 0 0 0 20 6 50 0 1 (fun _ _ => 0), [(lt, .inr (2, [.ref ta, .ref ldr]))], bLaw g ldr lda 0 (-1) 0 0 0 (fun _ => 0), bMem g mo qT qL it il ig 0 0 0 fT fL, bTown g it ia 0 0 0 20 6 50 0 1 (fun _ _ => 0), bLaw g il ic 0 (-1) 0 0 0 (fun _ => 0), bLog g ig ir 0 0 (fun _ => 0), bTown g t0 ta0 0 0 0 20 6 50 0 1 (fun _ _ => 0), bLog g l0 la0 0 0 (fun _ => 0), [(fo, .inr (0, [.ref o, .ref lo, .ref od]))], bTown g od ad 0 0 0 20 6 50 0 1 (fun _ _ => 0), bRid g ro af 0 0 (fun _ => 0), [(oa, .inl (g.2 2, 1, .inr (.inl fz2_2)))], bObj g om am 1 hi2_5 ac2_6 tp2_7 ba2_8 en2_9 tA2_10 fl2_11 de2_12 iD2_13 iO2_14 tU2_15]) H := hP
  have hD : va_D A (List.flatten [bTape g ta ab 0 0 0 0 0 (-1) (fun _ => 0), bLaw g lo ac 0 (-1) 0 0 0 (fun _ => 0), bLog g go ar 0 0 (fun _ => 0), [(tt, .inr (8, [.ref ta, .ref td]))], bTown g td tda 0 0 0 20 6 50 0 1 (fun _ _ => 0), [(lt, .inr (2, [.ref ta, .ref ldr]))], bLaw g ldr lda 0 (-1) 0 0 0 (fun _ => 0), bMem g mo qT qL it il ig 0 0 0 fT fL, bTown g it ia 0 0 0 20 6 50 0 1 (fun _ _ => 0), bLaw g il ic 0 (-1) 0 0 0 (fun _ => 0), bLog g ig ir 0 0 (fun _ => 0), bTown g t0 ta0 0 0 0 20 6 50 0 1 (fun _ _ => 0), bLog g l0 la0 0 0 (fun _ => 0), [(fo, .inr (0, [.ref o, .ref lo, .ref od]))], bTown g od ad 0 0 0 20 6 50 0 1 (fun _ _ => 0), bRid g ro af 0 0 (fun _ => 0), [(oa, .inl (g.2 2, 1, .inr (.inl fz2_2)))], bObj g om am 1 hi2_5 ac2_6 tp2_7 ba2_8 en2_9 tA2_10 fl2_11 de2_12 iD2_13 iO2_14 tU2_15]) := hD
  refine W.widen (k := 248) (n := 14997) (Nat.le_of_ble_eq_true rfl) (Nat.le_of_ble_eq_true rfl) ?_
  refine W.eq (g2 := F0 m 2291 ls [.int 1]) rfl ?_
  refine lv_iload hx hb dL_law__2291 (lv_at hl 1 rfl) ?_
  refine lv_icmp_eq (tgt := 2298) hx hb dL_law__2293 (by decide) (fun _ => ?_) (fun c19 => absurd (by decide) c19)
  refine lv_iload hx hb dL_law__2298 (lv_at hl 1 rfl) ?_
  refine lv_if_ne (tgt := 2315) hx hb dL_law__2300 (by decide) (fun _ => ?_) (fun c20 => absurd c20 (by decide))
  refine lv_goto (tgt := 2738) hx hb dL_law__2315 (by decide) ?_
  refine lv_iinc (v := 6) (lv' := [(4, .int 6), (6, .int q_16), (5, .int 1), (3, .ref oa), (2, .ref om), (1, .ref x), (0, .ref b)]) hx hb dL_law__2738 hl (k := 2) rfl (by decide) (by decide) rfl (fun ls hl => ?_)
  refine lv_goto (tgt := 23) hx hb dL_law__2741 (by decide) ?_
  refine lv_iload hx hb dL_law__23 (lv_at hl 0 rfl) ?_
  refine lv_aload_n hx hb dL_law__25 rfl (lv_at hl 6 rfl) ?_
  refine va_slen hx hb hX hbl hbA hS dL_law__26 ?_
  refine ztop (r := 6) rfl ?_
  refine lv_bipush (v := 6) hx hb dL_law__27 (by decide) ?_
  refine lv_isub hx hb dL_law__29 ?_
  refine ztop (r := 0) (by decide) ?_
  refine lv_icmp_gt (tgt := 2744) hx hb dL_law__30 (by decide) (fun _ => ?_) (fun c21 => absurd (by decide) c21)
  refine lv_iconst (v := 1) hx hb dL_law__2744 (by decide) ?_
  refine va_forget (fun q hq => by have h9 := hS.2.2 q hq; rw [hAe] at h9; exact h9) ?_
  refine W.widen (k := 600002) (n := 7302232) (Nat.le_of_ble_eq_true rfl) (Nat.le_of_ble_eq_true rfl) ?_
  exact lw_ret hx hb hr hlocks dL_law__2745
set_option maxRecDepth 100000 in
set_option maxHeartbeats 4000000 in
/-- the law: home -/
theorem w_40 {p : Program} {e : Env} {s : State} {m : MethodId} {below : List Frame} {meth : Method} {c : Code} (l : Launch) (hfl : l.stackTraces = false) (g : zG) {b : Nat} {xs : Nat → Int32} {A : Nat → Prop} (hAe : A = fun q => s.heap.size ≤ q) (hA : ∀ q, s.heap.size ≤ q → A q) (hbA : ¬ A b) (St : CallFix p m c cL_law_ 7 s #[Value.ref b] zB RL) (hr : meth.sig.returnType = ret) (hlocks : meth.locks = false) (hX : va_X b 6 xs s s.heap) (hbl : b < s.heap.size) (hK : zK g s) (hT : zTh A s) (x : Nat) (ta : Nat) (o : Nat) (lo : Nat) (go : Nat) (tt : Nat) (lt : Nat) (mo : Nat) (fo : Nat) (ro : Nat) (ab : Nat) (ac : Nat) (ar : Nat) (td : Nat) (a : Nat → Nat) (tda : Nat → Nat) (ldr : Nat) (lda : Nat) (qT : Nat) (qL : Nat) (it : Nat) (il : Nat) (ig : Nat) (fT : Nat → Option Nat) (fL : Nat → Option Nat) (ia : Nat → Nat) (ic : Nat) (ir : Nat) (t0 : Nat) (ta0 : Nat → Nat) (l0 : Nat) (la0 : Nat) (od : Nat) (ad : Nat → Nat) (af : Nat) (om : Nat) (am : Nat → Nat) (m0 : Nat → Int32) (oa : Nat) (hT0 : fT 0 = some t0) (hL0 : fL 0 = some l0) (hm : zMo m0) (h8 : m0 8 = 0) (h10 : m0 10 = 1) (H : Heap) (locs : List Loc) (ls : Array Slot) (hP : va_P g.1 vwCl (List.flatten [bDR g x ta o lo go tt lt mo fo ro (-1), bTape g ta ab 0 0 0 0 0 (-1) (fun _ => 0), bTown g o a 0 0 0 20 6 50 0 1 (fun _ _ => 0), bLaw g lo ac 0 (-1) 0 0 0 (fun _ => 0), bLog g go ar 0 0 (fun _ => 0), [(tt, .inr (8, [.ref ta, .ref td]))], bTown g td tda 0 0 0 20 6 50 0 1 (fun _ _ => 0), [(lt, .inr (2, [.ref ta, .ref ldr]))], bLaw g ldr lda 0 (-1) 0 0 0 (fun _ => 0), bMem g mo qT qL it il ig 0 0 0 fT fL, bTown g it ia 0 0 0 20 6 50 0 1 (fun _ _ => 0), bLaw g il ic 0 (-1) 0 0 0 (fun _ => 0), bLog g ig ir 0 0 (fun _ => 0), bTown g t0 ta0 0 0 0 20 6 50 0 1 (fun _ _ => 0), bLog g l0 la0 0 0 (fun _ => 0), [(fo, .inr (0, [.ref o, .ref lo, .ref od]))], bTown g od ad 0 0 0 20 6 50 0 1 (fun _ _ => 0), bRid g ro af 0 0 (fun _ => 0), bObj g om am 0 0 0 0 0 0 0 (-1) 0 0 0 0, bArr g am (zf [m0, fun _ => 0, fun _ => 0, fun _ => 0, fun _ => 0, fun _ => 0, fun _ => 0, fun _ => 0]), [(oa, .inl (g.2 2, 1, .inr (.inl (fun _ => 0))))]]) H) (hD : va_D A (List.flatten [bDR g x ta o lo go tt lt mo fo ro (-1), bTape g ta ab 0 0 0 0 0 (-1) (fun _ => 0), bTown g o a 0 0 0 20 6 50 0 1 (fun _ _ => 0), bLaw g lo ac 0 (-1) 0 0 0 (fun _ => 0), bLog g go ar 0 0 (fun _ => 0), [(tt, .inr (8, [.ref ta, .ref td]))], bTown g td tda 0 0 0 20 6 50 0 1 (fun _ _ => 0), [(lt, .inr (2, [.ref ta, .ref ldr]))], bLaw g ldr lda 0 (-1) 0 0 0 (fun _ => 0), bMem g mo qT qL it il ig 0 0 0 fT fL, bTown g it ia 0 0 0 20 6 50 0 1 (fun _ _ => 0), bLaw g il ic 0 (-1) 0 0 0 (fun _ => 0), bLog g ig ir 0 0 (fun _ => 0), bTown g t0 ta0 0 0 0 20 6 50 0 1 (fun _ _ => 0), bLog g l0 la0 0 0 (fun _ => 0), [(fo, .inr (0, [.ref o, .ref lo, .ref od]))], bTown g od ad 0 0 0 20 6 50 0 1 (fun _ _ => 0), bRid g ro af 0 0 (fun _ => 0), bObj g om am 0 0 0 0 0 0 0 (-1) 0 0 0 0, bArr g am (zf [m0, fun _ => 0, fun _ => 0, fun _ => 0, fun _ => 0, fun _ => 0, fun _ => 0, fun _ => 0]), [(oa, .inl (g.2 2, 1, .inr (.inl (fun _ => 0))))]])) (hS : va_S A s.heap H locs) (hl : lv_has ls 7 [(4, .int 0), (3, .ref oa), (2, .ref om), (1, .ref x), (0, .ref b)]) : W p l e room_1 s m #[Value.ref b] below meth c H locs 247 14991 (lw_Z below #[Value.ref b] s) (F0 m 2318 ls []) := by
  obtain ⟨hx, hb, hml, hown, hts⟩ := id St
  have hz0 : zZ (fun _ => 0) := zZ0
  refine lv_aload_n hx hb dL_law__2318 rfl (lv_at hl 3 rfl) ?_
  refine mcallV (g := g) (q0 := 0) (ci := 9) (As := []) (rest := []) St hK hT hA hP hD hS hl.1 [0, 2] [1, 3, 4, 5, 6, 7, 8, 9, 10, 11, 12, 13, 14, 15, 16, 17, 18, 19, 20] rfl rfl rfl (c_home l g x ta o lo go tt lt mo fo ro (-1) a 0 20 6 50 0 1 (fun _ _ => 0) ) (cwV 0 hts (zgL (zl4 k1514 k1515 k1516 k595) k763) rfl rfl rfl (by decide +kernel) ⟨Nat.le_of_ble_eq_true rfl, Nat.le_of_ble_eq_true rfl⟩) rfl rfl rfl rfl (Nat.le_of_ble_eq_true rfl) dL_law__2319 ⟨(Nat.le_of_ble_eq_true rfl), (Nat.le_of_ble_eq_true rfl)⟩ (fun _u H locs hq1 hP hD hS => ?_)
  have hP : va_P g.1 vwCl (List.flatten [bTape g ta ab 0 0 0 0 0 (-1) (fun _ => 0), bLaw g lo ac 0 (-1) 0 0 0 (fun _ => 0), bLog g go ar 0 0 (fun _ => 0), [(tt, .inr (8, [.ref ta, .ref td]))], bTown g td tda 0 0 0 20 6 50 0 1 (fun _ _ => 0), [(lt, .inr (2, [.ref ta, .ref ldr]))], bLaw g ldr lda 0 (-1) 0 0 0 (fun _ => 0), bMem g mo qT qL it il ig 0 0 0 fT fL, bTown g it ia 0 0 0 20 6 50 0 1 (fun _ _ => 0), bLaw g il ic 0 (-1) 0 0 0 (fun _ => 0), bLog g ig ir 0 0 (fun _ => 0), bTown g t0 ta0 0 0 0 20 6 50 0 1 (fun _ _ => 0), bLog g l0 la0 0 0 (fun _ => 0), [(fo, .inr (0, [.ref o, .ref lo, .ref od]))], bTown g od ad 0 0 0 20 6 50 0 1 (fun _ _ => 0), bRid g ro af 0 0 (fun _ => 0), bObj g om am 0 0 0 0 0 0 0 (-1) 0 0 0 0, bArr g am (zf [m0, fun _ => 0, fun _ => 0, fun _ => 0, fun _ => 0, fun _ => 0, fun _ => 0, fun _ => 0]), [(oa, .inl (g.2 2, 1, .inr (.inl (fun _ => 0))))]]) H := hP
  have hD : va_D A (List.flatten [bTape g ta ab 0 0 0 0 0 (-1) (fun _ => 0), bLaw g lo ac 0 (-1) 0 0 0 (fun _ => 0), bLog g go ar 0 0 (fun _ => 0), [(tt, .inr (8, [.ref ta, .ref td]))], bTown g td tda 0 0 0 20 6 50 0 1 (fun _ _ => 0), [(lt, .inr (2, [.ref ta, .ref ldr]))], bLaw g ldr lda 0 (-1) 0 0 0 (fun _ => 0), bMem g mo qT qL it il ig 0 0 0 fT fL, bTown g it ia 0 0 0 20 6 50 0 1 (fun _ _ => 0), bLaw g il ic 0 (-1) 0 0 0 (fun _ => 0), bLog g ig ir 0 0 (fun _ => 0), bTown g t0 ta0 0 0 0 20 6 50 0 1 (fun _ _ => 0), bLog g l0 la0 0 0 (fun _ => 0), [(fo, .inr (0, [.ref o, .ref lo, .ref od]))], bTown g od ad 0 0 0 20 6 50 0 1 (fun _ _ => 0), bRid g ro af 0 0 (fun _ => 0), bObj g om am 0 0 0 0 0 0 0 (-1) 0 0 0 0, bArr g am (zf [m0, fun _ => 0, fun _ => 0, fun _ => 0, fun _ => 0, fun _ => 0, fun _ => 0, fun _ => 0]), [(oa, .inl (g.2 2, 1, .inr (.inl (fun _ => 0))))]]) := hD
  refine W.widen (k := 247) (n := 14991) (Nat.le_of_ble_eq_true rfl) (Nat.le_of_ble_eq_true rfl) ?_
  refine W.eq (g2 := F0 m 2322 ls [.int (-1)]) rfl ?_
  refine lv_aload_n hx hb dL_law__2322 rfl (lv_at hl 2 rfl) ?_
  refine mcallV (g := g) (q0 := 0) (ci := 10) (As := []) (rest := [.int (-1)]) St hK hT hA hP hD hS hl.1 [16, 17] [0, 1, 2, 3, 4, 5, 6, 7, 8, 9, 10, 11, 12, 13, 14, 15, 18] rfl rfl rfl (m_home l g om am 0 0 0 0 0 0 0 (-1) 0 0 0 0 (zf [m0, fun _ => 0, fun _ => 0, fun _ => 0, fun _ => 0, fun _ => 0, fun _ => 0, fun _ => 0]) (by assumption)) (cwV 0 hts (zgL (zl4 k1517 k1518 k1519 k833) k1134) rfl rfl rfl (by decide +kernel) ⟨Nat.le_of_ble_eq_true rfl, Nat.le_of_ble_eq_true rfl⟩) rfl rfl rfl rfl (Nat.le_of_ble_eq_true rfl) dL_law__2323 ⟨(Nat.le_of_ble_eq_true rfl), (Nat.le_of_ble_eq_true rfl)⟩ (fun u_ H locs hq15 hP hD hS => ?_)
  obtain ⟨th2_2, hi2_3, ac2_4, tp2_5, ba2_6, en2_7, tA2_8, fl2_9, de2_10, iD2_11, iO2_12, tU2_13, q_14⟩ := u_
  have hq15 : th2_2 = 0 ∧ q_14 = -1 := hq15
  have hP : va_P g.1 vwCl (List.flatten [bTape g ta ab 0 0 0 0 0 (-1) (fun _ => 0), bLaw g lo ac 0 (-1) 0 0 0 (fun _ => 0), bLog g go ar 0 0 (fun _ => 0), [(tt, .inr (8, [.ref ta, .ref td]))], bTown g td tda 0 0 0 20 6 50 0 1 (fun _ _ => 0), [(lt, .inr (2, [.ref ta, .ref ldr]))], bLaw g ldr lda 0 (-1) 0 0 0 (fun _ => 0), bMem g mo qT qL it il ig 0 0 0 fT fL, bTown g it ia 0 0 0 20 6 50 0 1 (fun _ _ => 0), bLaw g il ic 0 (-1) 0 0 0 (fun _ => 0), bLog g ig ir 0 0 (fun _ => 0), bTown g t0 ta0 0 0 0 20 6 50 0 1 (fun _ _ => 0), bLog g l0 la0 0 0 (fun _ => 0), [(fo, .inr (0, [.ref o, .ref lo, .ref od]))], bTown g od ad 0 0 0 20 6 50 0 1 (fun _ _ => 0), bRid g ro af 0 0 (fun _ => 0), [(oa, .inl (g.2 2, 1, .inr (.inl (fun _ => 0))))], bObj g om am th2_2 hi2_3 ac2_4 tp2_5 ba2_6 en2_7 tA2_8 fl2_9 de2_10 iD2_11 iO2_12 tU2_13]) H := hP
  have hD : va_D A (List.flatten [bTape g ta ab 0 0 0 0 0 (-1) (fun _ => 0), bLaw g lo ac 0 (-1) 0 0 0 (fun _ => 0), bLog g go ar 0 0 (fun _ => 0), [(tt, .inr (8, [.ref ta, .ref td]))], bTown g td tda 0 0 0 20 6 50 0 1 (fun _ _ => 0), [(lt, .inr (2, [.ref ta, .ref ldr]))], bLaw g ldr lda 0 (-1) 0 0 0 (fun _ => 0), bMem g mo qT qL it il ig 0 0 0 fT fL, bTown g it ia 0 0 0 20 6 50 0 1 (fun _ _ => 0), bLaw g il ic 0 (-1) 0 0 0 (fun _ => 0), bLog g ig ir 0 0 (fun _ => 0), bTown g t0 ta0 0 0 0 20 6 50 0 1 (fun _ _ => 0), bLog g l0 la0 0 0 (fun _ => 0), [(fo, .inr (0, [.ref o, .ref lo, .ref od]))], bTown g od ad 0 0 0 20 6 50 0 1 (fun _ _ => 0), bRid g ro af 0 0 (fun _ => 0), [(oa, .inl (g.2 2, 1, .inr (.inl (fun _ => 0))))], bObj g om am th2_2 hi2_3 ac2_4 tp2_5 ba2_6 en2_7 tA2_8 fl2_9 de2_10 iD2_11 iO2_12 tU2_13]) := hD
  refine W.widen (k := 247) (n := 14991) (Nat.le_of_ble_eq_true rfl) (Nat.le_of_ble_eq_true rfl) ?_
  refine W.eq (g2 := F0 m 2326 ls [.int q_14, .int (-1)]) rfl ?_
  refine lv_icmp_eq (tgt := 2738) hx hb dL_law__2326 (by decide) (fun _ => ?_) (fun c16 => absurd ((hq15.2).symm) c16)
  refine lv_iinc (v := 6) (lv' := [(4, .int 6), (3, .ref oa), (2, .ref om), (1, .ref x), (0, .ref b)]) hx hb dL_law__2738 hl (k := 0) rfl (by decide) (by decide) rfl (fun ls hl => ?_)
  refine lv_goto (tgt := 23) hx hb dL_law__2741 (by decide) ?_
  refine lv_iload hx hb dL_law__23 (lv_at hl 0 rfl) ?_
  refine lv_aload_n hx hb dL_law__25 rfl (lv_at hl 4 rfl) ?_
  refine va_slen hx hb hX hbl hbA hS dL_law__26 ?_
  refine ztop (r := 6) rfl ?_
  refine lv_bipush (v := 6) hx hb dL_law__27 (by decide) ?_
  refine lv_isub hx hb dL_law__29 ?_
  refine ztop (r := 0) (by decide) ?_
  refine lv_icmp_gt (tgt := 2744) hx hb dL_law__30 (by decide) (fun _ => ?_) (fun c17 => absurd (by decide) c17)
  refine lv_iconst (v := 1) hx hb dL_law__2744 (by decide) ?_
  refine va_forget (fun q hq => by have h9 := hS.2.2 q hq; rw [hAe] at h9; exact h9) ?_
  refine W.widen (k := 600002) (n := 7302232) (Nat.le_of_ble_eq_true rfl) (Nat.le_of_ble_eq_true rfl) ?_
  exact lw_ret hx hb hr hlocks dL_law__2745
set_option maxRecDepth 100000 in
set_option maxHeartbeats 4000000 in
/-- the law: trial -/
theorem w_41 {p : Program} {e : Env} {s : State} {m : MethodId} {below : List Frame} {meth : Method} {c : Code} (l : Launch) (hfl : l.stackTraces = false) (g : zG) {b : Nat} {xs : Nat → Int32} {A : Nat → Prop} (hAe : A = fun q => s.heap.size ≤ q) (hA : ∀ q, s.heap.size ≤ q → A q) (hbA : ¬ A b) (St : CallFix p m c cL_law_ 7 s #[Value.ref b] zB RL) (hr : meth.sig.returnType = ret) (hlocks : meth.locks = false) (hX : va_X b 6 xs s s.heap) (hbl : b < s.heap.size) (hK : zK g s) (hT : zTh A s) (x : Nat) (ta : Nat) (o : Nat) (lo : Nat) (go : Nat) (tt : Nat) (lt : Nat) (mo : Nat) (fo : Nat) (ro : Nat) (ab : Nat) (ac : Nat) (ar : Nat) (td : Nat) (a : Nat → Nat) (tda : Nat → Nat) (ldr : Nat) (lda : Nat) (qT : Nat) (qL : Nat) (it : Nat) (il : Nat) (ig : Nat) (fT : Nat → Option Nat) (fL : Nat → Option Nat) (ia : Nat → Nat) (ic : Nat) (ir : Nat) (t0 : Nat) (ta0 : Nat → Nat) (l0 : Nat) (la0 : Nat) (od : Nat) (ad : Nat → Nat) (af : Nat) (om : Nat) (am : Nat → Nat) (m0 : Nat → Int32) (oa : Nat) (hT0 : fT 0 = some t0) (hL0 : fL 0 = some l0) (hm : zMo m0) (h8 : m0 8 = 0) (h10 : m0 10 = 1) (H : Heap) (locs : List Loc) (ls : Array Slot) (hP : va_P g.1 vwCl (List.flatten [bDR g x ta o lo go tt lt mo fo ro (-1), bTape g ta ab 0 0 0 0 0 (-1) (fun _ => 0), bTown g o a 0 0 0 20 6 50 0 1 (fun _ _ => 0), bLaw g lo ac 0 (-1) 0 0 0 (fun _ => 0), bLog g go ar 0 0 (fun _ => 0), [(tt, .inr (8, [.ref ta, .ref td]))], bTown g td tda 0 0 0 20 6 50 0 1 (fun _ _ => 0), [(lt, .inr (2, [.ref ta, .ref ldr]))], bLaw g ldr lda 0 (-1) 0 0 0 (fun _ => 0), bMem g mo qT qL it il ig 0 0 0 fT fL, bTown g it ia 0 0 0 20 6 50 0 1 (fun _ _ => 0), bLaw g il ic 0 (-1) 0 0 0 (fun _ => 0), bLog g ig ir 0 0 (fun _ => 0), bTown g t0 ta0 0 0 0 20 6 50 0 1 (fun _ _ => 0), bLog g l0 la0 0 0 (fun _ => 0), [(fo, .inr (0, [.ref o, .ref lo, .ref od]))], bTown g od ad 0 0 0 20 6 50 0 1 (fun _ _ => 0), bRid g ro af 0 0 (fun _ => 0), bObj g om am 0 0 0 0 0 0 0 (-1) 0 0 0 0, bArr g am (zf [m0, fun _ => 0, fun _ => 0, fun _ => 0, fun _ => 0, fun _ => 0, fun _ => 0, fun _ => 0]), [(oa, .inl (g.2 2, 1, .inr (.inl (fun _ => 0))))]]) H) (hD : va_D A (List.flatten [bDR g x ta o lo go tt lt mo fo ro (-1), bTape g ta ab 0 0 0 0 0 (-1) (fun _ => 0), bTown g o a 0 0 0 20 6 50 0 1 (fun _ _ => 0), bLaw g lo ac 0 (-1) 0 0 0 (fun _ => 0), bLog g go ar 0 0 (fun _ => 0), [(tt, .inr (8, [.ref ta, .ref td]))], bTown g td tda 0 0 0 20 6 50 0 1 (fun _ _ => 0), [(lt, .inr (2, [.ref ta, .ref ldr]))], bLaw g ldr lda 0 (-1) 0 0 0 (fun _ => 0), bMem g mo qT qL it il ig 0 0 0 fT fL, bTown g it ia 0 0 0 20 6 50 0 1 (fun _ _ => 0), bLaw g il ic 0 (-1) 0 0 0 (fun _ => 0), bLog g ig ir 0 0 (fun _ => 0), bTown g t0 ta0 0 0 0 20 6 50 0 1 (fun _ _ => 0), bLog g l0 la0 0 0 (fun _ => 0), [(fo, .inr (0, [.ref o, .ref lo, .ref od]))], bTown g od ad 0 0 0 20 6 50 0 1 (fun _ _ => 0), bRid g ro af 0 0 (fun _ => 0), bObj g om am 0 0 0 0 0 0 0 (-1) 0 0 0 0, bArr g am (zf [m0, fun _ => 0, fun _ => 0, fun _ => 0, fun _ => 0, fun _ => 0, fun _ => 0, fun _ => 0]), [(oa, .inl (g.2 2, 1, .inr (.inl (fun _ => 0))))]])) (hS : va_S A s.heap H locs) (hl : lv_has ls 7 [(4, .int 0), (3, .ref oa), (2, .ref om), (1, .ref x), (0, .ref b)]) : W p l e room_1 s m #[Value.ref b] below meth c H locs 247 14991 (lw_Z below #[Value.ref b] s) (F0 m 2331 ls []) := by
  obtain ⟨hx, hb, hml, hown, hts⟩ := id St
  have hz0 : zZ (fun _ => 0) := zZ0
  refine lv_aload_n hx hb dL_law__2331 rfl (lv_at hl 3 rfl) ?_
  refine lv_aload_n hx hb dL_law__2332 rfl (lv_at hl 4 rfl) ?_
  refine lv_iload hx hb dL_law__2333 (lv_at hl 0 rfl) ?_
  refine lv_iconst (v := 1) hx hb dL_law__2335 (by decide) ?_
  refine lv_iadd hx hb dL_law__2336 ?_
  refine ztop (r := 1) (by decide) ?_
  refine va_sld hx hb hX hbl hbA hS (zin rfl) dL_law__2337 ?_
  refine ztop (r := xs 1) rfl ?_
  refine lv_aload_n hx hb dL_law__2338 rfl (lv_at hl 4 rfl) ?_
  refine lv_iload hx hb dL_law__2339 (lv_at hl 0 rfl) ?_
  refine lv_iconst (v := 2) hx hb dL_law__2341 (by decide) ?_
  refine lv_iadd hx hb dL_law__2342 ?_
  refine ztop (r := 2) (by decide) ?_
  refine va_sld hx hb hX hbl hbA hS (zin rfl) dL_law__2343 ?_
  refine ztop (r := xs 2) rfl ?_
  refine lv_if_eq (tgt := 2351) hx hb dL_law__2344 (by decide) (fun cZ => ?_) (fun cZ => ?_)
  · skip
    refine lv_iconst (v := 0) hx hb dL_law__2351 (by decide) ?_
    refine lv_aload_n hx hb dL_law__2352 rfl (lv_at hl 1 rfl) ?_
    refine xcallSX (g := g) (As := [.ref x, .int (xs 1), .int 0, .ref oa]) (rest := []) St hK hT hA hP hD hS hl.1 [0, 2, 15, 3, 16, 20] [1, 4, 5, 6, 7, 8, 9, 10, 11, 12, 13, 14, 17, 18, 19] rfl rfl rfl (l_trial l hfl g x ta o lo go tt lt mo fo ro (-1) a 0 20 6 50 0 1 (fun _ _ => 0) ac 0 (-1) 0 0 0 (fun _ => 0) od ad 0 0 0 20 6 50 0 1 (fun _ _ => 0) (xs 1) 0 oa (fun _ => 0) (by assumption)) (vx_cwSW 4 hts (zgL (zl3 k1520 k1521 k1313) k1277) rfl rfl rfl (by decide +kernel) ⟨Nat.le_of_ble_eq_true rfl, Nat.le_of_ble_eq_true rfl⟩) rfl rfl (Nat.le_of_ble_eq_true rfl) dL_law__2353 ⟨(Nat.le_of_ble_eq_true rfl), (Nat.le_of_ble_eq_true rfl)⟩ (fun E ce q9 u9 H locs hpx hP hD hS hce hcv hcl => hpx.elim) (fun u_ H locs hq5 hP hD hS => ?_)
    obtain ⟨r_2, fz2_3, q_4⟩ := u_
    have hq5 : (r_2 = 1 ∧ ((xs 1) < 0 ∨ 60 < (xs 1))) ∨ (r_2 = 0 ∧ ((¬ (xs 1) < 0 ∧ ¬ 60 < (xs 1)) ∧ q_4 = if 0 = 0 then 0 else 20) ∧ fz2_3 0 = (q_4 : Int32).toInt64) := hq5
    have hP : va_P g.1 vwCl (List.flatten [bTape g ta ab 0 0 0 0 0 (-1) (fun _ => 0), bLog g go ar 0 0 (fun _ => 0), [(tt, .inr (8, [.ref ta, .ref td]))], bTown g td tda 0 0 0 20 6 50 0 1 (fun _ _ => 0), [(lt, .inr (2, [.ref ta, .ref ldr]))], bLaw g ldr lda 0 (-1) 0 0 0 (fun _ => 0), bMem g mo qT qL it il ig 0 0 0 fT fL, bTown g it ia 0 0 0 20 6 50 0 1 (fun _ _ => 0), bLaw g il ic 0 (-1) 0 0 0 (fun _ => 0), bLog g ig ir 0 0 (fun _ => 0), bTown g t0 ta0 0 0 0 20 6 50 0 1 (fun _ _ => 0), bLog g l0 la0 0 0 (fun _ => 0), bRid g ro af 0 0 (fun _ => 0), bObj g om am 0 0 0 0 0 0 0 (-1) 0 0 0 0, bArr g am (zf [m0, fun _ => 0, fun _ => 0, fun _ => 0, fun _ => 0, fun _ => 0, fun _ => 0, fun _ => 0]), [(oa, .inl (g.2 2, 1, .inr (.inl fz2_3)))]]) H := hP
    have hD : va_D A (List.flatten [bTape g ta ab 0 0 0 0 0 (-1) (fun _ => 0), bLog g go ar 0 0 (fun _ => 0), [(tt, .inr (8, [.ref ta, .ref td]))], bTown g td tda 0 0 0 20 6 50 0 1 (fun _ _ => 0), [(lt, .inr (2, [.ref ta, .ref ldr]))], bLaw g ldr lda 0 (-1) 0 0 0 (fun _ => 0), bMem g mo qT qL it il ig 0 0 0 fT fL, bTown g it ia 0 0 0 20 6 50 0 1 (fun _ _ => 0), bLaw g il ic 0 (-1) 0 0 0 (fun _ => 0), bLog g ig ir 0 0 (fun _ => 0), bTown g t0 ta0 0 0 0 20 6 50 0 1 (fun _ _ => 0), bLog g l0 la0 0 0 (fun _ => 0), bRid g ro af 0 0 (fun _ => 0), bObj g om am 0 0 0 0 0 0 0 (-1) 0 0 0 0, bArr g am (zf [m0, fun _ => 0, fun _ => 0, fun _ => 0, fun _ => 0, fun _ => 0, fun _ => 0, fun _ => 0]), [(oa, .inl (g.2 2, 1, .inr (.inl fz2_3)))]]) := hD
    refine W.widen (k := 248) (n := 14997) (Nat.le_of_ble_eq_true rfl) (Nat.le_of_ble_eq_true rfl) ?_
    refine W.eq (g2 := F0 m 2356 ls [.int r_2]) rfl ?_
    refine lv_istore (lv' := [(5, .int r_2), (4, .int 0), (3, .ref oa), (2, .ref om), (1, .ref x), (0, .ref b)]) hx hb dL_law__2356 hl (by decide) rfl (fun ls hl => ?_)
    refine lv_aload_n hx hb dL_law__2358 rfl (lv_at hl 3 rfl) ?_
    refine lv_aload_n hx hb dL_law__2359 rfl (lv_at hl 5 rfl) ?_
    refine lv_iload hx hb dL_law__2360 (lv_at hl 1 rfl) ?_
    refine lv_iconst (v := 1) hx hb dL_law__2362 (by decide) ?_
    refine lv_iadd hx hb dL_law__2363 ?_
    refine ztop (r := 1) (by decide) ?_
    refine va_sld hx hb hX hbl hbA hS (zin rfl) dL_law__2364 ?_
    refine ztop (r := xs 1) rfl ?_
    refine lv_aload_n hx hb dL_law__2365 rfl (lv_at hl 5 rfl) ?_
    refine lv_iload hx hb dL_law__2366 (lv_at hl 1 rfl) ?_
    refine lv_iconst (v := 2) hx hb dL_law__2368 (by decide) ?_
    refine lv_iadd hx hb dL_law__2369 ?_
    refine ztop (r := 2) (by decide) ?_
    refine va_sld hx hb hX hbl hbA hS (zin rfl) dL_law__2370 ?_
    refine ztop (r := xs 2) rfl ?_
    refine lv_if_eq (tgt := 2378) hx hb dL_law__2371 (by decide) (fun _ => ?_) (fun c6 => absurd cZ c6)
    refine lv_iconst (v := 0) hx hb dL_law__2378 (by decide) ?_
    refine mcallV (g := g) (q0 := 0) (ci := 10) (As := [.int (xs 1), .int 0]) (rest := []) St hK hT hA hP hD hS hl.1 [13, 14] [0, 1, 2, 3, 4, 5, 6, 7, 8, 9, 10, 11, 12, 15] rfl rfl rfl (m_trial l g om am 0 0 0 0 0 0 0 (-1) 0 0 0 0 (zf [m0, fun _ => 0, fun _ => 0, fun _ => 0, fun _ => 0, fun _ => 0, fun _ => 0, fun _ => 0]) (xs 1) 0 (by assumption)) (cwV 2 hts (zgL (zl4 k1522 k1523 k1524 k833) k1135) rfl rfl rfl (by decide +kernel) ⟨Nat.le_of_ble_eq_true rfl, Nat.le_of_ble_eq_true rfl⟩) rfl rfl rfl rfl (Nat.le_of_ble_eq_true rfl) dL_law__2379 ⟨(Nat.le_of_ble_eq_true rfl), (Nat.le_of_ble_eq_true rfl)⟩ (fun u_ H locs hq20 hP hD hS => ?_)
    obtain ⟨th2_7, hi2_8, ac2_9, tp2_10, ba2_11, en2_12, tA2_13, fl2_14, de2_15, iD2_16, iO2_17, tU2_18, q_19⟩ := u_
    have hq20 : (th2_7 = 1 ∧ (((xs 1) : Int32) < 0 ∨ 60 < ((xs 1) : Int32))) ∨ (th2_7 = 0 ∧ (¬ ((xs 1) : Int32) < 0 ∧ ¬ 60 < ((xs 1) : Int32)) ∧ q_19 = if 0 = 0 then 0 else 20) := hq20
    have hP : va_P g.1 vwCl (List.flatten [bTape g ta ab 0 0 0 0 0 (-1) (fun _ => 0), bLog g go ar 0 0 (fun _ => 0), [(tt, .inr (8, [.ref ta, .ref td]))], bTown g td tda 0 0 0 20 6 50 0 1 (fun _ _ => 0), [(lt, .inr (2, [.ref ta, .ref ldr]))], bLaw g ldr lda 0 (-1) 0 0 0 (fun _ => 0), bMem g mo qT qL it il ig 0 0 0 fT fL, bTown g it ia 0 0 0 20 6 50 0 1 (fun _ _ => 0), bLaw g il ic 0 (-1) 0 0 0 (fun _ => 0), bLog g ig ir 0 0 (fun _ => 0), bTown g t0 ta0 0 0 0 20 6 50 0 1 (fun _ _ => 0), bLog g l0 la0 0 0 (fun _ => 0), bRid g ro af 0 0 (fun _ => 0), [(oa, .inl (g.2 2, 1, .inr (.inl fz2_3)))], bObj g om am th2_7 hi2_8 ac2_9 tp2_10 ba2_11 en2_12 tA2_13 fl2_14 de2_15 iD2_16 iO2_17 tU2_18]) H := hP
    have hD : va_D A (List.flatten [bTape g ta ab 0 0 0 0 0 (-1) (fun _ => 0), bLog g go ar 0 0 (fun _ => 0), [(tt, .inr (8, [.ref ta, .ref td]))], bTown g td tda 0 0 0 20 6 50 0 1 (fun _ _ => 0), [(lt, .inr (2, [.ref ta, .ref ldr]))], bLaw g ldr lda 0 (-1) 0 0 0 (fun _ => 0), bMem g mo qT qL it il ig 0 0 0 fT fL, bTown g it ia 0 0 0 20 6 50 0 1 (fun _ _ => 0), bLaw g il ic 0 (-1) 0 0 0 (fun _ => 0), bLog g ig ir 0 0 (fun _ => 0), bTown g t0 ta0 0 0 0 20 6 50 0 1 (fun _ _ => 0), bLog g l0 la0 0 0 (fun _ => 0), bRid g ro af 0 0 (fun _ => 0), [(oa, .inl (g.2 2, 1, .inr (.inl fz2_3)))], bObj g om am th2_7 hi2_8 ac2_9 tp2_10 ba2_11 en2_12 tA2_13 fl2_14 de2_15 iD2_16 iO2_17 tU2_18]) := hD
    refine W.widen (k := 248) (n := 14997) (Nat.le_of_ble_eq_true rfl) (Nat.le_of_ble_eq_true rfl) ?_
    refine W.eq (g2 := F0 m 2382 ls [.int q_19]) rfl ?_
    rcases hq5 with ⟨hr9, hb9⟩ | ⟨hr9, hg9⟩
    · skip
      rcases hq20 with ⟨ht9, hB9⟩ | ⟨ht9, hG9⟩
      · skip
        subst hr9
        subst ht9
        refine lv_istore (lv' := [(6, .int q_19), (5, .int 1), (4, .int 0), (3, .ref oa), (2, .ref om), (1, .ref x), (0, .ref b)]) hx hb dL_law__2382 hl (by decide) rfl (fun ls hl => ?_)
        refine lv_aload_n hx hb dL_law__2384 rfl (lv_at hl 4 rfl) ?_
        refine mcallV (g := g) (q0 := 0) (ci := 10) (As := []) (rest := []) St hK hT hA hP hD hS hl.1 [14] [0, 1, 2, 3, 4, 5, 6, 7, 8, 9, 10, 11, 12, 13] rfl rfl rfl (m_thrown l g om am 1 hi2_8 ac2_9 tp2_10 ba2_11 en2_12 tA2_13 fl2_14 de2_15 iD2_16 iO2_17 tU2_18 ) (cwV 0 hts (zgL (zl4 k1317 k1318 k1319 k833) k824) rfl rfl rfl (by decide +kernel) ⟨Nat.le_of_ble_eq_true rfl, Nat.le_of_ble_eq_true rfl⟩) rfl rfl rfl rfl (Nat.le_of_ble_eq_true rfl) dL_law__2385 ⟨(Nat.le_of_ble_eq_true rfl), (Nat.le_of_ble_eq_true rfl)⟩ (fun _u H locs hq21 hP hD hS => ?_)
        have hP : va_P g.1 vwCl (List.flatten [bTape g ta ab 0 0 0 0 0 (-1) (fun _ => 0), bLog g go ar 0 0 (fun _ => 0), [(tt, .inr (8, [.ref ta, .ref td]))], bTown g td tda 0 0 0 20 6 50 0 1 (fun _ _ => 0), [(lt, .inr (2, [.ref ta, .ref ldr]))], bLaw g ldr lda 0 (-1) 0 0 0 (fun _ => 0), bMem g mo qT qL it il ig 0 0 0 fT fL, bTown g it ia 0 0 0 20 6 50 0 1 (fun _ _ => 0), bLaw g il ic 0 (-1) 0 0 0 (fun _ => 0), bLog g ig ir 0 0 (fun _ => 0), bTown g t0 ta0 0 0 0 20 6 50 0 1 (fun _ _ => 0), bLog g l0 la0 0 0 (fun _ => 0), bRid g ro af 0 0 (fun _ => 0), [(oa, .inl (g.2 2, 1, .inr (.inl fz2_3)))], bObj g om am 1 hi2_8 ac2_9 tp2_10 ba2_11 en2_12 tA2_13 fl2_14 de2_15 iD2_16 iO2_17 tU2_18]) H := hP
        have hD : va_D A (List.flatten [bTape g ta ab 0 0 0 0 0 (-1) (fun _ => 0), bLog g go ar 0 0 (fun _ => 0), [(tt, .inr (8, [.ref ta, .ref td]))], bTown g td tda 0 0 0 20 6 50 0 1 (fun _ _ => 0), [(lt, .inr (2, [.ref ta, .ref ldr]))], bLaw g ldr lda 0 (-1) 0 0 0 (fun _ => 0), bMem g mo qT qL it il ig 0 0 0 fT fL, bTown g it ia 0 0 0 20 6 50 0 1 (fun _ _ => 0), bLaw g il ic 0 (-1) 0 0 0 (fun _ => 0), bLog g ig ir 0 0 (fun _ => 0), bTown g t0 ta0 0 0 0 20 6 50 0 1 (fun _ _ => 0), bLog g l0 la0 0 0 (fun _ => 0), bRid g ro af 0 0 (fun _ => 0), [(oa, .inl (g.2 2, 1, .inr (.inl fz2_3)))], bObj g om am 1 hi2_8 ac2_9 tp2_10 ba2_11 en2_12 tA2_13 fl2_14 de2_15 iD2_16 iO2_17 tU2_18]) := hD
        refine W.widen (k := 248) (n := 14997) (Nat.le_of_ble_eq_true rfl) (Nat.le_of_ble_eq_true rfl) ?_
        refine W.eq (g2 := F0 m 2388 ls [.int 1]) rfl ?_
        refine lv_iload hx hb dL_law__2388 (lv_at hl 1 rfl) ?_
        refine lv_icmp_eq (tgt := 2395) hx hb dL_law__2390 (by decide) (fun _ => ?_) (fun c22 => absurd (by decide) c22)
        refine lv_iload hx hb dL_law__2395 (lv_at hl 1 rfl) ?_
        refine lv_if_ne (tgt := 2412) hx hb dL_law__2397 (by decide) (fun _ => ?_) (fun c23 => absurd c23 (by decide))
        refine lv_goto (tgt := 2738) hx hb dL_law__2412 (by decide) ?_
        refine lv_iinc (v := 6) (lv' := [(4, .int 6), (6, .int q_19), (5, .int 1), (3, .ref oa), (2, .ref om), (1, .ref x), (0, .ref b)]) hx hb dL_law__2738 hl (k := 2) rfl (by decide) (by decide) rfl (fun ls hl => ?_)
        refine lv_goto (tgt := 23) hx hb dL_law__2741 (by decide) ?_
        refine lv_iload hx hb dL_law__23 (lv_at hl 0 rfl) ?_
        refine lv_aload_n hx hb dL_law__25 rfl (lv_at hl 6 rfl) ?_
        refine va_slen hx hb hX hbl hbA hS dL_law__26 ?_
        refine ztop (r := 6) rfl ?_
        refine lv_bipush (v := 6) hx hb dL_law__27 (by decide) ?_
        refine lv_isub hx hb dL_law__29 ?_
        refine ztop (r := 0) (by decide) ?_
        refine lv_icmp_gt (tgt := 2744) hx hb dL_law__30 (by decide) (fun _ => ?_) (fun c24 => absurd (by decide) c24)
        refine lv_iconst (v := 1) hx hb dL_law__2744 (by decide) ?_
        refine va_forget (fun q hq => by have h9 := hS.2.2 q hq; rw [hAe] at h9; exact h9) ?_
        refine W.widen (k := 600002) (n := 7302232) (Nat.le_of_ble_eq_true rfl) (Nat.le_of_ble_eq_true rfl) ?_
        exact lw_ret hx hb hr hlocks dL_law__2745
      · skip
        exact (hb9.elim hG9.1.1 hG9.1.2).elim
    · skip
      rcases hq20 with ⟨ht9, hB9⟩ | ⟨ht9, hG9⟩
      · skip
        exact (hB9.elim hg9.1.1.1 hg9.1.1.2).elim
      · skip
        subst hr9
        subst ht9
        refine lv_istore (lv' := [(6, .int q_19), (5, .int 0), (4, .int 0), (3, .ref oa), (2, .ref om), (1, .ref x), (0, .ref b)]) hx hb dL_law__2382 hl (by decide) rfl (fun ls hl => ?_)
        refine lv_aload_n hx hb dL_law__2384 rfl (lv_at hl 4 rfl) ?_
        refine mcallV (g := g) (q0 := 0) (ci := 10) (As := []) (rest := []) St hK hT hA hP hD hS hl.1 [14] [0, 1, 2, 3, 4, 5, 6, 7, 8, 9, 10, 11, 12, 13] rfl rfl rfl (m_thrown l g om am 0 hi2_8 ac2_9 tp2_10 ba2_11 en2_12 tA2_13 fl2_14 de2_15 iD2_16 iO2_17 tU2_18 ) (cwV 0 hts (zgL (zl4 k1317 k1318 k1319 k833) k824) rfl rfl rfl (by decide +kernel) ⟨Nat.le_of_ble_eq_true rfl, Nat.le_of_ble_eq_true rfl⟩) rfl rfl rfl rfl (Nat.le_of_ble_eq_true rfl) dL_law__2385 ⟨(Nat.le_of_ble_eq_true rfl), (Nat.le_of_ble_eq_true rfl)⟩ (fun _u H locs hq25 hP hD hS => ?_)
        have hP : va_P g.1 vwCl (List.flatten [bTape g ta ab 0 0 0 0 0 (-1) (fun _ => 0), bLog g go ar 0 0 (fun _ => 0), [(tt, .inr (8, [.ref ta, .ref td]))], bTown g td tda 0 0 0 20 6 50 0 1 (fun _ _ => 0), [(lt, .inr (2, [.ref ta, .ref ldr]))], bLaw g ldr lda 0 (-1) 0 0 0 (fun _ => 0), bMem g mo qT qL it il ig 0 0 0 fT fL, bTown g it ia 0 0 0 20 6 50 0 1 (fun _ _ => 0), bLaw g il ic 0 (-1) 0 0 0 (fun _ => 0), bLog g ig ir 0 0 (fun _ => 0), bTown g t0 ta0 0 0 0 20 6 50 0 1 (fun _ _ => 0), bLog g l0 la0 0 0 (fun _ => 0), bRid g ro af 0 0 (fun _ => 0), [(oa, .inl (g.2 2, 1, .inr (.inl fz2_3)))], bObj g om am 0 hi2_8 ac2_9 tp2_10 ba2_11 en2_12 tA2_13 fl2_14 de2_15 iD2_16 iO2_17 tU2_18]) H := hP
        have hD : va_D A (List.flatten [bTape g ta ab 0 0 0 0 0 (-1) (fun _ => 0), bLog g go ar 0 0 (fun _ => 0), [(tt, .inr (8, [.ref ta, .ref td]))], bTown g td tda 0 0 0 20 6 50 0 1 (fun _ _ => 0), [(lt, .inr (2, [.ref ta, .ref ldr]))], bLaw g ldr lda 0 (-1) 0 0 0 (fun _ => 0), bMem g mo qT qL it il ig 0 0 0 fT fL, bTown g it ia 0 0 0 20 6 50 0 1 (fun _ _ => 0), bLaw g il ic 0 (-1) 0 0 0 (fun _ => 0), bLog g ig ir 0 0 (fun _ => 0), bTown g t0 ta0 0 0 0 20 6 50 0 1 (fun _ _ => 0), bLog g l0 la0 0 0 (fun _ => 0), bRid g ro af 0 0 (fun _ => 0), [(oa, .inl (g.2 2, 1, .inr (.inl fz2_3)))], bObj g om am 0 hi2_8 ac2_9 tp2_10 ba2_11 en2_12 tA2_13 fl2_14 de2_15 iD2_16 iO2_17 tU2_18]) := hD
        refine W.widen (k := 248) (n := 14997) (Nat.le_of_ble_eq_true rfl) (Nat.le_of_ble_eq_true rfl) ?_
        refine W.eq (g2 := F0 m 2388 ls [.int 0]) rfl ?_
        refine lv_iload hx hb dL_law__2388 (lv_at hl 1 rfl) ?_
        refine lv_icmp_eq (tgt := 2395) hx hb dL_law__2390 (by decide) (fun _ => ?_) (fun c26 => absurd (by decide) c26)
        refine lv_iload hx hb dL_law__2395 (lv_at hl 1 rfl) ?_
        refine lv_if_ne (tgt := 2412) hx hb dL_law__2397 (by decide) (fun c27 => absurd (by decide) c27) (fun _ => ?_)
        refine lv_aload_n hx hb dL_law__2400 rfl (lv_at hl 3 rfl) ?_
        refine lv_iconst (v := 0) hx hb dL_law__2401 (by decide) ?_
        refine va_lald hx hb hK hP 55 2 rfl rfl (zin rfl) dL_law__2402 ?_
        refine ztopl (r := fz2_3 0) rfl ?_
        refine lv_iload hx hb dL_law__2403 (lv_at hl 0 rfl) ?_
        refine lv_i2l (v := (q_19 : Int32).toInt64) hx hb dL_law__2405 rfl ?_
        refine W.lcmp hx hb dL_law__2406 ?_
        refine lv_if_eq (tgt := 2412) hx hb dL_law__2407 (by decide) (fun _ => ?_) (fun c28 => absurd (by rw [hg9.2, hg9.1.2, hG9.2]; exact lg_self _) c28)
        refine lv_goto (tgt := 2738) hx hb dL_law__2412 (by decide) ?_
        refine lv_iinc (v := 6) (lv' := [(4, .int 6), (6, .int q_19), (5, .int 0), (3, .ref oa), (2, .ref om), (1, .ref x), (0, .ref b)]) hx hb dL_law__2738 hl (k := 2) rfl (by decide) (by decide) rfl (fun ls hl => ?_)
        refine lv_goto (tgt := 23) hx hb dL_law__2741 (by decide) ?_
        refine lv_iload hx hb dL_law__23 (lv_at hl 0 rfl) ?_
        refine lv_aload_n hx hb dL_law__25 rfl (lv_at hl 6 rfl) ?_
        refine va_slen hx hb hX hbl hbA hS dL_law__26 ?_
        refine ztop (r := 6) rfl ?_
        refine lv_bipush (v := 6) hx hb dL_law__27 (by decide) ?_
        refine lv_isub hx hb dL_law__29 ?_
        refine ztop (r := 0) (by decide) ?_
        refine lv_icmp_gt (tgt := 2744) hx hb dL_law__30 (by decide) (fun _ => ?_) (fun c29 => absurd (by decide) c29)
        refine lv_iconst (v := 1) hx hb dL_law__2744 (by decide) ?_
        refine va_forget (fun q hq => by have h9 := hS.2.2 q hq; rw [hAe] at h9; exact h9) ?_
        refine W.widen (k := 600002) (n := 7302232) (Nat.le_of_ble_eq_true rfl) (Nat.le_of_ble_eq_true rfl) ?_
        exact lw_ret hx hb hr hlocks dL_law__2745
  · skip
    refine lv_iconst (v := 1) hx hb dL_law__2347 (by decide) ?_
    refine lv_goto (tgt := 2352) hx hb dL_law__2348 (by decide) ?_
    refine lv_aload_n hx hb dL_law__2352 rfl (lv_at hl 1 rfl) ?_
    refine xcallSX (g := g) (As := [.ref x, .int (xs 1), .int 1, .ref oa]) (rest := []) St hK hT hA hP hD hS hl.1 [0, 2, 15, 3, 16, 20] [1, 4, 5, 6, 7, 8, 9, 10, 11, 12, 13, 14, 17, 18, 19] rfl rfl rfl (l_trial l hfl g x ta o lo go tt lt mo fo ro (-1) a 0 20 6 50 0 1 (fun _ _ => 0) ac 0 (-1) 0 0 0 (fun _ => 0) od ad 0 0 0 20 6 50 0 1 (fun _ _ => 0) (xs 1) 1 oa (fun _ => 0) (by assumption)) (vx_cwSW 4 hts (zgL (zl3 k1520 k1521 k1313) k1277) rfl rfl rfl (by decide +kernel) ⟨Nat.le_of_ble_eq_true rfl, Nat.le_of_ble_eq_true rfl⟩) rfl rfl (Nat.le_of_ble_eq_true rfl) dL_law__2353 ⟨(Nat.le_of_ble_eq_true rfl), (Nat.le_of_ble_eq_true rfl)⟩ (fun E ce q9 u9 H locs hpx hP hD hS hce hcv hcl => hpx.elim) (fun u_ H locs hq33 hP hD hS => ?_)
    obtain ⟨r_30, fz2_31, q_32⟩ := u_
    have hq33 : (r_30 = 1 ∧ ((xs 1) < 0 ∨ 60 < (xs 1))) ∨ (r_30 = 0 ∧ ((¬ (xs 1) < 0 ∧ ¬ 60 < (xs 1)) ∧ q_32 = if 1 = 0 then 0 else 20) ∧ fz2_31 0 = (q_32 : Int32).toInt64) := hq33
    have hP : va_P g.1 vwCl (List.flatten [bTape g ta ab 0 0 0 0 0 (-1) (fun _ => 0), bLog g go ar 0 0 (fun _ => 0), [(tt, .inr (8, [.ref ta, .ref td]))], bTown g td tda 0 0 0 20 6 50 0 1 (fun _ _ => 0), [(lt, .inr (2, [.ref ta, .ref ldr]))], bLaw g ldr lda 0 (-1) 0 0 0 (fun _ => 0), bMem g mo qT qL it il ig 0 0 0 fT fL, bTown g it ia 0 0 0 20 6 50 0 1 (fun _ _ => 0), bLaw g il ic 0 (-1) 0 0 0 (fun _ => 0), bLog g ig ir 0 0 (fun _ => 0), bTown g t0 ta0 0 0 0 20 6 50 0 1 (fun _ _ => 0), bLog g l0 la0 0 0 (fun _ => 0), bRid g ro af 0 0 (fun _ => 0), bObj g om am 0 0 0 0 0 0 0 (-1) 0 0 0 0, bArr g am (zf [m0, fun _ => 0, fun _ => 0, fun _ => 0, fun _ => 0, fun _ => 0, fun _ => 0, fun _ => 0]), [(oa, .inl (g.2 2, 1, .inr (.inl fz2_31)))]]) H := hP
    have hD : va_D A (List.flatten [bTape g ta ab 0 0 0 0 0 (-1) (fun _ => 0), bLog g go ar 0 0 (fun _ => 0), [(tt, .inr (8, [.ref ta, .ref td]))], bTown g td tda 0 0 0 20 6 50 0 1 (fun _ _ => 0), [(lt, .inr (2, [.ref ta, .ref ldr]))], bLaw g ldr lda 0 (-1) 0 0 0 (fun _ => 0), bMem g mo qT qL it il ig 0 0 0 fT fL, bTown g it ia 0 0 0 20 6 50 0 1 (fun _ _ => 0), bLaw g il ic 0 (-1) 0 0 0 (fun _ => 0), bLog g ig ir 0 0 (fun _ => 0), bTown g t0 ta0 0 0 0 20 6 50 0 1 (fun _ _ => 0), bLog g l0 la0 0 0 (fun _ => 0), bRid g ro af 0 0 (fun _ => 0), bObj g om am 0 0 0 0 0 0 0 (-1) 0 0 0 0, bArr g am (zf [m0, fun _ => 0, fun _ => 0, fun _ => 0, fun _ => 0, fun _ => 0, fun _ => 0, fun _ => 0]), [(oa, .inl (g.2 2, 1, .inr (.inl fz2_31)))]]) := hD
    refine W.widen (k := 248) (n := 14997) (Nat.le_of_ble_eq_true rfl) (Nat.le_of_ble_eq_true rfl) ?_
    refine W.eq (g2 := F0 m 2356 ls [.int r_30]) rfl ?_
    refine lv_istore (lv' := [(5, .int r_30), (4, .int 0), (3, .ref oa), (2, .ref om), (1, .ref x), (0, .ref b)]) hx hb dL_law__2356 hl (by decide) rfl (fun ls hl => ?_)
    refine lv_aload_n hx hb dL_law__2358 rfl (lv_at hl 3 rfl) ?_
    refine lv_aload_n hx hb dL_law__2359 rfl (lv_at hl 5 rfl) ?_
    refine lv_iload hx hb dL_law__2360 (lv_at hl 1 rfl) ?_
    refine lv_iconst (v := 1) hx hb dL_law__2362 (by decide) ?_
    refine lv_iadd hx hb dL_law__2363 ?_
    refine ztop (r := 1) (by decide) ?_
    refine va_sld hx hb hX hbl hbA hS (zin rfl) dL_law__2364 ?_
    refine ztop (r := xs 1) rfl ?_
    refine lv_aload_n hx hb dL_law__2365 rfl (lv_at hl 5 rfl) ?_
    refine lv_iload hx hb dL_law__2366 (lv_at hl 1 rfl) ?_
    refine lv_iconst (v := 2) hx hb dL_law__2368 (by decide) ?_
    refine lv_iadd hx hb dL_law__2369 ?_
    refine ztop (r := 2) (by decide) ?_
    refine va_sld hx hb hX hbl hbA hS (zin rfl) dL_law__2370 ?_
    refine ztop (r := xs 2) rfl ?_
    refine lv_if_eq (tgt := 2378) hx hb dL_law__2371 (by decide) (fun c34 => absurd c34 cZ) (fun _ => ?_)
    refine lv_iconst (v := 1) hx hb dL_law__2374 (by decide) ?_
    refine lv_goto (tgt := 2379) hx hb dL_law__2375 (by decide) ?_
    refine mcallV (g := g) (q0 := 0) (ci := 10) (As := [.int (xs 1), .int 1]) (rest := []) St hK hT hA hP hD hS hl.1 [13, 14] [0, 1, 2, 3, 4, 5, 6, 7, 8, 9, 10, 11, 12, 15] rfl rfl rfl (m_trial l g om am 0 0 0 0 0 0 0 (-1) 0 0 0 0 (zf [m0, fun _ => 0, fun _ => 0, fun _ => 0, fun _ => 0, fun _ => 0, fun _ => 0, fun _ => 0]) (xs 1) 1 (by assumption)) (cwV 2 hts (zgL (zl4 k1522 k1523 k1524 k833) k1135) rfl rfl rfl (by decide +kernel) ⟨Nat.le_of_ble_eq_true rfl, Nat.le_of_ble_eq_true rfl⟩) rfl rfl rfl rfl (Nat.le_of_ble_eq_true rfl) dL_law__2379 ⟨(Nat.le_of_ble_eq_true rfl), (Nat.le_of_ble_eq_true rfl)⟩ (fun u_ H locs hq48 hP hD hS => ?_)
    obtain ⟨th2_35, hi2_36, ac2_37, tp2_38, ba2_39, en2_40, tA2_41, fl2_42, de2_43, iD2_44, iO2_45, tU2_46, q_47⟩ := u_
    have hq48 : (th2_35 = 1 ∧ (((xs 1) : Int32) < 0 ∨ 60 < ((xs 1) : Int32))) ∨ (th2_35 = 0 ∧ (¬ ((xs 1) : Int32) < 0 ∧ ¬ 60 < ((xs 1) : Int32)) ∧ q_47 = if 1 = 0 then 0 else 20) := hq48
    have hP : va_P g.1 vwCl (List.flatten [bTape g ta ab 0 0 0 0 0 (-1) (fun _ => 0), bLog g go ar 0 0 (fun _ => 0), [(tt, .inr (8, [.ref ta, .ref td]))], bTown g td tda 0 0 0 20 6 50 0 1 (fun _ _ => 0), [(lt, .inr (2, [.ref ta, .ref ldr]))], bLaw g ldr lda 0 (-1) 0 0 0 (fun _ => 0), bMem g mo qT qL it il ig 0 0 0 fT fL, bTown g it ia 0 0 0 20 6 50 0 1 (fun _ _ => 0), bLaw g il ic 0 (-1) 0 0 0 (fun _ => 0), bLog g ig ir 0 0 (fun _ => 0), bTown g t0 ta0 0 0 0 20 6 50 0 1 (fun _ _ => 0), bLog g l0 la0 0 0 (fun _ => 0), bRid g ro af 0 0 (fun _ => 0), [(oa, .inl (g.2 2, 1, .inr (.inl fz2_31)))], bObj g om am th2_35 hi2_36 ac2_37 tp2_38 ba2_39 en2_40 tA2_41 fl2_42 de2_43 iD2_44 iO2_45 tU2_46]) H := hP
    have hD : va_D A (List.flatten [bTape g ta ab 0 0 0 0 0 (-1) (fun _ => 0), bLog g go ar 0 0 (fun _ => 0), [(tt, .inr (8, [.ref ta, .ref td]))], bTown g td tda 0 0 0 20 6 50 0 1 (fun _ _ => 0), [(lt, .inr (2, [.ref ta, .ref ldr]))], bLaw g ldr lda 0 (-1) 0 0 0 (fun _ => 0), bMem g mo qT qL it il ig 0 0 0 fT fL, bTown g it ia 0 0 0 20 6 50 0 1 (fun _ _ => 0), bLaw g il ic 0 (-1) 0 0 0 (fun _ => 0), bLog g ig ir 0 0 (fun _ => 0), bTown g t0 ta0 0 0 0 20 6 50 0 1 (fun _ _ => 0), bLog g l0 la0 0 0 (fun _ => 0), bRid g ro af 0 0 (fun _ => 0), [(oa, .inl (g.2 2, 1, .inr (.inl fz2_31)))], bObj g om am th2_35 hi2_36 ac2_37 tp2_38 ba2_39 en2_40 tA2_41 fl2_42 de2_43 iD2_44 iO2_45 tU2_46]) := hD
    refine W.widen (k := 248) (n := 14997) (Nat.le_of_ble_eq_true rfl) (Nat.le_of_ble_eq_true rfl) ?_
    refine W.eq (g2 := F0 m 2382 ls [.int q_47]) rfl ?_
    rcases hq33 with ⟨hr9, hb9⟩ | ⟨hr9, hg9⟩
    · skip
      rcases hq48 with ⟨ht9, hB9⟩ | ⟨ht9, hG9⟩
      · skip
        subst hr9
        subst ht9
        refine lv_istore (lv' := [(6, .int q_47), (5, .int 1), (4, .int 0), (3, .ref oa), (2, .ref om), (1, .ref x), (0, .ref b)]) hx hb dL_law__2382 hl (by decide) rfl (fun ls hl => ?_)
        refine lv_aload_n hx hb dL_law__2384 rfl (lv_at hl 4 rfl) ?_
        refine mcallV (g := g) (q0 := 0) (ci := 10) (As := []) (rest := []) St hK hT hA hP hD hS hl.1 [14] [0, 1, 2, 3, 4, 5, 6, 7, 8, 9, 10, 11, 12, 13] rfl rfl rfl (m_thrown l g om am 1 hi2_36 ac2_37 tp2_38 ba2_39 en2_40 tA2_41 fl2_42 de2_43 iD2_44 iO2_45 tU2_46 ) (cwV 0 hts (zgL (zl4 k1317 k1318 k1319 k833) k824) rfl rfl rfl (by decide +kernel) ⟨Nat.le_of_ble_eq_true rfl, Nat.le_of_ble_eq_true rfl⟩) rfl rfl rfl rfl (Nat.le_of_ble_eq_true rfl) dL_law__2385 ⟨(Nat.le_of_ble_eq_true rfl), (Nat.le_of_ble_eq_true rfl)⟩ (fun _u H locs hq49 hP hD hS => ?_)
        have hP : va_P g.1 vwCl (List.flatten [bTape g ta ab 0 0 0 0 0 (-1) (fun _ => 0), bLog g go ar 0 0 (fun _ => 0), [(tt, .inr (8, [.ref ta, .ref td]))], bTown g td tda 0 0 0 20 6 50 0 1 (fun _ _ => 0), [(lt, .inr (2, [.ref ta, .ref ldr]))], bLaw g ldr lda 0 (-1) 0 0 0 (fun _ => 0), bMem g mo qT qL it il ig 0 0 0 fT fL, bTown g it ia 0 0 0 20 6 50 0 1 (fun _ _ => 0), bLaw g il ic 0 (-1) 0 0 0 (fun _ => 0), bLog g ig ir 0 0 (fun _ => 0), bTown g t0 ta0 0 0 0 20 6 50 0 1 (fun _ _ => 0), bLog g l0 la0 0 0 (fun _ => 0), bRid g ro af 0 0 (fun _ => 0), [(oa, .inl (g.2 2, 1, .inr (.inl fz2_31)))], bObj g om am 1 hi2_36 ac2_37 tp2_38 ba2_39 en2_40 tA2_41 fl2_42 de2_43 iD2_44 iO2_45 tU2_46]) H := hP
        have hD : va_D A (List.flatten [bTape g ta ab 0 0 0 0 0 (-1) (fun _ => 0), bLog g go ar 0 0 (fun _ => 0), [(tt, .inr (8, [.ref ta, .ref td]))], bTown g td tda 0 0 0 20 6 50 0 1 (fun _ _ => 0), [(lt, .inr (2, [.ref ta, .ref ldr]))], bLaw g ldr lda 0 (-1) 0 0 0 (fun _ => 0), bMem g mo qT qL it il ig 0 0 0 fT fL, bTown g it ia 0 0 0 20 6 50 0 1 (fun _ _ => 0), bLaw g il ic 0 (-1) 0 0 0 (fun _ => 0), bLog g ig ir 0 0 (fun _ => 0), bTown g t0 ta0 0 0 0 20 6 50 0 1 (fun _ _ => 0), bLog g l0 la0 0 0 (fun _ => 0), bRid g ro af 0 0 (fun _ => 0), [(oa, .inl (g.2 2, 1, .inr (.inl fz2_31)))], bObj g om am 1 hi2_36 ac2_37 tp2_38 ba2_39 en2_40 tA2_41 fl2_42 de2_43 iD2_44 iO2_45 tU2_46]) := hD
        refine W.widen (k := 248) (n := 14997) (Nat.le_of_ble_eq_true rfl) (Nat.le_of_ble_eq_true rfl) ?_
        refine W.eq (g2 := F0 m 2388 ls [.int 1]) rfl ?_
        refine lv_iload hx hb dL_law__2388 (lv_at hl 1 rfl) ?_
        refine lv_icmp_eq (tgt := 2395) hx hb dL_law__2390 (by decide) (fun _ => ?_) (fun c50 => absurd (by decide) c50)
        refine lv_iload hx hb dL_law__2395 (lv_at hl 1 rfl) ?_
        refine lv_if_ne (tgt := 2412) hx hb dL_law__2397 (by decide) (fun _ => ?_) (fun c51 => absurd c51 (by decide))
        refine lv_goto (tgt := 2738) hx hb dL_law__2412 (by decide) ?_
        refine lv_iinc (v := 6) (lv' := [(4, .int 6), (6, .int q_47), (5, .int 1), (3, .ref oa), (2, .ref om), (1, .ref x), (0, .ref b)]) hx hb dL_law__2738 hl (k := 2) rfl (by decide) (by decide) rfl (fun ls hl => ?_)
        refine lv_goto (tgt := 23) hx hb dL_law__2741 (by decide) ?_
        refine lv_iload hx hb dL_law__23 (lv_at hl 0 rfl) ?_
        refine lv_aload_n hx hb dL_law__25 rfl (lv_at hl 6 rfl) ?_
        refine va_slen hx hb hX hbl hbA hS dL_law__26 ?_
        refine ztop (r := 6) rfl ?_
        refine lv_bipush (v := 6) hx hb dL_law__27 (by decide) ?_
        refine lv_isub hx hb dL_law__29 ?_
        refine ztop (r := 0) (by decide) ?_
        refine lv_icmp_gt (tgt := 2744) hx hb dL_law__30 (by decide) (fun _ => ?_) (fun c52 => absurd (by decide) c52)
        refine lv_iconst (v := 1) hx hb dL_law__2744 (by decide) ?_
        refine va_forget (fun q hq => by have h9 := hS.2.2 q hq; rw [hAe] at h9; exact h9) ?_
        refine W.widen (k := 600002) (n := 7302232) (Nat.le_of_ble_eq_true rfl) (Nat.le_of_ble_eq_true rfl) ?_
        exact lw_ret hx hb hr hlocks dL_law__2745
      · skip
        exact (hb9.elim hG9.1.1 hG9.1.2).elim
    · skip
      rcases hq48 with ⟨ht9, hB9⟩ | ⟨ht9, hG9⟩
      · skip
        exact (hB9.elim hg9.1.1.1 hg9.1.1.2).elim
      · skip
        subst hr9
        subst ht9
        refine lv_istore (lv' := [(6, .int q_47), (5, .int 0), (4, .int 0), (3, .ref oa), (2, .ref om), (1, .ref x), (0, .ref b)]) hx hb dL_law__2382 hl (by decide) rfl (fun ls hl => ?_)
        refine lv_aload_n hx hb dL_law__2384 rfl (lv_at hl 4 rfl) ?_
        refine mcallV (g := g) (q0 := 0) (ci := 10) (As := []) (rest := []) St hK hT hA hP hD hS hl.1 [14] [0, 1, 2, 3, 4, 5, 6, 7, 8, 9, 10, 11, 12, 13] rfl rfl rfl (m_thrown l g om am 0 hi2_36 ac2_37 tp2_38 ba2_39 en2_40 tA2_41 fl2_42 de2_43 iD2_44 iO2_45 tU2_46 ) (cwV 0 hts (zgL (zl4 k1317 k1318 k1319 k833) k824) rfl rfl rfl (by decide +kernel) ⟨Nat.le_of_ble_eq_true rfl, Nat.le_of_ble_eq_true rfl⟩) rfl rfl rfl rfl (Nat.le_of_ble_eq_true rfl) dL_law__2385 ⟨(Nat.le_of_ble_eq_true rfl), (Nat.le_of_ble_eq_true rfl)⟩ (fun _u H locs hq53 hP hD hS => ?_)
        have hP : va_P g.1 vwCl (List.flatten [bTape g ta ab 0 0 0 0 0 (-1) (fun _ => 0), bLog g go ar 0 0 (fun _ => 0), [(tt, .inr (8, [.ref ta, .ref td]))], bTown g td tda 0 0 0 20 6 50 0 1 (fun _ _ => 0), [(lt, .inr (2, [.ref ta, .ref ldr]))], bLaw g ldr lda 0 (-1) 0 0 0 (fun _ => 0), bMem g mo qT qL it il ig 0 0 0 fT fL, bTown g it ia 0 0 0 20 6 50 0 1 (fun _ _ => 0), bLaw g il ic 0 (-1) 0 0 0 (fun _ => 0), bLog g ig ir 0 0 (fun _ => 0), bTown g t0 ta0 0 0 0 20 6 50 0 1 (fun _ _ => 0), bLog g l0 la0 0 0 (fun _ => 0), bRid g ro af 0 0 (fun _ => 0), [(oa, .inl (g.2 2, 1, .inr (.inl fz2_31)))], bObj g om am 0 hi2_36 ac2_37 tp2_38 ba2_39 en2_40 tA2_41 fl2_42 de2_43 iD2_44 iO2_45 tU2_46]) H := hP
        have hD : va_D A (List.flatten [bTape g ta ab 0 0 0 0 0 (-1) (fun _ => 0), bLog g go ar 0 0 (fun _ => 0), [(tt, .inr (8, [.ref ta, .ref td]))], bTown g td tda 0 0 0 20 6 50 0 1 (fun _ _ => 0), [(lt, .inr (2, [.ref ta, .ref ldr]))], bLaw g ldr lda 0 (-1) 0 0 0 (fun _ => 0), bMem g mo qT qL it il ig 0 0 0 fT fL, bTown g it ia 0 0 0 20 6 50 0 1 (fun _ _ => 0), bLaw g il ic 0 (-1) 0 0 0 (fun _ => 0), bLog g ig ir 0 0 (fun _ => 0), bTown g t0 ta0 0 0 0 20 6 50 0 1 (fun _ _ => 0), bLog g l0 la0 0 0 (fun _ => 0), bRid g ro af 0 0 (fun _ => 0), [(oa, .inl (g.2 2, 1, .inr (.inl fz2_31)))], bObj g om am 0 hi2_36 ac2_37 tp2_38 ba2_39 en2_40 tA2_41 fl2_42 de2_43 iD2_44 iO2_45 tU2_46]) := hD
        refine W.widen (k := 248) (n := 14997) (Nat.le_of_ble_eq_true rfl) (Nat.le_of_ble_eq_true rfl) ?_
        refine W.eq (g2 := F0 m 2388 ls [.int 0]) rfl ?_
        refine lv_iload hx hb dL_law__2388 (lv_at hl 1 rfl) ?_
        refine lv_icmp_eq (tgt := 2395) hx hb dL_law__2390 (by decide) (fun _ => ?_) (fun c54 => absurd (by decide) c54)
        refine lv_iload hx hb dL_law__2395 (lv_at hl 1 rfl) ?_
        refine lv_if_ne (tgt := 2412) hx hb dL_law__2397 (by decide) (fun c55 => absurd (by decide) c55) (fun _ => ?_)
        refine lv_aload_n hx hb dL_law__2400 rfl (lv_at hl 3 rfl) ?_
        refine lv_iconst (v := 0) hx hb dL_law__2401 (by decide) ?_
        refine va_lald hx hb hK hP 55 2 rfl rfl (zin rfl) dL_law__2402 ?_
        refine ztopl (r := fz2_31 0) rfl ?_
        refine lv_iload hx hb dL_law__2403 (lv_at hl 0 rfl) ?_
        refine lv_i2l (v := (q_47 : Int32).toInt64) hx hb dL_law__2405 rfl ?_
        refine W.lcmp hx hb dL_law__2406 ?_
        refine lv_if_eq (tgt := 2412) hx hb dL_law__2407 (by decide) (fun _ => ?_) (fun c56 => absurd (by rw [hg9.2, hg9.1.2, hG9.2]; exact lg_self _) c56)
        refine lv_goto (tgt := 2738) hx hb dL_law__2412 (by decide) ?_
        refine lv_iinc (v := 6) (lv' := [(4, .int 6), (6, .int q_47), (5, .int 0), (3, .ref oa), (2, .ref om), (1, .ref x), (0, .ref b)]) hx hb dL_law__2738 hl (k := 2) rfl (by decide) (by decide) rfl (fun ls hl => ?_)
        refine lv_goto (tgt := 23) hx hb dL_law__2741 (by decide) ?_
        refine lv_iload hx hb dL_law__23 (lv_at hl 0 rfl) ?_
        refine lv_aload_n hx hb dL_law__25 rfl (lv_at hl 6 rfl) ?_
        refine va_slen hx hb hX hbl hbA hS dL_law__26 ?_
        refine ztop (r := 6) rfl ?_
        refine lv_bipush (v := 6) hx hb dL_law__27 (by decide) ?_
        refine lv_isub hx hb dL_law__29 ?_
        refine ztop (r := 0) (by decide) ?_
        refine lv_icmp_gt (tgt := 2744) hx hb dL_law__30 (by decide) (fun _ => ?_) (fun c57 => absurd (by decide) c57)
        refine lv_iconst (v := 1) hx hb dL_law__2744 (by decide) ?_
        refine va_forget (fun q hq => by have h9 := hS.2.2 q hq; rw [hAe] at h9; exact h9) ?_
        refine W.widen (k := 600002) (n := 7302232) (Nat.le_of_ble_eq_true rfl) (Nat.le_of_ble_eq_true rfl) ?_
        exact lw_ret hx hb hr hlocks dL_law__2745
set_option maxRecDepth 100000 in
set_option maxHeartbeats 4000000 in
/-- the law: span -/
theorem w_42 {p : Program} {e : Env} {s : State} {m : MethodId} {below : List Frame} {meth : Method} {c : Code} (l : Launch) (hfl : l.stackTraces = false) (g : zG) {b : Nat} {xs : Nat → Int32} {A : Nat → Prop} (hAe : A = fun q => s.heap.size ≤ q) (hA : ∀ q, s.heap.size ≤ q → A q) (hbA : ¬ A b) (St : CallFix p m c cL_law_ 7 s #[Value.ref b] zB RL) (hr : meth.sig.returnType = ret) (hlocks : meth.locks = false) (hX : va_X b 6 xs s s.heap) (hbl : b < s.heap.size) (hK : zK g s) (hT : zTh A s) (x : Nat) (ta : Nat) (o : Nat) (lo : Nat) (go : Nat) (tt : Nat) (lt : Nat) (mo : Nat) (fo : Nat) (ro : Nat) (ab : Nat) (ac : Nat) (ar : Nat) (td : Nat) (a : Nat → Nat) (tda : Nat → Nat) (ldr : Nat) (lda : Nat) (qT : Nat) (qL : Nat) (it : Nat) (il : Nat) (ig : Nat) (fT : Nat → Option Nat) (fL : Nat → Option Nat) (ia : Nat → Nat) (ic : Nat) (ir : Nat) (t0 : Nat) (ta0 : Nat → Nat) (l0 : Nat) (la0 : Nat) (od : Nat) (ad : Nat → Nat) (af : Nat) (om : Nat) (am : Nat → Nat) (m0 : Nat → Int32) (oa : Nat) (hT0 : fT 0 = some t0) (hL0 : fL 0 = some l0) (hm : zMo m0) (h8 : m0 8 = 0) (h10 : m0 10 = 1) (H : Heap) (locs : List Loc) (ls : Array Slot) (hP : va_P g.1 vwCl (List.flatten [bDR g x ta o lo go tt lt mo fo ro (-1), bTape g ta ab 0 0 0 0 0 (-1) (fun _ => 0), bTown g o a 0 0 0 20 6 50 0 1 (fun _ _ => 0), bLaw g lo ac 0 (-1) 0 0 0 (fun _ => 0), bLog g go ar 0 0 (fun _ => 0), [(tt, .inr (8, [.ref ta, .ref td]))], bTown g td tda 0 0 0 20 6 50 0 1 (fun _ _ => 0), [(lt, .inr (2, [.ref ta, .ref ldr]))], bLaw g ldr lda 0 (-1) 0 0 0 (fun _ => 0), bMem g mo qT qL it il ig 0 0 0 fT fL, bTown g it ia 0 0 0 20 6 50 0 1 (fun _ _ => 0), bLaw g il ic 0 (-1) 0 0 0 (fun _ => 0), bLog g ig ir 0 0 (fun _ => 0), bTown g t0 ta0 0 0 0 20 6 50 0 1 (fun _ _ => 0), bLog g l0 la0 0 0 (fun _ => 0), [(fo, .inr (0, [.ref o, .ref lo, .ref od]))], bTown g od ad 0 0 0 20 6 50 0 1 (fun _ _ => 0), bRid g ro af 0 0 (fun _ => 0), bObj g om am 0 0 0 0 0 0 0 (-1) 0 0 0 0, bArr g am (zf [m0, fun _ => 0, fun _ => 0, fun _ => 0, fun _ => 0, fun _ => 0, fun _ => 0, fun _ => 0]), [(oa, .inl (g.2 2, 1, .inr (.inl (fun _ => 0))))]]) H) (hD : va_D A (List.flatten [bDR g x ta o lo go tt lt mo fo ro (-1), bTape g ta ab 0 0 0 0 0 (-1) (fun _ => 0), bTown g o a 0 0 0 20 6 50 0 1 (fun _ _ => 0), bLaw g lo ac 0 (-1) 0 0 0 (fun _ => 0), bLog g go ar 0 0 (fun _ => 0), [(tt, .inr (8, [.ref ta, .ref td]))], bTown g td tda 0 0 0 20 6 50 0 1 (fun _ _ => 0), [(lt, .inr (2, [.ref ta, .ref ldr]))], bLaw g ldr lda 0 (-1) 0 0 0 (fun _ => 0), bMem g mo qT qL it il ig 0 0 0 fT fL, bTown g it ia 0 0 0 20 6 50 0 1 (fun _ _ => 0), bLaw g il ic 0 (-1) 0 0 0 (fun _ => 0), bLog g ig ir 0 0 (fun _ => 0), bTown g t0 ta0 0 0 0 20 6 50 0 1 (fun _ _ => 0), bLog g l0 la0 0 0 (fun _ => 0), [(fo, .inr (0, [.ref o, .ref lo, .ref od]))], bTown g od ad 0 0 0 20 6 50 0 1 (fun _ _ => 0), bRid g ro af 0 0 (fun _ => 0), bObj g om am 0 0 0 0 0 0 0 (-1) 0 0 0 0, bArr g am (zf [m0, fun _ => 0, fun _ => 0, fun _ => 0, fun _ => 0, fun _ => 0, fun _ => 0, fun _ => 0]), [(oa, .inl (g.2 2, 1, .inr (.inl (fun _ => 0))))]])) (hS : va_S A s.heap H locs) (hl : lv_has ls 7 [(4, .int 0), (3, .ref oa), (2, .ref om), (1, .ref x), (0, .ref b)]) : W p l e room_1 s m #[Value.ref b] below meth c H locs 247 14991 (lw_Z below #[Value.ref b] s) (F0 m 2415 ls []) := by
  obtain ⟨hx, hb, hml, hown, hts⟩ := id St
  have hz0 : zZ (fun _ => 0) := zZ0
  refine lv_aload_n hx hb dL_law__2415 rfl (lv_at hl 3 rfl) ?_
  refine lv_aload_n hx hb dL_law__2416 rfl (lv_at hl 4 rfl) ?_
  refine lv_iload hx hb dL_law__2417 (lv_at hl 0 rfl) ?_
  refine lv_iconst (v := 1) hx hb dL_law__2419 (by decide) ?_
  refine lv_iadd hx hb dL_law__2420 ?_
  refine ztop (r := 1) (by decide) ?_
  refine va_sld hx hb hX hbl hbA hS (zin rfl) dL_law__2421 ?_
  refine ztop (r := xs 1) rfl ?_
  refine lv_aload_n hx hb dL_law__2422 rfl (lv_at hl 4 rfl) ?_
  refine lv_iload hx hb dL_law__2423 (lv_at hl 0 rfl) ?_
  refine lv_iconst (v := 2) hx hb dL_law__2425 (by decide) ?_
  refine lv_iadd hx hb dL_law__2426 ?_
  refine ztop (r := 2) (by decide) ?_
  refine va_sld hx hb hX hbl hbA hS (zin rfl) dL_law__2427 ?_
  refine ztop (r := xs 2) rfl ?_
  refine lv_if_eq (tgt := 2435) hx hb dL_law__2428 (by decide) (fun cZ => ?_) (fun cZ => ?_)
  · skip
    refine lv_iconst (v := 0) hx hb dL_law__2435 (by decide) ?_
    refine lv_aload_n hx hb dL_law__2436 rfl (lv_at hl 1 rfl) ?_
    refine xcallSX (g := g) (As := [.ref x, .int (xs 1), .int 0, .ref oa]) (rest := []) St hK hT hA hP hD hS hl.1 [0, 2, 15, 3, 16, 20] [1, 4, 5, 6, 7, 8, 9, 10, 11, 12, 13, 14, 17, 18, 19] rfl rfl rfl (l_span l hfl g x ta o lo go tt lt mo fo ro (-1) a 0 20 6 50 0 1 (fun _ _ => 0) ac 0 (-1) 0 0 0 (fun _ => 0) od ad 0 0 0 20 6 50 0 1 (fun _ _ => 0) (xs 1) 0 oa (fun _ => 0) (by assumption)) (vx_cwSW 4 hts (zgL (zl3 k1525 k1526 k1313) k1281) rfl rfl rfl (by decide +kernel) ⟨Nat.le_of_ble_eq_true rfl, Nat.le_of_ble_eq_true rfl⟩) rfl rfl (Nat.le_of_ble_eq_true rfl) dL_law__2437 ⟨(Nat.le_of_ble_eq_true rfl), (Nat.le_of_ble_eq_true rfl)⟩ (fun E ce q9 u9 H locs hpx hP hD hS hce hcv hcl => hpx.elim) (fun u_ H locs hq4 hP hD hS => ?_)
    obtain ⟨r_2, fz2_3⟩ := u_
    have hq4 : (r_2 = 1 ∧ ((xs 1) < 0 ∨ 60 < (xs 1))) ∨ (r_2 = 0 ∧ (¬ (xs 1) < 0 ∧ ¬ 60 < (xs 1)) ∧ fz2_3 0 = (0 : Int32).toInt64) := hq4
    have hP : va_P g.1 vwCl (List.flatten [bTape g ta ab 0 0 0 0 0 (-1) (fun _ => 0), bLog g go ar 0 0 (fun _ => 0), [(tt, .inr (8, [.ref ta, .ref td]))], bTown g td tda 0 0 0 20 6 50 0 1 (fun _ _ => 0), [(lt, .inr (2, [.ref ta, .ref ldr]))], bLaw g ldr lda 0 (-1) 0 0 0 (fun _ => 0), bMem g mo qT qL it il ig 0 0 0 fT fL, bTown g it ia 0 0 0 20 6 50 0 1 (fun _ _ => 0), bLaw g il ic 0 (-1) 0 0 0 (fun _ => 0), bLog g ig ir 0 0 (fun _ => 0), bTown g t0 ta0 0 0 0 20 6 50 0 1 (fun _ _ => 0), bLog g l0 la0 0 0 (fun _ => 0), bRid g ro af 0 0 (fun _ => 0), bObj g om am 0 0 0 0 0 0 0 (-1) 0 0 0 0, bArr g am (zf [m0, fun _ => 0, fun _ => 0, fun _ => 0, fun _ => 0, fun _ => 0, fun _ => 0, fun _ => 0]), [(oa, .inl (g.2 2, 1, .inr (.inl fz2_3)))]]) H := hP
    have hD : va_D A (List.flatten [bTape g ta ab 0 0 0 0 0 (-1) (fun _ => 0), bLog g go ar 0 0 (fun _ => 0), [(tt, .inr (8, [.ref ta, .ref td]))], bTown g td tda 0 0 0 20 6 50 0 1 (fun _ _ => 0), [(lt, .inr (2, [.ref ta, .ref ldr]))], bLaw g ldr lda 0 (-1) 0 0 0 (fun _ => 0), bMem g mo qT qL it il ig 0 0 0 fT fL, bTown g it ia 0 0 0 20 6 50 0 1 (fun _ _ => 0), bLaw g il ic 0 (-1) 0 0 0 (fun _ => 0), bLog g ig ir 0 0 (fun _ => 0), bTown g t0 ta0 0 0 0 20 6 50 0 1 (fun _ _ => 0), bLog g l0 la0 0 0 (fun _ => 0), bRid g ro af 0 0 (fun _ => 0), bObj g om am 0 0 0 0 0 0 0 (-1) 0 0 0 0, bArr g am (zf [m0, fun _ => 0, fun _ => 0, fun _ => 0, fun _ => 0, fun _ => 0, fun _ => 0, fun _ => 0]), [(oa, .inl (g.2 2, 1, .inr (.inl fz2_3)))]]) := hD
    refine W.widen (k := 248) (n := 14997) (Nat.le_of_ble_eq_true rfl) (Nat.le_of_ble_eq_true rfl) ?_
    refine W.eq (g2 := F0 m 2440 ls [.int r_2]) rfl ?_
    refine lv_istore (lv' := [(5, .int r_2), (4, .int 0), (3, .ref oa), (2, .ref om), (1, .ref x), (0, .ref b)]) hx hb dL_law__2440 hl (by decide) rfl (fun ls hl => ?_)
    refine lv_aload_n hx hb dL_law__2442 rfl (lv_at hl 3 rfl) ?_
    refine lv_aload_n hx hb dL_law__2443 rfl (lv_at hl 5 rfl) ?_
    refine lv_iload hx hb dL_law__2444 (lv_at hl 1 rfl) ?_
    refine lv_iconst (v := 1) hx hb dL_law__2446 (by decide) ?_
    refine lv_iadd hx hb dL_law__2447 ?_
    refine ztop (r := 1) (by decide) ?_
    refine va_sld hx hb hX hbl hbA hS (zin rfl) dL_law__2448 ?_
    refine ztop (r := xs 1) rfl ?_
    refine lv_aload_n hx hb dL_law__2449 rfl (lv_at hl 5 rfl) ?_
    refine lv_iload hx hb dL_law__2450 (lv_at hl 1 rfl) ?_
    refine lv_iconst (v := 2) hx hb dL_law__2452 (by decide) ?_
    refine lv_iadd hx hb dL_law__2453 ?_
    refine ztop (r := 2) (by decide) ?_
    refine va_sld hx hb hX hbl hbA hS (zin rfl) dL_law__2454 ?_
    refine ztop (r := xs 2) rfl ?_
    refine lv_if_eq (tgt := 2462) hx hb dL_law__2455 (by decide) (fun _ => ?_) (fun c5 => absurd cZ c5)
    refine lv_iconst (v := 0) hx hb dL_law__2462 (by decide) ?_
    refine mcallV (g := g) (q0 := 0) (ci := 10) (As := [.int (xs 1), .int 0]) (rest := []) St hK hT hA hP hD hS hl.1 [13, 14] [0, 1, 2, 3, 4, 5, 6, 7, 8, 9, 10, 11, 12, 15] rfl rfl rfl (m_span l g om am 0 0 0 0 0 0 0 (-1) 0 0 0 0 (zf [m0, fun _ => 0, fun _ => 0, fun _ => 0, fun _ => 0, fun _ => 0, fun _ => 0, fun _ => 0]) (xs 1) 0 (by assumption)) (cwV 2 hts (zgL (zl4 k1527 k1528 k1529 k833) k1136) rfl rfl rfl (by decide +kernel) ⟨Nat.le_of_ble_eq_true rfl, Nat.le_of_ble_eq_true rfl⟩) rfl rfl rfl rfl (Nat.le_of_ble_eq_true rfl) dL_law__2463 ⟨(Nat.le_of_ble_eq_true rfl), (Nat.le_of_ble_eq_true rfl)⟩ (fun u_ H locs hq19 hP hD hS => ?_)
    obtain ⟨th2_6, hi2_7, ac2_8, tp2_9, ba2_10, en2_11, tA2_12, fl2_13, de2_14, iD2_15, iO2_16, tU2_17, q_18⟩ := u_
    have hq19 : (th2_6 = 1 ∧ (((xs 1) : Int32) < 0 ∨ 60 < ((xs 1) : Int32))) ∨ (th2_6 = 0 ∧ (¬ ((xs 1) : Int32) < 0 ∧ ¬ 60 < ((xs 1) : Int32)) ∧ q_18 = 0) := hq19
    have hP : va_P g.1 vwCl (List.flatten [bTape g ta ab 0 0 0 0 0 (-1) (fun _ => 0), bLog g go ar 0 0 (fun _ => 0), [(tt, .inr (8, [.ref ta, .ref td]))], bTown g td tda 0 0 0 20 6 50 0 1 (fun _ _ => 0), [(lt, .inr (2, [.ref ta, .ref ldr]))], bLaw g ldr lda 0 (-1) 0 0 0 (fun _ => 0), bMem g mo qT qL it il ig 0 0 0 fT fL, bTown g it ia 0 0 0 20 6 50 0 1 (fun _ _ => 0), bLaw g il ic 0 (-1) 0 0 0 (fun _ => 0), bLog g ig ir 0 0 (fun _ => 0), bTown g t0 ta0 0 0 0 20 6 50 0 1 (fun _ _ => 0), bLog g l0 la0 0 0 (fun _ => 0), bRid g ro af 0 0 (fun _ => 0), [(oa, .inl (g.2 2, 1, .inr (.inl fz2_3)))], bObj g om am th2_6 hi2_7 ac2_8 tp2_9 ba2_10 en2_11 tA2_12 fl2_13 de2_14 iD2_15 iO2_16 tU2_17]) H := hP
    have hD : va_D A (List.flatten [bTape g ta ab 0 0 0 0 0 (-1) (fun _ => 0), bLog g go ar 0 0 (fun _ => 0), [(tt, .inr (8, [.ref ta, .ref td]))], bTown g td tda 0 0 0 20 6 50 0 1 (fun _ _ => 0), [(lt, .inr (2, [.ref ta, .ref ldr]))], bLaw g ldr lda 0 (-1) 0 0 0 (fun _ => 0), bMem g mo qT qL it il ig 0 0 0 fT fL, bTown g it ia 0 0 0 20 6 50 0 1 (fun _ _ => 0), bLaw g il ic 0 (-1) 0 0 0 (fun _ => 0), bLog g ig ir 0 0 (fun _ => 0), bTown g t0 ta0 0 0 0 20 6 50 0 1 (fun _ _ => 0), bLog g l0 la0 0 0 (fun _ => 0), bRid g ro af 0 0 (fun _ => 0), [(oa, .inl (g.2 2, 1, .inr (.inl fz2_3)))], bObj g om am th2_6 hi2_7 ac2_8 tp2_9 ba2_10 en2_11 tA2_12 fl2_13 de2_14 iD2_15 iO2_16 tU2_17]) := hD
    refine W.widen (k := 248) (n := 14997) (Nat.le_of_ble_eq_true rfl) (Nat.le_of_ble_eq_true rfl) ?_
    refine W.eq (g2 := F0 m 2466 ls [.int q_18]) rfl ?_
    rcases hq4 with ⟨hr9, hb9⟩ | ⟨hr9, hg9⟩
    · skip
      rcases hq19 with ⟨ht9, hB9⟩ | ⟨ht9, hG9⟩
      · skip
        subst hr9
        subst ht9
        refine lv_istore (lv' := [(6, .int q_18), (5, .int 1), (4, .int 0), (3, .ref oa), (2, .ref om), (1, .ref x), (0, .ref b)]) hx hb dL_law__2466 hl (by decide) rfl (fun ls hl => ?_)
        refine lv_aload_n hx hb dL_law__2468 rfl (lv_at hl 4 rfl) ?_
        refine mcallV (g := g) (q0 := 0) (ci := 10) (As := []) (rest := []) St hK hT hA hP hD hS hl.1 [14] [0, 1, 2, 3, 4, 5, 6, 7, 8, 9, 10, 11, 12, 13] rfl rfl rfl (m_thrown l g om am 1 hi2_7 ac2_8 tp2_9 ba2_10 en2_11 tA2_12 fl2_13 de2_14 iD2_15 iO2_16 tU2_17 ) (cwV 0 hts (zgL (zl4 k1317 k1318 k1319 k833) k824) rfl rfl rfl (by decide +kernel) ⟨Nat.le_of_ble_eq_true rfl, Nat.le_of_ble_eq_true rfl⟩) rfl rfl rfl rfl (Nat.le_of_ble_eq_true rfl) dL_law__2469 ⟨(Nat.le_of_ble_eq_true rfl), (Nat.le_of_ble_eq_true rfl)⟩ (fun _u H locs hq20 hP hD hS => ?_)
        have hP : va_P g.1 vwCl (List.flatten [bTape g ta ab 0 0 0 0 0 (-1) (fun _ => 0), bLog g go ar 0 0 (fun _ => 0), [(tt, .inr (8, [.ref ta, .ref td]))], bTown g td tda 0 0 0 20 6 50 0 1 (fun _ _ => 0), [(lt, .inr (2, [.ref ta, .ref ldr]))], bLaw g ldr lda 0 (-1) 0 0 0 (fun _ => 0), bMem g mo qT qL it il ig 0 0 0 fT fL, bTown g it ia 0 0 0 20 6 50 0 1 (fun _ _ => 0), bLaw g il ic 0 (-1) 0 0 0 (fun _ => 0), bLog g ig ir 0 0 (fun _ => 0), bTown g t0 ta0 0 0 0 20 6 50 0 1 (fun _ _ => 0), bLog g l0 la0 0 0 (fun _ => 0), bRid g ro af 0 0 (fun _ => 0), [(oa, .inl (g.2 2, 1, .inr (.inl fz2_3)))], bObj g om am 1 hi2_7 ac2_8 tp2_9 ba2_10 en2_11 tA2_12 fl2_13 de2_14 iD2_15 iO2_16 tU2_17]) H := hP
        have hD : va_D A (List.flatten [bTape g ta ab 0 0 0 0 0 (-1) (fun _ => 0), bLog g go ar 0 0 (fun _ => 0), [(tt, .inr (8, [.ref ta, .ref td]))], bTown g td tda 0 0 0 20 6 50 0 1 (fun _ _ => 0), [(lt, .inr (2, [.ref ta, .ref ldr]))], bLaw g ldr lda 0 (-1) 0 0 0 (fun _ => 0), bMem g mo qT qL it il ig 0 0 0 fT fL, bTown g it ia 0 0 0 20 6 50 0 1 (fun _ _ => 0), bLaw g il ic 0 (-1) 0 0 0 (fun _ => 0), bLog g ig ir 0 0 (fun _ => 0), bTown g t0 ta0 0 0 0 20 6 50 0 1 (fun _ _ => 0), bLog g l0 la0 0 0 (fun _ => 0), bRid g ro af 0 0 (fun _ => 0), [(oa, .inl (g.2 2, 1, .inr (.inl fz2_3)))], bObj g om am 1 hi2_7 ac2_8 tp2_9 ba2_10 en2_11 tA2_12 fl2_13 de2_14 iD2_15 iO2_16 tU2_17]) := hD
        refine W.widen (k := 248) (n := 14997) (Nat.le_of_ble_eq_true rfl) (Nat.le_of_ble_eq_true rfl) ?_
        refine W.eq (g2 := F0 m 2472 ls [.int 1]) rfl ?_
        refine lv_iload hx hb dL_law__2472 (lv_at hl 1 rfl) ?_
        refine lv_icmp_eq (tgt := 2479) hx hb dL_law__2474 (by decide) (fun _ => ?_) (fun c21 => absurd (by decide) c21)
        refine lv_iload hx hb dL_law__2479 (lv_at hl 1 rfl) ?_
        refine lv_if_ne (tgt := 2496) hx hb dL_law__2481 (by decide) (fun _ => ?_) (fun c22 => absurd c22 (by decide))
        refine lv_goto (tgt := 2738) hx hb dL_law__2496 (by decide) ?_
        refine lv_iinc (v := 6) (lv' := [(4, .int 6), (6, .int q_18), (5, .int 1), (3, .ref oa), (2, .ref om), (1, .ref x), (0, .ref b)]) hx hb dL_law__2738 hl (k := 2) rfl (by decide) (by decide) rfl (fun ls hl => ?_)
        refine lv_goto (tgt := 23) hx hb dL_law__2741 (by decide) ?_
        refine lv_iload hx hb dL_law__23 (lv_at hl 0 rfl) ?_
        refine lv_aload_n hx hb dL_law__25 rfl (lv_at hl 6 rfl) ?_
        refine va_slen hx hb hX hbl hbA hS dL_law__26 ?_
        refine ztop (r := 6) rfl ?_
        refine lv_bipush (v := 6) hx hb dL_law__27 (by decide) ?_
        refine lv_isub hx hb dL_law__29 ?_
        refine ztop (r := 0) (by decide) ?_
        refine lv_icmp_gt (tgt := 2744) hx hb dL_law__30 (by decide) (fun _ => ?_) (fun c23 => absurd (by decide) c23)
        refine lv_iconst (v := 1) hx hb dL_law__2744 (by decide) ?_
        refine va_forget (fun q hq => by have h9 := hS.2.2 q hq; rw [hAe] at h9; exact h9) ?_
        refine W.widen (k := 600002) (n := 7302232) (Nat.le_of_ble_eq_true rfl) (Nat.le_of_ble_eq_true rfl) ?_
        exact lw_ret hx hb hr hlocks dL_law__2745
      · skip
        exact (hb9.elim hG9.1.1 hG9.1.2).elim
    · skip
      rcases hq19 with ⟨ht9, hB9⟩ | ⟨ht9, hG9⟩
      · skip
        exact (hB9.elim hg9.1.1 hg9.1.2).elim
      · skip
        subst hr9
        subst ht9
        refine lv_istore (lv' := [(6, .int q_18), (5, .int 0), (4, .int 0), (3, .ref oa), (2, .ref om), (1, .ref x), (0, .ref b)]) hx hb dL_law__2466 hl (by decide) rfl (fun ls hl => ?_)
        refine lv_aload_n hx hb dL_law__2468 rfl (lv_at hl 4 rfl) ?_
        refine mcallV (g := g) (q0 := 0) (ci := 10) (As := []) (rest := []) St hK hT hA hP hD hS hl.1 [14] [0, 1, 2, 3, 4, 5, 6, 7, 8, 9, 10, 11, 12, 13] rfl rfl rfl (m_thrown l g om am 0 hi2_7 ac2_8 tp2_9 ba2_10 en2_11 tA2_12 fl2_13 de2_14 iD2_15 iO2_16 tU2_17 ) (cwV 0 hts (zgL (zl4 k1317 k1318 k1319 k833) k824) rfl rfl rfl (by decide +kernel) ⟨Nat.le_of_ble_eq_true rfl, Nat.le_of_ble_eq_true rfl⟩) rfl rfl rfl rfl (Nat.le_of_ble_eq_true rfl) dL_law__2469 ⟨(Nat.le_of_ble_eq_true rfl), (Nat.le_of_ble_eq_true rfl)⟩ (fun _u H locs hq24 hP hD hS => ?_)
        have hP : va_P g.1 vwCl (List.flatten [bTape g ta ab 0 0 0 0 0 (-1) (fun _ => 0), bLog g go ar 0 0 (fun _ => 0), [(tt, .inr (8, [.ref ta, .ref td]))], bTown g td tda 0 0 0 20 6 50 0 1 (fun _ _ => 0), [(lt, .inr (2, [.ref ta, .ref ldr]))], bLaw g ldr lda 0 (-1) 0 0 0 (fun _ => 0), bMem g mo qT qL it il ig 0 0 0 fT fL, bTown g it ia 0 0 0 20 6 50 0 1 (fun _ _ => 0), bLaw g il ic 0 (-1) 0 0 0 (fun _ => 0), bLog g ig ir 0 0 (fun _ => 0), bTown g t0 ta0 0 0 0 20 6 50 0 1 (fun _ _ => 0), bLog g l0 la0 0 0 (fun _ => 0), bRid g ro af 0 0 (fun _ => 0), [(oa, .inl (g.2 2, 1, .inr (.inl fz2_3)))], bObj g om am 0 hi2_7 ac2_8 tp2_9 ba2_10 en2_11 tA2_12 fl2_13 de2_14 iD2_15 iO2_16 tU2_17]) H := hP
        have hD : va_D A (List.flatten [bTape g ta ab 0 0 0 0 0 (-1) (fun _ => 0), bLog g go ar 0 0 (fun _ => 0), [(tt, .inr (8, [.ref ta, .ref td]))], bTown g td tda 0 0 0 20 6 50 0 1 (fun _ _ => 0), [(lt, .inr (2, [.ref ta, .ref ldr]))], bLaw g ldr lda 0 (-1) 0 0 0 (fun _ => 0), bMem g mo qT qL it il ig 0 0 0 fT fL, bTown g it ia 0 0 0 20 6 50 0 1 (fun _ _ => 0), bLaw g il ic 0 (-1) 0 0 0 (fun _ => 0), bLog g ig ir 0 0 (fun _ => 0), bTown g t0 ta0 0 0 0 20 6 50 0 1 (fun _ _ => 0), bLog g l0 la0 0 0 (fun _ => 0), bRid g ro af 0 0 (fun _ => 0), [(oa, .inl (g.2 2, 1, .inr (.inl fz2_3)))], bObj g om am 0 hi2_7 ac2_8 tp2_9 ba2_10 en2_11 tA2_12 fl2_13 de2_14 iD2_15 iO2_16 tU2_17]) := hD
        refine W.widen (k := 248) (n := 14997) (Nat.le_of_ble_eq_true rfl) (Nat.le_of_ble_eq_true rfl) ?_
        refine W.eq (g2 := F0 m 2472 ls [.int 0]) rfl ?_
        refine lv_iload hx hb dL_law__2472 (lv_at hl 1 rfl) ?_
        refine lv_icmp_eq (tgt := 2479) hx hb dL_law__2474 (by decide) (fun _ => ?_) (fun c25 => absurd (by decide) c25)
        refine lv_iload hx hb dL_law__2479 (lv_at hl 1 rfl) ?_
        refine lv_if_ne (tgt := 2496) hx hb dL_law__2481 (by decide) (fun c26 => absurd (by decide) c26) (fun _ => ?_)
        refine lv_aload_n hx hb dL_law__2484 rfl (lv_at hl 3 rfl) ?_
        refine lv_iconst (v := 0) hx hb dL_law__2485 (by decide) ?_
        refine va_lald hx hb hK hP 55 2 rfl rfl (zin rfl) dL_law__2486 ?_
        refine ztopl (r := fz2_3 0) rfl ?_
        refine lv_iload hx hb dL_law__2487 (lv_at hl 0 rfl) ?_
        refine lv_i2l (v := (q_18 : Int32).toInt64) hx hb dL_law__2489 rfl ?_
        refine W.lcmp hx hb dL_law__2490 ?_
        refine lv_if_eq (tgt := 2496) hx hb dL_law__2491 (by decide) (fun _ => ?_) (fun c27 => absurd (by rw [hg9.2, hG9.2]; exact lg_self _) c27)
        refine lv_goto (tgt := 2738) hx hb dL_law__2496 (by decide) ?_
        refine lv_iinc (v := 6) (lv' := [(4, .int 6), (6, .int q_18), (5, .int 0), (3, .ref oa), (2, .ref om), (1, .ref x), (0, .ref b)]) hx hb dL_law__2738 hl (k := 2) rfl (by decide) (by decide) rfl (fun ls hl => ?_)
        refine lv_goto (tgt := 23) hx hb dL_law__2741 (by decide) ?_
        refine lv_iload hx hb dL_law__23 (lv_at hl 0 rfl) ?_
        refine lv_aload_n hx hb dL_law__25 rfl (lv_at hl 6 rfl) ?_
        refine va_slen hx hb hX hbl hbA hS dL_law__26 ?_
        refine ztop (r := 6) rfl ?_
        refine lv_bipush (v := 6) hx hb dL_law__27 (by decide) ?_
        refine lv_isub hx hb dL_law__29 ?_
        refine ztop (r := 0) (by decide) ?_
        refine lv_icmp_gt (tgt := 2744) hx hb dL_law__30 (by decide) (fun _ => ?_) (fun c28 => absurd (by decide) c28)
        refine lv_iconst (v := 1) hx hb dL_law__2744 (by decide) ?_
        refine va_forget (fun q hq => by have h9 := hS.2.2 q hq; rw [hAe] at h9; exact h9) ?_
        refine W.widen (k := 600002) (n := 7302232) (Nat.le_of_ble_eq_true rfl) (Nat.le_of_ble_eq_true rfl) ?_
        exact lw_ret hx hb hr hlocks dL_law__2745
  · skip
    refine lv_iconst (v := 1) hx hb dL_law__2431 (by decide) ?_
    refine lv_goto (tgt := 2436) hx hb dL_law__2432 (by decide) ?_
    refine lv_aload_n hx hb dL_law__2436 rfl (lv_at hl 1 rfl) ?_
    refine xcallSX (g := g) (As := [.ref x, .int (xs 1), .int 1, .ref oa]) (rest := []) St hK hT hA hP hD hS hl.1 [0, 2, 15, 3, 16, 20] [1, 4, 5, 6, 7, 8, 9, 10, 11, 12, 13, 14, 17, 18, 19] rfl rfl rfl (l_span l hfl g x ta o lo go tt lt mo fo ro (-1) a 0 20 6 50 0 1 (fun _ _ => 0) ac 0 (-1) 0 0 0 (fun _ => 0) od ad 0 0 0 20 6 50 0 1 (fun _ _ => 0) (xs 1) 1 oa (fun _ => 0) (by assumption)) (vx_cwSW 4 hts (zgL (zl3 k1525 k1526 k1313) k1281) rfl rfl rfl (by decide +kernel) ⟨Nat.le_of_ble_eq_true rfl, Nat.le_of_ble_eq_true rfl⟩) rfl rfl (Nat.le_of_ble_eq_true rfl) dL_law__2437 ⟨(Nat.le_of_ble_eq_true rfl), (Nat.le_of_ble_eq_true rfl)⟩ (fun E ce q9 u9 H locs hpx hP hD hS hce hcv hcl => hpx.elim) (fun u_ H locs hq31 hP hD hS => ?_)
    obtain ⟨r_29, fz2_30⟩ := u_
    have hq31 : (r_29 = 1 ∧ ((xs 1) < 0 ∨ 60 < (xs 1))) ∨ (r_29 = 0 ∧ (¬ (xs 1) < 0 ∧ ¬ 60 < (xs 1)) ∧ fz2_30 0 = (0 : Int32).toInt64) := hq31
    have hP : va_P g.1 vwCl (List.flatten [bTape g ta ab 0 0 0 0 0 (-1) (fun _ => 0), bLog g go ar 0 0 (fun _ => 0), [(tt, .inr (8, [.ref ta, .ref td]))], bTown g td tda 0 0 0 20 6 50 0 1 (fun _ _ => 0), [(lt, .inr (2, [.ref ta, .ref ldr]))], bLaw g ldr lda 0 (-1) 0 0 0 (fun _ => 0), bMem g mo qT qL it il ig 0 0 0 fT fL, bTown g it ia 0 0 0 20 6 50 0 1 (fun _ _ => 0), bLaw g il ic 0 (-1) 0 0 0 (fun _ => 0), bLog g ig ir 0 0 (fun _ => 0), bTown g t0 ta0 0 0 0 20 6 50 0 1 (fun _ _ => 0), bLog g l0 la0 0 0 (fun _ => 0), bRid g ro af 0 0 (fun _ => 0), bObj g om am 0 0 0 0 0 0 0 (-1) 0 0 0 0, bArr g am (zf [m0, fun _ => 0, fun _ => 0, fun _ => 0, fun _ => 0, fun _ => 0, fun _ => 0, fun _ => 0]), [(oa, .inl (g.2 2, 1, .inr (.inl fz2_30)))]]) H := hP
    have hD : va_D A (List.flatten [bTape g ta ab 0 0 0 0 0 (-1) (fun _ => 0), bLog g go ar 0 0 (fun _ => 0), [(tt, .inr (8, [.ref ta, .ref td]))], bTown g td tda 0 0 0 20 6 50 0 1 (fun _ _ => 0), [(lt, .inr (2, [.ref ta, .ref ldr]))], bLaw g ldr lda 0 (-1) 0 0 0 (fun _ => 0), bMem g mo qT qL it il ig 0 0 0 fT fL, bTown g it ia 0 0 0 20 6 50 0 1 (fun _ _ => 0), bLaw g il ic 0 (-1) 0 0 0 (fun _ => 0), bLog g ig ir 0 0 (fun _ => 0), bTown g t0 ta0 0 0 0 20 6 50 0 1 (fun _ _ => 0), bLog g l0 la0 0 0 (fun _ => 0), bRid g ro af 0 0 (fun _ => 0), bObj g om am 0 0 0 0 0 0 0 (-1) 0 0 0 0, bArr g am (zf [m0, fun _ => 0, fun _ => 0, fun _ => 0, fun _ => 0, fun _ => 0, fun _ => 0, fun _ => 0]), [(oa, .inl (g.2 2, 1, .inr (.inl fz2_30)))]]) := hD
    refine W.widen (k := 248) (n := 14997) (Nat.le_of_ble_eq_true rfl) (Nat.le_of_ble_eq_true rfl) ?_
    refine W.eq (g2 := F0 m 2440 ls [.int r_29]) rfl ?_
    refine lv_istore (lv' := [(5, .int r_29), (4, .int 0), (3, .ref oa), (2, .ref om), (1, .ref x), (0, .ref b)]) hx hb dL_law__2440 hl (by decide) rfl (fun ls hl => ?_)
    refine lv_aload_n hx hb dL_law__2442 rfl (lv_at hl 3 rfl) ?_
    refine lv_aload_n hx hb dL_law__2443 rfl (lv_at hl 5 rfl) ?_
    refine lv_iload hx hb dL_law__2444 (lv_at hl 1 rfl) ?_
    refine lv_iconst (v := 1) hx hb dL_law__2446 (by decide) ?_
    refine lv_iadd hx hb dL_law__2447 ?_
    refine ztop (r := 1) (by decide) ?_
    refine va_sld hx hb hX hbl hbA hS (zin rfl) dL_law__2448 ?_
    refine ztop (r := xs 1) rfl ?_
    refine lv_aload_n hx hb dL_law__2449 rfl (lv_at hl 5 rfl) ?_
    refine lv_iload hx hb dL_law__2450 (lv_at hl 1 rfl) ?_
    refine lv_iconst (v := 2) hx hb dL_law__2452 (by decide) ?_
    refine lv_iadd hx hb dL_law__2453 ?_
    refine ztop (r := 2) (by decide) ?_
    refine va_sld hx hb hX hbl hbA hS (zin rfl) dL_law__2454 ?_
    refine ztop (r := xs 2) rfl ?_
    refine lv_if_eq (tgt := 2462) hx hb dL_law__2455 (by decide) (fun c32 => absurd c32 cZ) (fun _ => ?_)
    refine lv_iconst (v := 1) hx hb dL_law__2458 (by decide) ?_
    refine lv_goto (tgt := 2463) hx hb dL_law__2459 (by decide) ?_
    refine mcallV (g := g) (q0 := 0) (ci := 10) (As := [.int (xs 1), .int 1]) (rest := []) St hK hT hA hP hD hS hl.1 [13, 14] [0, 1, 2, 3, 4, 5, 6, 7, 8, 9, 10, 11, 12, 15] rfl rfl rfl (m_span l g om am 0 0 0 0 0 0 0 (-1) 0 0 0 0 (zf [m0, fun _ => 0, fun _ => 0, fun _ => 0, fun _ => 0, fun _ => 0, fun _ => 0, fun _ => 0]) (xs 1) 1 (by assumption)) (cwV 2 hts (zgL (zl4 k1527 k1528 k1529 k833) k1136) rfl rfl rfl (by decide +kernel) ⟨Nat.le_of_ble_eq_true rfl, Nat.le_of_ble_eq_true rfl⟩) rfl rfl rfl rfl (Nat.le_of_ble_eq_true rfl) dL_law__2463 ⟨(Nat.le_of_ble_eq_true rfl), (Nat.le_of_ble_eq_true rfl)⟩ (fun u_ H locs hq46 hP hD hS => ?_)
    obtain ⟨th2_33, hi2_34, ac2_35, tp2_36, ba2_37, en2_38, tA2_39, fl2_40, de2_41, iD2_42, iO2_43, tU2_44, q_45⟩ := u_
    have hq46 : (th2_33 = 1 ∧ (((xs 1) : Int32) < 0 ∨ 60 < ((xs 1) : Int32))) ∨ (th2_33 = 0 ∧ (¬ ((xs 1) : Int32) < 0 ∧ ¬ 60 < ((xs 1) : Int32)) ∧ q_45 = 0) := hq46
    have hP : va_P g.1 vwCl (List.flatten [bTape g ta ab 0 0 0 0 0 (-1) (fun _ => 0), bLog g go ar 0 0 (fun _ => 0), [(tt, .inr (8, [.ref ta, .ref td]))], bTown g td tda 0 0 0 20 6 50 0 1 (fun _ _ => 0), [(lt, .inr (2, [.ref ta, .ref ldr]))], bLaw g ldr lda 0 (-1) 0 0 0 (fun _ => 0), bMem g mo qT qL it il ig 0 0 0 fT fL, bTown g it ia 0 0 0 20 6 50 0 1 (fun _ _ => 0), bLaw g il ic 0 (-1) 0 0 0 (fun _ => 0), bLog g ig ir 0 0 (fun _ => 0), bTown g t0 ta0 0 0 0 20 6 50 0 1 (fun _ _ => 0), bLog g l0 la0 0 0 (fun _ => 0), bRid g ro af 0 0 (fun _ => 0), [(oa, .inl (g.2 2, 1, .inr (.inl fz2_30)))], bObj g om am th2_33 hi2_34 ac2_35 tp2_36 ba2_37 en2_38 tA2_39 fl2_40 de2_41 iD2_42 iO2_43 tU2_44]) H := hP
    have hD : va_D A (List.flatten [bTape g ta ab 0 0 0 0 0 (-1) (fun _ => 0), bLog g go ar 0 0 (fun _ => 0), [(tt, .inr (8, [.ref ta, .ref td]))], bTown g td tda 0 0 0 20 6 50 0 1 (fun _ _ => 0), [(lt, .inr (2, [.ref ta, .ref ldr]))], bLaw g ldr lda 0 (-1) 0 0 0 (fun _ => 0), bMem g mo qT qL it il ig 0 0 0 fT fL, bTown g it ia 0 0 0 20 6 50 0 1 (fun _ _ => 0), bLaw g il ic 0 (-1) 0 0 0 (fun _ => 0), bLog g ig ir 0 0 (fun _ => 0), bTown g t0 ta0 0 0 0 20 6 50 0 1 (fun _ _ => 0), bLog g l0 la0 0 0 (fun _ => 0), bRid g ro af 0 0 (fun _ => 0), [(oa, .inl (g.2 2, 1, .inr (.inl fz2_30)))], bObj g om am th2_33 hi2_34 ac2_35 tp2_36 ba2_37 en2_38 tA2_39 fl2_40 de2_41 iD2_42 iO2_43 tU2_44]) := hD
    refine W.widen (k := 248) (n := 14997) (Nat.le_of_ble_eq_true rfl) (Nat.le_of_ble_eq_true rfl) ?_
    refine W.eq (g2 := F0 m 2466 ls [.int q_45]) rfl ?_
    rcases hq31 with ⟨hr9, hb9⟩ | ⟨hr9, hg9⟩
    · skip
      rcases hq46 with ⟨ht9, hB9⟩ | ⟨ht9, hG9⟩
      · skip
        subst hr9
        subst ht9
        refine lv_istore (lv' := [(6, .int q_45), (5, .int 1), (4, .int 0), (3, .ref oa), (2, .ref om), (1, .ref x), (0, .ref b)]) hx hb dL_law__2466 hl (by decide) rfl (fun ls hl => ?_)
        refine lv_aload_n hx hb dL_law__2468 rfl (lv_at hl 4 rfl) ?_
        refine mcallV (g := g) (q0 := 0) (ci := 10) (As := []) (rest := []) St hK hT hA hP hD hS hl.1 [14] [0, 1, 2, 3, 4, 5, 6, 7, 8, 9, 10, 11, 12, 13] rfl rfl rfl (m_thrown l g om am 1 hi2_34 ac2_35 tp2_36 ba2_37 en2_38 tA2_39 fl2_40 de2_41 iD2_42 iO2_43 tU2_44 ) (cwV 0 hts (zgL (zl4 k1317 k1318 k1319 k833) k824) rfl rfl rfl (by decide +kernel) ⟨Nat.le_of_ble_eq_true rfl, Nat.le_of_ble_eq_true rfl⟩) rfl rfl rfl rfl (Nat.le_of_ble_eq_true rfl) dL_law__2469 ⟨(Nat.le_of_ble_eq_true rfl), (Nat.le_of_ble_eq_true rfl)⟩ (fun _u H locs hq47 hP hD hS => ?_)
        have hP : va_P g.1 vwCl (List.flatten [bTape g ta ab 0 0 0 0 0 (-1) (fun _ => 0), bLog g go ar 0 0 (fun _ => 0), [(tt, .inr (8, [.ref ta, .ref td]))], bTown g td tda 0 0 0 20 6 50 0 1 (fun _ _ => 0), [(lt, .inr (2, [.ref ta, .ref ldr]))], bLaw g ldr lda 0 (-1) 0 0 0 (fun _ => 0), bMem g mo qT qL it il ig 0 0 0 fT fL, bTown g it ia 0 0 0 20 6 50 0 1 (fun _ _ => 0), bLaw g il ic 0 (-1) 0 0 0 (fun _ => 0), bLog g ig ir 0 0 (fun _ => 0), bTown g t0 ta0 0 0 0 20 6 50 0 1 (fun _ _ => 0), bLog g l0 la0 0 0 (fun _ => 0), bRid g ro af 0 0 (fun _ => 0), [(oa, .inl (g.2 2, 1, .inr (.inl fz2_30)))], bObj g om am 1 hi2_34 ac2_35 tp2_36 ba2_37 en2_38 tA2_39 fl2_40 de2_41 iD2_42 iO2_43 tU2_44]) H := hP
        have hD : va_D A (List.flatten [bTape g ta ab 0 0 0 0 0 (-1) (fun _ => 0), bLog g go ar 0 0 (fun _ => 0), [(tt, .inr (8, [.ref ta, .ref td]))], bTown g td tda 0 0 0 20 6 50 0 1 (fun _ _ => 0), [(lt, .inr (2, [.ref ta, .ref ldr]))], bLaw g ldr lda 0 (-1) 0 0 0 (fun _ => 0), bMem g mo qT qL it il ig 0 0 0 fT fL, bTown g it ia 0 0 0 20 6 50 0 1 (fun _ _ => 0), bLaw g il ic 0 (-1) 0 0 0 (fun _ => 0), bLog g ig ir 0 0 (fun _ => 0), bTown g t0 ta0 0 0 0 20 6 50 0 1 (fun _ _ => 0), bLog g l0 la0 0 0 (fun _ => 0), bRid g ro af 0 0 (fun _ => 0), [(oa, .inl (g.2 2, 1, .inr (.inl fz2_30)))], bObj g om am 1 hi2_34 ac2_35 tp2_36 ba2_37 en2_38 tA2_39 fl2_40 de2_41 iD2_42 iO2_43 tU2_44]) := hD
        refine W.widen (k := 248) (n := 14997) (Nat.le_of_ble_eq_true rfl) (Nat.le_of_ble_eq_true rfl) ?_
        refine W.eq (g2 := F0 m 2472 ls [.int 1]) rfl ?_
        refine lv_iload hx hb dL_law__2472 (lv_at hl 1 rfl) ?_
        refine lv_icmp_eq (tgt := 2479) hx hb dL_law__2474 (by decide) (fun _ => ?_) (fun c48 => absurd (by decide) c48)
        refine lv_iload hx hb dL_law__2479 (lv_at hl 1 rfl) ?_
        refine lv_if_ne (tgt := 2496) hx hb dL_law__2481 (by decide) (fun _ => ?_) (fun c49 => absurd c49 (by decide))
        refine lv_goto (tgt := 2738) hx hb dL_law__2496 (by decide) ?_
        refine lv_iinc (v := 6) (lv' := [(4, .int 6), (6, .int q_45), (5, .int 1), (3, .ref oa), (2, .ref om), (1, .ref x), (0, .ref b)]) hx hb dL_law__2738 hl (k := 2) rfl (by decide) (by decide) rfl (fun ls hl => ?_)
        refine lv_goto (tgt := 23) hx hb dL_law__2741 (by decide) ?_
        refine lv_iload hx hb dL_law__23 (lv_at hl 0 rfl) ?_
        refine lv_aload_n hx hb dL_law__25 rfl (lv_at hl 6 rfl) ?_
        refine va_slen hx hb hX hbl hbA hS dL_law__26 ?_
        refine ztop (r := 6) rfl ?_
        refine lv_bipush (v := 6) hx hb dL_law__27 (by decide) ?_
        refine lv_isub hx hb dL_law__29 ?_
        refine ztop (r := 0) (by decide) ?_
        refine lv_icmp_gt (tgt := 2744) hx hb dL_law__30 (by decide) (fun _ => ?_) (fun c50 => absurd (by decide) c50)
        refine lv_iconst (v := 1) hx hb dL_law__2744 (by decide) ?_
        refine va_forget (fun q hq => by have h9 := hS.2.2 q hq; rw [hAe] at h9; exact h9) ?_
        refine W.widen (k := 600002) (n := 7302232) (Nat.le_of_ble_eq_true rfl) (Nat.le_of_ble_eq_true rfl) ?_
        exact lw_ret hx hb hr hlocks dL_law__2745
      · skip
        exact (hb9.elim hG9.1.1 hG9.1.2).elim
    · skip
      rcases hq46 with ⟨ht9, hB9⟩ | ⟨ht9, hG9⟩
      · skip
        exact (hB9.elim hg9.1.1 hg9.1.2).elim
      · skip
        subst hr9
        subst ht9
        refine lv_istore (lv' := [(6, .int q_45), (5, .int 0), (4, .int 0), (3, .ref oa), (2, .ref om), (1, .ref x), (0, .ref b)]) hx hb dL_law__2466 hl (by decide) rfl (fun ls hl => ?_)
        refine lv_aload_n hx hb dL_law__2468 rfl (lv_at hl 4 rfl) ?_
        refine mcallV (g := g) (q0 := 0) (ci := 10) (As := []) (rest := []) St hK hT hA hP hD hS hl.1 [14] [0, 1, 2, 3, 4, 5, 6, 7, 8, 9, 10, 11, 12, 13] rfl rfl rfl (m_thrown l g om am 0 hi2_34 ac2_35 tp2_36 ba2_37 en2_38 tA2_39 fl2_40 de2_41 iD2_42 iO2_43 tU2_44 ) (cwV 0 hts (zgL (zl4 k1317 k1318 k1319 k833) k824) rfl rfl rfl (by decide +kernel) ⟨Nat.le_of_ble_eq_true rfl, Nat.le_of_ble_eq_true rfl⟩) rfl rfl rfl rfl (Nat.le_of_ble_eq_true rfl) dL_law__2469 ⟨(Nat.le_of_ble_eq_true rfl), (Nat.le_of_ble_eq_true rfl)⟩ (fun _u H locs hq51 hP hD hS => ?_)
        have hP : va_P g.1 vwCl (List.flatten [bTape g ta ab 0 0 0 0 0 (-1) (fun _ => 0), bLog g go ar 0 0 (fun _ => 0), [(tt, .inr (8, [.ref ta, .ref td]))], bTown g td tda 0 0 0 20 6 50 0 1 (fun _ _ => 0), [(lt, .inr (2, [.ref ta, .ref ldr]))], bLaw g ldr lda 0 (-1) 0 0 0 (fun _ => 0), bMem g mo qT qL it il ig 0 0 0 fT fL, bTown g it ia 0 0 0 20 6 50 0 1 (fun _ _ => 0), bLaw g il ic 0 (-1) 0 0 0 (fun _ => 0), bLog g ig ir 0 0 (fun _ => 0), bTown g t0 ta0 0 0 0 20 6 50 0 1 (fun _ _ => 0), bLog g l0 la0 0 0 (fun _ => 0), bRid g ro af 0 0 (fun _ => 0), [(oa, .inl (g.2 2, 1, .inr (.inl fz2_30)))], bObj g om am 0 hi2_34 ac2_35 tp2_36 ba2_37 en2_38 tA2_39 fl2_40 de2_41 iD2_42 iO2_43 tU2_44]) H := hP
        have hD : va_D A (List.flatten [bTape g ta ab 0 0 0 0 0 (-1) (fun _ => 0), bLog g go ar 0 0 (fun _ => 0), [(tt, .inr (8, [.ref ta, .ref td]))], bTown g td tda 0 0 0 20 6 50 0 1 (fun _ _ => 0), [(lt, .inr (2, [.ref ta, .ref ldr]))], bLaw g ldr lda 0 (-1) 0 0 0 (fun _ => 0), bMem g mo qT qL it il ig 0 0 0 fT fL, bTown g it ia 0 0 0 20 6 50 0 1 (fun _ _ => 0), bLaw g il ic 0 (-1) 0 0 0 (fun _ => 0), bLog g ig ir 0 0 (fun _ => 0), bTown g t0 ta0 0 0 0 20 6 50 0 1 (fun _ _ => 0), bLog g l0 la0 0 0 (fun _ => 0), bRid g ro af 0 0 (fun _ => 0), [(oa, .inl (g.2 2, 1, .inr (.inl fz2_30)))], bObj g om am 0 hi2_34 ac2_35 tp2_36 ba2_37 en2_38 tA2_39 fl2_40 de2_41 iD2_42 iO2_43 tU2_44]) := hD
        refine W.widen (k := 248) (n := 14997) (Nat.le_of_ble_eq_true rfl) (Nat.le_of_ble_eq_true rfl) ?_
        refine W.eq (g2 := F0 m 2472 ls [.int 0]) rfl ?_
        refine lv_iload hx hb dL_law__2472 (lv_at hl 1 rfl) ?_
        refine lv_icmp_eq (tgt := 2479) hx hb dL_law__2474 (by decide) (fun _ => ?_) (fun c52 => absurd (by decide) c52)
        refine lv_iload hx hb dL_law__2479 (lv_at hl 1 rfl) ?_
        refine lv_if_ne (tgt := 2496) hx hb dL_law__2481 (by decide) (fun c53 => absurd (by decide) c53) (fun _ => ?_)
        refine lv_aload_n hx hb dL_law__2484 rfl (lv_at hl 3 rfl) ?_
        refine lv_iconst (v := 0) hx hb dL_law__2485 (by decide) ?_
        refine va_lald hx hb hK hP 55 2 rfl rfl (zin rfl) dL_law__2486 ?_
        refine ztopl (r := fz2_30 0) rfl ?_
        refine lv_iload hx hb dL_law__2487 (lv_at hl 0 rfl) ?_
        refine lv_i2l (v := (q_45 : Int32).toInt64) hx hb dL_law__2489 rfl ?_
        refine W.lcmp hx hb dL_law__2490 ?_
        refine lv_if_eq (tgt := 2496) hx hb dL_law__2491 (by decide) (fun _ => ?_) (fun c54 => absurd (by rw [hg9.2, hG9.2]; exact lg_self _) c54)
        refine lv_goto (tgt := 2738) hx hb dL_law__2496 (by decide) ?_
        refine lv_iinc (v := 6) (lv' := [(4, .int 6), (6, .int q_45), (5, .int 0), (3, .ref oa), (2, .ref om), (1, .ref x), (0, .ref b)]) hx hb dL_law__2738 hl (k := 2) rfl (by decide) (by decide) rfl (fun ls hl => ?_)
        refine lv_goto (tgt := 23) hx hb dL_law__2741 (by decide) ?_
        refine lv_iload hx hb dL_law__23 (lv_at hl 0 rfl) ?_
        refine lv_aload_n hx hb dL_law__25 rfl (lv_at hl 6 rfl) ?_
        refine va_slen hx hb hX hbl hbA hS dL_law__26 ?_
        refine ztop (r := 6) rfl ?_
        refine lv_bipush (v := 6) hx hb dL_law__27 (by decide) ?_
        refine lv_isub hx hb dL_law__29 ?_
        refine ztop (r := 0) (by decide) ?_
        refine lv_icmp_gt (tgt := 2744) hx hb dL_law__30 (by decide) (fun _ => ?_) (fun c55 => absurd (by decide) c55)
        refine lv_iconst (v := 1) hx hb dL_law__2744 (by decide) ?_
        refine va_forget (fun q hq => by have h9 := hS.2.2 q hq; rw [hAe] at h9; exact h9) ?_
        refine W.widen (k := 600002) (n := 7302232) (Nat.le_of_ble_eq_true rfl) (Nat.le_of_ble_eq_true rfl) ?_
        exact lw_ret hx hb hr hlocks dL_law__2745
set_option maxRecDepth 100000 in
set_option maxHeartbeats 4000000 in
/-- the law: led -/
theorem w_43 {p : Program} {e : Env} {s : State} {m : MethodId} {below : List Frame} {meth : Method} {c : Code} (l : Launch) (hfl : l.stackTraces = false) (g : zG) {b : Nat} {xs : Nat → Int32} {A : Nat → Prop} (hAe : A = fun q => s.heap.size ≤ q) (hA : ∀ q, s.heap.size ≤ q → A q) (hbA : ¬ A b) (St : CallFix p m c cL_law_ 7 s #[Value.ref b] zB RL) (hr : meth.sig.returnType = ret) (hlocks : meth.locks = false) (hX : va_X b 6 xs s s.heap) (hbl : b < s.heap.size) (hK : zK g s) (hT : zTh A s) (x : Nat) (ta : Nat) (o : Nat) (lo : Nat) (go : Nat) (tt : Nat) (lt : Nat) (mo : Nat) (fo : Nat) (ro : Nat) (ab : Nat) (ac : Nat) (ar : Nat) (td : Nat) (a : Nat → Nat) (tda : Nat → Nat) (ldr : Nat) (lda : Nat) (qT : Nat) (qL : Nat) (it : Nat) (il : Nat) (ig : Nat) (fT : Nat → Option Nat) (fL : Nat → Option Nat) (ia : Nat → Nat) (ic : Nat) (ir : Nat) (t0 : Nat) (ta0 : Nat → Nat) (l0 : Nat) (la0 : Nat) (od : Nat) (ad : Nat → Nat) (af : Nat) (om : Nat) (am : Nat → Nat) (m0 : Nat → Int32) (oa : Nat) (hT0 : fT 0 = some t0) (hL0 : fL 0 = some l0) (hm : zMo m0) (h8 : m0 8 = 0) (h10 : m0 10 = 1) (H : Heap) (locs : List Loc) (ls : Array Slot) (hP : va_P g.1 vwCl (List.flatten [bDR g x ta o lo go tt lt mo fo ro (-1), bTape g ta ab 0 0 0 0 0 (-1) (fun _ => 0), bTown g o a 0 0 0 20 6 50 0 1 (fun _ _ => 0), bLaw g lo ac 0 (-1) 0 0 0 (fun _ => 0), bLog g go ar 0 0 (fun _ => 0), [(tt, .inr (8, [.ref ta, .ref td]))], bTown g td tda 0 0 0 20 6 50 0 1 (fun _ _ => 0), [(lt, .inr (2, [.ref ta, .ref ldr]))], bLaw g ldr lda 0 (-1) 0 0 0 (fun _ => 0), bMem g mo qT qL it il ig 0 0 0 fT fL, bTown g it ia 0 0 0 20 6 50 0 1 (fun _ _ => 0), bLaw g il ic 0 (-1) 0 0 0 (fun _ => 0), bLog g ig ir 0 0 (fun _ => 0), bTown g t0 ta0 0 0 0 20 6 50 0 1 (fun _ _ => 0), bLog g l0 la0 0 0 (fun _ => 0), [(fo, .inr (0, [.ref o, .ref lo, .ref od]))], bTown g od ad 0 0 0 20 6 50 0 1 (fun _ _ => 0), bRid g ro af 0 0 (fun _ => 0), bObj g om am 0 0 0 0 0 0 0 (-1) 0 0 0 0, bArr g am (zf [m0, fun _ => 0, fun _ => 0, fun _ => 0, fun _ => 0, fun _ => 0, fun _ => 0, fun _ => 0]), [(oa, .inl (g.2 2, 1, .inr (.inl (fun _ => 0))))]]) H) (hD : va_D A (List.flatten [bDR g x ta o lo go tt lt mo fo ro (-1), bTape g ta ab 0 0 0 0 0 (-1) (fun _ => 0), bTown g o a 0 0 0 20 6 50 0 1 (fun _ _ => 0), bLaw g lo ac 0 (-1) 0 0 0 (fun _ => 0), bLog g go ar 0 0 (fun _ => 0), [(tt, .inr (8, [.ref ta, .ref td]))], bTown g td tda 0 0 0 20 6 50 0 1 (fun _ _ => 0), [(lt, .inr (2, [.ref ta, .ref ldr]))], bLaw g ldr lda 0 (-1) 0 0 0 (fun _ => 0), bMem g mo qT qL it il ig 0 0 0 fT fL, bTown g it ia 0 0 0 20 6 50 0 1 (fun _ _ => 0), bLaw g il ic 0 (-1) 0 0 0 (fun _ => 0), bLog g ig ir 0 0 (fun _ => 0), bTown g t0 ta0 0 0 0 20 6 50 0 1 (fun _ _ => 0), bLog g l0 la0 0 0 (fun _ => 0), [(fo, .inr (0, [.ref o, .ref lo, .ref od]))], bTown g od ad 0 0 0 20 6 50 0 1 (fun _ _ => 0), bRid g ro af 0 0 (fun _ => 0), bObj g om am 0 0 0 0 0 0 0 (-1) 0 0 0 0, bArr g am (zf [m0, fun _ => 0, fun _ => 0, fun _ => 0, fun _ => 0, fun _ => 0, fun _ => 0, fun _ => 0]), [(oa, .inl (g.2 2, 1, .inr (.inl (fun _ => 0))))]])) (hS : va_S A s.heap H locs) (hl : lv_has ls 7 [(4, .int 0), (3, .ref oa), (2, .ref om), (1, .ref x), (0, .ref b)]) : W p l e room_1 s m #[Value.ref b] below meth c H locs 247 14991 (lw_Z below #[Value.ref b] s) (F0 m 2499 ls []) := by
  obtain ⟨hx, hb, hml, hown, hts⟩ := id St
  have hz0 : zZ (fun _ => 0) := zZ0
  refine lv_aload_n hx hb dL_law__2499 rfl (lv_at hl 3 rfl) ?_
  refine lv_aload_n hx hb dL_law__2500 rfl (lv_at hl 4 rfl) ?_
  refine lv_iload hx hb dL_law__2501 (lv_at hl 0 rfl) ?_
  refine lv_iconst (v := 1) hx hb dL_law__2503 (by decide) ?_
  refine lv_iadd hx hb dL_law__2504 ?_
  refine ztop (r := 1) (by decide) ?_
  refine va_sld hx hb hX hbl hbA hS (zin rfl) dL_law__2505 ?_
  refine ztop (r := xs 1) rfl ?_
  refine lv_aload_n hx hb dL_law__2506 rfl (lv_at hl 4 rfl) ?_
  refine lv_iload hx hb dL_law__2507 (lv_at hl 0 rfl) ?_
  refine lv_iconst (v := 2) hx hb dL_law__2509 (by decide) ?_
  refine lv_iadd hx hb dL_law__2510 ?_
  refine ztop (r := 2) (by decide) ?_
  refine va_sld hx hb hX hbl hbA hS (zin rfl) dL_law__2511 ?_
  refine ztop (r := xs 2) rfl ?_
  refine lv_if_eq (tgt := 2519) hx hb dL_law__2512 (by decide) (fun cZ => ?_) (fun cZ => ?_)
  · skip
    refine lv_iconst (v := 0) hx hb dL_law__2519 (by decide) ?_
    refine lv_aload_n hx hb dL_law__2520 rfl (lv_at hl 1 rfl) ?_
    refine xcallSX (g := g) (As := [.ref x, .int (xs 1), .int 0, .ref oa]) (rest := []) St hK hT hA hP hD hS hl.1 [0, 2, 20] [1, 3, 4, 5, 6, 7, 8, 9, 10, 11, 12, 13, 14, 15, 16, 17, 18, 19] rfl rfl rfl (l_led l hfl g x ta o lo go tt lt mo fo ro (-1) o a 0 20 6 50 0 1 (fun _ _ => 0) (xs 1) 0 oa (fun _ => 0) ) (vx_cwSW 4 hts (zgL (zl3 k1530 k1531 k1313) k1285) rfl rfl rfl (by decide +kernel) ⟨Nat.le_of_ble_eq_true rfl, Nat.le_of_ble_eq_true rfl⟩) rfl rfl (Nat.le_of_ble_eq_true rfl) dL_law__2521 ⟨(Nat.le_of_ble_eq_true rfl), (Nat.le_of_ble_eq_true rfl)⟩ (fun E ce q9 u9 H locs hpx hP hD hS hce hcv hcl => hpx.elim) (fun u_ H locs hq4 hP hD hS => ?_)
    obtain ⟨r_2, fz2_3⟩ := u_
    have hq4 : r_2 = 1 := hq4
    have hP : va_P g.1 vwCl (List.flatten [bTape g ta ab 0 0 0 0 0 (-1) (fun _ => 0), bLaw g lo ac 0 (-1) 0 0 0 (fun _ => 0), bLog g go ar 0 0 (fun _ => 0), [(tt, .inr (8, [.ref ta, .ref td]))], bTown g td tda 0 0 0 20 6 50 0 1 (fun _ _ => 0), [(lt, .inr (2, [.ref ta, .ref ldr]))], bLaw g ldr lda 0 (-1) 0 0 0 (fun _ => 0), bMem g mo qT qL it il ig 0 0 0 fT fL, bTown g it ia 0 0 0 20 6 50 0 1 (fun _ _ => 0), bLaw g il ic 0 (-1) 0 0 0 (fun _ => 0), bLog g ig ir 0 0 (fun _ => 0), bTown g t0 ta0 0 0 0 20 6 50 0 1 (fun _ _ => 0), bLog g l0 la0 0 0 (fun _ => 0), [(fo, .inr (0, [.ref o, .ref lo, .ref od]))], bTown g od ad 0 0 0 20 6 50 0 1 (fun _ _ => 0), bRid g ro af 0 0 (fun _ => 0), bObj g om am 0 0 0 0 0 0 0 (-1) 0 0 0 0, bArr g am (zf [m0, fun _ => 0, fun _ => 0, fun _ => 0, fun _ => 0, fun _ => 0, fun _ => 0, fun _ => 0]), [(oa, .inl (g.2 2, 1, .inr (.inl fz2_3)))]]) H := hP
    have hD : va_D A (List.flatten [bTape g ta ab 0 0 0 0 0 (-1) (fun _ => 0), bLaw g lo ac 0 (-1) 0 0 0 (fun _ => 0), bLog g go ar 0 0 (fun _ => 0), [(tt, .inr (8, [.ref ta, .ref td]))], bTown g td tda 0 0 0 20 6 50 0 1 (fun _ _ => 0), [(lt, .inr (2, [.ref ta, .ref ldr]))], bLaw g ldr lda 0 (-1) 0 0 0 (fun _ => 0), bMem g mo qT qL it il ig 0 0 0 fT fL, bTown g it ia 0 0 0 20 6 50 0 1 (fun _ _ => 0), bLaw g il ic 0 (-1) 0 0 0 (fun _ => 0), bLog g ig ir 0 0 (fun _ => 0), bTown g t0 ta0 0 0 0 20 6 50 0 1 (fun _ _ => 0), bLog g l0 la0 0 0 (fun _ => 0), [(fo, .inr (0, [.ref o, .ref lo, .ref od]))], bTown g od ad 0 0 0 20 6 50 0 1 (fun _ _ => 0), bRid g ro af 0 0 (fun _ => 0), bObj g om am 0 0 0 0 0 0 0 (-1) 0 0 0 0, bArr g am (zf [m0, fun _ => 0, fun _ => 0, fun _ => 0, fun _ => 0, fun _ => 0, fun _ => 0, fun _ => 0]), [(oa, .inl (g.2 2, 1, .inr (.inl fz2_3)))]]) := hD
    refine W.widen (k := 248) (n := 14997) (Nat.le_of_ble_eq_true rfl) (Nat.le_of_ble_eq_true rfl) ?_
    refine W.eq (g2 := F0 m 2524 ls [.int r_2]) rfl ?_
    subst hq4
    refine lv_istore (lv' := [(5, .int 1), (4, .int 0), (3, .ref oa), (2, .ref om), (1, .ref x), (0, .ref b)]) hx hb dL_law__2524 hl (by decide) rfl (fun ls hl => ?_)
    refine lv_aload_n hx hb dL_law__2526 rfl (lv_at hl 3 rfl) ?_
    refine lv_aload_n hx hb dL_law__2527 rfl (lv_at hl 5 rfl) ?_
    refine lv_iload hx hb dL_law__2528 (lv_at hl 1 rfl) ?_
    refine lv_iconst (v := 1) hx hb dL_law__2530 (by decide) ?_
    refine lv_iadd hx hb dL_law__2531 ?_
    refine ztop (r := 1) (by decide) ?_
    refine va_sld hx hb hX hbl hbA hS (zin rfl) dL_law__2532 ?_
    refine ztop (r := xs 1) rfl ?_
    refine lv_aload_n hx hb dL_law__2533 rfl (lv_at hl 5 rfl) ?_
    refine lv_iload hx hb dL_law__2534 (lv_at hl 1 rfl) ?_
    refine lv_iconst (v := 2) hx hb dL_law__2536 (by decide) ?_
    refine lv_iadd hx hb dL_law__2537 ?_
    refine ztop (r := 2) (by decide) ?_
    refine va_sld hx hb hX hbl hbA hS (zin rfl) dL_law__2538 ?_
    refine ztop (r := xs 2) rfl ?_
    refine lv_if_eq (tgt := 2546) hx hb dL_law__2539 (by decide) (fun _ => ?_) (fun c5 => absurd cZ c5)
    refine lv_iconst (v := 0) hx hb dL_law__2546 (by decide) ?_
    refine mcallV (g := g) (q0 := 0) (ci := 10) (As := [.int (xs 1), .int 0]) (rest := []) St hK hT hA hP hD hS hl.1 [16, 17] [0, 1, 2, 3, 4, 5, 6, 7, 8, 9, 10, 11, 12, 13, 14, 15, 18] rfl rfl rfl (m_led l g om am 0 0 0 0 0 0 0 (-1) 0 0 0 0 (zf [m0, fun _ => 0, fun _ => 0, fun _ => 0, fun _ => 0, fun _ => 0, fun _ => 0, fun _ => 0]) (xs 1) 0 (by assumption)) (cwV 2 hts (zgL (zl4 k1532 k1533 k1534 k833) k1137) rfl rfl rfl (by decide +kernel) ⟨Nat.le_of_ble_eq_true rfl, Nat.le_of_ble_eq_true rfl⟩) rfl rfl rfl rfl (Nat.le_of_ble_eq_true rfl) dL_law__2547 ⟨(Nat.le_of_ble_eq_true rfl), (Nat.le_of_ble_eq_true rfl)⟩ (fun u_ H locs hq19 hP hD hS => ?_)
    obtain ⟨th2_6, hi2_7, ac2_8, tp2_9, ba2_10, en2_11, tA2_12, fl2_13, de2_14, iD2_15, iO2_16, tU2_17, q_18⟩ := u_
    have hq19 : th2_6 = 1 := hq19
    have hP : va_P g.1 vwCl (List.flatten [bTape g ta ab 0 0 0 0 0 (-1) (fun _ => 0), bLaw g lo ac 0 (-1) 0 0 0 (fun _ => 0), bLog g go ar 0 0 (fun _ => 0), [(tt, .inr (8, [.ref ta, .ref td]))], bTown g td tda 0 0 0 20 6 50 0 1 (fun _ _ => 0), [(lt, .inr (2, [.ref ta, .ref ldr]))], bLaw g ldr lda 0 (-1) 0 0 0 (fun _ => 0), bMem g mo qT qL it il ig 0 0 0 fT fL, bTown g it ia 0 0 0 20 6 50 0 1 (fun _ _ => 0), bLaw g il ic 0 (-1) 0 0 0 (fun _ => 0), bLog g ig ir 0 0 (fun _ => 0), bTown g t0 ta0 0 0 0 20 6 50 0 1 (fun _ _ => 0), bLog g l0 la0 0 0 (fun _ => 0), [(fo, .inr (0, [.ref o, .ref lo, .ref od]))], bTown g od ad 0 0 0 20 6 50 0 1 (fun _ _ => 0), bRid g ro af 0 0 (fun _ => 0), [(oa, .inl (g.2 2, 1, .inr (.inl fz2_3)))], bObj g om am th2_6 hi2_7 ac2_8 tp2_9 ba2_10 en2_11 tA2_12 fl2_13 de2_14 iD2_15 iO2_16 tU2_17]) H := hP
    have hD : va_D A (List.flatten [bTape g ta ab 0 0 0 0 0 (-1) (fun _ => 0), bLaw g lo ac 0 (-1) 0 0 0 (fun _ => 0), bLog g go ar 0 0 (fun _ => 0), [(tt, .inr (8, [.ref ta, .ref td]))], bTown g td tda 0 0 0 20 6 50 0 1 (fun _ _ => 0), [(lt, .inr (2, [.ref ta, .ref ldr]))], bLaw g ldr lda 0 (-1) 0 0 0 (fun _ => 0), bMem g mo qT qL it il ig 0 0 0 fT fL, bTown g it ia 0 0 0 20 6 50 0 1 (fun _ _ => 0), bLaw g il ic 0 (-1) 0 0 0 (fun _ => 0), bLog g ig ir 0 0 (fun _ => 0), bTown g t0 ta0 0 0 0 20 6 50 0 1 (fun _ _ => 0), bLog g l0 la0 0 0 (fun _ => 0), [(fo, .inr (0, [.ref o, .ref lo, .ref od]))], bTown g od ad 0 0 0 20 6 50 0 1 (fun _ _ => 0), bRid g ro af 0 0 (fun _ => 0), [(oa, .inl (g.2 2, 1, .inr (.inl fz2_3)))], bObj g om am th2_6 hi2_7 ac2_8 tp2_9 ba2_10 en2_11 tA2_12 fl2_13 de2_14 iD2_15 iO2_16 tU2_17]) := hD
    refine W.widen (k := 248) (n := 14997) (Nat.le_of_ble_eq_true rfl) (Nat.le_of_ble_eq_true rfl) ?_
    refine W.eq (g2 := F0 m 2550 ls [.int q_18]) rfl ?_
    subst hq19
    refine lv_istore (lv' := [(6, .int q_18), (5, .int 1), (4, .int 0), (3, .ref oa), (2, .ref om), (1, .ref x), (0, .ref b)]) hx hb dL_law__2550 hl (by decide) rfl (fun ls hl => ?_)
    refine lv_aload_n hx hb dL_law__2552 rfl (lv_at hl 4 rfl) ?_
    refine mcallV (g := g) (q0 := 0) (ci := 10) (As := []) (rest := []) St hK hT hA hP hD hS hl.1 [17] [0, 1, 2, 3, 4, 5, 6, 7, 8, 9, 10, 11, 12, 13, 14, 15, 16] rfl rfl rfl (m_thrown l g om am 1 hi2_7 ac2_8 tp2_9 ba2_10 en2_11 tA2_12 fl2_13 de2_14 iD2_15 iO2_16 tU2_17 ) (cwV 0 hts (zgL (zl4 k1317 k1318 k1319 k833) k824) rfl rfl rfl (by decide +kernel) ⟨Nat.le_of_ble_eq_true rfl, Nat.le_of_ble_eq_true rfl⟩) rfl rfl rfl rfl (Nat.le_of_ble_eq_true rfl) dL_law__2553 ⟨(Nat.le_of_ble_eq_true rfl), (Nat.le_of_ble_eq_true rfl)⟩ (fun _u H locs hq20 hP hD hS => ?_)
    have hP : va_P g.1 vwCl (List.flatten [bTape g ta ab 0 0 0 0 0 (-1) (fun _ => 0), bLaw g lo ac 0 (-1) 0 0 0 (fun _ => 0), bLog g go ar 0 0 (fun _ => 0), [(tt, .inr (8, [.ref ta, .ref td]))], bTown g td tda 0 0 0 20 6 50 0 1 (fun _ _ => 0), [(lt, .inr (2, [.ref ta, .ref ldr]))], bLaw g ldr lda 0 (-1) 0 0 0 (fun _ => 0), bMem g mo qT qL it il ig 0 0 0 fT fL, bTown g it ia 0 0 0 20 6 50 0 1 (fun _ _ => 0), bLaw g il ic 0 (-1) 0 0 0 (fun _ => 0), bLog g ig ir 0 0 (fun _ => 0), bTown g t0 ta0 0 0 0 20 6 50 0 1 (fun _ _ => 0), bLog g l0 la0 0 0 (fun _ => 0), [(fo, .inr (0, [.ref o, .ref lo, .ref od]))], bTown g od ad 0 0 0 20 6 50 0 1 (fun _ _ => 0), bRid g ro af 0 0 (fun _ => 0), [(oa, .inl (g.2 2, 1, .inr (.inl fz2_3)))], bObj g om am 1 hi2_7 ac2_8 tp2_9 ba2_10 en2_11 tA2_12 fl2_13 de2_14 iD2_15 iO2_16 tU2_17]) H := hP
    have hD : va_D A (List.flatten [bTape g ta ab 0 0 0 0 0 (-1) (fun _ => 0), bLaw g lo ac 0 (-1) 0 0 0 (fun _ => 0), bLog g go ar 0 0 (fun _ => 0), [(tt, .inr (8, [.ref ta, .ref td]))], bTown g td tda 0 0 0 20 6 50 0 1 (fun _ _ => 0), [(lt, .inr (2, [.ref ta, .ref ldr]))], bLaw g ldr lda 0 (-1) 0 0 0 (fun _ => 0), bMem g mo qT qL it il ig 0 0 0 fT fL, bTown g it ia 0 0 0 20 6 50 0 1 (fun _ _ => 0), bLaw g il ic 0 (-1) 0 0 0 (fun _ => 0), bLog g ig ir 0 0 (fun _ => 0), bTown g t0 ta0 0 0 0 20 6 50 0 1 (fun _ _ => 0), bLog g l0 la0 0 0 (fun _ => 0), [(fo, .inr (0, [.ref o, .ref lo, .ref od]))], bTown g od ad 0 0 0 20 6 50 0 1 (fun _ _ => 0), bRid g ro af 0 0 (fun _ => 0), [(oa, .inl (g.2 2, 1, .inr (.inl fz2_3)))], bObj g om am 1 hi2_7 ac2_8 tp2_9 ba2_10 en2_11 tA2_12 fl2_13 de2_14 iD2_15 iO2_16 tU2_17]) := hD
    refine W.widen (k := 248) (n := 14997) (Nat.le_of_ble_eq_true rfl) (Nat.le_of_ble_eq_true rfl) ?_
    refine W.eq (g2 := F0 m 2556 ls [.int 1]) rfl ?_
    refine lv_iload hx hb dL_law__2556 (lv_at hl 1 rfl) ?_
    refine lv_icmp_eq (tgt := 2563) hx hb dL_law__2558 (by decide) (fun _ => ?_) (fun c21 => absurd (by decide) c21)
    refine lv_iload hx hb dL_law__2563 (lv_at hl 1 rfl) ?_
    refine lv_if_ne (tgt := 2580) hx hb dL_law__2565 (by decide) (fun _ => ?_) (fun c22 => absurd c22 (by decide))
    refine lv_goto (tgt := 2738) hx hb dL_law__2580 (by decide) ?_
    refine lv_iinc (v := 6) (lv' := [(4, .int 6), (6, .int q_18), (5, .int 1), (3, .ref oa), (2, .ref om), (1, .ref x), (0, .ref b)]) hx hb dL_law__2738 hl (k := 2) rfl (by decide) (by decide) rfl (fun ls hl => ?_)
    refine lv_goto (tgt := 23) hx hb dL_law__2741 (by decide) ?_
    refine lv_iload hx hb dL_law__23 (lv_at hl 0 rfl) ?_
    refine lv_aload_n hx hb dL_law__25 rfl (lv_at hl 6 rfl) ?_
    refine va_slen hx hb hX hbl hbA hS dL_law__26 ?_
    refine ztop (r := 6) rfl ?_
    refine lv_bipush (v := 6) hx hb dL_law__27 (by decide) ?_
    refine lv_isub hx hb dL_law__29 ?_
    refine ztop (r := 0) (by decide) ?_
    refine lv_icmp_gt (tgt := 2744) hx hb dL_law__30 (by decide) (fun _ => ?_) (fun c23 => absurd (by decide) c23)
    refine lv_iconst (v := 1) hx hb dL_law__2744 (by decide) ?_
    refine va_forget (fun q hq => by have h9 := hS.2.2 q hq; rw [hAe] at h9; exact h9) ?_
    refine W.widen (k := 600002) (n := 7302232) (Nat.le_of_ble_eq_true rfl) (Nat.le_of_ble_eq_true rfl) ?_
    exact lw_ret hx hb hr hlocks dL_law__2745
  · skip
    refine lv_iconst (v := 1) hx hb dL_law__2515 (by decide) ?_
    refine lv_goto (tgt := 2520) hx hb dL_law__2516 (by decide) ?_
    refine lv_aload_n hx hb dL_law__2520 rfl (lv_at hl 1 rfl) ?_
    refine xcallSX (g := g) (As := [.ref x, .int (xs 1), .int 1, .ref oa]) (rest := []) St hK hT hA hP hD hS hl.1 [0, 2, 20] [1, 3, 4, 5, 6, 7, 8, 9, 10, 11, 12, 13, 14, 15, 16, 17, 18, 19] rfl rfl rfl (l_led l hfl g x ta o lo go tt lt mo fo ro (-1) o a 0 20 6 50 0 1 (fun _ _ => 0) (xs 1) 1 oa (fun _ => 0) ) (vx_cwSW 4 hts (zgL (zl3 k1530 k1531 k1313) k1285) rfl rfl rfl (by decide +kernel) ⟨Nat.le_of_ble_eq_true rfl, Nat.le_of_ble_eq_true rfl⟩) rfl rfl (Nat.le_of_ble_eq_true rfl) dL_law__2521 ⟨(Nat.le_of_ble_eq_true rfl), (Nat.le_of_ble_eq_true rfl)⟩ (fun E ce q9 u9 H locs hpx hP hD hS hce hcv hcl => hpx.elim) (fun u_ H locs hq26 hP hD hS => ?_)
    obtain ⟨r_24, fz2_25⟩ := u_
    have hq26 : r_24 = 1 := hq26
    have hP : va_P g.1 vwCl (List.flatten [bTape g ta ab 0 0 0 0 0 (-1) (fun _ => 0), bLaw g lo ac 0 (-1) 0 0 0 (fun _ => 0), bLog g go ar 0 0 (fun _ => 0), [(tt, .inr (8, [.ref ta, .ref td]))], bTown g td tda 0 0 0 20 6 50 0 1 (fun _ _ => 0), [(lt, .inr (2, [.ref ta, .ref ldr]))], bLaw g ldr lda 0 (-1) 0 0 0 (fun _ => 0), bMem g mo qT qL it il ig 0 0 0 fT fL, bTown g it ia 0 0 0 20 6 50 0 1 (fun _ _ => 0), bLaw g il ic 0 (-1) 0 0 0 (fun _ => 0), bLog g ig ir 0 0 (fun _ => 0), bTown g t0 ta0 0 0 0 20 6 50 0 1 (fun _ _ => 0), bLog g l0 la0 0 0 (fun _ => 0), [(fo, .inr (0, [.ref o, .ref lo, .ref od]))], bTown g od ad 0 0 0 20 6 50 0 1 (fun _ _ => 0), bRid g ro af 0 0 (fun _ => 0), bObj g om am 0 0 0 0 0 0 0 (-1) 0 0 0 0, bArr g am (zf [m0, fun _ => 0, fun _ => 0, fun _ => 0, fun _ => 0, fun _ => 0, fun _ => 0, fun _ => 0]), [(oa, .inl (g.2 2, 1, .inr (.inl fz2_25)))]]) H := hP
    have hD : va_D A (List.flatten [bTape g ta ab 0 0 0 0 0 (-1) (fun _ => 0), bLaw g lo ac 0 (-1) 0 0 0 (fun _ => 0), bLog g go ar 0 0 (fun _ => 0), [(tt, .inr (8, [.ref ta, .ref td]))], bTown g td tda 0 0 0 20 6 50 0 1 (fun _ _ => 0), [(lt, .inr (2, [.ref ta, .ref ldr]))], bLaw g ldr lda 0 (-1) 0 0 0 (fun _ => 0), bMem g mo qT qL it il ig 0 0 0 fT fL, bTown g it ia 0 0 0 20 6 50 0 1 (fun _ _ => 0), bLaw g il ic 0 (-1) 0 0 0 (fun _ => 0), bLog g ig ir 0 0 (fun _ => 0), bTown g t0 ta0 0 0 0 20 6 50 0 1 (fun _ _ => 0), bLog g l0 la0 0 0 (fun _ => 0), [(fo, .inr (0, [.ref o, .ref lo, .ref od]))], bTown g od ad 0 0 0 20 6 50 0 1 (fun _ _ => 0), bRid g ro af 0 0 (fun _ => 0), bObj g om am 0 0 0 0 0 0 0 (-1) 0 0 0 0, bArr g am (zf [m0, fun _ => 0, fun _ => 0, fun _ => 0, fun _ => 0, fun _ => 0, fun _ => 0, fun _ => 0]), [(oa, .inl (g.2 2, 1, .inr (.inl fz2_25)))]]) := hD
    refine W.widen (k := 248) (n := 14997) (Nat.le_of_ble_eq_true rfl) (Nat.le_of_ble_eq_true rfl) ?_
    refine W.eq (g2 := F0 m 2524 ls [.int r_24]) rfl ?_
    subst hq26
    refine lv_istore (lv' := [(5, .int 1), (4, .int 0), (3, .ref oa), (2, .ref om), (1, .ref x), (0, .ref b)]) hx hb dL_law__2524 hl (by decide) rfl (fun ls hl => ?_)
    refine lv_aload_n hx hb dL_law__2526 rfl (lv_at hl 3 rfl) ?_
    refine lv_aload_n hx hb dL_law__2527 rfl (lv_at hl 5 rfl) ?_
    refine lv_iload hx hb dL_law__2528 (lv_at hl 1 rfl) ?_
    refine lv_iconst (v := 1) hx hb dL_law__2530 (by decide) ?_
    refine lv_iadd hx hb dL_law__2531 ?_
    refine ztop (r := 1) (by decide) ?_
    refine va_sld hx hb hX hbl hbA hS (zin rfl) dL_law__2532 ?_
    refine ztop (r := xs 1) rfl ?_
    refine lv_aload_n hx hb dL_law__2533 rfl (lv_at hl 5 rfl) ?_
    refine lv_iload hx hb dL_law__2534 (lv_at hl 1 rfl) ?_
    refine lv_iconst (v := 2) hx hb dL_law__2536 (by decide) ?_
    refine lv_iadd hx hb dL_law__2537 ?_
    refine ztop (r := 2) (by decide) ?_
    refine va_sld hx hb hX hbl hbA hS (zin rfl) dL_law__2538 ?_
    refine ztop (r := xs 2) rfl ?_
    refine lv_if_eq (tgt := 2546) hx hb dL_law__2539 (by decide) (fun c27 => absurd c27 cZ) (fun _ => ?_)
    refine lv_iconst (v := 1) hx hb dL_law__2542 (by decide) ?_
    refine lv_goto (tgt := 2547) hx hb dL_law__2543 (by decide) ?_
    refine mcallV (g := g) (q0 := 0) (ci := 10) (As := [.int (xs 1), .int 1]) (rest := []) St hK hT hA hP hD hS hl.1 [16, 17] [0, 1, 2, 3, 4, 5, 6, 7, 8, 9, 10, 11, 12, 13, 14, 15, 18] rfl rfl rfl (m_led l g om am 0 0 0 0 0 0 0 (-1) 0 0 0 0 (zf [m0, fun _ => 0, fun _ => 0, fun _ => 0, fun _ => 0, fun _ => 0, fun _ => 0, fun _ => 0]) (xs 1) 1 (by assumption)) (cwV 2 hts (zgL (zl4 k1532 k1533 k1534 k833) k1137) rfl rfl rfl (by decide +kernel) ⟨Nat.le_of_ble_eq_true rfl, Nat.le_of_ble_eq_true rfl⟩) rfl rfl rfl rfl (Nat.le_of_ble_eq_true rfl) dL_law__2547 ⟨(Nat.le_of_ble_eq_true rfl), (Nat.le_of_ble_eq_true rfl)⟩ (fun u_ H locs hq41 hP hD hS => ?_)
    obtain ⟨th2_28, hi2_29, ac2_30, tp2_31, ba2_32, en2_33, tA2_34, fl2_35, de2_36, iD2_37, iO2_38, tU2_39, q_40⟩ := u_
    have hq41 : th2_28 = 1 := hq41
    have hP : va_P g.1 vwCl (List.flatten [bTape g ta ab 0 0 0 0 0 (-1) (fun _ => 0), bLaw g lo ac 0 (-1) 0 0 0 (fun _ => 0), bLog g go ar 0 0 (fun _ => 0), [(tt, .inr (8, [.ref ta, .ref td]))], bTown g td tda 0 0 0 20 6 50 0 1 (fun _ _ => 0), [(lt, .inr (2, [.ref ta, .ref ldr]))], bLaw g ldr lda 0 (-1) 0 0 0 (fun _ => 0), bMem g mo qT qL it il ig 0 0 0 fT fL, bTown g it ia 0 0 0 20 6 50 0 1 (fun _ _ => 0), bLaw g il ic 0 (-1) 0 0 0 (fun _ => 0), bLog g ig ir 0 0 (fun _ => 0), bTown g t0 ta0 0 0 0 20 6 50 0 1 (fun _ _ => 0), bLog g l0 la0 0 0 (fun _ => 0), [(fo, .inr (0, [.ref o, .ref lo, .ref od]))], bTown g od ad 0 0 0 20 6 50 0 1 (fun _ _ => 0), bRid g ro af 0 0 (fun _ => 0), [(oa, .inl (g.2 2, 1, .inr (.inl fz2_25)))], bObj g om am th2_28 hi2_29 ac2_30 tp2_31 ba2_32 en2_33 tA2_34 fl2_35 de2_36 iD2_37 iO2_38 tU2_39]) H := hP
    have hD : va_D A (List.flatten [bTape g ta ab 0 0 0 0 0 (-1) (fun _ => 0), bLaw g lo ac 0 (-1) 0 0 0 (fun _ => 0), bLog g go ar 0 0 (fun _ => 0), [(tt, .inr (8, [.ref ta, .ref td]))], bTown g td tda 0 0 0 20 6 50 0 1 (fun _ _ => 0), [(lt, .inr (2, [.ref ta, .ref ldr]))], bLaw g ldr lda 0 (-1) 0 0 0 (fun _ => 0), bMem g mo qT qL it il ig 0 0 0 fT fL, bTown g it ia 0 0 0 20 6 50 0 1 (fun _ _ => 0), bLaw g il ic 0 (-1) 0 0 0 (fun _ => 0), bLog g ig ir 0 0 (fun _ => 0), bTown g t0 ta0 0 0 0 20 6 50 0 1 (fun _ _ => 0), bLog g l0 la0 0 0 (fun _ => 0), [(fo, .inr (0, [.ref o, .ref lo, .ref od]))], bTown g od ad 0 0 0 20 6 50 0 1 (fun _ _ => 0), bRid g ro af 0 0 (fun _ => 0), [(oa, .inl (g.2 2, 1, .inr (.inl fz2_25)))], bObj g om am th2_28 hi2_29 ac2_30 tp2_31 ba2_32 en2_33 tA2_34 fl2_35 de2_36 iD2_37 iO2_38 tU2_39]) := hD
    refine W.widen (k := 248) (n := 14997) (Nat.le_of_ble_eq_true rfl) (Nat.le_of_ble_eq_true rfl) ?_
    refine W.eq (g2 := F0 m 2550 ls [.int q_40]) rfl ?_
    subst hq41
    refine lv_istore (lv' := [(6, .int q_40), (5, .int 1), (4, .int 0), (3, .ref oa), (2, .ref om), (1, .ref x), (0, .ref b)]) hx hb dL_law__2550 hl (by decide) rfl (fun ls hl => ?_)
    refine lv_aload_n hx hb dL_law__2552 rfl (lv_at hl 4 rfl) ?_
    refine mcallV (g := g) (q0 := 0) (ci := 10) (As := []) (rest := []) St hK hT hA hP hD hS hl.1 [17] [0, 1, 2, 3, 4, 5, 6, 7, 8, 9, 10, 11, 12, 13, 14, 15, 16] rfl rfl rfl (m_thrown l g om am 1 hi2_29 ac2_30 tp2_31 ba2_32 en2_33 tA2_34 fl2_35 de2_36 iD2_37 iO2_38 tU2_39 ) (cwV 0 hts (zgL (zl4 k1317 k1318 k1319 k833) k824) rfl rfl rfl (by decide +kernel) ⟨Nat.le_of_ble_eq_true rfl, Nat.le_of_ble_eq_true rfl⟩) rfl rfl rfl rfl (Nat.le_of_ble_eq_true rfl) dL_law__2553 ⟨(Nat.le_of_ble_eq_true rfl), (Nat.le_of_ble_eq_true rfl)⟩ (fun _u H locs hq42 hP hD hS => ?_)
    have hP : va_P g.1 vwCl (List.flatten [bTape g ta ab 0 0 0 0 0 (-1) (fun _ => 0), bLaw g lo ac 0 (-1) 0 0 0 (fun _ => 0), bLog g go ar 0 0 (fun _ => 0), [(tt, .inr (8, [.ref ta, .ref td]))], bTown g td tda 0 0 0 20 6 50 0 1 (fun _ _ => 0), [(lt, .inr (2, [.ref ta, .ref ldr]))], bLaw g ldr lda 0 (-1) 0 0 0 (fun _ => 0), bMem g mo qT qL it il ig 0 0 0 fT fL, bTown g it ia 0 0 0 20 6 50 0 1 (fun _ _ => 0), bLaw g il ic 0 (-1) 0 0 0 (fun _ => 0), bLog g ig ir 0 0 (fun _ => 0), bTown g t0 ta0 0 0 0 20 6 50 0 1 (fun _ _ => 0), bLog g l0 la0 0 0 (fun _ => 0), [(fo, .inr (0, [.ref o, .ref lo, .ref od]))], bTown g od ad 0 0 0 20 6 50 0 1 (fun _ _ => 0), bRid g ro af 0 0 (fun _ => 0), [(oa, .inl (g.2 2, 1, .inr (.inl fz2_25)))], bObj g om am 1 hi2_29 ac2_30 tp2_31 ba2_32 en2_33 tA2_34 fl2_35 de2_36 iD2_37 iO2_38 tU2_39]) H := hP
    have hD : va_D A (List.flatten [bTape g ta ab 0 0 0 0 0 (-1) (fun _ => 0), bLaw g lo ac 0 (-1) 0 0 0 (fun _ => 0), bLog g go ar 0 0 (fun _ => 0), [(tt, .inr (8, [.ref ta, .ref td]))], bTown g td tda 0 0 0 20 6 50 0 1 (fun _ _ => 0), [(lt, .inr (2, [.ref ta, .ref ldr]))], bLaw g ldr lda 0 (-1) 0 0 0 (fun _ => 0), bMem g mo qT qL it il ig 0 0 0 fT fL, bTown g it ia 0 0 0 20 6 50 0 1 (fun _ _ => 0), bLaw g il ic 0 (-1) 0 0 0 (fun _ => 0), bLog g ig ir 0 0 (fun _ => 0), bTown g t0 ta0 0 0 0 20 6 50 0 1 (fun _ _ => 0), bLog g l0 la0 0 0 (fun _ => 0), [(fo, .inr (0, [.ref o, .ref lo, .ref od]))], bTown g od ad 0 0 0 20 6 50 0 1 (fun _ _ => 0), bRid g ro af 0 0 (fun _ => 0), [(oa, .inl (g.2 2, 1, .inr (.inl fz2_25)))], bObj g om am 1 hi2_29 ac2_30 tp2_31 ba2_32 en2_33 tA2_34 fl2_35 de2_36 iD2_37 iO2_38 tU2_39]) := hD
    refine W.widen (k := 248) (n := 14997) (Nat.le_of_ble_eq_true rfl) (Nat.le_of_ble_eq_true rfl) ?_
    refine W.eq (g2 := F0 m 2556 ls [.int 1]) rfl ?_
    refine lv_iload hx hb dL_law__2556 (lv_at hl 1 rfl) ?_
    refine lv_icmp_eq (tgt := 2563) hx hb dL_law__2558 (by decide) (fun _ => ?_) (fun c43 => absurd (by decide) c43)
    refine lv_iload hx hb dL_law__2563 (lv_at hl 1 rfl) ?_
    refine lv_if_ne (tgt := 2580) hx hb dL_law__2565 (by decide) (fun _ => ?_) (fun c44 => absurd c44 (by decide))
    refine lv_goto (tgt := 2738) hx hb dL_law__2580 (by decide) ?_
    refine lv_iinc (v := 6) (lv' := [(4, .int 6), (6, .int q_40), (5, .int 1), (3, .ref oa), (2, .ref om), (1, .ref x), (0, .ref b)]) hx hb dL_law__2738 hl (k := 2) rfl (by decide) (by decide) rfl (fun ls hl => ?_)
    refine lv_goto (tgt := 23) hx hb dL_law__2741 (by decide) ?_
    refine lv_iload hx hb dL_law__23 (lv_at hl 0 rfl) ?_
    refine lv_aload_n hx hb dL_law__25 rfl (lv_at hl 6 rfl) ?_
    refine va_slen hx hb hX hbl hbA hS dL_law__26 ?_
    refine ztop (r := 6) rfl ?_
    refine lv_bipush (v := 6) hx hb dL_law__27 (by decide) ?_
    refine lv_isub hx hb dL_law__29 ?_
    refine ztop (r := 0) (by decide) ?_
    refine lv_icmp_gt (tgt := 2744) hx hb dL_law__30 (by decide) (fun _ => ?_) (fun c45 => absurd (by decide) c45)
    refine lv_iconst (v := 1) hx hb dL_law__2744 (by decide) ?_
    refine va_forget (fun q hq => by have h9 := hS.2.2 q hq; rw [hAe] at h9; exact h9) ?_
    refine W.widen (k := 600002) (n := 7302232) (Nat.le_of_ble_eq_true rfl) (Nat.le_of_ble_eq_true rfl) ?_
    exact lw_ret hx hb hr hlocks dL_law__2745
set_option maxRecDepth 100000 in
set_option maxHeartbeats 4000000 in
/-- the law: log -/
theorem w_44 {p : Program} {e : Env} {s : State} {m : MethodId} {below : List Frame} {meth : Method} {c : Code} (l : Launch) (hfl : l.stackTraces = false) (g : zG) {b : Nat} {xs : Nat → Int32} {A : Nat → Prop} (hAe : A = fun q => s.heap.size ≤ q) (hA : ∀ q, s.heap.size ≤ q → A q) (hbA : ¬ A b) (St : CallFix p m c cL_law_ 7 s #[Value.ref b] zB RL) (hr : meth.sig.returnType = ret) (hlocks : meth.locks = false) (hX : va_X b 6 xs s s.heap) (hbl : b < s.heap.size) (hK : zK g s) (hT : zTh A s) (x : Nat) (ta : Nat) (o : Nat) (lo : Nat) (go : Nat) (tt : Nat) (lt : Nat) (mo : Nat) (fo : Nat) (ro : Nat) (ab : Nat) (ac : Nat) (ar : Nat) (td : Nat) (a : Nat → Nat) (tda : Nat → Nat) (ldr : Nat) (lda : Nat) (qT : Nat) (qL : Nat) (it : Nat) (il : Nat) (ig : Nat) (fT : Nat → Option Nat) (fL : Nat → Option Nat) (ia : Nat → Nat) (ic : Nat) (ir : Nat) (t0 : Nat) (ta0 : Nat → Nat) (l0 : Nat) (la0 : Nat) (od : Nat) (ad : Nat → Nat) (af : Nat) (om : Nat) (am : Nat → Nat) (m0 : Nat → Int32) (oa : Nat) (hT0 : fT 0 = some t0) (hL0 : fL 0 = some l0) (hm : zMo m0) (h8 : m0 8 = 0) (h10 : m0 10 = 1) (H : Heap) (locs : List Loc) (ls : Array Slot) (hP : va_P g.1 vwCl (List.flatten [bDR g x ta o lo go tt lt mo fo ro (-1), bTape g ta ab 0 0 0 0 0 (-1) (fun _ => 0), bTown g o a 0 0 0 20 6 50 0 1 (fun _ _ => 0), bLaw g lo ac 0 (-1) 0 0 0 (fun _ => 0), bLog g go ar 0 0 (fun _ => 0), [(tt, .inr (8, [.ref ta, .ref td]))], bTown g td tda 0 0 0 20 6 50 0 1 (fun _ _ => 0), [(lt, .inr (2, [.ref ta, .ref ldr]))], bLaw g ldr lda 0 (-1) 0 0 0 (fun _ => 0), bMem g mo qT qL it il ig 0 0 0 fT fL, bTown g it ia 0 0 0 20 6 50 0 1 (fun _ _ => 0), bLaw g il ic 0 (-1) 0 0 0 (fun _ => 0), bLog g ig ir 0 0 (fun _ => 0), bTown g t0 ta0 0 0 0 20 6 50 0 1 (fun _ _ => 0), bLog g l0 la0 0 0 (fun _ => 0), [(fo, .inr (0, [.ref o, .ref lo, .ref od]))], bTown g od ad 0 0 0 20 6 50 0 1 (fun _ _ => 0), bRid g ro af 0 0 (fun _ => 0), bObj g om am 0 0 0 0 0 0 0 (-1) 0 0 0 0, bArr g am (zf [m0, fun _ => 0, fun _ => 0, fun _ => 0, fun _ => 0, fun _ => 0, fun _ => 0, fun _ => 0]), [(oa, .inl (g.2 2, 1, .inr (.inl (fun _ => 0))))]]) H) (hD : va_D A (List.flatten [bDR g x ta o lo go tt lt mo fo ro (-1), bTape g ta ab 0 0 0 0 0 (-1) (fun _ => 0), bTown g o a 0 0 0 20 6 50 0 1 (fun _ _ => 0), bLaw g lo ac 0 (-1) 0 0 0 (fun _ => 0), bLog g go ar 0 0 (fun _ => 0), [(tt, .inr (8, [.ref ta, .ref td]))], bTown g td tda 0 0 0 20 6 50 0 1 (fun _ _ => 0), [(lt, .inr (2, [.ref ta, .ref ldr]))], bLaw g ldr lda 0 (-1) 0 0 0 (fun _ => 0), bMem g mo qT qL it il ig 0 0 0 fT fL, bTown g it ia 0 0 0 20 6 50 0 1 (fun _ _ => 0), bLaw g il ic 0 (-1) 0 0 0 (fun _ => 0), bLog g ig ir 0 0 (fun _ => 0), bTown g t0 ta0 0 0 0 20 6 50 0 1 (fun _ _ => 0), bLog g l0 la0 0 0 (fun _ => 0), [(fo, .inr (0, [.ref o, .ref lo, .ref od]))], bTown g od ad 0 0 0 20 6 50 0 1 (fun _ _ => 0), bRid g ro af 0 0 (fun _ => 0), bObj g om am 0 0 0 0 0 0 0 (-1) 0 0 0 0, bArr g am (zf [m0, fun _ => 0, fun _ => 0, fun _ => 0, fun _ => 0, fun _ => 0, fun _ => 0, fun _ => 0]), [(oa, .inl (g.2 2, 1, .inr (.inl (fun _ => 0))))]])) (hS : va_S A s.heap H locs) (hl : lv_has ls 7 [(4, .int 0), (3, .ref oa), (2, .ref om), (1, .ref x), (0, .ref b)]) : W p l e room_1 s m #[Value.ref b] below meth c H locs 247 14991 (lw_Z below #[Value.ref b] s) (F0 m 2583 ls []) := by
  obtain ⟨hx, hb, hml, hown, hts⟩ := id St
  have hz0 : zZ (fun _ => 0) := zZ0
  refine lv_aload_n hx hb dL_law__2583 rfl (lv_at hl 3 rfl) ?_
  refine lv_aload_n hx hb dL_law__2584 rfl (lv_at hl 4 rfl) ?_
  refine lv_iload hx hb dL_law__2585 (lv_at hl 0 rfl) ?_
  refine lv_iconst (v := 1) hx hb dL_law__2587 (by decide) ?_
  refine lv_iadd hx hb dL_law__2588 ?_
  refine ztop (r := 1) (by decide) ?_
  refine va_sld hx hb hX hbl hbA hS (zin rfl) dL_law__2589 ?_
  refine ztop (r := xs 1) rfl ?_
  refine lv_aload_n hx hb dL_law__2590 rfl (lv_at hl 4 rfl) ?_
  refine lv_iload hx hb dL_law__2591 (lv_at hl 0 rfl) ?_
  refine lv_iconst (v := 2) hx hb dL_law__2593 (by decide) ?_
  refine lv_iadd hx hb dL_law__2594 ?_
  refine ztop (r := 2) (by decide) ?_
  refine va_sld hx hb hX hbl hbA hS (zin rfl) dL_law__2595 ?_
  refine ztop (r := xs 2) rfl ?_
  refine lv_aload_n hx hb dL_law__2596 rfl (lv_at hl 1 rfl) ?_
  refine xcallSX (g := g) (As := [.ref x, .int (xs 1), .int (xs 2), .ref oa]) (rest := []) St hK hT hA hP hD hS hl.1 [0, 2, 4, 20] [1, 3, 5, 6, 7, 8, 9, 10, 11, 12, 13, 14, 15, 16, 17, 18, 19] rfl rfl rfl (l_log l hfl g x ta o lo go tt lt mo fo ro (-1) a 0 20 6 50 0 1 (fun _ _ => 0) ar 0 (fun _ => 0) (xs 1) (xs 2) oa (fun _ => 0) ) (vx_cwSW 4 hts (zgL (zl3 k1535 k1536 k1313) k1286) rfl rfl rfl (by decide +kernel) ⟨Nat.le_of_ble_eq_true rfl, Nat.le_of_ble_eq_true rfl⟩) rfl rfl (Nat.le_of_ble_eq_true rfl) dL_law__2597 ⟨(Nat.le_of_ble_eq_true rfl), (Nat.le_of_ble_eq_true rfl)⟩ (fun E ce q9 u9 H locs hpx hP hD hS hce hcv hcl => hpx.elim) (fun u_ H locs hq3 hP hD hS => ?_)
  obtain ⟨r_1, fz2_2⟩ := u_
  have hq3 : (r_1 = 1 ∧ ((xs 2) < 0 ∨ 3 < (xs 2))) ∨ (r_1 = 0 ∧ (¬ (xs 2) < 0 ∧ ¬ 3 < (xs 2)) ∧ fz2_2 0 = ((-1) : Int32).toInt64) := hq3
  have hP : va_P g.1 vwCl (List.flatten [bTape g ta ab 0 0 0 0 0 (-1) (fun _ => 0), bLaw g lo ac 0 (-1) 0 0 0 (fun _ => 0), [(tt, .inr (8, [.ref ta, .ref td]))], bTown g td tda 0 0 0 20 6 50 0 1 (fun _ _ => 0), [(lt, .inr (2, [.ref ta, .ref ldr]))], bLaw g ldr lda 0 (-1) 0 0 0 (fun _ => 0), bMem g mo qT qL it il ig 0 0 0 fT fL, bTown g it ia 0 0 0 20 6 50 0 1 (fun _ _ => 0), bLaw g il ic 0 (-1) 0 0 0 (fun _ => 0), bLog g ig ir 0 0 (fun _ => 0), bTown g t0 ta0 0 0 0 20 6 50 0 1 (fun _ _ => 0), bLog g l0 la0 0 0 (fun _ => 0), [(fo, .inr (0, [.ref o, .ref lo, .ref od]))], bTown g od ad 0 0 0 20 6 50 0 1 (fun _ _ => 0), bRid g ro af 0 0 (fun _ => 0), bObj g om am 0 0 0 0 0 0 0 (-1) 0 0 0 0, bArr g am (zf [m0, fun _ => 0, fun _ => 0, fun _ => 0, fun _ => 0, fun _ => 0, fun _ => 0, fun _ => 0]), [(oa, .inl (g.2 2, 1, .inr (.inl fz2_2)))]]) H := hP
  have hD : va_D A (List.flatten [bTape g ta ab 0 0 0 0 0 (-1) (fun _ => 0), bLaw g lo ac 0 (-1) 0 0 0 (fun _ => 0), [(tt, .inr (8, [.ref ta, .ref td]))], bTown g td tda 0 0 0 20 6 50 0 1 (fun _ _ => 0), [(lt, .inr (2, [.ref ta, .ref ldr]))], bLaw g ldr lda 0 (-1) 0 0 0 (fun _ => 0), bMem g mo qT qL it il ig 0 0 0 fT fL, bTown g it ia 0 0 0 20 6 50 0 1 (fun _ _ => 0), bLaw g il ic 0 (-1) 0 0 0 (fun _ => 0), bLog g ig ir 0 0 (fun _ => 0), bTown g t0 ta0 0 0 0 20 6 50 0 1 (fun _ _ => 0), bLog g l0 la0 0 0 (fun _ => 0), [(fo, .inr (0, [.ref o, .ref lo, .ref od]))], bTown g od ad 0 0 0 20 6 50 0 1 (fun _ _ => 0), bRid g ro af 0 0 (fun _ => 0), bObj g om am 0 0 0 0 0 0 0 (-1) 0 0 0 0, bArr g am (zf [m0, fun _ => 0, fun _ => 0, fun _ => 0, fun _ => 0, fun _ => 0, fun _ => 0, fun _ => 0]), [(oa, .inl (g.2 2, 1, .inr (.inl fz2_2)))]]) := hD
  refine W.widen (k := 248) (n := 14997) (Nat.le_of_ble_eq_true rfl) (Nat.le_of_ble_eq_true rfl) ?_
  refine W.eq (g2 := F0 m 2600 ls [.int r_1]) rfl ?_
  refine lv_istore (lv' := [(5, .int r_1), (4, .int 0), (3, .ref oa), (2, .ref om), (1, .ref x), (0, .ref b)]) hx hb dL_law__2600 hl (by decide) rfl (fun ls hl => ?_)
  refine lv_aload_n hx hb dL_law__2602 rfl (lv_at hl 3 rfl) ?_
  refine lv_aload_n hx hb dL_law__2603 rfl (lv_at hl 5 rfl) ?_
  refine lv_iload hx hb dL_law__2604 (lv_at hl 1 rfl) ?_
  refine lv_iconst (v := 1) hx hb dL_law__2606 (by decide) ?_
  refine lv_iadd hx hb dL_law__2607 ?_
  refine ztop (r := 1) (by decide) ?_
  refine va_sld hx hb hX hbl hbA hS (zin rfl) dL_law__2608 ?_
  refine ztop (r := xs 1) rfl ?_
  refine lv_aload_n hx hb dL_law__2609 rfl (lv_at hl 5 rfl) ?_
  refine lv_iload hx hb dL_law__2610 (lv_at hl 1 rfl) ?_
  refine lv_iconst (v := 2) hx hb dL_law__2612 (by decide) ?_
  refine lv_iadd hx hb dL_law__2613 ?_
  refine ztop (r := 2) (by decide) ?_
  refine va_sld hx hb hX hbl hbA hS (zin rfl) dL_law__2614 ?_
  refine ztop (r := xs 2) rfl ?_
  refine mcallV (g := g) (q0 := 0) (ci := 10) (As := [.int (xs 1), .int (xs 2)]) (rest := []) St hK hT hA hP hD hS hl.1 [15, 16] [0, 1, 2, 3, 4, 5, 6, 7, 8, 9, 10, 11, 12, 13, 14, 17] rfl rfl rfl (m_log l g om am 0 0 0 0 0 0 0 (-1) 0 0 0 0 (zf [m0, fun _ => 0, fun _ => 0, fun _ => 0, fun _ => 0, fun _ => 0, fun _ => 0, fun _ => 0]) (xs 1) (xs 2) (by assumption)) (cwV 2 hts (zgL (zl4 k1537 k1538 k1539 k833) k1142) rfl rfl rfl (by decide +kernel) ⟨Nat.le_of_ble_eq_true rfl, Nat.le_of_ble_eq_true rfl⟩) rfl rfl rfl rfl (Nat.le_of_ble_eq_true rfl) dL_law__2615 ⟨(Nat.le_of_ble_eq_true rfl), (Nat.le_of_ble_eq_true rfl)⟩ (fun u_ H locs hq17 hP hD hS => ?_)
  obtain ⟨th2_4, hi2_5, ac2_6, tp2_7, ba2_8, en2_9, tA2_10, fl2_11, de2_12, iD2_13, iO2_14, tU2_15, q_16⟩ := u_
  have hq17 : (th2_4 = 1 ∧ (((xs 2) : Int32) < 0 ∨ 3 < ((xs 2) : Int32))) ∨ (th2_4 = 0 ∧ (¬ ((xs 2) : Int32) < 0 ∧ ¬ 3 < ((xs 2) : Int32)) ∧ q_16 = -1) := hq17
  have hP : va_P g.1 vwCl (List.flatten [bTape g ta ab 0 0 0 0 0 (-1) (fun _ => 0), bLaw g lo ac 0 (-1) 0 0 0 (fun _ => 0), [(tt, .inr (8, [.ref ta, .ref td]))], bTown g td tda 0 0 0 20 6 50 0 1 (fun _ _ => 0), [(lt, .inr (2, [.ref ta, .ref ldr]))], bLaw g ldr lda 0 (-1) 0 0 0 (fun _ => 0), bMem g mo qT qL it il ig 0 0 0 fT fL, bTown g it ia 0 0 0 20 6 50 0 1 (fun _ _ => 0), bLaw g il ic 0 (-1) 0 0 0 (fun _ => 0), bLog g ig ir 0 0 (fun _ => 0), bTown g t0 ta0 0 0 0 20 6 50 0 1 (fun _ _ => 0), bLog g l0 la0 0 0 (fun _ => 0), [(fo, .inr (0, [.ref o, .ref lo, .ref od]))], bTown g od ad 0 0 0 20 6 50 0 1 (fun _ _ => 0), bRid g ro af 0 0 (fun _ => 0), [(oa, .inl (g.2 2, 1, .inr (.inl fz2_2)))], bObj g om am th2_4 hi2_5 ac2_6 tp2_7 ba2_8 en2_9 tA2_10 fl2_11 de2_12 iD2_13 iO2_14 tU2_15]) H := hP
  have hD : va_D A (List.flatten [bTape g ta ab 0 0 0 0 0 (-1) (fun _ => 0), bLaw g lo ac 0 (-1) 0 0 0 (fun _ => 0), [(tt, .inr (8, [.ref ta, .ref td]))], bTown g td tda 0 0 0 20 6 50 0 1 (fun _ _ => 0), [(lt, .inr (2, [.ref ta, .ref ldr]))], bLaw g ldr lda 0 (-1) 0 0 0 (fun _ => 0), bMem g mo qT qL it il ig 0 0 0 fT fL, bTown g it ia 0 0 0 20 6 50 0 1 (fun _ _ => 0), bLaw g il ic 0 (-1) 0 0 0 (fun _ => 0), bLog g ig ir 0 0 (fun _ => 0), bTown g t0 ta0 0 0 0 20 6 50 0 1 (fun _ _ => 0), bLog g l0 la0 0 0 (fun _ => 0), [(fo, .inr (0, [.ref o, .ref lo, .ref od]))], bTown g od ad 0 0 0 20 6 50 0 1 (fun _ _ => 0), bRid g ro af 0 0 (fun _ => 0), [(oa, .inl (g.2 2, 1, .inr (.inl fz2_2)))], bObj g om am th2_4 hi2_5 ac2_6 tp2_7 ba2_8 en2_9 tA2_10 fl2_11 de2_12 iD2_13 iO2_14 tU2_15]) := hD
  refine W.widen (k := 248) (n := 14997) (Nat.le_of_ble_eq_true rfl) (Nat.le_of_ble_eq_true rfl) ?_
  refine W.eq (g2 := F0 m 2618 ls [.int q_16]) rfl ?_
  rcases hq3 with ⟨hr9, hb9⟩ | ⟨hr9, hg9⟩
  · skip
    rcases hq17 with ⟨ht9, hB9⟩ | ⟨ht9, hG9⟩
    · skip
      subst hr9
      subst ht9
      refine lv_istore (lv' := [(6, .int q_16), (5, .int 1), (4, .int 0), (3, .ref oa), (2, .ref om), (1, .ref x), (0, .ref b)]) hx hb dL_law__2618 hl (by decide) rfl (fun ls hl => ?_)
      refine lv_aload_n hx hb dL_law__2620 rfl (lv_at hl 4 rfl) ?_
      refine mcallV (g := g) (q0 := 0) (ci := 10) (As := []) (rest := []) St hK hT hA hP hD hS hl.1 [16] [0, 1, 2, 3, 4, 5, 6, 7, 8, 9, 10, 11, 12, 13, 14, 15] rfl rfl rfl (m_thrown l g om am 1 hi2_5 ac2_6 tp2_7 ba2_8 en2_9 tA2_10 fl2_11 de2_12 iD2_13 iO2_14 tU2_15 ) (cwV 0 hts (zgL (zl4 k1317 k1318 k1319 k833) k824) rfl rfl rfl (by decide +kernel) ⟨Nat.le_of_ble_eq_true rfl, Nat.le_of_ble_eq_true rfl⟩) rfl rfl rfl rfl (Nat.le_of_ble_eq_true rfl) dL_law__2621 ⟨(Nat.le_of_ble_eq_true rfl), (Nat.le_of_ble_eq_true rfl)⟩ (fun _u H locs hq18 hP hD hS => ?_)
      have hP : va_P g.1 vwCl (List.flatten [bTape g ta ab 0 0 0 0 0 (-1) (fun _ => 0), bLaw g lo ac 0 (-1) 0 0 0 (fun _ => 0), [(tt, .inr (8, [.ref ta, .ref td]))], bTown g td tda 0 0 0 20 6 50 0 1 (fun _ _ => 0), [(lt, .inr (2, [.ref ta, .ref ldr]))], bLaw g ldr lda 0 (-1) 0 0 0 (fun _ => 0), bMem g mo qT qL it il ig 0 0 0 fT fL, bTown g it ia 0 0 0 20 6 50 0 1 (fun _ _ => 0), bLaw g il ic 0 (-1) 0 0 0 (fun _ => 0), bLog g ig ir 0 0 (fun _ => 0), bTown g t0 ta0 0 0 0 20 6 50 0 1 (fun _ _ => 0), bLog g l0 la0 0 0 (fun _ => 0), [(fo, .inr (0, [.ref o, .ref lo, .ref od]))], bTown g od ad 0 0 0 20 6 50 0 1 (fun _ _ => 0), bRid g ro af 0 0 (fun _ => 0), [(oa, .inl (g.2 2, 1, .inr (.inl fz2_2)))], bObj g om am 1 hi2_5 ac2_6 tp2_7 ba2_8 en2_9 tA2_10 fl2_11 de2_12 iD2_13 iO2_14 tU2_15]) H := hP
      have hD : va_D A (List.flatten [bTape g ta ab 0 0 0 0 0 (-1) (fun _ => 0), bLaw g lo ac 0 (-1) 0 0 0 (fun _ => 0), [(tt, .inr (8, [.ref ta, .ref td]))], bTown g td tda 0 0 0 20 6 50 0 1 (fun _ _ => 0), [(lt, .inr (2, [.ref ta, .ref ldr]))], bLaw g ldr lda 0 (-1) 0 0 0 (fun _ => 0), bMem g mo qT qL it il ig 0 0 0 fT fL, bTown g it ia 0 0 0 20 6 50 0 1 (fun _ _ => 0), bLaw g il ic 0 (-1) 0 0 0 (fun _ => 0), bLog g ig ir 0 0 (fun _ => 0), bTown g t0 ta0 0 0 0 20 6 50 0 1 (fun _ _ => 0), bLog g l0 la0 0 0 (fun _ => 0), [(fo, .inr (0, [.ref o, .ref lo, .ref od]))], bTown g od ad 0 0 0 20 6 50 0 1 (fun _ _ => 0), bRid g ro af 0 0 (fun _ => 0), [(oa, .inl (g.2 2, 1, .inr (.inl fz2_2)))], bObj g om am 1 hi2_5 ac2_6 tp2_7 ba2_8 en2_9 tA2_10 fl2_11 de2_12 iD2_13 iO2_14 tU2_15]) := hD
      refine W.widen (k := 248) (n := 14997) (Nat.le_of_ble_eq_true rfl) (Nat.le_of_ble_eq_true rfl) ?_
      refine W.eq (g2 := F0 m 2624 ls [.int 1]) rfl ?_
      refine lv_iload hx hb dL_law__2624 (lv_at hl 1 rfl) ?_
      refine lv_icmp_eq (tgt := 2631) hx hb dL_law__2626 (by decide) (fun _ => ?_) (fun c19 => absurd (by decide) c19)
      refine lv_iload hx hb dL_law__2631 (lv_at hl 1 rfl) ?_
      refine lv_if_ne (tgt := 2648) hx hb dL_law__2633 (by decide) (fun _ => ?_) (fun c20 => absurd c20 (by decide))
      refine lv_goto (tgt := 2738) hx hb dL_law__2648 (by decide) ?_
      refine lv_iinc (v := 6) (lv' := [(4, .int 6), (6, .int q_16), (5, .int 1), (3, .ref oa), (2, .ref om), (1, .ref x), (0, .ref b)]) hx hb dL_law__2738 hl (k := 2) rfl (by decide) (by decide) rfl (fun ls hl => ?_)
      refine lv_goto (tgt := 23) hx hb dL_law__2741 (by decide) ?_
      refine lv_iload hx hb dL_law__23 (lv_at hl 0 rfl) ?_
      refine lv_aload_n hx hb dL_law__25 rfl (lv_at hl 6 rfl) ?_
      refine va_slen hx hb hX hbl hbA hS dL_law__26 ?_
      refine ztop (r := 6) rfl ?_
      refine lv_bipush (v := 6) hx hb dL_law__27 (by decide) ?_
      refine lv_isub hx hb dL_law__29 ?_
      refine ztop (r := 0) (by decide) ?_
      refine lv_icmp_gt (tgt := 2744) hx hb dL_law__30 (by decide) (fun _ => ?_) (fun c21 => absurd (by decide) c21)
      refine lv_iconst (v := 1) hx hb dL_law__2744 (by decide) ?_
      refine va_forget (fun q hq => by have h9 := hS.2.2 q hq; rw [hAe] at h9; exact h9) ?_
      refine W.widen (k := 600002) (n := 7302232) (Nat.le_of_ble_eq_true rfl) (Nat.le_of_ble_eq_true rfl) ?_
      exact lw_ret hx hb hr hlocks dL_law__2745
    · skip
      exact (hb9.elim hG9.1.1 hG9.1.2).elim
  · skip
    rcases hq17 with ⟨ht9, hB9⟩ | ⟨ht9, hG9⟩
    · skip
      exact (hB9.elim hg9.1.1 hg9.1.2).elim
    · skip
      subst hr9
      subst ht9
      refine lv_istore (lv' := [(6, .int q_16), (5, .int 0), (4, .int 0), (3, .ref oa), (2, .ref om), (1, .ref x), (0, .ref b)]) hx hb dL_law__2618 hl (by decide) rfl (fun ls hl => ?_)
      refine lv_aload_n hx hb dL_law__2620 rfl (lv_at hl 4 rfl) ?_
      refine mcallV (g := g) (q0 := 0) (ci := 10) (As := []) (rest := []) St hK hT hA hP hD hS hl.1 [16] [0, 1, 2, 3, 4, 5, 6, 7, 8, 9, 10, 11, 12, 13, 14, 15] rfl rfl rfl (m_thrown l g om am 0 hi2_5 ac2_6 tp2_7 ba2_8 en2_9 tA2_10 fl2_11 de2_12 iD2_13 iO2_14 tU2_15 ) (cwV 0 hts (zgL (zl4 k1317 k1318 k1319 k833) k824) rfl rfl rfl (by decide +kernel) ⟨Nat.le_of_ble_eq_true rfl, Nat.le_of_ble_eq_true rfl⟩) rfl rfl rfl rfl (Nat.le_of_ble_eq_true rfl) dL_law__2621 ⟨(Nat.le_of_ble_eq_true rfl), (Nat.le_of_ble_eq_true rfl)⟩ (fun _u H locs hq22 hP hD hS => ?_)
      have hP : va_P g.1 vwCl (List.flatten [bTape g ta ab 0 0 0 0 0 (-1) (fun _ => 0), bLaw g lo ac 0 (-1) 0 0 0 (fun _ => 0), [(tt, .inr (8, [.ref ta, .ref td]))], bTown g td tda 0 0 0 20 6 50 0 1 (fun _ _ => 0), [(lt, .inr (2, [.ref ta, .ref ldr]))], bLaw g ldr lda 0 (-1) 0 0 0 (fun _ => 0), bMem g mo qT qL it il ig 0 0 0 fT fL, bTown g it ia 0 0 0 20 6 50 0 1 (fun _ _ => 0), bLaw g il ic 0 (-1) 0 0 0 (fun _ => 0), bLog g ig ir 0 0 (fun _ => 0), bTown g t0 ta0 0 0 0 20 6 50 0 1 (fun _ _ => 0), bLog g l0 la0 0 0 (fun _ => 0), [(fo, .inr (0, [.ref o, .ref lo, .ref od]))], bTown g od ad 0 0 0 20 6 50 0 1 (fun _ _ => 0), bRid g ro af 0 0 (fun _ => 0), [(oa, .inl (g.2 2, 1, .inr (.inl fz2_2)))], bObj g om am 0 hi2_5 ac2_6 tp2_7 ba2_8 en2_9 tA2_10 fl2_11 de2_12 iD2_13 iO2_14 tU2_15]) H := hP
      have hD : va_D A (List.flatten [bTape g ta ab 0 0 0 0 0 (-1) (fun _ => 0), bLaw g lo ac 0 (-1) 0 0 0 (fun _ => 0), [(tt, .inr (8, [.ref ta, .ref td]))], bTown g td tda 0 0 0 20 6 50 0 1 (fun _ _ => 0), [(lt, .inr (2, [.ref ta, .ref ldr]))], bLaw g ldr lda 0 (-1) 0 0 0 (fun _ => 0), bMem g mo qT qL it il ig 0 0 0 fT fL, bTown g it ia 0 0 0 20 6 50 0 1 (fun _ _ => 0), bLaw g il ic 0 (-1) 0 0 0 (fun _ => 0), bLog g ig ir 0 0 (fun _ => 0), bTown g t0 ta0 0 0 0 20 6 50 0 1 (fun _ _ => 0), bLog g l0 la0 0 0 (fun _ => 0), [(fo, .inr (0, [.ref o, .ref lo, .ref od]))], bTown g od ad 0 0 0 20 6 50 0 1 (fun _ _ => 0), bRid g ro af 0 0 (fun _ => 0), [(oa, .inl (g.2 2, 1, .inr (.inl fz2_2)))], bObj g om am 0 hi2_5 ac2_6 tp2_7 ba2_8 en2_9 tA2_10 fl2_11 de2_12 iD2_13 iO2_14 tU2_15]) := hD
      refine W.widen (k := 248) (n := 14997) (Nat.le_of_ble_eq_true rfl) (Nat.le_of_ble_eq_true rfl) ?_
      refine W.eq (g2 := F0 m 2624 ls [.int 0]) rfl ?_
      refine lv_iload hx hb dL_law__2624 (lv_at hl 1 rfl) ?_
      refine lv_icmp_eq (tgt := 2631) hx hb dL_law__2626 (by decide) (fun _ => ?_) (fun c23 => absurd (by decide) c23)
      refine lv_iload hx hb dL_law__2631 (lv_at hl 1 rfl) ?_
      refine lv_if_ne (tgt := 2648) hx hb dL_law__2633 (by decide) (fun c24 => absurd (by decide) c24) (fun _ => ?_)
      refine lv_aload_n hx hb dL_law__2636 rfl (lv_at hl 3 rfl) ?_
      refine lv_iconst (v := 0) hx hb dL_law__2637 (by decide) ?_
      refine va_lald hx hb hK hP 68 2 rfl rfl (zin rfl) dL_law__2638 ?_
      refine ztopl (r := fz2_2 0) rfl ?_
      refine lv_iload hx hb dL_law__2639 (lv_at hl 0 rfl) ?_
      refine lv_i2l (v := (q_16 : Int32).toInt64) hx hb dL_law__2641 rfl ?_
      refine W.lcmp hx hb dL_law__2642 ?_
      refine lv_if_eq (tgt := 2648) hx hb dL_law__2643 (by decide) (fun _ => ?_) (fun c25 => absurd (by rw [hg9.2, hG9.2]; exact lg_self _) c25)
      refine lv_goto (tgt := 2738) hx hb dL_law__2648 (by decide) ?_
      refine lv_iinc (v := 6) (lv' := [(4, .int 6), (6, .int q_16), (5, .int 0), (3, .ref oa), (2, .ref om), (1, .ref x), (0, .ref b)]) hx hb dL_law__2738 hl (k := 2) rfl (by decide) (by decide) rfl (fun ls hl => ?_)
      refine lv_goto (tgt := 23) hx hb dL_law__2741 (by decide) ?_
      refine lv_iload hx hb dL_law__23 (lv_at hl 0 rfl) ?_
      refine lv_aload_n hx hb dL_law__25 rfl (lv_at hl 6 rfl) ?_
      refine va_slen hx hb hX hbl hbA hS dL_law__26 ?_
      refine ztop (r := 6) rfl ?_
      refine lv_bipush (v := 6) hx hb dL_law__27 (by decide) ?_
      refine lv_isub hx hb dL_law__29 ?_
      refine ztop (r := 0) (by decide) ?_
      refine lv_icmp_gt (tgt := 2744) hx hb dL_law__30 (by decide) (fun _ => ?_) (fun c26 => absurd (by decide) c26)
      refine lv_iconst (v := 1) hx hb dL_law__2744 (by decide) ?_
      refine va_forget (fun q hq => by have h9 := hS.2.2 q hq; rw [hAe] at h9; exact h9) ?_
      refine W.widen (k := 600002) (n := 7302232) (Nat.le_of_ble_eq_true rfl) (Nat.le_of_ble_eq_true rfl) ?_
      exact lw_ret hx hb hr hlocks dL_law__2745
set_option maxRecDepth 100000 in
set_option maxHeartbeats 4000000 in
/-- the law: seed -/
theorem w_45 {p : Program} {e : Env} {s : State} {m : MethodId} {below : List Frame} {meth : Method} {c : Code} (l : Launch) (hfl : l.stackTraces = false) (g : zG) {b : Nat} {xs : Nat → Int32} {A : Nat → Prop} (hAe : A = fun q => s.heap.size ≤ q) (hA : ∀ q, s.heap.size ≤ q → A q) (hbA : ¬ A b) (St : CallFix p m c cL_law_ 7 s #[Value.ref b] zB RL) (hr : meth.sig.returnType = ret) (hlocks : meth.locks = false) (hX : va_X b 6 xs s s.heap) (hbl : b < s.heap.size) (hK : zK g s) (hT : zTh A s) (x : Nat) (ta : Nat) (o : Nat) (lo : Nat) (go : Nat) (tt : Nat) (lt : Nat) (mo : Nat) (fo : Nat) (ro : Nat) (ab : Nat) (ac : Nat) (ar : Nat) (td : Nat) (a : Nat → Nat) (tda : Nat → Nat) (ldr : Nat) (lda : Nat) (qT : Nat) (qL : Nat) (it : Nat) (il : Nat) (ig : Nat) (fT : Nat → Option Nat) (fL : Nat → Option Nat) (ia : Nat → Nat) (ic : Nat) (ir : Nat) (t0 : Nat) (ta0 : Nat → Nat) (l0 : Nat) (la0 : Nat) (od : Nat) (ad : Nat → Nat) (af : Nat) (om : Nat) (am : Nat → Nat) (m0 : Nat → Int32) (oa : Nat) (hT0 : fT 0 = some t0) (hL0 : fL 0 = some l0) (hm : zMo m0) (h8 : m0 8 = 0) (h10 : m0 10 = 1) (H : Heap) (locs : List Loc) (ls : Array Slot) (hP : va_P g.1 vwCl (List.flatten [bDR g x ta o lo go tt lt mo fo ro (-1), bTape g ta ab 0 0 0 0 0 (-1) (fun _ => 0), bTown g o a 0 0 0 20 6 50 0 1 (fun _ _ => 0), bLaw g lo ac 0 (-1) 0 0 0 (fun _ => 0), bLog g go ar 0 0 (fun _ => 0), [(tt, .inr (8, [.ref ta, .ref td]))], bTown g td tda 0 0 0 20 6 50 0 1 (fun _ _ => 0), [(lt, .inr (2, [.ref ta, .ref ldr]))], bLaw g ldr lda 0 (-1) 0 0 0 (fun _ => 0), bMem g mo qT qL it il ig 0 0 0 fT fL, bTown g it ia 0 0 0 20 6 50 0 1 (fun _ _ => 0), bLaw g il ic 0 (-1) 0 0 0 (fun _ => 0), bLog g ig ir 0 0 (fun _ => 0), bTown g t0 ta0 0 0 0 20 6 50 0 1 (fun _ _ => 0), bLog g l0 la0 0 0 (fun _ => 0), [(fo, .inr (0, [.ref o, .ref lo, .ref od]))], bTown g od ad 0 0 0 20 6 50 0 1 (fun _ _ => 0), bRid g ro af 0 0 (fun _ => 0), bObj g om am 0 0 0 0 0 0 0 (-1) 0 0 0 0, bArr g am (zf [m0, fun _ => 0, fun _ => 0, fun _ => 0, fun _ => 0, fun _ => 0, fun _ => 0, fun _ => 0]), [(oa, .inl (g.2 2, 1, .inr (.inl (fun _ => 0))))]]) H) (hD : va_D A (List.flatten [bDR g x ta o lo go tt lt mo fo ro (-1), bTape g ta ab 0 0 0 0 0 (-1) (fun _ => 0), bTown g o a 0 0 0 20 6 50 0 1 (fun _ _ => 0), bLaw g lo ac 0 (-1) 0 0 0 (fun _ => 0), bLog g go ar 0 0 (fun _ => 0), [(tt, .inr (8, [.ref ta, .ref td]))], bTown g td tda 0 0 0 20 6 50 0 1 (fun _ _ => 0), [(lt, .inr (2, [.ref ta, .ref ldr]))], bLaw g ldr lda 0 (-1) 0 0 0 (fun _ => 0), bMem g mo qT qL it il ig 0 0 0 fT fL, bTown g it ia 0 0 0 20 6 50 0 1 (fun _ _ => 0), bLaw g il ic 0 (-1) 0 0 0 (fun _ => 0), bLog g ig ir 0 0 (fun _ => 0), bTown g t0 ta0 0 0 0 20 6 50 0 1 (fun _ _ => 0), bLog g l0 la0 0 0 (fun _ => 0), [(fo, .inr (0, [.ref o, .ref lo, .ref od]))], bTown g od ad 0 0 0 20 6 50 0 1 (fun _ _ => 0), bRid g ro af 0 0 (fun _ => 0), bObj g om am 0 0 0 0 0 0 0 (-1) 0 0 0 0, bArr g am (zf [m0, fun _ => 0, fun _ => 0, fun _ => 0, fun _ => 0, fun _ => 0, fun _ => 0, fun _ => 0]), [(oa, .inl (g.2 2, 1, .inr (.inl (fun _ => 0))))]])) (hS : va_S A s.heap H locs) (hl : lv_has ls 7 [(4, .int 0), (3, .ref oa), (2, .ref om), (1, .ref x), (0, .ref b)]) : W p l e room_1 s m #[Value.ref b] below meth c H locs 247 14991 (lw_Z below #[Value.ref b] s) (F0 m 2651 ls []) := by
  obtain ⟨hx, hb, hml, hown, hts⟩ := id St
  have hz0 : zZ (fun _ => 0) := zZ0
  refine lv_aload_n hx hb dL_law__2651 rfl (lv_at hl 3 rfl) ?_
  refine lv_aload_n hx hb dL_law__2652 rfl (lv_at hl 4 rfl) ?_
  refine lv_iload hx hb dL_law__2653 (lv_at hl 0 rfl) ?_
  refine lv_iconst (v := 1) hx hb dL_law__2655 (by decide) ?_
  refine lv_iadd hx hb dL_law__2656 ?_
  refine ztop (r := 1) (by decide) ?_
  refine va_sld hx hb hX hbl hbA hS (zin rfl) dL_law__2657 ?_
  refine ztop (r := xs 1) rfl ?_
  refine mcallV (g := g) (q0 := 0) (ci := 9) (As := [.int (xs 1)]) (rest := []) St hK hT hA hP hD hS hl.1 [0, 2] [1, 3, 4, 5, 6, 7, 8, 9, 10, 11, 12, 13, 14, 15, 16, 17, 18, 19, 20] rfl rfl rfl (c_seed l g x ta o lo go tt lt mo fo ro (-1) a 0 20 6 50 0 1 (fun _ _ => 0) (xs 1) ) (cwV 1 hts (zgL (zl4 k1540 k1541 k1542 k595) k792) rfl rfl rfl (by decide +kernel) ⟨Nat.le_of_ble_eq_true rfl, Nat.le_of_ble_eq_true rfl⟩) rfl rfl rfl rfl (Nat.le_of_ble_eq_true rfl) dL_law__2658 ⟨(Nat.le_of_ble_eq_true rfl), (Nat.le_of_ble_eq_true rfl)⟩ (fun _u H locs hq1 hP hD hS => ?_)
  have hP : va_P g.1 vwCl (List.flatten [bTape g ta ab 0 0 0 0 0 (-1) (fun _ => 0), bLaw g lo ac 0 (-1) 0 0 0 (fun _ => 0), bLog g go ar 0 0 (fun _ => 0), [(tt, .inr (8, [.ref ta, .ref td]))], bTown g td tda 0 0 0 20 6 50 0 1 (fun _ _ => 0), [(lt, .inr (2, [.ref ta, .ref ldr]))], bLaw g ldr lda 0 (-1) 0 0 0 (fun _ => 0), bMem g mo qT qL it il ig 0 0 0 fT fL, bTown g it ia 0 0 0 20 6 50 0 1 (fun _ _ => 0), bLaw g il ic 0 (-1) 0 0 0 (fun _ => 0), bLog g ig ir 0 0 (fun _ => 0), bTown g t0 ta0 0 0 0 20 6 50 0 1 (fun _ _ => 0), bLog g l0 la0 0 0 (fun _ => 0), [(fo, .inr (0, [.ref o, .ref lo, .ref od]))], bTown g od ad 0 0 0 20 6 50 0 1 (fun _ _ => 0), bRid g ro af 0 0 (fun _ => 0), bObj g om am 0 0 0 0 0 0 0 (-1) 0 0 0 0, bArr g am (zf [m0, fun _ => 0, fun _ => 0, fun _ => 0, fun _ => 0, fun _ => 0, fun _ => 0, fun _ => 0]), [(oa, .inl (g.2 2, 1, .inr (.inl (fun _ => 0))))]]) H := hP
  have hD : va_D A (List.flatten [bTape g ta ab 0 0 0 0 0 (-1) (fun _ => 0), bLaw g lo ac 0 (-1) 0 0 0 (fun _ => 0), bLog g go ar 0 0 (fun _ => 0), [(tt, .inr (8, [.ref ta, .ref td]))], bTown g td tda 0 0 0 20 6 50 0 1 (fun _ _ => 0), [(lt, .inr (2, [.ref ta, .ref ldr]))], bLaw g ldr lda 0 (-1) 0 0 0 (fun _ => 0), bMem g mo qT qL it il ig 0 0 0 fT fL, bTown g it ia 0 0 0 20 6 50 0 1 (fun _ _ => 0), bLaw g il ic 0 (-1) 0 0 0 (fun _ => 0), bLog g ig ir 0 0 (fun _ => 0), bTown g t0 ta0 0 0 0 20 6 50 0 1 (fun _ _ => 0), bLog g l0 la0 0 0 (fun _ => 0), [(fo, .inr (0, [.ref o, .ref lo, .ref od]))], bTown g od ad 0 0 0 20 6 50 0 1 (fun _ _ => 0), bRid g ro af 0 0 (fun _ => 0), bObj g om am 0 0 0 0 0 0 0 (-1) 0 0 0 0, bArr g am (zf [m0, fun _ => 0, fun _ => 0, fun _ => 0, fun _ => 0, fun _ => 0, fun _ => 0, fun _ => 0]), [(oa, .inl (g.2 2, 1, .inr (.inl (fun _ => 0))))]]) := hD
  refine W.widen (k := 247) (n := 14991) (Nat.le_of_ble_eq_true rfl) (Nat.le_of_ble_eq_true rfl) ?_
  refine W.eq (g2 := F0 m 2661 ls [.int 1]) rfl ?_
  refine lv_aload_n hx hb dL_law__2661 rfl (lv_at hl 2 rfl) ?_
  refine lv_aload_n hx hb dL_law__2662 rfl (lv_at hl 4 rfl) ?_
  refine lv_iload hx hb dL_law__2663 (lv_at hl 0 rfl) ?_
  refine lv_iconst (v := 1) hx hb dL_law__2665 (by decide) ?_
  refine lv_iadd hx hb dL_law__2666 ?_
  refine ztop (r := 1) (by decide) ?_
  refine va_sld hx hb hX hbl hbA hS (zin rfl) dL_law__2667 ?_
  refine ztop (r := xs 1) rfl ?_
  refine mcallV (g := g) (q0 := 0) (ci := 10) (As := [.int (xs 1)]) (rest := [.int 1]) St hK hT hA hP hD hS hl.1 [16, 17] [0, 1, 2, 3, 4, 5, 6, 7, 8, 9, 10, 11, 12, 13, 14, 15, 18] rfl rfl rfl (m_seed l g om am 0 0 0 0 0 0 0 (-1) 0 0 0 0 (zf [m0, fun _ => 0, fun _ => 0, fun _ => 0, fun _ => 0, fun _ => 0, fun _ => 0, fun _ => 0]) (xs 1) (by assumption)) (cwV 1 hts (zgL (zl4 k1543 k1544 k1545 k833) k1143) rfl rfl rfl (by decide +kernel) ⟨Nat.le_of_ble_eq_true rfl, Nat.le_of_ble_eq_true rfl⟩) rfl rfl rfl rfl (Nat.le_of_ble_eq_true rfl) dL_law__2668 ⟨(Nat.le_of_ble_eq_true rfl), (Nat.le_of_ble_eq_true rfl)⟩ (fun u_ H locs hq15 hP hD hS => ?_)
  obtain ⟨th2_2, hi2_3, ac2_4, tp2_5, ba2_6, en2_7, tA2_8, fl2_9, de2_10, iD2_11, iO2_12, tU2_13, q_14⟩ := u_
  have hq15 : th2_2 = 0 ∧ q_14 = (zf [m0, fun _ => 0, fun _ => 0, fun _ => 0, fun _ => 0, fun _ => 0, fun _ => 0, fun _ => 0]) 0 10 := hq15
  have hP : va_P g.1 vwCl (List.flatten [bTape g ta ab 0 0 0 0 0 (-1) (fun _ => 0), bLaw g lo ac 0 (-1) 0 0 0 (fun _ => 0), bLog g go ar 0 0 (fun _ => 0), [(tt, .inr (8, [.ref ta, .ref td]))], bTown g td tda 0 0 0 20 6 50 0 1 (fun _ _ => 0), [(lt, .inr (2, [.ref ta, .ref ldr]))], bLaw g ldr lda 0 (-1) 0 0 0 (fun _ => 0), bMem g mo qT qL it il ig 0 0 0 fT fL, bTown g it ia 0 0 0 20 6 50 0 1 (fun _ _ => 0), bLaw g il ic 0 (-1) 0 0 0 (fun _ => 0), bLog g ig ir 0 0 (fun _ => 0), bTown g t0 ta0 0 0 0 20 6 50 0 1 (fun _ _ => 0), bLog g l0 la0 0 0 (fun _ => 0), [(fo, .inr (0, [.ref o, .ref lo, .ref od]))], bTown g od ad 0 0 0 20 6 50 0 1 (fun _ _ => 0), bRid g ro af 0 0 (fun _ => 0), [(oa, .inl (g.2 2, 1, .inr (.inl (fun _ => 0))))], bObj g om am th2_2 hi2_3 ac2_4 tp2_5 ba2_6 en2_7 tA2_8 fl2_9 de2_10 iD2_11 iO2_12 tU2_13]) H := hP
  have hD : va_D A (List.flatten [bTape g ta ab 0 0 0 0 0 (-1) (fun _ => 0), bLaw g lo ac 0 (-1) 0 0 0 (fun _ => 0), bLog g go ar 0 0 (fun _ => 0), [(tt, .inr (8, [.ref ta, .ref td]))], bTown g td tda 0 0 0 20 6 50 0 1 (fun _ _ => 0), [(lt, .inr (2, [.ref ta, .ref ldr]))], bLaw g ldr lda 0 (-1) 0 0 0 (fun _ => 0), bMem g mo qT qL it il ig 0 0 0 fT fL, bTown g it ia 0 0 0 20 6 50 0 1 (fun _ _ => 0), bLaw g il ic 0 (-1) 0 0 0 (fun _ => 0), bLog g ig ir 0 0 (fun _ => 0), bTown g t0 ta0 0 0 0 20 6 50 0 1 (fun _ _ => 0), bLog g l0 la0 0 0 (fun _ => 0), [(fo, .inr (0, [.ref o, .ref lo, .ref od]))], bTown g od ad 0 0 0 20 6 50 0 1 (fun _ _ => 0), bRid g ro af 0 0 (fun _ => 0), [(oa, .inl (g.2 2, 1, .inr (.inl (fun _ => 0))))], bObj g om am th2_2 hi2_3 ac2_4 tp2_5 ba2_6 en2_7 tA2_8 fl2_9 de2_10 iD2_11 iO2_12 tU2_13]) := hD
  refine W.widen (k := 247) (n := 14991) (Nat.le_of_ble_eq_true rfl) (Nat.le_of_ble_eq_true rfl) ?_
  refine W.eq (g2 := F0 m 2671 ls [.int q_14, .int 1]) rfl ?_
  refine lv_icmp_eq (tgt := 2738) hx hb dL_law__2671 (by decide) (fun _ => ?_) (fun c16 => absurd (by rw [hq15.2]; exact h10.symm) c16)
  refine lv_iinc (v := 6) (lv' := [(4, .int 6), (3, .ref oa), (2, .ref om), (1, .ref x), (0, .ref b)]) hx hb dL_law__2738 hl (k := 0) rfl (by decide) (by decide) rfl (fun ls hl => ?_)
  refine lv_goto (tgt := 23) hx hb dL_law__2741 (by decide) ?_
  refine lv_iload hx hb dL_law__23 (lv_at hl 0 rfl) ?_
  refine lv_aload_n hx hb dL_law__25 rfl (lv_at hl 4 rfl) ?_
  refine va_slen hx hb hX hbl hbA hS dL_law__26 ?_
  refine ztop (r := 6) rfl ?_
  refine lv_bipush (v := 6) hx hb dL_law__27 (by decide) ?_
  refine lv_isub hx hb dL_law__29 ?_
  refine ztop (r := 0) (by decide) ?_
  refine lv_icmp_gt (tgt := 2744) hx hb dL_law__30 (by decide) (fun _ => ?_) (fun c17 => absurd (by decide) c17)
  refine lv_iconst (v := 1) hx hb dL_law__2744 (by decide) ?_
  refine va_forget (fun q hq => by have h9 := hS.2.2 q hq; rw [hAe] at h9; exact h9) ?_
  refine W.widen (k := 600002) (n := 7302232) (Nat.le_of_ble_eq_true rfl) (Nat.le_of_ble_eq_true rfl) ?_
  exact lw_ret hx hb hr hlocks dL_law__2745
set_option maxRecDepth 100000 in
set_option maxHeartbeats 4000000 in
/-- the law: undo -/
theorem w_46 {p : Program} {e : Env} {s : State} {m : MethodId} {below : List Frame} {meth : Method} {c : Code} (l : Launch) (hfl : l.stackTraces = false) (g : zG) {b : Nat} {xs : Nat → Int32} {A : Nat → Prop} (hAe : A = fun q => s.heap.size ≤ q) (hA : ∀ q, s.heap.size ≤ q → A q) (hbA : ¬ A b) (St : CallFix p m c cL_law_ 7 s #[Value.ref b] zB RL) (hr : meth.sig.returnType = ret) (hlocks : meth.locks = false) (hX : va_X b 6 xs s s.heap) (hbl : b < s.heap.size) (hK : zK g s) (hT : zTh A s) (x : Nat) (ta : Nat) (o : Nat) (lo : Nat) (go : Nat) (tt : Nat) (lt : Nat) (mo : Nat) (fo : Nat) (ro : Nat) (ab : Nat) (ac : Nat) (ar : Nat) (td : Nat) (a : Nat → Nat) (tda : Nat → Nat) (ldr : Nat) (lda : Nat) (qT : Nat) (qL : Nat) (it : Nat) (il : Nat) (ig : Nat) (fT : Nat → Option Nat) (fL : Nat → Option Nat) (ia : Nat → Nat) (ic : Nat) (ir : Nat) (t0 : Nat) (ta0 : Nat → Nat) (l0 : Nat) (la0 : Nat) (od : Nat) (ad : Nat → Nat) (af : Nat) (om : Nat) (am : Nat → Nat) (m0 : Nat → Int32) (oa : Nat) (hT0 : fT 0 = some t0) (hL0 : fL 0 = some l0) (hm : zMo m0) (h8 : m0 8 = 0) (h10 : m0 10 = 1) (H : Heap) (locs : List Loc) (ls : Array Slot) (hP : va_P g.1 vwCl (List.flatten [bDR g x ta o lo go tt lt mo fo ro (-1), bTape g ta ab 0 0 0 0 0 (-1) (fun _ => 0), bTown g o a 0 0 0 20 6 50 0 1 (fun _ _ => 0), bLaw g lo ac 0 (-1) 0 0 0 (fun _ => 0), bLog g go ar 0 0 (fun _ => 0), [(tt, .inr (8, [.ref ta, .ref td]))], bTown g td tda 0 0 0 20 6 50 0 1 (fun _ _ => 0), [(lt, .inr (2, [.ref ta, .ref ldr]))], bLaw g ldr lda 0 (-1) 0 0 0 (fun _ => 0), bMem g mo qT qL it il ig 0 0 0 fT fL, bTown g it ia 0 0 0 20 6 50 0 1 (fun _ _ => 0), bLaw g il ic 0 (-1) 0 0 0 (fun _ => 0), bLog g ig ir 0 0 (fun _ => 0), bTown g t0 ta0 0 0 0 20 6 50 0 1 (fun _ _ => 0), bLog g l0 la0 0 0 (fun _ => 0), [(fo, .inr (0, [.ref o, .ref lo, .ref od]))], bTown g od ad 0 0 0 20 6 50 0 1 (fun _ _ => 0), bRid g ro af 0 0 (fun _ => 0), bObj g om am 0 0 0 0 0 0 0 (-1) 0 0 0 0, bArr g am (zf [m0, fun _ => 0, fun _ => 0, fun _ => 0, fun _ => 0, fun _ => 0, fun _ => 0, fun _ => 0]), [(oa, .inl (g.2 2, 1, .inr (.inl (fun _ => 0))))]]) H) (hD : va_D A (List.flatten [bDR g x ta o lo go tt lt mo fo ro (-1), bTape g ta ab 0 0 0 0 0 (-1) (fun _ => 0), bTown g o a 0 0 0 20 6 50 0 1 (fun _ _ => 0), bLaw g lo ac 0 (-1) 0 0 0 (fun _ => 0), bLog g go ar 0 0 (fun _ => 0), [(tt, .inr (8, [.ref ta, .ref td]))], bTown g td tda 0 0 0 20 6 50 0 1 (fun _ _ => 0), [(lt, .inr (2, [.ref ta, .ref ldr]))], bLaw g ldr lda 0 (-1) 0 0 0 (fun _ => 0), bMem g mo qT qL it il ig 0 0 0 fT fL, bTown g it ia 0 0 0 20 6 50 0 1 (fun _ _ => 0), bLaw g il ic 0 (-1) 0 0 0 (fun _ => 0), bLog g ig ir 0 0 (fun _ => 0), bTown g t0 ta0 0 0 0 20 6 50 0 1 (fun _ _ => 0), bLog g l0 la0 0 0 (fun _ => 0), [(fo, .inr (0, [.ref o, .ref lo, .ref od]))], bTown g od ad 0 0 0 20 6 50 0 1 (fun _ _ => 0), bRid g ro af 0 0 (fun _ => 0), bObj g om am 0 0 0 0 0 0 0 (-1) 0 0 0 0, bArr g am (zf [m0, fun _ => 0, fun _ => 0, fun _ => 0, fun _ => 0, fun _ => 0, fun _ => 0, fun _ => 0]), [(oa, .inl (g.2 2, 1, .inr (.inl (fun _ => 0))))]])) (hS : va_S A s.heap H locs) (hl : lv_has ls 7 [(4, .int 0), (3, .ref oa), (2, .ref om), (1, .ref x), (0, .ref b)]) : W p l e room_1 s m #[Value.ref b] below meth c H locs 247 14991 (lw_Z below #[Value.ref b] s) (F0 m 2676 ls []) := by
  obtain ⟨hx, hb, hml, hown, hts⟩ := id St
  have hz0 : zZ (fun _ => 0) := zZ0
  refine lv_aload_n hx hb dL_law__2676 rfl (lv_at hl 3 rfl) ?_
  refine mcallV (g := g) (q0 := 0) (ci := 9) (As := []) (rest := []) St hK hT hA hP hD hS hl.1 [0, 2, 9] [1, 3, 4, 5, 6, 7, 8, 10, 11, 12, 13, 14, 15, 16, 17, 18, 19, 20] rfl rfl rfl (c_undo l g x ta o lo go tt lt mo fo ro (-1) a 0 20 6 50 0 1 (fun _ _ => 0) qT qL it il ig 0 0 fT fL ) (cwV 0 hts (zgL (zl4 k1546 k1547 k1548 k595) k796) rfl rfl rfl (by decide +kernel) ⟨Nat.le_of_ble_eq_true rfl, Nat.le_of_ble_eq_true rfl⟩) rfl rfl rfl rfl (Nat.le_of_ble_eq_true rfl) dL_law__2677 ⟨(Nat.le_of_ble_eq_true rfl), (Nat.le_of_ble_eq_true rfl)⟩ (fun _u H locs hq1 hP hD hS => ?_)
  have hP : va_P g.1 vwCl (List.flatten [bTape g ta ab 0 0 0 0 0 (-1) (fun _ => 0), bLaw g lo ac 0 (-1) 0 0 0 (fun _ => 0), bLog g go ar 0 0 (fun _ => 0), [(tt, .inr (8, [.ref ta, .ref td]))], bTown g td tda 0 0 0 20 6 50 0 1 (fun _ _ => 0), [(lt, .inr (2, [.ref ta, .ref ldr]))], bLaw g ldr lda 0 (-1) 0 0 0 (fun _ => 0), bTown g it ia 0 0 0 20 6 50 0 1 (fun _ _ => 0), bLaw g il ic 0 (-1) 0 0 0 (fun _ => 0), bLog g ig ir 0 0 (fun _ => 0), bTown g t0 ta0 0 0 0 20 6 50 0 1 (fun _ _ => 0), bLog g l0 la0 0 0 (fun _ => 0), [(fo, .inr (0, [.ref o, .ref lo, .ref od]))], bTown g od ad 0 0 0 20 6 50 0 1 (fun _ _ => 0), bRid g ro af 0 0 (fun _ => 0), bObj g om am 0 0 0 0 0 0 0 (-1) 0 0 0 0, bArr g am (zf [m0, fun _ => 0, fun _ => 0, fun _ => 0, fun _ => 0, fun _ => 0, fun _ => 0, fun _ => 0]), [(oa, .inl (g.2 2, 1, .inr (.inl (fun _ => 0))))]]) H := hP
  have hD : va_D A (List.flatten [bTape g ta ab 0 0 0 0 0 (-1) (fun _ => 0), bLaw g lo ac 0 (-1) 0 0 0 (fun _ => 0), bLog g go ar 0 0 (fun _ => 0), [(tt, .inr (8, [.ref ta, .ref td]))], bTown g td tda 0 0 0 20 6 50 0 1 (fun _ _ => 0), [(lt, .inr (2, [.ref ta, .ref ldr]))], bLaw g ldr lda 0 (-1) 0 0 0 (fun _ => 0), bTown g it ia 0 0 0 20 6 50 0 1 (fun _ _ => 0), bLaw g il ic 0 (-1) 0 0 0 (fun _ => 0), bLog g ig ir 0 0 (fun _ => 0), bTown g t0 ta0 0 0 0 20 6 50 0 1 (fun _ _ => 0), bLog g l0 la0 0 0 (fun _ => 0), [(fo, .inr (0, [.ref o, .ref lo, .ref od]))], bTown g od ad 0 0 0 20 6 50 0 1 (fun _ _ => 0), bRid g ro af 0 0 (fun _ => 0), bObj g om am 0 0 0 0 0 0 0 (-1) 0 0 0 0, bArr g am (zf [m0, fun _ => 0, fun _ => 0, fun _ => 0, fun _ => 0, fun _ => 0, fun _ => 0, fun _ => 0]), [(oa, .inl (g.2 2, 1, .inr (.inl (fun _ => 0))))]]) := hD
  refine W.widen (k := 247) (n := 14991) (Nat.le_of_ble_eq_true rfl) (Nat.le_of_ble_eq_true rfl) ?_
  refine W.eq (g2 := F0 m 2680 ls [.int 0]) rfl ?_
  refine lv_aload_n hx hb dL_law__2680 rfl (lv_at hl 2 rfl) ?_
  refine mcallV (g := g) (q0 := 0) (ci := 10) (As := []) (rest := [.int 0]) St hK hT hA hP hD hS hl.1 [15, 16] [0, 1, 2, 3, 4, 5, 6, 7, 8, 9, 10, 11, 12, 13, 14, 17] rfl rfl rfl (m_undo l g om am 0 0 0 0 0 0 (-1) 0 0 0 0 (zf [m0, fun _ => 0, fun _ => 0, fun _ => 0, fun _ => 0, fun _ => 0, fun _ => 0, fun _ => 0]) (by assumption)) (cwV 0 hts (zgL (zl4 k1549 k1550 k1551 k833) k1144) rfl rfl rfl (by decide +kernel) ⟨Nat.le_of_ble_eq_true rfl, Nat.le_of_ble_eq_true rfl⟩) rfl rfl rfl rfl (Nat.le_of_ble_eq_true rfl) dL_law__2681 ⟨(Nat.le_of_ble_eq_true rfl), (Nat.le_of_ble_eq_true rfl)⟩ (fun u_ H locs hq15 hP hD hS => ?_)
  obtain ⟨th2_2, hi2_3, ac2_4, tp2_5, ba2_6, en2_7, tA2_8, fl2_9, de2_10, iD2_11, iO2_12, tU2_13, q_14⟩ := u_
  have hq15 : th2_2 = 0 ∧ q_14 = 0 := hq15
  have hP : va_P g.1 vwCl (List.flatten [bTape g ta ab 0 0 0 0 0 (-1) (fun _ => 0), bLaw g lo ac 0 (-1) 0 0 0 (fun _ => 0), bLog g go ar 0 0 (fun _ => 0), [(tt, .inr (8, [.ref ta, .ref td]))], bTown g td tda 0 0 0 20 6 50 0 1 (fun _ _ => 0), [(lt, .inr (2, [.ref ta, .ref ldr]))], bLaw g ldr lda 0 (-1) 0 0 0 (fun _ => 0), bTown g it ia 0 0 0 20 6 50 0 1 (fun _ _ => 0), bLaw g il ic 0 (-1) 0 0 0 (fun _ => 0), bLog g ig ir 0 0 (fun _ => 0), bTown g t0 ta0 0 0 0 20 6 50 0 1 (fun _ _ => 0), bLog g l0 la0 0 0 (fun _ => 0), [(fo, .inr (0, [.ref o, .ref lo, .ref od]))], bTown g od ad 0 0 0 20 6 50 0 1 (fun _ _ => 0), bRid g ro af 0 0 (fun _ => 0), [(oa, .inl (g.2 2, 1, .inr (.inl (fun _ => 0))))], bObj g om am th2_2 hi2_3 ac2_4 tp2_5 ba2_6 en2_7 tA2_8 fl2_9 de2_10 iD2_11 iO2_12 tU2_13]) H := hP
  have hD : va_D A (List.flatten [bTape g ta ab 0 0 0 0 0 (-1) (fun _ => 0), bLaw g lo ac 0 (-1) 0 0 0 (fun _ => 0), bLog g go ar 0 0 (fun _ => 0), [(tt, .inr (8, [.ref ta, .ref td]))], bTown g td tda 0 0 0 20 6 50 0 1 (fun _ _ => 0), [(lt, .inr (2, [.ref ta, .ref ldr]))], bLaw g ldr lda 0 (-1) 0 0 0 (fun _ => 0), bTown g it ia 0 0 0 20 6 50 0 1 (fun _ _ => 0), bLaw g il ic 0 (-1) 0 0 0 (fun _ => 0), bLog g ig ir 0 0 (fun _ => 0), bTown g t0 ta0 0 0 0 20 6 50 0 1 (fun _ _ => 0), bLog g l0 la0 0 0 (fun _ => 0), [(fo, .inr (0, [.ref o, .ref lo, .ref od]))], bTown g od ad 0 0 0 20 6 50 0 1 (fun _ _ => 0), bRid g ro af 0 0 (fun _ => 0), [(oa, .inl (g.2 2, 1, .inr (.inl (fun _ => 0))))], bObj g om am th2_2 hi2_3 ac2_4 tp2_5 ba2_6 en2_7 tA2_8 fl2_9 de2_10 iD2_11 iO2_12 tU2_13]) := hD
  refine W.widen (k := 247) (n := 14991) (Nat.le_of_ble_eq_true rfl) (Nat.le_of_ble_eq_true rfl) ?_
  refine W.eq (g2 := F0 m 2684 ls [.int q_14, .int 0]) rfl ?_
  refine lv_icmp_eq (tgt := 2738) hx hb dL_law__2684 (by decide) (fun _ => ?_) (fun c16 => absurd ((hq15.2).symm) c16)
  refine lv_iinc (v := 6) (lv' := [(4, .int 6), (3, .ref oa), (2, .ref om), (1, .ref x), (0, .ref b)]) hx hb dL_law__2738 hl (k := 0) rfl (by decide) (by decide) rfl (fun ls hl => ?_)
  refine lv_goto (tgt := 23) hx hb dL_law__2741 (by decide) ?_
  refine lv_iload hx hb dL_law__23 (lv_at hl 0 rfl) ?_
  refine lv_aload_n hx hb dL_law__25 rfl (lv_at hl 4 rfl) ?_
  refine va_slen hx hb hX hbl hbA hS dL_law__26 ?_
  refine ztop (r := 6) rfl ?_
  refine lv_bipush (v := 6) hx hb dL_law__27 (by decide) ?_
  refine lv_isub hx hb dL_law__29 ?_
  refine ztop (r := 0) (by decide) ?_
  refine lv_icmp_gt (tgt := 2744) hx hb dL_law__30 (by decide) (fun _ => ?_) (fun c17 => absurd (by decide) c17)
  refine lv_iconst (v := 1) hx hb dL_law__2744 (by decide) ?_
  refine va_forget (fun q hq => by have h9 := hS.2.2 q hq; rw [hAe] at h9; exact h9) ?_
  refine W.widen (k := 600002) (n := 7302232) (Nat.le_of_ble_eq_true rfl) (Nat.le_of_ble_eq_true rfl) ?_
  exact lw_ret hx hb hr hlocks dL_law__2745
set_option maxRecDepth 100000 in
set_option maxHeartbeats 4000000 in
/-- the law: image -/
theorem w_47 {p : Program} {e : Env} {s : State} {m : MethodId} {below : List Frame} {meth : Method} {c : Code} (l : Launch) (hfl : l.stackTraces = false) (g : zG) {b : Nat} {xs : Nat → Int32} {A : Nat → Prop} (hAe : A = fun q => s.heap.size ≤ q) (hA : ∀ q, s.heap.size ≤ q → A q) (hbA : ¬ A b) (St : CallFix p m c cL_law_ 7 s #[Value.ref b] zB RL) (hr : meth.sig.returnType = ret) (hlocks : meth.locks = false) (hX : va_X b 6 xs s s.heap) (hbl : b < s.heap.size) (hK : zK g s) (hT : zTh A s) (x : Nat) (ta : Nat) (o : Nat) (lo : Nat) (go : Nat) (tt : Nat) (lt : Nat) (mo : Nat) (fo : Nat) (ro : Nat) (ab : Nat) (ac : Nat) (ar : Nat) (td : Nat) (a : Nat → Nat) (tda : Nat → Nat) (ldr : Nat) (lda : Nat) (qT : Nat) (qL : Nat) (it : Nat) (il : Nat) (ig : Nat) (fT : Nat → Option Nat) (fL : Nat → Option Nat) (ia : Nat → Nat) (ic : Nat) (ir : Nat) (t0 : Nat) (ta0 : Nat → Nat) (l0 : Nat) (la0 : Nat) (od : Nat) (ad : Nat → Nat) (af : Nat) (om : Nat) (am : Nat → Nat) (m0 : Nat → Int32) (oa : Nat) (hT0 : fT 0 = some t0) (hL0 : fL 0 = some l0) (hm : zMo m0) (h8 : m0 8 = 0) (h10 : m0 10 = 1) (H : Heap) (locs : List Loc) (ls : Array Slot) (hP : va_P g.1 vwCl (List.flatten [bDR g x ta o lo go tt lt mo fo ro (-1), bTape g ta ab 0 0 0 0 0 (-1) (fun _ => 0), bTown g o a 0 0 0 20 6 50 0 1 (fun _ _ => 0), bLaw g lo ac 0 (-1) 0 0 0 (fun _ => 0), bLog g go ar 0 0 (fun _ => 0), [(tt, .inr (8, [.ref ta, .ref td]))], bTown g td tda 0 0 0 20 6 50 0 1 (fun _ _ => 0), [(lt, .inr (2, [.ref ta, .ref ldr]))], bLaw g ldr lda 0 (-1) 0 0 0 (fun _ => 0), bMem g mo qT qL it il ig 0 0 0 fT fL, bTown g it ia 0 0 0 20 6 50 0 1 (fun _ _ => 0), bLaw g il ic 0 (-1) 0 0 0 (fun _ => 0), bLog g ig ir 0 0 (fun _ => 0), bTown g t0 ta0 0 0 0 20 6 50 0 1 (fun _ _ => 0), bLog g l0 la0 0 0 (fun _ => 0), [(fo, .inr (0, [.ref o, .ref lo, .ref od]))], bTown g od ad 0 0 0 20 6 50 0 1 (fun _ _ => 0), bRid g ro af 0 0 (fun _ => 0), bObj g om am 0 0 0 0 0 0 0 (-1) 0 0 0 0, bArr g am (zf [m0, fun _ => 0, fun _ => 0, fun _ => 0, fun _ => 0, fun _ => 0, fun _ => 0, fun _ => 0]), [(oa, .inl (g.2 2, 1, .inr (.inl (fun _ => 0))))]]) H) (hD : va_D A (List.flatten [bDR g x ta o lo go tt lt mo fo ro (-1), bTape g ta ab 0 0 0 0 0 (-1) (fun _ => 0), bTown g o a 0 0 0 20 6 50 0 1 (fun _ _ => 0), bLaw g lo ac 0 (-1) 0 0 0 (fun _ => 0), bLog g go ar 0 0 (fun _ => 0), [(tt, .inr (8, [.ref ta, .ref td]))], bTown g td tda 0 0 0 20 6 50 0 1 (fun _ _ => 0), [(lt, .inr (2, [.ref ta, .ref ldr]))], bLaw g ldr lda 0 (-1) 0 0 0 (fun _ => 0), bMem g mo qT qL it il ig 0 0 0 fT fL, bTown g it ia 0 0 0 20 6 50 0 1 (fun _ _ => 0), bLaw g il ic 0 (-1) 0 0 0 (fun _ => 0), bLog g ig ir 0 0 (fun _ => 0), bTown g t0 ta0 0 0 0 20 6 50 0 1 (fun _ _ => 0), bLog g l0 la0 0 0 (fun _ => 0), [(fo, .inr (0, [.ref o, .ref lo, .ref od]))], bTown g od ad 0 0 0 20 6 50 0 1 (fun _ _ => 0), bRid g ro af 0 0 (fun _ => 0), bObj g om am 0 0 0 0 0 0 0 (-1) 0 0 0 0, bArr g am (zf [m0, fun _ => 0, fun _ => 0, fun _ => 0, fun _ => 0, fun _ => 0, fun _ => 0, fun _ => 0]), [(oa, .inl (g.2 2, 1, .inr (.inl (fun _ => 0))))]])) (hS : va_S A s.heap H locs) (hl : lv_has ls 7 [(4, .int 0), (3, .ref oa), (2, .ref om), (1, .ref x), (0, .ref b)]) : W p l e room_1 s m #[Value.ref b] below meth c H locs 247 14991 (lw_Z below #[Value.ref b] s) (F0 m 2689 ls []) := by
  obtain ⟨hx, hb, hml, hown, hts⟩ := id St
  have hz0 : zZ (fun _ => 0) := zZ0
  refine lv_aload_n hx hb dL_law__2689 rfl (lv_at hl 3 rfl) ?_
  refine mcallV (g := g) (q0 := 0) (ci := 9) (As := []) (rest := []) St hK hT hA hP hD hS hl.1 [0, 2, 9, 3, 4, 10, 11, 12] [1, 5, 6, 7, 8, 13, 14, 15, 16, 17, 18, 19, 20] rfl rfl rfl (c_image l g x ta o lo go tt lt mo fo ro (-1) a 0 20 6 50 0 1 (fun _ _ => 0) qT qL it il ig 0 0 0 fT fL ac 0 (-1) 0 0 0 (fun _ => 0) ar 0 0 (fun _ => 0) ia 0 0 0 20 6 50 0 1 (fun _ _ => 0) ic 0 (-1) 0 0 0 (fun _ => 0) ir 0 0 (fun _ => 0) (by assumption)) (cwV 0 hts (zgL (zl4 k1552 k1553 k1554 k595) k800) rfl rfl rfl (by decide +kernel) ⟨Nat.le_of_ble_eq_true rfl, Nat.le_of_ble_eq_true rfl⟩) rfl rfl rfl rfl (Nat.le_of_ble_eq_true rfl) dL_law__2690 ⟨(Nat.le_of_ble_eq_true rfl), (Nat.le_of_ble_eq_true rfl)⟩ (fun _u H locs hq1 hP hD hS => ?_)
  have hP : va_P g.1 vwCl (List.flatten [bTape g ta ab 0 0 0 0 0 (-1) (fun _ => 0), [(tt, .inr (8, [.ref ta, .ref td]))], bTown g td tda 0 0 0 20 6 50 0 1 (fun _ _ => 0), [(lt, .inr (2, [.ref ta, .ref ldr]))], bLaw g ldr lda 0 (-1) 0 0 0 (fun _ => 0), bTown g t0 ta0 0 0 0 20 6 50 0 1 (fun _ _ => 0), bLog g l0 la0 0 0 (fun _ => 0), [(fo, .inr (0, [.ref o, .ref lo, .ref od]))], bTown g od ad 0 0 0 20 6 50 0 1 (fun _ _ => 0), bRid g ro af 0 0 (fun _ => 0), bObj g om am 0 0 0 0 0 0 0 (-1) 0 0 0 0, bArr g am (zf [m0, fun _ => 0, fun _ => 0, fun _ => 0, fun _ => 0, fun _ => 0, fun _ => 0, fun _ => 0]), [(oa, .inl (g.2 2, 1, .inr (.inl (fun _ => 0))))]]) H := hP
  have hD : va_D A (List.flatten [bTape g ta ab 0 0 0 0 0 (-1) (fun _ => 0), [(tt, .inr (8, [.ref ta, .ref td]))], bTown g td tda 0 0 0 20 6 50 0 1 (fun _ _ => 0), [(lt, .inr (2, [.ref ta, .ref ldr]))], bLaw g ldr lda 0 (-1) 0 0 0 (fun _ => 0), bTown g t0 ta0 0 0 0 20 6 50 0 1 (fun _ _ => 0), bLog g l0 la0 0 0 (fun _ => 0), [(fo, .inr (0, [.ref o, .ref lo, .ref od]))], bTown g od ad 0 0 0 20 6 50 0 1 (fun _ _ => 0), bRid g ro af 0 0 (fun _ => 0), bObj g om am 0 0 0 0 0 0 0 (-1) 0 0 0 0, bArr g am (zf [m0, fun _ => 0, fun _ => 0, fun _ => 0, fun _ => 0, fun _ => 0, fun _ => 0, fun _ => 0]), [(oa, .inl (g.2 2, 1, .inr (.inl (fun _ => 0))))]]) := hD
  refine W.widen (k := 247) (n := 14991) (Nat.le_of_ble_eq_true rfl) (Nat.le_of_ble_eq_true rfl) ?_
  refine W.eq (g2 := F0 m 2693 ls []) rfl ?_
  refine lv_aload_n hx hb dL_law__2693 rfl (lv_at hl 2 rfl) ?_
  refine mcallV (g := g) (q0 := 0) (ci := 10) (As := []) (rest := []) St hK hT hA hP hD hS hl.1 [10, 11] [0, 1, 2, 3, 4, 5, 6, 7, 8, 9, 12] rfl rfl rfl (m_image l g om am 0 0 0 0 0 0 0 (-1) 0 0 0 0 (zf [m0, fun _ => 0, fun _ => 0, fun _ => 0, fun _ => 0, fun _ => 0, fun _ => 0, fun _ => 0]) (by assumption)) (cwV 0 hts (zgL (zl4 k1555 k1556 k1557 k833) k1145) rfl rfl rfl (by decide +kernel) ⟨Nat.le_of_ble_eq_true rfl, Nat.le_of_ble_eq_true rfl⟩) rfl rfl rfl rfl (Nat.le_of_ble_eq_true rfl) dL_law__2694 ⟨(Nat.le_of_ble_eq_true rfl), (Nat.le_of_ble_eq_true rfl)⟩ (fun u_ H locs hq14 hP hD hS => ?_)
  obtain ⟨th2_2, hi2_3, ac2_4, tp2_5, ba2_6, en2_7, tA2_8, fl2_9, de2_10, iD2_11, iO2_12, tU2_13⟩ := u_
  have hq14 : th2_2 = 0 := hq14
  have hP : va_P g.1 vwCl (List.flatten [bTape g ta ab 0 0 0 0 0 (-1) (fun _ => 0), [(tt, .inr (8, [.ref ta, .ref td]))], bTown g td tda 0 0 0 20 6 50 0 1 (fun _ _ => 0), [(lt, .inr (2, [.ref ta, .ref ldr]))], bLaw g ldr lda 0 (-1) 0 0 0 (fun _ => 0), bTown g t0 ta0 0 0 0 20 6 50 0 1 (fun _ _ => 0), bLog g l0 la0 0 0 (fun _ => 0), [(fo, .inr (0, [.ref o, .ref lo, .ref od]))], bTown g od ad 0 0 0 20 6 50 0 1 (fun _ _ => 0), bRid g ro af 0 0 (fun _ => 0), [(oa, .inl (g.2 2, 1, .inr (.inl (fun _ => 0))))], bObj g om am th2_2 hi2_3 ac2_4 tp2_5 ba2_6 en2_7 tA2_8 fl2_9 de2_10 iD2_11 iO2_12 tU2_13]) H := hP
  have hD : va_D A (List.flatten [bTape g ta ab 0 0 0 0 0 (-1) (fun _ => 0), [(tt, .inr (8, [.ref ta, .ref td]))], bTown g td tda 0 0 0 20 6 50 0 1 (fun _ _ => 0), [(lt, .inr (2, [.ref ta, .ref ldr]))], bLaw g ldr lda 0 (-1) 0 0 0 (fun _ => 0), bTown g t0 ta0 0 0 0 20 6 50 0 1 (fun _ _ => 0), bLog g l0 la0 0 0 (fun _ => 0), [(fo, .inr (0, [.ref o, .ref lo, .ref od]))], bTown g od ad 0 0 0 20 6 50 0 1 (fun _ _ => 0), bRid g ro af 0 0 (fun _ => 0), [(oa, .inl (g.2 2, 1, .inr (.inl (fun _ => 0))))], bObj g om am th2_2 hi2_3 ac2_4 tp2_5 ba2_6 en2_7 tA2_8 fl2_9 de2_10 iD2_11 iO2_12 tU2_13]) := hD
  refine W.widen (k := 247) (n := 14991) (Nat.le_of_ble_eq_true rfl) (Nat.le_of_ble_eq_true rfl) ?_
  refine W.eq (g2 := F0 m 2697 ls []) rfl ?_
  refine lv_goto (tgt := 2738) hx hb dL_law__2697 (by decide) ?_
  refine lv_iinc (v := 6) (lv' := [(4, .int 6), (3, .ref oa), (2, .ref om), (1, .ref x), (0, .ref b)]) hx hb dL_law__2738 hl (k := 0) rfl (by decide) (by decide) rfl (fun ls hl => ?_)
  refine lv_goto (tgt := 23) hx hb dL_law__2741 (by decide) ?_
  refine lv_iload hx hb dL_law__23 (lv_at hl 0 rfl) ?_
  refine lv_aload_n hx hb dL_law__25 rfl (lv_at hl 4 rfl) ?_
  refine va_slen hx hb hX hbl hbA hS dL_law__26 ?_
  refine ztop (r := 6) rfl ?_
  refine lv_bipush (v := 6) hx hb dL_law__27 (by decide) ?_
  refine lv_isub hx hb dL_law__29 ?_
  refine ztop (r := 0) (by decide) ?_
  refine lv_icmp_gt (tgt := 2744) hx hb dL_law__30 (by decide) (fun _ => ?_) (fun c15 => absurd (by decide) c15)
  refine lv_iconst (v := 1) hx hb dL_law__2744 (by decide) ?_
  refine va_forget (fun q hq => by have h9 := hS.2.2 q hq; rw [hAe] at h9; exact h9) ?_
  refine W.widen (k := 600002) (n := 7302232) (Nat.le_of_ble_eq_true rfl) (Nat.le_of_ble_eq_true rfl) ?_
  exact lw_ret hx hb hr hlocks dL_law__2745
set_option maxRecDepth 100000 in
set_option maxHeartbeats 4000000 in
/-- the law: back -/
theorem w_48 {p : Program} {e : Env} {s : State} {m : MethodId} {below : List Frame} {meth : Method} {c : Code} (l : Launch) (hfl : l.stackTraces = false) (g : zG) {b : Nat} {xs : Nat → Int32} {A : Nat → Prop} (hAe : A = fun q => s.heap.size ≤ q) (hA : ∀ q, s.heap.size ≤ q → A q) (hbA : ¬ A b) (St : CallFix p m c cL_law_ 7 s #[Value.ref b] zB RL) (hr : meth.sig.returnType = ret) (hlocks : meth.locks = false) (hX : va_X b 6 xs s s.heap) (hbl : b < s.heap.size) (hK : zK g s) (hT : zTh A s) (x : Nat) (ta : Nat) (o : Nat) (lo : Nat) (go : Nat) (tt : Nat) (lt : Nat) (mo : Nat) (fo : Nat) (ro : Nat) (ab : Nat) (ac : Nat) (ar : Nat) (td : Nat) (a : Nat → Nat) (tda : Nat → Nat) (ldr : Nat) (lda : Nat) (qT : Nat) (qL : Nat) (it : Nat) (il : Nat) (ig : Nat) (fT : Nat → Option Nat) (fL : Nat → Option Nat) (ia : Nat → Nat) (ic : Nat) (ir : Nat) (t0 : Nat) (ta0 : Nat → Nat) (l0 : Nat) (la0 : Nat) (od : Nat) (ad : Nat → Nat) (af : Nat) (om : Nat) (am : Nat → Nat) (m0 : Nat → Int32) (oa : Nat) (hT0 : fT 0 = some t0) (hL0 : fL 0 = some l0) (hm : zMo m0) (h8 : m0 8 = 0) (h10 : m0 10 = 1) (H : Heap) (locs : List Loc) (ls : Array Slot) (hP : va_P g.1 vwCl (List.flatten [bDR g x ta o lo go tt lt mo fo ro (-1), bTape g ta ab 0 0 0 0 0 (-1) (fun _ => 0), bTown g o a 0 0 0 20 6 50 0 1 (fun _ _ => 0), bLaw g lo ac 0 (-1) 0 0 0 (fun _ => 0), bLog g go ar 0 0 (fun _ => 0), [(tt, .inr (8, [.ref ta, .ref td]))], bTown g td tda 0 0 0 20 6 50 0 1 (fun _ _ => 0), [(lt, .inr (2, [.ref ta, .ref ldr]))], bLaw g ldr lda 0 (-1) 0 0 0 (fun _ => 0), bMem g mo qT qL it il ig 0 0 0 fT fL, bTown g it ia 0 0 0 20 6 50 0 1 (fun _ _ => 0), bLaw g il ic 0 (-1) 0 0 0 (fun _ => 0), bLog g ig ir 0 0 (fun _ => 0), bTown g t0 ta0 0 0 0 20 6 50 0 1 (fun _ _ => 0), bLog g l0 la0 0 0 (fun _ => 0), [(fo, .inr (0, [.ref o, .ref lo, .ref od]))], bTown g od ad 0 0 0 20 6 50 0 1 (fun _ _ => 0), bRid g ro af 0 0 (fun _ => 0), bObj g om am 0 0 0 0 0 0 0 (-1) 0 0 0 0, bArr g am (zf [m0, fun _ => 0, fun _ => 0, fun _ => 0, fun _ => 0, fun _ => 0, fun _ => 0, fun _ => 0]), [(oa, .inl (g.2 2, 1, .inr (.inl (fun _ => 0))))]]) H) (hD : va_D A (List.flatten [bDR g x ta o lo go tt lt mo fo ro (-1), bTape g ta ab 0 0 0 0 0 (-1) (fun _ => 0), bTown g o a 0 0 0 20 6 50 0 1 (fun _ _ => 0), bLaw g lo ac 0 (-1) 0 0 0 (fun _ => 0), bLog g go ar 0 0 (fun _ => 0), [(tt, .inr (8, [.ref ta, .ref td]))], bTown g td tda 0 0 0 20 6 50 0 1 (fun _ _ => 0), [(lt, .inr (2, [.ref ta, .ref ldr]))], bLaw g ldr lda 0 (-1) 0 0 0 (fun _ => 0), bMem g mo qT qL it il ig 0 0 0 fT fL, bTown g it ia 0 0 0 20 6 50 0 1 (fun _ _ => 0), bLaw g il ic 0 (-1) 0 0 0 (fun _ => 0), bLog g ig ir 0 0 (fun _ => 0), bTown g t0 ta0 0 0 0 20 6 50 0 1 (fun _ _ => 0), bLog g l0 la0 0 0 (fun _ => 0), [(fo, .inr (0, [.ref o, .ref lo, .ref od]))], bTown g od ad 0 0 0 20 6 50 0 1 (fun _ _ => 0), bRid g ro af 0 0 (fun _ => 0), bObj g om am 0 0 0 0 0 0 0 (-1) 0 0 0 0, bArr g am (zf [m0, fun _ => 0, fun _ => 0, fun _ => 0, fun _ => 0, fun _ => 0, fun _ => 0, fun _ => 0]), [(oa, .inl (g.2 2, 1, .inr (.inl (fun _ => 0))))]])) (hS : va_S A s.heap H locs) (hl : lv_has ls 7 [(4, .int 0), (3, .ref oa), (2, .ref om), (1, .ref x), (0, .ref b)]) : W p l e room_1 s m #[Value.ref b] below meth c H locs 247 14991 (lw_Z below #[Value.ref b] s) (F0 m 2700 ls []) := by
  obtain ⟨hx, hb, hml, hown, hts⟩ := id St
  have hz0 : zZ (fun _ => 0) := zZ0
  refine lv_aload_n hx hb dL_law__2700 rfl (lv_at hl 3 rfl) ?_
  refine mcallV (g := g) (q0 := 0) (ci := 9) (As := []) (rest := []) St hK hT hA hP hD hS hl.1 [0, 2, 9] [1, 3, 4, 5, 6, 7, 8, 10, 11, 12, 13, 14, 15, 16, 17, 18, 19, 20] rfl rfl rfl (c_back l g x ta o lo go tt lt mo fo ro (-1) a 0 20 6 50 0 1 (fun _ _ => 0) qT qL it il ig 0 0 fT fL ) (cwV 0 hts (zgL (zl4 k1558 k1559 k1560 k595) k804) rfl rfl rfl (by decide +kernel) ⟨Nat.le_of_ble_eq_true rfl, Nat.le_of_ble_eq_true rfl⟩) rfl rfl rfl rfl (Nat.le_of_ble_eq_true rfl) dL_law__2701 ⟨(Nat.le_of_ble_eq_true rfl), (Nat.le_of_ble_eq_true rfl)⟩ (fun _u H locs hq1 hP hD hS => ?_)
  have hP : va_P g.1 vwCl (List.flatten [bTape g ta ab 0 0 0 0 0 (-1) (fun _ => 0), bLaw g lo ac 0 (-1) 0 0 0 (fun _ => 0), bLog g go ar 0 0 (fun _ => 0), [(tt, .inr (8, [.ref ta, .ref td]))], bTown g td tda 0 0 0 20 6 50 0 1 (fun _ _ => 0), [(lt, .inr (2, [.ref ta, .ref ldr]))], bLaw g ldr lda 0 (-1) 0 0 0 (fun _ => 0), bTown g it ia 0 0 0 20 6 50 0 1 (fun _ _ => 0), bLaw g il ic 0 (-1) 0 0 0 (fun _ => 0), bLog g ig ir 0 0 (fun _ => 0), bTown g t0 ta0 0 0 0 20 6 50 0 1 (fun _ _ => 0), bLog g l0 la0 0 0 (fun _ => 0), [(fo, .inr (0, [.ref o, .ref lo, .ref od]))], bTown g od ad 0 0 0 20 6 50 0 1 (fun _ _ => 0), bRid g ro af 0 0 (fun _ => 0), bObj g om am 0 0 0 0 0 0 0 (-1) 0 0 0 0, bArr g am (zf [m0, fun _ => 0, fun _ => 0, fun _ => 0, fun _ => 0, fun _ => 0, fun _ => 0, fun _ => 0]), [(oa, .inl (g.2 2, 1, .inr (.inl (fun _ => 0))))]]) H := hP
  have hD : va_D A (List.flatten [bTape g ta ab 0 0 0 0 0 (-1) (fun _ => 0), bLaw g lo ac 0 (-1) 0 0 0 (fun _ => 0), bLog g go ar 0 0 (fun _ => 0), [(tt, .inr (8, [.ref ta, .ref td]))], bTown g td tda 0 0 0 20 6 50 0 1 (fun _ _ => 0), [(lt, .inr (2, [.ref ta, .ref ldr]))], bLaw g ldr lda 0 (-1) 0 0 0 (fun _ => 0), bTown g it ia 0 0 0 20 6 50 0 1 (fun _ _ => 0), bLaw g il ic 0 (-1) 0 0 0 (fun _ => 0), bLog g ig ir 0 0 (fun _ => 0), bTown g t0 ta0 0 0 0 20 6 50 0 1 (fun _ _ => 0), bLog g l0 la0 0 0 (fun _ => 0), [(fo, .inr (0, [.ref o, .ref lo, .ref od]))], bTown g od ad 0 0 0 20 6 50 0 1 (fun _ _ => 0), bRid g ro af 0 0 (fun _ => 0), bObj g om am 0 0 0 0 0 0 0 (-1) 0 0 0 0, bArr g am (zf [m0, fun _ => 0, fun _ => 0, fun _ => 0, fun _ => 0, fun _ => 0, fun _ => 0, fun _ => 0]), [(oa, .inl (g.2 2, 1, .inr (.inl (fun _ => 0))))]]) := hD
  refine W.widen (k := 247) (n := 14991) (Nat.le_of_ble_eq_true rfl) (Nat.le_of_ble_eq_true rfl) ?_
  refine W.eq (g2 := F0 m 2704 ls [.int 0]) rfl ?_
  refine lv_aload_n hx hb dL_law__2704 rfl (lv_at hl 2 rfl) ?_
  refine mcallV (g := g) (q0 := 0) (ci := 10) (As := []) (rest := [.int 0]) St hK hT hA hP hD hS hl.1 [15, 16] [0, 1, 2, 3, 4, 5, 6, 7, 8, 9, 10, 11, 12, 13, 14, 17] rfl rfl rfl (m_back l g om am 0 0 0 0 0 0 (-1) 0 0 0 0 (zf [m0, fun _ => 0, fun _ => 0, fun _ => 0, fun _ => 0, fun _ => 0, fun _ => 0, fun _ => 0]) (by assumption)) (cwV 0 hts (zgL (zl4 k1561 k1562 k1563 k833) k1147) rfl rfl rfl (by decide +kernel) ⟨Nat.le_of_ble_eq_true rfl, Nat.le_of_ble_eq_true rfl⟩) rfl rfl rfl rfl (Nat.le_of_ble_eq_true rfl) dL_law__2705 ⟨(Nat.le_of_ble_eq_true rfl), (Nat.le_of_ble_eq_true rfl)⟩ (fun u_ H locs hq15 hP hD hS => ?_)
  obtain ⟨th2_2, hi2_3, ac2_4, tp2_5, ba2_6, en2_7, tA2_8, fl2_9, de2_10, iD2_11, iO2_12, tU2_13, q_14⟩ := u_
  have hq15 : th2_2 = 0 ∧ q_14 = 0 := hq15
  have hP : va_P g.1 vwCl (List.flatten [bTape g ta ab 0 0 0 0 0 (-1) (fun _ => 0), bLaw g lo ac 0 (-1) 0 0 0 (fun _ => 0), bLog g go ar 0 0 (fun _ => 0), [(tt, .inr (8, [.ref ta, .ref td]))], bTown g td tda 0 0 0 20 6 50 0 1 (fun _ _ => 0), [(lt, .inr (2, [.ref ta, .ref ldr]))], bLaw g ldr lda 0 (-1) 0 0 0 (fun _ => 0), bTown g it ia 0 0 0 20 6 50 0 1 (fun _ _ => 0), bLaw g il ic 0 (-1) 0 0 0 (fun _ => 0), bLog g ig ir 0 0 (fun _ => 0), bTown g t0 ta0 0 0 0 20 6 50 0 1 (fun _ _ => 0), bLog g l0 la0 0 0 (fun _ => 0), [(fo, .inr (0, [.ref o, .ref lo, .ref od]))], bTown g od ad 0 0 0 20 6 50 0 1 (fun _ _ => 0), bRid g ro af 0 0 (fun _ => 0), [(oa, .inl (g.2 2, 1, .inr (.inl (fun _ => 0))))], bObj g om am th2_2 hi2_3 ac2_4 tp2_5 ba2_6 en2_7 tA2_8 fl2_9 de2_10 iD2_11 iO2_12 tU2_13]) H := hP
  have hD : va_D A (List.flatten [bTape g ta ab 0 0 0 0 0 (-1) (fun _ => 0), bLaw g lo ac 0 (-1) 0 0 0 (fun _ => 0), bLog g go ar 0 0 (fun _ => 0), [(tt, .inr (8, [.ref ta, .ref td]))], bTown g td tda 0 0 0 20 6 50 0 1 (fun _ _ => 0), [(lt, .inr (2, [.ref ta, .ref ldr]))], bLaw g ldr lda 0 (-1) 0 0 0 (fun _ => 0), bTown g it ia 0 0 0 20 6 50 0 1 (fun _ _ => 0), bLaw g il ic 0 (-1) 0 0 0 (fun _ => 0), bLog g ig ir 0 0 (fun _ => 0), bTown g t0 ta0 0 0 0 20 6 50 0 1 (fun _ _ => 0), bLog g l0 la0 0 0 (fun _ => 0), [(fo, .inr (0, [.ref o, .ref lo, .ref od]))], bTown g od ad 0 0 0 20 6 50 0 1 (fun _ _ => 0), bRid g ro af 0 0 (fun _ => 0), [(oa, .inl (g.2 2, 1, .inr (.inl (fun _ => 0))))], bObj g om am th2_2 hi2_3 ac2_4 tp2_5 ba2_6 en2_7 tA2_8 fl2_9 de2_10 iD2_11 iO2_12 tU2_13]) := hD
  refine W.widen (k := 247) (n := 14991) (Nat.le_of_ble_eq_true rfl) (Nat.le_of_ble_eq_true rfl) ?_
  refine W.eq (g2 := F0 m 2708 ls [.int q_14, .int 0]) rfl ?_
  refine lv_icmp_eq (tgt := 2738) hx hb dL_law__2708 (by decide) (fun _ => ?_) (fun c16 => absurd ((hq15.2).symm) c16)
  refine lv_iinc (v := 6) (lv' := [(4, .int 6), (3, .ref oa), (2, .ref om), (1, .ref x), (0, .ref b)]) hx hb dL_law__2738 hl (k := 0) rfl (by decide) (by decide) rfl (fun ls hl => ?_)
  refine lv_goto (tgt := 23) hx hb dL_law__2741 (by decide) ?_
  refine lv_iload hx hb dL_law__23 (lv_at hl 0 rfl) ?_
  refine lv_aload_n hx hb dL_law__25 rfl (lv_at hl 4 rfl) ?_
  refine va_slen hx hb hX hbl hbA hS dL_law__26 ?_
  refine ztop (r := 6) rfl ?_
  refine lv_bipush (v := 6) hx hb dL_law__27 (by decide) ?_
  refine lv_isub hx hb dL_law__29 ?_
  refine ztop (r := 0) (by decide) ?_
  refine lv_icmp_gt (tgt := 2744) hx hb dL_law__30 (by decide) (fun _ => ?_) (fun c17 => absurd (by decide) c17)
  refine lv_iconst (v := 1) hx hb dL_law__2744 (by decide) ?_
  refine va_forget (fun q hq => by have h9 := hS.2.2 q hq; rw [hAe] at h9; exact h9) ?_
  refine W.widen (k := 600002) (n := 7302232) (Nat.le_of_ble_eq_true rfl) (Nat.le_of_ble_eq_true rfl) ?_
  exact lw_ret hx hb hr hlocks dL_law__2745
set_option maxRecDepth 100000 in
set_option maxHeartbeats 4000000 in
/-- the law: count -/
theorem w_49 {p : Program} {e : Env} {s : State} {m : MethodId} {below : List Frame} {meth : Method} {c : Code} (l : Launch) (hfl : l.stackTraces = false) (g : zG) {b : Nat} {xs : Nat → Int32} {A : Nat → Prop} (hAe : A = fun q => s.heap.size ≤ q) (hA : ∀ q, s.heap.size ≤ q → A q) (hbA : ¬ A b) (St : CallFix p m c cL_law_ 7 s #[Value.ref b] zB RL) (hr : meth.sig.returnType = ret) (hlocks : meth.locks = false) (hX : va_X b 6 xs s s.heap) (hbl : b < s.heap.size) (hK : zK g s) (hT : zTh A s) (x : Nat) (ta : Nat) (o : Nat) (lo : Nat) (go : Nat) (tt : Nat) (lt : Nat) (mo : Nat) (fo : Nat) (ro : Nat) (ab : Nat) (ac : Nat) (ar : Nat) (td : Nat) (a : Nat → Nat) (tda : Nat → Nat) (ldr : Nat) (lda : Nat) (qT : Nat) (qL : Nat) (it : Nat) (il : Nat) (ig : Nat) (fT : Nat → Option Nat) (fL : Nat → Option Nat) (ia : Nat → Nat) (ic : Nat) (ir : Nat) (t0 : Nat) (ta0 : Nat → Nat) (l0 : Nat) (la0 : Nat) (od : Nat) (ad : Nat → Nat) (af : Nat) (om : Nat) (am : Nat → Nat) (m0 : Nat → Int32) (oa : Nat) (hT0 : fT 0 = some t0) (hL0 : fL 0 = some l0) (hm : zMo m0) (h8 : m0 8 = 0) (h10 : m0 10 = 1) (H : Heap) (locs : List Loc) (ls : Array Slot) (hP : va_P g.1 vwCl (List.flatten [bDR g x ta o lo go tt lt mo fo ro (-1), bTape g ta ab 0 0 0 0 0 (-1) (fun _ => 0), bTown g o a 0 0 0 20 6 50 0 1 (fun _ _ => 0), bLaw g lo ac 0 (-1) 0 0 0 (fun _ => 0), bLog g go ar 0 0 (fun _ => 0), [(tt, .inr (8, [.ref ta, .ref td]))], bTown g td tda 0 0 0 20 6 50 0 1 (fun _ _ => 0), [(lt, .inr (2, [.ref ta, .ref ldr]))], bLaw g ldr lda 0 (-1) 0 0 0 (fun _ => 0), bMem g mo qT qL it il ig 0 0 0 fT fL, bTown g it ia 0 0 0 20 6 50 0 1 (fun _ _ => 0), bLaw g il ic 0 (-1) 0 0 0 (fun _ => 0), bLog g ig ir 0 0 (fun _ => 0), bTown g t0 ta0 0 0 0 20 6 50 0 1 (fun _ _ => 0), bLog g l0 la0 0 0 (fun _ => 0), [(fo, .inr (0, [.ref o, .ref lo, .ref od]))], bTown g od ad 0 0 0 20 6 50 0 1 (fun _ _ => 0), bRid g ro af 0 0 (fun _ => 0), bObj g om am 0 0 0 0 0 0 0 (-1) 0 0 0 0, bArr g am (zf [m0, fun _ => 0, fun _ => 0, fun _ => 0, fun _ => 0, fun _ => 0, fun _ => 0, fun _ => 0]), [(oa, .inl (g.2 2, 1, .inr (.inl (fun _ => 0))))]]) H) (hD : va_D A (List.flatten [bDR g x ta o lo go tt lt mo fo ro (-1), bTape g ta ab 0 0 0 0 0 (-1) (fun _ => 0), bTown g o a 0 0 0 20 6 50 0 1 (fun _ _ => 0), bLaw g lo ac 0 (-1) 0 0 0 (fun _ => 0), bLog g go ar 0 0 (fun _ => 0), [(tt, .inr (8, [.ref ta, .ref td]))], bTown g td tda 0 0 0 20 6 50 0 1 (fun _ _ => 0), [(lt, .inr (2, [.ref ta, .ref ldr]))], bLaw g ldr lda 0 (-1) 0 0 0 (fun _ => 0), bMem g mo qT qL it il ig 0 0 0 fT fL, bTown g it ia 0 0 0 20 6 50 0 1 (fun _ _ => 0), bLaw g il ic 0 (-1) 0 0 0 (fun _ => 0), bLog g ig ir 0 0 (fun _ => 0), bTown g t0 ta0 0 0 0 20 6 50 0 1 (fun _ _ => 0), bLog g l0 la0 0 0 (fun _ => 0), [(fo, .inr (0, [.ref o, .ref lo, .ref od]))], bTown g od ad 0 0 0 20 6 50 0 1 (fun _ _ => 0), bRid g ro af 0 0 (fun _ => 0), bObj g om am 0 0 0 0 0 0 0 (-1) 0 0 0 0, bArr g am (zf [m0, fun _ => 0, fun _ => 0, fun _ => 0, fun _ => 0, fun _ => 0, fun _ => 0, fun _ => 0]), [(oa, .inl (g.2 2, 1, .inr (.inl (fun _ => 0))))]])) (hS : va_S A s.heap H locs) (hl : lv_has ls 7 [(4, .int 0), (3, .ref oa), (2, .ref om), (1, .ref x), (0, .ref b)]) : W p l e room_1 s m #[Value.ref b] below meth c H locs 247 14991 (lw_Z below #[Value.ref b] s) (F0 m 2713 ls []) := by
  obtain ⟨hx, hb, hml, hown, hts⟩ := id St
  have hz0 : zZ (fun _ => 0) := zZ0
  refine lv_aload_n hx hb dL_law__2713 rfl (lv_at hl 3 rfl) ?_
  refine lv_aload_n hx hb dL_law__2714 rfl (lv_at hl 4 rfl) ?_
  refine lv_iload hx hb dL_law__2715 (lv_at hl 0 rfl) ?_
  refine lv_iconst (v := 1) hx hb dL_law__2717 (by decide) ?_
  refine lv_iadd hx hb dL_law__2718 ?_
  refine ztop (r := 1) (by decide) ?_
  refine va_sld hx hb hX hbl hbA hS (zin rfl) dL_law__2719 ?_
  refine ztop (r := xs 1) rfl ?_
  refine mcallV (g := g) (q0 := 0) (ci := 9) (As := [.int (xs 1)]) (rest := []) St hK hT hA hP hD hS hl.1 [0, 2, 3, 4, 9] [1, 5, 6, 7, 8, 10, 11, 12, 13, 14, 15, 16, 17, 18, 19, 20] rfl rfl rfl (c_count l g x ta o lo go tt lt mo fo ro (-1) a 6 50 1 (fun _ _ => 0) ac 0 0 0 0 (fun _ => 0) ar 0 (fun _ => 0) qT qL it il ig 0 0 fT fL (xs 1) ) (cwV 1 hts (zgL (zl4 k1564 k1565 k1566 k595) k812) rfl rfl rfl (by decide +kernel) ⟨Nat.le_of_ble_eq_true rfl, Nat.le_of_ble_eq_true rfl⟩) rfl rfl rfl rfl (Nat.le_of_ble_eq_true rfl) dL_law__2720 ⟨(Nat.le_of_ble_eq_true rfl), (Nat.le_of_ble_eq_true rfl)⟩ (fun q_1 H locs hq2 hP hD hS => ?_)
  have hq2 : q_1 = zcount (xs 1) := hq2
  have hP : va_P g.1 vwCl (List.flatten [bTape g ta ab 0 0 0 0 0 (-1) (fun _ => 0), [(tt, .inr (8, [.ref ta, .ref td]))], bTown g td tda 0 0 0 20 6 50 0 1 (fun _ _ => 0), [(lt, .inr (2, [.ref ta, .ref ldr]))], bLaw g ldr lda 0 (-1) 0 0 0 (fun _ => 0), bTown g it ia 0 0 0 20 6 50 0 1 (fun _ _ => 0), bLaw g il ic 0 (-1) 0 0 0 (fun _ => 0), bLog g ig ir 0 0 (fun _ => 0), bTown g t0 ta0 0 0 0 20 6 50 0 1 (fun _ _ => 0), bLog g l0 la0 0 0 (fun _ => 0), [(fo, .inr (0, [.ref o, .ref lo, .ref od]))], bTown g od ad 0 0 0 20 6 50 0 1 (fun _ _ => 0), bRid g ro af 0 0 (fun _ => 0), bObj g om am 0 0 0 0 0 0 0 (-1) 0 0 0 0, bArr g am (zf [m0, fun _ => 0, fun _ => 0, fun _ => 0, fun _ => 0, fun _ => 0, fun _ => 0, fun _ => 0]), [(oa, .inl (g.2 2, 1, .inr (.inl (fun _ => 0))))]]) H := hP
  have hD : va_D A (List.flatten [bTape g ta ab 0 0 0 0 0 (-1) (fun _ => 0), [(tt, .inr (8, [.ref ta, .ref td]))], bTown g td tda 0 0 0 20 6 50 0 1 (fun _ _ => 0), [(lt, .inr (2, [.ref ta, .ref ldr]))], bLaw g ldr lda 0 (-1) 0 0 0 (fun _ => 0), bTown g it ia 0 0 0 20 6 50 0 1 (fun _ _ => 0), bLaw g il ic 0 (-1) 0 0 0 (fun _ => 0), bLog g ig ir 0 0 (fun _ => 0), bTown g t0 ta0 0 0 0 20 6 50 0 1 (fun _ _ => 0), bLog g l0 la0 0 0 (fun _ => 0), [(fo, .inr (0, [.ref o, .ref lo, .ref od]))], bTown g od ad 0 0 0 20 6 50 0 1 (fun _ _ => 0), bRid g ro af 0 0 (fun _ => 0), bObj g om am 0 0 0 0 0 0 0 (-1) 0 0 0 0, bArr g am (zf [m0, fun _ => 0, fun _ => 0, fun _ => 0, fun _ => 0, fun _ => 0, fun _ => 0, fun _ => 0]), [(oa, .inl (g.2 2, 1, .inr (.inl (fun _ => 0))))]]) := hD
  refine W.widen (k := 247) (n := 14991) (Nat.le_of_ble_eq_true rfl) (Nat.le_of_ble_eq_true rfl) ?_
  refine W.eq (g2 := F0 m 2723 ls [.int q_1]) rfl ?_
  refine lv_aload_n hx hb dL_law__2723 rfl (lv_at hl 2 rfl) ?_
  refine lv_aload_n hx hb dL_law__2724 rfl (lv_at hl 4 rfl) ?_
  refine lv_iload hx hb dL_law__2725 (lv_at hl 0 rfl) ?_
  refine lv_iconst (v := 1) hx hb dL_law__2727 (by decide) ?_
  refine lv_iadd hx hb dL_law__2728 ?_
  refine ztop (r := 1) (by decide) ?_
  refine va_sld hx hb hX hbl hbA hS (zin rfl) dL_law__2729 ?_
  refine ztop (r := xs 1) rfl ?_
  refine mcallV (g := g) (q0 := 0) (ci := 10) (As := [.int (xs 1)]) (rest := [.int q_1]) St hK hT hA hP hD hS hl.1 [13, 14] [0, 1, 2, 3, 4, 5, 6, 7, 8, 9, 10, 11, 12, 15] rfl rfl rfl (m_count l g om am 0 0 0 0 0 0 (-1) 0 0 0 0 (zf [m0, fun _ => 0, fun _ => 0, fun _ => 0, fun _ => 0, fun _ => 0, fun _ => 0, fun _ => 0]) (xs 1) hm h8) (cwV 1 hts (zgL (zl4 k1567 k1568 k1569 k833) k1152) rfl rfl rfl (by decide +kernel) ⟨Nat.le_of_ble_eq_true rfl, Nat.le_of_ble_eq_true rfl⟩) rfl rfl rfl rfl (Nat.le_of_ble_eq_true rfl) dL_law__2730 ⟨(Nat.le_of_ble_eq_true rfl), (Nat.le_of_ble_eq_true rfl)⟩ (fun u_ H locs hq16 hP hD hS => ?_)
  obtain ⟨th2_3, hi2_4, ac2_5, tp2_6, ba2_7, en2_8, tA2_9, fl2_10, de2_11, iD2_12, iO2_13, tU2_14, q_15⟩ := u_
  have hq16 : th2_3 = 0 ∧ q_15 = zcount (xs 1) := hq16
  have hP : va_P g.1 vwCl (List.flatten [bTape g ta ab 0 0 0 0 0 (-1) (fun _ => 0), [(tt, .inr (8, [.ref ta, .ref td]))], bTown g td tda 0 0 0 20 6 50 0 1 (fun _ _ => 0), [(lt, .inr (2, [.ref ta, .ref ldr]))], bLaw g ldr lda 0 (-1) 0 0 0 (fun _ => 0), bTown g it ia 0 0 0 20 6 50 0 1 (fun _ _ => 0), bLaw g il ic 0 (-1) 0 0 0 (fun _ => 0), bLog g ig ir 0 0 (fun _ => 0), bTown g t0 ta0 0 0 0 20 6 50 0 1 (fun _ _ => 0), bLog g l0 la0 0 0 (fun _ => 0), [(fo, .inr (0, [.ref o, .ref lo, .ref od]))], bTown g od ad 0 0 0 20 6 50 0 1 (fun _ _ => 0), bRid g ro af 0 0 (fun _ => 0), [(oa, .inl (g.2 2, 1, .inr (.inl (fun _ => 0))))], bObj g om am th2_3 hi2_4 ac2_5 tp2_6 ba2_7 en2_8 tA2_9 fl2_10 de2_11 iD2_12 iO2_13 tU2_14]) H := hP
  have hD : va_D A (List.flatten [bTape g ta ab 0 0 0 0 0 (-1) (fun _ => 0), [(tt, .inr (8, [.ref ta, .ref td]))], bTown g td tda 0 0 0 20 6 50 0 1 (fun _ _ => 0), [(lt, .inr (2, [.ref ta, .ref ldr]))], bLaw g ldr lda 0 (-1) 0 0 0 (fun _ => 0), bTown g it ia 0 0 0 20 6 50 0 1 (fun _ _ => 0), bLaw g il ic 0 (-1) 0 0 0 (fun _ => 0), bLog g ig ir 0 0 (fun _ => 0), bTown g t0 ta0 0 0 0 20 6 50 0 1 (fun _ _ => 0), bLog g l0 la0 0 0 (fun _ => 0), [(fo, .inr (0, [.ref o, .ref lo, .ref od]))], bTown g od ad 0 0 0 20 6 50 0 1 (fun _ _ => 0), bRid g ro af 0 0 (fun _ => 0), [(oa, .inl (g.2 2, 1, .inr (.inl (fun _ => 0))))], bObj g om am th2_3 hi2_4 ac2_5 tp2_6 ba2_7 en2_8 tA2_9 fl2_10 de2_11 iD2_12 iO2_13 tU2_14]) := hD
  refine W.widen (k := 247) (n := 14991) (Nat.le_of_ble_eq_true rfl) (Nat.le_of_ble_eq_true rfl) ?_
  refine W.eq (g2 := F0 m 2733 ls [.int q_15, .int q_1]) rfl ?_
  refine lv_icmp_eq (tgt := 2738) hx hb dL_law__2733 (by decide) (fun _ => ?_) (fun c17 => absurd (hq2.trans (hq16.2).symm) c17)
  refine lv_iinc (v := 6) (lv' := [(4, .int 6), (3, .ref oa), (2, .ref om), (1, .ref x), (0, .ref b)]) hx hb dL_law__2738 hl (k := 0) rfl (by decide) (by decide) rfl (fun ls hl => ?_)
  refine lv_goto (tgt := 23) hx hb dL_law__2741 (by decide) ?_
  refine lv_iload hx hb dL_law__23 (lv_at hl 0 rfl) ?_
  refine lv_aload_n hx hb dL_law__25 rfl (lv_at hl 4 rfl) ?_
  refine va_slen hx hb hX hbl hbA hS dL_law__26 ?_
  refine ztop (r := 6) rfl ?_
  refine lv_bipush (v := 6) hx hb dL_law__27 (by decide) ?_
  refine lv_isub hx hb dL_law__29 ?_
  refine ztop (r := 0) (by decide) ?_
  refine lv_icmp_gt (tgt := 2744) hx hb dL_law__30 (by decide) (fun _ => ?_) (fun c18 => absurd (by decide) c18)
  refine lv_iconst (v := 1) hx hb dL_law__2744 (by decide) ?_
  refine va_forget (fun q hq => by have h9 := hS.2.2 q hq; rw [hAe] at h9; exact h9) ?_
  refine W.widen (k := 600002) (n := 7302232) (Nat.le_of_ble_eq_true rfl) (Nat.le_of_ble_eq_true rfl) ?_
  exact lw_ret hx hb hr hlocks dL_law__2745
