def bRid (g : zG) (ro : Nat) (af : Nat) (pp : Int32) (ft : Int32) (ff : Nat → Int32) : va_W := [(ro, .inr (5, [.ref af, .int pp, .int ft])), (af, .inl (g.2 1, 256, .inl ff))]
def zod (r : Int32) (t : Nat) : Int32 := if 0 < lg_cmp (r.toInt64 * lN (9 ^ t) + (100 - r).toInt64) 0 then (10000 * (r.toInt64 * lN (9 ^ t)) / (r.toInt64 * lN (9 ^ t) + (100 - r).toInt64)).toInt32 else 0
theorem zod0 (r : Int32) : (r : Int32).toInt64 = r.toInt64 * lN (9 ^ 0) := by rw [show lN (9 ^ 0) = 1 from rfl, Int64.mul_one]
theorem zodS (r : Int32) (t : Nat) : r.toInt64 * lN (9 ^ t) * 9 = r.toInt64 * lN (9 ^ (t + 1)) := by rw [Int64.mul_assoc, show (9 : Int64) = lN 9 from rfl, lN_mul, Nat.pow_succ]
theorem zodZ {x : Int64} (h : 0 < lg_cmp x 0) : ¬ x = 0 := fun e => by subst e; revert h; decide
set_option maxRecDepth 100000 in
set_option maxHeartbeats 4000000 in
theorem c_lookAhead (l : Launch) (g : zG) (fo : Nat) (o : Nat) (a : Nat → Nat) (tx : Int32) (ch : Int32) (jo : Int32) (tr : Int32) (dy : Int32) (sd : Int32) (f : Nat → Nat → Int32) (lo : Nat) (ac : Nat) (ls0 : Int32) (ll : Int32) (lm : Int32) (lg : Int32) (ld : Int32) (fc : Nat → Int32) (od : Nat) (ad : Nat → Nat) (ped : Int32) (wod : Int32) (txd : Int32) (chd : Int32) (jod : Int32) (trd : Int32) (dyd : Int32) (sdd : Int32) (fd : Nat → Nat → Int32) (set : Int32) (byx : Int32) (n : Int32) (hz : zZ (f 4)) (hn0 : ∃ N : Nat, N ≤ 100 ∧ n = nI N) : zM g l yX0_lookAhead (Cond.code yX0_lookAhead cX0_lookAhead 5 (some .int) :: zB) ({ frames := 4, cells := 0, slots := 0, locals := 88 } : Room) [.ref fo, .int set, .int byx, .int n] [[(fo, .inr (0, [.ref o, .ref lo, .ref od]))], bTown g o a 0 0 tx ch jo tr dy sd f, bLaw g lo ac ls0 ll lm lg ld fc, bTown g od ad ped wod txd chd jod trd dyd sdd fd] (fun u : Int32 × (Nat → Nat → Int32) × Int32 × Int32 × Int32 => (fun (dy3 : Int32) (h3 : Nat → Nat → Int32) (m3 : Int32) (g3 : Int32) (d3 : Int32) => some (.int 0)) (u.1) (u.2.1) (u.2.2.1) (u.2.2.2.1) (u.2.2.2.2)) (fun u : Int32 × (Nat → Nat → Int32) × Int32 × Int32 × Int32 => (fun (dy3 : Int32) (h3 : Nat → Nat → Int32) (m3 : Int32) (g3 : Int32) (d3 : Int32) => True) (u.1) (u.2.1) (u.2.2.1) (u.2.2.2.1) (u.2.2.2.2)) (fun u : Int32 × (Nat → Nat → Int32) × Int32 × Int32 × Int32 => (fun (dy3 : Int32) (h3 : Nat → Nat → Int32) (m3 : Int32) (g3 : Int32) (d3 : Int32) => [[(fo, .inr (0, [.ref o, .ref lo, .ref od]))], bTown g o a 0 0 tx ch jo tr dy sd f, bLaw g lo ac ls0 ll m3 g3 d3 fc, bTown g od ad 0 0 tx ch jo tr dy3 sd h3]) (u.1) (u.2.1) (u.2.2.1) (u.2.2.2.1) (u.2.2.2.2)) := by
  refine zM.of (cc := cX0_lookAhead) (maxL := 5) (rt := (some .int)) (by decide) rfl (Nat.le_of_ble_eq_true rfl) ?_
  intro p e s m args below meth c A ls St hr hlocks hin hK hT hA hP hD hS hl
  obtain ⟨hx, hb, hml, hown, hts⟩ := id St
  have hl : lv_has ls 5 [(0, .ref fo), (1, .int set), (2, .int byx), (3, .int n)] := hl
  obtain ⟨N, hN, hn⟩ := hn0
  refine lv_aload_n hx hb dX0_lookAhead_0 rfl (lv_at hl 0 rfl) ?_
  refine va_get (D := g.1) (ci := 0) (v := .ref od) (C := RX0) (T := TX0) (N := 3) hx hb hts izRX0 hown hK hP 0 rfl rfl 2 (by decide) (hts _ k25) (fun _ h9 => h9) rfl dX0_lookAhead_1 ?_
  refine lv_aload_n hx hb dX0_lookAhead_4 rfl (lv_at hl 0 rfl) ?_
  refine va_get (D := g.1) (ci := 0) (v := .ref o) (C := RX0) (T := TX0) (N := 3) hx hb hts izRX0 hown hK hP 0 rfl rfl 0 (by decide) (hts _ k26) (fun _ h9 => h9) rfl dX0_lookAhead_5 ?_
  refine mcallV (g := g) (q0 := 0) (ci := 7) (As := [.ref o]) (rest := []) St hK hT hA hP hD hS hl.1 [3, 1] [0, 2] rfl rfl rfl (c_Town_copyFrom l g od ad ped wod txd chd jod trd dyd sdd fd o a 0 0 tx ch jo tr dy sd f (by assumption)) (cwV 1 hts (zgL (zl4 k156 k157 k158 k24) k30) rfl rfl rfl (by decide +kernel) ⟨Nat.le_of_ble_eq_true rfl, Nat.le_of_ble_eq_true rfl⟩) rfl rfl rfl rfl (Nat.le_of_ble_eq_true rfl) dX0_lookAhead_8 ⟨(Nat.le_of_ble_eq_true rfl), (Nat.le_of_ble_eq_true rfl)⟩ (fun h_1 H locs hq2 hP hD hS => ?_)
  have hq2 : zZ (h_1 4) := hq2
  have hP : va_P g.1 vwCl (List.flatten [[(fo, .inr (0, [.ref o, .ref lo, .ref od]))], bLaw g lo ac ls0 ll lm lg ld fc, bTown g od ad 0 0 tx ch jo tr dy sd h_1, bTown g o a 0 0 tx ch jo tr dy sd f]) H := hP
  have hD : va_D A (List.flatten [[(fo, .inr (0, [.ref o, .ref lo, .ref od]))], bLaw g lo ac ls0 ll lm lg ld fc, bTown g od ad 0 0 tx ch jo tr dy sd h_1, bTown g o a 0 0 tx ch jo tr dy sd f]) := hD
  refine W.widen (k := 0) (n := 0) (Nat.le_of_ble_eq_true rfl) (Nat.le_of_ble_eq_true rfl) ?_
  refine W.eq (g2 := F0 m 11 ls []) rfl ?_
  refine lv_iconst (v := 0) hx hb dX0_lookAhead_11 (by decide) ?_
  refine lv_istore (lv' := [(4, .int 0), (0, .ref fo), (1, .int set), (2, .int byx), (3, .int n)]) hx hb dX0_lookAhead_12 hl (by decide) rfl (fun ls hl => ?_)
  refine lv_iload hx hb dX0_lookAhead_14 (lv_at hl 0 rfl) ?_
  refine lv_aload_n hx hb dX0_lookAhead_16 rfl (lv_at hl 1 rfl) ?_
  refine va_get (D := g.1) (ci := 0) (v := .ref o) (C := RX0) (T := TX0) (N := 3) hx hb hts izRX0 hown hK hP 0 rfl rfl 0 (by decide) (hts _ k26) (fun _ h9 => h9) rfl dX0_lookAhead_17 ?_
  refine va_get (D := g.1) (ci := 7) (v := .int 0) (C := RX9) (T := TX9) (N := 19) hx hb hts izRX9 hown hK hP 15 rfl rfl 0 (by decide) (hts _ k155) (fun _ h9 => h9) rfl dX0_lookAhead_20 ?_
  refine lv_icmp_ge (tgt := 51) hx hb dX0_lookAhead_23 (by decide) (fun _ => ?_) (fun c3 => absurd (by decide) c3)
  refine lv_iconst (v := 0) hx hb dX0_lookAhead_51 (by decide) ?_
  refine lv_istore (lv' := [(4, .int 0), (0, .ref fo), (1, .int set), (2, .int byx), (3, .int n)]) hx hb dX0_lookAhead_52 hl (by decide) rfl (fun ls hl => ?_)
  have hP : va_P g.1 vwCl (List.flatten [[(fo, .inr (0, [.ref o, .ref lo, .ref od]))], bLaw g lo ac ls0 ll lm lg ld fc, bTown g od ad 0 0 tx ch jo tr dy sd h_1, bTown g o a 0 0 tx ch jo tr dy sd f]) H := hP
  have hD : va_D A (List.flatten [[(fo, .inr (0, [.ref o, .ref lo, .ref od]))], bLaw g lo ac ls0 ll lm lg ld fc, bTown g od ad 0 0 tx ch jo tr dy sd h_1, bTown g o a 0 0 tx ch jo tr dy sd f]) := hD
  obtain ⟨hP, hD⟩ := zord (g := g) (Bs' := [[(fo, .inr (0, [.ref o, .ref lo, .ref od]))], bTown g o a 0 0 tx ch jo tr dy sd f, bLaw g lo ac ls0 ll lm lg ld fc, bTown g od ad 0 0 tx ch jo tr dy sd h_1]) [0, 3, 1, 2] rfl rfl hP hD
  have LP54 : ∀ (k : Nat) (j : Nat) (dy3 : Int32) (h3 : Nat → Nat → Int32) (m3 : Int32) (g3 : Int32) (d3 : Int32) (H : Heap) (locs : List Loc) (ls : Array Slot),(j ≤ N) → (N - j) < k → va_P g.1 vwCl (List.flatten [[(fo, .inr (0, [.ref o, .ref lo, .ref od]))], bTown g o a 0 0 tx ch jo tr dy sd f, bLaw g lo ac ls0 ll m3 g3 d3 fc, bTown g od ad 0 0 tx ch jo tr dy3 sd h3]) H → va_D A (List.flatten [[(fo, .inr (0, [.ref o, .ref lo, .ref od]))], bTown g o a 0 0 tx ch jo tr dy sd f, bLaw g lo ac ls0 ll m3 g3 d3 fc, bTown g od ad 0 0 tx ch jo tr dy3 sd h3]) → va_S A s.heap H locs → lv_has ls 5 [(0, .ref fo), (1, .int set), (2, .int byx), (3, .int n), (4, .int (nI j))] → W p l e ({ frames := 4, cells := 0, slots := 0, locals := 88 } : Room) s m args below meth c H locs (0) (0) (zF g (fun u : Int32 × (Nat → Nat → Int32) × Int32 × Int32 × Int32 => (fun (dy3 : Int32) (h3 : Nat → Nat → Int32) (m3 : Int32) (g3 : Int32) (d3 : Int32) => some (.int 0)) (u.1) (u.2.1) (u.2.2.1) (u.2.2.2.1) (u.2.2.2.2)) (fun u : Int32 × (Nat → Nat → Int32) × Int32 × Int32 × Int32 => (fun (dy3 : Int32) (h3 : Nat → Nat → Int32) (m3 : Int32) (g3 : Int32) (d3 : Int32) => True) (u.1) (u.2.1) (u.2.2.1) (u.2.2.2.1) (u.2.2.2.2)) (fun u : Int32 × (Nat → Nat → Int32) × Int32 × Int32 × Int32 => (fun (dy3 : Int32) (h3 : Nat → Nat → Int32) (m3 : Int32) (g3 : Int32) (d3 : Int32) => [[(fo, .inr (0, [.ref o, .ref lo, .ref od]))], bTown g o a 0 0 tx ch jo tr dy sd f, bLaw g lo ac ls0 ll m3 g3 d3 fc, bTown g od ad 0 0 tx ch jo tr dy3 sd h3]) (u.1) (u.2.1) (u.2.2.1) (u.2.2.2.1) (u.2.2.2.2)) ({ frames := 4, cells := 0, slots := 0, locals := 88 } : Room) below args s A) (F0 m 54 ls []) := by
    intro k
    induction k with
    | zero => intro j dy3 h3 m3 g3 d3 H locs ls hj hk; exact absurd hk (Nat.not_lt_zero _)
    | succ k ih54 =>
      intro j dy3 h3 m3 g3 d3 H locs ls hj hk hP hD hS hl
      refine lv_iload hx hb dX0_lookAhead_54 (lv_at hl 4 rfl) ?_
      refine lv_iload_n hx hb dX0_lookAhead_56 rfl (lv_at hl 3 rfl) ?_
      refine lv_icmp_ge (tgt := 80) hx hb dX0_lookAhead_57 (by decide) (fun cA => ?_) (fun cA => ?_)
      · skip
        refine lv_aload_n hx hb dX0_lookAhead_80 rfl (lv_at hl 0 rfl) ?_
        refine va_get (D := g.1) (ci := 0) (v := .ref od) (C := RX0) (T := TX0) (N := 3) hx hb hts izRX0 hown hK hP 0 rfl rfl 2 (by decide) (hts _ k25) (fun _ h9 => h9) rfl dX0_lookAhead_81 ?_
        refine mcallV (g := g) (q0 := 0) (ci := 7) (As := []) (rest := []) St hK hT hA hP hD hS hl.1 [3] [0, 1, 2] rfl rfl rfl (c_believed l g od ad tx ch jo tr dy3 sd h3 ) (cwV 0 hts (zgL (zl4 k163 k57 k58 k24) k48) rfl rfl rfl (by decide +kernel) ⟨Nat.le_of_ble_eq_true rfl, Nat.le_of_ble_eq_true rfl⟩) rfl rfl rfl rfl (Nat.le_of_ble_eq_true rfl) dX0_lookAhead_84 ⟨(Nat.le_of_ble_eq_true rfl), (Nat.le_of_ble_eq_true rfl)⟩ (fun _u H locs hq5 hP hD hS => ?_)
        have hP : va_P g.1 vwCl (List.flatten [[(fo, .inr (0, [.ref o, .ref lo, .ref od]))], bTown g o a 0 0 tx ch jo tr dy sd f, bLaw g lo ac ls0 ll m3 g3 d3 fc, bTown g od ad 0 0 tx ch jo tr dy3 sd h3]) H := hP
        have hD : va_D A (List.flatten [[(fo, .inr (0, [.ref o, .ref lo, .ref od]))], bTown g o a 0 0 tx ch jo tr dy sd f, bLaw g lo ac ls0 ll m3 g3 d3 fc, bTown g od ad 0 0 tx ch jo tr dy3 sd h3]) := hD
        refine W.widen (k := 0) (n := 0) (Nat.le_of_ble_eq_true rfl) (Nat.le_of_ble_eq_true rfl) ?_
        refine W.eq (g2 := F0 m 87 ls [.int 0]) rfl ?_
        have hP : va_P g.1 vwCl (List.flatten [[(fo, .inr (0, [.ref o, .ref lo, .ref od]))], bTown g o a 0 0 tx ch jo tr dy sd f, bLaw g lo ac ls0 ll m3 g3 d3 fc, bTown g od ad 0 0 tx ch jo tr dy3 sd h3]) H := hP
        have hD : va_D A (List.flatten [[(fo, .inr (0, [.ref o, .ref lo, .ref od]))], bTown g o a 0 0 tx ch jo tr dy sd f, bLaw g lo ac ls0 ll m3 g3 d3 fc, bTown g od ad 0 0 tx ch jo tr dy3 sd h3]) := hD
        exact mret_i hx hb hr hlocks hS (Nat.le_of_ble_eq_true rfl) (Nat.le_of_ble_eq_true rfl) dX0_lookAhead_87 (dy3, h3, m3, g3, d3) rfl trivial hP hD
      · skip
        have hlt := zjl hn (by omega) cA
        refine lv_aload_n hx hb dX0_lookAhead_60 rfl (lv_at hl 0 rfl) ?_
        refine va_get (D := g.1) (ci := 0) (v := .ref od) (C := RX0) (T := TX0) (N := 3) hx hb hts izRX0 hown hK hP 0 rfl rfl 2 (by decide) (hts _ k25) (fun _ h9 => h9) rfl dX0_lookAhead_61 ?_
        refine lv_aload_n hx hb dX0_lookAhead_64 rfl (lv_at hl 0 rfl) ?_
        refine va_get (D := g.1) (ci := 0) (v := .ref lo) (C := RX0) (T := TX0) (N := 3) hx hb hts izRX0 hown hK hP 0 rfl rfl 1 (by decide) (hts _ k27) (fun _ h9 => h9) rfl dX0_lookAhead_65 ?_
        refine lv_iconst (v := 0) hx hb dX0_lookAhead_68 (by decide) ?_
        refine lv_null hx hb dX0_lookAhead_69 ?_
        refine mcallV (g := g) (q0 := 0) (ci := 7) (As := [.ref lo, .int 0, .null]) (rest := []) St hK hT hA hP hD hS hl.1 [3, 2] [0, 1] rfl rfl rfl (c_passDayN l g od ad tx ch jo tr dy3 sd h3 lo ac ls0 ll m3 g3 d3 fc 0 ) (cwV 3 hts (zgL (zl4 k160 k161 k162 k24) k154) rfl rfl rfl (by decide +kernel) ⟨Nat.le_of_ble_eq_true rfl, Nat.le_of_ble_eq_true rfl⟩) rfl rfl rfl rfl (Nat.le_of_ble_eq_true rfl) dX0_lookAhead_70 ⟨(Nat.le_of_ble_eq_true rfl), (Nat.le_of_ble_eq_true rfl)⟩ (fun u_ H locs hq8 hP hD hS => ?_)
        obtain ⟨dy2_6, f2_7⟩ := u_
        have hq8 : f2_7 4 = h3 4 := hq8
        have hP : va_P g.1 vwCl (List.flatten [[(fo, .inr (0, [.ref o, .ref lo, .ref od]))], bTown g o a 0 0 tx ch jo tr dy sd f, bTown g od ad 0 0 tx ch jo tr dy2_6 sd f2_7, bLaw g lo ac ls0 ll 0 0 dy3 fc]) H := hP
        have hD : va_D A (List.flatten [[(fo, .inr (0, [.ref o, .ref lo, .ref od]))], bTown g o a 0 0 tx ch jo tr dy sd f, bTown g od ad 0 0 tx ch jo tr dy2_6 sd f2_7, bLaw g lo ac ls0 ll 0 0 dy3 fc]) := hD
        refine W.widen (k := 0) (n := 0) (Nat.le_of_ble_eq_true rfl) (Nat.le_of_ble_eq_true rfl) ?_
        refine W.eq (g2 := F0 m 73 ls [.int 0]) rfl ?_
        refine lv_pop hx hb dX0_lookAhead_73 rfl ?_
        refine lv_iinc (v := nI (j + 1)) (lv' := [(4, .int (nI (j + 1))), (0, .ref fo), (1, .int set), (2, .int byx), (3, .int n)]) hx hb dX0_lookAhead_74 hl (k := 4) rfl (nI_1 j) (by decide) rfl (fun ls hl => ?_)
        refine lv_goto (tgt := 54) hx hb dX0_lookAhead_77 (by decide) ?_
        have hP : va_P g.1 vwCl (List.flatten [[(fo, .inr (0, [.ref o, .ref lo, .ref od]))], bTown g o a 0 0 tx ch jo tr dy sd f, bTown g od ad 0 0 tx ch jo tr dy2_6 sd f2_7, bLaw g lo ac ls0 ll 0 0 dy3 fc]) H := hP
        have hD : va_D A (List.flatten [[(fo, .inr (0, [.ref o, .ref lo, .ref od]))], bTown g o a 0 0 tx ch jo tr dy sd f, bTown g od ad 0 0 tx ch jo tr dy2_6 sd f2_7, bLaw g lo ac ls0 ll 0 0 dy3 fc]) := hD
        obtain ⟨hP, hD⟩ := zord (g := g) (Bs' := [[(fo, .inr (0, [.ref o, .ref lo, .ref od]))], bTown g o a 0 0 tx ch jo tr dy sd f, bLaw g lo ac ls0 ll 0 0 dy3 fc, bTown g od ad 0 0 tx ch jo tr dy2_6 sd f2_7]) [0, 1, 3, 2] rfl rfl hP hD
        exact ih54 (j + 1) dy2_6 f2_7 0 0 dy3 H locs ls (by omega) (by omega) hP hD hS (lv_sub hl [1, 2, 3, 4, 0] rfl)
  exact LP54 (N + 1) 0 dy h_1 lm lg ld H _ ls (by omega) (by omega) hP hD hS (lv_sub hl [1, 2, 3, 4, 0] rfl)
set_option maxRecDepth 100000 in
set_option maxHeartbeats 4000000 in
theorem c_strongest (l : Launch) (g : zG) (fo : Nat) (o : Nat) (a : Nat → Nat) (tx : Int32) (ch : Int32) (jo : Int32) (tr : Int32) (dy : Int32) (sd : Int32) (f : Nat → Nat → Int32) (lo : Nat) (ac : Nat) (ls0 : Int32) (ll : Int32) (lm : Int32) (lg : Int32) (ld : Int32) (fc : Nat → Int32) (od : Nat) (ad : Nat → Nat) (ped : Int32) (wod : Int32) (txd : Int32) (chd : Int32) (jod : Int32) (trd : Int32) (dyd : Int32) (sdd : Int32) (fd : Nat → Nat → Int32) (n : Int32) (hz : zZ (f 4)) : zM g l yX0_strongest (Cond.code yX0_strongest cX0_strongest 6 (some .int) :: zB) ({ frames := 0, cells := 0, slots := 0, locals := 0 } : Room) [.ref fo, .int n] [[(fo, .inr (0, [.ref o, .ref lo, .ref od]))], bTown g o a 0 0 tx ch jo tr dy sd f, bLaw g lo ac ls0 ll lm lg ld fc, bTown g od ad ped wod txd chd jod trd dyd sdd fd] (fun _ : Unit => some (.int (-1))) (fun _ : Unit => True) (fun _ : Unit => [[(fo, .inr (0, [.ref o, .ref lo, .ref od]))], bTown g o a 0 0 tx ch jo tr dy sd f, bLaw g lo ac ls0 ll lm lg ld fc, bTown g od ad ped wod txd chd jod trd dyd sdd fd]) := by
  refine zM.of (cc := cX0_strongest) (maxL := 6) (rt := (some .int)) (by decide) rfl (Nat.le_of_ble_eq_true rfl) ?_
  intro p e s m args below meth c A ls St hr hlocks hin hK hT hA hP hD hS hl
  obtain ⟨hx, hb, hml, hown, hts⟩ := id St
  have hl : lv_has ls 6 [(0, .ref fo), (1, .int n)] := hl
  refine lv_iconst (v := (-1)) hx hb dX0_strongest_0 (by decide) ?_
  refine lv_istore_n (lv' := [(2, .int (-1)), (0, .ref fo), (1, .int n)]) hx hb dX0_strongest_1 rfl hl (by decide) rfl (fun ls hl => ?_)
  refine lv_iconst (v := 0) hx hb dX0_strongest_2 (by decide) ?_
  refine lv_istore_n (lv' := [(3, .int 0), (2, .int (-1)), (0, .ref fo), (1, .int n)]) hx hb dX0_strongest_3 rfl hl (by decide) rfl (fun ls hl => ?_)
  refine lv_iconst (v := 0) hx hb dX0_strongest_4 (by decide) ?_
  refine lv_istore (lv' := [(4, .int 0), (3, .int 0), (2, .int (-1)), (0, .ref fo), (1, .int n)]) hx hb dX0_strongest_5 hl (by decide) rfl (fun ls hl => ?_)
  refine lv_iload hx hb dX0_strongest_7 (lv_at hl 0 rfl) ?_
  refine lv_aload_n hx hb dX0_strongest_9 rfl (lv_at hl 3 rfl) ?_
  refine va_get (D := g.1) (ci := 0) (v := .ref o) (C := RX0) (T := TX0) (N := 3) hx hb hts izRX0 hown hK hP 0 rfl rfl 0 (by decide) (hts _ k26) (fun _ h9 => h9) rfl dX0_strongest_10 ?_
  refine va_get (D := g.1) (ci := 7) (v := .int 0) (C := RX9) (T := TX9) (N := 19) hx hb hts izRX9 hown hK hP 1 rfl rfl 0 (by decide) (hts _ k155) (fun _ h9 => h9) rfl dX0_strongest_13 ?_
  refine lv_icmp_ge (tgt := 67) hx hb dX0_strongest_16 (by decide) (fun _ => ?_) (fun c1 => absurd (by decide) c1)
  refine lv_iload_n hx hb dX0_strongest_67 rfl (lv_at hl 2 rfl) ?_
  have hP : va_P g.1 vwCl (List.flatten [[(fo, .inr (0, [.ref o, .ref lo, .ref od]))], bTown g o a 0 0 tx ch jo tr dy sd f, bLaw g lo ac ls0 ll lm lg ld fc, bTown g od ad ped wod txd chd jod trd dyd sdd fd]) s.heap := hP
  have hD : va_D A (List.flatten [[(fo, .inr (0, [.ref o, .ref lo, .ref od]))], bTown g o a 0 0 tx ch jo tr dy sd f, bLaw g lo ac ls0 ll lm lg ld fc, bTown g od ad ped wod txd chd jod trd dyd sdd fd]) := hD
  exact mret_i hx hb hr hlocks hS (Nat.le_of_ble_eq_true rfl) (Nat.le_of_ble_eq_true rfl) dX0_strongest_68 () rfl trivial hP hD
set_option maxRecDepth 100000 in
set_option maxHeartbeats 4000000 in
theorem c_fewestTold (l : Launch) (g : zG) (fo : Nat) (o : Nat) (a : Nat → Nat) (tx : Int32) (ch : Int32) (jo : Int32) (tr : Int32) (dy : Int32) (sd : Int32) (f : Nat → Nat → Int32) (lo : Nat) (ac : Nat) (ls0 : Int32) (ll : Int32) (lm : Int32) (lg : Int32) (ld : Int32) (fc : Nat → Int32) (od : Nat) (ad : Nat → Nat) (ped : Int32) (wod : Int32) (txd : Int32) (chd : Int32) (jod : Int32) (trd : Int32) (dyd : Int32) (sdd : Int32) (fd : Nat → Nat → Int32) (xx : Int32) (n : Int32) (hz : zZ (f 4)) (hn0 : ∃ N : Nat, N ≤ 100 ∧ n = nI N) (hx0 : (0 : Int32) < xx) : zM g l yX0_fewestTold (Cond.code yX0_fewestTold cX0_fewestTold 6 (some .int) :: zB) ({ frames := 5, cells := 0, slots := 0, locals := 112 } : Room) [.ref fo, .int xx, .int n] [[(fo, .inr (0, [.ref o, .ref lo, .ref od]))], bTown g o a 0 0 tx ch jo tr dy sd f, bLaw g lo ac ls0 ll lm lg ld fc, bTown g od ad ped wod txd chd jod trd dyd sdd fd] (fun _ : Unit => some (.int (-1))) (fun _ : Unit => True) (fun _ : Unit => []) := by
  refine zM.of (cc := cX0_fewestTold) (maxL := 6) (rt := (some .int)) (by decide) rfl (Nat.le_of_ble_eq_true rfl) ?_
  intro p e s m args below meth c A ls St hr hlocks hin hK hT hA hP hD hS hl
  obtain ⟨hx, hb, hml, hown, hts⟩ := id St
  have hl : lv_has ls 6 [(0, .ref fo), (1, .int xx), (2, .int n)] := hl
  refine lv_aload_n hx hb dX0_fewestTold_0 rfl (lv_at hl 0 rfl) ?_
  refine va_get (D := g.1) (ci := 0) (v := .ref o) (C := RX0) (T := TX0) (N := 3) hx hb hts izRX0 hown hK hP 0 rfl rfl 0 (by decide) (hts _ k26) (fun _ h9 => h9) rfl dX0_fewestTold_1 ?_
  refine mcallV (g := g) (q0 := 0) (ci := 7) (As := []) (rest := []) St hK hT hA hP hD hS hl.1 [1] [0, 2, 3] rfl rfl rfl (c_peopleHere l g o a tx ch jo tr dy sd f ) (cwV 0 hts (zgL (zl4 k171 k51 k52 k24) k39) rfl rfl rfl (by decide +kernel) ⟨Nat.le_of_ble_eq_true rfl, Nat.le_of_ble_eq_true rfl⟩) rfl rfl rfl rfl (Nat.le_of_ble_eq_true rfl) dX0_fewestTold_4 ⟨(Nat.le_of_ble_eq_true rfl), (Nat.le_of_ble_eq_true rfl)⟩ (fun _u H locs hq1 hP hD hS => ?_)
  have hP : va_P g.1 vwCl (List.flatten [[(fo, .inr (0, [.ref o, .ref lo, .ref od]))], bLaw g lo ac ls0 ll lm lg ld fc, bTown g od ad ped wod txd chd jod trd dyd sdd fd, bTown g o a 0 0 tx ch jo tr dy sd f]) H := hP
  have hD : va_D A (List.flatten [[(fo, .inr (0, [.ref o, .ref lo, .ref od]))], bLaw g lo ac ls0 ll lm lg ld fc, bTown g od ad ped wod txd chd jod trd dyd sdd fd, bTown g o a 0 0 tx ch jo tr dy sd f]) := hD
  refine W.widen (k := 0) (n := 0) (Nat.le_of_ble_eq_true rfl) (Nat.le_of_ble_eq_true rfl) ?_
  refine W.eq (g2 := F0 m 7 ls [.int 0]) rfl ?_
  refine lv_istore_n (lv' := [(3, .int 0), (0, .ref fo), (1, .int xx), (2, .int n)]) hx hb dX0_fewestTold_7 rfl hl (by decide) rfl (fun ls hl => ?_)
  refine lv_iconst (v := 0) hx hb dX0_fewestTold_8 (by decide) ?_
  refine lv_istore (lv' := [(4, .int 0), (3, .int 0), (0, .ref fo), (1, .int xx), (2, .int n)]) hx hb dX0_fewestTold_9 hl (by decide) rfl (fun ls hl => ?_)
  refine lv_iload hx hb dX0_fewestTold_11 (lv_at hl 0 rfl) ?_
  refine lv_aload_n hx hb dX0_fewestTold_13 rfl (lv_at hl 2 rfl) ?_
  refine va_get (D := g.1) (ci := 0) (v := .ref o) (C := RX0) (T := TX0) (N := 3) hx hb hts izRX0 hown hK hP 0 rfl rfl 0 (by decide) (hts _ k26) (fun _ h9 => h9) rfl dX0_fewestTold_14 ?_
  refine va_get (D := g.1) (ci := 7) (v := .int 0) (C := RX9) (T := TX9) (N := 19) hx hb hts izRX9 hown hK hP 15 rfl rfl 0 (by decide) (hts _ k155) (fun _ h9 => h9) rfl dX0_fewestTold_17 ?_
  refine lv_icmp_gt (tgt := 87) hx hb dX0_fewestTold_20 (by decide) (fun c2 => absurd c2 (by decide)) (fun _ => ?_)
  refine lv_iconst (v := 0) hx hb dX0_fewestTold_23 (by decide) ?_
  refine lv_istore (lv' := [(5, .int 0), (4, .int 0), (3, .int 0), (0, .ref fo), (1, .int xx), (2, .int n)]) hx hb dX0_fewestTold_24 hl (by decide) rfl (fun ls hl => ?_)
  refine lv_iload hx hb dX0_fewestTold_26 (lv_at hl 0 rfl) ?_
  refine lv_iconst (v := 1) hx hb dX0_fewestTold_28 (by decide) ?_
  refine lv_aload_n hx hb dX0_fewestTold_29 rfl (lv_at hl 3 rfl) ?_
  refine va_get (D := g.1) (ci := 0) (v := .ref o) (C := RX0) (T := TX0) (N := 3) hx hb hts izRX0 hown hK hP 0 rfl rfl 0 (by decide) (hts _ k26) (fun _ h9 => h9) rfl dX0_fewestTold_30 ?_
  refine va_get (D := g.1) (ci := 7) (v := .int 0) (C := RX9) (T := TX9) (N := 19) hx hb hts izRX9 hown hK hP 15 rfl rfl 0 (by decide) (hts _ k155) (fun _ h9 => h9) rfl dX0_fewestTold_33 ?_
  refine lv_ishl hx hb dX0_fewestTold_36 ?_
  refine ztop (r := 1) (by decide) ?_
  refine lv_icmp_ge (tgt := 81) hx hb dX0_fewestTold_37 (by decide) (fun c3 => absurd c3 (by decide)) (fun _ => ?_)
  refine lv_iload hx hb dX0_fewestTold_40 (lv_at hl 0 rfl) ?_
  refine mcallS (g := g) (As := [.int 0]) (rest := []) St hK hT hA hP hD hS hl.1 [] [0, 1, 2, 3] rfl rfl rfl (c_bitCount0 l g  ) (va_cwS 1 hts (zgL (zl3 k172 k54 k55) k44) rfl rfl rfl (by decide +kernel) ⟨Nat.le_of_ble_eq_true rfl, Nat.le_of_ble_eq_true rfl⟩) rfl rfl (Nat.le_of_ble_eq_true rfl) dX0_fewestTold_42 ⟨(Nat.le_of_ble_eq_true rfl), (Nat.le_of_ble_eq_true rfl)⟩ (fun _u H locs hq4 hP hD hS => ?_)
  have hP : va_P g.1 vwCl (List.flatten [[(fo, .inr (0, [.ref o, .ref lo, .ref od]))], bLaw g lo ac ls0 ll lm lg ld fc, bTown g od ad ped wod txd chd jod trd dyd sdd fd, bTown g o a 0 0 tx ch jo tr dy sd f]) H := hP
  have hD : va_D A (List.flatten [[(fo, .inr (0, [.ref o, .ref lo, .ref od]))], bLaw g lo ac ls0 ll lm lg ld fc, bTown g od ad ped wod txd chd jod trd dyd sdd fd, bTown g o a 0 0 tx ch jo tr dy sd f]) := hD
  refine W.widen (k := 0) (n := 0) (Nat.le_of_ble_eq_true rfl) (Nat.le_of_ble_eq_true rfl) ?_
  refine W.eq (g2 := F0 m 45 ls [.int 0]) rfl ?_
  refine lv_iload hx hb dX0_fewestTold_45 (lv_at hl 1 rfl) ?_
  refine lv_icmp_ne (tgt := 75) hx hb dX0_fewestTold_47 (by decide) (fun c5 => absurd (by decide) c5) (fun _ => ?_)
  refine lv_iload hx hb dX0_fewestTold_50 (lv_at hl 0 rfl) ?_
  refine lv_iload_n hx hb dX0_fewestTold_52 rfl (lv_at hl 2 rfl) ?_
  refine lv_iconst (v := (-1)) hx hb dX0_fewestTold_53 (by decide) ?_
  refine lv_ixor hx hb dX0_fewestTold_54 ?_
  refine ztop (r := (-1)) (by decide) ?_
  refine lv_iand hx hb dX0_fewestTold_55 ?_
  refine ztop (r := 0) (by decide) ?_
  refine lv_if_ne (tgt := 75) hx hb dX0_fewestTold_56 (by decide) (fun c6 => absurd (by decide) c6) (fun _ => ?_)
  refine lv_aload_n hx hb dX0_fewestTold_59 rfl (lv_at hl 3 rfl) ?_
  refine lv_iload hx hb dX0_fewestTold_60 (lv_at hl 0 rfl) ?_
  refine lv_bipush (v := 20) hx hb dX0_fewestTold_62 (by decide) ?_
  refine lv_iload_n hx hb dX0_fewestTold_64 rfl (lv_at hl 5 rfl) ?_
  refine mcallV (g := g) (q0 := 0) (ci := 0) (As := [.int 0, .int 20, .int n]) (rest := []) St hK hT hA hP hD hS hl.1 [0, 3, 1, 2] [] rfl rfl rfl (c_lookAhead l g fo o a tx ch jo tr dy sd f lo ac ls0 ll lm lg ld fc od ad ped wod txd chd jod trd dyd sdd fd 0 20 n (by assumption) (by assumption)) (cwV 3 hts (zgL (zl4 k166 k167 k168 k169) k164) rfl rfl rfl (by decide +kernel) ⟨Nat.le_of_ble_eq_true rfl, Nat.le_of_ble_eq_true rfl⟩) rfl rfl rfl rfl (Nat.le_of_ble_eq_true rfl) dX0_fewestTold_65 ⟨(Nat.le_of_ble_eq_true rfl), (Nat.le_of_ble_eq_true rfl)⟩ (fun u_ H locs hq12 hP hD hS => ?_)
  obtain ⟨dy3_7, h3_8, m3_9, g3_10, d3_11⟩ := u_
  have hP : va_P g.1 vwCl (List.flatten [[(fo, .inr (0, [.ref o, .ref lo, .ref od]))], bTown g o a 0 0 tx ch jo tr dy sd f, bLaw g lo ac ls0 ll m3_9 g3_10 d3_11 fc, bTown g od ad 0 0 tx ch jo tr dy3_7 sd h3_8]) H := hP
  have hD : va_D A (List.flatten [[(fo, .inr (0, [.ref o, .ref lo, .ref od]))], bTown g o a 0 0 tx ch jo tr dy sd f, bLaw g lo ac ls0 ll m3_9 g3_10 d3_11 fc, bTown g od ad 0 0 tx ch jo tr dy3_7 sd h3_8]) := hD
  refine W.widen (k := 0) (n := 0) (Nat.le_of_ble_eq_true rfl) (Nat.le_of_ble_eq_true rfl) ?_
  refine W.eq (g2 := F0 m 68 ls [.int 0]) rfl ?_
  refine lv_iload_n hx hb dX0_fewestTold_68 rfl (lv_at hl 4 rfl) ?_
  refine lv_icmp_lt (tgt := 75) hx hb dX0_fewestTold_69 (by decide) (fun _ => ?_) (fun c13 => absurd hx0 c13)
  refine lv_iinc (v := 1) (lv' := [(5, .int 1), (4, .int 0), (3, .int 0), (0, .ref fo), (1, .int xx), (2, .int n)]) hx hb dX0_fewestTold_75 hl (k := 0) rfl (by decide) (by decide) rfl (fun ls hl => ?_)
  refine lv_goto (tgt := 26) hx hb dX0_fewestTold_78 (by decide) ?_
  refine lv_iload hx hb dX0_fewestTold_26 (lv_at hl 0 rfl) ?_
  refine lv_iconst (v := 1) hx hb dX0_fewestTold_28 (by decide) ?_
  refine lv_aload_n hx hb dX0_fewestTold_29 rfl (lv_at hl 3 rfl) ?_
  refine va_get (D := g.1) (ci := 0) (v := .ref o) (C := RX0) (T := TX0) (N := 3) hx hb hts izRX0 hown hK hP 0 rfl rfl 0 (by decide) (hts _ k26) (fun _ h9 => h9) rfl dX0_fewestTold_30 ?_
  refine va_get (D := g.1) (ci := 7) (v := .int 0) (C := RX9) (T := TX9) (N := 19) hx hb hts izRX9 hown hK hP 1 rfl rfl 0 (by decide) (hts _ k155) (fun _ h9 => h9) rfl dX0_fewestTold_33 ?_
  refine lv_ishl hx hb dX0_fewestTold_36 ?_
  refine ztop (r := 1) (by decide) ?_
  refine lv_icmp_ge (tgt := 81) hx hb dX0_fewestTold_37 (by decide) (fun _ => ?_) (fun c14 => absurd (by decide) c14)
  refine lv_iinc (v := 1) (lv' := [(4, .int 1), (5, .int 1), (3, .int 0), (0, .ref fo), (1, .int xx), (2, .int n)]) hx hb dX0_fewestTold_81 hl (k := 1) rfl (by decide) (by decide) rfl (fun ls hl => ?_)
  refine lv_goto (tgt := 11) hx hb dX0_fewestTold_84 (by decide) ?_
  refine lv_iload hx hb dX0_fewestTold_11 (lv_at hl 0 rfl) ?_
  refine lv_aload_n hx hb dX0_fewestTold_13 rfl (lv_at hl 3 rfl) ?_
  refine va_get (D := g.1) (ci := 0) (v := .ref o) (C := RX0) (T := TX0) (N := 3) hx hb hts izRX0 hown hK hP 0 rfl rfl 0 (by decide) (hts _ k26) (fun _ h9 => h9) rfl dX0_fewestTold_14 ?_
  refine va_get (D := g.1) (ci := 7) (v := .int 0) (C := RX9) (T := TX9) (N := 19) hx hb hts izRX9 hown hK hP 1 rfl rfl 0 (by decide) (hts _ k155) (fun _ h9 => h9) rfl dX0_fewestTold_17 ?_
  refine lv_icmp_gt (tgt := 87) hx hb dX0_fewestTold_20 (by decide) (fun _ => ?_) (fun c15 => absurd (by decide) c15)
  refine lv_iconst (v := (-1)) hx hb dX0_fewestTold_87 (by decide) ?_
  have hP : va_P g.1 vwCl (List.flatten [[(fo, .inr (0, [.ref o, .ref lo, .ref od]))], bTown g o a 0 0 tx ch jo tr dy sd f, bLaw g lo ac ls0 ll m3_9 g3_10 d3_11 fc, bTown g od ad 0 0 tx ch jo tr dy3_7 sd h3_8]) H := hP
  have hD : va_D A (List.flatten [[(fo, .inr (0, [.ref o, .ref lo, .ref od]))], bTown g o a 0 0 tx ch jo tr dy sd f, bLaw g lo ac ls0 ll m3_9 g3_10 d3_11 fc, bTown g od ad 0 0 tx ch jo tr dy3_7 sd h3_8]) := hD
  obtain ⟨hP, hD⟩ := zord (g := g) (Bs' := []) [] rfl rfl hP hD
  exact mret_i hx hb hr hlocks hS (Nat.le_of_ble_eq_true rfl) (Nat.le_of_ble_eq_true rfl) dX0_fewestTold_88 () rfl trivial hP hD
set_option maxRecDepth 100000 in
set_option maxHeartbeats 4000000 in
theorem c_firstBelieved (l : Launch) (g : zG) (fo : Nat) (o : Nat) (a : Nat → Nat) (tx : Int32) (ch : Int32) (jo : Int32) (tr : Int32) (dy : Int32) (sd : Int32) (f : Nat → Nat → Int32) (lo : Nat) (ac : Nat) (ls0 : Int32) (ll : Int32) (lm : Int32) (lg : Int32) (ld : Int32) (fc : Nat → Int32) (od : Nat) (ad : Nat → Nat) (ped : Int32) (wod : Int32) (txd : Int32) (chd : Int32) (jod : Int32) (trd : Int32) (dyd : Int32) (sdd : Int32) (fd : Nat → Nat → Int32) (xx : Int32) (hz : zZ (f 4)) (hx0 : (0 : Int32) < xx) : zM g l yX0_firstBelieved (Cond.code yX0_firstBelieved cX0_firstBelieved 3 (some .int) :: zB) ({ frames := 4, cells := 0, slots := 0, locals := 88 } : Room) [.ref fo, .int xx] [[(fo, .inr (0, [.ref o, .ref lo, .ref od]))], bTown g o a 0 0 tx ch jo tr dy sd f, bLaw g lo ac ls0 ll lm lg ld fc, bTown g od ad ped wod txd chd jod trd dyd sdd fd] (fun _ : Unit => some (.int (-1))) (fun _ : Unit => True) (fun _ : Unit => []) := by
  refine zM.of (cc := cX0_firstBelieved) (maxL := 3) (rt := (some .int)) (by decide) rfl (Nat.le_of_ble_eq_true rfl) ?_
  intro p e s m args below meth c A ls St hr hlocks hin hK hT hA hP hD hS hl
  obtain ⟨hx, hb, hml, hown, hts⟩ := id St
  have hl : lv_has ls 3 [(0, .ref fo), (1, .int xx)] := hl
  refine lv_aload_n hx hb dX0_firstBelieved_0 rfl (lv_at hl 0 rfl) ?_
  refine va_get (D := g.1) (ci := 0) (v := .ref od) (C := RX0) (T := TX0) (N := 3) hx hb hts izRX0 hown hK hP 0 rfl rfl 2 (by decide) (hts _ k25) (fun _ h9 => h9) rfl dX0_firstBelieved_1 ?_
  refine lv_aload_n hx hb dX0_firstBelieved_4 rfl (lv_at hl 0 rfl) ?_
  refine va_get (D := g.1) (ci := 0) (v := .ref o) (C := RX0) (T := TX0) (N := 3) hx hb hts izRX0 hown hK hP 0 rfl rfl 0 (by decide) (hts _ k26) (fun _ h9 => h9) rfl dX0_firstBelieved_5 ?_
  refine mcallV (g := g) (q0 := 0) (ci := 7) (As := [.ref o]) (rest := []) St hK hT hA hP hD hS hl.1 [3, 1] [0, 2] rfl rfl rfl (c_Town_copyFrom l g od ad ped wod txd chd jod trd dyd sdd fd o a 0 0 tx ch jo tr dy sd f (by assumption)) (cwV 1 hts (zgL (zl4 k156 k157 k158 k24) k30) rfl rfl rfl (by decide +kernel) ⟨Nat.le_of_ble_eq_true rfl, Nat.le_of_ble_eq_true rfl⟩) rfl rfl rfl rfl (Nat.le_of_ble_eq_true rfl) dX0_firstBelieved_8 ⟨(Nat.le_of_ble_eq_true rfl), (Nat.le_of_ble_eq_true rfl)⟩ (fun h_1 H locs hq2 hP hD hS => ?_)
  have hq2 : zZ (h_1 4) := hq2
  have hP : va_P g.1 vwCl (List.flatten [[(fo, .inr (0, [.ref o, .ref lo, .ref od]))], bLaw g lo ac ls0 ll lm lg ld fc, bTown g od ad 0 0 tx ch jo tr dy sd h_1, bTown g o a 0 0 tx ch jo tr dy sd f]) H := hP
  have hD : va_D A (List.flatten [[(fo, .inr (0, [.ref o, .ref lo, .ref od]))], bLaw g lo ac ls0 ll lm lg ld fc, bTown g od ad 0 0 tx ch jo tr dy sd h_1, bTown g o a 0 0 tx ch jo tr dy sd f]) := hD
  refine W.widen (k := 0) (n := 0) (Nat.le_of_ble_eq_true rfl) (Nat.le_of_ble_eq_true rfl) ?_
  refine W.eq (g2 := F0 m 11 ls []) rfl ?_
  refine lv_iconst (v := 0) hx hb dX0_firstBelieved_11 (by decide) ?_
  refine lv_istore_n (lv' := [(2, .int 0), (0, .ref fo), (1, .int xx)]) hx hb dX0_firstBelieved_12 rfl hl (by decide) rfl (fun ls hl => ?_)
  have hP : va_P g.1 vwCl (List.flatten [[(fo, .inr (0, [.ref o, .ref lo, .ref od]))], bLaw g lo ac ls0 ll lm lg ld fc, bTown g od ad 0 0 tx ch jo tr dy sd h_1, bTown g o a 0 0 tx ch jo tr dy sd f]) H := hP
  have hD : va_D A (List.flatten [[(fo, .inr (0, [.ref o, .ref lo, .ref od]))], bLaw g lo ac ls0 ll lm lg ld fc, bTown g od ad 0 0 tx ch jo tr dy sd h_1, bTown g o a 0 0 tx ch jo tr dy sd f]) := hD
  obtain ⟨hP, hD⟩ := zord (g := g) (Bs' := [[(fo, .inr (0, [.ref o, .ref lo, .ref od]))], bTown g o a 0 0 tx ch jo tr dy sd f, bLaw g lo ac ls0 ll lm lg ld fc, bTown g od ad 0 0 tx ch jo tr dy sd h_1]) [0, 3, 1, 2] rfl rfl hP hD
  have LP13 : ∀ (k : Nat) (j : Nat) (dy3 : Int32) (h3 : Nat → Nat → Int32) (m3 : Int32) (g3 : Int32) (d3 : Int32) (H : Heap) (locs : List Loc) (ls : Array Slot),(j ≤ 101) → (101 - j) < k → va_P g.1 vwCl (List.flatten [[(fo, .inr (0, [.ref o, .ref lo, .ref od]))], bTown g o a 0 0 tx ch jo tr dy sd f, bLaw g lo ac ls0 ll m3 g3 d3 fc, bTown g od ad 0 0 tx ch jo tr dy3 sd h3]) H → va_D A (List.flatten [[(fo, .inr (0, [.ref o, .ref lo, .ref od]))], bTown g o a 0 0 tx ch jo tr dy sd f, bLaw g lo ac ls0 ll m3 g3 d3 fc, bTown g od ad 0 0 tx ch jo tr dy3 sd h3]) → va_S A s.heap H locs → lv_has ls 3 [(0, .ref fo), (1, .int xx), (2, .int (nI j))] → W p l e ({ frames := 4, cells := 0, slots := 0, locals := 88 } : Room) s m args below meth c H locs (0) (0) (zF g (fun _ : Unit => some (.int (-1))) (fun _ : Unit => True) (fun _ : Unit => []) ({ frames := 4, cells := 0, slots := 0, locals := 88 } : Room) below args s A) (F0 m 13 ls []) := by
    intro k
    induction k with
    | zero => intro j dy3 h3 m3 g3 d3 H locs ls hj hk; exact absurd hk (Nat.not_lt_zero _)
    | succ k ih13 =>
      intro j dy3 h3 m3 g3 d3 H locs ls hj hk hP hD hS hl
      refine lv_iload_n hx hb dX0_firstBelieved_13 rfl (lv_at hl 2 rfl) ?_
      refine lv_bipush (v := 100) hx hb dX0_firstBelieved_14 (by decide) ?_
      refine lv_icmp_gt (tgt := 52) hx hb dX0_firstBelieved_16 (by decide) (fun cA => ?_) (fun cA => ?_)
      · skip
        refine lv_iconst (v := (-1)) hx hb dX0_firstBelieved_52 (by decide) ?_
        have hP : va_P g.1 vwCl (List.flatten [[(fo, .inr (0, [.ref o, .ref lo, .ref od]))], bTown g o a 0 0 tx ch jo tr dy sd f, bLaw g lo ac ls0 ll m3 g3 d3 fc, bTown g od ad 0 0 tx ch jo tr dy3 sd h3]) H := hP
        have hD : va_D A (List.flatten [[(fo, .inr (0, [.ref o, .ref lo, .ref od]))], bTown g o a 0 0 tx ch jo tr dy sd f, bLaw g lo ac ls0 ll m3 g3 d3 fc, bTown g od ad 0 0 tx ch jo tr dy3 sd h3]) := hD
        obtain ⟨hP, hD⟩ := zord (g := g) (Bs' := []) [] rfl rfl hP hD
        exact mret_i hx hb hr hlocks hS (Nat.le_of_ble_eq_true rfl) (Nat.le_of_ble_eq_true rfl) dX0_firstBelieved_53 () rfl trivial hP hD
      · skip
        have hlt : j ≤ 100 := by rcases Nat.lt_or_ge 100 j with q | q; exact absurd (nI_lt q (by omega)) cA; exact q
        refine lv_aload_n hx hb dX0_firstBelieved_19 rfl (lv_at hl 0 rfl) ?_
        refine va_get (D := g.1) (ci := 0) (v := .ref od) (C := RX0) (T := TX0) (N := 3) hx hb hts izRX0 hown hK hP 0 rfl rfl 2 (by decide) (hts _ k25) (fun _ h9 => h9) rfl dX0_firstBelieved_20 ?_
        refine mcallV (g := g) (q0 := 0) (ci := 7) (As := []) (rest := []) St hK hT hA hP hD hS hl.1 [3] [0, 1, 2] rfl rfl rfl (c_believed l g od ad tx ch jo tr dy3 sd h3 ) (cwV 0 hts (zgL (zl4 k163 k57 k58 k24) k48) rfl rfl rfl (by decide +kernel) ⟨Nat.le_of_ble_eq_true rfl, Nat.le_of_ble_eq_true rfl⟩) rfl rfl rfl rfl (Nat.le_of_ble_eq_true rfl) dX0_firstBelieved_23 ⟨(Nat.le_of_ble_eq_true rfl), (Nat.le_of_ble_eq_true rfl)⟩ (fun _u H locs hq4 hP hD hS => ?_)
        have hP : va_P g.1 vwCl (List.flatten [[(fo, .inr (0, [.ref o, .ref lo, .ref od]))], bTown g o a 0 0 tx ch jo tr dy sd f, bLaw g lo ac ls0 ll m3 g3 d3 fc, bTown g od ad 0 0 tx ch jo tr dy3 sd h3]) H := hP
        have hD : va_D A (List.flatten [[(fo, .inr (0, [.ref o, .ref lo, .ref od]))], bTown g o a 0 0 tx ch jo tr dy sd f, bLaw g lo ac ls0 ll m3 g3 d3 fc, bTown g od ad 0 0 tx ch jo tr dy3 sd h3]) := hD
        refine W.widen (k := 0) (n := 0) (Nat.le_of_ble_eq_true rfl) (Nat.le_of_ble_eq_true rfl) ?_
        refine W.eq (g2 := F0 m 26 ls [.int 0]) rfl ?_
        refine lv_iload_n hx hb dX0_firstBelieved_26 rfl (lv_at hl 1 rfl) ?_
        refine lv_icmp_lt (tgt := 32) hx hb dX0_firstBelieved_27 (by decide) (fun _ => ?_) (fun c5 => absurd hx0 c5)
        refine lv_aload_n hx hb dX0_firstBelieved_32 rfl (lv_at hl 0 rfl) ?_
        refine va_get (D := g.1) (ci := 0) (v := .ref od) (C := RX0) (T := TX0) (N := 3) hx hb hts izRX0 hown hK hP 0 rfl rfl 2 (by decide) (hts _ k25) (fun _ h9 => h9) rfl dX0_firstBelieved_33 ?_
        refine lv_aload_n hx hb dX0_firstBelieved_36 rfl (lv_at hl 0 rfl) ?_
        refine va_get (D := g.1) (ci := 0) (v := .ref lo) (C := RX0) (T := TX0) (N := 3) hx hb hts izRX0 hown hK hP 0 rfl rfl 1 (by decide) (hts _ k27) (fun _ h9 => h9) rfl dX0_firstBelieved_37 ?_
        refine lv_iconst (v := 0) hx hb dX0_firstBelieved_40 (by decide) ?_
        refine lv_null hx hb dX0_firstBelieved_41 ?_
        refine mcallV (g := g) (q0 := 0) (ci := 7) (As := [.ref lo, .int 0, .null]) (rest := []) St hK hT hA hP hD hS hl.1 [3, 2] [0, 1] rfl rfl rfl (c_passDayN l g od ad tx ch jo tr dy3 sd h3 lo ac ls0 ll m3 g3 d3 fc 0 ) (cwV 3 hts (zgL (zl4 k160 k161 k162 k24) k154) rfl rfl rfl (by decide +kernel) ⟨Nat.le_of_ble_eq_true rfl, Nat.le_of_ble_eq_true rfl⟩) rfl rfl rfl rfl (Nat.le_of_ble_eq_true rfl) dX0_firstBelieved_42 ⟨(Nat.le_of_ble_eq_true rfl), (Nat.le_of_ble_eq_true rfl)⟩ (fun u_ H locs hq8 hP hD hS => ?_)
        obtain ⟨dy2_6, f2_7⟩ := u_
        have hq8 : f2_7 4 = h3 4 := hq8
        have hP : va_P g.1 vwCl (List.flatten [[(fo, .inr (0, [.ref o, .ref lo, .ref od]))], bTown g o a 0 0 tx ch jo tr dy sd f, bTown g od ad 0 0 tx ch jo tr dy2_6 sd f2_7, bLaw g lo ac ls0 ll 0 0 dy3 fc]) H := hP
        have hD : va_D A (List.flatten [[(fo, .inr (0, [.ref o, .ref lo, .ref od]))], bTown g o a 0 0 tx ch jo tr dy sd f, bTown g od ad 0 0 tx ch jo tr dy2_6 sd f2_7, bLaw g lo ac ls0 ll 0 0 dy3 fc]) := hD
        refine W.widen (k := 0) (n := 0) (Nat.le_of_ble_eq_true rfl) (Nat.le_of_ble_eq_true rfl) ?_
        refine W.eq (g2 := F0 m 45 ls [.int 0]) rfl ?_
        refine lv_pop hx hb dX0_firstBelieved_45 rfl ?_
        refine lv_iinc (v := nI (j + 1)) (lv' := [(2, .int (nI (j + 1))), (0, .ref fo), (1, .int xx)]) hx hb dX0_firstBelieved_46 hl (k := 2) rfl (nI_1 j) (by decide) rfl (fun ls hl => ?_)
        refine lv_goto (tgt := 13) hx hb dX0_firstBelieved_49 (by decide) ?_
        have hP : va_P g.1 vwCl (List.flatten [[(fo, .inr (0, [.ref o, .ref lo, .ref od]))], bTown g o a 0 0 tx ch jo tr dy sd f, bTown g od ad 0 0 tx ch jo tr dy2_6 sd f2_7, bLaw g lo ac ls0 ll 0 0 dy3 fc]) H := hP
        have hD : va_D A (List.flatten [[(fo, .inr (0, [.ref o, .ref lo, .ref od]))], bTown g o a 0 0 tx ch jo tr dy sd f, bTown g od ad 0 0 tx ch jo tr dy2_6 sd f2_7, bLaw g lo ac ls0 ll 0 0 dy3 fc]) := hD
        obtain ⟨hP, hD⟩ := zord (g := g) (Bs' := [[(fo, .inr (0, [.ref o, .ref lo, .ref od]))], bTown g o a 0 0 tx ch jo tr dy sd f, bLaw g lo ac ls0 ll 0 0 dy3 fc, bTown g od ad 0 0 tx ch jo tr dy2_6 sd f2_7]) [0, 1, 3, 2] rfl rfl hP hD
        exact ih13 (j + 1) dy2_6 f2_7 0 0 dy3 H locs ls (by omega) (by omega) hP hD hS (lv_sub hl [1, 2, 0] rfl)
  exact LP13 (102) 0 dy h_1 lm lg ld H _ ls (by omega) (by omega) hP hD hS (lv_sub hl [1, 2, 0] rfl)
set_option maxRecDepth 100000 in
set_option maxHeartbeats 4000000 in
theorem c_firstRuin (l : Launch) (g : zG) (fo : Nat) (o : Nat) (a : Nat → Nat) (tx : Int32) (ch : Int32) (jo : Int32) (tr : Int32) (dy : Int32) (sd : Int32) (f : Nat → Nat → Int32) (lo : Nat) (ac : Nat) (ls0 : Int32) (ll : Int32) (lm : Int32) (lg : Int32) (ld : Int32) (fc : Nat → Int32) (od : Nat) (ad : Nat → Nat) (ped : Int32) (wod : Int32) (txd : Int32) (chd : Int32) (jod : Int32) (trd : Int32) (dyd : Int32) (sdd : Int32) (fd : Nat → Nat → Int32) (hz : zZ (f 4)) : zM g l yX0_firstRuin (Cond.code yX0_firstRuin cX0_firstRuin 2 (some .int) :: zB) ({ frames := 4, cells := 0, slots := 0, locals := 88 } : Room) [.ref fo] [[(fo, .inr (0, [.ref o, .ref lo, .ref od]))], bTown g o a 0 0 tx ch jo tr dy sd f, bLaw g lo ac ls0 ll lm lg ld fc, bTown g od ad ped wod txd chd jod trd dyd sdd fd] (fun _ : Unit => some (.int (-1))) (fun _ : Unit => True) (fun _ : Unit => []) := by
  refine zM.of (cc := cX0_firstRuin) (maxL := 2) (rt := (some .int)) (by decide) rfl (Nat.le_of_ble_eq_true rfl) ?_
  intro p e s m args below meth c A ls St hr hlocks hin hK hT hA hP hD hS hl
  obtain ⟨hx, hb, hml, hown, hts⟩ := id St
  have hl : lv_has ls 2 [(0, .ref fo)] := hl
  refine lv_aload_n hx hb dX0_firstRuin_0 rfl (lv_at hl 0 rfl) ?_
  refine va_get (D := g.1) (ci := 0) (v := .ref od) (C := RX0) (T := TX0) (N := 3) hx hb hts izRX0 hown hK hP 0 rfl rfl 2 (by decide) (hts _ k25) (fun _ h9 => h9) rfl dX0_firstRuin_1 ?_
  refine lv_aload_n hx hb dX0_firstRuin_4 rfl (lv_at hl 0 rfl) ?_
  refine va_get (D := g.1) (ci := 0) (v := .ref o) (C := RX0) (T := TX0) (N := 3) hx hb hts izRX0 hown hK hP 0 rfl rfl 0 (by decide) (hts _ k26) (fun _ h9 => h9) rfl dX0_firstRuin_5 ?_
  refine mcallV (g := g) (q0 := 0) (ci := 7) (As := [.ref o]) (rest := []) St hK hT hA hP hD hS hl.1 [3, 1] [0, 2] rfl rfl rfl (c_Town_copyFrom l g od ad ped wod txd chd jod trd dyd sdd fd o a 0 0 tx ch jo tr dy sd f (by assumption)) (cwV 1 hts (zgL (zl4 k156 k157 k158 k24) k30) rfl rfl rfl (by decide +kernel) ⟨Nat.le_of_ble_eq_true rfl, Nat.le_of_ble_eq_true rfl⟩) rfl rfl rfl rfl (Nat.le_of_ble_eq_true rfl) dX0_firstRuin_8 ⟨(Nat.le_of_ble_eq_true rfl), (Nat.le_of_ble_eq_true rfl)⟩ (fun h_1 H locs hq2 hP hD hS => ?_)
  have hq2 : zZ (h_1 4) := hq2
  have hP : va_P g.1 vwCl (List.flatten [[(fo, .inr (0, [.ref o, .ref lo, .ref od]))], bLaw g lo ac ls0 ll lm lg ld fc, bTown g od ad 0 0 tx ch jo tr dy sd h_1, bTown g o a 0 0 tx ch jo tr dy sd f]) H := hP
  have hD : va_D A (List.flatten [[(fo, .inr (0, [.ref o, .ref lo, .ref od]))], bLaw g lo ac ls0 ll lm lg ld fc, bTown g od ad 0 0 tx ch jo tr dy sd h_1, bTown g o a 0 0 tx ch jo tr dy sd f]) := hD
  refine W.widen (k := 0) (n := 0) (Nat.le_of_ble_eq_true rfl) (Nat.le_of_ble_eq_true rfl) ?_
  refine W.eq (g2 := F0 m 11 ls []) rfl ?_
  refine lv_iconst (v := 0) hx hb dX0_firstRuin_11 (by decide) ?_
  refine lv_istore_n (lv' := [(1, .int 0), (0, .ref fo)]) hx hb dX0_firstRuin_12 rfl hl (by decide) rfl (fun ls hl => ?_)
  have hP : va_P g.1 vwCl (List.flatten [[(fo, .inr (0, [.ref o, .ref lo, .ref od]))], bLaw g lo ac ls0 ll lm lg ld fc, bTown g od ad 0 0 tx ch jo tr dy sd h_1, bTown g o a 0 0 tx ch jo tr dy sd f]) H := hP
  have hD : va_D A (List.flatten [[(fo, .inr (0, [.ref o, .ref lo, .ref od]))], bLaw g lo ac ls0 ll lm lg ld fc, bTown g od ad 0 0 tx ch jo tr dy sd h_1, bTown g o a 0 0 tx ch jo tr dy sd f]) := hD
  obtain ⟨hP, hD⟩ := zord (g := g) (Bs' := [[(fo, .inr (0, [.ref o, .ref lo, .ref od]))], bTown g o a 0 0 tx ch jo tr dy sd f, bLaw g lo ac ls0 ll lm lg ld fc, bTown g od ad 0 0 tx ch jo tr dy sd h_1]) [0, 3, 1, 2] rfl rfl hP hD
  have LP13 : ∀ (k : Nat) (j : Nat) (dy3 : Int32) (h3 : Nat → Nat → Int32) (m3 : Int32) (g3 : Int32) (d3 : Int32) (H : Heap) (locs : List Loc) (ls : Array Slot),(j ≤ 101) → (101 - j) < k → va_P g.1 vwCl (List.flatten [[(fo, .inr (0, [.ref o, .ref lo, .ref od]))], bTown g o a 0 0 tx ch jo tr dy sd f, bLaw g lo ac ls0 ll m3 g3 d3 fc, bTown g od ad 0 0 tx ch jo tr dy3 sd h3]) H → va_D A (List.flatten [[(fo, .inr (0, [.ref o, .ref lo, .ref od]))], bTown g o a 0 0 tx ch jo tr dy sd f, bLaw g lo ac ls0 ll m3 g3 d3 fc, bTown g od ad 0 0 tx ch jo tr dy3 sd h3]) → va_S A s.heap H locs → lv_has ls 2 [(0, .ref fo), (1, .int (nI j))] → W p l e ({ frames := 4, cells := 0, slots := 0, locals := 88 } : Room) s m args below meth c H locs (0) (0) (zF g (fun _ : Unit => some (.int (-1))) (fun _ : Unit => True) (fun _ : Unit => []) ({ frames := 4, cells := 0, slots := 0, locals := 88 } : Room) below args s A) (F0 m 13 ls []) := by
    intro k
    induction k with
    | zero => intro j dy3 h3 m3 g3 d3 H locs ls hj hk; exact absurd hk (Nat.not_lt_zero _)
    | succ k ih13 =>
      intro j dy3 h3 m3 g3 d3 H locs ls hj hk hP hD hS hl
      refine lv_iload_n hx hb dX0_firstRuin_13 rfl (lv_at hl 1 rfl) ?_
      refine lv_bipush (v := 100) hx hb dX0_firstRuin_14 (by decide) ?_
      refine lv_icmp_gt (tgt := 51) hx hb dX0_firstRuin_16 (by decide) (fun cA => ?_) (fun cA => ?_)
      · skip
        refine lv_iconst (v := (-1)) hx hb dX0_firstRuin_51 (by decide) ?_
        have hP : va_P g.1 vwCl (List.flatten [[(fo, .inr (0, [.ref o, .ref lo, .ref od]))], bTown g o a 0 0 tx ch jo tr dy sd f, bLaw g lo ac ls0 ll m3 g3 d3 fc, bTown g od ad 0 0 tx ch jo tr dy3 sd h3]) H := hP
        have hD : va_D A (List.flatten [[(fo, .inr (0, [.ref o, .ref lo, .ref od]))], bTown g o a 0 0 tx ch jo tr dy sd f, bLaw g lo ac ls0 ll m3 g3 d3 fc, bTown g od ad 0 0 tx ch jo tr dy3 sd h3]) := hD
        obtain ⟨hP, hD⟩ := zord (g := g) (Bs' := []) [] rfl rfl hP hD
        exact mret_i hx hb hr hlocks hS (Nat.le_of_ble_eq_true rfl) (Nat.le_of_ble_eq_true rfl) dX0_firstRuin_52 () rfl trivial hP hD
      · skip
        have hlt : j ≤ 100 := by rcases Nat.lt_or_ge 100 j with q | q; exact absurd (nI_lt q (by omega)) cA; exact q
        refine lv_aload_n hx hb dX0_firstRuin_19 rfl (lv_at hl 0 rfl) ?_
        refine va_get (D := g.1) (ci := 0) (v := .ref od) (C := RX0) (T := TX0) (N := 3) hx hb hts izRX0 hown hK hP 0 rfl rfl 2 (by decide) (hts _ k25) (fun _ h9 => h9) rfl dX0_firstRuin_20 ?_
        refine mcallV (g := g) (q0 := 0) (ci := 7) (As := []) (rest := []) St hK hT hA hP hD hS hl.1 [3] [0, 1, 2] rfl rfl rfl (c_isRuined l g od ad tx ch jo tr dy3 sd h3 ) (cwV 0 hts (zgL (zl4 k180 k181 k182 k24) k176) rfl rfl rfl (by decide +kernel) ⟨Nat.le_of_ble_eq_true rfl, Nat.le_of_ble_eq_true rfl⟩) rfl rfl rfl rfl (Nat.le_of_ble_eq_true rfl) dX0_firstRuin_23 ⟨(Nat.le_of_ble_eq_true rfl), (Nat.le_of_ble_eq_true rfl)⟩ (fun _u H locs hq4 hP hD hS => ?_)
        have hP : va_P g.1 vwCl (List.flatten [[(fo, .inr (0, [.ref o, .ref lo, .ref od]))], bTown g o a 0 0 tx ch jo tr dy sd f, bLaw g lo ac ls0 ll m3 g3 d3 fc, bTown g od ad 0 0 tx ch jo tr dy3 sd h3]) H := hP
        have hD : va_D A (List.flatten [[(fo, .inr (0, [.ref o, .ref lo, .ref od]))], bTown g o a 0 0 tx ch jo tr dy sd f, bLaw g lo ac ls0 ll m3 g3 d3 fc, bTown g od ad 0 0 tx ch jo tr dy3 sd h3]) := hD
        refine W.widen (k := 0) (n := 0) (Nat.le_of_ble_eq_true rfl) (Nat.le_of_ble_eq_true rfl) ?_
        refine W.eq (g2 := F0 m 26 ls [.int 0]) rfl ?_
        refine lv_if_eq (tgt := 31) hx hb dX0_firstRuin_26 (by decide) (fun _ => ?_) (fun c5 => absurd (by decide) c5)
        refine lv_aload_n hx hb dX0_firstRuin_31 rfl (lv_at hl 0 rfl) ?_
        refine va_get (D := g.1) (ci := 0) (v := .ref od) (C := RX0) (T := TX0) (N := 3) hx hb hts izRX0 hown hK hP 0 rfl rfl 2 (by decide) (hts _ k25) (fun _ h9 => h9) rfl dX0_firstRuin_32 ?_
        refine lv_aload_n hx hb dX0_firstRuin_35 rfl (lv_at hl 0 rfl) ?_
        refine va_get (D := g.1) (ci := 0) (v := .ref lo) (C := RX0) (T := TX0) (N := 3) hx hb hts izRX0 hown hK hP 0 rfl rfl 1 (by decide) (hts _ k27) (fun _ h9 => h9) rfl dX0_firstRuin_36 ?_
        refine lv_iconst (v := 0) hx hb dX0_firstRuin_39 (by decide) ?_
        refine lv_null hx hb dX0_firstRuin_40 ?_
        refine mcallV (g := g) (q0 := 0) (ci := 7) (As := [.ref lo, .int 0, .null]) (rest := []) St hK hT hA hP hD hS hl.1 [3, 2] [0, 1] rfl rfl rfl (c_passDayN l g od ad tx ch jo tr dy3 sd h3 lo ac ls0 ll m3 g3 d3 fc 0 ) (cwV 3 hts (zgL (zl4 k160 k161 k162 k24) k154) rfl rfl rfl (by decide +kernel) ⟨Nat.le_of_ble_eq_true rfl, Nat.le_of_ble_eq_true rfl⟩) rfl rfl rfl rfl (Nat.le_of_ble_eq_true rfl) dX0_firstRuin_41 ⟨(Nat.le_of_ble_eq_true rfl), (Nat.le_of_ble_eq_true rfl)⟩ (fun u_ H locs hq8 hP hD hS => ?_)
        obtain ⟨dy2_6, f2_7⟩ := u_
        have hq8 : f2_7 4 = h3 4 := hq8
        have hP : va_P g.1 vwCl (List.flatten [[(fo, .inr (0, [.ref o, .ref lo, .ref od]))], bTown g o a 0 0 tx ch jo tr dy sd f, bTown g od ad 0 0 tx ch jo tr dy2_6 sd f2_7, bLaw g lo ac ls0 ll 0 0 dy3 fc]) H := hP
        have hD : va_D A (List.flatten [[(fo, .inr (0, [.ref o, .ref lo, .ref od]))], bTown g o a 0 0 tx ch jo tr dy sd f, bTown g od ad 0 0 tx ch jo tr dy2_6 sd f2_7, bLaw g lo ac ls0 ll 0 0 dy3 fc]) := hD
        refine W.widen (k := 0) (n := 0) (Nat.le_of_ble_eq_true rfl) (Nat.le_of_ble_eq_true rfl) ?_
        refine W.eq (g2 := F0 m 44 ls [.int 0]) rfl ?_
        refine lv_pop hx hb dX0_firstRuin_44 rfl ?_
        refine lv_iinc (v := nI (j + 1)) (lv' := [(1, .int (nI (j + 1))), (0, .ref fo)]) hx hb dX0_firstRuin_45 hl (k := 1) rfl (nI_1 j) (by decide) rfl (fun ls hl => ?_)
        refine lv_goto (tgt := 13) hx hb dX0_firstRuin_48 (by decide) ?_
        have hP : va_P g.1 vwCl (List.flatten [[(fo, .inr (0, [.ref o, .ref lo, .ref od]))], bTown g o a 0 0 tx ch jo tr dy sd f, bTown g od ad 0 0 tx ch jo tr dy2_6 sd f2_7, bLaw g lo ac ls0 ll 0 0 dy3 fc]) H := hP
        have hD : va_D A (List.flatten [[(fo, .inr (0, [.ref o, .ref lo, .ref od]))], bTown g o a 0 0 tx ch jo tr dy sd f, bTown g od ad 0 0 tx ch jo tr dy2_6 sd f2_7, bLaw g lo ac ls0 ll 0 0 dy3 fc]) := hD
        obtain ⟨hP, hD⟩ := zord (g := g) (Bs' := [[(fo, .inr (0, [.ref o, .ref lo, .ref od]))], bTown g o a 0 0 tx ch jo tr dy sd f, bLaw g lo ac ls0 ll 0 0 dy3 fc, bTown g od ad 0 0 tx ch jo tr dy2_6 sd f2_7]) [0, 1, 3, 2] rfl rfl hP hD
        exact ih13 (j + 1) dy2_6 f2_7 0 0 dy3 H locs ls (by omega) (by omega) hP hD hS (lv_sub hl [1, 0] rfl)
  exact LP13 (102) 0 dy h_1 lm lg ld H _ ls (by omega) (by omega) hP hD hS (lv_sub hl [1, 0] rfl)
set_option maxRecDepth 100000 in
set_option maxHeartbeats 4000000 in
theorem c_greatestPrice (l : Launch) (g : zG) (fo : Nat) (o : Nat) (a : Nat → Nat) (tx : Int32) (ch : Int32) (jo : Int32) (tr : Int32) (dy : Int32) (sd : Int32) (f : Nat → Nat → Int32) (lo : Nat) (ac : Nat) (ls0 : Int32) (ll : Int32) (lm : Int32) (lg : Int32) (ld : Int32) (fc : Nat → Int32) (od : Nat) (ad : Nat → Nat) (ped : Int32) (wod : Int32) (txd : Int32) (chd : Int32) (jod : Int32) (trd : Int32) (dyd : Int32) (sdd : Int32) (fd : Nat → Nat → Int32) (n : Int32) (mu : Int32) (hz : zZ (f 4)) (hn0 : ∃ N : Nat, N ≤ 100 ∧ n = nI N) : zM g l yX0_greatestPrice (Cond.code yX0_greatestPrice cX0_greatestPrice 6 (some .int) :: zB) ({ frames := 4, cells := 0, slots := 0, locals := 88 } : Room) [.ref fo, .int n, .int mu] [[(fo, .inr (0, [.ref o, .ref lo, .ref od]))], bTown g o a 0 0 tx ch jo tr dy sd f, bLaw g lo ac ls0 ll lm lg ld fc, bTown g od ad ped wod txd chd jod trd dyd sdd fd] (fun (r : Int32) => some (.int r)) (fun (r : Int32) => r = if mu = 0 then 0 else 1) (fun (r : Int32) => []) := by
  refine zM.of (cc := cX0_greatestPrice) (maxL := 6) (rt := (some .int)) (by decide) rfl (Nat.le_of_ble_eq_true rfl) ?_
  intro p e s m args below meth c A ls St hr hlocks hin hK hT hA hP hD hS hl
  obtain ⟨hx, hb, hml, hown, hts⟩ := id St
  have hl : lv_has ls 6 [(0, .ref fo), (1, .int n), (2, .int mu)] := hl
  obtain ⟨N, hN, hn⟩ := hn0
  refine lv_aload_n hx hb dX0_greatestPrice_0 rfl (lv_at hl 0 rfl) ?_
  refine va_get (D := g.1) (ci := 0) (v := .ref od) (C := RX0) (T := TX0) (N := 3) hx hb hts izRX0 hown hK hP 0 rfl rfl 2 (by decide) (hts _ k25) (fun _ h9 => h9) rfl dX0_greatestPrice_1 ?_
  refine lv_aload_n hx hb dX0_greatestPrice_4 rfl (lv_at hl 0 rfl) ?_
  refine va_get (D := g.1) (ci := 0) (v := .ref o) (C := RX0) (T := TX0) (N := 3) hx hb hts izRX0 hown hK hP 0 rfl rfl 0 (by decide) (hts _ k26) (fun _ h9 => h9) rfl dX0_greatestPrice_5 ?_
  refine mcallV (g := g) (q0 := 0) (ci := 7) (As := [.ref o]) (rest := []) St hK hT hA hP hD hS hl.1 [3, 1] [0, 2] rfl rfl rfl (c_Town_copyFrom l g od ad ped wod txd chd jod trd dyd sdd fd o a 0 0 tx ch jo tr dy sd f (by assumption)) (cwV 1 hts (zgL (zl4 k156 k157 k158 k24) k30) rfl rfl rfl (by decide +kernel) ⟨Nat.le_of_ble_eq_true rfl, Nat.le_of_ble_eq_true rfl⟩) rfl rfl rfl rfl (Nat.le_of_ble_eq_true rfl) dX0_greatestPrice_8 ⟨(Nat.le_of_ble_eq_true rfl), (Nat.le_of_ble_eq_true rfl)⟩ (fun h_1 H locs hq2 hP hD hS => ?_)
  have hq2 : zZ (h_1 4) := hq2
  have hP : va_P g.1 vwCl (List.flatten [[(fo, .inr (0, [.ref o, .ref lo, .ref od]))], bLaw g lo ac ls0 ll lm lg ld fc, bTown g od ad 0 0 tx ch jo tr dy sd h_1, bTown g o a 0 0 tx ch jo tr dy sd f]) H := hP
  have hD : va_D A (List.flatten [[(fo, .inr (0, [.ref o, .ref lo, .ref od]))], bLaw g lo ac ls0 ll lm lg ld fc, bTown g od ad 0 0 tx ch jo tr dy sd h_1, bTown g o a 0 0 tx ch jo tr dy sd f]) := hD
  refine W.widen (k := 0) (n := 0) (Nat.le_of_ble_eq_true rfl) (Nat.le_of_ble_eq_true rfl) ?_
  refine W.eq (g2 := F0 m 11 ls []) rfl ?_
  refine lv_iconst (v := 0) hx hb dX0_greatestPrice_11 (by decide) ?_
  refine lv_istore_n (lv' := [(3, .int 0), (0, .ref fo), (1, .int n), (2, .int mu)]) hx hb dX0_greatestPrice_12 rfl hl (by decide) rfl (fun ls hl => ?_)
  refine lv_aload_n hx hb dX0_greatestPrice_13 rfl (lv_at hl 1 rfl) ?_
  refine va_get (D := g.1) (ci := 0) (v := .ref od) (C := RX0) (T := TX0) (N := 3) hx hb hts izRX0 hown hK hP 0 rfl rfl 2 (by decide) (hts _ k25) (fun _ h9 => h9) rfl dX0_greatestPrice_14 ?_
  refine mcallV (g := g) (q0 := 0) (ci := 7) (As := []) (rest := []) St hK hT hA hP hD hS hl.1 [2] [0, 1, 3] rfl rfl rfl (c_sharePrice l g od ad tx ch jo tr dy sd h_1 ) (cwV 0 hts (zgL (zl4 k185 k186 k187 k24) k184) rfl rfl rfl (by decide +kernel) ⟨Nat.le_of_ble_eq_true rfl, Nat.le_of_ble_eq_true rfl⟩) rfl rfl rfl rfl (Nat.le_of_ble_eq_true rfl) dX0_greatestPrice_17 ⟨(Nat.le_of_ble_eq_true rfl), (Nat.le_of_ble_eq_true rfl)⟩ (fun _u H locs hq3 hP hD hS => ?_)
  have hP : va_P g.1 vwCl (List.flatten [[(fo, .inr (0, [.ref o, .ref lo, .ref od]))], bLaw g lo ac ls0 ll lm lg ld fc, bTown g o a 0 0 tx ch jo tr dy sd f, bTown g od ad 0 0 tx ch jo tr dy sd h_1]) H := hP
  have hD : va_D A (List.flatten [[(fo, .inr (0, [.ref o, .ref lo, .ref od]))], bLaw g lo ac ls0 ll lm lg ld fc, bTown g o a 0 0 tx ch jo tr dy sd f, bTown g od ad 0 0 tx ch jo tr dy sd h_1]) := hD
  refine W.widen (k := 0) (n := 0) (Nat.le_of_ble_eq_true rfl) (Nat.le_of_ble_eq_true rfl) ?_
  refine W.eq (g2 := F0 m 20 ls [.int 1]) rfl ?_
  refine lv_istore (lv' := [(4, .int 1), (3, .int 0), (0, .ref fo), (1, .int n), (2, .int mu)]) hx hb dX0_greatestPrice_20 hl (by decide) rfl (fun ls hl => ?_)
  refine lv_iconst (v := 1) hx hb dX0_greatestPrice_22 (by decide) ?_
  refine lv_istore (lv' := [(5, .int 1), (4, .int 1), (3, .int 0), (0, .ref fo), (1, .int n), (2, .int mu)]) hx hb dX0_greatestPrice_23 hl (by decide) rfl (fun ls hl => ?_)
  have hP : va_P g.1 vwCl (List.flatten [[(fo, .inr (0, [.ref o, .ref lo, .ref od]))], bLaw g lo ac ls0 ll lm lg ld fc, bTown g o a 0 0 tx ch jo tr dy sd f, bTown g od ad 0 0 tx ch jo tr dy sd h_1]) H := hP
  have hD : va_D A (List.flatten [[(fo, .inr (0, [.ref o, .ref lo, .ref od]))], bLaw g lo ac ls0 ll lm lg ld fc, bTown g o a 0 0 tx ch jo tr dy sd f, bTown g od ad 0 0 tx ch jo tr dy sd h_1]) := hD
  obtain ⟨hP, hD⟩ := zord (g := g) (Bs' := [[(fo, .inr (0, [.ref o, .ref lo, .ref od]))], bTown g o a 0 0 tx ch jo tr dy sd f, bLaw g lo ac ls0 ll lm lg ld fc, bTown g od ad 0 0 tx ch jo tr dy sd h_1]) [0, 2, 1, 3] rfl rfl hP hD
  have LP25 : ∀ (k : Nat) (j : Nat) (dy3 : Int32) (h3 : Nat → Nat → Int32) (m3 : Int32) (g3 : Int32) (d3 : Int32) (H : Heap) (locs : List Loc) (ls : Array Slot),(j ≤ N + 1) → (N + 1 - j) < k → va_P g.1 vwCl (List.flatten [[(fo, .inr (0, [.ref o, .ref lo, .ref od]))], bTown g o a 0 0 tx ch jo tr dy sd f, bLaw g lo ac ls0 ll m3 g3 d3 fc, bTown g od ad 0 0 tx ch jo tr dy3 sd h3]) H → va_D A (List.flatten [[(fo, .inr (0, [.ref o, .ref lo, .ref od]))], bTown g o a 0 0 tx ch jo tr dy sd f, bLaw g lo ac ls0 ll m3 g3 d3 fc, bTown g od ad 0 0 tx ch jo tr dy3 sd h3]) → va_S A s.heap H locs → lv_has ls 6 [(0, .ref fo), (1, .int n), (2, .int mu), (3, .int 0), (4, .int 1), (5, .int (nI j))] → W p l e ({ frames := 4, cells := 0, slots := 0, locals := 88 } : Room) s m args below meth c H locs (0) (0) (zF g (fun (r : Int32) => some (.int r)) (fun (r : Int32) => r = if mu = 0 then 0 else 1) (fun (r : Int32) => []) ({ frames := 4, cells := 0, slots := 0, locals := 88 } : Room) below args s A) (F0 m 25 ls []) := by
    intro k
    induction k with
    | zero => intro j dy3 h3 m3 g3 d3 H locs ls hj hk; exact absurd hk (Nat.not_lt_zero _)
    | succ k ih25 =>
      intro j dy3 h3 m3 g3 d3 H locs ls hj hk hP hD hS hl
      refine lv_iload hx hb dX0_greatestPrice_25 (lv_at hl 5 rfl) ?_
      refine lv_iload_n hx hb dX0_greatestPrice_27 rfl (lv_at hl 1 rfl) ?_
      refine lv_icmp_gt (tgt := 75) hx hb dX0_greatestPrice_28 (by decide) (fun cA => ?_) (fun cA => ?_)
      · skip
        refine lv_iload_n hx hb dX0_greatestPrice_75 rfl (lv_at hl 2 rfl) ?_
        refine lv_if_eq (tgt := 84) hx hb dX0_greatestPrice_76 (by decide) (fun cB => ?_) (fun cB => ?_)
        · skip
          refine lv_iload_n hx hb dX0_greatestPrice_84 rfl (lv_at hl 3 rfl) ?_
          have hP : va_P g.1 vwCl (List.flatten [[(fo, .inr (0, [.ref o, .ref lo, .ref od]))], bTown g o a 0 0 tx ch jo tr dy sd f, bLaw g lo ac ls0 ll m3 g3 d3 fc, bTown g od ad 0 0 tx ch jo tr dy3 sd h3]) H := hP
          have hD : va_D A (List.flatten [[(fo, .inr (0, [.ref o, .ref lo, .ref od]))], bTown g o a 0 0 tx ch jo tr dy sd f, bLaw g lo ac ls0 ll m3 g3 d3 fc, bTown g od ad 0 0 tx ch jo tr dy3 sd h3]) := hD
          obtain ⟨hP, hD⟩ := zord (g := g) (Bs' := []) [] rfl rfl hP hD
          exact mret_i hx hb hr hlocks hS (Nat.le_of_ble_eq_true rfl) (Nat.le_of_ble_eq_true rfl) dX0_greatestPrice_85 (0) rfl ((if_pos cB).symm) hP hD
        · skip
          refine lv_iload hx hb dX0_greatestPrice_79 (lv_at hl 4 rfl) ?_
          refine lv_goto (tgt := 85) hx hb dX0_greatestPrice_81 (by decide) ?_
          have hP : va_P g.1 vwCl (List.flatten [[(fo, .inr (0, [.ref o, .ref lo, .ref od]))], bTown g o a 0 0 tx ch jo tr dy sd f, bLaw g lo ac ls0 ll m3 g3 d3 fc, bTown g od ad 0 0 tx ch jo tr dy3 sd h3]) H := hP
          have hD : va_D A (List.flatten [[(fo, .inr (0, [.ref o, .ref lo, .ref od]))], bTown g o a 0 0 tx ch jo tr dy sd f, bLaw g lo ac ls0 ll m3 g3 d3 fc, bTown g od ad 0 0 tx ch jo tr dy3 sd h3]) := hD
          obtain ⟨hP, hD⟩ := zord (g := g) (Bs' := []) [] rfl rfl hP hD
          exact mret_i hx hb hr hlocks hS (Nat.le_of_ble_eq_true rfl) (Nat.le_of_ble_eq_true rfl) dX0_greatestPrice_85 (1) rfl ((if_neg cB).symm) hP hD
      · skip
        have hlt : j ≤ N := by rcases Nat.lt_or_ge N j with q | q; exact absurd (by rw [hn]; exact nI_lt q (by omega)) cA; exact q
        refine lv_aload_n hx hb dX0_greatestPrice_31 rfl (lv_at hl 0 rfl) ?_
        refine va_get (D := g.1) (ci := 0) (v := .ref od) (C := RX0) (T := TX0) (N := 3) hx hb hts izRX0 hown hK hP 0 rfl rfl 2 (by decide) (hts _ k25) (fun _ h9 => h9) rfl dX0_greatestPrice_32 ?_
        refine lv_aload_n hx hb dX0_greatestPrice_35 rfl (lv_at hl 0 rfl) ?_
        refine va_get (D := g.1) (ci := 0) (v := .ref lo) (C := RX0) (T := TX0) (N := 3) hx hb hts izRX0 hown hK hP 0 rfl rfl 1 (by decide) (hts _ k27) (fun _ h9 => h9) rfl dX0_greatestPrice_36 ?_
        refine lv_iconst (v := 0) hx hb dX0_greatestPrice_39 (by decide) ?_
        refine lv_null hx hb dX0_greatestPrice_40 ?_
        refine mcallV (g := g) (q0 := 0) (ci := 7) (As := [.ref lo, .int 0, .null]) (rest := []) St hK hT hA hP hD hS hl.1 [3, 2] [0, 1] rfl rfl rfl (c_passDayN l g od ad tx ch jo tr dy3 sd h3 lo ac ls0 ll m3 g3 d3 fc 0 ) (cwV 3 hts (zgL (zl4 k160 k161 k162 k24) k154) rfl rfl rfl (by decide +kernel) ⟨Nat.le_of_ble_eq_true rfl, Nat.le_of_ble_eq_true rfl⟩) rfl rfl rfl rfl (Nat.le_of_ble_eq_true rfl) dX0_greatestPrice_41 ⟨(Nat.le_of_ble_eq_true rfl), (Nat.le_of_ble_eq_true rfl)⟩ (fun u_ H locs hq8 hP hD hS => ?_)
        obtain ⟨dy2_6, f2_7⟩ := u_
        have hq8 : f2_7 4 = h3 4 := hq8
        have hP : va_P g.1 vwCl (List.flatten [[(fo, .inr (0, [.ref o, .ref lo, .ref od]))], bTown g o a 0 0 tx ch jo tr dy sd f, bTown g od ad 0 0 tx ch jo tr dy2_6 sd f2_7, bLaw g lo ac ls0 ll 0 0 dy3 fc]) H := hP
        have hD : va_D A (List.flatten [[(fo, .inr (0, [.ref o, .ref lo, .ref od]))], bTown g o a 0 0 tx ch jo tr dy sd f, bTown g od ad 0 0 tx ch jo tr dy2_6 sd f2_7, bLaw g lo ac ls0 ll 0 0 dy3 fc]) := hD
        refine W.widen (k := 0) (n := 0) (Nat.le_of_ble_eq_true rfl) (Nat.le_of_ble_eq_true rfl) ?_
        refine W.eq (g2 := F0 m 44 ls [.int 0]) rfl ?_
        refine lv_pop hx hb dX0_greatestPrice_44 rfl ?_
        refine lv_aload_n hx hb dX0_greatestPrice_45 rfl (lv_at hl 0 rfl) ?_
        refine va_get (D := g.1) (ci := 0) (v := .ref od) (C := RX0) (T := TX0) (N := 3) hx hb hts izRX0 hown hK hP 0 rfl rfl 2 (by decide) (hts _ k25) (fun _ h9 => h9) rfl dX0_greatestPrice_46 ?_
        refine mcallV (g := g) (q0 := 0) (ci := 7) (As := []) (rest := []) St hK hT hA hP hD hS hl.1 [2] [0, 1, 3] rfl rfl rfl (c_sharePrice l g od ad tx ch jo tr dy2_6 sd f2_7 ) (cwV 0 hts (zgL (zl4 k185 k186 k187 k24) k184) rfl rfl rfl (by decide +kernel) ⟨Nat.le_of_ble_eq_true rfl, Nat.le_of_ble_eq_true rfl⟩) rfl rfl rfl rfl (Nat.le_of_ble_eq_true rfl) dX0_greatestPrice_49 ⟨(Nat.le_of_ble_eq_true rfl), (Nat.le_of_ble_eq_true rfl)⟩ (fun _u H locs hq9 hP hD hS => ?_)
        have hP : va_P g.1 vwCl (List.flatten [[(fo, .inr (0, [.ref o, .ref lo, .ref od]))], bTown g o a 0 0 tx ch jo tr dy sd f, bLaw g lo ac ls0 ll 0 0 dy3 fc, bTown g od ad 0 0 tx ch jo tr dy2_6 sd f2_7]) H := hP
        have hD : va_D A (List.flatten [[(fo, .inr (0, [.ref o, .ref lo, .ref od]))], bTown g o a 0 0 tx ch jo tr dy sd f, bLaw g lo ac ls0 ll 0 0 dy3 fc, bTown g od ad 0 0 tx ch jo tr dy2_6 sd f2_7]) := hD
        refine W.widen (k := 0) (n := 0) (Nat.le_of_ble_eq_true rfl) (Nat.le_of_ble_eq_true rfl) ?_
        refine W.eq (g2 := F0 m 52 ls [.int 1]) rfl ?_
        refine lv_iload hx hb dX0_greatestPrice_52 (lv_at hl 4 rfl) ?_
        refine lv_icmp_le (tgt := 69) hx hb dX0_greatestPrice_54 (by decide) (fun _ => ?_) (fun c10 => absurd (by decide) c10)
        refine lv_iinc (v := nI (j + 1)) (lv' := [(5, .int (nI (j + 1))), (0, .ref fo), (1, .int n), (2, .int mu), (3, .int 0), (4, .int 1)]) hx hb dX0_greatestPrice_69 hl (k := 5) rfl (nI_1 j) (by decide) rfl (fun ls hl => ?_)
        refine lv_goto (tgt := 25) hx hb dX0_greatestPrice_72 (by decide) ?_
        have hP : va_P g.1 vwCl (List.flatten [[(fo, .inr (0, [.ref o, .ref lo, .ref od]))], bTown g o a 0 0 tx ch jo tr dy sd f, bLaw g lo ac ls0 ll 0 0 dy3 fc, bTown g od ad 0 0 tx ch jo tr dy2_6 sd f2_7]) H := hP
        have hD : va_D A (List.flatten [[(fo, .inr (0, [.ref o, .ref lo, .ref od]))], bTown g o a 0 0 tx ch jo tr dy sd f, bLaw g lo ac ls0 ll 0 0 dy3 fc, bTown g od ad 0 0 tx ch jo tr dy2_6 sd f2_7]) := hD
        exact ih25 (j + 1) dy2_6 f2_7 0 0 dy3 H locs ls (by omega) (by omega) hP hD hS (lv_sub hl [1, 2, 3, 4, 5, 0] rfl)
  exact LP25 (N + 2) 1 dy h_1 lm lg ld H _ ls (by omega) (by omega) hP hD hS (lv_sub hl [3, 4, 5, 2, 1, 0] rfl)
set_option maxRecDepth 100000 in
set_option maxHeartbeats 4000000 in
theorem c_tryOut (l : Launch) (g : zG) (fo : Nat) (o : Nat) (a : Nat → Nat) (tx : Int32) (ch : Int32) (jo : Int32) (tr : Int32) (dy : Int32) (sd : Int32) (f : Nat → Nat → Int32) (lo : Nat) (ac : Nat) (ls0 : Int32) (ll : Int32) (lm : Int32) (lg : Int32) (ld : Int32) (fc : Nat → Int32) (od : Nat) (ad : Nat → Nat) (ped : Int32) (wod : Int32) (txd : Int32) (chd : Int32) (jod : Int32) (trd : Int32) (dyd : Int32) (sdd : Int32) (fd : Nat → Nat → Int32) (se : Int32) (n : Int32) (hz : zZ (f 4)) (hn0 : ∃ N : Nat, N ≤ 100 ∧ n = nI N) : zM g l yX0_tryOut (Cond.code yX0_tryOut cX0_tryOut 4 (some .int) :: zB) ({ frames := 4, cells := 0, slots := 0, locals := 88 } : Room) [.ref fo, .int se, .int n] [[(fo, .inr (0, [.ref o, .ref lo, .ref od]))], bTown g o a 0 0 tx ch jo tr dy sd f, bLaw g lo ac ls0 ll lm lg ld fc, bTown g od ad ped wod txd chd jod trd dyd sdd fd] (fun u : Int32 × (Nat → Nat → Int32) × Int32 × Int32 × Int32 => (fun (dy3 : Int32) (h3 : Nat → Nat → Int32) (m3 : Int32) (g3 : Int32) (d3 : Int32) => some (.int 0)) (u.1) (u.2.1) (u.2.2.1) (u.2.2.2.1) (u.2.2.2.2)) (fun u : Int32 × (Nat → Nat → Int32) × Int32 × Int32 × Int32 => (fun (dy3 : Int32) (h3 : Nat → Nat → Int32) (m3 : Int32) (g3 : Int32) (d3 : Int32) => True) (u.1) (u.2.1) (u.2.2.1) (u.2.2.2.1) (u.2.2.2.2)) (fun u : Int32 × (Nat → Nat → Int32) × Int32 × Int32 × Int32 => (fun (dy3 : Int32) (h3 : Nat → Nat → Int32) (m3 : Int32) (g3 : Int32) (d3 : Int32) => [[(fo, .inr (0, [.ref o, .ref lo, .ref od]))], bTown g o a 0 0 tx ch jo tr dy sd f, bLaw g lo ac ls0 ll m3 g3 d3 fc, bTown g od ad 0 0 tx ch jo tr dy3 se h3]) (u.1) (u.2.1) (u.2.2.1) (u.2.2.2.1) (u.2.2.2.2)) := by
  refine zM.of (cc := cX0_tryOut) (maxL := 4) (rt := (some .int)) (by decide) rfl (Nat.le_of_ble_eq_true rfl) ?_
  intro p e s m args below meth c A ls St hr hlocks hin hK hT hA hP hD hS hl
  obtain ⟨hx, hb, hml, hown, hts⟩ := id St
  have hl : lv_has ls 4 [(0, .ref fo), (1, .int se), (2, .int n)] := hl
  obtain ⟨N, hN, hn⟩ := hn0
  refine lv_aload_n hx hb dX0_tryOut_0 rfl (lv_at hl 0 rfl) ?_
  refine va_get (D := g.1) (ci := 0) (v := .ref od) (C := RX0) (T := TX0) (N := 3) hx hb hts izRX0 hown hK hP 0 rfl rfl 2 (by decide) (hts _ k25) (fun _ h9 => h9) rfl dX0_tryOut_1 ?_
  refine lv_aload_n hx hb dX0_tryOut_4 rfl (lv_at hl 0 rfl) ?_
  refine va_get (D := g.1) (ci := 0) (v := .ref o) (C := RX0) (T := TX0) (N := 3) hx hb hts izRX0 hown hK hP 0 rfl rfl 0 (by decide) (hts _ k26) (fun _ h9 => h9) rfl dX0_tryOut_5 ?_
  refine mcallV (g := g) (q0 := 0) (ci := 7) (As := [.ref o]) (rest := []) St hK hT hA hP hD hS hl.1 [3, 1] [0, 2] rfl rfl rfl (c_Town_copyFrom l g od ad ped wod txd chd jod trd dyd sdd fd o a 0 0 tx ch jo tr dy sd f (by assumption)) (cwV 1 hts (zgL (zl4 k156 k157 k158 k24) k30) rfl rfl rfl (by decide +kernel) ⟨Nat.le_of_ble_eq_true rfl, Nat.le_of_ble_eq_true rfl⟩) rfl rfl rfl rfl (Nat.le_of_ble_eq_true rfl) dX0_tryOut_8 ⟨(Nat.le_of_ble_eq_true rfl), (Nat.le_of_ble_eq_true rfl)⟩ (fun h_1 H locs hq2 hP hD hS => ?_)
  have hq2 : zZ (h_1 4) := hq2
  have hP : va_P g.1 vwCl (List.flatten [[(fo, .inr (0, [.ref o, .ref lo, .ref od]))], bLaw g lo ac ls0 ll lm lg ld fc, bTown g od ad 0 0 tx ch jo tr dy sd h_1, bTown g o a 0 0 tx ch jo tr dy sd f]) H := hP
  have hD : va_D A (List.flatten [[(fo, .inr (0, [.ref o, .ref lo, .ref od]))], bLaw g lo ac ls0 ll lm lg ld fc, bTown g od ad 0 0 tx ch jo tr dy sd h_1, bTown g o a 0 0 tx ch jo tr dy sd f]) := hD
  refine W.widen (k := 0) (n := 0) (Nat.le_of_ble_eq_true rfl) (Nat.le_of_ble_eq_true rfl) ?_
  refine W.eq (g2 := F0 m 11 ls []) rfl ?_
  refine lv_aload_n hx hb dX0_tryOut_11 rfl (lv_at hl 0 rfl) ?_
  refine va_get (D := g.1) (ci := 0) (v := .ref od) (C := RX0) (T := TX0) (N := 3) hx hb hts izRX0 hown hK hP 0 rfl rfl 2 (by decide) (hts _ k25) (fun _ h9 => h9) rfl dX0_tryOut_12 ?_
  refine lv_iload_n hx hb dX0_tryOut_15 rfl (lv_at hl 1 rfl) ?_
  refine va_put (D := g.1) (ci := 7) (v := .int se) (ty := .int) (C := RX9) (T := TX9) (N := 19) hx hb hts izRX9 tyX9 tyX9_ok nmX9 hown hK hP hD hS 3 rfl rfl 7 (by decide) (hts _ k189) (fun _ h9 => h9) rfl (by decide +kernel) rfl rfl (Nat.le_of_ble_eq_true rfl) dX0_tryOut_16 (fun H locs hP hD hS => ?_)
  have hP : va_P g.1 vwCl (List.flatten [[(fo, .inr (0, [.ref o, .ref lo, .ref od]))], bLaw g lo ac ls0 ll lm lg ld fc, [(od, .inr (7, [.int 0, .int 0, .int tx, .int ch, .int jo, .int tr, .int dy, .int se, .ref (ad 0), .ref (ad 1), .ref (ad 2), .ref (ad 3), .ref (ad 4), .ref (ad 5), .ref (ad 6), .ref (ad 7), .ref (ad 8), .ref (ad 9), .ref (ad 10)])), (ad 0, .inl (g.2 0, 8, .inl (h_1 0))), (ad 1, .inl (g.2 0, 8, .inl (h_1 1))), (ad 2, .inl (g.2 0, 8, .inl (h_1 2))), (ad 3, .inl (g.2 0, 8, .inl (h_1 3))), (ad 4, .inl (g.2 1, 8, .inl (h_1 4))), (ad 5, .inl (g.2 0, 64, .inl (h_1 5))), (ad 6, .inl (g.2 0, 6, .inl (h_1 6))), (ad 7, .inl (g.2 0, 6, .inl (h_1 7))), (ad 8, .inl (g.2 0, 6, .inl (h_1 8))), (ad 9, .inl (g.2 0, 6, .inl (h_1 9))), (ad 10, .inl (g.2 0, 8, .inl (h_1 10)))], bTown g o a 0 0 tx ch jo tr dy sd f]) H := hP
  have hD : va_D A (List.flatten [[(fo, .inr (0, [.ref o, .ref lo, .ref od]))], bLaw g lo ac ls0 ll lm lg ld fc, [(od, .inr (7, [.int 0, .int 0, .int tx, .int ch, .int jo, .int tr, .int dy, .int se, .ref (ad 0), .ref (ad 1), .ref (ad 2), .ref (ad 3), .ref (ad 4), .ref (ad 5), .ref (ad 6), .ref (ad 7), .ref (ad 8), .ref (ad 9), .ref (ad 10)])), (ad 0, .inl (g.2 0, 8, .inl (h_1 0))), (ad 1, .inl (g.2 0, 8, .inl (h_1 1))), (ad 2, .inl (g.2 0, 8, .inl (h_1 2))), (ad 3, .inl (g.2 0, 8, .inl (h_1 3))), (ad 4, .inl (g.2 1, 8, .inl (h_1 4))), (ad 5, .inl (g.2 0, 64, .inl (h_1 5))), (ad 6, .inl (g.2 0, 6, .inl (h_1 6))), (ad 7, .inl (g.2 0, 6, .inl (h_1 7))), (ad 8, .inl (g.2 0, 6, .inl (h_1 8))), (ad 9, .inl (g.2 0, 6, .inl (h_1 9))), (ad 10, .inl (g.2 0, 8, .inl (h_1 10)))], bTown g o a 0 0 tx ch jo tr dy sd f]) := hD
  refine lv_iconst (v := 0) hx hb dX0_tryOut_19 (by decide) ?_
  refine lv_istore_n (lv' := [(3, .int 0), (0, .ref fo), (1, .int se), (2, .int n)]) hx hb dX0_tryOut_20 rfl hl (by decide) rfl (fun ls hl => ?_)
  have hP : va_P g.1 vwCl (List.flatten [[(fo, .inr (0, [.ref o, .ref lo, .ref od]))], bLaw g lo ac ls0 ll lm lg ld fc, bTown g od ad 0 0 tx ch jo tr dy se h_1, bTown g o a 0 0 tx ch jo tr dy sd f]) H := hP
  have hD : va_D A (List.flatten [[(fo, .inr (0, [.ref o, .ref lo, .ref od]))], bLaw g lo ac ls0 ll lm lg ld fc, bTown g od ad 0 0 tx ch jo tr dy se h_1, bTown g o a 0 0 tx ch jo tr dy sd f]) := hD
  obtain ⟨hP, hD⟩ := zord (g := g) (Bs' := [[(fo, .inr (0, [.ref o, .ref lo, .ref od]))], bTown g o a 0 0 tx ch jo tr dy sd f, bLaw g lo ac ls0 ll lm lg ld fc, bTown g od ad 0 0 tx ch jo tr dy se h_1]) [0, 3, 1, 2] rfl rfl hP hD
  have LP21 : ∀ (k : Nat) (j : Nat) (dy3 : Int32) (h3 : Nat → Nat → Int32) (m3 : Int32) (g3 : Int32) (d3 : Int32) (H : Heap) (locs : List Loc) (ls : Array Slot),(j ≤ N) → (N - j) < k → va_P g.1 vwCl (List.flatten [[(fo, .inr (0, [.ref o, .ref lo, .ref od]))], bTown g o a 0 0 tx ch jo tr dy sd f, bLaw g lo ac ls0 ll m3 g3 d3 fc, bTown g od ad 0 0 tx ch jo tr dy3 se h3]) H → va_D A (List.flatten [[(fo, .inr (0, [.ref o, .ref lo, .ref od]))], bTown g o a 0 0 tx ch jo tr dy sd f, bLaw g lo ac ls0 ll m3 g3 d3 fc, bTown g od ad 0 0 tx ch jo tr dy3 se h3]) → va_S A s.heap H locs → lv_has ls 4 [(0, .ref fo), (1, .int se), (2, .int n), (3, .int (nI j))] → W p l e ({ frames := 4, cells := 0, slots := 0, locals := 88 } : Room) s m args below meth c H locs (0) (0) (zF g (fun u : Int32 × (Nat → Nat → Int32) × Int32 × Int32 × Int32 => (fun (dy3 : Int32) (h3 : Nat → Nat → Int32) (m3 : Int32) (g3 : Int32) (d3 : Int32) => some (.int 0)) (u.1) (u.2.1) (u.2.2.1) (u.2.2.2.1) (u.2.2.2.2)) (fun u : Int32 × (Nat → Nat → Int32) × Int32 × Int32 × Int32 => (fun (dy3 : Int32) (h3 : Nat → Nat → Int32) (m3 : Int32) (g3 : Int32) (d3 : Int32) => True) (u.1) (u.2.1) (u.2.2.1) (u.2.2.2.1) (u.2.2.2.2)) (fun u : Int32 × (Nat → Nat → Int32) × Int32 × Int32 × Int32 => (fun (dy3 : Int32) (h3 : Nat → Nat → Int32) (m3 : Int32) (g3 : Int32) (d3 : Int32) => [[(fo, .inr (0, [.ref o, .ref lo, .ref od]))], bTown g o a 0 0 tx ch jo tr dy sd f, bLaw g lo ac ls0 ll m3 g3 d3 fc, bTown g od ad 0 0 tx ch jo tr dy3 se h3]) (u.1) (u.2.1) (u.2.2.1) (u.2.2.2.1) (u.2.2.2.2)) ({ frames := 4, cells := 0, slots := 0, locals := 88 } : Room) below args s A) (F0 m 21 ls []) := by
    intro k
    induction k with
    | zero => intro j dy3 h3 m3 g3 d3 H locs ls hj hk; exact absurd hk (Nat.not_lt_zero _)
    | succ k ih21 =>
      intro j dy3 h3 m3 g3 d3 H locs ls hj hk hP hD hS hl
      refine lv_iload_n hx hb dX0_tryOut_21 rfl (lv_at hl 3 rfl) ?_
      refine lv_iload_n hx hb dX0_tryOut_22 rfl (lv_at hl 2 rfl) ?_
      refine lv_icmp_ge (tgt := 46) hx hb dX0_tryOut_23 (by decide) (fun cA => ?_) (fun cA => ?_)
      · skip
        refine lv_aload_n hx hb dX0_tryOut_46 rfl (lv_at hl 0 rfl) ?_
        refine va_get (D := g.1) (ci := 0) (v := .ref od) (C := RX0) (T := TX0) (N := 3) hx hb hts izRX0 hown hK hP 0 rfl rfl 2 (by decide) (hts _ k25) (fun _ h9 => h9) rfl dX0_tryOut_47 ?_
        refine mcallV (g := g) (q0 := 0) (ci := 7) (As := []) (rest := []) St hK hT hA hP hD hS hl.1 [3] [0, 1, 2] rfl rfl rfl (c_believed l g od ad tx ch jo tr dy3 se h3 ) (cwV 0 hts (zgL (zl4 k163 k57 k58 k24) k48) rfl rfl rfl (by decide +kernel) ⟨Nat.le_of_ble_eq_true rfl, Nat.le_of_ble_eq_true rfl⟩) rfl rfl rfl rfl (Nat.le_of_ble_eq_true rfl) dX0_tryOut_50 ⟨(Nat.le_of_ble_eq_true rfl), (Nat.le_of_ble_eq_true rfl)⟩ (fun _u H locs hq4 hP hD hS => ?_)
        have hP : va_P g.1 vwCl (List.flatten [[(fo, .inr (0, [.ref o, .ref lo, .ref od]))], bTown g o a 0 0 tx ch jo tr dy sd f, bLaw g lo ac ls0 ll m3 g3 d3 fc, bTown g od ad 0 0 tx ch jo tr dy3 se h3]) H := hP
        have hD : va_D A (List.flatten [[(fo, .inr (0, [.ref o, .ref lo, .ref od]))], bTown g o a 0 0 tx ch jo tr dy sd f, bLaw g lo ac ls0 ll m3 g3 d3 fc, bTown g od ad 0 0 tx ch jo tr dy3 se h3]) := hD
        refine W.widen (k := 0) (n := 0) (Nat.le_of_ble_eq_true rfl) (Nat.le_of_ble_eq_true rfl) ?_
        refine W.eq (g2 := F0 m 53 ls [.int 0]) rfl ?_
        have hP : va_P g.1 vwCl (List.flatten [[(fo, .inr (0, [.ref o, .ref lo, .ref od]))], bTown g o a 0 0 tx ch jo tr dy sd f, bLaw g lo ac ls0 ll m3 g3 d3 fc, bTown g od ad 0 0 tx ch jo tr dy3 se h3]) H := hP
        have hD : va_D A (List.flatten [[(fo, .inr (0, [.ref o, .ref lo, .ref od]))], bTown g o a 0 0 tx ch jo tr dy sd f, bLaw g lo ac ls0 ll m3 g3 d3 fc, bTown g od ad 0 0 tx ch jo tr dy3 se h3]) := hD
        exact mret_i hx hb hr hlocks hS (Nat.le_of_ble_eq_true rfl) (Nat.le_of_ble_eq_true rfl) dX0_tryOut_53 (dy3, h3, m3, g3, d3) rfl trivial hP hD
      · skip
        have hlt := zjl hn (by omega) cA
        refine lv_aload_n hx hb dX0_tryOut_26 rfl (lv_at hl 0 rfl) ?_
        refine va_get (D := g.1) (ci := 0) (v := .ref od) (C := RX0) (T := TX0) (N := 3) hx hb hts izRX0 hown hK hP 0 rfl rfl 2 (by decide) (hts _ k25) (fun _ h9 => h9) rfl dX0_tryOut_27 ?_
        refine lv_aload_n hx hb dX0_tryOut_30 rfl (lv_at hl 0 rfl) ?_
        refine va_get (D := g.1) (ci := 0) (v := .ref lo) (C := RX0) (T := TX0) (N := 3) hx hb hts izRX0 hown hK hP 0 rfl rfl 1 (by decide) (hts _ k27) (fun _ h9 => h9) rfl dX0_tryOut_31 ?_
        refine lv_iconst (v := 1) hx hb dX0_tryOut_34 (by decide) ?_
        refine lv_null hx hb dX0_tryOut_35 ?_
        refine mcallV (g := g) (q0 := 0) (ci := 7) (As := [.ref lo, .int 1, .null]) (rest := []) St hK hT hA hP hD hS hl.1 [3, 2] [0, 1] rfl rfl rfl (c_passDayN l g od ad tx ch jo tr dy3 se h3 lo ac ls0 ll m3 g3 d3 fc 1 ) (cwV 3 hts (zgL (zl4 k160 k161 k162 k24) k154) rfl rfl rfl (by decide +kernel) ⟨Nat.le_of_ble_eq_true rfl, Nat.le_of_ble_eq_true rfl⟩) rfl rfl rfl rfl (Nat.le_of_ble_eq_true rfl) dX0_tryOut_36 ⟨(Nat.le_of_ble_eq_true rfl), (Nat.le_of_ble_eq_true rfl)⟩ (fun u_ H locs hq7 hP hD hS => ?_)
        obtain ⟨dy2_5, f2_6⟩ := u_
        have hq7 : f2_6 4 = h3 4 := hq7
        have hP : va_P g.1 vwCl (List.flatten [[(fo, .inr (0, [.ref o, .ref lo, .ref od]))], bTown g o a 0 0 tx ch jo tr dy sd f, bTown g od ad 0 0 tx ch jo tr dy2_5 se f2_6, bLaw g lo ac ls0 ll 0 0 dy3 fc]) H := hP
        have hD : va_D A (List.flatten [[(fo, .inr (0, [.ref o, .ref lo, .ref od]))], bTown g o a 0 0 tx ch jo tr dy sd f, bTown g od ad 0 0 tx ch jo tr dy2_5 se f2_6, bLaw g lo ac ls0 ll 0 0 dy3 fc]) := hD
        refine W.widen (k := 0) (n := 0) (Nat.le_of_ble_eq_true rfl) (Nat.le_of_ble_eq_true rfl) ?_
        refine W.eq (g2 := F0 m 39 ls [.int 0]) rfl ?_
        refine lv_pop hx hb dX0_tryOut_39 rfl ?_
        refine lv_iinc (v := nI (j + 1)) (lv' := [(3, .int (nI (j + 1))), (0, .ref fo), (1, .int se), (2, .int n)]) hx hb dX0_tryOut_40 hl (k := 3) rfl (nI_1 j) (by decide) rfl (fun ls hl => ?_)
        refine lv_goto (tgt := 21) hx hb dX0_tryOut_43 (by decide) ?_
        have hP : va_P g.1 vwCl (List.flatten [[(fo, .inr (0, [.ref o, .ref lo, .ref od]))], bTown g o a 0 0 tx ch jo tr dy sd f, bTown g od ad 0 0 tx ch jo tr dy2_5 se f2_6, bLaw g lo ac ls0 ll 0 0 dy3 fc]) H := hP
        have hD : va_D A (List.flatten [[(fo, .inr (0, [.ref o, .ref lo, .ref od]))], bTown g o a 0 0 tx ch jo tr dy sd f, bTown g od ad 0 0 tx ch jo tr dy2_5 se f2_6, bLaw g lo ac ls0 ll 0 0 dy3 fc]) := hD
        obtain ⟨hP, hD⟩ := zord (g := g) (Bs' := [[(fo, .inr (0, [.ref o, .ref lo, .ref od]))], bTown g o a 0 0 tx ch jo tr dy sd f, bLaw g lo ac ls0 ll 0 0 dy3 fc, bTown g od ad 0 0 tx ch jo tr dy2_5 se f2_6]) [0, 1, 3, 2] rfl rfl hP hD
        exact ih21 (j + 1) dy2_5 f2_6 0 0 dy3 H locs ls (by omega) (by omega) hP hD hS (lv_sub hl [1, 2, 3, 0] rfl)
  exact LP21 (N + 1) 0 dy h_1 lm lg ld H _ ls (by omega) (by omega) hP hD hS (lv_sub hl [1, 2, 3, 0] rfl)
set_option maxRecDepth 100000 in
set_option maxHeartbeats 4000000 in
theorem c_utmostOfSeeds (l : Launch) (g : zG) (fo : Nat) (o : Nat) (a : Nat → Nat) (tx : Int32) (ch : Int32) (jo : Int32) (tr : Int32) (dy : Int32) (sd : Int32) (f : Nat → Nat → Int32) (lo : Nat) (ac : Nat) (ls0 : Int32) (ll : Int32) (lm : Int32) (lg : Int32) (ld : Int32) (fc : Nat → Int32) (od : Nat) (ad : Nat → Nat) (ped : Int32) (wod : Int32) (txd : Int32) (chd : Int32) (jod : Int32) (trd : Int32) (dyd : Int32) (sdd : Int32) (fd : Nat → Nat → Int32) (n : Int32) (mo9 : Int32) (hz : zZ (f 4)) (hn0 : ∃ N : Nat, N ≤ 100 ∧ n = nI N) : zM g l yX0_utmostOfSeeds (Cond.code yX0_utmostOfSeeds cX0_utmostOfSeeds 6 (some .int) :: zB) ({ frames := 5, cells := 0, slots := 0, locals := 111 } : Room) [.ref fo, .int n, .int mo9] [[(fo, .inr (0, [.ref o, .ref lo, .ref od]))], bTown g o a 0 0 tx ch jo tr dy sd f, bLaw g lo ac ls0 ll lm lg ld fc, bTown g od ad ped wod txd chd jod trd dyd sdd fd] (fun _ : Unit => some (.int 0)) (fun _ : Unit => True) (fun _ : Unit => []) := by
  refine zM.of (cc := cX0_utmostOfSeeds) (maxL := 6) (rt := (some .int)) (by decide) rfl (Nat.le_of_ble_eq_true rfl) ?_
  intro p e s m args below meth c A ls St hr hlocks hin hK hT hA hP hD hS hl
  obtain ⟨hx, hb, hml, hown, hts⟩ := id St
  have hl : lv_has ls 6 [(0, .ref fo), (1, .int n), (2, .int mo9)] := hl
  refine lv_iconst (v := (-1)) hx hb dX0_utmostOfSeeds_0 (by decide) ?_
  refine lv_istore_n (lv' := [(3, .int (-1)), (0, .ref fo), (1, .int n), (2, .int mo9)]) hx hb dX0_utmostOfSeeds_1 rfl hl (by decide) rfl (fun ls hl => ?_)
  refine lv_iconst (v := 1) hx hb dX0_utmostOfSeeds_2 (by decide) ?_
  refine lv_istore (lv' := [(4, .int 1), (3, .int (-1)), (0, .ref fo), (1, .int n), (2, .int mo9)]) hx hb dX0_utmostOfSeeds_3 hl (by decide) rfl (fun ls hl => ?_)
  refine lv_iload hx hb dX0_utmostOfSeeds_5 (lv_at hl 0 rfl) ?_
  refine lv_bipush (v := 6) hx hb dX0_utmostOfSeeds_7 (by decide) ?_
  refine lv_icmp_gt (tgt := 54) hx hb dX0_utmostOfSeeds_9 (by decide) (fun c1 => absurd c1 (by decide)) (fun _ => ?_)
  refine lv_aload_n hx hb dX0_utmostOfSeeds_12 rfl (lv_at hl 2 rfl) ?_
  refine lv_iload hx hb dX0_utmostOfSeeds_13 (lv_at hl 0 rfl) ?_
  refine lv_iload_n hx hb dX0_utmostOfSeeds_15 rfl (lv_at hl 3 rfl) ?_
  refine mcallV (g := g) (q0 := 0) (ci := 0) (As := [.int 1, .int n]) (rest := []) St hK hT hA hP hD hS hl.1 [0, 1, 2, 3] [] rfl rfl rfl (c_tryOut l g fo o a tx ch jo tr dy sd f lo ac ls0 ll lm lg ld fc od ad ped wod txd chd jod trd dyd sdd fd 1 n (by assumption) (by assumption)) (cwV 2 hts (zgL (zl4 k191 k192 k193 k169) k190) rfl rfl rfl (by decide +kernel) ⟨Nat.le_of_ble_eq_true rfl, Nat.le_of_ble_eq_true rfl⟩) rfl rfl rfl rfl (Nat.le_of_ble_eq_true rfl) dX0_utmostOfSeeds_16 ⟨(Nat.le_of_ble_eq_true rfl), (Nat.le_of_ble_eq_true rfl)⟩ (fun u_ H locs hq7 hP hD hS => ?_)
  obtain ⟨dy3_2, h3_3, m3_4, g3_5, d3_6⟩ := u_
  have hP : va_P g.1 vwCl (List.flatten [[(fo, .inr (0, [.ref o, .ref lo, .ref od]))], bTown g o a 0 0 tx ch jo tr dy sd f, bLaw g lo ac ls0 ll m3_4 g3_5 d3_6 fc, bTown g od ad 0 0 tx ch jo tr dy3_2 1 h3_3]) H := hP
  have hD : va_D A (List.flatten [[(fo, .inr (0, [.ref o, .ref lo, .ref od]))], bTown g o a 0 0 tx ch jo tr dy sd f, bLaw g lo ac ls0 ll m3_4 g3_5 d3_6 fc, bTown g od ad 0 0 tx ch jo tr dy3_2 1 h3_3]) := hD
  refine W.widen (k := 0) (n := 0) (Nat.le_of_ble_eq_true rfl) (Nat.le_of_ble_eq_true rfl) ?_
  refine W.eq (g2 := F0 m 19 ls [.int 0]) rfl ?_
  refine lv_istore (lv' := [(5, .int 0), (4, .int 1), (3, .int (-1)), (0, .ref fo), (1, .int n), (2, .int mo9)]) hx hb dX0_utmostOfSeeds_19 hl (by decide) rfl (fun ls hl => ?_)
  refine lv_iload_n hx hb dX0_utmostOfSeeds_21 rfl (lv_at hl 2 rfl) ?_
  refine lv_iconst (v := (-1)) hx hb dX0_utmostOfSeeds_22 (by decide) ?_
  refine lv_icmp_eq (tgt := 45) hx hb dX0_utmostOfSeeds_23 (by decide) (fun _ => ?_) (fun c8 => absurd (by decide) c8)
  refine lv_iload hx hb dX0_utmostOfSeeds_45 (lv_at hl 0 rfl) ?_
  refine lv_istore_n (lv' := [(3, .int 0), (5, .int 0), (4, .int 1), (0, .ref fo), (1, .int n), (2, .int mo9)]) hx hb dX0_utmostOfSeeds_47 rfl hl (by decide) rfl (fun ls hl => ?_)
  refine lv_iinc (v := 2) (lv' := [(4, .int 2), (3, .int 0), (5, .int 0), (0, .ref fo), (1, .int n), (2, .int mo9)]) hx hb dX0_utmostOfSeeds_48 hl (k := 2) rfl (by decide) (by decide) rfl (fun ls hl => ?_)
  refine lv_goto (tgt := 5) hx hb dX0_utmostOfSeeds_51 (by decide) ?_
  refine lv_iload hx hb dX0_utmostOfSeeds_5 (lv_at hl 0 rfl) ?_
  refine lv_bipush (v := 6) hx hb dX0_utmostOfSeeds_7 (by decide) ?_
  refine lv_icmp_gt (tgt := 54) hx hb dX0_utmostOfSeeds_9 (by decide) (fun c9 => absurd c9 (by decide)) (fun _ => ?_)
  refine lv_aload_n hx hb dX0_utmostOfSeeds_12 rfl (lv_at hl 3 rfl) ?_
  refine lv_iload hx hb dX0_utmostOfSeeds_13 (lv_at hl 0 rfl) ?_
  refine lv_iload_n hx hb dX0_utmostOfSeeds_15 rfl (lv_at hl 4 rfl) ?_
  refine mcallV (g := g) (q0 := 0) (ci := 0) (As := [.int 2, .int n]) (rest := []) St hK hT hA hP hD hS hl.1 [0, 1, 2, 3] [] rfl rfl rfl (c_tryOut l g fo o a tx ch jo tr dy sd f lo ac ls0 ll m3_4 g3_5 d3_6 fc od ad 0 0 tx ch jo tr dy3_2 1 h3_3 2 n (by assumption) (by assumption)) (cwV 2 hts (zgL (zl4 k191 k192 k193 k169) k190) rfl rfl rfl (by decide +kernel) ⟨Nat.le_of_ble_eq_true rfl, Nat.le_of_ble_eq_true rfl⟩) rfl rfl rfl rfl (Nat.le_of_ble_eq_true rfl) dX0_utmostOfSeeds_16 ⟨(Nat.le_of_ble_eq_true rfl), (Nat.le_of_ble_eq_true rfl)⟩ (fun u_ H locs hq15 hP hD hS => ?_)
  obtain ⟨dy3_10, h3_11, m3_12, g3_13, d3_14⟩ := u_
  have hP : va_P g.1 vwCl (List.flatten [[(fo, .inr (0, [.ref o, .ref lo, .ref od]))], bTown g o a 0 0 tx ch jo tr dy sd f, bLaw g lo ac ls0 ll m3_12 g3_13 d3_14 fc, bTown g od ad 0 0 tx ch jo tr dy3_10 2 h3_11]) H := hP
  have hD : va_D A (List.flatten [[(fo, .inr (0, [.ref o, .ref lo, .ref od]))], bTown g o a 0 0 tx ch jo tr dy sd f, bLaw g lo ac ls0 ll m3_12 g3_13 d3_14 fc, bTown g od ad 0 0 tx ch jo tr dy3_10 2 h3_11]) := hD
  refine W.widen (k := 0) (n := 0) (Nat.le_of_ble_eq_true rfl) (Nat.le_of_ble_eq_true rfl) ?_
  refine W.eq (g2 := F0 m 19 ls [.int 0]) rfl ?_
  refine lv_istore (lv' := [(5, .int 0), (4, .int 2), (3, .int 0), (0, .ref fo), (1, .int n), (2, .int mo9)]) hx hb dX0_utmostOfSeeds_19 hl (by decide) rfl (fun ls hl => ?_)
  refine lv_iload_n hx hb dX0_utmostOfSeeds_21 rfl (lv_at hl 2 rfl) ?_
  refine lv_iconst (v := (-1)) hx hb dX0_utmostOfSeeds_22 (by decide) ?_
  refine lv_icmp_eq (tgt := 45) hx hb dX0_utmostOfSeeds_23 (by decide) (fun c16 => absurd c16 (by decide)) (fun _ => ?_)
  refine lv_iload_n hx hb dX0_utmostOfSeeds_26 rfl (lv_at hl 5 rfl) ?_
  refine lv_if_eq (tgt := 39) hx hb dX0_utmostOfSeeds_27 (by decide) (fun cB => ?_) (fun cB => ?_)
  · skip
    refine lv_iload hx hb dX0_utmostOfSeeds_39 (lv_at hl 0 rfl) ?_
    refine lv_iload_n hx hb dX0_utmostOfSeeds_41 rfl (lv_at hl 2 rfl) ?_
    refine lv_icmp_ge (tgt := 48) hx hb dX0_utmostOfSeeds_42 (by decide) (fun _ => ?_) (fun c18 => absurd (by decide) c18)
    refine lv_iinc (v := 3) (lv' := [(4, .int 3), (5, .int 0), (3, .int 0), (0, .ref fo), (1, .int n), (2, .int mo9)]) hx hb dX0_utmostOfSeeds_48 hl (k := 1) rfl (by decide) (by decide) rfl (fun ls hl => ?_)
    refine lv_goto (tgt := 5) hx hb dX0_utmostOfSeeds_51 (by decide) ?_
    refine lv_iload hx hb dX0_utmostOfSeeds_5 (lv_at hl 0 rfl) ?_
    refine lv_bipush (v := 6) hx hb dX0_utmostOfSeeds_7 (by decide) ?_
    refine lv_icmp_gt (tgt := 54) hx hb dX0_utmostOfSeeds_9 (by decide) (fun c19 => absurd c19 (by decide)) (fun _ => ?_)
    refine lv_aload_n hx hb dX0_utmostOfSeeds_12 rfl (lv_at hl 3 rfl) ?_
    refine lv_iload hx hb dX0_utmostOfSeeds_13 (lv_at hl 0 rfl) ?_
    refine lv_iload_n hx hb dX0_utmostOfSeeds_15 rfl (lv_at hl 4 rfl) ?_
    refine mcallV (g := g) (q0 := 0) (ci := 0) (As := [.int 3, .int n]) (rest := []) St hK hT hA hP hD hS hl.1 [0, 1, 2, 3] [] rfl rfl rfl (c_tryOut l g fo o a tx ch jo tr dy sd f lo ac ls0 ll m3_12 g3_13 d3_14 fc od ad 0 0 tx ch jo tr dy3_10 2 h3_11 3 n (by assumption) (by assumption)) (cwV 2 hts (zgL (zl4 k191 k192 k193 k169) k190) rfl rfl rfl (by decide +kernel) ⟨Nat.le_of_ble_eq_true rfl, Nat.le_of_ble_eq_true rfl⟩) rfl rfl rfl rfl (Nat.le_of_ble_eq_true rfl) dX0_utmostOfSeeds_16 ⟨(Nat.le_of_ble_eq_true rfl), (Nat.le_of_ble_eq_true rfl)⟩ (fun u_ H locs hq25 hP hD hS => ?_)
    obtain ⟨dy3_20, h3_21, m3_22, g3_23, d3_24⟩ := u_
    have hP : va_P g.1 vwCl (List.flatten [[(fo, .inr (0, [.ref o, .ref lo, .ref od]))], bTown g o a 0 0 tx ch jo tr dy sd f, bLaw g lo ac ls0 ll m3_22 g3_23 d3_24 fc, bTown g od ad 0 0 tx ch jo tr dy3_20 3 h3_21]) H := hP
    have hD : va_D A (List.flatten [[(fo, .inr (0, [.ref o, .ref lo, .ref od]))], bTown g o a 0 0 tx ch jo tr dy sd f, bLaw g lo ac ls0 ll m3_22 g3_23 d3_24 fc, bTown g od ad 0 0 tx ch jo tr dy3_20 3 h3_21]) := hD
    refine W.widen (k := 0) (n := 0) (Nat.le_of_ble_eq_true rfl) (Nat.le_of_ble_eq_true rfl) ?_
    refine W.eq (g2 := F0 m 19 ls [.int 0]) rfl ?_
    refine lv_istore (lv' := [(5, .int 0), (4, .int 3), (3, .int 0), (0, .ref fo), (1, .int n), (2, .int mo9)]) hx hb dX0_utmostOfSeeds_19 hl (by decide) rfl (fun ls hl => ?_)
    refine lv_iload_n hx hb dX0_utmostOfSeeds_21 rfl (lv_at hl 2 rfl) ?_
    refine lv_iconst (v := (-1)) hx hb dX0_utmostOfSeeds_22 (by decide) ?_
    refine lv_icmp_eq (tgt := 45) hx hb dX0_utmostOfSeeds_23 (by decide) (fun c26 => absurd c26 (by decide)) (fun _ => ?_)
    refine lv_iload_n hx hb dX0_utmostOfSeeds_26 rfl (lv_at hl 5 rfl) ?_
    refine lv_if_eq (tgt := 39) hx hb dX0_utmostOfSeeds_27 (by decide) (fun _ => ?_) (fun c27 => absurd cB c27)
    refine lv_iload hx hb dX0_utmostOfSeeds_39 (lv_at hl 0 rfl) ?_
    refine lv_iload_n hx hb dX0_utmostOfSeeds_41 rfl (lv_at hl 2 rfl) ?_
    refine lv_icmp_ge (tgt := 48) hx hb dX0_utmostOfSeeds_42 (by decide) (fun _ => ?_) (fun c28 => absurd (by decide) c28)
    refine lv_iinc (v := 4) (lv' := [(4, .int 4), (5, .int 0), (3, .int 0), (0, .ref fo), (1, .int n), (2, .int mo9)]) hx hb dX0_utmostOfSeeds_48 hl (k := 1) rfl (by decide) (by decide) rfl (fun ls hl => ?_)
    refine lv_goto (tgt := 5) hx hb dX0_utmostOfSeeds_51 (by decide) ?_
    refine lv_iload hx hb dX0_utmostOfSeeds_5 (lv_at hl 0 rfl) ?_
    refine lv_bipush (v := 6) hx hb dX0_utmostOfSeeds_7 (by decide) ?_
    refine lv_icmp_gt (tgt := 54) hx hb dX0_utmostOfSeeds_9 (by decide) (fun c29 => absurd c29 (by decide)) (fun _ => ?_)
    refine lv_aload_n hx hb dX0_utmostOfSeeds_12 rfl (lv_at hl 3 rfl) ?_
    refine lv_iload hx hb dX0_utmostOfSeeds_13 (lv_at hl 0 rfl) ?_
    refine lv_iload_n hx hb dX0_utmostOfSeeds_15 rfl (lv_at hl 4 rfl) ?_
    refine mcallV (g := g) (q0 := 0) (ci := 0) (As := [.int 4, .int n]) (rest := []) St hK hT hA hP hD hS hl.1 [0, 1, 2, 3] [] rfl rfl rfl (c_tryOut l g fo o a tx ch jo tr dy sd f lo ac ls0 ll m3_22 g3_23 d3_24 fc od ad 0 0 tx ch jo tr dy3_20 3 h3_21 4 n (by assumption) (by assumption)) (cwV 2 hts (zgL (zl4 k191 k192 k193 k169) k190) rfl rfl rfl (by decide +kernel) ⟨Nat.le_of_ble_eq_true rfl, Nat.le_of_ble_eq_true rfl⟩) rfl rfl rfl rfl (Nat.le_of_ble_eq_true rfl) dX0_utmostOfSeeds_16 ⟨(Nat.le_of_ble_eq_true rfl), (Nat.le_of_ble_eq_true rfl)⟩ (fun u_ H locs hq35 hP hD hS => ?_)
    obtain ⟨dy3_30, h3_31, m3_32, g3_33, d3_34⟩ := u_
    have hP : va_P g.1 vwCl (List.flatten [[(fo, .inr (0, [.ref o, .ref lo, .ref od]))], bTown g o a 0 0 tx ch jo tr dy sd f, bLaw g lo ac ls0 ll m3_32 g3_33 d3_34 fc, bTown g od ad 0 0 tx ch jo tr dy3_30 4 h3_31]) H := hP
    have hD : va_D A (List.flatten [[(fo, .inr (0, [.ref o, .ref lo, .ref od]))], bTown g o a 0 0 tx ch jo tr dy sd f, bLaw g lo ac ls0 ll m3_32 g3_33 d3_34 fc, bTown g od ad 0 0 tx ch jo tr dy3_30 4 h3_31]) := hD
    refine W.widen (k := 0) (n := 0) (Nat.le_of_ble_eq_true rfl) (Nat.le_of_ble_eq_true rfl) ?_
    refine W.eq (g2 := F0 m 19 ls [.int 0]) rfl ?_
    refine lv_istore (lv' := [(5, .int 0), (4, .int 4), (3, .int 0), (0, .ref fo), (1, .int n), (2, .int mo9)]) hx hb dX0_utmostOfSeeds_19 hl (by decide) rfl (fun ls hl => ?_)
    refine lv_iload_n hx hb dX0_utmostOfSeeds_21 rfl (lv_at hl 2 rfl) ?_
    refine lv_iconst (v := (-1)) hx hb dX0_utmostOfSeeds_22 (by decide) ?_
    refine lv_icmp_eq (tgt := 45) hx hb dX0_utmostOfSeeds_23 (by decide) (fun c36 => absurd c36 (by decide)) (fun _ => ?_)
    refine lv_iload_n hx hb dX0_utmostOfSeeds_26 rfl (lv_at hl 5 rfl) ?_
    refine lv_if_eq (tgt := 39) hx hb dX0_utmostOfSeeds_27 (by decide) (fun _ => ?_) (fun c37 => absurd cB c37)
    refine lv_iload hx hb dX0_utmostOfSeeds_39 (lv_at hl 0 rfl) ?_
    refine lv_iload_n hx hb dX0_utmostOfSeeds_41 rfl (lv_at hl 2 rfl) ?_
    refine lv_icmp_ge (tgt := 48) hx hb dX0_utmostOfSeeds_42 (by decide) (fun _ => ?_) (fun c38 => absurd (by decide) c38)
    refine lv_iinc (v := 5) (lv' := [(4, .int 5), (5, .int 0), (3, .int 0), (0, .ref fo), (1, .int n), (2, .int mo9)]) hx hb dX0_utmostOfSeeds_48 hl (k := 1) rfl (by decide) (by decide) rfl (fun ls hl => ?_)
    refine lv_goto (tgt := 5) hx hb dX0_utmostOfSeeds_51 (by decide) ?_
    refine lv_iload hx hb dX0_utmostOfSeeds_5 (lv_at hl 0 rfl) ?_
    refine lv_bipush (v := 6) hx hb dX0_utmostOfSeeds_7 (by decide) ?_
    refine lv_icmp_gt (tgt := 54) hx hb dX0_utmostOfSeeds_9 (by decide) (fun c39 => absurd c39 (by decide)) (fun _ => ?_)
    refine lv_aload_n hx hb dX0_utmostOfSeeds_12 rfl (lv_at hl 3 rfl) ?_
    refine lv_iload hx hb dX0_utmostOfSeeds_13 (lv_at hl 0 rfl) ?_
    refine lv_iload_n hx hb dX0_utmostOfSeeds_15 rfl (lv_at hl 4 rfl) ?_
    refine mcallV (g := g) (q0 := 0) (ci := 0) (As := [.int 5, .int n]) (rest := []) St hK hT hA hP hD hS hl.1 [0, 1, 2, 3] [] rfl rfl rfl (c_tryOut l g fo o a tx ch jo tr dy sd f lo ac ls0 ll m3_32 g3_33 d3_34 fc od ad 0 0 tx ch jo tr dy3_30 4 h3_31 5 n (by assumption) (by assumption)) (cwV 2 hts (zgL (zl4 k191 k192 k193 k169) k190) rfl rfl rfl (by decide +kernel) ⟨Nat.le_of_ble_eq_true rfl, Nat.le_of_ble_eq_true rfl⟩) rfl rfl rfl rfl (Nat.le_of_ble_eq_true rfl) dX0_utmostOfSeeds_16 ⟨(Nat.le_of_ble_eq_true rfl), (Nat.le_of_ble_eq_true rfl)⟩ (fun u_ H locs hq45 hP hD hS => ?_)
    obtain ⟨dy3_40, h3_41, m3_42, g3_43, d3_44⟩ := u_
    have hP : va_P g.1 vwCl (List.flatten [[(fo, .inr (0, [.ref o, .ref lo, .ref od]))], bTown g o a 0 0 tx ch jo tr dy sd f, bLaw g lo ac ls0 ll m3_42 g3_43 d3_44 fc, bTown g od ad 0 0 tx ch jo tr dy3_40 5 h3_41]) H := hP
    have hD : va_D A (List.flatten [[(fo, .inr (0, [.ref o, .ref lo, .ref od]))], bTown g o a 0 0 tx ch jo tr dy sd f, bLaw g lo ac ls0 ll m3_42 g3_43 d3_44 fc, bTown g od ad 0 0 tx ch jo tr dy3_40 5 h3_41]) := hD
    refine W.widen (k := 0) (n := 0) (Nat.le_of_ble_eq_true rfl) (Nat.le_of_ble_eq_true rfl) ?_
    refine W.eq (g2 := F0 m 19 ls [.int 0]) rfl ?_
    refine lv_istore (lv' := [(5, .int 0), (4, .int 5), (3, .int 0), (0, .ref fo), (1, .int n), (2, .int mo9)]) hx hb dX0_utmostOfSeeds_19 hl (by decide) rfl (fun ls hl => ?_)
    refine lv_iload_n hx hb dX0_utmostOfSeeds_21 rfl (lv_at hl 2 rfl) ?_
    refine lv_iconst (v := (-1)) hx hb dX0_utmostOfSeeds_22 (by decide) ?_
    refine lv_icmp_eq (tgt := 45) hx hb dX0_utmostOfSeeds_23 (by decide) (fun c46 => absurd c46 (by decide)) (fun _ => ?_)
    refine lv_iload_n hx hb dX0_utmostOfSeeds_26 rfl (lv_at hl 5 rfl) ?_
    refine lv_if_eq (tgt := 39) hx hb dX0_utmostOfSeeds_27 (by decide) (fun _ => ?_) (fun c47 => absurd cB c47)
    refine lv_iload hx hb dX0_utmostOfSeeds_39 (lv_at hl 0 rfl) ?_
    refine lv_iload_n hx hb dX0_utmostOfSeeds_41 rfl (lv_at hl 2 rfl) ?_
    refine lv_icmp_ge (tgt := 48) hx hb dX0_utmostOfSeeds_42 (by decide) (fun _ => ?_) (fun c48 => absurd (by decide) c48)
    refine lv_iinc (v := 6) (lv' := [(4, .int 6), (5, .int 0), (3, .int 0), (0, .ref fo), (1, .int n), (2, .int mo9)]) hx hb dX0_utmostOfSeeds_48 hl (k := 1) rfl (by decide) (by decide) rfl (fun ls hl => ?_)
    refine lv_goto (tgt := 5) hx hb dX0_utmostOfSeeds_51 (by decide) ?_
    refine lv_iload hx hb dX0_utmostOfSeeds_5 (lv_at hl 0 rfl) ?_
    refine lv_bipush (v := 6) hx hb dX0_utmostOfSeeds_7 (by decide) ?_
    refine lv_icmp_gt (tgt := 54) hx hb dX0_utmostOfSeeds_9 (by decide) (fun c49 => absurd c49 (by decide)) (fun _ => ?_)
    refine lv_aload_n hx hb dX0_utmostOfSeeds_12 rfl (lv_at hl 3 rfl) ?_
    refine lv_iload hx hb dX0_utmostOfSeeds_13 (lv_at hl 0 rfl) ?_
    refine lv_iload_n hx hb dX0_utmostOfSeeds_15 rfl (lv_at hl 4 rfl) ?_
    refine mcallV (g := g) (q0 := 0) (ci := 0) (As := [.int 6, .int n]) (rest := []) St hK hT hA hP hD hS hl.1 [0, 1, 2, 3] [] rfl rfl rfl (c_tryOut l g fo o a tx ch jo tr dy sd f lo ac ls0 ll m3_42 g3_43 d3_44 fc od ad 0 0 tx ch jo tr dy3_40 5 h3_41 6 n (by assumption) (by assumption)) (cwV 2 hts (zgL (zl4 k191 k192 k193 k169) k190) rfl rfl rfl (by decide +kernel) ⟨Nat.le_of_ble_eq_true rfl, Nat.le_of_ble_eq_true rfl⟩) rfl rfl rfl rfl (Nat.le_of_ble_eq_true rfl) dX0_utmostOfSeeds_16 ⟨(Nat.le_of_ble_eq_true rfl), (Nat.le_of_ble_eq_true rfl)⟩ (fun u_ H locs hq55 hP hD hS => ?_)
    obtain ⟨dy3_50, h3_51, m3_52, g3_53, d3_54⟩ := u_
    have hP : va_P g.1 vwCl (List.flatten [[(fo, .inr (0, [.ref o, .ref lo, .ref od]))], bTown g o a 0 0 tx ch jo tr dy sd f, bLaw g lo ac ls0 ll m3_52 g3_53 d3_54 fc, bTown g od ad 0 0 tx ch jo tr dy3_50 6 h3_51]) H := hP
    have hD : va_D A (List.flatten [[(fo, .inr (0, [.ref o, .ref lo, .ref od]))], bTown g o a 0 0 tx ch jo tr dy sd f, bLaw g lo ac ls0 ll m3_52 g3_53 d3_54 fc, bTown g od ad 0 0 tx ch jo tr dy3_50 6 h3_51]) := hD
    refine W.widen (k := 0) (n := 0) (Nat.le_of_ble_eq_true rfl) (Nat.le_of_ble_eq_true rfl) ?_
    refine W.eq (g2 := F0 m 19 ls [.int 0]) rfl ?_
    refine lv_istore (lv' := [(5, .int 0), (4, .int 6), (3, .int 0), (0, .ref fo), (1, .int n), (2, .int mo9)]) hx hb dX0_utmostOfSeeds_19 hl (by decide) rfl (fun ls hl => ?_)
    refine lv_iload_n hx hb dX0_utmostOfSeeds_21 rfl (lv_at hl 2 rfl) ?_
    refine lv_iconst (v := (-1)) hx hb dX0_utmostOfSeeds_22 (by decide) ?_
    refine lv_icmp_eq (tgt := 45) hx hb dX0_utmostOfSeeds_23 (by decide) (fun c56 => absurd c56 (by decide)) (fun _ => ?_)
    refine lv_iload_n hx hb dX0_utmostOfSeeds_26 rfl (lv_at hl 5 rfl) ?_
    refine lv_if_eq (tgt := 39) hx hb dX0_utmostOfSeeds_27 (by decide) (fun _ => ?_) (fun c57 => absurd cB c57)
    refine lv_iload hx hb dX0_utmostOfSeeds_39 (lv_at hl 0 rfl) ?_
    refine lv_iload_n hx hb dX0_utmostOfSeeds_41 rfl (lv_at hl 2 rfl) ?_
    refine lv_icmp_ge (tgt := 48) hx hb dX0_utmostOfSeeds_42 (by decide) (fun _ => ?_) (fun c58 => absurd (by decide) c58)
    refine lv_iinc (v := 7) (lv' := [(4, .int 7), (5, .int 0), (3, .int 0), (0, .ref fo), (1, .int n), (2, .int mo9)]) hx hb dX0_utmostOfSeeds_48 hl (k := 1) rfl (by decide) (by decide) rfl (fun ls hl => ?_)
    refine lv_goto (tgt := 5) hx hb dX0_utmostOfSeeds_51 (by decide) ?_
    refine lv_iload hx hb dX0_utmostOfSeeds_5 (lv_at hl 0 rfl) ?_
    refine lv_bipush (v := 6) hx hb dX0_utmostOfSeeds_7 (by decide) ?_
    refine lv_icmp_gt (tgt := 54) hx hb dX0_utmostOfSeeds_9 (by decide) (fun _ => ?_) (fun c59 => absurd (by decide) c59)
    refine lv_iload_n hx hb dX0_utmostOfSeeds_54 rfl (lv_at hl 2 rfl) ?_
    have hP : va_P g.1 vwCl (List.flatten [[(fo, .inr (0, [.ref o, .ref lo, .ref od]))], bTown g o a 0 0 tx ch jo tr dy sd f, bLaw g lo ac ls0 ll m3_52 g3_53 d3_54 fc, bTown g od ad 0 0 tx ch jo tr dy3_50 6 h3_51]) H := hP
    have hD : va_D A (List.flatten [[(fo, .inr (0, [.ref o, .ref lo, .ref od]))], bTown g o a 0 0 tx ch jo tr dy sd f, bLaw g lo ac ls0 ll m3_52 g3_53 d3_54 fc, bTown g od ad 0 0 tx ch jo tr dy3_50 6 h3_51]) := hD
    obtain ⟨hP, hD⟩ := zord (g := g) (Bs' := []) [] rfl rfl hP hD
    exact mret_i hx hb hr hlocks hS (Nat.le_of_ble_eq_true rfl) (Nat.le_of_ble_eq_true rfl) dX0_utmostOfSeeds_55 () rfl trivial hP hD
  · skip
    refine lv_iload hx hb dX0_utmostOfSeeds_30 (lv_at hl 0 rfl) ?_
    refine lv_iload_n hx hb dX0_utmostOfSeeds_32 rfl (lv_at hl 2 rfl) ?_
    refine lv_icmp_le (tgt := 48) hx hb dX0_utmostOfSeeds_33 (by decide) (fun _ => ?_) (fun c60 => absurd (by decide) c60)
    refine lv_iinc (v := 3) (lv' := [(4, .int 3), (5, .int 0), (3, .int 0), (0, .ref fo), (1, .int n), (2, .int mo9)]) hx hb dX0_utmostOfSeeds_48 hl (k := 1) rfl (by decide) (by decide) rfl (fun ls hl => ?_)
    refine lv_goto (tgt := 5) hx hb dX0_utmostOfSeeds_51 (by decide) ?_
    refine lv_iload hx hb dX0_utmostOfSeeds_5 (lv_at hl 0 rfl) ?_
    refine lv_bipush (v := 6) hx hb dX0_utmostOfSeeds_7 (by decide) ?_
    refine lv_icmp_gt (tgt := 54) hx hb dX0_utmostOfSeeds_9 (by decide) (fun c61 => absurd c61 (by decide)) (fun _ => ?_)
    refine lv_aload_n hx hb dX0_utmostOfSeeds_12 rfl (lv_at hl 3 rfl) ?_
    refine lv_iload hx hb dX0_utmostOfSeeds_13 (lv_at hl 0 rfl) ?_
    refine lv_iload_n hx hb dX0_utmostOfSeeds_15 rfl (lv_at hl 4 rfl) ?_
    refine mcallV (g := g) (q0 := 0) (ci := 0) (As := [.int 3, .int n]) (rest := []) St hK hT hA hP hD hS hl.1 [0, 1, 2, 3] [] rfl rfl rfl (c_tryOut l g fo o a tx ch jo tr dy sd f lo ac ls0 ll m3_12 g3_13 d3_14 fc od ad 0 0 tx ch jo tr dy3_10 2 h3_11 3 n (by assumption) (by assumption)) (cwV 2 hts (zgL (zl4 k191 k192 k193 k169) k190) rfl rfl rfl (by decide +kernel) ⟨Nat.le_of_ble_eq_true rfl, Nat.le_of_ble_eq_true rfl⟩) rfl rfl rfl rfl (Nat.le_of_ble_eq_true rfl) dX0_utmostOfSeeds_16 ⟨(Nat.le_of_ble_eq_true rfl), (Nat.le_of_ble_eq_true rfl)⟩ (fun u_ H locs hq67 hP hD hS => ?_)
    obtain ⟨dy3_62, h3_63, m3_64, g3_65, d3_66⟩ := u_
    have hP : va_P g.1 vwCl (List.flatten [[(fo, .inr (0, [.ref o, .ref lo, .ref od]))], bTown g o a 0 0 tx ch jo tr dy sd f, bLaw g lo ac ls0 ll m3_64 g3_65 d3_66 fc, bTown g od ad 0 0 tx ch jo tr dy3_62 3 h3_63]) H := hP
    have hD : va_D A (List.flatten [[(fo, .inr (0, [.ref o, .ref lo, .ref od]))], bTown g o a 0 0 tx ch jo tr dy sd f, bLaw g lo ac ls0 ll m3_64 g3_65 d3_66 fc, bTown g od ad 0 0 tx ch jo tr dy3_62 3 h3_63]) := hD
    refine W.widen (k := 0) (n := 0) (Nat.le_of_ble_eq_true rfl) (Nat.le_of_ble_eq_true rfl) ?_
    refine W.eq (g2 := F0 m 19 ls [.int 0]) rfl ?_
    refine lv_istore (lv' := [(5, .int 0), (4, .int 3), (3, .int 0), (0, .ref fo), (1, .int n), (2, .int mo9)]) hx hb dX0_utmostOfSeeds_19 hl (by decide) rfl (fun ls hl => ?_)
    refine lv_iload_n hx hb dX0_utmostOfSeeds_21 rfl (lv_at hl 2 rfl) ?_
    refine lv_iconst (v := (-1)) hx hb dX0_utmostOfSeeds_22 (by decide) ?_
    refine lv_icmp_eq (tgt := 45) hx hb dX0_utmostOfSeeds_23 (by decide) (fun c68 => absurd c68 (by decide)) (fun _ => ?_)
    refine lv_iload_n hx hb dX0_utmostOfSeeds_26 rfl (lv_at hl 5 rfl) ?_
    refine lv_if_eq (tgt := 39) hx hb dX0_utmostOfSeeds_27 (by decide) (fun c69 => absurd c69 cB) (fun _ => ?_)
    refine lv_iload hx hb dX0_utmostOfSeeds_30 (lv_at hl 0 rfl) ?_
    refine lv_iload_n hx hb dX0_utmostOfSeeds_32 rfl (lv_at hl 2 rfl) ?_
    refine lv_icmp_le (tgt := 48) hx hb dX0_utmostOfSeeds_33 (by decide) (fun _ => ?_) (fun c70 => absurd (by decide) c70)
    refine lv_iinc (v := 4) (lv' := [(4, .int 4), (5, .int 0), (3, .int 0), (0, .ref fo), (1, .int n), (2, .int mo9)]) hx hb dX0_utmostOfSeeds_48 hl (k := 1) rfl (by decide) (by decide) rfl (fun ls hl => ?_)
    refine lv_goto (tgt := 5) hx hb dX0_utmostOfSeeds_51 (by decide) ?_
    refine lv_iload hx hb dX0_utmostOfSeeds_5 (lv_at hl 0 rfl) ?_
    refine lv_bipush (v := 6) hx hb dX0_utmostOfSeeds_7 (by decide) ?_
    refine lv_icmp_gt (tgt := 54) hx hb dX0_utmostOfSeeds_9 (by decide) (fun c71 => absurd c71 (by decide)) (fun _ => ?_)
    refine lv_aload_n hx hb dX0_utmostOfSeeds_12 rfl (lv_at hl 3 rfl) ?_
    refine lv_iload hx hb dX0_utmostOfSeeds_13 (lv_at hl 0 rfl) ?_
    refine lv_iload_n hx hb dX0_utmostOfSeeds_15 rfl (lv_at hl 4 rfl) ?_
    refine mcallV (g := g) (q0 := 0) (ci := 0) (As := [.int 4, .int n]) (rest := []) St hK hT hA hP hD hS hl.1 [0, 1, 2, 3] [] rfl rfl rfl (c_tryOut l g fo o a tx ch jo tr dy sd f lo ac ls0 ll m3_64 g3_65 d3_66 fc od ad 0 0 tx ch jo tr dy3_62 3 h3_63 4 n (by assumption) (by assumption)) (cwV 2 hts (zgL (zl4 k191 k192 k193 k169) k190) rfl rfl rfl (by decide +kernel) ⟨Nat.le_of_ble_eq_true rfl, Nat.le_of_ble_eq_true rfl⟩) rfl rfl rfl rfl (Nat.le_of_ble_eq_true rfl) dX0_utmostOfSeeds_16 ⟨(Nat.le_of_ble_eq_true rfl), (Nat.le_of_ble_eq_true rfl)⟩ (fun u_ H locs hq77 hP hD hS => ?_)
    obtain ⟨dy3_72, h3_73, m3_74, g3_75, d3_76⟩ := u_
    have hP : va_P g.1 vwCl (List.flatten [[(fo, .inr (0, [.ref o, .ref lo, .ref od]))], bTown g o a 0 0 tx ch jo tr dy sd f, bLaw g lo ac ls0 ll m3_74 g3_75 d3_76 fc, bTown g od ad 0 0 tx ch jo tr dy3_72 4 h3_73]) H := hP
    have hD : va_D A (List.flatten [[(fo, .inr (0, [.ref o, .ref lo, .ref od]))], bTown g o a 0 0 tx ch jo tr dy sd f, bLaw g lo ac ls0 ll m3_74 g3_75 d3_76 fc, bTown g od ad 0 0 tx ch jo tr dy3_72 4 h3_73]) := hD
    refine W.widen (k := 0) (n := 0) (Nat.le_of_ble_eq_true rfl) (Nat.le_of_ble_eq_true rfl) ?_
    refine W.eq (g2 := F0 m 19 ls [.int 0]) rfl ?_
    refine lv_istore (lv' := [(5, .int 0), (4, .int 4), (3, .int 0), (0, .ref fo), (1, .int n), (2, .int mo9)]) hx hb dX0_utmostOfSeeds_19 hl (by decide) rfl (fun ls hl => ?_)
    refine lv_iload_n hx hb dX0_utmostOfSeeds_21 rfl (lv_at hl 2 rfl) ?_
    refine lv_iconst (v := (-1)) hx hb dX0_utmostOfSeeds_22 (by decide) ?_
    refine lv_icmp_eq (tgt := 45) hx hb dX0_utmostOfSeeds_23 (by decide) (fun c78 => absurd c78 (by decide)) (fun _ => ?_)
    refine lv_iload_n hx hb dX0_utmostOfSeeds_26 rfl (lv_at hl 5 rfl) ?_
    refine lv_if_eq (tgt := 39) hx hb dX0_utmostOfSeeds_27 (by decide) (fun c79 => absurd c79 cB) (fun _ => ?_)
    refine lv_iload hx hb dX0_utmostOfSeeds_30 (lv_at hl 0 rfl) ?_
    refine lv_iload_n hx hb dX0_utmostOfSeeds_32 rfl (lv_at hl 2 rfl) ?_
    refine lv_icmp_le (tgt := 48) hx hb dX0_utmostOfSeeds_33 (by decide) (fun _ => ?_) (fun c80 => absurd (by decide) c80)
    refine lv_iinc (v := 5) (lv' := [(4, .int 5), (5, .int 0), (3, .int 0), (0, .ref fo), (1, .int n), (2, .int mo9)]) hx hb dX0_utmostOfSeeds_48 hl (k := 1) rfl (by decide) (by decide) rfl (fun ls hl => ?_)
    refine lv_goto (tgt := 5) hx hb dX0_utmostOfSeeds_51 (by decide) ?_
    refine lv_iload hx hb dX0_utmostOfSeeds_5 (lv_at hl 0 rfl) ?_
    refine lv_bipush (v := 6) hx hb dX0_utmostOfSeeds_7 (by decide) ?_
    refine lv_icmp_gt (tgt := 54) hx hb dX0_utmostOfSeeds_9 (by decide) (fun c81 => absurd c81 (by decide)) (fun _ => ?_)
    refine lv_aload_n hx hb dX0_utmostOfSeeds_12 rfl (lv_at hl 3 rfl) ?_
    refine lv_iload hx hb dX0_utmostOfSeeds_13 (lv_at hl 0 rfl) ?_
    refine lv_iload_n hx hb dX0_utmostOfSeeds_15 rfl (lv_at hl 4 rfl) ?_
    refine mcallV (g := g) (q0 := 0) (ci := 0) (As := [.int 5, .int n]) (rest := []) St hK hT hA hP hD hS hl.1 [0, 1, 2, 3] [] rfl rfl rfl (c_tryOut l g fo o a tx ch jo tr dy sd f lo ac ls0 ll m3_74 g3_75 d3_76 fc od ad 0 0 tx ch jo tr dy3_72 4 h3_73 5 n (by assumption) (by assumption)) (cwV 2 hts (zgL (zl4 k191 k192 k193 k169) k190) rfl rfl rfl (by decide +kernel) ⟨Nat.le_of_ble_eq_true rfl, Nat.le_of_ble_eq_true rfl⟩) rfl rfl rfl rfl (Nat.le_of_ble_eq_true rfl) dX0_utmostOfSeeds_16 ⟨(Nat.le_of_ble_eq_true rfl), (Nat.le_of_ble_eq_true rfl)⟩ (fun u_ H locs hq87 hP hD hS => ?_)
    obtain ⟨dy3_82, h3_83, m3_84, g3_85, d3_86⟩ := u_
    have hP : va_P g.1 vwCl (List.flatten [[(fo, .inr (0, [.ref o, .ref lo, .ref od]))], bTown g o a 0 0 tx ch jo tr dy sd f, bLaw g lo ac ls0 ll m3_84 g3_85 d3_86 fc, bTown g od ad 0 0 tx ch jo tr dy3_82 5 h3_83]) H := hP
    have hD : va_D A (List.flatten [[(fo, .inr (0, [.ref o, .ref lo, .ref od]))], bTown g o a 0 0 tx ch jo tr dy sd f, bLaw g lo ac ls0 ll m3_84 g3_85 d3_86 fc, bTown g od ad 0 0 tx ch jo tr dy3_82 5 h3_83]) := hD
    refine W.widen (k := 0) (n := 0) (Nat.le_of_ble_eq_true rfl) (Nat.le_of_ble_eq_true rfl) ?_
    refine W.eq (g2 := F0 m 19 ls [.int 0]) rfl ?_
    refine lv_istore (lv' := [(5, .int 0), (4, .int 5), (3, .int 0), (0, .ref fo), (1, .int n), (2, .int mo9)]) hx hb dX0_utmostOfSeeds_19 hl (by decide) rfl (fun ls hl => ?_)
    refine lv_iload_n hx hb dX0_utmostOfSeeds_21 rfl (lv_at hl 2 rfl) ?_
    refine lv_iconst (v := (-1)) hx hb dX0_utmostOfSeeds_22 (by decide) ?_
    refine lv_icmp_eq (tgt := 45) hx hb dX0_utmostOfSeeds_23 (by decide) (fun c88 => absurd c88 (by decide)) (fun _ => ?_)
    refine lv_iload_n hx hb dX0_utmostOfSeeds_26 rfl (lv_at hl 5 rfl) ?_
    refine lv_if_eq (tgt := 39) hx hb dX0_utmostOfSeeds_27 (by decide) (fun c89 => absurd c89 cB) (fun _ => ?_)
    refine lv_iload hx hb dX0_utmostOfSeeds_30 (lv_at hl 0 rfl) ?_
    refine lv_iload_n hx hb dX0_utmostOfSeeds_32 rfl (lv_at hl 2 rfl) ?_
    refine lv_icmp_le (tgt := 48) hx hb dX0_utmostOfSeeds_33 (by decide) (fun _ => ?_) (fun c90 => absurd (by decide) c90)
    refine lv_iinc (v := 6) (lv' := [(4, .int 6), (5, .int 0), (3, .int 0), (0, .ref fo), (1, .int n), (2, .int mo9)]) hx hb dX0_utmostOfSeeds_48 hl (k := 1) rfl (by decide) (by decide) rfl (fun ls hl => ?_)
    refine lv_goto (tgt := 5) hx hb dX0_utmostOfSeeds_51 (by decide) ?_
    refine lv_iload hx hb dX0_utmostOfSeeds_5 (lv_at hl 0 rfl) ?_
    refine lv_bipush (v := 6) hx hb dX0_utmostOfSeeds_7 (by decide) ?_
    refine lv_icmp_gt (tgt := 54) hx hb dX0_utmostOfSeeds_9 (by decide) (fun c91 => absurd c91 (by decide)) (fun _ => ?_)
    refine lv_aload_n hx hb dX0_utmostOfSeeds_12 rfl (lv_at hl 3 rfl) ?_
    refine lv_iload hx hb dX0_utmostOfSeeds_13 (lv_at hl 0 rfl) ?_
    refine lv_iload_n hx hb dX0_utmostOfSeeds_15 rfl (lv_at hl 4 rfl) ?_
    refine mcallV (g := g) (q0 := 0) (ci := 0) (As := [.int 6, .int n]) (rest := []) St hK hT hA hP hD hS hl.1 [0, 1, 2, 3] [] rfl rfl rfl (c_tryOut l g fo o a tx ch jo tr dy sd f lo ac ls0 ll m3_84 g3_85 d3_86 fc od ad 0 0 tx ch jo tr dy3_82 5 h3_83 6 n (by assumption) (by assumption)) (cwV 2 hts (zgL (zl4 k191 k192 k193 k169) k190) rfl rfl rfl (by decide +kernel) ⟨Nat.le_of_ble_eq_true rfl, Nat.le_of_ble_eq_true rfl⟩) rfl rfl rfl rfl (Nat.le_of_ble_eq_true rfl) dX0_utmostOfSeeds_16 ⟨(Nat.le_of_ble_eq_true rfl), (Nat.le_of_ble_eq_true rfl)⟩ (fun u_ H locs hq97 hP hD hS => ?_)
    obtain ⟨dy3_92, h3_93, m3_94, g3_95, d3_96⟩ := u_
    have hP : va_P g.1 vwCl (List.flatten [[(fo, .inr (0, [.ref o, .ref lo, .ref od]))], bTown g o a 0 0 tx ch jo tr dy sd f, bLaw g lo ac ls0 ll m3_94 g3_95 d3_96 fc, bTown g od ad 0 0 tx ch jo tr dy3_92 6 h3_93]) H := hP
    have hD : va_D A (List.flatten [[(fo, .inr (0, [.ref o, .ref lo, .ref od]))], bTown g o a 0 0 tx ch jo tr dy sd f, bLaw g lo ac ls0 ll m3_94 g3_95 d3_96 fc, bTown g od ad 0 0 tx ch jo tr dy3_92 6 h3_93]) := hD
    refine W.widen (k := 0) (n := 0) (Nat.le_of_ble_eq_true rfl) (Nat.le_of_ble_eq_true rfl) ?_
    refine W.eq (g2 := F0 m 19 ls [.int 0]) rfl ?_
    refine lv_istore (lv' := [(5, .int 0), (4, .int 6), (3, .int 0), (0, .ref fo), (1, .int n), (2, .int mo9)]) hx hb dX0_utmostOfSeeds_19 hl (by decide) rfl (fun ls hl => ?_)
    refine lv_iload_n hx hb dX0_utmostOfSeeds_21 rfl (lv_at hl 2 rfl) ?_
    refine lv_iconst (v := (-1)) hx hb dX0_utmostOfSeeds_22 (by decide) ?_
    refine lv_icmp_eq (tgt := 45) hx hb dX0_utmostOfSeeds_23 (by decide) (fun c98 => absurd c98 (by decide)) (fun _ => ?_)
    refine lv_iload_n hx hb dX0_utmostOfSeeds_26 rfl (lv_at hl 5 rfl) ?_
    refine lv_if_eq (tgt := 39) hx hb dX0_utmostOfSeeds_27 (by decide) (fun c99 => absurd c99 cB) (fun _ => ?_)
    refine lv_iload hx hb dX0_utmostOfSeeds_30 (lv_at hl 0 rfl) ?_
    refine lv_iload_n hx hb dX0_utmostOfSeeds_32 rfl (lv_at hl 2 rfl) ?_
    refine lv_icmp_le (tgt := 48) hx hb dX0_utmostOfSeeds_33 (by decide) (fun _ => ?_) (fun c100 => absurd (by decide) c100)
    refine lv_iinc (v := 7) (lv' := [(4, .int 7), (5, .int 0), (3, .int 0), (0, .ref fo), (1, .int n), (2, .int mo9)]) hx hb dX0_utmostOfSeeds_48 hl (k := 1) rfl (by decide) (by decide) rfl (fun ls hl => ?_)
    refine lv_goto (tgt := 5) hx hb dX0_utmostOfSeeds_51 (by decide) ?_
    refine lv_iload hx hb dX0_utmostOfSeeds_5 (lv_at hl 0 rfl) ?_
    refine lv_bipush (v := 6) hx hb dX0_utmostOfSeeds_7 (by decide) ?_
    refine lv_icmp_gt (tgt := 54) hx hb dX0_utmostOfSeeds_9 (by decide) (fun _ => ?_) (fun c101 => absurd (by decide) c101)
    refine lv_iload_n hx hb dX0_utmostOfSeeds_54 rfl (lv_at hl 2 rfl) ?_
    have hP : va_P g.1 vwCl (List.flatten [[(fo, .inr (0, [.ref o, .ref lo, .ref od]))], bTown g o a 0 0 tx ch jo tr dy sd f, bLaw g lo ac ls0 ll m3_94 g3_95 d3_96 fc, bTown g od ad 0 0 tx ch jo tr dy3_92 6 h3_93]) H := hP
    have hD : va_D A (List.flatten [[(fo, .inr (0, [.ref o, .ref lo, .ref od]))], bTown g o a 0 0 tx ch jo tr dy sd f, bLaw g lo ac ls0 ll m3_94 g3_95 d3_96 fc, bTown g od ad 0 0 tx ch jo tr dy3_92 6 h3_93]) := hD
    obtain ⟨hP, hD⟩ := zord (g := g) (Bs' := []) [] rfl rfl hP hD
    exact mret_i hx hb hr hlocks hS (Nat.le_of_ble_eq_true rfl) (Nat.le_of_ble_eq_true rfl) dX0_utmostOfSeeds_55 () rfl trivial hP hD
set_option maxRecDepth 100000 in
set_option maxHeartbeats 4000000 in
theorem c_Foresight_init (l : Launch) (g : zG) (fo : Nat) (o : Nat) (lo : Nat)  : zM g l yX0_init (Cond.code yX0_init cX0_init 3 none :: zB) ({ frames := 2, cells := 12, slots := 155, locals := 33 } : Room) [.ref fo, .ref o, .ref lo] [[(fo, .inr (0, [.null, .null, .null]))]] (fun u : Nat × (Nat → Nat) => (fun (od : Nat) (ad : Nat → Nat) => none) (u.1) (u.2)) (fun u : Nat × (Nat → Nat) => (fun (od : Nat) (ad : Nat → Nat) => True) (u.1) (u.2)) (fun u : Nat × (Nat → Nat) => (fun (od : Nat) (ad : Nat → Nat) => [[(fo, .inr (0, [.ref o, .ref lo, .ref od]))], bTown g od ad 0 0 0 20 6 50 0 1 (fun _ _ => 0)]) (u.1) (u.2)) := by
  refine zM.of (cc := cX0_init) (maxL := 3) (rt := none) (by decide) rfl (Nat.le_of_ble_eq_true rfl) ?_
  intro p e s m args below meth c A ls St hr hlocks hin hK hT hA hP hD hS hl
  obtain ⟨hx, hb, hml, hown, hts⟩ := id St
  have hl : lv_has ls 3 [(0, .ref fo), (1, .ref o), (2, .ref lo)] := hl
  refine lv_aload_n hx hb dX0_init_0 rfl (lv_at hl 0 rfl) ?_
  refine W.objInit hx hb hown (hts (.methodLink RX0 3 objectInit) k21) (hts (.instanceMethod objectInit) k2) (hts (.code objectInit ⟨#[0xb1]⟩ 1 none) k3) rfl (by rw [hml]; exact hl.1) rfl dX0_init_1 (Nat.le_of_ble_eq_true rfl) (Nat.le_of_ble_eq_true rfl) ?_
  refine W.eq (g2 := F0 m 4 ls []) rfl ?_
  refine lv_aload_n hx hb dX0_init_4 rfl (lv_at hl 0 rfl) ?_
  refine znew (g := g) (ci := 7) (fs := [.int 0, .int 0, .int 0, .int 0, .int 0, .int 0, .int 0, .int 0, .null, .null, .null, .null, .null, .null, .null, .null, .null, .null, .null]) (C := RX9) (T := TX9) (N := 19) hx hb hts izRX9 tyX9 tyX9_ok hown (hts _ k22) (hts _ k23) (hts _ k24) hK hP hD hS hA rfl (fun j hj => by rcases (show j = 0 ∨ j = 1 ∨ j = 2 ∨ j = 3 ∨ j = 4 ∨ j = 5 ∨ j = 6 ∨ j = 7 ∨ j = 8 ∨ j = 9 ∨ j = 10 ∨ j = 11 ∨ j = 12 ∨ j = 13 ∨ j = 14 ∨ j = 15 ∨ j = 16 ∨ j = 17 ∨ j = 18 by omega) with rfl | rfl | rfl | rfl | rfl | rfl | rfl | rfl | rfl | rfl | rfl | rfl | rfl | rfl | rfl | rfl | rfl | rfl | rfl <;> rfl) (Nat.le_of_ble_eq_true rfl) (Nat.le_of_ble_eq_true rfl) dX0_init_5 (fun q1 H hP hD hS => ?_)
  have hP : va_P g.1 vwCl (List.flatten [[(fo, .inr (0, [.null, .null, .null]))], [(q1, .inr (7, [.int 0, .int 0, .int 0, .int 0, .int 0, .int 0, .int 0, .int 0, .null, .null, .null, .null, .null, .null, .null, .null, .null, .null, .null]))]]) H := hP
  have hD : va_D A (List.flatten [[(fo, .inr (0, [.null, .null, .null]))], [(q1, .inr (7, [.int 0, .int 0, .int 0, .int 0, .int 0, .int 0, .int 0, .int 0, .null, .null, .null, .null, .null, .null, .null, .null, .null, .null, .null]))]]) := hD
  refine W.widen (k := 1) (n := 19) (Nat.le_of_ble_eq_true rfl) (Nat.le_of_ble_eq_true rfl) ?_
  refine lv_dup hx hb dX0_init_8 rfl ?_
  refine mcallIN (g := g) (As := []) (rest := [.ref q1, .ref fo]) St hK hT hA hP hD hS hl.1 [1] [0] rfl rfl rfl (c_Town_init l g q1 ) ⟨va_cnB (host := "DryRiver") 0 hts (zgI k0) rfl rfl rfl (hT.2.2.2.1 _ (List.mem_of_getElem? (i := 0) rfl)) (hts _ k24) (by decide +kernel) ⟨Nat.le_of_ble_eq_true rfl, Nat.le_of_ble_eq_true rfl⟩, rfl, hts _ k28⟩ rfl rfl (Nat.le_of_ble_eq_true rfl) dX0_init_9 ⟨(Nat.le_of_ble_eq_true rfl), (Nat.le_of_ble_eq_true rfl)⟩ (fun a_2 H locs hq3 hP hD hS => ?_)
  have hP : va_P g.1 vwCl (List.flatten [[(fo, .inr (0, [.null, .null, .null]))], bTown g q1 a_2 0 0 0 20 6 50 0 1 (fun _ _ => 0)]) H := hP
  have hD : va_D A (List.flatten [[(fo, .inr (0, [.null, .null, .null]))], bTown g q1 a_2 0 0 0 20 6 50 0 1 (fun _ _ => 0)]) := hD
  refine W.widen (k := 12) (n := 155) (Nat.le_of_ble_eq_true rfl) (Nat.le_of_ble_eq_true rfl) ?_
  refine W.eq (g2 := F0 m 12 ls [.ref q1, .ref fo]) rfl ?_
  refine va_putF (D := g.1) (ci := 0) (v := .ref q1) (ty := tyX0 2) (C := RX0) (T := TX0) (N := 3) hx hb hts izRX0 tyX0 tyX0_ok nmX0 hown hK hP hD hS 0 rfl rfl 2 (by decide) (hts _ k25) (fun _ h9 => h9) rfl hin rfl (by decide +kernel) rfl rfl (Nat.le_of_ble_eq_true rfl) dX0_init_12 (fun H locs hP hD hS => ?_)
  have hP : va_P g.1 vwCl (List.flatten [[(fo, .inr (0, [.null, .null, .ref q1]))], bTown g q1 a_2 0 0 0 20 6 50 0 1 (fun _ _ => 0)]) H := hP
  have hD : va_D A (List.flatten [[(fo, .inr (0, [.null, .null, .ref q1]))], bTown g q1 a_2 0 0 0 20 6 50 0 1 (fun _ _ => 0)]) := hD
  refine lv_aload_n hx hb dX0_init_15 rfl (lv_at hl 0 rfl) ?_
  refine lv_aload_n hx hb dX0_init_16 rfl (lv_at hl 1 rfl) ?_
  refine va_putF (D := g.1) (ci := 0) (v := .ref o) (ty := tyX0 0) (C := RX0) (T := TX0) (N := 3) hx hb hts izRX0 tyX0 tyX0_ok nmX0 hown hK hP hD hS 0 rfl rfl 0 (by decide) (hts _ k26) (fun _ h9 => h9) rfl hin rfl (by decide +kernel) rfl rfl (Nat.le_of_ble_eq_true rfl) dX0_init_17 (fun H locs hP hD hS => ?_)
  have hP : va_P g.1 vwCl (List.flatten [[(fo, .inr (0, [.ref o, .null, .ref q1]))], bTown g q1 a_2 0 0 0 20 6 50 0 1 (fun _ _ => 0)]) H := hP
  have hD : va_D A (List.flatten [[(fo, .inr (0, [.ref o, .null, .ref q1]))], bTown g q1 a_2 0 0 0 20 6 50 0 1 (fun _ _ => 0)]) := hD
  refine lv_aload_n hx hb dX0_init_20 rfl (lv_at hl 0 rfl) ?_
  refine lv_aload_n hx hb dX0_init_21 rfl (lv_at hl 2 rfl) ?_
  refine va_putF (D := g.1) (ci := 0) (v := .ref lo) (ty := tyX0 1) (C := RX0) (T := TX0) (N := 3) hx hb hts izRX0 tyX0 tyX0_ok nmX0 hown hK hP hD hS 0 rfl rfl 1 (by decide) (hts _ k27) (fun _ h9 => h9) rfl hin rfl (by decide +kernel) rfl rfl (Nat.le_of_ble_eq_true rfl) dX0_init_22 (fun H locs hP hD hS => ?_)
  have hP : va_P g.1 vwCl (List.flatten [[(fo, .inr (0, [.ref o, .ref lo, .ref q1]))], bTown g q1 a_2 0 0 0 20 6 50 0 1 (fun _ _ => 0)]) H := hP
  have hD : va_D A (List.flatten [[(fo, .inr (0, [.ref o, .ref lo, .ref q1]))], bTown g q1 a_2 0 0 0 20 6 50 0 1 (fun _ _ => 0)]) := hD
  have hP : va_P g.1 vwCl (List.flatten [[(fo, .inr (0, [.ref o, .ref lo, .ref q1]))], bTown g q1 a_2 0 0 0 20 6 50 0 1 (fun _ _ => 0)]) H := hP
  have hD : va_D A (List.flatten [[(fo, .inr (0, [.ref o, .ref lo, .ref q1]))], bTown g q1 a_2 0 0 0 20 6 50 0 1 (fun _ _ => 0)]) := hD
  exact mret_v hx hb hr hlocks hS (Nat.le_of_ble_eq_true rfl) (Nat.le_of_ble_eq_true rfl) dX0_init_25 (q1, a_2) rfl trivial hP hD
set_option maxRecDepth 100000 in
set_option maxHeartbeats 4000000 in
theorem c_Riddles_init (l : Launch) (g : zG) (ro : Nat)  : zM g l yX5_init (Cond.code yX5_init cX5_init 1 none :: zB) ({ frames := 1, cells := 1, slots := 256, locals := 13 } : Room) [.ref ro] [[(ro, .inr (5, [.null, .int 0, .int 0]))]] (fun (af : Nat) => none) (fun (af : Nat) => True) (fun (af : Nat) => [bRid g ro af 0 0 (fun _ => 0)]) := by
  refine zM.of (cc := cX5_init) (maxL := 1) (rt := none) (by decide) rfl (Nat.le_of_ble_eq_true rfl) ?_
  intro p e s m args below meth c A ls St hr hlocks hin hK hT hA hP hD hS hl
  obtain ⟨hx, hb, hml, hown, hts⟩ := id St
  have hl : lv_has ls 1 [(0, .ref ro)] := hl
  refine lv_aload_n hx hb dX5_init_0 rfl (lv_at hl 0 rfl) ?_
  refine W.objInit hx hb hown (hts (.methodLink RX5 3 objectInit) k260) (hts (.instanceMethod objectInit) k2) (hts (.code objectInit ⟨#[0xb1]⟩ 1 none) k3) rfl (by rw [hml]; exact hl.1) rfl dX5_init_1 (Nat.le_of_ble_eq_true rfl) (Nat.le_of_ble_eq_true rfl) ?_
  refine W.eq (g2 := F0 m 4 ls []) rfl ?_
  refine lv_aload_n hx hb dX5_init_4 rfl (lv_at hl 0 rfl) ?_
  refine lv_sipush (v := 256) hx hb dX5_init_5 (by decide) ?_
  refine znewa (g := g) (atype := .boolean) (a0 := (256, .inl (fun _ => 0))) (N' := 256) hx hb (hts _ k13) rfl 1 _ rfl (fun _ _ h => h) hK hP hD hS hA (fun _ => rfl) (by decide) (by decide) (Nat.le_of_ble_eq_true rfl) (Nat.le_of_ble_eq_true rfl) (Nat.le_of_ble_eq_true rfl) dX5_init_8 (fun q1 H hP hD hS => ?_)
  have hP : va_P g.1 vwCl (List.flatten [[(ro, .inr (5, [.null, .int 0, .int 0]))], [(q1, .inl (g.2 1, 256, .inl (fun _ => 0)))]]) H := hP
  have hD : va_D A (List.flatten [[(ro, .inr (5, [.null, .int 0, .int 0]))], [(q1, .inl (g.2 1, 256, .inl (fun _ => 0)))]]) := hD
  refine W.widen (k := 1) (n := 256) (Nat.le_of_ble_eq_true rfl) (Nat.le_of_ble_eq_true rfl) ?_
  refine va_putF (D := g.1) (ci := 5) (v := .ref q1) (ty := tyX5 0) (C := RX5) (T := TX5) (N := 3) hx hb hts izRX5 tyX5 tyX5_ok nmX5 hown hK hP hD hS 0 rfl rfl 0 (by decide) (hts _ k261) (fun _ h9 => h9) rfl hin rfl (by decide +kernel) rfl rfl (Nat.le_of_ble_eq_true rfl) dX5_init_10 (fun H locs hP hD hS => ?_)
  have hP : va_P g.1 vwCl (List.flatten [[(ro, .inr (5, [.ref q1, .int 0, .int 0]))], [(q1, .inl (g.2 1, 256, .inl (fun _ => 0)))]]) H := hP
  have hD : va_D A (List.flatten [[(ro, .inr (5, [.ref q1, .int 0, .int 0]))], [(q1, .inl (g.2 1, 256, .inl (fun _ => 0)))]]) := hD
  have hP : va_P g.1 vwCl (List.flatten [[(ro, .inr (5, [.ref q1, .int 0, .int 0]))], [(q1, .inl (g.2 1, 256, .inl (fun _ => 0)))]]) H := hP
  have hD : va_D A (List.flatten [[(ro, .inr (5, [.ref q1, .int 0, .int 0]))], [(q1, .inl (g.2 1, 256, .inl (fun _ => 0)))]]) := hD
  have hP : va_P g.1 vwCl (List.flatten [bRid g ro q1 0 0 (fun _ => 0)]) H := hP
  have hD : va_D A (List.flatten [bRid g ro q1 0 0 (fun _ => 0)]) := hD
  exact mret_v hx hb hr hlocks hS (Nat.le_of_ble_eq_true rfl) (Nat.le_of_ble_eq_true rfl) dX5_init_13 (q1) rfl trivial hP hD
set_option maxRecDepth 100000 in
set_option maxHeartbeats 4000000 in
theorem c_fitsAll0 (l : Launch) (g : zG) (ro : Nat) (af : Nat) (pp : Int32) (ft : Int32) (ff : Nat → Int32) (ta : Nat) (ab : Nat) (size : Int32) (len : Int32) (knd : Int32) (beg : Int32) (nxt : Int32) (flt : Int32) (fb : Nat → Int32) (hon : Int32)  : zM g l yX5_fitsAll (Cond.code yX5_fitsAll cX5_fitsAll 5 (some .boolean) :: zB) ({ frames := 0, cells := 0, slots := 0, locals := 0 } : Room) [.ref ro, .ref ta, .int 0, .int hon] [bRid g ro af pp ft ff, bTape g ta ab size len knd beg nxt flt fb] (fun _ : Unit => some (.int 1)) (fun _ : Unit => True) (fun _ : Unit => [bRid g ro af pp ft ff, bTape g ta ab size len knd beg nxt flt fb]) := by
  refine zM.of (cc := cX5_fitsAll) (maxL := 5) (rt := (some .boolean)) (by decide) rfl (Nat.le_of_ble_eq_true rfl) ?_
  intro p e s m args below meth c A ls St hr hlocks hin hK hT hA hP hD hS hl
  obtain ⟨hx, hb, hml, hown, hts⟩ := id St
  have hl : lv_has ls 5 [(0, .ref ro), (1, .ref ta), (2, .int 0), (3, .int hon)] := hl
  refine lv_iconst (v := 0) hx hb dX5_fitsAll_0 (by decide) ?_
  refine lv_istore (lv' := [(4, .int 0), (0, .ref ro), (1, .ref ta), (2, .int 0), (3, .int hon)]) hx hb dX5_fitsAll_1 hl (by decide) rfl (fun ls hl => ?_)
  refine lv_iload hx hb dX5_fitsAll_3 (lv_at hl 0 rfl) ?_
  refine lv_iconst (v := 2) hx hb dX5_fitsAll_5 (by decide) ?_
  refine lv_iadd hx hb dX5_fitsAll_6 ?_
  refine ztop (r := 2) (by decide) ?_
  refine lv_iload_n hx hb dX5_fitsAll_7 rfl (lv_at hl 3 rfl) ?_
  refine lv_icmp_ge (tgt := 71) hx hb dX5_fitsAll_8 (by decide) (fun _ => ?_) (fun c1 => absurd (by decide) c1)
  refine lv_iconst (v := 1) hx hb dX5_fitsAll_71 (by decide) ?_
  have hP : va_P g.1 vwCl (List.flatten [bRid g ro af pp ft ff, bTape g ta ab size len knd beg nxt flt fb]) s.heap := hP
  have hD : va_D A (List.flatten [bRid g ro af pp ft ff, bTape g ta ab size len knd beg nxt flt fb]) := hD
  exact mret_z hx hb hr hlocks hS (Nat.le_of_ble_eq_true rfl) (Nat.le_of_ble_eq_true rfl) dX5_fitsAll_72 () rfl (by decide) trivial hP hD
set_option maxRecDepth 100000 in
set_option maxHeartbeats 4000000 in
theorem c_hear0 (l : Launch) (g : zG) (ro : Nat) (af : Nat) (pp : Int32) (ft : Int32) (ff : Nat → Int32) (ta : Nat) (ab : Nat) (size : Int32) (len : Int32) (knd : Int32) (beg : Int32) (nxt : Int32) (flt : Int32) (fb : Nat → Int32)  : zM g l yX5_hear (Cond.code yX5_hear cX5_hear 5 none :: zB) ({ frames := 1, cells := 0, slots := 0, locals := 24 } : Room) [.ref ro, .ref ta, .int 0, .int 0] [bRid g ro af pp ft ff, bTape g ta ab size len knd beg nxt flt fb] (fun (f3 : Nat → Int32) => none) (fun (f3 : Nat → Int32) => f3 0 = 1) (fun (f3 : Nat → Int32) => [bRid g ro af 0 1 f3, bTape g ta ab size len knd beg nxt flt fb]) := by
  refine zM.of (cc := cX5_hear) (maxL := 5) (rt := none) (by decide) rfl (Nat.le_of_ble_eq_true rfl) ?_
  intro p e s m args below meth c A ls St hr hlocks hin hK hT hA hP hD hS hl
  obtain ⟨hx, hb, hml, hown, hts⟩ := id St
  have hl : lv_has ls 5 [(0, .ref ro), (1, .ref ta), (2, .int 0), (3, .int 0)] := hl
  refine lv_aload_n hx hb dX5_hear_0 rfl (lv_at hl 0 rfl) ?_
  refine lv_iload_n hx hb dX5_hear_1 rfl (lv_at hl 3 rfl) ?_
  refine lv_bipush (v := 8) hx hb dX5_hear_2 (by decide) ?_
  refine va_mmin hx hb (by rw [hml]; exact hl.1.symm) hown (hts _ k270) (hts _ k110) (hts _ k94) (hts _ k111) (Nat.le_of_ble_eq_true rfl) (Nat.le_of_ble_eq_true rfl) (Nat.le_of_ble_eq_true rfl) (Nat.le_of_ble_eq_true rfl) dX5_hear_4 ?_
  refine ztop (r := 0) (by decide) ?_
  refine va_put (D := g.1) (ci := 5) (v := .int 0) (ty := .int) (C := RX5) (T := TX5) (N := 3) hx hb hts izRX5 tyX5 tyX5_ok nmX5 hown hK hP hD hS 0 rfl rfl 1 (by decide) (hts _ k271) (fun _ h9 => h9) rfl (by decide +kernel) rfl rfl (Nat.le_of_ble_eq_true rfl) dX5_hear_7 (fun H locs hP hD hS => ?_)
  have hP : va_P g.1 vwCl (List.flatten [[(ro, .inr (5, [.ref af, .int 0, .int ft])), (af, .inl (g.2 1, 256, .inl ff))], bTape g ta ab size len knd beg nxt flt fb]) H := hP
  have hD : va_D A (List.flatten [[(ro, .inr (5, [.ref af, .int 0, .int ft])), (af, .inl (g.2 1, 256, .inl ff))], bTape g ta ab size len knd beg nxt flt fb]) := hD
  refine lv_aload_n hx hb dX5_hear_10 rfl (lv_at hl 0 rfl) ?_
  refine lv_iconst (v := 0) hx hb dX5_hear_11 (by decide) ?_
  refine va_put (D := g.1) (ci := 5) (v := .int 0) (ty := .int) (C := RX5) (T := TX5) (N := 3) hx hb hts izRX5 tyX5 tyX5_ok nmX5 hown hK hP hD hS 0 rfl rfl 2 (by decide) (hts _ k272) (fun _ h9 => h9) rfl (by decide +kernel) rfl rfl (Nat.le_of_ble_eq_true rfl) dX5_hear_12 (fun H locs hP hD hS => ?_)
  have hP : va_P g.1 vwCl (List.flatten [[(ro, .inr (5, [.ref af, .int 0, .int 0])), (af, .inl (g.2 1, 256, .inl ff))], bTape g ta ab size len knd beg nxt flt fb]) H := hP
  have hD : va_D A (List.flatten [[(ro, .inr (5, [.ref af, .int 0, .int 0])), (af, .inl (g.2 1, 256, .inl ff))], bTape g ta ab size len knd beg nxt flt fb]) := hD
  refine lv_iconst (v := 0) hx hb dX5_hear_15 (by decide) ?_
  refine lv_istore (lv' := [(4, .int 0), (0, .ref ro), (1, .ref ta), (2, .int 0), (3, .int 0)]) hx hb dX5_hear_16 hl (by decide) rfl (fun ls hl => ?_)
  refine lv_iload hx hb dX5_hear_18 (lv_at hl 0 rfl) ?_
  refine lv_iconst (v := 1) hx hb dX5_hear_20 (by decide) ?_
  refine lv_aload_n hx hb dX5_hear_21 rfl (lv_at hl 1 rfl) ?_
  refine va_get (D := g.1) (ci := 5) (v := .int 0) (C := RX5) (T := TX5) (N := 3) hx hb hts izRX5 hown hK hP 0 rfl rfl 1 (by decide) (hts _ k271) (fun _ h9 => h9) rfl dX5_hear_22 ?_
  refine lv_ishl hx hb dX5_hear_25 ?_
  refine ztop (r := 1) (by decide) ?_
  refine lv_icmp_ge (tgt := 70) hx hb dX5_hear_26 (by decide) (fun c1 => absurd c1 (by decide)) (fun _ => ?_)
  refine lv_aload_n hx hb dX5_hear_29 rfl (lv_at hl 1 rfl) ?_
  refine va_get (D := g.1) (ci := 5) (v := .ref af) (C := RX5) (T := TX5) (N := 3) hx hb hts izRX5 hown hK hP 0 rfl rfl 0 (by decide) (hts _ k261) (fun _ h9 => h9) rfl dX5_hear_30 ?_
  refine lv_iload hx hb dX5_hear_33 (lv_at hl 0 rfl) ?_
  refine lv_aload_n hx hb dX5_hear_35 rfl (lv_at hl 1 rfl) ?_
  refine lv_aload_n hx hb dX5_hear_36 rfl (lv_at hl 2 rfl) ?_
  refine lv_iload_n hx hb dX5_hear_37 rfl (lv_at hl 3 rfl) ?_
  refine lv_iload hx hb dX5_hear_38 (lv_at hl 0 rfl) ?_
  refine mcallV (g := g) (q0 := 0) (ci := 5) (As := [.ref ta, .int 0, .int 0]) (rest := [.int 0, .ref af]) St hK hT hA hP hD hS hl.1 [0, 1] [] rfl rfl rfl (c_fitsAll0 l g ro af 0 0 ff ta ab size len knd beg nxt flt fb 0 ) (cwV 3 hts (zgL (zl4 k273 k274 k275 k267) k262) rfl rfl rfl (by decide +kernel) ⟨Nat.le_of_ble_eq_true rfl, Nat.le_of_ble_eq_true rfl⟩) rfl rfl rfl rfl (Nat.le_of_ble_eq_true rfl) dX5_hear_40 ⟨(Nat.le_of_ble_eq_true rfl), (Nat.le_of_ble_eq_true rfl)⟩ (fun _u H locs hq2 hP hD hS => ?_)
  have hP : va_P g.1 vwCl (List.flatten [bRid g ro af 0 0 ff, bTape g ta ab size len knd beg nxt flt fb]) H := hP
  have hD : va_D A (List.flatten [bRid g ro af 0 0 ff, bTape g ta ab size len knd beg nxt flt fb]) := hD
  refine W.widen (k := 0) (n := 0) (Nat.le_of_ble_eq_true rfl) (Nat.le_of_ble_eq_true rfl) ?_
  refine W.eq (g2 := F0 m 43 ls [.int 1, .int 0, .ref af]) rfl ?_
  refine va_zast hx hb hK hP hD hS 1 1 rfl rfl (zin rfl) dX5_hear_43 (fun H locs hP hD hS => ?_)
  have hP : va_P g.1 vwCl (List.flatten [[(ro, .inr (5, [.ref af, .int 0, .int 0])), (af, .inl (g.2 1, 256, .inl (upd ff 0 (vp_nar .boolean 1))))], bTape g ta ab size len knd beg nxt flt fb]) H := hP
  have hD : va_D A (List.flatten [[(ro, .inr (5, [.ref af, .int 0, .int 0])), (af, .inl (g.2 1, 256, .inl (upd ff 0 (vp_nar .boolean 1))))], bTape g ta ab size len knd beg nxt flt fb]) := hD
  refine lv_aload_n hx hb dX5_hear_44 rfl (lv_at hl 1 rfl) ?_
  refine va_get (D := g.1) (ci := 5) (v := .ref af) (C := RX5) (T := TX5) (N := 3) hx hb hts izRX5 hown hK hP 0 rfl rfl 0 (by decide) (hts _ k261) (fun _ h9 => h9) rfl dX5_hear_45 ?_
  refine lv_iload hx hb dX5_hear_48 (lv_at hl 0 rfl) ?_
  refine va_zald hx hb hK hP 1 1 rfl rfl (zin rfl) dX5_hear_50 ?_
  refine ztop (r := (upd ff 0 (vp_nar .boolean 1)) 0) rfl ?_
  refine ztop (r := 1) rfl ?_
  refine lv_if_eq (tgt := 64) hx hb dX5_hear_51 (by decide) (fun c3 => absurd c3 (by decide)) (fun _ => ?_)
  refine lv_aload_n hx hb dX5_hear_54 rfl (lv_at hl 1 rfl) ?_
  refine lv_dup hx hb dX5_hear_55 rfl ?_
  refine va_get (D := g.1) (ci := 5) (v := .int 0) (C := RX5) (T := TX5) (N := 3) hx hb hts izRX5 hown hK hP 0 rfl rfl 2 (by decide) (hts _ k272) (fun _ h9 => h9) rfl dX5_hear_56 ?_
  refine lv_iconst (v := 1) hx hb dX5_hear_59 (by decide) ?_
  refine lv_iadd hx hb dX5_hear_60 ?_
  refine ztop (r := 1) (by decide) ?_
  refine va_put (D := g.1) (ci := 5) (v := .int 1) (ty := .int) (C := RX5) (T := TX5) (N := 3) hx hb hts izRX5 tyX5 tyX5_ok nmX5 hown hK hP hD hS 0 rfl rfl 2 (by decide) (hts _ k272) (fun _ h9 => h9) rfl (by decide +kernel) rfl rfl (Nat.le_of_ble_eq_true rfl) dX5_hear_61 (fun H locs hP hD hS => ?_)
  have hP : va_P g.1 vwCl (List.flatten [[(ro, .inr (5, [.ref af, .int 0, .int 1])), (af, .inl (g.2 1, 256, .inl (upd ff 0 (vp_nar .boolean 1))))], bTape g ta ab size len knd beg nxt flt fb]) H := hP
  have hD : va_D A (List.flatten [[(ro, .inr (5, [.ref af, .int 0, .int 1])), (af, .inl (g.2 1, 256, .inl (upd ff 0 (vp_nar .boolean 1))))], bTape g ta ab size len knd beg nxt flt fb]) := hD
  refine lv_iinc (v := 1) (lv' := [(4, .int 1), (0, .ref ro), (1, .ref ta), (2, .int 0), (3, .int 0)]) hx hb dX5_hear_64 hl (k := 0) rfl (by decide) (by decide) rfl (fun ls hl => ?_)
  refine lv_goto (tgt := 18) hx hb dX5_hear_67 (by decide) ?_
  refine lv_iload hx hb dX5_hear_18 (lv_at hl 0 rfl) ?_
  refine lv_iconst (v := 1) hx hb dX5_hear_20 (by decide) ?_
  refine lv_aload_n hx hb dX5_hear_21 rfl (lv_at hl 1 rfl) ?_
  refine va_get (D := g.1) (ci := 5) (v := .int 0) (C := RX5) (T := TX5) (N := 3) hx hb hts izRX5 hown hK hP 0 rfl rfl 1 (by decide) (hts _ k271) (fun _ h9 => h9) rfl dX5_hear_22 ?_
  refine lv_ishl hx hb dX5_hear_25 ?_
  refine ztop (r := 1) (by decide) ?_
  refine lv_icmp_ge (tgt := 70) hx hb dX5_hear_26 (by decide) (fun _ => ?_) (fun c4 => absurd (by decide) c4)
  have hP : va_P g.1 vwCl (List.flatten [bRid g ro af 0 1 (upd ff 0 (vp_nar .boolean 1)), bTape g ta ab size len knd beg nxt flt fb]) H := hP
  have hD : va_D A (List.flatten [bRid g ro af 0 1 (upd ff 0 (vp_nar .boolean 1)), bTape g ta ab size len knd beg nxt flt fb]) := hD
  exact mret_v hx hb hr hlocks hS (Nat.le_of_ble_eq_true rfl) (Nat.le_of_ble_eq_true rfl) dX5_hear_70 (upd ff 0 (vp_nar .boolean 1)) rfl rfl hP hD
set_option maxRecDepth 100000 in
set_option maxHeartbeats 4000000 in
theorem c_honestInAll0 (l : Launch) (g : zG) (ro : Nat) (af : Nat) (ff : Nat → Int32) (hf0 : ff 0 = 1) : zM g l yX5_honestInAll (Cond.code yX5_honestInAll cX5_honestInAll 3 (some .int) :: zB) ({ frames := 0, cells := 0, slots := 0, locals := 0 } : Room) [.ref ro] [bRid g ro af 0 1 ff] (fun _ : Unit => some (.int 0)) (fun _ : Unit => True) (fun _ : Unit => [bRid g ro af 0 1 ff]) := by
  refine zM.of (cc := cX5_honestInAll) (maxL := 3) (rt := (some .int)) (by decide) rfl (Nat.le_of_ble_eq_true rfl) ?_
  intro p e s m args below meth c A ls St hr hlocks hin hK hT hA hP hD hS hl
  obtain ⟨hx, hb, hml, hown, hts⟩ := id St
  have hl : lv_has ls 3 [(0, .ref ro)] := hl
  refine lv_aload_n hx hb dX5_honestInAll_0 rfl (lv_at hl 0 rfl) ?_
  refine va_get (D := g.1) (ci := 5) (v := .int 1) (C := RX5) (T := TX5) (N := 3) hx hb hts izRX5 hown hK hP 0 rfl rfl 2 (by decide) (hts _ k272) (fun _ h9 => h9) rfl dX5_honestInAll_1 ?_
  refine lv_if_ne (tgt := 11) hx hb dX5_honestInAll_4 (by decide) (fun _ => ?_) (fun c1 => absurd c1 (by decide))
  refine lv_iconst (v := 1) hx hb dX5_honestInAll_11 (by decide) ?_
  refine lv_aload_n hx hb dX5_honestInAll_12 rfl (lv_at hl 0 rfl) ?_
  refine va_get (D := g.1) (ci := 5) (v := .int 0) (C := RX5) (T := TX5) (N := 3) hx hb hts izRX5 hown hK hP 0 rfl rfl 1 (by decide) (hts _ k271) (fun _ h9 => h9) rfl dX5_honestInAll_13 ?_
  refine lv_ishl hx hb dX5_honestInAll_16 ?_
  refine ztop (r := 1) (by decide) ?_
  refine lv_iconst (v := 1) hx hb dX5_honestInAll_17 (by decide) ?_
  refine lv_isub hx hb dX5_honestInAll_18 ?_
  refine ztop (r := 0) (by decide) ?_
  refine lv_istore_n (lv' := [(1, .int 0), (0, .ref ro)]) hx hb dX5_honestInAll_19 rfl hl (by decide) rfl (fun ls hl => ?_)
  refine lv_iconst (v := 0) hx hb dX5_honestInAll_20 (by decide) ?_
  refine lv_istore_n (lv' := [(2, .int 0), (1, .int 0), (0, .ref ro)]) hx hb dX5_honestInAll_21 rfl hl (by decide) rfl (fun ls hl => ?_)
  refine lv_iload_n hx hb dX5_honestInAll_22 rfl (lv_at hl 0 rfl) ?_
  refine lv_iconst (v := 1) hx hb dX5_honestInAll_23 (by decide) ?_
  refine lv_aload_n hx hb dX5_honestInAll_24 rfl (lv_at hl 2 rfl) ?_
  refine va_get (D := g.1) (ci := 5) (v := .int 0) (C := RX5) (T := TX5) (N := 3) hx hb hts izRX5 hown hK hP 0 rfl rfl 1 (by decide) (hts _ k271) (fun _ h9 => h9) rfl dX5_honestInAll_25 ?_
  refine lv_ishl hx hb dX5_honestInAll_28 ?_
  refine ztop (r := 1) (by decide) ?_
  refine lv_icmp_ge (tgt := 51) hx hb dX5_honestInAll_29 (by decide) (fun c2 => absurd c2 (by decide)) (fun _ => ?_)
  refine lv_aload_n hx hb dX5_honestInAll_32 rfl (lv_at hl 2 rfl) ?_
  refine va_get (D := g.1) (ci := 5) (v := .ref af) (C := RX5) (T := TX5) (N := 3) hx hb hts izRX5 hown hK hP 0 rfl rfl 0 (by decide) (hts _ k261) (fun _ h9 => h9) rfl dX5_honestInAll_33 ?_
  refine lv_iload_n hx hb dX5_honestInAll_36 rfl (lv_at hl 0 rfl) ?_
  refine va_zald hx hb hK hP 1 1 rfl rfl (zin rfl) dX5_honestInAll_37 ?_
  refine ztop (r := ff 0) rfl ?_
  refine ztop (r := 1) hf0 ?_
  refine lv_if_eq (tgt := 45) hx hb dX5_honestInAll_38 (by decide) (fun c3 => absurd c3 (by decide)) (fun _ => ?_)
  refine lv_iload_n hx hb dX5_honestInAll_41 rfl (lv_at hl 1 rfl) ?_
  refine lv_iload_n hx hb dX5_honestInAll_42 rfl (lv_at hl 0 rfl) ?_
  refine lv_iand hx hb dX5_honestInAll_43 ?_
  refine ztop (r := 0) (by decide) ?_
  refine lv_istore_n (lv' := [(1, .int 0), (2, .int 0), (0, .ref ro)]) hx hb dX5_honestInAll_44 rfl hl (by decide) rfl (fun ls hl => ?_)
  refine lv_iinc (v := 1) (lv' := [(2, .int 1), (1, .int 0), (0, .ref ro)]) hx hb dX5_honestInAll_45 hl (k := 1) rfl (by decide) (by decide) rfl (fun ls hl => ?_)
  refine lv_goto (tgt := 22) hx hb dX5_honestInAll_48 (by decide) ?_
  refine lv_iload_n hx hb dX5_honestInAll_22 rfl (lv_at hl 0 rfl) ?_
  refine lv_iconst (v := 1) hx hb dX5_honestInAll_23 (by decide) ?_
  refine lv_aload_n hx hb dX5_honestInAll_24 rfl (lv_at hl 2 rfl) ?_
  refine va_get (D := g.1) (ci := 5) (v := .int 0) (C := RX5) (T := TX5) (N := 3) hx hb hts izRX5 hown hK hP 0 rfl rfl 1 (by decide) (hts _ k271) (fun _ h9 => h9) rfl dX5_honestInAll_25 ?_
  refine lv_ishl hx hb dX5_honestInAll_28 ?_
  refine ztop (r := 1) (by decide) ?_
  refine lv_icmp_ge (tgt := 51) hx hb dX5_honestInAll_29 (by decide) (fun _ => ?_) (fun c4 => absurd (by decide) c4)
  refine lv_iload_n hx hb dX5_honestInAll_51 rfl (lv_at hl 1 rfl) ?_
  have hP : va_P g.1 vwCl (List.flatten [bRid g ro af 0 1 ff]) s.heap := hP
  have hD : va_D A (List.flatten [bRid g ro af 0 1 ff]) := hD
  exact mret_i hx hb hr hlocks hS (Nat.le_of_ble_eq_true rfl) (Nat.le_of_ble_eq_true rfl) dX5_honestInAll_52 () rfl trivial hP hD
set_option maxRecDepth 100000 in
set_option maxHeartbeats 4000000 in
theorem c_bestQuestion0 (l : Launch) (g : zG) (ro : Nat) (af : Nat) (ft : Int32) (ff : Nat → Int32)  : zM g l yX5_bestQuestion (Cond.code yX5_bestQuestion cX5_bestQuestion 6 (some .int) :: zB) ({ frames := 0, cells := 0, slots := 0, locals := 0 } : Room) [.ref ro] [bRid g ro af 0 ft ff] (fun _ : Unit => some (.int (-1))) (fun _ : Unit => True) (fun _ : Unit => [bRid g ro af 0 ft ff]) := by
  refine zM.of (cc := cX5_bestQuestion) (maxL := 6) (rt := (some .int)) (by decide) rfl (Nat.le_of_ble_eq_true rfl) ?_
  intro p e s m args below meth c A ls St hr hlocks hin hK hT hA hP hD hS hl
  obtain ⟨hx, hb, hml, hown, hts⟩ := id St
  have hl : lv_has ls 6 [(0, .ref ro)] := hl
  refine lv_iconst (v := (-1)) hx hb dX5_bestQuestion_0 (by decide) ?_
  refine lv_istore_n (lv' := [(1, .int (-1)), (0, .ref ro)]) hx hb dX5_bestQuestion_1 rfl hl (by decide) rfl (fun ls hl => ?_)
  refine lv_iconst (v := 0) hx hb dX5_bestQuestion_2 (by decide) ?_
  refine lv_istore_n (lv' := [(2, .int 0), (1, .int (-1)), (0, .ref ro)]) hx hb dX5_bestQuestion_3 rfl hl (by decide) rfl (fun ls hl => ?_)
  refine lv_iconst (v := 0) hx hb dX5_bestQuestion_4 (by decide) ?_
  refine lv_istore_n (lv' := [(3, .int 0), (2, .int 0), (1, .int (-1)), (0, .ref ro)]) hx hb dX5_bestQuestion_5 rfl hl (by decide) rfl (fun ls hl => ?_)
  refine lv_iload_n hx hb dX5_bestQuestion_6 rfl (lv_at hl 0 rfl) ?_
  refine lv_aload_n hx hb dX5_bestQuestion_7 rfl (lv_at hl 3 rfl) ?_
  refine va_get (D := g.1) (ci := 5) (v := .int 0) (C := RX5) (T := TX5) (N := 3) hx hb hts izRX5 hown hK hP 0 rfl rfl 1 (by decide) (hts _ k271) (fun _ h9 => h9) rfl dX5_bestQuestion_8 ?_
  refine lv_icmp_ge (tgt := 83) hx hb dX5_bestQuestion_11 (by decide) (fun _ => ?_) (fun c1 => absurd (by decide) c1)
  refine lv_iload_n hx hb dX5_bestQuestion_83 rfl (lv_at hl 2 rfl) ?_
  have hP : va_P g.1 vwCl (List.flatten [bRid g ro af 0 ft ff]) s.heap := hP
  have hD : va_D A (List.flatten [bRid g ro af 0 ft ff]) := hD
  exact mret_i hx hb hr hlocks hS (Nat.le_of_ble_eq_true rfl) (Nat.le_of_ble_eq_true rfl) dX5_bestQuestion_84 () rfl trivial hP hD
