def bFo (g : zG) (fo : Nat) (o : Nat) (lo : Nat) (od : Nat) : va_W := [(fo, .inr (0, [.ref o, .ref lo, .ref od]))]
def bRi (g : zG) (ro : Nat) (rw : Nat) (ri : Int32) (rt : Int32) (rb : Nat → Int32) : va_W := [(ro, .inr (5, [.ref rw, .int ri, .int rt])), (rw, .inl (g.2 1, 256, .inl rb))]
theorem zlcN {x : Int64} (h : 0 < lg_cmp x 0) : ¬ x = 0 := fun e => by subst e; exact absurd h (by decide)
set_option maxRecDepth 100000 in
set_option maxHeartbeats 4000000 in
theorem c_f_lookAhead (l : Launch) (g : zG) (fo : Nat) (o : Nat) (lo : Nat) (od : Nat) (a : Nat → Nat) (pe : Int32) (wo : Int32) (tx : Int32) (ch : Int32) (jo : Int32) (tr : Int32) (dy : Int32) (sd : Int32) (f : Nat → Nat → Int32) (lc : Nat) (lz : Int32) (ll : Int32) (lm : Int32) (lg : Int32) (ld : Int32) (fc : Nat → Int32) (ad : Nat → Nat) (ped : Int32) (wod : Int32) (txd : Int32) (chd : Int32) (jod : Int32) (trd : Int32) (dyd : Int32) (sdd : Int32) (fd : Nat → Nat → Int32) (st0 : Int32) (by9 : Int32) (n : Int32) (b_pe : 0 ≤ pe.toInt ∧ pe.toInt ≤ 8) (b_wo : 0 ≤ wo.toInt ∧ wo.toInt ≤ 6) (rf : zZ4 f) (b_lz : 0 ≤ lz.toInt ∧ lz.toInt ≤ 400) (b_ped : 0 ≤ ped.toInt ∧ ped.toInt ≤ 8) (b_wod : 0 ≤ wod.toInt ∧ wod.toInt ≤ 6) (rfd : zZ4 fd) (b_n : 0 ≤ n.toInt ∧ n.toInt ≤ 100) : zM' g l yX0_lookAhead (Cond.code yX0_lookAhead cX0_lookAhead 5 (some .int) :: zB) ({ frames := 6, cells := 0, slots := 0, locals := 128 } : Room) [.ref fo, .int st0, .int by9, .int n] [bFo g fo o lo od, bTown g o a pe wo tx ch jo tr dy sd f, bLaw g lo lc lz ll lm lg ld fc, bTown g od ad ped wod txd chd jod trd dyd sdd fd] (fun u : Int32 × Int32 × Int32 × Int32 × Int32 × Int32 × Int32 × Int32 × Int32 × Int32 × Int32 × (Nat → Nat → Int32) × Int32 => (fun (lm2 : Int32) (lg2 : Int32) (ld2 : Int32) (pe3 : Int32) (wo3 : Int32) (tx3 : Int32) (ch3 : Int32) (jo3 : Int32) (tr3 : Int32) (dy3 : Int32) (sd3 : Int32) (f3 : Nat → Nat → Int32) (q : Int32) => some (.int q)) (u.1) (u.2.1) (u.2.2.1) (u.2.2.2.1) (u.2.2.2.2.1) (u.2.2.2.2.2.1) (u.2.2.2.2.2.2.1) (u.2.2.2.2.2.2.2.1) (u.2.2.2.2.2.2.2.2.1) (u.2.2.2.2.2.2.2.2.2.1) (u.2.2.2.2.2.2.2.2.2.2.1) (u.2.2.2.2.2.2.2.2.2.2.2.1) (u.2.2.2.2.2.2.2.2.2.2.2.2)) (fun u : Int32 × Int32 × Int32 × Int32 × Int32 × Int32 × Int32 × Int32 × Int32 × Int32 × Int32 × (Nat → Nat → Int32) × Int32 => (fun (lm2 : Int32) (lg2 : Int32) (ld2 : Int32) (pe3 : Int32) (wo3 : Int32) (tx3 : Int32) (ch3 : Int32) (jo3 : Int32) (tr3 : Int32) (dy3 : Int32) (sd3 : Int32) (f3 : Nat → Nat → Int32) (q : Int32) => (0 ≤ pe3.toInt ∧ pe3.toInt ≤ 8) ∧ (0 ≤ wo3.toInt ∧ wo3.toInt ≤ 6) ∧ (zZ4 f3)) (u.1) (u.2.1) (u.2.2.1) (u.2.2.2.1) (u.2.2.2.2.1) (u.2.2.2.2.2.1) (u.2.2.2.2.2.2.1) (u.2.2.2.2.2.2.2.1) (u.2.2.2.2.2.2.2.2.1) (u.2.2.2.2.2.2.2.2.2.1) (u.2.2.2.2.2.2.2.2.2.2.1) (u.2.2.2.2.2.2.2.2.2.2.2.1) (u.2.2.2.2.2.2.2.2.2.2.2.2)) (fun u : Int32 × Int32 × Int32 × Int32 × Int32 × Int32 × Int32 × Int32 × Int32 × Int32 × Int32 × (Nat → Nat → Int32) × Int32 => (fun (lm2 : Int32) (lg2 : Int32) (ld2 : Int32) (pe3 : Int32) (wo3 : Int32) (tx3 : Int32) (ch3 : Int32) (jo3 : Int32) (tr3 : Int32) (dy3 : Int32) (sd3 : Int32) (f3 : Nat → Nat → Int32) (q : Int32) => [bFo g fo o lo od, bTown g o a pe wo tx ch jo tr dy sd f, bLaw g lo lc lz ll lm2 lg2 ld2 fc, bTown g od ad pe3 wo3 tx3 ch3 jo3 tr3 dy3 sd3 f3]) (u.1) (u.2.1) (u.2.2.1) (u.2.2.2.1) (u.2.2.2.2.1) (u.2.2.2.2.2.1) (u.2.2.2.2.2.2.1) (u.2.2.2.2.2.2.2.1) (u.2.2.2.2.2.2.2.2.1) (u.2.2.2.2.2.2.2.2.2.1) (u.2.2.2.2.2.2.2.2.2.2.1) (u.2.2.2.2.2.2.2.2.2.2.2.1) (u.2.2.2.2.2.2.2.2.2.2.2.2)) := by
  refine zM'.of (cc := cX0_lookAhead) (maxL := 5) (rt := (some .int)) (by decide) rfl (Nat.le_of_ble_eq_true rfl) ?_
  intro p e s m args below meth c A ls St hr hlocks hin hK hT hA hP hD hS hl
  obtain ⟨hx, hb, hml, hown, hts⟩ := id St
  have hl : lv_has ls 5 [(0, .ref fo), (1, .int st0), (2, .int by9), (3, .int n)] := hl
  refine lv_aload_n hx hb dX0_lookAhead_0 rfl (lv_at hl 0 rfl) ?_
  refine va_get (D := g.1) (ci := 0) (v := .ref od) (C := RX0) (T := TX0) (N := 3) hx hb hts izRX0 hown hK hP 0 rfl rfl 2 (by decide) (hts _ k25) (fun _ h9 => h9) rfl dX0_lookAhead_1 ?_
  refine lv_aload_n hx hb dX0_lookAhead_4 rfl (lv_at hl 0 rfl) ?_
  refine va_get (D := g.1) (ci := 0) (v := .ref o) (C := RX0) (T := TX0) (N := 3) hx hb hts izRX0 hown hK hP 0 rfl rfl 0 (by decide) (hts _ k26) (fun _ h9 => h9) rfl dX0_lookAhead_5 ?_
  refine mcallV' (g := g) (q0 := 0) (ci := 7) (As := [.ref o]) (rest := []) St hK hT hA hP hD hS hl.1 [3, 1] [0, 2] rfl rfl rfl (c_copyFrom l g od ad ped wod txd chd jod trd dyd sdd fd o a pe wo tx ch jo tr dy sd f b_pe b_wo rf) (cwV 1 hts (zgL (zl4 k156 k157 k158 k24) k30) rfl rfl rfl (by decide +kernel) ⟨Nat.le_of_ble_eq_true rfl, Nat.le_of_ble_eq_true rfl⟩) rfl rfl rfl rfl (Nat.le_of_ble_eq_true rfl) dX0_lookAhead_8 ⟨(Nat.le_of_ble_eq_true rfl), (Nat.le_of_ble_eq_true rfl)⟩ (fun h_1 H locs hq2 hP hD hS => ?_)
  replace hq2 : (zZ4 h_1) := hq2
  have hP : va_P g.1 vwCl (List.flatten [bFo g fo o lo od, bLaw g lo lc lz ll lm lg ld fc, bTown g od ad pe wo tx ch jo tr dy sd h_1, bTown g o a pe wo tx ch jo tr dy sd f]) H := hP
  have hD : va_D A (List.flatten [bFo g fo o lo od, bLaw g lo lc lz ll lm lg ld fc, bTown g od ad pe wo tx ch jo tr dy sd h_1, bTown g o a pe wo tx ch jo tr dy sd f]) := hD
  refine W.widen (k := 0) (n := 0) (Nat.le_of_ble_eq_true rfl) (Nat.le_of_ble_eq_true rfl) ?_
  refine W.eq (g2 := F0 m 11 ls []) rfl ?_
  have rh_1 := hq2; clear hq2
  refine lv_iconst (v := 0) hx hb dX0_lookAhead_11 (by decide) ?_
  refine lv_istore (lv' := [(4, .int 0), (0, .ref fo), (1, .int st0), (2, .int by9), (3, .int n)]) hx hb dX0_lookAhead_12 hl (by decide) rfl (fun ls hl => ?_)
  have hl := lv_sub (l' := [(0, .ref fo), (1, .int st0), (2, .int by9), (3, .int n), (4, .int 0)]) hl [1, 2, 3, 4, 0] rfl
  have LP14_6 : ∀ (kf : Nat) (x_3 : Int32) (f_4 : Nat → Nat → Int32), (0 ≤ x_3.toInt ∧ x_3.toInt ≤ 8) → (zZ4 f_4) → ∀ (H : Heap) (locs : List Loc) (ls : Array Slot), ((9 - x_3.toInt).toNat) < kf → va_P g.1 vwCl (List.flatten [bFo g fo o lo od, bLaw g lo lc lz ll lm lg ld fc, bTown g od ad pe wo tx ch jo tr dy sd f_4, bTown g o a pe wo tx ch jo tr dy sd f]) H → va_D A (List.flatten [bFo g fo o lo od, bLaw g lo lc lz ll lm lg ld fc, bTown g od ad pe wo tx ch jo tr dy sd f_4, bTown g o a pe wo tx ch jo tr dy sd f]) → va_S A s.heap H locs → lv_has ls 5 [(0, .ref fo), (1, .int st0), (2, .int by9), (3, .int n), (4, .int x_3)] → W p l e ({ frames := 6, cells := 0, slots := 0, locals := 128 } : Room) s m args below meth c H locs (0) (0) (zF g (fun u : Int32 × Int32 × Int32 × Int32 × Int32 × Int32 × Int32 × Int32 × Int32 × Int32 × Int32 × (Nat → Nat → Int32) × Int32 => (fun (lm2 : Int32) (lg2 : Int32) (ld2 : Int32) (pe3 : Int32) (wo3 : Int32) (tx3 : Int32) (ch3 : Int32) (jo3 : Int32) (tr3 : Int32) (dy3 : Int32) (sd3 : Int32) (f3 : Nat → Nat → Int32) (q : Int32) => some (.int q)) (u.1) (u.2.1) (u.2.2.1) (u.2.2.2.1) (u.2.2.2.2.1) (u.2.2.2.2.2.1) (u.2.2.2.2.2.2.1) (u.2.2.2.2.2.2.2.1) (u.2.2.2.2.2.2.2.2.1) (u.2.2.2.2.2.2.2.2.2.1) (u.2.2.2.2.2.2.2.2.2.2.1) (u.2.2.2.2.2.2.2.2.2.2.2.1) (u.2.2.2.2.2.2.2.2.2.2.2.2)) (fun u : Int32 × Int32 × Int32 × Int32 × Int32 × Int32 × Int32 × Int32 × Int32 × Int32 × Int32 × (Nat → Nat → Int32) × Int32 => (fun (lm2 : Int32) (lg2 : Int32) (ld2 : Int32) (pe3 : Int32) (wo3 : Int32) (tx3 : Int32) (ch3 : Int32) (jo3 : Int32) (tr3 : Int32) (dy3 : Int32) (sd3 : Int32) (f3 : Nat → Nat → Int32) (q : Int32) => (0 ≤ pe3.toInt ∧ pe3.toInt ≤ 8) ∧ (0 ≤ wo3.toInt ∧ wo3.toInt ≤ 6) ∧ (zZ4 f3)) (u.1) (u.2.1) (u.2.2.1) (u.2.2.2.1) (u.2.2.2.2.1) (u.2.2.2.2.2.1) (u.2.2.2.2.2.2.1) (u.2.2.2.2.2.2.2.1) (u.2.2.2.2.2.2.2.2.1) (u.2.2.2.2.2.2.2.2.2.1) (u.2.2.2.2.2.2.2.2.2.2.1) (u.2.2.2.2.2.2.2.2.2.2.2.1) (u.2.2.2.2.2.2.2.2.2.2.2.2)) (fun u : Int32 × Int32 × Int32 × Int32 × Int32 × Int32 × Int32 × Int32 × Int32 × Int32 × Int32 × (Nat → Nat → Int32) × Int32 => (fun (lm2 : Int32) (lg2 : Int32) (ld2 : Int32) (pe3 : Int32) (wo3 : Int32) (tx3 : Int32) (ch3 : Int32) (jo3 : Int32) (tr3 : Int32) (dy3 : Int32) (sd3 : Int32) (f3 : Nat → Nat → Int32) (q : Int32) => [bFo g fo o lo od, bTown g o a pe wo tx ch jo tr dy sd f, bLaw g lo lc lz ll lm2 lg2 ld2 fc, bTown g od ad pe3 wo3 tx3 ch3 jo3 tr3 dy3 sd3 f3]) (u.1) (u.2.1) (u.2.2.1) (u.2.2.2.1) (u.2.2.2.2.1) (u.2.2.2.2.2.1) (u.2.2.2.2.2.2.1) (u.2.2.2.2.2.2.2.1) (u.2.2.2.2.2.2.2.2.1) (u.2.2.2.2.2.2.2.2.2.1) (u.2.2.2.2.2.2.2.2.2.2.1) (u.2.2.2.2.2.2.2.2.2.2.2.1) (u.2.2.2.2.2.2.2.2.2.2.2.2)) ({ frames := 6, cells := 0, slots := 0, locals := 128 } : Room) below args s A) (F0 m 14 ls []) := by
    intro kf
    induction kf with
    | zero => intro x_3 f_4 i5 rf_4 H locs ls hk; exact absurd hk (Nat.not_lt_zero _)
    | succ kf ih14_7 =>
      intro x_3 f_4 i5 rf_4 H locs ls hk14_7 hP hD hS hl
      refine lv_iload hx hb dX0_lookAhead_14 (lv_at hl 4 rfl) ?_
      refine lv_aload_n hx hb dX0_lookAhead_16 rfl (lv_at hl 0 rfl) ?_
      refine va_get (D := g.1) (ci := 0) (v := .ref o) (C := RX0) (T := TX0) (N := 3) hx hb hts izRX0 hown hK hP 0 rfl rfl 0 (by decide) (hts _ k26) (fun _ h9 => h9) rfl dX0_lookAhead_17 ?_
      refine va_get (D := g.1) (ci := 7) (v := .int pe) (C := RX9) (T := TX9) (N := 19) hx hb hts izRX9 hown hK hP 15 rfl rfl 0 (by decide) (hts _ k155) (fun _ h9 => h9) rfl dX0_lookAhead_20 ?_
      refine lv_icmp_ge (tgt := 51) hx hb dX0_lookAhead_23 (by decide) (fun cb9 => ?_) (fun cb9 => ?_)
      · skip
        have c8 : pe.toInt ≤ x_3.toInt := zle cb9 rfl rfl
        refine lv_iconst (v := 0) hx hb dX0_lookAhead_51 (by decide) ?_
        refine lv_istore (lv' := [(4, .int 0), (0, .ref fo), (1, .int st0), (2, .int by9), (3, .int n)]) hx hb dX0_lookAhead_52 hl (by decide) rfl (fun ls hl => ?_)
        have hl := lv_sub (l' := [(0, .ref fo), (1, .int st0), (2, .int by9), (3, .int n), (4, .int 0)]) hl [1, 2, 3, 4, 0] rfl
        have LP54_18 : ∀ (kf : Nat) (x_9 : Int32) (x_10 : Int32) (x_11 : Int32) (x_12 : Int32) (x_13 : Int32) (x_14 : Int32) (x_15 : Int32) (f_16 : Nat → Nat → Int32), (0 ≤ x_9.toInt ∧ x_9.toInt ≤ 100) → (zZ4 f_16) → ∀ (H : Heap) (locs : List Loc) (ls : Array Slot), ((101 - x_9.toInt).toNat) < kf → va_P g.1 vwCl (List.flatten [bFo g fo o lo od, bLaw g lo lc lz ll x_10 x_11 x_12 fc, bTown g od ad pe wo tx x_13 jo tr x_14 x_15 f_16, bTown g o a pe wo tx ch jo tr dy sd f]) H → va_D A (List.flatten [bFo g fo o lo od, bLaw g lo lc lz ll x_10 x_11 x_12 fc, bTown g od ad pe wo tx x_13 jo tr x_14 x_15 f_16, bTown g o a pe wo tx ch jo tr dy sd f]) → va_S A s.heap H locs → lv_has ls 5 [(0, .ref fo), (1, .int st0), (2, .int by9), (3, .int n), (4, .int x_9)] → W p l e ({ frames := 6, cells := 0, slots := 0, locals := 128 } : Room) s m args below meth c H locs (0) (0) (zF g (fun u : Int32 × Int32 × Int32 × Int32 × Int32 × Int32 × Int32 × Int32 × Int32 × Int32 × Int32 × (Nat → Nat → Int32) × Int32 => (fun (lm2 : Int32) (lg2 : Int32) (ld2 : Int32) (pe3 : Int32) (wo3 : Int32) (tx3 : Int32) (ch3 : Int32) (jo3 : Int32) (tr3 : Int32) (dy3 : Int32) (sd3 : Int32) (f3 : Nat → Nat → Int32) (q : Int32) => some (.int q)) (u.1) (u.2.1) (u.2.2.1) (u.2.2.2.1) (u.2.2.2.2.1) (u.2.2.2.2.2.1) (u.2.2.2.2.2.2.1) (u.2.2.2.2.2.2.2.1) (u.2.2.2.2.2.2.2.2.1) (u.2.2.2.2.2.2.2.2.2.1) (u.2.2.2.2.2.2.2.2.2.2.1) (u.2.2.2.2.2.2.2.2.2.2.2.1) (u.2.2.2.2.2.2.2.2.2.2.2.2)) (fun u : Int32 × Int32 × Int32 × Int32 × Int32 × Int32 × Int32 × Int32 × Int32 × Int32 × Int32 × (Nat → Nat → Int32) × Int32 => (fun (lm2 : Int32) (lg2 : Int32) (ld2 : Int32) (pe3 : Int32) (wo3 : Int32) (tx3 : Int32) (ch3 : Int32) (jo3 : Int32) (tr3 : Int32) (dy3 : Int32) (sd3 : Int32) (f3 : Nat → Nat → Int32) (q : Int32) => (0 ≤ pe3.toInt ∧ pe3.toInt ≤ 8) ∧ (0 ≤ wo3.toInt ∧ wo3.toInt ≤ 6) ∧ (zZ4 f3)) (u.1) (u.2.1) (u.2.2.1) (u.2.2.2.1) (u.2.2.2.2.1) (u.2.2.2.2.2.1) (u.2.2.2.2.2.2.1) (u.2.2.2.2.2.2.2.1) (u.2.2.2.2.2.2.2.2.1) (u.2.2.2.2.2.2.2.2.2.1) (u.2.2.2.2.2.2.2.2.2.2.1) (u.2.2.2.2.2.2.2.2.2.2.2.1) (u.2.2.2.2.2.2.2.2.2.2.2.2)) (fun u : Int32 × Int32 × Int32 × Int32 × Int32 × Int32 × Int32 × Int32 × Int32 × Int32 × Int32 × (Nat → Nat → Int32) × Int32 => (fun (lm2 : Int32) (lg2 : Int32) (ld2 : Int32) (pe3 : Int32) (wo3 : Int32) (tx3 : Int32) (ch3 : Int32) (jo3 : Int32) (tr3 : Int32) (dy3 : Int32) (sd3 : Int32) (f3 : Nat → Nat → Int32) (q : Int32) => [bFo g fo o lo od, bTown g o a pe wo tx ch jo tr dy sd f, bLaw g lo lc lz ll lm2 lg2 ld2 fc, bTown g od ad pe3 wo3 tx3 ch3 jo3 tr3 dy3 sd3 f3]) (u.1) (u.2.1) (u.2.2.1) (u.2.2.2.1) (u.2.2.2.2.1) (u.2.2.2.2.2.1) (u.2.2.2.2.2.2.1) (u.2.2.2.2.2.2.2.1) (u.2.2.2.2.2.2.2.2.1) (u.2.2.2.2.2.2.2.2.2.1) (u.2.2.2.2.2.2.2.2.2.2.1) (u.2.2.2.2.2.2.2.2.2.2.2.1) (u.2.2.2.2.2.2.2.2.2.2.2.2)) ({ frames := 6, cells := 0, slots := 0, locals := 128 } : Room) below args s A) (F0 m 54 ls []) := by
          intro kf
          induction kf with
          | zero => intro x_9 x_10 x_11 x_12 x_13 x_14 x_15 f_16 i17 rf_16 H locs ls hk; exact absurd hk (Nat.not_lt_zero _)
          | succ kf ih54_19 =>
            intro x_9 x_10 x_11 x_12 x_13 x_14 x_15 f_16 i17 rf_16 H locs ls hk54_19 hP hD hS hl
            refine lv_iload hx hb dX0_lookAhead_54 (lv_at hl 4 rfl) ?_
            refine lv_iload_n hx hb dX0_lookAhead_56 rfl (lv_at hl 3 rfl) ?_
            refine lv_icmp_ge (tgt := 80) hx hb dX0_lookAhead_57 (by decide) (fun cb9 => ?_) (fun cb9 => ?_)
            · skip
              have c20 : n.toInt ≤ x_9.toInt := zle cb9 rfl rfl
              refine lv_aload_n hx hb dX0_lookAhead_80 rfl (lv_at hl 0 rfl) ?_
              refine va_get (D := g.1) (ci := 0) (v := .ref od) (C := RX0) (T := TX0) (N := 3) hx hb hts izRX0 hown hK hP 0 rfl rfl 2 (by decide) (hts _ k25) (fun _ h9 => h9) rfl dX0_lookAhead_81 ?_
              refine mcallV' (g := g) (q0 := 0) (ci := 7) (As := []) (rest := []) St hK hT hA hP hD hS hl.1 [2] [0, 1, 3] rfl rfl rfl (c_believed l g od ad pe wo tx x_13 jo tr x_14 x_15 f_16 b_pe b_wo rf_16) (cwV 0 hts (zgL (zl4 k163 k69 k70 k24) k60) rfl rfl rfl (by decide +kernel) ⟨Nat.le_of_ble_eq_true rfl, Nat.le_of_ble_eq_true rfl⟩) rfl rfl rfl rfl (Nat.le_of_ble_eq_true rfl) dX0_lookAhead_84 ⟨(Nat.le_of_ble_eq_true rfl), (Nat.le_of_ble_eq_true rfl)⟩ (fun q_21 H locs hq22 hP hD hS => ?_)
              have hP : va_P g.1 vwCl (List.flatten [bFo g fo o lo od, bLaw g lo lc lz ll x_10 x_11 x_12 fc, bTown g o a pe wo tx ch jo tr dy sd f, bTown g od ad pe wo tx x_13 jo tr x_14 x_15 f_16]) H := hP
              have hD : va_D A (List.flatten [bFo g fo o lo od, bLaw g lo lc lz ll x_10 x_11 x_12 fc, bTown g o a pe wo tx ch jo tr dy sd f, bTown g od ad pe wo tx x_13 jo tr x_14 x_15 f_16]) := hD
              refine W.widen (k := 0) (n := 0) (Nat.le_of_ble_eq_true rfl) (Nat.le_of_ble_eq_true rfl) ?_
              refine W.eq (g2 := F0 m 87 ls [.int q_21]) rfl ?_
              have hP : va_P g.1 vwCl (List.flatten [bFo g fo o lo od, bLaw g lo lc lz ll x_10 x_11 x_12 fc, bTown g o a pe wo tx ch jo tr dy sd f, bTown g od ad pe wo tx x_13 jo tr x_14 x_15 f_16]) H := hP
              have hD : va_D A (List.flatten [bFo g fo o lo od, bLaw g lo lc lz ll x_10 x_11 x_12 fc, bTown g o a pe wo tx ch jo tr dy sd f, bTown g od ad pe wo tx x_13 jo tr x_14 x_15 f_16]) := hD
              obtain ⟨hP, hD⟩ := zord (g := g) (Bs' := [bFo g fo o lo od, bTown g o a pe wo tx ch jo tr dy sd f, bLaw g lo lc lz ll x_10 x_11 x_12 fc, bTown g od ad pe wo tx x_13 jo tr x_14 x_15 f_16]) [0, 2, 1, 3] rfl rfl hP hD
              exact mret_i hx hb hr hlocks hS (Nat.le_of_ble_eq_true rfl) (Nat.le_of_ble_eq_true rfl) dX0_lookAhead_87 (x_10, x_11, x_12, pe, wo, tx, x_13, jo, tr, x_14, x_15, f_16, q_21) rfl (show (0 ≤ pe.toInt ∧ pe.toInt ≤ 8) ∧ (0 ≤ wo.toInt ∧ wo.toInt ≤ 6) ∧ (zZ4 f_16) from ⟨b_pe, b_wo, rf_16⟩) hP hD
            · skip
              have c23 : x_9.toInt < n.toInt := zlti (Int32.not_le.mp cb9) rfl rfl
              have n24 : x_9.toInt ≤ 99 := zL1 (b := 100) c23 b_n.2 (by decide)
              have n25 : 1 ≤ n.toInt := zL2 (a := 0) c23 i17.1 (by decide)
              refine lv_aload_n hx hb dX0_lookAhead_60 rfl (lv_at hl 0 rfl) ?_
              refine va_get (D := g.1) (ci := 0) (v := .ref od) (C := RX0) (T := TX0) (N := 3) hx hb hts izRX0 hown hK hP 0 rfl rfl 2 (by decide) (hts _ k25) (fun _ h9 => h9) rfl dX0_lookAhead_61 ?_
              refine lv_aload_n hx hb dX0_lookAhead_64 rfl (lv_at hl 0 rfl) ?_
              refine va_get (D := g.1) (ci := 0) (v := .ref lo) (C := RX0) (T := TX0) (N := 3) hx hb hts izRX0 hown hK hP 0 rfl rfl 1 (by decide) (hts _ k27) (fun _ h9 => h9) rfl dX0_lookAhead_65 ?_
              refine lv_iconst (v := 0) hx hb dX0_lookAhead_68 (by decide) ?_
              refine lv_null hx hb dX0_lookAhead_69 ?_
              refine mcallV' (g := g) (q0 := 0) (ci := 7) (As := [.ref lo, .int 0, .null]) (rest := []) St hK hT hA hP hD hS hl.1 [2, 1] [0, 3] rfl rfl rfl (c_passDayN l g od ad pe wo tx x_13 jo tr x_14 x_15 f_16 lo lc lz ll x_10 x_11 x_12 fc 0 b_pe b_wo rf_16 b_lz) (cwV 3 hts (zgL (zl4 k160 k161 k162 k24) k154) rfl rfl rfl (by decide +kernel) ⟨Nat.le_of_ble_eq_true rfl, Nat.le_of_ble_eq_true rfl⟩) rfl rfl rfl rfl (Nat.le_of_ble_eq_true rfl) dX0_lookAhead_70 ⟨(Nat.le_of_ble_eq_true rfl), (Nat.le_of_ble_eq_true rfl)⟩ (fun u_ H locs hq34 hP hD hS => ?_)
              obtain ⟨ch2_26, dy2_27, sd2_28, f2_29, lm2_30, lg2_31, ld2_32, q_33⟩ := u_
              replace hq34 : (zZ4 f2_29) := hq34
              have hP : va_P g.1 vwCl (List.flatten [bFo g fo o lo od, bTown g o a pe wo tx ch jo tr dy sd f, bTown g od ad pe wo tx ch2_26 jo tr dy2_27 sd2_28 f2_29, bLaw g lo lc lz ll lm2_30 lg2_31 ld2_32 fc]) H := hP
              have hD : va_D A (List.flatten [bFo g fo o lo od, bTown g o a pe wo tx ch jo tr dy sd f, bTown g od ad pe wo tx ch2_26 jo tr dy2_27 sd2_28 f2_29, bLaw g lo lc lz ll lm2_30 lg2_31 ld2_32 fc]) := hD
              refine W.widen (k := 0) (n := 0) (Nat.le_of_ble_eq_true rfl) (Nat.le_of_ble_eq_true rfl) ?_
              refine W.eq (g2 := F0 m 73 ls [.int q_33]) rfl ?_
              have rf2_29 := hq34; clear hq34
              refine lv_pop hx hb dX0_lookAhead_73 rfl ?_
              refine ziinc3 (n' := 1) (a' := 1) (b' := 100) (lv' := fun v9 => [(4, .int v9), (0, .ref fo), (1, .int st0), (2, .int by9), (3, .int n)]) hx hb dX0_lookAhead_74 hl (k := 4) rfl (by decide) (fun _ => rfl) (zaddK (i := x_9.toInt) (j := 1) rfl (by decide) i17.1 n24 (Int.le_refl _) (Int.le_refl _) (by decide)) (fun x_35 ls hx_35 hl => ?_)
              refine lv_goto (tgt := 54) hx hb dX0_lookAhead_77 (by decide) ?_
              have hl := lv_sub (l' := [(0, .ref fo), (1, .int st0), (2, .int by9), (3, .int n), (4, .int x_35)]) hl [1, 2, 3, 4, 0] rfl
              have hP : va_P g.1 vwCl (List.flatten [bFo g fo o lo od, bTown g o a pe wo tx ch jo tr dy sd f, bTown g od ad pe wo tx ch2_26 jo tr dy2_27 sd2_28 f2_29, bLaw g lo lc lz ll lm2_30 lg2_31 ld2_32 fc]) H := hP
              have hD : va_D A (List.flatten [bFo g fo o lo od, bTown g o a pe wo tx ch jo tr dy sd f, bTown g od ad pe wo tx ch2_26 jo tr dy2_27 sd2_28 f2_29, bLaw g lo lc lz ll lm2_30 lg2_31 ld2_32 fc]) := hD
              obtain ⟨hP, hD⟩ := zord (g := g) (Bs' := [bFo g fo o lo od, bLaw g lo lc lz ll lm2_30 lg2_31 ld2_32 fc, bTown g od ad pe wo tx ch2_26 jo tr dy2_27 sd2_28 f2_29, bTown g o a pe wo tx ch jo tr dy sd f]) [0, 3, 2, 1] rfl rfl hP hD
              have hP : va_P g.1 vwCl (List.flatten [bFo g fo o lo od, bLaw g lo lc lz ll lm2_30 lg2_31 ld2_32 fc, bTown g od ad pe wo tx ch2_26 jo tr dy2_27 sd2_28 f2_29, bTown g o a pe wo tx ch jo tr dy sd f]) H := hP
              have hD : va_D A (List.flatten [bFo g fo o lo od, bLaw g lo lc lz ll lm2_30 lg2_31 ld2_32 fc, bTown g od ad pe wo tx ch2_26 jo tr dy2_27 sd2_28 f2_29, bTown g o a pe wo tx ch jo tr dy sd f]) := hD
              exact ih54_19 x_35 lm2_30 lg2_31 ld2_32 ch2_26 dy2_27 sd2_28 f2_29 ⟨(Int.le_trans (by decide) hx_35.2.1), hx_35.2.2⟩ rf2_29 H _ ls (zmK hx_35.1 (by decide) n24 (by decide) hk54_19)  hP hD hS (lv_sub hl [0, 1, 2, 3, 4] rfl)
        have hP : va_P g.1 vwCl (List.flatten [bFo g fo o lo od, bLaw g lo lc lz ll lm lg ld fc, bTown g od ad pe wo tx ch jo tr dy sd f_4, bTown g o a pe wo tx ch jo tr dy sd f]) H := hP
        have hD : va_D A (List.flatten [bFo g fo o lo od, bLaw g lo lc lz ll lm lg ld fc, bTown g od ad pe wo tx ch jo tr dy sd f_4, bTown g o a pe wo tx ch jo tr dy sd f]) := hD
        exact LP54_18 _ 0 lm lg ld ch dy sd f_4 (by decide) rf_4 H _ ls (Nat.lt_succ_self _)  hP hD hS (lv_sub hl [0, 1, 2, 3, 4] rfl)
      · skip
        have c36 : x_3.toInt < pe.toInt := zlti (Int32.not_le.mp cb9) rfl rfl
        have n37 : x_3.toInt ≤ 7 := zL1 (b := 8) c36 b_pe.2 (by decide)
        have n38 : 1 ≤ pe.toInt := zL2 (a := 0) c36 i5.1 (by decide)
        refine lv_iload_n hx hb dX0_lookAhead_26 rfl (lv_at hl 1 rfl) ?_
        refine lv_iload hx hb dX0_lookAhead_27 (lv_at hl 4 rfl) ?_
        refine lv_ishr hx hb dX0_lookAhead_29 ?_
        refine zg (fun x_39 => ?_)
        refine lv_iconst (v := 1) hx hb dX0_lookAhead_30 (by decide) ?_
        refine lv_iand hx hb dX0_lookAhead_31 ?_
        refine zgb (zand1 _) (fun x_40 hx_40 => ?_)
        refine lv_if_eq (tgt := 45) hx hb dX0_lookAhead_32 (by decide) (fun cb9 => ?_) (fun cb9 => ?_)
        · skip
          have c41 : x_40.toInt = 0 := zeq cb9 rfl (by decide)
          have n42 : x_40.toInt ≤ 0 := Int.le_trans (Int.le_of_eq c41) (Int.le_refl _)
          refine ziinc3 (n' := 1) (a' := 1) (b' := 8) (lv' := fun v9 => [(4, .int v9), (0, .ref fo), (1, .int st0), (2, .int by9), (3, .int n)]) hx hb dX0_lookAhead_45 hl (k := 4) rfl (by decide) (fun _ => rfl) (zaddK (i := x_3.toInt) (j := 1) rfl (by decide) i5.1 n37 (Int.le_refl _) (Int.le_refl _) (by decide)) (fun x_43 ls hx_43 hl => ?_)
          refine lv_goto (tgt := 14) hx hb dX0_lookAhead_48 (by decide) ?_
          have hl := lv_sub (l' := [(0, .ref fo), (1, .int st0), (2, .int by9), (3, .int n), (4, .int x_43)]) hl [1, 2, 3, 4, 0] rfl
          have hP : va_P g.1 vwCl (List.flatten [bFo g fo o lo od, bLaw g lo lc lz ll lm lg ld fc, bTown g od ad pe wo tx ch jo tr dy sd f_4, bTown g o a pe wo tx ch jo tr dy sd f]) H := hP
          have hD : va_D A (List.flatten [bFo g fo o lo od, bLaw g lo lc lz ll lm lg ld fc, bTown g od ad pe wo tx ch jo tr dy sd f_4, bTown g o a pe wo tx ch jo tr dy sd f]) := hD
          exact ih14_7 x_43 f_4 ⟨(Int.le_trans (by decide) hx_43.2.1), hx_43.2.2⟩ rf_4 H _ ls (zmK hx_43.1 (by decide) n37 (by decide) hk14_7)  hP hD hS (lv_sub hl [0, 1, 2, 3, 4] rfl)
        · skip
          have c44 : ¬ x_40.toInt = 0 := zne cb9 rfl (by decide)
          have n45 : 1 ≤ x_40.toInt := zN1 c44 hx_40.1 (by decide)
          refine lv_aload_n hx hb dX0_lookAhead_35 rfl (lv_at hl 0 rfl) ?_
          refine va_get (D := g.1) (ci := 0) (v := .ref od) (C := RX0) (T := TX0) (N := 3) hx hb hts izRX0 hown hK hP 0 rfl rfl 2 (by decide) (hts _ k25) (fun _ h9 => h9) rfl dX0_lookAhead_36 ?_
          refine lv_iload hx hb dX0_lookAhead_39 (lv_at hl 4 rfl) ?_
          refine lv_iload_n hx hb dX0_lookAhead_41 rfl (lv_at hl 2 rfl) ?_
          refine mcallV' (g := g) (q0 := 0) (ci := 7) (As := [.int x_3, .int by9]) (rest := []) St hK hT hA hP hD hS hl.1 [2] [0, 1, 3] rfl rfl rfl (c_raise l g od ad pe wo tx ch jo tr dy sd f_4 x_3 by9 rf_4 (⟨i5.1, n37⟩)) (cwV 2 hts (zgL (zl4 k159 k132 k133 k24) k47) rfl rfl rfl (by decide +kernel) ⟨Nat.le_of_ble_eq_true rfl, Nat.le_of_ble_eq_true rfl⟩) rfl rfl rfl rfl (Nat.le_of_ble_eq_true rfl) dX0_lookAhead_42 ⟨(Nat.le_of_ble_eq_true rfl), (Nat.le_of_ble_eq_true rfl)⟩ (fun f2_46 H locs hq47 hP hD hS => ?_)
          replace hq47 : (zZ4 f2_46) := hq47
          have hP : va_P g.1 vwCl (List.flatten [bFo g fo o lo od, bLaw g lo lc lz ll lm lg ld fc, bTown g o a pe wo tx ch jo tr dy sd f, bTown g od ad pe wo tx ch jo tr dy sd f2_46]) H := hP
          have hD : va_D A (List.flatten [bFo g fo o lo od, bLaw g lo lc lz ll lm lg ld fc, bTown g o a pe wo tx ch jo tr dy sd f, bTown g od ad pe wo tx ch jo tr dy sd f2_46]) := hD
          refine W.widen (k := 0) (n := 0) (Nat.le_of_ble_eq_true rfl) (Nat.le_of_ble_eq_true rfl) ?_
          refine W.eq (g2 := F0 m 45 ls []) rfl ?_
          have rf2_46 := hq47; clear hq47
          refine ziinc3 (n' := 1) (a' := 1) (b' := 8) (lv' := fun v9 => [(4, .int v9), (0, .ref fo), (1, .int st0), (2, .int by9), (3, .int n)]) hx hb dX0_lookAhead_45 hl (k := 4) rfl (by decide) (fun _ => rfl) (zaddK (i := x_3.toInt) (j := 1) rfl (by decide) i5.1 n37 (Int.le_refl _) (Int.le_refl _) (by decide)) (fun x_48 ls hx_48 hl => ?_)
          refine lv_goto (tgt := 14) hx hb dX0_lookAhead_48 (by decide) ?_
          have hl := lv_sub (l' := [(0, .ref fo), (1, .int st0), (2, .int by9), (3, .int n), (4, .int x_48)]) hl [1, 2, 3, 4, 0] rfl
          have hP : va_P g.1 vwCl (List.flatten [bFo g fo o lo od, bLaw g lo lc lz ll lm lg ld fc, bTown g o a pe wo tx ch jo tr dy sd f, bTown g od ad pe wo tx ch jo tr dy sd f2_46]) H := hP
          have hD : va_D A (List.flatten [bFo g fo o lo od, bLaw g lo lc lz ll lm lg ld fc, bTown g o a pe wo tx ch jo tr dy sd f, bTown g od ad pe wo tx ch jo tr dy sd f2_46]) := hD
          obtain ⟨hP, hD⟩ := zord (g := g) (Bs' := [bFo g fo o lo od, bLaw g lo lc lz ll lm lg ld fc, bTown g od ad pe wo tx ch jo tr dy sd f2_46, bTown g o a pe wo tx ch jo tr dy sd f]) [0, 1, 3, 2] rfl rfl hP hD
          have hP : va_P g.1 vwCl (List.flatten [bFo g fo o lo od, bLaw g lo lc lz ll lm lg ld fc, bTown g od ad pe wo tx ch jo tr dy sd f2_46, bTown g o a pe wo tx ch jo tr dy sd f]) H := hP
          have hD : va_D A (List.flatten [bFo g fo o lo od, bLaw g lo lc lz ll lm lg ld fc, bTown g od ad pe wo tx ch jo tr dy sd f2_46, bTown g o a pe wo tx ch jo tr dy sd f]) := hD
          exact ih14_7 x_48 f2_46 ⟨(Int.le_trans (by decide) hx_48.2.1), hx_48.2.2⟩ rf2_46 H _ ls (zmK hx_48.1 (by decide) n37 (by decide) hk14_7)  hP hD hS (lv_sub hl [0, 1, 2, 3, 4] rfl)
  have hP : va_P g.1 vwCl (List.flatten [bFo g fo o lo od, bLaw g lo lc lz ll lm lg ld fc, bTown g od ad pe wo tx ch jo tr dy sd h_1, bTown g o a pe wo tx ch jo tr dy sd f]) H := hP
  have hD : va_D A (List.flatten [bFo g fo o lo od, bLaw g lo lc lz ll lm lg ld fc, bTown g od ad pe wo tx ch jo tr dy sd h_1, bTown g o a pe wo tx ch jo tr dy sd f]) := hD
  exact LP14_6 _ 0 h_1 (by decide) rh_1 H _ ls (Nat.lt_succ_self _)  hP hD hS (lv_sub hl [0, 1, 2, 3, 4] rfl)
set_option maxRecDepth 100000 in
set_option maxHeartbeats 4000000 in
theorem c_f_strongest (l : Launch) (g : zG) (fo : Nat) (o : Nat) (lo : Nat) (od : Nat) (a : Nat → Nat) (pe : Int32) (wo : Int32) (tx : Int32) (ch : Int32) (jo : Int32) (tr : Int32) (dy : Int32) (sd : Int32) (f : Nat → Nat → Int32) (lc : Nat) (lz : Int32) (ll : Int32) (lm : Int32) (lg : Int32) (ld : Int32) (fc : Nat → Int32) (ad : Nat → Nat) (ped : Int32) (wod : Int32) (txd : Int32) (chd : Int32) (jod : Int32) (trd : Int32) (dyd : Int32) (sdd : Int32) (fd : Nat → Nat → Int32) (n : Int32) (b_pe : 0 ≤ pe.toInt ∧ pe.toInt ≤ 8) (b_wo : 0 ≤ wo.toInt ∧ wo.toInt ≤ 6) (rf : zZ4 f) (b_lz : 0 ≤ lz.toInt ∧ lz.toInt ≤ 400) (b_ped : 0 ≤ ped.toInt ∧ ped.toInt ≤ 8) (b_wod : 0 ≤ wod.toInt ∧ wod.toInt ≤ 6) (rfd : zZ4 fd) (b_n : 0 ≤ n.toInt ∧ n.toInt ≤ 100) : zM' g l yX0_strongest (Cond.code yX0_strongest cX0_strongest 6 (some .int) :: zB) ({ frames := 7, cells := 0, slots := 0, locals := 152 } : Room) [.ref fo, .int n] [bFo g fo o lo od, bTown g o a pe wo tx ch jo tr dy sd f, bLaw g lo lc lz ll lm lg ld fc, bTown g od ad ped wod txd chd jod trd dyd sdd fd] (fun u : Int32 × Int32 × Int32 × Int32 × Int32 × Int32 × Int32 × Int32 × Int32 × Int32 × Int32 × (Nat → Nat → Int32) × Int32 => (fun (lm2 : Int32) (lg2 : Int32) (ld2 : Int32) (pe3 : Int32) (wo3 : Int32) (tx3 : Int32) (ch3 : Int32) (jo3 : Int32) (tr3 : Int32) (dy3 : Int32) (sd3 : Int32) (f3 : Nat → Nat → Int32) (q : Int32) => some (.int q)) (u.1) (u.2.1) (u.2.2.1) (u.2.2.2.1) (u.2.2.2.2.1) (u.2.2.2.2.2.1) (u.2.2.2.2.2.2.1) (u.2.2.2.2.2.2.2.1) (u.2.2.2.2.2.2.2.2.1) (u.2.2.2.2.2.2.2.2.2.1) (u.2.2.2.2.2.2.2.2.2.2.1) (u.2.2.2.2.2.2.2.2.2.2.2.1) (u.2.2.2.2.2.2.2.2.2.2.2.2)) (fun u : Int32 × Int32 × Int32 × Int32 × Int32 × Int32 × Int32 × Int32 × Int32 × Int32 × Int32 × (Nat → Nat → Int32) × Int32 => (fun (lm2 : Int32) (lg2 : Int32) (ld2 : Int32) (pe3 : Int32) (wo3 : Int32) (tx3 : Int32) (ch3 : Int32) (jo3 : Int32) (tr3 : Int32) (dy3 : Int32) (sd3 : Int32) (f3 : Nat → Nat → Int32) (q : Int32) => (0 ≤ pe3.toInt ∧ pe3.toInt ≤ 8) ∧ (0 ≤ wo3.toInt ∧ wo3.toInt ≤ 6) ∧ (zZ4 f3)) (u.1) (u.2.1) (u.2.2.1) (u.2.2.2.1) (u.2.2.2.2.1) (u.2.2.2.2.2.1) (u.2.2.2.2.2.2.1) (u.2.2.2.2.2.2.2.1) (u.2.2.2.2.2.2.2.2.1) (u.2.2.2.2.2.2.2.2.2.1) (u.2.2.2.2.2.2.2.2.2.2.1) (u.2.2.2.2.2.2.2.2.2.2.2.1) (u.2.2.2.2.2.2.2.2.2.2.2.2)) (fun u : Int32 × Int32 × Int32 × Int32 × Int32 × Int32 × Int32 × Int32 × Int32 × Int32 × Int32 × (Nat → Nat → Int32) × Int32 => (fun (lm2 : Int32) (lg2 : Int32) (ld2 : Int32) (pe3 : Int32) (wo3 : Int32) (tx3 : Int32) (ch3 : Int32) (jo3 : Int32) (tr3 : Int32) (dy3 : Int32) (sd3 : Int32) (f3 : Nat → Nat → Int32) (q : Int32) => [bFo g fo o lo od, bTown g o a pe wo tx ch jo tr dy sd f, bLaw g lo lc lz ll lm2 lg2 ld2 fc, bTown g od ad pe3 wo3 tx3 ch3 jo3 tr3 dy3 sd3 f3]) (u.1) (u.2.1) (u.2.2.1) (u.2.2.2.1) (u.2.2.2.2.1) (u.2.2.2.2.2.1) (u.2.2.2.2.2.2.1) (u.2.2.2.2.2.2.2.1) (u.2.2.2.2.2.2.2.2.1) (u.2.2.2.2.2.2.2.2.2.1) (u.2.2.2.2.2.2.2.2.2.2.1) (u.2.2.2.2.2.2.2.2.2.2.2.1) (u.2.2.2.2.2.2.2.2.2.2.2.2)) := by
  refine zM'.of (cc := cX0_strongest) (maxL := 6) (rt := (some .int)) (by decide) rfl (Nat.le_of_ble_eq_true rfl) ?_
  intro p e s m args below meth c A ls St hr hlocks hin hK hT hA hP hD hS hl
  obtain ⟨hx, hb, hml, hown, hts⟩ := id St
  have hl : lv_has ls 6 [(0, .ref fo), (1, .int n)] := hl
  refine lv_iconst (v := (-1)) hx hb dX0_strongest_0 (by decide) ?_
  refine lv_istore_n (lv' := [(2, .int (-1)), (0, .ref fo), (1, .int n)]) hx hb dX0_strongest_1 rfl hl (by decide) rfl (fun ls hl => ?_)
  refine lv_iconst (v := 0) hx hb dX0_strongest_2 (by decide) ?_
  refine lv_istore_n (lv' := [(3, .int 0), (2, .int (-1)), (0, .ref fo), (1, .int n)]) hx hb dX0_strongest_3 rfl hl (by decide) rfl (fun ls hl => ?_)
  refine lv_iconst (v := 0) hx hb dX0_strongest_4 (by decide) ?_
  refine lv_istore (lv' := [(4, .int 0), (3, .int 0), (2, .int (-1)), (0, .ref fo), (1, .int n)]) hx hb dX0_strongest_5 hl (by decide) rfl (fun ls hl => ?_)
  have hl := lv_sub (l' := [(0, .ref fo), (1, .int n), (2, .int (-1)), (3, .int 0), (4, .int 0)]) hl [3, 4, 2, 1, 0] rfl
  have LP7_20 : ∀ (kf : Nat) (x_1 : Int32) (x_2 : Int32) (x_3 : Int32) (x_4 : Int32) (x_5 : Int32) (x_6 : Int32) (x_7 : Int32) (x_8 : Int32) (x_9 : Int32) (x_10 : Int32) (x_11 : Int32) (x_12 : Int32) (x_13 : Int32) (x_14 : Int32) (f_15 : Nat → Nat → Int32), ((-1) ≤ x_1.toInt ∧ x_1.toInt ≤ 7) → (0 ≤ x_3.toInt ∧ x_3.toInt ≤ 8) → (0 ≤ x_7.toInt ∧ x_7.toInt ≤ 8) → (0 ≤ x_8.toInt ∧ x_8.toInt ≤ 6) → (zZ4 f_15) → ∀ (H : Heap) (locs : List Loc) (ls : Array Slot), ((9 - x_3.toInt).toNat) < kf → va_P g.1 vwCl (List.flatten [bFo g fo o lo od, bTown g o a pe wo tx ch jo tr dy sd f, bLaw g lo lc lz ll x_4 x_5 x_6 fc, bTown g od ad x_7 x_8 x_9 x_10 x_11 x_12 x_13 x_14 f_15]) H → va_D A (List.flatten [bFo g fo o lo od, bTown g o a pe wo tx ch jo tr dy sd f, bLaw g lo lc lz ll x_4 x_5 x_6 fc, bTown g od ad x_7 x_8 x_9 x_10 x_11 x_12 x_13 x_14 f_15]) → va_S A s.heap H locs → lv_has ls 6 [(0, .ref fo), (1, .int n), (2, .int x_1), (3, .int x_2), (4, .int x_3)] → W p l e ({ frames := 7, cells := 0, slots := 0, locals := 152 } : Room) s m args below meth c H locs (0) (0) (zF g (fun u : Int32 × Int32 × Int32 × Int32 × Int32 × Int32 × Int32 × Int32 × Int32 × Int32 × Int32 × (Nat → Nat → Int32) × Int32 => (fun (lm2 : Int32) (lg2 : Int32) (ld2 : Int32) (pe3 : Int32) (wo3 : Int32) (tx3 : Int32) (ch3 : Int32) (jo3 : Int32) (tr3 : Int32) (dy3 : Int32) (sd3 : Int32) (f3 : Nat → Nat → Int32) (q : Int32) => some (.int q)) (u.1) (u.2.1) (u.2.2.1) (u.2.2.2.1) (u.2.2.2.2.1) (u.2.2.2.2.2.1) (u.2.2.2.2.2.2.1) (u.2.2.2.2.2.2.2.1) (u.2.2.2.2.2.2.2.2.1) (u.2.2.2.2.2.2.2.2.2.1) (u.2.2.2.2.2.2.2.2.2.2.1) (u.2.2.2.2.2.2.2.2.2.2.2.1) (u.2.2.2.2.2.2.2.2.2.2.2.2)) (fun u : Int32 × Int32 × Int32 × Int32 × Int32 × Int32 × Int32 × Int32 × Int32 × Int32 × Int32 × (Nat → Nat → Int32) × Int32 => (fun (lm2 : Int32) (lg2 : Int32) (ld2 : Int32) (pe3 : Int32) (wo3 : Int32) (tx3 : Int32) (ch3 : Int32) (jo3 : Int32) (tr3 : Int32) (dy3 : Int32) (sd3 : Int32) (f3 : Nat → Nat → Int32) (q : Int32) => (0 ≤ pe3.toInt ∧ pe3.toInt ≤ 8) ∧ (0 ≤ wo3.toInt ∧ wo3.toInt ≤ 6) ∧ (zZ4 f3)) (u.1) (u.2.1) (u.2.2.1) (u.2.2.2.1) (u.2.2.2.2.1) (u.2.2.2.2.2.1) (u.2.2.2.2.2.2.1) (u.2.2.2.2.2.2.2.1) (u.2.2.2.2.2.2.2.2.1) (u.2.2.2.2.2.2.2.2.2.1) (u.2.2.2.2.2.2.2.2.2.2.1) (u.2.2.2.2.2.2.2.2.2.2.2.1) (u.2.2.2.2.2.2.2.2.2.2.2.2)) (fun u : Int32 × Int32 × Int32 × Int32 × Int32 × Int32 × Int32 × Int32 × Int32 × Int32 × Int32 × (Nat → Nat → Int32) × Int32 => (fun (lm2 : Int32) (lg2 : Int32) (ld2 : Int32) (pe3 : Int32) (wo3 : Int32) (tx3 : Int32) (ch3 : Int32) (jo3 : Int32) (tr3 : Int32) (dy3 : Int32) (sd3 : Int32) (f3 : Nat → Nat → Int32) (q : Int32) => [bFo g fo o lo od, bTown g o a pe wo tx ch jo tr dy sd f, bLaw g lo lc lz ll lm2 lg2 ld2 fc, bTown g od ad pe3 wo3 tx3 ch3 jo3 tr3 dy3 sd3 f3]) (u.1) (u.2.1) (u.2.2.1) (u.2.2.2.1) (u.2.2.2.2.1) (u.2.2.2.2.2.1) (u.2.2.2.2.2.2.1) (u.2.2.2.2.2.2.2.1) (u.2.2.2.2.2.2.2.2.1) (u.2.2.2.2.2.2.2.2.2.1) (u.2.2.2.2.2.2.2.2.2.2.1) (u.2.2.2.2.2.2.2.2.2.2.2.1) (u.2.2.2.2.2.2.2.2.2.2.2.2)) ({ frames := 7, cells := 0, slots := 0, locals := 152 } : Room) below args s A) (F0 m 7 ls []) := by
    intro kf
    induction kf with
    | zero => intro x_1 x_2 x_3 x_4 x_5 x_6 x_7 x_8 x_9 x_10 x_11 x_12 x_13 x_14 f_15 i16 i17 i18 i19 rf_15 H locs ls hk; exact absurd hk (Nat.not_lt_zero _)
    | succ kf ih7_21 =>
      intro x_1 x_2 x_3 x_4 x_5 x_6 x_7 x_8 x_9 x_10 x_11 x_12 x_13 x_14 f_15 i16 i17 i18 i19 rf_15 H locs ls hk7_21 hP hD hS hl
      refine lv_iload hx hb dX0_strongest_7 (lv_at hl 4 rfl) ?_
      refine lv_aload_n hx hb dX0_strongest_9 rfl (lv_at hl 0 rfl) ?_
      refine va_get (D := g.1) (ci := 0) (v := .ref o) (C := RX0) (T := TX0) (N := 3) hx hb hts izRX0 hown hK hP 0 rfl rfl 0 (by decide) (hts _ k26) (fun _ h9 => h9) rfl dX0_strongest_10 ?_
      refine va_get (D := g.1) (ci := 7) (v := .int pe) (C := RX9) (T := TX9) (N := 19) hx hb hts izRX9 hown hK hP 1 rfl rfl 0 (by decide) (hts _ k155) (fun _ h9 => h9) rfl dX0_strongest_13 ?_
      refine lv_icmp_ge (tgt := 67) hx hb dX0_strongest_16 (by decide) (fun cb9 => ?_) (fun cb9 => ?_)
      · skip
        have c22 : pe.toInt ≤ x_3.toInt := zle cb9 rfl rfl
        refine lv_iload_n hx hb dX0_strongest_67 rfl (lv_at hl 2 rfl) ?_
        have hP : va_P g.1 vwCl (List.flatten [bFo g fo o lo od, bTown g o a pe wo tx ch jo tr dy sd f, bLaw g lo lc lz ll x_4 x_5 x_6 fc, bTown g od ad x_7 x_8 x_9 x_10 x_11 x_12 x_13 x_14 f_15]) H := hP
        have hD : va_D A (List.flatten [bFo g fo o lo od, bTown g o a pe wo tx ch jo tr dy sd f, bLaw g lo lc lz ll x_4 x_5 x_6 fc, bTown g od ad x_7 x_8 x_9 x_10 x_11 x_12 x_13 x_14 f_15]) := hD
        exact mret_i hx hb hr hlocks hS (Nat.le_of_ble_eq_true rfl) (Nat.le_of_ble_eq_true rfl) dX0_strongest_68 (x_4, x_5, x_6, x_7, x_8, x_9, x_10, x_11, x_12, x_13, x_14, f_15, x_1) rfl (show (0 ≤ x_7.toInt ∧ x_7.toInt ≤ 8) ∧ (0 ≤ x_8.toInt ∧ x_8.toInt ≤ 6) ∧ (zZ4 f_15) from ⟨i18, i19, rf_15⟩) hP hD
      · skip
        have c23 : x_3.toInt < pe.toInt := zlti (Int32.not_le.mp cb9) rfl rfl
        have n24 : x_3.toInt ≤ 7 := zL1 (b := 8) c23 b_pe.2 (by decide)
        have n25 : 1 ≤ pe.toInt := zL2 (a := 0) c23 i17.1 (by decide)
        refine lv_aload_n hx hb dX0_strongest_19 rfl (lv_at hl 0 rfl) ?_
        refine va_get (D := g.1) (ci := 0) (v := .ref o) (C := RX0) (T := TX0) (N := 3) hx hb hts izRX0 hown hK hP 0 rfl rfl 0 (by decide) (hts _ k26) (fun _ h9 => h9) rfl dX0_strongest_20 ?_
        refine lv_iload hx hb dX0_strongest_23 (lv_at hl 4 rfl) ?_
        refine mcallV' (g := g) (q0 := 0) (ci := 7) (As := [.int x_3]) (rest := []) St hK hT hA hP hD hS hl.1 [1] [0, 2, 3] rfl rfl rfl (c_isHere l g o a pe wo tx ch jo tr dy sd f x_3 (⟨i17.1, n24⟩)) (cwV 1 hts (zgL (zl4 k165 k54 k55 k24) k51) rfl rfl rfl (by decide +kernel) ⟨Nat.le_of_ble_eq_true rfl, Nat.le_of_ble_eq_true rfl⟩) rfl rfl rfl rfl (Nat.le_of_ble_eq_true rfl) dX0_strongest_25 ⟨(Nat.le_of_ble_eq_true rfl), (Nat.le_of_ble_eq_true rfl)⟩ (fun q_26 H locs hq27 hP hD hS => ?_)
        replace hq27 : (q_26 = 0 ∨ q_26 = 1) := hq27
        have hP : va_P g.1 vwCl (List.flatten [bFo g fo o lo od, bLaw g lo lc lz ll x_4 x_5 x_6 fc, bTown g od ad x_7 x_8 x_9 x_10 x_11 x_12 x_13 x_14 f_15, bTown g o a pe wo tx ch jo tr dy sd f]) H := hP
        have hD : va_D A (List.flatten [bFo g fo o lo od, bLaw g lo lc lz ll x_4 x_5 x_6 fc, bTown g od ad x_7 x_8 x_9 x_10 x_11 x_12 x_13 x_14 f_15, bTown g o a pe wo tx ch jo tr dy sd f]) := hD
        refine W.widen (k := 0) (n := 0) (Nat.le_of_ble_eq_true rfl) (Nat.le_of_ble_eq_true rfl) ?_
        refine W.eq (g2 := F0 m 28 ls [.int q_26]) rfl ?_
        rcases hq27 with rfl | rfl
        · skip
          refine lv_if_eq (tgt := 61) hx hb dX0_strongest_28 (by decide) (fun _ => ?_) (fun c28 => absurd (by decide) c28)
          refine ziinc3 (n' := 1) (a' := 1) (b' := 8) (lv' := fun v9 => [(4, .int v9), (0, .ref fo), (1, .int n), (2, .int x_1), (3, .int x_2)]) hx hb dX0_strongest_61 hl (k := 4) rfl (by decide) (fun _ => rfl) (zaddK (i := x_3.toInt) (j := 1) rfl (by decide) i17.1 n24 (Int.le_refl _) (Int.le_refl _) (by decide)) (fun x_29 ls hx_29 hl => ?_)
          refine lv_goto (tgt := 7) hx hb dX0_strongest_64 (by decide) ?_
          have hl := lv_sub (l' := [(0, .ref fo), (1, .int n), (2, .int x_1), (3, .int x_2), (4, .int x_29)]) hl [1, 2, 3, 4, 0] rfl
          have hP : va_P g.1 vwCl (List.flatten [bFo g fo o lo od, bLaw g lo lc lz ll x_4 x_5 x_6 fc, bTown g od ad x_7 x_8 x_9 x_10 x_11 x_12 x_13 x_14 f_15, bTown g o a pe wo tx ch jo tr dy sd f]) H := hP
          have hD : va_D A (List.flatten [bFo g fo o lo od, bLaw g lo lc lz ll x_4 x_5 x_6 fc, bTown g od ad x_7 x_8 x_9 x_10 x_11 x_12 x_13 x_14 f_15, bTown g o a pe wo tx ch jo tr dy sd f]) := hD
          obtain ⟨hP, hD⟩ := zord (g := g) (Bs' := [bFo g fo o lo od, bTown g o a pe wo tx ch jo tr dy sd f, bLaw g lo lc lz ll x_4 x_5 x_6 fc, bTown g od ad x_7 x_8 x_9 x_10 x_11 x_12 x_13 x_14 f_15]) [0, 3, 1, 2] rfl rfl hP hD
          have hP : va_P g.1 vwCl (List.flatten [bFo g fo o lo od, bTown g o a pe wo tx ch jo tr dy sd f, bLaw g lo lc lz ll x_4 x_5 x_6 fc, bTown g od ad x_7 x_8 x_9 x_10 x_11 x_12 x_13 x_14 f_15]) H := hP
          have hD : va_D A (List.flatten [bFo g fo o lo od, bTown g o a pe wo tx ch jo tr dy sd f, bLaw g lo lc lz ll x_4 x_5 x_6 fc, bTown g od ad x_7 x_8 x_9 x_10 x_11 x_12 x_13 x_14 f_15]) := hD
          exact ih7_21 x_1 x_2 x_29 x_4 x_5 x_6 x_7 x_8 x_9 x_10 x_11 x_12 x_13 x_14 f_15 ⟨i16.1, i16.2⟩ ⟨(Int.le_trans (by decide) hx_29.2.1), hx_29.2.2⟩ ⟨i18.1, i18.2⟩ ⟨i19.1, i19.2⟩ rf_15 H _ ls (zmK hx_29.1 (by decide) n24 (by decide) hk7_21)  hP hD hS (lv_sub hl [0, 1, 2, 3, 4] rfl)
        · skip
          refine lv_if_eq (tgt := 61) hx hb dX0_strongest_28 (by decide) (fun c30 => absurd c30 (by decide)) (fun _ => ?_)
          refine lv_aload_n hx hb dX0_strongest_31 rfl (lv_at hl 0 rfl) ?_
          refine lv_iconst (v := 1) hx hb dX0_strongest_32 (by decide) ?_
          refine lv_iload hx hb dX0_strongest_33 (lv_at hl 4 rfl) ?_
          refine lv_ishl hx hb dX0_strongest_35 ?_
          refine zgb (zshl1 (j := x_3.toInt) rfl 7 128 (by decide) (by decide) ⟨i17.1, n24⟩) (fun x_31 hx_31 => ?_)
          refine lv_bipush (v := 10) hx hb dX0_strongest_36 (by decide) ?_
          refine lv_iload_n hx hb dX0_strongest_38 rfl (lv_at hl 1 rfl) ?_
          refine mcallV' (g := g) (q0 := 0) (ci := 0) (As := [.int x_31, .int 10, .int n]) (rest := []) St hK hT hA hP hD hS hl.1 [0, 3, 1, 2] [] rfl rfl rfl (c_f_lookAhead l g fo o lo od a pe wo tx ch jo tr dy sd f lc lz ll x_4 x_5 x_6 fc ad x_7 x_8 x_9 x_10 x_11 x_12 x_13 x_14 f_15 x_31 10 n b_pe b_wo rf b_lz i18 i19 rf_15 b_n) (cwV 3 hts (zgL (zl4 k166 k167 k168 k169) k164) rfl rfl rfl (by decide +kernel) ⟨Nat.le_of_ble_eq_true rfl, Nat.le_of_ble_eq_true rfl⟩) rfl rfl rfl rfl (Nat.le_of_ble_eq_true rfl) dX0_strongest_39 ⟨(Nat.le_of_ble_eq_true rfl), (Nat.le_of_ble_eq_true rfl)⟩ (fun u_ H locs hq45 hP hD hS => ?_)
          obtain ⟨lm2_32, lg2_33, ld2_34, pe3_35, wo3_36, tx3_37, ch3_38, jo3_39, tr3_40, dy3_41, sd3_42, f3_43, q_44⟩ := u_
          replace hq45 : (0 ≤ pe3_35.toInt ∧ pe3_35.toInt ≤ 8) ∧ (0 ≤ wo3_36.toInt ∧ wo3_36.toInt ≤ 6) ∧ (zZ4 f3_43) := hq45
          have hP : va_P g.1 vwCl (List.flatten [bFo g fo o lo od, bTown g o a pe wo tx ch jo tr dy sd f, bLaw g lo lc lz ll lm2_32 lg2_33 ld2_34 fc, bTown g od ad pe3_35 wo3_36 tx3_37 ch3_38 jo3_39 tr3_40 dy3_41 sd3_42 f3_43]) H := hP
          have hD : va_D A (List.flatten [bFo g fo o lo od, bTown g o a pe wo tx ch jo tr dy sd f, bLaw g lo lc lz ll lm2_32 lg2_33 ld2_34 fc, bTown g od ad pe3_35 wo3_36 tx3_37 ch3_38 jo3_39 tr3_40 dy3_41 sd3_42 f3_43]) := hD
          refine W.widen (k := 0) (n := 0) (Nat.le_of_ble_eq_true rfl) (Nat.le_of_ble_eq_true rfl) ?_
          refine W.eq (g2 := F0 m 42 ls [.int q_44]) rfl ?_
          obtain ⟨hq45_0, hq45_1, rf3_43⟩ := hq45
          refine lv_istore (lv' := [(5, .int q_44), (0, .ref fo), (1, .int n), (2, .int x_1), (3, .int x_2), (4, .int x_3)]) hx hb dX0_strongest_42 hl (by decide) rfl (fun ls hl => ?_)
          refine lv_iload_n hx hb dX0_strongest_44 rfl (lv_at hl 3 rfl) ?_
          refine lv_iconst (v := (-1)) hx hb dX0_strongest_45 (by decide) ?_
          refine lv_icmp_eq (tgt := 55) hx hb dX0_strongest_46 (by decide) (fun cb9 => ?_) (fun cb9 => ?_)
          · skip
            have c46 : x_1.toInt = (-1) := zeq cb9 rfl (by decide)
            have n47 : x_1.toInt ≤ (-1) := Int.le_trans (Int.le_of_eq c46) (Int.le_refl _)
            refine lv_iload hx hb dX0_strongest_55 (lv_at hl 5 rfl) ?_
            refine lv_istore_n (lv' := [(2, .int x_3), (5, .int q_44), (0, .ref fo), (1, .int n), (3, .int x_2), (4, .int x_3)]) hx hb dX0_strongest_57 rfl hl (by decide) rfl (fun ls hl => ?_)
            refine lv_iload hx hb dX0_strongest_58 (lv_at hl 1 rfl) ?_
            refine lv_istore_n (lv' := [(3, .int q_44), (2, .int x_3), (5, .int q_44), (0, .ref fo), (1, .int n), (4, .int x_3)]) hx hb dX0_strongest_60 rfl hl (by decide) rfl (fun ls hl => ?_)
            refine ziinc3 (n' := 1) (a' := 1) (b' := 8) (lv' := fun v9 => [(4, .int v9), (3, .int q_44), (2, .int x_3), (5, .int q_44), (0, .ref fo), (1, .int n)]) hx hb dX0_strongest_61 hl (k := 5) rfl (by decide) (fun _ => rfl) (zaddK (i := x_3.toInt) (j := 1) rfl (by decide) i17.1 n24 (Int.le_refl _) (Int.le_refl _) (by decide)) (fun x_48 ls hx_48 hl => ?_)
            refine lv_goto (tgt := 7) hx hb dX0_strongest_64 (by decide) ?_
            have hl := lv_sub (l' := [(0, .ref fo), (1, .int n), (2, .int x_3), (3, .int q_44), (4, .int x_48), (5, .int q_44)]) hl [4, 5, 2, 1, 0, 3] rfl
            have hP : va_P g.1 vwCl (List.flatten [bFo g fo o lo od, bTown g o a pe wo tx ch jo tr dy sd f, bLaw g lo lc lz ll lm2_32 lg2_33 ld2_34 fc, bTown g od ad pe3_35 wo3_36 tx3_37 ch3_38 jo3_39 tr3_40 dy3_41 sd3_42 f3_43]) H := hP
            have hD : va_D A (List.flatten [bFo g fo o lo od, bTown g o a pe wo tx ch jo tr dy sd f, bLaw g lo lc lz ll lm2_32 lg2_33 ld2_34 fc, bTown g od ad pe3_35 wo3_36 tx3_37 ch3_38 jo3_39 tr3_40 dy3_41 sd3_42 f3_43]) := hD
            exact ih7_21 x_3 q_44 x_48 lm2_32 lg2_33 ld2_34 pe3_35 wo3_36 tx3_37 ch3_38 jo3_39 tr3_40 dy3_41 sd3_42 f3_43 ⟨(Int.le_trans (by decide) i17.1), n24⟩ ⟨(Int.le_trans (by decide) hx_48.2.1), hx_48.2.2⟩ ⟨hq45_0.1, hq45_0.2⟩ ⟨hq45_1.1, hq45_1.2⟩ rf3_43 H _ ls (zmK hx_48.1 (by decide) n24 (by decide) hk7_21)  hP hD hS (lv_sub hl [0, 1, 2, 3, 4] rfl)
          · skip
            have c49 : ¬ x_1.toInt = (-1) := zne cb9 rfl (by decide)
            have n50 : 0 ≤ x_1.toInt := zN1 c49 i16.1 (by decide)
            refine lv_iload hx hb dX0_strongest_49 (lv_at hl 0 rfl) ?_
            refine lv_iload_n hx hb dX0_strongest_51 rfl (lv_at hl 4 rfl) ?_
            refine lv_icmp_le (tgt := 61) hx hb dX0_strongest_52 (by decide) (fun cb9 => ?_) (fun cb9 => ?_)
            · skip
              have c51 : q_44.toInt ≤ x_2.toInt := zle cb9 rfl rfl
              refine ziinc3 (n' := 1) (a' := 1) (b' := 8) (lv' := fun v9 => [(4, .int v9), (5, .int q_44), (0, .ref fo), (1, .int n), (2, .int x_1), (3, .int x_2)]) hx hb dX0_strongest_61 hl (k := 5) rfl (by decide) (fun _ => rfl) (zaddK (i := x_3.toInt) (j := 1) rfl (by decide) i17.1 n24 (Int.le_refl _) (Int.le_refl _) (by decide)) (fun x_52 ls hx_52 hl => ?_)
              refine lv_goto (tgt := 7) hx hb dX0_strongest_64 (by decide) ?_
              have hl := lv_sub (l' := [(0, .ref fo), (1, .int n), (2, .int x_1), (3, .int x_2), (4, .int x_52), (5, .int q_44)]) hl [2, 3, 4, 5, 0, 1] rfl
              have hP : va_P g.1 vwCl (List.flatten [bFo g fo o lo od, bTown g o a pe wo tx ch jo tr dy sd f, bLaw g lo lc lz ll lm2_32 lg2_33 ld2_34 fc, bTown g od ad pe3_35 wo3_36 tx3_37 ch3_38 jo3_39 tr3_40 dy3_41 sd3_42 f3_43]) H := hP
              have hD : va_D A (List.flatten [bFo g fo o lo od, bTown g o a pe wo tx ch jo tr dy sd f, bLaw g lo lc lz ll lm2_32 lg2_33 ld2_34 fc, bTown g od ad pe3_35 wo3_36 tx3_37 ch3_38 jo3_39 tr3_40 dy3_41 sd3_42 f3_43]) := hD
              exact ih7_21 x_1 x_2 x_52 lm2_32 lg2_33 ld2_34 pe3_35 wo3_36 tx3_37 ch3_38 jo3_39 tr3_40 dy3_41 sd3_42 f3_43 ⟨(Int.le_trans (by decide) n50), i16.2⟩ ⟨(Int.le_trans (by decide) hx_52.2.1), hx_52.2.2⟩ ⟨hq45_0.1, hq45_0.2⟩ ⟨hq45_1.1, hq45_1.2⟩ rf3_43 H _ ls (zmK hx_52.1 (by decide) n24 (by decide) hk7_21)  hP hD hS (lv_sub hl [0, 1, 2, 3, 4] rfl)
            · skip
              have c53 : x_2.toInt < q_44.toInt := zlti (Int32.not_le.mp cb9) rfl rfl
              refine lv_iload hx hb dX0_strongest_55 (lv_at hl 5 rfl) ?_
              refine lv_istore_n (lv' := [(2, .int x_3), (5, .int q_44), (0, .ref fo), (1, .int n), (3, .int x_2), (4, .int x_3)]) hx hb dX0_strongest_57 rfl hl (by decide) rfl (fun ls hl => ?_)
              refine lv_iload hx hb dX0_strongest_58 (lv_at hl 1 rfl) ?_
              refine lv_istore_n (lv' := [(3, .int q_44), (2, .int x_3), (5, .int q_44), (0, .ref fo), (1, .int n), (4, .int x_3)]) hx hb dX0_strongest_60 rfl hl (by decide) rfl (fun ls hl => ?_)
              refine ziinc3 (n' := 1) (a' := 1) (b' := 8) (lv' := fun v9 => [(4, .int v9), (3, .int q_44), (2, .int x_3), (5, .int q_44), (0, .ref fo), (1, .int n)]) hx hb dX0_strongest_61 hl (k := 5) rfl (by decide) (fun _ => rfl) (zaddK (i := x_3.toInt) (j := 1) rfl (by decide) i17.1 n24 (Int.le_refl _) (Int.le_refl _) (by decide)) (fun x_54 ls hx_54 hl => ?_)
              refine lv_goto (tgt := 7) hx hb dX0_strongest_64 (by decide) ?_
              have hl := lv_sub (l' := [(0, .ref fo), (1, .int n), (2, .int x_3), (3, .int q_44), (4, .int x_54), (5, .int q_44)]) hl [4, 5, 2, 1, 0, 3] rfl
              have hP : va_P g.1 vwCl (List.flatten [bFo g fo o lo od, bTown g o a pe wo tx ch jo tr dy sd f, bLaw g lo lc lz ll lm2_32 lg2_33 ld2_34 fc, bTown g od ad pe3_35 wo3_36 tx3_37 ch3_38 jo3_39 tr3_40 dy3_41 sd3_42 f3_43]) H := hP
              have hD : va_D A (List.flatten [bFo g fo o lo od, bTown g o a pe wo tx ch jo tr dy sd f, bLaw g lo lc lz ll lm2_32 lg2_33 ld2_34 fc, bTown g od ad pe3_35 wo3_36 tx3_37 ch3_38 jo3_39 tr3_40 dy3_41 sd3_42 f3_43]) := hD
              exact ih7_21 x_3 q_44 x_54 lm2_32 lg2_33 ld2_34 pe3_35 wo3_36 tx3_37 ch3_38 jo3_39 tr3_40 dy3_41 sd3_42 f3_43 ⟨(Int.le_trans (by decide) i17.1), n24⟩ ⟨(Int.le_trans (by decide) hx_54.2.1), hx_54.2.2⟩ ⟨hq45_0.1, hq45_0.2⟩ ⟨hq45_1.1, hq45_1.2⟩ rf3_43 H _ ls (zmK hx_54.1 (by decide) n24 (by decide) hk7_21)  hP hD hS (lv_sub hl [0, 1, 2, 3, 4] rfl)
  have hP : va_P g.1 vwCl (List.flatten [bFo g fo o lo od, bTown g o a pe wo tx ch jo tr dy sd f, bLaw g lo lc lz ll lm lg ld fc, bTown g od ad ped wod txd chd jod trd dyd sdd fd]) s.heap := hP
  have hD : va_D A (List.flatten [bFo g fo o lo od, bTown g o a pe wo tx ch jo tr dy sd f, bLaw g lo lc lz ll lm lg ld fc, bTown g od ad ped wod txd chd jod trd dyd sdd fd]) := hD
  exact LP7_20 _ (-1) 0 0 lm lg ld ped wod txd chd jod trd dyd sdd fd (by decide) (by decide) ⟨b_ped.1, b_ped.2⟩ ⟨b_wod.1, b_wod.2⟩ rfd s.heap _ ls (Nat.lt_succ_self _)  hP hD hS (lv_sub hl [0, 1, 2, 3, 4] rfl)
set_option maxRecDepth 100000 in
set_option maxHeartbeats 4000000 in
theorem c_f_fewestTold (l : Launch) (g : zG) (fo : Nat) (o : Nat) (lo : Nat) (od : Nat) (a : Nat → Nat) (pe : Int32) (wo : Int32) (tx : Int32) (ch : Int32) (jo : Int32) (tr : Int32) (dy : Int32) (sd : Int32) (f : Nat → Nat → Int32) (lc : Nat) (lz : Int32) (ll : Int32) (lm : Int32) (lg : Int32) (ld : Int32) (fc : Nat → Int32) (ad : Nat → Nat) (ped : Int32) (wod : Int32) (txd : Int32) (chd : Int32) (jod : Int32) (trd : Int32) (dyd : Int32) (sdd : Int32) (fd : Nat → Nat → Int32) (xx : Int32) (n : Int32) (b_pe : 0 ≤ pe.toInt ∧ pe.toInt ≤ 8) (b_wo : 0 ≤ wo.toInt ∧ wo.toInt ≤ 6) (rf : zZ4 f) (b_lz : 0 ≤ lz.toInt ∧ lz.toInt ≤ 400) (b_ped : 0 ≤ ped.toInt ∧ ped.toInt ≤ 8) (b_wod : 0 ≤ wod.toInt ∧ wod.toInt ≤ 6) (rfd : zZ4 fd) (b_n : 0 ≤ n.toInt ∧ n.toInt ≤ 100) : zM' g l yX0_fewestTold (Cond.code yX0_fewestTold cX0_fewestTold 6 (some .int) :: zB) ({ frames := 7, cells := 0, slots := 0, locals := 152 } : Room) [.ref fo, .int xx, .int n] [bFo g fo o lo od, bTown g o a pe wo tx ch jo tr dy sd f, bLaw g lo lc lz ll lm lg ld fc, bTown g od ad ped wod txd chd jod trd dyd sdd fd] (fun u : Int32 × Int32 × Int32 × Int32 × Int32 × Int32 × Int32 × Int32 × Int32 × Int32 × Int32 × (Nat → Nat → Int32) × Int32 => (fun (lm2 : Int32) (lg2 : Int32) (ld2 : Int32) (pe3 : Int32) (wo3 : Int32) (tx3 : Int32) (ch3 : Int32) (jo3 : Int32) (tr3 : Int32) (dy3 : Int32) (sd3 : Int32) (f3 : Nat → Nat → Int32) (q : Int32) => some (.int q)) (u.1) (u.2.1) (u.2.2.1) (u.2.2.2.1) (u.2.2.2.2.1) (u.2.2.2.2.2.1) (u.2.2.2.2.2.2.1) (u.2.2.2.2.2.2.2.1) (u.2.2.2.2.2.2.2.2.1) (u.2.2.2.2.2.2.2.2.2.1) (u.2.2.2.2.2.2.2.2.2.2.1) (u.2.2.2.2.2.2.2.2.2.2.2.1) (u.2.2.2.2.2.2.2.2.2.2.2.2)) (fun u : Int32 × Int32 × Int32 × Int32 × Int32 × Int32 × Int32 × Int32 × Int32 × Int32 × Int32 × (Nat → Nat → Int32) × Int32 => (fun (lm2 : Int32) (lg2 : Int32) (ld2 : Int32) (pe3 : Int32) (wo3 : Int32) (tx3 : Int32) (ch3 : Int32) (jo3 : Int32) (tr3 : Int32) (dy3 : Int32) (sd3 : Int32) (f3 : Nat → Nat → Int32) (q : Int32) => (0 ≤ pe3.toInt ∧ pe3.toInt ≤ 8) ∧ (0 ≤ wo3.toInt ∧ wo3.toInt ≤ 6) ∧ (zZ4 f3)) (u.1) (u.2.1) (u.2.2.1) (u.2.2.2.1) (u.2.2.2.2.1) (u.2.2.2.2.2.1) (u.2.2.2.2.2.2.1) (u.2.2.2.2.2.2.2.1) (u.2.2.2.2.2.2.2.2.1) (u.2.2.2.2.2.2.2.2.2.1) (u.2.2.2.2.2.2.2.2.2.2.1) (u.2.2.2.2.2.2.2.2.2.2.2.1) (u.2.2.2.2.2.2.2.2.2.2.2.2)) (fun u : Int32 × Int32 × Int32 × Int32 × Int32 × Int32 × Int32 × Int32 × Int32 × Int32 × Int32 × (Nat → Nat → Int32) × Int32 => (fun (lm2 : Int32) (lg2 : Int32) (ld2 : Int32) (pe3 : Int32) (wo3 : Int32) (tx3 : Int32) (ch3 : Int32) (jo3 : Int32) (tr3 : Int32) (dy3 : Int32) (sd3 : Int32) (f3 : Nat → Nat → Int32) (q : Int32) => [bFo g fo o lo od, bTown g o a pe wo tx ch jo tr dy sd f, bLaw g lo lc lz ll lm2 lg2 ld2 fc, bTown g od ad pe3 wo3 tx3 ch3 jo3 tr3 dy3 sd3 f3]) (u.1) (u.2.1) (u.2.2.1) (u.2.2.2.1) (u.2.2.2.2.1) (u.2.2.2.2.2.1) (u.2.2.2.2.2.2.1) (u.2.2.2.2.2.2.2.1) (u.2.2.2.2.2.2.2.2.1) (u.2.2.2.2.2.2.2.2.2.1) (u.2.2.2.2.2.2.2.2.2.2.1) (u.2.2.2.2.2.2.2.2.2.2.2.1) (u.2.2.2.2.2.2.2.2.2.2.2.2)) := by
  refine zM'.of (cc := cX0_fewestTold) (maxL := 6) (rt := (some .int)) (by decide) rfl (Nat.le_of_ble_eq_true rfl) ?_
  intro p e s m args below meth c A ls St hr hlocks hin hK hT hA hP hD hS hl
  obtain ⟨hx, hb, hml, hown, hts⟩ := id St
  have hl : lv_has ls 6 [(0, .ref fo), (1, .int xx), (2, .int n)] := hl
  refine lv_aload_n hx hb dX0_fewestTold_0 rfl (lv_at hl 0 rfl) ?_
  refine va_get (D := g.1) (ci := 0) (v := .ref o) (C := RX0) (T := TX0) (N := 3) hx hb hts izRX0 hown hK hP 0 rfl rfl 0 (by decide) (hts _ k26) (fun _ h9 => h9) rfl dX0_fewestTold_1 ?_
  refine mcallV' (g := g) (q0 := 0) (ci := 7) (As := []) (rest := []) St hK hT hA hP hD hS hl.1 [1] [0, 2, 3] rfl rfl rfl (c_peopleHere l g o a pe wo tx ch jo tr dy sd f b_pe b_wo rf) (cwV 0 hts (zgL (zl4 k171 k63 k64 k24) k52) rfl rfl rfl (by decide +kernel) ⟨Nat.le_of_ble_eq_true rfl, Nat.le_of_ble_eq_true rfl⟩) rfl rfl rfl rfl (Nat.le_of_ble_eq_true rfl) dX0_fewestTold_4 ⟨(Nat.le_of_ble_eq_true rfl), (Nat.le_of_ble_eq_true rfl)⟩ (fun q_1 H locs hq2 hP hD hS => ?_)
  have hP : va_P g.1 vwCl (List.flatten [bFo g fo o lo od, bLaw g lo lc lz ll lm lg ld fc, bTown g od ad ped wod txd chd jod trd dyd sdd fd, bTown g o a pe wo tx ch jo tr dy sd f]) H := hP
  have hD : va_D A (List.flatten [bFo g fo o lo od, bLaw g lo lc lz ll lm lg ld fc, bTown g od ad ped wod txd chd jod trd dyd sdd fd, bTown g o a pe wo tx ch jo tr dy sd f]) := hD
  refine W.widen (k := 0) (n := 0) (Nat.le_of_ble_eq_true rfl) (Nat.le_of_ble_eq_true rfl) ?_
  refine W.eq (g2 := F0 m 7 ls [.int q_1]) rfl ?_
  refine lv_istore_n (lv' := [(3, .int q_1), (0, .ref fo), (1, .int xx), (2, .int n)]) hx hb dX0_fewestTold_7 rfl hl (by decide) rfl (fun ls hl => ?_)
  refine lv_iconst (v := 0) hx hb dX0_fewestTold_8 (by decide) ?_
  refine lv_istore (lv' := [(4, .int 0), (3, .int q_1), (0, .ref fo), (1, .int xx), (2, .int n)]) hx hb dX0_fewestTold_9 hl (by decide) rfl (fun ls hl => ?_)
  have hl := lv_sub (l' := [(0, .ref fo), (1, .int xx), (2, .int n), (3, .int q_1), (4, .int 0)]) hl [2, 3, 4, 1, 0] rfl
  have LP11_19 : ∀ (kf : Nat) (x_3 : Int32) (x_4 : Int32) (x_5 : Int32) (x_6 : Int32) (x_7 : Int32) (x_8 : Int32) (x_9 : Int32) (x_10 : Int32) (x_11 : Int32) (x_12 : Int32) (x_13 : Int32) (x_14 : Int32) (f_15 : Nat → Nat → Int32), (0 ≤ x_3.toInt ∧ x_3.toInt ≤ 9) → (0 ≤ x_7.toInt ∧ x_7.toInt ≤ 8) → (0 ≤ x_8.toInt ∧ x_8.toInt ≤ 6) → (zZ4 f_15) → ∀ (H : Heap) (locs : List Loc) (ls : Array Slot), ((10 - x_3.toInt).toNat) < kf → va_P g.1 vwCl (List.flatten [bFo g fo o lo od, bLaw g lo lc lz ll x_4 x_5 x_6 fc, bTown g od ad x_7 x_8 x_9 x_10 x_11 x_12 x_13 x_14 f_15, bTown g o a pe wo tx ch jo tr dy sd f]) H → va_D A (List.flatten [bFo g fo o lo od, bLaw g lo lc lz ll x_4 x_5 x_6 fc, bTown g od ad x_7 x_8 x_9 x_10 x_11 x_12 x_13 x_14 f_15, bTown g o a pe wo tx ch jo tr dy sd f]) → va_S A s.heap H locs → lv_has ls 6 [(0, .ref fo), (1, .int xx), (2, .int n), (3, .int q_1), (4, .int x_3)] → W p l e ({ frames := 7, cells := 0, slots := 0, locals := 152 } : Room) s m args below meth c H locs (0) (0) (zF g (fun u : Int32 × Int32 × Int32 × Int32 × Int32 × Int32 × Int32 × Int32 × Int32 × Int32 × Int32 × (Nat → Nat → Int32) × Int32 => (fun (lm2 : Int32) (lg2 : Int32) (ld2 : Int32) (pe3 : Int32) (wo3 : Int32) (tx3 : Int32) (ch3 : Int32) (jo3 : Int32) (tr3 : Int32) (dy3 : Int32) (sd3 : Int32) (f3 : Nat → Nat → Int32) (q : Int32) => some (.int q)) (u.1) (u.2.1) (u.2.2.1) (u.2.2.2.1) (u.2.2.2.2.1) (u.2.2.2.2.2.1) (u.2.2.2.2.2.2.1) (u.2.2.2.2.2.2.2.1) (u.2.2.2.2.2.2.2.2.1) (u.2.2.2.2.2.2.2.2.2.1) (u.2.2.2.2.2.2.2.2.2.2.1) (u.2.2.2.2.2.2.2.2.2.2.2.1) (u.2.2.2.2.2.2.2.2.2.2.2.2)) (fun u : Int32 × Int32 × Int32 × Int32 × Int32 × Int32 × Int32 × Int32 × Int32 × Int32 × Int32 × (Nat → Nat → Int32) × Int32 => (fun (lm2 : Int32) (lg2 : Int32) (ld2 : Int32) (pe3 : Int32) (wo3 : Int32) (tx3 : Int32) (ch3 : Int32) (jo3 : Int32) (tr3 : Int32) (dy3 : Int32) (sd3 : Int32) (f3 : Nat → Nat → Int32) (q : Int32) => (0 ≤ pe3.toInt ∧ pe3.toInt ≤ 8) ∧ (0 ≤ wo3.toInt ∧ wo3.toInt ≤ 6) ∧ (zZ4 f3)) (u.1) (u.2.1) (u.2.2.1) (u.2.2.2.1) (u.2.2.2.2.1) (u.2.2.2.2.2.1) (u.2.2.2.2.2.2.1) (u.2.2.2.2.2.2.2.1) (u.2.2.2.2.2.2.2.2.1) (u.2.2.2.2.2.2.2.2.2.1) (u.2.2.2.2.2.2.2.2.2.2.1) (u.2.2.2.2.2.2.2.2.2.2.2.1) (u.2.2.2.2.2.2.2.2.2.2.2.2)) (fun u : Int32 × Int32 × Int32 × Int32 × Int32 × Int32 × Int32 × Int32 × Int32 × Int32 × Int32 × (Nat → Nat → Int32) × Int32 => (fun (lm2 : Int32) (lg2 : Int32) (ld2 : Int32) (pe3 : Int32) (wo3 : Int32) (tx3 : Int32) (ch3 : Int32) (jo3 : Int32) (tr3 : Int32) (dy3 : Int32) (sd3 : Int32) (f3 : Nat → Nat → Int32) (q : Int32) => [bFo g fo o lo od, bTown g o a pe wo tx ch jo tr dy sd f, bLaw g lo lc lz ll lm2 lg2 ld2 fc, bTown g od ad pe3 wo3 tx3 ch3 jo3 tr3 dy3 sd3 f3]) (u.1) (u.2.1) (u.2.2.1) (u.2.2.2.1) (u.2.2.2.2.1) (u.2.2.2.2.2.1) (u.2.2.2.2.2.2.1) (u.2.2.2.2.2.2.2.1) (u.2.2.2.2.2.2.2.2.1) (u.2.2.2.2.2.2.2.2.2.1) (u.2.2.2.2.2.2.2.2.2.2.1) (u.2.2.2.2.2.2.2.2.2.2.2.1) (u.2.2.2.2.2.2.2.2.2.2.2.2)) ({ frames := 7, cells := 0, slots := 0, locals := 152 } : Room) below args s A) (F0 m 11 ls []) := by
    intro kf
    induction kf with
    | zero => intro x_3 x_4 x_5 x_6 x_7 x_8 x_9 x_10 x_11 x_12 x_13 x_14 f_15 i16 i17 i18 rf_15 H locs ls hk; exact absurd hk (Nat.not_lt_zero _)
    | succ kf ih11_20 =>
      intro x_3 x_4 x_5 x_6 x_7 x_8 x_9 x_10 x_11 x_12 x_13 x_14 f_15 i16 i17 i18 rf_15 H locs ls hk11_20 hP hD hS hl
      refine lv_iload hx hb dX0_fewestTold_11 (lv_at hl 4 rfl) ?_
      refine lv_aload_n hx hb dX0_fewestTold_13 rfl (lv_at hl 0 rfl) ?_
      refine va_get (D := g.1) (ci := 0) (v := .ref o) (C := RX0) (T := TX0) (N := 3) hx hb hts izRX0 hown hK hP 0 rfl rfl 0 (by decide) (hts _ k26) (fun _ h9 => h9) rfl dX0_fewestTold_14 ?_
      refine va_get (D := g.1) (ci := 7) (v := .int pe) (C := RX9) (T := TX9) (N := 19) hx hb hts izRX9 hown hK hP 15 rfl rfl 0 (by decide) (hts _ k155) (fun _ h9 => h9) rfl dX0_fewestTold_17 ?_
      refine lv_icmp_gt (tgt := 87) hx hb dX0_fewestTold_20 (by decide) (fun cb9 => ?_) (fun cb9 => ?_)
      · skip
        have c21 : pe.toInt < x_3.toInt := zlti cb9 rfl rfl
        have n22 : 1 ≤ x_3.toInt := zL2 (a := 0) c21 b_pe.1 (by decide)
        refine lv_iconst (v := (-1)) hx hb dX0_fewestTold_87 (by decide) ?_
        have hP : va_P g.1 vwCl (List.flatten [bFo g fo o lo od, bLaw g lo lc lz ll x_4 x_5 x_6 fc, bTown g od ad x_7 x_8 x_9 x_10 x_11 x_12 x_13 x_14 f_15, bTown g o a pe wo tx ch jo tr dy sd f]) H := hP
        have hD : va_D A (List.flatten [bFo g fo o lo od, bLaw g lo lc lz ll x_4 x_5 x_6 fc, bTown g od ad x_7 x_8 x_9 x_10 x_11 x_12 x_13 x_14 f_15, bTown g o a pe wo tx ch jo tr dy sd f]) := hD
        obtain ⟨hP, hD⟩ := zord (g := g) (Bs' := [bFo g fo o lo od, bTown g o a pe wo tx ch jo tr dy sd f, bLaw g lo lc lz ll x_4 x_5 x_6 fc, bTown g od ad x_7 x_8 x_9 x_10 x_11 x_12 x_13 x_14 f_15]) [0, 3, 1, 2] rfl rfl hP hD
        exact mret_i hx hb hr hlocks hS (Nat.le_of_ble_eq_true rfl) (Nat.le_of_ble_eq_true rfl) dX0_fewestTold_88 (x_4, x_5, x_6, x_7, x_8, x_9, x_10, x_11, x_12, x_13, x_14, f_15, -1) rfl (show (0 ≤ x_7.toInt ∧ x_7.toInt ≤ 8) ∧ (0 ≤ x_8.toInt ∧ x_8.toInt ≤ 6) ∧ (zZ4 f_15) from ⟨i17, i18, rf_15⟩) hP hD
      · skip
        have c23 : x_3.toInt ≤ pe.toInt := zle (Int32.not_lt.mp cb9) rfl rfl
        have n24 : x_3.toInt ≤ 8 := Int.le_trans c23 b_pe.2
        refine lv_iconst (v := 0) hx hb dX0_fewestTold_23 (by decide) ?_
        refine lv_istore (lv' := [(5, .int 0), (0, .ref fo), (1, .int xx), (2, .int n), (3, .int q_1), (4, .int x_3)]) hx hb dX0_fewestTold_24 hl (by decide) rfl (fun ls hl => ?_)
        have hl := lv_sub (l' := [(0, .ref fo), (1, .int xx), (2, .int n), (3, .int q_1), (4, .int x_3), (5, .int 0)]) hl [1, 2, 3, 4, 5, 0] rfl
        have LP26_41 : ∀ (kf : Nat) (x_25 : Int32) (x_26 : Int32) (x_27 : Int32) (x_28 : Int32) (x_29 : Int32) (x_30 : Int32) (x_31 : Int32) (x_32 : Int32) (x_33 : Int32) (x_34 : Int32) (x_35 : Int32) (x_36 : Int32) (f_37 : Nat → Nat → Int32), (0 ≤ x_25.toInt ∧ x_25.toInt ≤ 256) → (0 ≤ x_29.toInt ∧ x_29.toInt ≤ 8) → (0 ≤ x_30.toInt ∧ x_30.toInt ≤ 6) → (zZ4 f_37) → ∀ (H : Heap) (locs : List Loc) (ls : Array Slot), ((257 - x_25.toInt).toNat) < kf → va_P g.1 vwCl (List.flatten [bFo g fo o lo od, bLaw g lo lc lz ll x_26 x_27 x_28 fc, bTown g od ad x_29 x_30 x_31 x_32 x_33 x_34 x_35 x_36 f_37, bTown g o a pe wo tx ch jo tr dy sd f]) H → va_D A (List.flatten [bFo g fo o lo od, bLaw g lo lc lz ll x_26 x_27 x_28 fc, bTown g od ad x_29 x_30 x_31 x_32 x_33 x_34 x_35 x_36 f_37, bTown g o a pe wo tx ch jo tr dy sd f]) → va_S A s.heap H locs → lv_has ls 6 [(0, .ref fo), (1, .int xx), (2, .int n), (3, .int q_1), (4, .int x_3), (5, .int x_25)] → W p l e ({ frames := 7, cells := 0, slots := 0, locals := 152 } : Room) s m args below meth c H locs (0) (0) (zF g (fun u : Int32 × Int32 × Int32 × Int32 × Int32 × Int32 × Int32 × Int32 × Int32 × Int32 × Int32 × (Nat → Nat → Int32) × Int32 => (fun (lm2 : Int32) (lg2 : Int32) (ld2 : Int32) (pe3 : Int32) (wo3 : Int32) (tx3 : Int32) (ch3 : Int32) (jo3 : Int32) (tr3 : Int32) (dy3 : Int32) (sd3 : Int32) (f3 : Nat → Nat → Int32) (q : Int32) => some (.int q)) (u.1) (u.2.1) (u.2.2.1) (u.2.2.2.1) (u.2.2.2.2.1) (u.2.2.2.2.2.1) (u.2.2.2.2.2.2.1) (u.2.2.2.2.2.2.2.1) (u.2.2.2.2.2.2.2.2.1) (u.2.2.2.2.2.2.2.2.2.1) (u.2.2.2.2.2.2.2.2.2.2.1) (u.2.2.2.2.2.2.2.2.2.2.2.1) (u.2.2.2.2.2.2.2.2.2.2.2.2)) (fun u : Int32 × Int32 × Int32 × Int32 × Int32 × Int32 × Int32 × Int32 × Int32 × Int32 × Int32 × (Nat → Nat → Int32) × Int32 => (fun (lm2 : Int32) (lg2 : Int32) (ld2 : Int32) (pe3 : Int32) (wo3 : Int32) (tx3 : Int32) (ch3 : Int32) (jo3 : Int32) (tr3 : Int32) (dy3 : Int32) (sd3 : Int32) (f3 : Nat → Nat → Int32) (q : Int32) => (0 ≤ pe3.toInt ∧ pe3.toInt ≤ 8) ∧ (0 ≤ wo3.toInt ∧ wo3.toInt ≤ 6) ∧ (zZ4 f3)) (u.1) (u.2.1) (u.2.2.1) (u.2.2.2.1) (u.2.2.2.2.1) (u.2.2.2.2.2.1) (u.2.2.2.2.2.2.1) (u.2.2.2.2.2.2.2.1) (u.2.2.2.2.2.2.2.2.1) (u.2.2.2.2.2.2.2.2.2.1) (u.2.2.2.2.2.2.2.2.2.2.1) (u.2.2.2.2.2.2.2.2.2.2.2.1) (u.2.2.2.2.2.2.2.2.2.2.2.2)) (fun u : Int32 × Int32 × Int32 × Int32 × Int32 × Int32 × Int32 × Int32 × Int32 × Int32 × Int32 × (Nat → Nat → Int32) × Int32 => (fun (lm2 : Int32) (lg2 : Int32) (ld2 : Int32) (pe3 : Int32) (wo3 : Int32) (tx3 : Int32) (ch3 : Int32) (jo3 : Int32) (tr3 : Int32) (dy3 : Int32) (sd3 : Int32) (f3 : Nat → Nat → Int32) (q : Int32) => [bFo g fo o lo od, bTown g o a pe wo tx ch jo tr dy sd f, bLaw g lo lc lz ll lm2 lg2 ld2 fc, bTown g od ad pe3 wo3 tx3 ch3 jo3 tr3 dy3 sd3 f3]) (u.1) (u.2.1) (u.2.2.1) (u.2.2.2.1) (u.2.2.2.2.1) (u.2.2.2.2.2.1) (u.2.2.2.2.2.2.1) (u.2.2.2.2.2.2.2.1) (u.2.2.2.2.2.2.2.2.1) (u.2.2.2.2.2.2.2.2.2.1) (u.2.2.2.2.2.2.2.2.2.2.1) (u.2.2.2.2.2.2.2.2.2.2.2.1) (u.2.2.2.2.2.2.2.2.2.2.2.2)) ({ frames := 7, cells := 0, slots := 0, locals := 152 } : Room) below args s A) (F0 m 26 ls []) := by
          intro kf
          induction kf with
          | zero => intro x_25 x_26 x_27 x_28 x_29 x_30 x_31 x_32 x_33 x_34 x_35 x_36 f_37 i38 i39 i40 rf_37 H locs ls hk; exact absurd hk (Nat.not_lt_zero _)
          | succ kf ih26_42 =>
            intro x_25 x_26 x_27 x_28 x_29 x_30 x_31 x_32 x_33 x_34 x_35 x_36 f_37 i38 i39 i40 rf_37 H locs ls hk26_42 hP hD hS hl
            refine lv_iload hx hb dX0_fewestTold_26 (lv_at hl 5 rfl) ?_
            refine lv_iconst (v := 1) hx hb dX0_fewestTold_28 (by decide) ?_
            refine lv_aload_n hx hb dX0_fewestTold_29 rfl (lv_at hl 0 rfl) ?_
            refine va_get (D := g.1) (ci := 0) (v := .ref o) (C := RX0) (T := TX0) (N := 3) hx hb hts izRX0 hown hK hP 0 rfl rfl 0 (by decide) (hts _ k26) (fun _ h9 => h9) rfl dX0_fewestTold_30 ?_
            refine va_get (D := g.1) (ci := 7) (v := .int pe) (C := RX9) (T := TX9) (N := 19) hx hb hts izRX9 hown hK hP 15 rfl rfl 0 (by decide) (hts _ k155) (fun _ h9 => h9) rfl dX0_fewestTold_33 ?_
            refine lv_ishl hx hb dX0_fewestTold_36 ?_
            refine zgb (zshl1 (j := pe.toInt) rfl 8 256 (by decide) (by decide) ⟨b_pe.1, b_pe.2⟩) (fun x_43 hx_43 => ?_)
            refine lv_icmp_ge (tgt := 81) hx hb dX0_fewestTold_37 (by decide) (fun cb9 => ?_) (fun cb9 => ?_)
            · skip
              have c44 : x_43.toInt ≤ x_25.toInt := zle cb9 rfl rfl
              have n45 : 1 ≤ x_25.toInt := Int.le_trans hx_43.1 c44
              refine ziinc3 (n' := 1) (a' := 1) (b' := 9) (lv' := fun v9 => [(4, .int v9), (0, .ref fo), (1, .int xx), (2, .int n), (3, .int q_1), (5, .int x_25)]) hx hb dX0_fewestTold_81 hl (k := 4) rfl (by decide) (fun _ => rfl) (zaddK (i := x_3.toInt) (j := 1) rfl (by decide) i16.1 n24 (Int.le_refl _) (Int.le_refl _) (by decide)) (fun x_46 ls hx_46 hl => ?_)
              refine lv_goto (tgt := 11) hx hb dX0_fewestTold_84 (by decide) ?_
              have hl := lv_sub (l' := [(0, .ref fo), (1, .int xx), (2, .int n), (3, .int q_1), (4, .int x_46), (5, .int x_25)]) hl [1, 2, 3, 4, 0, 5] rfl
              have hP : va_P g.1 vwCl (List.flatten [bFo g fo o lo od, bLaw g lo lc lz ll x_26 x_27 x_28 fc, bTown g od ad x_29 x_30 x_31 x_32 x_33 x_34 x_35 x_36 f_37, bTown g o a pe wo tx ch jo tr dy sd f]) H := hP
              have hD : va_D A (List.flatten [bFo g fo o lo od, bLaw g lo lc lz ll x_26 x_27 x_28 fc, bTown g od ad x_29 x_30 x_31 x_32 x_33 x_34 x_35 x_36 f_37, bTown g o a pe wo tx ch jo tr dy sd f]) := hD
              exact ih11_20 x_46 x_26 x_27 x_28 x_29 x_30 x_31 x_32 x_33 x_34 x_35 x_36 f_37 ⟨(Int.le_trans (by decide) hx_46.2.1), hx_46.2.2⟩ ⟨i39.1, i39.2⟩ ⟨i40.1, i40.2⟩ rf_37 H _ ls (zmK hx_46.1 (by decide) n24 (by decide) hk11_20)  hP hD hS (lv_sub hl [0, 1, 2, 3, 4] rfl)
            · skip
              have c47 : x_25.toInt < x_43.toInt := zlti (Int32.not_le.mp cb9) rfl rfl
              have n48 : x_25.toInt ≤ 255 := zL1 (b := 256) c47 hx_43.2 (by decide)
              refine lv_iload hx hb dX0_fewestTold_40 (lv_at hl 5 rfl) ?_
              refine mcallS' (g := g) (As := [.int x_25]) (rest := []) St hK hT hA hP hD hS hl.1 [] [0, 1, 2, 3] rfl rfl rfl (j_bitCount l g x_25 ) (va_cwS 1 hts (zgL (zl3 k172 k66 k67) k56) rfl rfl rfl (by decide +kernel) ⟨Nat.le_of_ble_eq_true rfl, Nat.le_of_ble_eq_true rfl⟩) rfl rfl (Nat.le_of_ble_eq_true rfl) dX0_fewestTold_42 ⟨(Nat.le_of_ble_eq_true rfl), (Nat.le_of_ble_eq_true rfl)⟩ (fun q_49 H locs hq50 hP hD hS => ?_)
              have hP : va_P g.1 vwCl (List.flatten [bFo g fo o lo od, bLaw g lo lc lz ll x_26 x_27 x_28 fc, bTown g od ad x_29 x_30 x_31 x_32 x_33 x_34 x_35 x_36 f_37, bTown g o a pe wo tx ch jo tr dy sd f]) H := hP
              have hD : va_D A (List.flatten [bFo g fo o lo od, bLaw g lo lc lz ll x_26 x_27 x_28 fc, bTown g od ad x_29 x_30 x_31 x_32 x_33 x_34 x_35 x_36 f_37, bTown g o a pe wo tx ch jo tr dy sd f]) := hD
              refine W.widen (k := 0) (n := 0) (Nat.le_of_ble_eq_true rfl) (Nat.le_of_ble_eq_true rfl) ?_
              refine W.eq (g2 := F0 m 45 ls [.int q_49]) rfl ?_
              refine lv_iload hx hb dX0_fewestTold_45 (lv_at hl 4 rfl) ?_
              refine lv_icmp_ne (tgt := 75) hx hb dX0_fewestTold_47 (by decide) (fun cb9 => ?_) (fun cb9 => ?_)
              · skip
                have c51 : ¬ q_49.toInt = x_3.toInt := zne cb9 rfl rfl
                refine ziinc3 (n' := 1) (a' := 1) (b' := 256) (lv' := fun v9 => [(5, .int v9), (0, .ref fo), (1, .int xx), (2, .int n), (3, .int q_1), (4, .int x_3)]) hx hb dX0_fewestTold_75 hl (k := 5) rfl (by decide) (fun _ => rfl) (zaddK (i := x_25.toInt) (j := 1) rfl (by decide) i38.1 n48 (Int.le_refl _) (Int.le_refl _) (by decide)) (fun x_52 ls hx_52 hl => ?_)
                refine lv_goto (tgt := 26) hx hb dX0_fewestTold_78 (by decide) ?_
                have hl := lv_sub (l' := [(0, .ref fo), (1, .int xx), (2, .int n), (3, .int q_1), (4, .int x_3), (5, .int x_52)]) hl [1, 2, 3, 4, 5, 0] rfl
                have hP : va_P g.1 vwCl (List.flatten [bFo g fo o lo od, bLaw g lo lc lz ll x_26 x_27 x_28 fc, bTown g od ad x_29 x_30 x_31 x_32 x_33 x_34 x_35 x_36 f_37, bTown g o a pe wo tx ch jo tr dy sd f]) H := hP
                have hD : va_D A (List.flatten [bFo g fo o lo od, bLaw g lo lc lz ll x_26 x_27 x_28 fc, bTown g od ad x_29 x_30 x_31 x_32 x_33 x_34 x_35 x_36 f_37, bTown g o a pe wo tx ch jo tr dy sd f]) := hD
                exact ih26_42 x_52 x_26 x_27 x_28 x_29 x_30 x_31 x_32 x_33 x_34 x_35 x_36 f_37 ⟨(Int.le_trans (by decide) hx_52.2.1), hx_52.2.2⟩ ⟨i39.1, i39.2⟩ ⟨i40.1, i40.2⟩ rf_37 H _ ls (zmK hx_52.1 (by decide) n48 (by decide) hk26_42)  hP hD hS (lv_sub hl [0, 1, 2, 3, 4, 5] rfl)
              · skip
                have c53 : q_49.toInt = x_3.toInt := zeq cb9 rfl rfl
                have n54 : 0 ≤ q_49.toInt := Int.le_trans i16.1 (Int.le_of_eq c53.symm)
                have n55 : q_49.toInt ≤ 8 := Int.le_trans (Int.le_of_eq c53) n24
                refine lv_iload hx hb dX0_fewestTold_50 (lv_at hl 5 rfl) ?_
                refine lv_iload_n hx hb dX0_fewestTold_52 rfl (lv_at hl 3 rfl) ?_
                refine lv_iconst (v := (-1)) hx hb dX0_fewestTold_53 (by decide) ?_
                refine lv_ixor hx hb dX0_fewestTold_54 ?_
                refine zg (fun x_56 => ?_)
                refine lv_iand hx hb dX0_fewestTold_55 ?_
                refine zg (fun x_57 => ?_)
                refine lv_if_ne (tgt := 75) hx hb dX0_fewestTold_56 (by decide) (fun cb9 => ?_) (fun cb9 => ?_)
                · skip
                  have c58 : ¬ x_57.toInt = 0 := zne cb9 rfl (by decide)
                  refine ziinc3 (n' := 1) (a' := 1) (b' := 256) (lv' := fun v9 => [(5, .int v9), (0, .ref fo), (1, .int xx), (2, .int n), (3, .int q_1), (4, .int x_3)]) hx hb dX0_fewestTold_75 hl (k := 5) rfl (by decide) (fun _ => rfl) (zaddK (i := x_25.toInt) (j := 1) rfl (by decide) i38.1 n48 (Int.le_refl _) (Int.le_refl _) (by decide)) (fun x_59 ls hx_59 hl => ?_)
                  refine lv_goto (tgt := 26) hx hb dX0_fewestTold_78 (by decide) ?_
                  have hl := lv_sub (l' := [(0, .ref fo), (1, .int xx), (2, .int n), (3, .int q_1), (4, .int x_3), (5, .int x_59)]) hl [1, 2, 3, 4, 5, 0] rfl
                  have hP : va_P g.1 vwCl (List.flatten [bFo g fo o lo od, bLaw g lo lc lz ll x_26 x_27 x_28 fc, bTown g od ad x_29 x_30 x_31 x_32 x_33 x_34 x_35 x_36 f_37, bTown g o a pe wo tx ch jo tr dy sd f]) H := hP
                  have hD : va_D A (List.flatten [bFo g fo o lo od, bLaw g lo lc lz ll x_26 x_27 x_28 fc, bTown g od ad x_29 x_30 x_31 x_32 x_33 x_34 x_35 x_36 f_37, bTown g o a pe wo tx ch jo tr dy sd f]) := hD
                  exact ih26_42 x_59 x_26 x_27 x_28 x_29 x_30 x_31 x_32 x_33 x_34 x_35 x_36 f_37 ⟨(Int.le_trans (by decide) hx_59.2.1), hx_59.2.2⟩ ⟨i39.1, i39.2⟩ ⟨i40.1, i40.2⟩ rf_37 H _ ls (zmK hx_59.1 (by decide) n48 (by decide) hk26_42)  hP hD hS (lv_sub hl [0, 1, 2, 3, 4, 5] rfl)
                · skip
                  have c60 : x_57.toInt = 0 := zeq cb9 rfl (by decide)
                  have n61 : 0 ≤ x_57.toInt := Int.le_trans (Int.le_refl _) (Int.le_of_eq c60.symm)
                  have n62 : x_57.toInt ≤ 0 := Int.le_trans (Int.le_of_eq c60) (Int.le_refl _)
                  refine lv_aload_n hx hb dX0_fewestTold_59 rfl (lv_at hl 0 rfl) ?_
                  refine lv_iload hx hb dX0_fewestTold_60 (lv_at hl 5 rfl) ?_
                  refine lv_bipush (v := 20) hx hb dX0_fewestTold_62 (by decide) ?_
                  refine lv_iload_n hx hb dX0_fewestTold_64 rfl (lv_at hl 2 rfl) ?_
                  refine mcallV' (g := g) (q0 := 0) (ci := 0) (As := [.int x_25, .int 20, .int n]) (rest := []) St hK hT hA hP hD hS hl.1 [0, 3, 1, 2] [] rfl rfl rfl (c_f_lookAhead l g fo o lo od a pe wo tx ch jo tr dy sd f lc lz ll x_26 x_27 x_28 fc ad x_29 x_30 x_31 x_32 x_33 x_34 x_35 x_36 f_37 x_25 20 n b_pe b_wo rf b_lz i39 i40 rf_37 b_n) (cwV 3 hts (zgL (zl4 k166 k167 k168 k169) k164) rfl rfl rfl (by decide +kernel) ⟨Nat.le_of_ble_eq_true rfl, Nat.le_of_ble_eq_true rfl⟩) rfl rfl rfl rfl (Nat.le_of_ble_eq_true rfl) dX0_fewestTold_65 ⟨(Nat.le_of_ble_eq_true rfl), (Nat.le_of_ble_eq_true rfl)⟩ (fun u_ H locs hq76 hP hD hS => ?_)
                  obtain ⟨lm2_63, lg2_64, ld2_65, pe3_66, wo3_67, tx3_68, ch3_69, jo3_70, tr3_71, dy3_72, sd3_73, f3_74, q_75⟩ := u_
                  replace hq76 : (0 ≤ pe3_66.toInt ∧ pe3_66.toInt ≤ 8) ∧ (0 ≤ wo3_67.toInt ∧ wo3_67.toInt ≤ 6) ∧ (zZ4 f3_74) := hq76
                  have hP : va_P g.1 vwCl (List.flatten [bFo g fo o lo od, bTown g o a pe wo tx ch jo tr dy sd f, bLaw g lo lc lz ll lm2_63 lg2_64 ld2_65 fc, bTown g od ad pe3_66 wo3_67 tx3_68 ch3_69 jo3_70 tr3_71 dy3_72 sd3_73 f3_74]) H := hP
                  have hD : va_D A (List.flatten [bFo g fo o lo od, bTown g o a pe wo tx ch jo tr dy sd f, bLaw g lo lc lz ll lm2_63 lg2_64 ld2_65 fc, bTown g od ad pe3_66 wo3_67 tx3_68 ch3_69 jo3_70 tr3_71 dy3_72 sd3_73 f3_74]) := hD
                  refine W.widen (k := 0) (n := 0) (Nat.le_of_ble_eq_true rfl) (Nat.le_of_ble_eq_true rfl) ?_
                  refine W.eq (g2 := F0 m 68 ls [.int q_75]) rfl ?_
                  obtain ⟨hq76_0, hq76_1, rf3_74⟩ := hq76
                  refine lv_iload_n hx hb dX0_fewestTold_68 rfl (lv_at hl 1 rfl) ?_
                  refine lv_icmp_lt (tgt := 75) hx hb dX0_fewestTold_69 (by decide) (fun cb9 => ?_) (fun cb9 => ?_)
                  · skip
                    have c77 : q_75.toInt < xx.toInt := zlti cb9 rfl rfl
                    refine ziinc3 (n' := 1) (a' := 1) (b' := 256) (lv' := fun v9 => [(5, .int v9), (0, .ref fo), (1, .int xx), (2, .int n), (3, .int q_1), (4, .int x_3)]) hx hb dX0_fewestTold_75 hl (k := 5) rfl (by decide) (fun _ => rfl) (zaddK (i := x_25.toInt) (j := 1) rfl (by decide) i38.1 n48 (Int.le_refl _) (Int.le_refl _) (by decide)) (fun x_78 ls hx_78 hl => ?_)
                    refine lv_goto (tgt := 26) hx hb dX0_fewestTold_78 (by decide) ?_
                    have hl := lv_sub (l' := [(0, .ref fo), (1, .int xx), (2, .int n), (3, .int q_1), (4, .int x_3), (5, .int x_78)]) hl [1, 2, 3, 4, 5, 0] rfl
                    have hP : va_P g.1 vwCl (List.flatten [bFo g fo o lo od, bTown g o a pe wo tx ch jo tr dy sd f, bLaw g lo lc lz ll lm2_63 lg2_64 ld2_65 fc, bTown g od ad pe3_66 wo3_67 tx3_68 ch3_69 jo3_70 tr3_71 dy3_72 sd3_73 f3_74]) H := hP
                    have hD : va_D A (List.flatten [bFo g fo o lo od, bTown g o a pe wo tx ch jo tr dy sd f, bLaw g lo lc lz ll lm2_63 lg2_64 ld2_65 fc, bTown g od ad pe3_66 wo3_67 tx3_68 ch3_69 jo3_70 tr3_71 dy3_72 sd3_73 f3_74]) := hD
                    obtain ⟨hP, hD⟩ := zord (g := g) (Bs' := [bFo g fo o lo od, bLaw g lo lc lz ll lm2_63 lg2_64 ld2_65 fc, bTown g od ad pe3_66 wo3_67 tx3_68 ch3_69 jo3_70 tr3_71 dy3_72 sd3_73 f3_74, bTown g o a pe wo tx ch jo tr dy sd f]) [0, 2, 3, 1] rfl rfl hP hD
                    have hP : va_P g.1 vwCl (List.flatten [bFo g fo o lo od, bLaw g lo lc lz ll lm2_63 lg2_64 ld2_65 fc, bTown g od ad pe3_66 wo3_67 tx3_68 ch3_69 jo3_70 tr3_71 dy3_72 sd3_73 f3_74, bTown g o a pe wo tx ch jo tr dy sd f]) H := hP
                    have hD : va_D A (List.flatten [bFo g fo o lo od, bLaw g lo lc lz ll lm2_63 lg2_64 ld2_65 fc, bTown g od ad pe3_66 wo3_67 tx3_68 ch3_69 jo3_70 tr3_71 dy3_72 sd3_73 f3_74, bTown g o a pe wo tx ch jo tr dy sd f]) := hD
                    exact ih26_42 x_78 lm2_63 lg2_64 ld2_65 pe3_66 wo3_67 tx3_68 ch3_69 jo3_70 tr3_71 dy3_72 sd3_73 f3_74 ⟨(Int.le_trans (by decide) hx_78.2.1), hx_78.2.2⟩ ⟨hq76_0.1, hq76_0.2⟩ ⟨hq76_1.1, hq76_1.2⟩ rf3_74 H _ ls (zmK hx_78.1 (by decide) n48 (by decide) hk26_42)  hP hD hS (lv_sub hl [0, 1, 2, 3, 4, 5] rfl)
                  · skip
                    have c79 : xx.toInt ≤ q_75.toInt := zle (Int32.not_lt.mp cb9) rfl rfl
                    refine lv_iload hx hb dX0_fewestTold_72 (lv_at hl 5 rfl) ?_
                    have hP : va_P g.1 vwCl (List.flatten [bFo g fo o lo od, bTown g o a pe wo tx ch jo tr dy sd f, bLaw g lo lc lz ll lm2_63 lg2_64 ld2_65 fc, bTown g od ad pe3_66 wo3_67 tx3_68 ch3_69 jo3_70 tr3_71 dy3_72 sd3_73 f3_74]) H := hP
                    have hD : va_D A (List.flatten [bFo g fo o lo od, bTown g o a pe wo tx ch jo tr dy sd f, bLaw g lo lc lz ll lm2_63 lg2_64 ld2_65 fc, bTown g od ad pe3_66 wo3_67 tx3_68 ch3_69 jo3_70 tr3_71 dy3_72 sd3_73 f3_74]) := hD
                    exact mret_i hx hb hr hlocks hS (Nat.le_of_ble_eq_true rfl) (Nat.le_of_ble_eq_true rfl) dX0_fewestTold_74 (lm2_63, lg2_64, ld2_65, pe3_66, wo3_67, tx3_68, ch3_69, jo3_70, tr3_71, dy3_72, sd3_73, f3_74, x_25) rfl (show (0 ≤ pe3_66.toInt ∧ pe3_66.toInt ≤ 8) ∧ (0 ≤ wo3_67.toInt ∧ wo3_67.toInt ≤ 6) ∧ (zZ4 f3_74) from ⟨hq76_0, hq76_1, rf3_74⟩) hP hD
        have hP : va_P g.1 vwCl (List.flatten [bFo g fo o lo od, bLaw g lo lc lz ll x_4 x_5 x_6 fc, bTown g od ad x_7 x_8 x_9 x_10 x_11 x_12 x_13 x_14 f_15, bTown g o a pe wo tx ch jo tr dy sd f]) H := hP
        have hD : va_D A (List.flatten [bFo g fo o lo od, bLaw g lo lc lz ll x_4 x_5 x_6 fc, bTown g od ad x_7 x_8 x_9 x_10 x_11 x_12 x_13 x_14 f_15, bTown g o a pe wo tx ch jo tr dy sd f]) := hD
        exact LP26_41 _ 0 x_4 x_5 x_6 x_7 x_8 x_9 x_10 x_11 x_12 x_13 x_14 f_15 (by decide) ⟨i17.1, i17.2⟩ ⟨i18.1, i18.2⟩ rf_15 H _ ls (Nat.lt_succ_self _)  hP hD hS (lv_sub hl [0, 1, 2, 3, 4, 5] rfl)
  have hP : va_P g.1 vwCl (List.flatten [bFo g fo o lo od, bLaw g lo lc lz ll lm lg ld fc, bTown g od ad ped wod txd chd jod trd dyd sdd fd, bTown g o a pe wo tx ch jo tr dy sd f]) H := hP
  have hD : va_D A (List.flatten [bFo g fo o lo od, bLaw g lo lc lz ll lm lg ld fc, bTown g od ad ped wod txd chd jod trd dyd sdd fd, bTown g o a pe wo tx ch jo tr dy sd f]) := hD
  exact LP11_19 _ 0 lm lg ld ped wod txd chd jod trd dyd sdd fd (by decide) ⟨b_ped.1, b_ped.2⟩ ⟨b_wod.1, b_wod.2⟩ rfd H _ ls (Nat.lt_succ_self _)  hP hD hS (lv_sub hl [0, 1, 2, 3, 4] rfl)
set_option maxRecDepth 100000 in
set_option maxHeartbeats 4000000 in
theorem c_f_firstRuin (l : Launch) (g : zG) (fo : Nat) (o : Nat) (lo : Nat) (od : Nat) (a : Nat → Nat) (pe : Int32) (wo : Int32) (tx : Int32) (ch : Int32) (jo : Int32) (tr : Int32) (dy : Int32) (sd : Int32) (f : Nat → Nat → Int32) (lc : Nat) (lz : Int32) (ll : Int32) (lm : Int32) (lg : Int32) (ld : Int32) (fc : Nat → Int32) (ad : Nat → Nat) (ped : Int32) (wod : Int32) (txd : Int32) (chd : Int32) (jod : Int32) (trd : Int32) (dyd : Int32) (sdd : Int32) (fd : Nat → Nat → Int32) (b_pe : 0 ≤ pe.toInt ∧ pe.toInt ≤ 8) (b_wo : 0 ≤ wo.toInt ∧ wo.toInt ≤ 6) (rf : zZ4 f) (b_lz : 0 ≤ lz.toInt ∧ lz.toInt ≤ 400) (b_ped : 0 ≤ ped.toInt ∧ ped.toInt ≤ 8) (b_wod : 0 ≤ wod.toInt ∧ wod.toInt ≤ 6) (rfd : zZ4 fd) : zM' g l yX0_firstRuin (Cond.code yX0_firstRuin cX0_firstRuin 2 (some .int) :: zB) ({ frames := 6, cells := 0, slots := 0, locals := 128 } : Room) [.ref fo] [bFo g fo o lo od, bTown g o a pe wo tx ch jo tr dy sd f, bLaw g lo lc lz ll lm lg ld fc, bTown g od ad ped wod txd chd jod trd dyd sdd fd] (fun u : Int32 × Int32 × Int32 × Int32 × Int32 × Int32 × Int32 × Int32 × Int32 × Int32 × Int32 × (Nat → Nat → Int32) × Int32 => (fun (lm2 : Int32) (lg2 : Int32) (ld2 : Int32) (pe3 : Int32) (wo3 : Int32) (tx3 : Int32) (ch3 : Int32) (jo3 : Int32) (tr3 : Int32) (dy3 : Int32) (sd3 : Int32) (f3 : Nat → Nat → Int32) (q : Int32) => some (.int q)) (u.1) (u.2.1) (u.2.2.1) (u.2.2.2.1) (u.2.2.2.2.1) (u.2.2.2.2.2.1) (u.2.2.2.2.2.2.1) (u.2.2.2.2.2.2.2.1) (u.2.2.2.2.2.2.2.2.1) (u.2.2.2.2.2.2.2.2.2.1) (u.2.2.2.2.2.2.2.2.2.2.1) (u.2.2.2.2.2.2.2.2.2.2.2.1) (u.2.2.2.2.2.2.2.2.2.2.2.2)) (fun u : Int32 × Int32 × Int32 × Int32 × Int32 × Int32 × Int32 × Int32 × Int32 × Int32 × Int32 × (Nat → Nat → Int32) × Int32 => (fun (lm2 : Int32) (lg2 : Int32) (ld2 : Int32) (pe3 : Int32) (wo3 : Int32) (tx3 : Int32) (ch3 : Int32) (jo3 : Int32) (tr3 : Int32) (dy3 : Int32) (sd3 : Int32) (f3 : Nat → Nat → Int32) (q : Int32) => (0 ≤ pe3.toInt ∧ pe3.toInt ≤ 8) ∧ (0 ≤ wo3.toInt ∧ wo3.toInt ≤ 6) ∧ (zZ4 f3)) (u.1) (u.2.1) (u.2.2.1) (u.2.2.2.1) (u.2.2.2.2.1) (u.2.2.2.2.2.1) (u.2.2.2.2.2.2.1) (u.2.2.2.2.2.2.2.1) (u.2.2.2.2.2.2.2.2.1) (u.2.2.2.2.2.2.2.2.2.1) (u.2.2.2.2.2.2.2.2.2.2.1) (u.2.2.2.2.2.2.2.2.2.2.2.1) (u.2.2.2.2.2.2.2.2.2.2.2.2)) (fun u : Int32 × Int32 × Int32 × Int32 × Int32 × Int32 × Int32 × Int32 × Int32 × Int32 × Int32 × (Nat → Nat → Int32) × Int32 => (fun (lm2 : Int32) (lg2 : Int32) (ld2 : Int32) (pe3 : Int32) (wo3 : Int32) (tx3 : Int32) (ch3 : Int32) (jo3 : Int32) (tr3 : Int32) (dy3 : Int32) (sd3 : Int32) (f3 : Nat → Nat → Int32) (q : Int32) => [bFo g fo o lo od, bTown g o a pe wo tx ch jo tr dy sd f, bLaw g lo lc lz ll lm2 lg2 ld2 fc, bTown g od ad pe3 wo3 tx3 ch3 jo3 tr3 dy3 sd3 f3]) (u.1) (u.2.1) (u.2.2.1) (u.2.2.2.1) (u.2.2.2.2.1) (u.2.2.2.2.2.1) (u.2.2.2.2.2.2.1) (u.2.2.2.2.2.2.2.1) (u.2.2.2.2.2.2.2.2.1) (u.2.2.2.2.2.2.2.2.2.1) (u.2.2.2.2.2.2.2.2.2.2.1) (u.2.2.2.2.2.2.2.2.2.2.2.1) (u.2.2.2.2.2.2.2.2.2.2.2.2)) := by
  refine zM'.of (cc := cX0_firstRuin) (maxL := 2) (rt := (some .int)) (by decide) rfl (Nat.le_of_ble_eq_true rfl) ?_
  intro p e s m args below meth c A ls St hr hlocks hin hK hT hA hP hD hS hl
  obtain ⟨hx, hb, hml, hown, hts⟩ := id St
  have hl : lv_has ls 2 [(0, .ref fo)] := hl
  refine lv_aload_n hx hb dX0_firstRuin_0 rfl (lv_at hl 0 rfl) ?_
  refine va_get (D := g.1) (ci := 0) (v := .ref od) (C := RX0) (T := TX0) (N := 3) hx hb hts izRX0 hown hK hP 0 rfl rfl 2 (by decide) (hts _ k25) (fun _ h9 => h9) rfl dX0_firstRuin_1 ?_
  refine lv_aload_n hx hb dX0_firstRuin_4 rfl (lv_at hl 0 rfl) ?_
  refine va_get (D := g.1) (ci := 0) (v := .ref o) (C := RX0) (T := TX0) (N := 3) hx hb hts izRX0 hown hK hP 0 rfl rfl 0 (by decide) (hts _ k26) (fun _ h9 => h9) rfl dX0_firstRuin_5 ?_
  refine mcallV' (g := g) (q0 := 0) (ci := 7) (As := [.ref o]) (rest := []) St hK hT hA hP hD hS hl.1 [3, 1] [0, 2] rfl rfl rfl (c_copyFrom l g od ad ped wod txd chd jod trd dyd sdd fd o a pe wo tx ch jo tr dy sd f b_pe b_wo rf) (cwV 1 hts (zgL (zl4 k156 k157 k158 k24) k30) rfl rfl rfl (by decide +kernel) ⟨Nat.le_of_ble_eq_true rfl, Nat.le_of_ble_eq_true rfl⟩) rfl rfl rfl rfl (Nat.le_of_ble_eq_true rfl) dX0_firstRuin_8 ⟨(Nat.le_of_ble_eq_true rfl), (Nat.le_of_ble_eq_true rfl)⟩ (fun h_1 H locs hq2 hP hD hS => ?_)
  replace hq2 : (zZ4 h_1) := hq2
  have hP : va_P g.1 vwCl (List.flatten [bFo g fo o lo od, bLaw g lo lc lz ll lm lg ld fc, bTown g od ad pe wo tx ch jo tr dy sd h_1, bTown g o a pe wo tx ch jo tr dy sd f]) H := hP
  have hD : va_D A (List.flatten [bFo g fo o lo od, bLaw g lo lc lz ll lm lg ld fc, bTown g od ad pe wo tx ch jo tr dy sd h_1, bTown g o a pe wo tx ch jo tr dy sd f]) := hD
  refine W.widen (k := 0) (n := 0) (Nat.le_of_ble_eq_true rfl) (Nat.le_of_ble_eq_true rfl) ?_
  refine W.eq (g2 := F0 m 11 ls []) rfl ?_
  have rh_1 := hq2; clear hq2
  refine lv_iconst (v := 0) hx hb dX0_firstRuin_11 (by decide) ?_
  refine lv_istore_n (lv' := [(1, .int 0), (0, .ref fo)]) hx hb dX0_firstRuin_12 rfl hl (by decide) rfl (fun ls hl => ?_)
  have hl := lv_sub (l' := [(0, .ref fo), (1, .int 0)]) hl [1, 0] rfl
  have LP13_12 : ∀ (kf : Nat) (x_3 : Int32) (x_4 : Int32) (x_5 : Int32) (x_6 : Int32) (x_7 : Int32) (x_8 : Int32) (x_9 : Int32) (f_10 : Nat → Nat → Int32), (0 ≤ x_3.toInt ∧ x_3.toInt ≤ 101) → (zZ4 f_10) → ∀ (H : Heap) (locs : List Loc) (ls : Array Slot), ((102 - x_3.toInt).toNat) < kf → va_P g.1 vwCl (List.flatten [bFo g fo o lo od, bLaw g lo lc lz ll x_4 x_5 x_6 fc, bTown g od ad pe wo tx x_7 jo tr x_8 x_9 f_10, bTown g o a pe wo tx ch jo tr dy sd f]) H → va_D A (List.flatten [bFo g fo o lo od, bLaw g lo lc lz ll x_4 x_5 x_6 fc, bTown g od ad pe wo tx x_7 jo tr x_8 x_9 f_10, bTown g o a pe wo tx ch jo tr dy sd f]) → va_S A s.heap H locs → lv_has ls 2 [(0, .ref fo), (1, .int x_3)] → W p l e ({ frames := 6, cells := 0, slots := 0, locals := 128 } : Room) s m args below meth c H locs (0) (0) (zF g (fun u : Int32 × Int32 × Int32 × Int32 × Int32 × Int32 × Int32 × Int32 × Int32 × Int32 × Int32 × (Nat → Nat → Int32) × Int32 => (fun (lm2 : Int32) (lg2 : Int32) (ld2 : Int32) (pe3 : Int32) (wo3 : Int32) (tx3 : Int32) (ch3 : Int32) (jo3 : Int32) (tr3 : Int32) (dy3 : Int32) (sd3 : Int32) (f3 : Nat → Nat → Int32) (q : Int32) => some (.int q)) (u.1) (u.2.1) (u.2.2.1) (u.2.2.2.1) (u.2.2.2.2.1) (u.2.2.2.2.2.1) (u.2.2.2.2.2.2.1) (u.2.2.2.2.2.2.2.1) (u.2.2.2.2.2.2.2.2.1) (u.2.2.2.2.2.2.2.2.2.1) (u.2.2.2.2.2.2.2.2.2.2.1) (u.2.2.2.2.2.2.2.2.2.2.2.1) (u.2.2.2.2.2.2.2.2.2.2.2.2)) (fun u : Int32 × Int32 × Int32 × Int32 × Int32 × Int32 × Int32 × Int32 × Int32 × Int32 × Int32 × (Nat → Nat → Int32) × Int32 => (fun (lm2 : Int32) (lg2 : Int32) (ld2 : Int32) (pe3 : Int32) (wo3 : Int32) (tx3 : Int32) (ch3 : Int32) (jo3 : Int32) (tr3 : Int32) (dy3 : Int32) (sd3 : Int32) (f3 : Nat → Nat → Int32) (q : Int32) => (0 ≤ pe3.toInt ∧ pe3.toInt ≤ 8) ∧ (0 ≤ wo3.toInt ∧ wo3.toInt ≤ 6) ∧ (zZ4 f3)) (u.1) (u.2.1) (u.2.2.1) (u.2.2.2.1) (u.2.2.2.2.1) (u.2.2.2.2.2.1) (u.2.2.2.2.2.2.1) (u.2.2.2.2.2.2.2.1) (u.2.2.2.2.2.2.2.2.1) (u.2.2.2.2.2.2.2.2.2.1) (u.2.2.2.2.2.2.2.2.2.2.1) (u.2.2.2.2.2.2.2.2.2.2.2.1) (u.2.2.2.2.2.2.2.2.2.2.2.2)) (fun u : Int32 × Int32 × Int32 × Int32 × Int32 × Int32 × Int32 × Int32 × Int32 × Int32 × Int32 × (Nat → Nat → Int32) × Int32 => (fun (lm2 : Int32) (lg2 : Int32) (ld2 : Int32) (pe3 : Int32) (wo3 : Int32) (tx3 : Int32) (ch3 : Int32) (jo3 : Int32) (tr3 : Int32) (dy3 : Int32) (sd3 : Int32) (f3 : Nat → Nat → Int32) (q : Int32) => [bFo g fo o lo od, bTown g o a pe wo tx ch jo tr dy sd f, bLaw g lo lc lz ll lm2 lg2 ld2 fc, bTown g od ad pe3 wo3 tx3 ch3 jo3 tr3 dy3 sd3 f3]) (u.1) (u.2.1) (u.2.2.1) (u.2.2.2.1) (u.2.2.2.2.1) (u.2.2.2.2.2.1) (u.2.2.2.2.2.2.1) (u.2.2.2.2.2.2.2.1) (u.2.2.2.2.2.2.2.2.1) (u.2.2.2.2.2.2.2.2.2.1) (u.2.2.2.2.2.2.2.2.2.2.1) (u.2.2.2.2.2.2.2.2.2.2.2.1) (u.2.2.2.2.2.2.2.2.2.2.2.2)) ({ frames := 6, cells := 0, slots := 0, locals := 128 } : Room) below args s A) (F0 m 13 ls []) := by
    intro kf
    induction kf with
    | zero => intro x_3 x_4 x_5 x_6 x_7 x_8 x_9 f_10 i11 rf_10 H locs ls hk; exact absurd hk (Nat.not_lt_zero _)
    | succ kf ih13_13 =>
      intro x_3 x_4 x_5 x_6 x_7 x_8 x_9 f_10 i11 rf_10 H locs ls hk13_13 hP hD hS hl
      refine lv_iload_n hx hb dX0_firstRuin_13 rfl (lv_at hl 1 rfl) ?_
      refine lv_bipush (v := 100) hx hb dX0_firstRuin_14 (by decide) ?_
      refine lv_icmp_gt (tgt := 51) hx hb dX0_firstRuin_16 (by decide) (fun cb9 => ?_) (fun cb9 => ?_)
      · skip
        have c14 : 100 < x_3.toInt := zlti cb9 (by decide) rfl
        have n15 : 101 ≤ x_3.toInt := zL2 (a := 100) c14 (Int.le_refl _) (by decide)
        refine lv_iconst (v := (-1)) hx hb dX0_firstRuin_51 (by decide) ?_
        have hP : va_P g.1 vwCl (List.flatten [bFo g fo o lo od, bLaw g lo lc lz ll x_4 x_5 x_6 fc, bTown g od ad pe wo tx x_7 jo tr x_8 x_9 f_10, bTown g o a pe wo tx ch jo tr dy sd f]) H := hP
        have hD : va_D A (List.flatten [bFo g fo o lo od, bLaw g lo lc lz ll x_4 x_5 x_6 fc, bTown g od ad pe wo tx x_7 jo tr x_8 x_9 f_10, bTown g o a pe wo tx ch jo tr dy sd f]) := hD
        obtain ⟨hP, hD⟩ := zord (g := g) (Bs' := [bFo g fo o lo od, bTown g o a pe wo tx ch jo tr dy sd f, bLaw g lo lc lz ll x_4 x_5 x_6 fc, bTown g od ad pe wo tx x_7 jo tr x_8 x_9 f_10]) [0, 3, 1, 2] rfl rfl hP hD
        exact mret_i hx hb hr hlocks hS (Nat.le_of_ble_eq_true rfl) (Nat.le_of_ble_eq_true rfl) dX0_firstRuin_52 (x_4, x_5, x_6, pe, wo, tx, x_7, jo, tr, x_8, x_9, f_10, -1) rfl (show (0 ≤ pe.toInt ∧ pe.toInt ≤ 8) ∧ (0 ≤ wo.toInt ∧ wo.toInt ≤ 6) ∧ (zZ4 f_10) from ⟨b_pe, b_wo, rf_10⟩) hP hD
      · skip
        have c16 : x_3.toInt ≤ 100 := zle (Int32.not_lt.mp cb9) rfl (by decide)
        have n17 : x_3.toInt ≤ 100 := Int.le_trans c16 (Int.le_refl _)
        refine lv_aload_n hx hb dX0_firstRuin_19 rfl (lv_at hl 0 rfl) ?_
        refine va_get (D := g.1) (ci := 0) (v := .ref od) (C := RX0) (T := TX0) (N := 3) hx hb hts izRX0 hown hK hP 0 rfl rfl 2 (by decide) (hts _ k25) (fun _ h9 => h9) rfl dX0_firstRuin_20 ?_
        refine mcallV' (g := g) (q0 := 0) (ci := 7) (As := []) (rest := []) St hK hT hA hP hD hS hl.1 [2] [0, 1, 3] rfl rfl rfl (c_isRuined l g od ad pe wo tx x_7 jo tr x_8 x_9 f_10 b_pe b_wo rf_10) (cwV 0 hts (zgL (zl4 k180 k181 k182 k24) k176) rfl rfl rfl (by decide +kernel) ⟨Nat.le_of_ble_eq_true rfl, Nat.le_of_ble_eq_true rfl⟩) rfl rfl rfl rfl (Nat.le_of_ble_eq_true rfl) dX0_firstRuin_23 ⟨(Nat.le_of_ble_eq_true rfl), (Nat.le_of_ble_eq_true rfl)⟩ (fun q_18 H locs hq19 hP hD hS => ?_)
        replace hq19 : (q_18 = 0 ∨ q_18 = 1) := hq19
        have hP : va_P g.1 vwCl (List.flatten [bFo g fo o lo od, bLaw g lo lc lz ll x_4 x_5 x_6 fc, bTown g o a pe wo tx ch jo tr dy sd f, bTown g od ad pe wo tx x_7 jo tr x_8 x_9 f_10]) H := hP
        have hD : va_D A (List.flatten [bFo g fo o lo od, bLaw g lo lc lz ll x_4 x_5 x_6 fc, bTown g o a pe wo tx ch jo tr dy sd f, bTown g od ad pe wo tx x_7 jo tr x_8 x_9 f_10]) := hD
        refine W.widen (k := 0) (n := 0) (Nat.le_of_ble_eq_true rfl) (Nat.le_of_ble_eq_true rfl) ?_
        refine W.eq (g2 := F0 m 26 ls [.int q_18]) rfl ?_
        rcases hq19 with rfl | rfl
        · skip
          refine lv_if_eq (tgt := 31) hx hb dX0_firstRuin_26 (by decide) (fun _ => ?_) (fun c20 => absurd (by decide) c20)
          refine lv_aload_n hx hb dX0_firstRuin_31 rfl (lv_at hl 0 rfl) ?_
          refine va_get (D := g.1) (ci := 0) (v := .ref od) (C := RX0) (T := TX0) (N := 3) hx hb hts izRX0 hown hK hP 0 rfl rfl 2 (by decide) (hts _ k25) (fun _ h9 => h9) rfl dX0_firstRuin_32 ?_
          refine lv_aload_n hx hb dX0_firstRuin_35 rfl (lv_at hl 0 rfl) ?_
          refine va_get (D := g.1) (ci := 0) (v := .ref lo) (C := RX0) (T := TX0) (N := 3) hx hb hts izRX0 hown hK hP 0 rfl rfl 1 (by decide) (hts _ k27) (fun _ h9 => h9) rfl dX0_firstRuin_36 ?_
          refine lv_iconst (v := 0) hx hb dX0_firstRuin_39 (by decide) ?_
          refine lv_null hx hb dX0_firstRuin_40 ?_
          refine mcallV' (g := g) (q0 := 0) (ci := 7) (As := [.ref lo, .int 0, .null]) (rest := []) St hK hT hA hP hD hS hl.1 [3, 1] [0, 2] rfl rfl rfl (c_passDayN l g od ad pe wo tx x_7 jo tr x_8 x_9 f_10 lo lc lz ll x_4 x_5 x_6 fc 0 b_pe b_wo rf_10 b_lz) (cwV 3 hts (zgL (zl4 k160 k161 k162 k24) k154) rfl rfl rfl (by decide +kernel) ⟨Nat.le_of_ble_eq_true rfl, Nat.le_of_ble_eq_true rfl⟩) rfl rfl rfl rfl (Nat.le_of_ble_eq_true rfl) dX0_firstRuin_41 ⟨(Nat.le_of_ble_eq_true rfl), (Nat.le_of_ble_eq_true rfl)⟩ (fun u_ H locs hq29 hP hD hS => ?_)
          obtain ⟨ch2_21, dy2_22, sd2_23, f2_24, lm2_25, lg2_26, ld2_27, q_28⟩ := u_
          replace hq29 : (zZ4 f2_24) := hq29
          have hP : va_P g.1 vwCl (List.flatten [bFo g fo o lo od, bTown g o a pe wo tx ch jo tr dy sd f, bTown g od ad pe wo tx ch2_21 jo tr dy2_22 sd2_23 f2_24, bLaw g lo lc lz ll lm2_25 lg2_26 ld2_27 fc]) H := hP
          have hD : va_D A (List.flatten [bFo g fo o lo od, bTown g o a pe wo tx ch jo tr dy sd f, bTown g od ad pe wo tx ch2_21 jo tr dy2_22 sd2_23 f2_24, bLaw g lo lc lz ll lm2_25 lg2_26 ld2_27 fc]) := hD
          refine W.widen (k := 0) (n := 0) (Nat.le_of_ble_eq_true rfl) (Nat.le_of_ble_eq_true rfl) ?_
          refine W.eq (g2 := F0 m 44 ls [.int q_28]) rfl ?_
          have rf2_24 := hq29; clear hq29
          refine lv_pop hx hb dX0_firstRuin_44 rfl ?_
          refine ziinc3 (n' := 1) (a' := 1) (b' := 101) (lv' := fun v9 => [(1, .int v9), (0, .ref fo)]) hx hb dX0_firstRuin_45 hl (k := 1) rfl (by decide) (fun _ => rfl) (zaddK (i := x_3.toInt) (j := 1) rfl (by decide) i11.1 n17 (Int.le_refl _) (Int.le_refl _) (by decide)) (fun x_30 ls hx_30 hl => ?_)
          refine lv_goto (tgt := 13) hx hb dX0_firstRuin_48 (by decide) ?_
          have hl := lv_sub (l' := [(0, .ref fo), (1, .int x_30)]) hl [1, 0] rfl
          have hP : va_P g.1 vwCl (List.flatten [bFo g fo o lo od, bTown g o a pe wo tx ch jo tr dy sd f, bTown g od ad pe wo tx ch2_21 jo tr dy2_22 sd2_23 f2_24, bLaw g lo lc lz ll lm2_25 lg2_26 ld2_27 fc]) H := hP
          have hD : va_D A (List.flatten [bFo g fo o lo od, bTown g o a pe wo tx ch jo tr dy sd f, bTown g od ad pe wo tx ch2_21 jo tr dy2_22 sd2_23 f2_24, bLaw g lo lc lz ll lm2_25 lg2_26 ld2_27 fc]) := hD
          obtain ⟨hP, hD⟩ := zord (g := g) (Bs' := [bFo g fo o lo od, bLaw g lo lc lz ll lm2_25 lg2_26 ld2_27 fc, bTown g od ad pe wo tx ch2_21 jo tr dy2_22 sd2_23 f2_24, bTown g o a pe wo tx ch jo tr dy sd f]) [0, 3, 2, 1] rfl rfl hP hD
          have hP : va_P g.1 vwCl (List.flatten [bFo g fo o lo od, bLaw g lo lc lz ll lm2_25 lg2_26 ld2_27 fc, bTown g od ad pe wo tx ch2_21 jo tr dy2_22 sd2_23 f2_24, bTown g o a pe wo tx ch jo tr dy sd f]) H := hP
          have hD : va_D A (List.flatten [bFo g fo o lo od, bLaw g lo lc lz ll lm2_25 lg2_26 ld2_27 fc, bTown g od ad pe wo tx ch2_21 jo tr dy2_22 sd2_23 f2_24, bTown g o a pe wo tx ch jo tr dy sd f]) := hD
          exact ih13_13 x_30 lm2_25 lg2_26 ld2_27 ch2_21 dy2_22 sd2_23 f2_24 ⟨(Int.le_trans (by decide) hx_30.2.1), hx_30.2.2⟩ rf2_24 H _ ls (zmK hx_30.1 (by decide) n17 (by decide) hk13_13)  hP hD hS (lv_sub hl [0, 1] rfl)
        · skip
          refine lv_if_eq (tgt := 31) hx hb dX0_firstRuin_26 (by decide) (fun c31 => absurd c31 (by decide)) (fun _ => ?_)
          refine lv_iload_n hx hb dX0_firstRuin_29 rfl (lv_at hl 1 rfl) ?_
          have hP : va_P g.1 vwCl (List.flatten [bFo g fo o lo od, bLaw g lo lc lz ll x_4 x_5 x_6 fc, bTown g o a pe wo tx ch jo tr dy sd f, bTown g od ad pe wo tx x_7 jo tr x_8 x_9 f_10]) H := hP
          have hD : va_D A (List.flatten [bFo g fo o lo od, bLaw g lo lc lz ll x_4 x_5 x_6 fc, bTown g o a pe wo tx ch jo tr dy sd f, bTown g od ad pe wo tx x_7 jo tr x_8 x_9 f_10]) := hD
          obtain ⟨hP, hD⟩ := zord (g := g) (Bs' := [bFo g fo o lo od, bTown g o a pe wo tx ch jo tr dy sd f, bLaw g lo lc lz ll x_4 x_5 x_6 fc, bTown g od ad pe wo tx x_7 jo tr x_8 x_9 f_10]) [0, 2, 1, 3] rfl rfl hP hD
          exact mret_i hx hb hr hlocks hS (Nat.le_of_ble_eq_true rfl) (Nat.le_of_ble_eq_true rfl) dX0_firstRuin_30 (x_4, x_5, x_6, pe, wo, tx, x_7, jo, tr, x_8, x_9, f_10, x_3) rfl (show (0 ≤ pe.toInt ∧ pe.toInt ≤ 8) ∧ (0 ≤ wo.toInt ∧ wo.toInt ≤ 6) ∧ (zZ4 f_10) from ⟨b_pe, b_wo, rf_10⟩) hP hD
  have hP : va_P g.1 vwCl (List.flatten [bFo g fo o lo od, bLaw g lo lc lz ll lm lg ld fc, bTown g od ad pe wo tx ch jo tr dy sd h_1, bTown g o a pe wo tx ch jo tr dy sd f]) H := hP
  have hD : va_D A (List.flatten [bFo g fo o lo od, bLaw g lo lc lz ll lm lg ld fc, bTown g od ad pe wo tx ch jo tr dy sd h_1, bTown g o a pe wo tx ch jo tr dy sd f]) := hD
  exact LP13_12 _ 0 lm lg ld ch dy sd h_1 (by decide) rh_1 H _ ls (Nat.lt_succ_self _)  hP hD hS (lv_sub hl [0, 1] rfl)
set_option maxRecDepth 100000 in
set_option maxHeartbeats 4000000 in
theorem c_f_firstFallen (l : Launch) (g : zG) (fo : Nat) (o : Nat) (lo : Nat) (od : Nat) (a : Nat → Nat) (pe : Int32) (wo : Int32) (tx : Int32) (ch : Int32) (jo : Int32) (tr : Int32) (dy : Int32) (sd : Int32) (f : Nat → Nat → Int32) (lc : Nat) (lz : Int32) (ll : Int32) (lm : Int32) (lg : Int32) (ld : Int32) (fc : Nat → Int32) (ad : Nat → Nat) (ped : Int32) (wod : Int32) (txd : Int32) (chd : Int32) (jod : Int32) (trd : Int32) (dyd : Int32) (sdd : Int32) (fd : Nat → Nat → Int32) (w1 : Int32) (b_pe : 0 ≤ pe.toInt ∧ pe.toInt ≤ 8) (b_wo : 0 ≤ wo.toInt ∧ wo.toInt ≤ 6) (rf : zZ4 f) (b_lz : 0 ≤ lz.toInt ∧ lz.toInt ≤ 400) (b_ped : 0 ≤ ped.toInt ∧ ped.toInt ≤ 8) (b_wod : 0 ≤ wod.toInt ∧ wod.toInt ≤ 6) (rfd : zZ4 fd) (b_w1 : 0 ≤ w1.toInt ∧ w1.toInt ≤ 5) : zM' g l yX0_firstFallen (Cond.code yX0_firstFallen cX0_firstFallen 3 (some .int) :: zB) ({ frames := 6, cells := 0, slots := 0, locals := 128 } : Room) [.ref fo, .int w1] [bFo g fo o lo od, bTown g o a pe wo tx ch jo tr dy sd f, bLaw g lo lc lz ll lm lg ld fc, bTown g od ad ped wod txd chd jod trd dyd sdd fd] (fun u : Int32 × Int32 × Int32 × Int32 × Int32 × Int32 × Int32 × Int32 × Int32 × Int32 × Int32 × (Nat → Nat → Int32) × Int32 => (fun (lm2 : Int32) (lg2 : Int32) (ld2 : Int32) (pe3 : Int32) (wo3 : Int32) (tx3 : Int32) (ch3 : Int32) (jo3 : Int32) (tr3 : Int32) (dy3 : Int32) (sd3 : Int32) (f3 : Nat → Nat → Int32) (q : Int32) => some (.int q)) (u.1) (u.2.1) (u.2.2.1) (u.2.2.2.1) (u.2.2.2.2.1) (u.2.2.2.2.2.1) (u.2.2.2.2.2.2.1) (u.2.2.2.2.2.2.2.1) (u.2.2.2.2.2.2.2.2.1) (u.2.2.2.2.2.2.2.2.2.1) (u.2.2.2.2.2.2.2.2.2.2.1) (u.2.2.2.2.2.2.2.2.2.2.2.1) (u.2.2.2.2.2.2.2.2.2.2.2.2)) (fun u : Int32 × Int32 × Int32 × Int32 × Int32 × Int32 × Int32 × Int32 × Int32 × Int32 × Int32 × (Nat → Nat → Int32) × Int32 => (fun (lm2 : Int32) (lg2 : Int32) (ld2 : Int32) (pe3 : Int32) (wo3 : Int32) (tx3 : Int32) (ch3 : Int32) (jo3 : Int32) (tr3 : Int32) (dy3 : Int32) (sd3 : Int32) (f3 : Nat → Nat → Int32) (q : Int32) => (0 ≤ pe3.toInt ∧ pe3.toInt ≤ 8) ∧ (0 ≤ wo3.toInt ∧ wo3.toInt ≤ 6) ∧ (zZ4 f3)) (u.1) (u.2.1) (u.2.2.1) (u.2.2.2.1) (u.2.2.2.2.1) (u.2.2.2.2.2.1) (u.2.2.2.2.2.2.1) (u.2.2.2.2.2.2.2.1) (u.2.2.2.2.2.2.2.2.1) (u.2.2.2.2.2.2.2.2.2.1) (u.2.2.2.2.2.2.2.2.2.2.1) (u.2.2.2.2.2.2.2.2.2.2.2.1) (u.2.2.2.2.2.2.2.2.2.2.2.2)) (fun u : Int32 × Int32 × Int32 × Int32 × Int32 × Int32 × Int32 × Int32 × Int32 × Int32 × Int32 × (Nat → Nat → Int32) × Int32 => (fun (lm2 : Int32) (lg2 : Int32) (ld2 : Int32) (pe3 : Int32) (wo3 : Int32) (tx3 : Int32) (ch3 : Int32) (jo3 : Int32) (tr3 : Int32) (dy3 : Int32) (sd3 : Int32) (f3 : Nat → Nat → Int32) (q : Int32) => [bFo g fo o lo od, bTown g o a pe wo tx ch jo tr dy sd f, bLaw g lo lc lz ll lm2 lg2 ld2 fc, bTown g od ad pe3 wo3 tx3 ch3 jo3 tr3 dy3 sd3 f3]) (u.1) (u.2.1) (u.2.2.1) (u.2.2.2.1) (u.2.2.2.2.1) (u.2.2.2.2.2.1) (u.2.2.2.2.2.2.1) (u.2.2.2.2.2.2.2.1) (u.2.2.2.2.2.2.2.2.1) (u.2.2.2.2.2.2.2.2.2.1) (u.2.2.2.2.2.2.2.2.2.2.1) (u.2.2.2.2.2.2.2.2.2.2.2.1) (u.2.2.2.2.2.2.2.2.2.2.2.2)) := by
  refine zM'.of (cc := cX0_firstFallen) (maxL := 3) (rt := (some .int)) (by decide) rfl (Nat.le_of_ble_eq_true rfl) ?_
  intro p e s m args below meth c A ls St hr hlocks hin hK hT hA hP hD hS hl
  obtain ⟨hx, hb, hml, hown, hts⟩ := id St
  have hl : lv_has ls 3 [(0, .ref fo), (1, .int w1)] := hl
  refine lv_aload_n hx hb dX0_firstFallen_0 rfl (lv_at hl 0 rfl) ?_
  refine va_get (D := g.1) (ci := 0) (v := .ref od) (C := RX0) (T := TX0) (N := 3) hx hb hts izRX0 hown hK hP 0 rfl rfl 2 (by decide) (hts _ k25) (fun _ h9 => h9) rfl dX0_firstFallen_1 ?_
  refine lv_aload_n hx hb dX0_firstFallen_4 rfl (lv_at hl 0 rfl) ?_
  refine va_get (D := g.1) (ci := 0) (v := .ref o) (C := RX0) (T := TX0) (N := 3) hx hb hts izRX0 hown hK hP 0 rfl rfl 0 (by decide) (hts _ k26) (fun _ h9 => h9) rfl dX0_firstFallen_5 ?_
  refine mcallV' (g := g) (q0 := 0) (ci := 7) (As := [.ref o]) (rest := []) St hK hT hA hP hD hS hl.1 [3, 1] [0, 2] rfl rfl rfl (c_copyFrom l g od ad ped wod txd chd jod trd dyd sdd fd o a pe wo tx ch jo tr dy sd f b_pe b_wo rf) (cwV 1 hts (zgL (zl4 k156 k157 k158 k24) k30) rfl rfl rfl (by decide +kernel) ⟨Nat.le_of_ble_eq_true rfl, Nat.le_of_ble_eq_true rfl⟩) rfl rfl rfl rfl (Nat.le_of_ble_eq_true rfl) dX0_firstFallen_8 ⟨(Nat.le_of_ble_eq_true rfl), (Nat.le_of_ble_eq_true rfl)⟩ (fun h_1 H locs hq2 hP hD hS => ?_)
  replace hq2 : (zZ4 h_1) := hq2
  have hP : va_P g.1 vwCl (List.flatten [bFo g fo o lo od, bLaw g lo lc lz ll lm lg ld fc, bTown g od ad pe wo tx ch jo tr dy sd h_1, bTown g o a pe wo tx ch jo tr dy sd f]) H := hP
  have hD : va_D A (List.flatten [bFo g fo o lo od, bLaw g lo lc lz ll lm lg ld fc, bTown g od ad pe wo tx ch jo tr dy sd h_1, bTown g o a pe wo tx ch jo tr dy sd f]) := hD
  refine W.widen (k := 0) (n := 0) (Nat.le_of_ble_eq_true rfl) (Nat.le_of_ble_eq_true rfl) ?_
  refine W.eq (g2 := F0 m 11 ls []) rfl ?_
  have rh_1 := hq2; clear hq2
  refine lv_iconst (v := 0) hx hb dX0_firstFallen_11 (by decide) ?_
  refine lv_istore_n (lv' := [(2, .int 0), (0, .ref fo), (1, .int w1)]) hx hb dX0_firstFallen_12 rfl hl (by decide) rfl (fun ls hl => ?_)
  have hl := lv_sub (l' := [(0, .ref fo), (1, .int w1), (2, .int 0)]) hl [1, 2, 0] rfl
  have LP13_12 : ∀ (kf : Nat) (x_3 : Int32) (x_4 : Int32) (x_5 : Int32) (x_6 : Int32) (x_7 : Int32) (x_8 : Int32) (x_9 : Int32) (f_10 : Nat → Nat → Int32), (0 ≤ x_3.toInt ∧ x_3.toInt ≤ 101) → (zZ4 f_10) → ∀ (H : Heap) (locs : List Loc) (ls : Array Slot), ((102 - x_3.toInt).toNat) < kf → va_P g.1 vwCl (List.flatten [bFo g fo o lo od, bLaw g lo lc lz ll x_4 x_5 x_6 fc, bTown g od ad pe wo tx x_7 jo tr x_8 x_9 f_10, bTown g o a pe wo tx ch jo tr dy sd f]) H → va_D A (List.flatten [bFo g fo o lo od, bLaw g lo lc lz ll x_4 x_5 x_6 fc, bTown g od ad pe wo tx x_7 jo tr x_8 x_9 f_10, bTown g o a pe wo tx ch jo tr dy sd f]) → va_S A s.heap H locs → lv_has ls 3 [(0, .ref fo), (1, .int w1), (2, .int x_3)] → W p l e ({ frames := 6, cells := 0, slots := 0, locals := 128 } : Room) s m args below meth c H locs (0) (0) (zF g (fun u : Int32 × Int32 × Int32 × Int32 × Int32 × Int32 × Int32 × Int32 × Int32 × Int32 × Int32 × (Nat → Nat → Int32) × Int32 => (fun (lm2 : Int32) (lg2 : Int32) (ld2 : Int32) (pe3 : Int32) (wo3 : Int32) (tx3 : Int32) (ch3 : Int32) (jo3 : Int32) (tr3 : Int32) (dy3 : Int32) (sd3 : Int32) (f3 : Nat → Nat → Int32) (q : Int32) => some (.int q)) (u.1) (u.2.1) (u.2.2.1) (u.2.2.2.1) (u.2.2.2.2.1) (u.2.2.2.2.2.1) (u.2.2.2.2.2.2.1) (u.2.2.2.2.2.2.2.1) (u.2.2.2.2.2.2.2.2.1) (u.2.2.2.2.2.2.2.2.2.1) (u.2.2.2.2.2.2.2.2.2.2.1) (u.2.2.2.2.2.2.2.2.2.2.2.1) (u.2.2.2.2.2.2.2.2.2.2.2.2)) (fun u : Int32 × Int32 × Int32 × Int32 × Int32 × Int32 × Int32 × Int32 × Int32 × Int32 × Int32 × (Nat → Nat → Int32) × Int32 => (fun (lm2 : Int32) (lg2 : Int32) (ld2 : Int32) (pe3 : Int32) (wo3 : Int32) (tx3 : Int32) (ch3 : Int32) (jo3 : Int32) (tr3 : Int32) (dy3 : Int32) (sd3 : Int32) (f3 : Nat → Nat → Int32) (q : Int32) => (0 ≤ pe3.toInt ∧ pe3.toInt ≤ 8) ∧ (0 ≤ wo3.toInt ∧ wo3.toInt ≤ 6) ∧ (zZ4 f3)) (u.1) (u.2.1) (u.2.2.1) (u.2.2.2.1) (u.2.2.2.2.1) (u.2.2.2.2.2.1) (u.2.2.2.2.2.2.1) (u.2.2.2.2.2.2.2.1) (u.2.2.2.2.2.2.2.2.1) (u.2.2.2.2.2.2.2.2.2.1) (u.2.2.2.2.2.2.2.2.2.2.1) (u.2.2.2.2.2.2.2.2.2.2.2.1) (u.2.2.2.2.2.2.2.2.2.2.2.2)) (fun u : Int32 × Int32 × Int32 × Int32 × Int32 × Int32 × Int32 × Int32 × Int32 × Int32 × Int32 × (Nat → Nat → Int32) × Int32 => (fun (lm2 : Int32) (lg2 : Int32) (ld2 : Int32) (pe3 : Int32) (wo3 : Int32) (tx3 : Int32) (ch3 : Int32) (jo3 : Int32) (tr3 : Int32) (dy3 : Int32) (sd3 : Int32) (f3 : Nat → Nat → Int32) (q : Int32) => [bFo g fo o lo od, bTown g o a pe wo tx ch jo tr dy sd f, bLaw g lo lc lz ll lm2 lg2 ld2 fc, bTown g od ad pe3 wo3 tx3 ch3 jo3 tr3 dy3 sd3 f3]) (u.1) (u.2.1) (u.2.2.1) (u.2.2.2.1) (u.2.2.2.2.1) (u.2.2.2.2.2.1) (u.2.2.2.2.2.2.1) (u.2.2.2.2.2.2.2.1) (u.2.2.2.2.2.2.2.2.1) (u.2.2.2.2.2.2.2.2.2.1) (u.2.2.2.2.2.2.2.2.2.2.1) (u.2.2.2.2.2.2.2.2.2.2.2.1) (u.2.2.2.2.2.2.2.2.2.2.2.2)) ({ frames := 6, cells := 0, slots := 0, locals := 128 } : Room) below args s A) (F0 m 13 ls []) := by
    intro kf
    induction kf with
    | zero => intro x_3 x_4 x_5 x_6 x_7 x_8 x_9 f_10 i11 rf_10 H locs ls hk; exact absurd hk (Nat.not_lt_zero _)
    | succ kf ih13_13 =>
      intro x_3 x_4 x_5 x_6 x_7 x_8 x_9 f_10 i11 rf_10 H locs ls hk13_13 hP hD hS hl
      refine lv_iload_n hx hb dX0_firstFallen_13 rfl (lv_at hl 2 rfl) ?_
      refine lv_bipush (v := 100) hx hb dX0_firstFallen_14 (by decide) ?_
      refine lv_icmp_gt (tgt := 54) hx hb dX0_firstFallen_16 (by decide) (fun cb9 => ?_) (fun cb9 => ?_)
      · skip
        have c14 : 100 < x_3.toInt := zlti cb9 (by decide) rfl
        have n15 : 101 ≤ x_3.toInt := zL2 (a := 100) c14 (Int.le_refl _) (by decide)
        refine lv_iconst (v := (-1)) hx hb dX0_firstFallen_54 (by decide) ?_
        have hP : va_P g.1 vwCl (List.flatten [bFo g fo o lo od, bLaw g lo lc lz ll x_4 x_5 x_6 fc, bTown g od ad pe wo tx x_7 jo tr x_8 x_9 f_10, bTown g o a pe wo tx ch jo tr dy sd f]) H := hP
        have hD : va_D A (List.flatten [bFo g fo o lo od, bLaw g lo lc lz ll x_4 x_5 x_6 fc, bTown g od ad pe wo tx x_7 jo tr x_8 x_9 f_10, bTown g o a pe wo tx ch jo tr dy sd f]) := hD
        obtain ⟨hP, hD⟩ := zord (g := g) (Bs' := [bFo g fo o lo od, bTown g o a pe wo tx ch jo tr dy sd f, bLaw g lo lc lz ll x_4 x_5 x_6 fc, bTown g od ad pe wo tx x_7 jo tr x_8 x_9 f_10]) [0, 3, 1, 2] rfl rfl hP hD
        exact mret_i hx hb hr hlocks hS (Nat.le_of_ble_eq_true rfl) (Nat.le_of_ble_eq_true rfl) dX0_firstFallen_55 (x_4, x_5, x_6, pe, wo, tx, x_7, jo, tr, x_8, x_9, f_10, -1) rfl (show (0 ≤ pe.toInt ∧ pe.toInt ≤ 8) ∧ (0 ≤ wo.toInt ∧ wo.toInt ≤ 6) ∧ (zZ4 f_10) from ⟨b_pe, b_wo, rf_10⟩) hP hD
      · skip
        have c16 : x_3.toInt ≤ 100 := zle (Int32.not_lt.mp cb9) rfl (by decide)
        have n17 : x_3.toInt ≤ 100 := Int.le_trans c16 (Int.le_refl _)
        refine lv_aload_n hx hb dX0_firstFallen_19 rfl (lv_at hl 0 rfl) ?_
        refine va_get (D := g.1) (ci := 0) (v := .ref od) (C := RX0) (T := TX0) (N := 3) hx hb hts izRX0 hown hK hP 0 rfl rfl 2 (by decide) (hts _ k25) (fun _ h9 => h9) rfl dX0_firstFallen_20 ?_
        refine va_get (D := g.1) (ci := 7) (v := .ref (ad 9)) (C := RX9) (T := TX9) (N := 19) hx hb hts izRX9 hown hK hP 3 rfl rfl 17 (by decide) (hts _ k184) (fun _ h9 => h9) rfl dX0_firstFallen_23 ?_
        refine lv_iload_n hx hb dX0_firstFallen_26 rfl (lv_at hl 1 rfl) ?_
        refine va_iald hx hb hK hP 13 0 rfl rfl (zinK (a := 0) (b := 5) b_w1.1 b_w1.2 (by decide)) dX0_firstFallen_27 ?_
        refine zg (fun x_18 => ?_)
        refine lv_iconst (v := 2) hx hb dX0_firstFallen_28 (by decide) ?_
        refine lv_icmp_ne (tgt := 34) hx hb dX0_firstFallen_29 (by decide) (fun cb9 => ?_) (fun cb9 => ?_)
        · skip
          have c19 : ¬ x_18.toInt = 2 := zne cb9 rfl (by decide)
          refine lv_aload_n hx hb dX0_firstFallen_34 rfl (lv_at hl 0 rfl) ?_
          refine va_get (D := g.1) (ci := 0) (v := .ref od) (C := RX0) (T := TX0) (N := 3) hx hb hts izRX0 hown hK hP 0 rfl rfl 2 (by decide) (hts _ k25) (fun _ h9 => h9) rfl dX0_firstFallen_35 ?_
          refine lv_aload_n hx hb dX0_firstFallen_38 rfl (lv_at hl 0 rfl) ?_
          refine va_get (D := g.1) (ci := 0) (v := .ref lo) (C := RX0) (T := TX0) (N := 3) hx hb hts izRX0 hown hK hP 0 rfl rfl 1 (by decide) (hts _ k27) (fun _ h9 => h9) rfl dX0_firstFallen_39 ?_
          refine lv_iconst (v := 0) hx hb dX0_firstFallen_42 (by decide) ?_
          refine lv_null hx hb dX0_firstFallen_43 ?_
          refine mcallV' (g := g) (q0 := 0) (ci := 7) (As := [.ref lo, .int 0, .null]) (rest := []) St hK hT hA hP hD hS hl.1 [2, 1] [0, 3] rfl rfl rfl (c_passDayN l g od ad pe wo tx x_7 jo tr x_8 x_9 f_10 lo lc lz ll x_4 x_5 x_6 fc 0 b_pe b_wo rf_10 b_lz) (cwV 3 hts (zgL (zl4 k160 k161 k162 k24) k154) rfl rfl rfl (by decide +kernel) ⟨Nat.le_of_ble_eq_true rfl, Nat.le_of_ble_eq_true rfl⟩) rfl rfl rfl rfl (Nat.le_of_ble_eq_true rfl) dX0_firstFallen_44 ⟨(Nat.le_of_ble_eq_true rfl), (Nat.le_of_ble_eq_true rfl)⟩ (fun u_ H locs hq28 hP hD hS => ?_)
          obtain ⟨ch2_20, dy2_21, sd2_22, f2_23, lm2_24, lg2_25, ld2_26, q_27⟩ := u_
          replace hq28 : (zZ4 f2_23) := hq28
          have hP : va_P g.1 vwCl (List.flatten [bFo g fo o lo od, bTown g o a pe wo tx ch jo tr dy sd f, bTown g od ad pe wo tx ch2_20 jo tr dy2_21 sd2_22 f2_23, bLaw g lo lc lz ll lm2_24 lg2_25 ld2_26 fc]) H := hP
          have hD : va_D A (List.flatten [bFo g fo o lo od, bTown g o a pe wo tx ch jo tr dy sd f, bTown g od ad pe wo tx ch2_20 jo tr dy2_21 sd2_22 f2_23, bLaw g lo lc lz ll lm2_24 lg2_25 ld2_26 fc]) := hD
          refine W.widen (k := 0) (n := 0) (Nat.le_of_ble_eq_true rfl) (Nat.le_of_ble_eq_true rfl) ?_
          refine W.eq (g2 := F0 m 47 ls [.int q_27]) rfl ?_
          have rf2_23 := hq28; clear hq28
          refine lv_pop hx hb dX0_firstFallen_47 rfl ?_
          refine ziinc3 (n' := 1) (a' := 1) (b' := 101) (lv' := fun v9 => [(2, .int v9), (0, .ref fo), (1, .int w1)]) hx hb dX0_firstFallen_48 hl (k := 2) rfl (by decide) (fun _ => rfl) (zaddK (i := x_3.toInt) (j := 1) rfl (by decide) i11.1 n17 (Int.le_refl _) (Int.le_refl _) (by decide)) (fun x_29 ls hx_29 hl => ?_)
          refine lv_goto (tgt := 13) hx hb dX0_firstFallen_51 (by decide) ?_
          have hl := lv_sub (l' := [(0, .ref fo), (1, .int w1), (2, .int x_29)]) hl [1, 2, 0] rfl
          have hP : va_P g.1 vwCl (List.flatten [bFo g fo o lo od, bTown g o a pe wo tx ch jo tr dy sd f, bTown g od ad pe wo tx ch2_20 jo tr dy2_21 sd2_22 f2_23, bLaw g lo lc lz ll lm2_24 lg2_25 ld2_26 fc]) H := hP
          have hD : va_D A (List.flatten [bFo g fo o lo od, bTown g o a pe wo tx ch jo tr dy sd f, bTown g od ad pe wo tx ch2_20 jo tr dy2_21 sd2_22 f2_23, bLaw g lo lc lz ll lm2_24 lg2_25 ld2_26 fc]) := hD
          obtain ⟨hP, hD⟩ := zord (g := g) (Bs' := [bFo g fo o lo od, bLaw g lo lc lz ll lm2_24 lg2_25 ld2_26 fc, bTown g od ad pe wo tx ch2_20 jo tr dy2_21 sd2_22 f2_23, bTown g o a pe wo tx ch jo tr dy sd f]) [0, 3, 2, 1] rfl rfl hP hD
          have hP : va_P g.1 vwCl (List.flatten [bFo g fo o lo od, bLaw g lo lc lz ll lm2_24 lg2_25 ld2_26 fc, bTown g od ad pe wo tx ch2_20 jo tr dy2_21 sd2_22 f2_23, bTown g o a pe wo tx ch jo tr dy sd f]) H := hP
          have hD : va_D A (List.flatten [bFo g fo o lo od, bLaw g lo lc lz ll lm2_24 lg2_25 ld2_26 fc, bTown g od ad pe wo tx ch2_20 jo tr dy2_21 sd2_22 f2_23, bTown g o a pe wo tx ch jo tr dy sd f]) := hD
          exact ih13_13 x_29 lm2_24 lg2_25 ld2_26 ch2_20 dy2_21 sd2_22 f2_23 ⟨(Int.le_trans (by decide) hx_29.2.1), hx_29.2.2⟩ rf2_23 H _ ls (zmK hx_29.1 (by decide) n17 (by decide) hk13_13)  hP hD hS (lv_sub hl [0, 1, 2] rfl)
        · skip
          have c30 : x_18.toInt = 2 := zeq cb9 rfl (by decide)
          have n31 : 2 ≤ x_18.toInt := Int.le_trans (Int.le_refl _) (Int.le_of_eq c30.symm)
          have n32 : x_18.toInt ≤ 2 := Int.le_trans (Int.le_of_eq c30) (Int.le_refl _)
          refine lv_iload_n hx hb dX0_firstFallen_32 rfl (lv_at hl 2 rfl) ?_
          have hP : va_P g.1 vwCl (List.flatten [bFo g fo o lo od, bLaw g lo lc lz ll x_4 x_5 x_6 fc, bTown g od ad pe wo tx x_7 jo tr x_8 x_9 f_10, bTown g o a pe wo tx ch jo tr dy sd f]) H := hP
          have hD : va_D A (List.flatten [bFo g fo o lo od, bLaw g lo lc lz ll x_4 x_5 x_6 fc, bTown g od ad pe wo tx x_7 jo tr x_8 x_9 f_10, bTown g o a pe wo tx ch jo tr dy sd f]) := hD
          obtain ⟨hP, hD⟩ := zord (g := g) (Bs' := [bFo g fo o lo od, bTown g o a pe wo tx ch jo tr dy sd f, bLaw g lo lc lz ll x_4 x_5 x_6 fc, bTown g od ad pe wo tx x_7 jo tr x_8 x_9 f_10]) [0, 3, 1, 2] rfl rfl hP hD
          exact mret_i hx hb hr hlocks hS (Nat.le_of_ble_eq_true rfl) (Nat.le_of_ble_eq_true rfl) dX0_firstFallen_33 (x_4, x_5, x_6, pe, wo, tx, x_7, jo, tr, x_8, x_9, f_10, x_3) rfl (show (0 ≤ pe.toInt ∧ pe.toInt ≤ 8) ∧ (0 ≤ wo.toInt ∧ wo.toInt ≤ 6) ∧ (zZ4 f_10) from ⟨b_pe, b_wo, rf_10⟩) hP hD
  have hP : va_P g.1 vwCl (List.flatten [bFo g fo o lo od, bLaw g lo lc lz ll lm lg ld fc, bTown g od ad pe wo tx ch jo tr dy sd h_1, bTown g o a pe wo tx ch jo tr dy sd f]) H := hP
  have hD : va_D A (List.flatten [bFo g fo o lo od, bLaw g lo lc lz ll lm lg ld fc, bTown g od ad pe wo tx ch jo tr dy sd h_1, bTown g o a pe wo tx ch jo tr dy sd f]) := hD
  exact LP13_12 _ 0 lm lg ld ch dy sd h_1 (by decide) rh_1 H _ ls (Nat.lt_succ_self _)  hP hD hS (lv_sub hl [0, 1, 2] rfl)
set_option maxRecDepth 100000 in
set_option maxHeartbeats 4000000 in
theorem c_f_greatestPrice (l : Launch) (g : zG) (fo : Nat) (o : Nat) (lo : Nat) (od : Nat) (a : Nat → Nat) (pe : Int32) (wo : Int32) (tx : Int32) (ch : Int32) (jo : Int32) (tr : Int32) (dy : Int32) (sd : Int32) (f : Nat → Nat → Int32) (lc : Nat) (lz : Int32) (ll : Int32) (lm : Int32) (lg : Int32) (ld : Int32) (fc : Nat → Int32) (ad : Nat → Nat) (ped : Int32) (wod : Int32) (txd : Int32) (chd : Int32) (jod : Int32) (trd : Int32) (dyd : Int32) (sdd : Int32) (fd : Nat → Nat → Int32) (n : Int32) (mu : Int32) (b_pe : 0 ≤ pe.toInt ∧ pe.toInt ≤ 8) (b_wo : 0 ≤ wo.toInt ∧ wo.toInt ≤ 6) (rf : zZ4 f) (b_lz : 0 ≤ lz.toInt ∧ lz.toInt ≤ 400) (b_ped : 0 ≤ ped.toInt ∧ ped.toInt ≤ 8) (b_wod : 0 ≤ wod.toInt ∧ wod.toInt ≤ 6) (rfd : zZ4 fd) (b_n : 0 ≤ n.toInt ∧ n.toInt ≤ 100) : zM' g l yX0_greatestPrice (Cond.code yX0_greatestPrice cX0_greatestPrice 6 (some .int) :: zB) ({ frames := 6, cells := 0, slots := 0, locals := 128 } : Room) [.ref fo, .int n, .int mu] [bFo g fo o lo od, bTown g o a pe wo tx ch jo tr dy sd f, bLaw g lo lc lz ll lm lg ld fc, bTown g od ad ped wod txd chd jod trd dyd sdd fd] (fun u : Int32 × Int32 × Int32 × Int32 × Int32 × Int32 × Int32 × Int32 × Int32 × Int32 × Int32 × (Nat → Nat → Int32) × Int32 => (fun (lm2 : Int32) (lg2 : Int32) (ld2 : Int32) (pe3 : Int32) (wo3 : Int32) (tx3 : Int32) (ch3 : Int32) (jo3 : Int32) (tr3 : Int32) (dy3 : Int32) (sd3 : Int32) (f3 : Nat → Nat → Int32) (q : Int32) => some (.int q)) (u.1) (u.2.1) (u.2.2.1) (u.2.2.2.1) (u.2.2.2.2.1) (u.2.2.2.2.2.1) (u.2.2.2.2.2.2.1) (u.2.2.2.2.2.2.2.1) (u.2.2.2.2.2.2.2.2.1) (u.2.2.2.2.2.2.2.2.2.1) (u.2.2.2.2.2.2.2.2.2.2.1) (u.2.2.2.2.2.2.2.2.2.2.2.1) (u.2.2.2.2.2.2.2.2.2.2.2.2)) (fun u : Int32 × Int32 × Int32 × Int32 × Int32 × Int32 × Int32 × Int32 × Int32 × Int32 × Int32 × (Nat → Nat → Int32) × Int32 => (fun (lm2 : Int32) (lg2 : Int32) (ld2 : Int32) (pe3 : Int32) (wo3 : Int32) (tx3 : Int32) (ch3 : Int32) (jo3 : Int32) (tr3 : Int32) (dy3 : Int32) (sd3 : Int32) (f3 : Nat → Nat → Int32) (q : Int32) => (0 ≤ pe3.toInt ∧ pe3.toInt ≤ 8) ∧ (0 ≤ wo3.toInt ∧ wo3.toInt ≤ 6) ∧ (zZ4 f3)) (u.1) (u.2.1) (u.2.2.1) (u.2.2.2.1) (u.2.2.2.2.1) (u.2.2.2.2.2.1) (u.2.2.2.2.2.2.1) (u.2.2.2.2.2.2.2.1) (u.2.2.2.2.2.2.2.2.1) (u.2.2.2.2.2.2.2.2.2.1) (u.2.2.2.2.2.2.2.2.2.2.1) (u.2.2.2.2.2.2.2.2.2.2.2.1) (u.2.2.2.2.2.2.2.2.2.2.2.2)) (fun u : Int32 × Int32 × Int32 × Int32 × Int32 × Int32 × Int32 × Int32 × Int32 × Int32 × Int32 × (Nat → Nat → Int32) × Int32 => (fun (lm2 : Int32) (lg2 : Int32) (ld2 : Int32) (pe3 : Int32) (wo3 : Int32) (tx3 : Int32) (ch3 : Int32) (jo3 : Int32) (tr3 : Int32) (dy3 : Int32) (sd3 : Int32) (f3 : Nat → Nat → Int32) (q : Int32) => [bFo g fo o lo od, bTown g o a pe wo tx ch jo tr dy sd f, bLaw g lo lc lz ll lm2 lg2 ld2 fc, bTown g od ad pe3 wo3 tx3 ch3 jo3 tr3 dy3 sd3 f3]) (u.1) (u.2.1) (u.2.2.1) (u.2.2.2.1) (u.2.2.2.2.1) (u.2.2.2.2.2.1) (u.2.2.2.2.2.2.1) (u.2.2.2.2.2.2.2.1) (u.2.2.2.2.2.2.2.2.1) (u.2.2.2.2.2.2.2.2.2.1) (u.2.2.2.2.2.2.2.2.2.2.1) (u.2.2.2.2.2.2.2.2.2.2.2.1) (u.2.2.2.2.2.2.2.2.2.2.2.2)) := by
  refine zM'.of (cc := cX0_greatestPrice) (maxL := 6) (rt := (some .int)) (by decide) rfl (Nat.le_of_ble_eq_true rfl) ?_
  intro p e s m args below meth c A ls St hr hlocks hin hK hT hA hP hD hS hl
  obtain ⟨hx, hb, hml, hown, hts⟩ := id St
  have hl : lv_has ls 6 [(0, .ref fo), (1, .int n), (2, .int mu)] := hl
  refine lv_aload_n hx hb dX0_greatestPrice_0 rfl (lv_at hl 0 rfl) ?_
  refine va_get (D := g.1) (ci := 0) (v := .ref od) (C := RX0) (T := TX0) (N := 3) hx hb hts izRX0 hown hK hP 0 rfl rfl 2 (by decide) (hts _ k25) (fun _ h9 => h9) rfl dX0_greatestPrice_1 ?_
  refine lv_aload_n hx hb dX0_greatestPrice_4 rfl (lv_at hl 0 rfl) ?_
  refine va_get (D := g.1) (ci := 0) (v := .ref o) (C := RX0) (T := TX0) (N := 3) hx hb hts izRX0 hown hK hP 0 rfl rfl 0 (by decide) (hts _ k26) (fun _ h9 => h9) rfl dX0_greatestPrice_5 ?_
  refine mcallV' (g := g) (q0 := 0) (ci := 7) (As := [.ref o]) (rest := []) St hK hT hA hP hD hS hl.1 [3, 1] [0, 2] rfl rfl rfl (c_copyFrom l g od ad ped wod txd chd jod trd dyd sdd fd o a pe wo tx ch jo tr dy sd f b_pe b_wo rf) (cwV 1 hts (zgL (zl4 k156 k157 k158 k24) k30) rfl rfl rfl (by decide +kernel) ⟨Nat.le_of_ble_eq_true rfl, Nat.le_of_ble_eq_true rfl⟩) rfl rfl rfl rfl (Nat.le_of_ble_eq_true rfl) dX0_greatestPrice_8 ⟨(Nat.le_of_ble_eq_true rfl), (Nat.le_of_ble_eq_true rfl)⟩ (fun h_1 H locs hq2 hP hD hS => ?_)
  replace hq2 : (zZ4 h_1) := hq2
  have hP : va_P g.1 vwCl (List.flatten [bFo g fo o lo od, bLaw g lo lc lz ll lm lg ld fc, bTown g od ad pe wo tx ch jo tr dy sd h_1, bTown g o a pe wo tx ch jo tr dy sd f]) H := hP
  have hD : va_D A (List.flatten [bFo g fo o lo od, bLaw g lo lc lz ll lm lg ld fc, bTown g od ad pe wo tx ch jo tr dy sd h_1, bTown g o a pe wo tx ch jo tr dy sd f]) := hD
  refine W.widen (k := 0) (n := 0) (Nat.le_of_ble_eq_true rfl) (Nat.le_of_ble_eq_true rfl) ?_
  refine W.eq (g2 := F0 m 11 ls []) rfl ?_
  have rh_1 := hq2; clear hq2
  refine lv_iconst (v := 0) hx hb dX0_greatestPrice_11 (by decide) ?_
  refine lv_istore_n (lv' := [(3, .int 0), (0, .ref fo), (1, .int n), (2, .int mu)]) hx hb dX0_greatestPrice_12 rfl hl (by decide) rfl (fun ls hl => ?_)
  refine lv_aload_n hx hb dX0_greatestPrice_13 rfl (lv_at hl 1 rfl) ?_
  refine va_get (D := g.1) (ci := 0) (v := .ref od) (C := RX0) (T := TX0) (N := 3) hx hb hts izRX0 hown hK hP 0 rfl rfl 2 (by decide) (hts _ k25) (fun _ h9 => h9) rfl dX0_greatestPrice_14 ?_
  refine mcallV' (g := g) (q0 := 0) (ci := 7) (As := []) (rest := []) St hK hT hA hP hD hS hl.1 [2] [0, 1, 3] rfl rfl rfl (c_sharePrice l g od ad pe wo tx ch jo tr dy sd h_1 b_pe b_wo rh_1) (cwV 0 hts (zgL (zl4 k187 k188 k189 k24) k186) rfl rfl rfl (by decide +kernel) ⟨Nat.le_of_ble_eq_true rfl, Nat.le_of_ble_eq_true rfl⟩) rfl rfl rfl rfl (Nat.le_of_ble_eq_true rfl) dX0_greatestPrice_17 ⟨(Nat.le_of_ble_eq_true rfl), (Nat.le_of_ble_eq_true rfl)⟩ (fun q_3 H locs hq4 hP hD hS => ?_)
  have hP : va_P g.1 vwCl (List.flatten [bFo g fo o lo od, bLaw g lo lc lz ll lm lg ld fc, bTown g o a pe wo tx ch jo tr dy sd f, bTown g od ad pe wo tx ch jo tr dy sd h_1]) H := hP
  have hD : va_D A (List.flatten [bFo g fo o lo od, bLaw g lo lc lz ll lm lg ld fc, bTown g o a pe wo tx ch jo tr dy sd f, bTown g od ad pe wo tx ch jo tr dy sd h_1]) := hD
  refine W.widen (k := 0) (n := 0) (Nat.le_of_ble_eq_true rfl) (Nat.le_of_ble_eq_true rfl) ?_
  refine W.eq (g2 := F0 m 20 ls [.int q_3]) rfl ?_
  refine lv_istore (lv' := [(4, .int q_3), (3, .int 0), (0, .ref fo), (1, .int n), (2, .int mu)]) hx hb dX0_greatestPrice_20 hl (by decide) rfl (fun ls hl => ?_)
  refine lv_iconst (v := 1) hx hb dX0_greatestPrice_22 (by decide) ?_
  refine lv_istore (lv' := [(5, .int 1), (4, .int q_3), (3, .int 0), (0, .ref fo), (1, .int n), (2, .int mu)]) hx hb dX0_greatestPrice_23 hl (by decide) rfl (fun ls hl => ?_)
  have hl := lv_sub (l' := [(0, .ref fo), (1, .int n), (2, .int mu), (3, .int 0), (4, .int q_3), (5, .int 1)]) hl [3, 4, 5, 2, 1, 0] rfl
  have LP25_17 : ∀ (kf : Nat) (x_5 : Int32) (x_6 : Int32) (x_7 : Int32) (x_8 : Int32) (x_9 : Int32) (x_10 : Int32) (x_11 : Int32) (x_12 : Int32) (x_13 : Int32) (f_14 : Nat → Nat → Int32), (0 ≤ x_5.toInt ∧ x_5.toInt ≤ 100) → (1 ≤ x_7.toInt ∧ x_7.toInt ≤ 101) → (zZ4 f_14) → ∀ (H : Heap) (locs : List Loc) (ls : Array Slot), ((102 - x_7.toInt).toNat) < kf → va_P g.1 vwCl (List.flatten [bFo g fo o lo od, bLaw g lo lc lz ll x_8 x_9 x_10 fc, bTown g o a pe wo tx ch jo tr dy sd f, bTown g od ad pe wo tx x_11 jo tr x_12 x_13 f_14]) H → va_D A (List.flatten [bFo g fo o lo od, bLaw g lo lc lz ll x_8 x_9 x_10 fc, bTown g o a pe wo tx ch jo tr dy sd f, bTown g od ad pe wo tx x_11 jo tr x_12 x_13 f_14]) → va_S A s.heap H locs → lv_has ls 6 [(0, .ref fo), (1, .int n), (2, .int mu), (3, .int x_5), (4, .int x_6), (5, .int x_7)] → W p l e ({ frames := 6, cells := 0, slots := 0, locals := 128 } : Room) s m args below meth c H locs (0) (0) (zF g (fun u : Int32 × Int32 × Int32 × Int32 × Int32 × Int32 × Int32 × Int32 × Int32 × Int32 × Int32 × (Nat → Nat → Int32) × Int32 => (fun (lm2 : Int32) (lg2 : Int32) (ld2 : Int32) (pe3 : Int32) (wo3 : Int32) (tx3 : Int32) (ch3 : Int32) (jo3 : Int32) (tr3 : Int32) (dy3 : Int32) (sd3 : Int32) (f3 : Nat → Nat → Int32) (q : Int32) => some (.int q)) (u.1) (u.2.1) (u.2.2.1) (u.2.2.2.1) (u.2.2.2.2.1) (u.2.2.2.2.2.1) (u.2.2.2.2.2.2.1) (u.2.2.2.2.2.2.2.1) (u.2.2.2.2.2.2.2.2.1) (u.2.2.2.2.2.2.2.2.2.1) (u.2.2.2.2.2.2.2.2.2.2.1) (u.2.2.2.2.2.2.2.2.2.2.2.1) (u.2.2.2.2.2.2.2.2.2.2.2.2)) (fun u : Int32 × Int32 × Int32 × Int32 × Int32 × Int32 × Int32 × Int32 × Int32 × Int32 × Int32 × (Nat → Nat → Int32) × Int32 => (fun (lm2 : Int32) (lg2 : Int32) (ld2 : Int32) (pe3 : Int32) (wo3 : Int32) (tx3 : Int32) (ch3 : Int32) (jo3 : Int32) (tr3 : Int32) (dy3 : Int32) (sd3 : Int32) (f3 : Nat → Nat → Int32) (q : Int32) => (0 ≤ pe3.toInt ∧ pe3.toInt ≤ 8) ∧ (0 ≤ wo3.toInt ∧ wo3.toInt ≤ 6) ∧ (zZ4 f3)) (u.1) (u.2.1) (u.2.2.1) (u.2.2.2.1) (u.2.2.2.2.1) (u.2.2.2.2.2.1) (u.2.2.2.2.2.2.1) (u.2.2.2.2.2.2.2.1) (u.2.2.2.2.2.2.2.2.1) (u.2.2.2.2.2.2.2.2.2.1) (u.2.2.2.2.2.2.2.2.2.2.1) (u.2.2.2.2.2.2.2.2.2.2.2.1) (u.2.2.2.2.2.2.2.2.2.2.2.2)) (fun u : Int32 × Int32 × Int32 × Int32 × Int32 × Int32 × Int32 × Int32 × Int32 × Int32 × Int32 × (Nat → Nat → Int32) × Int32 => (fun (lm2 : Int32) (lg2 : Int32) (ld2 : Int32) (pe3 : Int32) (wo3 : Int32) (tx3 : Int32) (ch3 : Int32) (jo3 : Int32) (tr3 : Int32) (dy3 : Int32) (sd3 : Int32) (f3 : Nat → Nat → Int32) (q : Int32) => [bFo g fo o lo od, bTown g o a pe wo tx ch jo tr dy sd f, bLaw g lo lc lz ll lm2 lg2 ld2 fc, bTown g od ad pe3 wo3 tx3 ch3 jo3 tr3 dy3 sd3 f3]) (u.1) (u.2.1) (u.2.2.1) (u.2.2.2.1) (u.2.2.2.2.1) (u.2.2.2.2.2.1) (u.2.2.2.2.2.2.1) (u.2.2.2.2.2.2.2.1) (u.2.2.2.2.2.2.2.2.1) (u.2.2.2.2.2.2.2.2.2.1) (u.2.2.2.2.2.2.2.2.2.2.1) (u.2.2.2.2.2.2.2.2.2.2.2.1) (u.2.2.2.2.2.2.2.2.2.2.2.2)) ({ frames := 6, cells := 0, slots := 0, locals := 128 } : Room) below args s A) (F0 m 25 ls []) := by
    intro kf
    induction kf with
    | zero => intro x_5 x_6 x_7 x_8 x_9 x_10 x_11 x_12 x_13 f_14 i15 i16 rf_14 H locs ls hk; exact absurd hk (Nat.not_lt_zero _)
    | succ kf ih25_18 =>
      intro x_5 x_6 x_7 x_8 x_9 x_10 x_11 x_12 x_13 f_14 i15 i16 rf_14 H locs ls hk25_18 hP hD hS hl
      refine lv_iload hx hb dX0_greatestPrice_25 (lv_at hl 5 rfl) ?_
      refine lv_iload_n hx hb dX0_greatestPrice_27 rfl (lv_at hl 1 rfl) ?_
      refine lv_icmp_gt (tgt := 75) hx hb dX0_greatestPrice_28 (by decide) (fun cb9 => ?_) (fun cb9 => ?_)
      · skip
        have c19 : n.toInt < x_7.toInt := zlti cb9 rfl rfl
        refine lv_iload_n hx hb dX0_greatestPrice_75 rfl (lv_at hl 2 rfl) ?_
        refine lv_if_eq (tgt := 84) hx hb dX0_greatestPrice_76 (by decide) (fun cb9 => ?_) (fun cb9 => ?_)
        · skip
          have c20 : mu.toInt = 0 := zeq cb9 rfl (by decide)
          have n21 : 0 ≤ mu.toInt := Int.le_trans (Int.le_refl _) (Int.le_of_eq c20.symm)
          have n22 : mu.toInt ≤ 0 := Int.le_trans (Int.le_of_eq c20) (Int.le_refl _)
          refine lv_iload_n hx hb dX0_greatestPrice_84 rfl (lv_at hl 3 rfl) ?_
          have hP : va_P g.1 vwCl (List.flatten [bFo g fo o lo od, bLaw g lo lc lz ll x_8 x_9 x_10 fc, bTown g o a pe wo tx ch jo tr dy sd f, bTown g od ad pe wo tx x_11 jo tr x_12 x_13 f_14]) H := hP
          have hD : va_D A (List.flatten [bFo g fo o lo od, bLaw g lo lc lz ll x_8 x_9 x_10 fc, bTown g o a pe wo tx ch jo tr dy sd f, bTown g od ad pe wo tx x_11 jo tr x_12 x_13 f_14]) := hD
          obtain ⟨hP, hD⟩ := zord (g := g) (Bs' := [bFo g fo o lo od, bTown g o a pe wo tx ch jo tr dy sd f, bLaw g lo lc lz ll x_8 x_9 x_10 fc, bTown g od ad pe wo tx x_11 jo tr x_12 x_13 f_14]) [0, 2, 1, 3] rfl rfl hP hD
          exact mret_i hx hb hr hlocks hS (Nat.le_of_ble_eq_true rfl) (Nat.le_of_ble_eq_true rfl) dX0_greatestPrice_85 (x_8, x_9, x_10, pe, wo, tx, x_11, jo, tr, x_12, x_13, f_14, x_5) rfl (show (0 ≤ pe.toInt ∧ pe.toInt ≤ 8) ∧ (0 ≤ wo.toInt ∧ wo.toInt ≤ 6) ∧ (zZ4 f_14) from ⟨b_pe, b_wo, rf_14⟩) hP hD
        · skip
          have c23 : ¬ mu.toInt = 0 := zne cb9 rfl (by decide)
          refine lv_iload hx hb dX0_greatestPrice_79 (lv_at hl 4 rfl) ?_
          refine lv_goto (tgt := 85) hx hb dX0_greatestPrice_81 (by decide) ?_
          have hP : va_P g.1 vwCl (List.flatten [bFo g fo o lo od, bLaw g lo lc lz ll x_8 x_9 x_10 fc, bTown g o a pe wo tx ch jo tr dy sd f, bTown g od ad pe wo tx x_11 jo tr x_12 x_13 f_14]) H := hP
          have hD : va_D A (List.flatten [bFo g fo o lo od, bLaw g lo lc lz ll x_8 x_9 x_10 fc, bTown g o a pe wo tx ch jo tr dy sd f, bTown g od ad pe wo tx x_11 jo tr x_12 x_13 f_14]) := hD
          obtain ⟨hP, hD⟩ := zord (g := g) (Bs' := [bFo g fo o lo od, bTown g o a pe wo tx ch jo tr dy sd f, bLaw g lo lc lz ll x_8 x_9 x_10 fc, bTown g od ad pe wo tx x_11 jo tr x_12 x_13 f_14]) [0, 2, 1, 3] rfl rfl hP hD
          exact mret_i hx hb hr hlocks hS (Nat.le_of_ble_eq_true rfl) (Nat.le_of_ble_eq_true rfl) dX0_greatestPrice_85 (x_8, x_9, x_10, pe, wo, tx, x_11, jo, tr, x_12, x_13, f_14, x_6) rfl (show (0 ≤ pe.toInt ∧ pe.toInt ≤ 8) ∧ (0 ≤ wo.toInt ∧ wo.toInt ≤ 6) ∧ (zZ4 f_14) from ⟨b_pe, b_wo, rf_14⟩) hP hD
      · skip
        have c24 : x_7.toInt ≤ n.toInt := zle (Int32.not_lt.mp cb9) rfl rfl
        have n25 : x_7.toInt ≤ 100 := Int.le_trans c24 b_n.2
        have n26 : 1 ≤ n.toInt := Int.le_trans i16.1 c24
        refine lv_aload_n hx hb dX0_greatestPrice_31 rfl (lv_at hl 0 rfl) ?_
        refine va_get (D := g.1) (ci := 0) (v := .ref od) (C := RX0) (T := TX0) (N := 3) hx hb hts izRX0 hown hK hP 0 rfl rfl 2 (by decide) (hts _ k25) (fun _ h9 => h9) rfl dX0_greatestPrice_32 ?_
        refine lv_aload_n hx hb dX0_greatestPrice_35 rfl (lv_at hl 0 rfl) ?_
        refine va_get (D := g.1) (ci := 0) (v := .ref lo) (C := RX0) (T := TX0) (N := 3) hx hb hts izRX0 hown hK hP 0 rfl rfl 1 (by decide) (hts _ k27) (fun _ h9 => h9) rfl dX0_greatestPrice_36 ?_
        refine lv_iconst (v := 0) hx hb dX0_greatestPrice_39 (by decide) ?_
        refine lv_null hx hb dX0_greatestPrice_40 ?_
        refine mcallV' (g := g) (q0 := 0) (ci := 7) (As := [.ref lo, .int 0, .null]) (rest := []) St hK hT hA hP hD hS hl.1 [3, 1] [0, 2] rfl rfl rfl (c_passDayN l g od ad pe wo tx x_11 jo tr x_12 x_13 f_14 lo lc lz ll x_8 x_9 x_10 fc 0 b_pe b_wo rf_14 b_lz) (cwV 3 hts (zgL (zl4 k160 k161 k162 k24) k154) rfl rfl rfl (by decide +kernel) ⟨Nat.le_of_ble_eq_true rfl, Nat.le_of_ble_eq_true rfl⟩) rfl rfl rfl rfl (Nat.le_of_ble_eq_true rfl) dX0_greatestPrice_41 ⟨(Nat.le_of_ble_eq_true rfl), (Nat.le_of_ble_eq_true rfl)⟩ (fun u_ H locs hq35 hP hD hS => ?_)
        obtain ⟨ch2_27, dy2_28, sd2_29, f2_30, lm2_31, lg2_32, ld2_33, q_34⟩ := u_
        replace hq35 : (zZ4 f2_30) := hq35
        have hP : va_P g.1 vwCl (List.flatten [bFo g fo o lo od, bTown g o a pe wo tx ch jo tr dy sd f, bTown g od ad pe wo tx ch2_27 jo tr dy2_28 sd2_29 f2_30, bLaw g lo lc lz ll lm2_31 lg2_32 ld2_33 fc]) H := hP
        have hD : va_D A (List.flatten [bFo g fo o lo od, bTown g o a pe wo tx ch jo tr dy sd f, bTown g od ad pe wo tx ch2_27 jo tr dy2_28 sd2_29 f2_30, bLaw g lo lc lz ll lm2_31 lg2_32 ld2_33 fc]) := hD
        refine W.widen (k := 0) (n := 0) (Nat.le_of_ble_eq_true rfl) (Nat.le_of_ble_eq_true rfl) ?_
        refine W.eq (g2 := F0 m 44 ls [.int q_34]) rfl ?_
        have rf2_30 := hq35; clear hq35
        refine lv_pop hx hb dX0_greatestPrice_44 rfl ?_
        refine lv_aload_n hx hb dX0_greatestPrice_45 rfl (lv_at hl 0 rfl) ?_
        refine va_get (D := g.1) (ci := 0) (v := .ref od) (C := RX0) (T := TX0) (N := 3) hx hb hts izRX0 hown hK hP 0 rfl rfl 2 (by decide) (hts _ k25) (fun _ h9 => h9) rfl dX0_greatestPrice_46 ?_
        refine mcallV' (g := g) (q0 := 0) (ci := 7) (As := []) (rest := []) St hK hT hA hP hD hS hl.1 [2] [0, 1, 3] rfl rfl rfl (c_sharePrice l g od ad pe wo tx ch2_27 jo tr dy2_28 sd2_29 f2_30 b_pe b_wo rf2_30) (cwV 0 hts (zgL (zl4 k187 k188 k189 k24) k186) rfl rfl rfl (by decide +kernel) ⟨Nat.le_of_ble_eq_true rfl, Nat.le_of_ble_eq_true rfl⟩) rfl rfl rfl rfl (Nat.le_of_ble_eq_true rfl) dX0_greatestPrice_49 ⟨(Nat.le_of_ble_eq_true rfl), (Nat.le_of_ble_eq_true rfl)⟩ (fun q_36 H locs hq37 hP hD hS => ?_)
        have hP : va_P g.1 vwCl (List.flatten [bFo g fo o lo od, bTown g o a pe wo tx ch jo tr dy sd f, bLaw g lo lc lz ll lm2_31 lg2_32 ld2_33 fc, bTown g od ad pe wo tx ch2_27 jo tr dy2_28 sd2_29 f2_30]) H := hP
        have hD : va_D A (List.flatten [bFo g fo o lo od, bTown g o a pe wo tx ch jo tr dy sd f, bLaw g lo lc lz ll lm2_31 lg2_32 ld2_33 fc, bTown g od ad pe wo tx ch2_27 jo tr dy2_28 sd2_29 f2_30]) := hD
        refine W.widen (k := 0) (n := 0) (Nat.le_of_ble_eq_true rfl) (Nat.le_of_ble_eq_true rfl) ?_
        refine W.eq (g2 := F0 m 52 ls [.int q_36]) rfl ?_
        refine lv_iload hx hb dX0_greatestPrice_52 (lv_at hl 4 rfl) ?_
        refine lv_icmp_le (tgt := 69) hx hb dX0_greatestPrice_54 (by decide) (fun cb9 => ?_) (fun cb9 => ?_)
        · skip
          have c38 : q_36.toInt ≤ x_6.toInt := zle cb9 rfl rfl
          refine ziinc3 (n' := 1) (a' := 2) (b' := 101) (lv' := fun v9 => [(5, .int v9), (0, .ref fo), (1, .int n), (2, .int mu), (3, .int x_5), (4, .int x_6)]) hx hb dX0_greatestPrice_69 hl (k := 5) rfl (by decide) (fun _ => rfl) (zaddK (i := x_7.toInt) (j := 1) rfl (by decide) i16.1 n25 (Int.le_refl _) (Int.le_refl _) (by decide)) (fun x_39 ls hx_39 hl => ?_)
          refine lv_goto (tgt := 25) hx hb dX0_greatestPrice_72 (by decide) ?_
          have hl := lv_sub (l' := [(0, .ref fo), (1, .int n), (2, .int mu), (3, .int x_5), (4, .int x_6), (5, .int x_39)]) hl [1, 2, 3, 4, 5, 0] rfl
          have hP : va_P g.1 vwCl (List.flatten [bFo g fo o lo od, bTown g o a pe wo tx ch jo tr dy sd f, bLaw g lo lc lz ll lm2_31 lg2_32 ld2_33 fc, bTown g od ad pe wo tx ch2_27 jo tr dy2_28 sd2_29 f2_30]) H := hP
          have hD : va_D A (List.flatten [bFo g fo o lo od, bTown g o a pe wo tx ch jo tr dy sd f, bLaw g lo lc lz ll lm2_31 lg2_32 ld2_33 fc, bTown g od ad pe wo tx ch2_27 jo tr dy2_28 sd2_29 f2_30]) := hD
          obtain ⟨hP, hD⟩ := zord (g := g) (Bs' := [bFo g fo o lo od, bLaw g lo lc lz ll lm2_31 lg2_32 ld2_33 fc, bTown g o a pe wo tx ch jo tr dy sd f, bTown g od ad pe wo tx ch2_27 jo tr dy2_28 sd2_29 f2_30]) [0, 2, 1, 3] rfl rfl hP hD
          have hP : va_P g.1 vwCl (List.flatten [bFo g fo o lo od, bLaw g lo lc lz ll lm2_31 lg2_32 ld2_33 fc, bTown g o a pe wo tx ch jo tr dy sd f, bTown g od ad pe wo tx ch2_27 jo tr dy2_28 sd2_29 f2_30]) H := hP
          have hD : va_D A (List.flatten [bFo g fo o lo od, bLaw g lo lc lz ll lm2_31 lg2_32 ld2_33 fc, bTown g o a pe wo tx ch jo tr dy sd f, bTown g od ad pe wo tx ch2_27 jo tr dy2_28 sd2_29 f2_30]) := hD
          exact ih25_18 x_5 x_6 x_39 lm2_31 lg2_32 ld2_33 ch2_27 dy2_28 sd2_29 f2_30 ⟨i15.1, i15.2⟩ ⟨(Int.le_trans (by decide) hx_39.2.1), hx_39.2.2⟩ rf2_30 H _ ls (zmK hx_39.1 (by decide) n25 (by decide) hk25_18)  hP hD hS (lv_sub hl [0, 1, 2, 3, 4, 5] rfl)
        · skip
          have c40 : x_6.toInt < q_36.toInt := zlti (Int32.not_le.mp cb9) rfl rfl
          refine lv_aload_n hx hb dX0_greatestPrice_57 rfl (lv_at hl 0 rfl) ?_
          refine va_get (D := g.1) (ci := 0) (v := .ref od) (C := RX0) (T := TX0) (N := 3) hx hb hts izRX0 hown hK hP 0 rfl rfl 2 (by decide) (hts _ k25) (fun _ h9 => h9) rfl dX0_greatestPrice_58 ?_
          refine mcallV' (g := g) (q0 := 0) (ci := 7) (As := []) (rest := []) St hK hT hA hP hD hS hl.1 [3] [0, 1, 2] rfl rfl rfl (c_sharePrice l g od ad pe wo tx ch2_27 jo tr dy2_28 sd2_29 f2_30 b_pe b_wo rf2_30) (cwV 0 hts (zgL (zl4 k187 k188 k189 k24) k186) rfl rfl rfl (by decide +kernel) ⟨Nat.le_of_ble_eq_true rfl, Nat.le_of_ble_eq_true rfl⟩) rfl rfl rfl rfl (Nat.le_of_ble_eq_true rfl) dX0_greatestPrice_61 ⟨(Nat.le_of_ble_eq_true rfl), (Nat.le_of_ble_eq_true rfl)⟩ (fun q_41 H locs hq42 hP hD hS => ?_)
          have hP : va_P g.1 vwCl (List.flatten [bFo g fo o lo od, bTown g o a pe wo tx ch jo tr dy sd f, bLaw g lo lc lz ll lm2_31 lg2_32 ld2_33 fc, bTown g od ad pe wo tx ch2_27 jo tr dy2_28 sd2_29 f2_30]) H := hP
          have hD : va_D A (List.flatten [bFo g fo o lo od, bTown g o a pe wo tx ch jo tr dy sd f, bLaw g lo lc lz ll lm2_31 lg2_32 ld2_33 fc, bTown g od ad pe wo tx ch2_27 jo tr dy2_28 sd2_29 f2_30]) := hD
          refine W.widen (k := 0) (n := 0) (Nat.le_of_ble_eq_true rfl) (Nat.le_of_ble_eq_true rfl) ?_
          refine W.eq (g2 := F0 m 64 ls [.int q_41]) rfl ?_
          refine lv_istore (lv' := [(4, .int q_41), (0, .ref fo), (1, .int n), (2, .int mu), (3, .int x_5), (5, .int x_7)]) hx hb dX0_greatestPrice_64 hl (by decide) rfl (fun ls hl => ?_)
          refine lv_iload hx hb dX0_greatestPrice_66 (lv_at hl 5 rfl) ?_
          refine lv_istore_n (lv' := [(3, .int x_7), (4, .int q_41), (0, .ref fo), (1, .int n), (2, .int mu), (5, .int x_7)]) hx hb dX0_greatestPrice_68 rfl hl (by decide) rfl (fun ls hl => ?_)
          refine ziinc3 (n' := 1) (a' := 2) (b' := 101) (lv' := fun v9 => [(5, .int v9), (3, .int x_7), (4, .int q_41), (0, .ref fo), (1, .int n), (2, .int mu)]) hx hb dX0_greatestPrice_69 hl (k := 5) rfl (by decide) (fun _ => rfl) (zaddK (i := x_7.toInt) (j := 1) rfl (by decide) i16.1 n25 (Int.le_refl _) (Int.le_refl _) (by decide)) (fun x_43 ls hx_43 hl => ?_)
          refine lv_goto (tgt := 25) hx hb dX0_greatestPrice_72 (by decide) ?_
          have hl := lv_sub (l' := [(0, .ref fo), (1, .int n), (2, .int mu), (3, .int x_7), (4, .int q_41), (5, .int x_43)]) hl [3, 4, 5, 1, 2, 0] rfl
          have hP : va_P g.1 vwCl (List.flatten [bFo g fo o lo od, bTown g o a pe wo tx ch jo tr dy sd f, bLaw g lo lc lz ll lm2_31 lg2_32 ld2_33 fc, bTown g od ad pe wo tx ch2_27 jo tr dy2_28 sd2_29 f2_30]) H := hP
          have hD : va_D A (List.flatten [bFo g fo o lo od, bTown g o a pe wo tx ch jo tr dy sd f, bLaw g lo lc lz ll lm2_31 lg2_32 ld2_33 fc, bTown g od ad pe wo tx ch2_27 jo tr dy2_28 sd2_29 f2_30]) := hD
          obtain ⟨hP, hD⟩ := zord (g := g) (Bs' := [bFo g fo o lo od, bLaw g lo lc lz ll lm2_31 lg2_32 ld2_33 fc, bTown g o a pe wo tx ch jo tr dy sd f, bTown g od ad pe wo tx ch2_27 jo tr dy2_28 sd2_29 f2_30]) [0, 2, 1, 3] rfl rfl hP hD
          have hP : va_P g.1 vwCl (List.flatten [bFo g fo o lo od, bLaw g lo lc lz ll lm2_31 lg2_32 ld2_33 fc, bTown g o a pe wo tx ch jo tr dy sd f, bTown g od ad pe wo tx ch2_27 jo tr dy2_28 sd2_29 f2_30]) H := hP
          have hD : va_D A (List.flatten [bFo g fo o lo od, bLaw g lo lc lz ll lm2_31 lg2_32 ld2_33 fc, bTown g o a pe wo tx ch jo tr dy sd f, bTown g od ad pe wo tx ch2_27 jo tr dy2_28 sd2_29 f2_30]) := hD
          exact ih25_18 x_7 q_41 x_43 lm2_31 lg2_32 ld2_33 ch2_27 dy2_28 sd2_29 f2_30 ⟨(Int.le_trans (by decide) i16.1), n25⟩ ⟨(Int.le_trans (by decide) hx_43.2.1), hx_43.2.2⟩ rf2_30 H _ ls (zmK hx_43.1 (by decide) n25 (by decide) hk25_18)  hP hD hS (lv_sub hl [0, 1, 2, 3, 4, 5] rfl)
  have hP : va_P g.1 vwCl (List.flatten [bFo g fo o lo od, bLaw g lo lc lz ll lm lg ld fc, bTown g o a pe wo tx ch jo tr dy sd f, bTown g od ad pe wo tx ch jo tr dy sd h_1]) H := hP
  have hD : va_D A (List.flatten [bFo g fo o lo od, bLaw g lo lc lz ll lm lg ld fc, bTown g o a pe wo tx ch jo tr dy sd f, bTown g od ad pe wo tx ch jo tr dy sd h_1]) := hD
  exact LP25_17 _ 0 q_3 1 lm lg ld ch dy sd h_1 (by decide) (by decide) rh_1 H _ ls (Nat.lt_succ_self _)  hP hD hS (lv_sub hl [0, 1, 2, 3, 4, 5] rfl)
set_option maxRecDepth 100000 in
set_option maxHeartbeats 4000000 in
theorem c_f_tryOut (l : Launch) (g : zG) (fo : Nat) (o : Nat) (lo : Nat) (od : Nat) (a : Nat → Nat) (pe : Int32) (wo : Int32) (tx : Int32) (ch : Int32) (jo : Int32) (tr : Int32) (dy : Int32) (sd : Int32) (f : Nat → Nat → Int32) (lc : Nat) (lz : Int32) (ll : Int32) (lm : Int32) (lg : Int32) (ld : Int32) (fc : Nat → Int32) (ad : Nat → Nat) (ped : Int32) (wod : Int32) (txd : Int32) (chd : Int32) (jod : Int32) (trd : Int32) (dyd : Int32) (sdd : Int32) (fd : Nat → Nat → Int32) (se : Int32) (n : Int32) (b_pe : 0 ≤ pe.toInt ∧ pe.toInt ≤ 8) (b_wo : 0 ≤ wo.toInt ∧ wo.toInt ≤ 6) (rf : zZ4 f) (b_lz : 0 ≤ lz.toInt ∧ lz.toInt ≤ 400) (b_ped : 0 ≤ ped.toInt ∧ ped.toInt ≤ 8) (b_wod : 0 ≤ wod.toInt ∧ wod.toInt ≤ 6) (rfd : zZ4 fd) (b_n : 0 ≤ n.toInt ∧ n.toInt ≤ 100) : zM' g l yX0_tryOut (Cond.code yX0_tryOut cX0_tryOut 4 (some .int) :: zB) ({ frames := 6, cells := 0, slots := 0, locals := 128 } : Room) [.ref fo, .int se, .int n] [bFo g fo o lo od, bTown g o a pe wo tx ch jo tr dy sd f, bLaw g lo lc lz ll lm lg ld fc, bTown g od ad ped wod txd chd jod trd dyd sdd fd] (fun u : Int32 × Int32 × Int32 × Int32 × Int32 × Int32 × Int32 × Int32 × Int32 × Int32 × Int32 × (Nat → Nat → Int32) × Int32 => (fun (lm2 : Int32) (lg2 : Int32) (ld2 : Int32) (pe3 : Int32) (wo3 : Int32) (tx3 : Int32) (ch3 : Int32) (jo3 : Int32) (tr3 : Int32) (dy3 : Int32) (sd3 : Int32) (f3 : Nat → Nat → Int32) (q : Int32) => some (.int q)) (u.1) (u.2.1) (u.2.2.1) (u.2.2.2.1) (u.2.2.2.2.1) (u.2.2.2.2.2.1) (u.2.2.2.2.2.2.1) (u.2.2.2.2.2.2.2.1) (u.2.2.2.2.2.2.2.2.1) (u.2.2.2.2.2.2.2.2.2.1) (u.2.2.2.2.2.2.2.2.2.2.1) (u.2.2.2.2.2.2.2.2.2.2.2.1) (u.2.2.2.2.2.2.2.2.2.2.2.2)) (fun u : Int32 × Int32 × Int32 × Int32 × Int32 × Int32 × Int32 × Int32 × Int32 × Int32 × Int32 × (Nat → Nat → Int32) × Int32 => (fun (lm2 : Int32) (lg2 : Int32) (ld2 : Int32) (pe3 : Int32) (wo3 : Int32) (tx3 : Int32) (ch3 : Int32) (jo3 : Int32) (tr3 : Int32) (dy3 : Int32) (sd3 : Int32) (f3 : Nat → Nat → Int32) (q : Int32) => (0 ≤ pe3.toInt ∧ pe3.toInt ≤ 8) ∧ (0 ≤ wo3.toInt ∧ wo3.toInt ≤ 6) ∧ (zZ4 f3)) (u.1) (u.2.1) (u.2.2.1) (u.2.2.2.1) (u.2.2.2.2.1) (u.2.2.2.2.2.1) (u.2.2.2.2.2.2.1) (u.2.2.2.2.2.2.2.1) (u.2.2.2.2.2.2.2.2.1) (u.2.2.2.2.2.2.2.2.2.1) (u.2.2.2.2.2.2.2.2.2.2.1) (u.2.2.2.2.2.2.2.2.2.2.2.1) (u.2.2.2.2.2.2.2.2.2.2.2.2)) (fun u : Int32 × Int32 × Int32 × Int32 × Int32 × Int32 × Int32 × Int32 × Int32 × Int32 × Int32 × (Nat → Nat → Int32) × Int32 => (fun (lm2 : Int32) (lg2 : Int32) (ld2 : Int32) (pe3 : Int32) (wo3 : Int32) (tx3 : Int32) (ch3 : Int32) (jo3 : Int32) (tr3 : Int32) (dy3 : Int32) (sd3 : Int32) (f3 : Nat → Nat → Int32) (q : Int32) => [bFo g fo o lo od, bTown g o a pe wo tx ch jo tr dy sd f, bLaw g lo lc lz ll lm2 lg2 ld2 fc, bTown g od ad pe3 wo3 tx3 ch3 jo3 tr3 dy3 sd3 f3]) (u.1) (u.2.1) (u.2.2.1) (u.2.2.2.1) (u.2.2.2.2.1) (u.2.2.2.2.2.1) (u.2.2.2.2.2.2.1) (u.2.2.2.2.2.2.2.1) (u.2.2.2.2.2.2.2.2.1) (u.2.2.2.2.2.2.2.2.2.1) (u.2.2.2.2.2.2.2.2.2.2.1) (u.2.2.2.2.2.2.2.2.2.2.2.1) (u.2.2.2.2.2.2.2.2.2.2.2.2)) := by
  refine zM'.of (cc := cX0_tryOut) (maxL := 4) (rt := (some .int)) (by decide) rfl (Nat.le_of_ble_eq_true rfl) ?_
  intro p e s m args below meth c A ls St hr hlocks hin hK hT hA hP hD hS hl
  obtain ⟨hx, hb, hml, hown, hts⟩ := id St
  have hl : lv_has ls 4 [(0, .ref fo), (1, .int se), (2, .int n)] := hl
  refine lv_aload_n hx hb dX0_tryOut_0 rfl (lv_at hl 0 rfl) ?_
  refine va_get (D := g.1) (ci := 0) (v := .ref od) (C := RX0) (T := TX0) (N := 3) hx hb hts izRX0 hown hK hP 0 rfl rfl 2 (by decide) (hts _ k25) (fun _ h9 => h9) rfl dX0_tryOut_1 ?_
  refine lv_aload_n hx hb dX0_tryOut_4 rfl (lv_at hl 0 rfl) ?_
  refine va_get (D := g.1) (ci := 0) (v := .ref o) (C := RX0) (T := TX0) (N := 3) hx hb hts izRX0 hown hK hP 0 rfl rfl 0 (by decide) (hts _ k26) (fun _ h9 => h9) rfl dX0_tryOut_5 ?_
  refine mcallV' (g := g) (q0 := 0) (ci := 7) (As := [.ref o]) (rest := []) St hK hT hA hP hD hS hl.1 [3, 1] [0, 2] rfl rfl rfl (c_copyFrom l g od ad ped wod txd chd jod trd dyd sdd fd o a pe wo tx ch jo tr dy sd f b_pe b_wo rf) (cwV 1 hts (zgL (zl4 k156 k157 k158 k24) k30) rfl rfl rfl (by decide +kernel) ⟨Nat.le_of_ble_eq_true rfl, Nat.le_of_ble_eq_true rfl⟩) rfl rfl rfl rfl (Nat.le_of_ble_eq_true rfl) dX0_tryOut_8 ⟨(Nat.le_of_ble_eq_true rfl), (Nat.le_of_ble_eq_true rfl)⟩ (fun h_1 H locs hq2 hP hD hS => ?_)
  replace hq2 : (zZ4 h_1) := hq2
  have hP : va_P g.1 vwCl (List.flatten [bFo g fo o lo od, bLaw g lo lc lz ll lm lg ld fc, bTown g od ad pe wo tx ch jo tr dy sd h_1, bTown g o a pe wo tx ch jo tr dy sd f]) H := hP
  have hD : va_D A (List.flatten [bFo g fo o lo od, bLaw g lo lc lz ll lm lg ld fc, bTown g od ad pe wo tx ch jo tr dy sd h_1, bTown g o a pe wo tx ch jo tr dy sd f]) := hD
  refine W.widen (k := 0) (n := 0) (Nat.le_of_ble_eq_true rfl) (Nat.le_of_ble_eq_true rfl) ?_
  refine W.eq (g2 := F0 m 11 ls []) rfl ?_
  have rh_1 := hq2; clear hq2
  refine lv_aload_n hx hb dX0_tryOut_11 rfl (lv_at hl 0 rfl) ?_
  refine va_get (D := g.1) (ci := 0) (v := .ref od) (C := RX0) (T := TX0) (N := 3) hx hb hts izRX0 hown hK hP 0 rfl rfl 2 (by decide) (hts _ k25) (fun _ h9 => h9) rfl dX0_tryOut_12 ?_
  refine lv_iload_n hx hb dX0_tryOut_15 rfl (lv_at hl 1 rfl) ?_
  refine va_put (D := g.1) (ci := 7) (v := .int se) (ty := .int) (C := RX9) (T := TX9) (N := 19) hx hb hts izRX9 tyX9 tyX9_ok nmX9 hown hK hP hD hS 3 rfl rfl 7 (by decide) (hts _ k191) (fun _ h9 => h9) rfl (by decide +kernel) rfl rfl (Nat.le_of_ble_eq_true rfl) dX0_tryOut_16 (fun H locs hP hD hS => ?_)
  have hP : va_P g.1 vwCl (List.flatten [bFo g fo o lo od, bLaw g lo lc lz ll lm lg ld fc, bTown g od ad pe wo tx ch jo tr dy se h_1, bTown g o a pe wo tx ch jo tr dy sd f]) H := hP
  have hD : va_D A (List.flatten [bFo g fo o lo od, bLaw g lo lc lz ll lm lg ld fc, bTown g od ad pe wo tx ch jo tr dy se h_1, bTown g o a pe wo tx ch jo tr dy sd f]) := hD
  refine lv_iconst (v := 0) hx hb dX0_tryOut_19 (by decide) ?_
  refine lv_istore_n (lv' := [(3, .int 0), (0, .ref fo), (1, .int se), (2, .int n)]) hx hb dX0_tryOut_20 rfl hl (by decide) rfl (fun ls hl => ?_)
  have hl := lv_sub (l' := [(0, .ref fo), (1, .int se), (2, .int n), (3, .int 0)]) hl [1, 2, 3, 0] rfl
  have LP21_12 : ∀ (kf : Nat) (x_3 : Int32) (x_4 : Int32) (x_5 : Int32) (x_6 : Int32) (x_7 : Int32) (x_8 : Int32) (x_9 : Int32) (f_10 : Nat → Nat → Int32), (0 ≤ x_3.toInt ∧ x_3.toInt ≤ 100) → (zZ4 f_10) → ∀ (H : Heap) (locs : List Loc) (ls : Array Slot), ((101 - x_3.toInt).toNat) < kf → va_P g.1 vwCl (List.flatten [bFo g fo o lo od, bLaw g lo lc lz ll x_4 x_5 x_6 fc, bTown g od ad pe wo tx x_7 jo tr x_8 x_9 f_10, bTown g o a pe wo tx ch jo tr dy sd f]) H → va_D A (List.flatten [bFo g fo o lo od, bLaw g lo lc lz ll x_4 x_5 x_6 fc, bTown g od ad pe wo tx x_7 jo tr x_8 x_9 f_10, bTown g o a pe wo tx ch jo tr dy sd f]) → va_S A s.heap H locs → lv_has ls 4 [(0, .ref fo), (1, .int se), (2, .int n), (3, .int x_3)] → W p l e ({ frames := 6, cells := 0, slots := 0, locals := 128 } : Room) s m args below meth c H locs (0) (0) (zF g (fun u : Int32 × Int32 × Int32 × Int32 × Int32 × Int32 × Int32 × Int32 × Int32 × Int32 × Int32 × (Nat → Nat → Int32) × Int32 => (fun (lm2 : Int32) (lg2 : Int32) (ld2 : Int32) (pe3 : Int32) (wo3 : Int32) (tx3 : Int32) (ch3 : Int32) (jo3 : Int32) (tr3 : Int32) (dy3 : Int32) (sd3 : Int32) (f3 : Nat → Nat → Int32) (q : Int32) => some (.int q)) (u.1) (u.2.1) (u.2.2.1) (u.2.2.2.1) (u.2.2.2.2.1) (u.2.2.2.2.2.1) (u.2.2.2.2.2.2.1) (u.2.2.2.2.2.2.2.1) (u.2.2.2.2.2.2.2.2.1) (u.2.2.2.2.2.2.2.2.2.1) (u.2.2.2.2.2.2.2.2.2.2.1) (u.2.2.2.2.2.2.2.2.2.2.2.1) (u.2.2.2.2.2.2.2.2.2.2.2.2)) (fun u : Int32 × Int32 × Int32 × Int32 × Int32 × Int32 × Int32 × Int32 × Int32 × Int32 × Int32 × (Nat → Nat → Int32) × Int32 => (fun (lm2 : Int32) (lg2 : Int32) (ld2 : Int32) (pe3 : Int32) (wo3 : Int32) (tx3 : Int32) (ch3 : Int32) (jo3 : Int32) (tr3 : Int32) (dy3 : Int32) (sd3 : Int32) (f3 : Nat → Nat → Int32) (q : Int32) => (0 ≤ pe3.toInt ∧ pe3.toInt ≤ 8) ∧ (0 ≤ wo3.toInt ∧ wo3.toInt ≤ 6) ∧ (zZ4 f3)) (u.1) (u.2.1) (u.2.2.1) (u.2.2.2.1) (u.2.2.2.2.1) (u.2.2.2.2.2.1) (u.2.2.2.2.2.2.1) (u.2.2.2.2.2.2.2.1) (u.2.2.2.2.2.2.2.2.1) (u.2.2.2.2.2.2.2.2.2.1) (u.2.2.2.2.2.2.2.2.2.2.1) (u.2.2.2.2.2.2.2.2.2.2.2.1) (u.2.2.2.2.2.2.2.2.2.2.2.2)) (fun u : Int32 × Int32 × Int32 × Int32 × Int32 × Int32 × Int32 × Int32 × Int32 × Int32 × Int32 × (Nat → Nat → Int32) × Int32 => (fun (lm2 : Int32) (lg2 : Int32) (ld2 : Int32) (pe3 : Int32) (wo3 : Int32) (tx3 : Int32) (ch3 : Int32) (jo3 : Int32) (tr3 : Int32) (dy3 : Int32) (sd3 : Int32) (f3 : Nat → Nat → Int32) (q : Int32) => [bFo g fo o lo od, bTown g o a pe wo tx ch jo tr dy sd f, bLaw g lo lc lz ll lm2 lg2 ld2 fc, bTown g od ad pe3 wo3 tx3 ch3 jo3 tr3 dy3 sd3 f3]) (u.1) (u.2.1) (u.2.2.1) (u.2.2.2.1) (u.2.2.2.2.1) (u.2.2.2.2.2.1) (u.2.2.2.2.2.2.1) (u.2.2.2.2.2.2.2.1) (u.2.2.2.2.2.2.2.2.1) (u.2.2.2.2.2.2.2.2.2.1) (u.2.2.2.2.2.2.2.2.2.2.1) (u.2.2.2.2.2.2.2.2.2.2.2.1) (u.2.2.2.2.2.2.2.2.2.2.2.2)) ({ frames := 6, cells := 0, slots := 0, locals := 128 } : Room) below args s A) (F0 m 21 ls []) := by
    intro kf
    induction kf with
    | zero => intro x_3 x_4 x_5 x_6 x_7 x_8 x_9 f_10 i11 rf_10 H locs ls hk; exact absurd hk (Nat.not_lt_zero _)
    | succ kf ih21_13 =>
      intro x_3 x_4 x_5 x_6 x_7 x_8 x_9 f_10 i11 rf_10 H locs ls hk21_13 hP hD hS hl
      refine lv_iload_n hx hb dX0_tryOut_21 rfl (lv_at hl 3 rfl) ?_
      refine lv_iload_n hx hb dX0_tryOut_22 rfl (lv_at hl 2 rfl) ?_
      refine lv_icmp_ge (tgt := 46) hx hb dX0_tryOut_23 (by decide) (fun cb9 => ?_) (fun cb9 => ?_)
      · skip
        have c14 : n.toInt ≤ x_3.toInt := zle cb9 rfl rfl
        refine lv_aload_n hx hb dX0_tryOut_46 rfl (lv_at hl 0 rfl) ?_
        refine va_get (D := g.1) (ci := 0) (v := .ref od) (C := RX0) (T := TX0) (N := 3) hx hb hts izRX0 hown hK hP 0 rfl rfl 2 (by decide) (hts _ k25) (fun _ h9 => h9) rfl dX0_tryOut_47 ?_
        refine mcallV' (g := g) (q0 := 0) (ci := 7) (As := []) (rest := []) St hK hT hA hP hD hS hl.1 [2] [0, 1, 3] rfl rfl rfl (c_believed l g od ad pe wo tx x_7 jo tr x_8 x_9 f_10 b_pe b_wo rf_10) (cwV 0 hts (zgL (zl4 k163 k69 k70 k24) k60) rfl rfl rfl (by decide +kernel) ⟨Nat.le_of_ble_eq_true rfl, Nat.le_of_ble_eq_true rfl⟩) rfl rfl rfl rfl (Nat.le_of_ble_eq_true rfl) dX0_tryOut_50 ⟨(Nat.le_of_ble_eq_true rfl), (Nat.le_of_ble_eq_true rfl)⟩ (fun q_15 H locs hq16 hP hD hS => ?_)
        have hP : va_P g.1 vwCl (List.flatten [bFo g fo o lo od, bLaw g lo lc lz ll x_4 x_5 x_6 fc, bTown g o a pe wo tx ch jo tr dy sd f, bTown g od ad pe wo tx x_7 jo tr x_8 x_9 f_10]) H := hP
        have hD : va_D A (List.flatten [bFo g fo o lo od, bLaw g lo lc lz ll x_4 x_5 x_6 fc, bTown g o a pe wo tx ch jo tr dy sd f, bTown g od ad pe wo tx x_7 jo tr x_8 x_9 f_10]) := hD
        refine W.widen (k := 0) (n := 0) (Nat.le_of_ble_eq_true rfl) (Nat.le_of_ble_eq_true rfl) ?_
        refine W.eq (g2 := F0 m 53 ls [.int q_15]) rfl ?_
        have hP : va_P g.1 vwCl (List.flatten [bFo g fo o lo od, bLaw g lo lc lz ll x_4 x_5 x_6 fc, bTown g o a pe wo tx ch jo tr dy sd f, bTown g od ad pe wo tx x_7 jo tr x_8 x_9 f_10]) H := hP
        have hD : va_D A (List.flatten [bFo g fo o lo od, bLaw g lo lc lz ll x_4 x_5 x_6 fc, bTown g o a pe wo tx ch jo tr dy sd f, bTown g od ad pe wo tx x_7 jo tr x_8 x_9 f_10]) := hD
        obtain ⟨hP, hD⟩ := zord (g := g) (Bs' := [bFo g fo o lo od, bTown g o a pe wo tx ch jo tr dy sd f, bLaw g lo lc lz ll x_4 x_5 x_6 fc, bTown g od ad pe wo tx x_7 jo tr x_8 x_9 f_10]) [0, 2, 1, 3] rfl rfl hP hD
        exact mret_i hx hb hr hlocks hS (Nat.le_of_ble_eq_true rfl) (Nat.le_of_ble_eq_true rfl) dX0_tryOut_53 (x_4, x_5, x_6, pe, wo, tx, x_7, jo, tr, x_8, x_9, f_10, q_15) rfl (show (0 ≤ pe.toInt ∧ pe.toInt ≤ 8) ∧ (0 ≤ wo.toInt ∧ wo.toInt ≤ 6) ∧ (zZ4 f_10) from ⟨b_pe, b_wo, rf_10⟩) hP hD
      · skip
        have c17 : x_3.toInt < n.toInt := zlti (Int32.not_le.mp cb9) rfl rfl
        have n18 : x_3.toInt ≤ 99 := zL1 (b := 100) c17 b_n.2 (by decide)
        have n19 : 1 ≤ n.toInt := zL2 (a := 0) c17 i11.1 (by decide)
        refine lv_aload_n hx hb dX0_tryOut_26 rfl (lv_at hl 0 rfl) ?_
        refine va_get (D := g.1) (ci := 0) (v := .ref od) (C := RX0) (T := TX0) (N := 3) hx hb hts izRX0 hown hK hP 0 rfl rfl 2 (by decide) (hts _ k25) (fun _ h9 => h9) rfl dX0_tryOut_27 ?_
        refine lv_aload_n hx hb dX0_tryOut_30 rfl (lv_at hl 0 rfl) ?_
        refine va_get (D := g.1) (ci := 0) (v := .ref lo) (C := RX0) (T := TX0) (N := 3) hx hb hts izRX0 hown hK hP 0 rfl rfl 1 (by decide) (hts _ k27) (fun _ h9 => h9) rfl dX0_tryOut_31 ?_
        refine lv_iconst (v := 1) hx hb dX0_tryOut_34 (by decide) ?_
        refine lv_null hx hb dX0_tryOut_35 ?_
        refine mcallV' (g := g) (q0 := 0) (ci := 7) (As := [.ref lo, .int 1, .null]) (rest := []) St hK hT hA hP hD hS hl.1 [2, 1] [0, 3] rfl rfl rfl (c_passDayN l g od ad pe wo tx x_7 jo tr x_8 x_9 f_10 lo lc lz ll x_4 x_5 x_6 fc 1 b_pe b_wo rf_10 b_lz) (cwV 3 hts (zgL (zl4 k160 k161 k162 k24) k154) rfl rfl rfl (by decide +kernel) ⟨Nat.le_of_ble_eq_true rfl, Nat.le_of_ble_eq_true rfl⟩) rfl rfl rfl rfl (Nat.le_of_ble_eq_true rfl) dX0_tryOut_36 ⟨(Nat.le_of_ble_eq_true rfl), (Nat.le_of_ble_eq_true rfl)⟩ (fun u_ H locs hq28 hP hD hS => ?_)
        obtain ⟨ch2_20, dy2_21, sd2_22, f2_23, lm2_24, lg2_25, ld2_26, q_27⟩ := u_
        replace hq28 : (zZ4 f2_23) := hq28
        have hP : va_P g.1 vwCl (List.flatten [bFo g fo o lo od, bTown g o a pe wo tx ch jo tr dy sd f, bTown g od ad pe wo tx ch2_20 jo tr dy2_21 sd2_22 f2_23, bLaw g lo lc lz ll lm2_24 lg2_25 ld2_26 fc]) H := hP
        have hD : va_D A (List.flatten [bFo g fo o lo od, bTown g o a pe wo tx ch jo tr dy sd f, bTown g od ad pe wo tx ch2_20 jo tr dy2_21 sd2_22 f2_23, bLaw g lo lc lz ll lm2_24 lg2_25 ld2_26 fc]) := hD
        refine W.widen (k := 0) (n := 0) (Nat.le_of_ble_eq_true rfl) (Nat.le_of_ble_eq_true rfl) ?_
        refine W.eq (g2 := F0 m 39 ls [.int q_27]) rfl ?_
        have rf2_23 := hq28; clear hq28
        refine lv_pop hx hb dX0_tryOut_39 rfl ?_
        refine ziinc3 (n' := 1) (a' := 1) (b' := 100) (lv' := fun v9 => [(3, .int v9), (0, .ref fo), (1, .int se), (2, .int n)]) hx hb dX0_tryOut_40 hl (k := 3) rfl (by decide) (fun _ => rfl) (zaddK (i := x_3.toInt) (j := 1) rfl (by decide) i11.1 n18 (Int.le_refl _) (Int.le_refl _) (by decide)) (fun x_29 ls hx_29 hl => ?_)
        refine lv_goto (tgt := 21) hx hb dX0_tryOut_43 (by decide) ?_
        have hl := lv_sub (l' := [(0, .ref fo), (1, .int se), (2, .int n), (3, .int x_29)]) hl [1, 2, 3, 0] rfl
        have hP : va_P g.1 vwCl (List.flatten [bFo g fo o lo od, bTown g o a pe wo tx ch jo tr dy sd f, bTown g od ad pe wo tx ch2_20 jo tr dy2_21 sd2_22 f2_23, bLaw g lo lc lz ll lm2_24 lg2_25 ld2_26 fc]) H := hP
        have hD : va_D A (List.flatten [bFo g fo o lo od, bTown g o a pe wo tx ch jo tr dy sd f, bTown g od ad pe wo tx ch2_20 jo tr dy2_21 sd2_22 f2_23, bLaw g lo lc lz ll lm2_24 lg2_25 ld2_26 fc]) := hD
        obtain ⟨hP, hD⟩ := zord (g := g) (Bs' := [bFo g fo o lo od, bLaw g lo lc lz ll lm2_24 lg2_25 ld2_26 fc, bTown g od ad pe wo tx ch2_20 jo tr dy2_21 sd2_22 f2_23, bTown g o a pe wo tx ch jo tr dy sd f]) [0, 3, 2, 1] rfl rfl hP hD
        have hP : va_P g.1 vwCl (List.flatten [bFo g fo o lo od, bLaw g lo lc lz ll lm2_24 lg2_25 ld2_26 fc, bTown g od ad pe wo tx ch2_20 jo tr dy2_21 sd2_22 f2_23, bTown g o a pe wo tx ch jo tr dy sd f]) H := hP
        have hD : va_D A (List.flatten [bFo g fo o lo od, bLaw g lo lc lz ll lm2_24 lg2_25 ld2_26 fc, bTown g od ad pe wo tx ch2_20 jo tr dy2_21 sd2_22 f2_23, bTown g o a pe wo tx ch jo tr dy sd f]) := hD
        exact ih21_13 x_29 lm2_24 lg2_25 ld2_26 ch2_20 dy2_21 sd2_22 f2_23 ⟨(Int.le_trans (by decide) hx_29.2.1), hx_29.2.2⟩ rf2_23 H _ ls (zmK hx_29.1 (by decide) n18 (by decide) hk21_13)  hP hD hS (lv_sub hl [0, 1, 2, 3] rfl)
  have hP : va_P g.1 vwCl (List.flatten [bFo g fo o lo od, bLaw g lo lc lz ll lm lg ld fc, bTown g od ad pe wo tx ch jo tr dy se h_1, bTown g o a pe wo tx ch jo tr dy sd f]) H := hP
  have hD : va_D A (List.flatten [bFo g fo o lo od, bLaw g lo lc lz ll lm lg ld fc, bTown g od ad pe wo tx ch jo tr dy se h_1, bTown g o a pe wo tx ch jo tr dy sd f]) := hD
  exact LP21_12 _ 0 lm lg ld ch dy se h_1 (by decide) rh_1 H _ ls (Nat.lt_succ_self _)  hP hD hS (lv_sub hl [0, 1, 2, 3] rfl)
set_option maxRecDepth 100000 in
set_option maxHeartbeats 4000000 in
theorem c_f_utmostOfSeeds (l : Launch) (g : zG) (fo : Nat) (o : Nat) (lo : Nat) (od : Nat) (a : Nat → Nat) (pe : Int32) (wo : Int32) (tx : Int32) (ch : Int32) (jo : Int32) (tr : Int32) (dy : Int32) (sd : Int32) (f : Nat → Nat → Int32) (lc : Nat) (lz : Int32) (ll : Int32) (lm : Int32) (lg : Int32) (ld : Int32) (fc : Nat → Int32) (ad : Nat → Nat) (ped : Int32) (wod : Int32) (txd : Int32) (chd : Int32) (jod : Int32) (trd : Int32) (dyd : Int32) (sdd : Int32) (fd : Nat → Nat → Int32) (n : Int32) (mo9 : Int32) (b_pe : 0 ≤ pe.toInt ∧ pe.toInt ≤ 8) (b_wo : 0 ≤ wo.toInt ∧ wo.toInt ≤ 6) (rf : zZ4 f) (b_lz : 0 ≤ lz.toInt ∧ lz.toInt ≤ 400) (b_ped : 0 ≤ ped.toInt ∧ ped.toInt ≤ 8) (b_wod : 0 ≤ wod.toInt ∧ wod.toInt ≤ 6) (rfd : zZ4 fd) (b_n : 0 ≤ n.toInt ∧ n.toInt ≤ 100) : zM' g l yX0_utmostOfSeeds (Cond.code yX0_utmostOfSeeds cX0_utmostOfSeeds 6 (some .int) :: zB) ({ frames := 7, cells := 0, slots := 0, locals := 151 } : Room) [.ref fo, .int n, .int mo9] [bFo g fo o lo od, bTown g o a pe wo tx ch jo tr dy sd f, bLaw g lo lc lz ll lm lg ld fc, bTown g od ad ped wod txd chd jod trd dyd sdd fd] (fun u : Int32 × Int32 × Int32 × Int32 × Int32 × Int32 × Int32 × Int32 × Int32 × Int32 × Int32 × (Nat → Nat → Int32) × Int32 => (fun (lm2 : Int32) (lg2 : Int32) (ld2 : Int32) (pe3 : Int32) (wo3 : Int32) (tx3 : Int32) (ch3 : Int32) (jo3 : Int32) (tr3 : Int32) (dy3 : Int32) (sd3 : Int32) (f3 : Nat → Nat → Int32) (q : Int32) => some (.int q)) (u.1) (u.2.1) (u.2.2.1) (u.2.2.2.1) (u.2.2.2.2.1) (u.2.2.2.2.2.1) (u.2.2.2.2.2.2.1) (u.2.2.2.2.2.2.2.1) (u.2.2.2.2.2.2.2.2.1) (u.2.2.2.2.2.2.2.2.2.1) (u.2.2.2.2.2.2.2.2.2.2.1) (u.2.2.2.2.2.2.2.2.2.2.2.1) (u.2.2.2.2.2.2.2.2.2.2.2.2)) (fun u : Int32 × Int32 × Int32 × Int32 × Int32 × Int32 × Int32 × Int32 × Int32 × Int32 × Int32 × (Nat → Nat → Int32) × Int32 => (fun (lm2 : Int32) (lg2 : Int32) (ld2 : Int32) (pe3 : Int32) (wo3 : Int32) (tx3 : Int32) (ch3 : Int32) (jo3 : Int32) (tr3 : Int32) (dy3 : Int32) (sd3 : Int32) (f3 : Nat → Nat → Int32) (q : Int32) => (0 ≤ pe3.toInt ∧ pe3.toInt ≤ 8) ∧ (0 ≤ wo3.toInt ∧ wo3.toInt ≤ 6) ∧ (zZ4 f3)) (u.1) (u.2.1) (u.2.2.1) (u.2.2.2.1) (u.2.2.2.2.1) (u.2.2.2.2.2.1) (u.2.2.2.2.2.2.1) (u.2.2.2.2.2.2.2.1) (u.2.2.2.2.2.2.2.2.1) (u.2.2.2.2.2.2.2.2.2.1) (u.2.2.2.2.2.2.2.2.2.2.1) (u.2.2.2.2.2.2.2.2.2.2.2.1) (u.2.2.2.2.2.2.2.2.2.2.2.2)) (fun u : Int32 × Int32 × Int32 × Int32 × Int32 × Int32 × Int32 × Int32 × Int32 × Int32 × Int32 × (Nat → Nat → Int32) × Int32 => (fun (lm2 : Int32) (lg2 : Int32) (ld2 : Int32) (pe3 : Int32) (wo3 : Int32) (tx3 : Int32) (ch3 : Int32) (jo3 : Int32) (tr3 : Int32) (dy3 : Int32) (sd3 : Int32) (f3 : Nat → Nat → Int32) (q : Int32) => [bFo g fo o lo od, bTown g o a pe wo tx ch jo tr dy sd f, bLaw g lo lc lz ll lm2 lg2 ld2 fc, bTown g od ad pe3 wo3 tx3 ch3 jo3 tr3 dy3 sd3 f3]) (u.1) (u.2.1) (u.2.2.1) (u.2.2.2.1) (u.2.2.2.2.1) (u.2.2.2.2.2.1) (u.2.2.2.2.2.2.1) (u.2.2.2.2.2.2.2.1) (u.2.2.2.2.2.2.2.2.1) (u.2.2.2.2.2.2.2.2.2.1) (u.2.2.2.2.2.2.2.2.2.2.1) (u.2.2.2.2.2.2.2.2.2.2.2.1) (u.2.2.2.2.2.2.2.2.2.2.2.2)) := by
  refine zM'.of (cc := cX0_utmostOfSeeds) (maxL := 6) (rt := (some .int)) (by decide) rfl (Nat.le_of_ble_eq_true rfl) ?_
  intro p e s m args below meth c A ls St hr hlocks hin hK hT hA hP hD hS hl
  obtain ⟨hx, hb, hml, hown, hts⟩ := id St
  have hl : lv_has ls 6 [(0, .ref fo), (1, .int n), (2, .int mo9)] := hl
  refine lv_iconst (v := (-1)) hx hb dX0_utmostOfSeeds_0 (by decide) ?_
  refine lv_istore_n (lv' := [(3, .int (-1)), (0, .ref fo), (1, .int n), (2, .int mo9)]) hx hb dX0_utmostOfSeeds_1 rfl hl (by decide) rfl (fun ls hl => ?_)
  refine lv_iconst (v := 1) hx hb dX0_utmostOfSeeds_2 (by decide) ?_
  refine lv_istore (lv' := [(4, .int 1), (3, .int (-1)), (0, .ref fo), (1, .int n), (2, .int mo9)]) hx hb dX0_utmostOfSeeds_3 hl (by decide) rfl (fun ls hl => ?_)
  have hl := lv_sub (l' := [(0, .ref fo), (1, .int n), (2, .int mo9), (3, .int (-1)), (4, .int 1)]) hl [2, 3, 4, 1, 0] rfl
  have LP5_18 : ∀ (kf : Nat) (x_1 : Int32) (x_2 : Int32) (x_3 : Int32) (x_4 : Int32) (x_5 : Int32) (x_6 : Int32) (x_7 : Int32) (x_8 : Int32) (x_9 : Int32) (x_10 : Int32) (x_11 : Int32) (x_12 : Int32) (x_13 : Int32) (f_14 : Nat → Nat → Int32), (1 ≤ x_2.toInt ∧ x_2.toInt ≤ 7) → (0 ≤ x_6.toInt ∧ x_6.toInt ≤ 8) → (0 ≤ x_7.toInt ∧ x_7.toInt ≤ 6) → (zZ4 f_14) → ∀ (H : Heap) (locs : List Loc) (ls : Array Slot), ((8 - x_2.toInt).toNat) < kf → va_P g.1 vwCl (List.flatten [bFo g fo o lo od, bTown g o a pe wo tx ch jo tr dy sd f, bLaw g lo lc lz ll x_3 x_4 x_5 fc, bTown g od ad x_6 x_7 x_8 x_9 x_10 x_11 x_12 x_13 f_14]) H → va_D A (List.flatten [bFo g fo o lo od, bTown g o a pe wo tx ch jo tr dy sd f, bLaw g lo lc lz ll x_3 x_4 x_5 fc, bTown g od ad x_6 x_7 x_8 x_9 x_10 x_11 x_12 x_13 f_14]) → va_S A s.heap H locs → lv_has ls 6 [(0, .ref fo), (1, .int n), (2, .int mo9), (3, .int x_1), (4, .int x_2)] → W p l e ({ frames := 7, cells := 0, slots := 0, locals := 151 } : Room) s m args below meth c H locs (0) (0) (zF g (fun u : Int32 × Int32 × Int32 × Int32 × Int32 × Int32 × Int32 × Int32 × Int32 × Int32 × Int32 × (Nat → Nat → Int32) × Int32 => (fun (lm2 : Int32) (lg2 : Int32) (ld2 : Int32) (pe3 : Int32) (wo3 : Int32) (tx3 : Int32) (ch3 : Int32) (jo3 : Int32) (tr3 : Int32) (dy3 : Int32) (sd3 : Int32) (f3 : Nat → Nat → Int32) (q : Int32) => some (.int q)) (u.1) (u.2.1) (u.2.2.1) (u.2.2.2.1) (u.2.2.2.2.1) (u.2.2.2.2.2.1) (u.2.2.2.2.2.2.1) (u.2.2.2.2.2.2.2.1) (u.2.2.2.2.2.2.2.2.1) (u.2.2.2.2.2.2.2.2.2.1) (u.2.2.2.2.2.2.2.2.2.2.1) (u.2.2.2.2.2.2.2.2.2.2.2.1) (u.2.2.2.2.2.2.2.2.2.2.2.2)) (fun u : Int32 × Int32 × Int32 × Int32 × Int32 × Int32 × Int32 × Int32 × Int32 × Int32 × Int32 × (Nat → Nat → Int32) × Int32 => (fun (lm2 : Int32) (lg2 : Int32) (ld2 : Int32) (pe3 : Int32) (wo3 : Int32) (tx3 : Int32) (ch3 : Int32) (jo3 : Int32) (tr3 : Int32) (dy3 : Int32) (sd3 : Int32) (f3 : Nat → Nat → Int32) (q : Int32) => (0 ≤ pe3.toInt ∧ pe3.toInt ≤ 8) ∧ (0 ≤ wo3.toInt ∧ wo3.toInt ≤ 6) ∧ (zZ4 f3)) (u.1) (u.2.1) (u.2.2.1) (u.2.2.2.1) (u.2.2.2.2.1) (u.2.2.2.2.2.1) (u.2.2.2.2.2.2.1) (u.2.2.2.2.2.2.2.1) (u.2.2.2.2.2.2.2.2.1) (u.2.2.2.2.2.2.2.2.2.1) (u.2.2.2.2.2.2.2.2.2.2.1) (u.2.2.2.2.2.2.2.2.2.2.2.1) (u.2.2.2.2.2.2.2.2.2.2.2.2)) (fun u : Int32 × Int32 × Int32 × Int32 × Int32 × Int32 × Int32 × Int32 × Int32 × Int32 × Int32 × (Nat → Nat → Int32) × Int32 => (fun (lm2 : Int32) (lg2 : Int32) (ld2 : Int32) (pe3 : Int32) (wo3 : Int32) (tx3 : Int32) (ch3 : Int32) (jo3 : Int32) (tr3 : Int32) (dy3 : Int32) (sd3 : Int32) (f3 : Nat → Nat → Int32) (q : Int32) => [bFo g fo o lo od, bTown g o a pe wo tx ch jo tr dy sd f, bLaw g lo lc lz ll lm2 lg2 ld2 fc, bTown g od ad pe3 wo3 tx3 ch3 jo3 tr3 dy3 sd3 f3]) (u.1) (u.2.1) (u.2.2.1) (u.2.2.2.1) (u.2.2.2.2.1) (u.2.2.2.2.2.1) (u.2.2.2.2.2.2.1) (u.2.2.2.2.2.2.2.1) (u.2.2.2.2.2.2.2.2.1) (u.2.2.2.2.2.2.2.2.2.1) (u.2.2.2.2.2.2.2.2.2.2.1) (u.2.2.2.2.2.2.2.2.2.2.2.1) (u.2.2.2.2.2.2.2.2.2.2.2.2)) ({ frames := 7, cells := 0, slots := 0, locals := 151 } : Room) below args s A) (F0 m 5 ls []) := by
    intro kf
    induction kf with
    | zero => intro x_1 x_2 x_3 x_4 x_5 x_6 x_7 x_8 x_9 x_10 x_11 x_12 x_13 f_14 i15 i16 i17 rf_14 H locs ls hk; exact absurd hk (Nat.not_lt_zero _)
    | succ kf ih5_19 =>
      intro x_1 x_2 x_3 x_4 x_5 x_6 x_7 x_8 x_9 x_10 x_11 x_12 x_13 f_14 i15 i16 i17 rf_14 H locs ls hk5_19 hP hD hS hl
      refine lv_iload hx hb dX0_utmostOfSeeds_5 (lv_at hl 4 rfl) ?_
      refine lv_bipush (v := 6) hx hb dX0_utmostOfSeeds_7 (by decide) ?_
      refine lv_icmp_gt (tgt := 54) hx hb dX0_utmostOfSeeds_9 (by decide) (fun cb9 => ?_) (fun cb9 => ?_)
      · skip
        have c20 : 6 < x_2.toInt := zlti cb9 (by decide) rfl
        have n21 : 7 ≤ x_2.toInt := zL2 (a := 6) c20 (Int.le_refl _) (by decide)
        refine lv_iload_n hx hb dX0_utmostOfSeeds_54 rfl (lv_at hl 3 rfl) ?_
        have hP : va_P g.1 vwCl (List.flatten [bFo g fo o lo od, bTown g o a pe wo tx ch jo tr dy sd f, bLaw g lo lc lz ll x_3 x_4 x_5 fc, bTown g od ad x_6 x_7 x_8 x_9 x_10 x_11 x_12 x_13 f_14]) H := hP
        have hD : va_D A (List.flatten [bFo g fo o lo od, bTown g o a pe wo tx ch jo tr dy sd f, bLaw g lo lc lz ll x_3 x_4 x_5 fc, bTown g od ad x_6 x_7 x_8 x_9 x_10 x_11 x_12 x_13 f_14]) := hD
        exact mret_i hx hb hr hlocks hS (Nat.le_of_ble_eq_true rfl) (Nat.le_of_ble_eq_true rfl) dX0_utmostOfSeeds_55 (x_3, x_4, x_5, x_6, x_7, x_8, x_9, x_10, x_11, x_12, x_13, f_14, x_1) rfl (show (0 ≤ x_6.toInt ∧ x_6.toInt ≤ 8) ∧ (0 ≤ x_7.toInt ∧ x_7.toInt ≤ 6) ∧ (zZ4 f_14) from ⟨i16, i17, rf_14⟩) hP hD
      · skip
        have c22 : x_2.toInt ≤ 6 := zle (Int32.not_lt.mp cb9) rfl (by decide)
        have n23 : x_2.toInt ≤ 6 := Int.le_trans c22 (Int.le_refl _)
        refine lv_aload_n hx hb dX0_utmostOfSeeds_12 rfl (lv_at hl 0 rfl) ?_
        refine lv_iload hx hb dX0_utmostOfSeeds_13 (lv_at hl 4 rfl) ?_
        refine lv_iload_n hx hb dX0_utmostOfSeeds_15 rfl (lv_at hl 1 rfl) ?_
        refine mcallV' (g := g) (q0 := 0) (ci := 0) (As := [.int x_2, .int n]) (rest := []) St hK hT hA hP hD hS hl.1 [0, 1, 2, 3] [] rfl rfl rfl (c_f_tryOut l g fo o lo od a pe wo tx ch jo tr dy sd f lc lz ll x_3 x_4 x_5 fc ad x_6 x_7 x_8 x_9 x_10 x_11 x_12 x_13 f_14 x_2 n b_pe b_wo rf b_lz i16 i17 rf_14 b_n) (cwV 2 hts (zgL (zl4 k193 k194 k195 k169) k192) rfl rfl rfl (by decide +kernel) ⟨Nat.le_of_ble_eq_true rfl, Nat.le_of_ble_eq_true rfl⟩) rfl rfl rfl rfl (Nat.le_of_ble_eq_true rfl) dX0_utmostOfSeeds_16 ⟨(Nat.le_of_ble_eq_true rfl), (Nat.le_of_ble_eq_true rfl)⟩ (fun u_ H locs hq37 hP hD hS => ?_)
        obtain ⟨lm2_24, lg2_25, ld2_26, pe3_27, wo3_28, tx3_29, ch3_30, jo3_31, tr3_32, dy3_33, sd3_34, f3_35, q_36⟩ := u_
        replace hq37 : (0 ≤ pe3_27.toInt ∧ pe3_27.toInt ≤ 8) ∧ (0 ≤ wo3_28.toInt ∧ wo3_28.toInt ≤ 6) ∧ (zZ4 f3_35) := hq37
        have hP : va_P g.1 vwCl (List.flatten [bFo g fo o lo od, bTown g o a pe wo tx ch jo tr dy sd f, bLaw g lo lc lz ll lm2_24 lg2_25 ld2_26 fc, bTown g od ad pe3_27 wo3_28 tx3_29 ch3_30 jo3_31 tr3_32 dy3_33 sd3_34 f3_35]) H := hP
        have hD : va_D A (List.flatten [bFo g fo o lo od, bTown g o a pe wo tx ch jo tr dy sd f, bLaw g lo lc lz ll lm2_24 lg2_25 ld2_26 fc, bTown g od ad pe3_27 wo3_28 tx3_29 ch3_30 jo3_31 tr3_32 dy3_33 sd3_34 f3_35]) := hD
        refine W.widen (k := 0) (n := 0) (Nat.le_of_ble_eq_true rfl) (Nat.le_of_ble_eq_true rfl) ?_
        refine W.eq (g2 := F0 m 19 ls [.int q_36]) rfl ?_
        obtain ⟨hq37_0, hq37_1, rf3_35⟩ := hq37
        refine lv_istore (lv' := [(5, .int q_36), (0, .ref fo), (1, .int n), (2, .int mo9), (3, .int x_1), (4, .int x_2)]) hx hb dX0_utmostOfSeeds_19 hl (by decide) rfl (fun ls hl => ?_)
        refine lv_iload_n hx hb dX0_utmostOfSeeds_21 rfl (lv_at hl 4 rfl) ?_
        refine lv_iconst (v := (-1)) hx hb dX0_utmostOfSeeds_22 (by decide) ?_
        refine lv_icmp_eq (tgt := 45) hx hb dX0_utmostOfSeeds_23 (by decide) (fun cb9 => ?_) (fun cb9 => ?_)
        · skip
          have c38 : x_1.toInt = (-1) := zeq cb9 rfl (by decide)
          have n39 : (-1) ≤ x_1.toInt := Int.le_trans (Int.le_refl _) (Int.le_of_eq c38.symm)
          have n40 : x_1.toInt ≤ (-1) := Int.le_trans (Int.le_of_eq c38) (Int.le_refl _)
          refine lv_iload hx hb dX0_utmostOfSeeds_45 (lv_at hl 0 rfl) ?_
          refine lv_istore_n (lv' := [(3, .int q_36), (5, .int q_36), (0, .ref fo), (1, .int n), (2, .int mo9), (4, .int x_2)]) hx hb dX0_utmostOfSeeds_47 rfl hl (by decide) rfl (fun ls hl => ?_)
          refine ziinc3 (n' := 1) (a' := 2) (b' := 7) (lv' := fun v9 => [(4, .int v9), (3, .int q_36), (5, .int q_36), (0, .ref fo), (1, .int n), (2, .int mo9)]) hx hb dX0_utmostOfSeeds_48 hl (k := 5) rfl (by decide) (fun _ => rfl) (zaddK (i := x_2.toInt) (j := 1) rfl (by decide) i15.1 n23 (Int.le_refl _) (Int.le_refl _) (by decide)) (fun x_41 ls hx_41 hl => ?_)
          refine lv_goto (tgt := 5) hx hb dX0_utmostOfSeeds_51 (by decide) ?_
          have hl := lv_sub (l' := [(0, .ref fo), (1, .int n), (2, .int mo9), (3, .int q_36), (4, .int x_41), (5, .int q_36)]) hl [3, 4, 5, 1, 0, 2] rfl
          have hP : va_P g.1 vwCl (List.flatten [bFo g fo o lo od, bTown g o a pe wo tx ch jo tr dy sd f, bLaw g lo lc lz ll lm2_24 lg2_25 ld2_26 fc, bTown g od ad pe3_27 wo3_28 tx3_29 ch3_30 jo3_31 tr3_32 dy3_33 sd3_34 f3_35]) H := hP
          have hD : va_D A (List.flatten [bFo g fo o lo od, bTown g o a pe wo tx ch jo tr dy sd f, bLaw g lo lc lz ll lm2_24 lg2_25 ld2_26 fc, bTown g od ad pe3_27 wo3_28 tx3_29 ch3_30 jo3_31 tr3_32 dy3_33 sd3_34 f3_35]) := hD
          exact ih5_19 q_36 x_41 lm2_24 lg2_25 ld2_26 pe3_27 wo3_28 tx3_29 ch3_30 jo3_31 tr3_32 dy3_33 sd3_34 f3_35 ⟨(Int.le_trans (by decide) hx_41.2.1), hx_41.2.2⟩ ⟨hq37_0.1, hq37_0.2⟩ ⟨hq37_1.1, hq37_1.2⟩ rf3_35 H _ ls (zmK hx_41.1 (by decide) n23 (by decide) hk5_19)  hP hD hS (lv_sub hl [0, 1, 2, 3, 4] rfl)
        · skip
          have c42 : ¬ x_1.toInt = (-1) := zne cb9 rfl (by decide)
          refine lv_iload_n hx hb dX0_utmostOfSeeds_26 rfl (lv_at hl 3 rfl) ?_
          refine lv_if_eq (tgt := 39) hx hb dX0_utmostOfSeeds_27 (by decide) (fun cb9 => ?_) (fun cb9 => ?_)
          · skip
            have c43 : mo9.toInt = 0 := zeq cb9 rfl (by decide)
            have n44 : 0 ≤ mo9.toInt := Int.le_trans (Int.le_refl _) (Int.le_of_eq c43.symm)
            have n45 : mo9.toInt ≤ 0 := Int.le_trans (Int.le_of_eq c43) (Int.le_refl _)
            refine lv_iload hx hb dX0_utmostOfSeeds_39 (lv_at hl 0 rfl) ?_
            refine lv_iload_n hx hb dX0_utmostOfSeeds_41 rfl (lv_at hl 4 rfl) ?_
            refine lv_icmp_ge (tgt := 48) hx hb dX0_utmostOfSeeds_42 (by decide) (fun cb9 => ?_) (fun cb9 => ?_)
            · skip
              have c46 : x_1.toInt ≤ q_36.toInt := zle cb9 rfl rfl
              refine ziinc3 (n' := 1) (a' := 2) (b' := 7) (lv' := fun v9 => [(4, .int v9), (5, .int q_36), (0, .ref fo), (1, .int n), (2, .int mo9), (3, .int x_1)]) hx hb dX0_utmostOfSeeds_48 hl (k := 5) rfl (by decide) (fun _ => rfl) (zaddK (i := x_2.toInt) (j := 1) rfl (by decide) i15.1 n23 (Int.le_refl _) (Int.le_refl _) (by decide)) (fun x_47 ls hx_47 hl => ?_)
              refine lv_goto (tgt := 5) hx hb dX0_utmostOfSeeds_51 (by decide) ?_
              have hl := lv_sub (l' := [(0, .ref fo), (1, .int n), (2, .int mo9), (3, .int x_1), (4, .int x_47), (5, .int q_36)]) hl [2, 3, 4, 5, 0, 1] rfl
              have hP : va_P g.1 vwCl (List.flatten [bFo g fo o lo od, bTown g o a pe wo tx ch jo tr dy sd f, bLaw g lo lc lz ll lm2_24 lg2_25 ld2_26 fc, bTown g od ad pe3_27 wo3_28 tx3_29 ch3_30 jo3_31 tr3_32 dy3_33 sd3_34 f3_35]) H := hP
              have hD : va_D A (List.flatten [bFo g fo o lo od, bTown g o a pe wo tx ch jo tr dy sd f, bLaw g lo lc lz ll lm2_24 lg2_25 ld2_26 fc, bTown g od ad pe3_27 wo3_28 tx3_29 ch3_30 jo3_31 tr3_32 dy3_33 sd3_34 f3_35]) := hD
              exact ih5_19 x_1 x_47 lm2_24 lg2_25 ld2_26 pe3_27 wo3_28 tx3_29 ch3_30 jo3_31 tr3_32 dy3_33 sd3_34 f3_35 ⟨(Int.le_trans (by decide) hx_47.2.1), hx_47.2.2⟩ ⟨hq37_0.1, hq37_0.2⟩ ⟨hq37_1.1, hq37_1.2⟩ rf3_35 H _ ls (zmK hx_47.1 (by decide) n23 (by decide) hk5_19)  hP hD hS (lv_sub hl [0, 1, 2, 3, 4] rfl)
            · skip
              have c48 : q_36.toInt < x_1.toInt := zlti (Int32.not_le.mp cb9) rfl rfl
              refine lv_iload hx hb dX0_utmostOfSeeds_45 (lv_at hl 0 rfl) ?_
              refine lv_istore_n (lv' := [(3, .int q_36), (5, .int q_36), (0, .ref fo), (1, .int n), (2, .int mo9), (4, .int x_2)]) hx hb dX0_utmostOfSeeds_47 rfl hl (by decide) rfl (fun ls hl => ?_)
              refine ziinc3 (n' := 1) (a' := 2) (b' := 7) (lv' := fun v9 => [(4, .int v9), (3, .int q_36), (5, .int q_36), (0, .ref fo), (1, .int n), (2, .int mo9)]) hx hb dX0_utmostOfSeeds_48 hl (k := 5) rfl (by decide) (fun _ => rfl) (zaddK (i := x_2.toInt) (j := 1) rfl (by decide) i15.1 n23 (Int.le_refl _) (Int.le_refl _) (by decide)) (fun x_49 ls hx_49 hl => ?_)
              refine lv_goto (tgt := 5) hx hb dX0_utmostOfSeeds_51 (by decide) ?_
              have hl := lv_sub (l' := [(0, .ref fo), (1, .int n), (2, .int mo9), (3, .int q_36), (4, .int x_49), (5, .int q_36)]) hl [3, 4, 5, 1, 0, 2] rfl
              have hP : va_P g.1 vwCl (List.flatten [bFo g fo o lo od, bTown g o a pe wo tx ch jo tr dy sd f, bLaw g lo lc lz ll lm2_24 lg2_25 ld2_26 fc, bTown g od ad pe3_27 wo3_28 tx3_29 ch3_30 jo3_31 tr3_32 dy3_33 sd3_34 f3_35]) H := hP
              have hD : va_D A (List.flatten [bFo g fo o lo od, bTown g o a pe wo tx ch jo tr dy sd f, bLaw g lo lc lz ll lm2_24 lg2_25 ld2_26 fc, bTown g od ad pe3_27 wo3_28 tx3_29 ch3_30 jo3_31 tr3_32 dy3_33 sd3_34 f3_35]) := hD
              exact ih5_19 q_36 x_49 lm2_24 lg2_25 ld2_26 pe3_27 wo3_28 tx3_29 ch3_30 jo3_31 tr3_32 dy3_33 sd3_34 f3_35 ⟨(Int.le_trans (by decide) hx_49.2.1), hx_49.2.2⟩ ⟨hq37_0.1, hq37_0.2⟩ ⟨hq37_1.1, hq37_1.2⟩ rf3_35 H _ ls (zmK hx_49.1 (by decide) n23 (by decide) hk5_19)  hP hD hS (lv_sub hl [0, 1, 2, 3, 4] rfl)
          · skip
            have c50 : ¬ mo9.toInt = 0 := zne cb9 rfl (by decide)
            refine lv_iload hx hb dX0_utmostOfSeeds_30 (lv_at hl 0 rfl) ?_
            refine lv_iload_n hx hb dX0_utmostOfSeeds_32 rfl (lv_at hl 4 rfl) ?_
            refine lv_icmp_le (tgt := 48) hx hb dX0_utmostOfSeeds_33 (by decide) (fun cb9 => ?_) (fun cb9 => ?_)
            · skip
              have c51 : q_36.toInt ≤ x_1.toInt := zle cb9 rfl rfl
              refine ziinc3 (n' := 1) (a' := 2) (b' := 7) (lv' := fun v9 => [(4, .int v9), (5, .int q_36), (0, .ref fo), (1, .int n), (2, .int mo9), (3, .int x_1)]) hx hb dX0_utmostOfSeeds_48 hl (k := 5) rfl (by decide) (fun _ => rfl) (zaddK (i := x_2.toInt) (j := 1) rfl (by decide) i15.1 n23 (Int.le_refl _) (Int.le_refl _) (by decide)) (fun x_52 ls hx_52 hl => ?_)
              refine lv_goto (tgt := 5) hx hb dX0_utmostOfSeeds_51 (by decide) ?_
              have hl := lv_sub (l' := [(0, .ref fo), (1, .int n), (2, .int mo9), (3, .int x_1), (4, .int x_52), (5, .int q_36)]) hl [2, 3, 4, 5, 0, 1] rfl
              have hP : va_P g.1 vwCl (List.flatten [bFo g fo o lo od, bTown g o a pe wo tx ch jo tr dy sd f, bLaw g lo lc lz ll lm2_24 lg2_25 ld2_26 fc, bTown g od ad pe3_27 wo3_28 tx3_29 ch3_30 jo3_31 tr3_32 dy3_33 sd3_34 f3_35]) H := hP
              have hD : va_D A (List.flatten [bFo g fo o lo od, bTown g o a pe wo tx ch jo tr dy sd f, bLaw g lo lc lz ll lm2_24 lg2_25 ld2_26 fc, bTown g od ad pe3_27 wo3_28 tx3_29 ch3_30 jo3_31 tr3_32 dy3_33 sd3_34 f3_35]) := hD
              exact ih5_19 x_1 x_52 lm2_24 lg2_25 ld2_26 pe3_27 wo3_28 tx3_29 ch3_30 jo3_31 tr3_32 dy3_33 sd3_34 f3_35 ⟨(Int.le_trans (by decide) hx_52.2.1), hx_52.2.2⟩ ⟨hq37_0.1, hq37_0.2⟩ ⟨hq37_1.1, hq37_1.2⟩ rf3_35 H _ ls (zmK hx_52.1 (by decide) n23 (by decide) hk5_19)  hP hD hS (lv_sub hl [0, 1, 2, 3, 4] rfl)
            · skip
              have c53 : x_1.toInt < q_36.toInt := zlti (Int32.not_le.mp cb9) rfl rfl
              refine lv_goto (tgt := 45) hx hb dX0_utmostOfSeeds_36 (by decide) ?_
              refine lv_iload hx hb dX0_utmostOfSeeds_45 (lv_at hl 0 rfl) ?_
              refine lv_istore_n (lv' := [(3, .int q_36), (5, .int q_36), (0, .ref fo), (1, .int n), (2, .int mo9), (4, .int x_2)]) hx hb dX0_utmostOfSeeds_47 rfl hl (by decide) rfl (fun ls hl => ?_)
              refine ziinc3 (n' := 1) (a' := 2) (b' := 7) (lv' := fun v9 => [(4, .int v9), (3, .int q_36), (5, .int q_36), (0, .ref fo), (1, .int n), (2, .int mo9)]) hx hb dX0_utmostOfSeeds_48 hl (k := 5) rfl (by decide) (fun _ => rfl) (zaddK (i := x_2.toInt) (j := 1) rfl (by decide) i15.1 n23 (Int.le_refl _) (Int.le_refl _) (by decide)) (fun x_54 ls hx_54 hl => ?_)
              refine lv_goto (tgt := 5) hx hb dX0_utmostOfSeeds_51 (by decide) ?_
              have hl := lv_sub (l' := [(0, .ref fo), (1, .int n), (2, .int mo9), (3, .int q_36), (4, .int x_54), (5, .int q_36)]) hl [3, 4, 5, 1, 0, 2] rfl
              have hP : va_P g.1 vwCl (List.flatten [bFo g fo o lo od, bTown g o a pe wo tx ch jo tr dy sd f, bLaw g lo lc lz ll lm2_24 lg2_25 ld2_26 fc, bTown g od ad pe3_27 wo3_28 tx3_29 ch3_30 jo3_31 tr3_32 dy3_33 sd3_34 f3_35]) H := hP
              have hD : va_D A (List.flatten [bFo g fo o lo od, bTown g o a pe wo tx ch jo tr dy sd f, bLaw g lo lc lz ll lm2_24 lg2_25 ld2_26 fc, bTown g od ad pe3_27 wo3_28 tx3_29 ch3_30 jo3_31 tr3_32 dy3_33 sd3_34 f3_35]) := hD
              exact ih5_19 q_36 x_54 lm2_24 lg2_25 ld2_26 pe3_27 wo3_28 tx3_29 ch3_30 jo3_31 tr3_32 dy3_33 sd3_34 f3_35 ⟨(Int.le_trans (by decide) hx_54.2.1), hx_54.2.2⟩ ⟨hq37_0.1, hq37_0.2⟩ ⟨hq37_1.1, hq37_1.2⟩ rf3_35 H _ ls (zmK hx_54.1 (by decide) n23 (by decide) hk5_19)  hP hD hS (lv_sub hl [0, 1, 2, 3, 4] rfl)
  have hP : va_P g.1 vwCl (List.flatten [bFo g fo o lo od, bTown g o a pe wo tx ch jo tr dy sd f, bLaw g lo lc lz ll lm lg ld fc, bTown g od ad ped wod txd chd jod trd dyd sdd fd]) s.heap := hP
  have hD : va_D A (List.flatten [bFo g fo o lo od, bTown g o a pe wo tx ch jo tr dy sd f, bLaw g lo lc lz ll lm lg ld fc, bTown g od ad ped wod txd chd jod trd dyd sdd fd]) := hD
  exact LP5_18 _ (-1) 1 lm lg ld ped wod txd chd jod trd dyd sdd fd (by decide) ⟨b_ped.1, b_ped.2⟩ ⟨b_wod.1, b_wod.2⟩ rfd s.heap _ ls (Nat.lt_succ_self _)  hP hD hS (lv_sub hl [0, 1, 2, 3, 4] rfl)
set_option maxRecDepth 100000 in
set_option maxHeartbeats 4000000 in
theorem c_i_trusting (l : Launch) (g : zG) (o : Nat) (a : Nat → Nat) (pe : Int32) (wo : Int32) (tx : Int32) (ch : Int32) (jo : Int32) (tr : Int32) (dy : Int32) (sd : Int32) (f : Nat → Nat → Int32) (st0 : Int32) (b_pe : 0 ≤ pe.toInt ∧ pe.toInt ≤ 8) (b_wo : 0 ≤ wo.toInt ∧ wo.toInt ≤ 6) (rf : zZ4 f) : zM' g l yX8_trusting (Cond.code yX8_trusting cX8_trusting 5 (some .int) :: zB) ({ frames := 1, cells := 0, slots := 0, locals := 22 } : Room) [.ref o, .int st0] [bTown g o a pe wo tx ch jo tr dy sd f] (fun (q : Int32) => some (.int q)) (fun (q : Int32) => True) (fun (q : Int32) => [bTown g o a pe wo tx ch jo tr dy sd f]) := by
  refine zM'.of (cc := cX8_trusting) (maxL := 5) (rt := (some .int)) (by decide) rfl (Nat.le_of_ble_eq_true rfl) ?_
  intro p e s m args below meth c A ls St hr hlocks hin hK hT hA hP hD hS hl
  obtain ⟨hx, hb, hml, hown, hts⟩ := id St
  have hl : lv_has ls 5 [(0, .ref o), (1, .int st0)] := hl
  refine lv_iconst (v := 0) hx hb dX8_trusting_0 (by decide) ?_
  refine lv_istore_n (lv' := [(2, .int 0), (0, .ref o), (1, .int st0)]) hx hb dX8_trusting_1 rfl hl (by decide) rfl (fun ls hl => ?_)
  refine lv_iconst (v := 0) hx hb dX8_trusting_2 (by decide) ?_
  refine lv_istore_n (lv' := [(3, .int 0), (2, .int 0), (0, .ref o), (1, .int st0)]) hx hb dX8_trusting_3 rfl hl (by decide) rfl (fun ls hl => ?_)
  have hl := lv_sub (l' := [(0, .ref o), (1, .int st0), (2, .int 0), (3, .int 0)]) hl [2, 3, 1, 0] rfl
  have LP4_4 : ∀ (kf : Nat) (x_1 : Int32) (x_2 : Int32), (0 ≤ x_2.toInt ∧ x_2.toInt ≤ 8) → ∀ (H : Heap) (locs : List Loc) (ls : Array Slot), ((9 - x_2.toInt).toNat) < kf → va_P g.1 vwCl (List.flatten [bTown g o a pe wo tx ch jo tr dy sd f]) H → va_D A (List.flatten [bTown g o a pe wo tx ch jo tr dy sd f]) → va_S A s.heap H locs → lv_has ls 5 [(0, .ref o), (1, .int st0), (2, .int x_1), (3, .int x_2)] → W p l e ({ frames := 1, cells := 0, slots := 0, locals := 22 } : Room) s m args below meth c H locs (0) (0) (zF g (fun (q : Int32) => some (.int q)) (fun (q : Int32) => True) (fun (q : Int32) => [bTown g o a pe wo tx ch jo tr dy sd f]) ({ frames := 1, cells := 0, slots := 0, locals := 22 } : Room) below args s A) (F0 m 4 ls []) := by
    intro kf
    induction kf with
    | zero => intro x_1 x_2 i3 H locs ls hk; exact absurd hk (Nat.not_lt_zero _)
    | succ kf ih4_5 =>
      intro x_1 x_2 i3 H locs ls hk4_5 hP hD hS hl
      refine lv_iload_n hx hb dX8_trusting_4 rfl (lv_at hl 3 rfl) ?_
      refine lv_aload_n hx hb dX8_trusting_5 rfl (lv_at hl 0 rfl) ?_
      refine va_get (D := g.1) (ci := 7) (v := .int pe) (C := RX9) (T := TX9) (N := 19) hx hb hts izRX9 hown hK hP 0 rfl rfl 0 (by decide) (hts _ k500) (fun _ h9 => h9) rfl dX8_trusting_6 ?_
      refine lv_icmp_ge (tgt := 67) hx hb dX8_trusting_9 (by decide) (fun cb9 => ?_) (fun cb9 => ?_)
      · skip
        have c6 : pe.toInt ≤ x_2.toInt := zle cb9 rfl rfl
        refine lv_iload_n hx hb dX8_trusting_67 rfl (lv_at hl 2 rfl) ?_
        have hP : va_P g.1 vwCl (List.flatten [bTown g o a pe wo tx ch jo tr dy sd f]) H := hP
        have hD : va_D A (List.flatten [bTown g o a pe wo tx ch jo tr dy sd f]) := hD
        exact mret_i hx hb hr hlocks hS (Nat.le_of_ble_eq_true rfl) (Nat.le_of_ble_eq_true rfl) dX8_trusting_68 (x_1) rfl trivial hP hD
      · skip
        have c7 : x_2.toInt < pe.toInt := zlti (Int32.not_le.mp cb9) rfl rfl
        have n8 : x_2.toInt ≤ 7 := zL1 (b := 8) c7 b_pe.2 (by decide)
        have n9 : 1 ≤ pe.toInt := zL2 (a := 0) c7 i3.1 (by decide)
        refine lv_iconst (v := 0) hx hb dX8_trusting_12 (by decide) ?_
        refine lv_istore (lv' := [(4, .int 0), (0, .ref o), (1, .int st0), (2, .int x_1), (3, .int x_2)]) hx hb dX8_trusting_13 hl (by decide) rfl (fun ls hl => ?_)
        have hl := lv_sub (l' := [(0, .ref o), (1, .int st0), (2, .int x_1), (3, .int x_2), (4, .int 0)]) hl [1, 2, 3, 4, 0] rfl
        have LP15_13 : ∀ (kf : Nat) (x_10 : Int32) (x_11 : Int32), (0 ≤ x_11.toInt ∧ x_11.toInt ≤ 8) → ∀ (H : Heap) (locs : List Loc) (ls : Array Slot), ((9 - x_11.toInt).toNat) < kf → va_P g.1 vwCl (List.flatten [bTown g o a pe wo tx ch jo tr dy sd f]) H → va_D A (List.flatten [bTown g o a pe wo tx ch jo tr dy sd f]) → va_S A s.heap H locs → lv_has ls 5 [(0, .ref o), (1, .int st0), (2, .int x_10), (3, .int x_2), (4, .int x_11)] → W p l e ({ frames := 1, cells := 0, slots := 0, locals := 22 } : Room) s m args below meth c H locs (0) (0) (zF g (fun (q : Int32) => some (.int q)) (fun (q : Int32) => True) (fun (q : Int32) => [bTown g o a pe wo tx ch jo tr dy sd f]) ({ frames := 1, cells := 0, slots := 0, locals := 22 } : Room) below args s A) (F0 m 15 ls []) := by
          intro kf
          induction kf with
          | zero => intro x_10 x_11 i12 H locs ls hk; exact absurd hk (Nat.not_lt_zero _)
          | succ kf ih15_14 =>
            intro x_10 x_11 i12 H locs ls hk15_14 hP hD hS hl
            refine lv_iload hx hb dX8_trusting_15 (lv_at hl 4 rfl) ?_
            refine lv_aload_n hx hb dX8_trusting_17 rfl (lv_at hl 0 rfl) ?_
            refine va_get (D := g.1) (ci := 7) (v := .int pe) (C := RX9) (T := TX9) (N := 19) hx hb hts izRX9 hown hK hP 0 rfl rfl 0 (by decide) (hts _ k500) (fun _ h9 => h9) rfl dX8_trusting_18 ?_
            refine lv_icmp_ge (tgt := 61) hx hb dX8_trusting_21 (by decide) (fun cb9 => ?_) (fun cb9 => ?_)
            · skip
              have c15 : pe.toInt ≤ x_11.toInt := zle cb9 rfl rfl
              have n16 : 1 ≤ x_11.toInt := Int.le_trans n9 c15
              refine ziinc3 (n' := 1) (a' := 1) (b' := 8) (lv' := fun v9 => [(3, .int v9), (0, .ref o), (1, .int st0), (2, .int x_10), (4, .int x_11)]) hx hb dX8_trusting_61 hl (k := 3) rfl (by decide) (fun _ => rfl) (zaddK (i := x_2.toInt) (j := 1) rfl (by decide) i3.1 n8 (Int.le_refl _) (Int.le_refl _) (by decide)) (fun x_17 ls hx_17 hl => ?_)
              refine lv_goto (tgt := 4) hx hb dX8_trusting_64 (by decide) ?_
              have hl := lv_sub (l' := [(0, .ref o), (1, .int st0), (2, .int x_10), (3, .int x_17), (4, .int x_11)]) hl [1, 2, 3, 0, 4] rfl
              have hP : va_P g.1 vwCl (List.flatten [bTown g o a pe wo tx ch jo tr dy sd f]) H := hP
              have hD : va_D A (List.flatten [bTown g o a pe wo tx ch jo tr dy sd f]) := hD
              exact ih4_5 x_10 x_17 ⟨(Int.le_trans (by decide) hx_17.2.1), hx_17.2.2⟩ H _ ls (zmK hx_17.1 (by decide) n8 (by decide) hk4_5)  hP hD hS (lv_sub hl [0, 1, 2, 3] rfl)
            · skip
              have c18 : x_11.toInt < pe.toInt := zlti (Int32.not_le.mp cb9) rfl rfl
              have n19 : x_11.toInt ≤ 7 := zL1 (b := 8) c18 b_pe.2 (by decide)
              refine lv_iload hx hb dX8_trusting_24 (lv_at hl 4 rfl) ?_
              refine lv_iload_n hx hb dX8_trusting_26 rfl (lv_at hl 3 rfl) ?_
              refine lv_icmp_eq (tgt := 55) hx hb dX8_trusting_27 (by decide) (fun cb9 => ?_) (fun cb9 => ?_)
              · skip
                have c20 : x_11.toInt = x_2.toInt := zeq cb9 rfl rfl
                refine ziinc3 (n' := 1) (a' := 1) (b' := 8) (lv' := fun v9 => [(4, .int v9), (0, .ref o), (1, .int st0), (2, .int x_10), (3, .int x_2)]) hx hb dX8_trusting_55 hl (k := 4) rfl (by decide) (fun _ => rfl) (zaddK (i := x_11.toInt) (j := 1) rfl (by decide) i12.1 n19 (Int.le_refl _) (Int.le_refl _) (by decide)) (fun x_21 ls hx_21 hl => ?_)
                refine lv_goto (tgt := 15) hx hb dX8_trusting_58 (by decide) ?_
                have hl := lv_sub (l' := [(0, .ref o), (1, .int st0), (2, .int x_10), (3, .int x_2), (4, .int x_21)]) hl [1, 2, 3, 4, 0] rfl
                have hP : va_P g.1 vwCl (List.flatten [bTown g o a pe wo tx ch jo tr dy sd f]) H := hP
                have hD : va_D A (List.flatten [bTown g o a pe wo tx ch jo tr dy sd f]) := hD
                exact ih15_14 x_10 x_21 ⟨(Int.le_trans (by decide) hx_21.2.1), hx_21.2.2⟩ H _ ls (zmK hx_21.1 (by decide) n19 (by decide) hk15_14)  hP hD hS (lv_sub hl [0, 1, 2, 3, 4] rfl)
              · skip
                have c22 : ¬ x_11.toInt = x_2.toInt := zne cb9 rfl rfl
                refine lv_iload_n hx hb dX8_trusting_30 rfl (lv_at hl 1 rfl) ?_
                refine lv_iload hx hb dX8_trusting_31 (lv_at hl 4 rfl) ?_
                refine lv_ishr hx hb dX8_trusting_33 ?_
                refine zg (fun x_23 => ?_)
                refine lv_iconst (v := 1) hx hb dX8_trusting_34 (by decide) ?_
                refine lv_iand hx hb dX8_trusting_35 ?_
                refine zgb (zand1 _) (fun x_24 hx_24 => ?_)
                refine lv_if_eq (tgt := 55) hx hb dX8_trusting_36 (by decide) (fun cb9 => ?_) (fun cb9 => ?_)
                · skip
                  have c25 : x_24.toInt = 0 := zeq cb9 rfl (by decide)
                  have n26 : x_24.toInt ≤ 0 := Int.le_trans (Int.le_of_eq c25) (Int.le_refl _)
                  refine ziinc3 (n' := 1) (a' := 1) (b' := 8) (lv' := fun v9 => [(4, .int v9), (0, .ref o), (1, .int st0), (2, .int x_10), (3, .int x_2)]) hx hb dX8_trusting_55 hl (k := 4) rfl (by decide) (fun _ => rfl) (zaddK (i := x_11.toInt) (j := 1) rfl (by decide) i12.1 n19 (Int.le_refl _) (Int.le_refl _) (by decide)) (fun x_27 ls hx_27 hl => ?_)
                  refine lv_goto (tgt := 15) hx hb dX8_trusting_58 (by decide) ?_
                  have hl := lv_sub (l' := [(0, .ref o), (1, .int st0), (2, .int x_10), (3, .int x_2), (4, .int x_27)]) hl [1, 2, 3, 4, 0] rfl
                  have hP : va_P g.1 vwCl (List.flatten [bTown g o a pe wo tx ch jo tr dy sd f]) H := hP
                  have hD : va_D A (List.flatten [bTown g o a pe wo tx ch jo tr dy sd f]) := hD
                  exact ih15_14 x_10 x_27 ⟨(Int.le_trans (by decide) hx_27.2.1), hx_27.2.2⟩ H _ ls (zmK hx_27.1 (by decide) n19 (by decide) hk15_14)  hP hD hS (lv_sub hl [0, 1, 2, 3, 4] rfl)
                · skip
                  have c28 : ¬ x_24.toInt = 0 := zne cb9 rfl (by decide)
                  have n29 : 1 ≤ x_24.toInt := zN1 c28 hx_24.1 (by decide)
                  refine lv_aload_n hx hb dX8_trusting_39 rfl (lv_at hl 0 rfl) ?_
                  refine lv_iload_n hx hb dX8_trusting_40 rfl (lv_at hl 3 rfl) ?_
                  refine lv_iload hx hb dX8_trusting_41 (lv_at hl 4 rfl) ?_
                  refine mcallV' (g := g) (q0 := 0) (ci := 7) (As := [.int x_2, .int x_11]) (rest := []) St hK hT hA hP hD hS hl.1 [0] [] rfl rfl rfl (c_trustOf l g o a pe wo tx ch jo tr dy sd f x_2 x_11 (⟨i3.1, n8⟩) (⟨i12.1, n19⟩)) (cwV 2 hts (zgL (zl4 k501 k90 k91 k24) k87) rfl rfl rfl (by decide +kernel) ⟨Nat.le_of_ble_eq_true rfl, Nat.le_of_ble_eq_true rfl⟩) rfl rfl rfl rfl (Nat.le_of_ble_eq_true rfl) dX8_trusting_43 ⟨(Nat.le_of_ble_eq_true rfl), (Nat.le_of_ble_eq_true rfl)⟩ (fun q_30 H locs hq31 hP hD hS => ?_)
                  have hP : va_P g.1 vwCl (List.flatten [bTown g o a pe wo tx ch jo tr dy sd f]) H := hP
                  have hD : va_D A (List.flatten [bTown g o a pe wo tx ch jo tr dy sd f]) := hD
                  refine W.widen (k := 0) (n := 0) (Nat.le_of_ble_eq_true rfl) (Nat.le_of_ble_eq_true rfl) ?_
                  refine W.eq (g2 := F0 m 46 ls [.int q_30]) rfl ?_
                  refine lv_if_le (tgt := 55) hx hb dX8_trusting_46 (by decide) (fun cb9 => ?_) (fun cb9 => ?_)
                  · skip
                    have c32 : q_30.toInt ≤ 0 := zle cb9 rfl (by decide)
                    have n33 : q_30.toInt ≤ 0 := Int.le_trans c32 (Int.le_refl _)
                    refine ziinc3 (n' := 1) (a' := 1) (b' := 8) (lv' := fun v9 => [(4, .int v9), (0, .ref o), (1, .int st0), (2, .int x_10), (3, .int x_2)]) hx hb dX8_trusting_55 hl (k := 4) rfl (by decide) (fun _ => rfl) (zaddK (i := x_11.toInt) (j := 1) rfl (by decide) i12.1 n19 (Int.le_refl _) (Int.le_refl _) (by decide)) (fun x_34 ls hx_34 hl => ?_)
                    refine lv_goto (tgt := 15) hx hb dX8_trusting_58 (by decide) ?_
                    have hl := lv_sub (l' := [(0, .ref o), (1, .int st0), (2, .int x_10), (3, .int x_2), (4, .int x_34)]) hl [1, 2, 3, 4, 0] rfl
                    have hP : va_P g.1 vwCl (List.flatten [bTown g o a pe wo tx ch jo tr dy sd f]) H := hP
                    have hD : va_D A (List.flatten [bTown g o a pe wo tx ch jo tr dy sd f]) := hD
                    exact ih15_14 x_10 x_34 ⟨(Int.le_trans (by decide) hx_34.2.1), hx_34.2.2⟩ H _ ls (zmK hx_34.1 (by decide) n19 (by decide) hk15_14)  hP hD hS (lv_sub hl [0, 1, 2, 3, 4] rfl)
                  · skip
                    have c35 : 0 < q_30.toInt := zlti (Int32.not_le.mp cb9) (by decide) rfl
                    have n36 : 1 ≤ q_30.toInt := zL2 (a := 0) c35 (Int.le_refl _) (by decide)
                    refine lv_iload_n hx hb dX8_trusting_49 rfl (lv_at hl 2 rfl) ?_
                    refine lv_iconst (v := 1) hx hb dX8_trusting_50 (by decide) ?_
                    refine lv_iload_n hx hb dX8_trusting_51 rfl (lv_at hl 3 rfl) ?_
                    refine lv_ishl hx hb dX8_trusting_52 ?_
                    refine zgb (zshl1 (j := x_2.toInt) rfl 7 128 (by decide) (by decide) ⟨i3.1, n8⟩) (fun x_37 hx_37 => ?_)
                    refine lv_ior hx hb dX8_trusting_53 ?_
                    refine zg (fun x_38 => ?_)
                    refine lv_istore_n (lv' := [(2, .int x_38), (0, .ref o), (1, .int st0), (3, .int x_2), (4, .int x_11)]) hx hb dX8_trusting_54 rfl hl (by decide) rfl (fun ls hl => ?_)
                    refine ziinc3 (n' := 1) (a' := 1) (b' := 8) (lv' := fun v9 => [(4, .int v9), (2, .int x_38), (0, .ref o), (1, .int st0), (3, .int x_2)]) hx hb dX8_trusting_55 hl (k := 4) rfl (by decide) (fun _ => rfl) (zaddK (i := x_11.toInt) (j := 1) rfl (by decide) i12.1 n19 (Int.le_refl _) (Int.le_refl _) (by decide)) (fun x_39 ls hx_39 hl => ?_)
                    refine lv_goto (tgt := 15) hx hb dX8_trusting_58 (by decide) ?_
                    have hl := lv_sub (l' := [(0, .ref o), (1, .int st0), (2, .int x_38), (3, .int x_2), (4, .int x_39)]) hl [2, 3, 1, 4, 0] rfl
                    have hP : va_P g.1 vwCl (List.flatten [bTown g o a pe wo tx ch jo tr dy sd f]) H := hP
                    have hD : va_D A (List.flatten [bTown g o a pe wo tx ch jo tr dy sd f]) := hD
                    exact ih15_14 x_38 x_39 ⟨(Int.le_trans (by decide) hx_39.2.1), hx_39.2.2⟩ H _ ls (zmK hx_39.1 (by decide) n19 (by decide) hk15_14)  hP hD hS (lv_sub hl [0, 1, 2, 3, 4] rfl)
        have hP : va_P g.1 vwCl (List.flatten [bTown g o a pe wo tx ch jo tr dy sd f]) H := hP
        have hD : va_D A (List.flatten [bTown g o a pe wo tx ch jo tr dy sd f]) := hD
        exact LP15_13 _ x_1 0 (by decide) H _ ls (Nat.lt_succ_self _)  hP hD hS (lv_sub hl [0, 1, 2, 3, 4] rfl)
  have hP : va_P g.1 vwCl (List.flatten [bTown g o a pe wo tx ch jo tr dy sd f]) s.heap := hP
  have hD : va_D A (List.flatten [bTown g o a pe wo tx ch jo tr dy sd f]) := hD
  exact LP4_4 _ 0 0 (by decide) s.heap _ ls (Nat.lt_succ_self _)  hP hD hS (lv_sub hl [0, 1, 2, 3] rfl)
set_option maxRecDepth 100000 in
set_option maxHeartbeats 4000000 in
theorem c_i_wordOf (l : Launch) (g : zG) (o : Nat) (a : Nat → Nat) (pe : Int32) (wo : Int32) (tx : Int32) (ch : Int32) (jo : Int32) (tr : Int32) (dy : Int32) (sd : Int32) (f : Nat → Nat → Int32) (x1 : Int32) (b_pe : 0 ≤ pe.toInt ∧ pe.toInt ≤ 8) (b_wo : 0 ≤ wo.toInt ∧ wo.toInt ≤ 6) (rf : zZ4 f) (b_x1 : 0 ≤ x1.toInt ∧ x1.toInt ≤ 7) : zM' g l yX8_wordOf (Cond.code yX8_wordOf cX8_wordOf 4 (some .int) :: zB) ({ frames := 2, cells := 0, slots := 0, locals := 46 } : Room) [.ref o, .int x1] [bTown g o a pe wo tx ch jo tr dy sd f] (fun (q : Int32) => some (.int q)) (fun (q : Int32) => True) (fun (q : Int32) => [bTown g o a pe wo tx ch jo tr dy sd f]) := by
  refine zM'.of (cc := cX8_wordOf) (maxL := 4) (rt := (some .int)) (by decide) rfl (Nat.le_of_ble_eq_true rfl) ?_
  intro p e s m args below meth c A ls St hr hlocks hin hK hT hA hP hD hS hl
  obtain ⟨hx, hb, hml, hown, hts⟩ := id St
  have hl : lv_has ls 4 [(0, .ref o), (1, .int x1)] := hl
  refine lv_iconst (v := 0) hx hb dX8_wordOf_0 (by decide) ?_
  refine lv_istore_n (lv' := [(2, .int 0), (0, .ref o), (1, .int x1)]) hx hb dX8_wordOf_1 rfl hl (by decide) rfl (fun ls hl => ?_)
  refine lv_iconst (v := 0) hx hb dX8_wordOf_2 (by decide) ?_
  refine lv_istore_n (lv' := [(3, .int 0), (2, .int 0), (0, .ref o), (1, .int x1)]) hx hb dX8_wordOf_3 rfl hl (by decide) rfl (fun ls hl => ?_)
  have hl := lv_sub (l' := [(0, .ref o), (1, .int x1), (2, .int 0), (3, .int 0)]) hl [2, 3, 1, 0] rfl
  have LP4_4 : ∀ (kf : Nat) (x_1 : Int32) (x_2 : Int32), (0 ≤ x_2.toInt ∧ x_2.toInt ≤ 8) → ∀ (H : Heap) (locs : List Loc) (ls : Array Slot), ((9 - x_2.toInt).toNat) < kf → va_P g.1 vwCl (List.flatten [bTown g o a pe wo tx ch jo tr dy sd f]) H → va_D A (List.flatten [bTown g o a pe wo tx ch jo tr dy sd f]) → va_S A s.heap H locs → lv_has ls 4 [(0, .ref o), (1, .int x1), (2, .int x_1), (3, .int x_2)] → W p l e ({ frames := 2, cells := 0, slots := 0, locals := 46 } : Room) s m args below meth c H locs (0) (0) (zF g (fun (q : Int32) => some (.int q)) (fun (q : Int32) => True) (fun (q : Int32) => [bTown g o a pe wo tx ch jo tr dy sd f]) ({ frames := 2, cells := 0, slots := 0, locals := 46 } : Room) below args s A) (F0 m 4 ls []) := by
    intro kf
    induction kf with
    | zero => intro x_1 x_2 i3 H locs ls hk; exact absurd hk (Nat.not_lt_zero _)
    | succ kf ih4_5 =>
      intro x_1 x_2 i3 H locs ls hk4_5 hP hD hS hl
      refine lv_iload_n hx hb dX8_wordOf_4 rfl (lv_at hl 3 rfl) ?_
      refine lv_aload_n hx hb dX8_wordOf_5 rfl (lv_at hl 0 rfl) ?_
      refine va_get (D := g.1) (ci := 7) (v := .int pe) (C := RX9) (T := TX9) (N := 19) hx hb hts izRX9 hown hK hP 0 rfl rfl 0 (by decide) (hts _ k500) (fun _ h9 => h9) rfl dX8_wordOf_6 ?_
      refine lv_icmp_ge (tgt := 30) hx hb dX8_wordOf_9 (by decide) (fun cb9 => ?_) (fun cb9 => ?_)
      · skip
        have c6 : pe.toInt ≤ x_2.toInt := zle cb9 rfl rfl
        refine lv_iload_n hx hb dX8_wordOf_30 rfl (lv_at hl 2 rfl) ?_
        refine lv_iconst (v := 1) hx hb dX8_wordOf_31 (by decide) ?_
        refine lv_iload_n hx hb dX8_wordOf_32 rfl (lv_at hl 1 rfl) ?_
        refine lv_ishl hx hb dX8_wordOf_33 ?_
        refine zgb (zshl1 (j := x1.toInt) rfl 7 128 (by decide) (by decide) ⟨b_x1.1, b_x1.2⟩) (fun x_7 hx_7 => ?_)
        refine lv_iconst (v := (-1)) hx hb dX8_wordOf_34 (by decide) ?_
        refine lv_ixor hx hb dX8_wordOf_35 ?_
        refine zg (fun x_8 => ?_)
        refine lv_iand hx hb dX8_wordOf_36 ?_
        refine zg (fun x_9 => ?_)
        have hP : va_P g.1 vwCl (List.flatten [bTown g o a pe wo tx ch jo tr dy sd f]) H := hP
        have hD : va_D A (List.flatten [bTown g o a pe wo tx ch jo tr dy sd f]) := hD
        exact mret_i hx hb hr hlocks hS (Nat.le_of_ble_eq_true rfl) (Nat.le_of_ble_eq_true rfl) dX8_wordOf_37 (x_9) rfl trivial hP hD
      · skip
        have c10 : x_2.toInt < pe.toInt := zlti (Int32.not_le.mp cb9) rfl rfl
        have n11 : x_2.toInt ≤ 7 := zL1 (b := 8) c10 b_pe.2 (by decide)
        have n12 : 1 ≤ pe.toInt := zL2 (a := 0) c10 i3.1 (by decide)
        refine lv_iload_n hx hb dX8_wordOf_12 rfl (lv_at hl 2 rfl) ?_
        refine lv_aload_n hx hb dX8_wordOf_13 rfl (lv_at hl 0 rfl) ?_
        refine lv_iload_n hx hb dX8_wordOf_14 rfl (lv_at hl 2 rfl) ?_
        refine lv_iconst (v := 1) hx hb dX8_wordOf_15 (by decide) ?_
        refine lv_iload_n hx hb dX8_wordOf_16 rfl (lv_at hl 1 rfl) ?_
        refine lv_ishl hx hb dX8_wordOf_17 ?_
        refine zgb (zshl1 (j := x1.toInt) rfl 7 128 (by decide) (by decide) ⟨b_x1.1, b_x1.2⟩) (fun x_13 hx_13 => ?_)
        refine lv_ior hx hb dX8_wordOf_18 ?_
        refine zg (fun x_14 => ?_)
        refine mcallS' (g := g) (As := [.ref o, .int x_14]) (rest := [.int x_1]) St hK hT hA hP hD hS hl.1 [0] [] rfl rfl rfl (c_i_trusting l g o a pe wo tx ch jo tr dy sd f x_14 b_pe b_wo rf) (va_cwS 2 hts (zgL (zl3 k503 k504 k505) k499) rfl rfl rfl (by decide +kernel) ⟨Nat.le_of_ble_eq_true rfl, Nat.le_of_ble_eq_true rfl⟩) rfl rfl (Nat.le_of_ble_eq_true rfl) dX8_wordOf_19 ⟨(Nat.le_of_ble_eq_true rfl), (Nat.le_of_ble_eq_true rfl)⟩ (fun q_15 H locs hq16 hP hD hS => ?_)
        have hP : va_P g.1 vwCl (List.flatten [bTown g o a pe wo tx ch jo tr dy sd f]) H := hP
        have hD : va_D A (List.flatten [bTown g o a pe wo tx ch jo tr dy sd f]) := hD
        refine W.widen (k := 0) (n := 0) (Nat.le_of_ble_eq_true rfl) (Nat.le_of_ble_eq_true rfl) ?_
        refine W.eq (g2 := F0 m 22 ls [.int q_15, .int x_1]) rfl ?_
        refine lv_ior hx hb dX8_wordOf_22 ?_
        refine zg (fun x_17 => ?_)
        refine lv_istore_n (lv' := [(2, .int x_17), (0, .ref o), (1, .int x1), (3, .int x_2)]) hx hb dX8_wordOf_23 rfl hl (by decide) rfl (fun ls hl => ?_)
        refine ziinc3 (n' := 1) (a' := 1) (b' := 8) (lv' := fun v9 => [(3, .int v9), (2, .int x_17), (0, .ref o), (1, .int x1)]) hx hb dX8_wordOf_24 hl (k := 3) rfl (by decide) (fun _ => rfl) (zaddK (i := x_2.toInt) (j := 1) rfl (by decide) i3.1 n11 (Int.le_refl _) (Int.le_refl _) (by decide)) (fun x_18 ls hx_18 hl => ?_)
        refine lv_goto (tgt := 4) hx hb dX8_wordOf_27 (by decide) ?_
        have hl := lv_sub (l' := [(0, .ref o), (1, .int x1), (2, .int x_17), (3, .int x_18)]) hl [2, 3, 1, 0] rfl
        have hP : va_P g.1 vwCl (List.flatten [bTown g o a pe wo tx ch jo tr dy sd f]) H := hP
        have hD : va_D A (List.flatten [bTown g o a pe wo tx ch jo tr dy sd f]) := hD
        exact ih4_5 x_17 x_18 ⟨(Int.le_trans (by decide) hx_18.2.1), hx_18.2.2⟩ H _ ls (zmK hx_18.1 (by decide) n11 (by decide) hk4_5)  hP hD hS (lv_sub hl [0, 1, 2, 3] rfl)
  have hP : va_P g.1 vwCl (List.flatten [bTown g o a pe wo tx ch jo tr dy sd f]) s.heap := hP
  have hD : va_D A (List.flatten [bTown g o a pe wo tx ch jo tr dy sd f]) := hD
  exact LP4_4 _ 0 0 (by decide) s.heap _ ls (Nat.lt_succ_self _)  hP hD hS (lv_sub hl [0, 1, 2, 3] rfl)
set_option maxRecDepth 100000 in
set_option maxHeartbeats 4000000 in
theorem c_i_fewestSteps (l : Launch) (g : zG) (o : Nat) (a : Nat → Nat) (pe : Int32) (wo : Int32) (tx : Int32) (ch : Int32) (jo : Int32) (tr : Int32) (dy : Int32) (sd : Int32) (f : Nat → Nat → Int32) (x1 : Int32) (x2 : Int32) (b_pe : 0 ≤ pe.toInt ∧ pe.toInt ≤ 8) (b_wo : 0 ≤ wo.toInt ∧ wo.toInt ≤ 6) (rf : zZ4 f) (b_x1 : 0 ≤ x1.toInt ∧ x1.toInt ≤ 7) (b_x2 : 0 ≤ x2.toInt ∧ x2.toInt ≤ 7) : zM' g l yX8_fewestSteps (Cond.code yX8_fewestSteps cX8_fewestSteps 5 (some .int) :: zB) ({ frames := 2, cells := 0, slots := 0, locals := 46 } : Room) [.ref o, .int x1, .int x2] [bTown g o a pe wo tx ch jo tr dy sd f] (fun (q : Int32) => some (.int q)) (fun (q : Int32) => True) (fun (q : Int32) => [bTown g o a pe wo tx ch jo tr dy sd f]) := by
  refine zM'.of (cc := cX8_fewestSteps) (maxL := 5) (rt := (some .int)) (by decide) rfl (Nat.le_of_ble_eq_true rfl) ?_
  intro p e s m args below meth c A ls St hr hlocks hin hK hT hA hP hD hS hl
  obtain ⟨hx, hb, hml, hown, hts⟩ := id St
  have hl : lv_has ls 5 [(0, .ref o), (1, .int x1), (2, .int x2)] := hl
  refine lv_iconst (v := 1) hx hb dX8_fewestSteps_0 (by decide) ?_
  refine lv_iload_n hx hb dX8_fewestSteps_1 rfl (lv_at hl 1 rfl) ?_
  refine lv_ishl hx hb dX8_fewestSteps_2 ?_
  refine zgb (zshl1 (j := x1.toInt) rfl 7 128 (by decide) (by decide) ⟨b_x1.1, b_x1.2⟩) (fun x_1 hx_1 => ?_)
  refine lv_istore_n (lv' := [(3, .int x_1), (0, .ref o), (1, .int x1), (2, .int x2)]) hx hb dX8_fewestSteps_3 rfl hl (by decide) rfl (fun ls hl => ?_)
  refine lv_iconst (v := 1) hx hb dX8_fewestSteps_4 (by decide) ?_
  refine lv_istore (lv' := [(4, .int 1), (3, .int x_1), (0, .ref o), (1, .int x1), (2, .int x2)]) hx hb dX8_fewestSteps_5 hl (by decide) rfl (fun ls hl => ?_)
  have hl := lv_sub (l' := [(0, .ref o), (1, .int x1), (2, .int x2), (3, .int x_1), (4, .int 1)]) hl [2, 3, 4, 1, 0] rfl
  have LP7_5 : ∀ (kf : Nat) (x_2 : Int32) (x_3 : Int32), (1 ≤ x_3.toInt ∧ x_3.toInt ≤ 8) → ∀ (H : Heap) (locs : List Loc) (ls : Array Slot), ((9 - x_3.toInt).toNat) < kf → va_P g.1 vwCl (List.flatten [bTown g o a pe wo tx ch jo tr dy sd f]) H → va_D A (List.flatten [bTown g o a pe wo tx ch jo tr dy sd f]) → va_S A s.heap H locs → lv_has ls 5 [(0, .ref o), (1, .int x1), (2, .int x2), (3, .int x_2), (4, .int x_3)] → W p l e ({ frames := 2, cells := 0, slots := 0, locals := 46 } : Room) s m args below meth c H locs (0) (0) (zF g (fun (q : Int32) => some (.int q)) (fun (q : Int32) => True) (fun (q : Int32) => [bTown g o a pe wo tx ch jo tr dy sd f]) ({ frames := 2, cells := 0, slots := 0, locals := 46 } : Room) below args s A) (F0 m 7 ls []) := by
    intro kf
    induction kf with
    | zero => intro x_2 x_3 i4 H locs ls hk; exact absurd hk (Nat.not_lt_zero _)
    | succ kf ih7_6 =>
      intro x_2 x_3 i4 H locs ls hk7_6 hP hD hS hl
      refine lv_iload hx hb dX8_fewestSteps_7 (lv_at hl 4 rfl) ?_
      refine lv_aload_n hx hb dX8_fewestSteps_9 rfl (lv_at hl 0 rfl) ?_
      refine va_get (D := g.1) (ci := 7) (v := .int pe) (C := RX9) (T := TX9) (N := 19) hx hb hts izRX9 hown hK hP 0 rfl rfl 0 (by decide) (hts _ k500) (fun _ h9 => h9) rfl dX8_fewestSteps_10 ?_
      refine lv_icmp_ge (tgt := 41) hx hb dX8_fewestSteps_13 (by decide) (fun cb9 => ?_) (fun cb9 => ?_)
      · skip
        have c7 : pe.toInt ≤ x_3.toInt := zle cb9 rfl rfl
        refine lv_iconst (v := (-1)) hx hb dX8_fewestSteps_41 (by decide) ?_
        have hP : va_P g.1 vwCl (List.flatten [bTown g o a pe wo tx ch jo tr dy sd f]) H := hP
        have hD : va_D A (List.flatten [bTown g o a pe wo tx ch jo tr dy sd f]) := hD
        exact mret_i hx hb hr hlocks hS (Nat.le_of_ble_eq_true rfl) (Nat.le_of_ble_eq_true rfl) dX8_fewestSteps_42 (-1) rfl trivial hP hD
      · skip
        have c8 : x_3.toInt < pe.toInt := zlti (Int32.not_le.mp cb9) rfl rfl
        have n9 : x_3.toInt ≤ 7 := zL1 (b := 8) c8 b_pe.2 (by decide)
        have n10 : 2 ≤ pe.toInt := zL2 (a := 1) c8 i4.1 (by decide)
        refine lv_iload_n hx hb dX8_fewestSteps_16 rfl (lv_at hl 3 rfl) ?_
        refine lv_aload_n hx hb dX8_fewestSteps_17 rfl (lv_at hl 0 rfl) ?_
        refine lv_iload_n hx hb dX8_fewestSteps_18 rfl (lv_at hl 3 rfl) ?_
        refine mcallS' (g := g) (As := [.ref o, .int x_2]) (rest := [.int x_2]) St hK hT hA hP hD hS hl.1 [0] [] rfl rfl rfl (c_i_trusting l g o a pe wo tx ch jo tr dy sd f x_2 b_pe b_wo rf) (va_cwS 2 hts (zgL (zl3 k503 k504 k505) k499) rfl rfl rfl (by decide +kernel) ⟨Nat.le_of_ble_eq_true rfl, Nat.le_of_ble_eq_true rfl⟩) rfl rfl (Nat.le_of_ble_eq_true rfl) dX8_fewestSteps_19 ⟨(Nat.le_of_ble_eq_true rfl), (Nat.le_of_ble_eq_true rfl)⟩ (fun q_11 H locs hq12 hP hD hS => ?_)
        have hP : va_P g.1 vwCl (List.flatten [bTown g o a pe wo tx ch jo tr dy sd f]) H := hP
        have hD : va_D A (List.flatten [bTown g o a pe wo tx ch jo tr dy sd f]) := hD
        refine W.widen (k := 0) (n := 0) (Nat.le_of_ble_eq_true rfl) (Nat.le_of_ble_eq_true rfl) ?_
        refine W.eq (g2 := F0 m 22 ls [.int q_11, .int x_2]) rfl ?_
        refine lv_ior hx hb dX8_fewestSteps_22 ?_
        refine zg (fun x_13 => ?_)
        refine lv_istore_n (lv' := [(3, .int x_13), (0, .ref o), (1, .int x1), (2, .int x2), (4, .int x_3)]) hx hb dX8_fewestSteps_23 rfl hl (by decide) rfl (fun ls hl => ?_)
        refine lv_iload_n hx hb dX8_fewestSteps_24 rfl (lv_at hl 0 rfl) ?_
        refine lv_iload_n hx hb dX8_fewestSteps_25 rfl (lv_at hl 3 rfl) ?_
        refine lv_ishr hx hb dX8_fewestSteps_26 ?_
        refine zg (fun x_14 => ?_)
        refine lv_iconst (v := 1) hx hb dX8_fewestSteps_27 (by decide) ?_
        refine lv_iand hx hb dX8_fewestSteps_28 ?_
        refine zgb (zand1 _) (fun x_15 hx_15 => ?_)
        refine lv_if_eq (tgt := 35) hx hb dX8_fewestSteps_29 (by decide) (fun cb9 => ?_) (fun cb9 => ?_)
        · skip
          have c16 : x_15.toInt = 0 := zeq cb9 rfl (by decide)
          have n17 : x_15.toInt ≤ 0 := Int.le_trans (Int.le_of_eq c16) (Int.le_refl _)
          refine ziinc3 (n' := 1) (a' := 2) (b' := 8) (lv' := fun v9 => [(4, .int v9), (3, .int x_13), (0, .ref o), (1, .int x1), (2, .int x2)]) hx hb dX8_fewestSteps_35 hl (k := 4) rfl (by decide) (fun _ => rfl) (zaddK (i := x_3.toInt) (j := 1) rfl (by decide) i4.1 n9 (Int.le_refl _) (Int.le_refl _) (by decide)) (fun x_18 ls hx_18 hl => ?_)
          refine lv_goto (tgt := 7) hx hb dX8_fewestSteps_38 (by decide) ?_
          have hl := lv_sub (l' := [(0, .ref o), (1, .int x1), (2, .int x2), (3, .int x_13), (4, .int x_18)]) hl [2, 3, 4, 1, 0] rfl
          have hP : va_P g.1 vwCl (List.flatten [bTown g o a pe wo tx ch jo tr dy sd f]) H := hP
          have hD : va_D A (List.flatten [bTown g o a pe wo tx ch jo tr dy sd f]) := hD
          exact ih7_6 x_13 x_18 ⟨(Int.le_trans (by decide) hx_18.2.1), hx_18.2.2⟩ H _ ls (zmK hx_18.1 (by decide) n9 (by decide) hk7_6)  hP hD hS (lv_sub hl [0, 1, 2, 3, 4] rfl)
        · skip
          have c19 : ¬ x_15.toInt = 0 := zne cb9 rfl (by decide)
          have n20 : 1 ≤ x_15.toInt := zN1 c19 hx_15.1 (by decide)
          refine lv_iload hx hb dX8_fewestSteps_32 (lv_at hl 4 rfl) ?_
          have hP : va_P g.1 vwCl (List.flatten [bTown g o a pe wo tx ch jo tr dy sd f]) H := hP
          have hD : va_D A (List.flatten [bTown g o a pe wo tx ch jo tr dy sd f]) := hD
          exact mret_i hx hb hr hlocks hS (Nat.le_of_ble_eq_true rfl) (Nat.le_of_ble_eq_true rfl) dX8_fewestSteps_34 (x_3) rfl trivial hP hD
  have hP : va_P g.1 vwCl (List.flatten [bTown g o a pe wo tx ch jo tr dy sd f]) s.heap := hP
  have hD : va_D A (List.flatten [bTown g o a pe wo tx ch jo tr dy sd f]) := hD
  exact LP7_5 _ x_1 1 (by decide) s.heap _ ls (Nat.lt_succ_self _)  hP hD hS (lv_sub hl [0, 1, 2, 3, 4] rfl)
set_option maxRecDepth 100000 in
set_option maxHeartbeats 4000000 in
theorem c_i_circleOf (l : Launch) (g : zG) (o : Nat) (a : Nat → Nat) (pe : Int32) (wo : Int32) (tx : Int32) (ch : Int32) (jo : Int32) (tr : Int32) (dy : Int32) (sd : Int32) (f : Nat → Nat → Int32) (x1 : Int32) (b_pe : 0 ≤ pe.toInt ∧ pe.toInt ≤ 8) (b_wo : 0 ≤ wo.toInt ∧ wo.toInt ≤ 6) (rf : zZ4 f) (b_x1 : 0 ≤ x1.toInt ∧ x1.toInt ≤ 7) : zM' g l yX8_circleOf (Cond.code yX8_circleOf cX8_circleOf 5 (some .int) :: zB) ({ frames := 3, cells := 0, slots := 0, locals := 69 } : Room) [.ref o, .int x1] [bTown g o a pe wo tx ch jo tr dy sd f] (fun (q : Int32) => some (.int q)) (fun (q : Int32) => True) (fun (q : Int32) => [bTown g o a pe wo tx ch jo tr dy sd f]) := by
  refine zM'.of (cc := cX8_circleOf) (maxL := 5) (rt := (some .int)) (by decide) rfl (Nat.le_of_ble_eq_true rfl) ?_
  intro p e s m args below meth c A ls St hr hlocks hin hK hT hA hP hD hS hl
  obtain ⟨hx, hb, hml, hown, hts⟩ := id St
  have hl : lv_has ls 5 [(0, .ref o), (1, .int x1)] := hl
  refine lv_aload_n hx hb dX8_circleOf_0 rfl (lv_at hl 0 rfl) ?_
  refine lv_iload_n hx hb dX8_circleOf_1 rfl (lv_at hl 1 rfl) ?_
  refine mcallS' (g := g) (As := [.ref o, .int x1]) (rest := []) St hK hT hA hP hD hS hl.1 [0] [] rfl rfl rfl (c_i_wordOf l g o a pe wo tx ch jo tr dy sd f x1 b_pe b_wo rf b_x1) (va_cwS 2 hts (zgL (zl3 k508 k509 k505) k502) rfl rfl rfl (by decide +kernel) ⟨Nat.le_of_ble_eq_true rfl, Nat.le_of_ble_eq_true rfl⟩) rfl rfl (Nat.le_of_ble_eq_true rfl) dX8_circleOf_2 ⟨(Nat.le_of_ble_eq_true rfl), (Nat.le_of_ble_eq_true rfl)⟩ (fun q_1 H locs hq2 hP hD hS => ?_)
  have hP : va_P g.1 vwCl (List.flatten [bTown g o a pe wo tx ch jo tr dy sd f]) H := hP
  have hD : va_D A (List.flatten [bTown g o a pe wo tx ch jo tr dy sd f]) := hD
  refine W.widen (k := 0) (n := 0) (Nat.le_of_ble_eq_true rfl) (Nat.le_of_ble_eq_true rfl) ?_
  refine W.eq (g2 := F0 m 5 ls [.int q_1]) rfl ?_
  refine lv_istore_n (lv' := [(2, .int q_1), (0, .ref o), (1, .int x1)]) hx hb dX8_circleOf_5 rfl hl (by decide) rfl (fun ls hl => ?_)
  refine lv_iconst (v := 0) hx hb dX8_circleOf_6 (by decide) ?_
  refine lv_istore_n (lv' := [(3, .int 0), (2, .int q_1), (0, .ref o), (1, .int x1)]) hx hb dX8_circleOf_7 rfl hl (by decide) rfl (fun ls hl => ?_)
  refine lv_iconst (v := 0) hx hb dX8_circleOf_8 (by decide) ?_
  refine lv_istore (lv' := [(4, .int 0), (3, .int 0), (2, .int q_1), (0, .ref o), (1, .int x1)]) hx hb dX8_circleOf_9 hl (by decide) rfl (fun ls hl => ?_)
  have hl := lv_sub (l' := [(0, .ref o), (1, .int x1), (2, .int q_1), (3, .int 0), (4, .int 0)]) hl [3, 4, 2, 1, 0] rfl
  have LP11_6 : ∀ (kf : Nat) (x_3 : Int32) (x_4 : Int32), (0 ≤ x_4.toInt ∧ x_4.toInt ≤ 8) → ∀ (H : Heap) (locs : List Loc) (ls : Array Slot), ((9 - x_4.toInt).toNat) < kf → va_P g.1 vwCl (List.flatten [bTown g o a pe wo tx ch jo tr dy sd f]) H → va_D A (List.flatten [bTown g o a pe wo tx ch jo tr dy sd f]) → va_S A s.heap H locs → lv_has ls 5 [(0, .ref o), (1, .int x1), (2, .int q_1), (3, .int x_3), (4, .int x_4)] → W p l e ({ frames := 3, cells := 0, slots := 0, locals := 69 } : Room) s m args below meth c H locs (0) (0) (zF g (fun (q : Int32) => some (.int q)) (fun (q : Int32) => True) (fun (q : Int32) => [bTown g o a pe wo tx ch jo tr dy sd f]) ({ frames := 3, cells := 0, slots := 0, locals := 69 } : Room) below args s A) (F0 m 11 ls []) := by
    intro kf
    induction kf with
    | zero => intro x_3 x_4 i5 H locs ls hk; exact absurd hk (Nat.not_lt_zero _)
    | succ kf ih11_7 =>
      intro x_3 x_4 i5 H locs ls hk11_7 hP hD hS hl
      refine lv_iload hx hb dX8_circleOf_11 (lv_at hl 4 rfl) ?_
      refine lv_aload_n hx hb dX8_circleOf_13 rfl (lv_at hl 0 rfl) ?_
      refine va_get (D := g.1) (ci := 7) (v := .int pe) (C := RX9) (T := TX9) (N := 19) hx hb hts izRX9 hown hK hP 0 rfl rfl 0 (by decide) (hts _ k500) (fun _ h9 => h9) rfl dX8_circleOf_14 ?_
      refine lv_icmp_ge (tgt := 55) hx hb dX8_circleOf_17 (by decide) (fun cb9 => ?_) (fun cb9 => ?_)
      · skip
        have c8 : pe.toInt ≤ x_4.toInt := zle cb9 rfl rfl
        refine lv_iload_n hx hb dX8_circleOf_55 rfl (lv_at hl 3 rfl) ?_
        have hP : va_P g.1 vwCl (List.flatten [bTown g o a pe wo tx ch jo tr dy sd f]) H := hP
        have hD : va_D A (List.flatten [bTown g o a pe wo tx ch jo tr dy sd f]) := hD
        exact mret_i hx hb hr hlocks hS (Nat.le_of_ble_eq_true rfl) (Nat.le_of_ble_eq_true rfl) dX8_circleOf_56 (x_3) rfl trivial hP hD
      · skip
        have c9 : x_4.toInt < pe.toInt := zlti (Int32.not_le.mp cb9) rfl rfl
        have n10 : x_4.toInt ≤ 7 := zL1 (b := 8) c9 b_pe.2 (by decide)
        have n11 : 1 ≤ pe.toInt := zL2 (a := 0) c9 i5.1 (by decide)
        refine lv_iload_n hx hb dX8_circleOf_20 rfl (lv_at hl 2 rfl) ?_
        refine lv_iload hx hb dX8_circleOf_21 (lv_at hl 4 rfl) ?_
        refine lv_ishr hx hb dX8_circleOf_23 ?_
        refine zg (fun x_12 => ?_)
        refine lv_iconst (v := 1) hx hb dX8_circleOf_24 (by decide) ?_
        refine lv_iand hx hb dX8_circleOf_25 ?_
        refine zgb (zand1 _) (fun x_13 hx_13 => ?_)
        refine lv_if_eq (tgt := 49) hx hb dX8_circleOf_26 (by decide) (fun cb9 => ?_) (fun cb9 => ?_)
        · skip
          have c14 : x_13.toInt = 0 := zeq cb9 rfl (by decide)
          have n15 : x_13.toInt ≤ 0 := Int.le_trans (Int.le_of_eq c14) (Int.le_refl _)
          refine ziinc3 (n' := 1) (a' := 1) (b' := 8) (lv' := fun v9 => [(4, .int v9), (0, .ref o), (1, .int x1), (2, .int q_1), (3, .int x_3)]) hx hb dX8_circleOf_49 hl (k := 4) rfl (by decide) (fun _ => rfl) (zaddK (i := x_4.toInt) (j := 1) rfl (by decide) i5.1 n10 (Int.le_refl _) (Int.le_refl _) (by decide)) (fun x_16 ls hx_16 hl => ?_)
          refine lv_goto (tgt := 11) hx hb dX8_circleOf_52 (by decide) ?_
          have hl := lv_sub (l' := [(0, .ref o), (1, .int x1), (2, .int q_1), (3, .int x_3), (4, .int x_16)]) hl [1, 2, 3, 4, 0] rfl
          have hP : va_P g.1 vwCl (List.flatten [bTown g o a pe wo tx ch jo tr dy sd f]) H := hP
          have hD : va_D A (List.flatten [bTown g o a pe wo tx ch jo tr dy sd f]) := hD
          exact ih11_7 x_3 x_16 ⟨(Int.le_trans (by decide) hx_16.2.1), hx_16.2.2⟩ H _ ls (zmK hx_16.1 (by decide) n10 (by decide) hk11_7)  hP hD hS (lv_sub hl [0, 1, 2, 3, 4] rfl)
        · skip
          have c17 : ¬ x_13.toInt = 0 := zne cb9 rfl (by decide)
          have n18 : 1 ≤ x_13.toInt := zN1 c17 hx_13.1 (by decide)
          refine lv_aload_n hx hb dX8_circleOf_29 rfl (lv_at hl 0 rfl) ?_
          refine lv_iload hx hb dX8_circleOf_30 (lv_at hl 4 rfl) ?_
          refine mcallS' (g := g) (As := [.ref o, .int x_4]) (rest := []) St hK hT hA hP hD hS hl.1 [0] [] rfl rfl rfl (c_i_wordOf l g o a pe wo tx ch jo tr dy sd f x_4 b_pe b_wo rf (⟨i5.1, n10⟩)) (va_cwS 2 hts (zgL (zl3 k508 k509 k505) k502) rfl rfl rfl (by decide +kernel) ⟨Nat.le_of_ble_eq_true rfl, Nat.le_of_ble_eq_true rfl⟩) rfl rfl (Nat.le_of_ble_eq_true rfl) dX8_circleOf_32 ⟨(Nat.le_of_ble_eq_true rfl), (Nat.le_of_ble_eq_true rfl)⟩ (fun q_19 H locs hq20 hP hD hS => ?_)
          have hP : va_P g.1 vwCl (List.flatten [bTown g o a pe wo tx ch jo tr dy sd f]) H := hP
          have hD : va_D A (List.flatten [bTown g o a pe wo tx ch jo tr dy sd f]) := hD
          refine W.widen (k := 0) (n := 0) (Nat.le_of_ble_eq_true rfl) (Nat.le_of_ble_eq_true rfl) ?_
          refine W.eq (g2 := F0 m 35 ls [.int q_19]) rfl ?_
          refine lv_iload_n hx hb dX8_circleOf_35 rfl (lv_at hl 1 rfl) ?_
          refine lv_ishr hx hb dX8_circleOf_36 ?_
          refine zg (fun x_21 => ?_)
          refine lv_iconst (v := 1) hx hb dX8_circleOf_37 (by decide) ?_
          refine lv_iand hx hb dX8_circleOf_38 ?_
          refine zgb (zand1 _) (fun x_22 hx_22 => ?_)
          refine lv_if_eq (tgt := 49) hx hb dX8_circleOf_39 (by decide) (fun cb9 => ?_) (fun cb9 => ?_)
          · skip
            have c23 : x_22.toInt = 0 := zeq cb9 rfl (by decide)
            have n24 : x_22.toInt ≤ 0 := Int.le_trans (Int.le_of_eq c23) (Int.le_refl _)
            refine ziinc3 (n' := 1) (a' := 1) (b' := 8) (lv' := fun v9 => [(4, .int v9), (0, .ref o), (1, .int x1), (2, .int q_1), (3, .int x_3)]) hx hb dX8_circleOf_49 hl (k := 4) rfl (by decide) (fun _ => rfl) (zaddK (i := x_4.toInt) (j := 1) rfl (by decide) i5.1 n10 (Int.le_refl _) (Int.le_refl _) (by decide)) (fun x_25 ls hx_25 hl => ?_)
            refine lv_goto (tgt := 11) hx hb dX8_circleOf_52 (by decide) ?_
            have hl := lv_sub (l' := [(0, .ref o), (1, .int x1), (2, .int q_1), (3, .int x_3), (4, .int x_25)]) hl [1, 2, 3, 4, 0] rfl
            have hP : va_P g.1 vwCl (List.flatten [bTown g o a pe wo tx ch jo tr dy sd f]) H := hP
            have hD : va_D A (List.flatten [bTown g o a pe wo tx ch jo tr dy sd f]) := hD
            exact ih11_7 x_3 x_25 ⟨(Int.le_trans (by decide) hx_25.2.1), hx_25.2.2⟩ H _ ls (zmK hx_25.1 (by decide) n10 (by decide) hk11_7)  hP hD hS (lv_sub hl [0, 1, 2, 3, 4] rfl)
          · skip
            have c26 : ¬ x_22.toInt = 0 := zne cb9 rfl (by decide)
            have n27 : 1 ≤ x_22.toInt := zN1 c26 hx_22.1 (by decide)
            refine lv_iload_n hx hb dX8_circleOf_42 rfl (lv_at hl 3 rfl) ?_
            refine lv_iconst (v := 1) hx hb dX8_circleOf_43 (by decide) ?_
            refine lv_iload hx hb dX8_circleOf_44 (lv_at hl 4 rfl) ?_
            refine lv_ishl hx hb dX8_circleOf_46 ?_
            refine zgb (zshl1 (j := x_4.toInt) rfl 7 128 (by decide) (by decide) ⟨i5.1, n10⟩) (fun x_28 hx_28 => ?_)
            refine lv_ior hx hb dX8_circleOf_47 ?_
            refine zg (fun x_29 => ?_)
            refine lv_istore_n (lv' := [(3, .int x_29), (0, .ref o), (1, .int x1), (2, .int q_1), (4, .int x_4)]) hx hb dX8_circleOf_48 rfl hl (by decide) rfl (fun ls hl => ?_)
            refine ziinc3 (n' := 1) (a' := 1) (b' := 8) (lv' := fun v9 => [(4, .int v9), (3, .int x_29), (0, .ref o), (1, .int x1), (2, .int q_1)]) hx hb dX8_circleOf_49 hl (k := 4) rfl (by decide) (fun _ => rfl) (zaddK (i := x_4.toInt) (j := 1) rfl (by decide) i5.1 n10 (Int.le_refl _) (Int.le_refl _) (by decide)) (fun x_30 ls hx_30 hl => ?_)
            refine lv_goto (tgt := 11) hx hb dX8_circleOf_52 (by decide) ?_
            have hl := lv_sub (l' := [(0, .ref o), (1, .int x1), (2, .int q_1), (3, .int x_29), (4, .int x_30)]) hl [2, 3, 4, 1, 0] rfl
            have hP : va_P g.1 vwCl (List.flatten [bTown g o a pe wo tx ch jo tr dy sd f]) H := hP
            have hD : va_D A (List.flatten [bTown g o a pe wo tx ch jo tr dy sd f]) := hD
            exact ih11_7 x_29 x_30 ⟨(Int.le_trans (by decide) hx_30.2.1), hx_30.2.2⟩ H _ ls (zmK hx_30.1 (by decide) n10 (by decide) hk11_7)  hP hD hS (lv_sub hl [0, 1, 2, 3, 4] rfl)
  have hP : va_P g.1 vwCl (List.flatten [bTown g o a pe wo tx ch jo tr dy sd f]) H := hP
  have hD : va_D A (List.flatten [bTown g o a pe wo tx ch jo tr dy sd f]) := hD
  exact LP11_6 _ 0 0 (by decide) H _ ls (Nat.lt_succ_self _)  hP hD hS (lv_sub hl [0, 1, 2, 3, 4] rfl)
set_option maxRecDepth 100000 in
set_option maxHeartbeats 4000000 in
theorem c_i_countCircles (l : Launch) (g : zG) (o : Nat) (a : Nat → Nat) (pe : Int32) (wo : Int32) (tx : Int32) (ch : Int32) (jo : Int32) (tr : Int32) (dy : Int32) (sd : Int32) (f : Nat → Nat → Int32) (b_pe : 0 ≤ pe.toInt ∧ pe.toInt ≤ 8) (b_wo : 0 ≤ wo.toInt ∧ wo.toInt ≤ 6) (rf : zZ4 f) : zM' g l yX8_countCircles (Cond.code yX8_countCircles cX8_countCircles 5 (some .int) :: zB) ({ frames := 4, cells := 0, slots := 0, locals := 93 } : Room) [.ref o] [bTown g o a pe wo tx ch jo tr dy sd f] (fun (q : Int32) => some (.int q)) (fun (q : Int32) => True) (fun (q : Int32) => [bTown g o a pe wo tx ch jo tr dy sd f]) := by
  refine zM'.of (cc := cX8_countCircles) (maxL := 5) (rt := (some .int)) (by decide) rfl (Nat.le_of_ble_eq_true rfl) ?_
  intro p e s m args below meth c A ls St hr hlocks hin hK hT hA hP hD hS hl
  obtain ⟨hx, hb, hml, hown, hts⟩ := id St
  have hl : lv_has ls 5 [(0, .ref o)] := hl
  refine lv_iconst (v := 0) hx hb dX8_countCircles_0 (by decide) ?_
  refine lv_istore_n (lv' := [(1, .int 0), (0, .ref o)]) hx hb dX8_countCircles_1 rfl hl (by decide) rfl (fun ls hl => ?_)
  refine lv_iconst (v := 0) hx hb dX8_countCircles_2 (by decide) ?_
  refine lv_istore_n (lv' := [(2, .int 0), (1, .int 0), (0, .ref o)]) hx hb dX8_countCircles_3 rfl hl (by decide) rfl (fun ls hl => ?_)
  refine lv_iconst (v := 0) hx hb dX8_countCircles_4 (by decide) ?_
  refine lv_istore_n (lv' := [(3, .int 0), (2, .int 0), (1, .int 0), (0, .ref o)]) hx hb dX8_countCircles_5 rfl hl (by decide) rfl (fun ls hl => ?_)
  have hl := lv_sub (l' := [(0, .ref o), (1, .int 0), (2, .int 0), (3, .int 0)]) hl [3, 2, 1, 0] rfl
  have LP6_5 : ∀ (kf : Nat) (x_1 : Int32) (x_2 : Int32) (x_3 : Int32), (0 ≤ x_3.toInt ∧ x_3.toInt ≤ 8) → ∀ (H : Heap) (locs : List Loc) (ls : Array Slot), ((9 - x_3.toInt).toNat) < kf → va_P g.1 vwCl (List.flatten [bTown g o a pe wo tx ch jo tr dy sd f]) H → va_D A (List.flatten [bTown g o a pe wo tx ch jo tr dy sd f]) → va_S A s.heap H locs → lv_has ls 5 [(0, .ref o), (1, .int x_1), (2, .int x_2), (3, .int x_3)] → W p l e ({ frames := 4, cells := 0, slots := 0, locals := 93 } : Room) s m args below meth c H locs (0) (0) (zF g (fun (q : Int32) => some (.int q)) (fun (q : Int32) => True) (fun (q : Int32) => [bTown g o a pe wo tx ch jo tr dy sd f]) ({ frames := 4, cells := 0, slots := 0, locals := 93 } : Room) below args s A) (F0 m 6 ls []) := by
    intro kf
    induction kf with
    | zero => intro x_1 x_2 x_3 i4 H locs ls hk; exact absurd hk (Nat.not_lt_zero _)
    | succ kf ih6_6 =>
      intro x_1 x_2 x_3 i4 H locs ls hk6_6 hP hD hS hl
      refine lv_iload_n hx hb dX8_countCircles_6 rfl (lv_at hl 3 rfl) ?_
      refine lv_aload_n hx hb dX8_countCircles_7 rfl (lv_at hl 0 rfl) ?_
      refine va_get (D := g.1) (ci := 7) (v := .int pe) (C := RX9) (T := TX9) (N := 19) hx hb hts izRX9 hown hK hP 0 rfl rfl 0 (by decide) (hts _ k500) (fun _ h9 => h9) rfl dX8_countCircles_8 ?_
      refine lv_icmp_ge (tgt := 48) hx hb dX8_countCircles_11 (by decide) (fun cb9 => ?_) (fun cb9 => ?_)
      · skip
        have c7 : pe.toInt ≤ x_3.toInt := zle cb9 rfl rfl
        refine lv_iload_n hx hb dX8_countCircles_48 rfl (lv_at hl 1 rfl) ?_
        have hP : va_P g.1 vwCl (List.flatten [bTown g o a pe wo tx ch jo tr dy sd f]) H := hP
        have hD : va_D A (List.flatten [bTown g o a pe wo tx ch jo tr dy sd f]) := hD
        exact mret_i hx hb hr hlocks hS (Nat.le_of_ble_eq_true rfl) (Nat.le_of_ble_eq_true rfl) dX8_countCircles_49 (x_1) rfl trivial hP hD
      · skip
        have c8 : x_3.toInt < pe.toInt := zlti (Int32.not_le.mp cb9) rfl rfl
        have n9 : x_3.toInt ≤ 7 := zL1 (b := 8) c8 b_pe.2 (by decide)
        have n10 : 1 ≤ pe.toInt := zL2 (a := 0) c8 i4.1 (by decide)
        refine lv_aload_n hx hb dX8_countCircles_14 rfl (lv_at hl 0 rfl) ?_
        refine lv_iload_n hx hb dX8_countCircles_15 rfl (lv_at hl 3 rfl) ?_
        refine mcallS' (g := g) (As := [.ref o, .int x_3]) (rest := []) St hK hT hA hP hD hS hl.1 [0] [] rfl rfl rfl (c_i_circleOf l g o a pe wo tx ch jo tr dy sd f x_3 b_pe b_wo rf (⟨i4.1, n9⟩)) (va_cwS 2 hts (zgL (zl3 k511 k512 k505) k507) rfl rfl rfl (by decide +kernel) ⟨Nat.le_of_ble_eq_true rfl, Nat.le_of_ble_eq_true rfl⟩) rfl rfl (Nat.le_of_ble_eq_true rfl) dX8_countCircles_16 ⟨(Nat.le_of_ble_eq_true rfl), (Nat.le_of_ble_eq_true rfl)⟩ (fun q_11 H locs hq12 hP hD hS => ?_)
        have hP : va_P g.1 vwCl (List.flatten [bTown g o a pe wo tx ch jo tr dy sd f]) H := hP
        have hD : va_D A (List.flatten [bTown g o a pe wo tx ch jo tr dy sd f]) := hD
        refine W.widen (k := 0) (n := 0) (Nat.le_of_ble_eq_true rfl) (Nat.le_of_ble_eq_true rfl) ?_
        refine W.eq (g2 := F0 m 19 ls [.int q_11]) rfl ?_
        refine lv_istore (lv' := [(4, .int q_11), (0, .ref o), (1, .int x_1), (2, .int x_2), (3, .int x_3)]) hx hb dX8_countCircles_19 hl (by decide) rfl (fun ls hl => ?_)
        refine lv_iload hx hb dX8_countCircles_21 (lv_at hl 0 rfl) ?_
        refine lv_if_eq (tgt := 37) hx hb dX8_countCircles_23 (by decide) (fun cb9 => ?_) (fun cb9 => ?_)
        · skip
          have c13 : q_11.toInt = 0 := zeq cb9 rfl (by decide)
          have n14 : 0 ≤ q_11.toInt := Int.le_trans (Int.le_refl _) (Int.le_of_eq c13.symm)
          have n15 : q_11.toInt ≤ 0 := Int.le_trans (Int.le_of_eq c13) (Int.le_refl _)
          refine lv_iload_n hx hb dX8_countCircles_37 rfl (lv_at hl 3 rfl) ?_
          refine lv_iload hx hb dX8_countCircles_38 (lv_at hl 0 rfl) ?_
          refine lv_ior hx hb dX8_countCircles_40 ?_
          refine zg (fun x_16 => ?_)
          refine lv_istore_n (lv' := [(2, .int x_16), (4, .int q_11), (0, .ref o), (1, .int x_1), (3, .int x_3)]) hx hb dX8_countCircles_41 rfl hl (by decide) rfl (fun ls hl => ?_)
          refine ziinc3 (n' := 1) (a' := 1) (b' := 8) (lv' := fun v9 => [(3, .int v9), (2, .int x_16), (4, .int q_11), (0, .ref o), (1, .int x_1)]) hx hb dX8_countCircles_42 hl (k := 4) rfl (by decide) (fun _ => rfl) (zaddK (i := x_3.toInt) (j := 1) rfl (by decide) i4.1 n9 (Int.le_refl _) (Int.le_refl _) (by decide)) (fun x_17 ls hx_17 hl => ?_)
          refine lv_goto (tgt := 6) hx hb dX8_countCircles_45 (by decide) ?_
          have hl := lv_sub (l' := [(0, .ref o), (1, .int x_1), (2, .int x_16), (3, .int x_17), (4, .int q_11)]) hl [3, 4, 1, 0, 2] rfl
          have hP : va_P g.1 vwCl (List.flatten [bTown g o a pe wo tx ch jo tr dy sd f]) H := hP
          have hD : va_D A (List.flatten [bTown g o a pe wo tx ch jo tr dy sd f]) := hD
          exact ih6_6 x_1 x_16 x_17 ⟨(Int.le_trans (by decide) hx_17.2.1), hx_17.2.2⟩ H _ ls (zmK hx_17.1 (by decide) n9 (by decide) hk6_6)  hP hD hS (lv_sub hl [0, 1, 2, 3] rfl)
        · skip
          have c18 : ¬ q_11.toInt = 0 := zne cb9 rfl (by decide)
          refine lv_iload_n hx hb dX8_countCircles_26 rfl (lv_at hl 3 rfl) ?_
          refine lv_iload_n hx hb dX8_countCircles_27 rfl (lv_at hl 4 rfl) ?_
          refine lv_ishr hx hb dX8_countCircles_28 ?_
          refine zg (fun x_19 => ?_)
          refine lv_iconst (v := 1) hx hb dX8_countCircles_29 (by decide) ?_
          refine lv_iand hx hb dX8_countCircles_30 ?_
          refine zgb (zand1 _) (fun x_20 hx_20 => ?_)
          refine lv_if_ne (tgt := 37) hx hb dX8_countCircles_31 (by decide) (fun cb9 => ?_) (fun cb9 => ?_)
          · skip
            have c21 : ¬ x_20.toInt = 0 := zne cb9 rfl (by decide)
            have n22 : 1 ≤ x_20.toInt := zN1 c21 hx_20.1 (by decide)
            refine lv_iload_n hx hb dX8_countCircles_37 rfl (lv_at hl 3 rfl) ?_
            refine lv_iload hx hb dX8_countCircles_38 (lv_at hl 0 rfl) ?_
            refine lv_ior hx hb dX8_countCircles_40 ?_
            refine zg (fun x_23 => ?_)
            refine lv_istore_n (lv' := [(2, .int x_23), (4, .int q_11), (0, .ref o), (1, .int x_1), (3, .int x_3)]) hx hb dX8_countCircles_41 rfl hl (by decide) rfl (fun ls hl => ?_)
            refine ziinc3 (n' := 1) (a' := 1) (b' := 8) (lv' := fun v9 => [(3, .int v9), (2, .int x_23), (4, .int q_11), (0, .ref o), (1, .int x_1)]) hx hb dX8_countCircles_42 hl (k := 4) rfl (by decide) (fun _ => rfl) (zaddK (i := x_3.toInt) (j := 1) rfl (by decide) i4.1 n9 (Int.le_refl _) (Int.le_refl _) (by decide)) (fun x_24 ls hx_24 hl => ?_)
            refine lv_goto (tgt := 6) hx hb dX8_countCircles_45 (by decide) ?_
            have hl := lv_sub (l' := [(0, .ref o), (1, .int x_1), (2, .int x_23), (3, .int x_24), (4, .int q_11)]) hl [3, 4, 1, 0, 2] rfl
            have hP : va_P g.1 vwCl (List.flatten [bTown g o a pe wo tx ch jo tr dy sd f]) H := hP
            have hD : va_D A (List.flatten [bTown g o a pe wo tx ch jo tr dy sd f]) := hD
            exact ih6_6 x_1 x_23 x_24 ⟨(Int.le_trans (by decide) hx_24.2.1), hx_24.2.2⟩ H _ ls (zmK hx_24.1 (by decide) n9 (by decide) hk6_6)  hP hD hS (lv_sub hl [0, 1, 2, 3] rfl)
          · skip
            have c25 : x_20.toInt = 0 := zeq cb9 rfl (by decide)
            have n26 : x_20.toInt ≤ 0 := Int.le_trans (Int.le_of_eq c25) (Int.le_refl _)
            refine ziincG (lv' := fun v9 => [(1, .int v9), (4, .int q_11), (0, .ref o), (2, .int x_2), (3, .int x_3)]) hx hb dX8_countCircles_34 hl (k := 2) rfl (by decide) (fun _ => rfl) (fun x_27 ls hl => ?_)
            refine lv_iload_n hx hb dX8_countCircles_37 rfl (lv_at hl 3 rfl) ?_
            refine lv_iload hx hb dX8_countCircles_38 (lv_at hl 1 rfl) ?_
            refine lv_ior hx hb dX8_countCircles_40 ?_
            refine zg (fun x_28 => ?_)
            refine lv_istore_n (lv' := [(2, .int x_28), (1, .int x_27), (4, .int q_11), (0, .ref o), (3, .int x_3)]) hx hb dX8_countCircles_41 rfl hl (by decide) rfl (fun ls hl => ?_)
            refine ziinc3 (n' := 1) (a' := 1) (b' := 8) (lv' := fun v9 => [(3, .int v9), (2, .int x_28), (1, .int x_27), (4, .int q_11), (0, .ref o)]) hx hb dX8_countCircles_42 hl (k := 4) rfl (by decide) (fun _ => rfl) (zaddK (i := x_3.toInt) (j := 1) rfl (by decide) i4.1 n9 (Int.le_refl _) (Int.le_refl _) (by decide)) (fun x_29 ls hx_29 hl => ?_)
            refine lv_goto (tgt := 6) hx hb dX8_countCircles_45 (by decide) ?_
            have hl := lv_sub (l' := [(0, .ref o), (1, .int x_27), (2, .int x_28), (3, .int x_29), (4, .int q_11)]) hl [4, 2, 1, 0, 3] rfl
            have hP : va_P g.1 vwCl (List.flatten [bTown g o a pe wo tx ch jo tr dy sd f]) H := hP
            have hD : va_D A (List.flatten [bTown g o a pe wo tx ch jo tr dy sd f]) := hD
            exact ih6_6 x_27 x_28 x_29 ⟨(Int.le_trans (by decide) hx_29.2.1), hx_29.2.2⟩ H _ ls (zmK hx_29.1 (by decide) n9 (by decide) hk6_6)  hP hD hS (lv_sub hl [0, 1, 2, 3] rfl)
  have hP : va_P g.1 vwCl (List.flatten [bTown g o a pe wo tx ch jo tr dy sd f]) s.heap := hP
  have hD : va_D A (List.flatten [bTown g o a pe wo tx ch jo tr dy sd f]) := hD
  exact LP6_5 _ 0 0 0 (by decide) s.heap _ ls (Nat.lt_succ_self _)  hP hD hS (lv_sub hl [0, 1, 2, 3] rfl)
