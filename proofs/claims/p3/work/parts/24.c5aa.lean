def bFo (g : zG) (fo : Nat) (o : Nat) (lo : Nat) (od : Nat) : va_W := [(fo, .inr (0, [.ref o, .ref lo, .ref od]))]
def bRi (g : zG) (ro : Nat) (rw : Nat) (ri : Int32) (rt : Int32) (rb : Nat → Int32) : va_W := [(ro, .inr (5, [.ref rw, .int ri, .int rt])), (rw, .inl (g.2 1, 256, .inl rb))]
theorem zlcN {x : Int64} (h : 0 < lg_cmp x 0) : ¬ x = 0 := fun e => by subst e; exact absurd h (by decide)
set_option maxRecDepth 100000 in
set_option maxHeartbeats 4000000 in
theorem c_f_lookAhead (l : Launch) (g : zG) (fo : Nat) (o : Nat) (lo : Nat) (od : Nat) (a : Nat → Nat) (pe : Int32) (wo : Int32) (tx : Int32) (ch : Int32) (jo : Int32) (tr : Int32) (dy : Int32) (sd : Int32) (f : Nat → Nat → Int32) (lc : Nat) (lz : Int32) (ll : Int32) (lm : Int32) (lg : Int32) (ld : Int32) (fc : Nat → Int32) (ad : Nat → Nat) (ped : Int32) (wod : Int32) (txd : Int32) (chd : Int32) (jod : Int32) (trd : Int32) (dyd : Int32) (sdd : Int32) (fd : Nat → Nat → Int32) (st0 : Int32) (by9 : Int32) (n : Int32) (b_pe : 0 ≤ pe.toInt ∧ pe.toInt ≤ 8) (b_wo : 0 ≤ wo.toInt ∧ wo.toInt ≤ 6) (rf : zZ4 f) (b_lz : 0 ≤ lz.toInt ∧ lz.toInt ≤ 400) (b_ped : 0 ≤ ped.toInt ∧ ped.toInt ≤ 8) (b_wod : 0 ≤ wod.toInt ∧ wod.toInt ≤ 6) (rfd : zZ4 fd) (b_n : 0 ≤ n.toInt ∧ n.toInt ≤ 100) : zM' g l yX0_lookAhead (Cond.code yX0_lookAhead cX0_lookAhead 5 (some .int) :: zB) ({ frames := 6, cells := 0, slots := 0, locals := 128 } : Room) [.ref fo, .int st0, .int by9, .int n] [bFo g fo o lo od, bTown g o a pe wo tx ch jo tr dy sd f, bLaw g lo lc lz ll lm lg ld fc, bTown g od ad ped wod txd chd jod trd dyd sdd fd] (fun u : Int32 × Int32 × Int32 × Int32 × Int32 × Int32 × Int32 × Int32 × Int32 × Int32 × Int32 × (Nat → Nat → Int32) × Int32 => (fun (lm2 : Int32) (lg2 : Int32) (ld2 : Int32) (pe3 : Int32) (wo3 : Int32) (tx3 : Int32) (ch3 : Int32) (jo3 : Int32) (tr3 : Int32) (dy3 : Int32) (sd3 : Int32) (f3 : Nat → Nat → Int32) (q : Int32) => some (.int q)) (u.1) (u.2.1) (u.2.2.1) (u.2.2.2.1) (u.2.2.2.2.1) (u.2.2.2.2.2.1) (u.2.2.2.2.2.2.1) (u.2.2.2.2.2.2.2.1) (u.2.2.2.2.2.2.2.2.1) (u.2.2.2.2.2.2.2.2.2.1) (u.2.2.2.2.2.2.2.2.2.2.1) (u.2.2.2.2.2.2.2.2.2.2.2.1) (u.2.2.2.2.2.2.2.2.2.2.2.2)) (fun u : Int32 × Int32 × Int32 × Int32 × Int32 × Int32 × Int32 × Int32 × Int32 × Int32 × Int32 × (Nat → Nat → Int32) × Int32 => (fun (lm2 : Int32) (lg2 : Int32) (ld2 : Int32) (pe3 : Int32) (wo3 : Int32) (tx3 : Int32) (ch3 : Int32) (jo3 : Int32) (tr3 : Int32) (dy3 : Int32) (sd3 : Int32) (f3 : Nat → Nat → Int32) (q : Int32) => (0 ≤ pe3.toInt ∧ pe3.toInt ≤ 8) ∧ (0 ≤ wo3.toInt ∧ wo3.toInt ≤ 6) ∧ (zZ4 f3)) (u.1) (u.2.1) (u.2.2.1) (u.2.2.2.1) (u.2.2.2.2.1) (u.2.2.2.2.2.1) (u.2.2.2.2.2.2.1) (u.2.2.2.2.2.2.2.1) (u.2.2.2.2.2.2.2.2.1) (u.2.2.2.2.2.2.2.2.2.1) (u.2.2.2.2.2.2.2.2.2.2.1) (u.2.2.2.2.2.2.2.2.2.2.2.1) (u.2.2.2.2.2.2.2.2.2.2.2.2)) (fun u : Int32 × Int32 × Int32 × Int32 × Int32 × Int32 × Int32 × Int32 × Int32 × Int32 × Int32 × (Nat → Nat → Int32) × Int32 => (fun (lm2 : Int32) (lg2 : Int32) (ld2 : Int32) (pe3 : Int32) (wo3 : Int32) (tx3 : Int32) (ch3 : Int32) (jo3 : Int32) (tr3 : Int32) (dy3 : Int32) (sd3 : Int32) (f3 : Nat → Nat → Int32) (q : Int32) => [bFo g fo o lo od, bTown g o a pe wo tx ch jo tr dy sd f, bLaw g lo lc lz ll lm2 lg2 ld2 fc, bTown g od ad pe3 wo3 tx3 ch3 jo3 tr3 dy3 sd3 f3]) (u.1) (u.2.1) (u.2.2.1) (u.2.2.2.1) (u.2.2.2.2.1) (u.2.2.2.2.2.1) (u.2.2.2.2.2.2.1) (u.2.2.2.2.2.2.2.1) (u.2.2.2.2.2.2.2.2.1) (u.2.2.2.2.2.2.2.2.2.1) (u.2.2.2.2.2.2.2.2.2.2.1) (u.2.2.2.2.2.2.2.2.2.2.2.1) (u.2.2.2.2.2.2.2.2.2.2.2.2)) := by
  refine zM'.of (cc := cX0_lookAhead) (maxL := 5) (rt := (some .int)) (by decide) rfl (Nat.le_of_ble_eq_true rfl) ?_
  intro p e s m args below meth c A ls St hr hlocks hin hK hT hA hP hD hS hl
  obtain ⟨hx, hb, hml, hown, hts⟩ := id St
  have hl : lv_has ls 5 [(0, .ref fo), (1, .int st0), (2, .int by9), (3, .int n)] := hl
  refine lv_aload_n hx hb dX0_lookAhead_0 rfl (lv_at hl 0 rfl) ?_
  refine va_get (D := g.1) (ci := 0) (v := .ref od) (C := RX0) (T := TX0) (N := 3) hx hb hts izRX0 hown hK hP 0 rfl rfl 2 (by decide) (hts _ k25) (fun _ h9 => h9) rfl dX0_lookAhead_1 ?_
  refine lv_aload_n hx hb dX0_lookAhead_4 rfl (lv_at hl 0 rfl) ?_
  refine va_get (D := g.1) (ci := 0) (v := .ref o) (C := RX0) (T := TX0) (N := 3) hx hb hts izRX0 hown hK hP 0 rfl rfl 0 (by decide) (hts _ k26) (fun _ h9 => h9) rfl dX0_lookAhead_5 ?_
  refine mcallV' (g := g) (q0 := 0) (ci := 7) (As := [.ref o]) (rest := []) St hK hT hA hP hD hS hl.1 [3, 1] [0, 2] rfl rfl rfl (c_copyFrom l g od ad ped wod txd chd jod trd dyd sdd fd o a pe wo tx ch jo tr dy sd f b_pe b_wo rf) (cwV 1 hts (zgL (zl4 k156 k157 k158 k24) k30) rfl rfl rfl (by decide +kernel) ⟨Nat.le_of_ble_eq_true rfl, Nat.le_of_ble_eq_true rfl⟩) rfl rfl rfl rfl (Nat.le_of_ble_eq_true rfl) dX0_lookAhead_8 ⟨(Nat.le_of_ble_eq_true rfl), (Nat.le_of_ble_eq_true rfl)⟩ (fun h_1 H locs hq2 hP hD hS => ?_)
  replace hq2 : (zZ4 h_1) := hq2
  have hP : va_P g.1 vwCl (List.flatten [bFo g fo o lo od, bLaw g lo lc lz ll lm lg ld fc, bTown g od ad pe wo tx ch jo tr dy sd h_1, bTown g o a pe wo tx ch jo tr dy sd f]) H := hP
  have hD : va_D A (List.flatten [bFo g fo o lo od, bLaw g lo lc lz ll lm lg ld fc, bTown g od ad pe wo tx ch jo tr dy sd h_1, bTown g o a pe wo tx ch jo tr dy sd f]) := hD
  refine W.widen (k := 0) (n := 0) (Nat.le_of_ble_eq_true rfl) (Nat.le_of_ble_eq_true rfl) ?_
  refine W.eq (g2 := F0 m 11 ls []) rfl ?_
  have rh_1 := hq2; clear hq2
  refine lv_iconst (v := 0) hx hb dX0_lookAhead_11 (by decide) ?_
  refine lv_istore (lv' := [(4, .int 0), (0, .ref fo), (1, .int st0), (2, .int by9), (3, .int n)]) hx hb dX0_lookAhead_12 hl (by decide) rfl (fun ls hl => ?_)
  have hl := lv_sub (l' := [(0, .ref fo), (1, .int st0), (2, .int by9), (3, .int n), (4, .int 0)]) hl [1, 2, 3, 4, 0] rfl
  have LP14_6 : ∀ (kf : Nat) (x_3 : Int32) (f_4 : Nat → Nat → Int32), (0 ≤ x_3.toInt ∧ x_3.toInt ≤ 8) → (zZ4 f_4) → ∀ (H : Heap) (locs : List Loc) (ls : Array Slot), ((9 - x_3.toInt).toNat) < kf → va_P g.1 vwCl (List.flatten [bFo g fo o lo od, bLaw g lo lc lz ll lm lg ld fc, bTown g od ad pe wo tx ch jo tr dy sd f_4, bTown g o a pe wo tx ch jo tr dy sd f]) H → va_D A (List.flatten [bFo g fo o lo od, bLaw g lo lc lz ll lm lg ld fc, bTown g od ad pe wo tx ch jo tr dy sd f_4, bTown g o a pe wo tx ch jo tr dy sd f]) → va_S A s.heap H locs → lv_has ls 5 [(0, .ref fo), (1, .int st0), (2, .int by9), (3, .int n), (4, .int x_3)] → W p l e ({ frames := 6, cells := 0, slots := 0, locals := 128 } : Room) s m args below meth c H locs (0) (0) (zF g (fun u : Int32 × Int32 × Int32 × Int32 × Int32 × Int32 × Int32 × Int32 × Int32 × Int32 × Int32 × (Nat → Nat → Int32) × Int32 => (fun (lm2 : Int32) (lg2 : Int32) (ld2 : Int32) (pe3 : Int32) (wo3 : Int32) (tx3 : Int32) (ch3 : Int32) (jo3 : Int32) (tr3 : Int32) (dy3 : Int32) (sd3 : Int32) (f3 : Nat → Nat → Int32) (q : Int32) => some (.int q)) (u.1) (u.2.1) (u.2.2.1) (u.2.2.2.1) (u.2.2.2.2.1) (u.2.2.2.2.2.1) (u.2.2.2.2.2.2.1) (u.2.2.2.2.2.2.2.1) (u.2.2.2.2.2.2.2.2.1) (u.2.2.2.2.2.2.2.2.2.1) (u.2.2.2.2.2.2.2.2.2.2.1) (u.2.2.2.2.2.2.2.2.2.2.2.1) (u.2.2.2.2.2.2.2.2.2.2.2.2)) (fun u : Int32 × Int32 × Int32 × Int32 × Int32 × Int32 × Int32 × Int32 × Int32 × Int32 × Int32 × (Nat → Nat → Int32) × Int32 => (fun (lm2 : Int32) (lg2 : Int32) (ld2 : Int32) (pe3 : Int32) (wo3 : Int32) (tx3 : Int32) (ch3 : Int32) (jo3 : Int32) (tr3 : Int32) (dy3 : Int32) (sd3 : Int32) (f3 : Nat → Nat → Int32) (q : Int32) => (0 ≤ pe3.toInt ∧ pe3.toInt ≤ 8) ∧ (0 ≤ wo3.toInt ∧ wo3.toInt ≤ 6) ∧ (zZ4 f3)) (u.1) (u.2.1) (u.2.2.1) (u.2.2.2.1) (u.2.2.2.2.1) (u.2.2.2.2.2.1) (u.2.2.2.2.2.2.1) (u.2.2.2.2.2.2.2.1) (u.2.2.2.2.2.2.2.2.1) (u.2.2.2.2.2.2.2.2.2.1) (u.2.2.2.2.2.2.2.2.2.2.1) (u.2.2.2.2.2.2.2.2.2.2.2.1) (u.2.2.2.2.2.2.2.2.2.2.2.2)) (fun u : Int32 × Int32 × Int32 × Int32 × Int32 × Int32 × Int32 × Int32 × Int32 × Int32 × Int32 × (Nat → Nat → Int32) × Int32 => (fun (lm2 : Int32) (lg2 : Int32) (ld2 : Int32) (pe3 : Int32) (wo3 : Int32) (tx3 : Int32) (ch3 : Int32) (jo3 : Int32) (tr3 : Int32) (dy3 : Int32) (sd3 : Int32) (f3 : Nat → Nat → Int32) (q : Int32) => [bFo g fo o lo od, bTown g o a pe wo tx ch jo tr dy sd f, bLaw g lo lc lz ll lm2 lg2 ld2 fc, bTown g od ad pe3 wo3 tx3 ch3 jo3 tr3 dy3 sd3 f3]) (u.1) (u.2.1) (u.2.2.1) (u.2.2.2.1) (u.2.2.2.2.1) (u.2.2.2.2.2.1) (u.2.2.2.2.2.2.1) (u.2.2.2.2.2.2.2.1) (u.2.2.2.2.2.2.2.2.1) (u.2.2.2.2.2.2.2.2.2.1) (u.2.2.2.2.2.2.2.2.2.2.1) (u.2.2.2.2.2.2.2.2.2.2.2.1) (u.2.2.2.2.2.2.2.2.2.2.2.2)) ({ frames := 6, cells := 0, slots := 0, locals := 128 } : Room) below args s A) (F0 m 14 ls []) := by
    intro kf
    induction kf with
    | zero => intro x_3 f_4 i5 rf_4 H locs ls hk; exact absurd hk (Nat.not_lt_zero _)
    | succ kf ih14_7 =>
      intro x_3 f_4 i5 rf_4 H locs ls hk14_7 hP hD hS hl
      refine lv_iload hx hb dX0_lookAhead_14 (lv_at hl 4 rfl) ?_
      refine lv_aload_n hx hb dX0_lookAhead_16 rfl (lv_at hl 0 rfl) ?_
      refine va_get (D := g.1) (ci := 0) (v := .ref o) (C := RX0) (T := TX0) (N := 3) hx hb hts izRX0 hown hK hP 0 rfl rfl 0 (by decide) (hts _ k26) (fun _ h9 => h9) rfl dX0_lookAhead_17 ?_
      refine va_get (D := g.1) (ci := 7) (v := .int pe) (C := RX9) (T := TX9) (N := 19) hx hb hts izRX9 hown hK hP 15 rfl rfl 0 (by decide) (hts _ k155) (fun _ h9 => h9) rfl dX0_lookAhead_20 ?_
      refine lv_icmp_ge (tgt := 51) hx hb dX0_lookAhead_23 (by decide) (fun cb9 => ?_) (fun cb9 => ?_)
      · skip
        have c8 : pe.toInt ≤ x_3.toInt := zle cb9 rfl rfl
        refine lv_iconst (v := 0) hx hb dX0_lookAhead_51 (by decide) ?_
        refine lv_istore (lv' := [(4, .int 0), (0, .ref fo), (1, .int st0), (2, .int by9), (3, .int n)]) hx hb dX0_lookAhead_52 hl (by decide) rfl (fun ls hl => ?_)
        have hl := lv_sub (l' := [(0, .ref fo), (1, .int st0), (2, .int by9), (3, .int n), (4, .int 0)]) hl [1, 2, 3, 4, 0] rfl
        have LP54_18 : ∀ (kf : Nat) (x_9 : Int32) (x_10 : Int32) (x_11 : Int32) (x_12 : Int32) (x_13 : Int32) (x_14 : Int32) (x_15 : Int32) (f_16 : Nat → Nat → Int32), (0 ≤ x_9.toInt ∧ x_9.toInt ≤ 100) → (zZ4 f_16) → ∀ (H : Heap) (locs : List Loc) (ls : Array Slot), ((101 - x_9.toInt).toNat) < kf → va_P g.1 vwCl (List.flatten [bFo g fo o lo od, bLaw g lo lc lz ll x_10 x_11 x_12 fc, bTown g od ad pe wo tx x_13 jo tr x_14 x_15 f_16, bTown g o a pe wo tx ch jo tr dy sd f]) H → va_D A (List.flatten [bFo g fo o lo od, bLaw g lo lc lz ll x_10 x_11 x_12 fc, bTown g od ad pe wo tx x_13 jo tr x_14 x_15 f_16, bTown g o a pe wo tx ch jo tr dy sd f]) → va_S A s.heap H locs → lv_has ls 5 [(0, .ref fo), (1, .int st0), (2, .int by9), (3, .int n), (4, .int x_9)] → W p l e ({ frames := 6, cells := 0, slots := 0, locals := 128 } : Room) s m args below meth c H locs (0) (0) (zF g (fun u : Int32 × Int32 × Int32 × Int32 × Int32 × Int32 × Int32 × Int32 × Int32 × Int32 × Int32 × (Nat → Nat → Int32) × Int32 => (fun (lm2 : Int32) (lg2 : Int32) (ld2 : Int32) (pe3 : Int32) (wo3 : Int32) (tx3 : Int32) (ch3 : Int32) (jo3 : Int32) (tr3 : Int32) (dy3 : Int32) (sd3 : Int32) (f3 : Nat → Nat → Int32) (q : Int32) => some (.int q)) (u.1) (u.2.1) (u.2.2.1) (u.2.2.2.1) (u.2.2.2.2.1) (u.2.2.2.2.2.1) (u.2.2.2.2.2.2.1) (u.2.2.2.2.2.2.2.1) (u.2.2.2.2.2.2.2.2.1) (u.2.2.2.2.2.2.2.2.2.1) (u.2.2.2.2.2.2.2.2.2.2.1) (u.2.2.2.2.2.2.2.2.2.2.2.1) (u.2.2.2.2.2.2.2.2.2.2.2.2)) (fun u : Int32 × Int32 × Int32 × Int32 × Int32 × Int32 × Int32 × Int32 × Int32 × Int32 × Int32 × (Nat → Nat → Int32) × Int32 => (fun (lm2 : Int32) (lg2 : Int32) (ld2 : Int32) (pe3 : Int32) (wo3 : Int32) (tx3 : Int32) (ch3 : Int32) (jo3 : Int32) (tr3 : Int32) (dy3 : Int32) (sd3 : Int32) (f3 : Nat → Nat → Int32) (q : Int32) => (0 ≤ pe3.toInt ∧ pe3.toInt ≤ 8) ∧ (0 ≤ wo3.toInt ∧ wo3.toInt ≤ 6) ∧ (zZ4 f3)) (u.1) (u.2.1) (u.2.2.1) (u.2.2.2.1) (u.2.2.2.2.1) (u.2.2.2.2.2.1) (u.2.2.2.2.2.2.1) (u.2.2.2.2.2.2.2.1) (u.2.2.2.2.2.2.2.2.1) (u.2.2.2.2.2.2.2.2.2.1) (u.2.2.2.2.2.2.2.2.2.2.1) (u.2.2.2.2.2.2.2.2.2.2.2.1) (u.2.2.2.2.2.2.2.2.2.2.2.2)) (fun u : Int32 × Int32 × Int32 × Int32 × Int32 × Int32 × Int32 × Int32 × Int32 × Int32 × Int32 × (Nat → Nat → Int32) × Int32 => (fun (lm2 : Int32) (lg2 : Int32) (ld2 : Int32) (pe3 : Int32) (wo3 : Int32) (tx3 : Int32) (ch3 : Int32) (jo3 : Int32) (tr3 : Int32) (dy3 : Int32) (sd3 : Int32) (f3 : Nat → Nat → Int32) (q : Int32) => [bFo g fo o lo od, bTown g o a pe wo tx ch jo tr dy sd f, bLaw g lo lc lz ll lm2 lg2 ld2 fc, bTown g od ad pe3 wo3 tx3 ch3 jo3 tr3 dy3 sd3 f3]) (u.1) (u.2.1) (u.2.2.1) (u.2.2.2.1) (u.2.2.2.2.1) (u.2.2.2.2.2.1) (u.2.2.2.2.2.2.1) (u.2.2.2.2.2.2.2.1) (u.2.2.2.2.2.2.2.2.1) (u.2.2.2.2.2.2.2.2.2.1) (u.2.2.2.2.2.2.2.2.2.2.1) (u.2.2.2.2.2.2.2.2.2.2.2.1) (u.2.2.2.2.2.2.2.2.2.2.2.2)) ({ frames := 6, cells := 0, slots := 0, locals := 128 } : Room) below args s A) (F0 m 54 ls []) := by
          intro kf
          induction kf with
          | zero => intro x_9 x_10 x_11 x_12 x_13 x_14 x_15 f_16 i17 rf_16 H locs ls hk; exact absurd hk (Nat.not_lt_zero _)
          | succ kf ih54_19 =>
            intro x_9 x_10 x_11 x_12 x_13 x_14 x_15 f_16 i17 rf_16 H locs ls hk54_19 hP hD hS hl
            refine lv_iload hx hb dX0_lookAhead_54 (lv_at hl 4 rfl) ?_
            refine lv_iload_n hx hb dX0_lookAhead_56 rfl (lv_at hl 3 rfl) ?_
            refine lv_icmp_ge (tgt := 80) hx hb dX0_lookAhead_57 (by decide) (fun cb9 => ?_) (fun cb9 => ?_)
            · skip
              have c20 : n.toInt ≤ x_9.toInt := zle cb9 rfl rfl
              refine lv_aload_n hx hb dX0_lookAhead_80 rfl (lv_at hl 0 rfl) ?_
              refine va_get (D := g.1) (ci := 0) (v := .ref od) (C := RX0) (T := TX0) (N := 3) hx hb hts izRX0 hown hK hP 0 rfl rfl 2 (by decide) (hts _ k25) (fun _ h9 => h9) rfl dX0_lookAhead_81 ?_
              refine mcallV' (g := g) (q0 := 0) (ci := 7) (As := []) (rest := []) St hK hT hA hP hD hS hl.1 [2] [0, 1, 3] rfl rfl rfl (c_believed l g od ad pe wo tx x_13 jo tr x_14 x_15 f_16 b_pe b_wo rf_16) (cwV 0 hts (zgL (zl4 k163 k69 k70 k24) k60) rfl rfl rfl (by decide +kernel) ⟨Nat.le_of_ble_eq_true rfl, Nat.le_of_ble_eq_true rfl⟩) rfl rfl rfl rfl (Nat.le_of_ble_eq_true rfl) dX0_lookAhead_84 ⟨(Nat.le_of_ble_eq_true rfl), (Nat.le_of_ble_eq_true rfl)⟩ (fun q_21 H locs hq22 hP hD hS => ?_)
              have hP : va_P g.1 vwCl (List.flatten [bFo g fo o lo od, bLaw g lo lc lz ll x_10 x_11 x_12 fc, bTown g o a pe wo tx ch jo tr dy sd f, bTown g od ad pe wo tx x_13 jo tr x_14 x_15 f_16]) H := hP
              have hD : va_D A (List.flatten [bFo g fo o lo od, bLaw g lo lc lz ll x_10 x_11 x_12 fc, bTown g o a pe wo tx ch jo tr dy sd f, bTown g od ad pe wo tx x_13 jo tr x_14 x_15 f_16]) := hD
              refine W.widen (k := 0) (n := 0) (Nat.le_of_ble_eq_true rfl) (Nat.le_of_ble_eq_true rfl) ?_
              refine W.eq (g2 := F0 m 87 ls [.int q_21]) rfl ?_
              have hP : va_P g.1 vwCl (List.flatten [bFo g fo o lo od, bLaw g lo lc lz ll x_10 x_11 x_12 fc, bTown g o a pe wo tx ch jo tr dy sd f, bTown g od ad pe wo tx x_13 jo tr x_14 x_15 f_16]) H := hP
              have hD : va_D A (List.flatten [bFo g fo o lo od, bLaw g lo lc lz ll x_10 x_11 x_12 fc, bTown g o a pe wo tx ch jo tr dy sd f, bTown g od ad pe wo tx x_13 jo tr x_14 x_15 f_16]) := hD
              obtain ⟨hP, hD⟩ := zord (g := g) (Bs' := [bFo g fo o lo od, bTown g o a pe wo tx ch jo tr dy sd f, bLaw g lo lc lz ll x_10 x_11 x_12 fc, bTown g od ad pe wo tx x_13 jo tr x_14 x_15 f_16]) [0, 2, 1, 3] rfl rfl hP hD
              exact mret_i hx hb hr hlocks hS (Nat.le_of_ble_eq_true rfl) (Nat.le_of_ble_eq_true rfl) dX0_lookAhead_87 (x_10, x_11, x_12, pe, wo, tx, x_13, jo, tr, x_14, x_15, f_16, q_21) rfl (show (0 ≤ pe.toInt ∧ pe.toInt ≤ 8) ∧ (0 ≤ wo.toInt ∧ wo.toInt ≤ 6) ∧ (zZ4 f_16) from ⟨b_pe, b_wo, rf_16⟩) hP hD
            · skip
              have c23 : x_9.toInt < n.toInt := zlti (Int32.not_le.mp cb9) rfl rfl
              have n24 : x_9.toInt ≤ 99 := zL1 (b := 100) c23 b_n.2 (by decide)
              have n25 : 1 ≤ n.toInt := zL2 (a := 0) c23 i17.1 (by decide)
              refine lv_aload_n hx hb dX0_lookAhead_60 rfl (lv_at hl 0 rfl) ?_
              refine va_get (D := g.1) (ci := 0) (v := .ref od) (C := RX0) (T := TX0) (N := 3) hx hb hts izRX0 hown hK hP 0 rfl rfl 2 (by decide) (hts _ k25) (fun _ h9 => h9) rfl dX0_lookAhead_61 ?_
              refine lv_aload_n hx hb dX0_lookAhead_64 rfl (lv_at hl 0 rfl) ?_
              refine va_get (D := g.1) (ci := 0) (v := .ref lo) (C := RX0) (T := TX0) (N := 3) hx hb hts izRX0 hown hK hP 0 rfl rfl 1 (by decide) (hts _ k27) (fun _ h9 => h9) rfl dX0_lookAhead_65 ?_
              refine lv_iconst (v := 0) hx hb dX0_lookAhead_68 (by decide) ?_
              refine lv_null hx hb dX0_lookAhead_69 ?_
              refine mcallV' (g := g) (q0 := 0) (ci := 7) (As := [.ref lo, .int 0, .null]) (rest := []) St hK hT hA hP hD hS hl.1 [2, 1] [0, 3] rfl rfl rfl (c_passDayN l g od ad pe wo tx x_13 jo tr x_14 x_15 f_16 lo lc lz ll x_10 x_11 x_12 fc 0 b_pe b_wo rf_16 b_lz) (cwV 3 hts (zgL (zl4 k160 k161 k162 k24) k154) rfl rfl rfl (by decide +kernel) ⟨Nat.le_of_ble_eq_true rfl, Nat.le_of_ble_eq_true rfl⟩) rfl rfl rfl rfl (Nat.le_of_ble_eq_true rfl) dX0_lookAhead_70 ⟨(Nat.le_of_ble_eq_true rfl), (Nat.le_of_ble_eq_true rfl)⟩ (fun u_ H locs hq34 hP hD hS => ?_)
              obtain ⟨ch2_26, dy2_27, sd2_28, f2_29, lm2_30, lg2_31, ld2_32, q_33⟩ := u_
              replace hq34 : (zZ4 f2_29) := hq34
              have hP : va_P g.1 vwCl (List.flatten [bFo g fo o lo od, bTown g o a pe wo tx ch jo tr dy sd f, bTown g od ad pe wo tx ch2_26 jo tr dy2_27 sd2_28 f2_29, bLaw g lo lc lz ll lm2_30 lg2_31 ld2_32 fc]) H := hP
              have hD : va_D A (List.flatten [bFo g fo o lo od, bTown g o a pe wo tx ch jo tr dy sd f, bTown g od ad pe wo tx ch2_26 jo tr dy2_27 sd2_28 f2_29, bLaw g lo lc lz ll lm2_30 lg2_31 ld2_32 fc]) := hD
              refine W.widen (k := 0) (n := 0) (Nat.le_of_ble_eq_true rfl) (Nat.le_of_ble_eq_true rfl) ?_
              refine W.eq (g2 := F0 m 73 ls [.int q_33]) rfl ?_
              have rf2_29 := hq34; clear hq34
              refine lv_pop hx hb dX0_lookAhead_73 rfl ?_
              refine ziinc3 (n' := 1) (a' := 1) (b' := 100) (lv' := fun v9 => [(4, .int v9), (0, .ref fo), (1, .int st0), (2, .int by9), (3, .int n)]) hx hb dX0_lookAhead_74 hl (k := 4) rfl (by decide) (fun _ => rfl) (zaddK (i := x_9.toInt) (j := 1) rfl (by decide) i17.1 n24 (Int.le_refl _) (Int.le_refl _) (by decide)) (fun x_35 ls hx_35 hl => ?_)
              refine lv_goto (tgt := 54) hx hb dX0_lookAhead_77 (by decide) ?_
              have hl := lv_sub (l' := [(0, .ref fo), (1, .int st0), (2, .int by9), (3, .int n), (4, .int x_35)]) hl [1, 2, 3, 4, 0] rfl
              have hP : va_P g.1 vwCl (List.flatten [bFo g fo o lo od, bTown g o a pe wo tx ch jo tr dy sd f, bTown g od ad pe wo tx ch2_26 jo tr dy2_27 sd2_28 f2_29, bLaw g lo lc lz ll lm2_30 lg2_31 ld2_32 fc]) H := hP
              have hD : va_D A (List.flatten [bFo g fo o lo od, bTown g o a pe wo tx ch jo tr dy sd f, bTown g od ad pe wo tx ch2_26 jo tr dy2_27 sd2_28 f2_29, bLaw g lo lc lz ll lm2_30 lg2_31 ld2_32 fc]) := hD
              obtain ⟨hP, hD⟩ := zord (g := g) (Bs' := [bFo g fo o lo od, bLaw g lo lc lz ll lm2_30 lg2_31 ld2_32 fc, bTown g od ad pe wo tx ch2_26 jo tr dy2_27 sd2_28 f2_29, bTown g o a pe wo tx ch jo tr dy sd f]) [0, 3, 2, 1] rfl rfl hP hD
              have hP : va_P g.1 vwCl (List.flatten [bFo g fo o lo od, bLaw g lo lc lz ll lm2_30 lg2_31 ld2_32 fc, bTown g od ad pe wo tx ch2_26 jo tr dy2_27 sd2_28 f2_29, bTown g o a pe wo tx ch jo tr dy sd f]) H := hP
              have hD : va_D A (List.flatten [bFo g fo o lo od, bLaw g lo lc lz ll lm2_30 lg2_31 ld2_32 fc, bTown g od ad pe wo tx ch2_26 jo tr dy2_27 sd2_28 f2_29, bTown g o a pe wo tx ch jo tr dy sd f]) := hD
              exact ih54_19 x_35 lm2_30 lg2_31 ld2_32 ch2_26 dy2_27 sd2_28 f2_29 ⟨(Int.le_trans (by decide) hx_35.2.1), hx_35.2.2⟩ rf2_29 H _ ls (zmK hx_35.1 (by decide) n24 (by decide) hk54_19)  hP hD hS (lv_sub hl [0, 1, 2, 3, 4] rfl)
        have hP : va_P g.1 vwCl (List.flatten [bFo g fo o lo od, bLaw g lo lc lz ll lm lg ld fc, bTown g od ad pe wo tx ch jo tr dy sd f_4, bTown g o a pe wo tx ch jo tr dy sd f]) H := hP
        have hD : va_D A (List.flatten [bFo g fo o lo od, bLaw g lo lc lz ll lm lg ld fc, bTown g od ad pe wo tx ch jo tr dy sd f_4, bTown g o a pe wo tx ch jo tr dy sd f]) := hD
        exact LP54_18 _ 0 lm lg ld ch dy sd f_4 (by decide) rf_4 H _ ls (Nat.lt_succ_self _)  hP hD hS (lv_sub hl [0, 1, 2, 3, 4] rfl)
      · skip
        have c36 : x_3.toInt < pe.toInt := zlti (Int32.not_le.mp cb9) rfl rfl
        have n37 : x_3.toInt ≤ 7 := zL1 (b := 8) c36 b_pe.2 (by decide)
        have n38 : 1 ≤ pe.toInt := zL2 (a := 0) c36 i5.1 (by decide)
        refine lv_iload_n hx hb dX0_lookAhead_26 rfl (lv_at hl 1 rfl) ?_
        refine lv_iload hx hb dX0_lookAhead_27 (lv_at hl 4 rfl) ?_
        refine lv_ishr hx hb dX0_lookAhead_29 ?_
        refine zg (fun x_39 => ?_)
        refine lv_iconst (v := 1) hx hb dX0_lookAhead_30 (by decide) ?_
        refine lv_iand hx hb dX0_lookAhead_31 ?_
        refine zgb (zand1 _) (fun x_40 hx_40 => ?_)
        refine lv_if_eq (tgt := 45) hx hb dX0_lookAhead_32 (by decide) (fun cb9 => ?_) (fun cb9 => ?_)
        · skip
          have c41 : x_40.toInt = 0 := zeq cb9 rfl (by decide)
          have n42 : x_40.toInt ≤ 0 := Int.le_trans (Int.le_of_eq c41) (Int.le_refl _)
          refine ziinc3 (n' := 1) (a' := 1) (b' := 8) (lv' := fun v9 => [(4, .int v9), (0, .ref fo), (1, .int st0), (2, .int by9), (3, .int n)]) hx hb dX0_lookAhead_45 hl (k := 4) rfl (by decide) (fun _ => rfl) (zaddK (i := x_3.toInt) (j := 1) rfl (by decide) i5.1 n37 (Int.le_refl _) (Int.le_refl _) (by decide)) (fun x_43 ls hx_43 hl => ?_)
          refine lv_goto (tgt := 14) hx hb dX0_lookAhead_48 (by decide) ?_
          have hl := lv_sub (l' := [(0, .ref fo), (1, .int st0), (2, .int by9), (3, .int n), (4, .int x_43)]) hl [1, 2, 3, 4, 0] rfl
          have hP : va_P g.1 vwCl (List.flatten [bFo g fo o lo od, bLaw g lo lc lz ll lm lg ld fc, bTown g od ad pe wo tx ch jo tr dy sd f_4, bTown g o a pe wo tx ch jo tr dy sd f]) H := hP
          have hD : va_D A (List.flatten [bFo g fo o lo od, bLaw g lo lc lz ll lm lg ld fc, bTown g od ad pe wo tx ch jo tr dy sd f_4, bTown g o a pe wo tx ch jo tr dy sd f]) := hD
          exact ih14_7 x_43 f_4 ⟨(Int.le_trans (by decide) hx_43.2.1), hx_43.2.2⟩ rf_4 H _ ls (zmK hx_43.1 (by decide) n37 (by decide) hk14_7)  hP hD hS (lv_sub hl [0, 1, 2, 3, 4] rfl)
        · skip
          have c44 : ¬ x_40.toInt = 0 := zne cb9 rfl (by decide)
          have n45 : 1 ≤ x_40.toInt := zN1 c44 hx_40.1 (by decide)
          refine lv_aload_n hx hb dX0_lookAhead_35 rfl (lv_at hl 0 rfl) ?_
          refine va_get (D := g.1) (ci := 0) (v := .ref od) (C := RX0) (T := TX0) (N := 3) hx hb hts izRX0 hown hK hP 0 rfl rfl 2 (by decide) (hts _ k25) (fun _ h9 => h9) rfl dX0_lookAhead_36 ?_
          refine lv_iload hx hb dX0_lookAhead_39 (lv_at hl 4 rfl) ?_
          refine lv_iload_n hx hb dX0_lookAhead_41 rfl (lv_at hl 2 rfl) ?_
          refine mcallV' (g := g) (q0 := 0) (ci := 7) (As := [.int x_3, .int by9]) (rest := []) St hK hT hA hP hD hS hl.1 [2] [0, 1, 3] rfl rfl rfl (c_raise l g od ad pe wo tx ch jo tr dy sd f_4 x_3 by9 rf_4 (⟨i5.1, n37⟩)) (cwV 2 hts (zgL (zl4 k159 k132 k133 k24) k47) rfl rfl rfl (by decide +kernel) ⟨Nat.le_of_ble_eq_true rfl, Nat.le_of_ble_eq_true rfl⟩) rfl rfl rfl rfl (Nat.le_of_ble_eq_true rfl) dX0_lookAhead_42 ⟨(Nat.le_of_ble_eq_true rfl), (Nat.le_of_ble_eq_true rfl)⟩ (fun f2_46 H locs hq47 hP hD hS => ?_)
          replace hq47 : (zZ4 f2_46) := hq47
          have hP : va_P g.1 vwCl (List.flatten [bFo g fo o lo od, bLaw g lo lc lz ll lm lg ld fc, bTown g o a pe wo tx ch jo tr dy sd f, bTown g od ad pe wo tx ch jo tr dy sd f2_46]) H := hP
          have hD : va_D A (List.flatten [bFo g fo o lo od, bLaw g lo lc lz ll lm lg ld fc, bTown g o a pe wo tx ch jo tr dy sd f, bTown g od ad pe wo tx ch jo tr dy sd f2_46]) := hD
          refine W.widen (k := 0) (n := 0) (Nat.le_of_ble_eq_true rfl) (Nat.le_of_ble_eq_true rfl) ?_
          refine W.eq (g2 := F0 m 45 ls []) rfl ?_
          have rf2_46 := hq47; clear hq47
          refine ziinc3 (n' := 1) (a' := 1) (b' := 8) (lv' := fun v9 => [(4, .int v9), (0, .ref fo), (1, .int st0), (2, .int by9), (3, .int n)]) hx hb dX0_lookAhead_45 hl (k := 4) rfl (by decide) (fun _ => rfl) (zaddK (i := x_3.toInt) (j := 1) rfl (by decide) i5.1 n37 (Int.le_refl _) (Int.le_refl _) (by decide)) (fun x_48 ls hx_48 hl => ?_)
          refine lv_goto (tgt := 14) hx hb dX0_lookAhead_48 (by decide) ?_
          have hl := lv_sub (l' := [(0, .ref fo), (1, .int st0), (2, .int by9), (3, .int n), (4, .int x_48)]) hl [1, 2, 3, 4, 0] rfl
          have hP : va_P g.1 vwCl (List.flatten [bFo g fo o lo od, bLaw g lo lc lz ll lm lg ld fc, bTown g o a pe wo tx ch jo tr dy sd f, bTown g od ad pe wo tx ch jo tr dy sd f2_46]) H := hP
          have hD : va_D A (List.flatten [bFo g fo o lo od, bLaw g lo lc lz ll lm lg ld fc, bTown g o a pe wo tx ch jo tr dy sd f, bTown g od ad pe wo tx ch jo tr dy sd f2_46]) := hD
          obtain ⟨hP, hD⟩ := zord (g := g) (Bs' := [bFo g fo o lo od, bLaw g lo lc lz ll lm lg ld fc, bTown g od ad pe wo tx ch jo tr dy sd f2_46, bTown g o a pe wo tx ch jo tr dy sd f]) [0, 1, 3, 2] rfl rfl hP hD
          have hP : va_P g.1 vwCl (List.flatten [bFo g fo o lo od, bLaw g lo lc lz ll lm lg ld fc, bTown g od ad pe wo tx ch jo tr dy sd f2_46, bTown g o a pe wo tx ch jo tr dy sd f]) H := hP
          have hD : va_D A (List.flatten [bFo g fo o lo od, bLaw g lo lc lz ll lm lg ld fc, bTown g od ad pe wo tx ch jo tr dy sd f2_46, bTown g o a pe wo tx ch jo tr dy sd f]) := hD
          exact ih14_7 x_48 f2_46 ⟨(Int.le_trans (by decide) hx_48.2.1), hx_48.2.2⟩ rf2_46 H _ ls (zmK hx_48.1 (by decide) n37 (by decide) hk14_7)  hP hD hS (lv_sub hl [0, 1, 2, 3, 4] rfl)
  have hP : va_P g.1 vwCl (List.flatten [bFo g fo o lo od, bLaw g lo lc lz ll lm lg ld fc, bTown g od ad pe wo tx ch jo tr dy sd h_1, bTown g o a pe wo tx ch jo tr dy sd f]) H := hP
  have hD : va_D A (List.flatten [bFo g fo o lo od, bLaw g lo lc lz ll lm lg ld fc, bTown g od ad pe wo tx ch jo tr dy sd h_1, bTown g o a pe wo tx ch jo tr dy sd f]) := hD
  exact LP14_6 _ 0 h_1 (by decide) rh_1 H _ ls (Nat.lt_succ_self _)  hP hD hS (lv_sub hl [0, 1, 2, 3, 4] rfl)
