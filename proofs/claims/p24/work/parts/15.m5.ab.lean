set_option maxRecDepth 100000 in
set_option maxHeartbeats 4000000 in
theorem m_richest (l : Launch) (g : zG) (o : Nat) (a : Nat → Nat) (th : Int32) (hi : Int32) (ac : Int32) (tp : Int32) (ba : Int32) (en : Int32) (tA : Int32) (fl : Int32) (de : Int32) (iD : Int32) (iO : Int32) (tU : Int32) (fm : Nat → Int32) (fk : Nat → Int32) (fa : Nat → Int32) (fc : Nat → Int32) (ft : Nat → Int32) (ff : Nat → Int32) (fb : Nat → Int32) (fi : Nat → Int32) (rfm : rM fm) : zM' g l yX12_richest (Cond.code yX12_richest cX12_richest 3 (some .int) :: zB) ({ frames := 6, cells := 0, slots := 0, locals := 127 } : Room) [.ref o] [bMo g o a th hi ac tp ba en tA fl de iD iO tU fm fk fa fc ft ff fb fi] (fun u : Int32 × Int32 => (fun (th2 : Int32) (q : Int32) => some (.int q)) (u.1) (u.2)) (fun u : Int32 × Int32 => (fun (th2 : Int32) (q : Int32) => True) (u.1) (u.2)) (fun u : Int32 × Int32 => (fun (th2 : Int32) (q : Int32) => [bMo g o a th2 hi ac tp ba en tA fl de iD iO tU fm fk fa fc ft ff fb fi]) (u.1) (u.2)) := by
  refine zM'.of (cc := cX12_richest) (maxL := 3) (rt := (some .int)) (by decide) rfl (Nat.le_of_ble_eq_true rfl) ?_
  intro p e s m args below meth c A ls St hr hlocks hin hK hT hA hP hD hS hl
  obtain ⟨hx, hb, hml, hown, hts⟩ := id St
  have hl : lv_has ls 3 [(0, .ref o)] := hl
  refine lv_aload_n hx hb dX12_richest_0 rfl (lv_at hl 0 rfl) ?_
  refine lv_iconst (v := 0) hx hb dX12_richest_1 (by decide) ?_
  refine va_put (D := g.1) (ci := 10) (v := .int 0) (ty := .int) (C := RX12) (T := TX12) (N := 20) hx hb hts izRX12 tyX12 tyX12_ok nmX12 hown hK hP hD hS 0 rfl rfl 0 (by decide) (hts _ k825) (fun _ h9 => h9) rfl (by decide +kernel) rfl rfl (Nat.le_of_ble_eq_true rfl) dX12_richest_2 (fun H locs hP hD hS => ?_)
  have hP : va_P g.1 vwCl (List.flatten [bMo g o a 0 hi ac tp ba en tA fl de iD iO tU fm fk fa fc ft ff fb fi]) H := hP
  have hD : va_D A (List.flatten [bMo g o a 0 hi ac tp ba en tA fl de iD iO tU fm fk fa fc ft ff fb fi]) := hD
  refine lv_iconst (v := (-1)) hx hb dX12_richest_5 (by decide) ?_
  refine lv_istore_n (lv' := [(1, .int (-1)), (0, .ref o)]) hx hb dX12_richest_6 rfl hl (by decide) rfl (fun ls hl => ?_)
  refine lv_iconst (v := 0) hx hb dX12_richest_7 (by decide) ?_
  refine lv_istore_n (lv' := [(2, .int 0), (1, .int (-1)), (0, .ref o)]) hx hb dX12_richest_8 rfl hl (by decide) rfl (fun ls hl => ?_)
  have hl := lv_sub (l' := [(0, .ref o), (1, .int (-1)), (2, .int 0)]) hl [2, 1, 0] rfl
  have LP9_5 : ∀ (kf : Nat) (x_1 : Int32) (x_2 : Int32), ((-1) ≤ x_1.toInt ∧ x_1.toInt ≤ 7) → (0 ≤ x_2.toInt ∧ x_2.toInt ≤ 8) → ∀ (H : Heap) (locs : List Loc) (ls : Array Slot), ((9 - x_2.toInt).toNat) < kf → va_P g.1 vwCl (List.flatten [bMo g o a 0 hi ac tp ba en tA fl de iD iO tU fm fk fa fc ft ff fb fi]) H → va_D A (List.flatten [bMo g o a 0 hi ac tp ba en tA fl de iD iO tU fm fk fa fc ft ff fb fi]) → va_S A s.heap H locs → lv_has ls 3 [(0, .ref o), (1, .int x_1), (2, .int x_2)] → W p l e ({ frames := 6, cells := 0, slots := 0, locals := 127 } : Room) s m args below meth c H locs (0) (0) (zF g (fun u : Int32 × Int32 => (fun (th2 : Int32) (q : Int32) => some (.int q)) (u.1) (u.2)) (fun u : Int32 × Int32 => (fun (th2 : Int32) (q : Int32) => True) (u.1) (u.2)) (fun u : Int32 × Int32 => (fun (th2 : Int32) (q : Int32) => [bMo g o a th2 hi ac tp ba en tA fl de iD iO tU fm fk fa fc ft ff fb fi]) (u.1) (u.2)) ({ frames := 6, cells := 0, slots := 0, locals := 127 } : Room) below args s A) (F0 m 9 ls []) := by
    intro kf
    induction kf with
    | zero => intro x_1 x_2 i3 i4 H locs ls hk; exact absurd hk (Nat.not_lt_zero _)
    | succ kf ih9_6 =>
      intro x_1 x_2 i3 i4 H locs ls hk9_6 hP hD hS hl
      refine lv_iload_n hx hb dX12_richest_9 rfl (lv_at hl 2 rfl) ?_
      refine lv_aload_n hx hb dX12_richest_10 rfl (lv_at hl 0 rfl) ?_
      refine va_get (D := g.1) (ci := 10) (v := .ref (a 0)) (C := RX12) (T := TX12) (N := 20) hx hb hts izRX12 hown hK hP 0 rfl rfl 1 (by decide) (hts _ k815) (fun _ h9 => h9) rfl dX12_richest_11 ?_
      refine lv_iconst (v := 3) hx hb dX12_richest_14 (by decide) ?_
      refine va_iald hx hb hK hP 1 0 rfl rfl (zin rfl) dX12_richest_15 ?_
      refine zgq (r := fm 3) rfl (rM3 rfm) (fun x_7 hx_7 => ?_)
      refine lv_icmp_ge (tgt := 45) hx hb dX12_richest_16 (by decide) (fun cb9 => ?_) (fun cb9 => ?_)
      · skip
        have c8 : x_7.toInt ≤ x_2.toInt := zle cb9 rfl rfl
        refine lv_iload_n hx hb dX12_richest_45 rfl (lv_at hl 1 rfl) ?_
        have hP : va_P g.1 vwCl (List.flatten [bMo g o a 0 hi ac tp ba en tA fl de iD iO tU fm fk fa fc ft ff fb fi]) H := hP
        have hD : va_D A (List.flatten [bMo g o a 0 hi ac tp ba en tA fl de iD iO tU fm fk fa fc ft ff fb fi]) := hD
        exact mret_i hx hb hr hlocks hS (Nat.le_of_ble_eq_true rfl) (Nat.le_of_ble_eq_true rfl) dX12_richest_46 ((0 : Int32), x_1) rfl trivial hP hD
      · skip
        have c9 : x_2.toInt < x_7.toInt := zlti (Int32.not_le.mp cb9) rfl rfl
        have n10 : x_2.toInt ≤ 7 := zL1 (b := 8) c9 hx_7.2.1 (by decide)
        have n11 : 1 ≤ x_7.toInt := zL2 (a := 0) c9 i4.1 (by decide)
        refine lv_iload_n hx hb dX12_richest_19 rfl (lv_at hl 1 rfl) ?_
        refine lv_iconst (v := (-1)) hx hb dX12_richest_20 (by decide) ?_
        refine lv_icmp_eq (tgt := 37) hx hb dX12_richest_21 (by decide) (fun cb9 => ?_) (fun cb9 => ?_)
        · skip
          have c12 : x_1.toInt = (-1) := zeq cb9 rfl (by decide)
          have n13 : x_1.toInt ≤ (-1) := Int.le_trans (Int.le_of_eq c12) (Int.le_refl _)
          refine lv_iload_n hx hb dX12_richest_37 rfl (lv_at hl 2 rfl) ?_
          refine lv_istore_n (lv' := [(1, .int x_2), (0, .ref o), (2, .int x_2)]) hx hb dX12_richest_38 rfl hl (by decide) rfl (fun ls hl => ?_)
          refine ziinc3 (n' := 1) (a' := 1) (b' := 8) (lv' := fun v9 => [(2, .int v9), (1, .int x_2), (0, .ref o)]) hx hb dX12_richest_39 hl (k := 2) rfl (by decide) (fun _ => rfl) (zaddK (i := x_2.toInt) (j := 1) rfl (by decide) i4.1 n10 (Int.le_refl _) (Int.le_refl _) (by decide)) (fun x_14 ls hx_14 hl => ?_)
          refine lv_goto (tgt := 9) hx hb dX12_richest_42 (by decide) ?_
          have hl := lv_sub (l' := [(0, .ref o), (1, .int x_2), (2, .int x_14)]) hl [2, 1, 0] rfl
          have hP : va_P g.1 vwCl (List.flatten [bMo g o a 0 hi ac tp ba en tA fl de iD iO tU fm fk fa fc ft ff fb fi]) H := hP
          have hD : va_D A (List.flatten [bMo g o a 0 hi ac tp ba en tA fl de iD iO tU fm fk fa fc ft ff fb fi]) := hD
          exact ih9_6 x_2 x_14 ⟨(Int.le_trans (by decide) i4.1), n10⟩ ⟨(Int.le_trans (by decide) hx_14.2.1), hx_14.2.2⟩ H _ ls (zmK hx_14.1 (by decide) n10 (by decide) hk9_6)  hP hD hS (lv_sub hl [0, 1, 2] rfl)
        · skip
          have c15 : ¬ x_1.toInt = (-1) := zne cb9 rfl (by decide)
          have n16 : 0 ≤ x_1.toInt := zN1 c15 i3.1 (by decide)
          refine lv_aload_n hx hb dX12_richest_24 rfl (lv_at hl 0 rfl) ?_
          refine lv_iload_n hx hb dX12_richest_25 rfl (lv_at hl 2 rfl) ?_
          refine mcallV' (g := g) (q0 := 0) (ci := 10) (As := [.int x_2]) (rest := []) St hK hT hA hP hD hS hl.1 [0] [] rfl rfl rfl (m_worth l g o a 0 hi ac tp ba en tA fl de iD iO tU fm fk fa fc ft ff fb fi x_2 rfm (⟨i4.1, n10⟩)) (cwV 1 hts (zgL (zl4 k1036 k1037 k1038 k839) k1032) rfl rfl rfl (by decide +kernel) ⟨Nat.le_of_ble_eq_true rfl, Nat.le_of_ble_eq_true rfl⟩) rfl rfl rfl rfl (Nat.le_of_ble_eq_true rfl) dX12_richest_26 ⟨(Nat.le_of_ble_eq_true rfl), (Nat.le_of_ble_eq_true rfl)⟩ (fun q_17 H locs hq18 hP hD hS => ?_)
          have hP : va_P g.1 vwCl (List.flatten [bMo g o a 0 hi ac tp ba en tA fl de iD iO tU fm fk fa fc ft ff fb fi]) H := hP
          have hD : va_D A (List.flatten [bMo g o a 0 hi ac tp ba en tA fl de iD iO tU fm fk fa fc ft ff fb fi]) := hD
          refine W.widen (k := 0) (n := 0) (Nat.le_of_ble_eq_true rfl) (Nat.le_of_ble_eq_true rfl) ?_
          refine W.eq (g2 := F0 m 29 ls [.int q_17]) rfl ?_
          refine lv_aload_n hx hb dX12_richest_29 rfl (lv_at hl 0 rfl) ?_
          refine lv_iload_n hx hb dX12_richest_30 rfl (lv_at hl 1 rfl) ?_
          refine mcallV' (g := g) (q0 := 0) (ci := 10) (As := [.int x_1]) (rest := [.int q_17]) St hK hT hA hP hD hS hl.1 [0] [] rfl rfl rfl (m_worth l g o a 0 hi ac tp ba en tA fl de iD iO tU fm fk fa fc ft ff fb fi x_1 rfm (⟨n16, i3.2⟩)) (cwV 1 hts (zgL (zl4 k1036 k1037 k1038 k839) k1032) rfl rfl rfl (by decide +kernel) ⟨Nat.le_of_ble_eq_true rfl, Nat.le_of_ble_eq_true rfl⟩) rfl rfl rfl rfl (Nat.le_of_ble_eq_true rfl) dX12_richest_31 ⟨(Nat.le_of_ble_eq_true rfl), (Nat.le_of_ble_eq_true rfl)⟩ (fun q_19 H locs hq20 hP hD hS => ?_)
          have hP : va_P g.1 vwCl (List.flatten [bMo g o a 0 hi ac tp ba en tA fl de iD iO tU fm fk fa fc ft ff fb fi]) H := hP
          have hD : va_D A (List.flatten [bMo g o a 0 hi ac tp ba en tA fl de iD iO tU fm fk fa fc ft ff fb fi]) := hD
          refine W.widen (k := 0) (n := 0) (Nat.le_of_ble_eq_true rfl) (Nat.le_of_ble_eq_true rfl) ?_
          refine W.eq (g2 := F0 m 34 ls [.int q_19, .int q_17]) rfl ?_
          refine lv_icmp_le (tgt := 39) hx hb dX12_richest_34 (by decide) (fun cb9 => ?_) (fun cb9 => ?_)
          · skip
            have c21 : q_17.toInt ≤ q_19.toInt := zle cb9 rfl rfl
            refine ziinc3 (n' := 1) (a' := 1) (b' := 8) (lv' := fun v9 => [(2, .int v9), (0, .ref o), (1, .int x_1)]) hx hb dX12_richest_39 hl (k := 2) rfl (by decide) (fun _ => rfl) (zaddK (i := x_2.toInt) (j := 1) rfl (by decide) i4.1 n10 (Int.le_refl _) (Int.le_refl _) (by decide)) (fun x_22 ls hx_22 hl => ?_)
            refine lv_goto (tgt := 9) hx hb dX12_richest_42 (by decide) ?_
            have hl := lv_sub (l' := [(0, .ref o), (1, .int x_1), (2, .int x_22)]) hl [1, 2, 0] rfl
            have hP : va_P g.1 vwCl (List.flatten [bMo g o a 0 hi ac tp ba en tA fl de iD iO tU fm fk fa fc ft ff fb fi]) H := hP
            have hD : va_D A (List.flatten [bMo g o a 0 hi ac tp ba en tA fl de iD iO tU fm fk fa fc ft ff fb fi]) := hD
            exact ih9_6 x_1 x_22 ⟨(Int.le_trans (by decide) n16), i3.2⟩ ⟨(Int.le_trans (by decide) hx_22.2.1), hx_22.2.2⟩ H _ ls (zmK hx_22.1 (by decide) n10 (by decide) hk9_6)  hP hD hS (lv_sub hl [0, 1, 2] rfl)
          · skip
            have c23 : q_19.toInt < q_17.toInt := zlti (Int32.not_le.mp cb9) rfl rfl
            refine lv_iload_n hx hb dX12_richest_37 rfl (lv_at hl 2 rfl) ?_
            refine lv_istore_n (lv' := [(1, .int x_2), (0, .ref o), (2, .int x_2)]) hx hb dX12_richest_38 rfl hl (by decide) rfl (fun ls hl => ?_)
            refine ziinc3 (n' := 1) (a' := 1) (b' := 8) (lv' := fun v9 => [(2, .int v9), (1, .int x_2), (0, .ref o)]) hx hb dX12_richest_39 hl (k := 2) rfl (by decide) (fun _ => rfl) (zaddK (i := x_2.toInt) (j := 1) rfl (by decide) i4.1 n10 (Int.le_refl _) (Int.le_refl _) (by decide)) (fun x_24 ls hx_24 hl => ?_)
            refine lv_goto (tgt := 9) hx hb dX12_richest_42 (by decide) ?_
            have hl := lv_sub (l' := [(0, .ref o), (1, .int x_2), (2, .int x_24)]) hl [2, 1, 0] rfl
            have hP : va_P g.1 vwCl (List.flatten [bMo g o a 0 hi ac tp ba en tA fl de iD iO tU fm fk fa fc ft ff fb fi]) H := hP
            have hD : va_D A (List.flatten [bMo g o a 0 hi ac tp ba en tA fl de iD iO tU fm fk fa fc ft ff fb fi]) := hD
            exact ih9_6 x_2 x_24 ⟨(Int.le_trans (by decide) i4.1), n10⟩ ⟨(Int.le_trans (by decide) hx_24.2.1), hx_24.2.2⟩ H _ ls (zmK hx_24.1 (by decide) n10 (by decide) hk9_6)  hP hD hS (lv_sub hl [0, 1, 2] rfl)
  have hP : va_P g.1 vwCl (List.flatten [bMo g o a 0 hi ac tp ba en tA fl de iD iO tU fm fk fa fc ft ff fb fi]) H := hP
  have hD : va_D A (List.flatten [bMo g o a 0 hi ac tp ba en tA fl de iD iO tU fm fk fa fc ft ff fb fi]) := hD
  exact LP9_5 _ (-1) 0 (by decide) (by decide) H _ ls (Nat.lt_succ_self _)  hP hD hS (lv_sub hl [0, 1, 2] rfl)
set_option maxRecDepth 100000 in
set_option maxHeartbeats 4000000 in
theorem m_firmest (l : Launch) (g : zG) (o : Nat) (a : Nat → Nat) (th : Int32) (hi : Int32) (ac : Int32) (tp : Int32) (ba : Int32) (en : Int32) (tA : Int32) (fl : Int32) (de : Int32) (iD : Int32) (iO : Int32) (tU : Int32) (fm : Nat → Int32) (fk : Nat → Int32) (fa : Nat → Int32) (fc : Nat → Int32) (ft : Nat → Int32) (ff : Nat → Int32) (fb : Nat → Int32) (fi : Nat → Int32) (rfm : rM fm) : zM' g l yX12_firmest (Cond.code yX12_firmest cX12_firmest 3 (some .int) :: zB) ({ frames := 2, cells := 0, slots := 0, locals := 43 } : Room) [.ref o] [bMo g o a th hi ac tp ba en tA fl de iD iO tU fm fk fa fc ft ff fb fi] (fun u : Int32 × Int32 => (fun (th2 : Int32) (q : Int32) => some (.int q)) (u.1) (u.2)) (fun u : Int32 × Int32 => (fun (th2 : Int32) (q : Int32) => True) (u.1) (u.2)) (fun u : Int32 × Int32 => (fun (th2 : Int32) (q : Int32) => [bMo g o a th2 hi ac tp ba en tA fl de iD iO tU fm fk fa fc ft ff fb fi]) (u.1) (u.2)) := by
  refine zM'.of (cc := cX12_firmest) (maxL := 3) (rt := (some .int)) (by decide) rfl (Nat.le_of_ble_eq_true rfl) ?_
  intro p e s m args below meth c A ls St hr hlocks hin hK hT hA hP hD hS hl
  obtain ⟨hx, hb, hml, hown, hts⟩ := id St
  have hl : lv_has ls 3 [(0, .ref o)] := hl
  refine lv_aload_n hx hb dX12_firmest_0 rfl (lv_at hl 0 rfl) ?_
  refine lv_iconst (v := 0) hx hb dX12_firmest_1 (by decide) ?_
  refine va_put (D := g.1) (ci := 10) (v := .int 0) (ty := .int) (C := RX12) (T := TX12) (N := 20) hx hb hts izRX12 tyX12 tyX12_ok nmX12 hown hK hP hD hS 0 rfl rfl 0 (by decide) (hts _ k825) (fun _ h9 => h9) rfl (by decide +kernel) rfl rfl (Nat.le_of_ble_eq_true rfl) dX12_firmest_2 (fun H locs hP hD hS => ?_)
  have hP : va_P g.1 vwCl (List.flatten [bMo g o a 0 hi ac tp ba en tA fl de iD iO tU fm fk fa fc ft ff fb fi]) H := hP
  have hD : va_D A (List.flatten [bMo g o a 0 hi ac tp ba en tA fl de iD iO tU fm fk fa fc ft ff fb fi]) := hD
  refine lv_iconst (v := (-1)) hx hb dX12_firmest_5 (by decide) ?_
  refine lv_istore_n (lv' := [(1, .int (-1)), (0, .ref o)]) hx hb dX12_firmest_6 rfl hl (by decide) rfl (fun ls hl => ?_)
  refine lv_iconst (v := 0) hx hb dX12_firmest_7 (by decide) ?_
  refine lv_istore_n (lv' := [(2, .int 0), (1, .int (-1)), (0, .ref o)]) hx hb dX12_firmest_8 rfl hl (by decide) rfl (fun ls hl => ?_)
  have hl := lv_sub (l' := [(0, .ref o), (1, .int (-1)), (2, .int 0)]) hl [2, 1, 0] rfl
  have LP9_5 : ∀ (kf : Nat) (x_1 : Int32) (x_2 : Int32), ((-1) ≤ x_1.toInt ∧ x_1.toInt ≤ 7) → (0 ≤ x_2.toInt ∧ x_2.toInt ≤ 8) → ∀ (H : Heap) (locs : List Loc) (ls : Array Slot), ((9 - x_2.toInt).toNat) < kf → va_P g.1 vwCl (List.flatten [bMo g o a 0 hi ac tp ba en tA fl de iD iO tU fm fk fa fc ft ff fb fi]) H → va_D A (List.flatten [bMo g o a 0 hi ac tp ba en tA fl de iD iO tU fm fk fa fc ft ff fb fi]) → va_S A s.heap H locs → lv_has ls 3 [(0, .ref o), (1, .int x_1), (2, .int x_2)] → W p l e ({ frames := 2, cells := 0, slots := 0, locals := 43 } : Room) s m args below meth c H locs (0) (0) (zF g (fun u : Int32 × Int32 => (fun (th2 : Int32) (q : Int32) => some (.int q)) (u.1) (u.2)) (fun u : Int32 × Int32 => (fun (th2 : Int32) (q : Int32) => True) (u.1) (u.2)) (fun u : Int32 × Int32 => (fun (th2 : Int32) (q : Int32) => [bMo g o a th2 hi ac tp ba en tA fl de iD iO tU fm fk fa fc ft ff fb fi]) (u.1) (u.2)) ({ frames := 2, cells := 0, slots := 0, locals := 43 } : Room) below args s A) (F0 m 9 ls []) := by
    intro kf
    induction kf with
    | zero => intro x_1 x_2 i3 i4 H locs ls hk; exact absurd hk (Nat.not_lt_zero _)
    | succ kf ih9_6 =>
      intro x_1 x_2 i3 i4 H locs ls hk9_6 hP hD hS hl
      refine lv_iload_n hx hb dX12_firmest_9 rfl (lv_at hl 2 rfl) ?_
      refine lv_aload_n hx hb dX12_firmest_10 rfl (lv_at hl 0 rfl) ?_
      refine va_get (D := g.1) (ci := 10) (v := .ref (a 0)) (C := RX12) (T := TX12) (N := 20) hx hb hts izRX12 hown hK hP 0 rfl rfl 1 (by decide) (hts _ k815) (fun _ h9 => h9) rfl dX12_firmest_11 ?_
      refine lv_iconst (v := 3) hx hb dX12_firmest_14 (by decide) ?_
      refine va_iald hx hb hK hP 1 0 rfl rfl (zin rfl) dX12_firmest_15 ?_
      refine zgq (r := fm 3) rfl (rM3 rfm) (fun x_7 hx_7 => ?_)
      refine lv_icmp_ge (tgt := 55) hx hb dX12_firmest_16 (by decide) (fun cb9 => ?_) (fun cb9 => ?_)
      · skip
        have c8 : x_7.toInt ≤ x_2.toInt := zle cb9 rfl rfl
        refine lv_iload_n hx hb dX12_firmest_55 rfl (lv_at hl 1 rfl) ?_
        have hP : va_P g.1 vwCl (List.flatten [bMo g o a 0 hi ac tp ba en tA fl de iD iO tU fm fk fa fc ft ff fb fi]) H := hP
        have hD : va_D A (List.flatten [bMo g o a 0 hi ac tp ba en tA fl de iD iO tU fm fk fa fc ft ff fb fi]) := hD
        exact mret_i hx hb hr hlocks hS (Nat.le_of_ble_eq_true rfl) (Nat.le_of_ble_eq_true rfl) dX12_firmest_56 ((0 : Int32), x_1) rfl trivial hP hD
      · skip
        have c9 : x_2.toInt < x_7.toInt := zlti (Int32.not_le.mp cb9) rfl rfl
        have n10 : x_2.toInt ≤ 7 := zL1 (b := 8) c9 hx_7.2.1 (by decide)
        have n11 : 1 ≤ x_7.toInt := zL2 (a := 0) c9 i4.1 (by decide)
        refine lv_aload_n hx hb dX12_firmest_19 rfl (lv_at hl 0 rfl) ?_
        refine lv_iload_n hx hb dX12_firmest_20 rfl (lv_at hl 2 rfl) ?_
        refine mcallV' (g := g) (q0 := 0) (ci := 10) (As := [.int x_2]) (rest := []) St hK hT hA hP hD hS hl.1 [0] [] rfl rfl rfl (m_isHere l g o a 0 hi ac tp ba en tA fl de iD iO tU fm fk fa fc ft ff fb fi x_2 (⟨i4.1, n10⟩)) (cwV 1 hts (zgL (zl4 k846 k847 k848 k839) k841) rfl rfl rfl (by decide +kernel) ⟨Nat.le_of_ble_eq_true rfl, Nat.le_of_ble_eq_true rfl⟩) rfl rfl rfl rfl (Nat.le_of_ble_eq_true rfl) dX12_firmest_21 ⟨(Nat.le_of_ble_eq_true rfl), (Nat.le_of_ble_eq_true rfl)⟩ (fun q_12 H locs hq13 hP hD hS => ?_)
        replace hq13 : (q_12 = 0 ∨ q_12 = 1) := hq13
        have hP : va_P g.1 vwCl (List.flatten [bMo g o a 0 hi ac tp ba en tA fl de iD iO tU fm fk fa fc ft ff fb fi]) H := hP
        have hD : va_D A (List.flatten [bMo g o a 0 hi ac tp ba en tA fl de iD iO tU fm fk fa fc ft ff fb fi]) := hD
        refine W.widen (k := 0) (n := 0) (Nat.le_of_ble_eq_true rfl) (Nat.le_of_ble_eq_true rfl) ?_
        refine W.eq (g2 := F0 m 24 ls [.int q_12]) rfl ?_
        rcases hq13 with rfl | rfl
        · skip
          refine lv_if_eq (tgt := 49) hx hb dX12_firmest_24 (by decide) (fun _ => ?_) (fun c14 => absurd (by decide) c14)
          refine ziinc3 (n' := 1) (a' := 1) (b' := 8) (lv' := fun v9 => [(2, .int v9), (0, .ref o), (1, .int x_1)]) hx hb dX12_firmest_49 hl (k := 2) rfl (by decide) (fun _ => rfl) (zaddK (i := x_2.toInt) (j := 1) rfl (by decide) i4.1 n10 (Int.le_refl _) (Int.le_refl _) (by decide)) (fun x_15 ls hx_15 hl => ?_)
          refine lv_goto (tgt := 9) hx hb dX12_firmest_52 (by decide) ?_
          have hl := lv_sub (l' := [(0, .ref o), (1, .int x_1), (2, .int x_15)]) hl [1, 2, 0] rfl
          have hP : va_P g.1 vwCl (List.flatten [bMo g o a 0 hi ac tp ba en tA fl de iD iO tU fm fk fa fc ft ff fb fi]) H := hP
          have hD : va_D A (List.flatten [bMo g o a 0 hi ac tp ba en tA fl de iD iO tU fm fk fa fc ft ff fb fi]) := hD
          exact ih9_6 x_1 x_15 ⟨i3.1, i3.2⟩ ⟨(Int.le_trans (by decide) hx_15.2.1), hx_15.2.2⟩ H _ ls (zmK hx_15.1 (by decide) n10 (by decide) hk9_6)  hP hD hS (lv_sub hl [0, 1, 2] rfl)
        · skip
          refine lv_if_eq (tgt := 49) hx hb dX12_firmest_24 (by decide) (fun c16 => absurd c16 (by decide)) (fun _ => ?_)
          refine lv_iload_n hx hb dX12_firmest_27 rfl (lv_at hl 1 rfl) ?_
          refine lv_iconst (v := (-1)) hx hb dX12_firmest_28 (by decide) ?_
          refine lv_icmp_eq (tgt := 47) hx hb dX12_firmest_29 (by decide) (fun cb9 => ?_) (fun cb9 => ?_)
          · skip
            have c17 : x_1.toInt = (-1) := zeq cb9 rfl (by decide)
            have n18 : x_1.toInt ≤ (-1) := Int.le_trans (Int.le_of_eq c17) (Int.le_refl _)
            refine lv_iload_n hx hb dX12_firmest_47 rfl (lv_at hl 2 rfl) ?_
            refine lv_istore_n (lv' := [(1, .int x_2), (0, .ref o), (2, .int x_2)]) hx hb dX12_firmest_48 rfl hl (by decide) rfl (fun ls hl => ?_)
            refine ziinc3 (n' := 1) (a' := 1) (b' := 8) (lv' := fun v9 => [(2, .int v9), (1, .int x_2), (0, .ref o)]) hx hb dX12_firmest_49 hl (k := 2) rfl (by decide) (fun _ => rfl) (zaddK (i := x_2.toInt) (j := 1) rfl (by decide) i4.1 n10 (Int.le_refl _) (Int.le_refl _) (by decide)) (fun x_19 ls hx_19 hl => ?_)
            refine lv_goto (tgt := 9) hx hb dX12_firmest_52 (by decide) ?_
            have hl := lv_sub (l' := [(0, .ref o), (1, .int x_2), (2, .int x_19)]) hl [2, 1, 0] rfl
            have hP : va_P g.1 vwCl (List.flatten [bMo g o a 0 hi ac tp ba en tA fl de iD iO tU fm fk fa fc ft ff fb fi]) H := hP
            have hD : va_D A (List.flatten [bMo g o a 0 hi ac tp ba en tA fl de iD iO tU fm fk fa fc ft ff fb fi]) := hD
            exact ih9_6 x_2 x_19 ⟨(Int.le_trans (by decide) i4.1), n10⟩ ⟨(Int.le_trans (by decide) hx_19.2.1), hx_19.2.2⟩ H _ ls (zmK hx_19.1 (by decide) n10 (by decide) hk9_6)  hP hD hS (lv_sub hl [0, 1, 2] rfl)
          · skip
            have c20 : ¬ x_1.toInt = (-1) := zne cb9 rfl (by decide)
            have n21 : 0 ≤ x_1.toInt := zN1 c20 i3.1 (by decide)
            refine lv_aload_n hx hb dX12_firmest_32 rfl (lv_at hl 0 rfl) ?_
            refine lv_iload_n hx hb dX12_firmest_33 rfl (lv_at hl 2 rfl) ?_
            refine lv_iconst (v := 0) hx hb dX12_firmest_34 (by decide) ?_
            have hL0 : (0 : Int32).toInt = 0 := by decide
            refine mcallV' (g := g) (q0 := 0) (ci := 10) (As := [.int x_2, .int 0]) (rest := []) St hK hT hA hP hD hS hl.1 [0] [] rfl rfl rfl (m_of l g o a 0 hi ac tp ba en tA fl de iD iO tU fm fk fa fc ft ff fb fi x_2 0 (⟨i4.1, n10⟩) (by decide)) (cwV 2 hts (zgL (zl4 k842 k843 k844 k839) k831) rfl rfl rfl (by decide +kernel) ⟨Nat.le_of_ble_eq_true rfl, Nat.le_of_ble_eq_true rfl⟩) rfl rfl rfl rfl (Nat.le_of_ble_eq_true rfl) dX12_firmest_35 ⟨(Nat.le_of_ble_eq_true rfl), (Nat.le_of_ble_eq_true rfl)⟩ (fun q_22 H locs hq23 hP hD hS => ?_)
            have hP : va_P g.1 vwCl (List.flatten [bMo g o a 0 hi ac tp ba en tA fl de iD iO tU fm fk fa fc ft ff fb fi]) H := hP
            have hD : va_D A (List.flatten [bMo g o a 0 hi ac tp ba en tA fl de iD iO tU fm fk fa fc ft ff fb fi]) := hD
            refine W.widen (k := 0) (n := 0) (Nat.le_of_ble_eq_true rfl) (Nat.le_of_ble_eq_true rfl) ?_
            refine W.eq (g2 := F0 m 38 ls [.int q_22]) rfl ?_
            refine lv_aload_n hx hb dX12_firmest_38 rfl (lv_at hl 0 rfl) ?_
            refine lv_iload_n hx hb dX12_firmest_39 rfl (lv_at hl 1 rfl) ?_
            refine lv_iconst (v := 0) hx hb dX12_firmest_40 (by decide) ?_
            refine mcallV' (g := g) (q0 := 0) (ci := 10) (As := [.int x_1, .int 0]) (rest := [.int q_22]) St hK hT hA hP hD hS hl.1 [0] [] rfl rfl rfl (m_of l g o a 0 hi ac tp ba en tA fl de iD iO tU fm fk fa fc ft ff fb fi x_1 0 (⟨n21, i3.2⟩) (by decide)) (cwV 2 hts (zgL (zl4 k842 k843 k844 k839) k831) rfl rfl rfl (by decide +kernel) ⟨Nat.le_of_ble_eq_true rfl, Nat.le_of_ble_eq_true rfl⟩) rfl rfl rfl rfl (Nat.le_of_ble_eq_true rfl) dX12_firmest_41 ⟨(Nat.le_of_ble_eq_true rfl), (Nat.le_of_ble_eq_true rfl)⟩ (fun q_24 H locs hq25 hP hD hS => ?_)
            have hP : va_P g.1 vwCl (List.flatten [bMo g o a 0 hi ac tp ba en tA fl de iD iO tU fm fk fa fc ft ff fb fi]) H := hP
            have hD : va_D A (List.flatten [bMo g o a 0 hi ac tp ba en tA fl de iD iO tU fm fk fa fc ft ff fb fi]) := hD
            refine W.widen (k := 0) (n := 0) (Nat.le_of_ble_eq_true rfl) (Nat.le_of_ble_eq_true rfl) ?_
            refine W.eq (g2 := F0 m 44 ls [.int q_24, .int q_22]) rfl ?_
            refine lv_icmp_le (tgt := 49) hx hb dX12_firmest_44 (by decide) (fun cb9 => ?_) (fun cb9 => ?_)
            · skip
              have c26 : q_22.toInt ≤ q_24.toInt := zle cb9 rfl rfl
              refine ziinc3 (n' := 1) (a' := 1) (b' := 8) (lv' := fun v9 => [(2, .int v9), (0, .ref o), (1, .int x_1)]) hx hb dX12_firmest_49 hl (k := 2) rfl (by decide) (fun _ => rfl) (zaddK (i := x_2.toInt) (j := 1) rfl (by decide) i4.1 n10 (Int.le_refl _) (Int.le_refl _) (by decide)) (fun x_27 ls hx_27 hl => ?_)
              refine lv_goto (tgt := 9) hx hb dX12_firmest_52 (by decide) ?_
              have hl := lv_sub (l' := [(0, .ref o), (1, .int x_1), (2, .int x_27)]) hl [1, 2, 0] rfl
              have hP : va_P g.1 vwCl (List.flatten [bMo g o a 0 hi ac tp ba en tA fl de iD iO tU fm fk fa fc ft ff fb fi]) H := hP
              have hD : va_D A (List.flatten [bMo g o a 0 hi ac tp ba en tA fl de iD iO tU fm fk fa fc ft ff fb fi]) := hD
              exact ih9_6 x_1 x_27 ⟨(Int.le_trans (by decide) n21), i3.2⟩ ⟨(Int.le_trans (by decide) hx_27.2.1), hx_27.2.2⟩ H _ ls (zmK hx_27.1 (by decide) n10 (by decide) hk9_6)  hP hD hS (lv_sub hl [0, 1, 2] rfl)
            · skip
              have c28 : q_24.toInt < q_22.toInt := zlti (Int32.not_le.mp cb9) rfl rfl
              refine lv_iload_n hx hb dX12_firmest_47 rfl (lv_at hl 2 rfl) ?_
              refine lv_istore_n (lv' := [(1, .int x_2), (0, .ref o), (2, .int x_2)]) hx hb dX12_firmest_48 rfl hl (by decide) rfl (fun ls hl => ?_)
              refine ziinc3 (n' := 1) (a' := 1) (b' := 8) (lv' := fun v9 => [(2, .int v9), (1, .int x_2), (0, .ref o)]) hx hb dX12_firmest_49 hl (k := 2) rfl (by decide) (fun _ => rfl) (zaddK (i := x_2.toInt) (j := 1) rfl (by decide) i4.1 n10 (Int.le_refl _) (Int.le_refl _) (by decide)) (fun x_29 ls hx_29 hl => ?_)
              refine lv_goto (tgt := 9) hx hb dX12_firmest_52 (by decide) ?_
              have hl := lv_sub (l' := [(0, .ref o), (1, .int x_2), (2, .int x_29)]) hl [2, 1, 0] rfl
              have hP : va_P g.1 vwCl (List.flatten [bMo g o a 0 hi ac tp ba en tA fl de iD iO tU fm fk fa fc ft ff fb fi]) H := hP
              have hD : va_D A (List.flatten [bMo g o a 0 hi ac tp ba en tA fl de iD iO tU fm fk fa fc ft ff fb fi]) := hD
              exact ih9_6 x_2 x_29 ⟨(Int.le_trans (by decide) i4.1), n10⟩ ⟨(Int.le_trans (by decide) hx_29.2.1), hx_29.2.2⟩ H _ ls (zmK hx_29.1 (by decide) n10 (by decide) hk9_6)  hP hD hS (lv_sub hl [0, 1, 2] rfl)
  have hP : va_P g.1 vwCl (List.flatten [bMo g o a 0 hi ac tp ba en tA fl de iD iO tU fm fk fa fc ft ff fb fi]) H := hP
  have hD : va_D A (List.flatten [bMo g o a 0 hi ac tp ba en tA fl de iD iO tU fm fk fa fc ft ff fb fi]) := hD
  exact LP9_5 _ (-1) 0 (by decide) (by decide) H _ ls (Nat.lt_succ_self _)  hP hD hS (lv_sub hl [0, 1, 2] rfl)
set_option maxRecDepth 100000 in
set_option maxHeartbeats 4000000 in
theorem m_home (l : Launch) (g : zG) (o : Nat) (a : Nat → Nat) (th : Int32) (hi : Int32) (ac : Int32) (tp : Int32) (ba : Int32) (en : Int32) (tA : Int32) (fl : Int32) (de : Int32) (iD : Int32) (iO : Int32) (tU : Int32) (fm : Nat → Int32) (fk : Nat → Int32) (fa : Nat → Int32) (fc : Nat → Int32) (ft : Nat → Int32) (ff : Nat → Int32) (fb : Nat → Int32) (fi : Nat → Int32) (rfm : rM fm) : zM' g l yX12_home (Cond.code yX12_home cX12_home 4 (some .int) :: zB) ({ frames := 2, cells := 0, slots := 0, locals := 43 } : Room) [.ref o] [bMo g o a th hi ac tp ba en tA fl de iD iO tU fm fk fa fc ft ff fb fi] (fun u : Int32 × Int32 => (fun (th2 : Int32) (q : Int32) => some (.int q)) (u.1) (u.2)) (fun u : Int32 × Int32 => (fun (th2 : Int32) (q : Int32) => True) (u.1) (u.2)) (fun u : Int32 × Int32 => (fun (th2 : Int32) (q : Int32) => [bMo g o a th2 hi ac tp ba en tA fl de iD iO tU fm fk fa fc ft ff fb fi]) (u.1) (u.2)) := by
  refine zM'.of (cc := cX12_home) (maxL := 4) (rt := (some .int)) (by decide) rfl (Nat.le_of_ble_eq_true rfl) ?_
  intro p e s m args below meth c A ls St hr hlocks hin hK hT hA hP hD hS hl
  obtain ⟨hx, hb, hml, hown, hts⟩ := id St
  have hl : lv_has ls 4 [(0, .ref o)] := hl
  refine lv_aload_n hx hb dX12_home_0 rfl (lv_at hl 0 rfl) ?_
  refine lv_iconst (v := 0) hx hb dX12_home_1 (by decide) ?_
  refine va_put (D := g.1) (ci := 10) (v := .int 0) (ty := .int) (C := RX12) (T := TX12) (N := 20) hx hb hts izRX12 tyX12 tyX12_ok nmX12 hown hK hP hD hS 0 rfl rfl 0 (by decide) (hts _ k825) (fun _ h9 => h9) rfl (by decide +kernel) rfl rfl (Nat.le_of_ble_eq_true rfl) dX12_home_2 (fun H locs hP hD hS => ?_)
  have hP : va_P g.1 vwCl (List.flatten [bMo g o a 0 hi ac tp ba en tA fl de iD iO tU fm fk fa fc ft ff fb fi]) H := hP
  have hD : va_D A (List.flatten [bMo g o a 0 hi ac tp ba en tA fl de iD iO tU fm fk fa fc ft ff fb fi]) := hD
  refine lv_iconst (v := (-1)) hx hb dX12_home_5 (by decide) ?_
  refine lv_istore_n (lv' := [(1, .int (-1)), (0, .ref o)]) hx hb dX12_home_6 rfl hl (by decide) rfl (fun ls hl => ?_)
  refine lv_iconst (v := 0) hx hb dX12_home_7 (by decide) ?_
  refine lv_istore_n (lv' := [(2, .int 0), (1, .int (-1)), (0, .ref o)]) hx hb dX12_home_8 rfl hl (by decide) rfl (fun ls hl => ?_)
  have hl := lv_sub (l' := [(0, .ref o), (1, .int (-1)), (2, .int 0)]) hl [2, 1, 0] rfl
  have LP9_4 : ∀ (kf : Nat) (x_1 : Int32) (x_2 : Int32), (0 ≤ x_2.toInt ∧ x_2.toInt ≤ 8) → ∀ (H : Heap) (locs : List Loc) (ls : Array Slot), ((9 - x_2.toInt).toNat) < kf → va_P g.1 vwCl (List.flatten [bMo g o a 0 hi ac tp ba en tA fl de iD iO tU fm fk fa fc ft ff fb fi]) H → va_D A (List.flatten [bMo g o a 0 hi ac tp ba en tA fl de iD iO tU fm fk fa fc ft ff fb fi]) → va_S A s.heap H locs → lv_has ls 4 [(0, .ref o), (1, .int x_1), (2, .int x_2)] → W p l e ({ frames := 2, cells := 0, slots := 0, locals := 43 } : Room) s m args below meth c H locs (0) (0) (zF g (fun u : Int32 × Int32 => (fun (th2 : Int32) (q : Int32) => some (.int q)) (u.1) (u.2)) (fun u : Int32 × Int32 => (fun (th2 : Int32) (q : Int32) => True) (u.1) (u.2)) (fun u : Int32 × Int32 => (fun (th2 : Int32) (q : Int32) => [bMo g o a th2 hi ac tp ba en tA fl de iD iO tU fm fk fa fc ft ff fb fi]) (u.1) (u.2)) ({ frames := 2, cells := 0, slots := 0, locals := 43 } : Room) below args s A) (F0 m 9 ls []) := by
    intro kf
    induction kf with
    | zero => intro x_1 x_2 i3 H locs ls hk; exact absurd hk (Nat.not_lt_zero _)
    | succ kf ih9_5 =>
      intro x_1 x_2 i3 H locs ls hk9_5 hP hD hS hl
      refine lv_iload_n hx hb dX12_home_9 rfl (lv_at hl 2 rfl) ?_
      refine lv_aload_n hx hb dX12_home_10 rfl (lv_at hl 0 rfl) ?_
      refine va_get (D := g.1) (ci := 10) (v := .ref (a 0)) (C := RX12) (T := TX12) (N := 20) hx hb hts izRX12 hown hK hP 0 rfl rfl 1 (by decide) (hts _ k815) (fun _ h9 => h9) rfl dX12_home_11 ?_
      refine lv_iconst (v := 3) hx hb dX12_home_14 (by decide) ?_
      refine va_iald hx hb hK hP 1 0 rfl rfl (zin rfl) dX12_home_15 ?_
      refine zgq (r := fm 3) rfl (rM3 rfm) (fun x_6 hx_6 => ?_)
      refine lv_icmp_ge (tgt := 75) hx hb dX12_home_16 (by decide) (fun cb9 => ?_) (fun cb9 => ?_)
      · skip
        have c7 : x_6.toInt ≤ x_2.toInt := zle cb9 rfl rfl
        refine lv_iload_n hx hb dX12_home_75 rfl (lv_at hl 1 rfl) ?_
        have hP : va_P g.1 vwCl (List.flatten [bMo g o a 0 hi ac tp ba en tA fl de iD iO tU fm fk fa fc ft ff fb fi]) H := hP
        have hD : va_D A (List.flatten [bMo g o a 0 hi ac tp ba en tA fl de iD iO tU fm fk fa fc ft ff fb fi]) := hD
        exact mret_i hx hb hr hlocks hS (Nat.le_of_ble_eq_true rfl) (Nat.le_of_ble_eq_true rfl) dX12_home_76 ((0 : Int32), x_1) rfl trivial hP hD
      · skip
        have c8 : x_2.toInt < x_6.toInt := zlti (Int32.not_le.mp cb9) rfl rfl
        have n9 : x_2.toInt ≤ 7 := zL1 (b := 8) c8 hx_6.2.1 (by decide)
        have n10 : 1 ≤ x_6.toInt := zL2 (a := 0) c8 i3.1 (by decide)
        refine lv_aload_n hx hb dX12_home_19 rfl (lv_at hl 0 rfl) ?_
        refine lv_iload_n hx hb dX12_home_20 rfl (lv_at hl 2 rfl) ?_
        refine mcallV' (g := g) (q0 := 0) (ci := 10) (As := [.int x_2]) (rest := []) St hK hT hA hP hD hS hl.1 [0] [] rfl rfl rfl (m_isHere l g o a 0 hi ac tp ba en tA fl de iD iO tU fm fk fa fc ft ff fb fi x_2 (⟨i3.1, n9⟩)) (cwV 1 hts (zgL (zl4 k846 k847 k848 k839) k841) rfl rfl rfl (by decide +kernel) ⟨Nat.le_of_ble_eq_true rfl, Nat.le_of_ble_eq_true rfl⟩) rfl rfl rfl rfl (Nat.le_of_ble_eq_true rfl) dX12_home_21 ⟨(Nat.le_of_ble_eq_true rfl), (Nat.le_of_ble_eq_true rfl)⟩ (fun q_11 H locs hq12 hP hD hS => ?_)
        replace hq12 : (q_11 = 0 ∨ q_11 = 1) := hq12
        have hP : va_P g.1 vwCl (List.flatten [bMo g o a 0 hi ac tp ba en tA fl de iD iO tU fm fk fa fc ft ff fb fi]) H := hP
        have hD : va_D A (List.flatten [bMo g o a 0 hi ac tp ba en tA fl de iD iO tU fm fk fa fc ft ff fb fi]) := hD
        refine W.widen (k := 0) (n := 0) (Nat.le_of_ble_eq_true rfl) (Nat.le_of_ble_eq_true rfl) ?_
        refine W.eq (g2 := F0 m 24 ls [.int q_11]) rfl ?_
        rcases hq12 with rfl | rfl
        · skip
          refine lv_if_eq (tgt := 33) hx hb dX12_home_24 (by decide) (fun _ => ?_) (fun c13 => absurd (by decide) c13)
          refine lv_aload_n hx hb dX12_home_33 rfl (lv_at hl 0 rfl) ?_
          refine va_get (D := g.1) (ci := 10) (v := .ref (a 0)) (C := RX12) (T := TX12) (N := 20) hx hb hts izRX12 hown hK hP 0 rfl rfl 1 (by decide) (hts _ k815) (fun _ h9 => h9) rfl dX12_home_34 ?_
          refine lv_bipush (v := 8) hx hb dX12_home_37 (by decide) ?_
          refine va_iald hx hb hK hP 1 0 rfl rfl (zin rfl) dX12_home_39 ?_
          refine zg (fun x_14 => ?_)
          refine lv_aload_n hx hb dX12_home_40 rfl (lv_at hl 0 rfl) ?_
          refine lv_iload_n hx hb dX12_home_41 rfl (lv_at hl 2 rfl) ?_
          refine lv_iconst (v := 4) hx hb dX12_home_42 (by decide) ?_
          have hL4 : (4 : Int32).toInt = 4 := by decide
          refine mcallV' (g := g) (q0 := 0) (ci := 10) (As := [.int x_2, .int 4]) (rest := [.int x_14]) St hK hT hA hP hD hS hl.1 [0] [] rfl rfl rfl (m_of l g o a 0 hi ac tp ba en tA fl de iD iO tU fm fk fa fc ft ff fb fi x_2 4 (⟨i3.1, n9⟩) (by decide)) (cwV 2 hts (zgL (zl4 k842 k843 k844 k839) k831) rfl rfl rfl (by decide +kernel) ⟨Nat.le_of_ble_eq_true rfl, Nat.le_of_ble_eq_true rfl⟩) rfl rfl rfl rfl (Nat.le_of_ble_eq_true rfl) dX12_home_43 ⟨(Nat.le_of_ble_eq_true rfl), (Nat.le_of_ble_eq_true rfl)⟩ (fun q_15 H locs hq16 hP hD hS => ?_)
          have hP : va_P g.1 vwCl (List.flatten [bMo g o a 0 hi ac tp ba en tA fl de iD iO tU fm fk fa fc ft ff fb fi]) H := hP
          have hD : va_D A (List.flatten [bMo g o a 0 hi ac tp ba en tA fl de iD iO tU fm fk fa fc ft ff fb fi]) := hD
          refine W.widen (k := 0) (n := 0) (Nat.le_of_ble_eq_true rfl) (Nat.le_of_ble_eq_true rfl) ?_
          refine W.eq (g2 := F0 m 46 ls [.int q_15, .int x_14]) rfl ?_
          refine mcallS' (g := g) (As := [.int x_14, .int q_15]) (rest := []) St hK hT hA hP hD hS hl.1 [] [0] rfl rfl rfl (m_greater l g x_14 q_15 ) (va_cwS 2 hts (zgL (zl3 k1003 k1004 k839) k828) rfl rfl rfl (by decide +kernel) ⟨Nat.le_of_ble_eq_true rfl, Nat.le_of_ble_eq_true rfl⟩) rfl rfl (Nat.le_of_ble_eq_true rfl) dX12_home_46 ⟨(Nat.le_of_ble_eq_true rfl), (Nat.le_of_ble_eq_true rfl)⟩ (fun q_17 H locs hq18 hP hD hS => ?_)
          replace hq18 : (x_14.toInt ≤ q_17.toInt ∧ q_15.toInt ≤ q_17.toInt ∧ (q_17.toInt = x_14.toInt ∨ q_17.toInt = q_15.toInt)) := hq18
          have hP : va_P g.1 vwCl (List.flatten [bMo g o a 0 hi ac tp ba en tA fl de iD iO tU fm fk fa fc ft ff fb fi]) H := hP
          have hD : va_D A (List.flatten [bMo g o a 0 hi ac tp ba en tA fl de iD iO tU fm fk fa fc ft ff fb fi]) := hD
          refine W.widen (k := 0) (n := 0) (Nat.le_of_ble_eq_true rfl) (Nat.le_of_ble_eq_true rfl) ?_
          refine W.eq (g2 := F0 m 49 ls [.int q_17]) rfl ?_
          refine lv_istore_n (lv' := [(3, .int q_17), (0, .ref o), (1, .int x_1), (2, .int x_2)]) hx hb dX12_home_49 rfl hl (by decide) rfl (fun ls hl => ?_)
          refine lv_iload_n hx hb dX12_home_50 rfl (lv_at hl 0 rfl) ?_
          refine lv_ldcw (v := 2000000000) hx hb hown (hts _ k1108) dX12_home_51 ?_
          refine lv_icmp_eq (tgt := 69) hx hb dX12_home_54 (by decide) (fun cb9 => ?_) (fun cb9 => ?_)
          · skip
            have c19 : q_17.toInt = 2000000000 := zeq cb9 rfl (by decide)
            have n20 : 2000000000 ≤ q_17.toInt := Int.le_trans (Int.le_refl _) (Int.le_of_eq c19.symm)
            have n21 : q_17.toInt ≤ 2000000000 := Int.le_trans (Int.le_of_eq c19) (Int.le_refl _)
            refine ziinc3 (n' := 1) (a' := 1) (b' := 8) (lv' := fun v9 => [(2, .int v9), (3, .int q_17), (0, .ref o), (1, .int x_1)]) hx hb dX12_home_69 hl (k := 3) rfl (by decide) (fun _ => rfl) (zaddK (i := x_2.toInt) (j := 1) rfl (by decide) i3.1 n9 (Int.le_refl _) (Int.le_refl _) (by decide)) (fun x_22 ls hx_22 hl => ?_)
            refine lv_goto (tgt := 9) hx hb dX12_home_72 (by decide) ?_
            have hl := lv_sub (l' := [(0, .ref o), (1, .int x_1), (2, .int x_22), (3, .int q_17)]) hl [2, 3, 0, 1] rfl
            have hP : va_P g.1 vwCl (List.flatten [bMo g o a 0 hi ac tp ba en tA fl de iD iO tU fm fk fa fc ft ff fb fi]) H := hP
            have hD : va_D A (List.flatten [bMo g o a 0 hi ac tp ba en tA fl de iD iO tU fm fk fa fc ft ff fb fi]) := hD
            exact ih9_5 x_1 x_22 ⟨(Int.le_trans (by decide) hx_22.2.1), hx_22.2.2⟩ H _ ls (zmK hx_22.1 (by decide) n9 (by decide) hk9_5)  hP hD hS (lv_sub hl [0, 1, 2] rfl)
          · skip
            have c23 : ¬ q_17.toInt = 2000000000 := zne cb9 rfl (by decide)
            refine lv_iload_n hx hb dX12_home_57 rfl (lv_at hl 2 rfl) ?_
            refine lv_iconst (v := (-1)) hx hb dX12_home_58 (by decide) ?_
            refine lv_icmp_eq (tgt := 67) hx hb dX12_home_59 (by decide) (fun cb9 => ?_) (fun cb9 => ?_)
            · skip
              have c24 : x_1.toInt = (-1) := zeq cb9 rfl (by decide)
              have n25 : (-1) ≤ x_1.toInt := Int.le_trans (Int.le_refl _) (Int.le_of_eq c24.symm)
              have n26 : x_1.toInt ≤ (-1) := Int.le_trans (Int.le_of_eq c24) (Int.le_refl _)
              refine lv_iload_n hx hb dX12_home_67 rfl (lv_at hl 0 rfl) ?_
              refine lv_istore_n (lv' := [(1, .int q_17), (3, .int q_17), (0, .ref o), (2, .int x_2)]) hx hb dX12_home_68 rfl hl (by decide) rfl (fun ls hl => ?_)
              refine ziinc3 (n' := 1) (a' := 1) (b' := 8) (lv' := fun v9 => [(2, .int v9), (1, .int q_17), (3, .int q_17), (0, .ref o)]) hx hb dX12_home_69 hl (k := 3) rfl (by decide) (fun _ => rfl) (zaddK (i := x_2.toInt) (j := 1) rfl (by decide) i3.1 n9 (Int.le_refl _) (Int.le_refl _) (by decide)) (fun x_27 ls hx_27 hl => ?_)
              refine lv_goto (tgt := 9) hx hb dX12_home_72 (by decide) ?_
              have hl := lv_sub (l' := [(0, .ref o), (1, .int q_17), (2, .int x_27), (3, .int q_17)]) hl [3, 1, 0, 2] rfl
              have hP : va_P g.1 vwCl (List.flatten [bMo g o a 0 hi ac tp ba en tA fl de iD iO tU fm fk fa fc ft ff fb fi]) H := hP
              have hD : va_D A (List.flatten [bMo g o a 0 hi ac tp ba en tA fl de iD iO tU fm fk fa fc ft ff fb fi]) := hD
              exact ih9_5 q_17 x_27 ⟨(Int.le_trans (by decide) hx_27.2.1), hx_27.2.2⟩ H _ ls (zmK hx_27.1 (by decide) n9 (by decide) hk9_5)  hP hD hS (lv_sub hl [0, 1, 2] rfl)
            · skip
              have c28 : ¬ x_1.toInt = (-1) := zne cb9 rfl (by decide)
              refine lv_iload_n hx hb dX12_home_62 rfl (lv_at hl 0 rfl) ?_
              refine lv_iload_n hx hb dX12_home_63 rfl (lv_at hl 2 rfl) ?_
              refine lv_icmp_ge (tgt := 69) hx hb dX12_home_64 (by decide) (fun cb9 => ?_) (fun cb9 => ?_)
              · skip
                have c29 : x_1.toInt ≤ q_17.toInt := zle cb9 rfl rfl
                refine ziinc3 (n' := 1) (a' := 1) (b' := 8) (lv' := fun v9 => [(2, .int v9), (3, .int q_17), (0, .ref o), (1, .int x_1)]) hx hb dX12_home_69 hl (k := 3) rfl (by decide) (fun _ => rfl) (zaddK (i := x_2.toInt) (j := 1) rfl (by decide) i3.1 n9 (Int.le_refl _) (Int.le_refl _) (by decide)) (fun x_30 ls hx_30 hl => ?_)
                refine lv_goto (tgt := 9) hx hb dX12_home_72 (by decide) ?_
                have hl := lv_sub (l' := [(0, .ref o), (1, .int x_1), (2, .int x_30), (3, .int q_17)]) hl [2, 3, 0, 1] rfl
                have hP : va_P g.1 vwCl (List.flatten [bMo g o a 0 hi ac tp ba en tA fl de iD iO tU fm fk fa fc ft ff fb fi]) H := hP
                have hD : va_D A (List.flatten [bMo g o a 0 hi ac tp ba en tA fl de iD iO tU fm fk fa fc ft ff fb fi]) := hD
                exact ih9_5 x_1 x_30 ⟨(Int.le_trans (by decide) hx_30.2.1), hx_30.2.2⟩ H _ ls (zmK hx_30.1 (by decide) n9 (by decide) hk9_5)  hP hD hS (lv_sub hl [0, 1, 2] rfl)
              · skip
                have c31 : q_17.toInt < x_1.toInt := zlti (Int32.not_le.mp cb9) rfl rfl
                refine lv_iload_n hx hb dX12_home_67 rfl (lv_at hl 0 rfl) ?_
                refine lv_istore_n (lv' := [(1, .int q_17), (3, .int q_17), (0, .ref o), (2, .int x_2)]) hx hb dX12_home_68 rfl hl (by decide) rfl (fun ls hl => ?_)
                refine ziinc3 (n' := 1) (a' := 1) (b' := 8) (lv' := fun v9 => [(2, .int v9), (1, .int q_17), (3, .int q_17), (0, .ref o)]) hx hb dX12_home_69 hl (k := 3) rfl (by decide) (fun _ => rfl) (zaddK (i := x_2.toInt) (j := 1) rfl (by decide) i3.1 n9 (Int.le_refl _) (Int.le_refl _) (by decide)) (fun x_32 ls hx_32 hl => ?_)
                refine lv_goto (tgt := 9) hx hb dX12_home_72 (by decide) ?_
                have hl := lv_sub (l' := [(0, .ref o), (1, .int q_17), (2, .int x_32), (3, .int q_17)]) hl [3, 1, 0, 2] rfl
                have hP : va_P g.1 vwCl (List.flatten [bMo g o a 0 hi ac tp ba en tA fl de iD iO tU fm fk fa fc ft ff fb fi]) H := hP
                have hD : va_D A (List.flatten [bMo g o a 0 hi ac tp ba en tA fl de iD iO tU fm fk fa fc ft ff fb fi]) := hD
                exact ih9_5 q_17 x_32 ⟨(Int.le_trans (by decide) hx_32.2.1), hx_32.2.2⟩ H _ ls (zmK hx_32.1 (by decide) n9 (by decide) hk9_5)  hP hD hS (lv_sub hl [0, 1, 2] rfl)
        · skip
          refine lv_if_eq (tgt := 33) hx hb dX12_home_24 (by decide) (fun c33 => absurd c33 (by decide)) (fun _ => ?_)
          refine lv_ldcw (v := 2000000000) hx hb hown (hts _ k1108) dX12_home_27 ?_
          refine lv_goto (tgt := 49) hx hb dX12_home_30 (by decide) ?_
          refine lv_istore_n (lv' := [(3, .int 2000000000), (0, .ref o), (1, .int x_1), (2, .int x_2)]) hx hb dX12_home_49 rfl hl (by decide) rfl (fun ls hl => ?_)
          refine lv_iload_n hx hb dX12_home_50 rfl (lv_at hl 0 rfl) ?_
          refine lv_ldcw (v := 2000000000) hx hb hown (hts _ k1108) dX12_home_51 ?_
          refine lv_icmp_eq (tgt := 69) hx hb dX12_home_54 (by decide) (fun _ => ?_) (fun c34 => absurd (by decide) c34)
          refine ziinc3 (n' := 1) (a' := 1) (b' := 8) (lv' := fun v9 => [(2, .int v9), (3, .int 2000000000), (0, .ref o), (1, .int x_1)]) hx hb dX12_home_69 hl (k := 3) rfl (by decide) (fun _ => rfl) (zaddK (i := x_2.toInt) (j := 1) rfl (by decide) i3.1 n9 (Int.le_refl _) (Int.le_refl _) (by decide)) (fun x_35 ls hx_35 hl => ?_)
          refine lv_goto (tgt := 9) hx hb dX12_home_72 (by decide) ?_
          have hl := lv_sub (l' := [(0, .ref o), (1, .int x_1), (2, .int x_35), (3, .int 2000000000)]) hl [2, 3, 0, 1] rfl
          have hP : va_P g.1 vwCl (List.flatten [bMo g o a 0 hi ac tp ba en tA fl de iD iO tU fm fk fa fc ft ff fb fi]) H := hP
          have hD : va_D A (List.flatten [bMo g o a 0 hi ac tp ba en tA fl de iD iO tU fm fk fa fc ft ff fb fi]) := hD
          exact ih9_5 x_1 x_35 ⟨(Int.le_trans (by decide) hx_35.2.1), hx_35.2.2⟩ H _ ls (zmK hx_35.1 (by decide) n9 (by decide) hk9_5)  hP hD hS (lv_sub hl [0, 1, 2] rfl)
  have hP : va_P g.1 vwCl (List.flatten [bMo g o a 0 hi ac tp ba en tA fl de iD iO tU fm fk fa fc ft ff fb fi]) H := hP
  have hD : va_D A (List.flatten [bMo g o a 0 hi ac tp ba en tA fl de iD iO tU fm fk fa fc ft ff fb fi]) := hD
  exact LP9_4 _ (-1) 0 (by decide) H _ ls (Nat.lt_succ_self _)  hP hD hS (lv_sub hl [0, 1, 2] rfl)
set_option maxRecDepth 100000 in
set_option maxHeartbeats 4000000 in
theorem m_led (l : Launch) (g : zG) (o : Nat) (a : Nat → Nat) (th : Int32) (hi : Int32) (ac : Int32) (tp : Int32) (ba : Int32) (en : Int32) (tA : Int32) (fl : Int32) (de : Int32) (iD : Int32) (iO : Int32) (tU : Int32) (fm : Nat → Int32) (fk : Nat → Int32) (fa : Nat → Int32) (fc : Nat → Int32) (ft : Nat → Int32) (ff : Nat → Int32) (fb : Nat → Int32) (fi : Nat → Int32) (w : Int32) (day : Int32) (rfm : rM fm) : zM' g l yX12_led (Cond.code yX12_led cX12_led 6 (some .int) :: zB) ({ frames := 2, cells := 0, slots := 0, locals := 43 } : Room) [.ref o, .int w, .int day] [bMo g o a th hi ac tp ba en tA fl de iD iO tU fm fk fa fc ft ff fb fi] (fun u : Int32 × Int32 => (fun (th2 : Int32) (q : Int32) => some (.int q)) (u.1) (u.2)) (fun u : Int32 × Int32 => (fun (th2 : Int32) (q : Int32) => True) (u.1) (u.2)) (fun u : Int32 × Int32 => (fun (th2 : Int32) (q : Int32) => [bMo g o a th2 hi ac tp ba en tA fl de iD iO tU fm fk fa fc ft ff fb fi]) (u.1) (u.2)) := by
  refine zM'.of (cc := cX12_led) (maxL := 6) (rt := (some .int)) (by decide) rfl (Nat.le_of_ble_eq_true rfl) ?_
  intro p e s m args below meth c A ls St hr hlocks hin hK hT hA hP hD hS hl
  obtain ⟨hx, hb, hml, hown, hts⟩ := id St
  have hl : lv_has ls 6 [(0, .ref o), (1, .int w), (2, .int day)] := hl
  refine lv_aload_n hx hb dX12_led_0 rfl (lv_at hl 0 rfl) ?_
  refine lv_aload_n hx hb dX12_led_1 rfl (lv_at hl 0 rfl) ?_
  refine lv_iload_n hx hb dX12_led_2 rfl (lv_at hl 1 rfl) ?_
  refine mcallV' (g := g) (q0 := 0) (ci := 10) (As := [.int w]) (rest := [.ref o]) St hK hT hA hP hD hS hl.1 [0] [] rfl rfl rfl (m_isWork l g o a th hi ac tp ba en tA fl de iD iO tU fm fk fa fc ft ff fb fi w rfm) (cwV 1 hts (zgL (zl4 k1042 k1043 k1044 k839) k840) rfl rfl rfl (by decide +kernel) ⟨Nat.le_of_ble_eq_true rfl, Nat.le_of_ble_eq_true rfl⟩) rfl rfl rfl rfl (Nat.le_of_ble_eq_true rfl) dX12_led_3 ⟨(Nat.le_of_ble_eq_true rfl), (Nat.le_of_ble_eq_true rfl)⟩ (fun q_1 H locs hq2 hP hD hS => ?_)
  replace hq2 : (q_1 = 1 ∧ 0 ≤ w.toInt ∧ w.toInt ≤ 5 ∧ w.toInt < (fm 4).toInt ∨ q_1 = 0) := hq2
  have hP : va_P g.1 vwCl (List.flatten [bMo g o a th hi ac tp ba en tA fl de iD iO tU fm fk fa fc ft ff fb fi]) H := hP
  have hD : va_D A (List.flatten [bMo g o a th hi ac tp ba en tA fl de iD iO tU fm fk fa fc ft ff fb fi]) := hD
  refine W.widen (k := 0) (n := 0) (Nat.le_of_ble_eq_true rfl) (Nat.le_of_ble_eq_true rfl) ?_
  refine W.eq (g2 := F0 m 6 ls [.int q_1, .ref o]) rfl ?_
  rcases hq2 with ⟨rfl, hq2_k⟩ | rfl
  · skip
    refine lv_if_ne (tgt := 13) hx hb dX12_led_6 (by decide) (fun _ => ?_) (fun c3 => absurd c3 (by decide))
    refine lv_iconst (v := 0) hx hb dX12_led_13 (by decide) ?_
    refine va_put (D := g.1) (ci := 10) (v := .int 0) (ty := .int) (C := RX12) (T := TX12) (N := 20) hx hb hts izRX12 tyX12 tyX12_ok nmX12 hown hK hP hD hS 0 rfl rfl 0 (by decide) (hts _ k825) (fun _ h9 => h9) rfl (by decide +kernel) rfl rfl (Nat.le_of_ble_eq_true rfl) dX12_led_14 (fun H locs hP hD hS => ?_)
    have hP : va_P g.1 vwCl (List.flatten [bMo g o a 0 hi ac tp ba en tA fl de iD iO tU fm fk fa fc ft ff fb fi]) H := hP
    have hD : va_D A (List.flatten [bMo g o a 0 hi ac tp ba en tA fl de iD iO tU fm fk fa fc ft ff fb fi]) := hD
    refine lv_aload_n hx hb dX12_led_17 rfl (lv_at hl 0 rfl) ?_
    refine va_get (D := g.1) (ci := 10) (v := .int 0) (C := RX12) (T := TX12) (N := 20) hx hb hts izRX12 hown hK hP 0 rfl rfl 0 (by decide) (hts _ k825) (fun _ h9 => h9) rfl dX12_led_18 ?_
    refine lv_if_le (tgt := 26) hx hb dX12_led_21 (by decide) (fun _ => ?_) (fun c4 => absurd (by decide) c4)
    refine lv_iconst (v := 0) hx hb dX12_led_26 (by decide) ?_
    refine lv_istore_n (lv' := [(3, .int 0), (0, .ref o), (1, .int w), (2, .int day)]) hx hb dX12_led_27 rfl hl (by decide) rfl (fun ls hl => ?_)
    refine lv_iconst (v := (-1)) hx hb dX12_led_28 (by decide) ?_
    refine lv_istore (lv' := [(4, .int (-1)), (3, .int 0), (0, .ref o), (1, .int w), (2, .int day)]) hx hb dX12_led_29 hl (by decide) rfl (fun ls hl => ?_)
    refine lv_aload_n hx hb dX12_led_31 rfl (lv_at hl 2 rfl) ?_
    refine va_get (D := g.1) (ci := 10) (v := .ref (a 0)) (C := RX12) (T := TX12) (N := 20) hx hb hts izRX12 hown hK hP 0 rfl rfl 1 (by decide) (hts _ k815) (fun _ h9 => h9) rfl dX12_led_32 ?_
    refine lv_bipush (v := 9) hx hb dX12_led_35 (by decide) ?_
    refine va_iald hx hb hK hP 1 0 rfl rfl (zin rfl) dX12_led_37 ?_
    refine zgq (r := fm 9) rfl (rM9 rfm) (fun x_5 hx_5 => ?_)
    refine lv_iconst (v := 1) hx hb dX12_led_38 (by decide) ?_
    refine lv_isub hx hb dX12_led_39 ?_
    refine zg3 (zsubK (i := x_5.toInt) (j := 1) (a' := (-1)) (b' := 59) rfl (by decide) hx_5.1 hx_5.2.1 (Int.le_refl _) (Int.le_refl _) (by decide)) (fun x_6 hx_6 => ?_)
    refine lv_istore (lv' := [(5, .int x_6), (4, .int (-1)), (3, .int 0), (0, .ref o), (1, .int w), (2, .int day)]) hx hb dX12_led_40 hl (by decide) rfl (fun ls hl => ?_)
    have hl := lv_sub (l' := [(0, .ref o), (1, .int w), (2, .int day), (3, .int 0), (4, .int (-1)), (5, .int x_6)]) hl [3, 4, 5, 2, 1, 0] rfl
    have LP42_11 : ∀ (kf : Nat) (x_7 : Int32) (x_8 : Int32) (x_9 : Int32), ((-1) ≤ x_9.toInt ∧ x_9.toInt ≤ 59) → ∀ (H : Heap) (locs : List Loc) (ls : Array Slot), ((x_9.toInt - (-1) + 1).toNat) < kf → va_P g.1 vwCl (List.flatten [bMo g o a 0 hi ac tp ba en tA fl de iD iO tU fm fk fa fc ft ff fb fi]) H → va_D A (List.flatten [bMo g o a 0 hi ac tp ba en tA fl de iD iO tU fm fk fa fc ft ff fb fi]) → va_S A s.heap H locs → lv_has ls 6 [(0, .ref o), (1, .int w), (2, .int day), (3, .int x_7), (4, .int x_8), (5, .int x_9)] → W p l e ({ frames := 2, cells := 0, slots := 0, locals := 43 } : Room) s m args below meth c H locs (0) (0) (zF g (fun u : Int32 × Int32 => (fun (th2 : Int32) (q : Int32) => some (.int q)) (u.1) (u.2)) (fun u : Int32 × Int32 => (fun (th2 : Int32) (q : Int32) => True) (u.1) (u.2)) (fun u : Int32 × Int32 => (fun (th2 : Int32) (q : Int32) => [bMo g o a th2 hi ac tp ba en tA fl de iD iO tU fm fk fa fc ft ff fb fi]) (u.1) (u.2)) ({ frames := 2, cells := 0, slots := 0, locals := 43 } : Room) below args s A) (F0 m 42 ls []) := by
      intro kf
      induction kf with
      | zero => intro x_7 x_8 x_9 i10 H locs ls hk; exact absurd hk (Nat.not_lt_zero _)
      | succ kf ih42_12 =>
        intro x_7 x_8 x_9 i10 H locs ls hk42_12 hP hD hS hl
        refine lv_iload hx hb dX12_led_42 (lv_at hl 5 rfl) ?_
        refine lv_if_lt (tgt := 90) hx hb dX12_led_44 (by decide) (fun cb9 => ?_) (fun cb9 => ?_)
        · skip
          have c13 : x_9.toInt < 0 := zlti cb9 rfl (by decide)
          have n14 : x_9.toInt ≤ (-1) := zL1 (b := 0) c13 (Int.le_refl _) (by decide)
          refine lv_iload_n hx hb dX12_led_90 rfl (lv_at hl 2 rfl) ?_
          refine lv_if_eq (tgt := 99) hx hb dX12_led_91 (by decide) (fun cb9 => ?_) (fun cb9 => ?_)
          · skip
            have c15 : day.toInt = 0 := zeq cb9 rfl (by decide)
            have n16 : 0 ≤ day.toInt := Int.le_trans (Int.le_refl _) (Int.le_of_eq c15.symm)
            have n17 : day.toInt ≤ 0 := Int.le_trans (Int.le_of_eq c15) (Int.le_refl _)
            refine lv_iload_n hx hb dX12_led_99 rfl (lv_at hl 3 rfl) ?_
            have hP : va_P g.1 vwCl (List.flatten [bMo g o a 0 hi ac tp ba en tA fl de iD iO tU fm fk fa fc ft ff fb fi]) H := hP
            have hD : va_D A (List.flatten [bMo g o a 0 hi ac tp ba en tA fl de iD iO tU fm fk fa fc ft ff fb fi]) := hD
            exact mret_i hx hb hr hlocks hS (Nat.le_of_ble_eq_true rfl) (Nat.le_of_ble_eq_true rfl) dX12_led_100 ((0 : Int32), x_7) rfl trivial hP hD
          · skip
            have c18 : ¬ day.toInt = 0 := zne cb9 rfl (by decide)
            refine lv_iload hx hb dX12_led_94 (lv_at hl 4 rfl) ?_
            refine lv_goto (tgt := 100) hx hb dX12_led_96 (by decide) ?_
            have hP : va_P g.1 vwCl (List.flatten [bMo g o a 0 hi ac tp ba en tA fl de iD iO tU fm fk fa fc ft ff fb fi]) H := hP
            have hD : va_D A (List.flatten [bMo g o a 0 hi ac tp ba en tA fl de iD iO tU fm fk fa fc ft ff fb fi]) := hD
            exact mret_i hx hb hr hlocks hS (Nat.le_of_ble_eq_true rfl) (Nat.le_of_ble_eq_true rfl) dX12_led_100 ((0 : Int32), x_8) rfl trivial hP hD
        · skip
          have c19 : 0 ≤ x_9.toInt := zle (Int32.not_lt.mp cb9) (by decide) rfl
          have n20 : 0 ≤ x_9.toInt := Int.le_trans (Int.le_refl _) c19
          refine lv_aload_n hx hb dX12_led_47 rfl (lv_at hl 0 rfl) ?_
          refine lv_iload hx hb dX12_led_48 (lv_at hl 5 rfl) ?_
          refine lv_iconst (v := 1) hx hb dX12_led_50 (by decide) ?_
          have hL1 : (1 : Int32).toInt = 1 := by decide
          refine mcallV' (g := g) (q0 := 0) (ci := 10) (As := [.int x_9, .int 1]) (rest := []) St hK hT hA hP hD hS hl.1 [0] [] rfl rfl rfl (m_logged l g o a 0 hi ac tp ba en tA fl de iD iO tU fm fk fa fc ft ff fb fi x_9 1 (⟨n20, i10.2⟩) (by decide)) (cwV 2 hts (zgL (zl4 k1139 k1140 k1141 k839) k1137) rfl rfl rfl (by decide +kernel) ⟨Nat.le_of_ble_eq_true rfl, Nat.le_of_ble_eq_true rfl⟩) rfl rfl rfl rfl (Nat.le_of_ble_eq_true rfl) dX12_led_51 ⟨(Nat.le_of_ble_eq_true rfl), (Nat.le_of_ble_eq_true rfl)⟩ (fun q_21 H locs hq22 hP hD hS => ?_)
          have hP : va_P g.1 vwCl (List.flatten [bMo g o a 0 hi ac tp ba en tA fl de iD iO tU fm fk fa fc ft ff fb fi]) H := hP
          have hD : va_D A (List.flatten [bMo g o a 0 hi ac tp ba en tA fl de iD iO tU fm fk fa fc ft ff fb fi]) := hD
          refine W.widen (k := 0) (n := 0) (Nat.le_of_ble_eq_true rfl) (Nat.le_of_ble_eq_true rfl) ?_
          refine W.eq (g2 := F0 m 54 ls [.int q_21]) rfl ?_
          refine lv_iload_n hx hb dX12_led_54 rfl (lv_at hl 1 rfl) ?_
          refine lv_icmp_ne (tgt := 84) hx hb dX12_led_55 (by decide) (fun cb9 => ?_) (fun cb9 => ?_)
          · skip
            have c23 : ¬ q_21.toInt = w.toInt := zne cb9 rfl rfl
            refine ziinc3 (n' := (-1)) (a' := (-1)) (b' := 58) (lv' := fun v9 => [(5, .int v9), (0, .ref o), (1, .int w), (2, .int day), (3, .int x_7), (4, .int x_8)]) hx hb dX12_led_84 hl (k := 5) rfl (by decide) (fun _ => rfl) (zaddK (i := x_9.toInt) (j := (-1)) rfl (by decide) n20 i10.2 (Int.le_refl _) (Int.le_refl _) (by decide)) (fun x_24 ls hx_24 hl => ?_)
            refine lv_goto (tgt := 42) hx hb dX12_led_87 (by decide) ?_
            have hl := lv_sub (l' := [(0, .ref o), (1, .int w), (2, .int day), (3, .int x_7), (4, .int x_8), (5, .int x_24)]) hl [1, 2, 3, 4, 5, 0] rfl
            have hP : va_P g.1 vwCl (List.flatten [bMo g o a 0 hi ac tp ba en tA fl de iD iO tU fm fk fa fc ft ff fb fi]) H := hP
            have hD : va_D A (List.flatten [bMo g o a 0 hi ac tp ba en tA fl de iD iO tU fm fk fa fc ft ff fb fi]) := hD
            exact ih42_12 x_7 x_8 x_24 ⟨hx_24.2.1, (Int.le_trans hx_24.2.2 (by decide))⟩ H _ ls (zmKd hx_24.1 (by decide) n20 (by decide) hk42_12)  hP hD hS (lv_sub hl [0, 1, 2, 3, 4, 5] rfl)
          · skip
            have c25 : q_21.toInt = w.toInt := zeq cb9 rfl rfl
            refine lv_aload_n hx hb dX12_led_58 rfl (lv_at hl 0 rfl) ?_
            refine lv_iload hx hb dX12_led_59 (lv_at hl 5 rfl) ?_
            refine lv_iconst (v := 2) hx hb dX12_led_61 (by decide) ?_
            have hL2 : (2 : Int32).toInt = 2 := by decide
            refine mcallV' (g := g) (q0 := 0) (ci := 10) (As := [.int x_9, .int 2]) (rest := []) St hK hT hA hP hD hS hl.1 [0] [] rfl rfl rfl (m_logged l g o a 0 hi ac tp ba en tA fl de iD iO tU fm fk fa fc ft ff fb fi x_9 2 (⟨n20, i10.2⟩) (by decide)) (cwV 2 hts (zgL (zl4 k1139 k1140 k1141 k839) k1137) rfl rfl rfl (by decide +kernel) ⟨Nat.le_of_ble_eq_true rfl, Nat.le_of_ble_eq_true rfl⟩) rfl rfl rfl rfl (Nat.le_of_ble_eq_true rfl) dX12_led_62 ⟨(Nat.le_of_ble_eq_true rfl), (Nat.le_of_ble_eq_true rfl)⟩ (fun q_26 H locs hq27 hP hD hS => ?_)
            have hP : va_P g.1 vwCl (List.flatten [bMo g o a 0 hi ac tp ba en tA fl de iD iO tU fm fk fa fc ft ff fb fi]) H := hP
            have hD : va_D A (List.flatten [bMo g o a 0 hi ac tp ba en tA fl de iD iO tU fm fk fa fc ft ff fb fi]) := hD
            refine W.widen (k := 0) (n := 0) (Nat.le_of_ble_eq_true rfl) (Nat.le_of_ble_eq_true rfl) ?_
            refine W.eq (g2 := F0 m 65 ls [.int q_26]) rfl ?_
            refine lv_iconst (v := 1) hx hb dX12_led_65 (by decide) ?_
            refine lv_icmp_le (tgt := 72) hx hb dX12_led_66 (by decide) (fun cb9 => ?_) (fun cb9 => ?_)
            · skip
              have c28 : q_26.toInt ≤ 1 := zle cb9 rfl (by decide)
              have n29 : q_26.toInt ≤ 1 := Int.le_trans c28 (Int.le_refl _)
              refine ziincG (lv' := fun v9 => [(3, .int v9), (0, .ref o), (1, .int w), (2, .int day), (4, .int x_8), (5, .int x_9)]) hx hb dX12_led_72 hl (k := 3) rfl (by decide) (fun _ => rfl) (fun x_30 ls hl => ?_)
              refine lv_aload_n hx hb dX12_led_75 rfl (lv_at hl 1 rfl) ?_
              refine lv_iload hx hb dX12_led_76 (lv_at hl 5 rfl) ?_
              refine lv_iconst (v := 0) hx hb dX12_led_78 (by decide) ?_
              have hL0 : (0 : Int32).toInt = 0 := by decide
              refine mcallV' (g := g) (q0 := 0) (ci := 10) (As := [.int x_9, .int 0]) (rest := []) St hK hT hA hP hD hS hl.1 [0] [] rfl rfl rfl (m_logged l g o a 0 hi ac tp ba en tA fl de iD iO tU fm fk fa fc ft ff fb fi x_9 0 (⟨n20, i10.2⟩) (by decide)) (cwV 2 hts (zgL (zl4 k1139 k1140 k1141 k839) k1137) rfl rfl rfl (by decide +kernel) ⟨Nat.le_of_ble_eq_true rfl, Nat.le_of_ble_eq_true rfl⟩) rfl rfl rfl rfl (Nat.le_of_ble_eq_true rfl) dX12_led_79 ⟨(Nat.le_of_ble_eq_true rfl), (Nat.le_of_ble_eq_true rfl)⟩ (fun q_31 H locs hq32 hP hD hS => ?_)
              have hP : va_P g.1 vwCl (List.flatten [bMo g o a 0 hi ac tp ba en tA fl de iD iO tU fm fk fa fc ft ff fb fi]) H := hP
              have hD : va_D A (List.flatten [bMo g o a 0 hi ac tp ba en tA fl de iD iO tU fm fk fa fc ft ff fb fi]) := hD
              refine W.widen (k := 0) (n := 0) (Nat.le_of_ble_eq_true rfl) (Nat.le_of_ble_eq_true rfl) ?_
              refine W.eq (g2 := F0 m 82 ls [.int q_31]) rfl ?_
              refine lv_istore (lv' := [(4, .int q_31), (3, .int x_30), (0, .ref o), (1, .int w), (2, .int day), (5, .int x_9)]) hx hb dX12_led_82 hl (by decide) rfl (fun ls hl => ?_)
              refine ziinc3 (n' := (-1)) (a' := (-1)) (b' := 58) (lv' := fun v9 => [(5, .int v9), (4, .int q_31), (3, .int x_30), (0, .ref o), (1, .int w), (2, .int day)]) hx hb dX12_led_84 hl (k := 5) rfl (by decide) (fun _ => rfl) (zaddK (i := x_9.toInt) (j := (-1)) rfl (by decide) n20 i10.2 (Int.le_refl _) (Int.le_refl _) (by decide)) (fun x_33 ls hx_33 hl => ?_)
              refine lv_goto (tgt := 42) hx hb dX12_led_87 (by decide) ?_
              have hl := lv_sub (l' := [(0, .ref o), (1, .int w), (2, .int day), (3, .int x_30), (4, .int q_31), (5, .int x_33)]) hl [3, 4, 5, 2, 1, 0] rfl
              have hP : va_P g.1 vwCl (List.flatten [bMo g o a 0 hi ac tp ba en tA fl de iD iO tU fm fk fa fc ft ff fb fi]) H := hP
              have hD : va_D A (List.flatten [bMo g o a 0 hi ac tp ba en tA fl de iD iO tU fm fk fa fc ft ff fb fi]) := hD
              exact ih42_12 x_30 q_31 x_33 ⟨hx_33.2.1, (Int.le_trans hx_33.2.2 (by decide))⟩ H _ ls (zmKd hx_33.1 (by decide) n20 (by decide) hk42_12)  hP hD hS (lv_sub hl [0, 1, 2, 3, 4, 5] rfl)
            · skip
              have c34 : 1 < q_26.toInt := zlti (Int32.not_le.mp cb9) (by decide) rfl
              have n35 : 2 ≤ q_26.toInt := zL2 (a := 1) c34 (Int.le_refl _) (by decide)
              refine lv_goto (tgt := 84) hx hb dX12_led_69 (by decide) ?_
              refine ziinc3 (n' := (-1)) (a' := (-1)) (b' := 58) (lv' := fun v9 => [(5, .int v9), (0, .ref o), (1, .int w), (2, .int day), (3, .int x_7), (4, .int x_8)]) hx hb dX12_led_84 hl (k := 5) rfl (by decide) (fun _ => rfl) (zaddK (i := x_9.toInt) (j := (-1)) rfl (by decide) n20 i10.2 (Int.le_refl _) (Int.le_refl _) (by decide)) (fun x_36 ls hx_36 hl => ?_)
              refine lv_goto (tgt := 42) hx hb dX12_led_87 (by decide) ?_
              have hl := lv_sub (l' := [(0, .ref o), (1, .int w), (2, .int day), (3, .int x_7), (4, .int x_8), (5, .int x_36)]) hl [1, 2, 3, 4, 5, 0] rfl
              have hP : va_P g.1 vwCl (List.flatten [bMo g o a 0 hi ac tp ba en tA fl de iD iO tU fm fk fa fc ft ff fb fi]) H := hP
              have hD : va_D A (List.flatten [bMo g o a 0 hi ac tp ba en tA fl de iD iO tU fm fk fa fc ft ff fb fi]) := hD
              exact ih42_12 x_7 x_8 x_36 ⟨hx_36.2.1, (Int.le_trans hx_36.2.2 (by decide))⟩ H _ ls (zmKd hx_36.1 (by decide) n20 (by decide) hk42_12)  hP hD hS (lv_sub hl [0, 1, 2, 3, 4, 5] rfl)
    have hP : va_P g.1 vwCl (List.flatten [bMo g o a 0 hi ac tp ba en tA fl de iD iO tU fm fk fa fc ft ff fb fi]) H := hP
    have hD : va_D A (List.flatten [bMo g o a 0 hi ac tp ba en tA fl de iD iO tU fm fk fa fc ft ff fb fi]) := hD
    exact LP42_11 _ 0 (-1) x_6 ⟨hx_6.2.1, hx_6.2.2⟩ H _ ls (Nat.lt_succ_self _)  hP hD hS (lv_sub hl [0, 1, 2, 3, 4, 5] rfl)
  · skip
    refine lv_if_ne (tgt := 13) hx hb dX12_led_6 (by decide) (fun c37 => absurd (by decide) c37) (fun _ => ?_)
    refine lv_iconst (v := 1) hx hb dX12_led_9 (by decide) ?_
    refine lv_goto (tgt := 14) hx hb dX12_led_10 (by decide) ?_
    refine va_put (D := g.1) (ci := 10) (v := .int 1) (ty := .int) (C := RX12) (T := TX12) (N := 20) hx hb hts izRX12 tyX12 tyX12_ok nmX12 hown hK hP hD hS 0 rfl rfl 0 (by decide) (hts _ k825) (fun _ h9 => h9) rfl (by decide +kernel) rfl rfl (Nat.le_of_ble_eq_true rfl) dX12_led_14 (fun H locs hP hD hS => ?_)
    have hP : va_P g.1 vwCl (List.flatten [bMo g o a 1 hi ac tp ba en tA fl de iD iO tU fm fk fa fc ft ff fb fi]) H := hP
    have hD : va_D A (List.flatten [bMo g o a 1 hi ac tp ba en tA fl de iD iO tU fm fk fa fc ft ff fb fi]) := hD
    refine lv_aload_n hx hb dX12_led_17 rfl (lv_at hl 0 rfl) ?_
    refine va_get (D := g.1) (ci := 10) (v := .int 1) (C := RX12) (T := TX12) (N := 20) hx hb hts izRX12 hown hK hP 0 rfl rfl 0 (by decide) (hts _ k825) (fun _ h9 => h9) rfl dX12_led_18 ?_
    refine lv_if_le (tgt := 26) hx hb dX12_led_21 (by decide) (fun c38 => absurd c38 (by decide)) (fun _ => ?_)
    refine lv_iconst (v := 0) hx hb dX12_led_24 (by decide) ?_
    have hP : va_P g.1 vwCl (List.flatten [bMo g o a 1 hi ac tp ba en tA fl de iD iO tU fm fk fa fc ft ff fb fi]) H := hP
    have hD : va_D A (List.flatten [bMo g o a 1 hi ac tp ba en tA fl de iD iO tU fm fk fa fc ft ff fb fi]) := hD
    exact mret_i hx hb hr hlocks hS (Nat.le_of_ble_eq_true rfl) (Nat.le_of_ble_eq_true rfl) dX12_led_25 ((1 : Int32), (0 : Int32)) rfl trivial hP hD
set_option maxRecDepth 100000 in
set_option maxHeartbeats 4000000 in
theorem m_log (l : Launch) (g : zG) (o : Nat) (a : Nat → Nat) (th : Int32) (hi : Int32) (ac : Int32) (tp : Int32) (ba : Int32) (en : Int32) (tA : Int32) (fl : Int32) (de : Int32) (iD : Int32) (iO : Int32) (tU : Int32) (fm : Nat → Int32) (fk : Nat → Int32) (fa : Nat → Int32) (fc : Nat → Int32) (ft : Nat → Int32) (ff : Nat → Int32) (fb : Nat → Int32) (fi : Nat → Int32) (ago : Int32) (what : Int32) (rfm : rM fm) : zM' g l yX12_log (Cond.code yX12_log cX12_log 3 (some .int) :: zB) ({ frames := 1, cells := 0, slots := 0, locals := 22 } : Room) [.ref o, .int ago, .int what] [bMo g o a th hi ac tp ba en tA fl de iD iO tU fm fk fa fc ft ff fb fi] (fun u : Int32 × Int32 => (fun (th2 : Int32) (q : Int32) => some (.int q)) (u.1) (u.2)) (fun u : Int32 × Int32 => (fun (th2 : Int32) (q : Int32) => True) (u.1) (u.2)) (fun u : Int32 × Int32 => (fun (th2 : Int32) (q : Int32) => [bMo g o a th2 hi ac tp ba en tA fl de iD iO tU fm fk fa fc ft ff fb fi]) (u.1) (u.2)) := by
  refine zM'.of (cc := cX12_log) (maxL := 3) (rt := (some .int)) (by decide) rfl (Nat.le_of_ble_eq_true rfl) ?_
  intro p e s m args below meth c A ls St hr hlocks hin hK hT hA hP hD hS hl
  obtain ⟨hx, hb, hml, hown, hts⟩ := id St
  have hl : lv_has ls 3 [(0, .ref o), (1, .int ago), (2, .int what)] := hl
  refine lv_aload_n hx hb dX12_log_0 rfl (lv_at hl 0 rfl) ?_
  refine lv_iload_n hx hb dX12_log_1 rfl (lv_at hl 2 rfl) ?_
  refine lv_iconst (v := 0) hx hb dX12_log_2 (by decide) ?_
  refine lv_iconst (v := 3) hx hb dX12_log_3 (by decide) ?_
  have hL0 : (0 : Int32).toInt = 0 := by decide
  have hL3 : (3 : Int32).toInt = 3 := by decide
  refine mcallS' (g := g) (As := [.int what, .int 0, .int 3]) (rest := [.ref o]) St hK hT hA hP hD hS hl.1 [] [0] rfl rfl rfl (m_isIn l g what 0 3 ) (va_cwS 3 hts (zgL (zl3 k837 k838 k839) k826) rfl rfl rfl (by decide +kernel) ⟨Nat.le_of_ble_eq_true rfl, Nat.le_of_ble_eq_true rfl⟩) rfl rfl (Nat.le_of_ble_eq_true rfl) dX12_log_4 ⟨(Nat.le_of_ble_eq_true rfl), (Nat.le_of_ble_eq_true rfl)⟩ (fun q_1 H locs hq2 hP hD hS => ?_)
  replace hq2 : (q_1 = 1 ∧ (0 : Int32).toInt ≤ what.toInt ∧ what.toInt ≤ (3 : Int32).toInt ∨ q_1 = 0 ∧ (what.toInt < (0 : Int32).toInt ∨ (3 : Int32).toInt < what.toInt)) := hq2
  have hP : va_P g.1 vwCl (List.flatten [bMo g o a th hi ac tp ba en tA fl de iD iO tU fm fk fa fc ft ff fb fi]) H := hP
  have hD : va_D A (List.flatten [bMo g o a th hi ac tp ba en tA fl de iD iO tU fm fk fa fc ft ff fb fi]) := hD
  refine W.widen (k := 0) (n := 0) (Nat.le_of_ble_eq_true rfl) (Nat.le_of_ble_eq_true rfl) ?_
  refine W.eq (g2 := F0 m 7 ls [.int q_1, .ref o]) rfl ?_
  rcases hq2 with ⟨rfl, hq2_k⟩ | ⟨rfl, hq2_k⟩
  · skip
    refine lv_if_ne (tgt := 14) hx hb dX12_log_7 (by decide) (fun _ => ?_) (fun c3 => absurd c3 (by decide))
    refine lv_iconst (v := 0) hx hb dX12_log_14 (by decide) ?_
    refine va_put (D := g.1) (ci := 10) (v := .int 0) (ty := .int) (C := RX12) (T := TX12) (N := 20) hx hb hts izRX12 tyX12 tyX12_ok nmX12 hown hK hP hD hS 0 rfl rfl 0 (by decide) (hts _ k825) (fun _ h9 => h9) rfl (by decide +kernel) rfl rfl (Nat.le_of_ble_eq_true rfl) dX12_log_15 (fun H locs hP hD hS => ?_)
    have hP : va_P g.1 vwCl (List.flatten [bMo g o a 0 hi ac tp ba en tA fl de iD iO tU fm fk fa fc ft ff fb fi]) H := hP
    have hD : va_D A (List.flatten [bMo g o a 0 hi ac tp ba en tA fl de iD iO tU fm fk fa fc ft ff fb fi]) := hD
    refine lv_aload_n hx hb dX12_log_18 rfl (lv_at hl 0 rfl) ?_
    refine va_get (D := g.1) (ci := 10) (v := .int 0) (C := RX12) (T := TX12) (N := 20) hx hb hts izRX12 hown hK hP 0 rfl rfl 0 (by decide) (hts _ k825) (fun _ h9 => h9) rfl dX12_log_19 ?_
    refine lv_if_le (tgt := 27) hx hb dX12_log_22 (by decide) (fun _ => ?_) (fun c4 => absurd (by decide) c4)
    refine lv_iload_n hx hb dX12_log_27 rfl (lv_at hl 1 rfl) ?_
    refine lv_iconst (v := 0) hx hb dX12_log_28 (by decide) ?_
    refine lv_aload_n hx hb dX12_log_29 rfl (lv_at hl 0 rfl) ?_
    refine va_get (D := g.1) (ci := 10) (v := .ref (a 0)) (C := RX12) (T := TX12) (N := 20) hx hb hts izRX12 hown hK hP 0 rfl rfl 1 (by decide) (hts _ k815) (fun _ h9 => h9) rfl dX12_log_30 ?_
    refine lv_bipush (v := 9) hx hb dX12_log_33 (by decide) ?_
    refine va_iald hx hb hK hP 1 0 rfl rfl (zin rfl) dX12_log_35 ?_
    refine zgq (r := fm 9) rfl (rM9 rfm) (fun x_5 hx_5 => ?_)
    refine lv_iconst (v := 1) hx hb dX12_log_36 (by decide) ?_
    refine lv_isub hx hb dX12_log_37 ?_
    refine zg3 (zsubK (i := x_5.toInt) (j := 1) (a' := (-1)) (b' := 59) rfl (by decide) hx_5.1 hx_5.2.1 (Int.le_refl _) (Int.le_refl _) (by decide)) (fun x_6 hx_6 => ?_)
    refine mcallS' (g := g) (As := [.int ago, .int 0, .int x_6]) (rest := []) St hK hT hA hP hD hS hl.1 [] [0] rfl rfl rfl (m_isIn l g ago 0 x_6 ) (va_cwS 3 hts (zgL (zl3 k837 k838 k839) k826) rfl rfl rfl (by decide +kernel) ⟨Nat.le_of_ble_eq_true rfl, Nat.le_of_ble_eq_true rfl⟩) rfl rfl (Nat.le_of_ble_eq_true rfl) dX12_log_38 ⟨(Nat.le_of_ble_eq_true rfl), (Nat.le_of_ble_eq_true rfl)⟩ (fun q_7 H locs hq8 hP hD hS => ?_)
    replace hq8 : (q_7 = 1 ∧ (0 : Int32).toInt ≤ ago.toInt ∧ ago.toInt ≤ x_6.toInt ∨ q_7 = 0 ∧ (ago.toInt < (0 : Int32).toInt ∨ x_6.toInt < ago.toInt)) := hq8
    have hP : va_P g.1 vwCl (List.flatten [bMo g o a 0 hi ac tp ba en tA fl de iD iO tU fm fk fa fc ft ff fb fi]) H := hP
    have hD : va_D A (List.flatten [bMo g o a 0 hi ac tp ba en tA fl de iD iO tU fm fk fa fc ft ff fb fi]) := hD
    refine W.widen (k := 0) (n := 0) (Nat.le_of_ble_eq_true rfl) (Nat.le_of_ble_eq_true rfl) ?_
    refine W.eq (g2 := F0 m 41 ls [.int q_7]) rfl ?_
    rcases hq8 with ⟨rfl, hq8_k⟩ | ⟨rfl, hq8_k⟩
    · skip
      refine lv_if_eq (tgt := 53) hx hb dX12_log_41 (by decide) (fun c9 => absurd c9 (by decide)) (fun _ => ?_)
      refine lv_aload_n hx hb dX12_log_44 rfl (lv_at hl 0 rfl) ?_
      refine lv_iload_n hx hb dX12_log_45 rfl (lv_at hl 1 rfl) ?_
      refine lv_iload_n hx hb dX12_log_46 rfl (lv_at hl 2 rfl) ?_
      refine mcallV' (g := g) (q0 := 0) (ci := 10) (As := [.int ago, .int what]) (rest := []) St hK hT hA hP hD hS hl.1 [0] [] rfl rfl rfl (m_logged l g o a 0 hi ac tp ba en tA fl de iD iO tU fm fk fa fc ft ff fb fi ago what (by first | assumption | omega | decide | exact Or.inl (by decide) | exact Or.inr (by decide)) (by first | assumption | omega | decide | exact Or.inl (by decide) | exact Or.inr (by decide))) (cwV 2 hts (zgL (zl4 k1139 k1140 k1141 k839) k1137) rfl rfl rfl (by decide +kernel) ⟨Nat.le_of_ble_eq_true rfl, Nat.le_of_ble_eq_true rfl⟩) rfl rfl rfl rfl (Nat.le_of_ble_eq_true rfl) dX12_log_47 ⟨(Nat.le_of_ble_eq_true rfl), (Nat.le_of_ble_eq_true rfl)⟩ (fun q_10 H locs hq11 hP hD hS => ?_)
      have hP : va_P g.1 vwCl (List.flatten [bMo g o a 0 hi ac tp ba en tA fl de iD iO tU fm fk fa fc ft ff fb fi]) H := hP
      have hD : va_D A (List.flatten [bMo g o a 0 hi ac tp ba en tA fl de iD iO tU fm fk fa fc ft ff fb fi]) := hD
      refine W.widen (k := 0) (n := 0) (Nat.le_of_ble_eq_true rfl) (Nat.le_of_ble_eq_true rfl) ?_
      refine W.eq (g2 := F0 m 50 ls [.int q_10]) rfl ?_
      refine lv_goto (tgt := 54) hx hb dX12_log_50 (by decide) ?_
      have hP : va_P g.1 vwCl (List.flatten [bMo g o a 0 hi ac tp ba en tA fl de iD iO tU fm fk fa fc ft ff fb fi]) H := hP
      have hD : va_D A (List.flatten [bMo g o a 0 hi ac tp ba en tA fl de iD iO tU fm fk fa fc ft ff fb fi]) := hD
      exact mret_i hx hb hr hlocks hS (Nat.le_of_ble_eq_true rfl) (Nat.le_of_ble_eq_true rfl) dX12_log_54 ((0 : Int32), q_10) rfl trivial hP hD
    · skip
      refine lv_if_eq (tgt := 53) hx hb dX12_log_41 (by decide) (fun _ => ?_) (fun c12 => absurd (by decide) c12)
      refine lv_iconst (v := (-1)) hx hb dX12_log_53 (by decide) ?_
      have hP : va_P g.1 vwCl (List.flatten [bMo g o a 0 hi ac tp ba en tA fl de iD iO tU fm fk fa fc ft ff fb fi]) H := hP
      have hD : va_D A (List.flatten [bMo g o a 0 hi ac tp ba en tA fl de iD iO tU fm fk fa fc ft ff fb fi]) := hD
      exact mret_i hx hb hr hlocks hS (Nat.le_of_ble_eq_true rfl) (Nat.le_of_ble_eq_true rfl) dX12_log_54 ((0 : Int32), -1) rfl trivial hP hD
  · skip
    refine lv_if_ne (tgt := 14) hx hb dX12_log_7 (by decide) (fun c13 => absurd (by decide) c13) (fun _ => ?_)
    refine lv_iconst (v := 1) hx hb dX12_log_10 (by decide) ?_
    refine lv_goto (tgt := 15) hx hb dX12_log_11 (by decide) ?_
    refine va_put (D := g.1) (ci := 10) (v := .int 1) (ty := .int) (C := RX12) (T := TX12) (N := 20) hx hb hts izRX12 tyX12 tyX12_ok nmX12 hown hK hP hD hS 0 rfl rfl 0 (by decide) (hts _ k825) (fun _ h9 => h9) rfl (by decide +kernel) rfl rfl (Nat.le_of_ble_eq_true rfl) dX12_log_15 (fun H locs hP hD hS => ?_)
    have hP : va_P g.1 vwCl (List.flatten [bMo g o a 1 hi ac tp ba en tA fl de iD iO tU fm fk fa fc ft ff fb fi]) H := hP
    have hD : va_D A (List.flatten [bMo g o a 1 hi ac tp ba en tA fl de iD iO tU fm fk fa fc ft ff fb fi]) := hD
    refine lv_aload_n hx hb dX12_log_18 rfl (lv_at hl 0 rfl) ?_
    refine va_get (D := g.1) (ci := 10) (v := .int 1) (C := RX12) (T := TX12) (N := 20) hx hb hts izRX12 hown hK hP 0 rfl rfl 0 (by decide) (hts _ k825) (fun _ h9 => h9) rfl dX12_log_19 ?_
    refine lv_if_le (tgt := 27) hx hb dX12_log_22 (by decide) (fun c14 => absurd c14 (by decide)) (fun _ => ?_)
    refine lv_iconst (v := 0) hx hb dX12_log_25 (by decide) ?_
    have hP : va_P g.1 vwCl (List.flatten [bMo g o a 1 hi ac tp ba en tA fl de iD iO tU fm fk fa fc ft ff fb fi]) H := hP
    have hD : va_D A (List.flatten [bMo g o a 1 hi ac tp ba en tA fl de iD iO tU fm fk fa fc ft ff fb fi]) := hD
    exact mret_i hx hb hr hlocks hS (Nat.le_of_ble_eq_true rfl) (Nat.le_of_ble_eq_true rfl) dX12_log_26 ((1 : Int32), (0 : Int32)) rfl trivial hP hD
set_option maxRecDepth 100000 in
set_option maxHeartbeats 4000000 in
theorem m_count (l : Launch) (g : zG) (o : Nat) (a : Nat → Nat) (th : Int32) (hi : Int32) (ac : Int32) (tp : Int32) (ba : Int32) (en : Int32) (tA : Int32) (fl : Int32) (de : Int32) (iD : Int32) (iO : Int32) (tU : Int32) (fm : Nat → Int32) (fk : Nat → Int32) (fa : Nat → Int32) (fc : Nat → Int32) (ft : Nat → Int32) (ff : Nat → Int32) (fb : Nat → Int32) (fi : Nat → Int32) (what : Int32) (rfm : rM fm) : zM' g l yX12_count (Cond.code yX12_count cX12_count 2 (some .int) :: zB) ({ frames := 3, cells := 0, slots := 0, locals := 65 } : Room) [.ref o, .int what] [bMo g o a th hi ac tp ba en tA fl de iD iO tU fm fk fa fc ft ff fb fi] (fun u : Int32 × Int32 => (fun (th2 : Int32) (q : Int32) => some (.int q)) (u.1) (u.2)) (fun u : Int32 × Int32 => (fun (th2 : Int32) (q : Int32) => True) (u.1) (u.2)) (fun u : Int32 × Int32 => (fun (th2 : Int32) (q : Int32) => [bMo g o a th2 hi ac tp ba en tA fl de iD iO tU fm fk fa fc ft ff fb fi]) (u.1) (u.2)) := by
  refine zM'.of (cc := cX12_count) (maxL := 2) (rt := (some .int)) (by decide) rfl (Nat.le_of_ble_eq_true rfl) ?_
  intro p e s m args below meth c A ls St hr hlocks hin hK hT hA hP hD hS hl
  obtain ⟨hx, hb, hml, hown, hts⟩ := id St
  have hl : lv_has ls 2 [(0, .ref o), (1, .int what)] := hl
  refine lv_aload_n hx hb dX12_count_0 rfl (lv_at hl 0 rfl) ?_
  refine lv_iconst (v := 0) hx hb dX12_count_1 (by decide) ?_
  refine va_put (D := g.1) (ci := 10) (v := .int 0) (ty := .int) (C := RX12) (T := TX12) (N := 20) hx hb hts izRX12 tyX12 tyX12_ok nmX12 hown hK hP hD hS 0 rfl rfl 0 (by decide) (hts _ k825) (fun _ h9 => h9) rfl (by decide +kernel) rfl rfl (Nat.le_of_ble_eq_true rfl) dX12_count_2 (fun H locs hP hD hS => ?_)
  have hP : va_P g.1 vwCl (List.flatten [bMo g o a 0 hi ac tp ba en tA fl de iD iO tU fm fk fa fc ft ff fb fi]) H := hP
  have hD : va_D A (List.flatten [bMo g o a 0 hi ac tp ba en tA fl de iD iO tU fm fk fa fc ft ff fb fi]) := hD
  refine lv_iload_n hx hb dX12_count_5 rfl (lv_at hl 1 rfl) ?_
  refine lv_if_ne (tgt := 16) hx hb dX12_count_6 (by decide) (fun cb9 => ?_) (fun cb9 => ?_)
  · skip
    have c1 : ¬ what.toInt = 0 := zne cb9 rfl (by decide)
    refine lv_iload_n hx hb dX12_count_16 rfl (lv_at hl 1 rfl) ?_
    refine lv_iconst (v := 1) hx hb dX12_count_17 (by decide) ?_
    refine lv_icmp_ne (tgt := 28) hx hb dX12_count_18 (by decide) (fun cb9 => ?_) (fun cb9 => ?_)
    · skip
      have c2 : ¬ what.toInt = 1 := zne cb9 rfl (by decide)
      refine lv_iload_n hx hb dX12_count_28 rfl (lv_at hl 1 rfl) ?_
      refine lv_iconst (v := 2) hx hb dX12_count_29 (by decide) ?_
      refine lv_icmp_ne (tgt := 40) hx hb dX12_count_30 (by decide) (fun cb9 => ?_) (fun cb9 => ?_)
      · skip
        have c3 : ¬ what.toInt = 2 := zne cb9 rfl (by decide)
        refine lv_iload_n hx hb dX12_count_40 rfl (lv_at hl 1 rfl) ?_
        refine lv_iconst (v := 3) hx hb dX12_count_41 (by decide) ?_
        refine lv_icmp_ne (tgt := 52) hx hb dX12_count_42 (by decide) (fun cb9 => ?_) (fun cb9 => ?_)
        · skip
          have c4 : ¬ what.toInt = 3 := zne cb9 rfl (by decide)
          refine lv_iload_n hx hb dX12_count_52 rfl (lv_at hl 1 rfl) ?_
          refine lv_iconst (v := 4) hx hb dX12_count_53 (by decide) ?_
          refine lv_icmp_ne (tgt := 65) hx hb dX12_count_54 (by decide) (fun cb9 => ?_) (fun cb9 => ?_)
          · skip
            have c5 : ¬ what.toInt = 4 := zne cb9 rfl (by decide)
            refine lv_iload_n hx hb dX12_count_65 rfl (lv_at hl 1 rfl) ?_
            refine lv_iconst (v := 5) hx hb dX12_count_66 (by decide) ?_
            refine lv_icmp_ne (tgt := 77) hx hb dX12_count_67 (by decide) (fun cb9 => ?_) (fun cb9 => ?_)
            · skip
              have c6 : ¬ what.toInt = 5 := zne cb9 rfl (by decide)
              refine lv_iload_n hx hb dX12_count_77 rfl (lv_at hl 1 rfl) ?_
              refine lv_bipush (v := 6) hx hb dX12_count_78 (by decide) ?_
              refine lv_icmp_ne (tgt := 88) hx hb dX12_count_80 (by decide) (fun cb9 => ?_) (fun cb9 => ?_)
              · skip
                have c7 : ¬ what.toInt = 6 := zne cb9 rfl (by decide)
                refine lv_iload_n hx hb dX12_count_88 rfl (lv_at hl 1 rfl) ?_
                refine lv_bipush (v := 7) hx hb dX12_count_89 (by decide) ?_
                refine lv_icmp_ne (tgt := 99) hx hb dX12_count_91 (by decide) (fun cb9 => ?_) (fun cb9 => ?_)
                · skip
                  have c8 : ¬ what.toInt = 7 := zne cb9 rfl (by decide)
                  refine lv_iload_n hx hb dX12_count_99 rfl (lv_at hl 1 rfl) ?_
                  refine lv_bipush (v := 8) hx hb dX12_count_100 (by decide) ?_
                  refine lv_bipush (v := 9) hx hb dX12_count_102 (by decide) ?_
                  have hL8 : (8 : Int32).toInt = 8 := by decide
                  have hL9 : (9 : Int32).toInt = 9 := by decide
                  refine mcallS' (g := g) (As := [.int what, .int 8, .int 9]) (rest := []) St hK hT hA hP hD hS hl.1 [] [0] rfl rfl rfl (m_isIn l g what 8 9 ) (va_cwS 3 hts (zgL (zl3 k837 k838 k839) k826) rfl rfl rfl (by decide +kernel) ⟨Nat.le_of_ble_eq_true rfl, Nat.le_of_ble_eq_true rfl⟩) rfl rfl (Nat.le_of_ble_eq_true rfl) dX12_count_104 ⟨(Nat.le_of_ble_eq_true rfl), (Nat.le_of_ble_eq_true rfl)⟩ (fun q_9 H locs hq10 hP hD hS => ?_)
                  replace hq10 : (q_9 = 1 ∧ (8 : Int32).toInt ≤ what.toInt ∧ what.toInt ≤ (9 : Int32).toInt ∨ q_9 = 0 ∧ (what.toInt < (8 : Int32).toInt ∨ (9 : Int32).toInt < what.toInt)) := hq10
                  have hP : va_P g.1 vwCl (List.flatten [bMo g o a 0 hi ac tp ba en tA fl de iD iO tU fm fk fa fc ft ff fb fi]) H := hP
                  have hD : va_D A (List.flatten [bMo g o a 0 hi ac tp ba en tA fl de iD iO tU fm fk fa fc ft ff fb fi]) := hD
                  refine W.widen (k := 0) (n := 0) (Nat.le_of_ble_eq_true rfl) (Nat.le_of_ble_eq_true rfl) ?_
                  refine W.eq (g2 := F0 m 107 ls [.int q_9]) rfl ?_
                  rcases hq10 with ⟨rfl, hq10_k⟩ | ⟨rfl, hq10_k⟩
                  · skip
                    refine lv_if_eq (tgt := 119) hx hb dX12_count_107 (by decide) (fun c11 => absurd c11 (by decide)) (fun _ => ?_)
                    refine lv_aload_n hx hb dX12_count_110 rfl (lv_at hl 0 rfl) ?_
                    refine lv_iload_n hx hb dX12_count_111 rfl (lv_at hl 1 rfl) ?_
                    refine lv_bipush (v := 7) hx hb dX12_count_112 (by decide) ?_
                    refine lv_isub hx hb dX12_count_114 ?_
                    refine zgv (zsub (i := what.toInt) (j := 7) rfl (by decide) (by omega)) (fun x_12 hx_12 => ?_)
                    refine mcallV' (g := g) (q0 := 0) (ci := 10) (As := [.int x_12]) (rest := []) St hK hT hA hP hD hS hl.1 [0] [] rfl rfl rfl (m_worksOf l g o a 0 hi ac tp ba en tA fl de iD iO tU fm fk fa fc ft ff fb fi x_12 rfm) (cwV 1 hts (zgL (zl4 k990 k991 k992 k839) k863) rfl rfl rfl (by decide +kernel) ⟨Nat.le_of_ble_eq_true rfl, Nat.le_of_ble_eq_true rfl⟩) rfl rfl rfl rfl (Nat.le_of_ble_eq_true rfl) dX12_count_115 ⟨(Nat.le_of_ble_eq_true rfl), (Nat.le_of_ble_eq_true rfl)⟩ (fun q_13 H locs hq14 hP hD hS => ?_)
                    have hP : va_P g.1 vwCl (List.flatten [bMo g o a 0 hi ac tp ba en tA fl de iD iO tU fm fk fa fc ft ff fb fi]) H := hP
                    have hD : va_D A (List.flatten [bMo g o a 0 hi ac tp ba en tA fl de iD iO tU fm fk fa fc ft ff fb fi]) := hD
                    refine W.widen (k := 0) (n := 0) (Nat.le_of_ble_eq_true rfl) (Nat.le_of_ble_eq_true rfl) ?_
                    refine W.eq (g2 := F0 m 118 ls [.int q_13]) rfl ?_
                    have hP : va_P g.1 vwCl (List.flatten [bMo g o a 0 hi ac tp ba en tA fl de iD iO tU fm fk fa fc ft ff fb fi]) H := hP
                    have hD : va_D A (List.flatten [bMo g o a 0 hi ac tp ba en tA fl de iD iO tU fm fk fa fc ft ff fb fi]) := hD
                    exact mret_i hx hb hr hlocks hS (Nat.le_of_ble_eq_true rfl) (Nat.le_of_ble_eq_true rfl) dX12_count_118 ((0 : Int32), q_13) rfl trivial hP hD
                  · skip
                    refine lv_if_eq (tgt := 119) hx hb dX12_count_107 (by decide) (fun _ => ?_) (fun c15 => absurd (by decide) c15)
                    refine lv_iload_n hx hb dX12_count_119 rfl (lv_at hl 1 rfl) ?_
                    refine lv_bipush (v := 10) hx hb dX12_count_120 (by decide) ?_
                    refine lv_icmp_ne (tgt := 130) hx hb dX12_count_122 (by decide) (fun cb9 => ?_) (fun cb9 => ?_)
                    · skip
                      have c16 : ¬ what.toInt = 10 := zne cb9 rfl (by decide)
                      refine lv_iload_n hx hb dX12_count_130 rfl (lv_at hl 1 rfl) ?_
                      refine lv_bipush (v := 11) hx hb dX12_count_131 (by decide) ?_
                      refine lv_icmp_ne (tgt := 144) hx hb dX12_count_133 (by decide) (fun cb9 => ?_) (fun cb9 => ?_)
                      · skip
                        have c17 : ¬ what.toInt = 11 := zne cb9 rfl (by decide)
                        refine lv_iload_n hx hb dX12_count_144 rfl (lv_at hl 1 rfl) ?_
                        refine lv_bipush (v := 12) hx hb dX12_count_145 (by decide) ?_
                        refine lv_icmp_ne (tgt := 157) hx hb dX12_count_147 (by decide) (fun cb9 => ?_) (fun cb9 => ?_)
                        · skip
                          have c18 : ¬ what.toInt = 12 := zne cb9 rfl (by decide)
                          refine lv_iconst (v := (-1)) hx hb dX12_count_157 (by decide) ?_
                          have hP : va_P g.1 vwCl (List.flatten [bMo g o a 0 hi ac tp ba en tA fl de iD iO tU fm fk fa fc ft ff fb fi]) H := hP
                          have hD : va_D A (List.flatten [bMo g o a 0 hi ac tp ba en tA fl de iD iO tU fm fk fa fc ft ff fb fi]) := hD
                          exact mret_i hx hb hr hlocks hS (Nat.le_of_ble_eq_true rfl) (Nat.le_of_ble_eq_true rfl) dX12_count_158 ((0 : Int32), -1) rfl trivial hP hD
                        · skip
                          have c19 : what.toInt = 12 := zeq cb9 rfl (by decide)
                          have n20 : 12 ≤ what.toInt := Int.le_trans (Int.le_refl _) (Int.le_of_eq c19.symm)
                          have n21 : what.toInt ≤ 12 := Int.le_trans (Int.le_of_eq c19) (Int.le_refl _)
                          refine lv_aload_n hx hb dX12_count_150 rfl (lv_at hl 0 rfl) ?_
                          refine va_get (D := g.1) (ci := 10) (v := .int ac) (C := RX12) (T := TX12) (N := 20) hx hb hts izRX12 hown hK hP 0 rfl rfl 6 (by decide) (hts _ k974) (fun _ h9 => h9) rfl dX12_count_151 ?_
                          refine lv_goto (tgt := 158) hx hb dX12_count_154 (by decide) ?_
                          have hP : va_P g.1 vwCl (List.flatten [bMo g o a 0 hi ac tp ba en tA fl de iD iO tU fm fk fa fc ft ff fb fi]) H := hP
                          have hD : va_D A (List.flatten [bMo g o a 0 hi ac tp ba en tA fl de iD iO tU fm fk fa fc ft ff fb fi]) := hD
                          exact mret_i hx hb hr hlocks hS (Nat.le_of_ble_eq_true rfl) (Nat.le_of_ble_eq_true rfl) dX12_count_158 ((0 : Int32), ac) rfl trivial hP hD
                      · skip
                        have c22 : what.toInt = 11 := zeq cb9 rfl (by decide)
                        have n23 : 11 ≤ what.toInt := Int.le_trans (Int.le_refl _) (Int.le_of_eq c22.symm)
                        have n24 : what.toInt ≤ 11 := Int.le_trans (Int.le_of_eq c22) (Int.le_refl _)
                        refine lv_aload_n hx hb dX12_count_136 rfl (lv_at hl 0 rfl) ?_
                        refine va_get (D := g.1) (ci := 10) (v := .ref (a 0)) (C := RX12) (T := TX12) (N := 20) hx hb hts izRX12 hown hK hP 0 rfl rfl 1 (by decide) (hts _ k815) (fun _ h9 => h9) rfl dX12_count_137 ?_
                        refine lv_bipush (v := 9) hx hb dX12_count_140 (by decide) ?_
                        refine va_iald hx hb hK hP 1 0 rfl rfl (zin rfl) dX12_count_142 ?_
                        refine zgq (r := fm 9) rfl (rM9 rfm) (fun x_25 hx_25 => ?_)
                        have hP : va_P g.1 vwCl (List.flatten [bMo g o a 0 hi ac tp ba en tA fl de iD iO tU fm fk fa fc ft ff fb fi]) H := hP
                        have hD : va_D A (List.flatten [bMo g o a 0 hi ac tp ba en tA fl de iD iO tU fm fk fa fc ft ff fb fi]) := hD
                        exact mret_i hx hb hr hlocks hS (Nat.le_of_ble_eq_true rfl) (Nat.le_of_ble_eq_true rfl) dX12_count_143 ((0 : Int32), x_25) rfl trivial hP hD
                    · skip
                      have c26 : what.toInt = 10 := zeq cb9 rfl (by decide)
                      have n27 : 10 ≤ what.toInt := Int.le_trans (Int.le_refl _) (Int.le_of_eq c26.symm)
                      have n28 : what.toInt ≤ 10 := Int.le_trans (Int.le_of_eq c26) (Int.le_refl _)
                      refine lv_aload_n hx hb dX12_count_125 rfl (lv_at hl 0 rfl) ?_
                      refine mcallV' (g := g) (q0 := 0) (ci := 10) (As := []) (rest := []) St hK hT hA hP hD hS hl.1 [0] [] rfl rfl rfl (m_sharesOfAll l g o a 0 hi ac tp ba en tA fl de iD iO tU fm fk fa fc ft ff fb fi rfm) (cwV 0 hts (zgL (zl4 k1149 k1150 k1151 k839) k1148) rfl rfl rfl (by decide +kernel) ⟨Nat.le_of_ble_eq_true rfl, Nat.le_of_ble_eq_true rfl⟩) rfl rfl rfl rfl (Nat.le_of_ble_eq_true rfl) dX12_count_126 ⟨(Nat.le_of_ble_eq_true rfl), (Nat.le_of_ble_eq_true rfl)⟩ (fun q_29 H locs hq30 hP hD hS => ?_)
                      have hP : va_P g.1 vwCl (List.flatten [bMo g o a 0 hi ac tp ba en tA fl de iD iO tU fm fk fa fc ft ff fb fi]) H := hP
                      have hD : va_D A (List.flatten [bMo g o a 0 hi ac tp ba en tA fl de iD iO tU fm fk fa fc ft ff fb fi]) := hD
                      refine W.widen (k := 0) (n := 0) (Nat.le_of_ble_eq_true rfl) (Nat.le_of_ble_eq_true rfl) ?_
                      refine W.eq (g2 := F0 m 129 ls [.int q_29]) rfl ?_
                      have hP : va_P g.1 vwCl (List.flatten [bMo g o a 0 hi ac tp ba en tA fl de iD iO tU fm fk fa fc ft ff fb fi]) H := hP
                      have hD : va_D A (List.flatten [bMo g o a 0 hi ac tp ba en tA fl de iD iO tU fm fk fa fc ft ff fb fi]) := hD
                      exact mret_i hx hb hr hlocks hS (Nat.le_of_ble_eq_true rfl) (Nat.le_of_ble_eq_true rfl) dX12_count_129 ((0 : Int32), q_29) rfl trivial hP hD
                · skip
                  have c31 : what.toInt = 7 := zeq cb9 rfl (by decide)
                  have n32 : 7 ≤ what.toInt := Int.le_trans (Int.le_refl _) (Int.le_of_eq c31.symm)
                  have n33 : what.toInt ≤ 7 := Int.le_trans (Int.le_of_eq c31) (Int.le_refl _)
                  refine lv_aload_n hx hb dX12_count_94 rfl (lv_at hl 0 rfl) ?_
                  refine mcallV' (g := g) (q0 := 0) (ci := 10) (As := []) (rest := []) St hK hT hA hP hD hS hl.1 [0] [] rfl rfl rfl (m_hereOnes l g o a 0 hi ac tp ba en tA fl de iD iO tU fm fk fa fc ft ff fb fi rfm) (cwV 0 hts (zgL (zl4 k851 k852 k853 k839) k845) rfl rfl rfl (by decide +kernel) ⟨Nat.le_of_ble_eq_true rfl, Nat.le_of_ble_eq_true rfl⟩) rfl rfl rfl rfl (Nat.le_of_ble_eq_true rfl) dX12_count_95 ⟨(Nat.le_of_ble_eq_true rfl), (Nat.le_of_ble_eq_true rfl)⟩ (fun q_34 H locs hq35 hP hD hS => ?_)
                  have hP : va_P g.1 vwCl (List.flatten [bMo g o a 0 hi ac tp ba en tA fl de iD iO tU fm fk fa fc ft ff fb fi]) H := hP
                  have hD : va_D A (List.flatten [bMo g o a 0 hi ac tp ba en tA fl de iD iO tU fm fk fa fc ft ff fb fi]) := hD
                  refine W.widen (k := 0) (n := 0) (Nat.le_of_ble_eq_true rfl) (Nat.le_of_ble_eq_true rfl) ?_
                  refine W.eq (g2 := F0 m 98 ls [.int q_34]) rfl ?_
                  have hP : va_P g.1 vwCl (List.flatten [bMo g o a 0 hi ac tp ba en tA fl de iD iO tU fm fk fa fc ft ff fb fi]) H := hP
                  have hD : va_D A (List.flatten [bMo g o a 0 hi ac tp ba en tA fl de iD iO tU fm fk fa fc ft ff fb fi]) := hD
                  exact mret_i hx hb hr hlocks hS (Nat.le_of_ble_eq_true rfl) (Nat.le_of_ble_eq_true rfl) dX12_count_98 ((0 : Int32), q_34) rfl trivial hP hD
              · skip
                have c36 : what.toInt = 6 := zeq cb9 rfl (by decide)
                have n37 : 6 ≤ what.toInt := Int.le_trans (Int.le_refl _) (Int.le_of_eq c36.symm)
                have n38 : what.toInt ≤ 6 := Int.le_trans (Int.le_of_eq c36) (Int.le_refl _)
                refine lv_aload_n hx hb dX12_count_83 rfl (lv_at hl 0 rfl) ?_
                refine mcallV' (g := g) (q0 := 0) (ci := 10) (As := []) (rest := []) St hK hT hA hP hD hS hl.1 [0] [] rfl rfl rfl (m_believed l g o a 0 hi ac tp ba en tA fl de iD iO tU fm fk fa fc ft ff fb fi rfm) (cwV 0 hts (zgL (zl4 k856 k857 k858 k839) k849) rfl rfl rfl (by decide +kernel) ⟨Nat.le_of_ble_eq_true rfl, Nat.le_of_ble_eq_true rfl⟩) rfl rfl rfl rfl (Nat.le_of_ble_eq_true rfl) dX12_count_84 ⟨(Nat.le_of_ble_eq_true rfl), (Nat.le_of_ble_eq_true rfl)⟩ (fun q_39 H locs hq40 hP hD hS => ?_)
                have hP : va_P g.1 vwCl (List.flatten [bMo g o a 0 hi ac tp ba en tA fl de iD iO tU fm fk fa fc ft ff fb fi]) H := hP
                have hD : va_D A (List.flatten [bMo g o a 0 hi ac tp ba en tA fl de iD iO tU fm fk fa fc ft ff fb fi]) := hD
                refine W.widen (k := 0) (n := 0) (Nat.le_of_ble_eq_true rfl) (Nat.le_of_ble_eq_true rfl) ?_
                refine W.eq (g2 := F0 m 87 ls [.int q_39]) rfl ?_
                have hP : va_P g.1 vwCl (List.flatten [bMo g o a 0 hi ac tp ba en tA fl de iD iO tU fm fk fa fc ft ff fb fi]) H := hP
                have hD : va_D A (List.flatten [bMo g o a 0 hi ac tp ba en tA fl de iD iO tU fm fk fa fc ft ff fb fi]) := hD
                exact mret_i hx hb hr hlocks hS (Nat.le_of_ble_eq_true rfl) (Nat.le_of_ble_eq_true rfl) dX12_count_87 ((0 : Int32), q_39) rfl trivial hP hD
            · skip
              have c41 : what.toInt = 5 := zeq cb9 rfl (by decide)
              have n42 : 5 ≤ what.toInt := Int.le_trans (Int.le_refl _) (Int.le_of_eq c41.symm)
              have n43 : what.toInt ≤ 5 := Int.le_trans (Int.le_of_eq c41) (Int.le_refl _)
              refine lv_aload_n hx hb dX12_count_70 rfl (lv_at hl 0 rfl) ?_
              refine va_get (D := g.1) (ci := 10) (v := .ref (a 0)) (C := RX12) (T := TX12) (N := 20) hx hb hts izRX12 hown hK hP 0 rfl rfl 1 (by decide) (hts _ k815) (fun _ h9 => h9) rfl dX12_count_71 ?_
              refine lv_iconst (v := 5) hx hb dX12_count_74 (by decide) ?_
              refine va_iald hx hb hK hP 1 0 rfl rfl (zin rfl) dX12_count_75 ?_
              refine zg (fun x_44 => ?_)
              have hP : va_P g.1 vwCl (List.flatten [bMo g o a 0 hi ac tp ba en tA fl de iD iO tU fm fk fa fc ft ff fb fi]) H := hP
              have hD : va_D A (List.flatten [bMo g o a 0 hi ac tp ba en tA fl de iD iO tU fm fk fa fc ft ff fb fi]) := hD
              exact mret_i hx hb hr hlocks hS (Nat.le_of_ble_eq_true rfl) (Nat.le_of_ble_eq_true rfl) dX12_count_76 ((0 : Int32), x_44) rfl trivial hP hD
          · skip
            have c45 : what.toInt = 4 := zeq cb9 rfl (by decide)
            have n46 : 4 ≤ what.toInt := Int.le_trans (Int.le_refl _) (Int.le_of_eq c45.symm)
            have n47 : what.toInt ≤ 4 := Int.le_trans (Int.le_of_eq c45) (Int.le_refl _)
            refine lv_aload_n hx hb dX12_count_57 rfl (lv_at hl 0 rfl) ?_
            refine va_get (D := g.1) (ci := 10) (v := .ref (a 0)) (C := RX12) (T := TX12) (N := 20) hx hb hts izRX12 hown hK hP 0 rfl rfl 1 (by decide) (hts _ k815) (fun _ h9 => h9) rfl dX12_count_58 ?_
            refine lv_bipush (v := 8) hx hb dX12_count_61 (by decide) ?_
            refine va_iald hx hb hK hP 1 0 rfl rfl (zin rfl) dX12_count_63 ?_
            refine zg (fun x_48 => ?_)
            have hP : va_P g.1 vwCl (List.flatten [bMo g o a 0 hi ac tp ba en tA fl de iD iO tU fm fk fa fc ft ff fb fi]) H := hP
            have hD : va_D A (List.flatten [bMo g o a 0 hi ac tp ba en tA fl de iD iO tU fm fk fa fc ft ff fb fi]) := hD
            exact mret_i hx hb hr hlocks hS (Nat.le_of_ble_eq_true rfl) (Nat.le_of_ble_eq_true rfl) dX12_count_64 ((0 : Int32), x_48) rfl trivial hP hD
        · skip
          have c49 : what.toInt = 3 := zeq cb9 rfl (by decide)
          have n50 : 3 ≤ what.toInt := Int.le_trans (Int.le_refl _) (Int.le_of_eq c49.symm)
          have n51 : what.toInt ≤ 3 := Int.le_trans (Int.le_of_eq c49) (Int.le_refl _)
          refine lv_aload_n hx hb dX12_count_45 rfl (lv_at hl 0 rfl) ?_
          refine va_get (D := g.1) (ci := 10) (v := .ref (a 0)) (C := RX12) (T := TX12) (N := 20) hx hb hts izRX12 hown hK hP 0 rfl rfl 1 (by decide) (hts _ k815) (fun _ h9 => h9) rfl dX12_count_46 ?_
          refine lv_iconst (v := 1) hx hb dX12_count_49 (by decide) ?_
          refine va_iald hx hb hK hP 1 0 rfl rfl (zin rfl) dX12_count_50 ?_
          refine zg (fun x_52 => ?_)
          have hP : va_P g.1 vwCl (List.flatten [bMo g o a 0 hi ac tp ba en tA fl de iD iO tU fm fk fa fc ft ff fb fi]) H := hP
          have hD : va_D A (List.flatten [bMo g o a 0 hi ac tp ba en tA fl de iD iO tU fm fk fa fc ft ff fb fi]) := hD
          exact mret_i hx hb hr hlocks hS (Nat.le_of_ble_eq_true rfl) (Nat.le_of_ble_eq_true rfl) dX12_count_51 ((0 : Int32), x_52) rfl trivial hP hD
      · skip
        have c53 : what.toInt = 2 := zeq cb9 rfl (by decide)
        have n54 : 2 ≤ what.toInt := Int.le_trans (Int.le_refl _) (Int.le_of_eq c53.symm)
        have n55 : what.toInt ≤ 2 := Int.le_trans (Int.le_of_eq c53) (Int.le_refl _)
        refine lv_aload_n hx hb dX12_count_33 rfl (lv_at hl 0 rfl) ?_
        refine va_get (D := g.1) (ci := 10) (v := .ref (a 0)) (C := RX12) (T := TX12) (N := 20) hx hb hts izRX12 hown hK hP 0 rfl rfl 1 (by decide) (hts _ k815) (fun _ h9 => h9) rfl dX12_count_34 ?_
        refine lv_iconst (v := 0) hx hb dX12_count_37 (by decide) ?_
        refine va_iald hx hb hK hP 1 0 rfl rfl (zin rfl) dX12_count_38 ?_
        refine zg (fun x_56 => ?_)
        have hP : va_P g.1 vwCl (List.flatten [bMo g o a 0 hi ac tp ba en tA fl de iD iO tU fm fk fa fc ft ff fb fi]) H := hP
        have hD : va_D A (List.flatten [bMo g o a 0 hi ac tp ba en tA fl de iD iO tU fm fk fa fc ft ff fb fi]) := hD
        exact mret_i hx hb hr hlocks hS (Nat.le_of_ble_eq_true rfl) (Nat.le_of_ble_eq_true rfl) dX12_count_39 ((0 : Int32), x_56) rfl trivial hP hD
    · skip
      have c57 : what.toInt = 1 := zeq cb9 rfl (by decide)
      have n58 : 1 ≤ what.toInt := Int.le_trans (Int.le_refl _) (Int.le_of_eq c57.symm)
      have n59 : what.toInt ≤ 1 := Int.le_trans (Int.le_of_eq c57) (Int.le_refl _)
      refine lv_aload_n hx hb dX12_count_21 rfl (lv_at hl 0 rfl) ?_
      refine va_get (D := g.1) (ci := 10) (v := .ref (a 0)) (C := RX12) (T := TX12) (N := 20) hx hb hts izRX12 hown hK hP 0 rfl rfl 1 (by decide) (hts _ k815) (fun _ h9 => h9) rfl dX12_count_22 ?_
      refine lv_iconst (v := 4) hx hb dX12_count_25 (by decide) ?_
      refine va_iald hx hb hK hP 1 0 rfl rfl (zin rfl) dX12_count_26 ?_
      refine zgq (r := fm 4) rfl (rM4 rfm) (fun x_60 hx_60 => ?_)
      have hP : va_P g.1 vwCl (List.flatten [bMo g o a 0 hi ac tp ba en tA fl de iD iO tU fm fk fa fc ft ff fb fi]) H := hP
      have hD : va_D A (List.flatten [bMo g o a 0 hi ac tp ba en tA fl de iD iO tU fm fk fa fc ft ff fb fi]) := hD
      exact mret_i hx hb hr hlocks hS (Nat.le_of_ble_eq_true rfl) (Nat.le_of_ble_eq_true rfl) dX12_count_27 ((0 : Int32), x_60) rfl trivial hP hD
  · skip
    have c61 : what.toInt = 0 := zeq cb9 rfl (by decide)
    have n62 : 0 ≤ what.toInt := Int.le_trans (Int.le_refl _) (Int.le_of_eq c61.symm)
    have n63 : what.toInt ≤ 0 := Int.le_trans (Int.le_of_eq c61) (Int.le_refl _)
    refine lv_aload_n hx hb dX12_count_9 rfl (lv_at hl 0 rfl) ?_
    refine va_get (D := g.1) (ci := 10) (v := .ref (a 0)) (C := RX12) (T := TX12) (N := 20) hx hb hts izRX12 hown hK hP 0 rfl rfl 1 (by decide) (hts _ k815) (fun _ h9 => h9) rfl dX12_count_10 ?_
    refine lv_iconst (v := 3) hx hb dX12_count_13 (by decide) ?_
    refine va_iald hx hb hK hP 1 0 rfl rfl (zin rfl) dX12_count_14 ?_
    refine zgq (r := fm 3) rfl (rM3 rfm) (fun x_64 hx_64 => ?_)
    have hP : va_P g.1 vwCl (List.flatten [bMo g o a 0 hi ac tp ba en tA fl de iD iO tU fm fk fa fc ft ff fb fi]) H := hP
    have hD : va_D A (List.flatten [bMo g o a 0 hi ac tp ba en tA fl de iD iO tU fm fk fa fc ft ff fb fi]) := hD
    exact mret_i hx hb hr hlocks hS (Nat.le_of_ble_eq_true rfl) (Nat.le_of_ble_eq_true rfl) dX12_count_15 ((0 : Int32), x_64) rfl trivial hP hD
set_option maxRecDepth 100000 in
set_option maxHeartbeats 4000000 in
theorem m_undo (l : Launch) (g : zG) (o : Nat) (a : Nat → Nat) (th : Int32) (hi : Int32) (ac : Int32) (tp : Int32) (ba : Int32) (en : Int32) (tA : Int32) (fl : Int32) (de : Int32) (iD : Int32) (iO : Int32) (tU : Int32) (fm : Nat → Int32) (fk : Nat → Int32) (fa : Nat → Int32) (fc : Nat → Int32) (ft : Nat → Int32) (ff : Nat → Int32) (fb : Nat → Int32) (fi : Nat → Int32) (rfm : rM fm) (rfc : rC fc) (hac : 0 ≤ ac.toInt ∧ ac.toInt ≤ 12) : zM' g l yX12_undo (Cond.code yX12_undo cX12_undo 2 (some .boolean) :: zB) ({ frames := 0, cells := 0, slots := 0, locals := 0 } : Room) [.ref o] [bMo g o a th hi ac tp ba en tA fl de iD iO tU fm fk fa fc ft ff fb fi] (fun u : Int32 × Int32 × (Nat → Int32) × Int32 => (fun (th2 : Int32) (ac2 : Int32) (fm2 : Nat → Int32) (q : Int32) => some (.int q)) (u.1) (u.2.1) (u.2.2.1) (u.2.2.2)) (fun u : Int32 × Int32 × (Nat → Int32) × Int32 => (fun (th2 : Int32) (ac2 : Int32) (fm2 : Nat → Int32) (q : Int32) => (rM fm2) ∧ (0 ≤ ac2.toInt ∧ ac2.toInt ≤ 12) ∧ (q = 1 ∧ ¬ ac.toInt = 0 ∧ ac2.toInt = ac.toInt - 1 ∧ zCy fm fm2 0 fc (379 * ac2.toInt.toNat) 379 ∨ q = 0 ∧ ac.toInt = 0 ∧ fm = fm2 ∧ ac = ac2)) (u.1) (u.2.1) (u.2.2.1) (u.2.2.2)) (fun u : Int32 × Int32 × (Nat → Int32) × Int32 => (fun (th2 : Int32) (ac2 : Int32) (fm2 : Nat → Int32) (q : Int32) => [bMo g o a th2 hi ac2 tp ba en tA fl de iD iO tU fm2 fk fa fc ft ff fb fi]) (u.1) (u.2.1) (u.2.2.1) (u.2.2.2)) := by
  refine zM'.of (cc := cX12_undo) (maxL := 2) (rt := (some .boolean)) (by decide) rfl (Nat.le_of_ble_eq_true rfl) ?_
  intro p e s m args below meth c A ls St hr hlocks hin hK hT hA hP hD hS hl
  obtain ⟨hx, hb, hml, hown, hts⟩ := id St
  have hl : lv_has ls 2 [(0, .ref o)] := hl
  refine lv_aload_n hx hb dX12_undo_0 rfl (lv_at hl 0 rfl) ?_
  refine lv_iconst (v := 0) hx hb dX12_undo_1 (by decide) ?_
  refine va_put (D := g.1) (ci := 10) (v := .int 0) (ty := .int) (C := RX12) (T := TX12) (N := 20) hx hb hts izRX12 tyX12 tyX12_ok nmX12 hown hK hP hD hS 0 rfl rfl 0 (by decide) (hts _ k825) (fun _ h9 => h9) rfl (by decide +kernel) rfl rfl (Nat.le_of_ble_eq_true rfl) dX12_undo_2 (fun H locs hP hD hS => ?_)
  have hP : va_P g.1 vwCl (List.flatten [bMo g o a 0 hi ac tp ba en tA fl de iD iO tU fm fk fa fc ft ff fb fi]) H := hP
  have hD : va_D A (List.flatten [bMo g o a 0 hi ac tp ba en tA fl de iD iO tU fm fk fa fc ft ff fb fi]) := hD
  refine lv_aload_n hx hb dX12_undo_5 rfl (lv_at hl 0 rfl) ?_
  refine va_get (D := g.1) (ci := 10) (v := .int ac) (C := RX12) (T := TX12) (N := 20) hx hb hts izRX12 hown hK hP 0 rfl rfl 6 (by decide) (hts _ k974) (fun _ h9 => h9) rfl dX12_undo_6 ?_
  refine lv_if_ne (tgt := 14) hx hb dX12_undo_9 (by decide) (fun cb9 => ?_) (fun cb9 => ?_)
  · skip
    have c1 : ¬ ac.toInt = 0 := zne cb9 rfl (by decide)
    have n2 : 1 ≤ ac.toInt := zN1 c1 hac.1 (by decide)
    refine lv_aload_n hx hb dX12_undo_14 rfl (lv_at hl 0 rfl) ?_
    refine lv_dup hx hb dX12_undo_15 rfl ?_
    refine va_get (D := g.1) (ci := 10) (v := .int ac) (C := RX12) (T := TX12) (N := 20) hx hb hts izRX12 hown hK hP 0 rfl rfl 6 (by decide) (hts _ k974) (fun _ h9 => h9) rfl dX12_undo_16 ?_
    refine lv_iconst (v := 1) hx hb dX12_undo_19 (by decide) ?_
    refine lv_isub hx hb dX12_undo_20 ?_
    refine zg3 (zsubK (i := ac.toInt) (j := 1) (a' := 0) (b' := 11) rfl (by decide) n2 hac.2 (Int.le_refl _) (Int.le_refl _) (by decide)) (fun x_3 hx_3 => ?_)
    refine va_put (D := g.1) (ci := 10) (v := .int x_3) (ty := .int) (C := RX12) (T := TX12) (N := 20) hx hb hts izRX12 tyX12 tyX12_ok nmX12 hown hK hP hD hS 0 rfl rfl 6 (by decide) (hts _ k974) (fun _ h9 => h9) rfl (by decide +kernel) rfl rfl (Nat.le_of_ble_eq_true rfl) dX12_undo_21 (fun H locs hP hD hS => ?_)
    have hP : va_P g.1 vwCl (List.flatten [bMo g o a 0 hi x_3 tp ba en tA fl de iD iO tU fm fk fa fc ft ff fb fi]) H := hP
    have hD : va_D A (List.flatten [bMo g o a 0 hi x_3 tp ba en tA fl de iD iO tU fm fk fa fc ft ff fb fi]) := hD
    refine lv_iconst (v := 0) hx hb dX12_undo_24 (by decide) ?_
    refine lv_istore_n (lv' := [(1, .int 0), (0, .ref o)]) hx hb dX12_undo_25 rfl hl (by decide) rfl (fun ls hl => ?_)
    have hl := lv_sub (l' := [(0, .ref o), (1, .int 0)]) hl [1, 0] rfl
    have LP26_8 : ∀ (kf : Nat) (x_4 : Int32) (fm_5 : Nat → Int32), (0 ≤ x_4.toInt ∧ x_4.toInt ≤ 379) → (rM fm_5) → (zCy fm fm_5 0 fc (379 * x_3.toInt.toNat) x_4.toInt) → ∀ (H : Heap) (locs : List Loc) (ls : Array Slot), ((380 - x_4.toInt).toNat) < kf → va_P g.1 vwCl (List.flatten [bMo g o a 0 hi x_3 tp ba en tA fl de iD iO tU fm_5 fk fa fc ft ff fb fi]) H → va_D A (List.flatten [bMo g o a 0 hi x_3 tp ba en tA fl de iD iO tU fm_5 fk fa fc ft ff fb fi]) → va_S A s.heap H locs → lv_has ls 2 [(0, .ref o), (1, .int x_4)] → W p l e ({ frames := 0, cells := 0, slots := 0, locals := 0 } : Room) s m args below meth c H locs (0) (0) (zF g (fun u : Int32 × Int32 × (Nat → Int32) × Int32 => (fun (th2 : Int32) (ac2 : Int32) (fm2 : Nat → Int32) (q : Int32) => some (.int q)) (u.1) (u.2.1) (u.2.2.1) (u.2.2.2)) (fun u : Int32 × Int32 × (Nat → Int32) × Int32 => (fun (th2 : Int32) (ac2 : Int32) (fm2 : Nat → Int32) (q : Int32) => (rM fm2) ∧ (0 ≤ ac2.toInt ∧ ac2.toInt ≤ 12) ∧ (q = 1 ∧ ¬ ac.toInt = 0 ∧ ac2.toInt = ac.toInt - 1 ∧ zCy fm fm2 0 fc (379 * ac2.toInt.toNat) 379 ∨ q = 0 ∧ ac.toInt = 0 ∧ fm = fm2 ∧ ac = ac2)) (u.1) (u.2.1) (u.2.2.1) (u.2.2.2)) (fun u : Int32 × Int32 × (Nat → Int32) × Int32 => (fun (th2 : Int32) (ac2 : Int32) (fm2 : Nat → Int32) (q : Int32) => [bMo g o a th2 hi ac2 tp ba en tA fl de iD iO tU fm2 fk fa fc ft ff fb fi]) (u.1) (u.2.1) (u.2.2.1) (u.2.2.2)) ({ frames := 0, cells := 0, slots := 0, locals := 0 } : Room) below args s A) (F0 m 26 ls []) := by
      intro kf
      induction kf with
      | zero => intro x_4 fm_5 i6 rfm_5 i7 H locs ls hk; exact absurd hk (Nat.not_lt_zero _)
      | succ kf ih26_9 =>
        intro x_4 fm_5 i6 rfm_5 i7 H locs ls hk26_9 hP hD hS hl
        refine lv_iload_n hx hb dX12_undo_26 rfl (lv_at hl 1 rfl) ?_
        refine lv_sipush (v := 379) hx hb dX12_undo_27 (by decide) ?_
        refine lv_icmp_ge (tgt := 60) hx hb dX12_undo_30 (by decide) (fun cb9 => ?_) (fun cb9 => ?_)
        · skip
          have c10 : 379 ≤ x_4.toInt := zle cb9 (by decide) rfl
          have n11 : 379 ≤ x_4.toInt := Int.le_trans (Int.le_refl _) c10
          refine lv_iconst (v := 1) hx hb dX12_undo_60 (by decide) ?_
          have hP : va_P g.1 vwCl (List.flatten [bMo g o a 0 hi x_3 tp ba en tA fl de iD iO tU fm_5 fk fa fc ft ff fb fi]) H := hP
          have hD : va_D A (List.flatten [bMo g o a 0 hi x_3 tp ba en tA fl de iD iO tU fm_5 fk fa fc ft ff fb fi]) := hD
          exact mret_z hx hb hr hlocks hS (Nat.le_of_ble_eq_true rfl) (Nat.le_of_ble_eq_true rfl) dX12_undo_61 ((0 : Int32), x_3, fm_5, (1 : Int32)) rfl (by decide) (show (rM fm_5) ∧ (0 ≤ x_3.toInt ∧ x_3.toInt ≤ 12) ∧ (1 = 1 ∧ ¬ ac.toInt = 0 ∧ x_3.toInt = ac.toInt - 1 ∧ zCy fm fm_5 0 fc (379 * x_3.toInt.toNat) 379 ∨ 1 = 0 ∧ ac.toInt = 0 ∧ fm = fm_5 ∧ ac = x_3) from ⟨(by first | assumption | omega), (by first | assumption | omega), (Or.inl ⟨rfl, (by omega), (by omega), (zCy_e i7 (by omega))⟩)⟩) hP hD
        · skip
          have c12 : x_4.toInt < 379 := zlti (Int32.not_le.mp cb9) rfl (by decide)
          have n13 : x_4.toInt ≤ 378 := zL1 (b := 379) c12 (Int.le_refl _) (by decide)
          refine lv_aload_n hx hb dX12_undo_33 rfl (lv_at hl 0 rfl) ?_
          refine va_get (D := g.1) (ci := 10) (v := .ref (a 0)) (C := RX12) (T := TX12) (N := 20) hx hb hts izRX12 hown hK hP 0 rfl rfl 1 (by decide) (hts _ k815) (fun _ h9 => h9) rfl dX12_undo_34 ?_
          refine lv_iload_n hx hb dX12_undo_37 rfl (lv_at hl 1 rfl) ?_
          refine lv_aload_n hx hb dX12_undo_38 rfl (lv_at hl 0 rfl) ?_
          refine va_get (D := g.1) (ci := 10) (v := .ref (a 3)) (C := RX12) (T := TX12) (N := 20) hx hb hts izRX12 hown hK hP 0 rfl rfl 5 (by decide) (hts _ k818) (fun _ h9 => h9) rfl dX12_undo_39 ?_
          refine lv_sipush (v := 379) hx hb dX12_undo_42 (by decide) ?_
          refine lv_aload_n hx hb dX12_undo_45 rfl (lv_at hl 0 rfl) ?_
          refine va_get (D := g.1) (ci := 10) (v := .int x_3) (C := RX12) (T := TX12) (N := 20) hx hb hts izRX12 hown hK hP 0 rfl rfl 6 (by decide) (hts _ k974) (fun _ h9 => h9) rfl dX12_undo_46 ?_
          refine lv_imul hx hb dX12_undo_49 ?_
          refine zg3 (zmulKL (i := x_3.toInt) (n := 379) (a' := 0) (b' := 4169) rfl (by decide) hx_3.2.1 hx_3.2.2 (by decide) (by decide)) (fun x_14 hx_14 => ?_)
          refine lv_iload_n hx hb dX12_undo_50 rfl (lv_at hl 1 rfl) ?_
          refine lv_iadd hx hb dX12_undo_51 ?_
          refine zg3 (zaddK (i := x_14.toInt) (j := x_4.toInt) (a' := 0) (b' := 4547) rfl rfl hx_14.2.1 hx_14.2.2 i6.1 n13 (by decide)) (fun x_15 hx_15 => ?_)
          refine va_iald hx hb hK hP 4 0 rfl rfl (zinK (a := 0) (b := 4547) hx_15.2.1 hx_15.2.2 (by decide)) dX12_undo_52 ?_
          refine va_iast hx hb hK hP hD hS 1 0 rfl rfl (zinK (a := 0) (b := 378) i6.1 n13 (by decide)) dX12_undo_53 (fun H locs hP hD hS => ?_)
          obtain ⟨fm_16, ⟨rfm_16, hcfm_16⟩, hP, hD⟩ : ∃ fm_16 : Nat → Int32, (rM fm_16 ∧ zCy fm fm_16 0 fc (379 * x_3.toInt.toNat) (x_4.toInt + 1)) ∧ va_P g.1 vwCl (List.flatten [bMo g o a 0 hi x_3 tp ba en tA fl de iD iO tU fm_16 fk fa fc ft ff fb fi]) H ∧ va_D A (List.flatten [bMo g o a 0 hi x_3 tp ba en tA fl de iD iO tU fm_16 fk fa fc ft ff fb fi]) := ⟨upd fm_5 x_4.toNatClampNeg (fc x_15.toNatClampNeg), ⟨(rM_cq (a := x_3) rfm_5 rfc (by omega) (by omega) (by omega)), (zCy_s i7 (by omega) (congrArg fc (by rw [zcl]; omega)) rfl)⟩, hP, hD⟩
          refine ziinc3 (n' := 1) (a' := 1) (b' := 379) (lv' := fun v9 => [(1, .int v9), (0, .ref o)]) hx hb dX12_undo_54 hl (k := 1) rfl (by decide) (fun _ => rfl) (zaddK (i := x_4.toInt) (j := 1) rfl (by decide) i6.1 n13 (Int.le_refl _) (Int.le_refl _) (by decide)) (fun x_17 ls hx_17 hl => ?_)
          refine lv_goto (tgt := 26) hx hb dX12_undo_57 (by decide) ?_
          have hl := lv_sub (l' := [(0, .ref o), (1, .int x_17)]) hl [1, 0] rfl
          have hP : va_P g.1 vwCl (List.flatten [bMo g o a 0 hi x_3 tp ba en tA fl de iD iO tU fm_16 fk fa fc ft ff fb fi]) H := hP
          have hD : va_D A (List.flatten [bMo g o a 0 hi x_3 tp ba en tA fl de iD iO tU fm_16 fk fa fc ft ff fb fi]) := hD
          exact ih26_9 x_17 fm_16 ⟨(Int.le_trans (by decide) hx_17.2.1), hx_17.2.2⟩ rfm_16 (zCy_e hcfm_16 (by omega)) H _ ls (zmK hx_17.1 (by decide) n13 (by decide) hk26_9)  hP hD hS (lv_sub hl [0, 1] rfl)
    have hL0 : (0 : Int32).toInt = 0 := by decide
    have hP : va_P g.1 vwCl (List.flatten [bMo g o a 0 hi x_3 tp ba en tA fl de iD iO tU fm fk fa fc ft ff fb fi]) H := hP
    have hD : va_D A (List.flatten [bMo g o a 0 hi x_3 tp ba en tA fl de iD iO tU fm fk fa fc ft ff fb fi]) := hD
    exact LP26_8 _ 0 fm (by decide) rfm (zCy_0 (by decide)) H _ ls (Nat.lt_succ_self _)  hP hD hS (lv_sub hl [0, 1] rfl)
  · skip
    have c18 : ac.toInt = 0 := zeq cb9 rfl (by decide)
    have n19 : ac.toInt ≤ 0 := Int.le_trans (Int.le_of_eq c18) (Int.le_refl _)
    refine lv_iconst (v := 0) hx hb dX12_undo_12 (by decide) ?_
    have hP : va_P g.1 vwCl (List.flatten [bMo g o a 0 hi ac tp ba en tA fl de iD iO tU fm fk fa fc ft ff fb fi]) H := hP
    have hD : va_D A (List.flatten [bMo g o a 0 hi ac tp ba en tA fl de iD iO tU fm fk fa fc ft ff fb fi]) := hD
    exact mret_z hx hb hr hlocks hS (Nat.le_of_ble_eq_true rfl) (Nat.le_of_ble_eq_true rfl) dX12_undo_13 ((0 : Int32), ac, fm, (0 : Int32)) rfl (by decide) (show (rM fm) ∧ (0 ≤ ac.toInt ∧ ac.toInt ≤ 12) ∧ (0 = 1 ∧ ¬ ac.toInt = 0 ∧ ac.toInt = ac.toInt - 1 ∧ zCy fm fm 0 fc (379 * ac.toInt.toNat) 379 ∨ 0 = 0 ∧ ac.toInt = 0 ∧ fm = fm ∧ ac = ac) from ⟨(by first | assumption | omega | decide), (by first | assumption | omega | decide), (Or.inr ⟨rfl, (by omega), rfl, rfl⟩)⟩) hP hD
set_option maxRecDepth 100000 in
set_option maxHeartbeats 4000000 in
theorem m_image (l : Launch) (g : zG) (o : Nat) (a : Nat → Nat) (th : Int32) (hi : Int32) (ac : Int32) (tp : Int32) (ba : Int32) (en : Int32) (tA : Int32) (fl : Int32) (de : Int32) (iD : Int32) (iO : Int32) (tU : Int32) (fm : Nat → Int32) (fk : Nat → Int32) (fa : Nat → Int32) (fc : Nat → Int32) (ft : Nat → Int32) (ff : Nat → Int32) (fb : Nat → Int32) (fi : Nat → Int32) (rfm : rM fm) (rfk : rM fk) : zM' g l yX12_image (Cond.code yX12_image cX12_image 2 none :: zB) ({ frames := 0, cells := 0, slots := 0, locals := 0 } : Room) [.ref o] [bMo g o a th hi ac tp ba en tA fl de iD iO tU fm fk fa fc ft ff fb fi] (fun u : Int32 × (Nat → Int32) => (fun (th2 : Int32) (fk2 : Nat → Int32) => none) (u.1) (u.2)) (fun u : Int32 × (Nat → Int32) => (fun (th2 : Int32) (fk2 : Nat → Int32) => (rM fk2) ∧ (zCy fk fk2 0 fm 0 779)) (u.1) (u.2)) (fun u : Int32 × (Nat → Int32) => (fun (th2 : Int32) (fk2 : Nat → Int32) => [bMo g o a th2 1 ac tp ba en tA fl de iD iO tU fm fk2 fa fc ft ff fb fi]) (u.1) (u.2)) := by
  refine zM'.of (cc := cX12_image) (maxL := 2) (rt := none) (by decide) rfl (Nat.le_of_ble_eq_true rfl) ?_
  intro p e s m args below meth c A ls St hr hlocks hin hK hT hA hP hD hS hl
  obtain ⟨hx, hb, hml, hown, hts⟩ := id St
  have hl : lv_has ls 2 [(0, .ref o)] := hl
  refine lv_aload_n hx hb dX12_image_0 rfl (lv_at hl 0 rfl) ?_
  refine lv_iconst (v := 0) hx hb dX12_image_1 (by decide) ?_
  refine va_put (D := g.1) (ci := 10) (v := .int 0) (ty := .int) (C := RX12) (T := TX12) (N := 20) hx hb hts izRX12 tyX12 tyX12_ok nmX12 hown hK hP hD hS 0 rfl rfl 0 (by decide) (hts _ k825) (fun _ h9 => h9) rfl (by decide +kernel) rfl rfl (Nat.le_of_ble_eq_true rfl) dX12_image_2 (fun H locs hP hD hS => ?_)
  have hP : va_P g.1 vwCl (List.flatten [bMo g o a 0 hi ac tp ba en tA fl de iD iO tU fm fk fa fc ft ff fb fi]) H := hP
  have hD : va_D A (List.flatten [bMo g o a 0 hi ac tp ba en tA fl de iD iO tU fm fk fa fc ft ff fb fi]) := hD
  refine lv_iconst (v := 0) hx hb dX12_image_5 (by decide) ?_
  refine lv_istore_n (lv' := [(1, .int 0), (0, .ref o)]) hx hb dX12_image_6 rfl hl (by decide) rfl (fun ls hl => ?_)
  have hl := lv_sub (l' := [(0, .ref o), (1, .int 0)]) hl [1, 0] rfl
  have LP7_5 : ∀ (kf : Nat) (x_1 : Int32) (fk_2 : Nat → Int32), (0 ≤ x_1.toInt ∧ x_1.toInt ≤ 779) → (rM fk_2) → (zCy fk fk_2 0 fm 0 x_1.toInt) → ∀ (H : Heap) (locs : List Loc) (ls : Array Slot), ((780 - x_1.toInt).toNat) < kf → va_P g.1 vwCl (List.flatten [bMo g o a 0 hi ac tp ba en tA fl de iD iO tU fm fk_2 fa fc ft ff fb fi]) H → va_D A (List.flatten [bMo g o a 0 hi ac tp ba en tA fl de iD iO tU fm fk_2 fa fc ft ff fb fi]) → va_S A s.heap H locs → lv_has ls 2 [(0, .ref o), (1, .int x_1)] → W p l e ({ frames := 0, cells := 0, slots := 0, locals := 0 } : Room) s m args below meth c H locs (0) (0) (zF g (fun u : Int32 × (Nat → Int32) => (fun (th2 : Int32) (fk2 : Nat → Int32) => none) (u.1) (u.2)) (fun u : Int32 × (Nat → Int32) => (fun (th2 : Int32) (fk2 : Nat → Int32) => (rM fk2) ∧ (zCy fk fk2 0 fm 0 779)) (u.1) (u.2)) (fun u : Int32 × (Nat → Int32) => (fun (th2 : Int32) (fk2 : Nat → Int32) => [bMo g o a th2 1 ac tp ba en tA fl de iD iO tU fm fk2 fa fc ft ff fb fi]) (u.1) (u.2)) ({ frames := 0, cells := 0, slots := 0, locals := 0 } : Room) below args s A) (F0 m 7 ls []) := by
    intro kf
    induction kf with
    | zero => intro x_1 fk_2 i3 rfk_2 i4 H locs ls hk; exact absurd hk (Nat.not_lt_zero _)
    | succ kf ih7_6 =>
      intro x_1 fk_2 i3 rfk_2 i4 H locs ls hk7_6 hP hD hS hl
      refine lv_iload_n hx hb dX12_image_7 rfl (lv_at hl 1 rfl) ?_
      refine lv_sipush (v := 779) hx hb dX12_image_8 (by decide) ?_
      refine lv_icmp_ge (tgt := 32) hx hb dX12_image_11 (by decide) (fun cb9 => ?_) (fun cb9 => ?_)
      · skip
        have c7 : 779 ≤ x_1.toInt := zle cb9 (by decide) rfl
        have n8 : 779 ≤ x_1.toInt := Int.le_trans (Int.le_refl _) c7
        refine lv_aload_n hx hb dX12_image_32 rfl (lv_at hl 0 rfl) ?_
        refine lv_iconst (v := 1) hx hb dX12_image_33 (by decide) ?_
        refine va_put (D := g.1) (ci := 10) (v := .int 1) (ty := .boolean) (C := RX12) (T := TX12) (N := 20) hx hb hts izRX12 tyX12 tyX12_ok nmX12 hown hK hP hD hS 0 rfl rfl 3 (by decide) (hts _ k1146) (fun _ h9 => h9) rfl (by decide +kernel) rfl rfl (Nat.le_of_ble_eq_true rfl) dX12_image_34 (fun H locs hP hD hS => ?_)
        have hP : va_P g.1 vwCl (List.flatten [bMo g o a 0 1 ac tp ba en tA fl de iD iO tU fm fk_2 fa fc ft ff fb fi]) H := hP
        have hD : va_D A (List.flatten [bMo g o a 0 1 ac tp ba en tA fl de iD iO tU fm fk_2 fa fc ft ff fb fi]) := hD
        have hP : va_P g.1 vwCl (List.flatten [bMo g o a 0 1 ac tp ba en tA fl de iD iO tU fm fk_2 fa fc ft ff fb fi]) H := hP
        have hD : va_D A (List.flatten [bMo g o a 0 1 ac tp ba en tA fl de iD iO tU fm fk_2 fa fc ft ff fb fi]) := hD
        exact mret_v hx hb hr hlocks hS (Nat.le_of_ble_eq_true rfl) (Nat.le_of_ble_eq_true rfl) dX12_image_37 ((0 : Int32), fk_2) rfl (show (rM fk_2) ∧ (zCy fk fk_2 0 fm 0 779) from ⟨(by assumption), (zCy_e i4 (by omega))⟩) hP hD
      · skip
        have c9 : x_1.toInt < 779 := zlti (Int32.not_le.mp cb9) rfl (by decide)
        have n10 : x_1.toInt ≤ 778 := zL1 (b := 779) c9 (Int.le_refl _) (by decide)
        refine lv_aload_n hx hb dX12_image_14 rfl (lv_at hl 0 rfl) ?_
        refine va_get (D := g.1) (ci := 10) (v := .ref (a 1)) (C := RX12) (T := TX12) (N := 20) hx hb hts izRX12 hown hK hP 0 rfl rfl 2 (by decide) (hts _ k816) (fun _ h9 => h9) rfl dX12_image_15 ?_
        refine lv_iload_n hx hb dX12_image_18 rfl (lv_at hl 1 rfl) ?_
        refine lv_aload_n hx hb dX12_image_19 rfl (lv_at hl 0 rfl) ?_
        refine va_get (D := g.1) (ci := 10) (v := .ref (a 0)) (C := RX12) (T := TX12) (N := 20) hx hb hts izRX12 hown hK hP 0 rfl rfl 1 (by decide) (hts _ k815) (fun _ h9 => h9) rfl dX12_image_20 ?_
        refine lv_iload_n hx hb dX12_image_23 rfl (lv_at hl 1 rfl) ?_
        refine va_iald hx hb hK hP 1 0 rfl rfl (zinK (a := 0) (b := 778) i3.1 n10 (by decide)) dX12_image_24 ?_
        refine va_iast hx hb hK hP hD hS 2 0 rfl rfl (zinK (a := 0) (b := 778) i3.1 n10 (by decide)) dX12_image_25 (fun H locs hP hD hS => ?_)
        obtain ⟨fk_11, ⟨rfk_11, hcfk_11⟩, hP, hD⟩ : ∃ fk_11 : Nat → Int32, (rM fk_11 ∧ zCy fk fk_11 0 fm 0 (x_1.toInt + 1)) ∧ va_P g.1 vwCl (List.flatten [bMo g o a 0 hi ac tp ba en tA fl de iD iO tU fm fk_11 fa fc ft ff fb fi]) H ∧ va_D A (List.flatten [bMo g o a 0 hi ac tp ba en tA fl de iD iO tU fm fk_11 fa fc ft ff fb fi]) := ⟨upd fk_2 x_1.toNatClampNeg (fm x_1.toNatClampNeg), ⟨(rM_cp rfk_2 rfm), (zCy_s i4 (by omega) (congrArg fm (by rw [zcl]; omega)) rfl)⟩, hP, hD⟩
        refine ziinc3 (n' := 1) (a' := 1) (b' := 779) (lv' := fun v9 => [(1, .int v9), (0, .ref o)]) hx hb dX12_image_26 hl (k := 1) rfl (by decide) (fun _ => rfl) (zaddK (i := x_1.toInt) (j := 1) rfl (by decide) i3.1 n10 (Int.le_refl _) (Int.le_refl _) (by decide)) (fun x_12 ls hx_12 hl => ?_)
        refine lv_goto (tgt := 7) hx hb dX12_image_29 (by decide) ?_
        have hl := lv_sub (l' := [(0, .ref o), (1, .int x_12)]) hl [1, 0] rfl
        have hP : va_P g.1 vwCl (List.flatten [bMo g o a 0 hi ac tp ba en tA fl de iD iO tU fm fk_11 fa fc ft ff fb fi]) H := hP
        have hD : va_D A (List.flatten [bMo g o a 0 hi ac tp ba en tA fl de iD iO tU fm fk_11 fa fc ft ff fb fi]) := hD
        exact ih7_6 x_12 fk_11 ⟨(Int.le_trans (by decide) hx_12.2.1), hx_12.2.2⟩ rfk_11 (zCy_e hcfk_11 (by omega)) H _ ls (zmK hx_12.1 (by decide) n10 (by decide) hk7_6)  hP hD hS (lv_sub hl [0, 1] rfl)
  have hL0 : (0 : Int32).toInt = 0 := by decide
  have hP : va_P g.1 vwCl (List.flatten [bMo g o a 0 hi ac tp ba en tA fl de iD iO tU fm fk fa fc ft ff fb fi]) H := hP
  have hD : va_D A (List.flatten [bMo g o a 0 hi ac tp ba en tA fl de iD iO tU fm fk fa fc ft ff fb fi]) := hD
  exact LP7_5 _ 0 fk (by decide) rfk (zCy_0 (by decide)) H _ ls (Nat.lt_succ_self _)  hP hD hS (lv_sub hl [0, 1] rfl)
set_option maxRecDepth 100000 in
set_option maxHeartbeats 4000000 in
theorem m_back (l : Launch) (g : zG) (o : Nat) (a : Nat → Nat) (th : Int32) (hi : Int32) (ac : Int32) (tp : Int32) (ba : Int32) (en : Int32) (tA : Int32) (fl : Int32) (de : Int32) (iD : Int32) (iO : Int32) (tU : Int32) (fm : Nat → Int32) (fk : Nat → Int32) (fa : Nat → Int32) (fc : Nat → Int32) (ft : Nat → Int32) (ff : Nat → Int32) (fb : Nat → Int32) (fi : Nat → Int32) (rfm : rM fm) (rfk : rM fk) (hac : 0 ≤ ac.toInt ∧ ac.toInt ≤ 12) : zM' g l yX12_back (Cond.code yX12_back cX12_back 2 (some .boolean) :: zB) ({ frames := 0, cells := 0, slots := 0, locals := 0 } : Room) [.ref o] [bMo g o a th hi ac tp ba en tA fl de iD iO tU fm fk fa fc ft ff fb fi] (fun u : Int32 × Int32 × (Nat → Int32) × Int32 => (fun (th2 : Int32) (ac2 : Int32) (fm2 : Nat → Int32) (q : Int32) => some (.int q)) (u.1) (u.2.1) (u.2.2.1) (u.2.2.2)) (fun u : Int32 × Int32 × (Nat → Int32) × Int32 => (fun (th2 : Int32) (ac2 : Int32) (fm2 : Nat → Int32) (q : Int32) => (rM fm2) ∧ (0 ≤ ac2.toInt ∧ ac2.toInt ≤ 12) ∧ (q = 1 ∧ ¬ hi.toInt = 0 ∧ ac2.toInt = 0 ∧ zCy fm fm2 0 fk 0 779 ∨ q = 0 ∧ hi.toInt = 0 ∧ fm = fm2 ∧ ac = ac2)) (u.1) (u.2.1) (u.2.2.1) (u.2.2.2)) (fun u : Int32 × Int32 × (Nat → Int32) × Int32 => (fun (th2 : Int32) (ac2 : Int32) (fm2 : Nat → Int32) (q : Int32) => [bMo g o a th2 hi ac2 tp ba en tA fl de iD iO tU fm2 fk fa fc ft ff fb fi]) (u.1) (u.2.1) (u.2.2.1) (u.2.2.2)) := by
  refine zM'.of (cc := cX12_back) (maxL := 2) (rt := (some .boolean)) (by decide) rfl (Nat.le_of_ble_eq_true rfl) ?_
  intro p e s m args below meth c A ls St hr hlocks hin hK hT hA hP hD hS hl
  obtain ⟨hx, hb, hml, hown, hts⟩ := id St
  have hl : lv_has ls 2 [(0, .ref o)] := hl
  refine lv_aload_n hx hb dX12_back_0 rfl (lv_at hl 0 rfl) ?_
  refine lv_iconst (v := 0) hx hb dX12_back_1 (by decide) ?_
  refine va_put (D := g.1) (ci := 10) (v := .int 0) (ty := .int) (C := RX12) (T := TX12) (N := 20) hx hb hts izRX12 tyX12 tyX12_ok nmX12 hown hK hP hD hS 0 rfl rfl 0 (by decide) (hts _ k825) (fun _ h9 => h9) rfl (by decide +kernel) rfl rfl (Nat.le_of_ble_eq_true rfl) dX12_back_2 (fun H locs hP hD hS => ?_)
  have hP : va_P g.1 vwCl (List.flatten [bMo g o a 0 hi ac tp ba en tA fl de iD iO tU fm fk fa fc ft ff fb fi]) H := hP
  have hD : va_D A (List.flatten [bMo g o a 0 hi ac tp ba en tA fl de iD iO tU fm fk fa fc ft ff fb fi]) := hD
  refine lv_aload_n hx hb dX12_back_5 rfl (lv_at hl 0 rfl) ?_
  refine va_get (D := g.1) (ci := 10) (v := .int hi) (C := RX12) (T := TX12) (N := 20) hx hb hts izRX12 hown hK hP 0 rfl rfl 3 (by decide) (hts _ k1146) (fun _ h9 => h9) rfl dX12_back_6 ?_
  refine lv_if_ne (tgt := 14) hx hb dX12_back_9 (by decide) (fun cb9 => ?_) (fun cb9 => ?_)
  · skip
    have c1 : ¬ hi.toInt = 0 := zne cb9 rfl (by decide)
    refine lv_iconst (v := 0) hx hb dX12_back_14 (by decide) ?_
    refine lv_istore_n (lv' := [(1, .int 0), (0, .ref o)]) hx hb dX12_back_15 rfl hl (by decide) rfl (fun ls hl => ?_)
    have hl := lv_sub (l' := [(0, .ref o), (1, .int 0)]) hl [1, 0] rfl
    have LP16_6 : ∀ (kf : Nat) (x_2 : Int32) (fm_3 : Nat → Int32), (0 ≤ x_2.toInt ∧ x_2.toInt ≤ 779) → (rM fm_3) → (zCy fm fm_3 0 fk 0 x_2.toInt) → ∀ (H : Heap) (locs : List Loc) (ls : Array Slot), ((780 - x_2.toInt).toNat) < kf → va_P g.1 vwCl (List.flatten [bMo g o a 0 hi ac tp ba en tA fl de iD iO tU fm_3 fk fa fc ft ff fb fi]) H → va_D A (List.flatten [bMo g o a 0 hi ac tp ba en tA fl de iD iO tU fm_3 fk fa fc ft ff fb fi]) → va_S A s.heap H locs → lv_has ls 2 [(0, .ref o), (1, .int x_2)] → W p l e ({ frames := 0, cells := 0, slots := 0, locals := 0 } : Room) s m args below meth c H locs (0) (0) (zF g (fun u : Int32 × Int32 × (Nat → Int32) × Int32 => (fun (th2 : Int32) (ac2 : Int32) (fm2 : Nat → Int32) (q : Int32) => some (.int q)) (u.1) (u.2.1) (u.2.2.1) (u.2.2.2)) (fun u : Int32 × Int32 × (Nat → Int32) × Int32 => (fun (th2 : Int32) (ac2 : Int32) (fm2 : Nat → Int32) (q : Int32) => (rM fm2) ∧ (0 ≤ ac2.toInt ∧ ac2.toInt ≤ 12) ∧ (q = 1 ∧ ¬ hi.toInt = 0 ∧ ac2.toInt = 0 ∧ zCy fm fm2 0 fk 0 779 ∨ q = 0 ∧ hi.toInt = 0 ∧ fm = fm2 ∧ ac = ac2)) (u.1) (u.2.1) (u.2.2.1) (u.2.2.2)) (fun u : Int32 × Int32 × (Nat → Int32) × Int32 => (fun (th2 : Int32) (ac2 : Int32) (fm2 : Nat → Int32) (q : Int32) => [bMo g o a th2 hi ac2 tp ba en tA fl de iD iO tU fm2 fk fa fc ft ff fb fi]) (u.1) (u.2.1) (u.2.2.1) (u.2.2.2)) ({ frames := 0, cells := 0, slots := 0, locals := 0 } : Room) below args s A) (F0 m 16 ls []) := by
      intro kf
      induction kf with
      | zero => intro x_2 fm_3 i4 rfm_3 i5 H locs ls hk; exact absurd hk (Nat.not_lt_zero _)
      | succ kf ih16_7 =>
        intro x_2 fm_3 i4 rfm_3 i5 H locs ls hk16_7 hP hD hS hl
        refine lv_iload_n hx hb dX12_back_16 rfl (lv_at hl 1 rfl) ?_
        refine lv_sipush (v := 779) hx hb dX12_back_17 (by decide) ?_
        refine lv_icmp_ge (tgt := 41) hx hb dX12_back_20 (by decide) (fun cb9 => ?_) (fun cb9 => ?_)
        · skip
          have c8 : 779 ≤ x_2.toInt := zle cb9 (by decide) rfl
          have n9 : 779 ≤ x_2.toInt := Int.le_trans (Int.le_refl _) c8
          refine lv_aload_n hx hb dX12_back_41 rfl (lv_at hl 0 rfl) ?_
          refine lv_iconst (v := 0) hx hb dX12_back_42 (by decide) ?_
          refine va_put (D := g.1) (ci := 10) (v := .int 0) (ty := .int) (C := RX12) (T := TX12) (N := 20) hx hb hts izRX12 tyX12 tyX12_ok nmX12 hown hK hP hD hS 0 rfl rfl 6 (by decide) (hts _ k974) (fun _ h9 => h9) rfl (by decide +kernel) rfl rfl (Nat.le_of_ble_eq_true rfl) dX12_back_43 (fun H locs hP hD hS => ?_)
          have hP : va_P g.1 vwCl (List.flatten [bMo g o a 0 hi 0 tp ba en tA fl de iD iO tU fm_3 fk fa fc ft ff fb fi]) H := hP
          have hD : va_D A (List.flatten [bMo g o a 0 hi 0 tp ba en tA fl de iD iO tU fm_3 fk fa fc ft ff fb fi]) := hD
          refine lv_iconst (v := 1) hx hb dX12_back_46 (by decide) ?_
          have hP : va_P g.1 vwCl (List.flatten [bMo g o a 0 hi 0 tp ba en tA fl de iD iO tU fm_3 fk fa fc ft ff fb fi]) H := hP
          have hD : va_D A (List.flatten [bMo g o a 0 hi 0 tp ba en tA fl de iD iO tU fm_3 fk fa fc ft ff fb fi]) := hD
          exact mret_z hx hb hr hlocks hS (Nat.le_of_ble_eq_true rfl) (Nat.le_of_ble_eq_true rfl) dX12_back_47 ((0 : Int32), (0 : Int32), fm_3, (1 : Int32)) rfl (by decide) (show (rM fm_3) ∧ (0 ≤ (0 : Int32).toInt ∧ (0 : Int32).toInt ≤ 12) ∧ (1 = 1 ∧ ¬ hi.toInt = 0 ∧ (0 : Int32).toInt = 0 ∧ zCy fm fm_3 0 fk 0 779 ∨ 1 = 0 ∧ hi.toInt = 0 ∧ fm = fm_3 ∧ ac = 0) from ⟨(by first | assumption | omega | decide), (by first | assumption | omega | decide), (Or.inl ⟨rfl, (by omega), (by decide), (zCy_e i5 (by omega))⟩)⟩) hP hD
        · skip
          have c10 : x_2.toInt < 779 := zlti (Int32.not_le.mp cb9) rfl (by decide)
          have n11 : x_2.toInt ≤ 778 := zL1 (b := 779) c10 (Int.le_refl _) (by decide)
          refine lv_aload_n hx hb dX12_back_23 rfl (lv_at hl 0 rfl) ?_
          refine va_get (D := g.1) (ci := 10) (v := .ref (a 0)) (C := RX12) (T := TX12) (N := 20) hx hb hts izRX12 hown hK hP 0 rfl rfl 1 (by decide) (hts _ k815) (fun _ h9 => h9) rfl dX12_back_24 ?_
          refine lv_iload_n hx hb dX12_back_27 rfl (lv_at hl 1 rfl) ?_
          refine lv_aload_n hx hb dX12_back_28 rfl (lv_at hl 0 rfl) ?_
          refine va_get (D := g.1) (ci := 10) (v := .ref (a 1)) (C := RX12) (T := TX12) (N := 20) hx hb hts izRX12 hown hK hP 0 rfl rfl 2 (by decide) (hts _ k816) (fun _ h9 => h9) rfl dX12_back_29 ?_
          refine lv_iload_n hx hb dX12_back_32 rfl (lv_at hl 1 rfl) ?_
          refine va_iald hx hb hK hP 2 0 rfl rfl (zinK (a := 0) (b := 778) i4.1 n11 (by decide)) dX12_back_33 ?_
          refine va_iast hx hb hK hP hD hS 1 0 rfl rfl (zinK (a := 0) (b := 778) i4.1 n11 (by decide)) dX12_back_34 (fun H locs hP hD hS => ?_)
          obtain ⟨fm_12, ⟨rfm_12, hcfm_12⟩, hP, hD⟩ : ∃ fm_12 : Nat → Int32, (rM fm_12 ∧ zCy fm fm_12 0 fk 0 (x_2.toInt + 1)) ∧ va_P g.1 vwCl (List.flatten [bMo g o a 0 hi ac tp ba en tA fl de iD iO tU fm_12 fk fa fc ft ff fb fi]) H ∧ va_D A (List.flatten [bMo g o a 0 hi ac tp ba en tA fl de iD iO tU fm_12 fk fa fc ft ff fb fi]) := ⟨upd fm_3 x_2.toNatClampNeg (fk x_2.toNatClampNeg), ⟨(rM_cp rfm_3 rfk), (zCy_s i5 (by omega) (congrArg fk (by rw [zcl]; omega)) rfl)⟩, hP, hD⟩
          refine ziinc3 (n' := 1) (a' := 1) (b' := 779) (lv' := fun v9 => [(1, .int v9), (0, .ref o)]) hx hb dX12_back_35 hl (k := 1) rfl (by decide) (fun _ => rfl) (zaddK (i := x_2.toInt) (j := 1) rfl (by decide) i4.1 n11 (Int.le_refl _) (Int.le_refl _) (by decide)) (fun x_13 ls hx_13 hl => ?_)
          refine lv_goto (tgt := 16) hx hb dX12_back_38 (by decide) ?_
          have hl := lv_sub (l' := [(0, .ref o), (1, .int x_13)]) hl [1, 0] rfl
          have hP : va_P g.1 vwCl (List.flatten [bMo g o a 0 hi ac tp ba en tA fl de iD iO tU fm_12 fk fa fc ft ff fb fi]) H := hP
          have hD : va_D A (List.flatten [bMo g o a 0 hi ac tp ba en tA fl de iD iO tU fm_12 fk fa fc ft ff fb fi]) := hD
          exact ih16_7 x_13 fm_12 ⟨(Int.le_trans (by decide) hx_13.2.1), hx_13.2.2⟩ rfm_12 (zCy_e hcfm_12 (by omega)) H _ ls (zmK hx_13.1 (by decide) n11 (by decide) hk16_7)  hP hD hS (lv_sub hl [0, 1] rfl)
    have hL0 : (0 : Int32).toInt = 0 := by decide
    have hP : va_P g.1 vwCl (List.flatten [bMo g o a 0 hi ac tp ba en tA fl de iD iO tU fm fk fa fc ft ff fb fi]) H := hP
    have hD : va_D A (List.flatten [bMo g o a 0 hi ac tp ba en tA fl de iD iO tU fm fk fa fc ft ff fb fi]) := hD
    exact LP16_6 _ 0 fm (by decide) rfm (zCy_0 (by decide)) H _ ls (Nat.lt_succ_self _)  hP hD hS (lv_sub hl [0, 1] rfl)
  · skip
    have c14 : hi.toInt = 0 := zeq cb9 rfl (by decide)
    have n15 : 0 ≤ hi.toInt := Int.le_trans (Int.le_refl _) (Int.le_of_eq c14.symm)
    have n16 : hi.toInt ≤ 0 := Int.le_trans (Int.le_of_eq c14) (Int.le_refl _)
    refine lv_iconst (v := 0) hx hb dX12_back_12 (by decide) ?_
    have hP : va_P g.1 vwCl (List.flatten [bMo g o a 0 hi ac tp ba en tA fl de iD iO tU fm fk fa fc ft ff fb fi]) H := hP
    have hD : va_D A (List.flatten [bMo g o a 0 hi ac tp ba en tA fl de iD iO tU fm fk fa fc ft ff fb fi]) := hD
    exact mret_z hx hb hr hlocks hS (Nat.le_of_ble_eq_true rfl) (Nat.le_of_ble_eq_true rfl) dX12_back_13 ((0 : Int32), ac, fm, (0 : Int32)) rfl (by decide) (show (rM fm) ∧ (0 ≤ ac.toInt ∧ ac.toInt ≤ 12) ∧ (0 = 1 ∧ ¬ hi.toInt = 0 ∧ ac.toInt = 0 ∧ zCy fm fm 0 fk 0 779 ∨ 0 = 0 ∧ hi.toInt = 0 ∧ fm = fm ∧ ac = ac) from ⟨(by first | assumption | omega | decide), (by first | assumption | omega | decide), (Or.inr ⟨rfl, (by omega), rfl, rfl⟩)⟩) hP hD
set_option maxRecDepth 100000 in
set_option maxHeartbeats 4000000 in
theorem m_end (l : Launch) (g : zG) (o : Nat) (a : Nat → Nat) (th : Int32) (hi : Int32) (ac : Int32) (tp : Int32) (ba : Int32) (en : Int32) (tA : Int32) (fl : Int32) (de : Int32) (iD : Int32) (iO : Int32) (tU : Int32) (fm : Nat → Int32) (fk : Nat → Int32) (fa : Nat → Int32) (fc : Nat → Int32) (ft : Nat → Int32) (ff : Nat → Int32) (fb : Nat → Int32) (fi : Nat → Int32) (n : Int32) (htp : 0 ≤ tp.toInt ∧ tp.toInt ≤ 400) : zM' g l yX12_end (Cond.code yX12_end cX12_end 2 (some .boolean) :: zB) ({ frames := 1, cells := 0, slots := 0, locals := 22 } : Room) [.ref o, .int n] [bMo g o a th hi ac tp ba en tA fl de iD iO tU fm fk fa fc ft ff fb fi] (fun u : Int32 × Int32 × Int32 => (fun (th2 : Int32) (tp2 : Int32) (q : Int32) => some (.int q)) (u.1) (u.2.1) (u.2.2)) (fun u : Int32 × Int32 × Int32 => (fun (th2 : Int32) (tp2 : Int32) (q : Int32) => (0 ≤ tp2.toInt ∧ tp2.toInt ≤ 400) ∧ (q = 1 ∧ (0 ≤ n.toInt ∧ n.toInt ≤ tp.toInt ∧ tp2.toInt = n.toInt) ∨ q = 0 ∧ ((n.toInt < 0 ∨ tp.toInt < n.toInt) ∧ tp2.toInt = tp.toInt))) (u.1) (u.2.1) (u.2.2)) (fun u : Int32 × Int32 × Int32 => (fun (th2 : Int32) (tp2 : Int32) (q : Int32) => [bMo g o a th2 hi ac tp2 ba en tA fl de iD iO tU fm fk fa fc ft ff fb fi]) (u.1) (u.2.1) (u.2.2)) := by
  refine zM'.of (cc := cX12_end) (maxL := 2) (rt := (some .boolean)) (by decide) rfl (Nat.le_of_ble_eq_true rfl) ?_
  intro p e s m args below meth c A ls St hr hlocks hin hK hT hA hP hD hS hl
  obtain ⟨hx, hb, hml, hown, hts⟩ := id St
  have hl : lv_has ls 2 [(0, .ref o), (1, .int n)] := hl
  refine lv_aload_n hx hb dX12_end_0 rfl (lv_at hl 0 rfl) ?_
  refine lv_iconst (v := 0) hx hb dX12_end_1 (by decide) ?_
  refine va_put (D := g.1) (ci := 10) (v := .int 0) (ty := .int) (C := RX12) (T := TX12) (N := 20) hx hb hts izRX12 tyX12 tyX12_ok nmX12 hown hK hP hD hS 0 rfl rfl 0 (by decide) (hts _ k825) (fun _ h9 => h9) rfl (by decide +kernel) rfl rfl (Nat.le_of_ble_eq_true rfl) dX12_end_2 (fun H locs hP hD hS => ?_)
  have hP : va_P g.1 vwCl (List.flatten [bMo g o a 0 hi ac tp ba en tA fl de iD iO tU fm fk fa fc ft ff fb fi]) H := hP
  have hD : va_D A (List.flatten [bMo g o a 0 hi ac tp ba en tA fl de iD iO tU fm fk fa fc ft ff fb fi]) := hD
  refine lv_iload_n hx hb dX12_end_5 rfl (lv_at hl 1 rfl) ?_
  refine lv_iconst (v := 0) hx hb dX12_end_6 (by decide) ?_
  refine lv_aload_n hx hb dX12_end_7 rfl (lv_at hl 0 rfl) ?_
  refine va_get (D := g.1) (ci := 10) (v := .int tp) (C := RX12) (T := TX12) (N := 20) hx hb hts izRX12 hown hK hP 0 rfl rfl 8 (by decide) (hts _ k873) (fun _ h9 => h9) rfl dX12_end_8 ?_
  have hL0 : (0 : Int32).toInt = 0 := by decide
  refine mcallS' (g := g) (As := [.int n, .int 0, .int tp]) (rest := []) St hK hT hA hP hD hS hl.1 [] [0] rfl rfl rfl (m_isIn l g n 0 tp ) (va_cwS 3 hts (zgL (zl3 k837 k838 k839) k826) rfl rfl rfl (by decide +kernel) ⟨Nat.le_of_ble_eq_true rfl, Nat.le_of_ble_eq_true rfl⟩) rfl rfl (Nat.le_of_ble_eq_true rfl) dX12_end_11 ⟨(Nat.le_of_ble_eq_true rfl), (Nat.le_of_ble_eq_true rfl)⟩ (fun q_1 H locs hq2 hP hD hS => ?_)
  replace hq2 : (q_1 = 1 ∧ (0 : Int32).toInt ≤ n.toInt ∧ n.toInt ≤ tp.toInt ∨ q_1 = 0 ∧ (n.toInt < (0 : Int32).toInt ∨ tp.toInt < n.toInt)) := hq2
  have hP : va_P g.1 vwCl (List.flatten [bMo g o a 0 hi ac tp ba en tA fl de iD iO tU fm fk fa fc ft ff fb fi]) H := hP
  have hD : va_D A (List.flatten [bMo g o a 0 hi ac tp ba en tA fl de iD iO tU fm fk fa fc ft ff fb fi]) := hD
  refine W.widen (k := 0) (n := 0) (Nat.le_of_ble_eq_true rfl) (Nat.le_of_ble_eq_true rfl) ?_
  refine W.eq (g2 := F0 m 14 ls [.int q_1]) rfl ?_
  rcases hq2 with ⟨rfl, hq2_k⟩ | ⟨rfl, hq2_k⟩
  · skip
    refine lv_if_ne (tgt := 19) hx hb dX12_end_14 (by decide) (fun _ => ?_) (fun c3 => absurd c3 (by decide))
    refine lv_aload_n hx hb dX12_end_19 rfl (lv_at hl 0 rfl) ?_
    refine lv_iload_n hx hb dX12_end_20 rfl (lv_at hl 1 rfl) ?_
    refine va_put (D := g.1) (ci := 10) (v := .int n) (ty := .int) (C := RX12) (T := TX12) (N := 20) hx hb hts izRX12 tyX12 tyX12_ok nmX12 hown hK hP hD hS 0 rfl rfl 8 (by decide) (hts _ k873) (fun _ h9 => h9) rfl (by decide +kernel) rfl rfl (Nat.le_of_ble_eq_true rfl) dX12_end_21 (fun H locs hP hD hS => ?_)
    have hP : va_P g.1 vwCl (List.flatten [bMo g o a 0 hi ac n ba en tA fl de iD iO tU fm fk fa fc ft ff fb fi]) H := hP
    have hD : va_D A (List.flatten [bMo g o a 0 hi ac n ba en tA fl de iD iO tU fm fk fa fc ft ff fb fi]) := hD
    refine lv_iconst (v := 1) hx hb dX12_end_24 (by decide) ?_
    have hP : va_P g.1 vwCl (List.flatten [bMo g o a 0 hi ac n ba en tA fl de iD iO tU fm fk fa fc ft ff fb fi]) H := hP
    have hD : va_D A (List.flatten [bMo g o a 0 hi ac n ba en tA fl de iD iO tU fm fk fa fc ft ff fb fi]) := hD
    exact mret_z hx hb hr hlocks hS (Nat.le_of_ble_eq_true rfl) (Nat.le_of_ble_eq_true rfl) dX12_end_25 ((0 : Int32), n, (1 : Int32)) rfl (by decide) (show (0 ≤ n.toInt ∧ n.toInt ≤ 400) ∧ (1 = 1 ∧ (0 ≤ n.toInt ∧ n.toInt ≤ tp.toInt ∧ n.toInt = n.toInt) ∨ 1 = 0 ∧ ((n.toInt < 0 ∨ tp.toInt < n.toInt) ∧ n.toInt = tp.toInt)) from ⟨(by omega), (by first | exact Or.inl ⟨rfl, by omega⟩ | exact Or.inr ⟨rfl, by omega⟩)⟩) hP hD
  · skip
    refine lv_if_ne (tgt := 19) hx hb dX12_end_14 (by decide) (fun c4 => absurd (by decide) c4) (fun _ => ?_)
    refine lv_iconst (v := 0) hx hb dX12_end_17 (by decide) ?_
    have hP : va_P g.1 vwCl (List.flatten [bMo g o a 0 hi ac tp ba en tA fl de iD iO tU fm fk fa fc ft ff fb fi]) H := hP
    have hD : va_D A (List.flatten [bMo g o a 0 hi ac tp ba en tA fl de iD iO tU fm fk fa fc ft ff fb fi]) := hD
    exact mret_z hx hb hr hlocks hS (Nat.le_of_ble_eq_true rfl) (Nat.le_of_ble_eq_true rfl) dX12_end_18 ((0 : Int32), tp, (0 : Int32)) rfl (by decide) (show (0 ≤ tp.toInt ∧ tp.toInt ≤ 400) ∧ (0 = 1 ∧ (0 ≤ n.toInt ∧ n.toInt ≤ tp.toInt ∧ tp.toInt = n.toInt) ∨ 0 = 0 ∧ ((n.toInt < 0 ∨ tp.toInt < n.toInt) ∧ tp.toInt = tp.toInt)) from ⟨(by omega), (by first | exact Or.inl ⟨rfl, by omega⟩ | exact Or.inr ⟨rfl, by omega⟩)⟩) hP hD
set_option maxRecDepth 100000 in
set_option maxHeartbeats 4000000 in
theorem m_heard (l : Launch) (g : zG) (o : Nat) (a : Nat → Nat) (th : Int32) (hi : Int32) (ac : Int32) (tp : Int32) (ba : Int32) (en : Int32) (tA : Int32) (fl : Int32) (de : Int32) (iD : Int32) (iO : Int32) (tU : Int32) (fm : Nat → Int32) (fk : Nat → Int32) (fa : Nat → Int32) (fc : Nat → Int32) (ft : Nat → Int32) (ff : Nat → Int32) (fb : Nat → Int32) (fi : Nat → Int32) (htp : 0 ≤ tp.toInt ∧ tp.toInt ≤ 400) : zM' g l yX12_heard (Cond.code yX12_heard cX12_heard 5 (some .int) :: zB) ({ frames := 0, cells := 0, slots := 0, locals := 0 } : Room) [.ref o] [bMo g o a th hi ac tp ba en tA fl de iD iO tU fm fk fa fc ft ff fb fi] (fun (q : Int32) => some (.int q)) (fun (q : Int32) => ((-12 ≤ q.toInt ∧ q.toInt ≤ 12) ∨ q.toInt = 100)) (fun (q : Int32) => [bMo g o a th hi ac 0 ba en tA fl de iD iO tU fm fk fa fc ft ff fb fi]) := by
  refine zM'.of (cc := cX12_heard) (maxL := 5) (rt := (some .int)) (by decide) rfl (Nat.le_of_ble_eq_true rfl) ?_
  intro p e s m args below meth c A ls St hr hlocks hin hK hT hA hP hD hS hl
  obtain ⟨hx, hb, hml, hown, hts⟩ := id St
  have hl : lv_has ls 5 [(0, .ref o)] := hl
  refine lv_aload_n hx hb dX12_heard_0 rfl (lv_at hl 0 rfl) ?_
  refine va_get (D := g.1) (ci := 10) (v := .int tp) (C := RX12) (T := TX12) (N := 20) hx hb hts izRX12 hown hK hP 0 rfl rfl 8 (by decide) (hts _ k873) (fun _ h9 => h9) rfl dX12_heard_1 ?_
  refine lv_istore_n (lv' := [(1, .int tp), (0, .ref o)]) hx hb dX12_heard_4 rfl hl (by decide) rfl (fun ls hl => ?_)
  refine lv_aload_n hx hb dX12_heard_5 rfl (lv_at hl 1 rfl) ?_
  refine lv_iconst (v := 0) hx hb dX12_heard_6 (by decide) ?_
  refine va_put (D := g.1) (ci := 10) (v := .int 0) (ty := .int) (C := RX12) (T := TX12) (N := 20) hx hb hts izRX12 tyX12 tyX12_ok nmX12 hown hK hP hD hS 0 rfl rfl 8 (by decide) (hts _ k873) (fun _ h9 => h9) rfl (by decide +kernel) rfl rfl (Nat.le_of_ble_eq_true rfl) dX12_heard_7 (fun H locs hP hD hS => ?_)
  have hP : va_P g.1 vwCl (List.flatten [bMo g o a th hi ac 0 ba en tA fl de iD iO tU fm fk fa fc ft ff fb fi]) H := hP
  have hD : va_D A (List.flatten [bMo g o a th hi ac 0 ba en tA fl de iD iO tU fm fk fa fc ft ff fb fi]) := hD
  refine lv_iconst (v := 0) hx hb dX12_heard_10 (by decide) ?_
  refine lv_istore_n (lv' := [(2, .int 0), (1, .int tp), (0, .ref o)]) hx hb dX12_heard_11 rfl hl (by decide) rfl (fun ls hl => ?_)
  refine lv_iload_n hx hb dX12_heard_12 rfl (lv_at hl 1 rfl) ?_
  refine lv_bipush (v := 12) hx hb dX12_heard_13 (by decide) ?_
  refine lv_icmp_gt (tgt := 22) hx hb dX12_heard_15 (by decide) (fun cb9 => ?_) (fun cb9 => ?_)
  · skip
    have c1 : 12 < tp.toInt := zlti cb9 (by decide) rfl
    have n2 : 13 ≤ tp.toInt := zL2 (a := 12) c1 (Int.le_refl _) (by decide)
    refine lv_iconst (v := 0) hx hb dX12_heard_22 (by decide) ?_
    refine lv_istore_n (lv' := [(3, .int 0), (2, .int 0), (1, .int tp), (0, .ref o)]) hx hb dX12_heard_23 rfl hl (by decide) rfl (fun ls hl => ?_)
    refine lv_iconst (v := 0) hx hb dX12_heard_24 (by decide) ?_
    refine lv_istore (lv' := [(4, .int 0), (3, .int 0), (2, .int 0), (1, .int tp), (0, .ref o)]) hx hb dX12_heard_25 hl (by decide) rfl (fun ls hl => ?_)
    have hl := lv_sub (l' := [(0, .ref o), (1, .int tp), (2, .int 0), (3, .int 0), (4, .int 0)]) hl [4, 3, 2, 1, 0] rfl
    have LP27_12 : ∀ (kf : Nat) (x_3 : Int32) (x_4 : Int32) (x_5 : Int32), ((-400) ≤ x_3.toInt ∧ x_3.toInt ≤ 400) → (0 ≤ x_4.toInt ∧ x_4.toInt ≤ 1) → (0 ≤ x_5.toInt ∧ x_5.toInt ≤ 400) → ((-(x_5.toInt) ≤ x_3.toInt ∧ x_3.toInt ≤ x_5.toInt)) → (x_4.toInt = 0 ∨ tp.toInt ≤ 12) → (x_5.toInt ≤ tp.toInt) → ∀ (H : Heap) (locs : List Loc) (ls : Array Slot), ((401 - x_5.toInt).toNat) < kf → va_P g.1 vwCl (List.flatten [bMo g o a th hi ac 0 ba en tA fl de iD iO tU fm fk fa fc ft ff fb fi]) H → va_D A (List.flatten [bMo g o a th hi ac 0 ba en tA fl de iD iO tU fm fk fa fc ft ff fb fi]) → va_S A s.heap H locs → lv_has ls 5 [(0, .ref o), (1, .int tp), (2, .int x_3), (3, .int x_4), (4, .int x_5)] → W p l e ({ frames := 0, cells := 0, slots := 0, locals := 0 } : Room) s m args below meth c H locs (0) (0) (zF g (fun (q : Int32) => some (.int q)) (fun (q : Int32) => ((-12 ≤ q.toInt ∧ q.toInt ≤ 12) ∨ q.toInt = 100)) (fun (q : Int32) => [bMo g o a th hi ac 0 ba en tA fl de iD iO tU fm fk fa fc ft ff fb fi]) ({ frames := 0, cells := 0, slots := 0, locals := 0 } : Room) below args s A) (F0 m 27 ls []) := by
      intro kf
      induction kf with
      | zero => intro x_3 x_4 x_5 i6 i7 i8 i9 i10 i11 H locs ls hk; exact absurd hk (Nat.not_lt_zero _)
      | succ kf ih27_13 =>
        intro x_3 x_4 x_5 i6 i7 i8 i9 i10 i11 H locs ls hk27_13 hP hD hS hl
        refine lv_iload hx hb dX12_heard_27 (lv_at hl 4 rfl) ?_
        refine lv_iload_n hx hb dX12_heard_29 rfl (lv_at hl 1 rfl) ?_
        refine lv_icmp_ge (tgt := 79) hx hb dX12_heard_30 (by decide) (fun cb9 => ?_) (fun cb9 => ?_)
        · skip
          have c14 : tp.toInt ≤ x_5.toInt := zle cb9 rfl rfl
          have n15 : 13 ≤ x_5.toInt := Int.le_trans n2 c14
          refine lv_iload_n hx hb dX12_heard_79 rfl (lv_at hl 3 rfl) ?_
          refine lv_if_eq (tgt := 87) hx hb dX12_heard_80 (by decide) (fun cb9 => ?_) (fun cb9 => ?_)
          · skip
            have c16 : x_4.toInt = 0 := zeq cb9 rfl (by decide)
            have n17 : x_4.toInt ≤ 0 := Int.le_trans (Int.le_of_eq c16) (Int.le_refl _)
            refine lv_bipush (v := 100) hx hb dX12_heard_87 (by decide) ?_
            have hL100 : (100 : Int32).toInt = 100 := by decide
            have hP : va_P g.1 vwCl (List.flatten [bMo g o a th hi ac 0 ba en tA fl de iD iO tU fm fk fa fc ft ff fb fi]) H := hP
            have hD : va_D A (List.flatten [bMo g o a th hi ac 0 ba en tA fl de iD iO tU fm fk fa fc ft ff fb fi]) := hD
            exact mret_i hx hb hr hlocks hS (Nat.le_of_ble_eq_true rfl) (Nat.le_of_ble_eq_true rfl) dX12_heard_89 ((100 : Int32)) rfl (show ((-12 ≤ (100 : Int32).toInt ∧ (100 : Int32).toInt ≤ 12) ∨ (100 : Int32).toInt = 100) from (by first | assumption | omega | decide | exact rfl | exact zb01 (by omega) | exact Or.inl (by decide) | exact Or.inr (by first | omega | decide))) hP hD
          · skip
            have c18 : ¬ x_4.toInt = 0 := zne cb9 rfl (by decide)
            have n19 : 1 ≤ x_4.toInt := zN1 c18 i7.1 (by decide)
            refine lv_iload_n hx hb dX12_heard_83 rfl (lv_at hl 2 rfl) ?_
            refine lv_goto (tgt := 89) hx hb dX12_heard_84 (by decide) ?_
            have hP : va_P g.1 vwCl (List.flatten [bMo g o a th hi ac 0 ba en tA fl de iD iO tU fm fk fa fc ft ff fb fi]) H := hP
            have hD : va_D A (List.flatten [bMo g o a th hi ac 0 ba en tA fl de iD iO tU fm fk fa fc ft ff fb fi]) := hD
            exact mret_i hx hb hr hlocks hS (Nat.le_of_ble_eq_true rfl) (Nat.le_of_ble_eq_true rfl) dX12_heard_89 (x_3) rfl (show ((-12 ≤ x_3.toInt ∧ x_3.toInt ≤ 12) ∨ x_3.toInt = 100) from (by first | assumption | omega | decide | exact rfl | exact zb01 (by omega) | exact Or.inl (by decide) | exact Or.inr (by first | omega | decide))) hP hD
        · skip
          have c20 : x_5.toInt < tp.toInt := zlti (Int32.not_le.mp cb9) rfl rfl
          have n21 : x_5.toInt ≤ 399 := zL1 (b := 400) c20 htp.2 (by decide)
          refine lv_iload_n hx hb dX12_heard_33 rfl (lv_at hl 3 rfl) ?_
          refine lv_if_eq (tgt := 79) hx hb dX12_heard_34 (by decide) (fun cb9 => ?_) (fun cb9 => ?_)
          · skip
            have c22 : x_4.toInt = 0 := zeq cb9 rfl (by decide)
            have n23 : x_4.toInt ≤ 0 := Int.le_trans (Int.le_of_eq c22) (Int.le_refl _)
            refine lv_iload_n hx hb dX12_heard_79 rfl (lv_at hl 3 rfl) ?_
            refine lv_if_eq (tgt := 87) hx hb dX12_heard_80 (by decide) (fun cb9 => ?_) (fun cb9 => ?_)
            · skip
              have c24 : x_4.toInt = 0 := zeq cb9 rfl (by decide)
              refine lv_bipush (v := 100) hx hb dX12_heard_87 (by decide) ?_
              have hL100 : (100 : Int32).toInt = 100 := by decide
              have hP : va_P g.1 vwCl (List.flatten [bMo g o a th hi ac 0 ba en tA fl de iD iO tU fm fk fa fc ft ff fb fi]) H := hP
              have hD : va_D A (List.flatten [bMo g o a th hi ac 0 ba en tA fl de iD iO tU fm fk fa fc ft ff fb fi]) := hD
              exact mret_i hx hb hr hlocks hS (Nat.le_of_ble_eq_true rfl) (Nat.le_of_ble_eq_true rfl) dX12_heard_89 ((100 : Int32)) rfl (show ((-12 ≤ (100 : Int32).toInt ∧ (100 : Int32).toInt ≤ 12) ∨ (100 : Int32).toInt = 100) from (by first | assumption | omega | decide | exact rfl | exact zb01 (by omega) | exact Or.inl (by decide) | exact Or.inr (by first | omega | decide))) hP hD
            · skip
              exact absurd (show ¬ x_4.toInt = 0 from zne cb9 rfl (by decide)) (by omega)
          · skip
            have c26 : ¬ x_4.toInt = 0 := zne cb9 rfl (by decide)
            have n27 : 1 ≤ x_4.toInt := zN1 c26 i7.1 (by decide)
            refine lv_aload_n hx hb dX12_heard_37 rfl (lv_at hl 0 rfl) ?_
            refine va_get (D := g.1) (ci := 10) (v := .ref (a 4)) (C := RX12) (T := TX12) (N := 20) hx hb hts izRX12 hown hK hP 0 rfl rfl 7 (by decide) (hts _ k819) (fun _ h9 => h9) rfl dX12_heard_38 ?_
            refine lv_iload hx hb dX12_heard_41 (lv_at hl 4 rfl) ?_
            refine va_iald hx hb hK hP 5 0 rfl rfl (zinK (a := 0) (b := 399) i8.1 n21 (by decide)) dX12_heard_43 ?_
            refine zg (fun x_28 => ?_)
            refine lv_iconst (v := 2) hx hb dX12_heard_44 (by decide) ?_
            refine lv_icmp_ge (tgt := 52) hx hb dX12_heard_45 (by decide) (fun cb9 => ?_) (fun cb9 => ?_)
            · skip
              have c29 : 2 ≤ x_28.toInt := zle cb9 (by decide) rfl
              have n30 : 2 ≤ x_28.toInt := Int.le_trans (Int.le_refl _) c29
              refine lv_iconst (v := 0) hx hb dX12_heard_52 (by decide) ?_
              refine lv_istore_n (lv' := [(3, .int 0), (0, .ref o), (1, .int tp), (2, .int x_3), (4, .int x_5)]) hx hb dX12_heard_53 rfl hl (by decide) rfl (fun ls hl => ?_)
              refine lv_iload_n hx hb dX12_heard_54 rfl (lv_at hl 3 rfl) ?_
              refine lv_aload_n hx hb dX12_heard_55 rfl (lv_at hl 1 rfl) ?_
              refine va_get (D := g.1) (ci := 10) (v := .ref (a 4)) (C := RX12) (T := TX12) (N := 20) hx hb hts izRX12 hown hK hP 0 rfl rfl 7 (by decide) (hts _ k819) (fun _ h9 => h9) rfl dX12_heard_56 ?_
              refine lv_iload hx hb dX12_heard_59 (lv_at hl 4 rfl) ?_
              refine va_iald hx hb hK hP 5 0 rfl rfl (zinK (a := 0) (b := 399) i8.1 n21 (by decide)) dX12_heard_61 ?_
              refine zg (fun x_31 => ?_)
              refine lv_iconst (v := 1) hx hb dX12_heard_62 (by decide) ?_
              refine lv_icmp_ne (tgt := 70) hx hb dX12_heard_63 (by decide) (fun cb9 => ?_) (fun cb9 => ?_)
              · skip
                have c32 : ¬ x_31.toInt = 1 := zne cb9 rfl (by decide)
                refine lv_iconst (v := (-1)) hx hb dX12_heard_70 (by decide) ?_
                refine lv_iadd hx hb dX12_heard_71 ?_
                refine zg3 (zaddK (i := x_3.toInt) (j := (-1)) (a' := (-401)) (b' := 399) rfl (by decide) i6.1 i6.2 (Int.le_refl _) (Int.le_refl _) (by decide)) (fun x_33 hx_33 => ?_)
                refine lv_istore_n (lv' := [(2, .int x_33), (3, .int 0), (0, .ref o), (1, .int tp), (4, .int x_5)]) hx hb dX12_heard_72 rfl hl (by decide) rfl (fun ls hl => ?_)
                refine ziinc3 (n' := 1) (a' := 1) (b' := 400) (lv' := fun v9 => [(4, .int v9), (2, .int x_33), (3, .int 0), (0, .ref o), (1, .int tp)]) hx hb dX12_heard_73 hl (k := 4) rfl (by decide) (fun _ => rfl) (zaddK (i := x_5.toInt) (j := 1) rfl (by decide) i8.1 n21 (Int.le_refl _) (Int.le_refl _) (by decide)) (fun x_34 ls hx_34 hl => ?_)
                refine lv_goto (tgt := 27) hx hb dX12_heard_76 (by decide) ?_
                have hl := lv_sub (l' := [(0, .ref o), (1, .int tp), (2, .int x_33), (3, .int 0), (4, .int x_34)]) hl [3, 4, 1, 2, 0] rfl
                have hL0 : (0 : Int32).toInt = 0 := by decide
                have hP : va_P g.1 vwCl (List.flatten [bMo g o a th hi ac 0 ba en tA fl de iD iO tU fm fk fa fc ft ff fb fi]) H := hP
                have hD : va_D A (List.flatten [bMo g o a th hi ac 0 ba en tA fl de iD iO tU fm fk fa fc ft ff fb fi]) := hD
                exact ih27_13 x_33 0 x_34 (by first | omega | assumption | decide) (by decide) ⟨(Int.le_trans (by decide) hx_34.2.1), hx_34.2.2⟩ (by first | omega | assumption | decide) (by first | omega | assumption | decide) (by first | omega | assumption | decide) H _ ls (zmK hx_34.1 (by decide) n21 (by decide) hk27_13)  hP hD hS (lv_sub hl [0, 1, 2, 3, 4] rfl)
              · skip
                have c35 : x_31.toInt = 1 := zeq cb9 rfl (by decide)
                have n36 : 1 ≤ x_31.toInt := Int.le_trans (Int.le_refl _) (Int.le_of_eq c35.symm)
                have n37 : x_31.toInt ≤ 1 := Int.le_trans (Int.le_of_eq c35) (Int.le_refl _)
                refine lv_iconst (v := 1) hx hb dX12_heard_66 (by decide) ?_
                refine lv_goto (tgt := 71) hx hb dX12_heard_67 (by decide) ?_
                refine lv_iadd hx hb dX12_heard_71 ?_
                refine zg3 (zaddK (i := x_3.toInt) (j := 1) (a' := (-399)) (b' := 401) rfl (by decide) i6.1 i6.2 (Int.le_refl _) (Int.le_refl _) (by decide)) (fun x_38 hx_38 => ?_)
                refine lv_istore_n (lv' := [(2, .int x_38), (3, .int 0), (0, .ref o), (1, .int tp), (4, .int x_5)]) hx hb dX12_heard_72 rfl hl (by decide) rfl (fun ls hl => ?_)
                refine ziinc3 (n' := 1) (a' := 1) (b' := 400) (lv' := fun v9 => [(4, .int v9), (2, .int x_38), (3, .int 0), (0, .ref o), (1, .int tp)]) hx hb dX12_heard_73 hl (k := 4) rfl (by decide) (fun _ => rfl) (zaddK (i := x_5.toInt) (j := 1) rfl (by decide) i8.1 n21 (Int.le_refl _) (Int.le_refl _) (by decide)) (fun x_39 ls hx_39 hl => ?_)
                refine lv_goto (tgt := 27) hx hb dX12_heard_76 (by decide) ?_
                have hl := lv_sub (l' := [(0, .ref o), (1, .int tp), (2, .int x_38), (3, .int 0), (4, .int x_39)]) hl [3, 4, 1, 2, 0] rfl
                have hL0 : (0 : Int32).toInt = 0 := by decide
                have hP : va_P g.1 vwCl (List.flatten [bMo g o a th hi ac 0 ba en tA fl de iD iO tU fm fk fa fc ft ff fb fi]) H := hP
                have hD : va_D A (List.flatten [bMo g o a th hi ac 0 ba en tA fl de iD iO tU fm fk fa fc ft ff fb fi]) := hD
                exact ih27_13 x_38 0 x_39 (by first | omega | assumption | decide) (by decide) ⟨(Int.le_trans (by decide) hx_39.2.1), hx_39.2.2⟩ (by first | omega | assumption | decide) (by first | omega | assumption | decide) (by first | omega | assumption | decide) H _ ls (zmK hx_39.1 (by decide) n21 (by decide) hk27_13)  hP hD hS (lv_sub hl [0, 1, 2, 3, 4] rfl)
            · skip
              have c40 : x_28.toInt < 2 := zlti (Int32.not_le.mp cb9) rfl (by decide)
              have n41 : x_28.toInt ≤ 1 := zL1 (b := 2) c40 (Int.le_refl _) (by decide)
              refine lv_iconst (v := 1) hx hb dX12_heard_48 (by decide) ?_
              refine lv_goto (tgt := 53) hx hb dX12_heard_49 (by decide) ?_
              refine lv_istore_n (lv' := [(3, .int 1), (0, .ref o), (1, .int tp), (2, .int x_3), (4, .int x_5)]) hx hb dX12_heard_53 rfl hl (by decide) rfl (fun ls hl => ?_)
              refine lv_iload_n hx hb dX12_heard_54 rfl (lv_at hl 3 rfl) ?_
              refine lv_aload_n hx hb dX12_heard_55 rfl (lv_at hl 1 rfl) ?_
              refine va_get (D := g.1) (ci := 10) (v := .ref (a 4)) (C := RX12) (T := TX12) (N := 20) hx hb hts izRX12 hown hK hP 0 rfl rfl 7 (by decide) (hts _ k819) (fun _ h9 => h9) rfl dX12_heard_56 ?_
              refine lv_iload hx hb dX12_heard_59 (lv_at hl 4 rfl) ?_
              refine va_iald hx hb hK hP 5 0 rfl rfl (zinK (a := 0) (b := 399) i8.1 n21 (by decide)) dX12_heard_61 ?_
              refine zg (fun x_42 => ?_)
              refine lv_iconst (v := 1) hx hb dX12_heard_62 (by decide) ?_
              refine lv_icmp_ne (tgt := 70) hx hb dX12_heard_63 (by decide) (fun cb9 => ?_) (fun cb9 => ?_)
              · skip
                have c43 : ¬ x_42.toInt = 1 := zne cb9 rfl (by decide)
                refine lv_iconst (v := (-1)) hx hb dX12_heard_70 (by decide) ?_
                refine lv_iadd hx hb dX12_heard_71 ?_
                refine zg3 (zaddK (i := x_3.toInt) (j := (-1)) (a' := (-401)) (b' := 399) rfl (by decide) i6.1 i6.2 (Int.le_refl _) (Int.le_refl _) (by decide)) (fun x_44 hx_44 => ?_)
                refine lv_istore_n (lv' := [(2, .int x_44), (3, .int 1), (0, .ref o), (1, .int tp), (4, .int x_5)]) hx hb dX12_heard_72 rfl hl (by decide) rfl (fun ls hl => ?_)
                refine ziinc3 (n' := 1) (a' := 1) (b' := 400) (lv' := fun v9 => [(4, .int v9), (2, .int x_44), (3, .int 1), (0, .ref o), (1, .int tp)]) hx hb dX12_heard_73 hl (k := 4) rfl (by decide) (fun _ => rfl) (zaddK (i := x_5.toInt) (j := 1) rfl (by decide) i8.1 n21 (Int.le_refl _) (Int.le_refl _) (by decide)) (fun x_45 ls hx_45 hl => ?_)
                refine lv_goto (tgt := 27) hx hb dX12_heard_76 (by decide) ?_
                have hl := lv_sub (l' := [(0, .ref o), (1, .int tp), (2, .int x_44), (3, .int 1), (4, .int x_45)]) hl [3, 4, 1, 2, 0] rfl
                have hL1 : (1 : Int32).toInt = 1 := by decide
                have hP : va_P g.1 vwCl (List.flatten [bMo g o a th hi ac 0 ba en tA fl de iD iO tU fm fk fa fc ft ff fb fi]) H := hP
                have hD : va_D A (List.flatten [bMo g o a th hi ac 0 ba en tA fl de iD iO tU fm fk fa fc ft ff fb fi]) := hD
                exact ih27_13 x_44 1 x_45 (by first | omega | assumption | decide) (by decide) ⟨(Int.le_trans (by decide) hx_45.2.1), hx_45.2.2⟩ (by first | omega | assumption | decide) (by first | omega | assumption | decide) (by first | omega | assumption | decide) H _ ls (zmK hx_45.1 (by decide) n21 (by decide) hk27_13)  hP hD hS (lv_sub hl [0, 1, 2, 3, 4] rfl)
              · skip
                have c46 : x_42.toInt = 1 := zeq cb9 rfl (by decide)
                have n47 : 1 ≤ x_42.toInt := Int.le_trans (Int.le_refl _) (Int.le_of_eq c46.symm)
                have n48 : x_42.toInt ≤ 1 := Int.le_trans (Int.le_of_eq c46) (Int.le_refl _)
                refine lv_iconst (v := 1) hx hb dX12_heard_66 (by decide) ?_
                refine lv_goto (tgt := 71) hx hb dX12_heard_67 (by decide) ?_
                refine lv_iadd hx hb dX12_heard_71 ?_
                refine zg3 (zaddK (i := x_3.toInt) (j := 1) (a' := (-399)) (b' := 401) rfl (by decide) i6.1 i6.2 (Int.le_refl _) (Int.le_refl _) (by decide)) (fun x_49 hx_49 => ?_)
                refine lv_istore_n (lv' := [(2, .int x_49), (3, .int 1), (0, .ref o), (1, .int tp), (4, .int x_5)]) hx hb dX12_heard_72 rfl hl (by decide) rfl (fun ls hl => ?_)
                refine ziinc3 (n' := 1) (a' := 1) (b' := 400) (lv' := fun v9 => [(4, .int v9), (2, .int x_49), (3, .int 1), (0, .ref o), (1, .int tp)]) hx hb dX12_heard_73 hl (k := 4) rfl (by decide) (fun _ => rfl) (zaddK (i := x_5.toInt) (j := 1) rfl (by decide) i8.1 n21 (Int.le_refl _) (Int.le_refl _) (by decide)) (fun x_50 ls hx_50 hl => ?_)
                refine lv_goto (tgt := 27) hx hb dX12_heard_76 (by decide) ?_
                have hl := lv_sub (l' := [(0, .ref o), (1, .int tp), (2, .int x_49), (3, .int 1), (4, .int x_50)]) hl [3, 4, 1, 2, 0] rfl
                have hL1 : (1 : Int32).toInt = 1 := by decide
                have hP : va_P g.1 vwCl (List.flatten [bMo g o a th hi ac 0 ba en tA fl de iD iO tU fm fk fa fc ft ff fb fi]) H := hP
                have hD : va_D A (List.flatten [bMo g o a th hi ac 0 ba en tA fl de iD iO tU fm fk fa fc ft ff fb fi]) := hD
                exact ih27_13 x_49 1 x_50 (by first | omega | assumption | decide) (by decide) ⟨(Int.le_trans (by decide) hx_50.2.1), hx_50.2.2⟩ (by first | omega | assumption | decide) (by first | omega | assumption | decide) (by first | omega | assumption | decide) H _ ls (zmK hx_50.1 (by decide) n21 (by decide) hk27_13)  hP hD hS (lv_sub hl [0, 1, 2, 3, 4] rfl)
    have hL0 : (0 : Int32).toInt = 0 := by decide
    have hP : va_P g.1 vwCl (List.flatten [bMo g o a th hi ac 0 ba en tA fl de iD iO tU fm fk fa fc ft ff fb fi]) H := hP
    have hD : va_D A (List.flatten [bMo g o a th hi ac 0 ba en tA fl de iD iO tU fm fk fa fc ft ff fb fi]) := hD
    exact LP27_12 _ 0 0 0 (by decide) (by decide) (by decide) (by first | omega | assumption | decide) (by first | omega | assumption | decide) (by first | omega | assumption | decide) H _ ls (Nat.lt_succ_self _)  hP hD hS (lv_sub hl [0, 1, 2, 3, 4] rfl)
  · skip
    have c51 : tp.toInt ≤ 12 := zle (Int32.not_lt.mp cb9) rfl (by decide)
    have n52 : tp.toInt ≤ 12 := Int.le_trans c51 (Int.le_refl _)
    refine lv_iconst (v := 1) hx hb dX12_heard_18 (by decide) ?_
    refine lv_goto (tgt := 23) hx hb dX12_heard_19 (by decide) ?_
    refine lv_istore_n (lv' := [(3, .int 1), (2, .int 0), (1, .int tp), (0, .ref o)]) hx hb dX12_heard_23 rfl hl (by decide) rfl (fun ls hl => ?_)
    refine lv_iconst (v := 0) hx hb dX12_heard_24 (by decide) ?_
    refine lv_istore (lv' := [(4, .int 0), (3, .int 1), (2, .int 0), (1, .int tp), (0, .ref o)]) hx hb dX12_heard_25 hl (by decide) rfl (fun ls hl => ?_)
    have hl := lv_sub (l' := [(0, .ref o), (1, .int tp), (2, .int 0), (3, .int 1), (4, .int 0)]) hl [4, 3, 2, 1, 0] rfl
    have LP27_62 : ∀ (kf : Nat) (x_53 : Int32) (x_54 : Int32) (x_55 : Int32), ((-400) ≤ x_53.toInt ∧ x_53.toInt ≤ 400) → (0 ≤ x_54.toInt ∧ x_54.toInt ≤ 1) → (0 ≤ x_55.toInt ∧ x_55.toInt ≤ 400) → ((-(x_55.toInt) ≤ x_53.toInt ∧ x_53.toInt ≤ x_55.toInt)) → (x_54.toInt = 0 ∨ tp.toInt ≤ 12) → (x_55.toInt ≤ tp.toInt) → ∀ (H : Heap) (locs : List Loc) (ls : Array Slot), ((401 - x_55.toInt).toNat) < kf → va_P g.1 vwCl (List.flatten [bMo g o a th hi ac 0 ba en tA fl de iD iO tU fm fk fa fc ft ff fb fi]) H → va_D A (List.flatten [bMo g o a th hi ac 0 ba en tA fl de iD iO tU fm fk fa fc ft ff fb fi]) → va_S A s.heap H locs → lv_has ls 5 [(0, .ref o), (1, .int tp), (2, .int x_53), (3, .int x_54), (4, .int x_55)] → W p l e ({ frames := 0, cells := 0, slots := 0, locals := 0 } : Room) s m args below meth c H locs (0) (0) (zF g (fun (q : Int32) => some (.int q)) (fun (q : Int32) => ((-12 ≤ q.toInt ∧ q.toInt ≤ 12) ∨ q.toInt = 100)) (fun (q : Int32) => [bMo g o a th hi ac 0 ba en tA fl de iD iO tU fm fk fa fc ft ff fb fi]) ({ frames := 0, cells := 0, slots := 0, locals := 0 } : Room) below args s A) (F0 m 27 ls []) := by
      intro kf
      induction kf with
      | zero => intro x_53 x_54 x_55 i56 i57 i58 i59 i60 i61 H locs ls hk; exact absurd hk (Nat.not_lt_zero _)
      | succ kf ih27_63 =>
        intro x_53 x_54 x_55 i56 i57 i58 i59 i60 i61 H locs ls hk27_63 hP hD hS hl
        refine lv_iload hx hb dX12_heard_27 (lv_at hl 4 rfl) ?_
        refine lv_iload_n hx hb dX12_heard_29 rfl (lv_at hl 1 rfl) ?_
        refine lv_icmp_ge (tgt := 79) hx hb dX12_heard_30 (by decide) (fun cb9 => ?_) (fun cb9 => ?_)
        · skip
          have c64 : tp.toInt ≤ x_55.toInt := zle cb9 rfl rfl
          refine lv_iload_n hx hb dX12_heard_79 rfl (lv_at hl 3 rfl) ?_
          refine lv_if_eq (tgt := 87) hx hb dX12_heard_80 (by decide) (fun cb9 => ?_) (fun cb9 => ?_)
          · skip
            have c65 : x_54.toInt = 0 := zeq cb9 rfl (by decide)
            have n66 : x_54.toInt ≤ 0 := Int.le_trans (Int.le_of_eq c65) (Int.le_refl _)
            refine lv_bipush (v := 100) hx hb dX12_heard_87 (by decide) ?_
            have hL100 : (100 : Int32).toInt = 100 := by decide
            have hP : va_P g.1 vwCl (List.flatten [bMo g o a th hi ac 0 ba en tA fl de iD iO tU fm fk fa fc ft ff fb fi]) H := hP
            have hD : va_D A (List.flatten [bMo g o a th hi ac 0 ba en tA fl de iD iO tU fm fk fa fc ft ff fb fi]) := hD
            exact mret_i hx hb hr hlocks hS (Nat.le_of_ble_eq_true rfl) (Nat.le_of_ble_eq_true rfl) dX12_heard_89 ((100 : Int32)) rfl (show ((-12 ≤ (100 : Int32).toInt ∧ (100 : Int32).toInt ≤ 12) ∨ (100 : Int32).toInt = 100) from (by first | assumption | omega | decide | exact rfl | exact zb01 (by omega) | exact Or.inl (by decide) | exact Or.inr (by first | omega | decide))) hP hD
          · skip
            have c67 : ¬ x_54.toInt = 0 := zne cb9 rfl (by decide)
            have n68 : 1 ≤ x_54.toInt := zN1 c67 i57.1 (by decide)
            refine lv_iload_n hx hb dX12_heard_83 rfl (lv_at hl 2 rfl) ?_
            refine lv_goto (tgt := 89) hx hb dX12_heard_84 (by decide) ?_
            have hP : va_P g.1 vwCl (List.flatten [bMo g o a th hi ac 0 ba en tA fl de iD iO tU fm fk fa fc ft ff fb fi]) H := hP
            have hD : va_D A (List.flatten [bMo g o a th hi ac 0 ba en tA fl de iD iO tU fm fk fa fc ft ff fb fi]) := hD
            exact mret_i hx hb hr hlocks hS (Nat.le_of_ble_eq_true rfl) (Nat.le_of_ble_eq_true rfl) dX12_heard_89 (x_53) rfl (show ((-12 ≤ x_53.toInt ∧ x_53.toInt ≤ 12) ∨ x_53.toInt = 100) from (by first | assumption | omega | decide | exact rfl | exact zb01 (by omega) | exact Or.inl (by decide) | exact Or.inr (by first | omega | decide))) hP hD
        · skip
          have c69 : x_55.toInt < tp.toInt := zlti (Int32.not_le.mp cb9) rfl rfl
          have n70 : x_55.toInt ≤ 11 := zL1 (b := 12) c69 n52 (by decide)
          have n71 : 1 ≤ tp.toInt := zL2 (a := 0) c69 i58.1 (by decide)
          refine lv_iload_n hx hb dX12_heard_33 rfl (lv_at hl 3 rfl) ?_
          refine lv_if_eq (tgt := 79) hx hb dX12_heard_34 (by decide) (fun cb9 => ?_) (fun cb9 => ?_)
          · skip
            have c72 : x_54.toInt = 0 := zeq cb9 rfl (by decide)
            have n73 : x_54.toInt ≤ 0 := Int.le_trans (Int.le_of_eq c72) (Int.le_refl _)
            refine lv_iload_n hx hb dX12_heard_79 rfl (lv_at hl 3 rfl) ?_
            refine lv_if_eq (tgt := 87) hx hb dX12_heard_80 (by decide) (fun cb9 => ?_) (fun cb9 => ?_)
            · skip
              have c74 : x_54.toInt = 0 := zeq cb9 rfl (by decide)
              refine lv_bipush (v := 100) hx hb dX12_heard_87 (by decide) ?_
              have hL100 : (100 : Int32).toInt = 100 := by decide
              have hP : va_P g.1 vwCl (List.flatten [bMo g o a th hi ac 0 ba en tA fl de iD iO tU fm fk fa fc ft ff fb fi]) H := hP
              have hD : va_D A (List.flatten [bMo g o a th hi ac 0 ba en tA fl de iD iO tU fm fk fa fc ft ff fb fi]) := hD
              exact mret_i hx hb hr hlocks hS (Nat.le_of_ble_eq_true rfl) (Nat.le_of_ble_eq_true rfl) dX12_heard_89 ((100 : Int32)) rfl (show ((-12 ≤ (100 : Int32).toInt ∧ (100 : Int32).toInt ≤ 12) ∨ (100 : Int32).toInt = 100) from (by first | assumption | omega | decide | exact rfl | exact zb01 (by omega) | exact Or.inl (by decide) | exact Or.inr (by first | omega | decide))) hP hD
            · skip
              exact absurd (show ¬ x_54.toInt = 0 from zne cb9 rfl (by decide)) (by omega)
          · skip
            have c76 : ¬ x_54.toInt = 0 := zne cb9 rfl (by decide)
            have n77 : 1 ≤ x_54.toInt := zN1 c76 i57.1 (by decide)
            refine lv_aload_n hx hb dX12_heard_37 rfl (lv_at hl 0 rfl) ?_
            refine va_get (D := g.1) (ci := 10) (v := .ref (a 4)) (C := RX12) (T := TX12) (N := 20) hx hb hts izRX12 hown hK hP 0 rfl rfl 7 (by decide) (hts _ k819) (fun _ h9 => h9) rfl dX12_heard_38 ?_
            refine lv_iload hx hb dX12_heard_41 (lv_at hl 4 rfl) ?_
            refine va_iald hx hb hK hP 5 0 rfl rfl (zinK (a := 0) (b := 11) i58.1 n70 (by decide)) dX12_heard_43 ?_
            refine zg (fun x_78 => ?_)
            refine lv_iconst (v := 2) hx hb dX12_heard_44 (by decide) ?_
            refine lv_icmp_ge (tgt := 52) hx hb dX12_heard_45 (by decide) (fun cb9 => ?_) (fun cb9 => ?_)
            · skip
              have c79 : 2 ≤ x_78.toInt := zle cb9 (by decide) rfl
              have n80 : 2 ≤ x_78.toInt := Int.le_trans (Int.le_refl _) c79
              refine lv_iconst (v := 0) hx hb dX12_heard_52 (by decide) ?_
              refine lv_istore_n (lv' := [(3, .int 0), (0, .ref o), (1, .int tp), (2, .int x_53), (4, .int x_55)]) hx hb dX12_heard_53 rfl hl (by decide) rfl (fun ls hl => ?_)
              refine lv_iload_n hx hb dX12_heard_54 rfl (lv_at hl 3 rfl) ?_
              refine lv_aload_n hx hb dX12_heard_55 rfl (lv_at hl 1 rfl) ?_
              refine va_get (D := g.1) (ci := 10) (v := .ref (a 4)) (C := RX12) (T := TX12) (N := 20) hx hb hts izRX12 hown hK hP 0 rfl rfl 7 (by decide) (hts _ k819) (fun _ h9 => h9) rfl dX12_heard_56 ?_
              refine lv_iload hx hb dX12_heard_59 (lv_at hl 4 rfl) ?_
              refine va_iald hx hb hK hP 5 0 rfl rfl (zinK (a := 0) (b := 11) i58.1 n70 (by decide)) dX12_heard_61 ?_
              refine zg (fun x_81 => ?_)
              refine lv_iconst (v := 1) hx hb dX12_heard_62 (by decide) ?_
              refine lv_icmp_ne (tgt := 70) hx hb dX12_heard_63 (by decide) (fun cb9 => ?_) (fun cb9 => ?_)
              · skip
                have c82 : ¬ x_81.toInt = 1 := zne cb9 rfl (by decide)
                refine lv_iconst (v := (-1)) hx hb dX12_heard_70 (by decide) ?_
                refine lv_iadd hx hb dX12_heard_71 ?_
                refine zg3 (zaddK (i := x_53.toInt) (j := (-1)) (a' := (-401)) (b' := 399) rfl (by decide) i56.1 i56.2 (Int.le_refl _) (Int.le_refl _) (by decide)) (fun x_83 hx_83 => ?_)
                refine lv_istore_n (lv' := [(2, .int x_83), (3, .int 0), (0, .ref o), (1, .int tp), (4, .int x_55)]) hx hb dX12_heard_72 rfl hl (by decide) rfl (fun ls hl => ?_)
                refine ziinc3 (n' := 1) (a' := 1) (b' := 12) (lv' := fun v9 => [(4, .int v9), (2, .int x_83), (3, .int 0), (0, .ref o), (1, .int tp)]) hx hb dX12_heard_73 hl (k := 4) rfl (by decide) (fun _ => rfl) (zaddK (i := x_55.toInt) (j := 1) rfl (by decide) i58.1 n70 (Int.le_refl _) (Int.le_refl _) (by decide)) (fun x_84 ls hx_84 hl => ?_)
                refine lv_goto (tgt := 27) hx hb dX12_heard_76 (by decide) ?_
                have hl := lv_sub (l' := [(0, .ref o), (1, .int tp), (2, .int x_83), (3, .int 0), (4, .int x_84)]) hl [3, 4, 1, 2, 0] rfl
                have hL0 : (0 : Int32).toInt = 0 := by decide
                have hP : va_P g.1 vwCl (List.flatten [bMo g o a th hi ac 0 ba en tA fl de iD iO tU fm fk fa fc ft ff fb fi]) H := hP
                have hD : va_D A (List.flatten [bMo g o a th hi ac 0 ba en tA fl de iD iO tU fm fk fa fc ft ff fb fi]) := hD
                exact ih27_63 x_83 0 x_84 (by first | omega | assumption | decide) (by decide) ⟨(Int.le_trans (by decide) hx_84.2.1), (Int.le_trans hx_84.2.2 (by decide))⟩ (by first | omega | assumption | decide) (by first | omega | assumption | decide) (by first | omega | assumption | decide) H _ ls (zmK hx_84.1 (by decide) n70 (by decide) hk27_63)  hP hD hS (lv_sub hl [0, 1, 2, 3, 4] rfl)
              · skip
                have c85 : x_81.toInt = 1 := zeq cb9 rfl (by decide)
                have n86 : 1 ≤ x_81.toInt := Int.le_trans (Int.le_refl _) (Int.le_of_eq c85.symm)
                have n87 : x_81.toInt ≤ 1 := Int.le_trans (Int.le_of_eq c85) (Int.le_refl _)
                refine lv_iconst (v := 1) hx hb dX12_heard_66 (by decide) ?_
                refine lv_goto (tgt := 71) hx hb dX12_heard_67 (by decide) ?_
                refine lv_iadd hx hb dX12_heard_71 ?_
                refine zg3 (zaddK (i := x_53.toInt) (j := 1) (a' := (-399)) (b' := 401) rfl (by decide) i56.1 i56.2 (Int.le_refl _) (Int.le_refl _) (by decide)) (fun x_88 hx_88 => ?_)
                refine lv_istore_n (lv' := [(2, .int x_88), (3, .int 0), (0, .ref o), (1, .int tp), (4, .int x_55)]) hx hb dX12_heard_72 rfl hl (by decide) rfl (fun ls hl => ?_)
                refine ziinc3 (n' := 1) (a' := 1) (b' := 12) (lv' := fun v9 => [(4, .int v9), (2, .int x_88), (3, .int 0), (0, .ref o), (1, .int tp)]) hx hb dX12_heard_73 hl (k := 4) rfl (by decide) (fun _ => rfl) (zaddK (i := x_55.toInt) (j := 1) rfl (by decide) i58.1 n70 (Int.le_refl _) (Int.le_refl _) (by decide)) (fun x_89 ls hx_89 hl => ?_)
                refine lv_goto (tgt := 27) hx hb dX12_heard_76 (by decide) ?_
                have hl := lv_sub (l' := [(0, .ref o), (1, .int tp), (2, .int x_88), (3, .int 0), (4, .int x_89)]) hl [3, 4, 1, 2, 0] rfl
                have hL0 : (0 : Int32).toInt = 0 := by decide
                have hP : va_P g.1 vwCl (List.flatten [bMo g o a th hi ac 0 ba en tA fl de iD iO tU fm fk fa fc ft ff fb fi]) H := hP
                have hD : va_D A (List.flatten [bMo g o a th hi ac 0 ba en tA fl de iD iO tU fm fk fa fc ft ff fb fi]) := hD
                exact ih27_63 x_88 0 x_89 (by first | omega | assumption | decide) (by decide) ⟨(Int.le_trans (by decide) hx_89.2.1), (Int.le_trans hx_89.2.2 (by decide))⟩ (by first | omega | assumption | decide) (by first | omega | assumption | decide) (by first | omega | assumption | decide) H _ ls (zmK hx_89.1 (by decide) n70 (by decide) hk27_63)  hP hD hS (lv_sub hl [0, 1, 2, 3, 4] rfl)
            · skip
              have c90 : x_78.toInt < 2 := zlti (Int32.not_le.mp cb9) rfl (by decide)
              have n91 : x_78.toInt ≤ 1 := zL1 (b := 2) c90 (Int.le_refl _) (by decide)
              refine lv_iconst (v := 1) hx hb dX12_heard_48 (by decide) ?_
              refine lv_goto (tgt := 53) hx hb dX12_heard_49 (by decide) ?_
              refine lv_istore_n (lv' := [(3, .int 1), (0, .ref o), (1, .int tp), (2, .int x_53), (4, .int x_55)]) hx hb dX12_heard_53 rfl hl (by decide) rfl (fun ls hl => ?_)
              refine lv_iload_n hx hb dX12_heard_54 rfl (lv_at hl 3 rfl) ?_
              refine lv_aload_n hx hb dX12_heard_55 rfl (lv_at hl 1 rfl) ?_
              refine va_get (D := g.1) (ci := 10) (v := .ref (a 4)) (C := RX12) (T := TX12) (N := 20) hx hb hts izRX12 hown hK hP 0 rfl rfl 7 (by decide) (hts _ k819) (fun _ h9 => h9) rfl dX12_heard_56 ?_
              refine lv_iload hx hb dX12_heard_59 (lv_at hl 4 rfl) ?_
              refine va_iald hx hb hK hP 5 0 rfl rfl (zinK (a := 0) (b := 11) i58.1 n70 (by decide)) dX12_heard_61 ?_
              refine zg (fun x_92 => ?_)
              refine lv_iconst (v := 1) hx hb dX12_heard_62 (by decide) ?_
              refine lv_icmp_ne (tgt := 70) hx hb dX12_heard_63 (by decide) (fun cb9 => ?_) (fun cb9 => ?_)
              · skip
                have c93 : ¬ x_92.toInt = 1 := zne cb9 rfl (by decide)
                refine lv_iconst (v := (-1)) hx hb dX12_heard_70 (by decide) ?_
                refine lv_iadd hx hb dX12_heard_71 ?_
                refine zg3 (zaddK (i := x_53.toInt) (j := (-1)) (a' := (-401)) (b' := 399) rfl (by decide) i56.1 i56.2 (Int.le_refl _) (Int.le_refl _) (by decide)) (fun x_94 hx_94 => ?_)
                refine lv_istore_n (lv' := [(2, .int x_94), (3, .int 1), (0, .ref o), (1, .int tp), (4, .int x_55)]) hx hb dX12_heard_72 rfl hl (by decide) rfl (fun ls hl => ?_)
                refine ziinc3 (n' := 1) (a' := 1) (b' := 12) (lv' := fun v9 => [(4, .int v9), (2, .int x_94), (3, .int 1), (0, .ref o), (1, .int tp)]) hx hb dX12_heard_73 hl (k := 4) rfl (by decide) (fun _ => rfl) (zaddK (i := x_55.toInt) (j := 1) rfl (by decide) i58.1 n70 (Int.le_refl _) (Int.le_refl _) (by decide)) (fun x_95 ls hx_95 hl => ?_)
                refine lv_goto (tgt := 27) hx hb dX12_heard_76 (by decide) ?_
                have hl := lv_sub (l' := [(0, .ref o), (1, .int tp), (2, .int x_94), (3, .int 1), (4, .int x_95)]) hl [3, 4, 1, 2, 0] rfl
                have hL1 : (1 : Int32).toInt = 1 := by decide
                have hP : va_P g.1 vwCl (List.flatten [bMo g o a th hi ac 0 ba en tA fl de iD iO tU fm fk fa fc ft ff fb fi]) H := hP
                have hD : va_D A (List.flatten [bMo g o a th hi ac 0 ba en tA fl de iD iO tU fm fk fa fc ft ff fb fi]) := hD
                exact ih27_63 x_94 1 x_95 (by first | omega | assumption | decide) (by decide) ⟨(Int.le_trans (by decide) hx_95.2.1), (Int.le_trans hx_95.2.2 (by decide))⟩ (by first | omega | assumption | decide) (by first | omega | assumption | decide) (by first | omega | assumption | decide) H _ ls (zmK hx_95.1 (by decide) n70 (by decide) hk27_63)  hP hD hS (lv_sub hl [0, 1, 2, 3, 4] rfl)
              · skip
                have c96 : x_92.toInt = 1 := zeq cb9 rfl (by decide)
                have n97 : 1 ≤ x_92.toInt := Int.le_trans (Int.le_refl _) (Int.le_of_eq c96.symm)
                have n98 : x_92.toInt ≤ 1 := Int.le_trans (Int.le_of_eq c96) (Int.le_refl _)
                refine lv_iconst (v := 1) hx hb dX12_heard_66 (by decide) ?_
                refine lv_goto (tgt := 71) hx hb dX12_heard_67 (by decide) ?_
                refine lv_iadd hx hb dX12_heard_71 ?_
                refine zg3 (zaddK (i := x_53.toInt) (j := 1) (a' := (-399)) (b' := 401) rfl (by decide) i56.1 i56.2 (Int.le_refl _) (Int.le_refl _) (by decide)) (fun x_99 hx_99 => ?_)
                refine lv_istore_n (lv' := [(2, .int x_99), (3, .int 1), (0, .ref o), (1, .int tp), (4, .int x_55)]) hx hb dX12_heard_72 rfl hl (by decide) rfl (fun ls hl => ?_)
                refine ziinc3 (n' := 1) (a' := 1) (b' := 12) (lv' := fun v9 => [(4, .int v9), (2, .int x_99), (3, .int 1), (0, .ref o), (1, .int tp)]) hx hb dX12_heard_73 hl (k := 4) rfl (by decide) (fun _ => rfl) (zaddK (i := x_55.toInt) (j := 1) rfl (by decide) i58.1 n70 (Int.le_refl _) (Int.le_refl _) (by decide)) (fun x_100 ls hx_100 hl => ?_)
                refine lv_goto (tgt := 27) hx hb dX12_heard_76 (by decide) ?_
                have hl := lv_sub (l' := [(0, .ref o), (1, .int tp), (2, .int x_99), (3, .int 1), (4, .int x_100)]) hl [3, 4, 1, 2, 0] rfl
                have hL1 : (1 : Int32).toInt = 1 := by decide
                have hP : va_P g.1 vwCl (List.flatten [bMo g o a th hi ac 0 ba en tA fl de iD iO tU fm fk fa fc ft ff fb fi]) H := hP
                have hD : va_D A (List.flatten [bMo g o a th hi ac 0 ba en tA fl de iD iO tU fm fk fa fc ft ff fb fi]) := hD
                exact ih27_63 x_99 1 x_100 (by first | omega | assumption | decide) (by decide) ⟨(Int.le_trans (by decide) hx_100.2.1), (Int.le_trans hx_100.2.2 (by decide))⟩ (by first | omega | assumption | decide) (by first | omega | assumption | decide) (by first | omega | assumption | decide) H _ ls (zmK hx_100.1 (by decide) n70 (by decide) hk27_63)  hP hD hS (lv_sub hl [0, 1, 2, 3, 4] rfl)
    have hL0 : (0 : Int32).toInt = 0 := by decide
    have hL1 : (1 : Int32).toInt = 1 := by decide
    have hP : va_P g.1 vwCl (List.flatten [bMo g o a th hi ac 0 ba en tA fl de iD iO tU fm fk fa fc ft ff fb fi]) H := hP
    have hD : va_D A (List.flatten [bMo g o a th hi ac 0 ba en tA fl de iD iO tU fm fk fa fc ft ff fb fi]) := hD
    exact LP27_62 _ 0 1 0 (by decide) (by decide) (by decide) (by first | omega | assumption | decide) (by first | omega | assumption | decide) (by first | omega | assumption | decide) H _ ls (Nat.lt_succ_self _)  hP hD hS (lv_sub hl [0, 1, 2, 3, 4] rfl)
