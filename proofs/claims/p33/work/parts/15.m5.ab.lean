set_option maxRecDepth 100000 in
set_option maxHeartbeats 4000000 in
theorem m_richest (l : Launch) (g : zG) (o : Nat) (a : Nat → Nat) (th : Int32) (hi : Int32) (ac : Int32) (tp : Int32) (ba : Int32) (en : Int32) (tA : Int32) (fl : Int32) (de : Int32) (iD : Int32) (iO : Int32) (tU : Int32) (fm : Nat → Int32) (fk : Nat → Int32) (fa : Nat → Int32) (fc : Nat → Int32) (ft : Nat → Int32) (ff : Nat → Int32) (fb : Nat → Int32) (fi : Nat → Int32) (rfm : rM fm) : zM' g l yX12_richest (Cond.code yX12_richest cX12_richest 3 (some .int) :: zB) ({ frames := 6, cells := 0, slots := 0, locals := 127 } : Room) [.ref o] [bMo g o a th hi ac tp ba en tA fl de iD iO tU fm fk fa fc ft ff fb fi] (fun u : Int32 × Int32 => (fun (th2 : Int32) (q : Int32) => some (.int q)) (u.1) (u.2)) (fun u : Int32 × Int32 => (fun (th2 : Int32) (q : Int32) => True) (u.1) (u.2)) (fun u : Int32 × Int32 => (fun (th2 : Int32) (q : Int32) => [bMo g o a th2 hi ac tp ba en tA fl de iD iO tU fm fk fa fc ft ff fb fi]) (u.1) (u.2)) := by
  refine zM'.of (cc := cX12_richest) (maxL := 3) (rt := (some .int)) (by decide) rfl (Nat.le_of_ble_eq_true rfl) ?_
  intro p e s m args below meth c A ls St hr hlocks hin hK hT hA hP hD hS hl
  obtain ⟨hx, hb, hml, hown, hts⟩ := id St
  have hl : lv_has ls 3 [(0, .ref o)] := hl
  refine lv_aload_n hx hb dX12_richest_0 rfl (lv_at hl 0 rfl) ?_
  refine lv_iconst (v := 0) hx hb dX12_richest_1 (by decide) ?_
  refine va_put (D := g.1) (ci := 10) (v := .int 0) (ty := .int) (C := RX12) (T := TX12) (N := 20) hx hb hts izRX12 tyX12 tyX12_ok nmX12 hown hK hP hD hS 0 rfl rfl 0 (by decide) (hts _ k825) (fun _ h9 => h9) rfl (by decide +kernel) rfl rfl (Nat.le_of_ble_eq_true rfl) dX12_richest_2 (fun H locs hP hD hS => ?_)
  have hP : va_P g.1 vwCl (List.flatten [bMo g o a 0 hi ac tp ba en tA fl de iD iO tU fm fk fa fc ft ff fb fi]) H := hP
  have hD : va_D A (List.flatten [bMo g o a 0 hi ac tp ba en tA fl de iD iO tU fm fk fa fc ft ff fb fi]) := hD
  refine lv_iconst (v := (-1)) hx hb dX12_richest_5 (by decide) ?_
  refine lv_istore_n (lv' := [(1, .int (-1)), (0, .ref o)]) hx hb dX12_richest_6 rfl hl (by decide) rfl (fun ls hl => ?_)
  refine lv_iconst (v := 0) hx hb dX12_richest_7 (by decide) ?_
  refine lv_istore_n (lv' := [(2, .int 0), (1, .int (-1)), (0, .ref o)]) hx hb dX12_richest_8 rfl hl (by decide) rfl (fun ls hl => ?_)
  have hl := lv_sub (l' := [(0, .ref o), (1, .int (-1)), (2, .int 0)]) hl [2, 1, 0] rfl
  have LP9_5 : ∀ (kf : Nat) (x_1 : Int32) (x_2 : Int32), ((-1) ≤ x_1.toInt ∧ x_1.toInt ≤ 7) → (0 ≤ x_2.toInt ∧ x_2.toInt ≤ 8) → ∀ (H : Heap) (locs : List Loc) (ls : Array Slot), ((9 - x_2.toInt).toNat) < kf → va_P g.1 vwCl (List.flatten [bMo g o a 0 hi ac tp ba en tA fl de iD iO tU fm fk fa fc ft ff fb fi]) H → va_D A (List.flatten [bMo g o a 0 hi ac tp ba en tA fl de iD iO tU fm fk fa fc ft ff fb fi]) → va_S A s.heap H locs → lv_has ls 3 [(0, .ref o), (1, .int x_1), (2, .int x_2)] → W p l e ({ frames := 6, cells := 0, slots := 0, locals := 127 } : Room) s m args below meth c H locs (0) (0) (zF g (fun u : Int32 × Int32 => (fun (th2 : Int32) (q : Int32) => some (.int q)) (u.1) (u.2)) (fun u : Int32 × Int32 => (fun (th2 : Int32) (q : Int32) => True) (u.1) (u.2)) (fun u : Int32 × Int32 => (fun (th2 : Int32) (q : Int32) => [bMo g o a th2 hi ac tp ba en tA fl de iD iO tU fm fk fa fc ft ff fb fi]) (u.1) (u.2)) ({ frames := 6, cells := 0, slots := 0, locals := 127 } : Room) below args s A) (F0 m 9 ls []) := by
    intro kf
    induction kf with
    | zero => intro x_1 x_2 i3 i4 H locs ls hk; exact absurd hk (Nat.not_lt_zero _)
    | succ kf ih9_6 =>
      intro x_1 x_2 i3 i4 H locs ls hk9_6 hP hD hS hl
      refine lv_iload_n hx hb dX12_richest_9 rfl (lv_at hl 2 rfl) ?_
      refine lv_aload_n hx hb dX12_richest_10 rfl (lv_at hl 0 rfl) ?_
      refine va_get (D := g.1) (ci := 10) (v := .ref (a 0)) (C := RX12) (T := TX12) (N := 20) hx hb hts izRX12 hown hK hP 0 rfl rfl 1 (by decide) (hts _ k815) (fun _ h9 => h9) rfl dX12_richest_11 ?_
      refine lv_iconst (v := 3) hx hb dX12_richest_14 (by decide) ?_
      refine va_iald hx hb hK hP 1 0 rfl rfl (zin rfl) dX12_richest_15 ?_
      refine zgq (r := fm 3) rfl (rM3 rfm) (fun x_7 hx_7 => ?_)
      refine lv_icmp_ge (tgt := 45) hx hb dX12_richest_16 (by decide) (fun cb9 => ?_) (fun cb9 => ?_)
      · skip
        have c8 : x_7.toInt ≤ x_2.toInt := zle cb9 rfl rfl
        refine lv_iload_n hx hb dX12_richest_45 rfl (lv_at hl 1 rfl) ?_
        have hP : va_P g.1 vwCl (List.flatten [bMo g o a 0 hi ac tp ba en tA fl de iD iO tU fm fk fa fc ft ff fb fi]) H := hP
        have hD : va_D A (List.flatten [bMo g o a 0 hi ac tp ba en tA fl de iD iO tU fm fk fa fc ft ff fb fi]) := hD
        exact mret_i hx hb hr hlocks hS (Nat.le_of_ble_eq_true rfl) (Nat.le_of_ble_eq_true rfl) dX12_richest_46 ((0 : Int32), x_1) rfl trivial hP hD
      · skip
        have c9 : x_2.toInt < x_7.toInt := zlti (Int32.not_le.mp cb9) rfl rfl
        have n10 : x_2.toInt ≤ 7 := zL1 (b := 8) c9 hx_7.2.1 (by decide)
        have n11 : 1 ≤ x_7.toInt := zL2 (a := 0) c9 i4.1 (by decide)
        refine lv_iload_n hx hb dX12_richest_19 rfl (lv_at hl 1 rfl) ?_
        refine lv_iconst (v := (-1)) hx hb dX12_richest_20 (by decide) ?_
        refine lv_icmp_eq (tgt := 37) hx hb dX12_richest_21 (by decide) (fun cb9 => ?_) (fun cb9 => ?_)
        · skip
          have c12 : x_1.toInt = (-1) := zeq cb9 rfl (by decide)
          have n13 : x_1.toInt ≤ (-1) := Int.le_trans (Int.le_of_eq c12) (Int.le_refl _)
          refine lv_iload_n hx hb dX12_richest_37 rfl (lv_at hl 2 rfl) ?_
          refine lv_istore_n (lv' := [(1, .int x_2), (0, .ref o), (2, .int x_2)]) hx hb dX12_richest_38 rfl hl (by decide) rfl (fun ls hl => ?_)
          refine ziinc3 (n' := 1) (a' := 1) (b' := 8) (lv' := fun v9 => [(2, .int v9), (1, .int x_2), (0, .ref o)]) hx hb dX12_richest_39 hl (k := 2) rfl (by decide) (fun _ => rfl) (zaddK (i := x_2.toInt) (j := 1) rfl (by decide) i4.1 n10 (Int.le_refl _) (Int.le_refl _) (by decide)) (fun x_14 ls hx_14 hl => ?_)
          refine lv_goto (tgt := 9) hx hb dX12_richest_42 (by decide) ?_
          have hl := lv_sub (l' := [(0, .ref o), (1, .int x_2), (2, .int x_14)]) hl [2, 1, 0] rfl
          have hP : va_P g.1 vwCl (List.flatten [bMo g o a 0 hi ac tp ba en tA fl de iD iO tU fm fk fa fc ft ff fb fi]) H := hP
          have hD : va_D A (List.flatten [bMo g o a 0 hi ac tp ba en tA fl de iD iO tU fm fk fa fc ft ff fb fi]) := hD
          exact ih9_6 x_2 x_14 ⟨(Int.le_trans (by decide) i4.1), n10⟩ ⟨(Int.le_trans (by decide) hx_14.2.1), hx_14.2.2⟩ H _ ls (zmK hx_14.1 (by decide) n10 (by decide) hk9_6)  hP hD hS (lv_sub hl [0, 1, 2] rfl)
        · skip
          have c15 : ¬ x_1.toInt = (-1) := zne cb9 rfl (by decide)
          have n16 : 0 ≤ x_1.toInt := zN1 c15 i3.1 (by decide)
          refine lv_aload_n hx hb dX12_richest_24 rfl (lv_at hl 0 rfl) ?_
          refine lv_iload_n hx hb dX12_richest_25 rfl (lv_at hl 2 rfl) ?_
          refine mcallV' (g := g) (q0 := 0) (ci := 10) (As := [.int x_2]) (rest := []) St hK hT hA hP hD hS hl.1 [0] [] rfl rfl rfl (m_worth l g o a 0 hi ac tp ba en tA fl de iD iO tU fm fk fa fc ft ff fb fi x_2 rfm (⟨i4.1, n10⟩)) (cwV 1 hts (zgL (zl4 k1036 k1037 k1038 k839) k1032) rfl rfl rfl (by decide +kernel) ⟨Nat.le_of_ble_eq_true rfl, Nat.le_of_ble_eq_true rfl⟩) rfl rfl rfl rfl (Nat.le_of_ble_eq_true rfl) dX12_richest_26 ⟨(Nat.le_of_ble_eq_true rfl), (Nat.le_of_ble_eq_true rfl)⟩ (fun q_17 H locs hq18 hP hD hS => ?_)
          have hP : va_P g.1 vwCl (List.flatten [bMo g o a 0 hi ac tp ba en tA fl de iD iO tU fm fk fa fc ft ff fb fi]) H := hP
          have hD : va_D A (List.flatten [bMo g o a 0 hi ac tp ba en tA fl de iD iO tU fm fk fa fc ft ff fb fi]) := hD
          refine W.widen (k := 0) (n := 0) (Nat.le_of_ble_eq_true rfl) (Nat.le_of_ble_eq_true rfl) ?_
          refine W.eq (g2 := F0 m 29 ls [.int q_17]) rfl ?_
          refine lv_aload_n hx hb dX12_richest_29 rfl (lv_at hl 0 rfl) ?_
          refine lv_iload_n hx hb dX12_richest_30 rfl (lv_at hl 1 rfl) ?_
          refine mcallV' (g := g) (q0 := 0) (ci := 10) (As := [.int x_1]) (rest := [.int q_17]) St hK hT hA hP hD hS hl.1 [0] [] rfl rfl rfl (m_worth l g o a 0 hi ac tp ba en tA fl de iD iO tU fm fk fa fc ft ff fb fi x_1 rfm (⟨n16, i3.2⟩)) (cwV 1 hts (zgL (zl4 k1036 k1037 k1038 k839) k1032) rfl rfl rfl (by decide +kernel) ⟨Nat.le_of_ble_eq_true rfl, Nat.le_of_ble_eq_true rfl⟩) rfl rfl rfl rfl (Nat.le_of_ble_eq_true rfl) dX12_richest_31 ⟨(Nat.le_of_ble_eq_true rfl), (Nat.le_of_ble_eq_true rfl)⟩ (fun q_19 H locs hq20 hP hD hS => ?_)
          have hP : va_P g.1 vwCl (List.flatten [bMo g o a 0 hi ac tp ba en tA fl de iD iO tU fm fk fa fc ft ff fb fi]) H := hP
          have hD : va_D A (List.flatten [bMo g o a 0 hi ac tp ba en tA fl de iD iO tU fm fk fa fc ft ff fb fi]) := hD
          refine W.widen (k := 0) (n := 0) (Nat.le_of_ble_eq_true rfl) (Nat.le_of_ble_eq_true rfl) ?_
          refine W.eq (g2 := F0 m 34 ls [.int q_19, .int q_17]) rfl ?_
          refine lv_icmp_le (tgt := 39) hx hb dX12_richest_34 (by decide) (fun cb9 => ?_) (fun cb9 => ?_)
          · skip
            have c21 : q_17.toInt ≤ q_19.toInt := zle cb9 rfl rfl
            refine ziinc3 (n' := 1) (a' := 1) (b' := 8) (lv' := fun v9 => [(2, .int v9), (0, .ref o), (1, .int x_1)]) hx hb dX12_richest_39 hl (k := 2) rfl (by decide) (fun _ => rfl) (zaddK (i := x_2.toInt) (j := 1) rfl (by decide) i4.1 n10 (Int.le_refl _) (Int.le_refl _) (by decide)) (fun x_22 ls hx_22 hl => ?_)
            refine lv_goto (tgt := 9) hx hb dX12_richest_42 (by decide) ?_
            have hl := lv_sub (l' := [(0, .ref o), (1, .int x_1), (2, .int x_22)]) hl [1, 2, 0] rfl
            have hP : va_P g.1 vwCl (List.flatten [bMo g o a 0 hi ac tp ba en tA fl de iD iO tU fm fk fa fc ft ff fb fi]) H := hP
            have hD : va_D A (List.flatten [bMo g o a 0 hi ac tp ba en tA fl de iD iO tU fm fk fa fc ft ff fb fi]) := hD
            exact ih9_6 x_1 x_22 ⟨(Int.le_trans (by decide) n16), i3.2⟩ ⟨(Int.le_trans (by decide) hx_22.2.1), hx_22.2.2⟩ H _ ls (zmK hx_22.1 (by decide) n10 (by decide) hk9_6)  hP hD hS (lv_sub hl [0, 1, 2] rfl)
          · skip
            have c23 : q_19.toInt < q_17.toInt := zlti (Int32.not_le.mp cb9) rfl rfl
            refine lv_iload_n hx hb dX12_richest_37 rfl (lv_at hl 2 rfl) ?_
            refine lv_istore_n (lv' := [(1, .int x_2), (0, .ref o), (2, .int x_2)]) hx hb dX12_richest_38 rfl hl (by decide) rfl (fun ls hl => ?_)
            refine ziinc3 (n' := 1) (a' := 1) (b' := 8) (lv' := fun v9 => [(2, .int v9), (1, .int x_2), (0, .ref o)]) hx hb dX12_richest_39 hl (k := 2) rfl (by decide) (fun _ => rfl) (zaddK (i := x_2.toInt) (j := 1) rfl (by decide) i4.1 n10 (Int.le_refl _) (Int.le_refl _) (by decide)) (fun x_24 ls hx_24 hl => ?_)
            refine lv_goto (tgt := 9) hx hb dX12_richest_42 (by decide) ?_
            have hl := lv_sub (l' := [(0, .ref o), (1, .int x_2), (2, .int x_24)]) hl [2, 1, 0] rfl
            have hP : va_P g.1 vwCl (List.flatten [bMo g o a 0 hi ac tp ba en tA fl de iD iO tU fm fk fa fc ft ff fb fi]) H := hP
            have hD : va_D A (List.flatten [bMo g o a 0 hi ac tp ba en tA fl de iD iO tU fm fk fa fc ft ff fb fi]) := hD
            exact ih9_6 x_2 x_24 ⟨(Int.le_trans (by decide) i4.1), n10⟩ ⟨(Int.le_trans (by decide) hx_24.2.1), hx_24.2.2⟩ H _ ls (zmK hx_24.1 (by decide) n10 (by decide) hk9_6)  hP hD hS (lv_sub hl [0, 1, 2] rfl)
  have hP : va_P g.1 vwCl (List.flatten [bMo g o a 0 hi ac tp ba en tA fl de iD iO tU fm fk fa fc ft ff fb fi]) H := hP
  have hD : va_D A (List.flatten [bMo g o a 0 hi ac tp ba en tA fl de iD iO tU fm fk fa fc ft ff fb fi]) := hD
  exact LP9_5 _ (-1) 0 (by decide) (by decide) H _ ls (Nat.lt_succ_self _)  hP hD hS (lv_sub hl [0, 1, 2] rfl)
set_option maxRecDepth 100000 in
set_option maxHeartbeats 4000000 in
theorem m_firmest (l : Launch) (g : zG) (o : Nat) (a : Nat → Nat) (th : Int32) (hi : Int32) (ac : Int32) (tp : Int32) (ba : Int32) (en : Int32) (tA : Int32) (fl : Int32) (de : Int32) (iD : Int32) (iO : Int32) (tU : Int32) (fm : Nat → Int32) (fk : Nat → Int32) (fa : Nat → Int32) (fc : Nat → Int32) (ft : Nat → Int32) (ff : Nat → Int32) (fb : Nat → Int32) (fi : Nat → Int32) (rfm : rM fm) : zM' g l yX12_firmest (Cond.code yX12_firmest cX12_firmest 3 (some .int) :: zB) ({ frames := 2, cells := 0, slots := 0, locals := 43 } : Room) [.ref o] [bMo g o a th hi ac tp ba en tA fl de iD iO tU fm fk fa fc ft ff fb fi] (fun u : Int32 × Int32 => (fun (th2 : Int32) (q : Int32) => some (.int q)) (u.1) (u.2)) (fun u : Int32 × Int32 => (fun (th2 : Int32) (q : Int32) => True) (u.1) (u.2)) (fun u : Int32 × Int32 => (fun (th2 : Int32) (q : Int32) => [bMo g o a th2 hi ac tp ba en tA fl de iD iO tU fm fk fa fc ft ff fb fi]) (u.1) (u.2)) := by
  refine zM'.of (cc := cX12_firmest) (maxL := 3) (rt := (some .int)) (by decide) rfl (Nat.le_of_ble_eq_true rfl) ?_
  intro p e s m args below meth c A ls St hr hlocks hin hK hT hA hP hD hS hl
  obtain ⟨hx, hb, hml, hown, hts⟩ := id St
  have hl : lv_has ls 3 [(0, .ref o)] := hl
  refine lv_aload_n hx hb dX12_firmest_0 rfl (lv_at hl 0 rfl) ?_
  refine lv_iconst (v := 0) hx hb dX12_firmest_1 (by decide) ?_
  refine va_put (D := g.1) (ci := 10) (v := .int 0) (ty := .int) (C := RX12) (T := TX12) (N := 20) hx hb hts izRX12 tyX12 tyX12_ok nmX12 hown hK hP hD hS 0 rfl rfl 0 (by decide) (hts _ k825) (fun _ h9 => h9) rfl (by decide +kernel) rfl rfl (Nat.le_of_ble_eq_true rfl) dX12_firmest_2 (fun H locs hP hD hS => ?_)
  have hP : va_P g.1 vwCl (List.flatten [bMo g o a 0 hi ac tp ba en tA fl de iD iO tU fm fk fa fc ft ff fb fi]) H := hP
  have hD : va_D A (List.flatten [bMo g o a 0 hi ac tp ba en tA fl de iD iO tU fm fk fa fc ft ff fb fi]) := hD
  refine lv_iconst (v := (-1)) hx hb dX12_firmest_5 (by decide) ?_
  refine lv_istore_n (lv' := [(1, .int (-1)), (0, .ref o)]) hx hb dX12_firmest_6 rfl hl (by decide) rfl (fun ls hl => ?_)
  refine lv_iconst (v := 0) hx hb dX12_firmest_7 (by decide) ?_
  refine lv_istore_n (lv' := [(2, .int 0), (1, .int (-1)), (0, .ref o)]) hx hb dX12_firmest_8 rfl hl (by decide) rfl (fun ls hl => ?_)
  have hl := lv_sub (l' := [(0, .ref o), (1, .int (-1)), (2, .int 0)]) hl [2, 1, 0] rfl
  have LP9_5 : ∀ (kf : Nat) (x_1 : Int32) (x_2 : Int32), ((-1) ≤ x_1.toInt ∧ x_1.toInt ≤ 7) → (0 ≤ x_2.toInt ∧ x_2.toInt ≤ 8) → ∀ (H : Heap) (locs : List Loc) (ls : Array Slot), ((9 - x_2.toInt).toNat) < kf → va_P g.1 vwCl (List.flatten [bMo g o a 0 hi ac tp ba en tA fl de iD iO tU fm fk fa fc ft ff fb fi]) H → va_D A (List.flatten [bMo g o a 0 hi ac tp ba en tA fl de iD iO tU fm fk fa fc ft ff fb fi]) → va_S A s.heap H locs → lv_has ls 3 [(0, .ref o), (1, .int x_1), (2, .int x_2)] → W p l e ({ frames := 2, cells := 0, slots := 0, locals := 43 } : Room) s m args below meth c H locs (0) (0) (zF g (fun u : Int32 × Int32 => (fun (th2 : Int32) (q : Int32) => some (.int q)) (u.1) (u.2)) (fun u : Int32 × Int32 => (fun (th2 : Int32) (q : Int32) => True) (u.1) (u.2)) (fun u : Int32 × Int32 => (fun (th2 : Int32) (q : Int32) => [bMo g o a th2 hi ac tp ba en tA fl de iD iO tU fm fk fa fc ft ff fb fi]) (u.1) (u.2)) ({ frames := 2, cells := 0, slots := 0, locals := 43 } : Room) below args s A) (F0 m 9 ls []) := by
    intro kf
    induction kf with
    | zero => intro x_1 x_2 i3 i4 H locs ls hk; exact absurd hk (Nat.not_lt_zero _)
    | succ kf ih9_6 =>
      intro x_1 x_2 i3 i4 H locs ls hk9_6 hP hD hS hl
      refine lv_iload_n hx hb dX12_firmest_9 rfl (lv_at hl 2 rfl) ?_
      refine lv_aload_n hx hb dX12_firmest_10 rfl (lv_at hl 0 rfl) ?_
      refine va_get (D := g.1) (ci := 10) (v := .ref (a 0)) (C := RX12) (T := TX12) (N := 20) hx hb hts izRX12 hown hK hP 0 rfl rfl 1 (by decide) (hts _ k815) (fun _ h9 => h9) rfl dX12_firmest_11 ?_
      refine lv_iconst (v := 3) hx hb dX12_firmest_14 (by decide) ?_
      refine va_iald hx hb hK hP 1 0 rfl rfl (zin rfl) dX12_firmest_15 ?_
      refine zgq (r := fm 3) rfl (rM3 rfm) (fun x_7 hx_7 => ?_)
      refine lv_icmp_ge (tgt := 55) hx hb dX12_firmest_16 (by decide) (fun cb9 => ?_) (fun cb9 => ?_)
      · skip
        have c8 : x_7.toInt ≤ x_2.toInt := zle cb9 rfl rfl
        refine lv_iload_n hx hb dX12_firmest_55 rfl (lv_at hl 1 rfl) ?_
        have hP : va_P g.1 vwCl (List.flatten [bMo g o a 0 hi ac tp ba en tA fl de iD iO tU fm fk fa fc ft ff fb fi]) H := hP
        have hD : va_D A (List.flatten [bMo g o a 0 hi ac tp ba en tA fl de iD iO tU fm fk fa fc ft ff fb fi]) := hD
        exact mret_i hx hb hr hlocks hS (Nat.le_of_ble_eq_true rfl) (Nat.le_of_ble_eq_true rfl) dX12_firmest_56 ((0 : Int32), x_1) rfl trivial hP hD
      · skip
        have c9 : x_2.toInt < x_7.toInt := zlti (Int32.not_le.mp cb9) rfl rfl
        have n10 : x_2.toInt ≤ 7 := zL1 (b := 8) c9 hx_7.2.1 (by decide)
        have n11 : 1 ≤ x_7.toInt := zL2 (a := 0) c9 i4.1 (by decide)
        refine lv_aload_n hx hb dX12_firmest_19 rfl (lv_at hl 0 rfl) ?_
        refine lv_iload_n hx hb dX12_firmest_20 rfl (lv_at hl 2 rfl) ?_
        refine mcallV' (g := g) (q0 := 0) (ci := 10) (As := [.int x_2]) (rest := []) St hK hT hA hP hD hS hl.1 [0] [] rfl rfl rfl (m_isHere l g o a 0 hi ac tp ba en tA fl de iD iO tU fm fk fa fc ft ff fb fi x_2 (⟨i4.1, n10⟩)) (cwV 1 hts (zgL (zl4 k846 k847 k848 k839) k841) rfl rfl rfl (by decide +kernel) ⟨Nat.le_of_ble_eq_true rfl, Nat.le_of_ble_eq_true rfl⟩) rfl rfl rfl rfl (Nat.le_of_ble_eq_true rfl) dX12_firmest_21 ⟨(Nat.le_of_ble_eq_true rfl), (Nat.le_of_ble_eq_true rfl)⟩ (fun q_12 H locs hq13 hP hD hS => ?_)
        replace hq13 : (q_12 = 0 ∨ q_12 = 1) := hq13
        have hP : va_P g.1 vwCl (List.flatten [bMo g o a 0 hi ac tp ba en tA fl de iD iO tU fm fk fa fc ft ff fb fi]) H := hP
        have hD : va_D A (List.flatten [bMo g o a 0 hi ac tp ba en tA fl de iD iO tU fm fk fa fc ft ff fb fi]) := hD
        refine W.widen (k := 0) (n := 0) (Nat.le_of_ble_eq_true rfl) (Nat.le_of_ble_eq_true rfl) ?_
        refine W.eq (g2 := F0 m 24 ls [.int q_12]) rfl ?_
        rcases hq13 with rfl | rfl
        · skip
          refine lv_if_eq (tgt := 49) hx hb dX12_firmest_24 (by decide) (fun _ => ?_) (fun c14 => absurd (by decide) c14)
          refine ziinc3 (n' := 1) (a' := 1) (b' := 8) (lv' := fun v9 => [(2, .int v9), (0, .ref o), (1, .int x_1)]) hx hb dX12_firmest_49 hl (k := 2) rfl (by decide) (fun _ => rfl) (zaddK (i := x_2.toInt) (j := 1) rfl (by decide) i4.1 n10 (Int.le_refl _) (Int.le_refl _) (by decide)) (fun x_15 ls hx_15 hl => ?_)
          refine lv_goto (tgt := 9) hx hb dX12_firmest_52 (by decide) ?_
          have hl := lv_sub (l' := [(0, .ref o), (1, .int x_1), (2, .int x_15)]) hl [1, 2, 0] rfl
          have hP : va_P g.1 vwCl (List.flatten [bMo g o a 0 hi ac tp ba en tA fl de iD iO tU fm fk fa fc ft ff fb fi]) H := hP
          have hD : va_D A (List.flatten [bMo g o a 0 hi ac tp ba en tA fl de iD iO tU fm fk fa fc ft ff fb fi]) := hD
          exact ih9_6 x_1 x_15 ⟨i3.1, i3.2⟩ ⟨(Int.le_trans (by decide) hx_15.2.1), hx_15.2.2⟩ H _ ls (zmK hx_15.1 (by decide) n10 (by decide) hk9_6)  hP hD hS (lv_sub hl [0, 1, 2] rfl)
        · skip
          refine lv_if_eq (tgt := 49) hx hb dX12_firmest_24 (by decide) (fun c16 => absurd c16 (by decide)) (fun _ => ?_)
          refine lv_iload_n hx hb dX12_firmest_27 rfl (lv_at hl 1 rfl) ?_
          refine lv_iconst (v := (-1)) hx hb dX12_firmest_28 (by decide) ?_
          refine lv_icmp_eq (tgt := 47) hx hb dX12_firmest_29 (by decide) (fun cb9 => ?_) (fun cb9 => ?_)
          · skip
            have c17 : x_1.toInt = (-1) := zeq cb9 rfl (by decide)
            have n18 : x_1.toInt ≤ (-1) := Int.le_trans (Int.le_of_eq c17) (Int.le_refl _)
            refine lv_iload_n hx hb dX12_firmest_47 rfl (lv_at hl 2 rfl) ?_
            refine lv_istore_n (lv' := [(1, .int x_2), (0, .ref o), (2, .int x_2)]) hx hb dX12_firmest_48 rfl hl (by decide) rfl (fun ls hl => ?_)
            refine ziinc3 (n' := 1) (a' := 1) (b' := 8) (lv' := fun v9 => [(2, .int v9), (1, .int x_2), (0, .ref o)]) hx hb dX12_firmest_49 hl (k := 2) rfl (by decide) (fun _ => rfl) (zaddK (i := x_2.toInt) (j := 1) rfl (by decide) i4.1 n10 (Int.le_refl _) (Int.le_refl _) (by decide)) (fun x_19 ls hx_19 hl => ?_)
            refine lv_goto (tgt := 9) hx hb dX12_firmest_52 (by decide) ?_
            have hl := lv_sub (l' := [(0, .ref o), (1, .int x_2), (2, .int x_19)]) hl [2, 1, 0] rfl
            have hP : va_P g.1 vwCl (List.flatten [bMo g o a 0 hi ac tp ba en tA fl de iD iO tU fm fk fa fc ft ff fb fi]) H := hP
            have hD : va_D A (List.flatten [bMo g o a 0 hi ac tp ba en tA fl de iD iO tU fm fk fa fc ft ff fb fi]) := hD
            exact ih9_6 x_2 x_19 ⟨(Int.le_trans (by decide) i4.1), n10⟩ ⟨(Int.le_trans (by decide) hx_19.2.1), hx_19.2.2⟩ H _ ls (zmK hx_19.1 (by decide) n10 (by decide) hk9_6)  hP hD hS (lv_sub hl [0, 1, 2] rfl)
          · skip
            have c20 : ¬ x_1.toInt = (-1) := zne cb9 rfl (by decide)
            have n21 : 0 ≤ x_1.toInt := zN1 c20 i3.1 (by decide)
            refine lv_aload_n hx hb dX12_firmest_32 rfl (lv_at hl 0 rfl) ?_
            refine lv_iload_n hx hb dX12_firmest_33 rfl (lv_at hl 2 rfl) ?_
            refine lv_iconst (v := 0) hx hb dX12_firmest_34 (by decide) ?_
            have hL0 : (0 : Int32).toInt = 0 := by decide
            refine mcallV' (g := g) (q0 := 0) (ci := 10) (As := [.int x_2, .int 0]) (rest := []) St hK hT hA hP hD hS hl.1 [0] [] rfl rfl rfl (m_of l g o a 0 hi ac tp ba en tA fl de iD iO tU fm fk fa fc ft ff fb fi x_2 0 (⟨i4.1, n10⟩) (by decide)) (cwV 2 hts (zgL (zl4 k842 k843 k844 k839) k831) rfl rfl rfl (by decide +kernel) ⟨Nat.le_of_ble_eq_true rfl, Nat.le_of_ble_eq_true rfl⟩) rfl rfl rfl rfl (Nat.le_of_ble_eq_true rfl) dX12_firmest_35 ⟨(Nat.le_of_ble_eq_true rfl), (Nat.le_of_ble_eq_true rfl)⟩ (fun q_22 H locs hq23 hP hD hS => ?_)
            have hP : va_P g.1 vwCl (List.flatten [bMo g o a 0 hi ac tp ba en tA fl de iD iO tU fm fk fa fc ft ff fb fi]) H := hP
            have hD : va_D A (List.flatten [bMo g o a 0 hi ac tp ba en tA fl de iD iO tU fm fk fa fc ft ff fb fi]) := hD
            refine W.widen (k := 0) (n := 0) (Nat.le_of_ble_eq_true rfl) (Nat.le_of_ble_eq_true rfl) ?_
            refine W.eq (g2 := F0 m 38 ls [.int q_22]) rfl ?_
            refine lv_aload_n hx hb dX12_firmest_38 rfl (lv_at hl 0 rfl) ?_
            refine lv_iload_n hx hb dX12_firmest_39 rfl (lv_at hl 1 rfl) ?_
            refine lv_iconst (v := 0) hx hb dX12_firmest_40 (by decide) ?_
            refine mcallV' (g := g) (q0 := 0) (ci := 10) (As := [.int x_1, .int 0]) (rest := [.int q_22]) St hK hT hA hP hD hS hl.1 [0] [] rfl rfl rfl (m_of l g o a 0 hi ac tp ba en tA fl de iD iO tU fm fk fa fc ft ff fb fi x_1 0 (⟨n21, i3.2⟩) (by decide)) (cwV 2 hts (zgL (zl4 k842 k843 k844 k839) k831) rfl rfl rfl (by decide +kernel) ⟨Nat.le_of_ble_eq_true rfl, Nat.le_of_ble_eq_true rfl⟩) rfl rfl rfl rfl (Nat.le_of_ble_eq_true rfl) dX12_firmest_41 ⟨(Nat.le_of_ble_eq_true rfl), (Nat.le_of_ble_eq_true rfl)⟩ (fun q_24 H locs hq25 hP hD hS => ?_)
            have hP : va_P g.1 vwCl (List.flatten [bMo g o a 0 hi ac tp ba en tA fl de iD iO tU fm fk fa fc ft ff fb fi]) H := hP
            have hD : va_D A (List.flatten [bMo g o a 0 hi ac tp ba en tA fl de iD iO tU fm fk fa fc ft ff fb fi]) := hD
            refine W.widen (k := 0) (n := 0) (Nat.le_of_ble_eq_true rfl) (Nat.le_of_ble_eq_true rfl) ?_
            refine W.eq (g2 := F0 m 44 ls [.int q_24, .int q_22]) rfl ?_
            refine lv_icmp_le (tgt := 49) hx hb dX12_firmest_44 (by decide) (fun cb9 => ?_) (fun cb9 => ?_)
            · skip
              have c26 : q_22.toInt ≤ q_24.toInt := zle cb9 rfl rfl
              refine ziinc3 (n' := 1) (a' := 1) (b' := 8) (lv' := fun v9 => [(2, .int v9), (0, .ref o), (1, .int x_1)]) hx hb dX12_firmest_49 hl (k := 2) rfl (by decide) (fun _ => rfl) (zaddK (i := x_2.toInt) (j := 1) rfl (by decide) i4.1 n10 (Int.le_refl _) (Int.le_refl _) (by decide)) (fun x_27 ls hx_27 hl => ?_)
              refine lv_goto (tgt := 9) hx hb dX12_firmest_52 (by decide) ?_
              have hl := lv_sub (l' := [(0, .ref o), (1, .int x_1), (2, .int x_27)]) hl [1, 2, 0] rfl
              have hP : va_P g.1 vwCl (List.flatten [bMo g o a 0 hi ac tp ba en tA fl de iD iO tU fm fk fa fc ft ff fb fi]) H := hP
              have hD : va_D A (List.flatten [bMo g o a 0 hi ac tp ba en tA fl de iD iO tU fm fk fa fc ft ff fb fi]) := hD
              exact ih9_6 x_1 x_27 ⟨(Int.le_trans (by decide) n21), i3.2⟩ ⟨(Int.le_trans (by decide) hx_27.2.1), hx_27.2.2⟩ H _ ls (zmK hx_27.1 (by decide) n10 (by decide) hk9_6)  hP hD hS (lv_sub hl [0, 1, 2] rfl)
            · skip
              have c28 : q_24.toInt < q_22.toInt := zlti (Int32.not_le.mp cb9) rfl rfl
              refine lv_iload_n hx hb dX12_firmest_47 rfl (lv_at hl 2 rfl) ?_
              refine lv_istore_n (lv' := [(1, .int x_2), (0, .ref o), (2, .int x_2)]) hx hb dX12_firmest_48 rfl hl (by decide) rfl (fun ls hl => ?_)
              refine ziinc3 (n' := 1) (a' := 1) (b' := 8) (lv' := fun v9 => [(2, .int v9), (1, .int x_2), (0, .ref o)]) hx hb dX12_firmest_49 hl (k := 2) rfl (by decide) (fun _ => rfl) (zaddK (i := x_2.toInt) (j := 1) rfl (by decide) i4.1 n10 (Int.le_refl _) (Int.le_refl _) (by decide)) (fun x_29 ls hx_29 hl => ?_)
              refine lv_goto (tgt := 9) hx hb dX12_firmest_52 (by decide) ?_
              have hl := lv_sub (l' := [(0, .ref o), (1, .int x_2), (2, .int x_29)]) hl [2, 1, 0] rfl
              have hP : va_P g.1 vwCl (List.flatten [bMo g o a 0 hi ac tp ba en tA fl de iD iO tU fm fk fa fc ft ff fb fi]) H := hP
              have hD : va_D A (List.flatten [bMo g o a 0 hi ac tp ba en tA fl de iD iO tU fm fk fa fc ft ff fb fi]) := hD
              exact ih9_6 x_2 x_29 ⟨(Int.le_trans (by decide) i4.1), n10⟩ ⟨(Int.le_trans (by decide) hx_29.2.1), hx_29.2.2⟩ H _ ls (zmK hx_29.1 (by decide) n10 (by decide) hk9_6)  hP hD hS (lv_sub hl [0, 1, 2] rfl)
  have hP : va_P g.1 vwCl (List.flatten [bMo g o a 0 hi ac tp ba en tA fl de iD iO tU fm fk fa fc ft ff fb fi]) H := hP
  have hD : va_D A (List.flatten [bMo g o a 0 hi ac tp ba en tA fl de iD iO tU fm fk fa fc ft ff fb fi]) := hD
  exact LP9_5 _ (-1) 0 (by decide) (by decide) H _ ls (Nat.lt_succ_self _)  hP hD hS (lv_sub hl [0, 1, 2] rfl)
set_option maxRecDepth 100000 in
set_option maxHeartbeats 4000000 in
theorem m_home (l : Launch) (g : zG) (o : Nat) (a : Nat → Nat) (th : Int32) (hi : Int32) (ac : Int32) (tp : Int32) (ba : Int32) (en : Int32) (tA : Int32) (fl : Int32) (de : Int32) (iD : Int32) (iO : Int32) (tU : Int32) (fm : Nat → Int32) (fk : Nat → Int32) (fa : Nat → Int32) (fc : Nat → Int32) (ft : Nat → Int32) (ff : Nat → Int32) (fb : Nat → Int32) (fi : Nat → Int32) (rfm : rM fm) : zM' g l yX12_home (Cond.code yX12_home cX12_home 4 (some .int) :: zB) ({ frames := 2, cells := 0, slots := 0, locals := 43 } : Room) [.ref o] [bMo g o a th hi ac tp ba en tA fl de iD iO tU fm fk fa fc ft ff fb fi] (fun u : Int32 × Int32 => (fun (th2 : Int32) (q : Int32) => some (.int q)) (u.1) (u.2)) (fun u : Int32 × Int32 => (fun (th2 : Int32) (q : Int32) => True) (u.1) (u.2)) (fun u : Int32 × Int32 => (fun (th2 : Int32) (q : Int32) => [bMo g o a th2 hi ac tp ba en tA fl de iD iO tU fm fk fa fc ft ff fb fi]) (u.1) (u.2)) := by
  refine zM'.of (cc := cX12_home) (maxL := 4) (rt := (some .int)) (by decide) rfl (Nat.le_of_ble_eq_true rfl) ?_
  intro p e s m args below meth c A ls St hr hlocks hin hK hT hA hP hD hS hl
  obtain ⟨hx, hb, hml, hown, hts⟩ := id St
  have hl : lv_has ls 4 [(0, .ref o)] := hl
  refine lv_aload_n hx hb dX12_home_0 rfl (lv_at hl 0 rfl) ?_
  refine lv_iconst (v := 0) hx hb dX12_home_1 (by decide) ?_
  refine va_put (D := g.1) (ci := 10) (v := .int 0) (ty := .int) (C := RX12) (T := TX12) (N := 20) hx hb hts izRX12 tyX12 tyX12_ok nmX12 hown hK hP hD hS 0 rfl rfl 0 (by decide) (hts _ k825) (fun _ h9 => h9) rfl (by decide +kernel) rfl rfl (Nat.le_of_ble_eq_true rfl) dX12_home_2 (fun H locs hP hD hS => ?_)
  have hP : va_P g.1 vwCl (List.flatten [bMo g o a 0 hi ac tp ba en tA fl de iD iO tU fm fk fa fc ft ff fb fi]) H := hP
  have hD : va_D A (List.flatten [bMo g o a 0 hi ac tp ba en tA fl de iD iO tU fm fk fa fc ft ff fb fi]) := hD
  refine lv_iconst (v := (-1)) hx hb dX12_home_5 (by decide) ?_
  refine lv_istore_n (lv' := [(1, .int (-1)), (0, .ref o)]) hx hb dX12_home_6 rfl hl (by decide) rfl (fun ls hl => ?_)
  refine lv_iconst (v := 0) hx hb dX12_home_7 (by decide) ?_
  refine lv_istore_n (lv' := [(2, .int 0), (1, .int (-1)), (0, .ref o)]) hx hb dX12_home_8 rfl hl (by decide) rfl (fun ls hl => ?_)
  have hl := lv_sub (l' := [(0, .ref o), (1, .int (-1)), (2, .int 0)]) hl [2, 1, 0] rfl
  have LP9_4 : ∀ (kf : Nat) (x_1 : Int32) (x_2 : Int32), (0 ≤ x_2.toInt ∧ x_2.toInt ≤ 8) → ∀ (H : Heap) (locs : List Loc) (ls : Array Slot), ((9 - x_2.toInt).toNat) < kf → va_P g.1 vwCl (List.flatten [bMo g o a 0 hi ac tp ba en tA fl de iD iO tU fm fk fa fc ft ff fb fi]) H → va_D A (List.flatten [bMo g o a 0 hi ac tp ba en tA fl de iD iO tU fm fk fa fc ft ff fb fi]) → va_S A s.heap H locs → lv_has ls 4 [(0, .ref o), (1, .int x_1), (2, .int x_2)] → W p l e ({ frames := 2, cells := 0, slots := 0, locals := 43 } : Room) s m args below meth c H locs (0) (0) (zF g (fun u : Int32 × Int32 => (fun (th2 : Int32) (q : Int32) => some (.int q)) (u.1) (u.2)) (fun u : Int32 × Int32 => (fun (th2 : Int32) (q : Int32) => True) (u.1) (u.2)) (fun u : Int32 × Int32 => (fun (th2 : Int32) (q : Int32) => [bMo g o a th2 hi ac tp ba en tA fl de iD iO tU fm fk fa fc ft ff fb fi]) (u.1) (u.2)) ({ frames := 2, cells := 0, slots := 0, locals := 43 } : Room) below args s A) (F0 m 9 ls []) := by
    intro kf
    induction kf with
    | zero => intro x_1 x_2 i3 H locs ls hk; exact absurd hk (Nat.not_lt_zero _)
    | succ kf ih9_5 =>
      intro x_1 x_2 i3 H locs ls hk9_5 hP hD hS hl
      refine lv_iload_n hx hb dX12_home_9 rfl (lv_at hl 2 rfl) ?_
      refine lv_aload_n hx hb dX12_home_10 rfl (lv_at hl 0 rfl) ?_
      refine va_get (D := g.1) (ci := 10) (v := .ref (a 0)) (C := RX12) (T := TX12) (N := 20) hx hb hts izRX12 hown hK hP 0 rfl rfl 1 (by decide) (hts _ k815) (fun _ h9 => h9) rfl dX12_home_11 ?_
      refine lv_iconst (v := 3) hx hb dX12_home_14 (by decide) ?_
      refine va_iald hx hb hK hP 1 0 rfl rfl (zin rfl) dX12_home_15 ?_
      refine zgq (r := fm 3) rfl (rM3 rfm) (fun x_6 hx_6 => ?_)
      refine lv_icmp_ge (tgt := 75) hx hb dX12_home_16 (by decide) (fun cb9 => ?_) (fun cb9 => ?_)
      · skip
        have c7 : x_6.toInt ≤ x_2.toInt := zle cb9 rfl rfl
        refine lv_iload_n hx hb dX12_home_75 rfl (lv_at hl 1 rfl) ?_
        have hP : va_P g.1 vwCl (List.flatten [bMo g o a 0 hi ac tp ba en tA fl de iD iO tU fm fk fa fc ft ff fb fi]) H := hP
        have hD : va_D A (List.flatten [bMo g o a 0 hi ac tp ba en tA fl de iD iO tU fm fk fa fc ft ff fb fi]) := hD
        exact mret_i hx hb hr hlocks hS (Nat.le_of_ble_eq_true rfl) (Nat.le_of_ble_eq_true rfl) dX12_home_76 ((0 : Int32), x_1) rfl trivial hP hD
      · skip
        have c8 : x_2.toInt < x_6.toInt := zlti (Int32.not_le.mp cb9) rfl rfl
        have n9 : x_2.toInt ≤ 7 := zL1 (b := 8) c8 hx_6.2.1 (by decide)
        have n10 : 1 ≤ x_6.toInt := zL2 (a := 0) c8 i3.1 (by decide)
        refine lv_aload_n hx hb dX12_home_19 rfl (lv_at hl 0 rfl) ?_
        refine lv_iload_n hx hb dX12_home_20 rfl (lv_at hl 2 rfl) ?_
        refine mcallV' (g := g) (q0 := 0) (ci := 10) (As := [.int x_2]) (rest := []) St hK hT hA hP hD hS hl.1 [0] [] rfl rfl rfl (m_isHere l g o a 0 hi ac tp ba en tA fl de iD iO tU fm fk fa fc ft ff fb fi x_2 (⟨i3.1, n9⟩)) (cwV 1 hts (zgL (zl4 k846 k847 k848 k839) k841) rfl rfl rfl (by decide +kernel) ⟨Nat.le_of_ble_eq_true rfl, Nat.le_of_ble_eq_true rfl⟩) rfl rfl rfl rfl (Nat.le_of_ble_eq_true rfl) dX12_home_21 ⟨(Nat.le_of_ble_eq_true rfl), (Nat.le_of_ble_eq_true rfl)⟩ (fun q_11 H locs hq12 hP hD hS => ?_)
        replace hq12 : (q_11 = 0 ∨ q_11 = 1) := hq12
        have hP : va_P g.1 vwCl (List.flatten [bMo g o a 0 hi ac tp ba en tA fl de iD iO tU fm fk fa fc ft ff fb fi]) H := hP
        have hD : va_D A (List.flatten [bMo g o a 0 hi ac tp ba en tA fl de iD iO tU fm fk fa fc ft ff fb fi]) := hD
        refine W.widen (k := 0) (n := 0) (Nat.le_of_ble_eq_true rfl) (Nat.le_of_ble_eq_true rfl) ?_
        refine W.eq (g2 := F0 m 24 ls [.int q_11]) rfl ?_
        rcases hq12 with rfl | rfl
        · skip
          refine lv_if_eq (tgt := 33) hx hb dX12_home_24 (by decide) (fun _ => ?_) (fun c13 => absurd (by decide) c13)
          refine lv_aload_n hx hb dX12_home_33 rfl (lv_at hl 0 rfl) ?_
          refine va_get (D := g.1) (ci := 10) (v := .ref (a 0)) (C := RX12) (T := TX12) (N := 20) hx hb hts izRX12 hown hK hP 0 rfl rfl 1 (by decide) (hts _ k815) (fun _ h9 => h9) rfl dX12_home_34 ?_
          refine lv_bipush (v := 8) hx hb dX12_home_37 (by decide) ?_
          refine va_iald hx hb hK hP 1 0 rfl rfl (zin rfl) dX12_home_39 ?_
          refine zg (fun x_14 => ?_)
          refine lv_aload_n hx hb dX12_home_40 rfl (lv_at hl 0 rfl) ?_
          refine lv_iload_n hx hb dX12_home_41 rfl (lv_at hl 2 rfl) ?_
          refine lv_iconst (v := 4) hx hb dX12_home_42 (by decide) ?_
          have hL4 : (4 : Int32).toInt = 4 := by decide
          refine mcallV' (g := g) (q0 := 0) (ci := 10) (As := [.int x_2, .int 4]) (rest := [.int x_14]) St hK hT hA hP hD hS hl.1 [0] [] rfl rfl rfl (m_of l g o a 0 hi ac tp ba en tA fl de iD iO tU fm fk fa fc ft ff fb fi x_2 4 (⟨i3.1, n9⟩) (by decide)) (cwV 2 hts (zgL (zl4 k842 k843 k844 k839) k831) rfl rfl rfl (by decide +kernel) ⟨Nat.le_of_ble_eq_true rfl, Nat.le_of_ble_eq_true rfl⟩) rfl rfl rfl rfl (Nat.le_of_ble_eq_true rfl) dX12_home_43 ⟨(Nat.le_of_ble_eq_true rfl), (Nat.le_of_ble_eq_true rfl)⟩ (fun q_15 H locs hq16 hP hD hS => ?_)
          have hP : va_P g.1 vwCl (List.flatten [bMo g o a 0 hi ac tp ba en tA fl de iD iO tU fm fk fa fc ft ff fb fi]) H := hP
          have hD : va_D A (List.flatten [bMo g o a 0 hi ac tp ba en tA fl de iD iO tU fm fk fa fc ft ff fb fi]) := hD
          refine W.widen (k := 0) (n := 0) (Nat.le_of_ble_eq_true rfl) (Nat.le_of_ble_eq_true rfl) ?_
          refine W.eq (g2 := F0 m 46 ls [.int q_15, .int x_14]) rfl ?_
          refine mcallS' (g := g) (As := [.int x_14, .int q_15]) (rest := []) St hK hT hA hP hD hS hl.1 [] [0] rfl rfl rfl (m_greater l g x_14 q_15 ) (va_cwS 2 hts (zgL (zl3 k1003 k1004 k839) k828) rfl rfl rfl (by decide +kernel) ⟨Nat.le_of_ble_eq_true rfl, Nat.le_of_ble_eq_true rfl⟩) rfl rfl (Nat.le_of_ble_eq_true rfl) dX12_home_46 ⟨(Nat.le_of_ble_eq_true rfl), (Nat.le_of_ble_eq_true rfl)⟩ (fun q_17 H locs hq18 hP hD hS => ?_)
          replace hq18 : (x_14.toInt ≤ q_17.toInt ∧ q_15.toInt ≤ q_17.toInt ∧ (q_17.toInt = x_14.toInt ∨ q_17.toInt = q_15.toInt)) := hq18
          have hP : va_P g.1 vwCl (List.flatten [bMo g o a 0 hi ac tp ba en tA fl de iD iO tU fm fk fa fc ft ff fb fi]) H := hP
          have hD : va_D A (List.flatten [bMo g o a 0 hi ac tp ba en tA fl de iD iO tU fm fk fa fc ft ff fb fi]) := hD
          refine W.widen (k := 0) (n := 0) (Nat.le_of_ble_eq_true rfl) (Nat.le_of_ble_eq_true rfl) ?_
          refine W.eq (g2 := F0 m 49 ls [.int q_17]) rfl ?_
          refine lv_istore_n (lv' := [(3, .int q_17), (0, .ref o), (1, .int x_1), (2, .int x_2)]) hx hb dX12_home_49 rfl hl (by decide) rfl (fun ls hl => ?_)
          refine lv_iload_n hx hb dX12_home_50 rfl (lv_at hl 0 rfl) ?_
          refine lv_ldcw (v := 2000000000) hx hb hown (hts _ k1108) dX12_home_51 ?_
          refine lv_icmp_eq (tgt := 69) hx hb dX12_home_54 (by decide) (fun cb9 => ?_) (fun cb9 => ?_)
          · skip
            have c19 : q_17.toInt = 2000000000 := zeq cb9 rfl (by decide)
            have n20 : 2000000000 ≤ q_17.toInt := Int.le_trans (Int.le_refl _) (Int.le_of_eq c19.symm)
            have n21 : q_17.toInt ≤ 2000000000 := Int.le_trans (Int.le_of_eq c19) (Int.le_refl _)
            refine ziinc3 (n' := 1) (a' := 1) (b' := 8) (lv' := fun v9 => [(2, .int v9), (3, .int q_17), (0, .ref o), (1, .int x_1)]) hx hb dX12_home_69 hl (k := 3) rfl (by decide) (fun _ => rfl) (zaddK (i := x_2.toInt) (j := 1) rfl (by decide) i3.1 n9 (Int.le_refl _) (Int.le_refl _) (by decide)) (fun x_22 ls hx_22 hl => ?_)
            refine lv_goto (tgt := 9) hx hb dX12_home_72 (by decide) ?_
            have hl := lv_sub (l' := [(0, .ref o), (1, .int x_1), (2, .int x_22), (3, .int q_17)]) hl [2, 3, 0, 1] rfl
            have hP : va_P g.1 vwCl (List.flatten [bMo g o a 0 hi ac tp ba en tA fl de iD iO tU fm fk fa fc ft ff fb fi]) H := hP
            have hD : va_D A (List.flatten [bMo g o a 0 hi ac tp ba en tA fl de iD iO tU fm fk fa fc ft ff fb fi]) := hD
            exact ih9_5 x_1 x_22 ⟨(Int.le_trans (by decide) hx_22.2.1), hx_22.2.2⟩ H _ ls (zmK hx_22.1 (by decide) n9 (by decide) hk9_5)  hP hD hS (lv_sub hl [0, 1, 2] rfl)
          · skip
            have c23 : ¬ q_17.toInt = 2000000000 := zne cb9 rfl (by decide)
            refine lv_iload_n hx hb dX12_home_57 rfl (lv_at hl 2 rfl) ?_
            refine lv_iconst (v := (-1)) hx hb dX12_home_58 (by decide) ?_
            refine lv_icmp_eq (tgt := 67) hx hb dX12_home_59 (by decide) (fun cb9 => ?_) (fun cb9 => ?_)
            · skip
              have c24 : x_1.toInt = (-1) := zeq cb9 rfl (by decide)
              have n25 : (-1) ≤ x_1.toInt := Int.le_trans (Int.le_refl _) (Int.le_of_eq c24.symm)
              have n26 : x_1.toInt ≤ (-1) := Int.le_trans (Int.le_of_eq c24) (Int.le_refl _)
              refine lv_iload_n hx hb dX12_home_67 rfl (lv_at hl 0 rfl) ?_
              refine lv_istore_n (lv' := [(1, .int q_17), (3, .int q_17), (0, .ref o), (2, .int x_2)]) hx hb dX12_home_68 rfl hl (by decide) rfl (fun ls hl => ?_)
              refine ziinc3 (n' := 1) (a' := 1) (b' := 8) (lv' := fun v9 => [(2, .int v9), (1, .int q_17), (3, .int q_17), (0, .ref o)]) hx hb dX12_home_69 hl (k := 3) rfl (by decide) (fun _ => rfl) (zaddK (i := x_2.toInt) (j := 1) rfl (by decide) i3.1 n9 (Int.le_refl _) (Int.le_refl _) (by decide)) (fun x_27 ls hx_27 hl => ?_)
              refine lv_goto (tgt := 9) hx hb dX12_home_72 (by decide) ?_
              have hl := lv_sub (l' := [(0, .ref o), (1, .int q_17), (2, .int x_27), (3, .int q_17)]) hl [3, 1, 0, 2] rfl
              have hP : va_P g.1 vwCl (List.flatten [bMo g o a 0 hi ac tp ba en tA fl de iD iO tU fm fk fa fc ft ff fb fi]) H := hP
              have hD : va_D A (List.flatten [bMo g o a 0 hi ac tp ba en tA fl de iD iO tU fm fk fa fc ft ff fb fi]) := hD
              exact ih9_5 q_17 x_27 ⟨(Int.le_trans (by decide) hx_27.2.1), hx_27.2.2⟩ H _ ls (zmK hx_27.1 (by decide) n9 (by decide) hk9_5)  hP hD hS (lv_sub hl [0, 1, 2] rfl)
            · skip
              have c28 : ¬ x_1.toInt = (-1) := zne cb9 rfl (by decide)
              refine lv_iload_n hx hb dX12_home_62 rfl (lv_at hl 0 rfl) ?_
              refine lv_iload_n hx hb dX12_home_63 rfl (lv_at hl 2 rfl) ?_
              refine lv_icmp_ge (tgt := 69) hx hb dX12_home_64 (by decide) (fun cb9 => ?_) (fun cb9 => ?_)
              · skip
                have c29 : x_1.toInt ≤ q_17.toInt := zle cb9 rfl rfl
                refine ziinc3 (n' := 1) (a' := 1) (b' := 8) (lv' := fun v9 => [(2, .int v9), (3, .int q_17), (0, .ref o), (1, .int x_1)]) hx hb dX12_home_69 hl (k := 3) rfl (by decide) (fun _ => rfl) (zaddK (i := x_2.toInt) (j := 1) rfl (by decide) i3.1 n9 (Int.le_refl _) (Int.le_refl _) (by decide)) (fun x_30 ls hx_30 hl => ?_)
                refine lv_goto (tgt := 9) hx hb dX12_home_72 (by decide) ?_
                have hl := lv_sub (l' := [(0, .ref o), (1, .int x_1), (2, .int x_30), (3, .int q_17)]) hl [2, 3, 0, 1] rfl
                have hP : va_P g.1 vwCl (List.flatten [bMo g o a 0 hi ac tp ba en tA fl de iD iO tU fm fk fa fc ft ff fb fi]) H := hP
                have hD : va_D A (List.flatten [bMo g o a 0 hi ac tp ba en tA fl de iD iO tU fm fk fa fc ft ff fb fi]) := hD
                exact ih9_5 x_1 x_30 ⟨(Int.le_trans (by decide) hx_30.2.1), hx_30.2.2⟩ H _ ls (zmK hx_30.1 (by decide) n9 (by decide) hk9_5)  hP hD hS (lv_sub hl [0, 1, 2] rfl)
              · skip
                have c31 : q_17.toInt < x_1.toInt := zlti (Int32.not_le.mp cb9) rfl rfl
                refine lv_iload_n hx hb dX12_home_67 rfl (lv_at hl 0 rfl) ?_
                refine lv_istore_n (lv' := [(1, .int q_17), (3, .int q_17), (0, .ref o), (2, .int x_2)]) hx hb dX12_home_68 rfl hl (by decide) rfl (fun ls hl => ?_)
                refine ziinc3 (n' := 1) (a' := 1) (b' := 8) (lv' := fun v9 => [(2, .int v9), (1, .int q_17), (3, .int q_17), (0, .ref o)]) hx hb dX12_home_69 hl (k := 3) rfl (by decide) (fun _ => rfl) (zaddK (i := x_2.toInt) (j := 1) rfl (by decide) i3.1 n9 (Int.le_refl _) (Int.le_refl _) (by decide)) (fun x_32 ls hx_32 hl => ?_)
                refine lv_goto (tgt := 9) hx hb dX12_home_72 (by decide) ?_
                have hl := lv_sub (l' := [(0, .ref o), (1, .int q_17), (2, .int x_32), (3, .int q_17)]) hl [3, 1, 0, 2] rfl
                have hP : va_P g.1 vwCl (List.flatten [bMo g o a 0 hi ac tp ba en tA fl de iD iO tU fm fk fa fc ft ff fb fi]) H := hP
                have hD : va_D A (List.flatten [bMo g o a 0 hi ac tp ba en tA fl de iD iO tU fm fk fa fc ft ff fb fi]) := hD
                exact ih9_5 q_17 x_32 ⟨(Int.le_trans (by decide) hx_32.2.1), hx_32.2.2⟩ H _ ls (zmK hx_32.1 (by decide) n9 (by decide) hk9_5)  hP hD hS (lv_sub hl [0, 1, 2] rfl)
        · skip
          refine lv_if_eq (tgt := 33) hx hb dX12_home_24 (by decide) (fun c33 => absurd c33 (by decide)) (fun _ => ?_)
          refine lv_ldcw (v := 2000000000) hx hb hown (hts _ k1108) dX12_home_27 ?_
          refine lv_goto (tgt := 49) hx hb dX12_home_30 (by decide) ?_
          refine lv_istore_n (lv' := [(3, .int 2000000000), (0, .ref o), (1, .int x_1), (2, .int x_2)]) hx hb dX12_home_49 rfl hl (by decide) rfl (fun ls hl => ?_)
          refine lv_iload_n hx hb dX12_home_50 rfl (lv_at hl 0 rfl) ?_
          refine lv_ldcw (v := 2000000000) hx hb hown (hts _ k1108) dX12_home_51 ?_
          refine lv_icmp_eq (tgt := 69) hx hb dX12_home_54 (by decide) (fun _ => ?_) (fun c34 => absurd (by decide) c34)
          refine ziinc3 (n' := 1) (a' := 1) (b' := 8) (lv' := fun v9 => [(2, .int v9), (3, .int 2000000000), (0, .ref o), (1, .int x_1)]) hx hb dX12_home_69 hl (k := 3) rfl (by decide) (fun _ => rfl) (zaddK (i := x_2.toInt) (j := 1) rfl (by decide) i3.1 n9 (Int.le_refl _) (Int.le_refl _) (by decide)) (fun x_35 ls hx_35 hl => ?_)
          refine lv_goto (tgt := 9) hx hb dX12_home_72 (by decide) ?_
          have hl := lv_sub (l' := [(0, .ref o), (1, .int x_1), (2, .int x_35), (3, .int 2000000000)]) hl [2, 3, 0, 1] rfl
          have hP : va_P g.1 vwCl (List.flatten [bMo g o a 0 hi ac tp ba en tA fl de iD iO tU fm fk fa fc ft ff fb fi]) H := hP
          have hD : va_D A (List.flatten [bMo g o a 0 hi ac tp ba en tA fl de iD iO tU fm fk fa fc ft ff fb fi]) := hD
          exact ih9_5 x_1 x_35 ⟨(Int.le_trans (by decide) hx_35.2.1), hx_35.2.2⟩ H _ ls (zmK hx_35.1 (by decide) n9 (by decide) hk9_5)  hP hD hS (lv_sub hl [0, 1, 2] rfl)
  have hP : va_P g.1 vwCl (List.flatten [bMo g o a 0 hi ac tp ba en tA fl de iD iO tU fm fk fa fc ft ff fb fi]) H := hP
  have hD : va_D A (List.flatten [bMo g o a 0 hi ac tp ba en tA fl de iD iO tU fm fk fa fc ft ff fb fi]) := hD
  exact LP9_4 _ (-1) 0 (by decide) H _ ls (Nat.lt_succ_self _)  hP hD hS (lv_sub hl [0, 1, 2] rfl)
set_option maxRecDepth 100000 in
set_option maxHeartbeats 4000000 in
theorem m_led (l : Launch) (g : zG) (o : Nat) (a : Nat → Nat) (th : Int32) (hi : Int32) (ac : Int32) (tp : Int32) (ba : Int32) (en : Int32) (tA : Int32) (fl : Int32) (de : Int32) (iD : Int32) (iO : Int32) (tU : Int32) (fm : Nat → Int32) (fk : Nat → Int32) (fa : Nat → Int32) (fc : Nat → Int32) (ft : Nat → Int32) (ff : Nat → Int32) (fb : Nat → Int32) (fi : Nat → Int32) (w : Int32) (day : Int32) (rfm : rM fm) : zM' g l yX12_led (Cond.code yX12_led cX12_led 6 (some .int) :: zB) ({ frames := 2, cells := 0, slots := 0, locals := 43 } : Room) [.ref o, .int w, .int day] [bMo g o a th hi ac tp ba en tA fl de iD iO tU fm fk fa fc ft ff fb fi] (fun u : Int32 × Int32 => (fun (th2 : Int32) (q : Int32) => some (.int q)) (u.1) (u.2)) (fun u : Int32 × Int32 => (fun (th2 : Int32) (q : Int32) => True) (u.1) (u.2)) (fun u : Int32 × Int32 => (fun (th2 : Int32) (q : Int32) => [bMo g o a th2 hi ac tp ba en tA fl de iD iO tU fm fk fa fc ft ff fb fi]) (u.1) (u.2)) := by
  refine zM'.of (cc := cX12_led) (maxL := 6) (rt := (some .int)) (by decide) rfl (Nat.le_of_ble_eq_true rfl) ?_
  intro p e s m args below meth c A ls St hr hlocks hin hK hT hA hP hD hS hl
  obtain ⟨hx, hb, hml, hown, hts⟩ := id St
  have hl : lv_has ls 6 [(0, .ref o), (1, .int w), (2, .int day)] := hl
  refine lv_aload_n hx hb dX12_led_0 rfl (lv_at hl 0 rfl) ?_
  refine lv_aload_n hx hb dX12_led_1 rfl (lv_at hl 0 rfl) ?_
  refine lv_iload_n hx hb dX12_led_2 rfl (lv_at hl 1 rfl) ?_
  refine mcallV' (g := g) (q0 := 0) (ci := 10) (As := [.int w]) (rest := [.ref o]) St hK hT hA hP hD hS hl.1 [0] [] rfl rfl rfl (m_isWork l g o a th hi ac tp ba en tA fl de iD iO tU fm fk fa fc ft ff fb fi w rfm) (cwV 1 hts (zgL (zl4 k1042 k1043 k1044 k839) k840) rfl rfl rfl (by decide +kernel) ⟨Nat.le_of_ble_eq_true rfl, Nat.le_of_ble_eq_true rfl⟩) rfl rfl rfl rfl (Nat.le_of_ble_eq_true rfl) dX12_led_3 ⟨(Nat.le_of_ble_eq_true rfl), (Nat.le_of_ble_eq_true rfl)⟩ (fun q_1 H locs hq2 hP hD hS => ?_)
  replace hq2 : (q_1 = 1 ∧ 0 ≤ w.toInt ∧ w.toInt ≤ 5 ∧ w.toInt < (fm 4).toInt ∨ q_1 = 0) := hq2
  have hP : va_P g.1 vwCl (List.flatten [bMo g o a th hi ac tp ba en tA fl de iD iO tU fm fk fa fc ft ff fb fi]) H := hP
  have hD : va_D A (List.flatten [bMo g o a th hi ac tp ba en tA fl de iD iO tU fm fk fa fc ft ff fb fi]) := hD
  refine W.widen (k := 0) (n := 0) (Nat.le_of_ble_eq_true rfl) (Nat.le_of_ble_eq_true rfl) ?_
  refine W.eq (g2 := F0 m 6 ls [.int q_1, .ref o]) rfl ?_
  rcases hq2 with ⟨rfl, hq2_k⟩ | rfl
  · skip
    refine lv_if_ne (tgt := 13) hx hb dX12_led_6 (by decide) (fun _ => ?_) (fun c3 => absurd c3 (by decide))
    refine lv_iconst (v := 0) hx hb dX12_led_13 (by decide) ?_
    refine va_put (D := g.1) (ci := 10) (v := .int 0) (ty := .int) (C := RX12) (T := TX12) (N := 20) hx hb hts izRX12 tyX12 tyX12_ok nmX12 hown hK hP hD hS 0 rfl rfl 0 (by decide) (hts _ k825) (fun _ h9 => h9) rfl (by decide +kernel) rfl rfl (Nat.le_of_ble_eq_true rfl) dX12_led_14 (fun H locs hP hD hS => ?_)
    have hP : va_P g.1 vwCl (List.flatten [bMo g o a 0 hi ac tp ba en tA fl de iD iO tU fm fk fa fc ft ff fb fi]) H := hP
    have hD : va_D A (List.flatten [bMo g o a 0 hi ac tp ba en tA fl de iD iO tU fm fk fa fc ft ff fb fi]) := hD
    refine lv_aload_n hx hb dX12_led_17 rfl (lv_at hl 0 rfl) ?_
    refine va_get (D := g.1) (ci := 10) (v := .int 0) (C := RX12) (T := TX12) (N := 20) hx hb hts izRX12 hown hK hP 0 rfl rfl 0 (by decide) (hts _ k825) (fun _ h9 => h9) rfl dX12_led_18 ?_
    refine lv_if_le (tgt := 26) hx hb dX12_led_21 (by decide) (fun _ => ?_) (fun c4 => absurd (by decide) c4)
    refine lv_iconst (v := 0) hx hb dX12_led_26 (by decide) ?_
    refine lv_istore_n (lv' := [(3, .int 0), (0, .ref o), (1, .int w), (2, .int day)]) hx hb dX12_led_27 rfl hl (by decide) rfl (fun ls hl => ?_)
    refine lv_iconst (v := (-1)) hx hb dX12_led_28 (by decide) ?_
    refine lv_istore (lv' := [(4, .int (-1)), (3, .int 0), (0, .ref o), (1, .int w), (2, .int day)]) hx hb dX12_led_29 hl (by decide) rfl (fun ls hl => ?_)
    refine lv_aload_n hx hb dX12_led_31 rfl (lv_at hl 2 rfl) ?_
    refine va_get (D := g.1) (ci := 10) (v := .ref (a 0)) (C := RX12) (T := TX12) (N := 20) hx hb hts izRX12 hown hK hP 0 rfl rfl 1 (by decide) (hts _ k815) (fun _ h9 => h9) rfl dX12_led_32 ?_
    refine lv_bipush (v := 9) hx hb dX12_led_35 (by decide) ?_
    refine va_iald hx hb hK hP 1 0 rfl rfl (zin rfl) dX12_led_37 ?_
    refine zgq (r := fm 9) rfl (rM9 rfm) (fun x_5 hx_5 => ?_)
    refine lv_iconst (v := 1) hx hb dX12_led_38 (by decide) ?_
    refine lv_isub hx hb dX12_led_39 ?_
    refine zg3 (zsubK (i := x_5.toInt) (j := 1) (a' := (-1)) (b' := 59) rfl (by decide) hx_5.1 hx_5.2.1 (Int.le_refl _) (Int.le_refl _) (by decide)) (fun x_6 hx_6 => ?_)
    refine lv_istore (lv' := [(5, .int x_6), (4, .int (-1)), (3, .int 0), (0, .ref o), (1, .int w), (2, .int day)]) hx hb dX12_led_40 hl (by decide) rfl (fun ls hl => ?_)
    have hl := lv_sub (l' := [(0, .ref o), (1, .int w), (2, .int day), (3, .int 0), (4, .int (-1)), (5, .int x_6)]) hl [3, 4, 5, 2, 1, 0] rfl
    have LP42_11 : ∀ (kf : Nat) (x_7 : Int32) (x_8 : Int32) (x_9 : Int32), ((-1) ≤ x_9.toInt ∧ x_9.toInt ≤ 59) → ∀ (H : Heap) (locs : List Loc) (ls : Array Slot), ((x_9.toInt - (-1) + 1).toNat) < kf → va_P g.1 vwCl (List.flatten [bMo g o a 0 hi ac tp ba en tA fl de iD iO tU fm fk fa fc ft ff fb fi]) H → va_D A (List.flatten [bMo g o a 0 hi ac tp ba en tA fl de iD iO tU fm fk fa fc ft ff fb fi]) → va_S A s.heap H locs → lv_has ls 6 [(0, .ref o), (1, .int w), (2, .int day), (3, .int x_7), (4, .int x_8), (5, .int x_9)] → W p l e ({ frames := 2, cells := 0, slots := 0, locals := 43 } : Room) s m args below meth c H locs (0) (0) (zF g (fun u : Int32 × Int32 => (fun (th2 : Int32) (q : Int32) => some (.int q)) (u.1) (u.2)) (fun u : Int32 × Int32 => (fun (th2 : Int32) (q : Int32) => True) (u.1) (u.2)) (fun u : Int32 × Int32 => (fun (th2 : Int32) (q : Int32) => [bMo g o a th2 hi ac tp ba en tA fl de iD iO tU fm fk fa fc ft ff fb fi]) (u.1) (u.2)) ({ frames := 2, cells := 0, slots := 0, locals := 43 } : Room) below args s A) (F0 m 42 ls []) := by
      intro kf
      induction kf with
      | zero => intro x_7 x_8 x_9 i10 H locs ls hk; exact absurd hk (Nat.not_lt_zero _)
      | succ kf ih42_12 =>
        intro x_7 x_8 x_9 i10 H locs ls hk42_12 hP hD hS hl
        refine lv_iload hx hb dX12_led_42 (lv_at hl 5 rfl) ?_
        refine lv_if_lt (tgt := 90) hx hb dX12_led_44 (by decide) (fun cb9 => ?_) (fun cb9 => ?_)
        · skip
          have c13 : x_9.toInt < 0 := zlti cb9 rfl (by decide)
          have n14 : x_9.toInt ≤ (-1) := zL1 (b := 0) c13 (Int.le_refl _) (by decide)
          refine lv_iload_n hx hb dX12_led_90 rfl (lv_at hl 2 rfl) ?_
          refine lv_if_eq (tgt := 99) hx hb dX12_led_91 (by decide) (fun cb9 => ?_) (fun cb9 => ?_)
          · skip
            have c15 : day.toInt = 0 := zeq cb9 rfl (by decide)
            have n16 : 0 ≤ day.toInt := Int.le_trans (Int.le_refl _) (Int.le_of_eq c15.symm)
            have n17 : day.toInt ≤ 0 := Int.le_trans (Int.le_of_eq c15) (Int.le_refl _)
            refine lv_iload_n hx hb dX12_led_99 rfl (lv_at hl 3 rfl) ?_
            have hP : va_P g.1 vwCl (List.flatten [bMo g o a 0 hi ac tp ba en tA fl de iD iO tU fm fk fa fc ft ff fb fi]) H := hP
            have hD : va_D A (List.flatten [bMo g o a 0 hi ac tp ba en tA fl de iD iO tU fm fk fa fc ft ff fb fi]) := hD
            exact mret_i hx hb hr hlocks hS (Nat.le_of_ble_eq_true rfl) (Nat.le_of_ble_eq_true rfl) dX12_led_100 ((0 : Int32), x_7) rfl trivial hP hD
          · skip
            have c18 : ¬ day.toInt = 0 := zne cb9 rfl (by decide)
            refine lv_iload hx hb dX12_led_94 (lv_at hl 4 rfl) ?_
            refine lv_goto (tgt := 100) hx hb dX12_led_96 (by decide) ?_
            have hP : va_P g.1 vwCl (List.flatten [bMo g o a 0 hi ac tp ba en tA fl de iD iO tU fm fk fa fc ft ff fb fi]) H := hP
            have hD : va_D A (List.flatten [bMo g o a 0 hi ac tp ba en tA fl de iD iO tU fm fk fa fc ft ff fb fi]) := hD
            exact mret_i hx hb hr hlocks hS (Nat.le_of_ble_eq_true rfl) (Nat.le_of_ble_eq_true rfl) dX12_led_100 ((0 : Int32), x_8) rfl trivial hP hD
        · skip
          have c19 : 0 ≤ x_9.toInt := zle (Int32.not_lt.mp cb9) (by decide) rfl
          have n20 : 0 ≤ x_9.toInt := Int.le_trans (Int.le_refl _) c19
          refine lv_aload_n hx hb dX12_led_47 rfl (lv_at hl 0 rfl) ?_
          refine lv_iload hx hb dX12_led_48 (lv_at hl 5 rfl) ?_
          refine lv_iconst (v := 1) hx hb dX12_led_50 (by decide) ?_
          have hL1 : (1 : Int32).toInt = 1 := by decide
          refine mcallV' (g := g) (q0 := 0) (ci := 10) (As := [.int x_9, .int 1]) (rest := []) St hK hT hA hP hD hS hl.1 [0] [] rfl rfl rfl (m_logged l g o a 0 hi ac tp ba en tA fl de iD iO tU fm fk fa fc ft ff fb fi x_9 1 (⟨n20, i10.2⟩) (by decide)) (cwV 2 hts (zgL (zl4 k1139 k1140 k1141 k839) k1137) rfl rfl rfl (by decide +kernel) ⟨Nat.le_of_ble_eq_true rfl, Nat.le_of_ble_eq_true rfl⟩) rfl rfl rfl rfl (Nat.le_of_ble_eq_true rfl) dX12_led_51 ⟨(Nat.le_of_ble_eq_true rfl), (Nat.le_of_ble_eq_true rfl)⟩ (fun q_21 H locs hq22 hP hD hS => ?_)
          have hP : va_P g.1 vwCl (List.flatten [bMo g o a 0 hi ac tp ba en tA fl de iD iO tU fm fk fa fc ft ff fb fi]) H := hP
          have hD : va_D A (List.flatten [bMo g o a 0 hi ac tp ba en tA fl de iD iO tU fm fk fa fc ft ff fb fi]) := hD
          refine W.widen (k := 0) (n := 0) (Nat.le_of_ble_eq_true rfl) (Nat.le_of_ble_eq_true rfl) ?_
          refine W.eq (g2 := F0 m 54 ls [.int q_21]) rfl ?_
          refine lv_iload_n hx hb dX12_led_54 rfl (lv_at hl 1 rfl) ?_
          refine lv_icmp_ne (tgt := 84) hx hb dX12_led_55 (by decide) (fun cb9 => ?_) (fun cb9 => ?_)
          · skip
            have c23 : ¬ q_21.toInt = w.toInt := zne cb9 rfl rfl
            refine ziinc3 (n' := (-1)) (a' := (-1)) (b' := 58) (lv' := fun v9 => [(5, .int v9), (0, .ref o), (1, .int w), (2, .int day), (3, .int x_7), (4, .int x_8)]) hx hb dX12_led_84 hl (k := 5) rfl (by decide) (fun _ => rfl) (zaddK (i := x_9.toInt) (j := (-1)) rfl (by decide) n20 i10.2 (Int.le_refl _) (Int.le_refl _) (by decide)) (fun x_24 ls hx_24 hl => ?_)
            refine lv_goto (tgt := 42) hx hb dX12_led_87 (by decide) ?_
            have hl := lv_sub (l' := [(0, .ref o), (1, .int w), (2, .int day), (3, .int x_7), (4, .int x_8), (5, .int x_24)]) hl [1, 2, 3, 4, 5, 0] rfl
            have hP : va_P g.1 vwCl (List.flatten [bMo g o a 0 hi ac tp ba en tA fl de iD iO tU fm fk fa fc ft ff fb fi]) H := hP
            have hD : va_D A (List.flatten [bMo g o a 0 hi ac tp ba en tA fl de iD iO tU fm fk fa fc ft ff fb fi]) := hD
            exact ih42_12 x_7 x_8 x_24 ⟨hx_24.2.1, (Int.le_trans hx_24.2.2 (by decide))⟩ H _ ls (zmKd hx_24.1 (by decide) n20 (by decide) hk42_12)  hP hD hS (lv_sub hl [0, 1, 2, 3, 4, 5] rfl)
          · skip
            have c25 : q_21.toInt = w.toInt := zeq cb9 rfl rfl
            refine lv_aload_n hx hb dX12_led_58 rfl (lv_at hl 0 rfl) ?_
            refine lv_iload hx hb dX12_led_59 (lv_at hl 5 rfl) ?_
            refine lv_iconst (v := 2) hx hb dX12_led_61 (by decide) ?_
            have hL2 : (2 : Int32).toInt = 2 := by decide
            refine mcallV' (g := g) (q0 := 0) (ci := 10) (As := [.int x_9, .int 2]) (rest := []) St hK hT hA hP hD hS hl.1 [0] [] rfl rfl rfl (m_logged l g o a 0 hi ac tp ba en tA fl de iD iO tU fm fk fa fc ft ff fb fi x_9 2 (⟨n20, i10.2⟩) (by decide)) (cwV 2 hts (zgL (zl4 k1139 k1140 k1141 k839) k1137) rfl rfl rfl (by decide +kernel) ⟨Nat.le_of_ble_eq_true rfl, Nat.le_of_ble_eq_true rfl⟩) rfl rfl rfl rfl (Nat.le_of_ble_eq_true rfl) dX12_led_62 ⟨(Nat.le_of_ble_eq_true rfl), (Nat.le_of_ble_eq_true rfl)⟩ (fun q_26 H locs hq27 hP hD hS => ?_)
            have hP : va_P g.1 vwCl (List.flatten [bMo g o a 0 hi ac tp ba en tA fl de iD iO tU fm fk fa fc ft ff fb fi]) H := hP
            have hD : va_D A (List.flatten [bMo g o a 0 hi ac tp ba en tA fl de iD iO tU fm fk fa fc ft ff fb fi]) := hD
            refine W.widen (k := 0) (n := 0) (Nat.le_of_ble_eq_true rfl) (Nat.le_of_ble_eq_true rfl) ?_
            refine W.eq (g2 := F0 m 65 ls [.int q_26]) rfl ?_
            refine lv_iconst (v := 1) hx hb dX12_led_65 (by decide) ?_
            refine lv_icmp_le (tgt := 72) hx hb dX12_led_66 (by decide) (fun cb9 => ?_) (fun cb9 => ?_)
            · skip
              have c28 : q_26.toInt ≤ 1 := zle cb9 rfl (by decide)
              have n29 : q_26.toInt ≤ 1 := Int.le_trans c28 (Int.le_refl _)
              refine ziincG (lv' := fun v9 => [(3, .int v9), (0, .ref o), (1, .int w), (2, .int day), (4, .int x_8), (5, .int x_9)]) hx hb dX12_led_72 hl (k := 3) rfl (by decide) (fun _ => rfl) (fun x_30 ls hl => ?_)
              refine lv_aload_n hx hb dX12_led_75 rfl (lv_at hl 1 rfl) ?_
              refine lv_iload hx hb dX12_led_76 (lv_at hl 5 rfl) ?_
              refine lv_iconst (v := 0) hx hb dX12_led_78 (by decide) ?_
              have hL0 : (0 : Int32).toInt = 0 := by decide
              refine mcallV' (g := g) (q0 := 0) (ci := 10) (As := [.int x_9, .int 0]) (rest := []) St hK hT hA hP hD hS hl.1 [0] [] rfl rfl rfl (m_logged l g o a 0 hi ac tp ba en tA fl de iD iO tU fm fk fa fc ft ff fb fi x_9 0 (⟨n20, i10.2⟩) (by decide)) (cwV 2 hts (zgL (zl4 k1139 k1140 k1141 k839) k1137) rfl rfl rfl (by decide +kernel) ⟨Nat.le_of_ble_eq_true rfl, Nat.le_of_ble_eq_true rfl⟩) rfl rfl rfl rfl (Nat.le_of_ble_eq_true rfl) dX12_led_79 ⟨(Nat.le_of_ble_eq_true rfl), (Nat.le_of_ble_eq_true rfl)⟩ (fun q_31 H locs hq32 hP hD hS => ?_)
              have hP : va_P g.1 vwCl (List.flatten [bMo g o a 0 hi ac tp ba en tA fl de iD iO tU fm fk fa fc ft ff fb fi]) H := hP
              have hD : va_D A (List.flatten [bMo g o a 0 hi ac tp ba en tA fl de iD iO tU fm fk fa fc ft ff fb fi]) := hD
              refine W.widen (k := 0) (n := 0) (Nat.le_of_ble_eq_true rfl) (Nat.le_of_ble_eq_true rfl) ?_
              refine W.eq (g2 := F0 m 82 ls [.int q_31]) rfl ?_
              refine lv_istore (lv' := [(4, .int q_31), (3, .int x_30), (0, .ref o), (1, .int w), (2, .int day), (5, .int x_9)]) hx hb dX12_led_82 hl (by decide) rfl (fun ls hl => ?_)
              refine ziinc3 (n' := (-1)) (a' := (-1)) (b' := 58) (lv' := fun v9 => [(5, .int v9), (4, .int q_31), (3, .int x_30), (0, .ref o), (1, .int w), (2, .int day)]) hx hb dX12_led_84 hl (k := 5) rfl (by decide) (fun _ => rfl) (zaddK (i := x_9.toInt) (j := (-1)) rfl (by decide) n20 i10.2 (Int.le_refl _) (Int.le_refl _) (by decide)) (fun x_33 ls hx_33 hl => ?_)
              refine lv_goto (tgt := 42) hx hb dX12_led_87 (by decide) ?_
              have hl := lv_sub (l' := [(0, .ref o), (1, .int w), (2, .int day), (3, .int x_30), (4, .int q_31), (5, .int x_33)]) hl [3, 4, 5, 2, 1, 0] rfl
              have hP : va_P g.1 vwCl (List.flatten [bMo g o a 0 hi ac tp ba en tA fl de iD iO tU fm fk fa fc ft ff fb fi]) H := hP
              have hD : va_D A (List.flatten [bMo g o a 0 hi ac tp ba en tA fl de iD iO tU fm fk fa fc ft ff fb fi]) := hD
              exact ih42_12 x_30 q_31 x_33 ⟨hx_33.2.1, (Int.le_trans hx_33.2.2 (by decide))⟩ H _ ls (zmKd hx_33.1 (by decide) n20 (by decide) hk42_12)  hP hD hS (lv_sub hl [0, 1, 2, 3, 4, 5] rfl)
            · skip
              have c34 : 1 < q_26.toInt := zlti (Int32.not_le.mp cb9) (by decide) rfl
              have n35 : 2 ≤ q_26.toInt := zL2 (a := 1) c34 (Int.le_refl _) (by decide)
              refine lv_goto (tgt := 84) hx hb dX12_led_69 (by decide) ?_
              refine ziinc3 (n' := (-1)) (a' := (-1)) (b' := 58) (lv' := fun v9 => [(5, .int v9), (0, .ref o), (1, .int w), (2, .int day), (3, .int x_7), (4, .int x_8)]) hx hb dX12_led_84 hl (k := 5) rfl (by decide) (fun _ => rfl) (zaddK (i := x_9.toInt) (j := (-1)) rfl (by decide) n20 i10.2 (Int.le_refl _) (Int.le_refl _) (by decide)) (fun x_36 ls hx_36 hl => ?_)
              refine lv_goto (tgt := 42) hx hb dX12_led_87 (by decide) ?_
              have hl := lv_sub (l' := [(0, .ref o), (1, .int w), (2, .int day), (3, .int x_7), (4, .int x_8), (5, .int x_36)]) hl [1, 2, 3, 4, 5, 0] rfl
              have hP : va_P g.1 vwCl (List.flatten [bMo g o a 0 hi ac tp ba en tA fl de iD iO tU fm fk fa fc ft ff fb fi]) H := hP
              have hD : va_D A (List.flatten [bMo g o a 0 hi ac tp ba en tA fl de iD iO tU fm fk fa fc ft ff fb fi]) := hD
              exact ih42_12 x_7 x_8 x_36 ⟨hx_36.2.1, (Int.le_trans hx_36.2.2 (by decide))⟩ H _ ls (zmKd hx_36.1 (by decide) n20 (by decide) hk42_12)  hP hD hS (lv_sub hl [0, 1, 2, 3, 4, 5] rfl)
    have hP : va_P g.1 vwCl (List.flatten [bMo g o a 0 hi ac tp ba en tA fl de iD iO tU fm fk fa fc ft ff fb fi]) H := hP
    have hD : va_D A (List.flatten [bMo g o a 0 hi ac tp ba en tA fl de iD iO tU fm fk fa fc ft ff fb fi]) := hD
    exact LP42_11 _ 0 (-1) x_6 ⟨hx_6.2.1, hx_6.2.2⟩ H _ ls (Nat.lt_succ_self _)  hP hD hS (lv_sub hl [0, 1, 2, 3, 4, 5] rfl)
  · skip
    refine lv_if_ne (tgt := 13) hx hb dX12_led_6 (by decide) (fun c37 => absurd (by decide) c37) (fun _ => ?_)
    refine lv_iconst (v := 1) hx hb dX12_led_9 (by decide) ?_
    refine lv_goto (tgt := 14) hx hb dX12_led_10 (by decide) ?_
    refine va_put (D := g.1) (ci := 10) (v := .int 1) (ty := .int) (C := RX12) (T := TX12) (N := 20) hx hb hts izRX12 tyX12 tyX12_ok nmX12 hown hK hP hD hS 0 rfl rfl 0 (by decide) (hts _ k825) (fun _ h9 => h9) rfl (by decide +kernel) rfl rfl (Nat.le_of_ble_eq_true rfl) dX12_led_14 (fun H locs hP hD hS => ?_)
    have hP : va_P g.1 vwCl (List.flatten [bMo g o a 1 hi ac tp ba en tA fl de iD iO tU fm fk fa fc ft ff fb fi]) H := hP
    have hD : va_D A (List.flatten [bMo g o a 1 hi ac tp ba en tA fl de iD iO tU fm fk fa fc ft ff fb fi]) := hD
    refine lv_aload_n hx hb dX12_led_17 rfl (lv_at hl 0 rfl) ?_
    refine va_get (D := g.1) (ci := 10) (v := .int 1) (C := RX12) (T := TX12) (N := 20) hx hb hts izRX12 hown hK hP 0 rfl rfl 0 (by decide) (hts _ k825) (fun _ h9 => h9) rfl dX12_led_18 ?_
    refine lv_if_le (tgt := 26) hx hb dX12_led_21 (by decide) (fun c38 => absurd c38 (by decide)) (fun _ => ?_)
    refine lv_iconst (v := 0) hx hb dX12_led_24 (by decide) ?_
    have hP : va_P g.1 vwCl (List.flatten [bMo g o a 1 hi ac tp ba en tA fl de iD iO tU fm fk fa fc ft ff fb fi]) H := hP
    have hD : va_D A (List.flatten [bMo g o a 1 hi ac tp ba en tA fl de iD iO tU fm fk fa fc ft ff fb fi]) := hD
    exact mret_i hx hb hr hlocks hS (Nat.le_of_ble_eq_true rfl) (Nat.le_of_ble_eq_true rfl) dX12_led_25 ((1 : Int32), (0 : Int32)) rfl trivial hP hD
set_option maxRecDepth 100000 in
set_option maxHeartbeats 4000000 in
theorem m_log (l : Launch) (g : zG) (o : Nat) (a : Nat → Nat) (th : Int32) (hi : Int32) (ac : Int32) (tp : Int32) (ba : Int32) (en : Int32) (tA : Int32) (fl : Int32) (de : Int32) (iD : Int32) (iO : Int32) (tU : Int32) (fm : Nat → Int32) (fk : Nat → Int32) (fa : Nat → Int32) (fc : Nat → Int32) (ft : Nat → Int32) (ff : Nat → Int32) (fb : Nat → Int32) (fi : Nat → Int32) (ago : Int32) (what : Int32) (rfm : rM fm) : zM' g l yX12_log (Cond.code yX12_log cX12_log 3 (some .int) :: zB) ({ frames := 1, cells := 0, slots := 0, locals := 22 } : Room) [.ref o, .int ago, .int what] [bMo g o a th hi ac tp ba en tA fl de iD iO tU fm fk fa fc ft ff fb fi] (fun u : Int32 × Int32 => (fun (th2 : Int32) (q : Int32) => some (.int q)) (u.1) (u.2)) (fun u : Int32 × Int32 => (fun (th2 : Int32) (q : Int32) => True) (u.1) (u.2)) (fun u : Int32 × Int32 => (fun (th2 : Int32) (q : Int32) => [bMo g o a th2 hi ac tp ba en tA fl de iD iO tU fm fk fa fc ft ff fb fi]) (u.1) (u.2)) := by
  refine zM'.of (cc := cX12_log) (maxL := 3) (rt := (some .int)) (by decide) rfl (Nat.le_of_ble_eq_true rfl) ?_
  intro p e s m args below meth c A ls St hr hlocks hin hK hT hA hP hD hS hl
  obtain ⟨hx, hb, hml, hown, hts⟩ := id St
  have hl : lv_has ls 3 [(0, .ref o), (1, .int ago), (2, .int what)] := hl
  refine lv_aload_n hx hb dX12_log_0 rfl (lv_at hl 0 rfl) ?_
  refine lv_iload_n hx hb dX12_log_1 rfl (lv_at hl 2 rfl) ?_
  refine lv_iconst (v := 0) hx hb dX12_log_2 (by decide) ?_
  refine lv_iconst (v := 3) hx hb dX12_log_3 (by decide) ?_
  have hL0 : (0 : Int32).toInt = 0 := by decide
  have hL3 : (3 : Int32).toInt = 3 := by decide
  refine mcallS' (g := g) (As := [.int what, .int 0, .int 3]) (rest := [.ref o]) St hK hT hA hP hD hS hl.1 [] [0] rfl rfl rfl (m_isIn l g what 0 3 ) (va_cwS 3 hts (zgL (zl3 k837 k838 k839) k826) rfl rfl rfl (by decide +kernel) ⟨Nat.le_of_ble_eq_true rfl, Nat.le_of_ble_eq_true rfl⟩) rfl rfl (Nat.le_of_ble_eq_true rfl) dX12_log_4 ⟨(Nat.le_of_ble_eq_true rfl), (Nat.le_of_ble_eq_true rfl)⟩ (fun q_1 H locs hq2 hP hD hS => ?_)
  replace hq2 : (q_1 = 1 ∧ (0 : Int32).toInt ≤ what.toInt ∧ what.toInt ≤ (3 : Int32).toInt ∨ q_1 = 0 ∧ (what.toInt < (0 : Int32).toInt ∨ (3 : Int32).toInt < what.toInt)) := hq2
  have hP : va_P g.1 vwCl (List.flatten [bMo g o a th hi ac tp ba en tA fl de iD iO tU fm fk fa fc ft ff fb fi]) H := hP
  have hD : va_D A (List.flatten [bMo g o a th hi ac tp ba en tA fl de iD iO tU fm fk fa fc ft ff fb fi]) := hD
  refine W.widen (k := 0) (n := 0) (Nat.le_of_ble_eq_true rfl) (Nat.le_of_ble_eq_true rfl) ?_
  refine W.eq (g2 := F0 m 7 ls [.int q_1, .ref o]) rfl ?_
  rcases hq2 with ⟨rfl, hq2_k⟩ | ⟨rfl, hq2_k⟩
  · skip
    refine lv_if_ne (tgt := 14) hx hb dX12_log_7 (by decide) (fun _ => ?_) (fun c3 => absurd c3 (by decide))
    refine lv_iconst (v := 0) hx hb dX12_log_14 (by decide) ?_
    refine va_put (D := g.1) (ci := 10) (v := .int 0) (ty := .int) (C := RX12) (T := TX12) (N := 20) hx hb hts izRX12 tyX12 tyX12_ok nmX12 hown hK hP hD hS 0 rfl rfl 0 (by decide) (hts _ k825) (fun _ h9 => h9) rfl (by decide +kernel) rfl rfl (Nat.le_of_ble_eq_true rfl) dX12_log_15 (fun H locs hP hD hS => ?_)
    have hP : va_P g.1 vwCl (List.flatten [bMo g o a 0 hi ac tp ba en tA fl de iD iO tU fm fk fa fc ft ff fb fi]) H := hP
    have hD : va_D A (List.flatten [bMo g o a 0 hi ac tp ba en tA fl de iD iO tU fm fk fa fc ft ff fb fi]) := hD
    refine lv_aload_n hx hb dX12_log_18 rfl (lv_at hl 0 rfl) ?_
    refine va_get (D := g.1) (ci := 10) (v := .int 0) (C := RX12) (T := TX12) (N := 20) hx hb hts izRX12 hown hK hP 0 rfl rfl 0 (by decide) (hts _ k825) (fun _ h9 => h9) rfl dX12_log_19 ?_
    refine lv_if_le (tgt := 27) hx hb dX12_log_22 (by decide) (fun _ => ?_) (fun c4 => absurd (by decide) c4)
    refine lv_iload_n hx hb dX12_log_27 rfl (lv_at hl 1 rfl) ?_
    refine lv_iconst (v := 0) hx hb dX12_log_28 (by decide) ?_
    refine lv_aload_n hx hb dX12_log_29 rfl (lv_at hl 0 rfl) ?_
    refine va_get (D := g.1) (ci := 10) (v := .ref (a 0)) (C := RX12) (T := TX12) (N := 20) hx hb hts izRX12 hown hK hP 0 rfl rfl 1 (by decide) (hts _ k815) (fun _ h9 => h9) rfl dX12_log_30 ?_
    refine lv_bipush (v := 9) hx hb dX12_log_33 (by decide) ?_
    refine va_iald hx hb hK hP 1 0 rfl rfl (zin rfl) dX12_log_35 ?_
    refine zgq (r := fm 9) rfl (rM9 rfm) (fun x_5 hx_5 => ?_)
    refine lv_iconst (v := 1) hx hb dX12_log_36 (by decide) ?_
    refine lv_isub hx hb dX12_log_37 ?_
    refine zg3 (zsubK (i := x_5.toInt) (j := 1) (a' := (-1)) (b' := 59) rfl (by decide) hx_5.1 hx_5.2.1 (Int.le_refl _) (Int.le_refl _) (by decide)) (fun x_6 hx_6 => ?_)
    refine mcallS' (g := g) (As := [.int ago, .int 0, .int x_6]) (rest := []) St hK hT hA hP hD hS hl.1 [] [0] rfl rfl rfl (m_isIn l g ago 0 x_6 ) (va_cwS 3 hts (zgL (zl3 k837 k838 k839) k826) rfl rfl rfl (by decide +kernel) ⟨Nat.le_of_ble_eq_true rfl, Nat.le_of_ble_eq_true rfl⟩) rfl rfl (Nat.le_of_ble_eq_true rfl) dX12_log_38 ⟨(Nat.le_of_ble_eq_true rfl), (Nat.le_of_ble_eq_true rfl)⟩ (fun q_7 H locs hq8 hP hD hS => ?_)
    replace hq8 : (q_7 = 1 ∧ (0 : Int32).toInt ≤ ago.toInt ∧ ago.toInt ≤ x_6.toInt ∨ q_7 = 0 ∧ (ago.toInt < (0 : Int32).toInt ∨ x_6.toInt < ago.toInt)) := hq8
    have hP : va_P g.1 vwCl (List.flatten [bMo g o a 0 hi ac tp ba en tA fl de iD iO tU fm fk fa fc ft ff fb fi]) H := hP
    have hD : va_D A (List.flatten [bMo g o a 0 hi ac tp ba en tA fl de iD iO tU fm fk fa fc ft ff fb fi]) := hD
    refine W.widen (k := 0) (n := 0) (Nat.le_of_ble_eq_true rfl) (Nat.le_of_ble_eq_true rfl) ?_
    refine W.eq (g2 := F0 m 41 ls [.int q_7]) rfl ?_
    rcases hq8 with ⟨rfl, hq8_k⟩ | ⟨rfl, hq8_k⟩
    · skip
      refine lv_if_eq (tgt := 53) hx hb dX12_log_41 (by decide) (fun c9 => absurd c9 (by decide)) (fun _ => ?_)
      refine lv_aload_n hx hb dX12_log_44 rfl (lv_at hl 0 rfl) ?_
      refine lv_iload_n hx hb dX12_log_45 rfl (lv_at hl 1 rfl) ?_
      refine lv_iload_n hx hb dX12_log_46 rfl (lv_at hl 2 rfl) ?_
      refine mcallV' (g := g) (q0 := 0) (ci := 10) (As := [.int ago, .int what]) (rest := []) St hK hT hA hP hD hS hl.1 [0] [] rfl rfl rfl (m_logged l g o a 0 hi ac tp ba en tA fl de iD iO tU fm fk fa fc ft ff fb fi ago what (by first | assumption | omega | decide | exact Or.inl (by decide) | exact Or.inr (by decide)) (by first | assumption | omega | decide | exact Or.inl (by decide) | exact Or.inr (by decide))) (cwV 2 hts (zgL (zl4 k1139 k1140 k1141 k839) k1137) rfl rfl rfl (by decide +kernel) ⟨Nat.le_of_ble_eq_true rfl, Nat.le_of_ble_eq_true rfl⟩) rfl rfl rfl rfl (Nat.le_of_ble_eq_true rfl) dX12_log_47 ⟨(Nat.le_of_ble_eq_true rfl), (Nat.le_of_ble_eq_true rfl)⟩ (fun q_10 H locs hq11 hP hD hS => ?_)
      have hP : va_P g.1 vwCl (List.flatten [bMo g o a 0 hi ac tp ba en tA fl de iD iO tU fm fk fa fc ft ff fb fi]) H := hP
      have hD : va_D A (List.flatten [bMo g o a 0 hi ac tp ba en tA fl de iD iO tU fm fk fa fc ft ff fb fi]) := hD
      refine W.widen (k := 0) (n := 0) (Nat.le_of_ble_eq_true rfl) (Nat.le_of_ble_eq_true rfl) ?_
      refine W.eq (g2 := F0 m 50 ls [.int q_10]) rfl ?_
      refine lv_goto (tgt := 54) hx hb dX12_log_50 (by decide) ?_
      have hP : va_P g.1 vwCl (List.flatten [bMo g o a 0 hi ac tp ba en tA fl de iD iO tU fm fk fa fc ft ff fb fi]) H := hP
      have hD : va_D A (List.flatten [bMo g o a 0 hi ac tp ba en tA fl de iD iO tU fm fk fa fc ft ff fb fi]) := hD
      exact mret_i hx hb hr hlocks hS (Nat.le_of_ble_eq_true rfl) (Nat.le_of_ble_eq_true rfl) dX12_log_54 ((0 : Int32), q_10) rfl trivial hP hD
    · skip
      refine lv_if_eq (tgt := 53) hx hb dX12_log_41 (by decide) (fun _ => ?_) (fun c12 => absurd (by decide) c12)
      refine lv_iconst (v := (-1)) hx hb dX12_log_53 (by decide) ?_
      have hP : va_P g.1 vwCl (List.flatten [bMo g o a 0 hi ac tp ba en tA fl de iD iO tU fm fk fa fc ft ff fb fi]) H := hP
      have hD : va_D A (List.flatten [bMo g o a 0 hi ac tp ba en tA fl de iD iO tU fm fk fa fc ft ff fb fi]) := hD
      exact mret_i hx hb hr hlocks hS (Nat.le_of_ble_eq_true rfl) (Nat.le_of_ble_eq_true rfl) dX12_log_54 ((0 : Int32), -1) rfl trivial hP hD
  · skip
    refine lv_if_ne (tgt := 14) hx hb dX12_log_7 (by decide) (fun c13 => absurd (by decide) c13) (fun _ => ?_)
    refine lv_iconst (v := 1) hx hb dX12_log_10 (by decide) ?_
    refine lv_goto (tgt := 15) hx hb dX12_log_11 (by decide) ?_
    refine va_put (D := g.1) (ci := 10) (v := .int 1) (ty := .int) (C := RX12) (T := TX12) (N := 20) hx hb hts izRX12 tyX12 tyX12_ok nmX12 hown hK hP hD hS 0 rfl rfl 0 (by decide) (hts _ k825) (fun _ h9 => h9) rfl (by decide +kernel) rfl rfl (Nat.le_of_ble_eq_true rfl) dX12_log_15 (fun H locs hP hD hS => ?_)
    have hP : va_P g.1 vwCl (List.flatten [bMo g o a 1 hi ac tp ba en tA fl de iD iO tU fm fk fa fc ft ff fb fi]) H := hP
    have hD : va_D A (List.flatten [bMo g o a 1 hi ac tp ba en tA fl de iD iO tU fm fk fa fc ft ff fb fi]) := hD
    refine lv_aload_n hx hb dX12_log_18 rfl (lv_at hl 0 rfl) ?_
    refine va_get (D := g.1) (ci := 10) (v := .int 1) (C := RX12) (T := TX12) (N := 20) hx hb hts izRX12 hown hK hP 0 rfl rfl 0 (by decide) (hts _ k825) (fun _ h9 => h9) rfl dX12_log_19 ?_
    refine lv_if_le (tgt := 27) hx hb dX12_log_22 (by decide) (fun c14 => absurd c14 (by decide)) (fun _ => ?_)
    refine lv_iconst (v := 0) hx hb dX12_log_25 (by decide) ?_
    have hP : va_P g.1 vwCl (List.flatten [bMo g o a 1 hi ac tp ba en tA fl de iD iO tU fm fk fa fc ft ff fb fi]) H := hP
    have hD : va_D A (List.flatten [bMo g o a 1 hi ac tp ba en tA fl de iD iO tU fm fk fa fc ft ff fb fi]) := hD
    exact mret_i hx hb hr hlocks hS (Nat.le_of_ble_eq_true rfl) (Nat.le_of_ble_eq_true rfl) dX12_log_26 ((1 : Int32), (0 : Int32)) rfl trivial hP hD
set_option maxRecDepth 100000 in
set_option maxHeartbeats 4000000 in
theorem m_count (l : Launch) (g : zG) (o : Nat) (a : Nat → Nat) (th : Int32) (hi : Int32) (ac : Int32) (tp : Int32) (ba : Int32) (en : Int32) (tA : Int32) (fl : Int32) (de : Int32) (iD : Int32) (iO : Int32) (tU : Int32) (fm : Nat → Int32) (fk : Nat → Int32) (fa : Nat → Int32) (fc : Nat → Int32) (ft : Nat → Int32) (ff : Nat → Int32) (fb : Nat → Int32) (fi : Nat → Int32) (what : Int32) (rfm : rM fm) : zM' g l yX12_count (Cond.code yX12_count cX12_count 2 (some .int) :: zB) ({ frames := 3, cells := 0, slots := 0, locals := 65 } : Room) [.ref o, .int what] [bMo g o a th hi ac tp ba en tA fl de iD iO tU fm fk fa fc ft ff fb fi] (fun u : Int32 × Int32 => (fun (th2 : Int32) (q : Int32) => some (.int q)) (u.1) (u.2)) (fun u : Int32 × Int32 => (fun (th2 : Int32) (q : Int32) => True) (u.1) (u.2)) (fun u : Int32 × Int32 => (fun (th2 : Int32) (q : Int32) => [bMo g o a th2 hi ac tp ba en tA fl de iD iO tU fm fk fa fc ft ff fb fi]) (u.1) (u.2)) := by
  refine zM'.of (cc := cX12_count) (maxL := 2) (rt := (some .int)) (by decide) rfl (Nat.le_of_ble_eq_true rfl) ?_
  intro p e s m args below meth c A ls St hr hlocks hin hK hT hA hP hD hS hl
  obtain ⟨hx, hb, hml, hown, hts⟩ := id St
  have hl : lv_has ls 2 [(0, .ref o), (1, .int what)] := hl
  refine lv_aload_n hx hb dX12_count_0 rfl (lv_at hl 0 rfl) ?_
  refine lv_iconst (v := 0) hx hb dX12_count_1 (by decide) ?_
  refine va_put (D := g.1) (ci := 10) (v := .int 0) (ty := .int) (C := RX12) (T := TX12) (N := 20) hx hb hts izRX12 tyX12 tyX12_ok nmX12 hown hK hP hD hS 0 rfl rfl 0 (by decide) (hts _ k825) (fun _ h9 => h9) rfl (by decide +kernel) rfl rfl (Nat.le_of_ble_eq_true rfl) dX12_count_2 (fun H locs hP hD hS => ?_)
  have hP : va_P g.1 vwCl (List.flatten [bMo g o a 0 hi ac tp ba en tA fl de iD iO tU fm fk fa fc ft ff fb fi]) H := hP
  have hD : va_D A (List.flatten [bMo g o a 0 hi ac tp ba en tA fl de iD iO tU fm fk fa fc ft ff fb fi]) := hD
  refine lv_iload_n hx hb dX12_count_5 rfl (lv_at hl 1 rfl) ?_
  refine lv_if_ne (tgt := 16) hx hb dX12_count_6 (by decide) (fun cb9 => ?_) (fun cb9 => ?_)
  · skip
    have c1 : ¬ what.toInt = 0 := zne cb9 rfl (by decide)
    refine lv_iload_n hx hb dX12_count_16 rfl (lv_at hl 1 rfl) ?_
    refine lv_iconst (v := 1) hx hb dX12_count_17 (by decide) ?_
    refine lv_icmp_ne (tgt := 28) hx hb dX12_count_18 (by decide) (fun cb9 => ?_) (fun cb9 => ?_)
    · skip
      have c2 : ¬ what.toInt = 1 := zne cb9 rfl (by decide)
      refine lv_iload_n hx hb dX12_count_28 rfl (lv_at hl 1 rfl) ?_
      refine lv_iconst (v := 2) hx hb dX12_count_29 (by decide) ?_
      refine lv_icmp_ne (tgt := 40) hx hb dX12_count_30 (by decide) (fun cb9 => ?_) (fun cb9 => ?_)
      · skip
        have c3 : ¬ what.toInt = 2 := zne cb9 rfl (by decide)
        refine lv_iload_n hx hb dX12_count_40 rfl (lv_at hl 1 rfl) ?_
        refine lv_iconst (v := 3) hx hb dX12_count_41 (by decide) ?_
        refine lv_icmp_ne (tgt := 52) hx hb dX12_count_42 (by decide) (fun cb9 => ?_) (fun cb9 => ?_)
        · skip
          have c4 : ¬ what.toInt = 3 := zne cb9 rfl (by decide)
          refine lv_iload_n hx hb dX12_count_52 rfl (lv_at hl 1 rfl) ?_
          refine lv_iconst (v := 4) hx hb dX12_count_53 (by decide) ?_
          refine lv_icmp_ne (tgt := 65) hx hb dX12_count_54 (by decide) (fun cb9 => ?_) (fun cb9 => ?_)
          · skip
            have c5 : ¬ what.toInt = 4 := zne cb9 rfl (by decide)
            refine lv_iload_n hx hb dX12_count_65 rfl (lv_at hl 1 rfl) ?_
            refine lv_iconst (v := 5) hx hb dX12_count_66 (by decide) ?_
            refine lv_icmp_ne (tgt := 77) hx hb dX12_count_67 (by decide) (fun cb9 => ?_) (fun cb9 => ?_)
            · skip
              have c6 : ¬ what.toInt = 5 := zne cb9 rfl (by decide)
              refine lv_iload_n hx hb dX12_count_77 rfl (lv_at hl 1 rfl) ?_
              refine lv_bipush (v := 6) hx hb dX12_count_78 (by decide) ?_
              refine lv_icmp_ne (tgt := 88) hx hb dX12_count_80 (by decide) (fun cb9 => ?_) (fun cb9 => ?_)
              · skip
                have c7 : ¬ what.toInt = 6 := zne cb9 rfl (by decide)
                refine lv_iload_n hx hb dX12_count_88 rfl (lv_at hl 1 rfl) ?_
                refine lv_bipush (v := 7) hx hb dX12_count_89 (by decide) ?_
                refine lv_icmp_ne (tgt := 99) hx hb dX12_count_91 (by decide) (fun cb9 => ?_) (fun cb9 => ?_)
                · skip
                  have c8 : ¬ what.toInt = 7 := zne cb9 rfl (by decide)
                  refine lv_iload_n hx hb dX12_count_99 rfl (lv_at hl 1 rfl) ?_
                  refine lv_bipush (v := 8) hx hb dX12_count_100 (by decide) ?_
                  refine lv_bipush (v := 9) hx hb dX12_count_102 (by decide) ?_
                  have hL8 : (8 : Int32).toInt = 8 := by decide
                  have hL9 : (9 : Int32).toInt = 9 := by decide
                  refine mcallS' (g := g) (As := [.int what, .int 8, .int 9]) (rest := []) St hK hT hA hP hD hS hl.1 [] [0] rfl rfl rfl (m_isIn l g what 8 9 ) (va_cwS 3 hts (zgL (zl3 k837 k838 k839) k826) rfl rfl rfl (by decide +kernel) ⟨Nat.le_of_ble_eq_true rfl, Nat.le_of_ble_eq_true rfl⟩) rfl rfl (Nat.le_of_ble_eq_true rfl) dX12_count_104 ⟨(Nat.le_of_ble_eq_true rfl), (Nat.le_of_ble_eq_true rfl)⟩ (fun q_9 H locs hq10 hP hD hS => ?_)
                  replace hq10 : (q_9 = 1 ∧ (8 : Int32).toInt ≤ what.toInt ∧ what.toInt ≤ (9 : Int32).toInt ∨ q_9 = 0 ∧ (what.toInt < (8 : Int32).toInt ∨ (9 : Int32).toInt < what.toInt)) := hq10
                  have hP : va_P g.1 vwCl (List.flatten [bMo g o a 0 hi ac tp ba en tA fl de iD iO tU fm fk fa fc ft ff fb fi]) H := hP
                  have hD : va_D A (List.flatten [bMo g o a 0 hi ac tp ba en tA fl de iD iO tU fm fk fa fc ft ff fb fi]) := hD
                  refine W.widen (k := 0) (n := 0) (Nat.le_of_ble_eq_true rfl) (Nat.le_of_ble_eq_true rfl) ?_
                  refine W.eq (g2 := F0 m 107 ls [.int q_9]) rfl ?_
                  rcases hq10 with ⟨rfl, hq10_k⟩ | ⟨rfl, hq10_k⟩
                  · skip
                    refine lv_if_eq (tgt := 119) hx hb dX12_count_107 (by decide) (fun c11 => absurd c11 (by decide)) (fun _ => ?_)
                    refine lv_aload_n hx hb dX12_count_110 rfl (lv_at hl 0 rfl) ?_
                    refine lv_iload_n hx hb dX12_count_111 rfl (lv_at hl 1 rfl) ?_
                    refine lv_bipush (v := 7) hx hb dX12_count_112 (by decide) ?_
                    refine lv_isub hx hb dX12_count_114 ?_
                    refine zgv (zsub (i := what.toInt) (j := 7) rfl (by decide) (by omega)) (fun x_12 hx_12 => ?_)
                    refine mcallV' (g := g) (q0 := 0) (ci := 10) (As := [.int x_12]) (rest := []) St hK hT hA hP hD hS hl.1 [0] [] rfl rfl rfl (m_worksOf l g o a 0 hi ac tp ba en tA fl de iD iO tU fm fk fa fc ft ff fb fi x_12 rfm) (cwV 1 hts (zgL (zl4 k990 k991 k992 k839) k863) rfl rfl rfl (by decide +kernel) ⟨Nat.le_of_ble_eq_true rfl, Nat.le_of_ble_eq_true rfl⟩) rfl rfl rfl rfl (Nat.le_of_ble_eq_true rfl) dX12_count_115 ⟨(Nat.le_of_ble_eq_true rfl), (Nat.le_of_ble_eq_true rfl)⟩ (fun q_13 H locs hq14 hP hD hS => ?_)
                    have hP : va_P g.1 vwCl (List.flatten [bMo g o a 0 hi ac tp ba en tA fl de iD iO tU fm fk fa fc ft ff fb fi]) H := hP
                    have hD : va_D A (List.flatten [bMo g o a 0 hi ac tp ba en tA fl de iD iO tU fm fk fa fc ft ff fb fi]) := hD
                    refine W.widen (k := 0) (n := 0) (Nat.le_of_ble_eq_true rfl) (Nat.le_of_ble_eq_true rfl) ?_
                    refine W.eq (g2 := F0 m 118 ls [.int q_13]) rfl ?_
                    have hP : va_P g.1 vwCl (List.flatten [bMo g o a 0 hi ac tp ba en tA fl de iD iO tU fm fk fa fc ft ff fb fi]) H := hP
                    have hD : va_D A (List.flatten [bMo g o a 0 hi ac tp ba en tA fl de iD iO tU fm fk fa fc ft ff fb fi]) := hD
                    exact mret_i hx hb hr hlocks hS (Nat.le_of_ble_eq_true rfl) (Nat.le_of_ble_eq_true rfl) dX12_count_118 ((0 : Int32), q_13) rfl trivial hP hD
                  · skip
                    refine lv_if_eq (tgt := 119) hx hb dX12_count_107 (by decide) (fun _ => ?_) (fun c15 => absurd (by decide) c15)
                    refine lv_iload_n hx hb dX12_count_119 rfl (lv_at hl 1 rfl) ?_
                    refine lv_bipush (v := 10) hx hb dX12_count_120 (by decide) ?_
                    refine lv_icmp_ne (tgt := 130) hx hb dX12_count_122 (by decide) (fun cb9 => ?_) (fun cb9 => ?_)
                    · skip
                      have c16 : ¬ what.toInt = 10 := zne cb9 rfl (by decide)
                      refine lv_iload_n hx hb dX12_count_130 rfl (lv_at hl 1 rfl) ?_
                      refine lv_bipush (v := 11) hx hb dX12_count_131 (by decide) ?_
                      refine lv_icmp_ne (tgt := 144) hx hb dX12_count_133 (by decide) (fun cb9 => ?_) (fun cb9 => ?_)
                      · skip
                        have c17 : ¬ what.toInt = 11 := zne cb9 rfl (by decide)
                        refine lv_iload_n hx hb dX12_count_144 rfl (lv_at hl 1 rfl) ?_
                        refine lv_bipush (v := 12) hx hb dX12_count_145 (by decide) ?_
                        refine lv_icmp_ne (tgt := 157) hx hb dX12_count_147 (by decide) (fun cb9 => ?_) (fun cb9 => ?_)
                        · skip
                          have c18 : ¬ what.toInt = 12 := zne cb9 rfl (by decide)
                          refine lv_iconst (v := (-1)) hx hb dX12_count_157 (by decide) ?_
                          have hP : va_P g.1 vwCl (List.flatten [bMo g o a 0 hi ac tp ba en tA fl de iD iO tU fm fk fa fc ft ff fb fi]) H := hP
                          have hD : va_D A (List.flatten [bMo g o a 0 hi ac tp ba en tA fl de iD iO tU fm fk fa fc ft ff fb fi]) := hD
                          exact mret_i hx hb hr hlocks hS (Nat.le_of_ble_eq_true rfl) (Nat.le_of_ble_eq_true rfl) dX12_count_158 ((0 : Int32), -1) rfl trivial hP hD
                        · skip
                          have c19 : what.toInt = 12 := zeq cb9 rfl (by decide)
                          have n20 : 12 ≤ what.toInt := Int.le_trans (Int.le_refl _) (Int.le_of_eq c19.symm)
                          have n21 : what.toInt ≤ 12 := Int.le_trans (Int.le_of_eq c19) (Int.le_refl _)
                          refine lv_aload_n hx hb dX12_count_150 rfl (lv_at hl 0 rfl) ?_
                          refine va_get (D := g.1) (ci := 10) (v := .int ac) (C := RX12) (T := TX12) (N := 20) hx hb hts izRX12 hown hK hP 0 rfl rfl 6 (by decide) (hts _ k974) (fun _ h9 => h9) rfl dX12_count_151 ?_
                          refine lv_goto (tgt := 158) hx hb dX12_count_154 (by decide) ?_
                          have hP : va_P g.1 vwCl (List.flatten [bMo g o a 0 hi ac tp ba en tA fl de iD iO tU fm fk fa fc ft ff fb fi]) H := hP
                          have hD : va_D A (List.flatten [bMo g o a 0 hi ac tp ba en tA fl de iD iO tU fm fk fa fc ft ff fb fi]) := hD
                          exact mret_i hx hb hr hlocks hS (Nat.le_of_ble_eq_true rfl) (Nat.le_of_ble_eq_true rfl) dX12_count_158 ((0 : Int32), ac) rfl trivial hP hD
                      · skip
                        have c22 : what.toInt = 11 := zeq cb9 rfl (by decide)
                        have n23 : 11 ≤ what.toInt := Int.le_trans (Int.le_refl _) (Int.le_of_eq c22.symm)
                        have n24 : what.toInt ≤ 11 := Int.le_trans (Int.le_of_eq c22) (Int.le_refl _)
                        refine lv_aload_n hx hb dX12_count_136 rfl (lv_at hl 0 rfl) ?_
                        refine va_get (D := g.1) (ci := 10) (v := .ref (a 0)) (C := RX12) (T := TX12) (N := 20) hx hb hts izRX12 hown hK hP 0 rfl rfl 1 (by decide) (hts _ k815) (fun _ h9 => h9) rfl dX12_count_137 ?_
                        refine lv_bipush (v := 9) hx hb dX12_count_140 (by decide) ?_
                        refine va_iald hx hb hK hP 1 0 rfl rfl (zin rfl) dX12_count_142 ?_
                        refine zgq (r := fm 9) rfl (rM9 rfm) (fun x_25 hx_25 => ?_)
                        have hP : va_P g.1 vwCl (List.flatten [bMo g o a 0 hi ac tp ba en tA fl de iD iO tU fm fk fa fc ft ff fb fi]) H := hP
                        have hD : va_D A (List.flatten [bMo g o a 0 hi ac tp ba en tA fl de iD iO tU fm fk fa fc ft ff fb fi]) := hD
                        exact mret_i hx hb hr hlocks hS (Nat.le_of_ble_eq_true rfl) (Nat.le_of_ble_eq_true rfl) dX12_count_143 ((0 : Int32), x_25) rfl trivial hP hD
                    · skip
                      have c26 : what.toInt = 10 := zeq cb9 rfl (by decide)
                      have n27 : 10 ≤ what.toInt := Int.le_trans (Int.le_refl _) (Int.le_of_eq c26.symm)
                      have n28 : what.toInt ≤ 10 := Int.le_trans (Int.le_of_eq c26) (Int.le_refl _)
                      refine lv_aload_n hx hb dX12_count_125 rfl (lv_at hl 0 rfl) ?_
                      refine mcallV' (g := g) (q0 := 0) (ci := 10) (As := []) (rest := []) St hK hT hA hP hD hS hl.1 [0] [] rfl rfl rfl (m_sharesOfAll l g o a 0 hi ac tp ba en tA fl de iD iO tU fm fk fa fc ft ff fb fi rfm) (cwV 0 hts (zgL (zl4 k1149 k1150 k1151 k839) k1148) rfl rfl rfl (by decide +kernel) ⟨Nat.le_of_ble_eq_true rfl, Nat.le_of_ble_eq_true rfl⟩) rfl rfl rfl rfl (Nat.le_of_ble_eq_true rfl) dX12_count_126 ⟨(Nat.le_of_ble_eq_true rfl), (Nat.le_of_ble_eq_true rfl)⟩ (fun q_29 H locs hq30 hP hD hS => ?_)
                      have hP : va_P g.1 vwCl (List.flatten [bMo g o a 0 hi ac tp ba en tA fl de iD iO tU fm fk fa fc ft ff fb fi]) H := hP
                      have hD : va_D A (List.flatten [bMo g o a 0 hi ac tp ba en tA fl de iD iO tU fm fk fa fc ft ff fb fi]) := hD
                      refine W.widen (k := 0) (n := 0) (Nat.le_of_ble_eq_true rfl) (Nat.le_of_ble_eq_true rfl) ?_
                      refine W.eq (g2 := F0 m 129 ls [.int q_29]) rfl ?_
                      have hP : va_P g.1 vwCl (List.flatten [bMo g o a 0 hi ac tp ba en tA fl de iD iO tU fm fk fa fc ft ff fb fi]) H := hP
                      have hD : va_D A (List.flatten [bMo g o a 0 hi ac tp ba en tA fl de iD iO tU fm fk fa fc ft ff fb fi]) := hD
                      exact mret_i hx hb hr hlocks hS (Nat.le_of_ble_eq_true rfl) (Nat.le_of_ble_eq_true rfl) dX12_count_129 ((0 : Int32), q_29) rfl trivial hP hD
                · skip
                  have c31 : what.toInt = 7 := zeq cb9 rfl (by decide)
                  have n32 : 7 ≤ what.toInt := Int.le_trans (Int.le_refl _) (Int.le_of_eq c31.symm)
                  have n33 : what.toInt ≤ 7 := Int.le_trans (Int.le_of_eq c31) (Int.le_refl _)
                  refine lv_aload_n hx hb dX12_count_94 rfl (lv_at hl 0 rfl) ?_
                  refine mcallV' (g := g) (q0 := 0) (ci := 10) (As := []) (rest := []) St hK hT hA hP hD hS hl.1 [0] [] rfl rfl rfl (m_hereOnes l g o a 0 hi ac tp ba en tA fl de iD iO tU fm fk fa fc ft ff fb fi rfm) (cwV 0 hts (zgL (zl4 k851 k852 k853 k839) k845) rfl rfl rfl (by decide +kernel) ⟨Nat.le_of_ble_eq_true rfl, Nat.le_of_ble_eq_true rfl⟩) rfl rfl rfl rfl (Nat.le_of_ble_eq_true rfl) dX12_count_95 ⟨(Nat.le_of_ble_eq_true rfl), (Nat.le_of_ble_eq_true rfl)⟩ (fun q_34 H locs hq35 hP hD hS => ?_)
                  have hP : va_P g.1 vwCl (List.flatten [bMo g o a 0 hi ac tp ba en tA fl de iD iO tU fm fk fa fc ft ff fb fi]) H := hP
                  have hD : va_D A (List.flatten [bMo g o a 0 hi ac tp ba en tA fl de iD iO tU fm fk fa fc ft ff fb fi]) := hD
                  refine W.widen (k := 0) (n := 0) (Nat.le_of_ble_eq_true rfl) (Nat.le_of_ble_eq_true rfl) ?_
                  refine W.eq (g2 := F0 m 98 ls [.int q_34]) rfl ?_
                  have hP : va_P g.1 vwCl (List.flatten [bMo g o a 0 hi ac tp ba en tA fl de iD iO tU fm fk fa fc ft ff fb fi]) H := hP
                  have hD : va_D A (List.flatten [bMo g o a 0 hi ac tp ba en tA fl de iD iO tU fm fk fa fc ft ff fb fi]) := hD
                  exact mret_i hx hb hr hlocks hS (Nat.le_of_ble_eq_true rfl) (Nat.le_of_ble_eq_true rfl) dX12_count_98 ((0 : Int32), q_34) rfl trivial hP hD
              · skip
                have c36 : what.toInt = 6 := zeq cb9 rfl (by decide)
                have n37 : 6 ≤ what.toInt := Int.le_trans (Int.le_refl _) (Int.le_of_eq c36.symm)
                have n38 : what.toInt ≤ 6 := Int.le_trans (Int.le_of_eq c36) (Int.le_refl _)
                refine lv_aload_n hx hb dX12_count_83 rfl (lv_at hl 0 rfl) ?_
                refine mcallV' (g := g) (q0 := 0) (ci := 10) (As := []) (rest := []) St hK hT hA hP hD hS hl.1 [0] [] rfl rfl rfl (m_believed l g o a 0 hi ac tp ba en tA fl de iD iO tU fm fk fa fc ft ff fb fi rfm) (cwV 0 hts (zgL (zl4 k856 k857 k858 k839) k849) rfl rfl rfl (by decide +kernel) ⟨Nat.le_of_ble_eq_true rfl, Nat.le_of_ble_eq_true rfl⟩) rfl rfl rfl rfl (Nat.le_of_ble_eq_true rfl) dX12_count_84 ⟨(Nat.le_of_ble_eq_true rfl), (Nat.le_of_ble_eq_true rfl)⟩ (fun q_39 H locs hq40 hP hD hS => ?_)
                have hP : va_P g.1 vwCl (List.flatten [bMo g o a 0 hi ac tp ba en tA fl de iD iO tU fm fk fa fc ft ff fb fi]) H := hP
                have hD : va_D A (List.flatten [bMo g o a 0 hi ac tp ba en tA fl de iD iO tU fm fk fa fc ft ff fb fi]) := hD
                refine W.widen (k := 0) (n := 0) (Nat.le_of_ble_eq_true rfl) (Nat.le_of_ble_eq_true rfl) ?_
                refine W.eq (g2 := F0 m 87 ls [.int q_39]) rfl ?_
                have hP : va_P g.1 vwCl (List.flatten [bMo g o a 0 hi ac tp ba en tA fl de iD iO tU fm fk fa fc ft ff fb fi]) H := hP
                have hD : va_D A (List.flatten [bMo g o a 0 hi ac tp ba en tA fl de iD iO tU fm fk fa fc ft ff fb fi]) := hD
                exact mret_i hx hb hr hlocks hS (Nat.le_of_ble_eq_true rfl) (Nat.le_of_ble_eq_true rfl) dX12_count_87 ((0 : Int32), q_39) rfl trivial hP hD
            · skip
              have c41 : what.toInt = 5 := zeq cb9 rfl (by decide)
              have n42 : 5 ≤ what.toInt := Int.le_trans (Int.le_refl _) (Int.le_of_eq c41.symm)
              have n43 : what.toInt ≤ 5 := Int.le_trans (Int.le_of_eq c41) (Int.le_refl _)
              refine lv_aload_n hx hb dX12_count_70 rfl (lv_at hl 0 rfl) ?_
              refine va_get (D := g.1) (ci := 10) (v := .ref (a 0)) (C := RX12) (T := TX12) (N := 20) hx hb hts izRX12 hown hK hP 0 rfl rfl 1 (by decide) (hts _ k815) (fun _ h9 => h9) rfl dX12_count_71 ?_
              refine lv_iconst (v := 5) hx hb dX12_count_74 (by decide) ?_
              refine va_iald hx hb hK hP 1 0 rfl rfl (zin rfl) dX12_count_75 ?_
              refine zg (fun x_44 => ?_)
              have hP : va_P g.1 vwCl (List.flatten [bMo g o a 0 hi ac tp ba en tA fl de iD iO tU fm fk fa fc ft ff fb fi]) H := hP
              have hD : va_D A (List.flatten [bMo g o a 0 hi ac tp ba en tA fl de iD iO tU fm fk fa fc ft ff fb fi]) := hD
              exact mret_i hx hb hr hlocks hS (Nat.le_of_ble_eq_true rfl) (Nat.le_of_ble_eq_true rfl) dX12_count_76 ((0 : Int32), x_44) rfl trivial hP hD
          · skip
            have c45 : what.toInt = 4 := zeq cb9 rfl (by decide)
            have n46 : 4 ≤ what.toInt := Int.le_trans (Int.le_refl _) (Int.le_of_eq c45.symm)
            have n47 : what.toInt ≤ 4 := Int.le_trans (Int.le_of_eq c45) (Int.le_refl _)
            refine lv_aload_n hx hb dX12_count_57 rfl (lv_at hl 0 rfl) ?_
            refine va_get (D := g.1) (ci := 10) (v := .ref (a 0)) (C := RX12) (T := TX12) (N := 20) hx hb hts izRX12 hown hK hP 0 rfl rfl 1 (by decide) (hts _ k815) (fun _ h9 => h9) rfl dX12_count_58 ?_
            refine lv_bipush (v := 8) hx hb dX12_count_61 (by decide) ?_
            refine va_iald hx hb hK hP 1 0 rfl rfl (zin rfl) dX12_count_63 ?_
            refine zg (fun x_48 => ?_)
            have hP : va_P g.1 vwCl (List.flatten [bMo g o a 0 hi ac tp ba en tA fl de iD iO tU fm fk fa fc ft ff fb fi]) H := hP
            have hD : va_D A (List.flatten [bMo g o a 0 hi ac tp ba en tA fl de iD iO tU fm fk fa fc ft ff fb fi]) := hD
            exact mret_i hx hb hr hlocks hS (Nat.le_of_ble_eq_true rfl) (Nat.le_of_ble_eq_true rfl) dX12_count_64 ((0 : Int32), x_48) rfl trivial hP hD
        · skip
          have c49 : what.toInt = 3 := zeq cb9 rfl (by decide)
          have n50 : 3 ≤ what.toInt := Int.le_trans (Int.le_refl _) (Int.le_of_eq c49.symm)
          have n51 : what.toInt ≤ 3 := Int.le_trans (Int.le_of_eq c49) (Int.le_refl _)
          refine lv_aload_n hx hb dX12_count_45 rfl (lv_at hl 0 rfl) ?_
          refine va_get (D := g.1) (ci := 10) (v := .ref (a 0)) (C := RX12) (T := TX12) (N := 20) hx hb hts izRX12 hown hK hP 0 rfl rfl 1 (by decide) (hts _ k815) (fun _ h9 => h9) rfl dX12_count_46 ?_
          refine lv_iconst (v := 1) hx hb dX12_count_49 (by decide) ?_
          refine va_iald hx hb hK hP 1 0 rfl rfl (zin rfl) dX12_count_50 ?_
          refine zg (fun x_52 => ?_)
          have hP : va_P g.1 vwCl (List.flatten [bMo g o a 0 hi ac tp ba en tA fl de iD iO tU fm fk fa fc ft ff fb fi]) H := hP
          have hD : va_D A (List.flatten [bMo g o a 0 hi ac tp ba en tA fl de iD iO tU fm fk fa fc ft ff fb fi]) := hD
          exact mret_i hx hb hr hlocks hS (Nat.le_of_ble_eq_true rfl) (Nat.le_of_ble_eq_true rfl) dX12_count_51 ((0 : Int32), x_52) rfl trivial hP hD
      · skip
        have c53 : what.toInt = 2 := zeq cb9 rfl (by decide)
        have n54 : 2 ≤ what.toInt := Int.le_trans (Int.le_refl _) (Int.le_of_eq c53.symm)
        have n55 : what.toInt ≤ 2 := Int.le_trans (Int.le_of_eq c53) (Int.le_refl _)
        refine lv_aload_n hx hb dX12_count_33 rfl (lv_at hl 0 rfl) ?_
        refine va_get (D := g.1) (ci := 10) (v := .ref (a 0)) (C := RX12) (T := TX12) (N := 20) hx hb hts izRX12 hown hK hP 0 rfl rfl 1 (by decide) (hts _ k815) (fun _ h9 => h9) rfl dX12_count_34 ?_
        refine lv_iconst (v := 0) hx hb dX12_count_37 (by decide) ?_
        refine va_iald hx hb hK hP 1 0 rfl rfl (zin rfl) dX12_count_38 ?_
        refine zg (fun x_56 => ?_)
        have hP : va_P g.1 vwCl (List.flatten [bMo g o a 0 hi ac tp ba en tA fl de iD iO tU fm fk fa fc ft ff fb fi]) H := hP
        have hD : va_D A (List.flatten [bMo g o a 0 hi ac tp ba en tA fl de iD iO tU fm fk fa fc ft ff fb fi]) := hD
        exact mret_i hx hb hr hlocks hS (Nat.le_of_ble_eq_true rfl) (Nat.le_of_ble_eq_true rfl) dX12_count_39 ((0 : Int32), x_56) rfl trivial hP hD
    · skip
      have c57 : what.toInt = 1 := zeq cb9 rfl (by decide)
      have n58 : 1 ≤ what.toInt := Int.le_trans (Int.le_refl _) (Int.le_of_eq c57.symm)
      have n59 : what.toInt ≤ 1 := Int.le_trans (Int.le_of_eq c57) (Int.le_refl _)
      refine lv_aload_n hx hb dX12_count_21 rfl (lv_at hl 0 rfl) ?_
      refine va_get (D := g.1) (ci := 10) (v := .ref (a 0)) (C := RX12) (T := TX12) (N := 20) hx hb hts izRX12 hown hK hP 0 rfl rfl 1 (by decide) (hts _ k815) (fun _ h9 => h9) rfl dX12_count_22 ?_
      refine lv_iconst (v := 4) hx hb dX12_count_25 (by decide) ?_
      refine va_iald hx hb hK hP 1 0 rfl rfl (zin rfl) dX12_count_26 ?_
      refine zgq (r := fm 4) rfl (rM4 rfm) (fun x_60 hx_60 => ?_)
      have hP : va_P g.1 vwCl (List.flatten [bMo g o a 0 hi ac tp ba en tA fl de iD iO tU fm fk fa fc ft ff fb fi]) H := hP
      have hD : va_D A (List.flatten [bMo g o a 0 hi ac tp ba en tA fl de iD iO tU fm fk fa fc ft ff fb fi]) := hD
      exact mret_i hx hb hr hlocks hS (Nat.le_of_ble_eq_true rfl) (Nat.le_of_ble_eq_true rfl) dX12_count_27 ((0 : Int32), x_60) rfl trivial hP hD
  · skip
    have c61 : what.toInt = 0 := zeq cb9 rfl (by decide)
    have n62 : 0 ≤ what.toInt := Int.le_trans (Int.le_refl _) (Int.le_of_eq c61.symm)
    have n63 : what.toInt ≤ 0 := Int.le_trans (Int.le_of_eq c61) (Int.le_refl _)
    refine lv_aload_n hx hb dX12_count_9 rfl (lv_at hl 0 rfl) ?_
    refine va_get (D := g.1) (ci := 10) (v := .ref (a 0)) (C := RX12) (T := TX12) (N := 20) hx hb hts izRX12 hown hK hP 0 rfl rfl 1 (by decide) (hts _ k815) (fun _ h9 => h9) rfl dX12_count_10 ?_
    refine lv_iconst (v := 3) hx hb dX12_count_13 (by decide) ?_
    refine va_iald hx hb hK hP 1 0 rfl rfl (zin rfl) dX12_count_14 ?_
    refine zgq (r := fm 3) rfl (rM3 rfm) (fun x_64 hx_64 => ?_)
    have hP : va_P g.1 vwCl (List.flatten [bMo g o a 0 hi ac tp ba en tA fl de iD iO tU fm fk fa fc ft ff fb fi]) H := hP
    have hD : va_D A (List.flatten [bMo g o a 0 hi ac tp ba en tA fl de iD iO tU fm fk fa fc ft ff fb fi]) := hD
    exact mret_i hx hb hr hlocks hS (Nat.le_of_ble_eq_true rfl) (Nat.le_of_ble_eq_true rfl) dX12_count_15 ((0 : Int32), x_64) rfl trivial hP hD
set_option maxRecDepth 100000 in
set_option maxHeartbeats 4000000 in
theorem m_tell (l : Launch) (g : zG) (o : Nat) (a : Nat → Nat) (th : Int32) (hi : Int32) (ac : Int32) (tp : Int32) (ba : Int32) (en : Int32) (tA : Int32) (fl : Int32) (de : Int32) (iD : Int32) (iO : Int32) (tU : Int32) (fm : Nat → Int32) (fk : Nat → Int32) (fa : Nat → Int32) (fc : Nat → Int32) (ft : Nat → Int32) (ff : Nat → Int32) (fb : Nat → Int32) (fi : Nat → Int32) (x : Int32) (rfm : rM fm) (rfc : rC fc) (hac : 0 ≤ ac.toInt ∧ ac.toInt ≤ 12) : zM' g l yX12_tell (Cond.code yX12_tell cX12_tell 2 (some .int) :: zB) ({ frames := 2, cells := 0, slots := 0, locals := 45 } : Room) [.ref o, .int x] [bMo g o a th hi ac tp ba en tA fl de iD iO tU fm fk fa fc ft ff fb fi] (fun u : Int32 × Int32 × (Nat → Int32) × (Nat → Int32) × Int32 => (fun (th2 : Int32) (ac2 : Int32) (fc2 : Nat → Int32) (fm2 : Nat → Int32) (q : Int32) => some (.int q)) (u.1) (u.2.1) (u.2.2.1) (u.2.2.2.1) (u.2.2.2.2)) (fun u : Int32 × Int32 × (Nat → Int32) × (Nat → Int32) × Int32 => (fun (th2 : Int32) (ac2 : Int32) (fc2 : Nat → Int32) (fm2 : Nat → Int32) (q : Int32) => ((fm2 0).toInt = (fm 0).toInt ∧ (fm2 3).toInt = (fm 3).toInt ∧ (fm2 4).toInt = (fm 4).toInt) ∧ (rM fm2) ∧ (rC fc2) ∧ (0 ≤ ac2.toInt ∧ ac2.toInt ≤ 12) ∧ (zMa fc fc2 ac.toInt ac2.toInt fm)) (u.1) (u.2.1) (u.2.2.1) (u.2.2.2.1) (u.2.2.2.2)) (fun u : Int32 × Int32 × (Nat → Int32) × (Nat → Int32) × Int32 => (fun (th2 : Int32) (ac2 : Int32) (fc2 : Nat → Int32) (fm2 : Nat → Int32) (q : Int32) => [bMo g o a th2 hi ac2 tp ba en tA fl de iD iO tU fm2 fk fa fc2 ft ff fb fi]) (u.1) (u.2.1) (u.2.2.1) (u.2.2.2.1) (u.2.2.2.2)) := by
  refine zM'.of (cc := cX12_tell) (maxL := 2) (rt := (some .int)) (by decide) rfl (Nat.le_of_ble_eq_true rfl) ?_
  intro p e s m args below meth c A ls St hr hlocks hin hK hT hA hP hD hS hl
  obtain ⟨hx, hb, hml, hown, hts⟩ := id St
  have hl : lv_has ls 2 [(0, .ref o), (1, .int x)] := hl
  refine lv_aload_n hx hb dX12_tell_0 rfl (lv_at hl 0 rfl) ?_
  refine lv_aload_n hx hb dX12_tell_1 rfl (lv_at hl 0 rfl) ?_
  refine lv_iload_n hx hb dX12_tell_2 rfl (lv_at hl 1 rfl) ?_
  refine mcallV' (g := g) (q0 := 0) (ci := 10) (As := [.int x]) (rest := [.ref o]) St hK hT hA hP hD hS hl.1 [0] [] rfl rfl rfl (m_isPerson l g o a th hi ac tp ba en tA fl de iD iO tU fm fk fa fc ft ff fb fi x rfm) (cwV 1 hts (zgL (zl4 k1033 k1034 k1035 k839) k836) rfl rfl rfl (by decide +kernel) ⟨Nat.le_of_ble_eq_true rfl, Nat.le_of_ble_eq_true rfl⟩) rfl rfl rfl rfl (Nat.le_of_ble_eq_true rfl) dX12_tell_3 ⟨(Nat.le_of_ble_eq_true rfl), (Nat.le_of_ble_eq_true rfl)⟩ (fun q_1 H locs hq2 hP hD hS => ?_)
  replace hq2 : (q_1 = 1 ∧ 0 ≤ x.toInt ∧ x.toInt ≤ 7 ∧ x.toInt < (fm 3).toInt ∨ q_1 = 0) := hq2
  have hP : va_P g.1 vwCl (List.flatten [bMo g o a th hi ac tp ba en tA fl de iD iO tU fm fk fa fc ft ff fb fi]) H := hP
  have hD : va_D A (List.flatten [bMo g o a th hi ac tp ba en tA fl de iD iO tU fm fk fa fc ft ff fb fi]) := hD
  refine W.widen (k := 0) (n := 0) (Nat.le_of_ble_eq_true rfl) (Nat.le_of_ble_eq_true rfl) ?_
  refine W.eq (g2 := F0 m 6 ls [.int q_1, .ref o]) rfl ?_
  rcases hq2 with ⟨rfl, hq2_k⟩ | rfl
  · skip
    refine lv_if_ne (tgt := 13) hx hb dX12_tell_6 (by decide) (fun _ => ?_) (fun c3 => absurd c3 (by decide))
    refine lv_aload_n hx hb dX12_tell_13 rfl (lv_at hl 0 rfl) ?_
    refine lv_iload_n hx hb dX12_tell_14 rfl (lv_at hl 1 rfl) ?_
    refine mcallV' (g := g) (q0 := 0) (ci := 10) (As := [.int x]) (rest := [.ref o]) St hK hT hA hP hD hS hl.1 [0] [] rfl rfl rfl (m_isHere l g o a th hi ac tp ba en tA fl de iD iO tU fm fk fa fc ft ff fb fi x (by first | assumption | omega | decide | exact Or.inl (by decide) | exact Or.inr (by decide))) (cwV 1 hts (zgL (zl4 k846 k847 k848 k839) k841) rfl rfl rfl (by decide +kernel) ⟨Nat.le_of_ble_eq_true rfl, Nat.le_of_ble_eq_true rfl⟩) rfl rfl rfl rfl (Nat.le_of_ble_eq_true rfl) dX12_tell_15 ⟨(Nat.le_of_ble_eq_true rfl), (Nat.le_of_ble_eq_true rfl)⟩ (fun q_4 H locs hq5 hP hD hS => ?_)
    replace hq5 : (q_4 = 0 ∨ q_4 = 1) := hq5
    have hP : va_P g.1 vwCl (List.flatten [bMo g o a th hi ac tp ba en tA fl de iD iO tU fm fk fa fc ft ff fb fi]) H := hP
    have hD : va_D A (List.flatten [bMo g o a th hi ac tp ba en tA fl de iD iO tU fm fk fa fc ft ff fb fi]) := hD
    refine W.widen (k := 0) (n := 0) (Nat.le_of_ble_eq_true rfl) (Nat.le_of_ble_eq_true rfl) ?_
    refine W.eq (g2 := F0 m 18 ls [.int q_4, .ref o]) rfl ?_
    rcases hq5 with rfl | rfl
    · skip
      refine lv_if_ne (tgt := 25) hx hb dX12_tell_18 (by decide) (fun c6 => absurd (by decide) c6) (fun _ => ?_)
      refine lv_iconst (v := 2) hx hb dX12_tell_21 (by decide) ?_
      refine lv_goto (tgt := 26) hx hb dX12_tell_22 (by decide) ?_
      refine va_put (D := g.1) (ci := 10) (v := .int 2) (ty := .int) (C := RX12) (T := TX12) (N := 20) hx hb hts izRX12 tyX12 tyX12_ok nmX12 hown hK hP hD hS 0 rfl rfl 0 (by decide) (hts _ k825) (fun _ h9 => h9) rfl (by decide +kernel) rfl rfl (Nat.le_of_ble_eq_true rfl) dX12_tell_26 (fun H locs hP hD hS => ?_)
      have hP : va_P g.1 vwCl (List.flatten [bMo g o a 2 hi ac tp ba en tA fl de iD iO tU fm fk fa fc ft ff fb fi]) H := hP
      have hD : va_D A (List.flatten [bMo g o a 2 hi ac tp ba en tA fl de iD iO tU fm fk fa fc ft ff fb fi]) := hD
      refine lv_aload_n hx hb dX12_tell_29 rfl (lv_at hl 0 rfl) ?_
      refine va_get (D := g.1) (ci := 10) (v := .int 2) (C := RX12) (T := TX12) (N := 20) hx hb hts izRX12 hown hK hP 0 rfl rfl 0 (by decide) (hts _ k825) (fun _ h9 => h9) rfl dX12_tell_30 ?_
      refine lv_if_le (tgt := 38) hx hb dX12_tell_33 (by decide) (fun c7 => absurd c7 (by decide)) (fun _ => ?_)
      refine lv_iconst (v := 0) hx hb dX12_tell_36 (by decide) ?_
      have hP : va_P g.1 vwCl (List.flatten [bMo g o a 2 hi ac tp ba en tA fl de iD iO tU fm fk fa fc ft ff fb fi]) H := hP
      have hD : va_D A (List.flatten [bMo g o a 2 hi ac tp ba en tA fl de iD iO tU fm fk fa fc ft ff fb fi]) := hD
      exact mret_i hx hb hr hlocks hS (Nat.le_of_ble_eq_true rfl) (Nat.le_of_ble_eq_true rfl) dX12_tell_37 ((2 : Int32), ac, fc, fm, (0 : Int32)) rfl (show ((fm 0).toInt = (fm 0).toInt ∧ (fm 3).toInt = (fm 3).toInt ∧ (fm 4).toInt = (fm 4).toInt) ∧ (rM fm) ∧ (rC fc) ∧ (0 ≤ ac.toInt ∧ ac.toInt ≤ 12) ∧ (zMa fc fc ac.toInt ac.toInt fm) from ⟨(by first | assumption | omega | decide | exact rfl | exact zb01 (by omega) | exact Or.inl (by decide) | exact Or.inr (by first | omega | decide)), rfm, rfc, hac, zMa_0⟩) hP hD
    · skip
      refine lv_if_ne (tgt := 25) hx hb dX12_tell_18 (by decide) (fun _ => ?_) (fun c8 => absurd c8 (by decide))
      refine lv_iconst (v := 0) hx hb dX12_tell_25 (by decide) ?_
      refine va_put (D := g.1) (ci := 10) (v := .int 0) (ty := .int) (C := RX12) (T := TX12) (N := 20) hx hb hts izRX12 tyX12 tyX12_ok nmX12 hown hK hP hD hS 0 rfl rfl 0 (by decide) (hts _ k825) (fun _ h9 => h9) rfl (by decide +kernel) rfl rfl (Nat.le_of_ble_eq_true rfl) dX12_tell_26 (fun H locs hP hD hS => ?_)
      have hP : va_P g.1 vwCl (List.flatten [bMo g o a 0 hi ac tp ba en tA fl de iD iO tU fm fk fa fc ft ff fb fi]) H := hP
      have hD : va_D A (List.flatten [bMo g o a 0 hi ac tp ba en tA fl de iD iO tU fm fk fa fc ft ff fb fi]) := hD
      refine lv_aload_n hx hb dX12_tell_29 rfl (lv_at hl 0 rfl) ?_
      refine va_get (D := g.1) (ci := 10) (v := .int 0) (C := RX12) (T := TX12) (N := 20) hx hb hts izRX12 hown hK hP 0 rfl rfl 0 (by decide) (hts _ k825) (fun _ h9 => h9) rfl dX12_tell_30 ?_
      refine lv_if_le (tgt := 38) hx hb dX12_tell_33 (by decide) (fun _ => ?_) (fun c9 => absurd (by decide) c9)
      refine lv_aload_n hx hb dX12_tell_38 rfl (lv_at hl 0 rfl) ?_
      refine mcallV' (g := g) (q0 := 0) (ci := 10) (As := []) (rest := []) St hK hT hA hP hD hS hl.1 [0] [] rfl rfl rfl (m_remembers l g o a 0 hi ac tp ba en tA fl de iD iO tU fm fk fa fc ft ff fb fi rfm rfc hac) (cwV 0 hts (zgL (zl4 k1047 k1048 k1049 k839) k1046) rfl rfl rfl (by decide +kernel) ⟨Nat.le_of_ble_eq_true rfl, Nat.le_of_ble_eq_true rfl⟩) rfl rfl rfl rfl (Nat.le_of_ble_eq_true rfl) dX12_tell_39 ⟨(Nat.le_of_ble_eq_true rfl), (Nat.le_of_ble_eq_true rfl)⟩ (fun u_ H locs hq12 hP hD hS => ?_)
      obtain ⟨ac2_10, fc2_11⟩ := u_
      replace hq12 : (rC fc2_11) ∧ (0 ≤ ac2_10.toInt ∧ ac2_10.toInt ≤ 12) ∧ (zRem fc fc2_11 ac.toInt ac2_10.toInt fm) := hq12
      have hP : va_P g.1 vwCl (List.flatten [bMo g o a 0 hi ac2_10 tp ba en tA fl de iD iO tU fm fk fa fc2_11 ft ff fb fi]) H := hP
      have hD : va_D A (List.flatten [bMo g o a 0 hi ac2_10 tp ba en tA fl de iD iO tU fm fk fa fc2_11 ft ff fb fi]) := hD
      refine W.widen (k := 0) (n := 0) (Nat.le_of_ble_eq_true rfl) (Nat.le_of_ble_eq_true rfl) ?_
      refine W.eq (g2 := F0 m 42 ls []) rfl ?_
      obtain ⟨rfc2_11, hq12_1, hq12_2⟩ := hq12
      refine lv_aload_n hx hb dX12_tell_42 rfl (lv_at hl 0 rfl) ?_
      refine lv_iload_n hx hb dX12_tell_43 rfl (lv_at hl 1 rfl) ?_
      refine lv_bipush (v := 20) hx hb dX12_tell_44 (by decide) ?_
      refine mcallV' (g := g) (q0 := 0) (ci := 10) (As := [.int x, .int 20]) (rest := []) St hK hT hA hP hD hS hl.1 [0] [] rfl rfl rfl (m_believes l g o a 0 hi ac2_10 tp ba en tA fl de iD iO tU fm fk fa fc2_11 ft ff fb fi x 20 rfm (by first | assumption | omega | decide | exact Or.inl (by decide) | exact Or.inr (by decide))) (cwV 2 hts (zgL (zl4 k1012 k1013 k1014 k839) k1002) rfl rfl rfl (by decide +kernel) ⟨Nat.le_of_ble_eq_true rfl, Nat.le_of_ble_eq_true rfl⟩) rfl rfl rfl rfl (Nat.le_of_ble_eq_true rfl) dX12_tell_46 ⟨(Nat.le_of_ble_eq_true rfl), (Nat.le_of_ble_eq_true rfl)⟩ (fun fm2_13 H locs hq14 hP hD hS => ?_)
      replace hq14 : ((fm2_13 0).toInt = (fm 0).toInt ∧ (fm2_13 3).toInt = (fm 3).toInt ∧ (fm2_13 4).toInt = (fm 4).toInt) ∧ (rM fm2_13) := hq14
      have hP : va_P g.1 vwCl (List.flatten [bMo g o a 0 hi ac2_10 tp ba en tA fl de iD iO tU fm2_13 fk fa fc2_11 ft ff fb fi]) H := hP
      have hD : va_D A (List.flatten [bMo g o a 0 hi ac2_10 tp ba en tA fl de iD iO tU fm2_13 fk fa fc2_11 ft ff fb fi]) := hD
      refine W.widen (k := 0) (n := 0) (Nat.le_of_ble_eq_true rfl) (Nat.le_of_ble_eq_true rfl) ?_
      refine W.eq (g2 := F0 m 49 ls []) rfl ?_
      obtain ⟨hq14_0, rfm2_13⟩ := hq14
      refine lv_aload_n hx hb dX12_tell_49 rfl (lv_at hl 0 rfl) ?_
      refine lv_iload_n hx hb dX12_tell_50 rfl (lv_at hl 1 rfl) ?_
      refine lv_iconst (v := 0) hx hb dX12_tell_51 (by decide) ?_
      have hL0 : (0 : Int32).toInt = 0 := by decide
      refine mcallV' (g := g) (q0 := 0) (ci := 10) (As := [.int x, .int 0]) (rest := []) St hK hT hA hP hD hS hl.1 [0] [] rfl rfl rfl (m_of l g o a 0 hi ac2_10 tp ba en tA fl de iD iO tU fm2_13 fk fa fc2_11 ft ff fb fi x 0 (by first | assumption | omega | decide | exact Or.inl (by decide) | exact Or.inr (by decide)) (by decide)) (cwV 2 hts (zgL (zl4 k842 k843 k844 k839) k831) rfl rfl rfl (by decide +kernel) ⟨Nat.le_of_ble_eq_true rfl, Nat.le_of_ble_eq_true rfl⟩) rfl rfl rfl rfl (Nat.le_of_ble_eq_true rfl) dX12_tell_52 ⟨(Nat.le_of_ble_eq_true rfl), (Nat.le_of_ble_eq_true rfl)⟩ (fun q_15 H locs hq16 hP hD hS => ?_)
      have hP : va_P g.1 vwCl (List.flatten [bMo g o a 0 hi ac2_10 tp ba en tA fl de iD iO tU fm2_13 fk fa fc2_11 ft ff fb fi]) H := hP
      have hD : va_D A (List.flatten [bMo g o a 0 hi ac2_10 tp ba en tA fl de iD iO tU fm2_13 fk fa fc2_11 ft ff fb fi]) := hD
      refine W.widen (k := 0) (n := 0) (Nat.le_of_ble_eq_true rfl) (Nat.le_of_ble_eq_true rfl) ?_
      refine W.eq (g2 := F0 m 55 ls [.int q_15]) rfl ?_
      have hP : va_P g.1 vwCl (List.flatten [bMo g o a 0 hi ac2_10 tp ba en tA fl de iD iO tU fm2_13 fk fa fc2_11 ft ff fb fi]) H := hP
      have hD : va_D A (List.flatten [bMo g o a 0 hi ac2_10 tp ba en tA fl de iD iO tU fm2_13 fk fa fc2_11 ft ff fb fi]) := hD
      exact mret_i hx hb hr hlocks hS (Nat.le_of_ble_eq_true rfl) (Nat.le_of_ble_eq_true rfl) dX12_tell_55 ((0 : Int32), ac2_10, fc2_11, fm2_13, q_15) rfl (show ((fm2_13 0).toInt = (fm 0).toInt ∧ (fm2_13 3).toInt = (fm 3).toInt ∧ (fm2_13 4).toInt = (fm 4).toInt) ∧ (rM fm2_13) ∧ (rC fc2_11) ∧ (0 ≤ ac2_10.toInt ∧ ac2_10.toInt ≤ 12) ∧ (zMa fc fc2_11 ac.toInt ac2_10.toInt fm) from ⟨hq14_0, rfm2_13, rfc2_11, hq12_1, (Or.inr hq12_2)⟩) hP hD
  · skip
    refine lv_if_ne (tgt := 13) hx hb dX12_tell_6 (by decide) (fun c17 => absurd (by decide) c17) (fun _ => ?_)
    refine lv_iconst (v := 1) hx hb dX12_tell_9 (by decide) ?_
    refine lv_goto (tgt := 26) hx hb dX12_tell_10 (by decide) ?_
    refine va_put (D := g.1) (ci := 10) (v := .int 1) (ty := .int) (C := RX12) (T := TX12) (N := 20) hx hb hts izRX12 tyX12 tyX12_ok nmX12 hown hK hP hD hS 0 rfl rfl 0 (by decide) (hts _ k825) (fun _ h9 => h9) rfl (by decide +kernel) rfl rfl (Nat.le_of_ble_eq_true rfl) dX12_tell_26 (fun H locs hP hD hS => ?_)
    have hP : va_P g.1 vwCl (List.flatten [bMo g o a 1 hi ac tp ba en tA fl de iD iO tU fm fk fa fc ft ff fb fi]) H := hP
    have hD : va_D A (List.flatten [bMo g o a 1 hi ac tp ba en tA fl de iD iO tU fm fk fa fc ft ff fb fi]) := hD
    refine lv_aload_n hx hb dX12_tell_29 rfl (lv_at hl 0 rfl) ?_
    refine va_get (D := g.1) (ci := 10) (v := .int 1) (C := RX12) (T := TX12) (N := 20) hx hb hts izRX12 hown hK hP 0 rfl rfl 0 (by decide) (hts _ k825) (fun _ h9 => h9) rfl dX12_tell_30 ?_
    refine lv_if_le (tgt := 38) hx hb dX12_tell_33 (by decide) (fun c18 => absurd c18 (by decide)) (fun _ => ?_)
    refine lv_iconst (v := 0) hx hb dX12_tell_36 (by decide) ?_
    have hP : va_P g.1 vwCl (List.flatten [bMo g o a 1 hi ac tp ba en tA fl de iD iO tU fm fk fa fc ft ff fb fi]) H := hP
    have hD : va_D A (List.flatten [bMo g o a 1 hi ac tp ba en tA fl de iD iO tU fm fk fa fc ft ff fb fi]) := hD
    exact mret_i hx hb hr hlocks hS (Nat.le_of_ble_eq_true rfl) (Nat.le_of_ble_eq_true rfl) dX12_tell_37 ((1 : Int32), ac, fc, fm, (0 : Int32)) rfl (show ((fm 0).toInt = (fm 0).toInt ∧ (fm 3).toInt = (fm 3).toInt ∧ (fm 4).toInt = (fm 4).toInt) ∧ (rM fm) ∧ (rC fc) ∧ (0 ≤ ac.toInt ∧ ac.toInt ≤ 12) ∧ (zMa fc fc ac.toInt ac.toInt fm) from ⟨(by first | assumption | omega | decide | exact rfl | exact zb01 (by omega) | exact Or.inl (by decide) | exact Or.inr (by first | omega | decide)), rfm, rfc, hac, zMa_0⟩) hP hD
set_option maxRecDepth 100000 in
set_option maxHeartbeats 4000000 in
theorem m_tie (l : Launch) (g : zG) (o : Nat) (a : Nat → Nat) (th : Int32) (hi : Int32) (ac : Int32) (tp : Int32) (ba : Int32) (en : Int32) (tA : Int32) (fl : Int32) (de : Int32) (iD : Int32) (iO : Int32) (tU : Int32) (fm : Nat → Int32) (fk : Nat → Int32) (fa : Nat → Int32) (fc : Nat → Int32) (ft : Nat → Int32) (ff : Nat → Int32) (fb : Nat → Int32) (fi : Nat → Int32) (x : Int32) (o2 : Int32) (n : Int32) (rfm : rM fm) (rfc : rC fc) (hac : 0 ≤ ac.toInt ∧ ac.toInt ≤ 12) : zM' g l yX12_tie (Cond.code yX12_tie cX12_tie 5 (some .int) :: zB) ({ frames := 2, cells := 0, slots := 0, locals := 43 } : Room) [.ref o, .int x, .int o2, .int n] [bMo g o a th hi ac tp ba en tA fl de iD iO tU fm fk fa fc ft ff fb fi] (fun u : Int32 × Int32 × (Nat → Int32) × (Nat → Int32) × Int32 => (fun (th2 : Int32) (ac2 : Int32) (fc2 : Nat → Int32) (fm2 : Nat → Int32) (q : Int32) => some (.int q)) (u.1) (u.2.1) (u.2.2.1) (u.2.2.2.1) (u.2.2.2.2)) (fun u : Int32 × Int32 × (Nat → Int32) × (Nat → Int32) × Int32 => (fun (th2 : Int32) (ac2 : Int32) (fc2 : Nat → Int32) (fm2 : Nat → Int32) (q : Int32) => ((fm2 0).toInt = (fm 0).toInt ∧ (fm2 3).toInt = (fm 3).toInt ∧ (fm2 4).toInt = (fm 4).toInt) ∧ (rM fm2) ∧ (rC fc2) ∧ (0 ≤ ac2.toInt ∧ ac2.toInt ≤ 12) ∧ (zMa fc fc2 ac.toInt ac2.toInt fm)) (u.1) (u.2.1) (u.2.2.1) (u.2.2.2.1) (u.2.2.2.2)) (fun u : Int32 × Int32 × (Nat → Int32) × (Nat → Int32) × Int32 => (fun (th2 : Int32) (ac2 : Int32) (fc2 : Nat → Int32) (fm2 : Nat → Int32) (q : Int32) => [bMo g o a th2 hi ac2 tp ba en tA fl de iD iO tU fm2 fk fa fc2 ft ff fb fi]) (u.1) (u.2.1) (u.2.2.1) (u.2.2.2.1) (u.2.2.2.2)) := by
  refine zM'.of (cc := cX12_tie) (maxL := 5) (rt := (some .int)) (by decide) rfl (Nat.le_of_ble_eq_true rfl) ?_
  intro p e s m args below meth c A ls St hr hlocks hin hK hT hA hP hD hS hl
  obtain ⟨hx, hb, hml, hown, hts⟩ := id St
  have hl : lv_has ls 5 [(0, .ref o), (1, .int x), (2, .int o2), (3, .int n)] := hl
  refine lv_aload_n hx hb dX12_tie_0 rfl (lv_at hl 0 rfl) ?_
  refine lv_aload_n hx hb dX12_tie_1 rfl (lv_at hl 0 rfl) ?_
  refine lv_iload_n hx hb dX12_tie_2 rfl (lv_at hl 1 rfl) ?_
  refine mcallV' (g := g) (q0 := 0) (ci := 10) (As := [.int x]) (rest := [.ref o]) St hK hT hA hP hD hS hl.1 [0] [] rfl rfl rfl (m_isPerson l g o a th hi ac tp ba en tA fl de iD iO tU fm fk fa fc ft ff fb fi x rfm) (cwV 1 hts (zgL (zl4 k1033 k1034 k1035 k839) k836) rfl rfl rfl (by decide +kernel) ⟨Nat.le_of_ble_eq_true rfl, Nat.le_of_ble_eq_true rfl⟩) rfl rfl rfl rfl (Nat.le_of_ble_eq_true rfl) dX12_tie_3 ⟨(Nat.le_of_ble_eq_true rfl), (Nat.le_of_ble_eq_true rfl)⟩ (fun q_1 H locs hq2 hP hD hS => ?_)
  replace hq2 : (q_1 = 1 ∧ 0 ≤ x.toInt ∧ x.toInt ≤ 7 ∧ x.toInt < (fm 3).toInt ∨ q_1 = 0) := hq2
  have hP : va_P g.1 vwCl (List.flatten [bMo g o a th hi ac tp ba en tA fl de iD iO tU fm fk fa fc ft ff fb fi]) H := hP
  have hD : va_D A (List.flatten [bMo g o a th hi ac tp ba en tA fl de iD iO tU fm fk fa fc ft ff fb fi]) := hD
  refine W.widen (k := 0) (n := 0) (Nat.le_of_ble_eq_true rfl) (Nat.le_of_ble_eq_true rfl) ?_
  refine W.eq (g2 := F0 m 6 ls [.int q_1, .ref o]) rfl ?_
  rcases hq2 with ⟨rfl, hq2_k⟩ | rfl
  · skip
    refine lv_if_eq (tgt := 17) hx hb dX12_tie_6 (by decide) (fun c3 => absurd c3 (by decide)) (fun _ => ?_)
    refine lv_aload_n hx hb dX12_tie_9 rfl (lv_at hl 0 rfl) ?_
    refine lv_iload_n hx hb dX12_tie_10 rfl (lv_at hl 2 rfl) ?_
    refine mcallV' (g := g) (q0 := 0) (ci := 10) (As := [.int o2]) (rest := [.ref o]) St hK hT hA hP hD hS hl.1 [0] [] rfl rfl rfl (m_isPerson l g o a th hi ac tp ba en tA fl de iD iO tU fm fk fa fc ft ff fb fi o2 rfm) (cwV 1 hts (zgL (zl4 k1033 k1034 k1035 k839) k836) rfl rfl rfl (by decide +kernel) ⟨Nat.le_of_ble_eq_true rfl, Nat.le_of_ble_eq_true rfl⟩) rfl rfl rfl rfl (Nat.le_of_ble_eq_true rfl) dX12_tie_11 ⟨(Nat.le_of_ble_eq_true rfl), (Nat.le_of_ble_eq_true rfl)⟩ (fun q_4 H locs hq5 hP hD hS => ?_)
    replace hq5 : (q_4 = 1 ∧ 0 ≤ o2.toInt ∧ o2.toInt ≤ 7 ∧ o2.toInt < (fm 3).toInt ∨ q_4 = 0) := hq5
    have hP : va_P g.1 vwCl (List.flatten [bMo g o a th hi ac tp ba en tA fl de iD iO tU fm fk fa fc ft ff fb fi]) H := hP
    have hD : va_D A (List.flatten [bMo g o a th hi ac tp ba en tA fl de iD iO tU fm fk fa fc ft ff fb fi]) := hD
    refine W.widen (k := 0) (n := 0) (Nat.le_of_ble_eq_true rfl) (Nat.le_of_ble_eq_true rfl) ?_
    refine W.eq (g2 := F0 m 14 ls [.int q_4, .ref o]) rfl ?_
    rcases hq5 with ⟨rfl, hq5_k⟩ | rfl
    · skip
      refine lv_if_ne (tgt := 21) hx hb dX12_tie_14 (by decide) (fun _ => ?_) (fun c6 => absurd c6 (by decide))
      refine lv_iload_n hx hb dX12_tie_21 rfl (lv_at hl 1 rfl) ?_
      refine lv_iload_n hx hb dX12_tie_22 rfl (lv_at hl 2 rfl) ?_
      refine lv_icmp_eq (tgt := 36) hx hb dX12_tie_23 (by decide) (fun cb9 => ?_) (fun cb9 => ?_)
      · skip
        have c7 : x.toInt = o2.toInt := zeq cb9 rfl rfl
        refine lv_iconst (v := 2) hx hb dX12_tie_36 (by decide) ?_
        refine lv_goto (tgt := 41) hx hb dX12_tie_37 (by decide) ?_
        refine va_put (D := g.1) (ci := 10) (v := .int 2) (ty := .int) (C := RX12) (T := TX12) (N := 20) hx hb hts izRX12 tyX12 tyX12_ok nmX12 hown hK hP hD hS 0 rfl rfl 0 (by decide) (hts _ k825) (fun _ h9 => h9) rfl (by decide +kernel) rfl rfl (Nat.le_of_ble_eq_true rfl) dX12_tie_41 (fun H locs hP hD hS => ?_)
        have hP : va_P g.1 vwCl (List.flatten [bMo g o a 2 hi ac tp ba en tA fl de iD iO tU fm fk fa fc ft ff fb fi]) H := hP
        have hD : va_D A (List.flatten [bMo g o a 2 hi ac tp ba en tA fl de iD iO tU fm fk fa fc ft ff fb fi]) := hD
        refine lv_aload_n hx hb dX12_tie_44 rfl (lv_at hl 0 rfl) ?_
        refine va_get (D := g.1) (ci := 10) (v := .int 2) (C := RX12) (T := TX12) (N := 20) hx hb hts izRX12 hown hK hP 0 rfl rfl 0 (by decide) (hts _ k825) (fun _ h9 => h9) rfl dX12_tie_45 ?_
        refine lv_if_le (tgt := 53) hx hb dX12_tie_48 (by decide) (fun c8 => absurd c8 (by decide)) (fun _ => ?_)
        refine lv_iconst (v := 0) hx hb dX12_tie_51 (by decide) ?_
        have hP : va_P g.1 vwCl (List.flatten [bMo g o a 2 hi ac tp ba en tA fl de iD iO tU fm fk fa fc ft ff fb fi]) H := hP
        have hD : va_D A (List.flatten [bMo g o a 2 hi ac tp ba en tA fl de iD iO tU fm fk fa fc ft ff fb fi]) := hD
        exact mret_i hx hb hr hlocks hS (Nat.le_of_ble_eq_true rfl) (Nat.le_of_ble_eq_true rfl) dX12_tie_52 ((2 : Int32), ac, fc, fm, (0 : Int32)) rfl (show ((fm 0).toInt = (fm 0).toInt ∧ (fm 3).toInt = (fm 3).toInt ∧ (fm 4).toInt = (fm 4).toInt) ∧ (rM fm) ∧ (rC fc) ∧ (0 ≤ ac.toInt ∧ ac.toInt ≤ 12) ∧ (zMa fc fc ac.toInt ac.toInt fm) from ⟨(by first | assumption | omega | decide | exact rfl | exact zb01 (by omega) | exact Or.inl (by decide) | exact Or.inr (by first | omega | decide)), rfm, rfc, hac, zMa_0⟩) hP hD
      · skip
        have c9 : ¬ x.toInt = o2.toInt := zne cb9 rfl rfl
        refine lv_iload_n hx hb dX12_tie_26 rfl (lv_at hl 3 rfl) ?_
        refine lv_iconst (v := 0) hx hb dX12_tie_27 (by decide) ?_
        refine lv_bipush (v := 9) hx hb dX12_tie_28 (by decide) ?_
        have hL0 : (0 : Int32).toInt = 0 := by decide
        have hL9 : (9 : Int32).toInt = 9 := by decide
        refine mcallS' (g := g) (As := [.int n, .int 0, .int 9]) (rest := [.ref o]) St hK hT hA hP hD hS hl.1 [] [0] rfl rfl rfl (m_isIn l g n 0 9 ) (va_cwS 3 hts (zgL (zl3 k837 k838 k839) k826) rfl rfl rfl (by decide +kernel) ⟨Nat.le_of_ble_eq_true rfl, Nat.le_of_ble_eq_true rfl⟩) rfl rfl (Nat.le_of_ble_eq_true rfl) dX12_tie_30 ⟨(Nat.le_of_ble_eq_true rfl), (Nat.le_of_ble_eq_true rfl)⟩ (fun q_10 H locs hq11 hP hD hS => ?_)
        replace hq11 : (q_10 = 1 ∧ (0 : Int32).toInt ≤ n.toInt ∧ n.toInt ≤ (9 : Int32).toInt ∨ q_10 = 0 ∧ (n.toInt < (0 : Int32).toInt ∨ (9 : Int32).toInt < n.toInt)) := hq11
        have hP : va_P g.1 vwCl (List.flatten [bMo g o a th hi ac tp ba en tA fl de iD iO tU fm fk fa fc ft ff fb fi]) H := hP
        have hD : va_D A (List.flatten [bMo g o a th hi ac tp ba en tA fl de iD iO tU fm fk fa fc ft ff fb fi]) := hD
        refine W.widen (k := 0) (n := 0) (Nat.le_of_ble_eq_true rfl) (Nat.le_of_ble_eq_true rfl) ?_
        refine W.eq (g2 := F0 m 33 ls [.int q_10, .ref o]) rfl ?_
        rcases hq11 with ⟨rfl, hq11_k⟩ | ⟨rfl, hq11_k⟩
        · skip
          refine lv_if_ne (tgt := 40) hx hb dX12_tie_33 (by decide) (fun _ => ?_) (fun c12 => absurd c12 (by decide))
          refine lv_iconst (v := 0) hx hb dX12_tie_40 (by decide) ?_
          refine va_put (D := g.1) (ci := 10) (v := .int 0) (ty := .int) (C := RX12) (T := TX12) (N := 20) hx hb hts izRX12 tyX12 tyX12_ok nmX12 hown hK hP hD hS 0 rfl rfl 0 (by decide) (hts _ k825) (fun _ h9 => h9) rfl (by decide +kernel) rfl rfl (Nat.le_of_ble_eq_true rfl) dX12_tie_41 (fun H locs hP hD hS => ?_)
          have hP : va_P g.1 vwCl (List.flatten [bMo g o a 0 hi ac tp ba en tA fl de iD iO tU fm fk fa fc ft ff fb fi]) H := hP
          have hD : va_D A (List.flatten [bMo g o a 0 hi ac tp ba en tA fl de iD iO tU fm fk fa fc ft ff fb fi]) := hD
          refine lv_aload_n hx hb dX12_tie_44 rfl (lv_at hl 0 rfl) ?_
          refine va_get (D := g.1) (ci := 10) (v := .int 0) (C := RX12) (T := TX12) (N := 20) hx hb hts izRX12 hown hK hP 0 rfl rfl 0 (by decide) (hts _ k825) (fun _ h9 => h9) rfl dX12_tie_45 ?_
          refine lv_if_le (tgt := 53) hx hb dX12_tie_48 (by decide) (fun _ => ?_) (fun c13 => absurd (by decide) c13)
          refine lv_aload_n hx hb dX12_tie_53 rfl (lv_at hl 0 rfl) ?_
          refine mcallV' (g := g) (q0 := 0) (ci := 10) (As := []) (rest := []) St hK hT hA hP hD hS hl.1 [0] [] rfl rfl rfl (m_remembers l g o a 0 hi ac tp ba en tA fl de iD iO tU fm fk fa fc ft ff fb fi rfm rfc hac) (cwV 0 hts (zgL (zl4 k1047 k1048 k1049 k839) k1046) rfl rfl rfl (by decide +kernel) ⟨Nat.le_of_ble_eq_true rfl, Nat.le_of_ble_eq_true rfl⟩) rfl rfl rfl rfl (Nat.le_of_ble_eq_true rfl) dX12_tie_54 ⟨(Nat.le_of_ble_eq_true rfl), (Nat.le_of_ble_eq_true rfl)⟩ (fun u_ H locs hq16 hP hD hS => ?_)
          obtain ⟨ac2_14, fc2_15⟩ := u_
          replace hq16 : (rC fc2_15) ∧ (0 ≤ ac2_14.toInt ∧ ac2_14.toInt ≤ 12) ∧ (zRem fc fc2_15 ac.toInt ac2_14.toInt fm) := hq16
          have hP : va_P g.1 vwCl (List.flatten [bMo g o a 0 hi ac2_14 tp ba en tA fl de iD iO tU fm fk fa fc2_15 ft ff fb fi]) H := hP
          have hD : va_D A (List.flatten [bMo g o a 0 hi ac2_14 tp ba en tA fl de iD iO tU fm fk fa fc2_15 ft ff fb fi]) := hD
          refine W.widen (k := 0) (n := 0) (Nat.le_of_ble_eq_true rfl) (Nat.le_of_ble_eq_true rfl) ?_
          refine W.eq (g2 := F0 m 57 ls []) rfl ?_
          obtain ⟨rfc2_15, hq16_1, hq16_2⟩ := hq16
          refine lv_aload_n hx hb dX12_tie_57 rfl (lv_at hl 0 rfl) ?_
          refine lv_iload_n hx hb dX12_tie_58 rfl (lv_at hl 1 rfl) ?_
          refine lv_iload_n hx hb dX12_tie_59 rfl (lv_at hl 2 rfl) ?_
          refine mcallV' (g := g) (q0 := 0) (ci := 10) (As := [.int x, .int o2]) (rest := []) St hK hT hA hP hD hS hl.1 [0] [] rfl rfl rfl (m_trustOf l g o a 0 hi ac2_14 tp ba en tA fl de iD iO tU fm fk fa fc2_15 ft ff fb fi x o2 (by first | assumption | omega | decide | exact Or.inl (by decide) | exact Or.inr (by decide)) (by first | assumption | omega | decide | exact Or.inl (by decide) | exact Or.inr (by decide))) (cwV 2 hts (zgL (zl4 k868 k869 k870 k839) k835) rfl rfl rfl (by decide +kernel) ⟨Nat.le_of_ble_eq_true rfl, Nat.le_of_ble_eq_true rfl⟩) rfl rfl rfl rfl (Nat.le_of_ble_eq_true rfl) dX12_tie_60 ⟨(Nat.le_of_ble_eq_true rfl), (Nat.le_of_ble_eq_true rfl)⟩ (fun q_17 H locs hq18 hP hD hS => ?_)
          have hP : va_P g.1 vwCl (List.flatten [bMo g o a 0 hi ac2_14 tp ba en tA fl de iD iO tU fm fk fa fc2_15 ft ff fb fi]) H := hP
          have hD : va_D A (List.flatten [bMo g o a 0 hi ac2_14 tp ba en tA fl de iD iO tU fm fk fa fc2_15 ft ff fb fi]) := hD
          refine W.widen (k := 0) (n := 0) (Nat.le_of_ble_eq_true rfl) (Nat.le_of_ble_eq_true rfl) ?_
          refine W.eq (g2 := F0 m 63 ls [.int q_17]) rfl ?_
          refine lv_istore (lv' := [(4, .int q_17), (0, .ref o), (1, .int x), (2, .int o2), (3, .int n)]) hx hb dX12_tie_63 hl (by decide) rfl (fun ls hl => ?_)
          refine lv_aload_n hx hb dX12_tie_65 rfl (lv_at hl 1 rfl) ?_
          refine va_get (D := g.1) (ci := 10) (v := .ref (a 0)) (C := RX12) (T := TX12) (N := 20) hx hb hts izRX12 hown hK hP 0 rfl rfl 1 (by decide) (hts _ k815) (fun _ h9 => h9) rfl dX12_tie_66 ?_
          refine lv_bipush (v := 51) hx hb dX12_tie_69 (by decide) ?_
          refine lv_bipush (v := 8) hx hb dX12_tie_71 (by decide) ?_
          refine lv_iload_n hx hb dX12_tie_73 rfl (lv_at hl 2 rfl) ?_
          refine lv_imul hx hb dX12_tie_74 ?_
          refine zgv (zmul (i := 8) (j := x.toInt) (by decide) rfl (by omega)) (fun x_19 hx_19 => ?_)
          refine lv_iadd hx hb dX12_tie_75 ?_
          refine zgv (zadd (i := 51) (j := x_19.toInt) (by decide) rfl (by omega)) (fun x_20 hx_20 => ?_)
          refine lv_iload_n hx hb dX12_tie_76 rfl (lv_at hl 3 rfl) ?_
          refine lv_iadd hx hb dX12_tie_77 ?_
          refine zgv (zadd (i := x_20.toInt) (j := o2.toInt) rfl rfl (by omega)) (fun x_21 hx_21 => ?_)
          refine lv_iload_n hx hb dX12_tie_78 rfl (lv_at hl 4 rfl) ?_
          refine va_iast hx hb hK hP hD hS 1 0 rfl rfl (zinI (by omega) (by omega)) dX12_tie_79 (fun H locs hP hD hS => ?_)
          obtain ⟨fm_22, rfm_22, hkfm_22, hP, hD⟩ : ∃ fm_22 : Nat → Int32, rM fm_22 ∧ ((fm_22 0).toInt = (fm 0).toInt ∧ (fm_22 3).toInt = (fm 3).toInt ∧ (fm_22 4).toInt = (fm 4).toInt) ∧ va_P g.1 vwCl (List.flatten [bMo g o a 0 hi ac2_14 tp ba en tA fl de iD iO tU fm_22 fk fa fc2_15 ft ff fb fi]) H ∧ va_D A (List.flatten [bMo g o a 0 hi ac2_14 tp ba en tA fl de iD iO tU fm_22 fk fa fc2_15 ft ff fb fi]) := ⟨upd fm x_21.toNatClampNeg n, (rM_st (j := x_21.toInt) (w := n.toInt) rfm rfl rfl (by omega)), (zkpG (by omega)), hP, hD⟩
          refine lv_iload hx hb dX12_tie_80 (lv_at hl 0 rfl) ?_
          have hP : va_P g.1 vwCl (List.flatten [bMo g o a 0 hi ac2_14 tp ba en tA fl de iD iO tU fm_22 fk fa fc2_15 ft ff fb fi]) H := hP
          have hD : va_D A (List.flatten [bMo g o a 0 hi ac2_14 tp ba en tA fl de iD iO tU fm_22 fk fa fc2_15 ft ff fb fi]) := hD
          exact mret_i hx hb hr hlocks hS (Nat.le_of_ble_eq_true rfl) (Nat.le_of_ble_eq_true rfl) dX12_tie_82 ((0 : Int32), ac2_14, fc2_15, fm_22, q_17) rfl (show ((fm_22 0).toInt = (fm 0).toInt ∧ (fm_22 3).toInt = (fm 3).toInt ∧ (fm_22 4).toInt = (fm 4).toInt) ∧ (rM fm_22) ∧ (rC fc2_15) ∧ (0 ≤ ac2_14.toInt ∧ ac2_14.toInt ≤ 12) ∧ (zMa fc fc2_15 ac.toInt ac2_14.toInt fm) from ⟨(by first | assumption | omega | decide | exact rfl | exact zb01 (by omega) | exact Or.inl (by decide) | exact Or.inr (by first | omega | decide)), rfm_22, rfc2_15, hq16_1, (Or.inr hq16_2)⟩) hP hD
        · skip
          refine lv_if_ne (tgt := 40) hx hb dX12_tie_33 (by decide) (fun c23 => absurd (by decide) c23) (fun _ => ?_)
          refine lv_iconst (v := 2) hx hb dX12_tie_36 (by decide) ?_
          refine lv_goto (tgt := 41) hx hb dX12_tie_37 (by decide) ?_
          refine va_put (D := g.1) (ci := 10) (v := .int 2) (ty := .int) (C := RX12) (T := TX12) (N := 20) hx hb hts izRX12 tyX12 tyX12_ok nmX12 hown hK hP hD hS 0 rfl rfl 0 (by decide) (hts _ k825) (fun _ h9 => h9) rfl (by decide +kernel) rfl rfl (Nat.le_of_ble_eq_true rfl) dX12_tie_41 (fun H locs hP hD hS => ?_)
          have hP : va_P g.1 vwCl (List.flatten [bMo g o a 2 hi ac tp ba en tA fl de iD iO tU fm fk fa fc ft ff fb fi]) H := hP
          have hD : va_D A (List.flatten [bMo g o a 2 hi ac tp ba en tA fl de iD iO tU fm fk fa fc ft ff fb fi]) := hD
          refine lv_aload_n hx hb dX12_tie_44 rfl (lv_at hl 0 rfl) ?_
          refine va_get (D := g.1) (ci := 10) (v := .int 2) (C := RX12) (T := TX12) (N := 20) hx hb hts izRX12 hown hK hP 0 rfl rfl 0 (by decide) (hts _ k825) (fun _ h9 => h9) rfl dX12_tie_45 ?_
          refine lv_if_le (tgt := 53) hx hb dX12_tie_48 (by decide) (fun c24 => absurd c24 (by decide)) (fun _ => ?_)
          refine lv_iconst (v := 0) hx hb dX12_tie_51 (by decide) ?_
          have hP : va_P g.1 vwCl (List.flatten [bMo g o a 2 hi ac tp ba en tA fl de iD iO tU fm fk fa fc ft ff fb fi]) H := hP
          have hD : va_D A (List.flatten [bMo g o a 2 hi ac tp ba en tA fl de iD iO tU fm fk fa fc ft ff fb fi]) := hD
          exact mret_i hx hb hr hlocks hS (Nat.le_of_ble_eq_true rfl) (Nat.le_of_ble_eq_true rfl) dX12_tie_52 ((2 : Int32), ac, fc, fm, (0 : Int32)) rfl (show ((fm 0).toInt = (fm 0).toInt ∧ (fm 3).toInt = (fm 3).toInt ∧ (fm 4).toInt = (fm 4).toInt) ∧ (rM fm) ∧ (rC fc) ∧ (0 ≤ ac.toInt ∧ ac.toInt ≤ 12) ∧ (zMa fc fc ac.toInt ac.toInt fm) from ⟨(by first | assumption | omega | decide | exact rfl | exact zb01 (by omega) | exact Or.inl (by decide) | exact Or.inr (by first | omega | decide)), rfm, rfc, hac, zMa_0⟩) hP hD
    · skip
      refine lv_if_ne (tgt := 21) hx hb dX12_tie_14 (by decide) (fun c25 => absurd (by decide) c25) (fun _ => ?_)
      refine lv_iconst (v := 1) hx hb dX12_tie_17 (by decide) ?_
      refine lv_goto (tgt := 41) hx hb dX12_tie_18 (by decide) ?_
      refine va_put (D := g.1) (ci := 10) (v := .int 1) (ty := .int) (C := RX12) (T := TX12) (N := 20) hx hb hts izRX12 tyX12 tyX12_ok nmX12 hown hK hP hD hS 0 rfl rfl 0 (by decide) (hts _ k825) (fun _ h9 => h9) rfl (by decide +kernel) rfl rfl (Nat.le_of_ble_eq_true rfl) dX12_tie_41 (fun H locs hP hD hS => ?_)
      have hP : va_P g.1 vwCl (List.flatten [bMo g o a 1 hi ac tp ba en tA fl de iD iO tU fm fk fa fc ft ff fb fi]) H := hP
      have hD : va_D A (List.flatten [bMo g o a 1 hi ac tp ba en tA fl de iD iO tU fm fk fa fc ft ff fb fi]) := hD
      refine lv_aload_n hx hb dX12_tie_44 rfl (lv_at hl 0 rfl) ?_
      refine va_get (D := g.1) (ci := 10) (v := .int 1) (C := RX12) (T := TX12) (N := 20) hx hb hts izRX12 hown hK hP 0 rfl rfl 0 (by decide) (hts _ k825) (fun _ h9 => h9) rfl dX12_tie_45 ?_
      refine lv_if_le (tgt := 53) hx hb dX12_tie_48 (by decide) (fun c26 => absurd c26 (by decide)) (fun _ => ?_)
      refine lv_iconst (v := 0) hx hb dX12_tie_51 (by decide) ?_
      have hP : va_P g.1 vwCl (List.flatten [bMo g o a 1 hi ac tp ba en tA fl de iD iO tU fm fk fa fc ft ff fb fi]) H := hP
      have hD : va_D A (List.flatten [bMo g o a 1 hi ac tp ba en tA fl de iD iO tU fm fk fa fc ft ff fb fi]) := hD
      exact mret_i hx hb hr hlocks hS (Nat.le_of_ble_eq_true rfl) (Nat.le_of_ble_eq_true rfl) dX12_tie_52 ((1 : Int32), ac, fc, fm, (0 : Int32)) rfl (show ((fm 0).toInt = (fm 0).toInt ∧ (fm 3).toInt = (fm 3).toInt ∧ (fm 4).toInt = (fm 4).toInt) ∧ (rM fm) ∧ (rC fc) ∧ (0 ≤ ac.toInt ∧ ac.toInt ≤ 12) ∧ (zMa fc fc ac.toInt ac.toInt fm) from ⟨(by first | assumption | omega | decide | exact rfl | exact zb01 (by omega) | exact Or.inl (by decide) | exact Or.inr (by first | omega | decide)), rfm, rfc, hac, zMa_0⟩) hP hD
  · skip
    refine lv_if_eq (tgt := 17) hx hb dX12_tie_6 (by decide) (fun _ => ?_) (fun c27 => absurd (by decide) c27)
    refine lv_iconst (v := 1) hx hb dX12_tie_17 (by decide) ?_
    refine lv_goto (tgt := 41) hx hb dX12_tie_18 (by decide) ?_
    refine va_put (D := g.1) (ci := 10) (v := .int 1) (ty := .int) (C := RX12) (T := TX12) (N := 20) hx hb hts izRX12 tyX12 tyX12_ok nmX12 hown hK hP hD hS 0 rfl rfl 0 (by decide) (hts _ k825) (fun _ h9 => h9) rfl (by decide +kernel) rfl rfl (Nat.le_of_ble_eq_true rfl) dX12_tie_41 (fun H locs hP hD hS => ?_)
    have hP : va_P g.1 vwCl (List.flatten [bMo g o a 1 hi ac tp ba en tA fl de iD iO tU fm fk fa fc ft ff fb fi]) H := hP
    have hD : va_D A (List.flatten [bMo g o a 1 hi ac tp ba en tA fl de iD iO tU fm fk fa fc ft ff fb fi]) := hD
    refine lv_aload_n hx hb dX12_tie_44 rfl (lv_at hl 0 rfl) ?_
    refine va_get (D := g.1) (ci := 10) (v := .int 1) (C := RX12) (T := TX12) (N := 20) hx hb hts izRX12 hown hK hP 0 rfl rfl 0 (by decide) (hts _ k825) (fun _ h9 => h9) rfl dX12_tie_45 ?_
    refine lv_if_le (tgt := 53) hx hb dX12_tie_48 (by decide) (fun c28 => absurd c28 (by decide)) (fun _ => ?_)
    refine lv_iconst (v := 0) hx hb dX12_tie_51 (by decide) ?_
    have hP : va_P g.1 vwCl (List.flatten [bMo g o a 1 hi ac tp ba en tA fl de iD iO tU fm fk fa fc ft ff fb fi]) H := hP
    have hD : va_D A (List.flatten [bMo g o a 1 hi ac tp ba en tA fl de iD iO tU fm fk fa fc ft ff fb fi]) := hD
    exact mret_i hx hb hr hlocks hS (Nat.le_of_ble_eq_true rfl) (Nat.le_of_ble_eq_true rfl) dX12_tie_52 ((1 : Int32), ac, fc, fm, (0 : Int32)) rfl (show ((fm 0).toInt = (fm 0).toInt ∧ (fm 3).toInt = (fm 3).toInt ∧ (fm 4).toInt = (fm 4).toInt) ∧ (rM fm) ∧ (rC fc) ∧ (0 ≤ ac.toInt ∧ ac.toInt ≤ 12) ∧ (zMa fc fc ac.toInt ac.toInt fm) from ⟨(by first | assumption | omega | decide | exact rfl | exact zb01 (by omega) | exact Or.inl (by decide) | exact Or.inr (by first | omega | decide)), rfm, rfc, hac, zMa_0⟩) hP hD
set_option maxRecDepth 100000 in
set_option maxHeartbeats 4000000 in
theorem m_plan (l : Launch) (g : zG) (o : Nat) (a : Nat → Nat) (th : Int32) (hi : Int32) (ac : Int32) (tp : Int32) (ba : Int32) (en : Int32) (tA : Int32) (fl : Int32) (de : Int32) (iD : Int32) (iO : Int32) (tU : Int32) (fm : Nat → Int32) (fk : Nat → Int32) (fa : Nat → Int32) (fc : Nat → Int32) (ft : Nat → Int32) (ff : Nat → Int32) (fb : Nat → Int32) (fi : Nat → Int32) (w : Int32) (rfm : rM fm) (rfc : rC fc) (hac : 0 ≤ ac.toInt ∧ ac.toInt ≤ 12) : zM' g l yX12_plan (Cond.code yX12_plan cX12_plan 2 none :: zB) ({ frames := 2, cells := 0, slots := 0, locals := 43 } : Room) [.ref o, .int w] [bMo g o a th hi ac tp ba en tA fl de iD iO tU fm fk fa fc ft ff fb fi] (fun u : Int32 × Int32 × (Nat → Int32) × (Nat → Int32) => (fun (th2 : Int32) (ac2 : Int32) (fc2 : Nat → Int32) (fm2 : Nat → Int32) => none) (u.1) (u.2.1) (u.2.2.1) (u.2.2.2)) (fun u : Int32 × Int32 × (Nat → Int32) × (Nat → Int32) => (fun (th2 : Int32) (ac2 : Int32) (fc2 : Nat → Int32) (fm2 : Nat → Int32) => ((fm2 0).toInt = (fm 0).toInt ∧ (fm2 3).toInt = (fm 3).toInt ∧ (fm2 4).toInt = (fm 4).toInt) ∧ (rM fm2) ∧ (rC fc2) ∧ (0 ≤ ac2.toInt ∧ ac2.toInt ≤ 12) ∧ (zMa fc fc2 ac.toInt ac2.toInt fm)) (u.1) (u.2.1) (u.2.2.1) (u.2.2.2)) (fun u : Int32 × Int32 × (Nat → Int32) × (Nat → Int32) => (fun (th2 : Int32) (ac2 : Int32) (fc2 : Nat → Int32) (fm2 : Nat → Int32) => [bMo g o a th2 hi ac2 tp ba en tA fl de iD iO tU fm2 fk fa fc2 ft ff fb fi]) (u.1) (u.2.1) (u.2.2.1) (u.2.2.2)) := by
  refine zM'.of (cc := cX12_plan) (maxL := 2) (rt := none) (by decide) rfl (Nat.le_of_ble_eq_true rfl) ?_
  intro p e s m args below meth c A ls St hr hlocks hin hK hT hA hP hD hS hl
  obtain ⟨hx, hb, hml, hown, hts⟩ := id St
  have hl : lv_has ls 2 [(0, .ref o), (1, .int w)] := hl
  refine lv_aload_n hx hb dX12_plan_0 rfl (lv_at hl 0 rfl) ?_
  refine lv_aload_n hx hb dX12_plan_1 rfl (lv_at hl 0 rfl) ?_
  refine lv_iload_n hx hb dX12_plan_2 rfl (lv_at hl 1 rfl) ?_
  refine mcallV' (g := g) (q0 := 0) (ci := 10) (As := [.int w]) (rest := [.ref o]) St hK hT hA hP hD hS hl.1 [0] [] rfl rfl rfl (m_isWork l g o a th hi ac tp ba en tA fl de iD iO tU fm fk fa fc ft ff fb fi w rfm) (cwV 1 hts (zgL (zl4 k1042 k1043 k1044 k839) k840) rfl rfl rfl (by decide +kernel) ⟨Nat.le_of_ble_eq_true rfl, Nat.le_of_ble_eq_true rfl⟩) rfl rfl rfl rfl (Nat.le_of_ble_eq_true rfl) dX12_plan_3 ⟨(Nat.le_of_ble_eq_true rfl), (Nat.le_of_ble_eq_true rfl)⟩ (fun q_1 H locs hq2 hP hD hS => ?_)
  replace hq2 : (q_1 = 1 ∧ 0 ≤ w.toInt ∧ w.toInt ≤ 5 ∧ w.toInt < (fm 4).toInt ∨ q_1 = 0) := hq2
  have hP : va_P g.1 vwCl (List.flatten [bMo g o a th hi ac tp ba en tA fl de iD iO tU fm fk fa fc ft ff fb fi]) H := hP
  have hD : va_D A (List.flatten [bMo g o a th hi ac tp ba en tA fl de iD iO tU fm fk fa fc ft ff fb fi]) := hD
  refine W.widen (k := 0) (n := 0) (Nat.le_of_ble_eq_true rfl) (Nat.le_of_ble_eq_true rfl) ?_
  refine W.eq (g2 := F0 m 6 ls [.int q_1, .ref o]) rfl ?_
  rcases hq2 with ⟨rfl, hq2_k⟩ | rfl
  · skip
    refine lv_if_ne (tgt := 13) hx hb dX12_plan_6 (by decide) (fun _ => ?_) (fun c3 => absurd c3 (by decide))
    refine lv_aload_n hx hb dX12_plan_13 rfl (lv_at hl 0 rfl) ?_
    refine lv_iload_n hx hb dX12_plan_14 rfl (lv_at hl 1 rfl) ?_
    refine lv_iconst (v := 3) hx hb dX12_plan_15 (by decide) ?_
    have hL3 : (3 : Int32).toInt = 3 := by decide
    refine mcallV' (g := g) (q0 := 0) (ci := 10) (As := [.int w, .int 3]) (rest := [.ref o]) St hK hT hA hP hD hS hl.1 [0] [] rfl rfl rfl (m_ofWork l g o a th hi ac tp ba en tA fl de iD iO tU fm fk fa fc ft ff fb fi w 3 (by first | assumption | omega | decide | exact Or.inl (by decide) | exact Or.inr (by decide)) (by decide)) (cwV 2 hts (zgL (zl4 k864 k865 k866 k839) k833) rfl rfl rfl (by decide +kernel) ⟨Nat.le_of_ble_eq_true rfl, Nat.le_of_ble_eq_true rfl⟩) rfl rfl rfl rfl (Nat.le_of_ble_eq_true rfl) dX12_plan_16 ⟨(Nat.le_of_ble_eq_true rfl), (Nat.le_of_ble_eq_true rfl)⟩ (fun q_4 H locs hq5 hP hD hS => ?_)
    have hP : va_P g.1 vwCl (List.flatten [bMo g o a th hi ac tp ba en tA fl de iD iO tU fm fk fa fc ft ff fb fi]) H := hP
    have hD : va_D A (List.flatten [bMo g o a th hi ac tp ba en tA fl de iD iO tU fm fk fa fc ft ff fb fi]) := hD
    refine W.widen (k := 0) (n := 0) (Nat.le_of_ble_eq_true rfl) (Nat.le_of_ble_eq_true rfl) ?_
    refine W.eq (g2 := F0 m 19 ls [.int q_4, .ref o]) rfl ?_
    refine lv_iconst (v := 2) hx hb dX12_plan_19 (by decide) ?_
    refine lv_icmp_eq (tgt := 27) hx hb dX12_plan_20 (by decide) (fun cb9 => ?_) (fun cb9 => ?_)
    · skip
      have c6 : q_4.toInt = 2 := zeq cb9 rfl (by decide)
      have n7 : 2 ≤ q_4.toInt := Int.le_trans (Int.le_refl _) (Int.le_of_eq c6.symm)
      have n8 : q_4.toInt ≤ 2 := Int.le_trans (Int.le_of_eq c6) (Int.le_refl _)
      refine lv_iconst (v := 0) hx hb dX12_plan_27 (by decide) ?_
      refine va_put (D := g.1) (ci := 10) (v := .int 0) (ty := .int) (C := RX12) (T := TX12) (N := 20) hx hb hts izRX12 tyX12 tyX12_ok nmX12 hown hK hP hD hS 0 rfl rfl 0 (by decide) (hts _ k825) (fun _ h9 => h9) rfl (by decide +kernel) rfl rfl (Nat.le_of_ble_eq_true rfl) dX12_plan_28 (fun H locs hP hD hS => ?_)
      have hP : va_P g.1 vwCl (List.flatten [bMo g o a 0 hi ac tp ba en tA fl de iD iO tU fm fk fa fc ft ff fb fi]) H := hP
      have hD : va_D A (List.flatten [bMo g o a 0 hi ac tp ba en tA fl de iD iO tU fm fk fa fc ft ff fb fi]) := hD
      refine lv_aload_n hx hb dX12_plan_31 rfl (lv_at hl 0 rfl) ?_
      refine va_get (D := g.1) (ci := 10) (v := .int 0) (C := RX12) (T := TX12) (N := 20) hx hb hts izRX12 hown hK hP 0 rfl rfl 0 (by decide) (hts _ k825) (fun _ h9 => h9) rfl dX12_plan_32 ?_
      refine lv_if_le (tgt := 39) hx hb dX12_plan_35 (by decide) (fun _ => ?_) (fun c9 => absurd (by decide) c9)
      refine lv_aload_n hx hb dX12_plan_39 rfl (lv_at hl 0 rfl) ?_
      refine mcallV' (g := g) (q0 := 0) (ci := 10) (As := []) (rest := []) St hK hT hA hP hD hS hl.1 [0] [] rfl rfl rfl (m_remembers l g o a 0 hi ac tp ba en tA fl de iD iO tU fm fk fa fc ft ff fb fi rfm rfc hac) (cwV 0 hts (zgL (zl4 k1047 k1048 k1049 k839) k1046) rfl rfl rfl (by decide +kernel) ⟨Nat.le_of_ble_eq_true rfl, Nat.le_of_ble_eq_true rfl⟩) rfl rfl rfl rfl (Nat.le_of_ble_eq_true rfl) dX12_plan_40 ⟨(Nat.le_of_ble_eq_true rfl), (Nat.le_of_ble_eq_true rfl)⟩ (fun u_ H locs hq12 hP hD hS => ?_)
      obtain ⟨ac2_10, fc2_11⟩ := u_
      replace hq12 : (rC fc2_11) ∧ (0 ≤ ac2_10.toInt ∧ ac2_10.toInt ≤ 12) ∧ (zRem fc fc2_11 ac.toInt ac2_10.toInt fm) := hq12
      have hP : va_P g.1 vwCl (List.flatten [bMo g o a 0 hi ac2_10 tp ba en tA fl de iD iO tU fm fk fa fc2_11 ft ff fb fi]) H := hP
      have hD : va_D A (List.flatten [bMo g o a 0 hi ac2_10 tp ba en tA fl de iD iO tU fm fk fa fc2_11 ft ff fb fi]) := hD
      refine W.widen (k := 0) (n := 0) (Nat.le_of_ble_eq_true rfl) (Nat.le_of_ble_eq_true rfl) ?_
      refine W.eq (g2 := F0 m 43 ls []) rfl ?_
      obtain ⟨rfc2_11, hq12_1, hq12_2⟩ := hq12
      refine lv_aload_n hx hb dX12_plan_43 rfl (lv_at hl 0 rfl) ?_
      refine lv_iload_n hx hb dX12_plan_44 rfl (lv_at hl 1 rfl) ?_
      refine lv_iconst (v := 3) hx hb dX12_plan_45 (by decide) ?_
      refine lv_iconst (v := 0) hx hb dX12_plan_46 (by decide) ?_
      refine mcallV' (g := g) (q0 := 0) (ci := 10) (As := [.int w, .int 3, .int 0]) (rest := []) St hK hT hA hP hD hS hl.1 [0] [] rfl rfl rfl (m_putWork l g o a 0 hi ac2_10 tp ba en tA fl de iD iO tU fm fk fa fc2_11 ft ff fb fi w 3 0 rfm (by first | assumption | omega | decide | exact Or.inl (by decide) | exact Or.inr (by decide)) (by decide)) (cwV 3 hts (zgL (zl4 k914 k915 k916 k839) k834) rfl rfl rfl (by decide +kernel) ⟨Nat.le_of_ble_eq_true rfl, Nat.le_of_ble_eq_true rfl⟩) rfl rfl rfl rfl (Nat.le_of_ble_eq_true rfl) dX12_plan_47 ⟨(Nat.le_of_ble_eq_true rfl), (Nat.le_of_ble_eq_true rfl)⟩ (fun fm2_13 H locs hq14 hP hD hS => ?_)
      replace hq14 : ((fm2_13 0).toInt = (fm 0).toInt ∧ (fm2_13 3).toInt = (fm 3).toInt ∧ (fm2_13 4).toInt = (fm 4).toInt) ∧ (rM fm2_13) ∧ ((fm2_13 3).toInt = (fm 3).toInt ∧ (fm2_13 4).toInt = (fm 4).toInt) := hq14
      have hP : va_P g.1 vwCl (List.flatten [bMo g o a 0 hi ac2_10 tp ba en tA fl de iD iO tU fm2_13 fk fa fc2_11 ft ff fb fi]) H := hP
      have hD : va_D A (List.flatten [bMo g o a 0 hi ac2_10 tp ba en tA fl de iD iO tU fm2_13 fk fa fc2_11 ft ff fb fi]) := hD
      refine W.widen (k := 0) (n := 0) (Nat.le_of_ble_eq_true rfl) (Nat.le_of_ble_eq_true rfl) ?_
      refine W.eq (g2 := F0 m 50 ls []) rfl ?_
      obtain ⟨hq14_0, rfm2_13, hq14_2⟩ := hq14
      have hP : va_P g.1 vwCl (List.flatten [bMo g o a 0 hi ac2_10 tp ba en tA fl de iD iO tU fm2_13 fk fa fc2_11 ft ff fb fi]) H := hP
      have hD : va_D A (List.flatten [bMo g o a 0 hi ac2_10 tp ba en tA fl de iD iO tU fm2_13 fk fa fc2_11 ft ff fb fi]) := hD
      exact mret_v hx hb hr hlocks hS (Nat.le_of_ble_eq_true rfl) (Nat.le_of_ble_eq_true rfl) dX12_plan_50 ((0 : Int32), ac2_10, fc2_11, fm2_13) rfl (show ((fm2_13 0).toInt = (fm 0).toInt ∧ (fm2_13 3).toInt = (fm 3).toInt ∧ (fm2_13 4).toInt = (fm 4).toInt) ∧ (rM fm2_13) ∧ (rC fc2_11) ∧ (0 ≤ ac2_10.toInt ∧ ac2_10.toInt ≤ 12) ∧ (zMa fc fc2_11 ac.toInt ac2_10.toInt fm) from ⟨hq14_0, rfm2_13, rfc2_11, hq12_1, (Or.inr hq12_2)⟩) hP hD
    · skip
      have c15 : ¬ q_4.toInt = 2 := zne cb9 rfl (by decide)
      refine lv_iconst (v := 2) hx hb dX12_plan_23 (by decide) ?_
      refine lv_goto (tgt := 28) hx hb dX12_plan_24 (by decide) ?_
      refine va_put (D := g.1) (ci := 10) (v := .int 2) (ty := .int) (C := RX12) (T := TX12) (N := 20) hx hb hts izRX12 tyX12 tyX12_ok nmX12 hown hK hP hD hS 0 rfl rfl 0 (by decide) (hts _ k825) (fun _ h9 => h9) rfl (by decide +kernel) rfl rfl (Nat.le_of_ble_eq_true rfl) dX12_plan_28 (fun H locs hP hD hS => ?_)
      have hP : va_P g.1 vwCl (List.flatten [bMo g o a 2 hi ac tp ba en tA fl de iD iO tU fm fk fa fc ft ff fb fi]) H := hP
      have hD : va_D A (List.flatten [bMo g o a 2 hi ac tp ba en tA fl de iD iO tU fm fk fa fc ft ff fb fi]) := hD
      refine lv_aload_n hx hb dX12_plan_31 rfl (lv_at hl 0 rfl) ?_
      refine va_get (D := g.1) (ci := 10) (v := .int 2) (C := RX12) (T := TX12) (N := 20) hx hb hts izRX12 hown hK hP 0 rfl rfl 0 (by decide) (hts _ k825) (fun _ h9 => h9) rfl dX12_plan_32 ?_
      refine lv_if_le (tgt := 39) hx hb dX12_plan_35 (by decide) (fun c16 => absurd c16 (by decide)) (fun _ => ?_)
      have hP : va_P g.1 vwCl (List.flatten [bMo g o a 2 hi ac tp ba en tA fl de iD iO tU fm fk fa fc ft ff fb fi]) H := hP
      have hD : va_D A (List.flatten [bMo g o a 2 hi ac tp ba en tA fl de iD iO tU fm fk fa fc ft ff fb fi]) := hD
      exact mret_v hx hb hr hlocks hS (Nat.le_of_ble_eq_true rfl) (Nat.le_of_ble_eq_true rfl) dX12_plan_38 ((2 : Int32), ac, fc, fm) rfl (show ((fm 0).toInt = (fm 0).toInt ∧ (fm 3).toInt = (fm 3).toInt ∧ (fm 4).toInt = (fm 4).toInt) ∧ (rM fm) ∧ (rC fc) ∧ (0 ≤ ac.toInt ∧ ac.toInt ≤ 12) ∧ (zMa fc fc ac.toInt ac.toInt fm) from ⟨(by first | assumption | omega | decide | exact rfl | exact zb01 (by omega) | exact Or.inl (by decide) | exact Or.inr (by first | omega | decide)), rfm, rfc, hac, zMa_0⟩) hP hD
  · skip
    refine lv_if_ne (tgt := 13) hx hb dX12_plan_6 (by decide) (fun c17 => absurd (by decide) c17) (fun _ => ?_)
    refine lv_iconst (v := 1) hx hb dX12_plan_9 (by decide) ?_
    refine lv_goto (tgt := 28) hx hb dX12_plan_10 (by decide) ?_
    refine va_put (D := g.1) (ci := 10) (v := .int 1) (ty := .int) (C := RX12) (T := TX12) (N := 20) hx hb hts izRX12 tyX12 tyX12_ok nmX12 hown hK hP hD hS 0 rfl rfl 0 (by decide) (hts _ k825) (fun _ h9 => h9) rfl (by decide +kernel) rfl rfl (Nat.le_of_ble_eq_true rfl) dX12_plan_28 (fun H locs hP hD hS => ?_)
    have hP : va_P g.1 vwCl (List.flatten [bMo g o a 1 hi ac tp ba en tA fl de iD iO tU fm fk fa fc ft ff fb fi]) H := hP
    have hD : va_D A (List.flatten [bMo g o a 1 hi ac tp ba en tA fl de iD iO tU fm fk fa fc ft ff fb fi]) := hD
    refine lv_aload_n hx hb dX12_plan_31 rfl (lv_at hl 0 rfl) ?_
    refine va_get (D := g.1) (ci := 10) (v := .int 1) (C := RX12) (T := TX12) (N := 20) hx hb hts izRX12 hown hK hP 0 rfl rfl 0 (by decide) (hts _ k825) (fun _ h9 => h9) rfl dX12_plan_32 ?_
    refine lv_if_le (tgt := 39) hx hb dX12_plan_35 (by decide) (fun c18 => absurd c18 (by decide)) (fun _ => ?_)
    have hP : va_P g.1 vwCl (List.flatten [bMo g o a 1 hi ac tp ba en tA fl de iD iO tU fm fk fa fc ft ff fb fi]) H := hP
    have hD : va_D A (List.flatten [bMo g o a 1 hi ac tp ba en tA fl de iD iO tU fm fk fa fc ft ff fb fi]) := hD
    exact mret_v hx hb hr hlocks hS (Nat.le_of_ble_eq_true rfl) (Nat.le_of_ble_eq_true rfl) dX12_plan_38 ((1 : Int32), ac, fc, fm) rfl (show ((fm 0).toInt = (fm 0).toInt ∧ (fm 3).toInt = (fm 3).toInt ∧ (fm 4).toInt = (fm 4).toInt) ∧ (rM fm) ∧ (rC fc) ∧ (0 ≤ ac.toInt ∧ ac.toInt ≤ 12) ∧ (zMa fc fc ac.toInt ac.toInt fm) from ⟨(by first | assumption | omega | decide | exact rfl | exact zb01 (by omega) | exact Or.inl (by decide) | exact Or.inr (by first | omega | decide)), rfm, rfc, hac, zMa_0⟩) hP hD
set_option maxRecDepth 100000 in
set_option maxHeartbeats 4000000 in
theorem m_send (l : Launch) (g : zG) (o : Nat) (a : Nat → Nat) (th : Int32) (hi : Int32) (ac : Int32) (tp : Int32) (ba : Int32) (en : Int32) (tA : Int32) (fl : Int32) (de : Int32) (iD : Int32) (iO : Int32) (tU : Int32) (fm : Nat → Int32) (fk : Nat → Int32) (fa : Nat → Int32) (fc : Nat → Int32) (ft : Nat → Int32) (ff : Nat → Int32) (fb : Nat → Int32) (fi : Nat → Int32) (x : Int32) (rfm : rM fm) (rfc : rC fc) (hac : 0 ≤ ac.toInt ∧ ac.toInt ≤ 12) : zM' g l yX12_send (Cond.code yX12_send cX12_send 2 (some .int) :: zB) ({ frames := 2, cells := 0, slots := 0, locals := 43 } : Room) [.ref o, .int x] [bMo g o a th hi ac tp ba en tA fl de iD iO tU fm fk fa fc ft ff fb fi] (fun u : Int32 × Int32 × (Nat → Int32) × (Nat → Int32) × Int32 => (fun (th2 : Int32) (ac2 : Int32) (fc2 : Nat → Int32) (fm2 : Nat → Int32) (q : Int32) => some (.int q)) (u.1) (u.2.1) (u.2.2.1) (u.2.2.2.1) (u.2.2.2.2)) (fun u : Int32 × Int32 × (Nat → Int32) × (Nat → Int32) × Int32 => (fun (th2 : Int32) (ac2 : Int32) (fc2 : Nat → Int32) (fm2 : Nat → Int32) (q : Int32) => ((fm2 0).toInt = (fm 0).toInt ∧ (fm2 3).toInt = (fm 3).toInt ∧ (fm2 4).toInt = (fm 4).toInt) ∧ (rM fm2) ∧ (rC fc2) ∧ (0 ≤ ac2.toInt ∧ ac2.toInt ≤ 12) ∧ (zMa fc fc2 ac.toInt ac2.toInt fm)) (u.1) (u.2.1) (u.2.2.1) (u.2.2.2.1) (u.2.2.2.2)) (fun u : Int32 × Int32 × (Nat → Int32) × (Nat → Int32) × Int32 => (fun (th2 : Int32) (ac2 : Int32) (fc2 : Nat → Int32) (fm2 : Nat → Int32) (q : Int32) => [bMo g o a th2 hi ac2 tp ba en tA fl de iD iO tU fm2 fk fa fc2 ft ff fb fi]) (u.1) (u.2.1) (u.2.2.1) (u.2.2.2.1) (u.2.2.2.2)) := by
  refine zM'.of (cc := cX12_send) (maxL := 2) (rt := (some .int)) (by decide) rfl (Nat.le_of_ble_eq_true rfl) ?_
  intro p e s m args below meth c A ls St hr hlocks hin hK hT hA hP hD hS hl
  obtain ⟨hx, hb, hml, hown, hts⟩ := id St
  have hl : lv_has ls 2 [(0, .ref o), (1, .int x)] := hl
  refine lv_aload_n hx hb dX12_send_0 rfl (lv_at hl 0 rfl) ?_
  refine lv_aload_n hx hb dX12_send_1 rfl (lv_at hl 0 rfl) ?_
  refine lv_iload_n hx hb dX12_send_2 rfl (lv_at hl 1 rfl) ?_
  refine mcallV' (g := g) (q0 := 0) (ci := 10) (As := [.int x]) (rest := [.ref o]) St hK hT hA hP hD hS hl.1 [0] [] rfl rfl rfl (m_isPerson l g o a th hi ac tp ba en tA fl de iD iO tU fm fk fa fc ft ff fb fi x rfm) (cwV 1 hts (zgL (zl4 k1033 k1034 k1035 k839) k836) rfl rfl rfl (by decide +kernel) ⟨Nat.le_of_ble_eq_true rfl, Nat.le_of_ble_eq_true rfl⟩) rfl rfl rfl rfl (Nat.le_of_ble_eq_true rfl) dX12_send_3 ⟨(Nat.le_of_ble_eq_true rfl), (Nat.le_of_ble_eq_true rfl)⟩ (fun q_1 H locs hq2 hP hD hS => ?_)
  replace hq2 : (q_1 = 1 ∧ 0 ≤ x.toInt ∧ x.toInt ≤ 7 ∧ x.toInt < (fm 3).toInt ∨ q_1 = 0) := hq2
  have hP : va_P g.1 vwCl (List.flatten [bMo g o a th hi ac tp ba en tA fl de iD iO tU fm fk fa fc ft ff fb fi]) H := hP
  have hD : va_D A (List.flatten [bMo g o a th hi ac tp ba en tA fl de iD iO tU fm fk fa fc ft ff fb fi]) := hD
  refine W.widen (k := 0) (n := 0) (Nat.le_of_ble_eq_true rfl) (Nat.le_of_ble_eq_true rfl) ?_
  refine W.eq (g2 := F0 m 6 ls [.int q_1, .ref o]) rfl ?_
  rcases hq2 with ⟨rfl, hq2_k⟩ | rfl
  · skip
    refine lv_if_ne (tgt := 13) hx hb dX12_send_6 (by decide) (fun _ => ?_) (fun c3 => absurd c3 (by decide))
    refine lv_aload_n hx hb dX12_send_13 rfl (lv_at hl 0 rfl) ?_
    refine lv_iload_n hx hb dX12_send_14 rfl (lv_at hl 1 rfl) ?_
    refine mcallV' (g := g) (q0 := 0) (ci := 10) (As := [.int x]) (rest := [.ref o]) St hK hT hA hP hD hS hl.1 [0] [] rfl rfl rfl (m_isHere l g o a th hi ac tp ba en tA fl de iD iO tU fm fk fa fc ft ff fb fi x (by first | assumption | omega | decide | exact Or.inl (by decide) | exact Or.inr (by decide))) (cwV 1 hts (zgL (zl4 k846 k847 k848 k839) k841) rfl rfl rfl (by decide +kernel) ⟨Nat.le_of_ble_eq_true rfl, Nat.le_of_ble_eq_true rfl⟩) rfl rfl rfl rfl (Nat.le_of_ble_eq_true rfl) dX12_send_15 ⟨(Nat.le_of_ble_eq_true rfl), (Nat.le_of_ble_eq_true rfl)⟩ (fun q_4 H locs hq5 hP hD hS => ?_)
    replace hq5 : (q_4 = 0 ∨ q_4 = 1) := hq5
    have hP : va_P g.1 vwCl (List.flatten [bMo g o a th hi ac tp ba en tA fl de iD iO tU fm fk fa fc ft ff fb fi]) H := hP
    have hD : va_D A (List.flatten [bMo g o a th hi ac tp ba en tA fl de iD iO tU fm fk fa fc ft ff fb fi]) := hD
    refine W.widen (k := 0) (n := 0) (Nat.le_of_ble_eq_true rfl) (Nat.le_of_ble_eq_true rfl) ?_
    refine W.eq (g2 := F0 m 18 ls [.int q_4, .ref o]) rfl ?_
    rcases hq5 with rfl | rfl
    · skip
      refine lv_if_ne (tgt := 25) hx hb dX12_send_18 (by decide) (fun c6 => absurd (by decide) c6) (fun _ => ?_)
      refine lv_iconst (v := 2) hx hb dX12_send_21 (by decide) ?_
      refine lv_goto (tgt := 26) hx hb dX12_send_22 (by decide) ?_
      refine va_put (D := g.1) (ci := 10) (v := .int 2) (ty := .int) (C := RX12) (T := TX12) (N := 20) hx hb hts izRX12 tyX12 tyX12_ok nmX12 hown hK hP hD hS 0 rfl rfl 0 (by decide) (hts _ k825) (fun _ h9 => h9) rfl (by decide +kernel) rfl rfl (Nat.le_of_ble_eq_true rfl) dX12_send_26 (fun H locs hP hD hS => ?_)
      have hP : va_P g.1 vwCl (List.flatten [bMo g o a 2 hi ac tp ba en tA fl de iD iO tU fm fk fa fc ft ff fb fi]) H := hP
      have hD : va_D A (List.flatten [bMo g o a 2 hi ac tp ba en tA fl de iD iO tU fm fk fa fc ft ff fb fi]) := hD
      refine lv_aload_n hx hb dX12_send_29 rfl (lv_at hl 0 rfl) ?_
      refine va_get (D := g.1) (ci := 10) (v := .int 2) (C := RX12) (T := TX12) (N := 20) hx hb hts izRX12 hown hK hP 0 rfl rfl 0 (by decide) (hts _ k825) (fun _ h9 => h9) rfl dX12_send_30 ?_
      refine lv_if_le (tgt := 38) hx hb dX12_send_33 (by decide) (fun c7 => absurd c7 (by decide)) (fun _ => ?_)
      refine lv_iconst (v := 0) hx hb dX12_send_36 (by decide) ?_
      have hP : va_P g.1 vwCl (List.flatten [bMo g o a 2 hi ac tp ba en tA fl de iD iO tU fm fk fa fc ft ff fb fi]) H := hP
      have hD : va_D A (List.flatten [bMo g o a 2 hi ac tp ba en tA fl de iD iO tU fm fk fa fc ft ff fb fi]) := hD
      exact mret_i hx hb hr hlocks hS (Nat.le_of_ble_eq_true rfl) (Nat.le_of_ble_eq_true rfl) dX12_send_37 ((2 : Int32), ac, fc, fm, (0 : Int32)) rfl (show ((fm 0).toInt = (fm 0).toInt ∧ (fm 3).toInt = (fm 3).toInt ∧ (fm 4).toInt = (fm 4).toInt) ∧ (rM fm) ∧ (rC fc) ∧ (0 ≤ ac.toInt ∧ ac.toInt ≤ 12) ∧ (zMa fc fc ac.toInt ac.toInt fm) from ⟨(by first | assumption | omega | decide | exact rfl | exact zb01 (by omega) | exact Or.inl (by decide) | exact Or.inr (by first | omega | decide)), rfm, rfc, hac, zMa_0⟩) hP hD
    · skip
      refine lv_if_ne (tgt := 25) hx hb dX12_send_18 (by decide) (fun _ => ?_) (fun c8 => absurd c8 (by decide))
      refine lv_iconst (v := 0) hx hb dX12_send_25 (by decide) ?_
      refine va_put (D := g.1) (ci := 10) (v := .int 0) (ty := .int) (C := RX12) (T := TX12) (N := 20) hx hb hts izRX12 tyX12 tyX12_ok nmX12 hown hK hP hD hS 0 rfl rfl 0 (by decide) (hts _ k825) (fun _ h9 => h9) rfl (by decide +kernel) rfl rfl (Nat.le_of_ble_eq_true rfl) dX12_send_26 (fun H locs hP hD hS => ?_)
      have hP : va_P g.1 vwCl (List.flatten [bMo g o a 0 hi ac tp ba en tA fl de iD iO tU fm fk fa fc ft ff fb fi]) H := hP
      have hD : va_D A (List.flatten [bMo g o a 0 hi ac tp ba en tA fl de iD iO tU fm fk fa fc ft ff fb fi]) := hD
      refine lv_aload_n hx hb dX12_send_29 rfl (lv_at hl 0 rfl) ?_
      refine va_get (D := g.1) (ci := 10) (v := .int 0) (C := RX12) (T := TX12) (N := 20) hx hb hts izRX12 hown hK hP 0 rfl rfl 0 (by decide) (hts _ k825) (fun _ h9 => h9) rfl dX12_send_30 ?_
      refine lv_if_le (tgt := 38) hx hb dX12_send_33 (by decide) (fun _ => ?_) (fun c9 => absurd (by decide) c9)
      refine lv_aload_n hx hb dX12_send_38 rfl (lv_at hl 0 rfl) ?_
      refine mcallV' (g := g) (q0 := 0) (ci := 10) (As := []) (rest := []) St hK hT hA hP hD hS hl.1 [0] [] rfl rfl rfl (m_remembers l g o a 0 hi ac tp ba en tA fl de iD iO tU fm fk fa fc ft ff fb fi rfm rfc hac) (cwV 0 hts (zgL (zl4 k1047 k1048 k1049 k839) k1046) rfl rfl rfl (by decide +kernel) ⟨Nat.le_of_ble_eq_true rfl, Nat.le_of_ble_eq_true rfl⟩) rfl rfl rfl rfl (Nat.le_of_ble_eq_true rfl) dX12_send_39 ⟨(Nat.le_of_ble_eq_true rfl), (Nat.le_of_ble_eq_true rfl)⟩ (fun u_ H locs hq12 hP hD hS => ?_)
      obtain ⟨ac2_10, fc2_11⟩ := u_
      replace hq12 : (rC fc2_11) ∧ (0 ≤ ac2_10.toInt ∧ ac2_10.toInt ≤ 12) ∧ (zRem fc fc2_11 ac.toInt ac2_10.toInt fm) := hq12
      have hP : va_P g.1 vwCl (List.flatten [bMo g o a 0 hi ac2_10 tp ba en tA fl de iD iO tU fm fk fa fc2_11 ft ff fb fi]) H := hP
      have hD : va_D A (List.flatten [bMo g o a 0 hi ac2_10 tp ba en tA fl de iD iO tU fm fk fa fc2_11 ft ff fb fi]) := hD
      refine W.widen (k := 0) (n := 0) (Nat.le_of_ble_eq_true rfl) (Nat.le_of_ble_eq_true rfl) ?_
      refine W.eq (g2 := F0 m 42 ls []) rfl ?_
      obtain ⟨rfc2_11, hq12_1, hq12_2⟩ := hq12
      refine lv_aload_n hx hb dX12_send_42 rfl (lv_at hl 0 rfl) ?_
      refine lv_iload_n hx hb dX12_send_43 rfl (lv_at hl 1 rfl) ?_
      refine lv_iconst (v := 4) hx hb dX12_send_44 (by decide) ?_
      refine lv_aload_n hx hb dX12_send_45 rfl (lv_at hl 0 rfl) ?_
      refine va_get (D := g.1) (ci := 10) (v := .ref (a 0)) (C := RX12) (T := TX12) (N := 20) hx hb hts izRX12 hown hK hP 0 rfl rfl 1 (by decide) (hts _ k815) (fun _ h9 => h9) rfl dX12_send_46 ?_
      refine lv_bipush (v := 8) hx hb dX12_send_49 (by decide) ?_
      refine va_iald hx hb hK hP 1 0 rfl rfl (zin rfl) dX12_send_51 ?_
      refine zg (fun x_13 => ?_)
      refine lv_aload_n hx hb dX12_send_52 rfl (lv_at hl 0 rfl) ?_
      refine va_get (D := g.1) (ci := 10) (v := .ref (a 0)) (C := RX12) (T := TX12) (N := 20) hx hb hts izRX12 hown hK hP 0 rfl rfl 1 (by decide) (hts _ k815) (fun _ h9 => h9) rfl dX12_send_53 ?_
      refine lv_bipush (v := 6) hx hb dX12_send_56 (by decide) ?_
      refine va_iald hx hb hK hP 1 0 rfl rfl (zin rfl) dX12_send_58 ?_
      refine zg (fun x_14 => ?_)
      refine lv_iadd hx hb dX12_send_59 ?_
      refine zg (fun x_15 => ?_)
      have hL4 : (4 : Int32).toInt = 4 := by decide
      refine mcallV' (g := g) (q0 := 0) (ci := 10) (As := [.int x, .int 4, .int x_15]) (rest := []) St hK hT hA hP hD hS hl.1 [0] [] rfl rfl rfl (m_put l g o a 0 hi ac2_10 tp ba en tA fl de iD iO tU fm fk fa fc2_11 ft ff fb fi x 4 x_15 rfm (by first | assumption | omega | decide | exact Or.inl (by decide) | exact Or.inr (by decide)) (by decide)) (cwV 3 hts (zgL (zl4 k909 k910 k911 k839) k832) rfl rfl rfl (by decide +kernel) ⟨Nat.le_of_ble_eq_true rfl, Nat.le_of_ble_eq_true rfl⟩) rfl rfl rfl rfl (Nat.le_of_ble_eq_true rfl) dX12_send_60 ⟨(Nat.le_of_ble_eq_true rfl), (Nat.le_of_ble_eq_true rfl)⟩ (fun fm2_16 H locs hq17 hP hD hS => ?_)
      replace hq17 : ((fm2_16 0).toInt = (fm 0).toInt ∧ (fm2_16 3).toInt = (fm 3).toInt ∧ (fm2_16 4).toInt = (fm 4).toInt) ∧ (rM fm2_16) ∧ ((fm2_16 3).toInt = (fm 3).toInt ∧ (fm2_16 4).toInt = (fm 4).toInt) := hq17
      have hP : va_P g.1 vwCl (List.flatten [bMo g o a 0 hi ac2_10 tp ba en tA fl de iD iO tU fm2_16 fk fa fc2_11 ft ff fb fi]) H := hP
      have hD : va_D A (List.flatten [bMo g o a 0 hi ac2_10 tp ba en tA fl de iD iO tU fm2_16 fk fa fc2_11 ft ff fb fi]) := hD
      refine W.widen (k := 0) (n := 0) (Nat.le_of_ble_eq_true rfl) (Nat.le_of_ble_eq_true rfl) ?_
      refine W.eq (g2 := F0 m 63 ls []) rfl ?_
      obtain ⟨hq17_0, rfm2_16, hq17_2⟩ := hq17
      refine lv_aload_n hx hb dX12_send_63 rfl (lv_at hl 0 rfl) ?_
      refine lv_iload_n hx hb dX12_send_64 rfl (lv_at hl 1 rfl) ?_
      refine lv_iconst (v := 4) hx hb dX12_send_65 (by decide) ?_
      refine mcallV' (g := g) (q0 := 0) (ci := 10) (As := [.int x, .int 4]) (rest := []) St hK hT hA hP hD hS hl.1 [0] [] rfl rfl rfl (m_of l g o a 0 hi ac2_10 tp ba en tA fl de iD iO tU fm2_16 fk fa fc2_11 ft ff fb fi x 4 (by first | assumption | omega | decide | exact Or.inl (by decide) | exact Or.inr (by decide)) (by decide)) (cwV 2 hts (zgL (zl4 k842 k843 k844 k839) k831) rfl rfl rfl (by decide +kernel) ⟨Nat.le_of_ble_eq_true rfl, Nat.le_of_ble_eq_true rfl⟩) rfl rfl rfl rfl (Nat.le_of_ble_eq_true rfl) dX12_send_66 ⟨(Nat.le_of_ble_eq_true rfl), (Nat.le_of_ble_eq_true rfl)⟩ (fun q_18 H locs hq19 hP hD hS => ?_)
      have hP : va_P g.1 vwCl (List.flatten [bMo g o a 0 hi ac2_10 tp ba en tA fl de iD iO tU fm2_16 fk fa fc2_11 ft ff fb fi]) H := hP
      have hD : va_D A (List.flatten [bMo g o a 0 hi ac2_10 tp ba en tA fl de iD iO tU fm2_16 fk fa fc2_11 ft ff fb fi]) := hD
      refine W.widen (k := 0) (n := 0) (Nat.le_of_ble_eq_true rfl) (Nat.le_of_ble_eq_true rfl) ?_
      refine W.eq (g2 := F0 m 69 ls [.int q_18]) rfl ?_
      have hP : va_P g.1 vwCl (List.flatten [bMo g o a 0 hi ac2_10 tp ba en tA fl de iD iO tU fm2_16 fk fa fc2_11 ft ff fb fi]) H := hP
      have hD : va_D A (List.flatten [bMo g o a 0 hi ac2_10 tp ba en tA fl de iD iO tU fm2_16 fk fa fc2_11 ft ff fb fi]) := hD
      exact mret_i hx hb hr hlocks hS (Nat.le_of_ble_eq_true rfl) (Nat.le_of_ble_eq_true rfl) dX12_send_69 ((0 : Int32), ac2_10, fc2_11, fm2_16, q_18) rfl (show ((fm2_16 0).toInt = (fm 0).toInt ∧ (fm2_16 3).toInt = (fm 3).toInt ∧ (fm2_16 4).toInt = (fm 4).toInt) ∧ (rM fm2_16) ∧ (rC fc2_11) ∧ (0 ≤ ac2_10.toInt ∧ ac2_10.toInt ≤ 12) ∧ (zMa fc fc2_11 ac.toInt ac2_10.toInt fm) from ⟨hq17_0, rfm2_16, rfc2_11, hq12_1, (Or.inr hq12_2)⟩) hP hD
  · skip
    refine lv_if_ne (tgt := 13) hx hb dX12_send_6 (by decide) (fun c20 => absurd (by decide) c20) (fun _ => ?_)
    refine lv_iconst (v := 1) hx hb dX12_send_9 (by decide) ?_
    refine lv_goto (tgt := 26) hx hb dX12_send_10 (by decide) ?_
    refine va_put (D := g.1) (ci := 10) (v := .int 1) (ty := .int) (C := RX12) (T := TX12) (N := 20) hx hb hts izRX12 tyX12 tyX12_ok nmX12 hown hK hP hD hS 0 rfl rfl 0 (by decide) (hts _ k825) (fun _ h9 => h9) rfl (by decide +kernel) rfl rfl (Nat.le_of_ble_eq_true rfl) dX12_send_26 (fun H locs hP hD hS => ?_)
    have hP : va_P g.1 vwCl (List.flatten [bMo g o a 1 hi ac tp ba en tA fl de iD iO tU fm fk fa fc ft ff fb fi]) H := hP
    have hD : va_D A (List.flatten [bMo g o a 1 hi ac tp ba en tA fl de iD iO tU fm fk fa fc ft ff fb fi]) := hD
    refine lv_aload_n hx hb dX12_send_29 rfl (lv_at hl 0 rfl) ?_
    refine va_get (D := g.1) (ci := 10) (v := .int 1) (C := RX12) (T := TX12) (N := 20) hx hb hts izRX12 hown hK hP 0 rfl rfl 0 (by decide) (hts _ k825) (fun _ h9 => h9) rfl dX12_send_30 ?_
    refine lv_if_le (tgt := 38) hx hb dX12_send_33 (by decide) (fun c21 => absurd c21 (by decide)) (fun _ => ?_)
    refine lv_iconst (v := 0) hx hb dX12_send_36 (by decide) ?_
    have hP : va_P g.1 vwCl (List.flatten [bMo g o a 1 hi ac tp ba en tA fl de iD iO tU fm fk fa fc ft ff fb fi]) H := hP
    have hD : va_D A (List.flatten [bMo g o a 1 hi ac tp ba en tA fl de iD iO tU fm fk fa fc ft ff fb fi]) := hD
    exact mret_i hx hb hr hlocks hS (Nat.le_of_ble_eq_true rfl) (Nat.le_of_ble_eq_true rfl) dX12_send_37 ((1 : Int32), ac, fc, fm, (0 : Int32)) rfl (show ((fm 0).toInt = (fm 0).toInt ∧ (fm 3).toInt = (fm 3).toInt ∧ (fm 4).toInt = (fm 4).toInt) ∧ (rM fm) ∧ (rC fc) ∧ (0 ≤ ac.toInt ∧ ac.toInt ≤ 12) ∧ (zMa fc fc ac.toInt ac.toInt fm) from ⟨(by first | assumption | omega | decide | exact rfl | exact zb01 (by omega) | exact Or.inl (by decide) | exact Or.inr (by first | omega | decide)), rfm, rfc, hac, zMa_0⟩) hP hD
set_option maxRecDepth 100000 in
set_option maxHeartbeats 4000000 in
theorem m_buy (l : Launch) (g : zG) (o : Nat) (a : Nat → Nat) (th : Int32) (hi : Int32) (ac : Int32) (tp : Int32) (ba : Int32) (en : Int32) (tA : Int32) (fl : Int32) (de : Int32) (iD : Int32) (iO : Int32) (tU : Int32) (fm : Nat → Int32) (fk : Nat → Int32) (fa : Nat → Int32) (fc : Nat → Int32) (ft : Nat → Int32) (ff : Nat → Int32) (fb : Nat → Int32) (fi : Nat → Int32) (x : Int32) (n : Int32) (rfm : rM fm) (rfc : rC fc) (hac : 0 ≤ ac.toInt ∧ ac.toInt ≤ 12) : zM' g l yX12_buy (Cond.code yX12_buy cX12_buy 4 (some .int) :: zB) ({ frames := 5, cells := 0, slots := 0, locals := 106 } : Room) [.ref o, .int x, .int n] [bMo g o a th hi ac tp ba en tA fl de iD iO tU fm fk fa fc ft ff fb fi] (fun u : Int32 × Int32 × (Nat → Int32) × (Nat → Int32) × Int32 => (fun (th2 : Int32) (ac2 : Int32) (fc2 : Nat → Int32) (fm2 : Nat → Int32) (q : Int32) => some (.int q)) (u.1) (u.2.1) (u.2.2.1) (u.2.2.2.1) (u.2.2.2.2)) (fun u : Int32 × Int32 × (Nat → Int32) × (Nat → Int32) × Int32 => (fun (th2 : Int32) (ac2 : Int32) (fc2 : Nat → Int32) (fm2 : Nat → Int32) (q : Int32) => ((fm2 0).toInt = (fm 0).toInt ∧ (fm2 3).toInt = (fm 3).toInt ∧ (fm2 4).toInt = (fm 4).toInt) ∧ (rM fm2) ∧ (rC fc2) ∧ (0 ≤ ac2.toInt ∧ ac2.toInt ≤ 12) ∧ (zMa fc fc2 ac.toInt ac2.toInt fm)) (u.1) (u.2.1) (u.2.2.1) (u.2.2.2.1) (u.2.2.2.2)) (fun u : Int32 × Int32 × (Nat → Int32) × (Nat → Int32) × Int32 => (fun (th2 : Int32) (ac2 : Int32) (fc2 : Nat → Int32) (fm2 : Nat → Int32) (q : Int32) => [bMo g o a th2 hi ac2 tp ba en tA fl de iD iO tU fm2 fk fa fc2 ft ff fb fi]) (u.1) (u.2.1) (u.2.2.1) (u.2.2.2.1) (u.2.2.2.2)) := by
  refine zM'.of (cc := cX12_buy) (maxL := 4) (rt := (some .int)) (by decide) rfl (Nat.le_of_ble_eq_true rfl) ?_
  intro p e s m args below meth c A ls St hr hlocks hin hK hT hA hP hD hS hl
  obtain ⟨hx, hb, hml, hown, hts⟩ := id St
  have hl : lv_has ls 4 [(0, .ref o), (1, .int x), (2, .int n)] := hl
  refine lv_aload_n hx hb dX12_buy_0 rfl (lv_at hl 0 rfl) ?_
  refine lv_aload_n hx hb dX12_buy_1 rfl (lv_at hl 0 rfl) ?_
  refine lv_iload_n hx hb dX12_buy_2 rfl (lv_at hl 1 rfl) ?_
  refine mcallV' (g := g) (q0 := 0) (ci := 10) (As := [.int x]) (rest := [.ref o]) St hK hT hA hP hD hS hl.1 [0] [] rfl rfl rfl (m_isPerson l g o a th hi ac tp ba en tA fl de iD iO tU fm fk fa fc ft ff fb fi x rfm) (cwV 1 hts (zgL (zl4 k1033 k1034 k1035 k839) k836) rfl rfl rfl (by decide +kernel) ⟨Nat.le_of_ble_eq_true rfl, Nat.le_of_ble_eq_true rfl⟩) rfl rfl rfl rfl (Nat.le_of_ble_eq_true rfl) dX12_buy_3 ⟨(Nat.le_of_ble_eq_true rfl), (Nat.le_of_ble_eq_true rfl)⟩ (fun q_1 H locs hq2 hP hD hS => ?_)
  replace hq2 : (q_1 = 1 ∧ 0 ≤ x.toInt ∧ x.toInt ≤ 7 ∧ x.toInt < (fm 3).toInt ∨ q_1 = 0) := hq2
  have hP : va_P g.1 vwCl (List.flatten [bMo g o a th hi ac tp ba en tA fl de iD iO tU fm fk fa fc ft ff fb fi]) H := hP
  have hD : va_D A (List.flatten [bMo g o a th hi ac tp ba en tA fl de iD iO tU fm fk fa fc ft ff fb fi]) := hD
  refine W.widen (k := 0) (n := 0) (Nat.le_of_ble_eq_true rfl) (Nat.le_of_ble_eq_true rfl) ?_
  refine W.eq (g2 := F0 m 6 ls [.int q_1, .ref o]) rfl ?_
  rcases hq2 with ⟨rfl, hq2_k⟩ | rfl
  · skip
    refine lv_if_ne (tgt := 13) hx hb dX12_buy_6 (by decide) (fun _ => ?_) (fun c3 => absurd c3 (by decide))
    refine lv_iload_n hx hb dX12_buy_13 rfl (lv_at hl 2 rfl) ?_
    refine lv_iconst (v := 1) hx hb dX12_buy_14 (by decide) ?_
    refine lv_bipush (v := 99) hx hb dX12_buy_15 (by decide) ?_
    have hL1 : (1 : Int32).toInt = 1 := by decide
    have hL99 : (99 : Int32).toInt = 99 := by decide
    refine mcallS' (g := g) (As := [.int n, .int 1, .int 99]) (rest := [.ref o]) St hK hT hA hP hD hS hl.1 [] [0] rfl rfl rfl (m_isIn l g n 1 99 ) (va_cwS 3 hts (zgL (zl3 k837 k838 k839) k826) rfl rfl rfl (by decide +kernel) ⟨Nat.le_of_ble_eq_true rfl, Nat.le_of_ble_eq_true rfl⟩) rfl rfl (Nat.le_of_ble_eq_true rfl) dX12_buy_17 ⟨(Nat.le_of_ble_eq_true rfl), (Nat.le_of_ble_eq_true rfl)⟩ (fun q_4 H locs hq5 hP hD hS => ?_)
    replace hq5 : (q_4 = 1 ∧ (1 : Int32).toInt ≤ n.toInt ∧ n.toInt ≤ (99 : Int32).toInt ∨ q_4 = 0 ∧ (n.toInt < (1 : Int32).toInt ∨ (99 : Int32).toInt < n.toInt)) := hq5
    have hP : va_P g.1 vwCl (List.flatten [bMo g o a th hi ac tp ba en tA fl de iD iO tU fm fk fa fc ft ff fb fi]) H := hP
    have hD : va_D A (List.flatten [bMo g o a th hi ac tp ba en tA fl de iD iO tU fm fk fa fc ft ff fb fi]) := hD
    refine W.widen (k := 0) (n := 0) (Nat.le_of_ble_eq_true rfl) (Nat.le_of_ble_eq_true rfl) ?_
    refine W.eq (g2 := F0 m 20 ls [.int q_4, .ref o]) rfl ?_
    rcases hq5 with ⟨rfl, hq5_k⟩ | ⟨rfl, hq5_k⟩
    · skip
      refine lv_if_ne (tgt := 27) hx hb dX12_buy_20 (by decide) (fun _ => ?_) (fun c6 => absurd c6 (by decide))
      refine lv_aload_n hx hb dX12_buy_27 rfl (lv_at hl 0 rfl) ?_
      refine lv_iload_n hx hb dX12_buy_28 rfl (lv_at hl 1 rfl) ?_
      refine lv_iconst (v := 2) hx hb dX12_buy_29 (by decide) ?_
      have hL2 : (2 : Int32).toInt = 2 := by decide
      refine mcallV' (g := g) (q0 := 0) (ci := 10) (As := [.int x, .int 2]) (rest := [.ref o]) St hK hT hA hP hD hS hl.1 [0] [] rfl rfl rfl (m_of l g o a th hi ac tp ba en tA fl de iD iO tU fm fk fa fc ft ff fb fi x 2 (by first | assumption | omega | decide | exact Or.inl (by decide) | exact Or.inr (by decide)) (by decide)) (cwV 2 hts (zgL (zl4 k842 k843 k844 k839) k831) rfl rfl rfl (by decide +kernel) ⟨Nat.le_of_ble_eq_true rfl, Nat.le_of_ble_eq_true rfl⟩) rfl rfl rfl rfl (Nat.le_of_ble_eq_true rfl) dX12_buy_30 ⟨(Nat.le_of_ble_eq_true rfl), (Nat.le_of_ble_eq_true rfl)⟩ (fun q_7 H locs hq8 hP hD hS => ?_)
      have hP : va_P g.1 vwCl (List.flatten [bMo g o a th hi ac tp ba en tA fl de iD iO tU fm fk fa fc ft ff fb fi]) H := hP
      have hD : va_D A (List.flatten [bMo g o a th hi ac tp ba en tA fl de iD iO tU fm fk fa fc ft ff fb fi]) := hD
      refine W.widen (k := 0) (n := 0) (Nat.le_of_ble_eq_true rfl) (Nat.le_of_ble_eq_true rfl) ?_
      refine W.eq (g2 := F0 m 33 ls [.int q_7, .ref o]) rfl ?_
      refine lv_iload_n hx hb dX12_buy_33 rfl (lv_at hl 2 rfl) ?_
      refine lv_iadd hx hb dX12_buy_34 ?_
      refine zg (fun x_9 => ?_)
      refine lv_bipush (v := 99) hx hb dX12_buy_35 (by decide) ?_
      refine lv_icmp_gt (tgt := 55) hx hb dX12_buy_37 (by decide) (fun cb9 => ?_) (fun cb9 => ?_)
      · skip
        have c10 : 99 < x_9.toInt := zlti cb9 (by decide) rfl
        have n11 : 100 ≤ x_9.toInt := zL2 (a := 99) c10 (Int.le_refl _) (by decide)
        refine lv_iconst (v := 3) hx hb dX12_buy_55 (by decide) ?_
        refine lv_goto (tgt := 60) hx hb dX12_buy_56 (by decide) ?_
        refine va_put (D := g.1) (ci := 10) (v := .int 3) (ty := .int) (C := RX12) (T := TX12) (N := 20) hx hb hts izRX12 tyX12 tyX12_ok nmX12 hown hK hP hD hS 0 rfl rfl 0 (by decide) (hts _ k825) (fun _ h9 => h9) rfl (by decide +kernel) rfl rfl (Nat.le_of_ble_eq_true rfl) dX12_buy_60 (fun H locs hP hD hS => ?_)
        have hP : va_P g.1 vwCl (List.flatten [bMo g o a 3 hi ac tp ba en tA fl de iD iO tU fm fk fa fc ft ff fb fi]) H := hP
        have hD : va_D A (List.flatten [bMo g o a 3 hi ac tp ba en tA fl de iD iO tU fm fk fa fc ft ff fb fi]) := hD
        refine lv_aload_n hx hb dX12_buy_63 rfl (lv_at hl 0 rfl) ?_
        refine va_get (D := g.1) (ci := 10) (v := .int 3) (C := RX12) (T := TX12) (N := 20) hx hb hts izRX12 hown hK hP 0 rfl rfl 0 (by decide) (hts _ k825) (fun _ h9 => h9) rfl dX12_buy_64 ?_
        refine lv_if_le (tgt := 72) hx hb dX12_buy_67 (by decide) (fun c12 => absurd c12 (by decide)) (fun _ => ?_)
        refine lv_iconst (v := 0) hx hb dX12_buy_70 (by decide) ?_
        have hP : va_P g.1 vwCl (List.flatten [bMo g o a 3 hi ac tp ba en tA fl de iD iO tU fm fk fa fc ft ff fb fi]) H := hP
        have hD : va_D A (List.flatten [bMo g o a 3 hi ac tp ba en tA fl de iD iO tU fm fk fa fc ft ff fb fi]) := hD
        exact mret_i hx hb hr hlocks hS (Nat.le_of_ble_eq_true rfl) (Nat.le_of_ble_eq_true rfl) dX12_buy_71 ((3 : Int32), ac, fc, fm, (0 : Int32)) rfl (show ((fm 0).toInt = (fm 0).toInt ∧ (fm 3).toInt = (fm 3).toInt ∧ (fm 4).toInt = (fm 4).toInt) ∧ (rM fm) ∧ (rC fc) ∧ (0 ≤ ac.toInt ∧ ac.toInt ≤ 12) ∧ (zMa fc fc ac.toInt ac.toInt fm) from ⟨(by first | assumption | omega | decide | exact rfl | exact zb01 (by omega) | exact Or.inl (by decide) | exact Or.inr (by first | omega | decide)), rfm, rfc, hac, zMa_0⟩) hP hD
      · skip
        have c13 : x_9.toInt ≤ 99 := zle (Int32.not_lt.mp cb9) rfl (by decide)
        have n14 : x_9.toInt ≤ 99 := Int.le_trans c13 (Int.le_refl _)
        refine lv_aload_n hx hb dX12_buy_40 rfl (lv_at hl 0 rfl) ?_
        refine lv_iload_n hx hb dX12_buy_41 rfl (lv_at hl 1 rfl) ?_
        refine lv_iconst (v := 1) hx hb dX12_buy_42 (by decide) ?_
        refine mcallV' (g := g) (q0 := 0) (ci := 10) (As := [.int x, .int 1]) (rest := [.ref o]) St hK hT hA hP hD hS hl.1 [0] [] rfl rfl rfl (m_of l g o a th hi ac tp ba en tA fl de iD iO tU fm fk fa fc ft ff fb fi x 1 (by first | assumption | omega | decide | exact Or.inl (by decide) | exact Or.inr (by decide)) (by decide)) (cwV 2 hts (zgL (zl4 k842 k843 k844 k839) k831) rfl rfl rfl (by decide +kernel) ⟨Nat.le_of_ble_eq_true rfl, Nat.le_of_ble_eq_true rfl⟩) rfl rfl rfl rfl (Nat.le_of_ble_eq_true rfl) dX12_buy_43 ⟨(Nat.le_of_ble_eq_true rfl), (Nat.le_of_ble_eq_true rfl)⟩ (fun q_15 H locs hq16 hP hD hS => ?_)
        have hP : va_P g.1 vwCl (List.flatten [bMo g o a th hi ac tp ba en tA fl de iD iO tU fm fk fa fc ft ff fb fi]) H := hP
        have hD : va_D A (List.flatten [bMo g o a th hi ac tp ba en tA fl de iD iO tU fm fk fa fc ft ff fb fi]) := hD
        refine W.widen (k := 0) (n := 0) (Nat.le_of_ble_eq_true rfl) (Nat.le_of_ble_eq_true rfl) ?_
        refine W.eq (g2 := F0 m 46 ls [.int q_15, .ref o]) rfl ?_
        refine lv_iload_n hx hb dX12_buy_46 rfl (lv_at hl 2 rfl) ?_
        refine lv_aload_n hx hb dX12_buy_47 rfl (lv_at hl 0 rfl) ?_
        refine mcallV' (g := g) (q0 := 0) (ci := 10) (As := []) (rest := [.int n, .int q_15, .ref o]) St hK hT hA hP hD hS hl.1 [0] [] rfl rfl rfl (m_priceNow l g o a th hi ac tp ba en tA fl de iD iO tU fm fk fa fc ft ff fb fi rfm) (cwV 0 hts (zgL (zl4 k1029 k1030 k1031 k839) k862) rfl rfl rfl (by decide +kernel) ⟨Nat.le_of_ble_eq_true rfl, Nat.le_of_ble_eq_true rfl⟩) rfl rfl rfl rfl (Nat.le_of_ble_eq_true rfl) dX12_buy_48 ⟨(Nat.le_of_ble_eq_true rfl), (Nat.le_of_ble_eq_true rfl)⟩ (fun q_17 H locs hq18 hP hD hS => ?_)
        have hP : va_P g.1 vwCl (List.flatten [bMo g o a th hi ac tp ba en tA fl de iD iO tU fm fk fa fc ft ff fb fi]) H := hP
        have hD : va_D A (List.flatten [bMo g o a th hi ac tp ba en tA fl de iD iO tU fm fk fa fc ft ff fb fi]) := hD
        refine W.widen (k := 0) (n := 0) (Nat.le_of_ble_eq_true rfl) (Nat.le_of_ble_eq_true rfl) ?_
        refine W.eq (g2 := F0 m 51 ls [.int q_17, .int n, .int q_15, .ref o]) rfl ?_
        refine lv_imul hx hb dX12_buy_51 ?_
        refine zg (fun x_19 => ?_)
        refine lv_icmp_ge (tgt := 59) hx hb dX12_buy_52 (by decide) (fun cb9 => ?_) (fun cb9 => ?_)
        · skip
          have c20 : x_19.toInt ≤ q_15.toInt := zle cb9 rfl rfl
          refine lv_iconst (v := 0) hx hb dX12_buy_59 (by decide) ?_
          refine va_put (D := g.1) (ci := 10) (v := .int 0) (ty := .int) (C := RX12) (T := TX12) (N := 20) hx hb hts izRX12 tyX12 tyX12_ok nmX12 hown hK hP hD hS 0 rfl rfl 0 (by decide) (hts _ k825) (fun _ h9 => h9) rfl (by decide +kernel) rfl rfl (Nat.le_of_ble_eq_true rfl) dX12_buy_60 (fun H locs hP hD hS => ?_)
          have hP : va_P g.1 vwCl (List.flatten [bMo g o a 0 hi ac tp ba en tA fl de iD iO tU fm fk fa fc ft ff fb fi]) H := hP
          have hD : va_D A (List.flatten [bMo g o a 0 hi ac tp ba en tA fl de iD iO tU fm fk fa fc ft ff fb fi]) := hD
          refine lv_aload_n hx hb dX12_buy_63 rfl (lv_at hl 0 rfl) ?_
          refine va_get (D := g.1) (ci := 10) (v := .int 0) (C := RX12) (T := TX12) (N := 20) hx hb hts izRX12 hown hK hP 0 rfl rfl 0 (by decide) (hts _ k825) (fun _ h9 => h9) rfl dX12_buy_64 ?_
          refine lv_if_le (tgt := 72) hx hb dX12_buy_67 (by decide) (fun _ => ?_) (fun c21 => absurd (by decide) c21)
          refine lv_aload_n hx hb dX12_buy_72 rfl (lv_at hl 0 rfl) ?_
          refine mcallV' (g := g) (q0 := 0) (ci := 10) (As := []) (rest := []) St hK hT hA hP hD hS hl.1 [0] [] rfl rfl rfl (m_remembers l g o a 0 hi ac tp ba en tA fl de iD iO tU fm fk fa fc ft ff fb fi rfm rfc hac) (cwV 0 hts (zgL (zl4 k1047 k1048 k1049 k839) k1046) rfl rfl rfl (by decide +kernel) ⟨Nat.le_of_ble_eq_true rfl, Nat.le_of_ble_eq_true rfl⟩) rfl rfl rfl rfl (Nat.le_of_ble_eq_true rfl) dX12_buy_73 ⟨(Nat.le_of_ble_eq_true rfl), (Nat.le_of_ble_eq_true rfl)⟩ (fun u_ H locs hq24 hP hD hS => ?_)
          obtain ⟨ac2_22, fc2_23⟩ := u_
          replace hq24 : (rC fc2_23) ∧ (0 ≤ ac2_22.toInt ∧ ac2_22.toInt ≤ 12) ∧ (zRem fc fc2_23 ac.toInt ac2_22.toInt fm) := hq24
          have hP : va_P g.1 vwCl (List.flatten [bMo g o a 0 hi ac2_22 tp ba en tA fl de iD iO tU fm fk fa fc2_23 ft ff fb fi]) H := hP
          have hD : va_D A (List.flatten [bMo g o a 0 hi ac2_22 tp ba en tA fl de iD iO tU fm fk fa fc2_23 ft ff fb fi]) := hD
          refine W.widen (k := 0) (n := 0) (Nat.le_of_ble_eq_true rfl) (Nat.le_of_ble_eq_true rfl) ?_
          refine W.eq (g2 := F0 m 76 ls []) rfl ?_
          obtain ⟨rfc2_23, hq24_1, hq24_2⟩ := hq24
          refine lv_iload_n hx hb dX12_buy_76 rfl (lv_at hl 2 rfl) ?_
          refine lv_aload_n hx hb dX12_buy_77 rfl (lv_at hl 0 rfl) ?_
          refine mcallV' (g := g) (q0 := 0) (ci := 10) (As := []) (rest := [.int n]) St hK hT hA hP hD hS hl.1 [0] [] rfl rfl rfl (m_priceNow l g o a 0 hi ac2_22 tp ba en tA fl de iD iO tU fm fk fa fc2_23 ft ff fb fi rfm) (cwV 0 hts (zgL (zl4 k1029 k1030 k1031 k839) k862) rfl rfl rfl (by decide +kernel) ⟨Nat.le_of_ble_eq_true rfl, Nat.le_of_ble_eq_true rfl⟩) rfl rfl rfl rfl (Nat.le_of_ble_eq_true rfl) dX12_buy_78 ⟨(Nat.le_of_ble_eq_true rfl), (Nat.le_of_ble_eq_true rfl)⟩ (fun q_25 H locs hq26 hP hD hS => ?_)
          have hP : va_P g.1 vwCl (List.flatten [bMo g o a 0 hi ac2_22 tp ba en tA fl de iD iO tU fm fk fa fc2_23 ft ff fb fi]) H := hP
          have hD : va_D A (List.flatten [bMo g o a 0 hi ac2_22 tp ba en tA fl de iD iO tU fm fk fa fc2_23 ft ff fb fi]) := hD
          refine W.widen (k := 0) (n := 0) (Nat.le_of_ble_eq_true rfl) (Nat.le_of_ble_eq_true rfl) ?_
          refine W.eq (g2 := F0 m 81 ls [.int q_25, .int n]) rfl ?_
          refine lv_imul hx hb dX12_buy_81 ?_
          refine zg (fun x_27 => ?_)
          refine lv_istore_n (lv' := [(3, .int x_27), (0, .ref o), (1, .int x), (2, .int n)]) hx hb dX12_buy_82 rfl hl (by decide) rfl (fun ls hl => ?_)
          refine lv_aload_n hx hb dX12_buy_83 rfl (lv_at hl 1 rfl) ?_
          refine lv_iload_n hx hb dX12_buy_84 rfl (lv_at hl 2 rfl) ?_
          refine lv_iconst (v := 1) hx hb dX12_buy_85 (by decide) ?_
          refine lv_aload_n hx hb dX12_buy_86 rfl (lv_at hl 1 rfl) ?_
          refine lv_iload_n hx hb dX12_buy_87 rfl (lv_at hl 2 rfl) ?_
          refine lv_iconst (v := 1) hx hb dX12_buy_88 (by decide) ?_
          refine mcallV' (g := g) (q0 := 0) (ci := 10) (As := [.int x, .int 1]) (rest := [.int 1, .int x, .ref o]) St hK hT hA hP hD hS hl.1 [0] [] rfl rfl rfl (m_of l g o a 0 hi ac2_22 tp ba en tA fl de iD iO tU fm fk fa fc2_23 ft ff fb fi x 1 (by first | assumption | omega | decide | exact Or.inl (by decide) | exact Or.inr (by decide)) (by decide)) (cwV 2 hts (zgL (zl4 k842 k843 k844 k839) k831) rfl rfl rfl (by decide +kernel) ⟨Nat.le_of_ble_eq_true rfl, Nat.le_of_ble_eq_true rfl⟩) rfl rfl rfl rfl (Nat.le_of_ble_eq_true rfl) dX12_buy_89 ⟨(Nat.le_of_ble_eq_true rfl), (Nat.le_of_ble_eq_true rfl)⟩ (fun q_28 H locs hq29 hP hD hS => ?_)
          have hP : va_P g.1 vwCl (List.flatten [bMo g o a 0 hi ac2_22 tp ba en tA fl de iD iO tU fm fk fa fc2_23 ft ff fb fi]) H := hP
          have hD : va_D A (List.flatten [bMo g o a 0 hi ac2_22 tp ba en tA fl de iD iO tU fm fk fa fc2_23 ft ff fb fi]) := hD
          refine W.widen (k := 0) (n := 0) (Nat.le_of_ble_eq_true rfl) (Nat.le_of_ble_eq_true rfl) ?_
          refine W.eq (g2 := F0 m 92 ls [.int q_28, .int 1, .int x, .ref o]) rfl ?_
          refine lv_iload_n hx hb dX12_buy_92 rfl (lv_at hl 0 rfl) ?_
          refine lv_isub hx hb dX12_buy_93 ?_
          refine zg (fun x_30 => ?_)
          refine mcallV' (g := g) (q0 := 0) (ci := 10) (As := [.int x, .int 1, .int x_30]) (rest := []) St hK hT hA hP hD hS hl.1 [0] [] rfl rfl rfl (m_put l g o a 0 hi ac2_22 tp ba en tA fl de iD iO tU fm fk fa fc2_23 ft ff fb fi x 1 x_30 rfm (by first | assumption | omega | decide | exact Or.inl (by decide) | exact Or.inr (by decide)) (by decide)) (cwV 3 hts (zgL (zl4 k909 k910 k911 k839) k832) rfl rfl rfl (by decide +kernel) ⟨Nat.le_of_ble_eq_true rfl, Nat.le_of_ble_eq_true rfl⟩) rfl rfl rfl rfl (Nat.le_of_ble_eq_true rfl) dX12_buy_94 ⟨(Nat.le_of_ble_eq_true rfl), (Nat.le_of_ble_eq_true rfl)⟩ (fun fm2_31 H locs hq32 hP hD hS => ?_)
          replace hq32 : ((fm2_31 0).toInt = (fm 0).toInt ∧ (fm2_31 3).toInt = (fm 3).toInt ∧ (fm2_31 4).toInt = (fm 4).toInt) ∧ (rM fm2_31) ∧ ((fm2_31 3).toInt = (fm 3).toInt ∧ (fm2_31 4).toInt = (fm 4).toInt) := hq32
          have hP : va_P g.1 vwCl (List.flatten [bMo g o a 0 hi ac2_22 tp ba en tA fl de iD iO tU fm2_31 fk fa fc2_23 ft ff fb fi]) H := hP
          have hD : va_D A (List.flatten [bMo g o a 0 hi ac2_22 tp ba en tA fl de iD iO tU fm2_31 fk fa fc2_23 ft ff fb fi]) := hD
          refine W.widen (k := 0) (n := 0) (Nat.le_of_ble_eq_true rfl) (Nat.le_of_ble_eq_true rfl) ?_
          refine W.eq (g2 := F0 m 97 ls []) rfl ?_
          obtain ⟨hq32_0, rfm2_31, hq32_2⟩ := hq32
          refine lv_aload_n hx hb dX12_buy_97 rfl (lv_at hl 1 rfl) ?_
          refine lv_iload_n hx hb dX12_buy_98 rfl (lv_at hl 2 rfl) ?_
          refine lv_iconst (v := 2) hx hb dX12_buy_99 (by decide) ?_
          refine lv_aload_n hx hb dX12_buy_100 rfl (lv_at hl 1 rfl) ?_
          refine lv_iload_n hx hb dX12_buy_101 rfl (lv_at hl 2 rfl) ?_
          refine lv_iconst (v := 2) hx hb dX12_buy_102 (by decide) ?_
          refine mcallV' (g := g) (q0 := 0) (ci := 10) (As := [.int x, .int 2]) (rest := [.int 2, .int x, .ref o]) St hK hT hA hP hD hS hl.1 [0] [] rfl rfl rfl (m_of l g o a 0 hi ac2_22 tp ba en tA fl de iD iO tU fm2_31 fk fa fc2_23 ft ff fb fi x 2 (by first | assumption | omega | decide | exact Or.inl (by decide) | exact Or.inr (by decide)) (by decide)) (cwV 2 hts (zgL (zl4 k842 k843 k844 k839) k831) rfl rfl rfl (by decide +kernel) ⟨Nat.le_of_ble_eq_true rfl, Nat.le_of_ble_eq_true rfl⟩) rfl rfl rfl rfl (Nat.le_of_ble_eq_true rfl) dX12_buy_103 ⟨(Nat.le_of_ble_eq_true rfl), (Nat.le_of_ble_eq_true rfl)⟩ (fun q_33 H locs hq34 hP hD hS => ?_)
          have hP : va_P g.1 vwCl (List.flatten [bMo g o a 0 hi ac2_22 tp ba en tA fl de iD iO tU fm2_31 fk fa fc2_23 ft ff fb fi]) H := hP
          have hD : va_D A (List.flatten [bMo g o a 0 hi ac2_22 tp ba en tA fl de iD iO tU fm2_31 fk fa fc2_23 ft ff fb fi]) := hD
          refine W.widen (k := 0) (n := 0) (Nat.le_of_ble_eq_true rfl) (Nat.le_of_ble_eq_true rfl) ?_
          refine W.eq (g2 := F0 m 106 ls [.int q_33, .int 2, .int x, .ref o]) rfl ?_
          refine lv_iload_n hx hb dX12_buy_106 rfl (lv_at hl 3 rfl) ?_
          refine lv_iadd hx hb dX12_buy_107 ?_
          refine zg (fun x_35 => ?_)
          refine mcallV' (g := g) (q0 := 0) (ci := 10) (As := [.int x, .int 2, .int x_35]) (rest := []) St hK hT hA hP hD hS hl.1 [0] [] rfl rfl rfl (m_put l g o a 0 hi ac2_22 tp ba en tA fl de iD iO tU fm2_31 fk fa fc2_23 ft ff fb fi x 2 x_35 rfm2_31 (by first | assumption | omega | decide | exact Or.inl (by decide) | exact Or.inr (by decide)) (by decide)) (cwV 3 hts (zgL (zl4 k909 k910 k911 k839) k832) rfl rfl rfl (by decide +kernel) ⟨Nat.le_of_ble_eq_true rfl, Nat.le_of_ble_eq_true rfl⟩) rfl rfl rfl rfl (Nat.le_of_ble_eq_true rfl) dX12_buy_108 ⟨(Nat.le_of_ble_eq_true rfl), (Nat.le_of_ble_eq_true rfl)⟩ (fun fm2_36 H locs hq37 hP hD hS => ?_)
          replace hq37 : ((fm2_36 0).toInt = (fm2_31 0).toInt ∧ (fm2_36 3).toInt = (fm2_31 3).toInt ∧ (fm2_36 4).toInt = (fm2_31 4).toInt) ∧ (rM fm2_36) ∧ ((fm2_36 3).toInt = (fm2_31 3).toInt ∧ (fm2_36 4).toInt = (fm2_31 4).toInt) := hq37
          have hP : va_P g.1 vwCl (List.flatten [bMo g o a 0 hi ac2_22 tp ba en tA fl de iD iO tU fm2_36 fk fa fc2_23 ft ff fb fi]) H := hP
          have hD : va_D A (List.flatten [bMo g o a 0 hi ac2_22 tp ba en tA fl de iD iO tU fm2_36 fk fa fc2_23 ft ff fb fi]) := hD
          refine W.widen (k := 0) (n := 0) (Nat.le_of_ble_eq_true rfl) (Nat.le_of_ble_eq_true rfl) ?_
          refine W.eq (g2 := F0 m 111 ls []) rfl ?_
          obtain ⟨hq37_0, rfm2_36, hq37_2⟩ := hq37
          refine lv_aload_n hx hb dX12_buy_111 rfl (lv_at hl 1 rfl) ?_
          refine va_get (D := g.1) (ci := 10) (v := .ref (a 0)) (C := RX12) (T := TX12) (N := 20) hx hb hts izRX12 hown hK hP 0 rfl rfl 1 (by decide) (hts _ k815) (fun _ h9 => h9) rfl dX12_buy_112 ?_
          refine lv_iconst (v := 5) hx hb dX12_buy_115 (by decide) ?_
          refine lv_sipush (v := 9999) hx hb dX12_buy_116 (by decide) ?_
          refine lv_aload_n hx hb dX12_buy_119 rfl (lv_at hl 1 rfl) ?_
          refine va_get (D := g.1) (ci := 10) (v := .ref (a 0)) (C := RX12) (T := TX12) (N := 20) hx hb hts izRX12 hown hK hP 0 rfl rfl 1 (by decide) (hts _ k815) (fun _ h9 => h9) rfl dX12_buy_120 ?_
          refine lv_iconst (v := 5) hx hb dX12_buy_123 (by decide) ?_
          refine va_iald hx hb hK hP 1 0 rfl rfl (zin rfl) dX12_buy_124 ?_
          refine zg (fun x_38 => ?_)
          refine lv_iload_n hx hb dX12_buy_125 rfl (lv_at hl 0 rfl) ?_
          refine lv_iadd hx hb dX12_buy_126 ?_
          refine zg (fun x_39 => ?_)
          have hL9999 : (9999 : Int32).toInt = 9999 := by decide
          refine mcallS' (g := g) (As := [.int 9999, .int x_39]) (rest := [.int 5, .ref (a 0)]) St hK hT hA hP hD hS hl.1 [] [0] rfl rfl rfl (m_lesser l g 9999 x_39 ) (va_cwS 2 hts (zgL (zl3 k1000 k1001 k839) k827) rfl rfl rfl (by decide +kernel) ⟨Nat.le_of_ble_eq_true rfl, Nat.le_of_ble_eq_true rfl⟩) rfl rfl (Nat.le_of_ble_eq_true rfl) dX12_buy_127 ⟨(Nat.le_of_ble_eq_true rfl), (Nat.le_of_ble_eq_true rfl)⟩ (fun q_40 H locs hq41 hP hD hS => ?_)
          replace hq41 : (q_40.toInt ≤ (9999 : Int32).toInt ∧ q_40.toInt ≤ x_39.toInt ∧ (q_40.toInt = (9999 : Int32).toInt ∨ q_40.toInt = x_39.toInt)) := hq41
          have hP : va_P g.1 vwCl (List.flatten [bMo g o a 0 hi ac2_22 tp ba en tA fl de iD iO tU fm2_36 fk fa fc2_23 ft ff fb fi]) H := hP
          have hD : va_D A (List.flatten [bMo g o a 0 hi ac2_22 tp ba en tA fl de iD iO tU fm2_36 fk fa fc2_23 ft ff fb fi]) := hD
          refine W.widen (k := 0) (n := 0) (Nat.le_of_ble_eq_true rfl) (Nat.le_of_ble_eq_true rfl) ?_
          refine W.eq (g2 := F0 m 130 ls [.int q_40, .int 5, .ref (a 0)]) rfl ?_
          refine va_iast hx hb hK hP hD hS 1 0 rfl rfl (zin rfl) dX12_buy_130 (fun H locs hP hD hS => ?_)
          obtain ⟨fm_42, rfm_42, hkfm_42, hP, hD⟩ : ∃ fm_42 : Nat → Int32, rM fm_42 ∧ ((fm_42 0).toInt = (fm2_36 0).toInt ∧ (fm_42 3).toInt = (fm2_36 3).toInt ∧ (fm_42 4).toInt = (fm2_36 4).toInt) ∧ va_P g.1 vwCl (List.flatten [bMo g o a 0 hi ac2_22 tp ba en tA fl de iD iO tU fm_42 fk fa fc2_23 ft ff fb fi]) H ∧ va_D A (List.flatten [bMo g o a 0 hi ac2_22 tp ba en tA fl de iD iO tU fm_42 fk fa fc2_23 ft ff fb fi]) := ⟨upd fm2_36 5 q_40, (rM_stL rfm2_36 (by decide)), ⟨rfl, rfl, rfl⟩, hP, hD⟩
          refine lv_aload_n hx hb dX12_buy_131 rfl (lv_at hl 1 rfl) ?_
          refine lv_iload_n hx hb dX12_buy_132 rfl (lv_at hl 2 rfl) ?_
          refine lv_iconst (v := 1) hx hb dX12_buy_133 (by decide) ?_
          refine mcallV' (g := g) (q0 := 0) (ci := 10) (As := [.int x, .int 1]) (rest := []) St hK hT hA hP hD hS hl.1 [0] [] rfl rfl rfl (m_of l g o a 0 hi ac2_22 tp ba en tA fl de iD iO tU fm_42 fk fa fc2_23 ft ff fb fi x 1 (by first | assumption | omega | decide | exact Or.inl (by decide) | exact Or.inr (by decide)) (by decide)) (cwV 2 hts (zgL (zl4 k842 k843 k844 k839) k831) rfl rfl rfl (by decide +kernel) ⟨Nat.le_of_ble_eq_true rfl, Nat.le_of_ble_eq_true rfl⟩) rfl rfl rfl rfl (Nat.le_of_ble_eq_true rfl) dX12_buy_134 ⟨(Nat.le_of_ble_eq_true rfl), (Nat.le_of_ble_eq_true rfl)⟩ (fun q_43 H locs hq44 hP hD hS => ?_)
          have hP : va_P g.1 vwCl (List.flatten [bMo g o a 0 hi ac2_22 tp ba en tA fl de iD iO tU fm_42 fk fa fc2_23 ft ff fb fi]) H := hP
          have hD : va_D A (List.flatten [bMo g o a 0 hi ac2_22 tp ba en tA fl de iD iO tU fm_42 fk fa fc2_23 ft ff fb fi]) := hD
          refine W.widen (k := 0) (n := 0) (Nat.le_of_ble_eq_true rfl) (Nat.le_of_ble_eq_true rfl) ?_
          refine W.eq (g2 := F0 m 137 ls [.int q_43]) rfl ?_
          have hP : va_P g.1 vwCl (List.flatten [bMo g o a 0 hi ac2_22 tp ba en tA fl de iD iO tU fm_42 fk fa fc2_23 ft ff fb fi]) H := hP
          have hD : va_D A (List.flatten [bMo g o a 0 hi ac2_22 tp ba en tA fl de iD iO tU fm_42 fk fa fc2_23 ft ff fb fi]) := hD
          exact mret_i hx hb hr hlocks hS (Nat.le_of_ble_eq_true rfl) (Nat.le_of_ble_eq_true rfl) dX12_buy_137 ((0 : Int32), ac2_22, fc2_23, fm_42, q_43) rfl (show ((fm_42 0).toInt = (fm 0).toInt ∧ (fm_42 3).toInt = (fm 3).toInt ∧ (fm_42 4).toInt = (fm 4).toInt) ∧ (rM fm_42) ∧ (rC fc2_23) ∧ (0 ≤ ac2_22.toInt ∧ ac2_22.toInt ≤ 12) ∧ (zMa fc fc2_23 ac.toInt ac2_22.toInt fm) from ⟨(by first | assumption | omega | decide | exact rfl | exact zb01 (by omega) | exact Or.inl (by decide) | exact Or.inr (by first | omega | decide)), rfm_42, rfc2_23, hq24_1, (Or.inr hq24_2)⟩) hP hD
        · skip
          have c45 : q_15.toInt < x_19.toInt := zlti (Int32.not_le.mp cb9) rfl rfl
          refine lv_iconst (v := 3) hx hb dX12_buy_55 (by decide) ?_
          refine lv_goto (tgt := 60) hx hb dX12_buy_56 (by decide) ?_
          refine va_put (D := g.1) (ci := 10) (v := .int 3) (ty := .int) (C := RX12) (T := TX12) (N := 20) hx hb hts izRX12 tyX12 tyX12_ok nmX12 hown hK hP hD hS 0 rfl rfl 0 (by decide) (hts _ k825) (fun _ h9 => h9) rfl (by decide +kernel) rfl rfl (Nat.le_of_ble_eq_true rfl) dX12_buy_60 (fun H locs hP hD hS => ?_)
          have hP : va_P g.1 vwCl (List.flatten [bMo g o a 3 hi ac tp ba en tA fl de iD iO tU fm fk fa fc ft ff fb fi]) H := hP
          have hD : va_D A (List.flatten [bMo g o a 3 hi ac tp ba en tA fl de iD iO tU fm fk fa fc ft ff fb fi]) := hD
          refine lv_aload_n hx hb dX12_buy_63 rfl (lv_at hl 0 rfl) ?_
          refine va_get (D := g.1) (ci := 10) (v := .int 3) (C := RX12) (T := TX12) (N := 20) hx hb hts izRX12 hown hK hP 0 rfl rfl 0 (by decide) (hts _ k825) (fun _ h9 => h9) rfl dX12_buy_64 ?_
          refine lv_if_le (tgt := 72) hx hb dX12_buy_67 (by decide) (fun c46 => absurd c46 (by decide)) (fun _ => ?_)
          refine lv_iconst (v := 0) hx hb dX12_buy_70 (by decide) ?_
          have hP : va_P g.1 vwCl (List.flatten [bMo g o a 3 hi ac tp ba en tA fl de iD iO tU fm fk fa fc ft ff fb fi]) H := hP
          have hD : va_D A (List.flatten [bMo g o a 3 hi ac tp ba en tA fl de iD iO tU fm fk fa fc ft ff fb fi]) := hD
          exact mret_i hx hb hr hlocks hS (Nat.le_of_ble_eq_true rfl) (Nat.le_of_ble_eq_true rfl) dX12_buy_71 ((3 : Int32), ac, fc, fm, (0 : Int32)) rfl (show ((fm 0).toInt = (fm 0).toInt ∧ (fm 3).toInt = (fm 3).toInt ∧ (fm 4).toInt = (fm 4).toInt) ∧ (rM fm) ∧ (rC fc) ∧ (0 ≤ ac.toInt ∧ ac.toInt ≤ 12) ∧ (zMa fc fc ac.toInt ac.toInt fm) from ⟨(by first | assumption | omega | decide | exact rfl | exact zb01 (by omega) | exact Or.inl (by decide) | exact Or.inr (by first | omega | decide)), rfm, rfc, hac, zMa_0⟩) hP hD
    · skip
      refine lv_if_ne (tgt := 27) hx hb dX12_buy_20 (by decide) (fun c47 => absurd (by decide) c47) (fun _ => ?_)
      refine lv_iconst (v := 2) hx hb dX12_buy_23 (by decide) ?_
      refine lv_goto (tgt := 60) hx hb dX12_buy_24 (by decide) ?_
      refine va_put (D := g.1) (ci := 10) (v := .int 2) (ty := .int) (C := RX12) (T := TX12) (N := 20) hx hb hts izRX12 tyX12 tyX12_ok nmX12 hown hK hP hD hS 0 rfl rfl 0 (by decide) (hts _ k825) (fun _ h9 => h9) rfl (by decide +kernel) rfl rfl (Nat.le_of_ble_eq_true rfl) dX12_buy_60 (fun H locs hP hD hS => ?_)
      have hP : va_P g.1 vwCl (List.flatten [bMo g o a 2 hi ac tp ba en tA fl de iD iO tU fm fk fa fc ft ff fb fi]) H := hP
      have hD : va_D A (List.flatten [bMo g o a 2 hi ac tp ba en tA fl de iD iO tU fm fk fa fc ft ff fb fi]) := hD
      refine lv_aload_n hx hb dX12_buy_63 rfl (lv_at hl 0 rfl) ?_
      refine va_get (D := g.1) (ci := 10) (v := .int 2) (C := RX12) (T := TX12) (N := 20) hx hb hts izRX12 hown hK hP 0 rfl rfl 0 (by decide) (hts _ k825) (fun _ h9 => h9) rfl dX12_buy_64 ?_
      refine lv_if_le (tgt := 72) hx hb dX12_buy_67 (by decide) (fun c48 => absurd c48 (by decide)) (fun _ => ?_)
      refine lv_iconst (v := 0) hx hb dX12_buy_70 (by decide) ?_
      have hP : va_P g.1 vwCl (List.flatten [bMo g o a 2 hi ac tp ba en tA fl de iD iO tU fm fk fa fc ft ff fb fi]) H := hP
      have hD : va_D A (List.flatten [bMo g o a 2 hi ac tp ba en tA fl de iD iO tU fm fk fa fc ft ff fb fi]) := hD
      exact mret_i hx hb hr hlocks hS (Nat.le_of_ble_eq_true rfl) (Nat.le_of_ble_eq_true rfl) dX12_buy_71 ((2 : Int32), ac, fc, fm, (0 : Int32)) rfl (show ((fm 0).toInt = (fm 0).toInt ∧ (fm 3).toInt = (fm 3).toInt ∧ (fm 4).toInt = (fm 4).toInt) ∧ (rM fm) ∧ (rC fc) ∧ (0 ≤ ac.toInt ∧ ac.toInt ≤ 12) ∧ (zMa fc fc ac.toInt ac.toInt fm) from ⟨(by first | assumption | omega | decide | exact rfl | exact zb01 (by omega) | exact Or.inl (by decide) | exact Or.inr (by first | omega | decide)), rfm, rfc, hac, zMa_0⟩) hP hD
  · skip
    refine lv_if_ne (tgt := 13) hx hb dX12_buy_6 (by decide) (fun c49 => absurd (by decide) c49) (fun _ => ?_)
    refine lv_iconst (v := 1) hx hb dX12_buy_9 (by decide) ?_
    refine lv_goto (tgt := 60) hx hb dX12_buy_10 (by decide) ?_
    refine va_put (D := g.1) (ci := 10) (v := .int 1) (ty := .int) (C := RX12) (T := TX12) (N := 20) hx hb hts izRX12 tyX12 tyX12_ok nmX12 hown hK hP hD hS 0 rfl rfl 0 (by decide) (hts _ k825) (fun _ h9 => h9) rfl (by decide +kernel) rfl rfl (Nat.le_of_ble_eq_true rfl) dX12_buy_60 (fun H locs hP hD hS => ?_)
    have hP : va_P g.1 vwCl (List.flatten [bMo g o a 1 hi ac tp ba en tA fl de iD iO tU fm fk fa fc ft ff fb fi]) H := hP
    have hD : va_D A (List.flatten [bMo g o a 1 hi ac tp ba en tA fl de iD iO tU fm fk fa fc ft ff fb fi]) := hD
    refine lv_aload_n hx hb dX12_buy_63 rfl (lv_at hl 0 rfl) ?_
    refine va_get (D := g.1) (ci := 10) (v := .int 1) (C := RX12) (T := TX12) (N := 20) hx hb hts izRX12 hown hK hP 0 rfl rfl 0 (by decide) (hts _ k825) (fun _ h9 => h9) rfl dX12_buy_64 ?_
    refine lv_if_le (tgt := 72) hx hb dX12_buy_67 (by decide) (fun c50 => absurd c50 (by decide)) (fun _ => ?_)
    refine lv_iconst (v := 0) hx hb dX12_buy_70 (by decide) ?_
    have hP : va_P g.1 vwCl (List.flatten [bMo g o a 1 hi ac tp ba en tA fl de iD iO tU fm fk fa fc ft ff fb fi]) H := hP
    have hD : va_D A (List.flatten [bMo g o a 1 hi ac tp ba en tA fl de iD iO tU fm fk fa fc ft ff fb fi]) := hD
    exact mret_i hx hb hr hlocks hS (Nat.le_of_ble_eq_true rfl) (Nat.le_of_ble_eq_true rfl) dX12_buy_71 ((1 : Int32), ac, fc, fm, (0 : Int32)) rfl (show ((fm 0).toInt = (fm 0).toInt ∧ (fm 3).toInt = (fm 3).toInt ∧ (fm 4).toInt = (fm 4).toInt) ∧ (rM fm) ∧ (rC fc) ∧ (0 ≤ ac.toInt ∧ ac.toInt ≤ 12) ∧ (zMa fc fc ac.toInt ac.toInt fm) from ⟨(by first | assumption | omega | decide | exact rfl | exact zb01 (by omega) | exact Or.inl (by decide) | exact Or.inr (by first | omega | decide)), rfm, rfc, hac, zMa_0⟩) hP hD
