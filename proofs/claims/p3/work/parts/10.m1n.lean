set_option maxRecDepth 100000 in
set_option maxHeartbeats 4000000 in
theorem m_ties (l : Launch) (g : zG) (o : Nat) (a : Nat → Nat) (th : Int32) (hi : Int32) (ac : Int32) (tp : Int32) (ba : Int32) (en : Int32) (tA : Int32) (fl : Int32) (de : Int32) (iD : Int32) (iO : Int32) (tU : Int32) (fm : Nat → Int32) (fk : Nat → Int32) (fa : Nat → Int32) (fc : Nat → Int32) (ft : Nat → Int32) (ff : Nat → Int32) (fb : Nat → Int32) (fi : Nat → Int32) (x : Int32) (rfm : rM fm) (b_x : 0 ≤ x.toInt ∧ x.toInt ≤ 7) : zM' g l yX12_ties (Cond.code yX12_ties cX12_ties 4 (some .int) :: zB) ({ frames := 1, cells := 0, slots := 0, locals := 22 } : Room) [.ref o, .int x] [bMo g o a th hi ac tp ba en tA fl de iD iO tU fm fk fa fc ft ff fb fi] (fun (q : Int32) => some (.int q)) (fun (q : Int32) => True) (fun (q : Int32) => [bMo g o a th hi ac tp ba en tA fl de iD iO tU fm fk fa fc ft ff fb fi]) := by
  refine zM'.of (cc := cX12_ties) (maxL := 4) (rt := (some .int)) (by decide) rfl (Nat.le_of_ble_eq_true rfl) ?_
  intro p e s m args below meth c A ls St hr hlocks hin hK hT hA hP hD hS hl
  obtain ⟨hx, hb, hml, hown, hts⟩ := id St
  have hl : lv_has ls 4 [(0, .ref o), (1, .int x)] := hl
  refine lv_iconst (v := 0) hx hb dX12_ties_0 (by decide) ?_
  refine lv_istore_n (lv' := [(2, .int 0), (0, .ref o), (1, .int x)]) hx hb dX12_ties_1 rfl hl (by decide) rfl (fun ls hl => ?_)
  refine lv_iconst (v := 0) hx hb dX12_ties_2 (by decide) ?_
  refine lv_istore_n (lv' := [(3, .int 0), (2, .int 0), (0, .ref o), (1, .int x)]) hx hb dX12_ties_3 rfl hl (by decide) rfl (fun ls hl => ?_)
  have hl := lv_sub (l' := [(0, .ref o), (1, .int x), (2, .int 0), (3, .int 0)]) hl [2, 3, 1, 0] rfl
  have LP4_4 : ∀ (kf : Nat) (x_1 : Int32) (x_2 : Int32), (0 ≤ x_2.toInt ∧ x_2.toInt ≤ 8) → ∀ (H : Heap) (locs : List Loc) (ls : Array Slot), ((9 - x_2.toInt).toNat) < kf → va_P g.1 vwCl (List.flatten [bMo g o a th hi ac tp ba en tA fl de iD iO tU fm fk fa fc ft ff fb fi]) H → va_D A (List.flatten [bMo g o a th hi ac tp ba en tA fl de iD iO tU fm fk fa fc ft ff fb fi]) → va_S A s.heap H locs → lv_has ls 4 [(0, .ref o), (1, .int x), (2, .int x_1), (3, .int x_2)] → W p l e ({ frames := 1, cells := 0, slots := 0, locals := 22 } : Room) s m args below meth c H locs (0) (0) (zF g (fun (q : Int32) => some (.int q)) (fun (q : Int32) => True) (fun (q : Int32) => [bMo g o a th hi ac tp ba en tA fl de iD iO tU fm fk fa fc ft ff fb fi]) ({ frames := 1, cells := 0, slots := 0, locals := 22 } : Room) below args s A) (F0 m 4 ls []) := by
    intro kf
    induction kf with
    | zero => intro x_1 x_2 i3 H locs ls hk; exact absurd hk (Nat.not_lt_zero _)
    | succ kf ih4_5 =>
      intro x_1 x_2 i3 H locs ls hk4_5 hP hD hS hl
      refine lv_iload_n hx hb dX12_ties_4 rfl (lv_at hl 3 rfl) ?_
      refine lv_aload_n hx hb dX12_ties_5 rfl (lv_at hl 0 rfl) ?_
      refine va_get (D := g.1) (ci := 10) (v := .ref (a 0)) (C := RX12) (T := TX12) (N := 20) hx hb hts izRX12 hown hK hP 0 rfl rfl 1 (by decide) (hts _ k815) (fun _ h9 => h9) rfl dX12_ties_6 ?_
      refine lv_iconst (v := 3) hx hb dX12_ties_9 (by decide) ?_
      refine va_iald hx hb hK hP 1 0 rfl rfl (zin rfl) dX12_ties_10 ?_
      refine zgq (r := fm 3) rfl (rM3 rfm) (fun x_6 hx_6 => ?_)
      refine lv_icmp_ge (tgt := 42) hx hb dX12_ties_11 (by decide) (fun cb9 => ?_) (fun cb9 => ?_)
      · skip
        have c7 : x_6.toInt ≤ x_2.toInt := zle cb9 rfl rfl
        refine lv_iload_n hx hb dX12_ties_42 rfl (lv_at hl 2 rfl) ?_
        have hP : va_P g.1 vwCl (List.flatten [bMo g o a th hi ac tp ba en tA fl de iD iO tU fm fk fa fc ft ff fb fi]) H := hP
        have hD : va_D A (List.flatten [bMo g o a th hi ac tp ba en tA fl de iD iO tU fm fk fa fc ft ff fb fi]) := hD
        exact mret_i hx hb hr hlocks hS (Nat.le_of_ble_eq_true rfl) (Nat.le_of_ble_eq_true rfl) dX12_ties_43 (x_1) rfl trivial hP hD
      · skip
        have c8 : x_2.toInt < x_6.toInt := zlti (Int32.not_le.mp cb9) rfl rfl
        have n9 : x_2.toInt ≤ 7 := zL1 (b := 8) c8 hx_6.2.1 (by decide)
        have n10 : 1 ≤ x_6.toInt := zL2 (a := 0) c8 i3.1 (by decide)
        refine lv_iload_n hx hb dX12_ties_14 rfl (lv_at hl 2 rfl) ?_
        refine lv_iload_n hx hb dX12_ties_15 rfl (lv_at hl 3 rfl) ?_
        refine lv_iload_n hx hb dX12_ties_16 rfl (lv_at hl 1 rfl) ?_
        refine lv_icmp_eq (tgt := 33) hx hb dX12_ties_17 (by decide) (fun cb9 => ?_) (fun cb9 => ?_)
        · skip
          have c11 : x_2.toInt = x.toInt := zeq cb9 rfl rfl
          refine lv_iconst (v := 0) hx hb dX12_ties_33 (by decide) ?_
          refine lv_iadd hx hb dX12_ties_34 ?_
          refine zg (fun x_12 => ?_)
          refine lv_istore_n (lv' := [(2, .int x_12), (0, .ref o), (1, .int x), (3, .int x_2)]) hx hb dX12_ties_35 rfl hl (by decide) rfl (fun ls hl => ?_)
          refine ziinc3 (n' := 1) (a' := 1) (b' := 8) (lv' := fun v9 => [(3, .int v9), (2, .int x_12), (0, .ref o), (1, .int x)]) hx hb dX12_ties_36 hl (k := 3) rfl (by decide) (fun _ => rfl) (zaddK (i := x_2.toInt) (j := 1) rfl (by decide) i3.1 n9 (Int.le_refl _) (Int.le_refl _) (by decide)) (fun x_13 ls hx_13 hl => ?_)
          refine lv_goto (tgt := 4) hx hb dX12_ties_39 (by decide) ?_
          have hl := lv_sub (l' := [(0, .ref o), (1, .int x), (2, .int x_12), (3, .int x_13)]) hl [2, 3, 1, 0] rfl
          have hP : va_P g.1 vwCl (List.flatten [bMo g o a th hi ac tp ba en tA fl de iD iO tU fm fk fa fc ft ff fb fi]) H := hP
          have hD : va_D A (List.flatten [bMo g o a th hi ac tp ba en tA fl de iD iO tU fm fk fa fc ft ff fb fi]) := hD
          exact ih4_5 x_12 x_13 ⟨(Int.le_trans (by decide) hx_13.2.1), hx_13.2.2⟩ H _ ls (zmK hx_13.1 (by decide) n9 (by decide) hk4_5)  hP hD hS (lv_sub hl [0, 1, 2, 3] rfl)
        · skip
          have c14 : ¬ x_2.toInt = x.toInt := zne cb9 rfl rfl
          refine lv_aload_n hx hb dX12_ties_20 rfl (lv_at hl 0 rfl) ?_
          refine lv_iload_n hx hb dX12_ties_21 rfl (lv_at hl 1 rfl) ?_
          refine lv_iload_n hx hb dX12_ties_22 rfl (lv_at hl 3 rfl) ?_
          refine mcallV' (g := g) (q0 := 0) (ci := 10) (As := [.int x, .int x_2]) (rest := [.int x_1]) St hK hT hA hP hD hS hl.1 [0] [] rfl rfl rfl (m_trustOf l g o a th hi ac tp ba en tA fl de iD iO tU fm fk fa fc ft ff fb fi x x_2 (⟨b_x.1, b_x.2⟩) (⟨i3.1, n9⟩)) (cwV 2 hts (zgL (zl4 k866 k867 k868 k837) k833) rfl rfl rfl (by decide +kernel) ⟨Nat.le_of_ble_eq_true rfl, Nat.le_of_ble_eq_true rfl⟩) rfl rfl rfl rfl (Nat.le_of_ble_eq_true rfl) dX12_ties_23 ⟨(Nat.le_of_ble_eq_true rfl), (Nat.le_of_ble_eq_true rfl)⟩ (fun q_15 H locs hq16 hP hD hS => ?_)
          have hP : va_P g.1 vwCl (List.flatten [bMo g o a th hi ac tp ba en tA fl de iD iO tU fm fk fa fc ft ff fb fi]) H := hP
          have hD : va_D A (List.flatten [bMo g o a th hi ac tp ba en tA fl de iD iO tU fm fk fa fc ft ff fb fi]) := hD
          refine W.widen (k := 0) (n := 0) (Nat.le_of_ble_eq_true rfl) (Nat.le_of_ble_eq_true rfl) ?_
          refine W.eq (g2 := F0 m 26 ls [.int q_15, .int x_1]) rfl ?_
          refine lv_if_le (tgt := 33) hx hb dX12_ties_26 (by decide) (fun cb9 => ?_) (fun cb9 => ?_)
          · skip
            have c17 : q_15.toInt ≤ 0 := zle cb9 rfl (by decide)
            have n18 : q_15.toInt ≤ 0 := Int.le_trans c17 (Int.le_refl _)
            refine lv_iconst (v := 0) hx hb dX12_ties_33 (by decide) ?_
            refine lv_iadd hx hb dX12_ties_34 ?_
            refine zg (fun x_19 => ?_)
            refine lv_istore_n (lv' := [(2, .int x_19), (0, .ref o), (1, .int x), (3, .int x_2)]) hx hb dX12_ties_35 rfl hl (by decide) rfl (fun ls hl => ?_)
            refine ziinc3 (n' := 1) (a' := 1) (b' := 8) (lv' := fun v9 => [(3, .int v9), (2, .int x_19), (0, .ref o), (1, .int x)]) hx hb dX12_ties_36 hl (k := 3) rfl (by decide) (fun _ => rfl) (zaddK (i := x_2.toInt) (j := 1) rfl (by decide) i3.1 n9 (Int.le_refl _) (Int.le_refl _) (by decide)) (fun x_20 ls hx_20 hl => ?_)
            refine lv_goto (tgt := 4) hx hb dX12_ties_39 (by decide) ?_
            have hl := lv_sub (l' := [(0, .ref o), (1, .int x), (2, .int x_19), (3, .int x_20)]) hl [2, 3, 1, 0] rfl
            have hP : va_P g.1 vwCl (List.flatten [bMo g o a th hi ac tp ba en tA fl de iD iO tU fm fk fa fc ft ff fb fi]) H := hP
            have hD : va_D A (List.flatten [bMo g o a th hi ac tp ba en tA fl de iD iO tU fm fk fa fc ft ff fb fi]) := hD
            exact ih4_5 x_19 x_20 ⟨(Int.le_trans (by decide) hx_20.2.1), hx_20.2.2⟩ H _ ls (zmK hx_20.1 (by decide) n9 (by decide) hk4_5)  hP hD hS (lv_sub hl [0, 1, 2, 3] rfl)
          · skip
            have c21 : 0 < q_15.toInt := zlti (Int32.not_le.mp cb9) (by decide) rfl
            have n22 : 1 ≤ q_15.toInt := zL2 (a := 0) c21 (Int.le_refl _) (by decide)
            refine lv_iconst (v := 1) hx hb dX12_ties_29 (by decide) ?_
            refine lv_goto (tgt := 34) hx hb dX12_ties_30 (by decide) ?_
            refine lv_iadd hx hb dX12_ties_34 ?_
            refine zg (fun x_23 => ?_)
            refine lv_istore_n (lv' := [(2, .int x_23), (0, .ref o), (1, .int x), (3, .int x_2)]) hx hb dX12_ties_35 rfl hl (by decide) rfl (fun ls hl => ?_)
            refine ziinc3 (n' := 1) (a' := 1) (b' := 8) (lv' := fun v9 => [(3, .int v9), (2, .int x_23), (0, .ref o), (1, .int x)]) hx hb dX12_ties_36 hl (k := 3) rfl (by decide) (fun _ => rfl) (zaddK (i := x_2.toInt) (j := 1) rfl (by decide) i3.1 n9 (Int.le_refl _) (Int.le_refl _) (by decide)) (fun x_24 ls hx_24 hl => ?_)
            refine lv_goto (tgt := 4) hx hb dX12_ties_39 (by decide) ?_
            have hl := lv_sub (l' := [(0, .ref o), (1, .int x), (2, .int x_23), (3, .int x_24)]) hl [2, 3, 1, 0] rfl
            have hP : va_P g.1 vwCl (List.flatten [bMo g o a th hi ac tp ba en tA fl de iD iO tU fm fk fa fc ft ff fb fi]) H := hP
            have hD : va_D A (List.flatten [bMo g o a th hi ac tp ba en tA fl de iD iO tU fm fk fa fc ft ff fb fi]) := hD
            exact ih4_5 x_23 x_24 ⟨(Int.le_trans (by decide) hx_24.2.1), hx_24.2.2⟩ H _ ls (zmK hx_24.1 (by decide) n9 (by decide) hk4_5)  hP hD hS (lv_sub hl [0, 1, 2, 3] rfl)
  have hP : va_P g.1 vwCl (List.flatten [bMo g o a th hi ac tp ba en tA fl de iD iO tU fm fk fa fc ft ff fb fi]) s.heap := hP
  have hD : va_D A (List.flatten [bMo g o a th hi ac tp ba en tA fl de iD iO tU fm fk fa fc ft ff fb fi]) := hD
  exact LP4_4 _ 0 0 (by decide) s.heap _ ls (Nat.lt_succ_self _)  hP hD hS (lv_sub hl [0, 1, 2, 3] rfl)
