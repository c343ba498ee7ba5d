set_option maxRecDepth 100000 in
set_option maxHeartbeats 4000000 in
theorem m_logged (l : Launch) (g : zG) (o : Nat) (a : Nat → Nat) (th : Int32) (hi : Int32) (ac : Int32) (tp : Int32) (ba : Int32) (en : Int32) (tA : Int32) (fl : Int32) (de : Int32) (iD : Int32) (iO : Int32) (tU : Int32) (fm : Nat → Int32) (fk : Nat → Int32) (fa : Nat → Int32) (fc : Nat → Int32) (ft : Nat → Int32) (ff : Nat → Int32) (fb : Nat → Int32) (fi : Nat → Int32) (ago : Int32) (what : Int32) (b_ago : 0 ≤ ago.toInt ∧ ago.toInt ≤ 59) (b_what : 0 ≤ what.toInt ∧ what.toInt ≤ 3) : zM' g l yX12_logged (Cond.code yX12_logged cX12_logged 3 (some .int) :: zB) ({ frames := 0, cells := 0, slots := 0, locals := 0 } : Room) [.ref o, .int ago, .int what] [bMo g o a th hi ac tp ba en tA fl de iD iO tU fm fk fa fc ft ff fb fi] (fun (q : Int32) => some (.int q)) (fun (q : Int32) => True) (fun (q : Int32) => [bMo g o a th hi ac tp ba en tA fl de iD iO tU fm fk fa fc ft ff fb fi]) := by
  refine zM'.of (cc := cX12_logged) (maxL := 3) (rt := (some .int)) (by decide) rfl (Nat.le_of_ble_eq_true rfl) ?_
  intro p e s m args below meth c A ls St hr hlocks hin hK hT hA hP hD hS hl
  obtain ⟨hx, hb, hml, hown, hts⟩ := id St
  have hl : lv_has ls 3 [(0, .ref o), (1, .int ago), (2, .int what)] := hl
  refine lv_aload_n hx hb dX12_logged_0 rfl (lv_at hl 0 rfl) ?_
  refine va_get (D := g.1) (ci := 10) (v := .ref (a 0)) (C := RX12) (T := TX12) (N := 20) hx hb hts izRX12 hown hK hP 0 rfl rfl 1 (by decide) (hts _ k815) (fun _ h9 => h9) rfl dX12_logged_1 ?_
  refine lv_sipush (v := 139) hx hb dX12_logged_4 (by decide) ?_
  refine lv_iconst (v := 4) hx hb dX12_logged_7 (by decide) ?_
  refine lv_iload_n hx hb dX12_logged_8 rfl (lv_at hl 1 rfl) ?_
  refine lv_imul hx hb dX12_logged_9 ?_
  refine zg3 (zmulKL (i := ago.toInt) (n := 4) (a' := 0) (b' := 236) rfl (by decide) b_ago.1 b_ago.2 (by decide) (by decide)) (fun x_1 hx_1 => ?_)
  refine lv_iadd hx hb dX12_logged_10 ?_
  refine zg3 (zaddK (i := 139) (j := x_1.toInt) (a' := 139) (b' := 375) (by decide) rfl (Int.le_refl _) (Int.le_refl _) hx_1.2.1 hx_1.2.2 (by decide)) (fun x_2 hx_2 => ?_)
  refine lv_iload_n hx hb dX12_logged_11 rfl (lv_at hl 2 rfl) ?_
  refine lv_iadd hx hb dX12_logged_12 ?_
  refine zg3 (zaddK (i := x_2.toInt) (j := what.toInt) (a' := 139) (b' := 378) rfl rfl hx_2.2.1 hx_2.2.2 b_what.1 b_what.2 (by decide)) (fun x_3 hx_3 => ?_)
  refine va_iald hx hb hK hP 1 0 rfl rfl (zinK (a := 139) (b := 378) hx_3.2.1 hx_3.2.2 (by decide)) dX12_logged_13 ?_
  refine zg (fun x_4 => ?_)
  have hP : va_P g.1 vwCl (List.flatten [bMo g o a th hi ac tp ba en tA fl de iD iO tU fm fk fa fc ft ff fb fi]) s.heap := hP
  have hD : va_D A (List.flatten [bMo g o a th hi ac tp ba en tA fl de iD iO tU fm fk fa fc ft ff fb fi]) := hD
  exact mret_i hx hb hr hlocks hS (Nat.le_of_ble_eq_true rfl) (Nat.le_of_ble_eq_true rfl) dX12_logged_14 (x_4) rfl trivial hP hD
set_option maxRecDepth 100000 in
set_option maxHeartbeats 4000000 in
theorem m_passes (l : Launch) (g : zG) (o : Nat) (a : Nat → Nat) (th : Int32) (hi : Int32) (ac : Int32) (tp : Int32) (ba : Int32) (en : Int32) (tA : Int32) (fl : Int32) (de : Int32) (iD : Int32) (iO : Int32) (tU : Int32) (fm : Nat → Int32) (fk : Nat → Int32) (fa : Nat → Int32) (fc : Nat → Int32) (ft : Nat → Int32) (ff : Nat → Int32) (fb : Nat → Int32) (fi : Nat → Int32) (st0 : Int32) (n : Int32) (rfm : rM fm) (b_n : 0 ≤ n.toInt ∧ n.toInt ≤ 8) : zM' g l yX12_passes (Cond.code yX12_passes cX12_passes 8 (some .int) :: zB) ({ frames := 1, cells := 0, slots := 0, locals := 22 } : Room) [.ref o, .int st0, .int n] [bMo g o a th hi ac tp ba en tA fl de iD iO tU fm fk fa fc ft ff fb fi] (fun (q : Int32) => some (.int q)) (fun (q : Int32) => True) (fun (q : Int32) => [bMo g o a th hi ac tp ba en tA fl de iD iO tU fm fk fa fc ft ff fb fi]) := by
  refine zM'.of (cc := cX12_passes) (maxL := 8) (rt := (some .int)) (by decide) rfl (Nat.le_of_ble_eq_true rfl) ?_
  intro p e s m args below meth c A ls St hr hlocks hin hK hT hA hP hD hS hl
  obtain ⟨hx, hb, hml, hown, hts⟩ := id St
  have hl : lv_has ls 8 [(0, .ref o), (1, .int st0), (2, .int n)] := hl
  refine lv_iload_n hx hb dX12_passes_0 rfl (lv_at hl 1 rfl) ?_
  refine lv_istore_n (lv' := [(3, .int st0), (0, .ref o), (1, .int st0), (2, .int n)]) hx hb dX12_passes_1 rfl hl (by decide) rfl (fun ls hl => ?_)
  refine lv_iconst (v := 0) hx hb dX12_passes_2 (by decide) ?_
  refine lv_istore (lv' := [(4, .int 0), (3, .int st0), (0, .ref o), (1, .int st0), (2, .int n)]) hx hb dX12_passes_3 hl (by decide) rfl (fun ls hl => ?_)
  have hl := lv_sub (l' := [(0, .ref o), (1, .int st0), (2, .int n), (3, .int st0), (4, .int 0)]) hl [2, 3, 4, 1, 0] rfl
  have LP5_4 : ∀ (kf : Nat) (x_1 : Int32) (x_2 : Int32), (0 ≤ x_2.toInt ∧ x_2.toInt ≤ 8) → ∀ (H : Heap) (locs : List Loc) (ls : Array Slot), ((9 - x_2.toInt).toNat) < kf → va_P g.1 vwCl (List.flatten [bMo g o a th hi ac tp ba en tA fl de iD iO tU fm fk fa fc ft ff fb fi]) H → va_D A (List.flatten [bMo g o a th hi ac tp ba en tA fl de iD iO tU fm fk fa fc ft ff fb fi]) → va_S A s.heap H locs → lv_has ls 8 [(0, .ref o), (1, .int st0), (2, .int n), (3, .int x_1), (4, .int x_2)] → W p l e ({ frames := 1, cells := 0, slots := 0, locals := 22 } : Room) s m args below meth c H locs (0) (0) (zF g (fun (q : Int32) => some (.int q)) (fun (q : Int32) => True) (fun (q : Int32) => [bMo g o a th hi ac tp ba en tA fl de iD iO tU fm fk fa fc ft ff fb fi]) ({ frames := 1, cells := 0, slots := 0, locals := 22 } : Room) below args s A) (F0 m 5 ls []) := by
    intro kf
    induction kf with
    | zero => intro x_1 x_2 i3 H locs ls hk; exact absurd hk (Nat.not_lt_zero _)
    | succ kf ih5_5 =>
      intro x_1 x_2 i3 H locs ls hk5_5 hP hD hS hl
      refine lv_iload hx hb dX12_passes_5 (lv_at hl 4 rfl) ?_
      refine lv_iload_n hx hb dX12_passes_7 rfl (lv_at hl 2 rfl) ?_
      refine lv_icmp_ge (tgt := 95) hx hb dX12_passes_8 (by decide) (fun cb9 => ?_) (fun cb9 => ?_)
      · skip
        have c6 : n.toInt ≤ x_2.toInt := zle cb9 rfl rfl
        refine lv_iload_n hx hb dX12_passes_95 rfl (lv_at hl 3 rfl) ?_
        have hP : va_P g.1 vwCl (List.flatten [bMo g o a th hi ac tp ba en tA fl de iD iO tU fm fk fa fc ft ff fb fi]) H := hP
        have hD : va_D A (List.flatten [bMo g o a th hi ac tp ba en tA fl de iD iO tU fm fk fa fc ft ff fb fi]) := hD
        exact mret_i hx hb hr hlocks hS (Nat.le_of_ble_eq_true rfl) (Nat.le_of_ble_eq_true rfl) dX12_passes_96 (x_1) rfl trivial hP hD
      · skip
        have c7 : x_2.toInt < n.toInt := zlti (Int32.not_le.mp cb9) rfl rfl
        have n8 : x_2.toInt ≤ 7 := zL1 (b := 8) c7 b_n.2 (by decide)
        have n9 : 1 ≤ n.toInt := zL2 (a := 0) c7 i3.1 (by decide)
        refine lv_iload_n hx hb dX12_passes_11 rfl (lv_at hl 3 rfl) ?_
        refine lv_istore (lv' := [(5, .int x_1), (0, .ref o), (1, .int st0), (2, .int n), (3, .int x_1), (4, .int x_2)]) hx hb dX12_passes_12 hl (by decide) rfl (fun ls hl => ?_)
        refine lv_iconst (v := 0) hx hb dX12_passes_14 (by decide) ?_
        refine lv_istore (lv' := [(6, .int 0), (5, .int x_1), (0, .ref o), (1, .int st0), (2, .int n), (3, .int x_1), (4, .int x_2)]) hx hb dX12_passes_15 hl (by decide) rfl (fun ls hl => ?_)
        have hl := lv_sub (l' := [(0, .ref o), (1, .int st0), (2, .int n), (3, .int x_1), (4, .int x_2), (5, .int x_1), (6, .int 0)]) hl [2, 3, 4, 5, 6, 1, 0] rfl
        have LP17_13 : ∀ (kf : Nat) (x_10 : Int32) (x_11 : Int32), (0 ≤ x_11.toInt ∧ x_11.toInt ≤ 8) → ∀ (H : Heap) (locs : List Loc) (ls : Array Slot), ((9 - x_11.toInt).toNat) < kf → va_P g.1 vwCl (List.flatten [bMo g o a th hi ac tp ba en tA fl de iD iO tU fm fk fa fc ft ff fb fi]) H → va_D A (List.flatten [bMo g o a th hi ac tp ba en tA fl de iD iO tU fm fk fa fc ft ff fb fi]) → va_S A s.heap H locs → lv_has ls 8 [(0, .ref o), (1, .int st0), (2, .int n), (3, .int x_10), (4, .int x_2), (5, .int x_1), (6, .int x_11)] → W p l e ({ frames := 1, cells := 0, slots := 0, locals := 22 } : Room) s m args below meth c H locs (0) (0) (zF g (fun (q : Int32) => some (.int q)) (fun (q : Int32) => True) (fun (q : Int32) => [bMo g o a th hi ac tp ba en tA fl de iD iO tU fm fk fa fc ft ff fb fi]) ({ frames := 1, cells := 0, slots := 0, locals := 22 } : Room) below args s A) (F0 m 17 ls []) := by
          intro kf
          induction kf with
          | zero => intro x_10 x_11 i12 H locs ls hk; exact absurd hk (Nat.not_lt_zero _)
          | succ kf ih17_14 =>
            intro x_10 x_11 i12 H locs ls hk17_14 hP hD hS hl
            refine lv_iload hx hb dX12_passes_17 (lv_at hl 6 rfl) ?_
            refine lv_aload_n hx hb dX12_passes_19 rfl (lv_at hl 0 rfl) ?_
            refine va_get (D := g.1) (ci := 10) (v := .ref (a 0)) (C := RX12) (T := TX12) (N := 20) hx hb hts izRX12 hown hK hP 0 rfl rfl 1 (by decide) (hts _ k815) (fun _ h9 => h9) rfl dX12_passes_20 ?_
            refine lv_iconst (v := 3) hx hb dX12_passes_23 (by decide) ?_
            refine va_iald hx hb hK hP 1 0 rfl rfl (zin rfl) dX12_passes_24 ?_
            refine zgq (r := fm 3) rfl (rM3 rfm) (fun x_15 hx_15 => ?_)
            refine lv_icmp_ge (tgt := 89) hx hb dX12_passes_25 (by decide) (fun cb9 => ?_) (fun cb9 => ?_)
            · skip
              have c16 : x_15.toInt ≤ x_11.toInt := zle cb9 rfl rfl
              refine ziinc3 (n' := 1) (a' := 1) (b' := 8) (lv' := fun v9 => [(4, .int v9), (0, .ref o), (1, .int st0), (2, .int n), (3, .int x_10), (5, .int x_1), (6, .int x_11)]) hx hb dX12_passes_89 hl (k := 4) rfl (by decide) (fun _ => rfl) (zaddK (i := x_2.toInt) (j := 1) rfl (by decide) i3.1 n8 (Int.le_refl _) (Int.le_refl _) (by decide)) (fun x_17 ls hx_17 hl => ?_)
              refine lv_goto (tgt := 5) hx hb dX12_passes_92 (by decide) ?_
              have hl := lv_sub (l' := [(0, .ref o), (1, .int st0), (2, .int n), (3, .int x_10), (4, .int x_17), (5, .int x_1), (6, .int x_11)]) hl [1, 2, 3, 4, 0, 5, 6] rfl
              have hP : va_P g.1 vwCl (List.flatten [bMo g o a th hi ac tp ba en tA fl de iD iO tU fm fk fa fc ft ff fb fi]) H := hP
              have hD : va_D A (List.flatten [bMo g o a th hi ac tp ba en tA fl de iD iO tU fm fk fa fc ft ff fb fi]) := hD
              exact ih5_5 x_10 x_17 ⟨(Int.le_trans (by decide) hx_17.2.1), hx_17.2.2⟩ H _ ls (zmK hx_17.1 (by decide) n8 (by decide) hk5_5)  hP hD hS (lv_sub hl [0, 1, 2, 3, 4] rfl)
            · skip
              have c18 : x_11.toInt < x_15.toInt := zlti (Int32.not_le.mp cb9) rfl rfl
              have n19 : x_11.toInt ≤ 7 := zL1 (b := 8) c18 hx_15.2.1 (by decide)
              have n20 : 1 ≤ x_15.toInt := zL2 (a := 0) c18 i12.1 (by decide)
              refine lv_iconst (v := 0) hx hb dX12_passes_28 (by decide) ?_
              refine lv_istore (lv' := [(7, .int 0), (0, .ref o), (1, .int st0), (2, .int n), (3, .int x_10), (4, .int x_2), (5, .int x_1), (6, .int x_11)]) hx hb dX12_passes_29 hl (by decide) rfl (fun ls hl => ?_)
              have hl := lv_sub (l' := [(0, .ref o), (1, .int st0), (2, .int n), (3, .int x_10), (4, .int x_2), (5, .int x_1), (6, .int x_11), (7, .int 0)]) hl [1, 2, 3, 4, 5, 6, 7, 0] rfl
              have LP31_24 : ∀ (kf : Nat) (x_21 : Int32) (x_22 : Int32), (0 ≤ x_22.toInt ∧ x_22.toInt ≤ 8) → ∀ (H : Heap) (locs : List Loc) (ls : Array Slot), ((9 - x_22.toInt).toNat) < kf → va_P g.1 vwCl (List.flatten [bMo g o a th hi ac tp ba en tA fl de iD iO tU fm fk fa fc ft ff fb fi]) H → va_D A (List.flatten [bMo g o a th hi ac tp ba en tA fl de iD iO tU fm fk fa fc ft ff fb fi]) → va_S A s.heap H locs → lv_has ls 8 [(0, .ref o), (1, .int st0), (2, .int n), (3, .int x_21), (4, .int x_2), (5, .int x_1), (6, .int x_11), (7, .int x_22)] → W p l e ({ frames := 1, cells := 0, slots := 0, locals := 22 } : Room) s m args below meth c H locs (0) (0) (zF g (fun (q : Int32) => some (.int q)) (fun (q : Int32) => True) (fun (q : Int32) => [bMo g o a th hi ac tp ba en tA fl de iD iO tU fm fk fa fc ft ff fb fi]) ({ frames := 1, cells := 0, slots := 0, locals := 22 } : Room) below args s A) (F0 m 31 ls []) := by
                intro kf
                induction kf with
                | zero => intro x_21 x_22 i23 H locs ls hk; exact absurd hk (Nat.not_lt_zero _)
                | succ kf ih31_25 =>
                  intro x_21 x_22 i23 H locs ls hk31_25 hP hD hS hl
                  refine lv_iload hx hb dX12_passes_31 (lv_at hl 7 rfl) ?_
                  refine lv_aload_n hx hb dX12_passes_33 rfl (lv_at hl 0 rfl) ?_
                  refine va_get (D := g.1) (ci := 10) (v := .ref (a 0)) (C := RX12) (T := TX12) (N := 20) hx hb hts izRX12 hown hK hP 0 rfl rfl 1 (by decide) (hts _ k815) (fun _ h9 => h9) rfl dX12_passes_34 ?_
                  refine lv_iconst (v := 3) hx hb dX12_passes_37 (by decide) ?_
                  refine va_iald hx hb hK hP 1 0 rfl rfl (zin rfl) dX12_passes_38 ?_
                  refine zgq (r := fm 3) rfl (rM3 rfm) (fun x_26 hx_26 => ?_)
                  refine lv_icmp_ge (tgt := 83) hx hb dX12_passes_39 (by decide) (fun cb9 => ?_) (fun cb9 => ?_)
                  · skip
                    have c27 : x_26.toInt ≤ x_22.toInt := zle cb9 rfl rfl
                    refine ziinc3 (n' := 1) (a' := 1) (b' := 8) (lv' := fun v9 => [(6, .int v9), (0, .ref o), (1, .int st0), (2, .int n), (3, .int x_21), (4, .int x_2), (5, .int x_1), (7, .int x_22)]) hx hb dX12_passes_83 hl (k := 6) rfl (by decide) (fun _ => rfl) (zaddK (i := x_11.toInt) (j := 1) rfl (by decide) i12.1 n19 (Int.le_refl _) (Int.le_refl _) (by decide)) (fun x_28 ls hx_28 hl => ?_)
                    refine lv_goto (tgt := 17) hx hb dX12_passes_86 (by decide) ?_
                    have hl := lv_sub (l' := [(0, .ref o), (1, .int st0), (2, .int n), (3, .int x_21), (4, .int x_2), (5, .int x_1), (6, .int x_28), (7, .int x_22)]) hl [1, 2, 3, 4, 5, 6, 0, 7] rfl
                    have hP : va_P g.1 vwCl (List.flatten [bMo g o a th hi ac tp ba en tA fl de iD iO tU fm fk fa fc ft ff fb fi]) H := hP
                    have hD : va_D A (List.flatten [bMo g o a th hi ac tp ba en tA fl de iD iO tU fm fk fa fc ft ff fb fi]) := hD
                    exact ih17_14 x_21 x_28 ⟨(Int.le_trans (by decide) hx_28.2.1), hx_28.2.2⟩ H _ ls (zmK hx_28.1 (by decide) n19 (by decide) hk17_14)  hP hD hS (lv_sub hl [0, 1, 2, 3, 4, 5, 6] rfl)
                  · skip
                    have c29 : x_22.toInt < x_26.toInt := zlti (Int32.not_le.mp cb9) rfl rfl
                    have n30 : x_22.toInt ≤ 7 := zL1 (b := 8) c29 hx_26.2.1 (by decide)
                    have n31 : 1 ≤ x_26.toInt := zL2 (a := 0) c29 i23.1 (by decide)
                    refine lv_iload hx hb dX12_passes_42 (lv_at hl 6 rfl) ?_
                    refine lv_iload hx hb dX12_passes_44 (lv_at hl 7 rfl) ?_
                    refine lv_icmp_eq (tgt := 77) hx hb dX12_passes_46 (by decide) (fun cb9 => ?_) (fun cb9 => ?_)
                    · skip
                      have c32 : x_11.toInt = x_22.toInt := zeq cb9 rfl rfl
                      refine ziinc3 (n' := 1) (a' := 1) (b' := 8) (lv' := fun v9 => [(7, .int v9), (0, .ref o), (1, .int st0), (2, .int n), (3, .int x_21), (4, .int x_2), (5, .int x_1), (6, .int x_11)]) hx hb dX12_passes_77 hl (k := 7) rfl (by decide) (fun _ => rfl) (zaddK (i := x_22.toInt) (j := 1) rfl (by decide) i23.1 n30 (Int.le_refl _) (Int.le_refl _) (by decide)) (fun x_33 ls hx_33 hl => ?_)
                      refine lv_goto (tgt := 31) hx hb dX12_passes_80 (by decide) ?_
                      have hl := lv_sub (l' := [(0, .ref o), (1, .int st0), (2, .int n), (3, .int x_21), (4, .int x_2), (5, .int x_1), (6, .int x_11), (7, .int x_33)]) hl [1, 2, 3, 4, 5, 6, 7, 0] rfl
                      have hP : va_P g.1 vwCl (List.flatten [bMo g o a th hi ac tp ba en tA fl de iD iO tU fm fk fa fc ft ff fb fi]) H := hP
                      have hD : va_D A (List.flatten [bMo g o a th hi ac tp ba en tA fl de iD iO tU fm fk fa fc ft ff fb fi]) := hD
                      exact ih31_25 x_21 x_33 ⟨(Int.le_trans (by decide) hx_33.2.1), hx_33.2.2⟩ H _ ls (zmK hx_33.1 (by decide) n30 (by decide) hk31_25)  hP hD hS (lv_sub hl [0, 1, 2, 3, 4, 5, 6, 7] rfl)
                    · skip
                      have c34 : ¬ x_11.toInt = x_22.toInt := zne cb9 rfl rfl
                      refine lv_iload hx hb dX12_passes_49 (lv_at hl 5 rfl) ?_
                      refine lv_iload hx hb dX12_passes_51 (lv_at hl 7 rfl) ?_
                      refine mcallS' (g := g) (As := [.int x_1, .int x_22]) (rest := []) St hK hT hA hP hD hS hl.1 [] [0] rfl rfl rfl (m_isOf l g x_1 x_22 ) (va_cwS 2 hts (zgL (zl3 k1061 k1062 k837) k827) rfl rfl rfl (by decide +kernel) ⟨Nat.le_of_ble_eq_true rfl, Nat.le_of_ble_eq_true rfl⟩) rfl rfl (Nat.le_of_ble_eq_true rfl) dX12_passes_53 ⟨(Nat.le_of_ble_eq_true rfl), (Nat.le_of_ble_eq_true rfl)⟩ (fun q_35 H locs hq36 hP hD hS => ?_)
                      replace hq36 : (q_35 = 0 ∨ q_35 = 1) := hq36
                      have hP : va_P g.1 vwCl (List.flatten [bMo g o a th hi ac tp ba en tA fl de iD iO tU fm fk fa fc ft ff fb fi]) H := hP
                      have hD : va_D A (List.flatten [bMo g o a th hi ac tp ba en tA fl de iD iO tU fm fk fa fc ft ff fb fi]) := hD
                      refine W.widen (k := 0) (n := 0) (Nat.le_of_ble_eq_true rfl) (Nat.le_of_ble_eq_true rfl) ?_
                      refine W.eq (g2 := F0 m 56 ls [.int q_35]) rfl ?_
                      rcases hq36 with rfl | rfl
                      · skip
                        refine lv_if_eq (tgt := 77) hx hb dX12_passes_56 (by decide) (fun _ => ?_) (fun c37 => absurd (by decide) c37)
                        refine ziinc3 (n' := 1) (a' := 1) (b' := 8) (lv' := fun v9 => [(7, .int v9), (0, .ref o), (1, .int st0), (2, .int n), (3, .int x_21), (4, .int x_2), (5, .int x_1), (6, .int x_11)]) hx hb dX12_passes_77 hl (k := 7) rfl (by decide) (fun _ => rfl) (zaddK (i := x_22.toInt) (j := 1) rfl (by decide) i23.1 n30 (Int.le_refl _) (Int.le_refl _) (by decide)) (fun x_38 ls hx_38 hl => ?_)
                        refine lv_goto (tgt := 31) hx hb dX12_passes_80 (by decide) ?_
                        have hl := lv_sub (l' := [(0, .ref o), (1, .int st0), (2, .int n), (3, .int x_21), (4, .int x_2), (5, .int x_1), (6, .int x_11), (7, .int x_38)]) hl [1, 2, 3, 4, 5, 6, 7, 0] rfl
                        have hP : va_P g.1 vwCl (List.flatten [bMo g o a th hi ac tp ba en tA fl de iD iO tU fm fk fa fc ft ff fb fi]) H := hP
                        have hD : va_D A (List.flatten [bMo g o a th hi ac tp ba en tA fl de iD iO tU fm fk fa fc ft ff fb fi]) := hD
                        exact ih31_25 x_21 x_38 ⟨(Int.le_trans (by decide) hx_38.2.1), hx_38.2.2⟩ H _ ls (zmK hx_38.1 (by decide) n30 (by decide) hk31_25)  hP hD hS (lv_sub hl [0, 1, 2, 3, 4, 5, 6, 7] rfl)
                      · skip
                        refine lv_if_eq (tgt := 77) hx hb dX12_passes_56 (by decide) (fun c39 => absurd c39 (by decide)) (fun _ => ?_)
                        refine lv_aload_n hx hb dX12_passes_59 rfl (lv_at hl 0 rfl) ?_
                        refine lv_iload hx hb dX12_passes_60 (lv_at hl 6 rfl) ?_
                        refine lv_iload hx hb dX12_passes_62 (lv_at hl 7 rfl) ?_
                        refine mcallV' (g := g) (q0 := 0) (ci := 10) (As := [.int x_11, .int x_22]) (rest := []) St hK hT hA hP hD hS hl.1 [0] [] rfl rfl rfl (m_trustOf l g o a th hi ac tp ba en tA fl de iD iO tU fm fk fa fc ft ff fb fi x_11 x_22 (⟨i12.1, n19⟩) (⟨i23.1, n30⟩)) (cwV 2 hts (zgL (zl4 k866 k867 k868 k837) k833) rfl rfl rfl (by decide +kernel) ⟨Nat.le_of_ble_eq_true rfl, Nat.le_of_ble_eq_true rfl⟩) rfl rfl rfl rfl (Nat.le_of_ble_eq_true rfl) dX12_passes_64 ⟨(Nat.le_of_ble_eq_true rfl), (Nat.le_of_ble_eq_true rfl)⟩ (fun q_40 H locs hq41 hP hD hS => ?_)
                        have hP : va_P g.1 vwCl (List.flatten [bMo g o a th hi ac tp ba en tA fl de iD iO tU fm fk fa fc ft ff fb fi]) H := hP
                        have hD : va_D A (List.flatten [bMo g o a th hi ac tp ba en tA fl de iD iO tU fm fk fa fc ft ff fb fi]) := hD
                        refine W.widen (k := 0) (n := 0) (Nat.le_of_ble_eq_true rfl) (Nat.le_of_ble_eq_true rfl) ?_
                        refine W.eq (g2 := F0 m 67 ls [.int q_40]) rfl ?_
                        refine lv_if_le (tgt := 77) hx hb dX12_passes_67 (by decide) (fun cb9 => ?_) (fun cb9 => ?_)
                        · skip
                          have c42 : q_40.toInt ≤ 0 := zle cb9 rfl (by decide)
                          have n43 : q_40.toInt ≤ 0 := Int.le_trans c42 (Int.le_refl _)
                          refine ziinc3 (n' := 1) (a' := 1) (b' := 8) (lv' := fun v9 => [(7, .int v9), (0, .ref o), (1, .int st0), (2, .int n), (3, .int x_21), (4, .int x_2), (5, .int x_1), (6, .int x_11)]) hx hb dX12_passes_77 hl (k := 7) rfl (by decide) (fun _ => rfl) (zaddK (i := x_22.toInt) (j := 1) rfl (by decide) i23.1 n30 (Int.le_refl _) (Int.le_refl _) (by decide)) (fun x_44 ls hx_44 hl => ?_)
                          refine lv_goto (tgt := 31) hx hb dX12_passes_80 (by decide) ?_
                          have hl := lv_sub (l' := [(0, .ref o), (1, .int st0), (2, .int n), (3, .int x_21), (4, .int x_2), (5, .int x_1), (6, .int x_11), (7, .int x_44)]) hl [1, 2, 3, 4, 5, 6, 7, 0] rfl
                          have hP : va_P g.1 vwCl (List.flatten [bMo g o a th hi ac tp ba en tA fl de iD iO tU fm fk fa fc ft ff fb fi]) H := hP
                          have hD : va_D A (List.flatten [bMo g o a th hi ac tp ba en tA fl de iD iO tU fm fk fa fc ft ff fb fi]) := hD
                          exact ih31_25 x_21 x_44 ⟨(Int.le_trans (by decide) hx_44.2.1), hx_44.2.2⟩ H _ ls (zmK hx_44.1 (by decide) n30 (by decide) hk31_25)  hP hD hS (lv_sub hl [0, 1, 2, 3, 4, 5, 6, 7] rfl)
                        · skip
                          have c45 : 0 < q_40.toInt := zlti (Int32.not_le.mp cb9) (by decide) rfl
                          have n46 : 1 ≤ q_40.toInt := zL2 (a := 0) c45 (Int.le_refl _) (by decide)
                          refine lv_iload_n hx hb dX12_passes_70 rfl (lv_at hl 3 rfl) ?_
                          refine lv_iconst (v := 1) hx hb dX12_passes_71 (by decide) ?_
                          refine lv_iload hx hb dX12_passes_72 (lv_at hl 6 rfl) ?_
                          refine lv_ishl hx hb dX12_passes_74 ?_
                          refine zgb (zshl1 (j := x_11.toInt) rfl 7 128 (by decide) (by decide) ⟨i12.1, n19⟩) (fun x_47 hx_47 => ?_)
                          refine lv_ior hx hb dX12_passes_75 ?_
                          refine zg (fun x_48 => ?_)
                          refine lv_istore_n (lv' := [(3, .int x_48), (0, .ref o), (1, .int st0), (2, .int n), (4, .int x_2), (5, .int x_1), (6, .int x_11), (7, .int x_22)]) hx hb dX12_passes_76 rfl hl (by decide) rfl (fun ls hl => ?_)
                          refine ziinc3 (n' := 1) (a' := 1) (b' := 8) (lv' := fun v9 => [(7, .int v9), (3, .int x_48), (0, .ref o), (1, .int st0), (2, .int n), (4, .int x_2), (5, .int x_1), (6, .int x_11)]) hx hb dX12_passes_77 hl (k := 7) rfl (by decide) (fun _ => rfl) (zaddK (i := x_22.toInt) (j := 1) rfl (by decide) i23.1 n30 (Int.le_refl _) (Int.le_refl _) (by decide)) (fun x_49 ls hx_49 hl => ?_)
                          refine lv_goto (tgt := 31) hx hb dX12_passes_80 (by decide) ?_
                          have hl := lv_sub (l' := [(0, .ref o), (1, .int st0), (2, .int n), (3, .int x_48), (4, .int x_2), (5, .int x_1), (6, .int x_11), (7, .int x_49)]) hl [2, 3, 4, 1, 5, 6, 7, 0] rfl
                          have hP : va_P g.1 vwCl (List.flatten [bMo g o a th hi ac tp ba en tA fl de iD iO tU fm fk fa fc ft ff fb fi]) H := hP
                          have hD : va_D A (List.flatten [bMo g o a th hi ac tp ba en tA fl de iD iO tU fm fk fa fc ft ff fb fi]) := hD
                          exact ih31_25 x_48 x_49 ⟨(Int.le_trans (by decide) hx_49.2.1), hx_49.2.2⟩ H _ ls (zmK hx_49.1 (by decide) n30 (by decide) hk31_25)  hP hD hS (lv_sub hl [0, 1, 2, 3, 4, 5, 6, 7] rfl)
              have hP : va_P g.1 vwCl (List.flatten [bMo g o a th hi ac tp ba en tA fl de iD iO tU fm fk fa fc ft ff fb fi]) H := hP
              have hD : va_D A (List.flatten [bMo g o a th hi ac tp ba en tA fl de iD iO tU fm fk fa fc ft ff fb fi]) := hD
              exact LP31_24 _ x_10 0 (by decide) H _ ls (Nat.lt_succ_self _)  hP hD hS (lv_sub hl [0, 1, 2, 3, 4, 5, 6, 7] rfl)
        have hP : va_P g.1 vwCl (List.flatten [bMo g o a th hi ac tp ba en tA fl de iD iO tU fm fk fa fc ft ff fb fi]) H := hP
        have hD : va_D A (List.flatten [bMo g o a th hi ac tp ba en tA fl de iD iO tU fm fk fa fc ft ff fb fi]) := hD
        exact LP17_13 _ x_1 0 (by decide) H _ ls (Nat.lt_succ_self _)  hP hD hS (lv_sub hl [0, 1, 2, 3, 4, 5, 6] rfl)
  have hP : va_P g.1 vwCl (List.flatten [bMo g o a th hi ac tp ba en tA fl de iD iO tU fm fk fa fc ft ff fb fi]) s.heap := hP
  have hD : va_D A (List.flatten [bMo g o a th hi ac tp ba en tA fl de iD iO tU fm fk fa fc ft ff fb fi]) := hD
  exact LP5_4 _ st0 0 (by decide) s.heap _ ls (Nat.lt_succ_self _)  hP hD hS (lv_sub hl [0, 1, 2, 3, 4] rfl)
