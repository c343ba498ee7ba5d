set_option maxRecDepth 100000 in
set_option maxHeartbeats 4000000 in
theorem m_pull (l : Launch) (g : zG) (o : Nat) (a : Nat → Nat) (th : Int32) (hi : Int32) (ac : Int32) (tp : Int32) (ba : Int32) (en : Int32) (tA : Int32) (fl : Int32) (de : Int32) (iD : Int32) (iO : Int32) (tU : Int32) (fm : Nat → Int32) (fk : Nat → Int32) (fa : Nat → Int32) (fc : Nat → Int32) (ft : Nat → Int32) (ff : Nat → Int32) (fb : Nat → Int32) (fi : Nat → Int32) (x : Int32) (rfm : rM fm) (b_x : 0 ≤ x.toInt ∧ x.toInt ≤ 7) : zM' g l yX12_pull (Cond.code yX12_pull cX12_pull 4 (some .int) :: zB) ({ frames := 2, cells := 0, slots := 0, locals := 43 } : Room) [.ref o, .int x] [bMo g o a th hi ac tp ba en tA fl de iD iO tU fm fk fa fc ft ff fb fi] (fun (q : Int32) => some (.int q)) (fun (q : Int32) => True) (fun (q : Int32) => [bMo g o a th hi ac tp ba en tA fl de iD iO tU fm fk fa fc ft ff fb fi]) := by
  refine zM'.of (cc := cX12_pull) (maxL := 4) (rt := (some .int)) (by decide) rfl (Nat.le_of_ble_eq_true rfl) ?_
  intro p e s m args below meth c A ls St hr hlocks hin hK hT hA hP hD hS hl
  obtain ⟨hx, hb, hml, hown, hts⟩ := id St
  have hl : lv_has ls 4 [(0, .ref o), (1, .int x)] := hl
  refine lv_iconst (v := 0) hx hb dX12_pull_0 (by decide) ?_
  refine lv_istore_n (lv' := [(2, .int 0), (0, .ref o), (1, .int x)]) hx hb dX12_pull_1 rfl hl (by decide) rfl (fun ls hl => ?_)
  refine lv_iconst (v := 0) hx hb dX12_pull_2 (by decide) ?_
  refine lv_istore_n (lv' := [(3, .int 0), (2, .int 0), (0, .ref o), (1, .int x)]) hx hb dX12_pull_3 rfl hl (by decide) rfl (fun ls hl => ?_)
  have hl := lv_sub (l' := [(0, .ref o), (1, .int x), (2, .int 0), (3, .int 0)]) hl [2, 3, 1, 0] rfl
  have LP4_4 : ∀ (kf : Nat) (x_1 : Int32) (x_2 : Int32), (0 ≤ x_2.toInt ∧ x_2.toInt ≤ 8) → ∀ (H : Heap) (locs : List Loc) (ls : Array Slot), ((9 - x_2.toInt).toNat) < kf → va_P g.1 vwCl (List.flatten [bMo g o a th hi ac tp ba en tA fl de iD iO tU fm fk fa fc ft ff fb fi]) H → va_D A (List.flatten [bMo g o a th hi ac tp ba en tA fl de iD iO tU fm fk fa fc ft ff fb fi]) → va_S A s.heap H locs → lv_has ls 4 [(0, .ref o), (1, .int x), (2, .int x_1), (3, .int x_2)] → W p l e ({ frames := 2, cells := 0, slots := 0, locals := 43 } : Room) s m args below meth c H locs (0) (0) (zF g (fun (q : Int32) => some (.int q)) (fun (q : Int32) => True) (fun (q : Int32) => [bMo g o a th hi ac tp ba en tA fl de iD iO tU fm fk fa fc ft ff fb fi]) ({ frames := 2, cells := 0, slots := 0, locals := 43 } : Room) below args s A) (F0 m 4 ls []) := by
    intro kf
    induction kf with
    | zero => intro x_1 x_2 i3 H locs ls hk; exact absurd hk (Nat.not_lt_zero _)
    | succ kf ih4_5 =>
      intro x_1 x_2 i3 H locs ls hk4_5 hP hD hS hl
      refine lv_iload_n hx hb dX12_pull_4 rfl (lv_at hl 3 rfl) ?_
      refine lv_aload_n hx hb dX12_pull_5 rfl (lv_at hl 0 rfl) ?_
      refine va_get (D := g.1) (ci := 10) (v := .ref (a 0)) (C := RX12) (T := TX12) (N := 20) hx hb hts izRX12 hown hK hP 0 rfl rfl 1 (by decide) (hts _ k815) (fun _ h9 => h9) rfl dX12_pull_6 ?_
      refine lv_iconst (v := 3) hx hb dX12_pull_9 (by decide) ?_
      refine va_iald hx hb hK hP 1 0 rfl rfl (zin rfl) dX12_pull_10 ?_
      refine zgq (r := fm 3) rfl (rM3 rfm) (fun x_6 hx_6 => ?_)
      refine lv_icmp_ge (tgt := 60) hx hb dX12_pull_11 (by decide) (fun cb9 => ?_) (fun cb9 => ?_)
      · skip
        have c7 : x_6.toInt ≤ x_2.toInt := zle cb9 rfl rfl
        refine lv_iload_n hx hb dX12_pull_60 rfl (lv_at hl 2 rfl) ?_
        refine lv_if_ge (tgt := 73) hx hb dX12_pull_61 (by decide) (fun cb9 => ?_) (fun cb9 => ?_)
        · skip
          have c8 : 0 ≤ x_1.toInt := zle cb9 (by decide) rfl
          have n9 : 0 ≤ x_1.toInt := Int.le_trans (Int.le_refl _) c8
          refine lv_iload_n hx hb dX12_pull_73 rfl (lv_at hl 2 rfl) ?_
          refine lv_bipush (v := 40) hx hb dX12_pull_74 (by decide) ?_
          refine lv_idiv hx hb dX12_pull_76 (by decide) ?_
          refine zgb (zdiv (j := x_1.toInt) (d := 40) rfl (by decide) n9 (by decide)) (fun x_10 hx_10 => ?_)
          have hP : va_P g.1 vwCl (List.flatten [bMo g o a th hi ac tp ba en tA fl de iD iO tU fm fk fa fc ft ff fb fi]) H := hP
          have hD : va_D A (List.flatten [bMo g o a th hi ac tp ba en tA fl de iD iO tU fm fk fa fc ft ff fb fi]) := hD
          exact mret_i hx hb hr hlocks hS (Nat.le_of_ble_eq_true rfl) (Nat.le_of_ble_eq_true rfl) dX12_pull_77 (x_10) rfl trivial hP hD
        · skip
          have c11 : x_1.toInt < 0 := zlti (Int32.not_le.mp cb9) rfl (by decide)
          have n12 : x_1.toInt ≤ (-1) := zL1 (b := 0) c11 (Int.le_refl _) (by decide)
          refine lv_iload_n hx hb dX12_pull_64 rfl (lv_at hl 2 rfl) ?_
          refine lv_ineg hx hb dX12_pull_65 ?_
          refine zg (fun x_13 => ?_)
          refine lv_bipush (v := 40) hx hb dX12_pull_66 (by decide) ?_
          refine lv_idiv hx hb dX12_pull_68 (by decide) ?_
          refine zg (fun x_14 => ?_)
          refine lv_ineg hx hb dX12_pull_69 ?_
          refine zg (fun x_15 => ?_)
          refine lv_goto (tgt := 77) hx hb dX12_pull_70 (by decide) ?_
          have hP : va_P g.1 vwCl (List.flatten [bMo g o a th hi ac tp ba en tA fl de iD iO tU fm fk fa fc ft ff fb fi]) H := hP
          have hD : va_D A (List.flatten [bMo g o a th hi ac tp ba en tA fl de iD iO tU fm fk fa fc ft ff fb fi]) := hD
          exact mret_i hx hb hr hlocks hS (Nat.le_of_ble_eq_true rfl) (Nat.le_of_ble_eq_true rfl) dX12_pull_77 (x_15) rfl trivial hP hD
      · skip
        have c16 : x_2.toInt < x_6.toInt := zlti (Int32.not_le.mp cb9) rfl rfl
        have n17 : x_2.toInt ≤ 7 := zL1 (b := 8) c16 hx_6.2.1 (by decide)
        have n18 : 1 ≤ x_6.toInt := zL2 (a := 0) c16 i3.1 (by decide)
        refine lv_iload_n hx hb dX12_pull_14 rfl (lv_at hl 2 rfl) ?_
        refine lv_iload_n hx hb dX12_pull_15 rfl (lv_at hl 3 rfl) ?_
        refine lv_iload_n hx hb dX12_pull_16 rfl (lv_at hl 1 rfl) ?_
        refine lv_icmp_eq (tgt := 51) hx hb dX12_pull_17 (by decide) (fun cb9 => ?_) (fun cb9 => ?_)
        · skip
          have c19 : x_2.toInt = x.toInt := zeq cb9 rfl rfl
          refine lv_iconst (v := 0) hx hb dX12_pull_51 (by decide) ?_
          refine lv_iadd hx hb dX12_pull_52 ?_
          refine zg (fun x_20 => ?_)
          refine lv_istore_n (lv' := [(2, .int x_20), (0, .ref o), (1, .int x), (3, .int x_2)]) hx hb dX12_pull_53 rfl hl (by decide) rfl (fun ls hl => ?_)
          refine ziinc3 (n' := 1) (a' := 1) (b' := 8) (lv' := fun v9 => [(3, .int v9), (2, .int x_20), (0, .ref o), (1, .int x)]) hx hb dX12_pull_54 hl (k := 3) rfl (by decide) (fun _ => rfl) (zaddK (i := x_2.toInt) (j := 1) rfl (by decide) i3.1 n17 (Int.le_refl _) (Int.le_refl _) (by decide)) (fun x_21 ls hx_21 hl => ?_)
          refine lv_goto (tgt := 4) hx hb dX12_pull_57 (by decide) ?_
          have hl := lv_sub (l' := [(0, .ref o), (1, .int x), (2, .int x_20), (3, .int x_21)]) hl [2, 3, 1, 0] rfl
          have hP : va_P g.1 vwCl (List.flatten [bMo g o a th hi ac tp ba en tA fl de iD iO tU fm fk fa fc ft ff fb fi]) H := hP
          have hD : va_D A (List.flatten [bMo g o a th hi ac tp ba en tA fl de iD iO tU fm fk fa fc ft ff fb fi]) := hD
          exact ih4_5 x_20 x_21 ⟨(Int.le_trans (by decide) hx_21.2.1), hx_21.2.2⟩ H _ ls (zmK hx_21.1 (by decide) n17 (by decide) hk4_5)  hP hD hS (lv_sub hl [0, 1, 2, 3] rfl)
        · skip
          have c22 : ¬ x_2.toInt = x.toInt := zne cb9 rfl rfl
          refine lv_aload_n hx hb dX12_pull_20 rfl (lv_at hl 0 rfl) ?_
          refine lv_iload_n hx hb dX12_pull_21 rfl (lv_at hl 3 rfl) ?_
          refine mcallV' (g := g) (q0 := 0) (ci := 10) (As := [.int x_2]) (rest := [.int x_1]) St hK hT hA hP hD hS hl.1 [0] [] rfl rfl rfl (m_isHere l g o a th hi ac tp ba en tA fl de iD iO tU fm fk fa fc ft ff fb fi x_2 (⟨i3.1, n17⟩)) (cwV 1 hts (zgL (zl4 k844 k845 k846 k837) k839) rfl rfl rfl (by decide +kernel) ⟨Nat.le_of_ble_eq_true rfl, Nat.le_of_ble_eq_true rfl⟩) rfl rfl rfl rfl (Nat.le_of_ble_eq_true rfl) dX12_pull_22 ⟨(Nat.le_of_ble_eq_true rfl), (Nat.le_of_ble_eq_true rfl)⟩ (fun q_23 H locs hq24 hP hD hS => ?_)
          replace hq24 : (q_23 = 0 ∨ q_23 = 1) := hq24
          have hP : va_P g.1 vwCl (List.flatten [bMo g o a th hi ac tp ba en tA fl de iD iO tU fm fk fa fc ft ff fb fi]) H := hP
          have hD : va_D A (List.flatten [bMo g o a th hi ac tp ba en tA fl de iD iO tU fm fk fa fc ft ff fb fi]) := hD
          refine W.widen (k := 0) (n := 0) (Nat.le_of_ble_eq_true rfl) (Nat.le_of_ble_eq_true rfl) ?_
          refine W.eq (g2 := F0 m 25 ls [.int q_23, .int x_1]) rfl ?_
          rcases hq24 with rfl | rfl
          · skip
            refine lv_if_eq (tgt := 51) hx hb dX12_pull_25 (by decide) (fun _ => ?_) (fun c25 => absurd (by decide) c25)
            refine lv_iconst (v := 0) hx hb dX12_pull_51 (by decide) ?_
            refine lv_iadd hx hb dX12_pull_52 ?_
            refine zg (fun x_26 => ?_)
            refine lv_istore_n (lv' := [(2, .int x_26), (0, .ref o), (1, .int x), (3, .int x_2)]) hx hb dX12_pull_53 rfl hl (by decide) rfl (fun ls hl => ?_)
            refine ziinc3 (n' := 1) (a' := 1) (b' := 8) (lv' := fun v9 => [(3, .int v9), (2, .int x_26), (0, .ref o), (1, .int x)]) hx hb dX12_pull_54 hl (k := 3) rfl (by decide) (fun _ => rfl) (zaddK (i := x_2.toInt) (j := 1) rfl (by decide) i3.1 n17 (Int.le_refl _) (Int.le_refl _) (by decide)) (fun x_27 ls hx_27 hl => ?_)
            refine lv_goto (tgt := 4) hx hb dX12_pull_57 (by decide) ?_
            have hl := lv_sub (l' := [(0, .ref o), (1, .int x), (2, .int x_26), (3, .int x_27)]) hl [2, 3, 1, 0] rfl
            have hP : va_P g.1 vwCl (List.flatten [bMo g o a th hi ac tp ba en tA fl de iD iO tU fm fk fa fc ft ff fb fi]) H := hP
            have hD : va_D A (List.flatten [bMo g o a th hi ac tp ba en tA fl de iD iO tU fm fk fa fc ft ff fb fi]) := hD
            exact ih4_5 x_26 x_27 ⟨(Int.le_trans (by decide) hx_27.2.1), hx_27.2.2⟩ H _ ls (zmK hx_27.1 (by decide) n17 (by decide) hk4_5)  hP hD hS (lv_sub hl [0, 1, 2, 3] rfl)
          · skip
            refine lv_if_eq (tgt := 51) hx hb dX12_pull_25 (by decide) (fun c28 => absurd c28 (by decide)) (fun _ => ?_)
            refine lv_aload_n hx hb dX12_pull_28 rfl (lv_at hl 0 rfl) ?_
            refine lv_iload_n hx hb dX12_pull_29 rfl (lv_at hl 1 rfl) ?_
            refine lv_iload_n hx hb dX12_pull_30 rfl (lv_at hl 3 rfl) ?_
            refine mcallV' (g := g) (q0 := 0) (ci := 10) (As := [.int x, .int x_2]) (rest := [.int x_1]) St hK hT hA hP hD hS hl.1 [0] [] rfl rfl rfl (m_trustOf l g o a th hi ac tp ba en tA fl de iD iO tU fm fk fa fc ft ff fb fi x x_2 (⟨b_x.1, b_x.2⟩) (⟨i3.1, n17⟩)) (cwV 2 hts (zgL (zl4 k866 k867 k868 k837) k833) rfl rfl rfl (by decide +kernel) ⟨Nat.le_of_ble_eq_true rfl, Nat.le_of_ble_eq_true rfl⟩) rfl rfl rfl rfl (Nat.le_of_ble_eq_true rfl) dX12_pull_31 ⟨(Nat.le_of_ble_eq_true rfl), (Nat.le_of_ble_eq_true rfl)⟩ (fun q_29 H locs hq30 hP hD hS => ?_)
            have hP : va_P g.1 vwCl (List.flatten [bMo g o a th hi ac tp ba en tA fl de iD iO tU fm fk fa fc ft ff fb fi]) H := hP
            have hD : va_D A (List.flatten [bMo g o a th hi ac tp ba en tA fl de iD iO tU fm fk fa fc ft ff fb fi]) := hD
            refine W.widen (k := 0) (n := 0) (Nat.le_of_ble_eq_true rfl) (Nat.le_of_ble_eq_true rfl) ?_
            refine W.eq (g2 := F0 m 34 ls [.int q_29, .int x_1]) rfl ?_
            refine lv_aload_n hx hb dX12_pull_34 rfl (lv_at hl 0 rfl) ?_
            refine lv_iload_n hx hb dX12_pull_35 rfl (lv_at hl 3 rfl) ?_
            refine lv_iconst (v := 0) hx hb dX12_pull_36 (by decide) ?_
            have hL0 : (0 : Int32).toInt = 0 := by decide
            refine mcallV' (g := g) (q0 := 0) (ci := 10) (As := [.int x_2, .int 0]) (rest := [.int q_29, .int x_1]) St hK hT hA hP hD hS hl.1 [0] [] rfl rfl rfl (m_of l g o a th hi ac tp ba en tA fl de iD iO tU fm fk fa fc ft ff fb fi x_2 0 (⟨i3.1, n17⟩) (by decide)) (cwV 2 hts (zgL (zl4 k840 k841 k842 k837) k829) rfl rfl rfl (by decide +kernel) ⟨Nat.le_of_ble_eq_true rfl, Nat.le_of_ble_eq_true rfl⟩) rfl rfl rfl rfl (Nat.le_of_ble_eq_true rfl) dX12_pull_37 ⟨(Nat.le_of_ble_eq_true rfl), (Nat.le_of_ble_eq_true rfl)⟩ (fun q_31 H locs hq32 hP hD hS => ?_)
            have hP : va_P g.1 vwCl (List.flatten [bMo g o a th hi ac tp ba en tA fl de iD iO tU fm fk fa fc ft ff fb fi]) H := hP
            have hD : va_D A (List.flatten [bMo g o a th hi ac tp ba en tA fl de iD iO tU fm fk fa fc ft ff fb fi]) := hD
            refine W.widen (k := 0) (n := 0) (Nat.le_of_ble_eq_true rfl) (Nat.le_of_ble_eq_true rfl) ?_
            refine W.eq (g2 := F0 m 40 ls [.int q_31, .int q_29, .int x_1]) rfl ?_
            refine lv_aload_n hx hb dX12_pull_40 rfl (lv_at hl 0 rfl) ?_
            refine lv_iload_n hx hb dX12_pull_41 rfl (lv_at hl 1 rfl) ?_
            refine lv_iconst (v := 0) hx hb dX12_pull_42 (by decide) ?_
            refine mcallV' (g := g) (q0 := 0) (ci := 10) (As := [.int x, .int 0]) (rest := [.int q_31, .int q_29, .int x_1]) St hK hT hA hP hD hS hl.1 [0] [] rfl rfl rfl (m_of l g o a th hi ac tp ba en tA fl de iD iO tU fm fk fa fc ft ff fb fi x 0 (⟨b_x.1, b_x.2⟩) (by decide)) (cwV 2 hts (zgL (zl4 k840 k841 k842 k837) k829) rfl rfl rfl (by decide +kernel) ⟨Nat.le_of_ble_eq_true rfl, Nat.le_of_ble_eq_true rfl⟩) rfl rfl rfl rfl (Nat.le_of_ble_eq_true rfl) dX12_pull_43 ⟨(Nat.le_of_ble_eq_true rfl), (Nat.le_of_ble_eq_true rfl)⟩ (fun q_33 H locs hq34 hP hD hS => ?_)
            have hP : va_P g.1 vwCl (List.flatten [bMo g o a th hi ac tp ba en tA fl de iD iO tU fm fk fa fc ft ff fb fi]) H := hP
            have hD : va_D A (List.flatten [bMo g o a th hi ac tp ba en tA fl de iD iO tU fm fk fa fc ft ff fb fi]) := hD
            refine W.widen (k := 0) (n := 0) (Nat.le_of_ble_eq_true rfl) (Nat.le_of_ble_eq_true rfl) ?_
            refine W.eq (g2 := F0 m 46 ls [.int q_33, .int q_31, .int q_29, .int x_1]) rfl ?_
            refine lv_isub hx hb dX12_pull_46 ?_
            refine zg (fun x_35 => ?_)
            refine lv_imul hx hb dX12_pull_47 ?_
            refine zg (fun x_36 => ?_)
            refine lv_goto (tgt := 52) hx hb dX12_pull_48 (by decide) ?_
            refine lv_iadd hx hb dX12_pull_52 ?_
            refine zg (fun x_37 => ?_)
            refine lv_istore_n (lv' := [(2, .int x_37), (0, .ref o), (1, .int x), (3, .int x_2)]) hx hb dX12_pull_53 rfl hl (by decide) rfl (fun ls hl => ?_)
            refine ziinc3 (n' := 1) (a' := 1) (b' := 8) (lv' := fun v9 => [(3, .int v9), (2, .int x_37), (0, .ref o), (1, .int x)]) hx hb dX12_pull_54 hl (k := 3) rfl (by decide) (fun _ => rfl) (zaddK (i := x_2.toInt) (j := 1) rfl (by decide) i3.1 n17 (Int.le_refl _) (Int.le_refl _) (by decide)) (fun x_38 ls hx_38 hl => ?_)
            refine lv_goto (tgt := 4) hx hb dX12_pull_57 (by decide) ?_
            have hl := lv_sub (l' := [(0, .ref o), (1, .int x), (2, .int x_37), (3, .int x_38)]) hl [2, 3, 1, 0] rfl
            have hP : va_P g.1 vwCl (List.flatten [bMo g o a th hi ac tp ba en tA fl de iD iO tU fm fk fa fc ft ff fb fi]) H := hP
            have hD : va_D A (List.flatten [bMo g o a th hi ac tp ba en tA fl de iD iO tU fm fk fa fc ft ff fb fi]) := hD
            exact ih4_5 x_37 x_38 ⟨(Int.le_trans (by decide) hx_38.2.1), hx_38.2.2⟩ H _ ls (zmK hx_38.1 (by decide) n17 (by decide) hk4_5)  hP hD hS (lv_sub hl [0, 1, 2, 3] rfl)
  have hP : va_P g.1 vwCl (List.flatten [bMo g o a th hi ac tp ba en tA fl de iD iO tU fm fk fa fc ft ff fb fi]) s.heap := hP
  have hD : va_D A (List.flatten [bMo g o a th hi ac tp ba en tA fl de iD iO tU fm fk fa fc ft ff fb fi]) := hD
  exact LP4_4 _ 0 0 (by decide) s.heap _ ls (Nat.lt_succ_self _)  hP hD hS (lv_sub hl [0, 1, 2, 3] rfl)
