set_option maxRecDepth 100000 in
set_option maxHeartbeats 4000000 in
theorem m_circles (l : Launch) (g : zG) (o : Nat) (a : Nat → Nat) (th : Int32) (hi : Int32) (ac : Int32) (tp : Int32) (ba : Int32) (en : Int32) (tA : Int32) (fl : Int32) (de : Int32) (iD : Int32) (iO : Int32) (tU : Int32) (fm : Nat → Int32) (fk : Nat → Int32) (fa : Nat → Int32) (fc : Nat → Int32) (ft : Nat → Int32) (ff : Nat → Int32) (fb : Nat → Int32) (fi : Nat → Int32) (rfm : rM fm) : zM' g l yX12_circles (Cond.code yX12_circles cX12_circles 4 (some .int) :: zB) ({ frames := 3, cells := 0, slots := 0, locals := 73 } : Room) [.ref o] [bMo g o a th hi ac tp ba en tA fl de iD iO tU fm fk fa fc ft ff fb fi] (fun u : Int32 × Int32 => (fun (th2 : Int32) (q : Int32) => some (.int q)) (u.1) (u.2)) (fun u : Int32 × Int32 => (fun (th2 : Int32) (q : Int32) => True) (u.1) (u.2)) (fun u : Int32 × Int32 => (fun (th2 : Int32) (q : Int32) => [bMo g o a th2 hi ac tp ba en tA fl de iD iO tU fm fk fa fc ft ff fb fi]) (u.1) (u.2)) := by
  refine zM'.of (cc := cX12_circles) (maxL := 4) (rt := (some .int)) (by decide) rfl (Nat.le_of_ble_eq_true rfl) ?_
  intro p e s m args below meth c A ls St hr hlocks hin hK hT hA hP hD hS hl
  obtain ⟨hx, hb, hml, hown, hts⟩ := id St
  have hl : lv_has ls 4 [(0, .ref o)] := hl
  refine lv_aload_n hx hb dX12_circles_0 rfl (lv_at hl 0 rfl) ?_
  refine lv_iconst (v := 0) hx hb dX12_circles_1 (by decide) ?_
  refine va_put (D := g.1) (ci := 10) (v := .int 0) (ty := .int) (C := RX12) (T := TX12) (N := 20) hx hb hts izRX12 tyX12 tyX12_ok nmX12 hown hK hP hD hS 0 rfl rfl 0 (by decide) (hts _ k871) (fun _ h9 => h9) rfl (by decide +kernel) rfl rfl (Nat.le_of_ble_eq_true rfl) dX12_circles_2 (fun H locs hP hD hS => ?_)
  have hP : va_P g.1 vwCl (List.flatten [bMo g o a 0 hi ac tp ba en tA fl de iD iO tU fm fk fa fc ft ff fb fi]) H := hP
  have hD : va_D A (List.flatten [bMo g o a 0 hi ac tp ba en tA fl de iD iO tU fm fk fa fc ft ff fb fi]) := hD
  refine lv_iconst (v := 0) hx hb dX12_circles_5 (by decide) ?_
  refine lv_istore_n (lv' := [(1, .int 0), (0, .ref o)]) hx hb dX12_circles_6 rfl hl (by decide) rfl (fun ls hl => ?_)
  refine lv_iconst (v := 0) hx hb dX12_circles_7 (by decide) ?_
  refine lv_istore_n (lv' := [(2, .int 0), (1, .int 0), (0, .ref o)]) hx hb dX12_circles_8 rfl hl (by decide) rfl (fun ls hl => ?_)
  have hl := lv_sub (l' := [(0, .ref o), (1, .int 0), (2, .int 0)]) hl [2, 1, 0] rfl
  have LP9_4 : ∀ (kf : Nat) (x_1 : Int32) (x_2 : Int32), (0 ≤ x_2.toInt ∧ x_2.toInt ≤ 8) → ∀ (H : Heap) (locs : List Loc) (ls : Array Slot), ((9 - x_2.toInt).toNat) < kf → va_P g.1 vwCl (List.flatten [bMo g o a 0 hi ac tp ba en tA fl de iD iO tU fm fk fa fc ft ff fb fi]) H → va_D A (List.flatten [bMo g o a 0 hi ac tp ba en tA fl de iD iO tU fm fk fa fc ft ff fb fi]) → va_S A s.heap H locs → lv_has ls 4 [(0, .ref o), (1, .int x_1), (2, .int x_2)] → W p l e ({ frames := 3, cells := 0, slots := 0, locals := 73 } : Room) s m args below meth c H locs (0) (0) (zF g (fun u : Int32 × Int32 => (fun (th2 : Int32) (q : Int32) => some (.int q)) (u.1) (u.2)) (fun u : Int32 × Int32 => (fun (th2 : Int32) (q : Int32) => True) (u.1) (u.2)) (fun u : Int32 × Int32 => (fun (th2 : Int32) (q : Int32) => [bMo g o a th2 hi ac tp ba en tA fl de iD iO tU fm fk fa fc ft ff fb fi]) (u.1) (u.2)) ({ frames := 3, cells := 0, slots := 0, locals := 73 } : Room) below args s A) (F0 m 9 ls []) := by
    intro kf
    induction kf with
    | zero => intro x_1 x_2 i3 H locs ls hk; exact absurd hk (Nat.not_lt_zero _)
    | succ kf ih9_5 =>
      intro x_1 x_2 i3 H locs ls hk9_5 hP hD hS hl
      refine lv_iload_n hx hb dX12_circles_9 rfl (lv_at hl 2 rfl) ?_
      refine lv_aload_n hx hb dX12_circles_10 rfl (lv_at hl 0 rfl) ?_
      refine va_get (D := g.1) (ci := 10) (v := .ref (a 0)) (C := RX12) (T := TX12) (N := 20) hx hb hts izRX12 hown hK hP 0 rfl rfl 1 (by decide) (hts _ k815) (fun _ h9 => h9) rfl dX12_circles_11 ?_
      refine lv_iconst (v := 3) hx hb dX12_circles_14 (by decide) ?_
      refine va_iald hx hb hK hP 1 0 rfl rfl (zin rfl) dX12_circles_15 ?_
      refine zgq (r := fm 3) rfl (rM3 rfm) (fun x_6 hx_6 => ?_)
      refine lv_icmp_ge (tgt := 57) hx hb dX12_circles_16 (by decide) (fun cb9 => ?_) (fun cb9 => ?_)
      · skip
        have c7 : x_6.toInt ≤ x_2.toInt := zle cb9 rfl rfl
        refine lv_iload_n hx hb dX12_circles_57 rfl (lv_at hl 1 rfl) ?_
        have hP : va_P g.1 vwCl (List.flatten [bMo g o a 0 hi ac tp ba en tA fl de iD iO tU fm fk fa fc ft ff fb fi]) H := hP
        have hD : va_D A (List.flatten [bMo g o a 0 hi ac tp ba en tA fl de iD iO tU fm fk fa fc ft ff fb fi]) := hD
        exact mret_i hx hb hr hlocks hS (Nat.le_of_ble_eq_true rfl) (Nat.le_of_ble_eq_true rfl) dX12_circles_58 ((0 : Int32), x_1) rfl trivial hP hD
      · skip
        have c8 : x_2.toInt < x_6.toInt := zlti (Int32.not_le.mp cb9) rfl rfl
        have n9 : x_2.toInt ≤ 7 := zL1 (b := 8) c8 hx_6.2.1 (by decide)
        have n10 : 1 ≤ x_6.toInt := zL2 (a := 0) c8 i3.1 (by decide)
        refine lv_aload_n hx hb dX12_circles_19 rfl (lv_at hl 0 rfl) ?_
        refine lv_iload_n hx hb dX12_circles_20 rfl (lv_at hl 2 rfl) ?_
        refine mcallV' (g := g) (q0 := 0) (ci := 10) (As := [.int x_2]) (rest := []) St hK hT hA hP hD hS hl.1 [0] [] rfl rfl rfl (m_circleOf l g o a 0 hi ac tp ba en tA fl de iD iO tU fm fk fa fc ft ff fb fi x_2 (by first | assumption | omega | decide | exact Or.inl (by decide) | exact Or.inr (by decide)) (⟨i3.1, n9⟩)) (cwV 1 hts (zgL (zl4 k1116 k1117 k1118 k837) k1114) rfl rfl rfl (by decide +kernel) ⟨Nat.le_of_ble_eq_true rfl, Nat.le_of_ble_eq_true rfl⟩) rfl rfl rfl rfl (Nat.le_of_ble_eq_true rfl) dX12_circles_21 ⟨(Nat.le_of_ble_eq_true rfl), (Nat.le_of_ble_eq_true rfl)⟩ (fun q_11 H locs hq12 hP hD hS => ?_)
        have hP : va_P g.1 vwCl (List.flatten [bMo g o a 0 hi ac tp ba en tA fl de iD iO tU fm fk fa fc ft ff fb fi]) H := hP
        have hD : va_D A (List.flatten [bMo g o a 0 hi ac tp ba en tA fl de iD iO tU fm fk fa fc ft ff fb fi]) := hD
        refine W.widen (k := 0) (n := 0) (Nat.le_of_ble_eq_true rfl) (Nat.le_of_ble_eq_true rfl) ?_
        refine W.eq (g2 := F0 m 24 ls [.int q_11]) rfl ?_
        refine lv_istore_n (lv' := [(3, .int q_11), (0, .ref o), (1, .int x_1), (2, .int x_2)]) hx hb dX12_circles_24 rfl hl (by decide) rfl (fun ls hl => ?_)
        refine lv_iload_n hx hb dX12_circles_25 rfl (lv_at hl 2 rfl) ?_
        refine lv_iload_n hx hb dX12_circles_26 rfl (lv_at hl 0 rfl) ?_
        refine mcallS' (g := g) (As := [.int q_11]) (rest := [.int x_1]) St hK hT hA hP hD hS hl.1 [] [0] rfl rfl rfl (m_bits l g q_11 ) (va_cwS 1 hts (zgL (zl3 k852 k853 k837) k828) rfl rfl rfl (by decide +kernel) ⟨Nat.le_of_ble_eq_true rfl, Nat.le_of_ble_eq_true rfl⟩) rfl rfl (Nat.le_of_ble_eq_true rfl) dX12_circles_27 ⟨(Nat.le_of_ble_eq_true rfl), (Nat.le_of_ble_eq_true rfl)⟩ (fun q_13 H locs hq14 hP hD hS => ?_)
        have hP : va_P g.1 vwCl (List.flatten [bMo g o a 0 hi ac tp ba en tA fl de iD iO tU fm fk fa fc ft ff fb fi]) H := hP
        have hD : va_D A (List.flatten [bMo g o a 0 hi ac tp ba en tA fl de iD iO tU fm fk fa fc ft ff fb fi]) := hD
        refine W.widen (k := 0) (n := 0) (Nat.le_of_ble_eq_true rfl) (Nat.le_of_ble_eq_true rfl) ?_
        refine W.eq (g2 := F0 m 30 ls [.int q_13, .int x_1]) rfl ?_
        refine lv_iconst (v := 1) hx hb dX12_circles_30 (by decide) ?_
        refine lv_icmp_le (tgt := 48) hx hb dX12_circles_31 (by decide) (fun cb9 => ?_) (fun cb9 => ?_)
        · skip
          have c15 : q_13.toInt ≤ 1 := zle cb9 rfl (by decide)
          have n16 : q_13.toInt ≤ 1 := Int.le_trans c15 (Int.le_refl _)
          refine lv_iconst (v := 0) hx hb dX12_circles_48 (by decide) ?_
          refine lv_iadd hx hb dX12_circles_49 ?_
          refine zg (fun x_17 => ?_)
          refine lv_istore_n (lv' := [(1, .int x_17), (3, .int q_11), (0, .ref o), (2, .int x_2)]) hx hb dX12_circles_50 rfl hl (by decide) rfl (fun ls hl => ?_)
          refine ziinc3 (n' := 1) (a' := 1) (b' := 8) (lv' := fun v9 => [(2, .int v9), (1, .int x_17), (3, .int q_11), (0, .ref o)]) hx hb dX12_circles_51 hl (k := 3) rfl (by decide) (fun _ => rfl) (zaddK (i := x_2.toInt) (j := 1) rfl (by decide) i3.1 n9 (Int.le_refl _) (Int.le_refl _) (by decide)) (fun x_18 ls hx_18 hl => ?_)
          refine lv_goto (tgt := 9) hx hb dX12_circles_54 (by decide) ?_
          have hl := lv_sub (l' := [(0, .ref o), (1, .int x_17), (2, .int x_18), (3, .int q_11)]) hl [3, 1, 0, 2] rfl
          have hP : va_P g.1 vwCl (List.flatten [bMo g o a 0 hi ac tp ba en tA fl de iD iO tU fm fk fa fc ft ff fb fi]) H := hP
          have hD : va_D A (List.flatten [bMo g o a 0 hi ac tp ba en tA fl de iD iO tU fm fk fa fc ft ff fb fi]) := hD
          exact ih9_5 x_17 x_18 ⟨(Int.le_trans (by decide) hx_18.2.1), hx_18.2.2⟩ H _ ls (zmK hx_18.1 (by decide) n9 (by decide) hk9_5)  hP hD hS (lv_sub hl [0, 1, 2] rfl)
        · skip
          have c19 : 1 < q_13.toInt := zlti (Int32.not_le.mp cb9) (by decide) rfl
          have n20 : 2 ≤ q_13.toInt := zL2 (a := 1) c19 (Int.le_refl _) (by decide)
          refine lv_iload_n hx hb dX12_circles_34 rfl (lv_at hl 0 rfl) ?_
          refine lv_iconst (v := 1) hx hb dX12_circles_35 (by decide) ?_
          refine lv_iload_n hx hb dX12_circles_36 rfl (lv_at hl 3 rfl) ?_
          refine lv_ishl hx hb dX12_circles_37 ?_
          refine zgb (zshl1 (j := x_2.toInt) rfl 7 128 (by decide) (by decide) ⟨i3.1, n9⟩) (fun x_21 hx_21 => ?_)
          refine lv_iconst (v := 1) hx hb dX12_circles_38 (by decide) ?_
          refine lv_isub hx hb dX12_circles_39 ?_
          refine zg3 (zsubK (i := x_21.toInt) (j := 1) (a' := 0) (b' := 127) rfl (by decide) hx_21.1 hx_21.2 (Int.le_refl _) (Int.le_refl _) (by decide)) (fun x_22 hx_22 => ?_)
          refine lv_iand hx hb dX12_circles_40 ?_
          refine zg (fun x_23 => ?_)
          refine lv_if_ne (tgt := 48) hx hb dX12_circles_41 (by decide) (fun cb9 => ?_) (fun cb9 => ?_)
          · skip
            have c24 : ¬ x_23.toInt = 0 := zne cb9 rfl (by decide)
            refine lv_iconst (v := 0) hx hb dX12_circles_48 (by decide) ?_
            refine lv_iadd hx hb dX12_circles_49 ?_
            refine zg (fun x_25 => ?_)
            refine lv_istore_n (lv' := [(1, .int x_25), (3, .int q_11), (0, .ref o), (2, .int x_2)]) hx hb dX12_circles_50 rfl hl (by decide) rfl (fun ls hl => ?_)
            refine ziinc3 (n' := 1) (a' := 1) (b' := 8) (lv' := fun v9 => [(2, .int v9), (1, .int x_25), (3, .int q_11), (0, .ref o)]) hx hb dX12_circles_51 hl (k := 3) rfl (by decide) (fun _ => rfl) (zaddK (i := x_2.toInt) (j := 1) rfl (by decide) i3.1 n9 (Int.le_refl _) (Int.le_refl _) (by decide)) (fun x_26 ls hx_26 hl => ?_)
            refine lv_goto (tgt := 9) hx hb dX12_circles_54 (by decide) ?_
            have hl := lv_sub (l' := [(0, .ref o), (1, .int x_25), (2, .int x_26), (3, .int q_11)]) hl [3, 1, 0, 2] rfl
            have hP : va_P g.1 vwCl (List.flatten [bMo g o a 0 hi ac tp ba en tA fl de iD iO tU fm fk fa fc ft ff fb fi]) H := hP
            have hD : va_D A (List.flatten [bMo g o a 0 hi ac tp ba en tA fl de iD iO tU fm fk fa fc ft ff fb fi]) := hD
            exact ih9_5 x_25 x_26 ⟨(Int.le_trans (by decide) hx_26.2.1), hx_26.2.2⟩ H _ ls (zmK hx_26.1 (by decide) n9 (by decide) hk9_5)  hP hD hS (lv_sub hl [0, 1, 2] rfl)
          · skip
            have c27 : x_23.toInt = 0 := zeq cb9 rfl (by decide)
            have n28 : 0 ≤ x_23.toInt := Int.le_trans (Int.le_refl _) (Int.le_of_eq c27.symm)
            have n29 : x_23.toInt ≤ 0 := Int.le_trans (Int.le_of_eq c27) (Int.le_refl _)
            refine lv_iconst (v := 1) hx hb dX12_circles_44 (by decide) ?_
            refine lv_goto (tgt := 49) hx hb dX12_circles_45 (by decide) ?_
            refine lv_iadd hx hb dX12_circles_49 ?_
            refine zg (fun x_30 => ?_)
            refine lv_istore_n (lv' := [(1, .int x_30), (3, .int q_11), (0, .ref o), (2, .int x_2)]) hx hb dX12_circles_50 rfl hl (by decide) rfl (fun ls hl => ?_)
            refine ziinc3 (n' := 1) (a' := 1) (b' := 8) (lv' := fun v9 => [(2, .int v9), (1, .int x_30), (3, .int q_11), (0, .ref o)]) hx hb dX12_circles_51 hl (k := 3) rfl (by decide) (fun _ => rfl) (zaddK (i := x_2.toInt) (j := 1) rfl (by decide) i3.1 n9 (Int.le_refl _) (Int.le_refl _) (by decide)) (fun x_31 ls hx_31 hl => ?_)
            refine lv_goto (tgt := 9) hx hb dX12_circles_54 (by decide) ?_
            have hl := lv_sub (l' := [(0, .ref o), (1, .int x_30), (2, .int x_31), (3, .int q_11)]) hl [3, 1, 0, 2] rfl
            have hP : va_P g.1 vwCl (List.flatten [bMo g o a 0 hi ac tp ba en tA fl de iD iO tU fm fk fa fc ft ff fb fi]) H := hP
            have hD : va_D A (List.flatten [bMo g o a 0 hi ac tp ba en tA fl de iD iO tU fm fk fa fc ft ff fb fi]) := hD
            exact ih9_5 x_30 x_31 ⟨(Int.le_trans (by decide) hx_31.2.1), hx_31.2.2⟩ H _ ls (zmK hx_31.1 (by decide) n9 (by decide) hk9_5)  hP hD hS (lv_sub hl [0, 1, 2] rfl)
  have hP : va_P g.1 vwCl (List.flatten [bMo g o a 0 hi ac tp ba en tA fl de iD iO tU fm fk fa fc ft ff fb fi]) H := hP
  have hD : va_D A (List.flatten [bMo g o a 0 hi ac tp ba en tA fl de iD iO tU fm fk fa fc ft ff fb fi]) := hD
  exact LP9_4 _ 0 0 (by decide) H _ ls (Nat.lt_succ_self _)  hP hD hS (lv_sub hl [0, 1, 2] rfl)
