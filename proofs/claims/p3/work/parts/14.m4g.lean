set_option maxRecDepth 100000 in
set_option maxHeartbeats 4000000 in
theorem m_build (l : Launch) (g : zG) (o : Nat) (a : Nat → Nat) (th : Int32) (hi : Int32) (ac : Int32) (tp : Int32) (ba : Int32) (en : Int32) (tA : Int32) (fl : Int32) (de : Int32) (iD : Int32) (iO : Int32) (tU : Int32) (fm : Nat → Int32) (fk : Nat → Int32) (fa : Nat → Int32) (fc : Nat → Int32) (ft : Nat → Int32) (ff : Nat → Int32) (fb : Nat → Int32) (fi : Nat → Int32) (rfm : rM fm) : zM' g l yX12_build (Cond.code yX12_build cX12_build 4 (some .int) :: zB) ({ frames := 4, cells := 0, slots := 0, locals := 88 } : Room) [.ref o] [bMo g o a th hi ac tp ba en tA fl de iD iO tU fm fk fa fc ft ff fb fi] (fun u : (Nat → Int32) × Int32 => (fun (fm2 : Nat → Int32) (q : Int32) => some (.int q)) (u.1) (u.2)) (fun u : (Nat → Int32) × Int32 => (fun (fm2 : Nat → Int32) (q : Int32) => (rM fm2)) (u.1) (u.2)) (fun u : (Nat → Int32) × Int32 => (fun (fm2 : Nat → Int32) (q : Int32) => [bMo g o a th hi ac tp ba en tA fl de iD iO tU fm2 fk fa fc ft ff fb fi]) (u.1) (u.2)) := by
  refine zM'.of (cc := cX12_build) (maxL := 4) (rt := (some .int)) (by decide) rfl (Nat.le_of_ble_eq_true rfl) ?_
  intro p e s m args below meth c A ls St hr hlocks hin hK hT hA hP hD hS hl
  obtain ⟨hx, hb, hml, hown, hts⟩ := id St
  have hl : lv_has ls 4 [(0, .ref o)] := hl
  refine lv_iconst (v := 0) hx hb dX12_build_0 (by decide) ?_
  refine lv_istore_n (lv' := [(1, .int 0), (0, .ref o)]) hx hb dX12_build_1 rfl hl (by decide) rfl (fun ls hl => ?_)
  refine lv_iconst (v := 0) hx hb dX12_build_2 (by decide) ?_
  refine lv_istore_n (lv' := [(2, .int 0), (1, .int 0), (0, .ref o)]) hx hb dX12_build_3 rfl hl (by decide) rfl (fun ls hl => ?_)
  have hl := lv_sub (l' := [(0, .ref o), (1, .int 0), (2, .int 0)]) hl [2, 1, 0] rfl
  have LP4_5 : ∀ (kf : Nat) (x_1 : Int32) (x_2 : Int32) (fm_3 : Nat → Int32), (0 ≤ x_2.toInt ∧ x_2.toInt ≤ 6) → (rM fm_3) → ∀ (H : Heap) (locs : List Loc) (ls : Array Slot), ((7 - x_2.toInt).toNat) < kf → va_P g.1 vwCl (List.flatten [bMo g o a th hi ac tp ba en tA fl de iD iO tU fm_3 fk fa fc ft ff fb fi]) H → va_D A (List.flatten [bMo g o a th hi ac tp ba en tA fl de iD iO tU fm_3 fk fa fc ft ff fb fi]) → va_S A s.heap H locs → lv_has ls 4 [(0, .ref o), (1, .int x_1), (2, .int x_2)] → W p l e ({ frames := 4, cells := 0, slots := 0, locals := 88 } : Room) s m args below meth c H locs (0) (0) (zF g (fun u : (Nat → Int32) × Int32 => (fun (fm2 : Nat → Int32) (q : Int32) => some (.int q)) (u.1) (u.2)) (fun u : (Nat → Int32) × Int32 => (fun (fm2 : Nat → Int32) (q : Int32) => (rM fm2)) (u.1) (u.2)) (fun u : (Nat → Int32) × Int32 => (fun (fm2 : Nat → Int32) (q : Int32) => [bMo g o a th hi ac tp ba en tA fl de iD iO tU fm2 fk fa fc ft ff fb fi]) (u.1) (u.2)) ({ frames := 4, cells := 0, slots := 0, locals := 88 } : Room) below args s A) (F0 m 4 ls []) := by
    intro kf
    induction kf with
    | zero => intro x_1 x_2 fm_3 i4 rfm_3 H locs ls hk; exact absurd hk (Nat.not_lt_zero _)
    | succ kf ih4_6 =>
      intro x_1 x_2 fm_3 i4 rfm_3 H locs ls hk4_6 hP hD hS hl
      refine lv_iload_n hx hb dX12_build_4 rfl (lv_at hl 2 rfl) ?_
      refine lv_aload_n hx hb dX12_build_5 rfl (lv_at hl 0 rfl) ?_
      refine va_get (D := g.1) (ci := 10) (v := .ref (a 0)) (C := RX12) (T := TX12) (N := 20) hx hb hts izRX12 hown hK hP 0 rfl rfl 1 (by decide) (hts _ k815) (fun _ h9 => h9) rfl dX12_build_6 ?_
      refine lv_iconst (v := 4) hx hb dX12_build_9 (by decide) ?_
      refine va_iald hx hb hK hP 1 0 rfl rfl (zin rfl) dX12_build_10 ?_
      refine zgq (r := fm_3 4) rfl (rM4 rfm_3) (fun x_7 hx_7 => ?_)
      refine lv_icmp_ge (tgt := 156) hx hb dX12_build_11 (by decide) (fun cb9 => ?_) (fun cb9 => ?_)
      · skip
        have c8 : x_7.toInt ≤ x_2.toInt := zle cb9 rfl rfl
        refine lv_iload_n hx hb dX12_build_156 rfl (lv_at hl 1 rfl) ?_
        have hP : va_P g.1 vwCl (List.flatten [bMo g o a th hi ac tp ba en tA fl de iD iO tU fm_3 fk fa fc ft ff fb fi]) H := hP
        have hD : va_D A (List.flatten [bMo g o a th hi ac tp ba en tA fl de iD iO tU fm_3 fk fa fc ft ff fb fi]) := hD
        exact mret_i hx hb hr hlocks hS (Nat.le_of_ble_eq_true rfl) (Nat.le_of_ble_eq_true rfl) dX12_build_157 (fm_3, x_1) rfl (show (rM fm_3) from (by first | assumption | omega | decide | exact rfl | exact zb01 (by omega) | exact Or.inl (by decide) | exact Or.inr (by first | omega | decide))) hP hD
      · skip
        have c9 : x_2.toInt < x_7.toInt := zlti (Int32.not_le.mp cb9) rfl rfl
        have n10 : x_2.toInt ≤ 5 := zL1 (b := 6) c9 hx_7.2.1 (by decide)
        have n11 : 1 ≤ x_7.toInt := zL2 (a := 0) c9 i4.1 (by decide)
        refine lv_aload_n hx hb dX12_build_14 rfl (lv_at hl 0 rfl) ?_
        refine mcallV' (g := g) (q0 := 0) (ci := 10) (As := []) (rest := []) St hK hT hA hP hD hS hl.1 [0] [] rfl rfl rfl (m_believed l g o a th hi ac tp ba en tA fl de iD iO tU fm_3 fk fa fc ft ff fb fi (by first | assumption | omega | decide | exact Or.inl (by decide) | exact Or.inr (by decide))) (cwV 0 hts (zgL (zl4 k854 k855 k856 k837) k847) rfl rfl rfl (by decide +kernel) ⟨Nat.le_of_ble_eq_true rfl, Nat.le_of_ble_eq_true rfl⟩) rfl rfl rfl rfl (Nat.le_of_ble_eq_true rfl) dX12_build_15 ⟨(Nat.le_of_ble_eq_true rfl), (Nat.le_of_ble_eq_true rfl)⟩ (fun q_12 H locs hq13 hP hD hS => ?_)
        have hP : va_P g.1 vwCl (List.flatten [bMo g o a th hi ac tp ba en tA fl de iD iO tU fm_3 fk fa fc ft ff fb fi]) H := hP
        have hD : va_D A (List.flatten [bMo g o a th hi ac tp ba en tA fl de iD iO tU fm_3 fk fa fc ft ff fb fi]) := hD
        refine W.widen (k := 0) (n := 0) (Nat.le_of_ble_eq_true rfl) (Nat.le_of_ble_eq_true rfl) ?_
        refine W.eq (g2 := F0 m 18 ls [.int q_12]) rfl ?_
        refine lv_aload_n hx hb dX12_build_18 rfl (lv_at hl 0 rfl) ?_
        refine lv_iload_n hx hb dX12_build_19 rfl (lv_at hl 2 rfl) ?_
        refine lv_iconst (v := 1) hx hb dX12_build_20 (by decide) ?_
        have hL1 : (1 : Int32).toInt = 1 := by decide
        refine mcallV' (g := g) (q0 := 0) (ci := 10) (As := [.int x_2, .int 1]) (rest := [.int q_12]) St hK hT hA hP hD hS hl.1 [0] [] rfl rfl rfl (m_ofWork l g o a th hi ac tp ba en tA fl de iD iO tU fm_3 fk fa fc ft ff fb fi x_2 1 (⟨i4.1, n10⟩) (by decide)) (cwV 2 hts (zgL (zl4 k862 k863 k864 k837) k831) rfl rfl rfl (by decide +kernel) ⟨Nat.le_of_ble_eq_true rfl, Nat.le_of_ble_eq_true rfl⟩) rfl rfl rfl rfl (Nat.le_of_ble_eq_true rfl) dX12_build_21 ⟨(Nat.le_of_ble_eq_true rfl), (Nat.le_of_ble_eq_true rfl)⟩ (fun q_14 H locs hq15 hP hD hS => ?_)
        have hP : va_P g.1 vwCl (List.flatten [bMo g o a th hi ac tp ba en tA fl de iD iO tU fm_3 fk fa fc ft ff fb fi]) H := hP
        have hD : va_D A (List.flatten [bMo g o a th hi ac tp ba en tA fl de iD iO tU fm_3 fk fa fc ft ff fb fi]) := hD
        refine W.widen (k := 0) (n := 0) (Nat.le_of_ble_eq_true rfl) (Nat.le_of_ble_eq_true rfl) ?_
        refine W.eq (g2 := F0 m 24 ls [.int q_14, .int q_12]) rfl ?_
        refine lv_icmp_lt (tgt := 31) hx hb dX12_build_24 (by decide) (fun cb9 => ?_) (fun cb9 => ?_)
        · skip
          have c16 : q_12.toInt < q_14.toInt := zlti cb9 rfl rfl
          refine lv_iconst (v := 0) hx hb dX12_build_31 (by decide) ?_
          refine lv_istore_n (lv' := [(3, .int 0), (0, .ref o), (1, .int x_1), (2, .int x_2)]) hx hb dX12_build_32 rfl hl (by decide) rfl (fun ls hl => ?_)
          refine lv_aload_n hx hb dX12_build_33 rfl (lv_at hl 1 rfl) ?_
          refine lv_iload_n hx hb dX12_build_34 rfl (lv_at hl 3 rfl) ?_
          refine lv_iconst (v := 3) hx hb dX12_build_35 (by decide) ?_
          have hL3 : (3 : Int32).toInt = 3 := by decide
          refine mcallV' (g := g) (q0 := 0) (ci := 10) (As := [.int x_2, .int 3]) (rest := []) St hK hT hA hP hD hS hl.1 [0] [] rfl rfl rfl (m_ofWork l g o a th hi ac tp ba en tA fl de iD iO tU fm_3 fk fa fc ft ff fb fi x_2 3 (⟨i4.1, n10⟩) (by decide)) (cwV 2 hts (zgL (zl4 k862 k863 k864 k837) k831) rfl rfl rfl (by decide +kernel) ⟨Nat.le_of_ble_eq_true rfl, Nat.le_of_ble_eq_true rfl⟩) rfl rfl rfl rfl (Nat.le_of_ble_eq_true rfl) dX12_build_36 ⟨(Nat.le_of_ble_eq_true rfl), (Nat.le_of_ble_eq_true rfl)⟩ (fun q_17 H locs hq18 hP hD hS => ?_)
          have hP : va_P g.1 vwCl (List.flatten [bMo g o a th hi ac tp ba en tA fl de iD iO tU fm_3 fk fa fc ft ff fb fi]) H := hP
          have hD : va_D A (List.flatten [bMo g o a th hi ac tp ba en tA fl de iD iO tU fm_3 fk fa fc ft ff fb fi]) := hD
          refine W.widen (k := 0) (n := 0) (Nat.le_of_ble_eq_true rfl) (Nat.le_of_ble_eq_true rfl) ?_
          refine W.eq (g2 := F0 m 39 ls [.int q_17]) rfl ?_
          refine lv_iconst (v := 1) hx hb dX12_build_39 (by decide) ?_
          refine lv_icmp_ne (tgt := 94) hx hb dX12_build_40 (by decide) (fun cb9 => ?_) (fun cb9 => ?_)
          · skip
            have c19 : ¬ q_17.toInt = 1 := zne cb9 rfl (by decide)
            refine lv_aload_n hx hb dX12_build_94 rfl (lv_at hl 1 rfl) ?_
            refine lv_iload_n hx hb dX12_build_95 rfl (lv_at hl 3 rfl) ?_
            refine lv_iconst (v := 3) hx hb dX12_build_96 (by decide) ?_
            refine mcallV' (g := g) (q0 := 0) (ci := 10) (As := [.int x_2, .int 3]) (rest := []) St hK hT hA hP hD hS hl.1 [0] [] rfl rfl rfl (m_ofWork l g o a th hi ac tp ba en tA fl de iD iO tU fm_3 fk fa fc ft ff fb fi x_2 3 (⟨i4.1, n10⟩) (by decide)) (cwV 2 hts (zgL (zl4 k862 k863 k864 k837) k831) rfl rfl rfl (by decide +kernel) ⟨Nat.le_of_ble_eq_true rfl, Nat.le_of_ble_eq_true rfl⟩) rfl rfl rfl rfl (Nat.le_of_ble_eq_true rfl) dX12_build_97 ⟨(Nat.le_of_ble_eq_true rfl), (Nat.le_of_ble_eq_true rfl)⟩ (fun q_20 H locs hq21 hP hD hS => ?_)
            have hP : va_P g.1 vwCl (List.flatten [bMo g o a th hi ac tp ba en tA fl de iD iO tU fm_3 fk fa fc ft ff fb fi]) H := hP
            have hD : va_D A (List.flatten [bMo g o a th hi ac tp ba en tA fl de iD iO tU fm_3 fk fa fc ft ff fb fi]) := hD
            refine W.widen (k := 0) (n := 0) (Nat.le_of_ble_eq_true rfl) (Nat.le_of_ble_eq_true rfl) ?_
            refine W.eq (g2 := F0 m 100 ls [.int q_20]) rfl ?_
            refine lv_if_ne (tgt := 150) hx hb dX12_build_100 (by decide) (fun cb9 => ?_) (fun cb9 => ?_)
            · skip
              have c22 : ¬ q_20.toInt = 0 := zne cb9 rfl (by decide)
              refine ziinc3 (n' := 1) (a' := 1) (b' := 6) (lv' := fun v9 => [(2, .int v9), (3, .int 0), (0, .ref o), (1, .int x_1)]) hx hb dX12_build_150 hl (k := 3) rfl (by decide) (fun _ => rfl) (zaddK (i := x_2.toInt) (j := 1) rfl (by decide) i4.1 n10 (Int.le_refl _) (Int.le_refl _) (by decide)) (fun x_23 ls hx_23 hl => ?_)
              refine lv_goto (tgt := 4) hx hb dX12_build_153 (by decide) ?_
              have hl := lv_sub (l' := [(0, .ref o), (1, .int x_1), (2, .int x_23), (3, .int 0)]) hl [2, 3, 0, 1] rfl
              have hP : va_P g.1 vwCl (List.flatten [bMo g o a th hi ac tp ba en tA fl de iD iO tU fm_3 fk fa fc ft ff fb fi]) H := hP
              have hD : va_D A (List.flatten [bMo g o a th hi ac tp ba en tA fl de iD iO tU fm_3 fk fa fc ft ff fb fi]) := hD
              exact ih4_6 x_1 x_23 fm_3 ⟨(Int.le_trans (by decide) hx_23.2.1), hx_23.2.2⟩ rfm_3 H _ ls (zmK hx_23.1 (by decide) n10 (by decide) hk4_6)  hP hD hS (lv_sub hl [0, 1, 2] rfl)
            · skip
              have c24 : q_20.toInt = 0 := zeq cb9 rfl (by decide)
              have n25 : 0 ≤ q_20.toInt := Int.le_trans (Int.le_refl _) (Int.le_of_eq c24.symm)
              have n26 : q_20.toInt ≤ 0 := Int.le_trans (Int.le_of_eq c24) (Int.le_refl _)
              refine lv_iload_n hx hb dX12_build_103 rfl (lv_at hl 0 rfl) ?_
              refine lv_if_eq (tgt := 150) hx hb dX12_build_104 (by decide) (fun _ => ?_) (fun c27 => absurd (by decide) c27)
              refine ziinc3 (n' := 1) (a' := 1) (b' := 6) (lv' := fun v9 => [(2, .int v9), (3, .int 0), (0, .ref o), (1, .int x_1)]) hx hb dX12_build_150 hl (k := 3) rfl (by decide) (fun _ => rfl) (zaddK (i := x_2.toInt) (j := 1) rfl (by decide) i4.1 n10 (Int.le_refl _) (Int.le_refl _) (by decide)) (fun x_28 ls hx_28 hl => ?_)
              refine lv_goto (tgt := 4) hx hb dX12_build_153 (by decide) ?_
              have hl := lv_sub (l' := [(0, .ref o), (1, .int x_1), (2, .int x_28), (3, .int 0)]) hl [2, 3, 0, 1] rfl
              have hP : va_P g.1 vwCl (List.flatten [bMo g o a th hi ac tp ba en tA fl de iD iO tU fm_3 fk fa fc ft ff fb fi]) H := hP
              have hD : va_D A (List.flatten [bMo g o a th hi ac tp ba en tA fl de iD iO tU fm_3 fk fa fc ft ff fb fi]) := hD
              exact ih4_6 x_1 x_28 fm_3 ⟨(Int.le_trans (by decide) hx_28.2.1), hx_28.2.2⟩ rfm_3 H _ ls (zmK hx_28.1 (by decide) n10 (by decide) hk4_6)  hP hD hS (lv_sub hl [0, 1, 2] rfl)
          · skip
            have c29 : q_17.toInt = 1 := zeq cb9 rfl (by decide)
            have n30 : 1 ≤ q_17.toInt := Int.le_trans (Int.le_refl _) (Int.le_of_eq c29.symm)
            have n31 : q_17.toInt ≤ 1 := Int.le_trans (Int.le_of_eq c29) (Int.le_refl _)
            refine lv_iload_n hx hb dX12_build_43 rfl (lv_at hl 0 rfl) ?_
            refine lv_if_eq (tgt := 75) hx hb dX12_build_44 (by decide) (fun _ => ?_) (fun c32 => absurd (by decide) c32)
            refine lv_aload_n hx hb dX12_build_75 rfl (lv_at hl 1 rfl) ?_
            refine lv_iload_n hx hb dX12_build_76 rfl (lv_at hl 3 rfl) ?_
            refine lv_iconst (v := 3) hx hb dX12_build_77 (by decide) ?_
            refine lv_iconst (v := 2) hx hb dX12_build_78 (by decide) ?_
            refine mcallV' (g := g) (q0 := 0) (ci := 10) (As := [.int x_2, .int 3, .int 2]) (rest := []) St hK hT hA hP hD hS hl.1 [0] [] rfl rfl rfl (m_putWork l g o a th hi ac tp ba en tA fl de iD iO tU fm_3 fk fa fc ft ff fb fi x_2 3 2 (by first | assumption | omega | decide | exact Or.inl (by decide) | exact Or.inr (by decide)) (⟨i4.1, n10⟩) (by decide)) (cwV 3 hts (zgL (zl4 k913 k914 k915 k837) k832) rfl rfl rfl (by decide +kernel) ⟨Nat.le_of_ble_eq_true rfl, Nat.le_of_ble_eq_true rfl⟩) rfl rfl rfl rfl (Nat.le_of_ble_eq_true rfl) dX12_build_79 ⟨(Nat.le_of_ble_eq_true rfl), (Nat.le_of_ble_eq_true rfl)⟩ (fun fm2_33 H locs hq34 hP hD hS => ?_)
            replace hq34 : (rM fm2_33) ∧ ((fm2_33 3).toInt = (fm_3 3).toInt ∧ (fm2_33 4).toInt = (fm_3 4).toInt) := hq34
            have hP : va_P g.1 vwCl (List.flatten [bMo g o a th hi ac tp ba en tA fl de iD iO tU fm2_33 fk fa fc ft ff fb fi]) H := hP
            have hD : va_D A (List.flatten [bMo g o a th hi ac tp ba en tA fl de iD iO tU fm2_33 fk fa fc ft ff fb fi]) := hD
            refine W.widen (k := 0) (n := 0) (Nat.le_of_ble_eq_true rfl) (Nat.le_of_ble_eq_true rfl) ?_
            refine W.eq (g2 := F0 m 82 ls []) rfl ?_
            obtain ⟨rfm2_33, hq34_1⟩ := hq34
            refine lv_aload_n hx hb dX12_build_82 rfl (lv_at hl 1 rfl) ?_
            refine lv_iload_n hx hb dX12_build_83 rfl (lv_at hl 3 rfl) ?_
            refine lv_iconst (v := 1) hx hb dX12_build_84 (by decide) ?_
            refine mcallV' (g := g) (q0 := 0) (ci := 10) (As := [.int x_2, .int 1]) (rest := []) St hK hT hA hP hD hS hl.1 [0] [] rfl rfl rfl (m_logs l g o a th hi ac tp ba en tA fl de iD iO tU fm2_33 fk fa fc ft ff fb fi x_2 1 (by first | assumption | omega | decide | exact Or.inl (by decide) | exact Or.inr (by decide))) (cwV 2 hts (zgL (zl4 k1004 k1005 k1006 k837) k998) rfl rfl rfl (by decide +kernel) ⟨Nat.le_of_ble_eq_true rfl, Nat.le_of_ble_eq_true rfl⟩) rfl rfl rfl rfl (Nat.le_of_ble_eq_true rfl) dX12_build_85 ⟨(Nat.le_of_ble_eq_true rfl), (Nat.le_of_ble_eq_true rfl)⟩ (fun fm2_35 H locs hq36 hP hD hS => ?_)
            replace hq36 : (rM fm2_35) := hq36
            have hP : va_P g.1 vwCl (List.flatten [bMo g o a th hi ac tp ba en tA fl de iD iO tU fm2_35 fk fa fc ft ff fb fi]) H := hP
            have hD : va_D A (List.flatten [bMo g o a th hi ac tp ba en tA fl de iD iO tU fm2_35 fk fa fc ft ff fb fi]) := hD
            refine W.widen (k := 0) (n := 0) (Nat.le_of_ble_eq_true rfl) (Nat.le_of_ble_eq_true rfl) ?_
            refine W.eq (g2 := F0 m 88 ls []) rfl ?_
            have rfm2_35 := hq36; clear hq36
            refine ziincG (lv' := fun v9 => [(1, .int v9), (3, .int 0), (0, .ref o), (2, .int x_2)]) hx hb dX12_build_88 hl (k := 2) rfl (by decide) (fun _ => rfl) (fun x_37 ls hl => ?_)
            refine lv_goto (tgt := 150) hx hb dX12_build_91 (by decide) ?_
            refine ziinc3 (n' := 1) (a' := 1) (b' := 6) (lv' := fun v9 => [(2, .int v9), (1, .int x_37), (3, .int 0), (0, .ref o)]) hx hb dX12_build_150 hl (k := 3) rfl (by decide) (fun _ => rfl) (zaddK (i := x_2.toInt) (j := 1) rfl (by decide) i4.1 n10 (Int.le_refl _) (Int.le_refl _) (by decide)) (fun x_38 ls hx_38 hl => ?_)
            refine lv_goto (tgt := 4) hx hb dX12_build_153 (by decide) ?_
            have hl := lv_sub (l' := [(0, .ref o), (1, .int x_37), (2, .int x_38), (3, .int 0)]) hl [3, 1, 0, 2] rfl
            have hP : va_P g.1 vwCl (List.flatten [bMo g o a th hi ac tp ba en tA fl de iD iO tU fm2_35 fk fa fc ft ff fb fi]) H := hP
            have hD : va_D A (List.flatten [bMo g o a th hi ac tp ba en tA fl de iD iO tU fm2_35 fk fa fc ft ff fb fi]) := hD
            exact ih4_6 x_37 x_38 fm2_35 ⟨(Int.le_trans (by decide) hx_38.2.1), hx_38.2.2⟩ rfm2_35 H _ ls (zmK hx_38.1 (by decide) n10 (by decide) hk4_6)  hP hD hS (lv_sub hl [0, 1, 2] rfl)
        · skip
          have c39 : q_14.toInt ≤ q_12.toInt := zle (Int32.not_lt.mp cb9) rfl rfl
          refine lv_iconst (v := 1) hx hb dX12_build_27 (by decide) ?_
          refine lv_goto (tgt := 32) hx hb dX12_build_28 (by decide) ?_
          refine lv_istore_n (lv' := [(3, .int 1), (0, .ref o), (1, .int x_1), (2, .int x_2)]) hx hb dX12_build_32 rfl hl (by decide) rfl (fun ls hl => ?_)
          refine lv_aload_n hx hb dX12_build_33 rfl (lv_at hl 1 rfl) ?_
          refine lv_iload_n hx hb dX12_build_34 rfl (lv_at hl 3 rfl) ?_
          refine lv_iconst (v := 3) hx hb dX12_build_35 (by decide) ?_
          have hL3 : (3 : Int32).toInt = 3 := by decide
          refine mcallV' (g := g) (q0 := 0) (ci := 10) (As := [.int x_2, .int 3]) (rest := []) St hK hT hA hP hD hS hl.1 [0] [] rfl rfl rfl (m_ofWork l g o a th hi ac tp ba en tA fl de iD iO tU fm_3 fk fa fc ft ff fb fi x_2 3 (⟨i4.1, n10⟩) (by decide)) (cwV 2 hts (zgL (zl4 k862 k863 k864 k837) k831) rfl rfl rfl (by decide +kernel) ⟨Nat.le_of_ble_eq_true rfl, Nat.le_of_ble_eq_true rfl⟩) rfl rfl rfl rfl (Nat.le_of_ble_eq_true rfl) dX12_build_36 ⟨(Nat.le_of_ble_eq_true rfl), (Nat.le_of_ble_eq_true rfl)⟩ (fun q_40 H locs hq41 hP hD hS => ?_)
          have hP : va_P g.1 vwCl (List.flatten [bMo g o a th hi ac tp ba en tA fl de iD iO tU fm_3 fk fa fc ft ff fb fi]) H := hP
          have hD : va_D A (List.flatten [bMo g o a th hi ac tp ba en tA fl de iD iO tU fm_3 fk fa fc ft ff fb fi]) := hD
          refine W.widen (k := 0) (n := 0) (Nat.le_of_ble_eq_true rfl) (Nat.le_of_ble_eq_true rfl) ?_
          refine W.eq (g2 := F0 m 39 ls [.int q_40]) rfl ?_
          refine lv_iconst (v := 1) hx hb dX12_build_39 (by decide) ?_
          refine lv_icmp_ne (tgt := 94) hx hb dX12_build_40 (by decide) (fun cb9 => ?_) (fun cb9 => ?_)
          · skip
            have c42 : ¬ q_40.toInt = 1 := zne cb9 rfl (by decide)
            refine lv_aload_n hx hb dX12_build_94 rfl (lv_at hl 1 rfl) ?_
            refine lv_iload_n hx hb dX12_build_95 rfl (lv_at hl 3 rfl) ?_
            refine lv_iconst (v := 3) hx hb dX12_build_96 (by decide) ?_
            refine mcallV' (g := g) (q0 := 0) (ci := 10) (As := [.int x_2, .int 3]) (rest := []) St hK hT hA hP hD hS hl.1 [0] [] rfl rfl rfl (m_ofWork l g o a th hi ac tp ba en tA fl de iD iO tU fm_3 fk fa fc ft ff fb fi x_2 3 (⟨i4.1, n10⟩) (by decide)) (cwV 2 hts (zgL (zl4 k862 k863 k864 k837) k831) rfl rfl rfl (by decide +kernel) ⟨Nat.le_of_ble_eq_true rfl, Nat.le_of_ble_eq_true rfl⟩) rfl rfl rfl rfl (Nat.le_of_ble_eq_true rfl) dX12_build_97 ⟨(Nat.le_of_ble_eq_true rfl), (Nat.le_of_ble_eq_true rfl)⟩ (fun q_43 H locs hq44 hP hD hS => ?_)
            have hP : va_P g.1 vwCl (List.flatten [bMo g o a th hi ac tp ba en tA fl de iD iO tU fm_3 fk fa fc ft ff fb fi]) H := hP
            have hD : va_D A (List.flatten [bMo g o a th hi ac tp ba en tA fl de iD iO tU fm_3 fk fa fc ft ff fb fi]) := hD
            refine W.widen (k := 0) (n := 0) (Nat.le_of_ble_eq_true rfl) (Nat.le_of_ble_eq_true rfl) ?_
            refine W.eq (g2 := F0 m 100 ls [.int q_43]) rfl ?_
            refine lv_if_ne (tgt := 150) hx hb dX12_build_100 (by decide) (fun cb9 => ?_) (fun cb9 => ?_)
            · skip
              have c45 : ¬ q_43.toInt = 0 := zne cb9 rfl (by decide)
              refine ziinc3 (n' := 1) (a' := 1) (b' := 6) (lv' := fun v9 => [(2, .int v9), (3, .int 1), (0, .ref o), (1, .int x_1)]) hx hb dX12_build_150 hl (k := 3) rfl (by decide) (fun _ => rfl) (zaddK (i := x_2.toInt) (j := 1) rfl (by decide) i4.1 n10 (Int.le_refl _) (Int.le_refl _) (by decide)) (fun x_46 ls hx_46 hl => ?_)
              refine lv_goto (tgt := 4) hx hb dX12_build_153 (by decide) ?_
              have hl := lv_sub (l' := [(0, .ref o), (1, .int x_1), (2, .int x_46), (3, .int 1)]) hl [2, 3, 0, 1] rfl
              have hP : va_P g.1 vwCl (List.flatten [bMo g o a th hi ac tp ba en tA fl de iD iO tU fm_3 fk fa fc ft ff fb fi]) H := hP
              have hD : va_D A (List.flatten [bMo g o a th hi ac tp ba en tA fl de iD iO tU fm_3 fk fa fc ft ff fb fi]) := hD
              exact ih4_6 x_1 x_46 fm_3 ⟨(Int.le_trans (by decide) hx_46.2.1), hx_46.2.2⟩ rfm_3 H _ ls (zmK hx_46.1 (by decide) n10 (by decide) hk4_6)  hP hD hS (lv_sub hl [0, 1, 2] rfl)
            · skip
              have c47 : q_43.toInt = 0 := zeq cb9 rfl (by decide)
              have n48 : 0 ≤ q_43.toInt := Int.le_trans (Int.le_refl _) (Int.le_of_eq c47.symm)
              have n49 : q_43.toInt ≤ 0 := Int.le_trans (Int.le_of_eq c47) (Int.le_refl _)
              refine lv_iload_n hx hb dX12_build_103 rfl (lv_at hl 0 rfl) ?_
              refine lv_if_eq (tgt := 150) hx hb dX12_build_104 (by decide) (fun c50 => absurd c50 (by decide)) (fun _ => ?_)
              refine lv_aload_n hx hb dX12_build_107 rfl (lv_at hl 1 rfl) ?_
              refine va_get (D := g.1) (ci := 10) (v := .ref (a 0)) (C := RX12) (T := TX12) (N := 20) hx hb hts izRX12 hown hK hP 0 rfl rfl 1 (by decide) (hts _ k815) (fun _ h9 => h9) rfl dX12_build_108 ?_
              refine lv_iconst (v := 5) hx hb dX12_build_111 (by decide) ?_
              refine va_iald hx hb hK hP 1 0 rfl rfl (zin rfl) dX12_build_112 ?_
              refine zg (fun x_51 => ?_)
              refine lv_aload_n hx hb dX12_build_113 rfl (lv_at hl 1 rfl) ?_
              refine lv_iload_n hx hb dX12_build_114 rfl (lv_at hl 3 rfl) ?_
              refine lv_iconst (v := 0) hx hb dX12_build_115 (by decide) ?_
              have hL0 : (0 : Int32).toInt = 0 := by decide
              refine mcallV' (g := g) (q0 := 0) (ci := 10) (As := [.int x_2, .int 0]) (rest := [.int x_51]) St hK hT hA hP hD hS hl.1 [0] [] rfl rfl rfl (m_ofWork l g o a th hi ac tp ba en tA fl de iD iO tU fm_3 fk fa fc ft ff fb fi x_2 0 (⟨i4.1, n10⟩) (by decide)) (cwV 2 hts (zgL (zl4 k862 k863 k864 k837) k831) rfl rfl rfl (by decide +kernel) ⟨Nat.le_of_ble_eq_true rfl, Nat.le_of_ble_eq_true rfl⟩) rfl rfl rfl rfl (Nat.le_of_ble_eq_true rfl) dX12_build_116 ⟨(Nat.le_of_ble_eq_true rfl), (Nat.le_of_ble_eq_true rfl)⟩ (fun q_52 H locs hq53 hP hD hS => ?_)
              have hP : va_P g.1 vwCl (List.flatten [bMo g o a th hi ac tp ba en tA fl de iD iO tU fm_3 fk fa fc ft ff fb fi]) H := hP
              have hD : va_D A (List.flatten [bMo g o a th hi ac tp ba en tA fl de iD iO tU fm_3 fk fa fc ft ff fb fi]) := hD
              refine W.widen (k := 0) (n := 0) (Nat.le_of_ble_eq_true rfl) (Nat.le_of_ble_eq_true rfl) ?_
              refine W.eq (g2 := F0 m 119 ls [.int q_52, .int x_51]) rfl ?_
              refine lv_icmp_lt (tgt := 150) hx hb dX12_build_119 (by decide) (fun cb9 => ?_) (fun cb9 => ?_)
              · skip
                have c54 : x_51.toInt < q_52.toInt := zlti cb9 rfl rfl
                refine ziinc3 (n' := 1) (a' := 1) (b' := 6) (lv' := fun v9 => [(2, .int v9), (3, .int 1), (0, .ref o), (1, .int x_1)]) hx hb dX12_build_150 hl (k := 3) rfl (by decide) (fun _ => rfl) (zaddK (i := x_2.toInt) (j := 1) rfl (by decide) i4.1 n10 (Int.le_refl _) (Int.le_refl _) (by decide)) (fun x_55 ls hx_55 hl => ?_)
                refine lv_goto (tgt := 4) hx hb dX12_build_153 (by decide) ?_
                have hl := lv_sub (l' := [(0, .ref o), (1, .int x_1), (2, .int x_55), (3, .int 1)]) hl [2, 3, 0, 1] rfl
                have hP : va_P g.1 vwCl (List.flatten [bMo g o a th hi ac tp ba en tA fl de iD iO tU fm_3 fk fa fc ft ff fb fi]) H := hP
                have hD : va_D A (List.flatten [bMo g o a th hi ac tp ba en tA fl de iD iO tU fm_3 fk fa fc ft ff fb fi]) := hD
                exact ih4_6 x_1 x_55 fm_3 ⟨(Int.le_trans (by decide) hx_55.2.1), hx_55.2.2⟩ rfm_3 H _ ls (zmK hx_55.1 (by decide) n10 (by decide) hk4_6)  hP hD hS (lv_sub hl [0, 1, 2] rfl)
              · skip
                have c56 : q_52.toInt ≤ x_51.toInt := zle (Int32.not_lt.mp cb9) rfl rfl
                refine lv_aload_n hx hb dX12_build_122 rfl (lv_at hl 1 rfl) ?_
                refine va_get (D := g.1) (ci := 10) (v := .ref (a 0)) (C := RX12) (T := TX12) (N := 20) hx hb hts izRX12 hown hK hP 0 rfl rfl 1 (by decide) (hts _ k815) (fun _ h9 => h9) rfl dX12_build_123 ?_
                refine lv_iconst (v := 5) hx hb dX12_build_126 (by decide) ?_
                refine lv_dup2_11 hx hb dX12_build_127 rfl rfl ?_
                refine va_iald hx hb hK hP 1 0 rfl rfl (zin rfl) dX12_build_128 ?_
                refine zg (fun x_57 => ?_)
                refine lv_aload_n hx hb dX12_build_129 rfl (lv_at hl 1 rfl) ?_
                refine lv_iload_n hx hb dX12_build_130 rfl (lv_at hl 3 rfl) ?_
                refine lv_iconst (v := 0) hx hb dX12_build_131 (by decide) ?_
                refine mcallV' (g := g) (q0 := 0) (ci := 10) (As := [.int x_2, .int 0]) (rest := [.int x_57, .int 5, .ref (a 0)]) St hK hT hA hP hD hS hl.1 [0] [] rfl rfl rfl (m_ofWork l g o a th hi ac tp ba en tA fl de iD iO tU fm_3 fk fa fc ft ff fb fi x_2 0 (⟨i4.1, n10⟩) (by decide)) (cwV 2 hts (zgL (zl4 k862 k863 k864 k837) k831) rfl rfl rfl (by decide +kernel) ⟨Nat.le_of_ble_eq_true rfl, Nat.le_of_ble_eq_true rfl⟩) rfl rfl rfl rfl (Nat.le_of_ble_eq_true rfl) dX12_build_132 ⟨(Nat.le_of_ble_eq_true rfl), (Nat.le_of_ble_eq_true rfl)⟩ (fun q_58 H locs hq59 hP hD hS => ?_)
                have hP : va_P g.1 vwCl (List.flatten [bMo g o a th hi ac tp ba en tA fl de iD iO tU fm_3 fk fa fc ft ff fb fi]) H := hP
                have hD : va_D A (List.flatten [bMo g o a th hi ac tp ba en tA fl de iD iO tU fm_3 fk fa fc ft ff fb fi]) := hD
                refine W.widen (k := 0) (n := 0) (Nat.le_of_ble_eq_true rfl) (Nat.le_of_ble_eq_true rfl) ?_
                refine W.eq (g2 := F0 m 135 ls [.int q_58, .int x_57, .int 5, .ref (a 0)]) rfl ?_
                refine lv_isub hx hb dX12_build_135 ?_
                refine zg (fun x_60 => ?_)
                refine va_iast hx hb hK hP hD hS 1 0 rfl rfl (zin rfl) dX12_build_136 (fun H locs hP hD hS => ?_)
                obtain ⟨fm_61, rfm_61, hP, hD⟩ : ∃ fm_61 : Nat → Int32, rM fm_61 ∧ va_P g.1 vwCl (List.flatten [bMo g o a th hi ac tp ba en tA fl de iD iO tU fm_61 fk fa fc ft ff fb fi]) H ∧ va_D A (List.flatten [bMo g o a th hi ac tp ba en tA fl de iD iO tU fm_61 fk fa fc ft ff fb fi]) := ⟨upd fm_3 5 x_60, (rM_stL rfm_3 (by decide)), hP, hD⟩
                refine lv_aload_n hx hb dX12_build_137 rfl (lv_at hl 1 rfl) ?_
                refine lv_iload_n hx hb dX12_build_138 rfl (lv_at hl 3 rfl) ?_
                refine lv_iconst (v := 3) hx hb dX12_build_139 (by decide) ?_
                refine lv_iconst (v := 1) hx hb dX12_build_140 (by decide) ?_
                refine mcallV' (g := g) (q0 := 0) (ci := 10) (As := [.int x_2, .int 3, .int 1]) (rest := []) St hK hT hA hP hD hS hl.1 [0] [] rfl rfl rfl (m_putWork l g o a th hi ac tp ba en tA fl de iD iO tU fm_61 fk fa fc ft ff fb fi x_2 3 1 (by first | assumption | omega | decide | exact Or.inl (by decide) | exact Or.inr (by decide)) (⟨i4.1, n10⟩) (by decide)) (cwV 3 hts (zgL (zl4 k913 k914 k915 k837) k832) rfl rfl rfl (by decide +kernel) ⟨Nat.le_of_ble_eq_true rfl, Nat.le_of_ble_eq_true rfl⟩) rfl rfl rfl rfl (Nat.le_of_ble_eq_true rfl) dX12_build_141 ⟨(Nat.le_of_ble_eq_true rfl), (Nat.le_of_ble_eq_true rfl)⟩ (fun fm2_62 H locs hq63 hP hD hS => ?_)
                replace hq63 : (rM fm2_62) ∧ ((fm2_62 3).toInt = (fm_61 3).toInt ∧ (fm2_62 4).toInt = (fm_61 4).toInt) := hq63
                have hP : va_P g.1 vwCl (List.flatten [bMo g o a th hi ac tp ba en tA fl de iD iO tU fm2_62 fk fa fc ft ff fb fi]) H := hP
                have hD : va_D A (List.flatten [bMo g o a th hi ac tp ba en tA fl de iD iO tU fm2_62 fk fa fc ft ff fb fi]) := hD
                refine W.widen (k := 0) (n := 0) (Nat.le_of_ble_eq_true rfl) (Nat.le_of_ble_eq_true rfl) ?_
                refine W.eq (g2 := F0 m 144 ls []) rfl ?_
                obtain ⟨rfm2_62, hq63_1⟩ := hq63
                refine lv_aload_n hx hb dX12_build_144 rfl (lv_at hl 1 rfl) ?_
                refine lv_iload_n hx hb dX12_build_145 rfl (lv_at hl 3 rfl) ?_
                refine lv_iconst (v := 0) hx hb dX12_build_146 (by decide) ?_
                refine mcallV' (g := g) (q0 := 0) (ci := 10) (As := [.int x_2, .int 0]) (rest := []) St hK hT hA hP hD hS hl.1 [0] [] rfl rfl rfl (m_logs l g o a th hi ac tp ba en tA fl de iD iO tU fm2_62 fk fa fc ft ff fb fi x_2 0 (by first | assumption | omega | decide | exact Or.inl (by decide) | exact Or.inr (by decide))) (cwV 2 hts (zgL (zl4 k1004 k1005 k1006 k837) k998) rfl rfl rfl (by decide +kernel) ⟨Nat.le_of_ble_eq_true rfl, Nat.le_of_ble_eq_true rfl⟩) rfl rfl rfl rfl (Nat.le_of_ble_eq_true rfl) dX12_build_147 ⟨(Nat.le_of_ble_eq_true rfl), (Nat.le_of_ble_eq_true rfl)⟩ (fun fm2_64 H locs hq65 hP hD hS => ?_)
                replace hq65 : (rM fm2_64) := hq65
                have hP : va_P g.1 vwCl (List.flatten [bMo g o a th hi ac tp ba en tA fl de iD iO tU fm2_64 fk fa fc ft ff fb fi]) H := hP
                have hD : va_D A (List.flatten [bMo g o a th hi ac tp ba en tA fl de iD iO tU fm2_64 fk fa fc ft ff fb fi]) := hD
                refine W.widen (k := 0) (n := 0) (Nat.le_of_ble_eq_true rfl) (Nat.le_of_ble_eq_true rfl) ?_
                refine W.eq (g2 := F0 m 150 ls []) rfl ?_
                have rfm2_64 := hq65; clear hq65
                refine ziinc3 (n' := 1) (a' := 1) (b' := 6) (lv' := fun v9 => [(2, .int v9), (3, .int 1), (0, .ref o), (1, .int x_1)]) hx hb dX12_build_150 hl (k := 3) rfl (by decide) (fun _ => rfl) (zaddK (i := x_2.toInt) (j := 1) rfl (by decide) i4.1 n10 (Int.le_refl _) (Int.le_refl _) (by decide)) (fun x_66 ls hx_66 hl => ?_)
                refine lv_goto (tgt := 4) hx hb dX12_build_153 (by decide) ?_
                have hl := lv_sub (l' := [(0, .ref o), (1, .int x_1), (2, .int x_66), (3, .int 1)]) hl [2, 3, 0, 1] rfl
                have hP : va_P g.1 vwCl (List.flatten [bMo g o a th hi ac tp ba en tA fl de iD iO tU fm2_64 fk fa fc ft ff fb fi]) H := hP
                have hD : va_D A (List.flatten [bMo g o a th hi ac tp ba en tA fl de iD iO tU fm2_64 fk fa fc ft ff fb fi]) := hD
                exact ih4_6 x_1 x_66 fm2_64 ⟨(Int.le_trans (by decide) hx_66.2.1), hx_66.2.2⟩ rfm2_64 H _ ls (zmK hx_66.1 (by decide) n10 (by decide) hk4_6)  hP hD hS (lv_sub hl [0, 1, 2] rfl)
          · skip
            have c67 : q_40.toInt = 1 := zeq cb9 rfl (by decide)
            have n68 : 1 ≤ q_40.toInt := Int.le_trans (Int.le_refl _) (Int.le_of_eq c67.symm)
            have n69 : q_40.toInt ≤ 1 := Int.le_trans (Int.le_of_eq c67) (Int.le_refl _)
            refine lv_iload_n hx hb dX12_build_43 rfl (lv_at hl 0 rfl) ?_
            refine lv_if_eq (tgt := 75) hx hb dX12_build_44 (by decide) (fun c70 => absurd c70 (by decide)) (fun _ => ?_)
            refine lv_aload_n hx hb dX12_build_47 rfl (lv_at hl 1 rfl) ?_
            refine va_get (D := g.1) (ci := 10) (v := .ref (a 0)) (C := RX12) (T := TX12) (N := 20) hx hb hts izRX12 hown hK hP 0 rfl rfl 1 (by decide) (hts _ k815) (fun _ h9 => h9) rfl dX12_build_48 ?_
            refine lv_iconst (v := 5) hx hb dX12_build_51 (by decide) ?_
            refine lv_sipush (v := 9999) hx hb dX12_build_52 (by decide) ?_
            refine lv_aload_n hx hb dX12_build_55 rfl (lv_at hl 1 rfl) ?_
            refine va_get (D := g.1) (ci := 10) (v := .ref (a 0)) (C := RX12) (T := TX12) (N := 20) hx hb hts izRX12 hown hK hP 0 rfl rfl 1 (by decide) (hts _ k815) (fun _ h9 => h9) rfl dX12_build_56 ?_
            refine lv_iconst (v := 5) hx hb dX12_build_59 (by decide) ?_
            refine va_iald hx hb hK hP 1 0 rfl rfl (zin rfl) dX12_build_60 ?_
            refine zg (fun x_71 => ?_)
            refine lv_aload_n hx hb dX12_build_61 rfl (lv_at hl 1 rfl) ?_
            refine lv_iload_n hx hb dX12_build_62 rfl (lv_at hl 3 rfl) ?_
            refine lv_iconst (v := 2) hx hb dX12_build_63 (by decide) ?_
            have hL2 : (2 : Int32).toInt = 2 := by decide
            refine mcallV' (g := g) (q0 := 0) (ci := 10) (As := [.int x_2, .int 2]) (rest := [.int x_71, .int 9999, .int 5, .ref (a 0)]) St hK hT hA hP hD hS hl.1 [0] [] rfl rfl rfl (m_ofWork l g o a th hi ac tp ba en tA fl de iD iO tU fm_3 fk fa fc ft ff fb fi x_2 2 (⟨i4.1, n10⟩) (by decide)) (cwV 2 hts (zgL (zl4 k862 k863 k864 k837) k831) rfl rfl rfl (by decide +kernel) ⟨Nat.le_of_ble_eq_true rfl, Nat.le_of_ble_eq_true rfl⟩) rfl rfl rfl rfl (Nat.le_of_ble_eq_true rfl) dX12_build_64 ⟨(Nat.le_of_ble_eq_true rfl), (Nat.le_of_ble_eq_true rfl)⟩ (fun q_72 H locs hq73 hP hD hS => ?_)
            have hP : va_P g.1 vwCl (List.flatten [bMo g o a th hi ac tp ba en tA fl de iD iO tU fm_3 fk fa fc ft ff fb fi]) H := hP
            have hD : va_D A (List.flatten [bMo g o a th hi ac tp ba en tA fl de iD iO tU fm_3 fk fa fc ft ff fb fi]) := hD
            refine W.widen (k := 0) (n := 0) (Nat.le_of_ble_eq_true rfl) (Nat.le_of_ble_eq_true rfl) ?_
            refine W.eq (g2 := F0 m 67 ls [.int q_72, .int x_71, .int 9999, .int 5, .ref (a 0)]) rfl ?_
            refine lv_iadd hx hb dX12_build_67 ?_
            refine zg (fun x_74 => ?_)
            have hL9999 : (9999 : Int32).toInt = 9999 := by decide
            refine mcallS' (g := g) (As := [.int 9999, .int x_74]) (rest := [.int 5, .ref (a 0)]) St hK hT hA hP hD hS hl.1 [] [0] rfl rfl rfl (m_lesser l g 9999 x_74 ) (va_cwS 2 hts (zgL (zl3 k999 k1000 k837) k825) rfl rfl rfl (by decide +kernel) ⟨Nat.le_of_ble_eq_true rfl, Nat.le_of_ble_eq_true rfl⟩) rfl rfl (Nat.le_of_ble_eq_true rfl) dX12_build_68 ⟨(Nat.le_of_ble_eq_true rfl), (Nat.le_of_ble_eq_true rfl)⟩ (fun q_75 H locs hq76 hP hD hS => ?_)
            replace hq76 : (q_75.toInt ≤ (9999 : Int32).toInt ∧ q_75.toInt ≤ x_74.toInt ∧ (q_75.toInt = (9999 : Int32).toInt ∨ q_75.toInt = x_74.toInt)) := hq76
            have hP : va_P g.1 vwCl (List.flatten [bMo g o a th hi ac tp ba en tA fl de iD iO tU fm_3 fk fa fc ft ff fb fi]) H := hP
            have hD : va_D A (List.flatten [bMo g o a th hi ac tp ba en tA fl de iD iO tU fm_3 fk fa fc ft ff fb fi]) := hD
            refine W.widen (k := 0) (n := 0) (Nat.le_of_ble_eq_true rfl) (Nat.le_of_ble_eq_true rfl) ?_
            refine W.eq (g2 := F0 m 71 ls [.int q_75, .int 5, .ref (a 0)]) rfl ?_
            refine va_iast hx hb hK hP hD hS 1 0 rfl rfl (zin rfl) dX12_build_71 (fun H locs hP hD hS => ?_)
            obtain ⟨fm_77, rfm_77, hP, hD⟩ : ∃ fm_77 : Nat → Int32, rM fm_77 ∧ va_P g.1 vwCl (List.flatten [bMo g o a th hi ac tp ba en tA fl de iD iO tU fm_77 fk fa fc ft ff fb fi]) H ∧ va_D A (List.flatten [bMo g o a th hi ac tp ba en tA fl de iD iO tU fm_77 fk fa fc ft ff fb fi]) := ⟨upd fm_3 5 q_75, (rM_stL rfm_3 (by decide)), hP, hD⟩
            refine lv_goto (tgt := 150) hx hb dX12_build_72 (by decide) ?_
            refine ziinc3 (n' := 1) (a' := 1) (b' := 6) (lv' := fun v9 => [(2, .int v9), (3, .int 1), (0, .ref o), (1, .int x_1)]) hx hb dX12_build_150 hl (k := 3) rfl (by decide) (fun _ => rfl) (zaddK (i := x_2.toInt) (j := 1) rfl (by decide) i4.1 n10 (Int.le_refl _) (Int.le_refl _) (by decide)) (fun x_78 ls hx_78 hl => ?_)
            refine lv_goto (tgt := 4) hx hb dX12_build_153 (by decide) ?_
            have hl := lv_sub (l' := [(0, .ref o), (1, .int x_1), (2, .int x_78), (3, .int 1)]) hl [2, 3, 0, 1] rfl
            have hP : va_P g.1 vwCl (List.flatten [bMo g o a th hi ac tp ba en tA fl de iD iO tU fm_77 fk fa fc ft ff fb fi]) H := hP
            have hD : va_D A (List.flatten [bMo g o a th hi ac tp ba en tA fl de iD iO tU fm_77 fk fa fc ft ff fb fi]) := hD
            exact ih4_6 x_1 x_78 fm_77 ⟨(Int.le_trans (by decide) hx_78.2.1), hx_78.2.2⟩ rfm_77 H _ ls (zmK hx_78.1 (by decide) n10 (by decide) hk4_6)  hP hD hS (lv_sub hl [0, 1, 2] rfl)
  have hP : va_P g.1 vwCl (List.flatten [bMo g o a th hi ac tp ba en tA fl de iD iO tU fm fk fa fc ft ff fb fi]) s.heap := hP
  have hD : va_D A (List.flatten [bMo g o a th hi ac tp ba en tA fl de iD iO tU fm fk fa fc ft ff fb fi]) := hD
  exact LP4_5 _ 0 0 fm (by decide) rfm s.heap _ ls (Nat.lt_succ_self _)  hP hD hS (lv_sub hl [0, 1, 2] rfl)
