set_option maxRecDepth 100000 in
set_option maxHeartbeats 4000000 in
theorem m_doubtsNowG (l : Launch) (g : zG) (o : Nat) (a : Nat → Nat) (th : Int32) (hi : Int32) (ac : Int32) (tp : Int32) (ba : Int32) (en : Int32) (tA : Int32) (fl : Int32) (de : Int32) (iD : Int32) (iO : Int32) (tU : Int32) (fm : Nat → Int32) (fk : Nat → Int32) (fa : Nat → Int32) (fc : Nat → Int32) (ft : Nat → Int32) (ff : Nat → Int32) (fb : Nat → Int32) (fi : Nat → Int32) (rfm : rM fm) : zM' g l yX12_doubtsNow (Cond.code yX12_doubtsNow cX12_doubtsNow 3 (some .int) :: zB) ({ frames := 2, cells := 0, slots := 0, locals := 43 } : Room) [.ref o] [bMo g o a th hi ac tp ba en tA fl de iD iO tU fm fk fa fc ft ff fb fi] (fun _ : Unit => some (.int (zDb (zV fm) (fm 3).toInt.toNat))) (fun _ : Unit => True) (fun _ : Unit => [bMo g o a th hi ac tp ba en tA fl de iD iO tU fm fk fa fc ft ff fb fi]) := by
  refine zM'.of (cc := cX12_doubtsNow) (maxL := 3) (rt := (some .int)) (by decide) rfl (Nat.le_of_ble_eq_true rfl) ?_
  intro p e s m args below meth c A ls St hr hlocks hin hK hT hA hP hD hS hl
  obtain ⟨hx, hb, hml, hown, hts⟩ := id St
  have hl : lv_has ls 3 [(0, .ref o)] := hl
  have hrm3 := rM3 rfm
  have hrm4 := rM4 rfm
  refine lv_iconst (v := 0) hx hb dX12_doubtsNow_0 (by decide) ?_
  refine lv_istore_n (lv' := [(1, .int 0), (0, .ref o)]) hx hb dX12_doubtsNow_1 rfl hl (by decide) rfl (fun ls hl => ?_)
  refine lv_iconst (v := 0) hx hb dX12_doubtsNow_2 (by decide) ?_
  refine lv_istore_n (lv' := [(2, .int 0), (1, .int 0), (0, .ref o)]) hx hb dX12_doubtsNow_3 rfl hl (by decide) rfl (fun ls hl => ?_)
  have hl := lv_sub (l' := [(0, .ref o), (1, .int 0), (2, .int 0)]) hl [2, 1, 0] rfl
  have LP4_6 : ∀ (kf : Nat) (x_1 : Int32) (x_2 : Int32), (0 ≤ x_2.toInt ∧ x_2.toInt ≤ 8) → (x_1 = zOf (fun x => if ((zV fm) 3 x).toInt = -1 ∧ ((zV fm) 0 x).toInt < 33 then zBit x else 0) x_2.toInt.toNat) → (x_2.toInt ≤ (fm 3).toInt) → ∀ (H : Heap) (locs : List Loc) (ls : Array Slot), ((9 - x_2.toInt).toNat) < kf → va_P g.1 vwCl (List.flatten [bMo g o a th hi ac tp ba en tA fl de iD iO tU fm fk fa fc ft ff fb fi]) H → va_D A (List.flatten [bMo g o a th hi ac tp ba en tA fl de iD iO tU fm fk fa fc ft ff fb fi]) → va_S A s.heap H locs → lv_has ls 3 [(0, .ref o), (1, .int x_1), (2, .int x_2)] → W p l e ({ frames := 2, cells := 0, slots := 0, locals := 43 } : Room) s m args below meth c H locs (0) (0) (zF g (fun _ : Unit => some (.int (zDb (zV fm) (fm 3).toInt.toNat))) (fun _ : Unit => True) (fun _ : Unit => [bMo g o a th hi ac tp ba en tA fl de iD iO tU fm fk fa fc ft ff fb fi]) ({ frames := 2, cells := 0, slots := 0, locals := 43 } : Room) below args s A) (F0 m 4 ls []) := by
    intro kf
    induction kf with
    | zero => intro x_1 x_2 i3 i4 i5 H locs ls hk; exact absurd hk (Nat.not_lt_zero _)
    | succ kf ih4_7 =>
      intro x_1 x_2 i3 i4 i5 H locs ls hk4_7 hP hD hS hl
      refine lv_iload_n hx hb dX12_doubtsNow_4 rfl (lv_at hl 2 rfl) ?_
      refine lv_aload_n hx hb dX12_doubtsNow_5 rfl (lv_at hl 0 rfl) ?_
      refine va_get (D := g.1) (ci := 10) (v := .ref (a 0)) (C := RX12) (T := TX12) (N := 20) hx hb hts izRX12 hown hK hP 0 rfl rfl 1 (by decide) (hts _ k815) (fun _ h9 => h9) rfl dX12_doubtsNow_6 ?_
      refine lv_iconst (v := 3) hx hb dX12_doubtsNow_9 (by decide) ?_
      refine va_iald hx hb hK hP 1 0 rfl rfl (zin rfl) dX12_doubtsNow_10 ?_
      refine ztop (r := (fm 3)) rfl ?_
      refine lv_icmp_ge (tgt := 49) hx hb dX12_doubtsNow_11 (by decide) (fun cb9 => ?_) (fun cb9 => ?_)
      · skip
        have c8 : (fm 3).toInt ≤ x_2.toInt := zle cb9 rfl rfl
        refine lv_iload_n hx hb dX12_doubtsNow_49 rfl (lv_at hl 1 rfl) ?_
        refine ztop (r := (zDb (zV fm) (fm 3).toInt.toNat)) (zFo_x i4 (by omega)) ?_
        have hP : va_P g.1 vwCl (List.flatten [bMo g o a th hi ac tp ba en tA fl de iD iO tU fm fk fa fc ft ff fb fi]) H := hP
        have hD : va_D A (List.flatten [bMo g o a th hi ac tp ba en tA fl de iD iO tU fm fk fa fc ft ff fb fi]) := hD
        exact mret_i hx hb hr hlocks hS (Nat.le_of_ble_eq_true rfl) (Nat.le_of_ble_eq_true rfl) dX12_doubtsNow_50 () rfl trivial hP hD
      · skip
        have c9 : x_2.toInt < (fm 3).toInt := zlti (Int32.not_le.mp cb9) rfl rfl
        have n10 : x_2.toInt ≤ 7 := zL1 (b := 8) c9 (rM3 rfm).2 (by decide)
        have n11 : 1 ≤ (fm 3).toInt := zL2 (a := 0) c9 i3.1 (by decide)
        refine lv_iload_n hx hb dX12_doubtsNow_14 rfl (lv_at hl 1 rfl) ?_
        refine lv_aload_n hx hb dX12_doubtsNow_15 rfl (lv_at hl 0 rfl) ?_
        refine lv_iload_n hx hb dX12_doubtsNow_16 rfl (lv_at hl 2 rfl) ?_
        refine mcallV' (g := g) (q0 := 0) (ci := 10) (As := [.int x_2]) (rest := [.int x_1]) St hK hT hA hP hD hS hl.1 [0] [] rfl rfl rfl (m_isHereG l g o a th hi ac tp ba en tA fl de iD iO tU fm fk fa fc ft ff fb fi x_2 (⟨i3.1, n10⟩)) (cwV 1 hts (zgL (zl4 k846 k847 k848 k839) k841) rfl rfl rfl (by decide +kernel) ⟨Nat.le_of_ble_eq_true rfl, Nat.le_of_ble_eq_true rfl⟩) rfl rfl rfl rfl (Nat.le_of_ble_eq_true rfl) dX12_doubtsNow_17 ⟨(Nat.le_of_ble_eq_true rfl), (Nat.le_of_ble_eq_true rfl)⟩ (fun q_12 H locs hq13 hP hD hS => ?_)
        replace hq13 : (q_12 = 1 ∧ (zV fm 3 x_2.toInt.toNat).toInt = -1 ∨ q_12 = 0 ∧ ¬ (zV fm 3 x_2.toInt.toNat).toInt = -1) := hq13
        have hP : va_P g.1 vwCl (List.flatten [bMo g o a th hi ac tp ba en tA fl de iD iO tU fm fk fa fc ft ff fb fi]) H := hP
        have hD : va_D A (List.flatten [bMo g o a th hi ac tp ba en tA fl de iD iO tU fm fk fa fc ft ff fb fi]) := hD
        refine W.widen (k := 0) (n := 0) (Nat.le_of_ble_eq_true rfl) (Nat.le_of_ble_eq_true rfl) ?_
        refine W.eq (g2 := F0 m 20 ls [.int q_12, .int x_1]) rfl ?_
        rcases hq13 with ⟨rfl, hq13_k⟩ | ⟨rfl, hq13_k⟩
        · skip
          refine lv_if_eq (tgt := 40) hx hb dX12_doubtsNow_20 (by decide) (fun c14 => absurd c14 (by decide)) (fun _ => ?_)
          refine lv_aload_n hx hb dX12_doubtsNow_23 rfl (lv_at hl 0 rfl) ?_
          refine lv_iload_n hx hb dX12_doubtsNow_24 rfl (lv_at hl 2 rfl) ?_
          refine lv_iconst (v := 0) hx hb dX12_doubtsNow_25 (by decide) ?_
          refine mcallV' (g := g) (q0 := 0) (ci := 10) (As := [.int x_2, .int 0]) (rest := [.int x_1]) St hK hT hA hP hD hS hl.1 [0] [] rfl rfl rfl (m_of0F l g o a th hi ac tp ba en tA fl de iD iO tU fm fk fa fc ft ff fb fi x_2 (⟨i3.1, n10⟩)) (cwV 2 hts (zgL (zl4 k842 k843 k844 k839) k831) rfl rfl rfl (by decide +kernel) ⟨Nat.le_of_ble_eq_true rfl, Nat.le_of_ble_eq_true rfl⟩) rfl rfl rfl rfl (Nat.le_of_ble_eq_true rfl) dX12_doubtsNow_26 ⟨(Nat.le_of_ble_eq_true rfl), (Nat.le_of_ble_eq_true rfl)⟩ (fun _u H locs hq15 hP hD hS => ?_)
          have hP : va_P g.1 vwCl (List.flatten [bMo g o a th hi ac tp ba en tA fl de iD iO tU fm fk fa fc ft ff fb fi]) H := hP
          have hD : va_D A (List.flatten [bMo g o a th hi ac tp ba en tA fl de iD iO tU fm fk fa fc ft ff fb fi]) := hD
          refine W.widen (k := 0) (n := 0) (Nat.le_of_ble_eq_true rfl) (Nat.le_of_ble_eq_true rfl) ?_
          refine W.eq (g2 := F0 m 29 ls [.int (zV fm 0 x_2.toInt.toNat), .int x_1]) rfl ?_
          refine lv_bipush (v := 33) hx hb dX12_doubtsNow_29 (by decide) ?_
          refine lv_icmp_ge (tgt := 40) hx hb dX12_doubtsNow_31 (by decide) (fun cb9 => ?_) (fun cb9 => ?_)
          · skip
            have c16 : 33 ≤ (zV fm 0 x_2.toInt.toNat).toInt := zle cb9 (by decide) rfl
            have n17 : 33 ≤ (zV fm 0 x_2.toInt.toNat).toInt := Int.le_trans (Int.le_refl _) c16
            refine lv_iconst (v := 0) hx hb dX12_doubtsNow_40 (by decide) ?_
            refine lv_ior hx hb dX12_doubtsNow_41 ?_
            refine lv_istore_n (lv' := [(1, .int (x_1 ||| 0)), (0, .ref o), (2, .int x_2)]) hx hb dX12_doubtsNow_42 rfl hl (by decide) rfl (fun ls hl => ?_)
            refine ziinc3 (n' := 1) (a' := 1) (b' := 8) (lv' := fun v9 => [(2, .int v9), (1, .int (x_1 ||| 0)), (0, .ref o)]) hx hb dX12_doubtsNow_43 hl (k := 2) rfl (by decide) (fun _ => rfl) (zaddK (i := x_2.toInt) (j := 1) rfl (by decide) i3.1 n10 (Int.le_refl _) (Int.le_refl _) (by decide)) (fun x_18 ls hx_18 hl => ?_)
            refine lv_goto (tgt := 4) hx hb dX12_doubtsNow_46 (by decide) ?_
            have hl := lv_sub (l' := [(0, .ref o), (1, .int (x_1 ||| 0)), (2, .int x_18)]) hl [2, 1, 0] rfl
            have hP : va_P g.1 vwCl (List.flatten [bMo g o a th hi ac tp ba en tA fl de iD iO tU fm fk fa fc ft ff fb fi]) H := hP
            have hD : va_D A (List.flatten [bMo g o a th hi ac tp ba en tA fl de iD iO tU fm fk fa fc ft ff fb fi]) := hD
            exact ih4_7 (x_1 ||| 0) x_18 ⟨(Int.le_trans (by decide) hx_18.2.1), hx_18.2.2⟩ (zFo_s i4 hx_18.1 (by omega) (by (try dsimp only); (repeat' split) <;> first | rfl | exact (Int32.add_zero _).symm | exact Int32.or_zero.symm | (exfalso; omega))) (by first | omega | assumption | decide) H _ ls (zmK hx_18.1 (by decide) n10 (by decide) hk4_7)  hP hD hS (lv_sub hl [0, 1, 2] rfl)
          · skip
            have c19 : (zV fm 0 x_2.toInt.toNat).toInt < 33 := zlti (Int32.not_le.mp cb9) rfl (by decide)
            have n20 : (zV fm 0 x_2.toInt.toNat).toInt ≤ 32 := zL1 (b := 33) c19 (Int.le_refl _) (by decide)
            refine lv_iconst (v := 1) hx hb dX12_doubtsNow_34 (by decide) ?_
            refine lv_iload_n hx hb dX12_doubtsNow_35 rfl (lv_at hl 2 rfl) ?_
            refine lv_ishl hx hb dX12_doubtsNow_36 ?_
            refine ztop (r := (zBit x_2.toInt.toNat)) (zBit_k i3.1) ?_
            refine lv_goto (tgt := 41) hx hb dX12_doubtsNow_37 (by decide) ?_
            refine lv_ior hx hb dX12_doubtsNow_41 ?_
            refine lv_istore_n (lv' := [(1, .int (x_1 ||| (zBit x_2.toInt.toNat))), (0, .ref o), (2, .int x_2)]) hx hb dX12_doubtsNow_42 rfl hl (by decide) rfl (fun ls hl => ?_)
            refine ziinc3 (n' := 1) (a' := 1) (b' := 8) (lv' := fun v9 => [(2, .int v9), (1, .int (x_1 ||| (zBit x_2.toInt.toNat))), (0, .ref o)]) hx hb dX12_doubtsNow_43 hl (k := 2) rfl (by decide) (fun _ => rfl) (zaddK (i := x_2.toInt) (j := 1) rfl (by decide) i3.1 n10 (Int.le_refl _) (Int.le_refl _) (by decide)) (fun x_21 ls hx_21 hl => ?_)
            refine lv_goto (tgt := 4) hx hb dX12_doubtsNow_46 (by decide) ?_
            have hl := lv_sub (l' := [(0, .ref o), (1, .int (x_1 ||| (zBit x_2.toInt.toNat))), (2, .int x_21)]) hl [2, 1, 0] rfl
            have hP : va_P g.1 vwCl (List.flatten [bMo g o a th hi ac tp ba en tA fl de iD iO tU fm fk fa fc ft ff fb fi]) H := hP
            have hD : va_D A (List.flatten [bMo g o a th hi ac tp ba en tA fl de iD iO tU fm fk fa fc ft ff fb fi]) := hD
            exact ih4_7 (x_1 ||| (zBit x_2.toInt.toNat)) x_21 ⟨(Int.le_trans (by decide) hx_21.2.1), hx_21.2.2⟩ (zFo_s i4 hx_21.1 (by omega) (by (try dsimp only); (repeat' split) <;> first | rfl | exact (Int32.add_zero _).symm | exact Int32.or_zero.symm | (exfalso; omega))) (by first | omega | assumption | decide) H _ ls (zmK hx_21.1 (by decide) n10 (by decide) hk4_7)  hP hD hS (lv_sub hl [0, 1, 2] rfl)
        · skip
          refine lv_if_eq (tgt := 40) hx hb dX12_doubtsNow_20 (by decide) (fun _ => ?_) (fun c22 => absurd (by decide) c22)
          refine lv_iconst (v := 0) hx hb dX12_doubtsNow_40 (by decide) ?_
          refine lv_ior hx hb dX12_doubtsNow_41 ?_
          refine lv_istore_n (lv' := [(1, .int (x_1 ||| 0)), (0, .ref o), (2, .int x_2)]) hx hb dX12_doubtsNow_42 rfl hl (by decide) rfl (fun ls hl => ?_)
          refine ziinc3 (n' := 1) (a' := 1) (b' := 8) (lv' := fun v9 => [(2, .int v9), (1, .int (x_1 ||| 0)), (0, .ref o)]) hx hb dX12_doubtsNow_43 hl (k := 2) rfl (by decide) (fun _ => rfl) (zaddK (i := x_2.toInt) (j := 1) rfl (by decide) i3.1 n10 (Int.le_refl _) (Int.le_refl _) (by decide)) (fun x_23 ls hx_23 hl => ?_)
          refine lv_goto (tgt := 4) hx hb dX12_doubtsNow_46 (by decide) ?_
          have hl := lv_sub (l' := [(0, .ref o), (1, .int (x_1 ||| 0)), (2, .int x_23)]) hl [2, 1, 0] rfl
          have hP : va_P g.1 vwCl (List.flatten [bMo g o a th hi ac tp ba en tA fl de iD iO tU fm fk fa fc ft ff fb fi]) H := hP
          have hD : va_D A (List.flatten [bMo g o a th hi ac tp ba en tA fl de iD iO tU fm fk fa fc ft ff fb fi]) := hD
          exact ih4_7 (x_1 ||| 0) x_23 ⟨(Int.le_trans (by decide) hx_23.2.1), hx_23.2.2⟩ (zFo_s i4 hx_23.1 (by omega) (by (try dsimp only); (repeat' split) <;> first | rfl | exact (Int32.add_zero _).symm | exact Int32.or_zero.symm | (exfalso; omega))) (by first | omega | assumption | decide) H _ ls (zmK hx_23.1 (by decide) n10 (by decide) hk4_7)  hP hD hS (lv_sub hl [0, 1, 2] rfl)
  have hL0 : (0 : Int32).toInt = 0 := by decide
  have hP : va_P g.1 vwCl (List.flatten [bMo g o a th hi ac tp ba en tA fl de iD iO tU fm fk fa fc ft ff fb fi]) s.heap := hP
  have hD : va_D A (List.flatten [bMo g o a th hi ac tp ba en tA fl de iD iO tU fm fk fa fc ft ff fb fi]) := hD
  exact LP4_6 _ 0 0 (by decide) (zFo_0 (by decide) (by decide)) (by first | omega | assumption | decide) s.heap _ ls (Nat.lt_succ_self _)  hP hD hS (lv_sub hl [0, 1, 2] rfl)
set_option maxRecDepth 100000 in
set_option maxHeartbeats 4000000 in
theorem m_priceC (l : Launch) (g : zG) (o : Nat) (a : Nat → Nat) (th : Int32) (hi : Int32) (ac : Int32) (tp : Int32) (ba : Int32) (en : Int32) (tA : Int32) (fl : Int32) (de : Int32) (iD : Int32) (iO : Int32) (tU : Int32) (fm : Nat → Int32) (fk : Nat → Int32) (fa : Nat → Int32) (fc : Nat → Int32) (ft : Nat → Int32) (ff : Nat → Int32) (fb : Nat → Int32) (fi : Nat → Int32) (rfm : rM fm) : zM' g l yX12_price (Cond.code yX12_price cX12_price 1 (some .int) :: zB) ({ frames := 5, cells := 0, slots := 0, locals := 106 } : Room) [.ref o] [bMo g o a th hi ac tp ba en tA fl de iD iO tU fm fk fa fc ft ff fb fi] (fun (q : Int32) => some (.int q)) (fun (q : Int32) => (q = zPrc9 (zM9 fm))) (fun (q : Int32) => [bMo g o a 0 hi ac tp ba en tA fl de iD iO tU fm fk fa fc ft ff fb fi]) := by
  refine zM'.of (cc := cX12_price) (maxL := 1) (rt := (some .int)) (by decide) rfl (Nat.le_of_ble_eq_true rfl) ?_
  intro p e s m args below meth c A ls St hr hlocks hin hK hT hA hP hD hS hl
  obtain ⟨hx, hb, hml, hown, hts⟩ := id St
  have hl : lv_has ls 1 [(0, .ref o)] := hl
  have hrm3 := rM3 rfm
  have hrm4 := rM4 rfm
  refine lv_aload_n hx hb dX12_price_0 rfl (lv_at hl 0 rfl) ?_
  refine lv_iconst (v := 0) hx hb dX12_price_1 (by decide) ?_
  refine va_put (D := g.1) (ci := 10) (v := .int 0) (ty := .int) (C := RX12) (T := TX12) (N := 20) hx hb hts izRX12 tyX12 tyX12_ok nmX12 hown hK hP hD hS 0 rfl rfl 0 (by decide) (hts _ k825) (fun _ h9 => h9) rfl (by decide +kernel) rfl rfl (Nat.le_of_ble_eq_true rfl) dX12_price_2 (fun H locs hP hD hS => ?_)
  have hP : va_P g.1 vwCl (List.flatten [bMo g o a 0 hi ac tp ba en tA fl de iD iO tU fm fk fa fc ft ff fb fi]) H := hP
  have hD : va_D A (List.flatten [bMo g o a 0 hi ac tp ba en tA fl de iD iO tU fm fk fa fc ft ff fb fi]) := hD
  refine lv_aload_n hx hb dX12_price_5 rfl (lv_at hl 0 rfl) ?_
  refine mcallV' (g := g) (q0 := 0) (ci := 10) (As := []) (rest := []) St hK hT hA hP hD hS hl.1 [0] [] rfl rfl rfl (m_priceNowG l g o a 0 hi ac tp ba en tA fl de iD iO tU fm fk fa fc ft ff fb fi rfm) (cwV 0 hts (zgL (zl4 k1029 k1030 k1031 k839) k862) rfl rfl rfl (by decide +kernel) ⟨Nat.le_of_ble_eq_true rfl, Nat.le_of_ble_eq_true rfl⟩) rfl rfl rfl rfl (Nat.le_of_ble_eq_true rfl) dX12_price_6 ⟨(Nat.le_of_ble_eq_true rfl), (Nat.le_of_ble_eq_true rfl)⟩ (fun _u H locs hq1 hP hD hS => ?_)
  have hP : va_P g.1 vwCl (List.flatten [bMo g o a 0 hi ac tp ba en tA fl de iD iO tU fm fk fa fc ft ff fb fi]) H := hP
  have hD : va_D A (List.flatten [bMo g o a 0 hi ac tp ba en tA fl de iD iO tU fm fk fa fc ft ff fb fi]) := hD
  refine W.widen (k := 0) (n := 0) (Nat.le_of_ble_eq_true rfl) (Nat.le_of_ble_eq_true rfl) ?_
  refine W.eq (g2 := F0 m 9 ls [.int (zPrice (zV fm) (fm 3).toInt.toNat)]) rfl ?_
  have hP : va_P g.1 vwCl (List.flatten [bMo g o a 0 hi ac tp ba en tA fl de iD iO tU fm fk fa fc ft ff fb fi]) H := hP
  have hD : va_D A (List.flatten [bMo g o a 0 hi ac tp ba en tA fl de iD iO tU fm fk fa fc ft ff fb fi]) := hD
  exact mret_i hx hb hr hlocks hS (Nat.le_of_ble_eq_true rfl) (Nat.le_of_ble_eq_true rfl) dX12_price_9 (zPrice (zV fm) (fm 3).toInt.toNat) rfl (show ((zPrice (zV fm) (fm 3).toInt.toNat) = zPrc9 (zM9 fm)) from rfl) hP hD
set_option maxRecDepth 100000 in
set_option maxHeartbeats 4000000 in
theorem m_doubtsC (l : Launch) (g : zG) (o : Nat) (a : Nat → Nat) (th : Int32) (hi : Int32) (ac : Int32) (tp : Int32) (ba : Int32) (en : Int32) (tA : Int32) (fl : Int32) (de : Int32) (iD : Int32) (iO : Int32) (tU : Int32) (fm : Nat → Int32) (fk : Nat → Int32) (fa : Nat → Int32) (fc : Nat → Int32) (ft : Nat → Int32) (ff : Nat → Int32) (fb : Nat → Int32) (fi : Nat → Int32) (rfm : rM fm) : zM' g l yX12_doubts (Cond.code yX12_doubts cX12_doubts 1 (some .int) :: zB) ({ frames := 3, cells := 0, slots := 0, locals := 65 } : Room) [.ref o] [bMo g o a th hi ac tp ba en tA fl de iD iO tU fm fk fa fc ft ff fb fi] (fun (q : Int32) => some (.int q)) (fun (q : Int32) => (q = zDbt9 (zM9 fm))) (fun (q : Int32) => [bMo g o a 0 hi ac tp ba en tA fl de iD iO tU fm fk fa fc ft ff fb fi]) := by
  refine zM'.of (cc := cX12_doubts) (maxL := 1) (rt := (some .int)) (by decide) rfl (Nat.le_of_ble_eq_true rfl) ?_
  intro p e s m args below meth c A ls St hr hlocks hin hK hT hA hP hD hS hl
  obtain ⟨hx, hb, hml, hown, hts⟩ := id St
  have hl : lv_has ls 1 [(0, .ref o)] := hl
  have hrm3 := rM3 rfm
  have hrm4 := rM4 rfm
  refine lv_aload_n hx hb dX12_doubts_0 rfl (lv_at hl 0 rfl) ?_
  refine lv_iconst (v := 0) hx hb dX12_doubts_1 (by decide) ?_
  refine va_put (D := g.1) (ci := 10) (v := .int 0) (ty := .int) (C := RX12) (T := TX12) (N := 20) hx hb hts izRX12 tyX12 tyX12_ok nmX12 hown hK hP hD hS 0 rfl rfl 0 (by decide) (hts _ k825) (fun _ h9 => h9) rfl (by decide +kernel) rfl rfl (Nat.le_of_ble_eq_true rfl) dX12_doubts_2 (fun H locs hP hD hS => ?_)
  have hP : va_P g.1 vwCl (List.flatten [bMo g o a 0 hi ac tp ba en tA fl de iD iO tU fm fk fa fc ft ff fb fi]) H := hP
  have hD : va_D A (List.flatten [bMo g o a 0 hi ac tp ba en tA fl de iD iO tU fm fk fa fc ft ff fb fi]) := hD
  refine lv_aload_n hx hb dX12_doubts_5 rfl (lv_at hl 0 rfl) ?_
  refine mcallV' (g := g) (q0 := 0) (ci := 10) (As := []) (rest := []) St hK hT hA hP hD hS hl.1 [0] [] rfl rfl rfl (m_doubtsNowG l g o a 0 hi ac tp ba en tA fl de iD iO tU fm fk fa fc ft ff fb fi rfm) (cwV 0 hts (zgL (zl4 k1075 k1076 k1077 k839) k1073) rfl rfl rfl (by decide +kernel) ⟨Nat.le_of_ble_eq_true rfl, Nat.le_of_ble_eq_true rfl⟩) rfl rfl rfl rfl (Nat.le_of_ble_eq_true rfl) dX12_doubts_6 ⟨(Nat.le_of_ble_eq_true rfl), (Nat.le_of_ble_eq_true rfl)⟩ (fun _u H locs hq1 hP hD hS => ?_)
  have hP : va_P g.1 vwCl (List.flatten [bMo g o a 0 hi ac tp ba en tA fl de iD iO tU fm fk fa fc ft ff fb fi]) H := hP
  have hD : va_D A (List.flatten [bMo g o a 0 hi ac tp ba en tA fl de iD iO tU fm fk fa fc ft ff fb fi]) := hD
  refine W.widen (k := 0) (n := 0) (Nat.le_of_ble_eq_true rfl) (Nat.le_of_ble_eq_true rfl) ?_
  refine W.eq (g2 := F0 m 9 ls [.int (zDb (zV fm) (fm 3).toInt.toNat)]) rfl ?_
  have hP : va_P g.1 vwCl (List.flatten [bMo g o a 0 hi ac tp ba en tA fl de iD iO tU fm fk fa fc ft ff fb fi]) H := hP
  have hD : va_D A (List.flatten [bMo g o a 0 hi ac tp ba en tA fl de iD iO tU fm fk fa fc ft ff fb fi]) := hD
  exact mret_i hx hb hr hlocks hS (Nat.le_of_ble_eq_true rfl) (Nat.le_of_ble_eq_true rfl) dX12_doubts_9 (zDb (zV fm) (fm 3).toInt.toNat) rfl (show ((zDb (zV fm) (fm 3).toInt.toNat) = zDbt9 (zM9 fm)) from rfl) hP hD
set_option maxRecDepth 100000 in
set_option maxHeartbeats 4000000 in
theorem m_richestC (l : Launch) (g : zG) (o : Nat) (a : Nat → Nat) (th : Int32) (hi : Int32) (ac : Int32) (tp : Int32) (ba : Int32) (en : Int32) (tA : Int32) (fl : Int32) (de : Int32) (iD : Int32) (iO : Int32) (tU : Int32) (fm : Nat → Int32) (fk : Nat → Int32) (fa : Nat → Int32) (fc : Nat → Int32) (ft : Nat → Int32) (ff : Nat → Int32) (fb : Nat → Int32) (fi : Nat → Int32) (rfm : rM fm) : zM' g l yX12_richest (Cond.code yX12_richest cX12_richest 3 (some .int) :: zB) ({ frames := 6, cells := 0, slots := 0, locals := 127 } : Room) [.ref o] [bMo g o a th hi ac tp ba en tA fl de iD iO tU fm fk fa fc ft ff fb fi] (fun (q : Int32) => some (.int q)) (fun (q : Int32) => (q = zRch9 (zM9 fm))) (fun (q : Int32) => [bMo g o a 0 hi ac tp ba en tA fl de iD iO tU fm fk fa fc ft ff fb fi]) := by
  refine zM'.of (cc := cX12_richest) (maxL := 3) (rt := (some .int)) (by decide) rfl (Nat.le_of_ble_eq_true rfl) ?_
  intro p e s m args below meth c A ls St hr hlocks hin hK hT hA hP hD hS hl
  obtain ⟨hx, hb, hml, hown, hts⟩ := id St
  have hl : lv_has ls 3 [(0, .ref o)] := hl
  have hrm3 := rM3 rfm
  have hrm4 := rM4 rfm
  refine lv_aload_n hx hb dX12_richest_0 rfl (lv_at hl 0 rfl) ?_
  refine lv_iconst (v := 0) hx hb dX12_richest_1 (by decide) ?_
  refine va_put (D := g.1) (ci := 10) (v := .int 0) (ty := .int) (C := RX12) (T := TX12) (N := 20) hx hb hts izRX12 tyX12 tyX12_ok nmX12 hown hK hP hD hS 0 rfl rfl 0 (by decide) (hts _ k825) (fun _ h9 => h9) rfl (by decide +kernel) rfl rfl (Nat.le_of_ble_eq_true rfl) dX12_richest_2 (fun H locs hP hD hS => ?_)
  have hP : va_P g.1 vwCl (List.flatten [bMo g o a 0 hi ac tp ba en tA fl de iD iO tU fm fk fa fc ft ff fb fi]) H := hP
  have hD : va_D A (List.flatten [bMo g o a 0 hi ac tp ba en tA fl de iD iO tU fm fk fa fc ft ff fb fi]) := hD
  refine lv_iconst (v := (-1)) hx hb dX12_richest_5 (by decide) ?_
  refine lv_istore_n (lv' := [(1, .int (-1)), (0, .ref o)]) hx hb dX12_richest_6 rfl hl (by decide) rfl (fun ls hl => ?_)
  refine lv_iconst (v := 0) hx hb dX12_richest_7 (by decide) ?_
  refine lv_istore_n (lv' := [(2, .int 0), (1, .int (-1)), (0, .ref o)]) hx hb dX12_richest_8 rfl hl (by decide) rfl (fun ls hl => ?_)
  have hl := lv_sub (l' := [(0, .ref o), (1, .int (-1)), (2, .int 0)]) hl [2, 1, 0] rfl
  have LP9_7 : ∀ (kf : Nat) (x_1 : Int32) (x_2 : Int32), ((-1) ≤ x_1.toInt ∧ x_1.toInt ≤ 7) → (0 ≤ x_2.toInt ∧ x_2.toInt ≤ 8) → (x_1 = zBst (fun _ => true) (zWth (zV fm) (fm 3).toInt.toNat) x_2.toInt.toNat) → (x_2.toInt ≤ (fm 3).toInt) → ∀ (H : Heap) (locs : List Loc) (ls : Array Slot), ((9 - x_2.toInt).toNat) < kf → va_P g.1 vwCl (List.flatten [bMo g o a 0 hi ac tp ba en tA fl de iD iO tU fm fk fa fc ft ff fb fi]) H → va_D A (List.flatten [bMo g o a 0 hi ac tp ba en tA fl de iD iO tU fm fk fa fc ft ff fb fi]) → va_S A s.heap H locs → lv_has ls 3 [(0, .ref o), (1, .int x_1), (2, .int x_2)] → W p l e ({ frames := 6, cells := 0, slots := 0, locals := 127 } : Room) s m args below meth c H locs (0) (0) (zF g (fun (q : Int32) => some (.int q)) (fun (q : Int32) => (q = zRch9 (zM9 fm))) (fun (q : Int32) => [bMo g o a 0 hi ac tp ba en tA fl de iD iO tU fm fk fa fc ft ff fb fi]) ({ frames := 6, cells := 0, slots := 0, locals := 127 } : Room) below args s A) (F0 m 9 ls []) := by
    intro kf
    induction kf with
    | zero => intro x_1 x_2 i3 i4 i5 i6 H locs ls hk; exact absurd hk (Nat.not_lt_zero _)
    | succ kf ih9_8 =>
      intro x_1 x_2 i3 i4 i5 i6 H locs ls hk9_8 hP hD hS hl
      refine lv_iload_n hx hb dX12_richest_9 rfl (lv_at hl 2 rfl) ?_
      refine lv_aload_n hx hb dX12_richest_10 rfl (lv_at hl 0 rfl) ?_
      refine va_get (D := g.1) (ci := 10) (v := .ref (a 0)) (C := RX12) (T := TX12) (N := 20) hx hb hts izRX12 hown hK hP 0 rfl rfl 1 (by decide) (hts _ k815) (fun _ h9 => h9) rfl dX12_richest_11 ?_
      refine lv_iconst (v := 3) hx hb dX12_richest_14 (by decide) ?_
      refine va_iald hx hb hK hP 1 0 rfl rfl (zin rfl) dX12_richest_15 ?_
      refine ztop (r := (fm 3)) rfl ?_
      refine lv_icmp_ge (tgt := 45) hx hb dX12_richest_16 (by decide) (fun cb9 => ?_) (fun cb9 => ?_)
      · skip
        have c9 : (fm 3).toInt ≤ x_2.toInt := zle cb9 rfl rfl
        refine lv_iload_n hx hb dX12_richest_45 rfl (lv_at hl 1 rfl) ?_
        have hP : va_P g.1 vwCl (List.flatten [bMo g o a 0 hi ac tp ba en tA fl de iD iO tU fm fk fa fc ft ff fb fi]) H := hP
        have hD : va_D A (List.flatten [bMo g o a 0 hi ac tp ba en tA fl de iD iO tU fm fk fa fc ft ff fb fi]) := hD
        exact mret_i hx hb hr hlocks hS (Nat.le_of_ble_eq_true rfl) (Nat.le_of_ble_eq_true rfl) dX12_richest_46 (x_1) rfl (show (x_1 = zRch9 (zM9 fm)) from (zBst_x i5 (by omega))) hP hD
      · skip
        have c10 : x_2.toInt < (fm 3).toInt := zlti (Int32.not_le.mp cb9) rfl rfl
        have n11 : x_2.toInt ≤ 7 := zL1 (b := 8) c10 (rM3 rfm).2 (by decide)
        have n12 : 1 ≤ (fm 3).toInt := zL2 (a := 0) c10 i4.1 (by decide)
        refine lv_iload_n hx hb dX12_richest_19 rfl (lv_at hl 1 rfl) ?_
        refine lv_iconst (v := (-1)) hx hb dX12_richest_20 (by decide) ?_
        refine lv_icmp_eq (tgt := 37) hx hb dX12_richest_21 (by decide) (fun cb9 => ?_) (fun cb9 => ?_)
        · skip
          have c13 : x_1.toInt = (-1) := zeq cb9 rfl (by decide)
          have n14 : x_1.toInt ≤ (-1) := Int.le_trans (Int.le_of_eq c13) (Int.le_refl _)
          refine lv_iload_n hx hb dX12_richest_37 rfl (lv_at hl 2 rfl) ?_
          refine lv_istore_n (lv' := [(1, .int x_2), (0, .ref o), (2, .int x_2)]) hx hb dX12_richest_38 rfl hl (by decide) rfl (fun ls hl => ?_)
          refine ziinc3 (n' := 1) (a' := 1) (b' := 8) (lv' := fun v9 => [(2, .int v9), (1, .int x_2), (0, .ref o)]) hx hb dX12_richest_39 hl (k := 2) rfl (by decide) (fun _ => rfl) (zaddK (i := x_2.toInt) (j := 1) rfl (by decide) i4.1 n11 (Int.le_refl _) (Int.le_refl _) (by decide)) (fun x_15 ls hx_15 hl => ?_)
          refine lv_goto (tgt := 9) hx hb dX12_richest_42 (by decide) ?_
          have hl := lv_sub (l' := [(0, .ref o), (1, .int x_2), (2, .int x_15)]) hl [2, 1, 0] rfl
          have hP : va_P g.1 vwCl (List.flatten [bMo g o a 0 hi ac tp ba en tA fl de iD iO tU fm fk fa fc ft ff fb fi]) H := hP
          have hD : va_D A (List.flatten [bMo g o a 0 hi ac tp ba en tA fl de iD iO tU fm fk fa fc ft ff fb fi]) := hD
          exact ih9_8 x_2 x_15 ⟨(Int.le_trans (by decide) i4.1), n11⟩ ⟨(Int.le_trans (by decide) hx_15.2.1), hx_15.2.2⟩ (zBst_y i5 hx_15.1 (by omega) rfl (by omega)) (by first | omega | assumption | decide) H _ ls (zmK hx_15.1 (by decide) n11 (by decide) hk9_8)  hP hD hS (lv_sub hl [0, 1, 2] rfl)
        · skip
          have c16 : ¬ x_1.toInt = (-1) := zne cb9 rfl (by decide)
          have n17 : 0 ≤ x_1.toInt := zN1 c16 i3.1 (by decide)
          refine lv_aload_n hx hb dX12_richest_24 rfl (lv_at hl 0 rfl) ?_
          refine lv_iload_n hx hb dX12_richest_25 rfl (lv_at hl 2 rfl) ?_
          refine mcallV' (g := g) (q0 := 0) (ci := 10) (As := [.int x_2]) (rest := []) St hK hT hA hP hD hS hl.1 [0] [] rfl rfl rfl (m_worthG l g o a 0 hi ac tp ba en tA fl de iD iO tU fm fk fa fc ft ff fb fi x_2 rfm (⟨i4.1, n11⟩)) (cwV 1 hts (zgL (zl4 k1036 k1037 k1038 k839) k1032) rfl rfl rfl (by decide +kernel) ⟨Nat.le_of_ble_eq_true rfl, Nat.le_of_ble_eq_true rfl⟩) rfl rfl rfl rfl (Nat.le_of_ble_eq_true rfl) dX12_richest_26 ⟨(Nat.le_of_ble_eq_true rfl), (Nat.le_of_ble_eq_true rfl)⟩ (fun _u H locs hq18 hP hD hS => ?_)
          have hP : va_P g.1 vwCl (List.flatten [bMo g o a 0 hi ac tp ba en tA fl de iD iO tU fm fk fa fc ft ff fb fi]) H := hP
          have hD : va_D A (List.flatten [bMo g o a 0 hi ac tp ba en tA fl de iD iO tU fm fk fa fc ft ff fb fi]) := hD
          refine W.widen (k := 0) (n := 0) (Nat.le_of_ble_eq_true rfl) (Nat.le_of_ble_eq_true rfl) ?_
          refine W.eq (g2 := F0 m 29 ls [.int (zWth (zV fm) (fm 3).toInt.toNat x_2.toInt.toNat)]) rfl ?_
          refine lv_aload_n hx hb dX12_richest_29 rfl (lv_at hl 0 rfl) ?_
          refine lv_iload_n hx hb dX12_richest_30 rfl (lv_at hl 1 rfl) ?_
          refine mcallV' (g := g) (q0 := 0) (ci := 10) (As := [.int x_1]) (rest := [.int (zWth (zV fm) (fm 3).toInt.toNat x_2.toInt.toNat)]) St hK hT hA hP hD hS hl.1 [0] [] rfl rfl rfl (m_worthG l g o a 0 hi ac tp ba en tA fl de iD iO tU fm fk fa fc ft ff fb fi x_1 rfm (⟨n17, i3.2⟩)) (cwV 1 hts (zgL (zl4 k1036 k1037 k1038 k839) k1032) rfl rfl rfl (by decide +kernel) ⟨Nat.le_of_ble_eq_true rfl, Nat.le_of_ble_eq_true rfl⟩) rfl rfl rfl rfl (Nat.le_of_ble_eq_true rfl) dX12_richest_31 ⟨(Nat.le_of_ble_eq_true rfl), (Nat.le_of_ble_eq_true rfl)⟩ (fun _u H locs hq19 hP hD hS => ?_)
          have hP : va_P g.1 vwCl (List.flatten [bMo g o a 0 hi ac tp ba en tA fl de iD iO tU fm fk fa fc ft ff fb fi]) H := hP
          have hD : va_D A (List.flatten [bMo g o a 0 hi ac tp ba en tA fl de iD iO tU fm fk fa fc ft ff fb fi]) := hD
          refine W.widen (k := 0) (n := 0) (Nat.le_of_ble_eq_true rfl) (Nat.le_of_ble_eq_true rfl) ?_
          refine W.eq (g2 := F0 m 34 ls [.int (zWth (zV fm) (fm 3).toInt.toNat x_1.toInt.toNat), .int (zWth (zV fm) (fm 3).toInt.toNat x_2.toInt.toNat)]) rfl ?_
          refine lv_icmp_le (tgt := 39) hx hb dX12_richest_34 (by decide) (fun cb9 => ?_) (fun cb9 => ?_)
          · skip
            have c20 : (zWth (zV fm) (fm 3).toInt.toNat x_2.toInt.toNat).toInt ≤ (zWth (zV fm) (fm 3).toInt.toNat x_1.toInt.toNat).toInt := zle cb9 rfl rfl
            refine ziinc3 (n' := 1) (a' := 1) (b' := 8) (lv' := fun v9 => [(2, .int v9), (0, .ref o), (1, .int x_1)]) hx hb dX12_richest_39 hl (k := 2) rfl (by decide) (fun _ => rfl) (zaddK (i := x_2.toInt) (j := 1) rfl (by decide) i4.1 n11 (Int.le_refl _) (Int.le_refl _) (by decide)) (fun x_21 ls hx_21 hl => ?_)
            refine lv_goto (tgt := 9) hx hb dX12_richest_42 (by decide) ?_
            have hl := lv_sub (l' := [(0, .ref o), (1, .int x_1), (2, .int x_21)]) hl [1, 2, 0] rfl
            have hP : va_P g.1 vwCl (List.flatten [bMo g o a 0 hi ac tp ba en tA fl de iD iO tU fm fk fa fc ft ff fb fi]) H := hP
            have hD : va_D A (List.flatten [bMo g o a 0 hi ac tp ba en tA fl de iD iO tU fm fk fa fc ft ff fb fi]) := hD
            exact ih9_8 x_1 x_21 ⟨(Int.le_trans (by decide) n17), i3.2⟩ ⟨(Int.le_trans (by decide) hx_21.2.1), hx_21.2.2⟩ (zBst_n i5 hx_21.1 (by omega) (fun q9 => by have h9 := q9.2; omega)) (by first | omega | assumption | decide) H _ ls (zmK hx_21.1 (by decide) n11 (by decide) hk9_8)  hP hD hS (lv_sub hl [0, 1, 2] rfl)
          · skip
            have c22 : (zWth (zV fm) (fm 3).toInt.toNat x_1.toInt.toNat).toInt < (zWth (zV fm) (fm 3).toInt.toNat x_2.toInt.toNat).toInt := zlti (Int32.not_le.mp cb9) rfl rfl
            refine lv_iload_n hx hb dX12_richest_37 rfl (lv_at hl 2 rfl) ?_
            refine lv_istore_n (lv' := [(1, .int x_2), (0, .ref o), (2, .int x_2)]) hx hb dX12_richest_38 rfl hl (by decide) rfl (fun ls hl => ?_)
            refine ziinc3 (n' := 1) (a' := 1) (b' := 8) (lv' := fun v9 => [(2, .int v9), (1, .int x_2), (0, .ref o)]) hx hb dX12_richest_39 hl (k := 2) rfl (by decide) (fun _ => rfl) (zaddK (i := x_2.toInt) (j := 1) rfl (by decide) i4.1 n11 (Int.le_refl _) (Int.le_refl _) (by decide)) (fun x_23 ls hx_23 hl => ?_)
            refine lv_goto (tgt := 9) hx hb dX12_richest_42 (by decide) ?_
            have hl := lv_sub (l' := [(0, .ref o), (1, .int x_2), (2, .int x_23)]) hl [2, 1, 0] rfl
            have hP : va_P g.1 vwCl (List.flatten [bMo g o a 0 hi ac tp ba en tA fl de iD iO tU fm fk fa fc ft ff fb fi]) H := hP
            have hD : va_D A (List.flatten [bMo g o a 0 hi ac tp ba en tA fl de iD iO tU fm fk fa fc ft ff fb fi]) := hD
            exact ih9_8 x_2 x_23 ⟨(Int.le_trans (by decide) i4.1), n11⟩ ⟨(Int.le_trans (by decide) hx_23.2.1), hx_23.2.2⟩ (zBst_y i5 hx_23.1 (by omega) rfl (by omega)) (by first | omega | assumption | decide) H _ ls (zmK hx_23.1 (by decide) n11 (by decide) hk9_8)  hP hD hS (lv_sub hl [0, 1, 2] rfl)
  have hLn1 : ((-1) : Int32).toInt = (-1) := by decide
  have hL0 : (0 : Int32).toInt = 0 := by decide
  have hP : va_P g.1 vwCl (List.flatten [bMo g o a 0 hi ac tp ba en tA fl de iD iO tU fm fk fa fc ft ff fb fi]) H := hP
  have hD : va_D A (List.flatten [bMo g o a 0 hi ac tp ba en tA fl de iD iO tU fm fk fa fc ft ff fb fi]) := hD
  exact LP9_7 _ (-1) 0 (by decide) (by decide) (zBst_0 rfl (by decide)) (by first | omega | assumption | decide) H _ ls (Nat.lt_succ_self _)  hP hD hS (lv_sub hl [0, 1, 2] rfl)
set_option maxRecDepth 100000 in
set_option maxHeartbeats 4000000 in
theorem m_firmestC (l : Launch) (g : zG) (o : Nat) (a : Nat → Nat) (th : Int32) (hi : Int32) (ac : Int32) (tp : Int32) (ba : Int32) (en : Int32) (tA : Int32) (fl : Int32) (de : Int32) (iD : Int32) (iO : Int32) (tU : Int32) (fm : Nat → Int32) (fk : Nat → Int32) (fa : Nat → Int32) (fc : Nat → Int32) (ft : Nat → Int32) (ff : Nat → Int32) (fb : Nat → Int32) (fi : Nat → Int32) (rfm : rM fm) : zM' g l yX12_firmest (Cond.code yX12_firmest cX12_firmest 3 (some .int) :: zB) ({ frames := 2, cells := 0, slots := 0, locals := 43 } : Room) [.ref o] [bMo g o a th hi ac tp ba en tA fl de iD iO tU fm fk fa fc ft ff fb fi] (fun (q : Int32) => some (.int q)) (fun (q : Int32) => (q = zFrm9 (zM9 fm))) (fun (q : Int32) => [bMo g o a 0 hi ac tp ba en tA fl de iD iO tU fm fk fa fc ft ff fb fi]) := by
  refine zM'.of (cc := cX12_firmest) (maxL := 3) (rt := (some .int)) (by decide) rfl (Nat.le_of_ble_eq_true rfl) ?_
  intro p e s m args below meth c A ls St hr hlocks hin hK hT hA hP hD hS hl
  obtain ⟨hx, hb, hml, hown, hts⟩ := id St
  have hl : lv_has ls 3 [(0, .ref o)] := hl
  have hrm3 := rM3 rfm
  have hrm4 := rM4 rfm
  refine lv_aload_n hx hb dX12_firmest_0 rfl (lv_at hl 0 rfl) ?_
  refine lv_iconst (v := 0) hx hb dX12_firmest_1 (by decide) ?_
  refine va_put (D := g.1) (ci := 10) (v := .int 0) (ty := .int) (C := RX12) (T := TX12) (N := 20) hx hb hts izRX12 tyX12 tyX12_ok nmX12 hown hK hP hD hS 0 rfl rfl 0 (by decide) (hts _ k825) (fun _ h9 => h9) rfl (by decide +kernel) rfl rfl (Nat.le_of_ble_eq_true rfl) dX12_firmest_2 (fun H locs hP hD hS => ?_)
  have hP : va_P g.1 vwCl (List.flatten [bMo g o a 0 hi ac tp ba en tA fl de iD iO tU fm fk fa fc ft ff fb fi]) H := hP
  have hD : va_D A (List.flatten [bMo g o a 0 hi ac tp ba en tA fl de iD iO tU fm fk fa fc ft ff fb fi]) := hD
  refine lv_iconst (v := (-1)) hx hb dX12_firmest_5 (by decide) ?_
  refine lv_istore_n (lv' := [(1, .int (-1)), (0, .ref o)]) hx hb dX12_firmest_6 rfl hl (by decide) rfl (fun ls hl => ?_)
  refine lv_iconst (v := 0) hx hb dX12_firmest_7 (by decide) ?_
  refine lv_istore_n (lv' := [(2, .int 0), (1, .int (-1)), (0, .ref o)]) hx hb dX12_firmest_8 rfl hl (by decide) rfl (fun ls hl => ?_)
  have hl := lv_sub (l' := [(0, .ref o), (1, .int (-1)), (2, .int 0)]) hl [2, 1, 0] rfl
  have LP9_7 : ∀ (kf : Nat) (x_1 : Int32) (x_2 : Int32), ((-1) ≤ x_1.toInt ∧ x_1.toInt ≤ 7) → (0 ≤ x_2.toInt ∧ x_2.toInt ≤ 8) → (x_1 = zBst (fun x => decide ((zV fm 3 x).toInt = -1)) (zV fm 0) x_2.toInt.toNat) → (x_2.toInt ≤ (fm 3).toInt) → ∀ (H : Heap) (locs : List Loc) (ls : Array Slot), ((9 - x_2.toInt).toNat) < kf → va_P g.1 vwCl (List.flatten [bMo g o a 0 hi ac tp ba en tA fl de iD iO tU fm fk fa fc ft ff fb fi]) H → va_D A (List.flatten [bMo g o a 0 hi ac tp ba en tA fl de iD iO tU fm fk fa fc ft ff fb fi]) → va_S A s.heap H locs → lv_has ls 3 [(0, .ref o), (1, .int x_1), (2, .int x_2)] → W p l e ({ frames := 2, cells := 0, slots := 0, locals := 43 } : Room) s m args below meth c H locs (0) (0) (zF g (fun (q : Int32) => some (.int q)) (fun (q : Int32) => (q = zFrm9 (zM9 fm))) (fun (q : Int32) => [bMo g o a 0 hi ac tp ba en tA fl de iD iO tU fm fk fa fc ft ff fb fi]) ({ frames := 2, cells := 0, slots := 0, locals := 43 } : Room) below args s A) (F0 m 9 ls []) := by
    intro kf
    induction kf with
    | zero => intro x_1 x_2 i3 i4 i5 i6 H locs ls hk; exact absurd hk (Nat.not_lt_zero _)
    | succ kf ih9_8 =>
      intro x_1 x_2 i3 i4 i5 i6 H locs ls hk9_8 hP hD hS hl
      refine lv_iload_n hx hb dX12_firmest_9 rfl (lv_at hl 2 rfl) ?_
      refine lv_aload_n hx hb dX12_firmest_10 rfl (lv_at hl 0 rfl) ?_
      refine va_get (D := g.1) (ci := 10) (v := .ref (a 0)) (C := RX12) (T := TX12) (N := 20) hx hb hts izRX12 hown hK hP 0 rfl rfl 1 (by decide) (hts _ k815) (fun _ h9 => h9) rfl dX12_firmest_11 ?_
      refine lv_iconst (v := 3) hx hb dX12_firmest_14 (by decide) ?_
      refine va_iald hx hb hK hP 1 0 rfl rfl (zin rfl) dX12_firmest_15 ?_
      refine ztop (r := (fm 3)) rfl ?_
      refine lv_icmp_ge (tgt := 55) hx hb dX12_firmest_16 (by decide) (fun cb9 => ?_) (fun cb9 => ?_)
      · skip
        have c9 : (fm 3).toInt ≤ x_2.toInt := zle cb9 rfl rfl
        refine lv_iload_n hx hb dX12_firmest_55 rfl (lv_at hl 1 rfl) ?_
        have hP : va_P g.1 vwCl (List.flatten [bMo g o a 0 hi ac tp ba en tA fl de iD iO tU fm fk fa fc ft ff fb fi]) H := hP
        have hD : va_D A (List.flatten [bMo g o a 0 hi ac tp ba en tA fl de iD iO tU fm fk fa fc ft ff fb fi]) := hD
        exact mret_i hx hb hr hlocks hS (Nat.le_of_ble_eq_true rfl) (Nat.le_of_ble_eq_true rfl) dX12_firmest_56 (x_1) rfl (show (x_1 = zFrm9 (zM9 fm)) from (zBst_x i5 (by omega))) hP hD
      · skip
        have c10 : x_2.toInt < (fm 3).toInt := zlti (Int32.not_le.mp cb9) rfl rfl
        have n11 : x_2.toInt ≤ 7 := zL1 (b := 8) c10 (rM3 rfm).2 (by decide)
        have n12 : 1 ≤ (fm 3).toInt := zL2 (a := 0) c10 i4.1 (by decide)
        refine lv_aload_n hx hb dX12_firmest_19 rfl (lv_at hl 0 rfl) ?_
        refine lv_iload_n hx hb dX12_firmest_20 rfl (lv_at hl 2 rfl) ?_
        refine mcallV' (g := g) (q0 := 0) (ci := 10) (As := [.int x_2]) (rest := []) St hK hT hA hP hD hS hl.1 [0] [] rfl rfl rfl (m_isHereG l g o a 0 hi ac tp ba en tA fl de iD iO tU fm fk fa fc ft ff fb fi x_2 (⟨i4.1, n11⟩)) (cwV 1 hts (zgL (zl4 k846 k847 k848 k839) k841) rfl rfl rfl (by decide +kernel) ⟨Nat.le_of_ble_eq_true rfl, Nat.le_of_ble_eq_true rfl⟩) rfl rfl rfl rfl (Nat.le_of_ble_eq_true rfl) dX12_firmest_21 ⟨(Nat.le_of_ble_eq_true rfl), (Nat.le_of_ble_eq_true rfl)⟩ (fun q_13 H locs hq14 hP hD hS => ?_)
        replace hq14 : (q_13 = 1 ∧ (zV fm 3 x_2.toInt.toNat).toInt = -1 ∨ q_13 = 0 ∧ ¬ (zV fm 3 x_2.toInt.toNat).toInt = -1) := hq14
        have hP : va_P g.1 vwCl (List.flatten [bMo g o a 0 hi ac tp ba en tA fl de iD iO tU fm fk fa fc ft ff fb fi]) H := hP
        have hD : va_D A (List.flatten [bMo g o a 0 hi ac tp ba en tA fl de iD iO tU fm fk fa fc ft ff fb fi]) := hD
        refine W.widen (k := 0) (n := 0) (Nat.le_of_ble_eq_true rfl) (Nat.le_of_ble_eq_true rfl) ?_
        refine W.eq (g2 := F0 m 24 ls [.int q_13]) rfl ?_
        rcases hq14 with ⟨rfl, hq14_k⟩ | ⟨rfl, hq14_k⟩
        · skip
          refine lv_if_eq (tgt := 49) hx hb dX12_firmest_24 (by decide) (fun c15 => absurd c15 (by decide)) (fun _ => ?_)
          refine lv_iload_n hx hb dX12_firmest_27 rfl (lv_at hl 1 rfl) ?_
          refine lv_iconst (v := (-1)) hx hb dX12_firmest_28 (by decide) ?_
          refine lv_icmp_eq (tgt := 47) hx hb dX12_firmest_29 (by decide) (fun cb9 => ?_) (fun cb9 => ?_)
          · skip
            have c16 : x_1.toInt = (-1) := zeq cb9 rfl (by decide)
            have n17 : x_1.toInt ≤ (-1) := Int.le_trans (Int.le_of_eq c16) (Int.le_refl _)
            refine lv_iload_n hx hb dX12_firmest_47 rfl (lv_at hl 2 rfl) ?_
            refine lv_istore_n (lv' := [(1, .int x_2), (0, .ref o), (2, .int x_2)]) hx hb dX12_firmest_48 rfl hl (by decide) rfl (fun ls hl => ?_)
            refine ziinc3 (n' := 1) (a' := 1) (b' := 8) (lv' := fun v9 => [(2, .int v9), (1, .int x_2), (0, .ref o)]) hx hb dX12_firmest_49 hl (k := 2) rfl (by decide) (fun _ => rfl) (zaddK (i := x_2.toInt) (j := 1) rfl (by decide) i4.1 n11 (Int.le_refl _) (Int.le_refl _) (by decide)) (fun x_18 ls hx_18 hl => ?_)
            refine lv_goto (tgt := 9) hx hb dX12_firmest_52 (by decide) ?_
            have hl := lv_sub (l' := [(0, .ref o), (1, .int x_2), (2, .int x_18)]) hl [2, 1, 0] rfl
            have hP : va_P g.1 vwCl (List.flatten [bMo g o a 0 hi ac tp ba en tA fl de iD iO tU fm fk fa fc ft ff fb fi]) H := hP
            have hD : va_D A (List.flatten [bMo g o a 0 hi ac tp ba en tA fl de iD iO tU fm fk fa fc ft ff fb fi]) := hD
            exact ih9_8 x_2 x_18 ⟨(Int.le_trans (by decide) i4.1), n11⟩ ⟨(Int.le_trans (by decide) hx_18.2.1), hx_18.2.2⟩ (zBst_y i5 hx_18.1 (by omega) (decide_eq_true hq14_k) (by omega)) (by first | omega | assumption | decide) H _ ls (zmK hx_18.1 (by decide) n11 (by decide) hk9_8)  hP hD hS (lv_sub hl [0, 1, 2] rfl)
          · skip
            have c19 : ¬ x_1.toInt = (-1) := zne cb9 rfl (by decide)
            have n20 : 0 ≤ x_1.toInt := zN1 c19 i3.1 (by decide)
            refine lv_aload_n hx hb dX12_firmest_32 rfl (lv_at hl 0 rfl) ?_
            refine lv_iload_n hx hb dX12_firmest_33 rfl (lv_at hl 2 rfl) ?_
            refine lv_iconst (v := 0) hx hb dX12_firmest_34 (by decide) ?_
            refine mcallV' (g := g) (q0 := 0) (ci := 10) (As := [.int x_2, .int 0]) (rest := []) St hK hT hA hP hD hS hl.1 [0] [] rfl rfl rfl (m_of0F l g o a 0 hi ac tp ba en tA fl de iD iO tU fm fk fa fc ft ff fb fi x_2 (⟨i4.1, n11⟩)) (cwV 2 hts (zgL (zl4 k842 k843 k844 k839) k831) rfl rfl rfl (by decide +kernel) ⟨Nat.le_of_ble_eq_true rfl, Nat.le_of_ble_eq_true rfl⟩) rfl rfl rfl rfl (Nat.le_of_ble_eq_true rfl) dX12_firmest_35 ⟨(Nat.le_of_ble_eq_true rfl), (Nat.le_of_ble_eq_true rfl)⟩ (fun _u H locs hq21 hP hD hS => ?_)
            have hP : va_P g.1 vwCl (List.flatten [bMo g o a 0 hi ac tp ba en tA fl de iD iO tU fm fk fa fc ft ff fb fi]) H := hP
            have hD : va_D A (List.flatten [bMo g o a 0 hi ac tp ba en tA fl de iD iO tU fm fk fa fc ft ff fb fi]) := hD
            refine W.widen (k := 0) (n := 0) (Nat.le_of_ble_eq_true rfl) (Nat.le_of_ble_eq_true rfl) ?_
            refine W.eq (g2 := F0 m 38 ls [.int (zV fm 0 x_2.toInt.toNat)]) rfl ?_
            refine lv_aload_n hx hb dX12_firmest_38 rfl (lv_at hl 0 rfl) ?_
            refine lv_iload_n hx hb dX12_firmest_39 rfl (lv_at hl 1 rfl) ?_
            refine lv_iconst (v := 0) hx hb dX12_firmest_40 (by decide) ?_
            refine mcallV' (g := g) (q0 := 0) (ci := 10) (As := [.int x_1, .int 0]) (rest := [.int (zV fm 0 x_2.toInt.toNat)]) St hK hT hA hP hD hS hl.1 [0] [] rfl rfl rfl (m_of0F l g o a 0 hi ac tp ba en tA fl de iD iO tU fm fk fa fc ft ff fb fi x_1 (⟨n20, i3.2⟩)) (cwV 2 hts (zgL (zl4 k842 k843 k844 k839) k831) rfl rfl rfl (by decide +kernel) ⟨Nat.le_of_ble_eq_true rfl, Nat.le_of_ble_eq_true rfl⟩) rfl rfl rfl rfl (Nat.le_of_ble_eq_true rfl) dX12_firmest_41 ⟨(Nat.le_of_ble_eq_true rfl), (Nat.le_of_ble_eq_true rfl)⟩ (fun _u H locs hq22 hP hD hS => ?_)
            have hP : va_P g.1 vwCl (List.flatten [bMo g o a 0 hi ac tp ba en tA fl de iD iO tU fm fk fa fc ft ff fb fi]) H := hP
            have hD : va_D A (List.flatten [bMo g o a 0 hi ac tp ba en tA fl de iD iO tU fm fk fa fc ft ff fb fi]) := hD
            refine W.widen (k := 0) (n := 0) (Nat.le_of_ble_eq_true rfl) (Nat.le_of_ble_eq_true rfl) ?_
            refine W.eq (g2 := F0 m 44 ls [.int (zV fm 0 x_1.toInt.toNat), .int (zV fm 0 x_2.toInt.toNat)]) rfl ?_
            refine lv_icmp_le (tgt := 49) hx hb dX12_firmest_44 (by decide) (fun cb9 => ?_) (fun cb9 => ?_)
            · skip
              have c23 : (zV fm 0 x_2.toInt.toNat).toInt ≤ (zV fm 0 x_1.toInt.toNat).toInt := zle cb9 rfl rfl
              refine ziinc3 (n' := 1) (a' := 1) (b' := 8) (lv' := fun v9 => [(2, .int v9), (0, .ref o), (1, .int x_1)]) hx hb dX12_firmest_49 hl (k := 2) rfl (by decide) (fun _ => rfl) (zaddK (i := x_2.toInt) (j := 1) rfl (by decide) i4.1 n11 (Int.le_refl _) (Int.le_refl _) (by decide)) (fun x_24 ls hx_24 hl => ?_)
              refine lv_goto (tgt := 9) hx hb dX12_firmest_52 (by decide) ?_
              have hl := lv_sub (l' := [(0, .ref o), (1, .int x_1), (2, .int x_24)]) hl [1, 2, 0] rfl
              have hP : va_P g.1 vwCl (List.flatten [bMo g o a 0 hi ac tp ba en tA fl de iD iO tU fm fk fa fc ft ff fb fi]) H := hP
              have hD : va_D A (List.flatten [bMo g o a 0 hi ac tp ba en tA fl de iD iO tU fm fk fa fc ft ff fb fi]) := hD
              exact ih9_8 x_1 x_24 ⟨(Int.le_trans (by decide) n20), i3.2⟩ ⟨(Int.le_trans (by decide) hx_24.2.1), hx_24.2.2⟩ (zBst_n i5 hx_24.1 (by omega) (fun q9 => by have h9 := q9.2; omega)) (by first | omega | assumption | decide) H _ ls (zmK hx_24.1 (by decide) n11 (by decide) hk9_8)  hP hD hS (lv_sub hl [0, 1, 2] rfl)
            · skip
              have c25 : (zV fm 0 x_1.toInt.toNat).toInt < (zV fm 0 x_2.toInt.toNat).toInt := zlti (Int32.not_le.mp cb9) rfl rfl
              refine lv_iload_n hx hb dX12_firmest_47 rfl (lv_at hl 2 rfl) ?_
              refine lv_istore_n (lv' := [(1, .int x_2), (0, .ref o), (2, .int x_2)]) hx hb dX12_firmest_48 rfl hl (by decide) rfl (fun ls hl => ?_)
              refine ziinc3 (n' := 1) (a' := 1) (b' := 8) (lv' := fun v9 => [(2, .int v9), (1, .int x_2), (0, .ref o)]) hx hb dX12_firmest_49 hl (k := 2) rfl (by decide) (fun _ => rfl) (zaddK (i := x_2.toInt) (j := 1) rfl (by decide) i4.1 n11 (Int.le_refl _) (Int.le_refl _) (by decide)) (fun x_26 ls hx_26 hl => ?_)
              refine lv_goto (tgt := 9) hx hb dX12_firmest_52 (by decide) ?_
              have hl := lv_sub (l' := [(0, .ref o), (1, .int x_2), (2, .int x_26)]) hl [2, 1, 0] rfl
              have hP : va_P g.1 vwCl (List.flatten [bMo g o a 0 hi ac tp ba en tA fl de iD iO tU fm fk fa fc ft ff fb fi]) H := hP
              have hD : va_D A (List.flatten [bMo g o a 0 hi ac tp ba en tA fl de iD iO tU fm fk fa fc ft ff fb fi]) := hD
              exact ih9_8 x_2 x_26 ⟨(Int.le_trans (by decide) i4.1), n11⟩ ⟨(Int.le_trans (by decide) hx_26.2.1), hx_26.2.2⟩ (zBst_y i5 hx_26.1 (by omega) (decide_eq_true hq14_k) (by omega)) (by first | omega | assumption | decide) H _ ls (zmK hx_26.1 (by decide) n11 (by decide) hk9_8)  hP hD hS (lv_sub hl [0, 1, 2] rfl)
        · skip
          refine lv_if_eq (tgt := 49) hx hb dX12_firmest_24 (by decide) (fun _ => ?_) (fun c27 => absurd (by decide) c27)
          refine ziinc3 (n' := 1) (a' := 1) (b' := 8) (lv' := fun v9 => [(2, .int v9), (0, .ref o), (1, .int x_1)]) hx hb dX12_firmest_49 hl (k := 2) rfl (by decide) (fun _ => rfl) (zaddK (i := x_2.toInt) (j := 1) rfl (by decide) i4.1 n11 (Int.le_refl _) (Int.le_refl _) (by decide)) (fun x_28 ls hx_28 hl => ?_)
          refine lv_goto (tgt := 9) hx hb dX12_firmest_52 (by decide) ?_
          have hl := lv_sub (l' := [(0, .ref o), (1, .int x_1), (2, .int x_28)]) hl [1, 2, 0] rfl
          have hP : va_P g.1 vwCl (List.flatten [bMo g o a 0 hi ac tp ba en tA fl de iD iO tU fm fk fa fc ft ff fb fi]) H := hP
          have hD : va_D A (List.flatten [bMo g o a 0 hi ac tp ba en tA fl de iD iO tU fm fk fa fc ft ff fb fi]) := hD
          exact ih9_8 x_1 x_28 ⟨i3.1, i3.2⟩ ⟨(Int.le_trans (by decide) hx_28.2.1), hx_28.2.2⟩ (zBst_n i5 hx_28.1 (by omega) (fun q9 => absurd (of_decide_eq_true q9.1) hq14_k)) (by first | omega | assumption | decide) H _ ls (zmK hx_28.1 (by decide) n11 (by decide) hk9_8)  hP hD hS (lv_sub hl [0, 1, 2] rfl)
  have hLn1 : ((-1) : Int32).toInt = (-1) := by decide
  have hL0 : (0 : Int32).toInt = 0 := by decide
  have hP : va_P g.1 vwCl (List.flatten [bMo g o a 0 hi ac tp ba en tA fl de iD iO tU fm fk fa fc ft ff fb fi]) H := hP
  have hD : va_D A (List.flatten [bMo g o a 0 hi ac tp ba en tA fl de iD iO tU fm fk fa fc ft ff fb fi]) := hD
  exact LP9_7 _ (-1) 0 (by decide) (by decide) (zBst_0 rfl (by decide)) (by first | omega | assumption | decide) H _ ls (Nat.lt_succ_self _)  hP hD hS (lv_sub hl [0, 1, 2] rfl)
set_option maxRecDepth 100000 in
set_option maxHeartbeats 4000000 in
theorem c_x_trustC (l : Launch) (hfl : l.stackTraces = false) (g : zG) (x : Nat) (ta : Nat) (o : Nat) (lo : Nat) (go : Nat) (tt : Nat) (lt : Nat) (mo : Nat) (fo : Nat) (ro : Nat) (fl9 : Int32) (a : Nat → Nat) (pe : Int32) (wo : Int32) (tx : Int32) (ch : Int32) (jo : Int32) (tr : Int32) (dy : Int32) (sd : Int32) (f : Nat → Nat → Int32) (pp : Int32) (oo : Int32) (b_pe : 0 ≤ pe.toInt ∧ pe.toInt ≤ 8) (b_wo : 0 ≤ wo.toInt ∧ wo.toInt ≤ 6) (rf : zZ4 f) : zX' g l yX11_trust (Cond.code yX11_trust cX11_trust 3 (some .int) :: zB) ({ frames := 8, cells := 3, slots := 18, locals := 125 } : Room) [.ref x, .int pp, .int oo] [bDR g x ta o lo go tt lt mo fo ro fl9, bTown g o a pe wo tx ch jo tr dy sd f] (fun (q : Int32) => some (.int q)) (fun (q : Int32) => ((0, q) = zoTrust pp oo (pe, wo, tx, ch, jo, tr, dy, sd, f))) (fun (q : Int32) => [bDR g x ta o lo go tt lt mo fo ro fl9, bTown g o a pe wo tx ch jo tr dy sd f]) (fun (E : String) (_ : Unit) => (E = "java/lang/IndexOutOfBoundsException" ∨ E = "java/lang/IllegalArgumentException") ∧ (E = "java/lang/IndexOutOfBoundsException" → (1, 0) = zoTrust pp oo (pe, wo, tx, ch, jo, tr, dy, sd, f)) ∧ (E = "java/lang/IllegalArgumentException" → (2, 0) = zoTrust pp oo (pe, wo, tx, ch, jo, tr, dy, sd, f))) (fun _ : Unit => [bDR g x ta o lo go tt lt mo fo ro fl9, bTown g o a pe wo tx ch jo tr dy sd f]) := by
  refine zX'.of (cc := cX11_trust) (maxL := 3) (rt := (some .int)) (by decide) rfl (Nat.le_of_ble_eq_true rfl) ?_
  intro p e s m args below meth c A ls St hr hlocks htab hin hK hT hA hP hD hS hl
  obtain ⟨hx, hb, hml, hown, hts⟩ := id St
  have hl : lv_has ls 3 [(0, .ref x), (1, .int pp), (2, .int oo)] := hl
  refine lv_aload_n hx hb dX11_trust_0 rfl (lv_at hl 0 rfl) ?_
  refine lv_iload_n hx hb dX11_trust_1 rfl (lv_at hl 1 rfl) ?_
  refine lv_iload_n hx hb dX11_trust_2 rfl (lv_at hl 2 rfl) ?_
  refine xcallV' (g := g) (q0 := 0) (ci := 9) (As := [.int pp, .int oo]) (rest := []) St hK hT hA hP hD hS hl.1 [0, 1] [] rfl rfl rfl (c_x_needTwoE l hfl g x ta o lo go tt lt mo fo ro fl9 a pe wo tx ch jo tr dy sd f pp oo b_pe b_wo rf) (cwV 2 hts (zgL (zl4 k635 k636 k637 k621) k633) rfl rfl rfl (by decide +kernel) ⟨Nat.le_of_ble_eq_true rfl, Nat.le_of_ble_eq_true rfl⟩) rfl rfl rfl rfl (Nat.le_of_ble_eq_true rfl) dX11_trust_3 ⟨(Nat.le_of_ble_eq_true rfl), (Nat.le_of_ble_eq_true rfl)⟩ (fun E ce q9 u9 H locs hpx hP hD hS hce hcv hcl => ?_) (fun _u H locs hq1 hP hD hS => ?_)
  · skip
    have hpx : (E = "java/lang/IndexOutOfBoundsException" ∨ E = "java/lang/IllegalArgumentException") ∧ (E = "java/lang/IndexOutOfBoundsException" → ¬ ((0 ≤ pp.toInt ∧ pp.toInt < pe.toInt) ∧ (0 ≤ oo.toInt ∧ oo.toInt < pe.toInt))) ∧ (E = "java/lang/IllegalArgumentException" → ((0 ≤ pp.toInt ∧ pp.toInt < pe.toInt) ∧ (0 ≤ oo.toInt ∧ oo.toInt < pe.toInt)) ∧ pp.toInt = oo.toInt) := hpx
    have hP : va_P g.1 vwCl (List.flatten [bDR g x ta o lo go tt lt mo fo ro fl9, bTown g o a pe wo tx ch jo tr dy sd f]) H := hP
    have hD : va_D A (List.flatten [bDR g x ta o lo go tt lt mo fo ro fl9, bTown g o a pe wo tx ch jo tr dy sd f]) := hD
    obtain ⟨hE9, hy2, hy3⟩ := hpx
    exact zout htab hlocks hS (Nat.le_of_ble_eq_true rfl) (Nat.le_of_ble_eq_true rfl) hce hcv hcl () (show (E = "java/lang/IndexOutOfBoundsException" ∨ E = "java/lang/IllegalArgumentException") ∧ (E = "java/lang/IndexOutOfBoundsException" → (1, 0) = zoTrust pp oo (pe, wo, tx, ch, jo, tr, dy, sd, f)) ∧ (E = "java/lang/IllegalArgumentException" → (2, 0) = zoTrust pp oo (pe, wo, tx, ch, jo, tr, dy, sd, f)) from ⟨hE9, (show E = "java/lang/IndexOutOfBoundsException" → (1, 0) = zoTrust pp oo (pe, wo, tx, ch, jo, tr, dy, sd, f) from (fun h9 => zoTrust_c1 (hy2 h9))), (show E = "java/lang/IllegalArgumentException" → (2, 0) = zoTrust pp oo (pe, wo, tx, ch, jo, tr, dy, sd, f) from (fun h9 => zoTrust_c2 (hy3 h9).1 (hy3 h9).2))⟩) hP hD
  · skip
    replace hq1 : (0 ≤ pp.toInt ∧ pp.toInt ≤ 7) ∧ (0 ≤ oo.toInt ∧ oo.toInt ≤ 7) ∧ (pp.toInt < pe.toInt ∧ oo.toInt < pe.toInt) ∧ (¬ pp.toInt = oo.toInt) := hq1
    have hP : va_P g.1 vwCl (List.flatten [bDR g x ta o lo go tt lt mo fo ro fl9, bTown g o a pe wo tx ch jo tr dy sd f]) H := hP
    have hD : va_D A (List.flatten [bDR g x ta o lo go tt lt mo fo ro fl9, bTown g o a pe wo tx ch jo tr dy sd f]) := hD
    refine W.widen (k := 3) (n := 18) (Nat.le_of_ble_eq_true rfl) (Nat.le_of_ble_eq_true rfl) ?_
    refine W.eq (g2 := F0 m 6 ls []) rfl ?_
    obtain ⟨hq1_0, hq1_1, hq1_2, hq1_3⟩ := hq1
    refine lv_aload_n hx hb dX11_trust_6 rfl (lv_at hl 0 rfl) ?_
    refine va_get (D := g.1) (ci := 9) (v := .ref o) (C := RX11) (T := TX11) (N := 10) hx hb hts izRX11 hown hK hP 0 rfl rfl 1 (by decide) (hts _ k538) (fun _ h9 => h9) rfl dX11_trust_7 ?_
    refine lv_iload_n hx hb dX11_trust_10 rfl (lv_at hl 1 rfl) ?_
    refine lv_iload_n hx hb dX11_trust_11 rfl (lv_at hl 2 rfl) ?_
    refine mcallV' (g := g) (q0 := 0) (ci := 7) (As := [.int pp, .int oo]) (rest := []) St hK hT hA hP hD hS hl.1 [1] [0] rfl rfl rfl (c_trustOfF l g o a pe wo tx ch jo tr dy sd f pp oo hq1_0 hq1_1) (cwV 2 hts (zgL (zl4 k638 k90 k91 k24) k87) rfl rfl rfl (by decide +kernel) ⟨Nat.le_of_ble_eq_true rfl, Nat.le_of_ble_eq_true rfl⟩) rfl rfl rfl rfl (Nat.le_of_ble_eq_true rfl) dX11_trust_12 ⟨(Nat.le_of_ble_eq_true rfl), (Nat.le_of_ble_eq_true rfl)⟩ (fun _u H locs hq4 hP hD hS => ?_)
    have hP : va_P g.1 vwCl (List.flatten [bDR g x ta o lo go tt lt mo fo ro fl9, bTown g o a pe wo tx ch jo tr dy sd f]) H := hP
    have hD : va_D A (List.flatten [bDR g x ta o lo go tt lt mo fo ro fl9, bTown g o a pe wo tx ch jo tr dy sd f]) := hD
    refine W.widen (k := 3) (n := 18) (Nat.le_of_ble_eq_true rfl) (Nat.le_of_ble_eq_true rfl) ?_
    refine W.eq (g2 := F0 m 15 ls [.int (f 5 (8 * pp.toInt.toNat + oo.toInt.toNat))]) rfl ?_
    have hP : va_P g.1 vwCl (List.flatten [bDR g x ta o lo go tt lt mo fo ro fl9, bTown g o a pe wo tx ch jo tr dy sd f]) H := hP
    have hD : va_D A (List.flatten [bDR g x ta o lo go tt lt mo fo ro fl9, bTown g o a pe wo tx ch jo tr dy sd f]) := hD
    exact zret_i hx hb hr hlocks hS (Nat.le_of_ble_eq_true rfl) (Nat.le_of_ble_eq_true rfl) dX11_trust_15 (f 5 (8 * pp.toInt.toNat + oo.toInt.toNat)) rfl (show ((0, (f 5 (8 * pp.toInt.toNat + oo.toInt.toNat))) = zoTrust pp oo (pe, wo, tx, ch, jo, tr, dy, sd, f)) from (zoTrust_c0 (by omega) (by omega))) hP hD
set_option maxRecDepth 100000 in
set_option maxHeartbeats 4000000 in
theorem l_trustC (l : Launch) (hfl : l.stackTraces = false) (g : zG) (x : Nat) (ta : Nat) (o : Nat) (lo : Nat) (go : Nat) (tt : Nat) (lt : Nat) (mo : Nat) (fo : Nat) (ro : Nat) (fl9 : Int32) (a : Nat → Nat) (pe : Int32) (wo : Int32) (tx : Int32) (ch : Int32) (jo : Int32) (tr : Int32) (dy : Int32) (sd : Int32) (f : Nat → Nat → Int32) (oa : Nat) (fz : Nat → Int64) (pp : Int32) (oo : Int32) (b_pe : 0 ≤ pe.toInt ∧ pe.toInt ≤ 8) (b_wo : 0 ≤ wo.toInt ∧ wo.toInt ≤ 6) (rf : zZ4 f) : zX' g l yL_trust (Cond.codeWith yL_trust cL_trust 5 (some .int) [(0, 10, 13, 24), (0, 10, 17, 13)] :: zB) ({ frames := 9, cells := 3, slots := 18, locals := 147 } : Room) [.ref x, .int pp, .int oo, .ref oa] [bDR g x ta o lo go tt lt mo fo ro fl9, bTown g o a pe wo tx ch jo tr dy sd f, bOut g oa fz] (fun u : (Nat → Int64) × Int32 × Int32 => (fun (fz2 : Nat → Int64) (q : Int32) (a9 : Int32) => some (.int q)) (u.1) (u.2.1) (u.2.2)) (fun u : (Nat → Int64) × Int32 × Int32 => (fun (fz2 : Nat → Int64) (q : Int32) (a9 : Int32) => ((q, a9) = zoTrust pp oo (pe, wo, tx, ch, jo, tr, dy, sd, f)) ∧ (q.toInt = 0 → fz2 0 = Int32.toInt64 a9)) (u.1) (u.2.1) (u.2.2)) (fun u : (Nat → Int64) × Int32 × Int32 => (fun (fz2 : Nat → Int64) (q : Int32) (a9 : Int32) => [bDR g x ta o lo go tt lt mo fo ro fl9, bTown g o a pe wo tx ch jo tr dy sd f, bOut g oa fz2]) (u.1) (u.2.1) (u.2.2)) zNo zN0 := by
  refine zX'.ofH (cc := cL_trust) (maxL := 5) (rt := (some .int)) (by decide) rfl (Nat.le_of_ble_eq_true rfl) ?_
  intro p e s m args below meth c A ls St hr hlocks htab hin hK hT hA hP hD hS hl
  obtain ⟨hx, hb, hml, hown, hts⟩ := id St
  have hl : lv_has ls 5 [(0, .ref x), (1, .int pp), (2, .int oo), (3, .ref oa)] := hl
  refine lv_aload_n hx hb dL_trust_0 rfl (lv_at hl 3 rfl) ?_
  refine lv_iconst (v := 0) hx hb dL_trust_1 (by decide) ?_
  refine lv_aload_n hx hb dL_trust_2 rfl (lv_at hl 0 rfl) ?_
  refine lv_iload_n hx hb dL_trust_3 rfl (lv_at hl 1 rfl) ?_
  refine lv_iload_n hx hb dL_trust_4 rfl (lv_at hl 2 rfl) ?_
  refine xcallV' (g := g) (q0 := 0) (ci := 9) (As := [.int pp, .int oo]) (rest := [.int 0, .ref oa]) St hK hT hA hP hD hS hl.1 [0, 1] [2] rfl rfl rfl (c_x_trustC l hfl g x ta o lo go tt lt mo fo ro fl9 a pe wo tx ch jo tr dy sd f pp oo b_pe b_wo rf) (cwV 2 hts (zgL (zl4 k1171 k1172 k1173 k621) k634) rfl rfl rfl (by decide +kernel) ⟨Nat.le_of_ble_eq_true rfl, Nat.le_of_ble_eq_true rfl⟩) rfl rfl rfl rfl (Nat.le_of_ble_eq_true rfl) dL_trust_5 ⟨(Nat.le_of_ble_eq_true rfl), (Nat.le_of_ble_eq_true rfl)⟩ (fun E ce q9 u9 H locs hpx hP hD hS hce hcv hcl => ?_) (fun q_1 H locs hq2 hP hD hS => ?_)
  · skip
    have hpx : (E = "java/lang/IndexOutOfBoundsException" ∨ E = "java/lang/IllegalArgumentException") ∧ (E = "java/lang/IndexOutOfBoundsException" → (1, 0) = zoTrust pp oo (pe, wo, tx, ch, jo, tr, dy, sd, f)) ∧ (E = "java/lang/IllegalArgumentException" → (2, 0) = zoTrust pp oo (pe, wo, tx, ch, jo, tr, dy, sd, f)) := hpx
    have hP : va_P g.1 vwCl (List.flatten [bOut g oa fz, bDR g x ta o lo go tt lt mo fo ro fl9, bTown g o a pe wo tx ch jo tr dy sd f]) H := hP
    have hD : va_D A (List.flatten [bOut g oa fz, bDR g x ta o lo go tt lt mo fo ro fl9, bTown g o a pe wo tx ch jo tr dy sd f]) := hD
    obtain ⟨hE9, hy3, hy4⟩ := hpx
    rcases hE9 with rfl | rfl
    · skip
      refine vx_catch hown [] ⟨0, 10, 13, 24⟩ [⟨0, 10, 17, 13⟩] (by rw [htab]; rfl) (fun z hz => absurd hz List.not_mem_nil) (by decide) (by decide) (hts _ k1165) ((hT.1.2.2.2.2.1 _ (List.mem_of_getElem? (i := 0) rfl)).use) hce hcv hcl ?_
      refine W.widen (k := 3) (n := 18) (Nat.le_of_ble_eq_true rfl) (Nat.le_of_ble_eq_true rfl) ?_
      refine lv_astore (lv' := [(4, .ref q9), (0, .ref x), (1, .int pp), (2, .int oo), (3, .ref oa)]) hx hb dL_trust_13 hl (by decide) rfl (fun ls hl => ?_)
      refine lv_iconst (v := 1) hx hb dL_trust_15 (by decide) ?_
      have hL1 : (1 : Int32).toInt = 1 := by decide
      have hP : va_P g.1 vwCl (List.flatten [bOut g oa fz, bDR g x ta o lo go tt lt mo fo ro fl9, bTown g o a pe wo tx ch jo tr dy sd f]) H := hP
      have hD : va_D A (List.flatten [bOut g oa fz, bDR g x ta o lo go tt lt mo fo ro fl9, bTown g o a pe wo tx ch jo tr dy sd f]) := hD
      obtain ⟨hP, hD⟩ := zord (g := g) (Bs' := [bDR g x ta o lo go tt lt mo fo ro fl9, bTown g o a pe wo tx ch jo tr dy sd f, bOut g oa fz]) [1, 2, 0] rfl rfl hP hD
      exact zret_i hx hb hr hlocks hS (Nat.le_of_ble_eq_true rfl) (Nat.le_of_ble_eq_true rfl) dL_trust_16 (fz, (1 : Int32), (0 : Int32)) rfl (show ((1, 0) = zoTrust pp oo (pe, wo, tx, ch, jo, tr, dy, sd, f)) ∧ ((1 : Int32).toInt = 0 → fz 0 = Int32.toInt64 0) from ⟨(hy3 rfl), (fun h9 => absurd h9 (by decide))⟩) hP hD
    · skip
      refine vx_catch hown [⟨0, 10, 13, 24⟩] ⟨0, 10, 17, 13⟩ [] (by rw [htab]; rfl) (fun z hz => by
            rcases List.mem_cons.mp hz with rfl | hz; · exact Or.inr ⟨by decide, "java/lang/IndexOutOfBoundsException", hts _ k1165, hT.1.2.2.2.2.2.1 _ (List.mem_of_getElem? (i := 4) rfl)⟩
            cases hz) (by decide) (by decide) (hts _ k1155) ((hT.1.2.2.2.2.1 _ (List.mem_of_getElem? (i := 1) rfl)).use) hce hcv hcl ?_
      refine W.widen (k := 3) (n := 18) (Nat.le_of_ble_eq_true rfl) (Nat.le_of_ble_eq_true rfl) ?_
      refine lv_astore (lv' := [(4, .ref q9), (0, .ref x), (1, .int pp), (2, .int oo), (3, .ref oa)]) hx hb dL_trust_17 hl (by decide) rfl (fun ls hl => ?_)
      refine lv_iconst (v := 2) hx hb dL_trust_19 (by decide) ?_
      have hL2 : (2 : Int32).toInt = 2 := by decide
      have hP : va_P g.1 vwCl (List.flatten [bOut g oa fz, bDR g x ta o lo go tt lt mo fo ro fl9, bTown g o a pe wo tx ch jo tr dy sd f]) H := hP
      have hD : va_D A (List.flatten [bOut g oa fz, bDR g x ta o lo go tt lt mo fo ro fl9, bTown g o a pe wo tx ch jo tr dy sd f]) := hD
      obtain ⟨hP, hD⟩ := zord (g := g) (Bs' := [bDR g x ta o lo go tt lt mo fo ro fl9, bTown g o a pe wo tx ch jo tr dy sd f, bOut g oa fz]) [1, 2, 0] rfl rfl hP hD
      exact zret_i hx hb hr hlocks hS (Nat.le_of_ble_eq_true rfl) (Nat.le_of_ble_eq_true rfl) dL_trust_20 (fz, (2 : Int32), (0 : Int32)) rfl (show ((2, 0) = zoTrust pp oo (pe, wo, tx, ch, jo, tr, dy, sd, f)) ∧ ((2 : Int32).toInt = 0 → fz 0 = Int32.toInt64 0) from ⟨(hy4 rfl), (fun h9 => absurd h9 (by decide))⟩) hP hD
  · skip
    replace hq2 : ((0, q_1) = zoTrust pp oo (pe, wo, tx, ch, jo, tr, dy, sd, f)) := hq2
    have hP : va_P g.1 vwCl (List.flatten [bOut g oa fz, bDR g x ta o lo go tt lt mo fo ro fl9, bTown g o a pe wo tx ch jo tr dy sd f]) H := hP
    have hD : va_D A (List.flatten [bOut g oa fz, bDR g x ta o lo go tt lt mo fo ro fl9, bTown g o a pe wo tx ch jo tr dy sd f]) := hD
    refine W.widen (k := 3) (n := 18) (Nat.le_of_ble_eq_true rfl) (Nat.le_of_ble_eq_true rfl) ?_
    refine W.eq (g2 := F0 m 8 ls [.int q_1, .int 0, .ref oa]) rfl ?_
    refine lv_i2l (v := (q_1 : Int32).toInt64) hx hb dL_trust_8 rfl ?_
    refine va_last hx hb hK hP hD hS 0 2 rfl rfl (zin rfl) dL_trust_9 (fun H locs hP hD hS => ?_)
    have hP : va_P g.1 vwCl (List.flatten [[(oa, .inl (g.2 2, 1, .inr (.inl (vp_updL fz 0 ((q_1 : Int32).toInt64)))))], bDR g x ta o lo go tt lt mo fo ro fl9, bTown g o a pe wo tx ch jo tr dy sd f]) H := hP
    have hD : va_D A (List.flatten [[(oa, .inl (g.2 2, 1, .inr (.inl (vp_updL fz 0 ((q_1 : Int32).toInt64)))))], bDR g x ta o lo go tt lt mo fo ro fl9, bTown g o a pe wo tx ch jo tr dy sd f]) := hD
    refine lv_goto (tgt := 21) hx hb dL_trust_10 (by decide) ?_
    refine lv_iconst (v := 0) hx hb dL_trust_21 (by decide) ?_
    have hL0 : (0 : Int32).toInt = 0 := by decide
    have hP : va_P g.1 vwCl (List.flatten [bOut g oa (vp_updL fz 0 ((q_1 : Int32).toInt64)), bDR g x ta o lo go tt lt mo fo ro fl9, bTown g o a pe wo tx ch jo tr dy sd f]) H := hP
    have hD : va_D A (List.flatten [bOut g oa (vp_updL fz 0 ((q_1 : Int32).toInt64)), bDR g x ta o lo go tt lt mo fo ro fl9, bTown g o a pe wo tx ch jo tr dy sd f]) := hD
    obtain ⟨hP, hD⟩ := zord (g := g) (Bs' := [bDR g x ta o lo go tt lt mo fo ro fl9, bTown g o a pe wo tx ch jo tr dy sd f, bOut g oa (vp_updL fz 0 ((q_1 : Int32).toInt64))]) [1, 2, 0] rfl rfl hP hD
    exact zret_i hx hb hr hlocks hS (Nat.le_of_ble_eq_true rfl) (Nat.le_of_ble_eq_true rfl) dL_trust_22 (vp_updL fz 0 ((q_1 : Int32).toInt64), (0 : Int32), q_1) rfl (show ((0, q_1) = zoTrust pp oo (pe, wo, tx, ch, jo, tr, dy, sd, f)) ∧ ((0 : Int32).toInt = 0 → (vp_updL fz 0 ((q_1 : Int32).toInt64)) 0 = Int32.toInt64 q_1) from ⟨hq2, (fun _ => rfl)⟩) hP hD
set_option maxRecDepth 100000 in
set_option maxHeartbeats 4000000 in
theorem m_trustC (l : Launch) (g : zG) (o : Nat) (a : Nat → Nat) (th : Int32) (hi : Int32) (ac : Int32) (tp : Int32) (ba : Int32) (en : Int32) (tA : Int32) (fl : Int32) (de : Int32) (iD : Int32) (iO : Int32) (tU : Int32) (fm : Nat → Int32) (fk : Nat → Int32) (fa : Nat → Int32) (fc : Nat → Int32) (ft : Nat → Int32) (ff : Nat → Int32) (fb : Nat → Int32) (fi : Nat → Int32) (x : Int32) (o2 : Int32) (rfm : rM fm) : zM' g l yX12_trust (Cond.code yX12_trust cX12_trust 3 (some .int) :: zB) ({ frames := 2, cells := 0, slots := 0, locals := 43 } : Room) [.ref o, .int x, .int o2] [bMo g o a th hi ac tp ba en tA fl de iD iO tU fm fk fa fc ft ff fb fi] (fun u : Int32 × Int32 => (fun (th2 : Int32) (q : Int32) => some (.int q)) (u.1) (u.2)) (fun u : Int32 × Int32 => (fun (th2 : Int32) (q : Int32) => ((th2, q) = zoTrust x o2 (zM9 fm))) (u.1) (u.2)) (fun u : Int32 × Int32 => (fun (th2 : Int32) (q : Int32) => [bMo g o a th2 hi ac tp ba en tA fl de iD iO tU fm fk fa fc ft ff fb fi]) (u.1) (u.2)) := by
  refine zM'.of (cc := cX12_trust) (maxL := 3) (rt := (some .int)) (by decide) rfl (Nat.le_of_ble_eq_true rfl) ?_
  intro p e s m args below meth c A ls St hr hlocks hin hK hT hA hP hD hS hl
  obtain ⟨hx, hb, hml, hown, hts⟩ := id St
  have hl : lv_has ls 3 [(0, .ref o), (1, .int x), (2, .int o2)] := hl
  have hrm3 := rM3 rfm
  have hrm4 := rM4 rfm
  refine lv_aload_n hx hb dX12_trust_0 rfl (lv_at hl 0 rfl) ?_
  refine lv_aload_n hx hb dX12_trust_1 rfl (lv_at hl 0 rfl) ?_
  refine lv_iload_n hx hb dX12_trust_2 rfl (lv_at hl 1 rfl) ?_
  refine mcallV' (g := g) (q0 := 0) (ci := 10) (As := [.int x]) (rest := [.ref o]) St hK hT hA hP hD hS hl.1 [0] [] rfl rfl rfl (m_isPersonG l g o a th hi ac tp ba en tA fl de iD iO tU fm fk fa fc ft ff fb fi x rfm) (cwV 1 hts (zgL (zl4 k1033 k1034 k1035 k839) k836) rfl rfl rfl (by decide +kernel) ⟨Nat.le_of_ble_eq_true rfl, Nat.le_of_ble_eq_true rfl⟩) rfl rfl rfl rfl (Nat.le_of_ble_eq_true rfl) dX12_trust_3 ⟨(Nat.le_of_ble_eq_true rfl), (Nat.le_of_ble_eq_true rfl)⟩ (fun q_1 H locs hq2 hP hD hS => ?_)
  replace hq2 : (q_1 = 1 ∧ 0 ≤ x.toInt ∧ x.toInt ≤ 7 ∧ x.toInt < (fm 3).toInt ∨ q_1 = 0 ∧ ¬ (0 ≤ x.toInt ∧ x.toInt < (fm 3).toInt)) := hq2
  have hP : va_P g.1 vwCl (List.flatten [bMo g o a th hi ac tp ba en tA fl de iD iO tU fm fk fa fc ft ff fb fi]) H := hP
  have hD : va_D A (List.flatten [bMo g o a th hi ac tp ba en tA fl de iD iO tU fm fk fa fc ft ff fb fi]) := hD
  refine W.widen (k := 0) (n := 0) (Nat.le_of_ble_eq_true rfl) (Nat.le_of_ble_eq_true rfl) ?_
  refine W.eq (g2 := F0 m 6 ls [.int q_1, .ref o]) rfl ?_
  rcases hq2 with ⟨rfl, hq2_k⟩ | ⟨rfl, hq2_k⟩
  · skip
    refine lv_if_eq (tgt := 17) hx hb dX12_trust_6 (by decide) (fun c3 => absurd c3 (by decide)) (fun _ => ?_)
    refine lv_aload_n hx hb dX12_trust_9 rfl (lv_at hl 0 rfl) ?_
    refine lv_iload_n hx hb dX12_trust_10 rfl (lv_at hl 2 rfl) ?_
    refine mcallV' (g := g) (q0 := 0) (ci := 10) (As := [.int o2]) (rest := [.ref o]) St hK hT hA hP hD hS hl.1 [0] [] rfl rfl rfl (m_isPersonG l g o a th hi ac tp ba en tA fl de iD iO tU fm fk fa fc ft ff fb fi o2 rfm) (cwV 1 hts (zgL (zl4 k1033 k1034 k1035 k839) k836) rfl rfl rfl (by decide +kernel) ⟨Nat.le_of_ble_eq_true rfl, Nat.le_of_ble_eq_true rfl⟩) rfl rfl rfl rfl (Nat.le_of_ble_eq_true rfl) dX12_trust_11 ⟨(Nat.le_of_ble_eq_true rfl), (Nat.le_of_ble_eq_true rfl)⟩ (fun q_4 H locs hq5 hP hD hS => ?_)
    replace hq5 : (q_4 = 1 ∧ 0 ≤ o2.toInt ∧ o2.toInt ≤ 7 ∧ o2.toInt < (fm 3).toInt ∨ q_4 = 0 ∧ ¬ (0 ≤ o2.toInt ∧ o2.toInt < (fm 3).toInt)) := hq5
    have hP : va_P g.1 vwCl (List.flatten [bMo g o a th hi ac tp ba en tA fl de iD iO tU fm fk fa fc ft ff fb fi]) H := hP
    have hD : va_D A (List.flatten [bMo g o a th hi ac tp ba en tA fl de iD iO tU fm fk fa fc ft ff fb fi]) := hD
    refine W.widen (k := 0) (n := 0) (Nat.le_of_ble_eq_true rfl) (Nat.le_of_ble_eq_true rfl) ?_
    refine W.eq (g2 := F0 m 14 ls [.int q_4, .ref o]) rfl ?_
    rcases hq5 with ⟨rfl, hq5_k⟩ | ⟨rfl, hq5_k⟩
    · skip
      refine lv_if_ne (tgt := 21) hx hb dX12_trust_14 (by decide) (fun _ => ?_) (fun c6 => absurd c6 (by decide))
      refine lv_iload_n hx hb dX12_trust_21 rfl (lv_at hl 1 rfl) ?_
      refine lv_iload_n hx hb dX12_trust_22 rfl (lv_at hl 2 rfl) ?_
      refine lv_icmp_ne (tgt := 30) hx hb dX12_trust_23 (by decide) (fun cb9 => ?_) (fun cb9 => ?_)
      · skip
        have c7 : ¬ x.toInt = o2.toInt := zne cb9 rfl rfl
        refine lv_iconst (v := 0) hx hb dX12_trust_30 (by decide) ?_
        refine va_put (D := g.1) (ci := 10) (v := .int 0) (ty := .int) (C := RX12) (T := TX12) (N := 20) hx hb hts izRX12 tyX12 tyX12_ok nmX12 hown hK hP hD hS 0 rfl rfl 0 (by decide) (hts _ k825) (fun _ h9 => h9) rfl (by decide +kernel) rfl rfl (Nat.le_of_ble_eq_true rfl) dX12_trust_31 (fun H locs hP hD hS => ?_)
        have hP : va_P g.1 vwCl (List.flatten [bMo g o a 0 hi ac tp ba en tA fl de iD iO tU fm fk fa fc ft ff fb fi]) H := hP
        have hD : va_D A (List.flatten [bMo g o a 0 hi ac tp ba en tA fl de iD iO tU fm fk fa fc ft ff fb fi]) := hD
        refine lv_aload_n hx hb dX12_trust_34 rfl (lv_at hl 0 rfl) ?_
        refine va_get (D := g.1) (ci := 10) (v := .int 0) (C := RX12) (T := TX12) (N := 20) hx hb hts izRX12 hown hK hP 0 rfl rfl 0 (by decide) (hts _ k825) (fun _ h9 => h9) rfl dX12_trust_35 ?_
        refine lv_if_le (tgt := 45) hx hb dX12_trust_38 (by decide) (fun _ => ?_) (fun c8 => absurd (by decide) c8)
        refine lv_aload_n hx hb dX12_trust_45 rfl (lv_at hl 0 rfl) ?_
        refine lv_iload_n hx hb dX12_trust_46 rfl (lv_at hl 1 rfl) ?_
        refine lv_iload_n hx hb dX12_trust_47 rfl (lv_at hl 2 rfl) ?_
        refine mcallV' (g := g) (q0 := 0) (ci := 10) (As := [.int x, .int o2]) (rest := []) St hK hT hA hP hD hS hl.1 [0] [] rfl rfl rfl (m_trustOfF l g o a 0 hi ac tp ba en tA fl de iD iO tU fm fk fa fc ft ff fb fi x o2 (by first | assumption | omega | decide | exact Or.inl (by decide) | exact Or.inr (by decide)) (by first | assumption | omega | decide | exact Or.inl (by decide) | exact Or.inr (by decide))) (cwV 2 hts (zgL (zl4 k868 k869 k870 k839) k835) rfl rfl rfl (by decide +kernel) ⟨Nat.le_of_ble_eq_true rfl, Nat.le_of_ble_eq_true rfl⟩) rfl rfl rfl rfl (Nat.le_of_ble_eq_true rfl) dX12_trust_48 ⟨(Nat.le_of_ble_eq_true rfl), (Nat.le_of_ble_eq_true rfl)⟩ (fun _u H locs hq9 hP hD hS => ?_)
        have hP : va_P g.1 vwCl (List.flatten [bMo g o a 0 hi ac tp ba en tA fl de iD iO tU fm fk fa fc ft ff fb fi]) H := hP
        have hD : va_D A (List.flatten [bMo g o a 0 hi ac tp ba en tA fl de iD iO tU fm fk fa fc ft ff fb fi]) := hD
        refine W.widen (k := 0) (n := 0) (Nat.le_of_ble_eq_true rfl) (Nat.le_of_ble_eq_true rfl) ?_
        refine W.eq (g2 := F0 m 51 ls [.int (zV fm 5 (8 * x.toInt.toNat + o2.toInt.toNat))]) rfl ?_
        have hP : va_P g.1 vwCl (List.flatten [bMo g o a 0 hi ac tp ba en tA fl de iD iO tU fm fk fa fc ft ff fb fi]) H := hP
        have hD : va_D A (List.flatten [bMo g o a 0 hi ac tp ba en tA fl de iD iO tU fm fk fa fc ft ff fb fi]) := hD
        exact mret_i hx hb hr hlocks hS (Nat.le_of_ble_eq_true rfl) (Nat.le_of_ble_eq_true rfl) dX12_trust_51 ((0 : Int32), zV fm 5 (8 * x.toInt.toNat + o2.toInt.toNat)) rfl (show ((0, (zV fm 5 (8 * x.toInt.toNat + o2.toInt.toNat))) = zoTrust x o2 (zM9 fm)) from (zoTrust_m0 (by omega) (by omega))) hP hD
      · skip
        have c10 : x.toInt = o2.toInt := zeq cb9 rfl rfl
        refine lv_iconst (v := 2) hx hb dX12_trust_26 (by decide) ?_
        refine lv_goto (tgt := 31) hx hb dX12_trust_27 (by decide) ?_
        refine va_put (D := g.1) (ci := 10) (v := .int 2) (ty := .int) (C := RX12) (T := TX12) (N := 20) hx hb hts izRX12 tyX12 tyX12_ok nmX12 hown hK hP hD hS 0 rfl rfl 0 (by decide) (hts _ k825) (fun _ h9 => h9) rfl (by decide +kernel) rfl rfl (Nat.le_of_ble_eq_true rfl) dX12_trust_31 (fun H locs hP hD hS => ?_)
        have hP : va_P g.1 vwCl (List.flatten [bMo g o a 2 hi ac tp ba en tA fl de iD iO tU fm fk fa fc ft ff fb fi]) H := hP
        have hD : va_D A (List.flatten [bMo g o a 2 hi ac tp ba en tA fl de iD iO tU fm fk fa fc ft ff fb fi]) := hD
        refine lv_aload_n hx hb dX12_trust_34 rfl (lv_at hl 0 rfl) ?_
        refine va_get (D := g.1) (ci := 10) (v := .int 2) (C := RX12) (T := TX12) (N := 20) hx hb hts izRX12 hown hK hP 0 rfl rfl 0 (by decide) (hts _ k825) (fun _ h9 => h9) rfl dX12_trust_35 ?_
        refine lv_if_le (tgt := 45) hx hb dX12_trust_38 (by decide) (fun c11 => absurd c11 (by decide)) (fun _ => ?_)
        refine lv_iconst (v := 0) hx hb dX12_trust_41 (by decide) ?_
        refine lv_goto (tgt := 51) hx hb dX12_trust_42 (by decide) ?_
        have hP : va_P g.1 vwCl (List.flatten [bMo g o a 2 hi ac tp ba en tA fl de iD iO tU fm fk fa fc ft ff fb fi]) H := hP
        have hD : va_D A (List.flatten [bMo g o a 2 hi ac tp ba en tA fl de iD iO tU fm fk fa fc ft ff fb fi]) := hD
        exact mret_i hx hb hr hlocks hS (Nat.le_of_ble_eq_true rfl) (Nat.le_of_ble_eq_true rfl) dX12_trust_51 ((2 : Int32), (0 : Int32)) rfl (show ((2, 0) = zoTrust x o2 (zM9 fm)) from (zoTrust_m2 (by omega) (by omega))) hP hD
    · skip
      refine lv_if_ne (tgt := 21) hx hb dX12_trust_14 (by decide) (fun c12 => absurd (by decide) c12) (fun _ => ?_)
      refine lv_iconst (v := 1) hx hb dX12_trust_17 (by decide) ?_
      refine lv_goto (tgt := 31) hx hb dX12_trust_18 (by decide) ?_
      refine va_put (D := g.1) (ci := 10) (v := .int 1) (ty := .int) (C := RX12) (T := TX12) (N := 20) hx hb hts izRX12 tyX12 tyX12_ok nmX12 hown hK hP hD hS 0 rfl rfl 0 (by decide) (hts _ k825) (fun _ h9 => h9) rfl (by decide +kernel) rfl rfl (Nat.le_of_ble_eq_true rfl) dX12_trust_31 (fun H locs hP hD hS => ?_)
      have hP : va_P g.1 vwCl (List.flatten [bMo g o a 1 hi ac tp ba en tA fl de iD iO tU fm fk fa fc ft ff fb fi]) H := hP
      have hD : va_D A (List.flatten [bMo g o a 1 hi ac tp ba en tA fl de iD iO tU fm fk fa fc ft ff fb fi]) := hD
      refine lv_aload_n hx hb dX12_trust_34 rfl (lv_at hl 0 rfl) ?_
      refine va_get (D := g.1) (ci := 10) (v := .int 1) (C := RX12) (T := TX12) (N := 20) hx hb hts izRX12 hown hK hP 0 rfl rfl 0 (by decide) (hts _ k825) (fun _ h9 => h9) rfl dX12_trust_35 ?_
      refine lv_if_le (tgt := 45) hx hb dX12_trust_38 (by decide) (fun c13 => absurd c13 (by decide)) (fun _ => ?_)
      refine lv_iconst (v := 0) hx hb dX12_trust_41 (by decide) ?_
      refine lv_goto (tgt := 51) hx hb dX12_trust_42 (by decide) ?_
      have hP : va_P g.1 vwCl (List.flatten [bMo g o a 1 hi ac tp ba en tA fl de iD iO tU fm fk fa fc ft ff fb fi]) H := hP
      have hD : va_D A (List.flatten [bMo g o a 1 hi ac tp ba en tA fl de iD iO tU fm fk fa fc ft ff fb fi]) := hD
      exact mret_i hx hb hr hlocks hS (Nat.le_of_ble_eq_true rfl) (Nat.le_of_ble_eq_true rfl) dX12_trust_51 ((1 : Int32), (0 : Int32)) rfl (show ((1, 0) = zoTrust x o2 (zM9 fm)) from (zoTrust_m1 (by omega))) hP hD
  · skip
    refine lv_if_eq (tgt := 17) hx hb dX12_trust_6 (by decide) (fun _ => ?_) (fun c14 => absurd (by decide) c14)
    refine lv_iconst (v := 1) hx hb dX12_trust_17 (by decide) ?_
    refine lv_goto (tgt := 31) hx hb dX12_trust_18 (by decide) ?_
    refine va_put (D := g.1) (ci := 10) (v := .int 1) (ty := .int) (C := RX12) (T := TX12) (N := 20) hx hb hts izRX12 tyX12 tyX12_ok nmX12 hown hK hP hD hS 0 rfl rfl 0 (by decide) (hts _ k825) (fun _ h9 => h9) rfl (by decide +kernel) rfl rfl (Nat.le_of_ble_eq_true rfl) dX12_trust_31 (fun H locs hP hD hS => ?_)
    have hP : va_P g.1 vwCl (List.flatten [bMo g o a 1 hi ac tp ba en tA fl de iD iO tU fm fk fa fc ft ff fb fi]) H := hP
    have hD : va_D A (List.flatten [bMo g o a 1 hi ac tp ba en tA fl de iD iO tU fm fk fa fc ft ff fb fi]) := hD
    refine lv_aload_n hx hb dX12_trust_34 rfl (lv_at hl 0 rfl) ?_
    refine va_get (D := g.1) (ci := 10) (v := .int 1) (C := RX12) (T := TX12) (N := 20) hx hb hts izRX12 hown hK hP 0 rfl rfl 0 (by decide) (hts _ k825) (fun _ h9 => h9) rfl dX12_trust_35 ?_
    refine lv_if_le (tgt := 45) hx hb dX12_trust_38 (by decide) (fun c15 => absurd c15 (by decide)) (fun _ => ?_)
    refine lv_iconst (v := 0) hx hb dX12_trust_41 (by decide) ?_
    refine lv_goto (tgt := 51) hx hb dX12_trust_42 (by decide) ?_
    have hP : va_P g.1 vwCl (List.flatten [bMo g o a 1 hi ac tp ba en tA fl de iD iO tU fm fk fa fc ft ff fb fi]) H := hP
    have hD : va_D A (List.flatten [bMo g o a 1 hi ac tp ba en tA fl de iD iO tU fm fk fa fc ft ff fb fi]) := hD
    exact mret_i hx hb hr hlocks hS (Nat.le_of_ble_eq_true rfl) (Nat.le_of_ble_eq_true rfl) dX12_trust_51 ((1 : Int32), (0 : Int32)) rfl (show ((1, 0) = zoTrust x o2 (zM9 fm)) from (zoTrust_m1 (by omega))) hP hD
set_option maxRecDepth 100000 in
set_option maxHeartbeats 4000000 in
theorem m_ofWK (l : Launch) (g : zG) (o : Nat) (a : Nat → Nat) (th : Int32) (hi : Int32) (ac : Int32) (tp : Int32) (ba : Int32) (en : Int32) (tA : Int32) (fl : Int32) (de : Int32) (iD : Int32) (iO : Int32) (tU : Int32) (fm : Nat → Int32) (fk : Nat → Int32) (fa : Nat → Int32) (fc : Nat → Int32) (ft : Nat → Int32) (ff : Nat → Int32) (fb : Nat → Int32) (fi : Nat → Int32) (w : Int32) (what : Int32) (b_w : 0 ≤ w.toInt ∧ w.toInt ≤ 5) (b_what : 0 ≤ what.toInt ∧ what.toInt ≤ 3) : zM' g l yX12_ofWork (Cond.code yX12_ofWork cX12_ofWork 3 (some .int) :: zB) ({ frames := 0, cells := 0, slots := 0, locals := 0 } : Room) [.ref o, .int w, .int what] [bMo g o a th hi ac tp ba en tA fl de iD iO tU fm fk fa fc ft ff fb fi] (fun _ : Unit => some (.int (fm (115 + 4 * w.toInt.toNat + what.toInt.toNat)))) (fun _ : Unit => True) (fun _ : Unit => [bMo g o a th hi ac tp ba en tA fl de iD iO tU fm fk fa fc ft ff fb fi]) := by
  refine zM'.of (cc := cX12_ofWork) (maxL := 3) (rt := (some .int)) (by decide) rfl (Nat.le_of_ble_eq_true rfl) ?_
  intro p e s m args below meth c A ls St hr hlocks hin hK hT hA hP hD hS hl
  obtain ⟨hx, hb, hml, hown, hts⟩ := id St
  have hl : lv_has ls 3 [(0, .ref o), (1, .int w), (2, .int what)] := hl
  refine lv_aload_n hx hb dX12_ofWork_0 rfl (lv_at hl 0 rfl) ?_
  refine va_get (D := g.1) (ci := 10) (v := .ref (a 0)) (C := RX12) (T := TX12) (N := 20) hx hb hts izRX12 hown hK hP 0 rfl rfl 1 (by decide) (hts _ k815) (fun _ h9 => h9) rfl dX12_ofWork_1 ?_
  refine lv_bipush (v := 115) hx hb dX12_ofWork_4 (by decide) ?_
  refine lv_iconst (v := 4) hx hb dX12_ofWork_6 (by decide) ?_
  refine lv_iload_n hx hb dX12_ofWork_7 rfl (lv_at hl 1 rfl) ?_
  refine lv_imul hx hb dX12_ofWork_8 ?_
  refine zg3 (zmulKL (i := w.toInt) (n := 4) (a' := 0) (b' := 20) rfl (by decide) b_w.1 b_w.2 (by decide) (by decide)) (fun x_1 hx_1 => ?_)
  refine lv_iadd hx hb dX12_ofWork_9 ?_
  refine zg3 (zaddK (i := 115) (j := x_1.toInt) (a' := 115) (b' := 135) (by decide) rfl (Int.le_refl _) (Int.le_refl _) hx_1.2.1 hx_1.2.2 (by decide)) (fun x_2 hx_2 => ?_)
  refine lv_iload_n hx hb dX12_ofWork_10 rfl (lv_at hl 2 rfl) ?_
  refine lv_iadd hx hb dX12_ofWork_11 ?_
  refine zg3 (zaddK (i := x_2.toInt) (j := what.toInt) (a' := 115) (b' := 138) rfl rfl hx_2.2.1 hx_2.2.2 b_what.1 b_what.2 (by decide)) (fun x_3 hx_3 => ?_)
  refine va_iald hx hb hK hP 1 0 rfl rfl (zinK (a := 115) (b := 138) hx_3.2.1 hx_3.2.2 (by decide)) dX12_ofWork_12 ?_
  refine ztop (r := (fm (115 + 4 * w.toInt.toNat + what.toInt.toNat))) (zixF (by omega)) ?_
  refine ztop (r := (fm (115 + 4 * w.toInt.toNat + what.toInt.toNat))) rfl ?_
  have hP : va_P g.1 vwCl (List.flatten [bMo g o a th hi ac tp ba en tA fl de iD iO tU fm fk fa fc ft ff fb fi]) s.heap := hP
  have hD : va_D A (List.flatten [bMo g o a th hi ac tp ba en tA fl de iD iO tU fm fk fa fc ft ff fb fi]) := hD
  exact mret_i hx hb hr hlocks hS (Nat.le_of_ble_eq_true rfl) (Nat.le_of_ble_eq_true rfl) dX12_ofWork_13 () rfl trivial hP hD
set_option maxRecDepth 100000 in
set_option maxHeartbeats 4000000 in
theorem m_workC (l : Launch) (g : zG) (o : Nat) (a : Nat → Nat) (th : Int32) (hi : Int32) (ac : Int32) (tp : Int32) (ba : Int32) (en : Int32) (tA : Int32) (fl : Int32) (de : Int32) (iD : Int32) (iO : Int32) (tU : Int32) (fm : Nat → Int32) (fk : Nat → Int32) (fa : Nat → Int32) (fc : Nat → Int32) (ft : Nat → Int32) (ff : Nat → Int32) (fb : Nat → Int32) (fi : Nat → Int32) (w : Int32) (what : Int32) (rfm : rM fm) : zM' g l yX12_work (Cond.code yX12_work cX12_work 3 (some .int) :: zB) ({ frames := 2, cells := 0, slots := 0, locals := 43 } : Room) [.ref o, .int w, .int what] [bMo g o a th hi ac tp ba en tA fl de iD iO tU fm fk fa fc ft ff fb fi] (fun u : Int32 × Int32 => (fun (th2 : Int32) (q : Int32) => some (.int q)) (u.1) (u.2)) (fun u : Int32 × Int32 => (fun (th2 : Int32) (q : Int32) => ((th2, q) = zoWork w what (zM9 fm))) (u.1) (u.2)) (fun u : Int32 × Int32 => (fun (th2 : Int32) (q : Int32) => [bMo g o a th2 hi ac tp ba en tA fl de iD iO tU fm fk fa fc ft ff fb fi]) (u.1) (u.2)) := by
  refine zM'.of (cc := cX12_work) (maxL := 3) (rt := (some .int)) (by decide) rfl (Nat.le_of_ble_eq_true rfl) ?_
  intro p e s m args below meth c A ls St hr hlocks hin hK hT hA hP hD hS hl
  obtain ⟨hx, hb, hml, hown, hts⟩ := id St
  have hl : lv_has ls 3 [(0, .ref o), (1, .int w), (2, .int what)] := hl
  have hrm3 := rM3 rfm
  have hrm4 := rM4 rfm
  refine lv_aload_n hx hb dX12_work_0 rfl (lv_at hl 0 rfl) ?_
  refine lv_aload_n hx hb dX12_work_1 rfl (lv_at hl 0 rfl) ?_
  refine lv_iload_n hx hb dX12_work_2 rfl (lv_at hl 1 rfl) ?_
  refine mcallV' (g := g) (q0 := 0) (ci := 10) (As := [.int w]) (rest := [.ref o]) St hK hT hA hP hD hS hl.1 [0] [] rfl rfl rfl (m_isWorkG l g o a th hi ac tp ba en tA fl de iD iO tU fm fk fa fc ft ff fb fi w rfm) (cwV 1 hts (zgL (zl4 k1042 k1043 k1044 k839) k840) rfl rfl rfl (by decide +kernel) ⟨Nat.le_of_ble_eq_true rfl, Nat.le_of_ble_eq_true rfl⟩) rfl rfl rfl rfl (Nat.le_of_ble_eq_true rfl) dX12_work_3 ⟨(Nat.le_of_ble_eq_true rfl), (Nat.le_of_ble_eq_true rfl)⟩ (fun q_1 H locs hq2 hP hD hS => ?_)
  replace hq2 : (q_1 = 1 ∧ 0 ≤ w.toInt ∧ w.toInt ≤ 5 ∧ w.toInt < (fm 4).toInt ∨ q_1 = 0 ∧ ¬ (0 ≤ w.toInt ∧ w.toInt < (fm 4).toInt)) := hq2
  have hP : va_P g.1 vwCl (List.flatten [bMo g o a th hi ac tp ba en tA fl de iD iO tU fm fk fa fc ft ff fb fi]) H := hP
  have hD : va_D A (List.flatten [bMo g o a th hi ac tp ba en tA fl de iD iO tU fm fk fa fc ft ff fb fi]) := hD
  refine W.widen (k := 0) (n := 0) (Nat.le_of_ble_eq_true rfl) (Nat.le_of_ble_eq_true rfl) ?_
  refine W.eq (g2 := F0 m 6 ls [.int q_1, .ref o]) rfl ?_
  rcases hq2 with ⟨rfl, hq2_k⟩ | ⟨rfl, hq2_k⟩
  · skip
    refine lv_if_ne (tgt := 13) hx hb dX12_work_6 (by decide) (fun _ => ?_) (fun c3 => absurd c3 (by decide))
    refine lv_iload_n hx hb dX12_work_13 rfl (lv_at hl 2 rfl) ?_
    refine lv_iconst (v := 0) hx hb dX12_work_14 (by decide) ?_
    refine lv_iconst (v := 3) hx hb dX12_work_15 (by decide) ?_
    have hL0 : (0 : Int32).toInt = 0 := by decide
    have hL3 : (3 : Int32).toInt = 3 := by decide
    refine mcallS' (g := g) (As := [.int what, .int 0, .int 3]) (rest := [.ref o]) St hK hT hA hP hD hS hl.1 [] [0] rfl rfl rfl (m_isIn l g what 0 3 ) (va_cwS 3 hts (zgL (zl3 k837 k838 k839) k826) rfl rfl rfl (by decide +kernel) ⟨Nat.le_of_ble_eq_true rfl, Nat.le_of_ble_eq_true rfl⟩) rfl rfl (Nat.le_of_ble_eq_true rfl) dX12_work_16 ⟨(Nat.le_of_ble_eq_true rfl), (Nat.le_of_ble_eq_true rfl)⟩ (fun q_4 H locs hq5 hP hD hS => ?_)
    replace hq5 : (q_4 = 1 ∧ (0 : Int32).toInt ≤ what.toInt ∧ what.toInt ≤ (3 : Int32).toInt ∨ q_4 = 0 ∧ (what.toInt < (0 : Int32).toInt ∨ (3 : Int32).toInt < what.toInt)) := hq5
    have hP : va_P g.1 vwCl (List.flatten [bMo g o a th hi ac tp ba en tA fl de iD iO tU fm fk fa fc ft ff fb fi]) H := hP
    have hD : va_D A (List.flatten [bMo g o a th hi ac tp ba en tA fl de iD iO tU fm fk fa fc ft ff fb fi]) := hD
    refine W.widen (k := 0) (n := 0) (Nat.le_of_ble_eq_true rfl) (Nat.le_of_ble_eq_true rfl) ?_
    refine W.eq (g2 := F0 m 19 ls [.int q_4, .ref o]) rfl ?_
    rcases hq5 with ⟨rfl, hq5_k⟩ | ⟨rfl, hq5_k⟩
    · skip
      refine lv_if_ne (tgt := 26) hx hb dX12_work_19 (by decide) (fun _ => ?_) (fun c6 => absurd c6 (by decide))
      refine lv_iconst (v := 0) hx hb dX12_work_26 (by decide) ?_
      refine va_put (D := g.1) (ci := 10) (v := .int 0) (ty := .int) (C := RX12) (T := TX12) (N := 20) hx hb hts izRX12 tyX12 tyX12_ok nmX12 hown hK hP hD hS 0 rfl rfl 0 (by decide) (hts _ k825) (fun _ h9 => h9) rfl (by decide +kernel) rfl rfl (Nat.le_of_ble_eq_true rfl) dX12_work_27 (fun H locs hP hD hS => ?_)
      have hP : va_P g.1 vwCl (List.flatten [bMo g o a 0 hi ac tp ba en tA fl de iD iO tU fm fk fa fc ft ff fb fi]) H := hP
      have hD : va_D A (List.flatten [bMo g o a 0 hi ac tp ba en tA fl de iD iO tU fm fk fa fc ft ff fb fi]) := hD
      refine lv_aload_n hx hb dX12_work_30 rfl (lv_at hl 0 rfl) ?_
      refine va_get (D := g.1) (ci := 10) (v := .int 0) (C := RX12) (T := TX12) (N := 20) hx hb hts izRX12 hown hK hP 0 rfl rfl 0 (by decide) (hts _ k825) (fun _ h9 => h9) rfl dX12_work_31 ?_
      refine lv_if_le (tgt := 41) hx hb dX12_work_34 (by decide) (fun _ => ?_) (fun c7 => absurd (by decide) c7)
      refine lv_aload_n hx hb dX12_work_41 rfl (lv_at hl 0 rfl) ?_
      refine lv_iload_n hx hb dX12_work_42 rfl (lv_at hl 1 rfl) ?_
      refine lv_iload_n hx hb dX12_work_43 rfl (lv_at hl 2 rfl) ?_
      refine mcallV' (g := g) (q0 := 0) (ci := 10) (As := [.int w, .int what]) (rest := []) St hK hT hA hP hD hS hl.1 [0] [] rfl rfl rfl (m_ofWK l g o a 0 hi ac tp ba en tA fl de iD iO tU fm fk fa fc ft ff fb fi w what (by first | assumption | omega | decide | exact Or.inl (by decide) | exact Or.inr (by decide)) (by first | assumption | omega | decide | exact Or.inl (by decide) | exact Or.inr (by decide))) (cwV 2 hts (zgL (zl4 k864 k865 k866 k839) k833) rfl rfl rfl (by decide +kernel) ⟨Nat.le_of_ble_eq_true rfl, Nat.le_of_ble_eq_true rfl⟩) rfl rfl rfl rfl (Nat.le_of_ble_eq_true rfl) dX12_work_44 ⟨(Nat.le_of_ble_eq_true rfl), (Nat.le_of_ble_eq_true rfl)⟩ (fun _u H locs hq8 hP hD hS => ?_)
      have hP : va_P g.1 vwCl (List.flatten [bMo g o a 0 hi ac tp ba en tA fl de iD iO tU fm fk fa fc ft ff fb fi]) H := hP
      have hD : va_D A (List.flatten [bMo g o a 0 hi ac tp ba en tA fl de iD iO tU fm fk fa fc ft ff fb fi]) := hD
      refine W.widen (k := 0) (n := 0) (Nat.le_of_ble_eq_true rfl) (Nat.le_of_ble_eq_true rfl) ?_
      refine W.eq (g2 := F0 m 47 ls [.int (fm (115 + 4 * w.toInt.toNat + what.toInt.toNat))]) rfl ?_
      have hP : va_P g.1 vwCl (List.flatten [bMo g o a 0 hi ac tp ba en tA fl de iD iO tU fm fk fa fc ft ff fb fi]) H := hP
      have hD : va_D A (List.flatten [bMo g o a 0 hi ac tp ba en tA fl de iD iO tU fm fk fa fc ft ff fb fi]) := hD
      exact mret_i hx hb hr hlocks hS (Nat.le_of_ble_eq_true rfl) (Nat.le_of_ble_eq_true rfl) dX12_work_47 ((0 : Int32), fm (115 + 4 * w.toInt.toNat + what.toInt.toNat)) rfl (show ((0, (fm (115 + 4 * w.toInt.toNat + what.toInt.toNat))) = zoWork w what (zM9 fm)) from (zoWork_m0 (by omega) (by omega))) hP hD
    · skip
      refine lv_if_ne (tgt := 26) hx hb dX12_work_19 (by decide) (fun c9 => absurd (by decide) c9) (fun _ => ?_)
      refine lv_iconst (v := 2) hx hb dX12_work_22 (by decide) ?_
      refine lv_goto (tgt := 27) hx hb dX12_work_23 (by decide) ?_
      refine va_put (D := g.1) (ci := 10) (v := .int 2) (ty := .int) (C := RX12) (T := TX12) (N := 20) hx hb hts izRX12 tyX12 tyX12_ok nmX12 hown hK hP hD hS 0 rfl rfl 0 (by decide) (hts _ k825) (fun _ h9 => h9) rfl (by decide +kernel) rfl rfl (Nat.le_of_ble_eq_true rfl) dX12_work_27 (fun H locs hP hD hS => ?_)
      have hP : va_P g.1 vwCl (List.flatten [bMo g o a 2 hi ac tp ba en tA fl de iD iO tU fm fk fa fc ft ff fb fi]) H := hP
      have hD : va_D A (List.flatten [bMo g o a 2 hi ac tp ba en tA fl de iD iO tU fm fk fa fc ft ff fb fi]) := hD
      refine lv_aload_n hx hb dX12_work_30 rfl (lv_at hl 0 rfl) ?_
      refine va_get (D := g.1) (ci := 10) (v := .int 2) (C := RX12) (T := TX12) (N := 20) hx hb hts izRX12 hown hK hP 0 rfl rfl 0 (by decide) (hts _ k825) (fun _ h9 => h9) rfl dX12_work_31 ?_
      refine lv_if_le (tgt := 41) hx hb dX12_work_34 (by decide) (fun c10 => absurd c10 (by decide)) (fun _ => ?_)
      refine lv_iconst (v := 0) hx hb dX12_work_37 (by decide) ?_
      refine lv_goto (tgt := 47) hx hb dX12_work_38 (by decide) ?_
      have hP : va_P g.1 vwCl (List.flatten [bMo g o a 2 hi ac tp ba en tA fl de iD iO tU fm fk fa fc ft ff fb fi]) H := hP
      have hD : va_D A (List.flatten [bMo g o a 2 hi ac tp ba en tA fl de iD iO tU fm fk fa fc ft ff fb fi]) := hD
      exact mret_i hx hb hr hlocks hS (Nat.le_of_ble_eq_true rfl) (Nat.le_of_ble_eq_true rfl) dX12_work_47 ((2 : Int32), (0 : Int32)) rfl (show ((2, 0) = zoWork w what (zM9 fm)) from (zoWork_m2 (by omega) (by omega))) hP hD
  · skip
    refine lv_if_ne (tgt := 13) hx hb dX12_work_6 (by decide) (fun c11 => absurd (by decide) c11) (fun _ => ?_)
    refine lv_iconst (v := 1) hx hb dX12_work_9 (by decide) ?_
    refine lv_goto (tgt := 27) hx hb dX12_work_10 (by decide) ?_
    refine va_put (D := g.1) (ci := 10) (v := .int 1) (ty := .int) (C := RX12) (T := TX12) (N := 20) hx hb hts izRX12 tyX12 tyX12_ok nmX12 hown hK hP hD hS 0 rfl rfl 0 (by decide) (hts _ k825) (fun _ h9 => h9) rfl (by decide +kernel) rfl rfl (Nat.le_of_ble_eq_true rfl) dX12_work_27 (fun H locs hP hD hS => ?_)
    have hP : va_P g.1 vwCl (List.flatten [bMo g o a 1 hi ac tp ba en tA fl de iD iO tU fm fk fa fc ft ff fb fi]) H := hP
    have hD : va_D A (List.flatten [bMo g o a 1 hi ac tp ba en tA fl de iD iO tU fm fk fa fc ft ff fb fi]) := hD
    refine lv_aload_n hx hb dX12_work_30 rfl (lv_at hl 0 rfl) ?_
    refine va_get (D := g.1) (ci := 10) (v := .int 1) (C := RX12) (T := TX12) (N := 20) hx hb hts izRX12 hown hK hP 0 rfl rfl 0 (by decide) (hts _ k825) (fun _ h9 => h9) rfl dX12_work_31 ?_
    refine lv_if_le (tgt := 41) hx hb dX12_work_34 (by decide) (fun c12 => absurd c12 (by decide)) (fun _ => ?_)
    refine lv_iconst (v := 0) hx hb dX12_work_37 (by decide) ?_
    refine lv_goto (tgt := 47) hx hb dX12_work_38 (by decide) ?_
    have hP : va_P g.1 vwCl (List.flatten [bMo g o a 1 hi ac tp ba en tA fl de iD iO tU fm fk fa fc ft ff fb fi]) H := hP
    have hD : va_D A (List.flatten [bMo g o a 1 hi ac tp ba en tA fl de iD iO tU fm fk fa fc ft ff fb fi]) := hD
    exact mret_i hx hb hr hlocks hS (Nat.le_of_ble_eq_true rfl) (Nat.le_of_ble_eq_true rfl) dX12_work_47 ((1 : Int32), (0 : Int32)) rfl (show ((1, 0) = zoWork w what (zM9 fm)) from (zoWork_m1 (by omega))) hP hD
set_option maxRecDepth 100000 in
set_option maxHeartbeats 4000000 in
theorem c_x_workC (l : Launch) (hfl : l.stackTraces = false) (g : zG) (x : Nat) (ta : Nat) (o : Nat) (lo : Nat) (go : Nat) (tt : Nat) (lt : Nat) (mo : Nat) (fo : Nat) (ro : Nat) (fl9 : Int32) (a : Nat → Nat) (pe : Int32) (wo : Int32) (tx : Int32) (ch : Int32) (jo : Int32) (tr : Int32) (dy : Int32) (sd : Int32) (f : Nat → Nat → Int32) (ww : Int32) (wh : Int32) (b_pe : 0 ≤ pe.toInt ∧ pe.toInt ≤ 8) (b_wo : 0 ≤ wo.toInt ∧ wo.toInt ≤ 6) (rf : zZ4 f) : zX' g l yX11_work (Cond.code yX11_work cX11_work 3 (some .int) :: zB) ({ frames := 7, cells := 2, slots := 12, locals := 103 } : Room) [.ref x, .int ww, .int wh] [bDR g x ta o lo go tt lt mo fo ro fl9, bTown g o a pe wo tx ch jo tr dy sd f] (fun (q : Int32) => some (.int q)) (fun (q : Int32) => ((0, q) = zoWork ww wh (pe, wo, tx, ch, jo, tr, dy, sd, f))) (fun (q : Int32) => [bDR g x ta o lo go tt lt mo fo ro fl9, bTown g o a pe wo tx ch jo tr dy sd f]) (fun (E : String) (_ : Unit) => (E = "java/lang/IndexOutOfBoundsException" ∨ E = "java/util/NoSuchElementException") ∧ (E = "java/lang/IndexOutOfBoundsException" → (1, 0) = zoWork ww wh (pe, wo, tx, ch, jo, tr, dy, sd, f)) ∧ (E = "java/util/NoSuchElementException" → (2, 0) = zoWork ww wh (pe, wo, tx, ch, jo, tr, dy, sd, f))) (fun _ : Unit => [bDR g x ta o lo go tt lt mo fo ro fl9, bTown g o a pe wo tx ch jo tr dy sd f]) := by
  refine zX'.of (cc := cX11_work) (maxL := 3) (rt := (some .int)) (by decide) rfl (Nat.le_of_ble_eq_true rfl) ?_
  intro p e s m args below meth c A ls St hr hlocks htab hin hK hT hA hP hD hS hl
  obtain ⟨hx, hb, hml, hown, hts⟩ := id St
  have hl : lv_has ls 3 [(0, .ref x), (1, .int ww), (2, .int wh)] := hl
  refine lv_aload_n hx hb dX11_work_0 rfl (lv_at hl 0 rfl) ?_
  refine lv_iload_n hx hb dX11_work_1 rfl (lv_at hl 1 rfl) ?_
  refine xcallV' (g := g) (q0 := 0) (ci := 9) (As := [.int ww]) (rest := []) St hK hT hA hP hD hS hl.1 [0, 1] [] rfl rfl rfl (c_x_needWorkE l hfl g x ta o lo go tt lt mo fo ro fl9 a pe wo tx ch jo tr dy sd f ww b_pe b_wo rf) (cwV 1 hts (zgL (zl4 k646 k647 k648 k621) k639) rfl rfl rfl (by decide +kernel) ⟨Nat.le_of_ble_eq_true rfl, Nat.le_of_ble_eq_true rfl⟩) rfl rfl rfl rfl (Nat.le_of_ble_eq_true rfl) dX11_work_2 ⟨(Nat.le_of_ble_eq_true rfl), (Nat.le_of_ble_eq_true rfl)⟩ (fun E ce q9 u9 H locs hpx hP hD hS hce hcv hcl => ?_) (fun _u H locs hq1 hP hD hS => ?_)
  · skip
    have hpx : (E = "java/lang/IndexOutOfBoundsException") ∧ (¬ (0 ≤ ww.toInt ∧ ww.toInt < wo.toInt)) := hpx
    have hP : va_P g.1 vwCl (List.flatten [bDR g x ta o lo go tt lt mo fo ro fl9, bTown g o a pe wo tx ch jo tr dy sd f]) H := hP
    have hD : va_D A (List.flatten [bDR g x ta o lo go tt lt mo fo ro fl9, bTown g o a pe wo tx ch jo tr dy sd f]) := hD
    obtain ⟨hE9, hy2⟩ := hpx
    exact zout htab hlocks hS (Nat.le_of_ble_eq_true rfl) (Nat.le_of_ble_eq_true rfl) hce hcv hcl () (show (E = "java/lang/IndexOutOfBoundsException" ∨ E = "java/util/NoSuchElementException") ∧ (E = "java/lang/IndexOutOfBoundsException" → (1, 0) = zoWork ww wh (pe, wo, tx, ch, jo, tr, dy, sd, f)) ∧ (E = "java/util/NoSuchElementException" → (2, 0) = zoWork ww wh (pe, wo, tx, ch, jo, tr, dy, sd, f)) from ⟨(Or.inl hE9), (show E = "java/lang/IndexOutOfBoundsException" → (1, 0) = zoWork ww wh (pe, wo, tx, ch, jo, tr, dy, sd, f) from (fun h9 => zoWork_c1 hy2)), (show E = "java/util/NoSuchElementException" → (2, 0) = zoWork ww wh (pe, wo, tx, ch, jo, tr, dy, sd, f) from (fun h9 => absurd (hE9.symm.trans h9) (by decide)))⟩) hP hD
  · skip
    replace hq1 : (0 ≤ ww.toInt ∧ ww.toInt ≤ 5) ∧ (ww.toInt < wo.toInt) := hq1
    have hP : va_P g.1 vwCl (List.flatten [bDR g x ta o lo go tt lt mo fo ro fl9, bTown g o a pe wo tx ch jo tr dy sd f]) H := hP
    have hD : va_D A (List.flatten [bDR g x ta o lo go tt lt mo fo ro fl9, bTown g o a pe wo tx ch jo tr dy sd f]) := hD
    refine W.widen (k := 1) (n := 6) (Nat.le_of_ble_eq_true rfl) (Nat.le_of_ble_eq_true rfl) ?_
    refine W.eq (g2 := F0 m 5 ls []) rfl ?_
    obtain ⟨hq1_0, hq1_1⟩ := hq1
    refine lv_iload_n hx hb dX11_work_5 rfl (lv_at hl 2 rfl) ?_
    by_cases hsw0 : wh = 0
    · subst hsw0
      refine lv_tableIn (x := 0) (off := 30) (tgt := 36) hx hb dX11_work_6 (by decide) (by decide) rfl (by decide) ?_
      refine lv_aload_n hx hb dX11_work_36 rfl (lv_at hl 0 rfl) ?_
      refine va_get (D := g.1) (ci := 9) (v := .ref o) (C := RX11) (T := TX11) (N := 10) hx hb hts izRX11 hown hK hP 0 rfl rfl 1 (by decide) (hts _ k538) (fun _ h9 => h9) rfl dX11_work_37 ?_
      refine va_get (D := g.1) (ci := 7) (v := .ref (a 6)) (C := RX9) (T := TX9) (N := 19) hx hb hts izRX9 hown hK hP 1 rfl rfl 14 (by decide) (hts _ k642) (fun _ h9 => h9) rfl dX11_work_40 ?_
      refine lv_iload_n hx hb dX11_work_43 rfl (lv_at hl 1 rfl) ?_
      refine va_iald hx hb hK hP 8 0 rfl rfl (zinK (a := 0) (b := 5) hq1_0.1 hq1_0.2 (by decide)) dX11_work_44 ?_
      refine ztop (r := (f 6 ww.toInt.toNat)) rfl ?_
      have hP : va_P g.1 vwCl (List.flatten [bDR g x ta o lo go tt lt mo fo ro fl9, bTown g o a pe wo tx ch jo tr dy sd f]) H := hP
      have hD : va_D A (List.flatten [bDR g x ta o lo go tt lt mo fo ro fl9, bTown g o a pe wo tx ch jo tr dy sd f]) := hD
      exact zret_i hx hb hr hlocks hS (Nat.le_of_ble_eq_true rfl) (Nat.le_of_ble_eq_true rfl) dX11_work_45 (f 6 ww.toInt.toNat) rfl (show ((0, (f 6 ww.toInt.toNat)) = zoWork ww 0 (pe, wo, tx, ch, jo, tr, dy, sd, f)) from (zoWork_c0 (by omega) (by decide))) hP hD
    by_cases hsw1 : wh = 1
    · subst hsw1
      refine lv_tableIn (x := 1) (off := 40) (tgt := 46) hx hb dX11_work_6 (by decide) (by decide) rfl (by decide) ?_
      refine lv_aload_n hx hb dX11_work_46 rfl (lv_at hl 0 rfl) ?_
      refine va_get (D := g.1) (ci := 9) (v := .ref o) (C := RX11) (T := TX11) (N := 10) hx hb hts izRX11 hown hK hP 0 rfl rfl 1 (by decide) (hts _ k538) (fun _ h9 => h9) rfl dX11_work_47 ?_
      refine va_get (D := g.1) (ci := 7) (v := .ref (a 7)) (C := RX9) (T := TX9) (N := 19) hx hb hts izRX9 hown hK hP 1 rfl rfl 15 (by decide) (hts _ k643) (fun _ h9 => h9) rfl dX11_work_50 ?_
      refine lv_iload_n hx hb dX11_work_53 rfl (lv_at hl 1 rfl) ?_
      refine va_iald hx hb hK hP 9 0 rfl rfl (zinK (a := 0) (b := 5) hq1_0.1 hq1_0.2 (by decide)) dX11_work_54 ?_
      refine ztop (r := (f 7 ww.toInt.toNat)) rfl ?_
      have hP : va_P g.1 vwCl (List.flatten [bDR g x ta o lo go tt lt mo fo ro fl9, bTown g o a pe wo tx ch jo tr dy sd f]) H := hP
      have hD : va_D A (List.flatten [bDR g x ta o lo go tt lt mo fo ro fl9, bTown g o a pe wo tx ch jo tr dy sd f]) := hD
      exact zret_i hx hb hr hlocks hS (Nat.le_of_ble_eq_true rfl) (Nat.le_of_ble_eq_true rfl) dX11_work_55 (f 7 ww.toInt.toNat) rfl (show ((0, (f 7 ww.toInt.toNat)) = zoWork ww 1 (pe, wo, tx, ch, jo, tr, dy, sd, f)) from (zoWork_c0 (by omega) (by decide))) hP hD
    by_cases hsw2 : wh = 2
    · subst hsw2
      refine lv_tableIn (x := 2) (off := 50) (tgt := 56) hx hb dX11_work_6 (by decide) (by decide) rfl (by decide) ?_
      refine lv_aload_n hx hb dX11_work_56 rfl (lv_at hl 0 rfl) ?_
      refine va_get (D := g.1) (ci := 9) (v := .ref o) (C := RX11) (T := TX11) (N := 10) hx hb hts izRX11 hown hK hP 0 rfl rfl 1 (by decide) (hts _ k538) (fun _ h9 => h9) rfl dX11_work_57 ?_
      refine va_get (D := g.1) (ci := 7) (v := .ref (a 8)) (C := RX9) (T := TX9) (N := 19) hx hb hts izRX9 hown hK hP 1 rfl rfl 16 (by decide) (hts _ k644) (fun _ h9 => h9) rfl dX11_work_60 ?_
      refine lv_iload_n hx hb dX11_work_63 rfl (lv_at hl 1 rfl) ?_
      refine va_iald hx hb hK hP 10 0 rfl rfl (zinK (a := 0) (b := 5) hq1_0.1 hq1_0.2 (by decide)) dX11_work_64 ?_
      refine ztop (r := (f 8 ww.toInt.toNat)) rfl ?_
      have hP : va_P g.1 vwCl (List.flatten [bDR g x ta o lo go tt lt mo fo ro fl9, bTown g o a pe wo tx ch jo tr dy sd f]) H := hP
      have hD : va_D A (List.flatten [bDR g x ta o lo go tt lt mo fo ro fl9, bTown g o a pe wo tx ch jo tr dy sd f]) := hD
      exact zret_i hx hb hr hlocks hS (Nat.le_of_ble_eq_true rfl) (Nat.le_of_ble_eq_true rfl) dX11_work_65 (f 8 ww.toInt.toNat) rfl (show ((0, (f 8 ww.toInt.toNat)) = zoWork ww 2 (pe, wo, tx, ch, jo, tr, dy, sd, f)) from (zoWork_c0 (by omega) (by decide))) hP hD
    by_cases hsw3 : wh = 3
    · subst hsw3
      refine lv_tableIn (x := 3) (off := 60) (tgt := 66) hx hb dX11_work_6 (by decide) (by decide) rfl (by decide) ?_
      refine lv_aload_n hx hb dX11_work_66 rfl (lv_at hl 0 rfl) ?_
      refine va_get (D := g.1) (ci := 9) (v := .ref o) (C := RX11) (T := TX11) (N := 10) hx hb hts izRX11 hown hK hP 0 rfl rfl 1 (by decide) (hts _ k538) (fun _ h9 => h9) rfl dX11_work_67 ?_
      refine va_get (D := g.1) (ci := 7) (v := .ref (a 9)) (C := RX9) (T := TX9) (N := 19) hx hb hts izRX9 hown hK hP 1 rfl rfl 17 (by decide) (hts _ k645) (fun _ h9 => h9) rfl dX11_work_70 ?_
      refine lv_iload_n hx hb dX11_work_73 rfl (lv_at hl 1 rfl) ?_
      refine va_iald hx hb hK hP 11 0 rfl rfl (zinK (a := 0) (b := 5) hq1_0.1 hq1_0.2 (by decide)) dX11_work_74 ?_
      refine ztop (r := (f 9 ww.toInt.toNat)) rfl ?_
      have hP : va_P g.1 vwCl (List.flatten [bDR g x ta o lo go tt lt mo fo ro fl9, bTown g o a pe wo tx ch jo tr dy sd f]) H := hP
      have hD : va_D A (List.flatten [bDR g x ta o lo go tt lt mo fo ro fl9, bTown g o a pe wo tx ch jo tr dy sd f]) := hD
      exact zret_i hx hb hr hlocks hS (Nat.le_of_ble_eq_true rfl) (Nat.le_of_ble_eq_true rfl) dX11_work_75 (f 9 ww.toInt.toNat) rfl (show ((0, (f 9 ww.toInt.toNat)) = zoWork ww 3 (pe, wo, tx, ch, jo, tr, dy, sd, f)) from (zoWork_c0 (by omega) (by decide))) hP hD
    refine lv_tableOut (tgt := 76) hx hb dX11_work_6 (by have := lv_neT hsw0 (show Int32.toInt 0 = 0 from by decide); have := lv_neT hsw1 (show Int32.toInt 1 = 1 from by decide); have := lv_neT hsw2 (show Int32.toInt 2 = 2 from by decide); have := lv_neT hsw3 (show Int32.toInt 3 = 3 from by decide); omega) (by decide) ?_
    obtain ⟨sa3, hsa3⟩ := hT.1.2.2.1 _ (List.mem_of_getElem? (i := 4) rfl)
    exact nx_throw2 (A := A) hx hb hfl hown (hts _ k611) (hts _ k612) hsa3 (nx_hat hts (hT.1.2.2.2.2.1 _ (List.mem_of_getElem? (i := 4) rfl))) hT.1.1 hT.1.2.1 hS (by rw [hml]; exact hl.1) dX11_work_76 dX11_work_79 dX11_work_80 dX11_work_82 dX11_work_85 (fun x hx => (htab x hx).elim) (Nat.le_of_ble_eq_true rfl) (Nat.le_of_ble_eq_true rfl) (Nat.le_of_ble_eq_true rfl) (Nat.le_of_ble_eq_true rfl) hlocks (fun t ht hz hk => ⟨⟨(), ⟨(Or.inr rfl), (show "java/util/NoSuchElementException" = "java/lang/IndexOutOfBoundsException" → (1, 0) = zoWork ww wh (pe, wo, tx, ch, jo, tr, dy, sd, f) from (fun h9 => absurd h9 (by decide))), (show "java/util/NoSuchElementException" = "java/util/NoSuchElementException" → (2, 0) = zoWork ww wh (pe, wo, tx, ch, jo, tr, dy, sd, f) from (fun _ => zoWork_c2 (by omega) (by have g0 := lv_neT hsw0 (show Int32.toInt 0 = 0 from by decide); have g1 := lv_neT hsw1 (show Int32.toInt 1 = 1 from by decide); have g2 := lv_neT hsw2 (show Int32.toInt 2 = 2 from by decide); have g3 := lv_neT hsw3 (show Int32.toInt 3 = 3 from by decide); omega)))⟩, hP.kept (fun k q hq => hk q.1 (hP k q hq).lt), hD⟩, ⟨Nat.le_trans hS.1 hz, fun q h1 h2 => (hk q (Nat.lt_of_lt_of_le h1 hS.1)).trans (hS.2.1 q h1 h2)⟩⟩) hS.2.2 (Nat.le_of_ble_eq_true rfl) (Nat.le_of_ble_eq_true rfl)
set_option maxRecDepth 100000 in
set_option maxHeartbeats 4000000 in
theorem l_workC (l : Launch) (hfl : l.stackTraces = false) (g : zG) (x : Nat) (ta : Nat) (o : Nat) (lo : Nat) (go : Nat) (tt : Nat) (lt : Nat) (mo : Nat) (fo : Nat) (ro : Nat) (fl9 : Int32) (a : Nat → Nat) (pe : Int32) (wo : Int32) (tx : Int32) (ch : Int32) (jo : Int32) (tr : Int32) (dy : Int32) (sd : Int32) (f : Nat → Nat → Int32) (oa : Nat) (fz : Nat → Int64) (ww : Int32) (wh : Int32) (b_pe : 0 ≤ pe.toInt ∧ pe.toInt ≤ 8) (b_wo : 0 ≤ wo.toInt ∧ wo.toInt ≤ 6) (rf : zZ4 f) : zX' g l yL_work (Cond.codeWith yL_work cL_work 5 (some .int) [(0, 10, 13, 24), (0, 10, 17, 26)] :: zB) ({ frames := 8, cells := 2, slots := 12, locals := 125 } : Room) [.ref x, .int ww, .int wh, .ref oa] [bDR g x ta o lo go tt lt mo fo ro fl9, bTown g o a pe wo tx ch jo tr dy sd f, bOut g oa fz] (fun u : (Nat → Int64) × Int32 × Int32 => (fun (fz2 : Nat → Int64) (q : Int32) (a9 : Int32) => some (.int q)) (u.1) (u.2.1) (u.2.2)) (fun u : (Nat → Int64) × Int32 × Int32 => (fun (fz2 : Nat → Int64) (q : Int32) (a9 : Int32) => ((q, a9) = zoWork ww wh (pe, wo, tx, ch, jo, tr, dy, sd, f)) ∧ (q.toInt = 0 → fz2 0 = Int32.toInt64 a9)) (u.1) (u.2.1) (u.2.2)) (fun u : (Nat → Int64) × Int32 × Int32 => (fun (fz2 : Nat → Int64) (q : Int32) (a9 : Int32) => [bDR g x ta o lo go tt lt mo fo ro fl9, bTown g o a pe wo tx ch jo tr dy sd f, bOut g oa fz2]) (u.1) (u.2.1) (u.2.2)) zNo zN0 := by
  refine zX'.ofH (cc := cL_work) (maxL := 5) (rt := (some .int)) (by decide) rfl (Nat.le_of_ble_eq_true rfl) ?_
  intro p e s m args below meth c A ls St hr hlocks htab hin hK hT hA hP hD hS hl
  obtain ⟨hx, hb, hml, hown, hts⟩ := id St
  have hl : lv_has ls 5 [(0, .ref x), (1, .int ww), (2, .int wh), (3, .ref oa)] := hl
  refine lv_aload_n hx hb dL_work_0 rfl (lv_at hl 3 rfl) ?_
  refine lv_iconst (v := 0) hx hb dL_work_1 (by decide) ?_
  refine lv_aload_n hx hb dL_work_2 rfl (lv_at hl 0 rfl) ?_
  refine lv_iload_n hx hb dL_work_3 rfl (lv_at hl 1 rfl) ?_
  refine lv_iload_n hx hb dL_work_4 rfl (lv_at hl 2 rfl) ?_
  refine xcallV' (g := g) (q0 := 0) (ci := 9) (As := [.int ww, .int wh]) (rest := [.int 0, .ref oa]) St hK hT hA hP hD hS hl.1 [0, 1] [2] rfl rfl rfl (c_x_workC l hfl g x ta o lo go tt lt mo fo ro fl9 a pe wo tx ch jo tr dy sd f ww wh b_pe b_wo rf) (cwV 2 hts (zgL (zl4 k1176 k1177 k1178 k621) k641) rfl rfl rfl (by decide +kernel) ⟨Nat.le_of_ble_eq_true rfl, Nat.le_of_ble_eq_true rfl⟩) rfl rfl rfl rfl (Nat.le_of_ble_eq_true rfl) dL_work_5 ⟨(Nat.le_of_ble_eq_true rfl), (Nat.le_of_ble_eq_true rfl)⟩ (fun E ce q9 u9 H locs hpx hP hD hS hce hcv hcl => ?_) (fun q_1 H locs hq2 hP hD hS => ?_)
  · skip
    have hpx : (E = "java/lang/IndexOutOfBoundsException" ∨ E = "java/util/NoSuchElementException") ∧ (E = "java/lang/IndexOutOfBoundsException" → (1, 0) = zoWork ww wh (pe, wo, tx, ch, jo, tr, dy, sd, f)) ∧ (E = "java/util/NoSuchElementException" → (2, 0) = zoWork ww wh (pe, wo, tx, ch, jo, tr, dy, sd, f)) := hpx
    have hP : va_P g.1 vwCl (List.flatten [bOut g oa fz, bDR g x ta o lo go tt lt mo fo ro fl9, bTown g o a pe wo tx ch jo tr dy sd f]) H := hP
    have hD : va_D A (List.flatten [bOut g oa fz, bDR g x ta o lo go tt lt mo fo ro fl9, bTown g o a pe wo tx ch jo tr dy sd f]) := hD
    obtain ⟨hE9, hy3, hy4⟩ := hpx
    rcases hE9 with rfl | rfl
    · skip
      refine vx_catch hown [] ⟨0, 10, 13, 24⟩ [⟨0, 10, 17, 26⟩] (by rw [htab]; rfl) (fun z hz => absurd hz List.not_mem_nil) (by decide) (by decide) (hts _ k1165) ((hT.1.2.2.2.2.1 _ (List.mem_of_getElem? (i := 0) rfl)).use) hce hcv hcl ?_
      refine W.widen (k := 2) (n := 12) (Nat.le_of_ble_eq_true rfl) (Nat.le_of_ble_eq_true rfl) ?_
      refine lv_astore (lv' := [(4, .ref q9), (0, .ref x), (1, .int ww), (2, .int wh), (3, .ref oa)]) hx hb dL_work_13 hl (by decide) rfl (fun ls hl => ?_)
      refine lv_iconst (v := 1) hx hb dL_work_15 (by decide) ?_
      have hL1 : (1 : Int32).toInt = 1 := by decide
      have hP : va_P g.1 vwCl (List.flatten [bOut g oa fz, bDR g x ta o lo go tt lt mo fo ro fl9, bTown g o a pe wo tx ch jo tr dy sd f]) H := hP
      have hD : va_D A (List.flatten [bOut g oa fz, bDR g x ta o lo go tt lt mo fo ro fl9, bTown g o a pe wo tx ch jo tr dy sd f]) := hD
      obtain ⟨hP, hD⟩ := zord (g := g) (Bs' := [bDR g x ta o lo go tt lt mo fo ro fl9, bTown g o a pe wo tx ch jo tr dy sd f, bOut g oa fz]) [1, 2, 0] rfl rfl hP hD
      exact zret_i hx hb hr hlocks hS (Nat.le_of_ble_eq_true rfl) (Nat.le_of_ble_eq_true rfl) dL_work_16 (fz, (1 : Int32), (0 : Int32)) rfl (show ((1, 0) = zoWork ww wh (pe, wo, tx, ch, jo, tr, dy, sd, f)) ∧ ((1 : Int32).toInt = 0 → fz 0 = Int32.toInt64 0) from ⟨(hy3 rfl), (fun h9 => absurd h9 (by decide))⟩) hP hD
    · skip
      refine vx_catch hown [⟨0, 10, 13, 24⟩] ⟨0, 10, 17, 26⟩ [] (by rw [htab]; rfl) (fun z hz => by
            rcases List.mem_cons.mp hz with rfl | hz; · exact Or.inr ⟨by decide, "java/lang/IndexOutOfBoundsException", hts _ k1165, hT.1.2.2.2.2.2.1 _ (List.mem_of_getElem? (i := 16) rfl)⟩
            cases hz) (by decide) (by decide) (hts _ k1166) ((hT.1.2.2.2.2.1 _ (List.mem_of_getElem? (i := 4) rfl)).use) hce hcv hcl ?_
      refine W.widen (k := 2) (n := 12) (Nat.le_of_ble_eq_true rfl) (Nat.le_of_ble_eq_true rfl) ?_
      refine lv_astore (lv' := [(4, .ref q9), (0, .ref x), (1, .int ww), (2, .int wh), (3, .ref oa)]) hx hb dL_work_17 hl (by decide) rfl (fun ls hl => ?_)
      refine lv_iconst (v := 2) hx hb dL_work_19 (by decide) ?_
      have hL2 : (2 : Int32).toInt = 2 := by decide
      have hP : va_P g.1 vwCl (List.flatten [bOut g oa fz, bDR g x ta o lo go tt lt mo fo ro fl9, bTown g o a pe wo tx ch jo tr dy sd f]) H := hP
      have hD : va_D A (List.flatten [bOut g oa fz, bDR g x ta o lo go tt lt mo fo ro fl9, bTown g o a pe wo tx ch jo tr dy sd f]) := hD
      obtain ⟨hP, hD⟩ := zord (g := g) (Bs' := [bDR g x ta o lo go tt lt mo fo ro fl9, bTown g o a pe wo tx ch jo tr dy sd f, bOut g oa fz]) [1, 2, 0] rfl rfl hP hD
      exact zret_i hx hb hr hlocks hS (Nat.le_of_ble_eq_true rfl) (Nat.le_of_ble_eq_true rfl) dL_work_20 (fz, (2 : Int32), (0 : Int32)) rfl (show ((2, 0) = zoWork ww wh (pe, wo, tx, ch, jo, tr, dy, sd, f)) ∧ ((2 : Int32).toInt = 0 → fz 0 = Int32.toInt64 0) from ⟨(hy4 rfl), (fun h9 => absurd h9 (by decide))⟩) hP hD
  · skip
    replace hq2 : ((0, q_1) = zoWork ww wh (pe, wo, tx, ch, jo, tr, dy, sd, f)) := hq2
    have hP : va_P g.1 vwCl (List.flatten [bOut g oa fz, bDR g x ta o lo go tt lt mo fo ro fl9, bTown g o a pe wo tx ch jo tr dy sd f]) H := hP
    have hD : va_D A (List.flatten [bOut g oa fz, bDR g x ta o lo go tt lt mo fo ro fl9, bTown g o a pe wo tx ch jo tr dy sd f]) := hD
    refine W.widen (k := 2) (n := 12) (Nat.le_of_ble_eq_true rfl) (Nat.le_of_ble_eq_true rfl) ?_
    refine W.eq (g2 := F0 m 8 ls [.int q_1, .int 0, .ref oa]) rfl ?_
    refine lv_i2l (v := (q_1 : Int32).toInt64) hx hb dL_work_8 rfl ?_
    refine va_last hx hb hK hP hD hS 0 2 rfl rfl (zin rfl) dL_work_9 (fun H locs hP hD hS => ?_)
    have hP : va_P g.1 vwCl (List.flatten [[(oa, .inl (g.2 2, 1, .inr (.inl (vp_updL fz 0 ((q_1 : Int32).toInt64)))))], bDR g x ta o lo go tt lt mo fo ro fl9, bTown g o a pe wo tx ch jo tr dy sd f]) H := hP
    have hD : va_D A (List.flatten [[(oa, .inl (g.2 2, 1, .inr (.inl (vp_updL fz 0 ((q_1 : Int32).toInt64)))))], bDR g x ta o lo go tt lt mo fo ro fl9, bTown g o a pe wo tx ch jo tr dy sd f]) := hD
    refine lv_goto (tgt := 21) hx hb dL_work_10 (by decide) ?_
    refine lv_iconst (v := 0) hx hb dL_work_21 (by decide) ?_
    have hL0 : (0 : Int32).toInt = 0 := by decide
    have hP : va_P g.1 vwCl (List.flatten [bOut g oa (vp_updL fz 0 ((q_1 : Int32).toInt64)), bDR g x ta o lo go tt lt mo fo ro fl9, bTown g o a pe wo tx ch jo tr dy sd f]) H := hP
    have hD : va_D A (List.flatten [bOut g oa (vp_updL fz 0 ((q_1 : Int32).toInt64)), bDR g x ta o lo go tt lt mo fo ro fl9, bTown g o a pe wo tx ch jo tr dy sd f]) := hD
    obtain ⟨hP, hD⟩ := zord (g := g) (Bs' := [bDR g x ta o lo go tt lt mo fo ro fl9, bTown g o a pe wo tx ch jo tr dy sd f, bOut g oa (vp_updL fz 0 ((q_1 : Int32).toInt64))]) [1, 2, 0] rfl rfl hP hD
    exact zret_i hx hb hr hlocks hS (Nat.le_of_ble_eq_true rfl) (Nat.le_of_ble_eq_true rfl) dL_work_22 (vp_updL fz 0 ((q_1 : Int32).toInt64), (0 : Int32), q_1) rfl (show ((0, q_1) = zoWork ww wh (pe, wo, tx, ch, jo, tr, dy, sd, f)) ∧ ((0 : Int32).toInt = 0 → (vp_updL fz 0 ((q_1 : Int32).toInt64)) 0 = Int32.toInt64 q_1) from ⟨hq2, (fun _ => rfl)⟩) hP hD
