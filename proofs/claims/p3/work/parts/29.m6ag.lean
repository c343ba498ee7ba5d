set_option maxRecDepth 100000 in
set_option maxHeartbeats 4000000 in
theorem m_believedF (l : Launch) (g : zG) (o : Nat) (a : Nat → Nat) (th : Int32) (hi : Int32) (ac : Int32) (tp : Int32) (ba : Int32) (en : Int32) (tA : Int32) (fl : Int32) (de : Int32) (iD : Int32) (iO : Int32) (tU : Int32) (fm : Nat → Int32) (fk : Nat → Int32) (fa : Nat → Int32) (fc : Nat → Int32) (ft : Nat → Int32) (ff : Nat → Int32) (fb : Nat → Int32) (fi : Nat → Int32) (rfm : rM fm) : zM' g l yX12_believed (Cond.code yX12_believed cX12_believed 3 (some .int) :: zB) ({ frames := 2, cells := 0, slots := 0, locals := 43 } : Room) [.ref o] [bMo g o a th hi ac tp ba en tA fl de iD iO tU fm fk fa fc ft ff fb fi] (fun _ : Unit => some (.int (zbel fm (fm 3).toInt.toNat))) (fun _ : Unit => True) (fun _ : Unit => [bMo g o a th hi ac tp ba en tA fl de iD iO tU fm fk fa fc ft ff fb fi]) := by
  refine zM'.of (cc := cX12_believed) (maxL := 3) (rt := (some .int)) (by decide) rfl (Nat.le_of_ble_eq_true rfl) ?_
  intro p e s m args below meth c A ls St hr hlocks hin hK hT hA hP hD hS hl
  obtain ⟨hx, hb, hml, hown, hts⟩ := id St
  have hl : lv_has ls 3 [(0, .ref o)] := hl
  refine lv_iconst (v := 0) hx hb dX12_believed_0 (by decide) ?_
  refine lv_istore_n (lv' := [(1, .int 0), (0, .ref o)]) hx hb dX12_believed_1 rfl hl (by decide) rfl (fun ls hl => ?_)
  refine lv_iconst (v := 0) hx hb dX12_believed_2 (by decide) ?_
  refine lv_istore_n (lv' := [(2, .int 0), (1, .int 0), (0, .ref o)]) hx hb dX12_believed_3 rfl hl (by decide) rfl (fun ls hl => ?_)
  have hl := lv_sub (l' := [(0, .ref o), (1, .int 0), (2, .int 0)]) hl [2, 1, 0] rfl
  have LP4_6 : ∀ (kf : Nat) (x_1 : Int32) (x_2 : Int32), (0 ≤ x_2.toInt ∧ x_2.toInt ≤ 8) → (x_1.toInt = (zbel fm (x_2.toInt).toNat).toInt) → (x_2.toInt ≤ (fm 3).toInt) → ∀ (H : Heap) (locs : List Loc) (ls : Array Slot), ((9 - x_2.toInt).toNat) < kf → va_P g.1 vwCl (List.flatten [bMo g o a th hi ac tp ba en tA fl de iD iO tU fm fk fa fc ft ff fb fi]) H → va_D A (List.flatten [bMo g o a th hi ac tp ba en tA fl de iD iO tU fm fk fa fc ft ff fb fi]) → va_S A s.heap H locs → lv_has ls 3 [(0, .ref o), (1, .int x_1), (2, .int x_2)] → W p l e ({ frames := 2, cells := 0, slots := 0, locals := 43 } : Room) s m args below meth c H locs (0) (0) (zF g (fun _ : Unit => some (.int (zbel fm (fm 3).toInt.toNat))) (fun _ : Unit => True) (fun _ : Unit => [bMo g o a th hi ac tp ba en tA fl de iD iO tU fm fk fa fc ft ff fb fi]) ({ frames := 2, cells := 0, slots := 0, locals := 43 } : Room) below args s A) (F0 m 4 ls []) := by
    intro kf
    induction kf with
    | zero => intro x_1 x_2 i3 i4 i5 H locs ls hk; exact absurd hk (Nat.not_lt_zero _)
    | succ kf ih4_7 =>
      intro x_1 x_2 i3 i4 i5 H locs ls hk4_7 hP hD hS hl
      refine lv_iload_n hx hb dX12_believed_4 rfl (lv_at hl 2 rfl) ?_
      refine lv_aload_n hx hb dX12_believed_5 rfl (lv_at hl 0 rfl) ?_
      refine va_get (D := g.1) (ci := 10) (v := .ref (a 0)) (C := RX12) (T := TX12) (N := 20) hx hb hts izRX12 hown hK hP 0 rfl rfl 1 (by decide) (hts _ k815) (fun _ h9 => h9) rfl dX12_believed_6 ?_
      refine lv_iconst (v := 3) hx hb dX12_believed_9 (by decide) ?_
      refine va_iald hx hb hK hP 1 0 rfl rfl (zin rfl) dX12_believed_10 ?_
      refine zgq (r := fm 3) rfl (rM3 rfm) (fun x_8 hx_8 => ?_)
      refine lv_icmp_ge (tgt := 41) hx hb dX12_believed_11 (by decide) (fun cb9 => ?_) (fun cb9 => ?_)
      · skip
        have c9 : x_8.toInt ≤ x_2.toInt := zle cb9 rfl rfl
        refine lv_iload_n hx hb dX12_believed_41 rfl (lv_at hl 1 rfl) ?_
        refine ztop (r := (zbel fm (fm 3).toInt.toNat)) (Int32.toInt_inj.mp (by have h9 := i4; rw [show x_2.toInt = (fm 3).toInt by omega] at h9; exact h9)) ?_
        have hP : va_P g.1 vwCl (List.flatten [bMo g o a th hi ac tp ba en tA fl de iD iO tU fm fk fa fc ft ff fb fi]) H := hP
        have hD : va_D A (List.flatten [bMo g o a th hi ac tp ba en tA fl de iD iO tU fm fk fa fc ft ff fb fi]) := hD
        exact mret_i hx hb hr hlocks hS (Nat.le_of_ble_eq_true rfl) (Nat.le_of_ble_eq_true rfl) dX12_believed_42 () rfl trivial hP hD
      · skip
        have c10 : x_2.toInt < x_8.toInt := zlti (Int32.not_le.mp cb9) rfl rfl
        have n11 : x_2.toInt ≤ 7 := zL1 (b := 8) c10 hx_8.2.1 (by decide)
        have n12 : 1 ≤ x_8.toInt := zL2 (a := 0) c10 i3.1 (by decide)
        refine lv_iload_n hx hb dX12_believed_14 rfl (lv_at hl 1 rfl) ?_
        refine lv_aload_n hx hb dX12_believed_15 rfl (lv_at hl 0 rfl) ?_
        refine lv_iload_n hx hb dX12_believed_16 rfl (lv_at hl 2 rfl) ?_
        refine mcallV' (g := g) (q0 := 0) (ci := 10) (As := [.int x_2]) (rest := [.int x_1]) St hK hT hA hP hD hS hl.1 [0] [] rfl rfl rfl (m_isHereF l g o a th hi ac tp ba en tA fl de iD iO tU fm fk fa fc ft ff fb fi x_2 (⟨i3.1, n11⟩)) (cwV 1 hts (zgL (zl4 k844 k845 k846 k837) k839) rfl rfl rfl (by decide +kernel) ⟨Nat.le_of_ble_eq_true rfl, Nat.le_of_ble_eq_true rfl⟩) rfl rfl rfl rfl (Nat.le_of_ble_eq_true rfl) dX12_believed_17 ⟨(Nat.le_of_ble_eq_true rfl), (Nat.le_of_ble_eq_true rfl)⟩ (fun q_13 H locs hq14 hP hD hS => ?_)
        replace hq14 : (q_13 = 1 ∧ fm (15 + 5 * x_2.toInt.toNat) = -1 ∨ q_13 = 0 ∧ ¬ fm (15 + 5 * x_2.toInt.toNat) = -1) := hq14
        have hP : va_P g.1 vwCl (List.flatten [bMo g o a th hi ac tp ba en tA fl de iD iO tU fm fk fa fc ft ff fb fi]) H := hP
        have hD : va_D A (List.flatten [bMo g o a th hi ac tp ba en tA fl de iD iO tU fm fk fa fc ft ff fb fi]) := hD
        refine W.widen (k := 0) (n := 0) (Nat.le_of_ble_eq_true rfl) (Nat.le_of_ble_eq_true rfl) ?_
        refine W.eq (g2 := F0 m 20 ls [.int q_13, .int x_1]) rfl ?_
        rcases hq14 with ⟨rfl, hq14_k⟩ | ⟨rfl, hq14_k⟩
        · skip
          refine lv_if_eq (tgt := 32) hx hb dX12_believed_20 (by decide) (fun c15 => absurd c15 (by decide)) (fun _ => ?_)
          refine lv_aload_n hx hb dX12_believed_23 rfl (lv_at hl 0 rfl) ?_
          refine lv_iload_n hx hb dX12_believed_24 rfl (lv_at hl 2 rfl) ?_
          refine lv_iconst (v := 0) hx hb dX12_believed_25 (by decide) ?_
          refine mcallV' (g := g) (q0 := 0) (ci := 10) (As := [.int x_2, .int 0]) (rest := [.int x_1]) St hK hT hA hP hD hS hl.1 [0] [] rfl rfl rfl (m_ofB l g o a th hi ac tp ba en tA fl de iD iO tU fm fk fa fc ft ff fb fi x_2 (⟨i3.1, n11⟩)) (cwV 2 hts (zgL (zl4 k840 k841 k842 k837) k829) rfl rfl rfl (by decide +kernel) ⟨Nat.le_of_ble_eq_true rfl, Nat.le_of_ble_eq_true rfl⟩) rfl rfl rfl rfl (Nat.le_of_ble_eq_true rfl) dX12_believed_26 ⟨(Nat.le_of_ble_eq_true rfl), (Nat.le_of_ble_eq_true rfl)⟩ (fun q_16 H locs hq17 hP hD hS => ?_)
          replace hq17 : (q_16 = fm (11 + 5 * x_2.toInt.toNat)) := hq17
          have hP : va_P g.1 vwCl (List.flatten [bMo g o a th hi ac tp ba en tA fl de iD iO tU fm fk fa fc ft ff fb fi]) H := hP
          have hD : va_D A (List.flatten [bMo g o a th hi ac tp ba en tA fl de iD iO tU fm fk fa fc ft ff fb fi]) := hD
          refine W.widen (k := 0) (n := 0) (Nat.le_of_ble_eq_true rfl) (Nat.le_of_ble_eq_true rfl) ?_
          refine W.eq (g2 := F0 m 29 ls [.int q_16, .int x_1]) rfl ?_
          refine lv_goto (tgt := 33) hx hb dX12_believed_29 (by decide) ?_
          refine lv_iadd hx hb dX12_believed_33 ?_
          refine lv_istore_n (lv' := [(1, .int (x_1 + q_16)), (0, .ref o), (2, .int x_2)]) hx hb dX12_believed_34 rfl hl (by decide) rfl (fun ls hl => ?_)
          refine ziinc3 (n' := 1) (a' := 1) (b' := 8) (lv' := fun v9 => [(2, .int v9), (1, .int (x_1 + q_16)), (0, .ref o)]) hx hb dX12_believed_35 hl (k := 2) rfl (by decide) (fun _ => rfl) (zaddK (i := x_2.toInt) (j := 1) rfl (by decide) i3.1 n11 (Int.le_refl _) (Int.le_refl _) (by decide)) (fun x_18 ls hx_18 hl => ?_)
          refine lv_goto (tgt := 4) hx hb dX12_believed_38 (by decide) ?_
          have hl := lv_sub (l' := [(0, .ref o), (1, .int (x_1 + q_16)), (2, .int x_18)]) hl [2, 1, 0] rfl
          have hP : va_P g.1 vwCl (List.flatten [bMo g o a th hi ac tp ba en tA fl de iD iO tU fm fk fa fc ft ff fb fi]) H := hP
          have hD : va_D A (List.flatten [bMo g o a th hi ac tp ba en tA fl de iD iO tU fm fk fa fc ft ff fb fi]) := hD
          exact ih4_7 (x_1 + q_16) x_18 ⟨(Int.le_trans (by decide) hx_18.2.1), hx_18.2.2⟩ (zbelS i4 hx_18.1 (by omega) (by rw [if_pos hq14_k]; exact hq17)) (by first | omega | assumption | decide) H _ ls (zmK hx_18.1 (by decide) n11 (by decide) hk4_7)  hP hD hS (lv_sub hl [0, 1, 2] rfl)
        · skip
          refine lv_if_eq (tgt := 32) hx hb dX12_believed_20 (by decide) (fun _ => ?_) (fun c19 => absurd (by decide) c19)
          refine lv_iconst (v := 0) hx hb dX12_believed_32 (by decide) ?_
          refine lv_iadd hx hb dX12_believed_33 ?_
          refine lv_istore_n (lv' := [(1, .int (x_1 + 0)), (0, .ref o), (2, .int x_2)]) hx hb dX12_believed_34 rfl hl (by decide) rfl (fun ls hl => ?_)
          refine ziinc3 (n' := 1) (a' := 1) (b' := 8) (lv' := fun v9 => [(2, .int v9), (1, .int (x_1 + 0)), (0, .ref o)]) hx hb dX12_believed_35 hl (k := 2) rfl (by decide) (fun _ => rfl) (zaddK (i := x_2.toInt) (j := 1) rfl (by decide) i3.1 n11 (Int.le_refl _) (Int.le_refl _) (by decide)) (fun x_20 ls hx_20 hl => ?_)
          refine lv_goto (tgt := 4) hx hb dX12_believed_38 (by decide) ?_
          have hl := lv_sub (l' := [(0, .ref o), (1, .int (x_1 + 0)), (2, .int x_20)]) hl [2, 1, 0] rfl
          have hP : va_P g.1 vwCl (List.flatten [bMo g o a th hi ac tp ba en tA fl de iD iO tU fm fk fa fc ft ff fb fi]) H := hP
          have hD : va_D A (List.flatten [bMo g o a th hi ac tp ba en tA fl de iD iO tU fm fk fa fc ft ff fb fi]) := hD
          exact ih4_7 (x_1 + 0) x_20 ⟨(Int.le_trans (by decide) hx_20.2.1), hx_20.2.2⟩ (zbelS i4 hx_20.1 (by omega) (by rw [if_neg hq14_k])) (by first | omega | assumption | decide) H _ ls (zmK hx_20.1 (by decide) n11 (by decide) hk4_7)  hP hD hS (lv_sub hl [0, 1, 2] rfl)
  have hL0 : (0 : Int32).toInt = 0 := by decide
  have hP : va_P g.1 vwCl (List.flatten [bMo g o a th hi ac tp ba en tA fl de iD iO tU fm fk fa fc ft ff fb fi]) s.heap := hP
  have hD : va_D A (List.flatten [bMo g o a th hi ac tp ba en tA fl de iD iO tU fm fk fa fc ft ff fb fi]) := hD
  exact LP4_6 _ 0 0 (by decide) rfl (show (0 : Int32).toInt ≤ (fm 3).toInt from by rw [show (0 : Int32).toInt = 0 by decide]; exact (rM3 rfm).1) s.heap _ ls (Nat.lt_succ_self _)  hP hD hS (lv_sub hl [0, 1, 2] rfl)
