set_option maxRecDepth 100000 in
set_option maxHeartbeats 4000000 in
theorem m_back (l : Launch) (g : zG) (o : Nat) (a : Nat → Nat) (th : Int32) (hi : Int32) (ac : Int32) (tp : Int32) (ba : Int32) (en : Int32) (tA : Int32) (fl : Int32) (de : Int32) (iD : Int32) (iO : Int32) (tU : Int32) (fm : Nat → Int32) (fk : Nat → Int32) (fa : Nat → Int32) (fc : Nat → Int32) (ft : Nat → Int32) (ff : Nat → Int32) (fb : Nat → Int32) (fi : Nat → Int32) (rfm : rM fm) (rfk : rM fk) (hac : 0 ≤ ac.toInt ∧ ac.toInt ≤ 12) : zM' g l yX12_back (Cond.code yX12_back cX12_back 2 (some .boolean) :: zB) ({ frames := 0, cells := 0, slots := 0, locals := 0 } : Room) [.ref o] [bMo g o a th hi ac tp ba en tA fl de iD iO tU fm fk fa fc ft ff fb fi] (fun u : Int32 × Int32 × (Nat → Int32) × Int32 => (fun (th2 : Int32) (ac2 : Int32) (fm2 : Nat → Int32) (q : Int32) => some (.int q)) (u.1) (u.2.1) (u.2.2.1) (u.2.2.2)) (fun u : Int32 × Int32 × (Nat → Int32) × Int32 => (fun (th2 : Int32) (ac2 : Int32) (fm2 : Nat → Int32) (q : Int32) => (rM fm2) ∧ (0 ≤ ac2.toInt ∧ ac2.toInt ≤ 12) ∧ (q = 0 ∨ q = 1)) (u.1) (u.2.1) (u.2.2.1) (u.2.2.2)) (fun u : Int32 × Int32 × (Nat → Int32) × Int32 => (fun (th2 : Int32) (ac2 : Int32) (fm2 : Nat → Int32) (q : Int32) => [bMo g o a th2 hi ac2 tp ba en tA fl de iD iO tU fm2 fk fa fc ft ff fb fi]) (u.1) (u.2.1) (u.2.2.1) (u.2.2.2)) := by
  refine zM'.of (cc := cX12_back) (maxL := 2) (rt := (some .boolean)) (by decide) rfl (Nat.le_of_ble_eq_true rfl) ?_
  intro p e s m args below meth c A ls St hr hlocks hin hK hT hA hP hD hS hl
  obtain ⟨hx, hb, hml, hown, hts⟩ := id St
  have hl : lv_has ls 2 [(0, .ref o)] := hl
  refine lv_aload_n hx hb dX12_back_0 rfl (lv_at hl 0 rfl) ?_
  refine lv_iconst (v := 0) hx hb dX12_back_1 (by decide) ?_
  refine va_put (D := g.1) (ci := 10) (v := .int 0) (ty := .int) (C := RX12) (T := TX12) (N := 20) hx hb hts izRX12 tyX12 tyX12_ok nmX12 hown hK hP hD hS 0 rfl rfl 0 (by decide) (hts _ k871) (fun _ h9 => h9) rfl (by decide +kernel) rfl rfl (Nat.le_of_ble_eq_true rfl) dX12_back_2 (fun H locs hP hD hS => ?_)
  have hP : va_P g.1 vwCl (List.flatten [bMo g o a 0 hi ac tp ba en tA fl de iD iO tU fm fk fa fc ft ff fb fi]) H := hP
  have hD : va_D A (List.flatten [bMo g o a 0 hi ac tp ba en tA fl de iD iO tU fm fk fa fc ft ff fb fi]) := hD
  refine lv_aload_n hx hb dX12_back_5 rfl (lv_at hl 0 rfl) ?_
  refine va_get (D := g.1) (ci := 10) (v := .int hi) (C := RX12) (T := TX12) (N := 20) hx hb hts izRX12 hown hK hP 0 rfl rfl 3 (by decide) (hts _ k1145) (fun _ h9 => h9) rfl dX12_back_6 ?_
  refine lv_if_ne (tgt := 14) hx hb dX12_back_9 (by decide) (fun cb9 => ?_) (fun cb9 => ?_)
  · skip
    have c1 : ¬ hi.toInt = 0 := zne cb9 rfl (by decide)
    refine lv_iconst (v := 0) hx hb dX12_back_14 (by decide) ?_
    refine lv_istore_n (lv' := [(1, .int 0), (0, .ref o)]) hx hb dX12_back_15 rfl hl (by decide) rfl (fun ls hl => ?_)
    have hl := lv_sub (l' := [(0, .ref o), (1, .int 0)]) hl [1, 0] rfl
    have LP16_5 : ∀ (kf : Nat) (x_2 : Int32) (fm_3 : Nat → Int32), (0 ≤ x_2.toInt ∧ x_2.toInt ≤ 779) → (rM fm_3) → ∀ (H : Heap) (locs : List Loc) (ls : Array Slot), ((780 - x_2.toInt).toNat) < kf → va_P g.1 vwCl (List.flatten [bMo g o a 0 hi ac tp ba en tA fl de iD iO tU fm_3 fk fa fc ft ff fb fi]) H → va_D A (List.flatten [bMo g o a 0 hi ac tp ba en tA fl de iD iO tU fm_3 fk fa fc ft ff fb fi]) → va_S A s.heap H locs → lv_has ls 2 [(0, .ref o), (1, .int x_2)] → W p l e ({ frames := 0, cells := 0, slots := 0, locals := 0 } : Room) s m args below meth c H locs (0) (0) (zF g (fun u : Int32 × Int32 × (Nat → Int32) × Int32 => (fun (th2 : Int32) (ac2 : Int32) (fm2 : Nat → Int32) (q : Int32) => some (.int q)) (u.1) (u.2.1) (u.2.2.1) (u.2.2.2)) (fun u : Int32 × Int32 × (Nat → Int32) × Int32 => (fun (th2 : Int32) (ac2 : Int32) (fm2 : Nat → Int32) (q : Int32) => (rM fm2) ∧ (0 ≤ ac2.toInt ∧ ac2.toInt ≤ 12) ∧ (q = 0 ∨ q = 1)) (u.1) (u.2.1) (u.2.2.1) (u.2.2.2)) (fun u : Int32 × Int32 × (Nat → Int32) × Int32 => (fun (th2 : Int32) (ac2 : Int32) (fm2 : Nat → Int32) (q : Int32) => [bMo g o a th2 hi ac2 tp ba en tA fl de iD iO tU fm2 fk fa fc ft ff fb fi]) (u.1) (u.2.1) (u.2.2.1) (u.2.2.2)) ({ frames := 0, cells := 0, slots := 0, locals := 0 } : Room) below args s A) (F0 m 16 ls []) := by
      intro kf
      induction kf with
      | zero => intro x_2 fm_3 i4 rfm_3 H locs ls hk; exact absurd hk (Nat.not_lt_zero _)
      | succ kf ih16_6 =>
        intro x_2 fm_3 i4 rfm_3 H locs ls hk16_6 hP hD hS hl
        refine lv_iload_n hx hb dX12_back_16 rfl (lv_at hl 1 rfl) ?_
        refine lv_sipush (v := 779) hx hb dX12_back_17 (by decide) ?_
        refine lv_icmp_ge (tgt := 41) hx hb dX12_back_20 (by decide) (fun cb9 => ?_) (fun cb9 => ?_)
        · skip
          have c7 : 779 ≤ x_2.toInt := zle cb9 (by decide) rfl
          have n8 : 779 ≤ x_2.toInt := Int.le_trans (Int.le_refl _) c7
          refine lv_aload_n hx hb dX12_back_41 rfl (lv_at hl 0 rfl) ?_
          refine lv_iconst (v := 0) hx hb dX12_back_42 (by decide) ?_
          refine va_put (D := g.1) (ci := 10) (v := .int 0) (ty := .int) (C := RX12) (T := TX12) (N := 20) hx hb hts izRX12 tyX12 tyX12_ok nmX12 hown hK hP hD hS 0 rfl rfl 6 (by decide) (hts _ k973) (fun _ h9 => h9) rfl (by decide +kernel) rfl rfl (Nat.le_of_ble_eq_true rfl) dX12_back_43 (fun H locs hP hD hS => ?_)
          have hP : va_P g.1 vwCl (List.flatten [bMo g o a 0 hi 0 tp ba en tA fl de iD iO tU fm_3 fk fa fc ft ff fb fi]) H := hP
          have hD : va_D A (List.flatten [bMo g o a 0 hi 0 tp ba en tA fl de iD iO tU fm_3 fk fa fc ft ff fb fi]) := hD
          refine lv_iconst (v := 1) hx hb dX12_back_46 (by decide) ?_
          have hP : va_P g.1 vwCl (List.flatten [bMo g o a 0 hi 0 tp ba en tA fl de iD iO tU fm_3 fk fa fc ft ff fb fi]) H := hP
          have hD : va_D A (List.flatten [bMo g o a 0 hi 0 tp ba en tA fl de iD iO tU fm_3 fk fa fc ft ff fb fi]) := hD
          exact mret_z hx hb hr hlocks hS (Nat.le_of_ble_eq_true rfl) (Nat.le_of_ble_eq_true rfl) dX12_back_47 ((0 : Int32), (0 : Int32), fm_3, (1 : Int32)) rfl (by decide) (show (rM fm_3) ∧ (0 ≤ (0 : Int32).toInt ∧ (0 : Int32).toInt ≤ 12) ∧ (1 = 0 ∨ 1 = 1) from ⟨(by first | assumption | omega | decide | exact rfl | exact zb01 (by omega) | exact Or.inl (by decide) | exact Or.inr (by first | omega | decide)), (by first | assumption | omega | decide | exact rfl | exact zb01 (by omega) | exact Or.inl (by decide) | exact Or.inr (by first | omega | decide)), (by first | assumption | omega | decide | exact rfl | exact zb01 (by omega) | exact Or.inl (by decide) | exact Or.inr (by first | omega | decide))⟩) hP hD
        · skip
          have c9 : x_2.toInt < 779 := zlti (Int32.not_le.mp cb9) rfl (by decide)
          have n10 : x_2.toInt ≤ 778 := zL1 (b := 779) c9 (Int.le_refl _) (by decide)
          refine lv_aload_n hx hb dX12_back_23 rfl (lv_at hl 0 rfl) ?_
          refine va_get (D := g.1) (ci := 10) (v := .ref (a 0)) (C := RX12) (T := TX12) (N := 20) hx hb hts izRX12 hown hK hP 0 rfl rfl 1 (by decide) (hts _ k815) (fun _ h9 => h9) rfl dX12_back_24 ?_
          refine lv_iload_n hx hb dX12_back_27 rfl (lv_at hl 1 rfl) ?_
          refine lv_aload_n hx hb dX12_back_28 rfl (lv_at hl 0 rfl) ?_
          refine va_get (D := g.1) (ci := 10) (v := .ref (a 1)) (C := RX12) (T := TX12) (N := 20) hx hb hts izRX12 hown hK hP 0 rfl rfl 2 (by decide) (hts _ k816) (fun _ h9 => h9) rfl dX12_back_29 ?_
          refine lv_iload_n hx hb dX12_back_32 rfl (lv_at hl 1 rfl) ?_
          refine va_iald hx hb hK hP 2 0 rfl rfl (zinK (a := 0) (b := 778) i4.1 n10 (by decide)) dX12_back_33 ?_
          refine va_iast hx hb hK hP hD hS 1 0 rfl rfl (zinK (a := 0) (b := 778) i4.1 n10 (by decide)) dX12_back_34 (fun H locs hP hD hS => ?_)
          obtain ⟨fm_11, rfm_11, hP, hD⟩ : ∃ fm_11 : Nat → Int32, rM fm_11 ∧ va_P g.1 vwCl (List.flatten [bMo g o a 0 hi ac tp ba en tA fl de iD iO tU fm_11 fk fa fc ft ff fb fi]) H ∧ va_D A (List.flatten [bMo g o a 0 hi ac tp ba en tA fl de iD iO tU fm_11 fk fa fc ft ff fb fi]) := ⟨upd fm_3 x_2.toNatClampNeg (fk x_2.toNatClampNeg), (rM_cp rfm_3 rfk), hP, hD⟩
          refine ziinc3 (n' := 1) (a' := 1) (b' := 779) (lv' := fun v9 => [(1, .int v9), (0, .ref o)]) hx hb dX12_back_35 hl (k := 1) rfl (by decide) (fun _ => rfl) (zaddK (i := x_2.toInt) (j := 1) rfl (by decide) i4.1 n10 (Int.le_refl _) (Int.le_refl _) (by decide)) (fun x_12 ls hx_12 hl => ?_)
          refine lv_goto (tgt := 16) hx hb dX12_back_38 (by decide) ?_
          have hl := lv_sub (l' := [(0, .ref o), (1, .int x_12)]) hl [1, 0] rfl
          have hP : va_P g.1 vwCl (List.flatten [bMo g o a 0 hi ac tp ba en tA fl de iD iO tU fm_11 fk fa fc ft ff fb fi]) H := hP
          have hD : va_D A (List.flatten [bMo g o a 0 hi ac tp ba en tA fl de iD iO tU fm_11 fk fa fc ft ff fb fi]) := hD
          exact ih16_6 x_12 fm_11 ⟨(Int.le_trans (by decide) hx_12.2.1), hx_12.2.2⟩ rfm_11 H _ ls (zmK hx_12.1 (by decide) n10 (by decide) hk16_6)  hP hD hS (lv_sub hl [0, 1] rfl)
    have hP : va_P g.1 vwCl (List.flatten [bMo g o a 0 hi ac tp ba en tA fl de iD iO tU fm fk fa fc ft ff fb fi]) H := hP
    have hD : va_D A (List.flatten [bMo g o a 0 hi ac tp ba en tA fl de iD iO tU fm fk fa fc ft ff fb fi]) := hD
    exact LP16_5 _ 0 fm (by decide) rfm H _ ls (Nat.lt_succ_self _)  hP hD hS (lv_sub hl [0, 1] rfl)
  · skip
    have c13 : hi.toInt = 0 := zeq cb9 rfl (by decide)
    have n14 : 0 ≤ hi.toInt := Int.le_trans (Int.le_refl _) (Int.le_of_eq c13.symm)
    have n15 : hi.toInt ≤ 0 := Int.le_trans (Int.le_of_eq c13) (Int.le_refl _)
    refine lv_iconst (v := 0) hx hb dX12_back_12 (by decide) ?_
    have hP : va_P g.1 vwCl (List.flatten [bMo g o a 0 hi ac tp ba en tA fl de iD iO tU fm fk fa fc ft ff fb fi]) H := hP
    have hD : va_D A (List.flatten [bMo g o a 0 hi ac tp ba en tA fl de iD iO tU fm fk fa fc ft ff fb fi]) := hD
    exact mret_z hx hb hr hlocks hS (Nat.le_of_ble_eq_true rfl) (Nat.le_of_ble_eq_true rfl) dX12_back_13 ((0 : Int32), ac, fm, (0 : Int32)) rfl (by decide) (show (rM fm) ∧ (0 ≤ ac.toInt ∧ ac.toInt ≤ 12) ∧ (0 = 0 ∨ 0 = 1) from ⟨(by first | assumption | omega | decide | exact rfl | exact zb01 (by omega) | exact Or.inl (by decide) | exact Or.inr (by first | omega | decide)), (by first | assumption | omega | decide | exact rfl | exact zb01 (by omega) | exact Or.inl (by decide) | exact Or.inr (by first | omega | decide)), (by first | assumption | omega | decide | exact rfl | exact zb01 (by omega) | exact Or.inl (by decide) | exact Or.inr (by first | omega | decide))⟩) hP hD
