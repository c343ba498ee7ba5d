set_option maxRecDepth 100000 in
set_option maxHeartbeats 4000000 in
theorem m_image (l : Launch) (g : zG) (o : Nat) (a : Nat → Nat) (th : Int32) (hi : Int32) (ac : Int32) (tp : Int32) (ba : Int32) (en : Int32) (tA : Int32) (fl : Int32) (de : Int32) (iD : Int32) (iO : Int32) (tU : Int32) (fm : Nat → Int32) (fk : Nat → Int32) (fa : Nat → Int32) (fc : Nat → Int32) (ft : Nat → Int32) (ff : Nat → Int32) (fb : Nat → Int32) (fi : Nat → Int32) (rfm : rM fm) (rfk : rM fk) : zM' g l yX12_image (Cond.code yX12_image cX12_image 2 none :: zB) ({ frames := 0, cells := 0, slots := 0, locals := 0 } : Room) [.ref o] [bMo g o a th hi ac tp ba en tA fl de iD iO tU fm fk fa fc ft ff fb fi] (fun u : Int32 × Int32 × (Nat → Int32) => (fun (th2 : Int32) (hi2 : Int32) (fk2 : Nat → Int32) => none) (u.1) (u.2.1) (u.2.2)) (fun u : Int32 × Int32 × (Nat → Int32) => (fun (th2 : Int32) (hi2 : Int32) (fk2 : Nat → Int32) => (rM fk2)) (u.1) (u.2.1) (u.2.2)) (fun u : Int32 × Int32 × (Nat → Int32) => (fun (th2 : Int32) (hi2 : Int32) (fk2 : Nat → Int32) => [bMo g o a th2 hi2 ac tp ba en tA fl de iD iO tU fm fk2 fa fc ft ff fb fi]) (u.1) (u.2.1) (u.2.2)) := by
  refine zM'.of (cc := cX12_image) (maxL := 2) (rt := none) (by decide) rfl (Nat.le_of_ble_eq_true rfl) ?_
  intro p e s m args below meth c A ls St hr hlocks hin hK hT hA hP hD hS hl
  obtain ⟨hx, hb, hml, hown, hts⟩ := id St
  have hl : lv_has ls 2 [(0, .ref o)] := hl
  refine lv_aload_n hx hb dX12_image_0 rfl (lv_at hl 0 rfl) ?_
  refine lv_iconst (v := 0) hx hb dX12_image_1 (by decide) ?_
  refine va_put (D := g.1) (ci := 10) (v := .int 0) (ty := .int) (C := RX12) (T := TX12) (N := 20) hx hb hts izRX12 tyX12 tyX12_ok nmX12 hown hK hP hD hS 0 rfl rfl 0 (by decide) (hts _ k871) (fun _ h9 => h9) rfl (by decide +kernel) rfl rfl (Nat.le_of_ble_eq_true rfl) dX12_image_2 (fun H locs hP hD hS => ?_)
  have hP : va_P g.1 vwCl (List.flatten [bMo g o a 0 hi ac tp ba en tA fl de iD iO tU fm fk fa fc ft ff fb fi]) H := hP
  have hD : va_D A (List.flatten [bMo g o a 0 hi ac tp ba en tA fl de iD iO tU fm fk fa fc ft ff fb fi]) := hD
  refine lv_iconst (v := 0) hx hb dX12_image_5 (by decide) ?_
  refine lv_istore_n (lv' := [(1, .int 0), (0, .ref o)]) hx hb dX12_image_6 rfl hl (by decide) rfl (fun ls hl => ?_)
  have hl := lv_sub (l' := [(0, .ref o), (1, .int 0)]) hl [1, 0] rfl
  have LP7_4 : ∀ (kf : Nat) (x_1 : Int32) (fk_2 : Nat → Int32), (0 ≤ x_1.toInt ∧ x_1.toInt ≤ 779) → (rM fk_2) → ∀ (H : Heap) (locs : List Loc) (ls : Array Slot), ((780 - x_1.toInt).toNat) < kf → va_P g.1 vwCl (List.flatten [bMo g o a 0 hi ac tp ba en tA fl de iD iO tU fm fk_2 fa fc ft ff fb fi]) H → va_D A (List.flatten [bMo g o a 0 hi ac tp ba en tA fl de iD iO tU fm fk_2 fa fc ft ff fb fi]) → va_S A s.heap H locs → lv_has ls 2 [(0, .ref o), (1, .int x_1)] → W p l e ({ frames := 0, cells := 0, slots := 0, locals := 0 } : Room) s m args below meth c H locs (0) (0) (zF g (fun u : Int32 × Int32 × (Nat → Int32) => (fun (th2 : Int32) (hi2 : Int32) (fk2 : Nat → Int32) => none) (u.1) (u.2.1) (u.2.2)) (fun u : Int32 × Int32 × (Nat → Int32) => (fun (th2 : Int32) (hi2 : Int32) (fk2 : Nat → Int32) => (rM fk2)) (u.1) (u.2.1) (u.2.2)) (fun u : Int32 × Int32 × (Nat → Int32) => (fun (th2 : Int32) (hi2 : Int32) (fk2 : Nat → Int32) => [bMo g o a th2 hi2 ac tp ba en tA fl de iD iO tU fm fk2 fa fc ft ff fb fi]) (u.1) (u.2.1) (u.2.2)) ({ frames := 0, cells := 0, slots := 0, locals := 0 } : Room) below args s A) (F0 m 7 ls []) := by
    intro kf
    induction kf with
    | zero => intro x_1 fk_2 i3 rfk_2 H locs ls hk; exact absurd hk (Nat.not_lt_zero _)
    | succ kf ih7_5 =>
      intro x_1 fk_2 i3 rfk_2 H locs ls hk7_5 hP hD hS hl
      refine lv_iload_n hx hb dX12_image_7 rfl (lv_at hl 1 rfl) ?_
      refine lv_sipush (v := 779) hx hb dX12_image_8 (by decide) ?_
      refine lv_icmp_ge (tgt := 32) hx hb dX12_image_11 (by decide) (fun cb9 => ?_) (fun cb9 => ?_)
      · skip
        have c6 : 779 ≤ x_1.toInt := zle cb9 (by decide) rfl
        have n7 : 779 ≤ x_1.toInt := Int.le_trans (Int.le_refl _) c6
        refine lv_aload_n hx hb dX12_image_32 rfl (lv_at hl 0 rfl) ?_
        refine lv_iconst (v := 1) hx hb dX12_image_33 (by decide) ?_
        refine va_put (D := g.1) (ci := 10) (v := .int 1) (ty := .boolean) (C := RX12) (T := TX12) (N := 20) hx hb hts izRX12 tyX12 tyX12_ok nmX12 hown hK hP hD hS 0 rfl rfl 3 (by decide) (hts _ k1145) (fun _ h9 => h9) rfl (by decide +kernel) rfl rfl (Nat.le_of_ble_eq_true rfl) dX12_image_34 (fun H locs hP hD hS => ?_)
        have hP : va_P g.1 vwCl (List.flatten [bMo g o a 0 1 ac tp ba en tA fl de iD iO tU fm fk_2 fa fc ft ff fb fi]) H := hP
        have hD : va_D A (List.flatten [bMo g o a 0 1 ac tp ba en tA fl de iD iO tU fm fk_2 fa fc ft ff fb fi]) := hD
        have hP : va_P g.1 vwCl (List.flatten [bMo g o a 0 1 ac tp ba en tA fl de iD iO tU fm fk_2 fa fc ft ff fb fi]) H := hP
        have hD : va_D A (List.flatten [bMo g o a 0 1 ac tp ba en tA fl de iD iO tU fm fk_2 fa fc ft ff fb fi]) := hD
        exact mret_v hx hb hr hlocks hS (Nat.le_of_ble_eq_true rfl) (Nat.le_of_ble_eq_true rfl) dX12_image_37 ((0 : Int32), (1 : Int32), fk_2) rfl (show (rM fk_2) from (by first | assumption | omega | decide | exact rfl | exact zb01 (by omega) | exact Or.inl (by decide) | exact Or.inr (by first | omega | decide))) hP hD
      · skip
        have c8 : x_1.toInt < 779 := zlti (Int32.not_le.mp cb9) rfl (by decide)
        have n9 : x_1.toInt ≤ 778 := zL1 (b := 779) c8 (Int.le_refl _) (by decide)
        refine lv_aload_n hx hb dX12_image_14 rfl (lv_at hl 0 rfl) ?_
        refine va_get (D := g.1) (ci := 10) (v := .ref (a 1)) (C := RX12) (T := TX12) (N := 20) hx hb hts izRX12 hown hK hP 0 rfl rfl 2 (by decide) (hts _ k816) (fun _ h9 => h9) rfl dX12_image_15 ?_
        refine lv_iload_n hx hb dX12_image_18 rfl (lv_at hl 1 rfl) ?_
        refine lv_aload_n hx hb dX12_image_19 rfl (lv_at hl 0 rfl) ?_
        refine va_get (D := g.1) (ci := 10) (v := .ref (a 0)) (C := RX12) (T := TX12) (N := 20) hx hb hts izRX12 hown hK hP 0 rfl rfl 1 (by decide) (hts _ k815) (fun _ h9 => h9) rfl dX12_image_20 ?_
        refine lv_iload_n hx hb dX12_image_23 rfl (lv_at hl 1 rfl) ?_
        refine va_iald hx hb hK hP 1 0 rfl rfl (zinK (a := 0) (b := 778) i3.1 n9 (by decide)) dX12_image_24 ?_
        refine va_iast hx hb hK hP hD hS 2 0 rfl rfl (zinK (a := 0) (b := 778) i3.1 n9 (by decide)) dX12_image_25 (fun H locs hP hD hS => ?_)
        obtain ⟨fk_10, rfk_10, hP, hD⟩ : ∃ fk_10 : Nat → Int32, rM fk_10 ∧ va_P g.1 vwCl (List.flatten [bMo g o a 0 hi ac tp ba en tA fl de iD iO tU fm fk_10 fa fc ft ff fb fi]) H ∧ va_D A (List.flatten [bMo g o a 0 hi ac tp ba en tA fl de iD iO tU fm fk_10 fa fc ft ff fb fi]) := ⟨upd fk_2 x_1.toNatClampNeg (fm x_1.toNatClampNeg), (rM_cp rfk_2 rfm), hP, hD⟩
        refine ziinc3 (n' := 1) (a' := 1) (b' := 779) (lv' := fun v9 => [(1, .int v9), (0, .ref o)]) hx hb dX12_image_26 hl (k := 1) rfl (by decide) (fun _ => rfl) (zaddK (i := x_1.toInt) (j := 1) rfl (by decide) i3.1 n9 (Int.le_refl _) (Int.le_refl _) (by decide)) (fun x_11 ls hx_11 hl => ?_)
        refine lv_goto (tgt := 7) hx hb dX12_image_29 (by decide) ?_
        have hl := lv_sub (l' := [(0, .ref o), (1, .int x_11)]) hl [1, 0] rfl
        have hP : va_P g.1 vwCl (List.flatten [bMo g o a 0 hi ac tp ba en tA fl de iD iO tU fm fk_10 fa fc ft ff fb fi]) H := hP
        have hD : va_D A (List.flatten [bMo g o a 0 hi ac tp ba en tA fl de iD iO tU fm fk_10 fa fc ft ff fb fi]) := hD
        exact ih7_5 x_11 fk_10 ⟨(Int.le_trans (by decide) hx_11.2.1), hx_11.2.2⟩ rfk_10 H _ ls (zmK hx_11.1 (by decide) n9 (by decide) hk7_5)  hP hD hS (lv_sub hl [0, 1] rfl)
  have hP : va_P g.1 vwCl (List.flatten [bMo g o a 0 hi ac tp ba en tA fl de iD iO tU fm fk fa fc ft ff fb fi]) H := hP
  have hD : va_D A (List.flatten [bMo g o a 0 hi ac tp ba en tA fl de iD iO tU fm fk fa fc ft ff fb fi]) := hD
  exact LP7_4 _ 0 fk (by decide) rfk H _ ls (Nat.lt_succ_self _)  hP hD hS (lv_sub hl [0, 1] rfl)
