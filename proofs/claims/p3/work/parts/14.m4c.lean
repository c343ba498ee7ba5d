set_option maxRecDepth 100000 in
set_option maxHeartbeats 4000000 in
theorem m_comesBack (l : Launch) (g : zG) (o : Nat) (a : Nat → Nat) (th : Int32) (hi : Int32) (ac : Int32) (tp : Int32) (ba : Int32) (en : Int32) (tA : Int32) (fl : Int32) (de : Int32) (iD : Int32) (iO : Int32) (tU : Int32) (fm : Nat → Int32) (fk : Nat → Int32) (fa : Nat → Int32) (fc : Nat → Int32) (ft : Nat → Int32) (ff : Nat → Int32) (fb : Nat → Int32) (fi : Nat → Int32) (rfm : rM fm) (rfa : rM fa) : zM' g l yX12_comesBack (Cond.code yX12_comesBack cX12_comesBack 2 none :: zB) ({ frames := 0, cells := 0, slots := 0, locals := 0 } : Room) [.ref o] [bMo g o a th hi ac tp ba en tA fl de iD iO tU fm fk fa fc ft ff fb fi] (fun (fm2 : Nat → Int32) => none) (fun (fm2 : Nat → Int32) => (rM fm2)) (fun (fm2 : Nat → Int32) => [bMo g o a th hi ac tp ba en tA fl de iD iO tU fm2 fk fa fc ft ff fb fi]) := by
  refine zM'.of (cc := cX12_comesBack) (maxL := 2) (rt := none) (by decide) rfl (Nat.le_of_ble_eq_true rfl) ?_
  intro p e s m args below meth c A ls St hr hlocks hin hK hT hA hP hD hS hl
  obtain ⟨hx, hb, hml, hown, hts⟩ := id St
  have hl : lv_has ls 2 [(0, .ref o)] := hl
  refine lv_iconst (v := 0) hx hb dX12_comesBack_0 (by decide) ?_
  refine lv_istore_n (lv' := [(1, .int 0), (0, .ref o)]) hx hb dX12_comesBack_1 rfl hl (by decide) rfl (fun ls hl => ?_)
  have hl := lv_sub (l' := [(0, .ref o), (1, .int 0)]) hl [1, 0] rfl
  have LP2_4 : ∀ (kf : Nat) (x_1 : Int32) (fm_2 : Nat → Int32), (0 ≤ x_1.toInt ∧ x_1.toInt ≤ 379) → (rM fm_2) → ∀ (H : Heap) (locs : List Loc) (ls : Array Slot), ((380 - x_1.toInt).toNat) < kf → va_P g.1 vwCl (List.flatten [bMo g o a th hi ac tp ba en tA fl de iD iO tU fm_2 fk fa fc ft ff fb fi]) H → va_D A (List.flatten [bMo g o a th hi ac tp ba en tA fl de iD iO tU fm_2 fk fa fc ft ff fb fi]) → va_S A s.heap H locs → lv_has ls 2 [(0, .ref o), (1, .int x_1)] → W p l e ({ frames := 0, cells := 0, slots := 0, locals := 0 } : Room) s m args below meth c H locs (0) (0) (zF g (fun (fm2 : Nat → Int32) => none) (fun (fm2 : Nat → Int32) => (rM fm2)) (fun (fm2 : Nat → Int32) => [bMo g o a th hi ac tp ba en tA fl de iD iO tU fm2 fk fa fc ft ff fb fi]) ({ frames := 0, cells := 0, slots := 0, locals := 0 } : Room) below args s A) (F0 m 2 ls []) := by
    intro kf
    induction kf with
    | zero => intro x_1 fm_2 i3 rfm_2 H locs ls hk; exact absurd hk (Nat.not_lt_zero _)
    | succ kf ih2_5 =>
      intro x_1 fm_2 i3 rfm_2 H locs ls hk2_5 hP hD hS hl
      refine lv_iload_n hx hb dX12_comesBack_2 rfl (lv_at hl 1 rfl) ?_
      refine lv_sipush (v := 379) hx hb dX12_comesBack_3 (by decide) ?_
      refine lv_icmp_ge (tgt := 27) hx hb dX12_comesBack_6 (by decide) (fun cb9 => ?_) (fun cb9 => ?_)
      · skip
        have c6 : 379 ≤ x_1.toInt := zle cb9 (by decide) rfl
        have n7 : 379 ≤ x_1.toInt := Int.le_trans (Int.le_refl _) c6
        have hP : va_P g.1 vwCl (List.flatten [bMo g o a th hi ac tp ba en tA fl de iD iO tU fm_2 fk fa fc ft ff fb fi]) H := hP
        have hD : va_D A (List.flatten [bMo g o a th hi ac tp ba en tA fl de iD iO tU fm_2 fk fa fc ft ff fb fi]) := hD
        exact mret_v hx hb hr hlocks hS (Nat.le_of_ble_eq_true rfl) (Nat.le_of_ble_eq_true rfl) dX12_comesBack_27 (fm_2) rfl (show (rM fm_2) from (by first | assumption | omega | decide | exact rfl | exact zb01 (by omega) | exact Or.inl (by decide) | exact Or.inr (by first | omega | decide))) hP hD
      · skip
        have c8 : x_1.toInt < 379 := zlti (Int32.not_le.mp cb9) rfl (by decide)
        have n9 : x_1.toInt ≤ 378 := zL1 (b := 379) c8 (Int.le_refl _) (by decide)
        refine lv_aload_n hx hb dX12_comesBack_9 rfl (lv_at hl 0 rfl) ?_
        refine va_get (D := g.1) (ci := 10) (v := .ref (a 0)) (C := RX12) (T := TX12) (N := 20) hx hb hts izRX12 hown hK hP 0 rfl rfl 1 (by decide) (hts _ k815) (fun _ h9 => h9) rfl dX12_comesBack_10 ?_
        refine lv_iload_n hx hb dX12_comesBack_13 rfl (lv_at hl 1 rfl) ?_
        refine lv_aload_n hx hb dX12_comesBack_14 rfl (lv_at hl 0 rfl) ?_
        refine va_get (D := g.1) (ci := 10) (v := .ref (a 2)) (C := RX12) (T := TX12) (N := 20) hx hb hts izRX12 hown hK hP 0 rfl rfl 4 (by decide) (hts _ k817) (fun _ h9 => h9) rfl dX12_comesBack_15 ?_
        refine lv_iload_n hx hb dX12_comesBack_18 rfl (lv_at hl 1 rfl) ?_
        refine va_iald hx hb hK hP 3 0 rfl rfl (zinK (a := 0) (b := 378) i3.1 n9 (by decide)) dX12_comesBack_19 ?_
        refine va_iast hx hb hK hP hD hS 1 0 rfl rfl (zinK (a := 0) (b := 378) i3.1 n9 (by decide)) dX12_comesBack_20 (fun H locs hP hD hS => ?_)
        obtain ⟨fm_10, rfm_10, hP, hD⟩ : ∃ fm_10 : Nat → Int32, rM fm_10 ∧ va_P g.1 vwCl (List.flatten [bMo g o a th hi ac tp ba en tA fl de iD iO tU fm_10 fk fa fc ft ff fb fi]) H ∧ va_D A (List.flatten [bMo g o a th hi ac tp ba en tA fl de iD iO tU fm_10 fk fa fc ft ff fb fi]) := ⟨upd fm_2 x_1.toNatClampNeg (fa x_1.toNatClampNeg), (rM_cp rfm_2 rfa), hP, hD⟩
        refine ziinc3 (n' := 1) (a' := 1) (b' := 379) (lv' := fun v9 => [(1, .int v9), (0, .ref o)]) hx hb dX12_comesBack_21 hl (k := 1) rfl (by decide) (fun _ => rfl) (zaddK (i := x_1.toInt) (j := 1) rfl (by decide) i3.1 n9 (Int.le_refl _) (Int.le_refl _) (by decide)) (fun x_11 ls hx_11 hl => ?_)
        refine lv_goto (tgt := 2) hx hb dX12_comesBack_24 (by decide) ?_
        have hl := lv_sub (l' := [(0, .ref o), (1, .int x_11)]) hl [1, 0] rfl
        have hP : va_P g.1 vwCl (List.flatten [bMo g o a th hi ac tp ba en tA fl de iD iO tU fm_10 fk fa fc ft ff fb fi]) H := hP
        have hD : va_D A (List.flatten [bMo g o a th hi ac tp ba en tA fl de iD iO tU fm_10 fk fa fc ft ff fb fi]) := hD
        exact ih2_5 x_11 fm_10 ⟨(Int.le_trans (by decide) hx_11.2.1), hx_11.2.2⟩ rfm_10 H _ ls (zmK hx_11.1 (by decide) n9 (by decide) hk2_5)  hP hD hS (lv_sub hl [0, 1] rfl)
  have hP : va_P g.1 vwCl (List.flatten [bMo g o a th hi ac tp ba en tA fl de iD iO tU fm fk fa fc ft ff fb fi]) s.heap := hP
  have hD : va_D A (List.flatten [bMo g o a th hi ac tp ba en tA fl de iD iO tU fm fk fa fc ft ff fb fi]) := hD
  exact LP2_4 _ 0 fm (by decide) rfm s.heap _ ls (Nat.lt_succ_self _)  hP hD hS (lv_sub hl [0, 1] rfl)
