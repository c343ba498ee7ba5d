set_option maxRecDepth 100000 in
set_option maxHeartbeats 4000000 in
theorem m_span (l : Launch) (g : zG) (o : Nat) (a : Nat → Nat) (th : Int32) (hi : Int32) (ac : Int32) (tp : Int32) (ba : Int32) (en : Int32) (tA : Int32) (fl : Int32) (de : Int32) (iD : Int32) (iO : Int32) (tU : Int32) (fm : Nat → Int32) (fk : Nat → Int32) (fa : Nat → Int32) (fc : Nat → Int32) (ft : Nat → Int32) (ff : Nat → Int32) (fb : Nat → Int32) (fi : Nat → Int32) (n : Int32) (most : Int32) (rfm : rM fm) (rfa : rM fa) (hiD : 0 ≤ iD.toInt ∧ iD.toInt ≤ 1) (hiO : 0 ≤ iO.toInt ∧ iO.toInt ≤ 1) : zM' g l yX12_span (Cond.code yX12_span cX12_span 7 (some .int) :: zB) ({ frames := 33, cells := 0, slots := 0, locals := 736 } : Room) [.ref o, .int n, .int most] [bMo g o a th hi ac tp ba en tA fl de iD iO tU fm fk fa fc ft ff fb fi] (fun u : Int32 × Int32 × Int32 × Int32 × Int32 × Int32 × Int32 × Int32 × (Nat → Int32) × (Nat → Int32) × (Nat → Int32) × (Nat → Int32) × Int32 => (fun (th2 : Int32) (ba2 : Int32) (en2 : Int32) (at2 : Int32) (de2 : Int32) (iD2 : Int32) (iO2 : Int32) (tU2 : Int32) (ff2 : Nat → Int32) (fm2 : Nat → Int32) (fb2 : Nat → Int32) (fa2 : Nat → Int32) (q : Int32) => some (.int q)) (u.1) (u.2.1) (u.2.2.1) (u.2.2.2.1) (u.2.2.2.2.1) (u.2.2.2.2.2.1) (u.2.2.2.2.2.2.1) (u.2.2.2.2.2.2.2.1) (u.2.2.2.2.2.2.2.2.1) (u.2.2.2.2.2.2.2.2.2.1) (u.2.2.2.2.2.2.2.2.2.2.1) (u.2.2.2.2.2.2.2.2.2.2.2.1) (u.2.2.2.2.2.2.2.2.2.2.2.2)) (fun u : Int32 × Int32 × Int32 × Int32 × Int32 × Int32 × Int32 × Int32 × (Nat → Int32) × (Nat → Int32) × (Nat → Int32) × (Nat → Int32) × Int32 => (fun (th2 : Int32) (ba2 : Int32) (en2 : Int32) (at2 : Int32) (de2 : Int32) (iD2 : Int32) (iO2 : Int32) (tU2 : Int32) (ff2 : Nat → Int32) (fm2 : Nat → Int32) (fb2 : Nat → Int32) (fa2 : Nat → Int32) (q : Int32) => (rM fa2) ∧ (rM fm2) ∧ (0 ≤ iO2.toInt ∧ iO2.toInt ≤ 1) ∧ (0 ≤ iD2.toInt ∧ iD2.toInt ≤ 1)) (u.1) (u.2.1) (u.2.2.1) (u.2.2.2.1) (u.2.2.2.2.1) (u.2.2.2.2.2.1) (u.2.2.2.2.2.2.1) (u.2.2.2.2.2.2.2.1) (u.2.2.2.2.2.2.2.2.1) (u.2.2.2.2.2.2.2.2.2.1) (u.2.2.2.2.2.2.2.2.2.2.1) (u.2.2.2.2.2.2.2.2.2.2.2.1) (u.2.2.2.2.2.2.2.2.2.2.2.2)) (fun u : Int32 × Int32 × Int32 × Int32 × Int32 × Int32 × Int32 × Int32 × (Nat → Int32) × (Nat → Int32) × (Nat → Int32) × (Nat → Int32) × Int32 => (fun (th2 : Int32) (ba2 : Int32) (en2 : Int32) (at2 : Int32) (de2 : Int32) (iD2 : Int32) (iO2 : Int32) (tU2 : Int32) (ff2 : Nat → Int32) (fm2 : Nat → Int32) (fb2 : Nat → Int32) (fa2 : Nat → Int32) (q : Int32) => [bMo g o a th2 hi ac tp ba2 en2 at2 fl de2 iD2 iO2 tU2 fm2 fk fa2 fc ft ff2 fb2 fi]) (u.1) (u.2.1) (u.2.2.1) (u.2.2.2.1) (u.2.2.2.2.1) (u.2.2.2.2.2.1) (u.2.2.2.2.2.2.1) (u.2.2.2.2.2.2.2.1) (u.2.2.2.2.2.2.2.2.1) (u.2.2.2.2.2.2.2.2.2.1) (u.2.2.2.2.2.2.2.2.2.2.1) (u.2.2.2.2.2.2.2.2.2.2.2.1) (u.2.2.2.2.2.2.2.2.2.2.2.2)) := by
  refine zM'.of (cc := cX12_span) (maxL := 7) (rt := (some .int)) (by decide) rfl (Nat.le_of_ble_eq_true rfl) ?_
  intro p e s m args below meth c A ls St hr hlocks hin hK hT hA hP hD hS hl
  obtain ⟨hx, hb, hml, hown, hts⟩ := id St
  have hl : lv_has ls 7 [(0, .ref o), (1, .int n), (2, .int most)] := hl
  refine lv_aload_n hx hb dX12_span_0 rfl (lv_at hl 0 rfl) ?_
  refine lv_iload_n hx hb dX12_span_1 rfl (lv_at hl 1 rfl) ?_
  refine lv_iconst (v := 0) hx hb dX12_span_2 (by decide) ?_
  refine lv_bipush (v := 60) hx hb dX12_span_3 (by decide) ?_
  have hL0 : (0 : Int32).toInt = 0 := by decide
  have hL60 : (60 : Int32).toInt = 60 := by decide
  refine mcallS' (g := g) (As := [.int n, .int 0, .int 60]) (rest := [.ref o]) St hK hT hA hP hD hS hl.1 [] [0] rfl rfl rfl (m_isIn l g n 0 60 ) (va_cwS 3 hts (zgL (zl3 k835 k836 k837) k824) rfl rfl rfl (by decide +kernel) ⟨Nat.le_of_ble_eq_true rfl, Nat.le_of_ble_eq_true rfl⟩) rfl rfl (Nat.le_of_ble_eq_true rfl) dX12_span_5 ⟨(Nat.le_of_ble_eq_true rfl), (Nat.le_of_ble_eq_true rfl)⟩ (fun q_1 H locs hq2 hP hD hS => ?_)
  replace hq2 : (q_1 = 1 ∧ (0 : Int32).toInt ≤ n.toInt ∧ n.toInt ≤ (60 : Int32).toInt ∨ q_1 = 0 ∧ (n.toInt < (0 : Int32).toInt ∨ (60 : Int32).toInt < n.toInt)) := hq2
  have hP : va_P g.1 vwCl (List.flatten [bMo g o a th hi ac tp ba en tA fl de iD iO tU fm fk fa fc ft ff fb fi]) H := hP
  have hD : va_D A (List.flatten [bMo g o a th hi ac tp ba en tA fl de iD iO tU fm fk fa fc ft ff fb fi]) := hD
  refine W.widen (k := 0) (n := 0) (Nat.le_of_ble_eq_true rfl) (Nat.le_of_ble_eq_true rfl) ?_
  refine W.eq (g2 := F0 m 8 ls [.int q_1, .ref o]) rfl ?_
  rcases hq2 with ⟨rfl, hq2_k⟩ | ⟨rfl, hq2_k⟩
  · skip
    refine lv_if_ne (tgt := 15) hx hb dX12_span_8 (by decide) (fun _ => ?_) (fun c3 => absurd c3 (by decide))
    refine lv_iconst (v := 0) hx hb dX12_span_15 (by decide) ?_
    refine va_put (D := g.1) (ci := 10) (v := .int 0) (ty := .int) (C := RX12) (T := TX12) (N := 20) hx hb hts izRX12 tyX12 tyX12_ok nmX12 hown hK hP hD hS 0 rfl rfl 0 (by decide) (hts _ k871) (fun _ h9 => h9) rfl (by decide +kernel) rfl rfl (Nat.le_of_ble_eq_true rfl) dX12_span_16 (fun H locs hP hD hS => ?_)
    have hP : va_P g.1 vwCl (List.flatten [bMo g o a 0 hi ac tp ba en tA fl de iD iO tU fm fk fa fc ft ff fb fi]) H := hP
    have hD : va_D A (List.flatten [bMo g o a 0 hi ac tp ba en tA fl de iD iO tU fm fk fa fc ft ff fb fi]) := hD
    refine lv_aload_n hx hb dX12_span_19 rfl (lv_at hl 0 rfl) ?_
    refine va_get (D := g.1) (ci := 10) (v := .int 0) (C := RX12) (T := TX12) (N := 20) hx hb hts izRX12 hown hK hP 0 rfl rfl 0 (by decide) (hts _ k871) (fun _ h9 => h9) rfl dX12_span_20 ?_
    refine lv_if_le (tgt := 28) hx hb dX12_span_23 (by decide) (fun _ => ?_) (fun c4 => absurd (by decide) c4)
    refine lv_aload_n hx hb dX12_span_28 rfl (lv_at hl 0 rfl) ?_
    refine mcallV' (g := g) (q0 := 0) (ci := 10) (As := []) (rest := []) St hK hT hA hP hD hS hl.1 [0] [] rfl rfl rfl (m_putsAside l g o a 0 hi ac tp ba en tA fl de iD iO tU fm fk fa fc ft ff fb fi (by first | assumption | omega | decide | exact Or.inl (by decide) | exact Or.inr (by decide)) (by first | assumption | omega | decide | exact Or.inl (by decide) | exact Or.inr (by decide))) (cwV 0 hts (zgL (zl4 k974 k975 k976 k837) k971) rfl rfl rfl (by decide +kernel) ⟨Nat.le_of_ble_eq_true rfl, Nat.le_of_ble_eq_true rfl⟩) rfl rfl rfl rfl (Nat.le_of_ble_eq_true rfl) dX12_span_29 ⟨(Nat.le_of_ble_eq_true rfl), (Nat.le_of_ble_eq_true rfl)⟩ (fun fa2_5 H locs hq6 hP hD hS => ?_)
    replace hq6 : (rM fa2_5) := hq6
    have hP : va_P g.1 vwCl (List.flatten [bMo g o a 0 hi ac tp ba en tA fl de iD iO tU fm fk fa2_5 fc ft ff fb fi]) H := hP
    have hD : va_D A (List.flatten [bMo g o a 0 hi ac tp ba en tA fl de iD iO tU fm fk fa2_5 fc ft ff fb fi]) := hD
    refine W.widen (k := 0) (n := 0) (Nat.le_of_ble_eq_true rfl) (Nat.le_of_ble_eq_true rfl) ?_
    refine W.eq (g2 := F0 m 32 ls []) rfl ?_
    have rfa2_5 := hq6; clear hq6
    refine lv_iconst (v := (-1)) hx hb dX12_span_32 (by decide) ?_
    refine lv_istore_n (lv' := [(3, .int (-1)), (0, .ref o), (1, .int n), (2, .int most)]) hx hb dX12_span_33 rfl hl (by decide) rfl (fun ls hl => ?_)
    refine lv_iconst (v := 1) hx hb dX12_span_34 (by decide) ?_
    refine lv_istore (lv' := [(4, .int 1), (3, .int (-1)), (0, .ref o), (1, .int n), (2, .int most)]) hx hb dX12_span_35 hl (by decide) rfl (fun ls hl => ?_)
    have hl := lv_sub (l' := [(0, .ref o), (1, .int n), (2, .int most), (3, .int (-1)), (4, .int 1)]) hl [2, 3, 4, 1, 0] rfl
    have LP37_22 : ∀ (kf : Nat) (x_7 : Int32) (x_8 : Int32) (x_9 : Int32) (x_10 : Int32) (x_11 : Int32) (x_12 : Int32) (x_13 : Int32) (x_14 : Int32) (x_15 : Int32) (fm_16 : Nat → Int32) (ff_17 : Nat → Int32) (fb_18 : Nat → Int32), (1 ≤ x_8.toInt ∧ x_8.toInt ≤ 7) → (0 ≤ x_13.toInt ∧ x_13.toInt ≤ 1) → (0 ≤ x_14.toInt ∧ x_14.toInt ≤ 1) → (rM fm_16) → ∀ (H : Heap) (locs : List Loc) (ls : Array Slot), ((8 - x_8.toInt).toNat) < kf → va_P g.1 vwCl (List.flatten [bMo g o a 0 hi ac tp x_9 x_10 x_11 fl x_12 x_13 x_14 x_15 fm_16 fk fa2_5 fc ft ff_17 fb_18 fi]) H → va_D A (List.flatten [bMo g o a 0 hi ac tp x_9 x_10 x_11 fl x_12 x_13 x_14 x_15 fm_16 fk fa2_5 fc ft ff_17 fb_18 fi]) → va_S A s.heap H locs → lv_has ls 7 [(0, .ref o), (1, .int n), (2, .int most), (3, .int x_7), (4, .int x_8)] → W p l e ({ frames := 33, cells := 0, slots := 0, locals := 736 } : Room) s m args below meth c H locs (0) (0) (zF g (fun u : Int32 × Int32 × Int32 × Int32 × Int32 × Int32 × Int32 × Int32 × (Nat → Int32) × (Nat → Int32) × (Nat → Int32) × (Nat → Int32) × Int32 => (fun (th2 : Int32) (ba2 : Int32) (en2 : Int32) (at2 : Int32) (de2 : Int32) (iD2 : Int32) (iO2 : Int32) (tU2 : Int32) (ff2 : Nat → Int32) (fm2 : Nat → Int32) (fb2 : Nat → Int32) (fa2 : Nat → Int32) (q : Int32) => some (.int q)) (u.1) (u.2.1) (u.2.2.1) (u.2.2.2.1) (u.2.2.2.2.1) (u.2.2.2.2.2.1) (u.2.2.2.2.2.2.1) (u.2.2.2.2.2.2.2.1) (u.2.2.2.2.2.2.2.2.1) (u.2.2.2.2.2.2.2.2.2.1) (u.2.2.2.2.2.2.2.2.2.2.1) (u.2.2.2.2.2.2.2.2.2.2.2.1) (u.2.2.2.2.2.2.2.2.2.2.2.2)) (fun u : Int32 × Int32 × Int32 × Int32 × Int32 × Int32 × Int32 × Int32 × (Nat → Int32) × (Nat → Int32) × (Nat → Int32) × (Nat → Int32) × Int32 => (fun (th2 : Int32) (ba2 : Int32) (en2 : Int32) (at2 : Int32) (de2 : Int32) (iD2 : Int32) (iO2 : Int32) (tU2 : Int32) (ff2 : Nat → Int32) (fm2 : Nat → Int32) (fb2 : Nat → Int32) (fa2 : Nat → Int32) (q : Int32) => (rM fa2) ∧ (rM fm2) ∧ (0 ≤ iO2.toInt ∧ iO2.toInt ≤ 1) ∧ (0 ≤ iD2.toInt ∧ iD2.toInt ≤ 1)) (u.1) (u.2.1) (u.2.2.1) (u.2.2.2.1) (u.2.2.2.2.1) (u.2.2.2.2.2.1) (u.2.2.2.2.2.2.1) (u.2.2.2.2.2.2.2.1) (u.2.2.2.2.2.2.2.2.1) (u.2.2.2.2.2.2.2.2.2.1) (u.2.2.2.2.2.2.2.2.2.2.1) (u.2.2.2.2.2.2.2.2.2.2.2.1) (u.2.2.2.2.2.2.2.2.2.2.2.2)) (fun u : Int32 × Int32 × Int32 × Int32 × Int32 × Int32 × Int32 × Int32 × (Nat → Int32) × (Nat → Int32) × (Nat → Int32) × (Nat → Int32) × Int32 => (fun (th2 : Int32) (ba2 : Int32) (en2 : Int32) (at2 : Int32) (de2 : Int32) (iD2 : Int32) (iO2 : Int32) (tU2 : Int32) (ff2 : Nat → Int32) (fm2 : Nat → Int32) (fb2 : Nat → Int32) (fa2 : Nat → Int32) (q : Int32) => [bMo g o a th2 hi ac tp ba2 en2 at2 fl de2 iD2 iO2 tU2 fm2 fk fa2 fc ft ff2 fb2 fi]) (u.1) (u.2.1) (u.2.2.1) (u.2.2.2.1) (u.2.2.2.2.1) (u.2.2.2.2.2.1) (u.2.2.2.2.2.2.1) (u.2.2.2.2.2.2.2.1) (u.2.2.2.2.2.2.2.2.1) (u.2.2.2.2.2.2.2.2.2.1) (u.2.2.2.2.2.2.2.2.2.2.1) (u.2.2.2.2.2.2.2.2.2.2.2.1) (u.2.2.2.2.2.2.2.2.2.2.2.2)) ({ frames := 33, cells := 0, slots := 0, locals := 736 } : Room) below args s A) (F0 m 37 ls []) := by
      intro kf
      induction kf with
      | zero => intro x_7 x_8 x_9 x_10 x_11 x_12 x_13 x_14 x_15 fm_16 ff_17 fb_18 i19 i20 i21 rfm_16 H locs ls hk; exact absurd hk (Nat.not_lt_zero _)
      | succ kf ih37_23 =>
        intro x_7 x_8 x_9 x_10 x_11 x_12 x_13 x_14 x_15 fm_16 ff_17 fb_18 i19 i20 i21 rfm_16 H locs ls hk37_23 hP hD hS hl
        refine lv_iload hx hb dX12_span_37 (lv_at hl 4 rfl) ?_
        refine lv_bipush (v := 6) hx hb dX12_span_39 (by decide) ?_
        refine lv_icmp_gt (tgt := 107) hx hb dX12_span_41 (by decide) (fun cb9 => ?_) (fun cb9 => ?_)
        · skip
          have c24 : 6 < x_8.toInt := zlti cb9 (by decide) rfl
          have n25 : 7 ≤ x_8.toInt := zL2 (a := 6) c24 (Int.le_refl _) (by decide)
          refine lv_iload_n hx hb dX12_span_107 rfl (lv_at hl 3 rfl) ?_
          have hP : va_P g.1 vwCl (List.flatten [bMo g o a 0 hi ac tp x_9 x_10 x_11 fl x_12 x_13 x_14 x_15 fm_16 fk fa2_5 fc ft ff_17 fb_18 fi]) H := hP
          have hD : va_D A (List.flatten [bMo g o a 0 hi ac tp x_9 x_10 x_11 fl x_12 x_13 x_14 x_15 fm_16 fk fa2_5 fc ft ff_17 fb_18 fi]) := hD
          exact mret_i hx hb hr hlocks hS (Nat.le_of_ble_eq_true rfl) (Nat.le_of_ble_eq_true rfl) dX12_span_108 ((0 : Int32), x_9, x_10, x_11, x_12, x_13, x_14, x_15, ff_17, fm_16, fb_18, fa2_5, x_7) rfl (show (rM fa2_5) ∧ (rM fm_16) ∧ (0 ≤ x_14.toInt ∧ x_14.toInt ≤ 1) ∧ (0 ≤ x_13.toInt ∧ x_13.toInt ≤ 1) from ⟨(by first | assumption | omega | decide | exact rfl | exact zb01 (by omega) | exact Or.inl (by decide) | exact Or.inr (by first | omega | decide)), (by first | assumption | omega | decide | exact rfl | exact zb01 (by omega) | exact Or.inl (by decide) | exact Or.inr (by first | omega | decide)), (by first | assumption | omega | decide | exact rfl | exact zb01 (by omega) | exact Or.inl (by decide) | exact Or.inr (by first | omega | decide)), (by first | assumption | omega | decide | exact rfl | exact zb01 (by omega) | exact Or.inl (by decide) | exact Or.inr (by first | omega | decide))⟩) hP hD
        · skip
          have c26 : x_8.toInt ≤ 6 := zle (Int32.not_lt.mp cb9) rfl (by decide)
          have n27 : x_8.toInt ≤ 6 := Int.le_trans c26 (Int.le_refl _)
          refine lv_aload_n hx hb dX12_span_44 rfl (lv_at hl 0 rfl) ?_
          refine va_get (D := g.1) (ci := 10) (v := .ref (a 0)) (C := RX12) (T := TX12) (N := 20) hx hb hts izRX12 hown hK hP 0 rfl rfl 1 (by decide) (hts _ k815) (fun _ h9 => h9) rfl dX12_span_45 ?_
          refine lv_bipush (v := 10) hx hb dX12_span_48 (by decide) ?_
          refine lv_iload hx hb dX12_span_50 (lv_at hl 4 rfl) ?_
          refine va_iast hx hb hK hP hD hS 1 0 rfl rfl (zin rfl) dX12_span_52 (fun H locs hP hD hS => ?_)
          obtain ⟨fm_28, rfm_28, hP, hD⟩ : ∃ fm_28 : Nat → Int32, rM fm_28 ∧ va_P g.1 vwCl (List.flatten [bMo g o a 0 hi ac tp x_9 x_10 x_11 fl x_12 x_13 x_14 x_15 fm_28 fk fa2_5 fc ft ff_17 fb_18 fi]) H ∧ va_D A (List.flatten [bMo g o a 0 hi ac tp x_9 x_10 x_11 fl x_12 x_13 x_14 x_15 fm_28 fk fa2_5 fc ft ff_17 fb_18 fi]) := ⟨upd fm_16 10 x_8, (rM_stL rfm_16 (by decide)), hP, hD⟩
          refine lv_aload_n hx hb dX12_span_53 rfl (lv_at hl 0 rfl) ?_
          refine lv_iload_n hx hb dX12_span_54 rfl (lv_at hl 1 rfl) ?_
          refine lv_iconst (v := 1) hx hb dX12_span_55 (by decide) ?_
          refine mcallV' (g := g) (q0 := 0) (ci := 10) (As := [.int n, .int 1]) (rest := []) St hK hT hA hP hD hS hl.1 [0] [] rfl rfl rfl (m_goes l g o a 0 hi ac tp x_9 x_10 x_11 fl x_12 x_13 x_14 x_15 fm_28 fk fa2_5 fc ft ff_17 fb_18 fi n 1 (by first | assumption | omega | decide | exact Or.inl (by decide) | exact Or.inr (by decide)) (⟨i20.1, i20.2⟩) (⟨i21.1, i21.2⟩) (by first | assumption | omega | decide | exact Or.inl (by decide) | exact Or.inr (by decide))) (cwV 2 hts (zgL (zl4 k1056 k1057 k1058 k837) k1027) rfl rfl rfl (by decide +kernel) ⟨Nat.le_of_ble_eq_true rfl, Nat.le_of_ble_eq_true rfl⟩) rfl rfl rfl rfl (Nat.le_of_ble_eq_true rfl) dX12_span_56 ⟨(Nat.le_of_ble_eq_true rfl), (Nat.le_of_ble_eq_true rfl)⟩ (fun u_ H locs hq40 hP hD hS => ?_)
          obtain ⟨ba2_29, en2_30, at2_31, de2_32, iD2_33, iO2_34, tU2_35, ff2_36, fm2_37, fb2_38, q_39⟩ := u_
          replace hq40 : (rM fm2_37) ∧ (0 ≤ iO2_34.toInt ∧ iO2_34.toInt ≤ 1) ∧ (0 ≤ iD2_33.toInt ∧ iD2_33.toInt ≤ 1) := hq40
          have hP : va_P g.1 vwCl (List.flatten [bMo g o a 0 hi ac tp ba2_29 en2_30 at2_31 fl de2_32 iD2_33 iO2_34 tU2_35 fm2_37 fk fa2_5 fc ft ff2_36 fb2_38 fi]) H := hP
          have hD : va_D A (List.flatten [bMo g o a 0 hi ac tp ba2_29 en2_30 at2_31 fl de2_32 iD2_33 iO2_34 tU2_35 fm2_37 fk fa2_5 fc ft ff2_36 fb2_38 fi]) := hD
          refine W.widen (k := 0) (n := 0) (Nat.le_of_ble_eq_true rfl) (Nat.le_of_ble_eq_true rfl) ?_
          refine W.eq (g2 := F0 m 59 ls [.int q_39]) rfl ?_
          obtain ⟨rfm2_37, hq40_1, hq40_2⟩ := hq40
          refine lv_istore (lv' := [(5, .int q_39), (0, .ref o), (1, .int n), (2, .int most), (3, .int x_7), (4, .int x_8)]) hx hb dX12_span_59 hl (by decide) rfl (fun ls hl => ?_)
          refine lv_aload_n hx hb dX12_span_61 rfl (lv_at hl 1 rfl) ?_
          refine mcallV' (g := g) (q0 := 0) (ci := 10) (As := []) (rest := []) St hK hT hA hP hD hS hl.1 [0] [] rfl rfl rfl (m_believed l g o a 0 hi ac tp ba2_29 en2_30 at2_31 fl de2_32 iD2_33 iO2_34 tU2_35 fm2_37 fk fa2_5 fc ft ff2_36 fb2_38 fi (by first | assumption | omega | decide | exact Or.inl (by decide) | exact Or.inr (by decide))) (cwV 0 hts (zgL (zl4 k854 k855 k856 k837) k847) rfl rfl rfl (by decide +kernel) ⟨Nat.le_of_ble_eq_true rfl, Nat.le_of_ble_eq_true rfl⟩) rfl rfl rfl rfl (Nat.le_of_ble_eq_true rfl) dX12_span_62 ⟨(Nat.le_of_ble_eq_true rfl), (Nat.le_of_ble_eq_true rfl)⟩ (fun q_41 H locs hq42 hP hD hS => ?_)
          have hP : va_P g.1 vwCl (List.flatten [bMo g o a 0 hi ac tp ba2_29 en2_30 at2_31 fl de2_32 iD2_33 iO2_34 tU2_35 fm2_37 fk fa2_5 fc ft ff2_36 fb2_38 fi]) H := hP
          have hD : va_D A (List.flatten [bMo g o a 0 hi ac tp ba2_29 en2_30 at2_31 fl de2_32 iD2_33 iO2_34 tU2_35 fm2_37 fk fa2_5 fc ft ff2_36 fb2_38 fi]) := hD
          refine W.widen (k := 0) (n := 0) (Nat.le_of_ble_eq_true rfl) (Nat.le_of_ble_eq_true rfl) ?_
          refine W.eq (g2 := F0 m 65 ls [.int q_41]) rfl ?_
          refine lv_istore (lv' := [(6, .int q_41), (5, .int q_39), (0, .ref o), (1, .int n), (2, .int most), (3, .int x_7), (4, .int x_8)]) hx hb dX12_span_65 hl (by decide) rfl (fun ls hl => ?_)
          refine lv_aload_n hx hb dX12_span_67 rfl (lv_at hl 2 rfl) ?_
          refine mcallV' (g := g) (q0 := 0) (ci := 10) (As := []) (rest := []) St hK hT hA hP hD hS hl.1 [0] [] rfl rfl rfl (m_comesBack l g o a 0 hi ac tp ba2_29 en2_30 at2_31 fl de2_32 iD2_33 iO2_34 tU2_35 fm2_37 fk fa2_5 fc ft ff2_36 fb2_38 fi (by first | assumption | omega | decide | exact Or.inl (by decide) | exact Or.inr (by decide)) (by first | assumption | omega | decide | exact Or.inl (by decide) | exact Or.inr (by decide))) (cwV 0 hts (zgL (zl4 k983 k984 k985 k837) k972) rfl rfl rfl (by decide +kernel) ⟨Nat.le_of_ble_eq_true rfl, Nat.le_of_ble_eq_true rfl⟩) rfl rfl rfl rfl (Nat.le_of_ble_eq_true rfl) dX12_span_68 ⟨(Nat.le_of_ble_eq_true rfl), (Nat.le_of_ble_eq_true rfl)⟩ (fun fm2_43 H locs hq44 hP hD hS => ?_)
          replace hq44 : (rM fm2_43) := hq44
          have hP : va_P g.1 vwCl (List.flatten [bMo g o a 0 hi ac tp ba2_29 en2_30 at2_31 fl de2_32 iD2_33 iO2_34 tU2_35 fm2_43 fk fa2_5 fc ft ff2_36 fb2_38 fi]) H := hP
          have hD : va_D A (List.flatten [bMo g o a 0 hi ac tp ba2_29 en2_30 at2_31 fl de2_32 iD2_33 iO2_34 tU2_35 fm2_43 fk fa2_5 fc ft ff2_36 fb2_38 fi]) := hD
          refine W.widen (k := 0) (n := 0) (Nat.le_of_ble_eq_true rfl) (Nat.le_of_ble_eq_true rfl) ?_
          refine W.eq (g2 := F0 m 71 ls []) rfl ?_
          have rfm2_43 := hq44; clear hq44
          refine lv_iload_n hx hb dX12_span_71 rfl (lv_at hl 5 rfl) ?_
          refine lv_iconst (v := (-1)) hx hb dX12_span_72 (by decide) ?_
          refine lv_icmp_ne (tgt := 81) hx hb dX12_span_73 (by decide) (fun cb9 => ?_) (fun cb9 => ?_)
          · skip
            have c45 : ¬ x_7.toInt = (-1) := zne cb9 rfl (by decide)
            refine lv_iload_n hx hb dX12_span_81 rfl (lv_at hl 4 rfl) ?_
            refine lv_if_eq (tgt := 94) hx hb dX12_span_82 (by decide) (fun cb9 => ?_) (fun cb9 => ?_)
            · skip
              have c46 : most.toInt = 0 := zeq cb9 rfl (by decide)
              have n47 : 0 ≤ most.toInt := Int.le_trans (Int.le_refl _) (Int.le_of_eq c46.symm)
              have n48 : most.toInt ≤ 0 := Int.le_trans (Int.le_of_eq c46) (Int.le_refl _)
              refine lv_iload_n hx hb dX12_span_94 rfl (lv_at hl 5 rfl) ?_
              refine lv_iload hx hb dX12_span_95 (lv_at hl 0 rfl) ?_
              refine mcallS' (g := g) (As := [.int x_7, .int q_41]) (rest := []) St hK hT hA hP hD hS hl.1 [] [0] rfl rfl rfl (m_lesser l g x_7 q_41 ) (va_cwS 2 hts (zgL (zl3 k999 k1000 k837) k825) rfl rfl rfl (by decide +kernel) ⟨Nat.le_of_ble_eq_true rfl, Nat.le_of_ble_eq_true rfl⟩) rfl rfl (Nat.le_of_ble_eq_true rfl) dX12_span_97 ⟨(Nat.le_of_ble_eq_true rfl), (Nat.le_of_ble_eq_true rfl)⟩ (fun q_49 H locs hq50 hP hD hS => ?_)
              replace hq50 : (q_49.toInt ≤ x_7.toInt ∧ q_49.toInt ≤ q_41.toInt ∧ (q_49.toInt = x_7.toInt ∨ q_49.toInt = q_41.toInt)) := hq50
              have hP : va_P g.1 vwCl (List.flatten [bMo g o a 0 hi ac tp ba2_29 en2_30 at2_31 fl de2_32 iD2_33 iO2_34 tU2_35 fm2_43 fk fa2_5 fc ft ff2_36 fb2_38 fi]) H := hP
              have hD : va_D A (List.flatten [bMo g o a 0 hi ac tp ba2_29 en2_30 at2_31 fl de2_32 iD2_33 iO2_34 tU2_35 fm2_43 fk fa2_5 fc ft ff2_36 fb2_38 fi]) := hD
              refine W.widen (k := 0) (n := 0) (Nat.le_of_ble_eq_true rfl) (Nat.le_of_ble_eq_true rfl) ?_
              refine W.eq (g2 := F0 m 100 ls [.int q_49]) rfl ?_
              refine lv_istore_n (lv' := [(3, .int q_49), (6, .int q_41), (5, .int q_39), (0, .ref o), (1, .int n), (2, .int most), (4, .int x_8)]) hx hb dX12_span_100 rfl hl (by decide) rfl (fun ls hl => ?_)
              refine ziinc3 (n' := 1) (a' := 2) (b' := 7) (lv' := fun v9 => [(4, .int v9), (3, .int q_49), (6, .int q_41), (5, .int q_39), (0, .ref o), (1, .int n), (2, .int most)]) hx hb dX12_span_101 hl (k := 6) rfl (by decide) (fun _ => rfl) (zaddK (i := x_8.toInt) (j := 1) rfl (by decide) i19.1 n27 (Int.le_refl _) (Int.le_refl _) (by decide)) (fun x_51 ls hx_51 hl => ?_)
              refine lv_goto (tgt := 37) hx hb dX12_span_104 (by decide) ?_
              have hl := lv_sub (l' := [(0, .ref o), (1, .int n), (2, .int most), (3, .int q_49), (4, .int x_51), (5, .int q_39), (6, .int q_41)]) hl [4, 5, 6, 1, 0, 3, 2] rfl
              have hP : va_P g.1 vwCl (List.flatten [bMo g o a 0 hi ac tp ba2_29 en2_30 at2_31 fl de2_32 iD2_33 iO2_34 tU2_35 fm2_43 fk fa2_5 fc ft ff2_36 fb2_38 fi]) H := hP
              have hD : va_D A (List.flatten [bMo g o a 0 hi ac tp ba2_29 en2_30 at2_31 fl de2_32 iD2_33 iO2_34 tU2_35 fm2_43 fk fa2_5 fc ft ff2_36 fb2_38 fi]) := hD
              exact ih37_23 q_49 x_51 ba2_29 en2_30 at2_31 de2_32 iD2_33 iO2_34 tU2_35 fm2_43 ff2_36 fb2_38 ⟨(Int.le_trans (by decide) hx_51.2.1), hx_51.2.2⟩ ⟨hq40_2.1, hq40_2.2⟩ ⟨hq40_1.1, hq40_1.2⟩ rfm2_43 H _ ls (zmK hx_51.1 (by decide) n27 (by decide) hk37_23)  hP hD hS (lv_sub hl [0, 1, 2, 3, 4] rfl)
            · skip
              have c52 : ¬ most.toInt = 0 := zne cb9 rfl (by decide)
              refine lv_iload_n hx hb dX12_span_85 rfl (lv_at hl 5 rfl) ?_
              refine lv_iload hx hb dX12_span_86 (lv_at hl 0 rfl) ?_
              refine mcallS' (g := g) (As := [.int x_7, .int q_41]) (rest := []) St hK hT hA hP hD hS hl.1 [] [0] rfl rfl rfl (m_greater l g x_7 q_41 ) (va_cwS 2 hts (zgL (zl3 k1002 k1003 k837) k826) rfl rfl rfl (by decide +kernel) ⟨Nat.le_of_ble_eq_true rfl, Nat.le_of_ble_eq_true rfl⟩) rfl rfl (Nat.le_of_ble_eq_true rfl) dX12_span_88 ⟨(Nat.le_of_ble_eq_true rfl), (Nat.le_of_ble_eq_true rfl)⟩ (fun q_53 H locs hq54 hP hD hS => ?_)
              replace hq54 : (x_7.toInt ≤ q_53.toInt ∧ q_41.toInt ≤ q_53.toInt ∧ (q_53.toInt = x_7.toInt ∨ q_53.toInt = q_41.toInt)) := hq54
              have hP : va_P g.1 vwCl (List.flatten [bMo g o a 0 hi ac tp ba2_29 en2_30 at2_31 fl de2_32 iD2_33 iO2_34 tU2_35 fm2_43 fk fa2_5 fc ft ff2_36 fb2_38 fi]) H := hP
              have hD : va_D A (List.flatten [bMo g o a 0 hi ac tp ba2_29 en2_30 at2_31 fl de2_32 iD2_33 iO2_34 tU2_35 fm2_43 fk fa2_5 fc ft ff2_36 fb2_38 fi]) := hD
              refine W.widen (k := 0) (n := 0) (Nat.le_of_ble_eq_true rfl) (Nat.le_of_ble_eq_true rfl) ?_
              refine W.eq (g2 := F0 m 91 ls [.int q_53]) rfl ?_
              refine lv_goto (tgt := 100) hx hb dX12_span_91 (by decide) ?_
              refine lv_istore_n (lv' := [(3, .int q_53), (6, .int q_41), (5, .int q_39), (0, .ref o), (1, .int n), (2, .int most), (4, .int x_8)]) hx hb dX12_span_100 rfl hl (by decide) rfl (fun ls hl => ?_)
              refine ziinc3 (n' := 1) (a' := 2) (b' := 7) (lv' := fun v9 => [(4, .int v9), (3, .int q_53), (6, .int q_41), (5, .int q_39), (0, .ref o), (1, .int n), (2, .int most)]) hx hb dX12_span_101 hl (k := 6) rfl (by decide) (fun _ => rfl) (zaddK (i := x_8.toInt) (j := 1) rfl (by decide) i19.1 n27 (Int.le_refl _) (Int.le_refl _) (by decide)) (fun x_55 ls hx_55 hl => ?_)
              refine lv_goto (tgt := 37) hx hb dX12_span_104 (by decide) ?_
              have hl := lv_sub (l' := [(0, .ref o), (1, .int n), (2, .int most), (3, .int q_53), (4, .int x_55), (5, .int q_39), (6, .int q_41)]) hl [4, 5, 6, 1, 0, 3, 2] rfl
              have hP : va_P g.1 vwCl (List.flatten [bMo g o a 0 hi ac tp ba2_29 en2_30 at2_31 fl de2_32 iD2_33 iO2_34 tU2_35 fm2_43 fk fa2_5 fc ft ff2_36 fb2_38 fi]) H := hP
              have hD : va_D A (List.flatten [bMo g o a 0 hi ac tp ba2_29 en2_30 at2_31 fl de2_32 iD2_33 iO2_34 tU2_35 fm2_43 fk fa2_5 fc ft ff2_36 fb2_38 fi]) := hD
              exact ih37_23 q_53 x_55 ba2_29 en2_30 at2_31 de2_32 iD2_33 iO2_34 tU2_35 fm2_43 ff2_36 fb2_38 ⟨(Int.le_trans (by decide) hx_55.2.1), hx_55.2.2⟩ ⟨hq40_2.1, hq40_2.2⟩ ⟨hq40_1.1, hq40_1.2⟩ rfm2_43 H _ ls (zmK hx_55.1 (by decide) n27 (by decide) hk37_23)  hP hD hS (lv_sub hl [0, 1, 2, 3, 4] rfl)
          · skip
            have c56 : x_7.toInt = (-1) := zeq cb9 rfl (by decide)
            have n57 : (-1) ≤ x_7.toInt := Int.le_trans (Int.le_refl _) (Int.le_of_eq c56.symm)
            have n58 : x_7.toInt ≤ (-1) := Int.le_trans (Int.le_of_eq c56) (Int.le_refl _)
            refine lv_iload hx hb dX12_span_76 (lv_at hl 0 rfl) ?_
            refine lv_goto (tgt := 100) hx hb dX12_span_78 (by decide) ?_
            refine lv_istore_n (lv' := [(3, .int q_41), (6, .int q_41), (5, .int q_39), (0, .ref o), (1, .int n), (2, .int most), (4, .int x_8)]) hx hb dX12_span_100 rfl hl (by decide) rfl (fun ls hl => ?_)
            refine ziinc3 (n' := 1) (a' := 2) (b' := 7) (lv' := fun v9 => [(4, .int v9), (3, .int q_41), (6, .int q_41), (5, .int q_39), (0, .ref o), (1, .int n), (2, .int most)]) hx hb dX12_span_101 hl (k := 6) rfl (by decide) (fun _ => rfl) (zaddK (i := x_8.toInt) (j := 1) rfl (by decide) i19.1 n27 (Int.le_refl _) (Int.le_refl _) (by decide)) (fun x_59 ls hx_59 hl => ?_)
            refine lv_goto (tgt := 37) hx hb dX12_span_104 (by decide) ?_
            have hl := lv_sub (l' := [(0, .ref o), (1, .int n), (2, .int most), (3, .int q_41), (4, .int x_59), (5, .int q_39), (6, .int q_41)]) hl [4, 5, 6, 1, 0, 3, 2] rfl
            have hP : va_P g.1 vwCl (List.flatten [bMo g o a 0 hi ac tp ba2_29 en2_30 at2_31 fl de2_32 iD2_33 iO2_34 tU2_35 fm2_43 fk fa2_5 fc ft ff2_36 fb2_38 fi]) H := hP
            have hD : va_D A (List.flatten [bMo g o a 0 hi ac tp ba2_29 en2_30 at2_31 fl de2_32 iD2_33 iO2_34 tU2_35 fm2_43 fk fa2_5 fc ft ff2_36 fb2_38 fi]) := hD
            exact ih37_23 q_41 x_59 ba2_29 en2_30 at2_31 de2_32 iD2_33 iO2_34 tU2_35 fm2_43 ff2_36 fb2_38 ⟨(Int.le_trans (by decide) hx_59.2.1), hx_59.2.2⟩ ⟨hq40_2.1, hq40_2.2⟩ ⟨hq40_1.1, hq40_1.2⟩ rfm2_43 H _ ls (zmK hx_59.1 (by decide) n27 (by decide) hk37_23)  hP hD hS (lv_sub hl [0, 1, 2, 3, 4] rfl)
    have hP : va_P g.1 vwCl (List.flatten [bMo g o a 0 hi ac tp ba en tA fl de iD iO tU fm fk fa2_5 fc ft ff fb fi]) H := hP
    have hD : va_D A (List.flatten [bMo g o a 0 hi ac tp ba en tA fl de iD iO tU fm fk fa2_5 fc ft ff fb fi]) := hD
    exact LP37_22 _ (-1) 1 ba en tA de iD iO tU fm ff fb (by decide) ⟨hiD.1, hiD.2⟩ ⟨hiO.1, hiO.2⟩ rfm H _ ls (Nat.lt_succ_self _)  hP hD hS (lv_sub hl [0, 1, 2, 3, 4] rfl)
  · skip
    refine lv_if_ne (tgt := 15) hx hb dX12_span_8 (by decide) (fun c60 => absurd (by decide) c60) (fun _ => ?_)
    refine lv_iconst (v := 1) hx hb dX12_span_11 (by decide) ?_
    refine lv_goto (tgt := 16) hx hb dX12_span_12 (by decide) ?_
    refine va_put (D := g.1) (ci := 10) (v := .int 1) (ty := .int) (C := RX12) (T := TX12) (N := 20) hx hb hts izRX12 tyX12 tyX12_ok nmX12 hown hK hP hD hS 0 rfl rfl 0 (by decide) (hts _ k871) (fun _ h9 => h9) rfl (by decide +kernel) rfl rfl (Nat.le_of_ble_eq_true rfl) dX12_span_16 (fun H locs hP hD hS => ?_)
    have hP : va_P g.1 vwCl (List.flatten [bMo g o a 1 hi ac tp ba en tA fl de iD iO tU fm fk fa fc ft ff fb fi]) H := hP
    have hD : va_D A (List.flatten [bMo g o a 1 hi ac tp ba en tA fl de iD iO tU fm fk fa fc ft ff fb fi]) := hD
    refine lv_aload_n hx hb dX12_span_19 rfl (lv_at hl 0 rfl) ?_
    refine va_get (D := g.1) (ci := 10) (v := .int 1) (C := RX12) (T := TX12) (N := 20) hx hb hts izRX12 hown hK hP 0 rfl rfl 0 (by decide) (hts _ k871) (fun _ h9 => h9) rfl dX12_span_20 ?_
    refine lv_if_le (tgt := 28) hx hb dX12_span_23 (by decide) (fun c61 => absurd c61 (by decide)) (fun _ => ?_)
    refine lv_iconst (v := 0) hx hb dX12_span_26 (by decide) ?_
    have hP : va_P g.1 vwCl (List.flatten [bMo g o a 1 hi ac tp ba en tA fl de iD iO tU fm fk fa fc ft ff fb fi]) H := hP
    have hD : va_D A (List.flatten [bMo g o a 1 hi ac tp ba en tA fl de iD iO tU fm fk fa fc ft ff fb fi]) := hD
    exact mret_i hx hb hr hlocks hS (Nat.le_of_ble_eq_true rfl) (Nat.le_of_ble_eq_true rfl) dX12_span_27 ((1 : Int32), ba, en, tA, de, iD, iO, tU, ff, fm, fb, fa, (0 : Int32)) rfl (show (rM fa) ∧ (rM fm) ∧ (0 ≤ iO.toInt ∧ iO.toInt ≤ 1) ∧ (0 ≤ iD.toInt ∧ iD.toInt ≤ 1) from ⟨(by first | assumption | omega | decide | exact rfl | exact zb01 (by omega) | exact Or.inl (by decide) | exact Or.inr (by first | omega | decide)), (by first | assumption | omega | decide | exact rfl | exact zb01 (by omega) | exact Or.inl (by decide) | exact Or.inr (by first | omega | decide)), (by first | assumption | omega | decide | exact rfl | exact zb01 (by omega) | exact Or.inl (by decide) | exact Or.inr (by first | omega | decide)), (by first | assumption | omega | decide | exact rfl | exact zb01 (by omega) | exact Or.inl (by decide) | exact Or.inr (by first | omega | decide))⟩) hP hD
