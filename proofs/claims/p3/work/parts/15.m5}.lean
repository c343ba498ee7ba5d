set_option maxRecDepth 100000 in
set_option maxHeartbeats 4000000 in
theorem m_reaches (l : Launch) (g : zG) (o : Nat) (a : Nat → Nat) (th : Int32) (hi : Int32) (ac : Int32) (tp : Int32) (ba : Int32) (en : Int32) (tA : Int32) (fl : Int32) (de : Int32) (iD : Int32) (iO : Int32) (tU : Int32) (fm : Nat → Int32) (fk : Nat → Int32) (fa : Nat → Int32) (fc : Nat → Int32) (ft : Nat → Int32) (ff : Nat → Int32) (fb : Nat → Int32) (fi : Nat → Int32) (x : Int32) (rfm : rM fm) (rfa : rM fa) (hiD : 0 ≤ iD.toInt ∧ iD.toInt ≤ 1) (hiO : 0 ≤ iO.toInt ∧ iO.toInt ≤ 1) : zM' g l yX12_reaches (Cond.code yX12_reaches cX12_reaches 5 (some .int) :: zB) ({ frames := 33, cells := 0, slots := 0, locals := 736 } : Room) [.ref o, .int x] [bMo g o a th hi ac tp ba en tA fl de iD iO tU fm fk fa fc ft ff fb fi] (fun u : Int32 × Int32 × Int32 × Int32 × Int32 × Int32 × Int32 × Int32 × (Nat → Int32) × (Nat → Int32) × (Nat → Int32) × (Nat → Int32) × Int32 => (fun (th2 : Int32) (ba2 : Int32) (en2 : Int32) (at2 : Int32) (de2 : Int32) (iD2 : Int32) (iO2 : Int32) (tU2 : Int32) (ff2 : Nat → Int32) (fm2 : Nat → Int32) (fb2 : Nat → Int32) (fa2 : Nat → Int32) (q : Int32) => some (.int q)) (u.1) (u.2.1) (u.2.2.1) (u.2.2.2.1) (u.2.2.2.2.1) (u.2.2.2.2.2.1) (u.2.2.2.2.2.2.1) (u.2.2.2.2.2.2.2.1) (u.2.2.2.2.2.2.2.2.1) (u.2.2.2.2.2.2.2.2.2.1) (u.2.2.2.2.2.2.2.2.2.2.1) (u.2.2.2.2.2.2.2.2.2.2.2.1) (u.2.2.2.2.2.2.2.2.2.2.2.2)) (fun u : Int32 × Int32 × Int32 × Int32 × Int32 × Int32 × Int32 × Int32 × (Nat → Int32) × (Nat → Int32) × (Nat → Int32) × (Nat → Int32) × Int32 => (fun (th2 : Int32) (ba2 : Int32) (en2 : Int32) (at2 : Int32) (de2 : Int32) (iD2 : Int32) (iO2 : Int32) (tU2 : Int32) (ff2 : Nat → Int32) (fm2 : Nat → Int32) (fb2 : Nat → Int32) (fa2 : Nat → Int32) (q : Int32) => (rM fa2) ∧ (rM fm2) ∧ (0 ≤ iO2.toInt ∧ iO2.toInt ≤ 1) ∧ (0 ≤ iD2.toInt ∧ iD2.toInt ≤ 1)) (u.1) (u.2.1) (u.2.2.1) (u.2.2.2.1) (u.2.2.2.2.1) (u.2.2.2.2.2.1) (u.2.2.2.2.2.2.1) (u.2.2.2.2.2.2.2.1) (u.2.2.2.2.2.2.2.2.1) (u.2.2.2.2.2.2.2.2.2.1) (u.2.2.2.2.2.2.2.2.2.2.1) (u.2.2.2.2.2.2.2.2.2.2.2.1) (u.2.2.2.2.2.2.2.2.2.2.2.2)) (fun u : Int32 × Int32 × Int32 × Int32 × Int32 × Int32 × Int32 × Int32 × (Nat → Int32) × (Nat → Int32) × (Nat → Int32) × (Nat → Int32) × Int32 => (fun (th2 : Int32) (ba2 : Int32) (en2 : Int32) (at2 : Int32) (de2 : Int32) (iD2 : Int32) (iO2 : Int32) (tU2 : Int32) (ff2 : Nat → Int32) (fm2 : Nat → Int32) (fb2 : Nat → Int32) (fa2 : Nat → Int32) (q : Int32) => [bMo g o a th2 hi ac tp ba2 en2 at2 fl de2 iD2 iO2 tU2 fm2 fk fa2 fc ft ff2 fb2 fi]) (u.1) (u.2.1) (u.2.2.1) (u.2.2.2.1) (u.2.2.2.2.1) (u.2.2.2.2.2.1) (u.2.2.2.2.2.2.1) (u.2.2.2.2.2.2.2.1) (u.2.2.2.2.2.2.2.2.1) (u.2.2.2.2.2.2.2.2.2.1) (u.2.2.2.2.2.2.2.2.2.2.1) (u.2.2.2.2.2.2.2.2.2.2.2.1) (u.2.2.2.2.2.2.2.2.2.2.2.2)) := by
  refine zM'.of (cc := cX12_reaches) (maxL := 5) (rt := (some .int)) (by decide) rfl (Nat.le_of_ble_eq_true rfl) ?_
  intro p e s m args below meth c A ls St hr hlocks hin hK hT hA hP hD hS hl
  obtain ⟨hx, hb, hml, hown, hts⟩ := id St
  have hl : lv_has ls 5 [(0, .ref o), (1, .int x)] := hl
  refine lv_aload_n hx hb dX12_reaches_0 rfl (lv_at hl 0 rfl) ?_
  refine lv_iload_n hx hb dX12_reaches_1 rfl (lv_at hl 1 rfl) ?_
  refine lv_iconst (v := 1) hx hb dX12_reaches_2 (by decide) ?_
  refine lv_sipush (v := 792) hx hb dX12_reaches_3 (by decide) ?_
  have hL1 : (1 : Int32).toInt = 1 := by decide
  have hL792 : (792 : Int32).toInt = 792 := by decide
  refine mcallS' (g := g) (As := [.int x, .int 1, .int 792]) (rest := [.ref o]) St hK hT hA hP hD hS hl.1 [] [0] rfl rfl rfl (m_isIn l g x 1 792 ) (va_cwS 3 hts (zgL (zl3 k835 k836 k837) k824) rfl rfl rfl (by decide +kernel) ⟨Nat.le_of_ble_eq_true rfl, Nat.le_of_ble_eq_true rfl⟩) rfl rfl (Nat.le_of_ble_eq_true rfl) dX12_reaches_6 ⟨(Nat.le_of_ble_eq_true rfl), (Nat.le_of_ble_eq_true rfl)⟩ (fun q_1 H locs hq2 hP hD hS => ?_)
  replace hq2 : (q_1 = 1 ∧ (1 : Int32).toInt ≤ x.toInt ∧ x.toInt ≤ (792 : Int32).toInt ∨ q_1 = 0 ∧ (x.toInt < (1 : Int32).toInt ∨ (792 : Int32).toInt < x.toInt)) := hq2
  have hP : va_P g.1 vwCl (List.flatten [bMo g o a th hi ac tp ba en tA fl de iD iO tU fm fk fa fc ft ff fb fi]) H := hP
  have hD : va_D A (List.flatten [bMo g o a th hi ac tp ba en tA fl de iD iO tU fm fk fa fc ft ff fb fi]) := hD
  refine W.widen (k := 0) (n := 0) (Nat.le_of_ble_eq_true rfl) (Nat.le_of_ble_eq_true rfl) ?_
  refine W.eq (g2 := F0 m 9 ls [.int q_1, .ref o]) rfl ?_
  rcases hq2 with ⟨rfl, hq2_k⟩ | ⟨rfl, hq2_k⟩
  · skip
    refine lv_if_ne (tgt := 16) hx hb dX12_reaches_9 (by decide) (fun _ => ?_) (fun c3 => absurd c3 (by decide))
    refine lv_iconst (v := 0) hx hb dX12_reaches_16 (by decide) ?_
    refine va_put (D := g.1) (ci := 10) (v := .int 0) (ty := .int) (C := RX12) (T := TX12) (N := 20) hx hb hts izRX12 tyX12 tyX12_ok nmX12 hown hK hP hD hS 0 rfl rfl 0 (by decide) (hts _ k871) (fun _ h9 => h9) rfl (by decide +kernel) rfl rfl (Nat.le_of_ble_eq_true rfl) dX12_reaches_17 (fun H locs hP hD hS => ?_)
    have hP : va_P g.1 vwCl (List.flatten [bMo g o a 0 hi ac tp ba en tA fl de iD iO tU fm fk fa fc ft ff fb fi]) H := hP
    have hD : va_D A (List.flatten [bMo g o a 0 hi ac tp ba en tA fl de iD iO tU fm fk fa fc ft ff fb fi]) := hD
    refine lv_aload_n hx hb dX12_reaches_20 rfl (lv_at hl 0 rfl) ?_
    refine va_get (D := g.1) (ci := 10) (v := .int 0) (C := RX12) (T := TX12) (N := 20) hx hb hts izRX12 hown hK hP 0 rfl rfl 0 (by decide) (hts _ k871) (fun _ h9 => h9) rfl dX12_reaches_21 ?_
    refine lv_if_le (tgt := 29) hx hb dX12_reaches_24 (by decide) (fun _ => ?_) (fun c4 => absurd (by decide) c4)
    refine lv_aload_n hx hb dX12_reaches_29 rfl (lv_at hl 0 rfl) ?_
    refine mcallV' (g := g) (q0 := 0) (ci := 10) (As := []) (rest := []) St hK hT hA hP hD hS hl.1 [0] [] rfl rfl rfl (m_putsAside l g o a 0 hi ac tp ba en tA fl de iD iO tU fm fk fa fc ft ff fb fi (by first | assumption | omega | decide | exact Or.inl (by decide) | exact Or.inr (by decide)) (by first | assumption | omega | decide | exact Or.inl (by decide) | exact Or.inr (by decide))) (cwV 0 hts (zgL (zl4 k974 k975 k976 k837) k971) rfl rfl rfl (by decide +kernel) ⟨Nat.le_of_ble_eq_true rfl, Nat.le_of_ble_eq_true rfl⟩) rfl rfl rfl rfl (Nat.le_of_ble_eq_true rfl) dX12_reaches_30 ⟨(Nat.le_of_ble_eq_true rfl), (Nat.le_of_ble_eq_true rfl)⟩ (fun fa2_5 H locs hq6 hP hD hS => ?_)
    replace hq6 : (rM fa2_5) := hq6
    have hP : va_P g.1 vwCl (List.flatten [bMo g o a 0 hi ac tp ba en tA fl de iD iO tU fm fk fa2_5 fc ft ff fb fi]) H := hP
    have hD : va_D A (List.flatten [bMo g o a 0 hi ac tp ba en tA fl de iD iO tU fm fk fa2_5 fc ft ff fb fi]) := hD
    refine W.widen (k := 0) (n := 0) (Nat.le_of_ble_eq_true rfl) (Nat.le_of_ble_eq_true rfl) ?_
    refine W.eq (g2 := F0 m 33 ls []) rfl ?_
    have rfa2_5 := hq6; clear hq6
    refine lv_iconst (v := (-1)) hx hb dX12_reaches_33 (by decide) ?_
    refine lv_istore_n (lv' := [(2, .int (-1)), (0, .ref o), (1, .int x)]) hx hb dX12_reaches_34 rfl hl (by decide) rfl (fun ls hl => ?_)
    refine lv_iconst (v := 0) hx hb dX12_reaches_35 (by decide) ?_
    refine lv_istore_n (lv' := [(3, .int 0), (2, .int (-1)), (0, .ref o), (1, .int x)]) hx hb dX12_reaches_36 rfl hl (by decide) rfl (fun ls hl => ?_)
    have hl := lv_sub (l' := [(0, .ref o), (1, .int x), (2, .int (-1)), (3, .int 0)]) hl [2, 3, 1, 0] rfl
    have LP37_23 : ∀ (kf : Nat) (x_7 : Int32) (x_8 : Int32) (x_9 : Int32) (x_10 : Int32) (x_11 : Int32) (x_12 : Int32) (x_13 : Int32) (x_14 : Int32) (x_15 : Int32) (fm_16 : Nat → Int32) (ff_17 : Nat → Int32) (fb_18 : Nat → Int32), ((-1) ≤ x_7.toInt ∧ x_7.toInt ≤ 100) → (0 ≤ x_8.toInt ∧ x_8.toInt ≤ 101) → (0 ≤ x_13.toInt ∧ x_13.toInt ≤ 1) → (0 ≤ x_14.toInt ∧ x_14.toInt ≤ 1) → (rM fm_16) → ∀ (H : Heap) (locs : List Loc) (ls : Array Slot), ((102 - x_8.toInt).toNat) < kf → va_P g.1 vwCl (List.flatten [bMo g o a 0 hi ac tp x_9 x_10 x_11 fl x_12 x_13 x_14 x_15 fm_16 fk fa2_5 fc ft ff_17 fb_18 fi]) H → va_D A (List.flatten [bMo g o a 0 hi ac tp x_9 x_10 x_11 fl x_12 x_13 x_14 x_15 fm_16 fk fa2_5 fc ft ff_17 fb_18 fi]) → va_S A s.heap H locs → lv_has ls 5 [(0, .ref o), (1, .int x), (2, .int x_7), (3, .int x_8)] → W p l e ({ frames := 33, cells := 0, slots := 0, locals := 736 } : Room) s m args below meth c H locs (0) (0) (zF g (fun u : Int32 × Int32 × Int32 × Int32 × Int32 × Int32 × Int32 × Int32 × (Nat → Int32) × (Nat → Int32) × (Nat → Int32) × (Nat → Int32) × Int32 => (fun (th2 : Int32) (ba2 : Int32) (en2 : Int32) (at2 : Int32) (de2 : Int32) (iD2 : Int32) (iO2 : Int32) (tU2 : Int32) (ff2 : Nat → Int32) (fm2 : Nat → Int32) (fb2 : Nat → Int32) (fa2 : Nat → Int32) (q : Int32) => some (.int q)) (u.1) (u.2.1) (u.2.2.1) (u.2.2.2.1) (u.2.2.2.2.1) (u.2.2.2.2.2.1) (u.2.2.2.2.2.2.1) (u.2.2.2.2.2.2.2.1) (u.2.2.2.2.2.2.2.2.1) (u.2.2.2.2.2.2.2.2.2.1) (u.2.2.2.2.2.2.2.2.2.2.1) (u.2.2.2.2.2.2.2.2.2.2.2.1) (u.2.2.2.2.2.2.2.2.2.2.2.2)) (fun u : Int32 × Int32 × Int32 × Int32 × Int32 × Int32 × Int32 × Int32 × (Nat → Int32) × (Nat → Int32) × (Nat → Int32) × (Nat → Int32) × Int32 => (fun (th2 : Int32) (ba2 : Int32) (en2 : Int32) (at2 : Int32) (de2 : Int32) (iD2 : Int32) (iO2 : Int32) (tU2 : Int32) (ff2 : Nat → Int32) (fm2 : Nat → Int32) (fb2 : Nat → Int32) (fa2 : Nat → Int32) (q : Int32) => (rM fa2) ∧ (rM fm2) ∧ (0 ≤ iO2.toInt ∧ iO2.toInt ≤ 1) ∧ (0 ≤ iD2.toInt ∧ iD2.toInt ≤ 1)) (u.1) (u.2.1) (u.2.2.1) (u.2.2.2.1) (u.2.2.2.2.1) (u.2.2.2.2.2.1) (u.2.2.2.2.2.2.1) (u.2.2.2.2.2.2.2.1) (u.2.2.2.2.2.2.2.2.1) (u.2.2.2.2.2.2.2.2.2.1) (u.2.2.2.2.2.2.2.2.2.2.1) (u.2.2.2.2.2.2.2.2.2.2.2.1) (u.2.2.2.2.2.2.2.2.2.2.2.2)) (fun u : Int32 × Int32 × Int32 × Int32 × Int32 × Int32 × Int32 × Int32 × (Nat → Int32) × (Nat → Int32) × (Nat → Int32) × (Nat → Int32) × Int32 => (fun (th2 : Int32) (ba2 : Int32) (en2 : Int32) (at2 : Int32) (de2 : Int32) (iD2 : Int32) (iO2 : Int32) (tU2 : Int32) (ff2 : Nat → Int32) (fm2 : Nat → Int32) (fb2 : Nat → Int32) (fa2 : Nat → Int32) (q : Int32) => [bMo g o a th2 hi ac tp ba2 en2 at2 fl de2 iD2 iO2 tU2 fm2 fk fa2 fc ft ff2 fb2 fi]) (u.1) (u.2.1) (u.2.2.1) (u.2.2.2.1) (u.2.2.2.2.1) (u.2.2.2.2.2.1) (u.2.2.2.2.2.2.1) (u.2.2.2.2.2.2.2.1) (u.2.2.2.2.2.2.2.2.1) (u.2.2.2.2.2.2.2.2.2.1) (u.2.2.2.2.2.2.2.2.2.2.1) (u.2.2.2.2.2.2.2.2.2.2.2.1) (u.2.2.2.2.2.2.2.2.2.2.2.2)) ({ frames := 33, cells := 0, slots := 0, locals := 736 } : Room) below args s A) (F0 m 37 ls []) := by
      intro kf
      induction kf with
      | zero => intro x_7 x_8 x_9 x_10 x_11 x_12 x_13 x_14 x_15 fm_16 ff_17 fb_18 i19 i20 i21 i22 rfm_16 H locs ls hk; exact absurd hk (Nat.not_lt_zero _)
      | succ kf ih37_24 =>
        intro x_7 x_8 x_9 x_10 x_11 x_12 x_13 x_14 x_15 fm_16 ff_17 fb_18 i19 i20 i21 i22 rfm_16 H locs ls hk37_24 hP hD hS hl
        refine lv_iload_n hx hb dX12_reaches_37 rfl (lv_at hl 3 rfl) ?_
        refine lv_bipush (v := 100) hx hb dX12_reaches_38 (by decide) ?_
        refine lv_icmp_gt (tgt := 72) hx hb dX12_reaches_40 (by decide) (fun cb9 => ?_) (fun cb9 => ?_)
        · skip
          have c25 : 100 < x_8.toInt := zlti cb9 (by decide) rfl
          have n26 : 101 ≤ x_8.toInt := zL2 (a := 100) c25 (Int.le_refl _) (by decide)
          refine lv_aload_n hx hb dX12_reaches_72 rfl (lv_at hl 0 rfl) ?_
          refine mcallV' (g := g) (q0 := 0) (ci := 10) (As := []) (rest := []) St hK hT hA hP hD hS hl.1 [0] [] rfl rfl rfl (m_comesBack l g o a 0 hi ac tp x_9 x_10 x_11 fl x_12 x_13 x_14 x_15 fm_16 fk fa2_5 fc ft ff_17 fb_18 fi (by first | assumption | omega | decide | exact Or.inl (by decide) | exact Or.inr (by decide)) (by first | assumption | omega | decide | exact Or.inl (by decide) | exact Or.inr (by decide))) (cwV 0 hts (zgL (zl4 k983 k984 k985 k837) k972) rfl rfl rfl (by decide +kernel) ⟨Nat.le_of_ble_eq_true rfl, Nat.le_of_ble_eq_true rfl⟩) rfl rfl rfl rfl (Nat.le_of_ble_eq_true rfl) dX12_reaches_73 ⟨(Nat.le_of_ble_eq_true rfl), (Nat.le_of_ble_eq_true rfl)⟩ (fun fm2_27 H locs hq28 hP hD hS => ?_)
          replace hq28 : (rM fm2_27) := hq28
          have hP : va_P g.1 vwCl (List.flatten [bMo g o a 0 hi ac tp x_9 x_10 x_11 fl x_12 x_13 x_14 x_15 fm2_27 fk fa2_5 fc ft ff_17 fb_18 fi]) H := hP
          have hD : va_D A (List.flatten [bMo g o a 0 hi ac tp x_9 x_10 x_11 fl x_12 x_13 x_14 x_15 fm2_27 fk fa2_5 fc ft ff_17 fb_18 fi]) := hD
          refine W.widen (k := 0) (n := 0) (Nat.le_of_ble_eq_true rfl) (Nat.le_of_ble_eq_true rfl) ?_
          refine W.eq (g2 := F0 m 76 ls []) rfl ?_
          have rfm2_27 := hq28; clear hq28
          refine lv_iload_n hx hb dX12_reaches_76 rfl (lv_at hl 2 rfl) ?_
          have hP : va_P g.1 vwCl (List.flatten [bMo g o a 0 hi ac tp x_9 x_10 x_11 fl x_12 x_13 x_14 x_15 fm2_27 fk fa2_5 fc ft ff_17 fb_18 fi]) H := hP
          have hD : va_D A (List.flatten [bMo g o a 0 hi ac tp x_9 x_10 x_11 fl x_12 x_13 x_14 x_15 fm2_27 fk fa2_5 fc ft ff_17 fb_18 fi]) := hD
          exact mret_i hx hb hr hlocks hS (Nat.le_of_ble_eq_true rfl) (Nat.le_of_ble_eq_true rfl) dX12_reaches_77 ((0 : Int32), x_9, x_10, x_11, x_12, x_13, x_14, x_15, ff_17, fm2_27, fb_18, fa2_5, x_7) rfl (show (rM fa2_5) ∧ (rM fm2_27) ∧ (0 ≤ x_14.toInt ∧ x_14.toInt ≤ 1) ∧ (0 ≤ x_13.toInt ∧ x_13.toInt ≤ 1) from ⟨(by first | assumption | omega | decide | exact rfl | exact zb01 (by omega) | exact Or.inl (by decide) | exact Or.inr (by first | omega | decide)), (by first | assumption | omega | decide | exact rfl | exact zb01 (by omega) | exact Or.inl (by decide) | exact Or.inr (by first | omega | decide)), (by first | assumption | omega | decide | exact rfl | exact zb01 (by omega) | exact Or.inl (by decide) | exact Or.inr (by first | omega | decide)), (by first | assumption | omega | decide | exact rfl | exact zb01 (by omega) | exact Or.inl (by decide) | exact Or.inr (by first | omega | decide))⟩) hP hD
        · skip
          have c29 : x_8.toInt ≤ 100 := zle (Int32.not_lt.mp cb9) rfl (by decide)
          have n30 : x_8.toInt ≤ 100 := Int.le_trans c29 (Int.le_refl _)
          refine lv_iload_n hx hb dX12_reaches_43 rfl (lv_at hl 2 rfl) ?_
          refine lv_iconst (v := (-1)) hx hb dX12_reaches_44 (by decide) ?_
          refine lv_icmp_ne (tgt := 72) hx hb dX12_reaches_45 (by decide) (fun cb9 => ?_) (fun cb9 => ?_)
          · skip
            have c31 : ¬ x_7.toInt = (-1) := zne cb9 rfl (by decide)
            have n32 : 0 ≤ x_7.toInt := zN1 c31 i19.1 (by decide)
            refine lv_aload_n hx hb dX12_reaches_72 rfl (lv_at hl 0 rfl) ?_
            refine mcallV' (g := g) (q0 := 0) (ci := 10) (As := []) (rest := []) St hK hT hA hP hD hS hl.1 [0] [] rfl rfl rfl (m_comesBack l g o a 0 hi ac tp x_9 x_10 x_11 fl x_12 x_13 x_14 x_15 fm_16 fk fa2_5 fc ft ff_17 fb_18 fi (by first | assumption | omega | decide | exact Or.inl (by decide) | exact Or.inr (by decide)) (by first | assumption | omega | decide | exact Or.inl (by decide) | exact Or.inr (by decide))) (cwV 0 hts (zgL (zl4 k983 k984 k985 k837) k972) rfl rfl rfl (by decide +kernel) ⟨Nat.le_of_ble_eq_true rfl, Nat.le_of_ble_eq_true rfl⟩) rfl rfl rfl rfl (Nat.le_of_ble_eq_true rfl) dX12_reaches_73 ⟨(Nat.le_of_ble_eq_true rfl), (Nat.le_of_ble_eq_true rfl)⟩ (fun fm2_33 H locs hq34 hP hD hS => ?_)
            replace hq34 : (rM fm2_33) := hq34
            have hP : va_P g.1 vwCl (List.flatten [bMo g o a 0 hi ac tp x_9 x_10 x_11 fl x_12 x_13 x_14 x_15 fm2_33 fk fa2_5 fc ft ff_17 fb_18 fi]) H := hP
            have hD : va_D A (List.flatten [bMo g o a 0 hi ac tp x_9 x_10 x_11 fl x_12 x_13 x_14 x_15 fm2_33 fk fa2_5 fc ft ff_17 fb_18 fi]) := hD
            refine W.widen (k := 0) (n := 0) (Nat.le_of_ble_eq_true rfl) (Nat.le_of_ble_eq_true rfl) ?_
            refine W.eq (g2 := F0 m 76 ls []) rfl ?_
            have rfm2_33 := hq34; clear hq34
            refine lv_iload_n hx hb dX12_reaches_76 rfl (lv_at hl 2 rfl) ?_
            have hP : va_P g.1 vwCl (List.flatten [bMo g o a 0 hi ac tp x_9 x_10 x_11 fl x_12 x_13 x_14 x_15 fm2_33 fk fa2_5 fc ft ff_17 fb_18 fi]) H := hP
            have hD : va_D A (List.flatten [bMo g o a 0 hi ac tp x_9 x_10 x_11 fl x_12 x_13 x_14 x_15 fm2_33 fk fa2_5 fc ft ff_17 fb_18 fi]) := hD
            exact mret_i hx hb hr hlocks hS (Nat.le_of_ble_eq_true rfl) (Nat.le_of_ble_eq_true rfl) dX12_reaches_77 ((0 : Int32), x_9, x_10, x_11, x_12, x_13, x_14, x_15, ff_17, fm2_33, fb_18, fa2_5, x_7) rfl (show (rM fa2_5) ∧ (rM fm2_33) ∧ (0 ≤ x_14.toInt ∧ x_14.toInt ≤ 1) ∧ (0 ≤ x_13.toInt ∧ x_13.toInt ≤ 1) from ⟨(by first | assumption | omega | decide | exact rfl | exact zb01 (by omega) | exact Or.inl (by decide) | exact Or.inr (by first | omega | decide)), (by first | assumption | omega | decide | exact rfl | exact zb01 (by omega) | exact Or.inl (by decide) | exact Or.inr (by first | omega | decide)), (by first | assumption | omega | decide | exact rfl | exact zb01 (by omega) | exact Or.inl (by decide) | exact Or.inr (by first | omega | decide)), (by first | assumption | omega | decide | exact rfl | exact zb01 (by omega) | exact Or.inl (by decide) | exact Or.inr (by first | omega | decide))⟩) hP hD
          · skip
            have c35 : x_7.toInt = (-1) := zeq cb9 rfl (by decide)
            have n36 : x_7.toInt ≤ (-1) := Int.le_trans (Int.le_of_eq c35) (Int.le_refl _)
            refine lv_aload_n hx hb dX12_reaches_48 rfl (lv_at hl 0 rfl) ?_
            refine mcallV' (g := g) (q0 := 0) (ci := 10) (As := []) (rest := []) St hK hT hA hP hD hS hl.1 [0] [] rfl rfl rfl (m_believed l g o a 0 hi ac tp x_9 x_10 x_11 fl x_12 x_13 x_14 x_15 fm_16 fk fa2_5 fc ft ff_17 fb_18 fi (by first | assumption | omega | decide | exact Or.inl (by decide) | exact Or.inr (by decide))) (cwV 0 hts (zgL (zl4 k854 k855 k856 k837) k847) rfl rfl rfl (by decide +kernel) ⟨Nat.le_of_ble_eq_true rfl, Nat.le_of_ble_eq_true rfl⟩) rfl rfl rfl rfl (Nat.le_of_ble_eq_true rfl) dX12_reaches_49 ⟨(Nat.le_of_ble_eq_true rfl), (Nat.le_of_ble_eq_true rfl)⟩ (fun q_37 H locs hq38 hP hD hS => ?_)
            have hP : va_P g.1 vwCl (List.flatten [bMo g o a 0 hi ac tp x_9 x_10 x_11 fl x_12 x_13 x_14 x_15 fm_16 fk fa2_5 fc ft ff_17 fb_18 fi]) H := hP
            have hD : va_D A (List.flatten [bMo g o a 0 hi ac tp x_9 x_10 x_11 fl x_12 x_13 x_14 x_15 fm_16 fk fa2_5 fc ft ff_17 fb_18 fi]) := hD
            refine W.widen (k := 0) (n := 0) (Nat.le_of_ble_eq_true rfl) (Nat.le_of_ble_eq_true rfl) ?_
            refine W.eq (g2 := F0 m 52 ls [.int q_37]) rfl ?_
            refine lv_iload_n hx hb dX12_reaches_52 rfl (lv_at hl 1 rfl) ?_
            refine lv_icmp_lt (tgt := 58) hx hb dX12_reaches_53 (by decide) (fun cb9 => ?_) (fun cb9 => ?_)
            · skip
              have c39 : q_37.toInt < x.toInt := zlti cb9 rfl rfl
              refine lv_aload_n hx hb dX12_reaches_58 rfl (lv_at hl 0 rfl) ?_
              refine lv_iconst (v := 1) hx hb dX12_reaches_59 (by decide) ?_
              refine lv_iconst (v := 0) hx hb dX12_reaches_60 (by decide) ?_
              refine mcallV' (g := g) (q0 := 0) (ci := 10) (As := [.int 1, .int 0]) (rest := []) St hK hT hA hP hD hS hl.1 [0] [] rfl rfl rfl (m_goes l g o a 0 hi ac tp x_9 x_10 x_11 fl x_12 x_13 x_14 x_15 fm_16 fk fa2_5 fc ft ff_17 fb_18 fi 1 0 (by first | assumption | omega | decide | exact Or.inl (by decide) | exact Or.inr (by decide)) (⟨i21.1, i21.2⟩) (⟨i22.1, i22.2⟩) (by decide)) (cwV 2 hts (zgL (zl4 k1056 k1057 k1058 k837) k1027) rfl rfl rfl (by decide +kernel) ⟨Nat.le_of_ble_eq_true rfl, Nat.le_of_ble_eq_true rfl⟩) rfl rfl rfl rfl (Nat.le_of_ble_eq_true rfl) dX12_reaches_61 ⟨(Nat.le_of_ble_eq_true rfl), (Nat.le_of_ble_eq_true rfl)⟩ (fun u_ H locs hq51 hP hD hS => ?_)
              obtain ⟨ba2_40, en2_41, at2_42, de2_43, iD2_44, iO2_45, tU2_46, ff2_47, fm2_48, fb2_49, q_50⟩ := u_
              replace hq51 : (rM fm2_48) ∧ (0 ≤ iO2_45.toInt ∧ iO2_45.toInt ≤ 1) ∧ (0 ≤ iD2_44.toInt ∧ iD2_44.toInt ≤ 1) := hq51
              have hP : va_P g.1 vwCl (List.flatten [bMo g o a 0 hi ac tp ba2_40 en2_41 at2_42 fl de2_43 iD2_44 iO2_45 tU2_46 fm2_48 fk fa2_5 fc ft ff2_47 fb2_49 fi]) H := hP
              have hD : va_D A (List.flatten [bMo g o a 0 hi ac tp ba2_40 en2_41 at2_42 fl de2_43 iD2_44 iO2_45 tU2_46 fm2_48 fk fa2_5 fc ft ff2_47 fb2_49 fi]) := hD
              refine W.widen (k := 0) (n := 0) (Nat.le_of_ble_eq_true rfl) (Nat.le_of_ble_eq_true rfl) ?_
              refine W.eq (g2 := F0 m 64 ls [.int q_50]) rfl ?_
              obtain ⟨rfm2_48, hq51_1, hq51_2⟩ := hq51
              refine lv_istore (lv' := [(4, .int q_50), (0, .ref o), (1, .int x), (2, .int x_7), (3, .int x_8)]) hx hb dX12_reaches_64 hl (by decide) rfl (fun ls hl => ?_)
              refine ziinc3 (n' := 1) (a' := 1) (b' := 101) (lv' := fun v9 => [(3, .int v9), (4, .int q_50), (0, .ref o), (1, .int x), (2, .int x_7)]) hx hb dX12_reaches_66 hl (k := 4) rfl (by decide) (fun _ => rfl) (zaddK (i := x_8.toInt) (j := 1) rfl (by decide) i20.1 n30 (Int.le_refl _) (Int.le_refl _) (by decide)) (fun x_52 ls hx_52 hl => ?_)
              refine lv_goto (tgt := 37) hx hb dX12_reaches_69 (by decide) ?_
              have hl := lv_sub (l' := [(0, .ref o), (1, .int x), (2, .int x_7), (3, .int x_52), (4, .int q_50)]) hl [2, 3, 4, 0, 1] rfl
              have hP : va_P g.1 vwCl (List.flatten [bMo g o a 0 hi ac tp ba2_40 en2_41 at2_42 fl de2_43 iD2_44 iO2_45 tU2_46 fm2_48 fk fa2_5 fc ft ff2_47 fb2_49 fi]) H := hP
              have hD : va_D A (List.flatten [bMo g o a 0 hi ac tp ba2_40 en2_41 at2_42 fl de2_43 iD2_44 iO2_45 tU2_46 fm2_48 fk fa2_5 fc ft ff2_47 fb2_49 fi]) := hD
              exact ih37_24 x_7 x_52 ba2_40 en2_41 at2_42 de2_43 iD2_44 iO2_45 tU2_46 fm2_48 ff2_47 fb2_49 ⟨i19.1, (Int.le_trans n36 (by decide))⟩ ⟨(Int.le_trans (by decide) hx_52.2.1), hx_52.2.2⟩ ⟨hq51_2.1, hq51_2.2⟩ ⟨hq51_1.1, hq51_1.2⟩ rfm2_48 H _ ls (zmK hx_52.1 (by decide) n30 (by decide) hk37_24)  hP hD hS (lv_sub hl [0, 1, 2, 3] rfl)
            · skip
              have c53 : x.toInt ≤ q_37.toInt := zle (Int32.not_lt.mp cb9) rfl rfl
              refine lv_iload_n hx hb dX12_reaches_56 rfl (lv_at hl 3 rfl) ?_
              refine lv_istore_n (lv' := [(2, .int x_8), (0, .ref o), (1, .int x), (3, .int x_8)]) hx hb dX12_reaches_57 rfl hl (by decide) rfl (fun ls hl => ?_)
              refine lv_aload_n hx hb dX12_reaches_58 rfl (lv_at hl 1 rfl) ?_
              refine lv_iconst (v := 1) hx hb dX12_reaches_59 (by decide) ?_
              refine lv_iconst (v := 0) hx hb dX12_reaches_60 (by decide) ?_
              refine mcallV' (g := g) (q0 := 0) (ci := 10) (As := [.int 1, .int 0]) (rest := []) St hK hT hA hP hD hS hl.1 [0] [] rfl rfl rfl (m_goes l g o a 0 hi ac tp x_9 x_10 x_11 fl x_12 x_13 x_14 x_15 fm_16 fk fa2_5 fc ft ff_17 fb_18 fi 1 0 (by first | assumption | omega | decide | exact Or.inl (by decide) | exact Or.inr (by decide)) (⟨i21.1, i21.2⟩) (⟨i22.1, i22.2⟩) (by decide)) (cwV 2 hts (zgL (zl4 k1056 k1057 k1058 k837) k1027) rfl rfl rfl (by decide +kernel) ⟨Nat.le_of_ble_eq_true rfl, Nat.le_of_ble_eq_true rfl⟩) rfl rfl rfl rfl (Nat.le_of_ble_eq_true rfl) dX12_reaches_61 ⟨(Nat.le_of_ble_eq_true rfl), (Nat.le_of_ble_eq_true rfl)⟩ (fun u_ H locs hq65 hP hD hS => ?_)
              obtain ⟨ba2_54, en2_55, at2_56, de2_57, iD2_58, iO2_59, tU2_60, ff2_61, fm2_62, fb2_63, q_64⟩ := u_
              replace hq65 : (rM fm2_62) ∧ (0 ≤ iO2_59.toInt ∧ iO2_59.toInt ≤ 1) ∧ (0 ≤ iD2_58.toInt ∧ iD2_58.toInt ≤ 1) := hq65
              have hP : va_P g.1 vwCl (List.flatten [bMo g o a 0 hi ac tp ba2_54 en2_55 at2_56 fl de2_57 iD2_58 iO2_59 tU2_60 fm2_62 fk fa2_5 fc ft ff2_61 fb2_63 fi]) H := hP
              have hD : va_D A (List.flatten [bMo g o a 0 hi ac tp ba2_54 en2_55 at2_56 fl de2_57 iD2_58 iO2_59 tU2_60 fm2_62 fk fa2_5 fc ft ff2_61 fb2_63 fi]) := hD
              refine W.widen (k := 0) (n := 0) (Nat.le_of_ble_eq_true rfl) (Nat.le_of_ble_eq_true rfl) ?_
              refine W.eq (g2 := F0 m 64 ls [.int q_64]) rfl ?_
              obtain ⟨rfm2_62, hq65_1, hq65_2⟩ := hq65
              refine lv_istore (lv' := [(4, .int q_64), (2, .int x_8), (0, .ref o), (1, .int x), (3, .int x_8)]) hx hb dX12_reaches_64 hl (by decide) rfl (fun ls hl => ?_)
              refine ziinc3 (n' := 1) (a' := 1) (b' := 101) (lv' := fun v9 => [(3, .int v9), (4, .int q_64), (2, .int x_8), (0, .ref o), (1, .int x)]) hx hb dX12_reaches_66 hl (k := 4) rfl (by decide) (fun _ => rfl) (zaddK (i := x_8.toInt) (j := 1) rfl (by decide) i20.1 n30 (Int.le_refl _) (Int.le_refl _) (by decide)) (fun x_66 ls hx_66 hl => ?_)
              refine lv_goto (tgt := 37) hx hb dX12_reaches_69 (by decide) ?_
              have hl := lv_sub (l' := [(0, .ref o), (1, .int x), (2, .int x_8), (3, .int x_66), (4, .int q_64)]) hl [3, 4, 2, 0, 1] rfl
              have hP : va_P g.1 vwCl (List.flatten [bMo g o a 0 hi ac tp ba2_54 en2_55 at2_56 fl de2_57 iD2_58 iO2_59 tU2_60 fm2_62 fk fa2_5 fc ft ff2_61 fb2_63 fi]) H := hP
              have hD : va_D A (List.flatten [bMo g o a 0 hi ac tp ba2_54 en2_55 at2_56 fl de2_57 iD2_58 iO2_59 tU2_60 fm2_62 fk fa2_5 fc ft ff2_61 fb2_63 fi]) := hD
              exact ih37_24 x_8 x_66 ba2_54 en2_55 at2_56 de2_57 iD2_58 iO2_59 tU2_60 fm2_62 ff2_61 fb2_63 ⟨(Int.le_trans (by decide) i20.1), n30⟩ ⟨(Int.le_trans (by decide) hx_66.2.1), hx_66.2.2⟩ ⟨hq65_2.1, hq65_2.2⟩ ⟨hq65_1.1, hq65_1.2⟩ rfm2_62 H _ ls (zmK hx_66.1 (by decide) n30 (by decide) hk37_24)  hP hD hS (lv_sub hl [0, 1, 2, 3] rfl)
    have hP : va_P g.1 vwCl (List.flatten [bMo g o a 0 hi ac tp ba en tA fl de iD iO tU fm fk fa2_5 fc ft ff fb fi]) H := hP
    have hD : va_D A (List.flatten [bMo g o a 0 hi ac tp ba en tA fl de iD iO tU fm fk fa2_5 fc ft ff fb fi]) := hD
    exact LP37_23 _ (-1) 0 ba en tA de iD iO tU fm ff fb (by decide) (by decide) ⟨hiD.1, hiD.2⟩ ⟨hiO.1, hiO.2⟩ rfm H _ ls (Nat.lt_succ_self _)  hP hD hS (lv_sub hl [0, 1, 2, 3] rfl)
  · skip
    refine lv_if_ne (tgt := 16) hx hb dX12_reaches_9 (by decide) (fun c67 => absurd (by decide) c67) (fun _ => ?_)
    refine lv_iconst (v := 1) hx hb dX12_reaches_12 (by decide) ?_
    refine lv_goto (tgt := 17) hx hb dX12_reaches_13 (by decide) ?_
    refine va_put (D := g.1) (ci := 10) (v := .int 1) (ty := .int) (C := RX12) (T := TX12) (N := 20) hx hb hts izRX12 tyX12 tyX12_ok nmX12 hown hK hP hD hS 0 rfl rfl 0 (by decide) (hts _ k871) (fun _ h9 => h9) rfl (by decide +kernel) rfl rfl (Nat.le_of_ble_eq_true rfl) dX12_reaches_17 (fun H locs hP hD hS => ?_)
    have hP : va_P g.1 vwCl (List.flatten [bMo g o a 1 hi ac tp ba en tA fl de iD iO tU fm fk fa fc ft ff fb fi]) H := hP
    have hD : va_D A (List.flatten [bMo g o a 1 hi ac tp ba en tA fl de iD iO tU fm fk fa fc ft ff fb fi]) := hD
    refine lv_aload_n hx hb dX12_reaches_20 rfl (lv_at hl 0 rfl) ?_
    refine va_get (D := g.1) (ci := 10) (v := .int 1) (C := RX12) (T := TX12) (N := 20) hx hb hts izRX12 hown hK hP 0 rfl rfl 0 (by decide) (hts _ k871) (fun _ h9 => h9) rfl dX12_reaches_21 ?_
    refine lv_if_le (tgt := 29) hx hb dX12_reaches_24 (by decide) (fun c68 => absurd c68 (by decide)) (fun _ => ?_)
    refine lv_iconst (v := 0) hx hb dX12_reaches_27 (by decide) ?_
    have hP : va_P g.1 vwCl (List.flatten [bMo g o a 1 hi ac tp ba en tA fl de iD iO tU fm fk fa fc ft ff fb fi]) H := hP
    have hD : va_D A (List.flatten [bMo g o a 1 hi ac tp ba en tA fl de iD iO tU fm fk fa fc ft ff fb fi]) := hD
    exact mret_i hx hb hr hlocks hS (Nat.le_of_ble_eq_true rfl) (Nat.le_of_ble_eq_true rfl) dX12_reaches_28 ((1 : Int32), ba, en, tA, de, iD, iO, tU, ff, fm, fb, fa, (0 : Int32)) rfl (show (rM fa) ∧ (rM fm) ∧ (0 ≤ iO.toInt ∧ iO.toInt ≤ 1) ∧ (0 ≤ iD.toInt ∧ iD.toInt ≤ 1) from ⟨(by first | assumption | omega | decide | exact rfl | exact zb01 (by omega) | exact Or.inl (by decide) | exact Or.inr (by first | omega | decide)), (by first | assumption | omega | decide | exact rfl | exact zb01 (by omega) | exact Or.inl (by decide) | exact Or.inr (by first | omega | decide)), (by first | assumption | omega | decide | exact rfl | exact zb01 (by omega) | exact Or.inl (by decide) | exact Or.inr (by first | omega | decide)), (by first | assumption | omega | decide | exact rfl | exact zb01 (by omega) | exact Or.inl (by decide) | exact Or.inr (by first | omega | decide))⟩) hP hD
