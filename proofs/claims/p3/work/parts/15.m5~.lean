set_option maxRecDepth 100000 in
set_option maxHeartbeats 4000000 in
theorem m_dearest (l : Launch) (g : zG) (o : Nat) (a : Nat → Nat) (th : Int32) (hi : Int32) (ac : Int32) (tp : Int32) (ba : Int32) (en : Int32) (tA : Int32) (fl : Int32) (de : Int32) (iD : Int32) (iO : Int32) (tU : Int32) (fm : Nat → Int32) (fk : Nat → Int32) (fa : Nat → Int32) (fc : Nat → Int32) (ft : Nat → Int32) (ff : Nat → Int32) (fb : Nat → Int32) (fi : Nat → Int32) (n : Int32) (much : Int32) (rfm : rM fm) (rfa : rM fa) (hiD : 0 ≤ iD.toInt ∧ iD.toInt ≤ 1) (hiO : 0 ≤ iO.toInt ∧ iO.toInt ≤ 1) : zM' g l yX12_dearest (Cond.code yX12_dearest cX12_dearest 8 (some .int) :: zB) ({ frames := 33, cells := 0, slots := 0, locals := 736 } : Room) [.ref o, .int n, .int much] [bMo g o a th hi ac tp ba en tA fl de iD iO tU fm fk fa fc ft ff fb fi] (fun u : Int32 × Int32 × Int32 × Int32 × Int32 × Int32 × Int32 × Int32 × (Nat → Int32) × (Nat → Int32) × (Nat → Int32) × (Nat → Int32) × Int32 => (fun (th2 : Int32) (ba2 : Int32) (en2 : Int32) (at2 : Int32) (de2 : Int32) (iD2 : Int32) (iO2 : Int32) (tU2 : Int32) (ff2 : Nat → Int32) (fm2 : Nat → Int32) (fb2 : Nat → Int32) (fa2 : Nat → Int32) (q : Int32) => some (.int q)) (u.1) (u.2.1) (u.2.2.1) (u.2.2.2.1) (u.2.2.2.2.1) (u.2.2.2.2.2.1) (u.2.2.2.2.2.2.1) (u.2.2.2.2.2.2.2.1) (u.2.2.2.2.2.2.2.2.1) (u.2.2.2.2.2.2.2.2.2.1) (u.2.2.2.2.2.2.2.2.2.2.1) (u.2.2.2.2.2.2.2.2.2.2.2.1) (u.2.2.2.2.2.2.2.2.2.2.2.2)) (fun u : Int32 × Int32 × Int32 × Int32 × Int32 × Int32 × Int32 × Int32 × (Nat → Int32) × (Nat → Int32) × (Nat → Int32) × (Nat → Int32) × Int32 => (fun (th2 : Int32) (ba2 : Int32) (en2 : Int32) (at2 : Int32) (de2 : Int32) (iD2 : Int32) (iO2 : Int32) (tU2 : Int32) (ff2 : Nat → Int32) (fm2 : Nat → Int32) (fb2 : Nat → Int32) (fa2 : Nat → Int32) (q : Int32) => (rM fa2) ∧ (rM fm2) ∧ (0 ≤ iO2.toInt ∧ iO2.toInt ≤ 1) ∧ (0 ≤ iD2.toInt ∧ iD2.toInt ≤ 1)) (u.1) (u.2.1) (u.2.2.1) (u.2.2.2.1) (u.2.2.2.2.1) (u.2.2.2.2.2.1) (u.2.2.2.2.2.2.1) (u.2.2.2.2.2.2.2.1) (u.2.2.2.2.2.2.2.2.1) (u.2.2.2.2.2.2.2.2.2.1) (u.2.2.2.2.2.2.2.2.2.2.1) (u.2.2.2.2.2.2.2.2.2.2.2.1) (u.2.2.2.2.2.2.2.2.2.2.2.2)) (fun u : Int32 × Int32 × Int32 × Int32 × Int32 × Int32 × Int32 × Int32 × (Nat → Int32) × (Nat → Int32) × (Nat → Int32) × (Nat → Int32) × Int32 => (fun (th2 : Int32) (ba2 : Int32) (en2 : Int32) (at2 : Int32) (de2 : Int32) (iD2 : Int32) (iO2 : Int32) (tU2 : Int32) (ff2 : Nat → Int32) (fm2 : Nat → Int32) (fb2 : Nat → Int32) (fa2 : Nat → Int32) (q : Int32) => [bMo g o a th2 hi ac tp ba2 en2 at2 fl de2 iD2 iO2 tU2 fm2 fk fa2 fc ft ff2 fb2 fi]) (u.1) (u.2.1) (u.2.2.1) (u.2.2.2.1) (u.2.2.2.2.1) (u.2.2.2.2.2.1) (u.2.2.2.2.2.2.1) (u.2.2.2.2.2.2.2.1) (u.2.2.2.2.2.2.2.2.1) (u.2.2.2.2.2.2.2.2.2.1) (u.2.2.2.2.2.2.2.2.2.2.1) (u.2.2.2.2.2.2.2.2.2.2.2.1) (u.2.2.2.2.2.2.2.2.2.2.2.2)) := by
  refine zM'.of (cc := cX12_dearest) (maxL := 8) (rt := (some .int)) (by decide) rfl (Nat.le_of_ble_eq_true rfl) ?_
  intro p e s m args below meth c A ls St hr hlocks hin hK hT hA hP hD hS hl
  obtain ⟨hx, hb, hml, hown, hts⟩ := id St
  have hl : lv_has ls 8 [(0, .ref o), (1, .int n), (2, .int much)] := hl
  refine lv_aload_n hx hb dX12_dearest_0 rfl (lv_at hl 0 rfl) ?_
  refine lv_iload_n hx hb dX12_dearest_1 rfl (lv_at hl 1 rfl) ?_
  refine lv_iconst (v := 0) hx hb dX12_dearest_2 (by decide) ?_
  refine lv_bipush (v := 100) hx hb dX12_dearest_3 (by decide) ?_
  have hL0 : (0 : Int32).toInt = 0 := by decide
  have hL100 : (100 : Int32).toInt = 100 := by decide
  refine mcallS' (g := g) (As := [.int n, .int 0, .int 100]) (rest := [.ref o]) St hK hT hA hP hD hS hl.1 [] [0] rfl rfl rfl (m_isIn l g n 0 100 ) (va_cwS 3 hts (zgL (zl3 k835 k836 k837) k824) rfl rfl rfl (by decide +kernel) ⟨Nat.le_of_ble_eq_true rfl, Nat.le_of_ble_eq_true rfl⟩) rfl rfl (Nat.le_of_ble_eq_true rfl) dX12_dearest_5 ⟨(Nat.le_of_ble_eq_true rfl), (Nat.le_of_ble_eq_true rfl)⟩ (fun q_1 H locs hq2 hP hD hS => ?_)
  replace hq2 : (q_1 = 1 ∧ (0 : Int32).toInt ≤ n.toInt ∧ n.toInt ≤ (100 : Int32).toInt ∨ q_1 = 0 ∧ (n.toInt < (0 : Int32).toInt ∨ (100 : Int32).toInt < n.toInt)) := hq2
  have hP : va_P g.1 vwCl (List.flatten [bMo g o a th hi ac tp ba en tA fl de iD iO tU fm fk fa fc ft ff fb fi]) H := hP
  have hD : va_D A (List.flatten [bMo g o a th hi ac tp ba en tA fl de iD iO tU fm fk fa fc ft ff fb fi]) := hD
  refine W.widen (k := 0) (n := 0) (Nat.le_of_ble_eq_true rfl) (Nat.le_of_ble_eq_true rfl) ?_
  refine W.eq (g2 := F0 m 8 ls [.int q_1, .ref o]) rfl ?_
  rcases hq2 with ⟨rfl, hq2_k⟩ | ⟨rfl, hq2_k⟩
  · skip
    refine lv_if_ne (tgt := 15) hx hb dX12_dearest_8 (by decide) (fun _ => ?_) (fun c3 => absurd c3 (by decide))
    refine lv_iconst (v := 0) hx hb dX12_dearest_15 (by decide) ?_
    refine va_put (D := g.1) (ci := 10) (v := .int 0) (ty := .int) (C := RX12) (T := TX12) (N := 20) hx hb hts izRX12 tyX12 tyX12_ok nmX12 hown hK hP hD hS 0 rfl rfl 0 (by decide) (hts _ k871) (fun _ h9 => h9) rfl (by decide +kernel) rfl rfl (Nat.le_of_ble_eq_true rfl) dX12_dearest_16 (fun H locs hP hD hS => ?_)
    have hP : va_P g.1 vwCl (List.flatten [bMo g o a 0 hi ac tp ba en tA fl de iD iO tU fm fk fa fc ft ff fb fi]) H := hP
    have hD : va_D A (List.flatten [bMo g o a 0 hi ac tp ba en tA fl de iD iO tU fm fk fa fc ft ff fb fi]) := hD
    refine lv_aload_n hx hb dX12_dearest_19 rfl (lv_at hl 0 rfl) ?_
    refine va_get (D := g.1) (ci := 10) (v := .int 0) (C := RX12) (T := TX12) (N := 20) hx hb hts izRX12 hown hK hP 0 rfl rfl 0 (by decide) (hts _ k871) (fun _ h9 => h9) rfl dX12_dearest_20 ?_
    refine lv_if_le (tgt := 28) hx hb dX12_dearest_23 (by decide) (fun _ => ?_) (fun c4 => absurd (by decide) c4)
    refine lv_aload_n hx hb dX12_dearest_28 rfl (lv_at hl 0 rfl) ?_
    refine mcallV' (g := g) (q0 := 0) (ci := 10) (As := []) (rest := []) St hK hT hA hP hD hS hl.1 [0] [] rfl rfl rfl (m_putsAside l g o a 0 hi ac tp ba en tA fl de iD iO tU fm fk fa fc ft ff fb fi (by first | assumption | omega | decide | exact Or.inl (by decide) | exact Or.inr (by decide)) (by first | assumption | omega | decide | exact Or.inl (by decide) | exact Or.inr (by decide))) (cwV 0 hts (zgL (zl4 k974 k975 k976 k837) k971) rfl rfl rfl (by decide +kernel) ⟨Nat.le_of_ble_eq_true rfl, Nat.le_of_ble_eq_true rfl⟩) rfl rfl rfl rfl (Nat.le_of_ble_eq_true rfl) dX12_dearest_29 ⟨(Nat.le_of_ble_eq_true rfl), (Nat.le_of_ble_eq_true rfl)⟩ (fun fa2_5 H locs hq6 hP hD hS => ?_)
    replace hq6 : (rM fa2_5) := hq6
    have hP : va_P g.1 vwCl (List.flatten [bMo g o a 0 hi ac tp ba en tA fl de iD iO tU fm fk fa2_5 fc ft ff fb fi]) H := hP
    have hD : va_D A (List.flatten [bMo g o a 0 hi ac tp ba en tA fl de iD iO tU fm fk fa2_5 fc ft ff fb fi]) := hD
    refine W.widen (k := 0) (n := 0) (Nat.le_of_ble_eq_true rfl) (Nat.le_of_ble_eq_true rfl) ?_
    refine W.eq (g2 := F0 m 32 ls []) rfl ?_
    have rfa2_5 := hq6; clear hq6
    refine lv_iconst (v := 0) hx hb dX12_dearest_32 (by decide) ?_
    refine lv_istore_n (lv' := [(3, .int 0), (0, .ref o), (1, .int n), (2, .int much)]) hx hb dX12_dearest_33 rfl hl (by decide) rfl (fun ls hl => ?_)
    refine lv_iconst (v := 0) hx hb dX12_dearest_34 (by decide) ?_
    refine lv_istore (lv' := [(4, .int 0), (3, .int 0), (0, .ref o), (1, .int n), (2, .int much)]) hx hb dX12_dearest_35 hl (by decide) rfl (fun ls hl => ?_)
    refine lv_iconst (v := 0) hx hb dX12_dearest_37 (by decide) ?_
    refine lv_istore (lv' := [(5, .int 0), (4, .int 0), (3, .int 0), (0, .ref o), (1, .int n), (2, .int much)]) hx hb dX12_dearest_38 hl (by decide) rfl (fun ls hl => ?_)
    have hl := lv_sub (l' := [(0, .ref o), (1, .int n), (2, .int much), (3, .int 0), (4, .int 0), (5, .int 0)]) hl [3, 4, 5, 2, 1, 0] rfl
    have LP40_25 : ∀ (kf : Nat) (x_7 : Int32) (x_8 : Int32) (x_9 : Int32) (x_10 : Int32) (x_11 : Int32) (x_12 : Int32) (x_13 : Int32) (x_14 : Int32) (x_15 : Int32) (x_16 : Int32) (fm_17 : Nat → Int32) (ff_18 : Nat → Int32) (fb_19 : Nat → Int32), (0 ≤ x_7.toInt ∧ x_7.toInt ≤ 100) → (0 ≤ x_8.toInt) → (0 ≤ x_9.toInt ∧ x_9.toInt ≤ 101) → (0 ≤ x_14.toInt ∧ x_14.toInt ≤ 1) → (0 ≤ x_15.toInt ∧ x_15.toInt ≤ 1) → (rM fm_17) → ∀ (H : Heap) (locs : List Loc) (ls : Array Slot), ((102 - x_9.toInt).toNat) < kf → va_P g.1 vwCl (List.flatten [bMo g o a 0 hi ac tp x_10 x_11 x_12 fl x_13 x_14 x_15 x_16 fm_17 fk fa2_5 fc ft ff_18 fb_19 fi]) H → va_D A (List.flatten [bMo g o a 0 hi ac tp x_10 x_11 x_12 fl x_13 x_14 x_15 x_16 fm_17 fk fa2_5 fc ft ff_18 fb_19 fi]) → va_S A s.heap H locs → lv_has ls 8 [(0, .ref o), (1, .int n), (2, .int much), (3, .int x_7), (4, .int x_8), (5, .int x_9)] → W p l e ({ frames := 33, cells := 0, slots := 0, locals := 736 } : Room) s m args below meth c H locs (0) (0) (zF g (fun u : Int32 × Int32 × Int32 × Int32 × Int32 × Int32 × Int32 × Int32 × (Nat → Int32) × (Nat → Int32) × (Nat → Int32) × (Nat → Int32) × Int32 => (fun (th2 : Int32) (ba2 : Int32) (en2 : Int32) (at2 : Int32) (de2 : Int32) (iD2 : Int32) (iO2 : Int32) (tU2 : Int32) (ff2 : Nat → Int32) (fm2 : Nat → Int32) (fb2 : Nat → Int32) (fa2 : Nat → Int32) (q : Int32) => some (.int q)) (u.1) (u.2.1) (u.2.2.1) (u.2.2.2.1) (u.2.2.2.2.1) (u.2.2.2.2.2.1) (u.2.2.2.2.2.2.1) (u.2.2.2.2.2.2.2.1) (u.2.2.2.2.2.2.2.2.1) (u.2.2.2.2.2.2.2.2.2.1) (u.2.2.2.2.2.2.2.2.2.2.1) (u.2.2.2.2.2.2.2.2.2.2.2.1) (u.2.2.2.2.2.2.2.2.2.2.2.2)) (fun u : Int32 × Int32 × Int32 × Int32 × Int32 × Int32 × Int32 × Int32 × (Nat → Int32) × (Nat → Int32) × (Nat → Int32) × (Nat → Int32) × Int32 => (fun (th2 : Int32) (ba2 : Int32) (en2 : Int32) (at2 : Int32) (de2 : Int32) (iD2 : Int32) (iO2 : Int32) (tU2 : Int32) (ff2 : Nat → Int32) (fm2 : Nat → Int32) (fb2 : Nat → Int32) (fa2 : Nat → Int32) (q : Int32) => (rM fa2) ∧ (rM fm2) ∧ (0 ≤ iO2.toInt ∧ iO2.toInt ≤ 1) ∧ (0 ≤ iD2.toInt ∧ iD2.toInt ≤ 1)) (u.1) (u.2.1) (u.2.2.1) (u.2.2.2.1) (u.2.2.2.2.1) (u.2.2.2.2.2.1) (u.2.2.2.2.2.2.1) (u.2.2.2.2.2.2.2.1) (u.2.2.2.2.2.2.2.2.1) (u.2.2.2.2.2.2.2.2.2.1) (u.2.2.2.2.2.2.2.2.2.2.1) (u.2.2.2.2.2.2.2.2.2.2.2.1) (u.2.2.2.2.2.2.2.2.2.2.2.2)) (fun u : Int32 × Int32 × Int32 × Int32 × Int32 × Int32 × Int32 × Int32 × (Nat → Int32) × (Nat → Int32) × (Nat → Int32) × (Nat → Int32) × Int32 => (fun (th2 : Int32) (ba2 : Int32) (en2 : Int32) (at2 : Int32) (de2 : Int32) (iD2 : Int32) (iO2 : Int32) (tU2 : Int32) (ff2 : Nat → Int32) (fm2 : Nat → Int32) (fb2 : Nat → Int32) (fa2 : Nat → Int32) (q : Int32) => [bMo g o a th2 hi ac tp ba2 en2 at2 fl de2 iD2 iO2 tU2 fm2 fk fa2 fc ft ff2 fb2 fi]) (u.1) (u.2.1) (u.2.2.1) (u.2.2.2.1) (u.2.2.2.2.1) (u.2.2.2.2.2.1) (u.2.2.2.2.2.2.1) (u.2.2.2.2.2.2.2.1) (u.2.2.2.2.2.2.2.2.1) (u.2.2.2.2.2.2.2.2.2.1) (u.2.2.2.2.2.2.2.2.2.2.1) (u.2.2.2.2.2.2.2.2.2.2.2.1) (u.2.2.2.2.2.2.2.2.2.2.2.2)) ({ frames := 33, cells := 0, slots := 0, locals := 736 } : Room) below args s A) (F0 m 40 ls []) := by
      intro kf
      induction kf with
      | zero => intro x_7 x_8 x_9 x_10 x_11 x_12 x_13 x_14 x_15 x_16 fm_17 ff_18 fb_19 i20 i21 i22 i23 i24 rfm_17 H locs ls hk; exact absurd hk (Nat.not_lt_zero _)
      | succ kf ih40_26 =>
        intro x_7 x_8 x_9 x_10 x_11 x_12 x_13 x_14 x_15 x_16 fm_17 ff_18 fb_19 i20 i21 i22 i23 i24 rfm_17 H locs ls hk40_26 hP hD hS hl
        refine lv_iload hx hb dX12_dearest_40 (lv_at hl 5 rfl) ?_
        refine lv_iload_n hx hb dX12_dearest_42 rfl (lv_at hl 1 rfl) ?_
        refine lv_icmp_gt (tgt := 89) hx hb dX12_dearest_43 (by decide) (fun cb9 => ?_) (fun cb9 => ?_)
        · skip
          have c27 : n.toInt < x_9.toInt := zlti cb9 rfl rfl
          refine lv_aload_n hx hb dX12_dearest_89 rfl (lv_at hl 0 rfl) ?_
          refine mcallV' (g := g) (q0 := 0) (ci := 10) (As := []) (rest := []) St hK hT hA hP hD hS hl.1 [0] [] rfl rfl rfl (m_comesBack l g o a 0 hi ac tp x_10 x_11 x_12 fl x_13 x_14 x_15 x_16 fm_17 fk fa2_5 fc ft ff_18 fb_19 fi (by first | assumption | omega | decide | exact Or.inl (by decide) | exact Or.inr (by decide)) (by first | assumption | omega | decide | exact Or.inl (by decide) | exact Or.inr (by decide))) (cwV 0 hts (zgL (zl4 k983 k984 k985 k837) k972) rfl rfl rfl (by decide +kernel) ⟨Nat.le_of_ble_eq_true rfl, Nat.le_of_ble_eq_true rfl⟩) rfl rfl rfl rfl (Nat.le_of_ble_eq_true rfl) dX12_dearest_90 ⟨(Nat.le_of_ble_eq_true rfl), (Nat.le_of_ble_eq_true rfl)⟩ (fun fm2_28 H locs hq29 hP hD hS => ?_)
          replace hq29 : (rM fm2_28) := hq29
          have hP : va_P g.1 vwCl (List.flatten [bMo g o a 0 hi ac tp x_10 x_11 x_12 fl x_13 x_14 x_15 x_16 fm2_28 fk fa2_5 fc ft ff_18 fb_19 fi]) H := hP
          have hD : va_D A (List.flatten [bMo g o a 0 hi ac tp x_10 x_11 x_12 fl x_13 x_14 x_15 x_16 fm2_28 fk fa2_5 fc ft ff_18 fb_19 fi]) := hD
          refine W.widen (k := 0) (n := 0) (Nat.le_of_ble_eq_true rfl) (Nat.le_of_ble_eq_true rfl) ?_
          refine W.eq (g2 := F0 m 93 ls []) rfl ?_
          have rfm2_28 := hq29; clear hq29
          refine lv_iload_n hx hb dX12_dearest_93 rfl (lv_at hl 2 rfl) ?_
          refine lv_if_eq (tgt := 102) hx hb dX12_dearest_94 (by decide) (fun cb9 => ?_) (fun cb9 => ?_)
          · skip
            have c30 : much.toInt = 0 := zeq cb9 rfl (by decide)
            have n31 : 0 ≤ much.toInt := Int.le_trans (Int.le_refl _) (Int.le_of_eq c30.symm)
            have n32 : much.toInt ≤ 0 := Int.le_trans (Int.le_of_eq c30) (Int.le_refl _)
            refine lv_iload_n hx hb dX12_dearest_102 rfl (lv_at hl 3 rfl) ?_
            have hP : va_P g.1 vwCl (List.flatten [bMo g o a 0 hi ac tp x_10 x_11 x_12 fl x_13 x_14 x_15 x_16 fm2_28 fk fa2_5 fc ft ff_18 fb_19 fi]) H := hP
            have hD : va_D A (List.flatten [bMo g o a 0 hi ac tp x_10 x_11 x_12 fl x_13 x_14 x_15 x_16 fm2_28 fk fa2_5 fc ft ff_18 fb_19 fi]) := hD
            exact mret_i hx hb hr hlocks hS (Nat.le_of_ble_eq_true rfl) (Nat.le_of_ble_eq_true rfl) dX12_dearest_103 ((0 : Int32), x_10, x_11, x_12, x_13, x_14, x_15, x_16, ff_18, fm2_28, fb_19, fa2_5, x_7) rfl (show (rM fa2_5) ∧ (rM fm2_28) ∧ (0 ≤ x_15.toInt ∧ x_15.toInt ≤ 1) ∧ (0 ≤ x_14.toInt ∧ x_14.toInt ≤ 1) from ⟨(by first | assumption | omega | decide | exact rfl | exact zb01 (by omega) | exact Or.inl (by decide) | exact Or.inr (by first | omega | decide)), (by first | assumption | omega | decide | exact rfl | exact zb01 (by omega) | exact Or.inl (by decide) | exact Or.inr (by first | omega | decide)), (by first | assumption | omega | decide | exact rfl | exact zb01 (by omega) | exact Or.inl (by decide) | exact Or.inr (by first | omega | decide)), (by first | assumption | omega | decide | exact rfl | exact zb01 (by omega) | exact Or.inl (by decide) | exact Or.inr (by first | omega | decide))⟩) hP hD
          · skip
            have c33 : ¬ much.toInt = 0 := zne cb9 rfl (by decide)
            refine lv_iload hx hb dX12_dearest_97 (lv_at hl 4 rfl) ?_
            refine lv_goto (tgt := 103) hx hb dX12_dearest_99 (by decide) ?_
            have hP : va_P g.1 vwCl (List.flatten [bMo g o a 0 hi ac tp x_10 x_11 x_12 fl x_13 x_14 x_15 x_16 fm2_28 fk fa2_5 fc ft ff_18 fb_19 fi]) H := hP
            have hD : va_D A (List.flatten [bMo g o a 0 hi ac tp x_10 x_11 x_12 fl x_13 x_14 x_15 x_16 fm2_28 fk fa2_5 fc ft ff_18 fb_19 fi]) := hD
            exact mret_i hx hb hr hlocks hS (Nat.le_of_ble_eq_true rfl) (Nat.le_of_ble_eq_true rfl) dX12_dearest_103 ((0 : Int32), x_10, x_11, x_12, x_13, x_14, x_15, x_16, ff_18, fm2_28, fb_19, fa2_5, x_8) rfl (show (rM fa2_5) ∧ (rM fm2_28) ∧ (0 ≤ x_15.toInt ∧ x_15.toInt ≤ 1) ∧ (0 ≤ x_14.toInt ∧ x_14.toInt ≤ 1) from ⟨(by first | assumption | omega | decide | exact rfl | exact zb01 (by omega) | exact Or.inl (by decide) | exact Or.inr (by first | omega | decide)), (by first | assumption | omega | decide | exact rfl | exact zb01 (by omega) | exact Or.inl (by decide) | exact Or.inr (by first | omega | decide)), (by first | assumption | omega | decide | exact rfl | exact zb01 (by omega) | exact Or.inl (by decide) | exact Or.inr (by first | omega | decide)), (by first | assumption | omega | decide | exact rfl | exact zb01 (by omega) | exact Or.inl (by decide) | exact Or.inr (by first | omega | decide))⟩) hP hD
        · skip
          have c34 : x_9.toInt ≤ n.toInt := zle (Int32.not_lt.mp cb9) rfl rfl
          refine lv_aload_n hx hb dX12_dearest_46 rfl (lv_at hl 0 rfl) ?_
          refine mcallV' (g := g) (q0 := 0) (ci := 10) (As := []) (rest := []) St hK hT hA hP hD hS hl.1 [0] [] rfl rfl rfl (m_priceNow l g o a 0 hi ac tp x_10 x_11 x_12 fl x_13 x_14 x_15 x_16 fm_17 fk fa2_5 fc ft ff_18 fb_19 fi (by first | assumption | omega | decide | exact Or.inl (by decide) | exact Or.inr (by decide))) (cwV 0 hts (zgL (zl4 k1028 k1029 k1030 k837) k860) rfl rfl rfl (by decide +kernel) ⟨Nat.le_of_ble_eq_true rfl, Nat.le_of_ble_eq_true rfl⟩) rfl rfl rfl rfl (Nat.le_of_ble_eq_true rfl) dX12_dearest_47 ⟨(Nat.le_of_ble_eq_true rfl), (Nat.le_of_ble_eq_true rfl)⟩ (fun q_35 H locs hq36 hP hD hS => ?_)
          have hP : va_P g.1 vwCl (List.flatten [bMo g o a 0 hi ac tp x_10 x_11 x_12 fl x_13 x_14 x_15 x_16 fm_17 fk fa2_5 fc ft ff_18 fb_19 fi]) H := hP
          have hD : va_D A (List.flatten [bMo g o a 0 hi ac tp x_10 x_11 x_12 fl x_13 x_14 x_15 x_16 fm_17 fk fa2_5 fc ft ff_18 fb_19 fi]) := hD
          refine W.widen (k := 0) (n := 0) (Nat.le_of_ble_eq_true rfl) (Nat.le_of_ble_eq_true rfl) ?_
          refine W.eq (g2 := F0 m 50 ls [.int q_35]) rfl ?_
          refine lv_istore (lv' := [(6, .int q_35), (0, .ref o), (1, .int n), (2, .int much), (3, .int x_7), (4, .int x_8), (5, .int x_9)]) hx hb dX12_dearest_50 hl (by decide) rfl (fun ls hl => ?_)
          refine lv_iload hx hb dX12_dearest_52 (lv_at hl 0 rfl) ?_
          refine lv_iload hx hb dX12_dearest_54 (lv_at hl 5 rfl) ?_
          refine lv_icmp_le (tgt := 64) hx hb dX12_dearest_56 (by decide) (fun cb9 => ?_) (fun cb9 => ?_)
          · skip
            have c37 : q_35.toInt ≤ x_8.toInt := zle cb9 rfl rfl
            refine lv_iload_n hx hb dX12_dearest_64 rfl (lv_at hl 4 rfl) ?_
            refine lv_istore_n (lv' := [(3, .int x_7), (6, .int q_35), (0, .ref o), (1, .int n), (2, .int much), (4, .int x_8), (5, .int x_9)]) hx hb dX12_dearest_65 rfl hl (by decide) rfl (fun ls hl => ?_)
            refine lv_iload hx hb dX12_dearest_66 (lv_at hl 5 rfl) ?_
            refine lv_iload hx hb dX12_dearest_68 (lv_at hl 1 rfl) ?_
            refine mcallS' (g := g) (As := [.int x_8, .int q_35]) (rest := []) St hK hT hA hP hD hS hl.1 [] [0] rfl rfl rfl (m_greater l g x_8 q_35 ) (va_cwS 2 hts (zgL (zl3 k1002 k1003 k837) k826) rfl rfl rfl (by decide +kernel) ⟨Nat.le_of_ble_eq_true rfl, Nat.le_of_ble_eq_true rfl⟩) rfl rfl (Nat.le_of_ble_eq_true rfl) dX12_dearest_70 ⟨(Nat.le_of_ble_eq_true rfl), (Nat.le_of_ble_eq_true rfl)⟩ (fun q_38 H locs hq39 hP hD hS => ?_)
            replace hq39 : (x_8.toInt ≤ q_38.toInt ∧ q_35.toInt ≤ q_38.toInt ∧ (q_38.toInt = x_8.toInt ∨ q_38.toInt = q_35.toInt)) := hq39
            have hP : va_P g.1 vwCl (List.flatten [bMo g o a 0 hi ac tp x_10 x_11 x_12 fl x_13 x_14 x_15 x_16 fm_17 fk fa2_5 fc ft ff_18 fb_19 fi]) H := hP
            have hD : va_D A (List.flatten [bMo g o a 0 hi ac tp x_10 x_11 x_12 fl x_13 x_14 x_15 x_16 fm_17 fk fa2_5 fc ft ff_18 fb_19 fi]) := hD
            refine W.widen (k := 0) (n := 0) (Nat.le_of_ble_eq_true rfl) (Nat.le_of_ble_eq_true rfl) ?_
            refine W.eq (g2 := F0 m 73 ls [.int q_38]) rfl ?_
            refine lv_istore (lv' := [(4, .int q_38), (3, .int x_7), (6, .int q_35), (0, .ref o), (1, .int n), (2, .int much), (5, .int x_9)]) hx hb dX12_dearest_73 hl (by decide) rfl (fun ls hl => ?_)
            refine lv_aload_n hx hb dX12_dearest_75 rfl (lv_at hl 3 rfl) ?_
            refine lv_iconst (v := 1) hx hb dX12_dearest_76 (by decide) ?_
            refine lv_iconst (v := 0) hx hb dX12_dearest_77 (by decide) ?_
            have hL1 : (1 : Int32).toInt = 1 := by decide
            refine mcallV' (g := g) (q0 := 0) (ci := 10) (As := [.int 1, .int 0]) (rest := []) St hK hT hA hP hD hS hl.1 [0] [] rfl rfl rfl (m_goes l g o a 0 hi ac tp x_10 x_11 x_12 fl x_13 x_14 x_15 x_16 fm_17 fk fa2_5 fc ft ff_18 fb_19 fi 1 0 (by first | assumption | omega | decide | exact Or.inl (by decide) | exact Or.inr (by decide)) (⟨i23.1, i23.2⟩) (⟨i24.1, i24.2⟩) (by decide)) (cwV 2 hts (zgL (zl4 k1056 k1057 k1058 k837) k1027) rfl rfl rfl (by decide +kernel) ⟨Nat.le_of_ble_eq_true rfl, Nat.le_of_ble_eq_true rfl⟩) rfl rfl rfl rfl (Nat.le_of_ble_eq_true rfl) dX12_dearest_78 ⟨(Nat.le_of_ble_eq_true rfl), (Nat.le_of_ble_eq_true rfl)⟩ (fun u_ H locs hq51 hP hD hS => ?_)
            obtain ⟨ba2_40, en2_41, at2_42, de2_43, iD2_44, iO2_45, tU2_46, ff2_47, fm2_48, fb2_49, q_50⟩ := u_
            replace hq51 : (rM fm2_48) ∧ (0 ≤ iO2_45.toInt ∧ iO2_45.toInt ≤ 1) ∧ (0 ≤ iD2_44.toInt ∧ iD2_44.toInt ≤ 1) := hq51
            have hP : va_P g.1 vwCl (List.flatten [bMo g o a 0 hi ac tp ba2_40 en2_41 at2_42 fl de2_43 iD2_44 iO2_45 tU2_46 fm2_48 fk fa2_5 fc ft ff2_47 fb2_49 fi]) H := hP
            have hD : va_D A (List.flatten [bMo g o a 0 hi ac tp ba2_40 en2_41 at2_42 fl de2_43 iD2_44 iO2_45 tU2_46 fm2_48 fk fa2_5 fc ft ff2_47 fb2_49 fi]) := hD
            refine W.widen (k := 0) (n := 0) (Nat.le_of_ble_eq_true rfl) (Nat.le_of_ble_eq_true rfl) ?_
            refine W.eq (g2 := F0 m 81 ls [.int q_50]) rfl ?_
            obtain ⟨rfm2_48, hq51_1, hq51_2⟩ := hq51
            refine lv_istore (lv' := [(7, .int q_50), (4, .int q_38), (3, .int x_7), (6, .int q_35), (0, .ref o), (1, .int n), (2, .int much), (5, .int x_9)]) hx hb dX12_dearest_81 hl (by decide) rfl (fun ls hl => ?_)
            refine ziinc (j := x_9.toInt + 1) (lv' := fun v9 => [(5, .int v9), (7, .int q_50), (4, .int q_38), (3, .int x_7), (6, .int q_35), (0, .ref o), (1, .int n), (2, .int much)]) hx hb dX12_dearest_83 hl (k := 7) rfl (by decide) (fun _ => rfl) (zadd (i := x_9.toInt) (j := 1) rfl (by decide) (by omega)) (fun x_52 ls hx_52 hl => ?_)
            refine lv_goto (tgt := 40) hx hb dX12_dearest_86 (by decide) ?_
            have hl := lv_sub (l' := [(0, .ref o), (1, .int n), (2, .int much), (3, .int x_7), (4, .int q_38), (5, .int x_52), (6, .int q_35), (7, .int q_50)]) hl [5, 6, 7, 3, 2, 0, 4, 1] rfl
            have hP : va_P g.1 vwCl (List.flatten [bMo g o a 0 hi ac tp ba2_40 en2_41 at2_42 fl de2_43 iD2_44 iO2_45 tU2_46 fm2_48 fk fa2_5 fc ft ff2_47 fb2_49 fi]) H := hP
            have hD : va_D A (List.flatten [bMo g o a 0 hi ac tp ba2_40 en2_41 at2_42 fl de2_43 iD2_44 iO2_45 tU2_46 fm2_48 fk fa2_5 fc ft ff2_47 fb2_49 fi]) := hD
            exact ih40_26 x_7 q_38 x_52 ba2_40 en2_41 at2_42 de2_43 iD2_44 iO2_45 tU2_46 fm2_48 ff2_47 fb2_49 ⟨i20.1, i20.2⟩ (by first | omega | assumption | decide) (by first | omega | assumption | decide) ⟨hq51_2.1, hq51_2.2⟩ ⟨hq51_1.1, hq51_1.2⟩ rfm2_48 H _ ls (by omega)  hP hD hS (lv_sub hl [0, 1, 2, 3, 4, 5] rfl)
          · skip
            have c53 : x_8.toInt < q_35.toInt := zlti (Int32.not_le.mp cb9) rfl rfl
            have n54 : 1 ≤ q_35.toInt := zL2 (a := 0) c53 i21 (by decide)
            refine lv_iload hx hb dX12_dearest_59 (lv_at hl 6 rfl) ?_
            refine lv_goto (tgt := 65) hx hb dX12_dearest_61 (by decide) ?_
            refine lv_istore_n (lv' := [(3, .int x_9), (6, .int q_35), (0, .ref o), (1, .int n), (2, .int much), (4, .int x_8), (5, .int x_9)]) hx hb dX12_dearest_65 rfl hl (by decide) rfl (fun ls hl => ?_)
            refine lv_iload hx hb dX12_dearest_66 (lv_at hl 5 rfl) ?_
            refine lv_iload hx hb dX12_dearest_68 (lv_at hl 1 rfl) ?_
            refine mcallS' (g := g) (As := [.int x_8, .int q_35]) (rest := []) St hK hT hA hP hD hS hl.1 [] [0] rfl rfl rfl (m_greater l g x_8 q_35 ) (va_cwS 2 hts (zgL (zl3 k1002 k1003 k837) k826) rfl rfl rfl (by decide +kernel) ⟨Nat.le_of_ble_eq_true rfl, Nat.le_of_ble_eq_true rfl⟩) rfl rfl (Nat.le_of_ble_eq_true rfl) dX12_dearest_70 ⟨(Nat.le_of_ble_eq_true rfl), (Nat.le_of_ble_eq_true rfl)⟩ (fun q_55 H locs hq56 hP hD hS => ?_)
            replace hq56 : (x_8.toInt ≤ q_55.toInt ∧ q_35.toInt ≤ q_55.toInt ∧ (q_55.toInt = x_8.toInt ∨ q_55.toInt = q_35.toInt)) := hq56
            have hP : va_P g.1 vwCl (List.flatten [bMo g o a 0 hi ac tp x_10 x_11 x_12 fl x_13 x_14 x_15 x_16 fm_17 fk fa2_5 fc ft ff_18 fb_19 fi]) H := hP
            have hD : va_D A (List.flatten [bMo g o a 0 hi ac tp x_10 x_11 x_12 fl x_13 x_14 x_15 x_16 fm_17 fk fa2_5 fc ft ff_18 fb_19 fi]) := hD
            refine W.widen (k := 0) (n := 0) (Nat.le_of_ble_eq_true rfl) (Nat.le_of_ble_eq_true rfl) ?_
            refine W.eq (g2 := F0 m 73 ls [.int q_55]) rfl ?_
            refine lv_istore (lv' := [(4, .int q_55), (3, .int x_9), (6, .int q_35), (0, .ref o), (1, .int n), (2, .int much), (5, .int x_9)]) hx hb dX12_dearest_73 hl (by decide) rfl (fun ls hl => ?_)
            refine lv_aload_n hx hb dX12_dearest_75 rfl (lv_at hl 3 rfl) ?_
            refine lv_iconst (v := 1) hx hb dX12_dearest_76 (by decide) ?_
            refine lv_iconst (v := 0) hx hb dX12_dearest_77 (by decide) ?_
            have hL1 : (1 : Int32).toInt = 1 := by decide
            refine mcallV' (g := g) (q0 := 0) (ci := 10) (As := [.int 1, .int 0]) (rest := []) St hK hT hA hP hD hS hl.1 [0] [] rfl rfl rfl (m_goes l g o a 0 hi ac tp x_10 x_11 x_12 fl x_13 x_14 x_15 x_16 fm_17 fk fa2_5 fc ft ff_18 fb_19 fi 1 0 (by first | assumption | omega | decide | exact Or.inl (by decide) | exact Or.inr (by decide)) (⟨i23.1, i23.2⟩) (⟨i24.1, i24.2⟩) (by decide)) (cwV 2 hts (zgL (zl4 k1056 k1057 k1058 k837) k1027) rfl rfl rfl (by decide +kernel) ⟨Nat.le_of_ble_eq_true rfl, Nat.le_of_ble_eq_true rfl⟩) rfl rfl rfl rfl (Nat.le_of_ble_eq_true rfl) dX12_dearest_78 ⟨(Nat.le_of_ble_eq_true rfl), (Nat.le_of_ble_eq_true rfl)⟩ (fun u_ H locs hq68 hP hD hS => ?_)
            obtain ⟨ba2_57, en2_58, at2_59, de2_60, iD2_61, iO2_62, tU2_63, ff2_64, fm2_65, fb2_66, q_67⟩ := u_
            replace hq68 : (rM fm2_65) ∧ (0 ≤ iO2_62.toInt ∧ iO2_62.toInt ≤ 1) ∧ (0 ≤ iD2_61.toInt ∧ iD2_61.toInt ≤ 1) := hq68
            have hP : va_P g.1 vwCl (List.flatten [bMo g o a 0 hi ac tp ba2_57 en2_58 at2_59 fl de2_60 iD2_61 iO2_62 tU2_63 fm2_65 fk fa2_5 fc ft ff2_64 fb2_66 fi]) H := hP
            have hD : va_D A (List.flatten [bMo g o a 0 hi ac tp ba2_57 en2_58 at2_59 fl de2_60 iD2_61 iO2_62 tU2_63 fm2_65 fk fa2_5 fc ft ff2_64 fb2_66 fi]) := hD
            refine W.widen (k := 0) (n := 0) (Nat.le_of_ble_eq_true rfl) (Nat.le_of_ble_eq_true rfl) ?_
            refine W.eq (g2 := F0 m 81 ls [.int q_67]) rfl ?_
            obtain ⟨rfm2_65, hq68_1, hq68_2⟩ := hq68
            refine lv_istore (lv' := [(7, .int q_67), (4, .int q_55), (3, .int x_9), (6, .int q_35), (0, .ref o), (1, .int n), (2, .int much), (5, .int x_9)]) hx hb dX12_dearest_81 hl (by decide) rfl (fun ls hl => ?_)
            refine ziinc (j := x_9.toInt + 1) (lv' := fun v9 => [(5, .int v9), (7, .int q_67), (4, .int q_55), (3, .int x_9), (6, .int q_35), (0, .ref o), (1, .int n), (2, .int much)]) hx hb dX12_dearest_83 hl (k := 7) rfl (by decide) (fun _ => rfl) (zadd (i := x_9.toInt) (j := 1) rfl (by decide) (by omega)) (fun x_69 ls hx_69 hl => ?_)
            refine lv_goto (tgt := 40) hx hb dX12_dearest_86 (by decide) ?_
            have hl := lv_sub (l' := [(0, .ref o), (1, .int n), (2, .int much), (3, .int x_9), (4, .int q_55), (5, .int x_69), (6, .int q_35), (7, .int q_67)]) hl [5, 6, 7, 3, 2, 0, 4, 1] rfl
            have hP : va_P g.1 vwCl (List.flatten [bMo g o a 0 hi ac tp ba2_57 en2_58 at2_59 fl de2_60 iD2_61 iO2_62 tU2_63 fm2_65 fk fa2_5 fc ft ff2_64 fb2_66 fi]) H := hP
            have hD : va_D A (List.flatten [bMo g o a 0 hi ac tp ba2_57 en2_58 at2_59 fl de2_60 iD2_61 iO2_62 tU2_63 fm2_65 fk fa2_5 fc ft ff2_64 fb2_66 fi]) := hD
            exact ih40_26 x_9 q_55 x_69 ba2_57 en2_58 at2_59 de2_60 iD2_61 iO2_62 tU2_63 fm2_65 ff2_64 fb2_66 (by first | omega | assumption | decide) (by first | omega | assumption | decide) (by first | omega | assumption | decide) ⟨hq68_2.1, hq68_2.2⟩ ⟨hq68_1.1, hq68_1.2⟩ rfm2_65 H _ ls (by omega)  hP hD hS (lv_sub hl [0, 1, 2, 3, 4, 5] rfl)
    have hP : va_P g.1 vwCl (List.flatten [bMo g o a 0 hi ac tp ba en tA fl de iD iO tU fm fk fa2_5 fc ft ff fb fi]) H := hP
    have hD : va_D A (List.flatten [bMo g o a 0 hi ac tp ba en tA fl de iD iO tU fm fk fa2_5 fc ft ff fb fi]) := hD
    exact LP40_25 _ 0 0 0 ba en tA de iD iO tU fm ff fb (by decide) (by decide) (by decide) ⟨hiD.1, hiD.2⟩ ⟨hiO.1, hiO.2⟩ rfm H _ ls (Nat.lt_succ_self _)  hP hD hS (lv_sub hl [0, 1, 2, 3, 4, 5] rfl)
  · skip
    refine lv_if_ne (tgt := 15) hx hb dX12_dearest_8 (by decide) (fun c70 => absurd (by decide) c70) (fun _ => ?_)
    refine lv_iconst (v := 1) hx hb dX12_dearest_11 (by decide) ?_
    refine lv_goto (tgt := 16) hx hb dX12_dearest_12 (by decide) ?_
    refine va_put (D := g.1) (ci := 10) (v := .int 1) (ty := .int) (C := RX12) (T := TX12) (N := 20) hx hb hts izRX12 tyX12 tyX12_ok nmX12 hown hK hP hD hS 0 rfl rfl 0 (by decide) (hts _ k871) (fun _ h9 => h9) rfl (by decide +kernel) rfl rfl (Nat.le_of_ble_eq_true rfl) dX12_dearest_16 (fun H locs hP hD hS => ?_)
    have hP : va_P g.1 vwCl (List.flatten [bMo g o a 1 hi ac tp ba en tA fl de iD iO tU fm fk fa fc ft ff fb fi]) H := hP
    have hD : va_D A (List.flatten [bMo g o a 1 hi ac tp ba en tA fl de iD iO tU fm fk fa fc ft ff fb fi]) := hD
    refine lv_aload_n hx hb dX12_dearest_19 rfl (lv_at hl 0 rfl) ?_
    refine va_get (D := g.1) (ci := 10) (v := .int 1) (C := RX12) (T := TX12) (N := 20) hx hb hts izRX12 hown hK hP 0 rfl rfl 0 (by decide) (hts _ k871) (fun _ h9 => h9) rfl dX12_dearest_20 ?_
    refine lv_if_le (tgt := 28) hx hb dX12_dearest_23 (by decide) (fun c71 => absurd c71 (by decide)) (fun _ => ?_)
    refine lv_iconst (v := 0) hx hb dX12_dearest_26 (by decide) ?_
    have hP : va_P g.1 vwCl (List.flatten [bMo g o a 1 hi ac tp ba en tA fl de iD iO tU fm fk fa fc ft ff fb fi]) H := hP
    have hD : va_D A (List.flatten [bMo g o a 1 hi ac tp ba en tA fl de iD iO tU fm fk fa fc ft ff fb fi]) := hD
    exact mret_i hx hb hr hlocks hS (Nat.le_of_ble_eq_true rfl) (Nat.le_of_ble_eq_true rfl) dX12_dearest_27 ((1 : Int32), ba, en, tA, de, iD, iO, tU, ff, fm, fb, fa, (0 : Int32)) rfl (show (rM fa) ∧ (rM fm) ∧ (0 ≤ iO.toInt ∧ iO.toInt ≤ 1) ∧ (0 ≤ iD.toInt ∧ iD.toInt ≤ 1) from ⟨(by first | assumption | omega | decide | exact rfl | exact zb01 (by omega) | exact Or.inl (by decide) | exact Or.inr (by first | omega | decide)), (by first | assumption | omega | decide | exact rfl | exact zb01 (by omega) | exact Or.inl (by decide) | exact Or.inr (by first | omega | decide)), (by first | assumption | omega | decide | exact rfl | exact zb01 (by omega) | exact Or.inl (by decide) | exact Or.inr (by first | omega | decide)), (by first | assumption | omega | decide | exact rfl | exact zb01 (by omega) | exact Or.inl (by decide) | exact Or.inr (by first | omega | decide))⟩) hP hD
