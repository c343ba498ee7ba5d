set_option maxRecDepth 100000 in
set_option maxHeartbeats 4000000 in
theorem m_dearest (l : Launch) (g : zG) (o : Nat) (a : Nat → Nat) (th : Int32) (hi : Int32) (ac : Int32) (tp : Int32) (ba : Int32) (en : Int32) (tA : Int32) (fl : Int32) (de : Int32) (iD : Int32) (iO : Int32) (tU : Int32) (fm : Nat → Int32) (fk : Nat → Int32) (fa : Nat → Int32) (fc : Nat → Int32) (ft : Nat → Int32) (ff : Nat → Int32) (fb : Nat → Int32) (fi : Nat → Int32) (n : Int32) (much : Int32) (rfm : rM fm) (rfa : rM fa) (hiD : 0 ≤ iD.toInt ∧ iD.toInt ≤ 1) (hiO : 0 ≤ iO.toInt ∧ iO.toInt ≤ 1) : zM' g l yX12_dearest (Cond.code yX12_dearest cX12_dearest 8 (some .int) :: zB) ({ frames := 33, cells := 0, slots := 0, locals := 736 } : Room) [.ref o, .int n, .int much] [bMo g o a th hi ac tp ba en tA fl de iD iO tU fm fk fa fc ft ff fb fi] (fun u : Int32 × Int32 × Int32 × Int32 × Int32 × Int32 × Int32 × Int32 × (Nat → Int32) × (Nat → Int32) × (Nat → Int32) × (Nat → Int32) × Int32 => (fun (th2 : Int32) (ba2 : Int32) (en2 : Int32) (at2 : Int32) (de2 : Int32) (iD2 : Int32) (iO2 : Int32) (tU2 : Int32) (ff2 : Nat → Int32) (fm2 : Nat → Int32) (fb2 : Nat → Int32) (fa2 : Nat → Int32) (q : Int32) => some (.int q)) (u.1) (u.2.1) (u.2.2.1) (u.2.2.2.1) (u.2.2.2.2.1) (u.2.2.2.2.2.1) (u.2.2.2.2.2.2.1) (u.2.2.2.2.2.2.2.1) (u.2.2.2.2.2.2.2.2.1) (u.2.2.2.2.2.2.2.2.2.1) (u.2.2.2.2.2.2.2.2.2.2.1) (u.2.2.2.2.2.2.2.2.2.2.2.1) (u.2.2.2.2.2.2.2.2.2.2.2.2)) (fun u : Int32 × Int32 × Int32 × Int32 × Int32 × Int32 × Int32 × Int32 × (Nat → Int32) × (Nat → Int32) × (Nat → Int32) × (Nat → Int32) × Int32 => (fun (th2 : Int32) (ba2 : Int32) (en2 : Int32) (at2 : Int32) (de2 : Int32) (iD2 : Int32) (iO2 : Int32) (tU2 : Int32) (ff2 : Nat → Int32) (fm2 : Nat → Int32) (fb2 : Nat → Int32) (fa2 : Nat → Int32) (q : Int32) => (rM fa2) ∧ (rM fm2) ∧ (0 ≤ iO2.toInt ∧ iO2.toInt ≤ 1) ∧ (0 ≤ iD2.toInt ∧ iD2.toInt ≤ 1)) (u.1) (u.2.1) (u.2.2.1) (u.2.2.2.1) (u.2.2.2.2.1) (u.2.2.2.2.2.1) (u.2.2.2.2.2.2.1) (u.2.2.2.2.2.2.2.1) (u.2.2.2.2.2.2.2.2.1) (u.2.2.2.2.2.2.2.2.2.1) (u.2.2.2.2.2.2.2.2.2.2.1) (u.2.2.2.2.2.2.2.2.2.2.2.1) (u.2.2.2.2.2.2.2.2.2.2.2.2)) (fun u : Int32 × Int32 × Int32 × Int32 × Int32 × Int32 × Int32 × Int32 × (Nat → Int32) × (Nat → Int32) × (Nat → Int32) × (Nat → Int32) × Int32 => (fun (th2 : Int32) (ba2 : Int32) (en2 : Int32) (at2 : Int32) (de2 : Int32) (iD2 : Int32) (iO2 : Int32) (tU2 : Int32) (ff2 : Nat → Int32) (fm2 : Nat → Int32) (fb2 : Nat → Int32) (fa2 : Nat → Int32) (q : Int32) => [bMo g o a th2 hi ac tp ba2 en2 at2 fl de2 iD2 iO2 tU2 fm2 fk fa2 fc ft ff2 fb2 fi]) (u.1) (u.2.1) (u.2.2.1) (u.2.2.2.1) (u.2.2.2.2.1) (u.2.2.2.2.2.1) (u.2.2.2.2.2.2.1) (u.2.2.2.2.2.2.2.1) (u.2.2.2.2.2.2.2.2.1) (u.2.2.2.2.2.2.2.2.2.1) (u.2.2.2.2.2.2.2.2.2.2.1) (u.2.2.2.2.2.2.2.2.2.2.2.1) (u.2.2.2.2.2.2.2.2.2.2.2.2)) := by
  refine zM'.of (cc := cX12_dearest) (maxL := 8) (rt := (some .int)) (by decide) rfl (Nat.le_of_ble_eq_true rfl) ?_
  intro p e s m args below meth c A ls St hr hlocks hin hK hT hA hP hD hS hl
  obtain ⟨hx, hb, hml, hown, hts⟩ := id St
  have hl : lv_has ls 8 [(0, .ref o), (1, .int n), (2, .int much)] := hl
  refine lv_aload_n hx hb dX12_dearest_0 rfl (lv_at hl 0 rfl) ?_
  refine lv_iload_n hx hb dX12_dearest_1 rfl (lv_at hl 1 rfl) ?_
  refine lv_iconst (v := 0) hx hb dX12_dearest_2 (by decide) ?_
  refine lv_bipush (v := 100) hx hb dX12_dearest_3 (by decide) ?_
  have hL0 : (0 : Int32).toInt = 0 := by decide
  have hL100 : (100 : Int32).toInt = 100 := by decide
  refine mcallS' (g := g) (As := [.int n, .int 0, .int 100]) (rest := [.ref o]) St hK hT hA hP hD hS hl.1 [] [0] rfl rfl rfl (m_isIn l g n 0 100 ) (va_cwS 3 hts (zgL (zl3 k835 k836 k837) k824) rfl rfl rfl (by decide +kernel) ⟨Nat.le_of_ble_eq_true rfl, Nat.le_of_ble_eq_true rfl⟩) rfl rfl (Nat.le_of_ble_eq_true rfl) dX12_dearest_5 ⟨(Nat.le_of_ble_eq_true rfl), (Nat.le_of_ble_eq_true rfl)⟩ (fun q_1 H locs hq2 hP hD hS => ?_)
  replace hq2 : (q_1 = 1 ∧ (0 : Int32).toInt ≤ n.toInt ∧ n.toInt ≤ (100 : Int32).toInt ∨ q_1 = 0 ∧ (n.toInt < (0 : Int32).toInt ∨ (100 : Int32).toInt < n.toInt)) := hq2
  have hP : va_P g.1 vwCl (List.flatten [bMo g o a th hi ac tp ba en tA fl de iD iO tU fm fk fa fc ft ff fb fi]) H := hP
  have hD : va_D A (List.flatten [bMo g o a th hi ac tp ba en tA fl de iD iO tU fm fk fa fc ft ff fb fi]) := hD
  refine W.widen (k := 0) (n := 0) (Nat.le_of_ble_eq_true rfl) (Nat.le_of_ble_eq_true rfl) ?_
  refine W.eq (g2 := F0 m 8 ls [.int q_1, .ref o]) rfl ?_
  rcases hq2 with ⟨rfl, hq2_k⟩ | ⟨rfl, hq2_k⟩
  · skip
    refine lv_if_ne (tgt := 15) hx hb dX12_dearest_8 (by decide) (fun _ => ?_) (fun c3 => absurd c3 (by decide))
    refine lv_iconst (v := 0) hx hb dX12_dearest_15 (by decide) ?_
    refine va_put (D := g.1) (ci := 10) (v := .int 0) (ty := .int) (C := RX12) (T := TX12) (N := 20) hx hb hts izRX12 tyX12 tyX12_ok nmX12 hown hK hP hD hS 0 rfl rfl 0 (by decide) (hts _ k871) (fun _ h9 => h9) rfl (by decide +kernel) rfl rfl (Nat.le_of_ble_eq_true rfl) dX12_dearest_16 (fun H locs hP hD hS => ?_)
    have hP : va_P g.1 vwCl (List.flatten [bMo g o a 0 hi ac tp ba en tA fl de iD iO tU fm fk fa fc ft ff fb fi]) H := hP
    have hD : va_D A (List.flatten [bMo g o a 0 hi ac tp ba en tA fl de iD iO tU fm fk fa fc ft ff fb fi]) := hD
    refine lv_aload_n hx hb dX12_dearest_19 rfl (lv_at hl 0 rfl) ?_
    refine va_get (D := g.1) (ci := 10) (v := .int 0) (C := RX12) (T := TX12) (N := 20) hx hb hts izRX12 hown hK hP 0 rfl rfl 0 (by decide) (hts _ k871) (fun _ h9 => h9) rfl dX12_dearest_20 ?_
    refine lv_if_le (tgt := 28) hx hb dX12_dearest_23 (by decide) (fun _ => ?_) (fun c4 => absurd (by decide) c4)
    refine lv_aload_n hx hb dX12_dearest_28 rfl (lv_at hl 0 rfl) ?_
    refine mcallV' (g := g) (q0 := 0) (ci := 10) (As := []) (rest := []) St hK hT hA hP hD hS hl.1 [0] [] rfl rfl rfl (m_putsAside l g o a 0 hi ac tp ba en tA fl de iD iO tU fm fk fa fc ft ff fb fi rfm rfa) (cwV 0 hts (zgL (zl4 k974 k975 k976 k837) k971) rfl rfl rfl (by decide +kernel) ⟨Nat.le_of_ble_eq_true rfl, Nat.le_of_ble_eq_true rfl⟩) rfl rfl rfl rfl (Nat.le_of_ble_eq_true rfl) dX12_dearest_29 ⟨(Nat.le_of_ble_eq_true rfl), (Nat.le_of_ble_eq_true rfl)⟩ (fun fa2_5 H locs hq6 hP hD hS => ?_)
    replace hq6 : (rM fa2_5) := hq6
    have hP : va_P g.1 vwCl (List.flatten [bMo g o a 0 hi ac tp ba en tA fl de iD iO tU fm fk fa2_5 fc ft ff fb fi]) H := hP
    have hD : va_D A (List.flatten [bMo g o a 0 hi ac tp ba en tA fl de iD iO tU fm fk fa2_5 fc ft ff fb fi]) := hD
    refine W.widen (k := 0) (n := 0) (Nat.le_of_ble_eq_true rfl) (Nat.le_of_ble_eq_true rfl) ?_
    refine W.eq (g2 := F0 m 32 ls []) rfl ?_
    have rfa2_5 := hq6; clear hq6
    refine lv_iconst (v := 0) hx hb dX12_dearest_32 (by decide) ?_
    refine lv_istore_n (lv' := [(3, .int 0), (0, .ref o), (1, .int n), (2, .int much)]) hx hb dX12_dearest_33 rfl hl (by decide) rfl (fun ls hl => ?_)
    refine lv_iconst (v := 0) hx hb dX12_dearest_34 (by decide) ?_
    refine lv_istore (lv' := [(4, .int 0), (3, .int 0), (0, .ref o), (1, .int n), (2, .int much)]) hx hb dX12_dearest_35 hl (by decide) rfl (fun ls hl => ?_)
    refine lv_iconst (v := 0) hx hb dX12_dearest_37 (by decide) ?_
    refine lv_istore (lv' := [(5, .int 0), (4, .int 0), (3, .int 0), (0, .ref o), (1, .int n), (2, .int much)]) hx hb dX12_dearest_38 hl (by decide) rfl (fun ls hl => ?_)
    have hl := lv_sub (l' := [(0, .ref o), (1, .int n), (2, .int much), (3, .int 0), (4, .int 0), (5, .int 0)]) hl [3, 4, 5, 2, 1, 0] rfl
    have LP40_25 : ∀ (kf : Nat) (x_7 : Int32) (x_8 : Int32) (x_9 : Int32) (x_10 : Int32) (x_11 : Int32) (x_12 : Int32) (x_13 : Int32) (x_14 : Int32) (x_15 : Int32) (x_16 : Int32) (fm_17 : Nat → Int32) (ff_18 : Nat → Int32) (fb_19 : Nat → Int32), (0 ≤ x_7.toInt ∧ x_7.toInt ≤ 100) → (0 ≤ x_8.toInt) → (0 ≤ x_9.toInt ∧ x_9.toInt ≤ 101) → (0 ≤ x_14.toInt ∧ x_14.toInt ≤ 1) → (0 ≤ x_15.toInt ∧ x_15.toInt ≤ 1) → (rM fm_17) → ∀ (H : Heap) (locs : List Loc) (ls : Array Slot), ((102 - x_9.toInt).toNat) < kf → va_P g.1 vwCl (List.flatten [bMo g o a 0 hi ac tp x_10 x_11 x_12 fl x_13 x_14 x_15 x_16 fm_17 fk fa2_5 fc ft ff_18 fb_19 fi]) H → va_D A (List.flatten [bMo g o a 0 hi ac tp x_10 x_11 x_12 fl x_13 x_14 x_15 x_16 fm_17 fk fa2_5 fc ft ff_18 fb_19 fi]) → va_S A s.heap H locs → lv_has ls 8 [(0, .ref o), (1, .int n), (2, .int much), (3, .int x_7), (4, .int x_8), (5, .int x_9)] → W p l e ({ frames := 33, cells := 0, slots := 0, locals := 736 } : Room) s m args below meth c H locs (0) (0) (zF g (fun u : Int32 × Int32 × Int32 × Int32 × Int32 × Int32 × Int32 × Int32 × (Nat → Int32) × (Nat → Int32) × (Nat → Int32) × (Nat → Int32) × Int32 => (fun (th2 : Int32) (ba2 : Int32) (en2 : Int32) (at2 : Int32) (de2 : Int32) (iD2 : Int32) (iO2 : Int32) (tU2 : Int32) (ff2 : Nat → Int32) (fm2 : Nat → Int32) (fb2 : Nat → Int32) (fa2 : Nat → Int32) (q : Int32) => some (.int q)) (u.1) (u.2.1) (u.2.2.1) (u.2.2.2.1) (u.2.2.2.2.1) (u.2.2.2.2.2.1) (u.2.2.2.2.2.2.1) (u.2.2.2.2.2.2.2.1) (u.2.2.2.2.2.2.2.2.1) (u.2.2.2.2.2.2.2.2.2.1) (u.2.2.2.2.2.2.2.2.2.2.1) (u.2.2.2.2.2.2.2.2.2.2.2.1) (u.2.2.2.2.2.2.2.2.2.2.2.2)) (fun u : Int32 × Int32 × Int32 × Int32 × Int32 × Int32 × Int32 × Int32 × (Nat → Int32) × (Nat → Int32) × (Nat → Int32) × (Nat → Int32) × Int32 => (fun (th2 : Int32) (ba2 : Int32) (en2 : Int32) (at2 : Int32) (de2 : Int32) (iD2 : Int32) (iO2 : Int32) (tU2 : Int32) (ff2 : Nat → Int32) (fm2 : Nat → Int32) (fb2 : Nat → Int32) (fa2 : Nat → Int32) (q : Int32) => (rM fa2) ∧ (rM fm2) ∧ (0 ≤ iO2.toInt ∧ iO2.toInt ≤ 1) ∧ (0 ≤ iD2.toInt ∧ iD2.toInt ≤ 1)) (u.1) (u.2.1) (u.2.2.1) (u.2.2.2.1) (u.2.2.2.2.1) (u.2.2.2.2.2.1) (u.2.2.2.2.2.2.1) (u.2.2.2.2.2.2.2.1) (u.2.2.2.2.2.2.2.2.1) (u.2.2.2.2.2.2.2.2.2.1) (u.2.2.2.2.2.2.2.2.2.2.1) (u.2.2.2.2.2.2.2.2.2.2.2.1) (u.2.2.2.2.2.2.2.2.2.2.2.2)) (fun u : Int32 × Int32 × Int32 × Int32 × Int32 × Int32 × Int32 × Int32 × (Nat → Int32) × (Nat → Int32) × (Nat → Int32) × (Nat → Int32) × Int32 => (fun (th2 : Int32) (ba2 : Int32) (en2 : Int32) (at2 : Int32) (de2 : Int32) (iD2 : Int32) (iO2 : Int32) (tU2 : Int32) (ff2 : Nat → Int32) (fm2 : Nat → Int32) (fb2 : Nat → Int32) (fa2 : Nat → Int32) (q : Int32) => [bMo g o a th2 hi ac tp ba2 en2 at2 fl de2 iD2 iO2 tU2 fm2 fk fa2 fc ft ff2 fb2 fi]) (u.1) (u.2.1) (u.2.2.1) (u.2.2.2.1) (u.2.2.2.2.1) (u.2.2.2.2.2.1) (u.2.2.2.2.2.2.1) (u.2.2.2.2.2.2.2.1) (u.2.2.2.2.2.2.2.2.1) (u.2.2.2.2.2.2.2.2.2.1) (u.2.2.2.2.2.2.2.2.2.2.1) (u.2.2.2.2.2.2.2.2.2.2.2.1) (u.2.2.2.2.2.2.2.2.2.2.2.2)) ({ frames := 33, cells := 0, slots := 0, locals := 736 } : Room) below args s A) (F0 m 40 ls []) := by
      intro kf
      induction kf with
      | zero => intro x_7 x_8 x_9 x_10 x_11 x_12 x_13 x_14 x_15 x_16 fm_17 ff_18 fb_19 i20 i21 i22 i23 i24 rfm_17 H locs ls hk; exact absurd hk (Nat.not_lt_zero _)
      | succ kf ih40_26 =>
        intro x_7 x_8 x_9 x_10 x_11 x_12 x_13 x_14 x_15 x_16 fm_17 ff_18 fb_19 i20 i21 i22 i23 i24 rfm_17 H locs ls hk40_26 hP hD hS hl
        refine lv_iload hx hb dX12_dearest_40 (lv_at hl 5 rfl) ?_
        refine lv_iload_n hx hb dX12_dearest_42 rfl (lv_at hl 1 rfl) ?_
        refine lv_icmp_gt (tgt := 89) hx hb dX12_dearest_43 (by decide) (fun cb9 => ?_) (fun cb9 => ?_)
        · skip
          have c27 : n.toInt < x_9.toInt := zlti cb9 rfl rfl
          refine lv_aload_n hx hb dX12_dearest_89 rfl (lv_at hl 0 rfl) ?_
          refine mcallV' (g := g) (q0 := 0) (ci := 10) (As := []) (rest := []) St hK hT hA hP hD hS hl.1 [0] [] rfl rfl rfl (m_comesBack l g o a 0 hi ac tp x_10 x_11 x_12 fl x_13 x_14 x_15 x_16 fm_17 fk fa2_5 fc ft ff_18 fb_19 fi rfm_17 rfa2_5) (cwV 0 hts (zgL (zl4 k983 k984 k985 k837) k972) rfl rfl rfl (by decide +kernel) ⟨Nat.le_of_ble_eq_true rfl, Nat.le_of_ble_eq_true rfl⟩) rfl rfl rfl rfl (Nat.le_of_ble_eq_true rfl) dX12_dearest_90 ⟨(Nat.le_of_ble_eq_true rfl), (Nat.le_of_ble_eq_true rfl)⟩ (fun fm2_28 H locs hq29 hP hD hS => ?_)
          replace hq29 : (rM fm2_28) := hq29
          have hP : va_P g.1 vwCl (List.flatten [bMo g o a 0 hi ac tp x_10 x_11 x_12 fl x_13 x_14 x_15 x_16 fm2_28 fk fa2_5 fc ft ff_18 fb_19 fi]) H := hP
          have hD : va_D A (List.flatten [bMo g o a 0 hi ac tp x_10 x_11 x_12 fl x_13 x_14 x_15 x_16 fm2_28 fk fa2_5 fc ft ff_18 fb_19 fi]) := hD
          refine W.widen (k := 0) (n := 0) (Nat.le_of_ble_eq_true rfl) (Nat.le_of_ble_eq_true rfl) ?_
          refine W.eq (g2 := F0 m 93 ls []) rfl ?_
          have rfm2_28 := hq29; clear hq29
          refine lv_iload_n hx hb dX12_dearest_93 rfl (lv_at hl 2 rfl) ?_
          refine lv_if_eq (tgt := 102) hx hb dX12_dearest_94 (by decide) (fun cb9 => ?_) (fun cb9 => ?_)
          · skip
            have c30 : much.toInt = 0 := zeq cb9 rfl (by decide)
            have n31 : 0 ≤ much.toInt := Int.le_trans (Int.le_refl _) (Int.le_of_eq c30.symm)
            have n32 : much.toInt ≤ 0 := Int.le_trans (Int.le_of_eq c30) (Int.le_refl _)
            refine lv_iload_n hx hb dX12_dearest_102 rfl (lv_at hl 3 rfl) ?_
            have hP : va_P g.1 vwCl (List.flatten [bMo g o a 0 hi ac tp x_10 x_11 x_12 fl x_13 x_14 x_15 x_16 fm2_28 fk fa2_5 fc ft ff_18 fb_19 fi]) H := hP
            have hD : va_D A (List.flatten [bMo g o a 0 hi ac tp x_10 x_11 x_12 fl x_13 x_14 x_15 x_16 fm2_28 fk fa2_5 fc ft ff_18 fb_19 fi]) := hD
            exact mret_i hx hb hr hlocks hS (Nat.le_of_ble_eq_true rfl) (Nat.le_of_ble_eq_true rfl) dX12_dearest_103 ((0 : Int32), x_10, x_11, x_12, x_13, x_14, x_15, x_16, ff_18, fm2_28, fb_19, fa2_5, x_7) rfl (show (rM fa2_5) ∧ (rM fm2_28) ∧ (0 ≤ x_15.toInt ∧ x_15.toInt ≤ 1) ∧ (0 ≤ x_14.toInt ∧ x_14.toInt ≤ 1) from ⟨rfa2_5, rfm2_28, i24, i23⟩) hP hD
          · skip
            have c33 : ¬ much.toInt = 0 := zne cb9 rfl (by decide)
            refine lv_iload hx hb dX12_dearest_97 (lv_at hl 4 rfl) ?_
            refine lv_goto (tgt := 103) hx hb dX12_dearest_99 (by decide) ?_
            have hP : va_P g.1 vwCl (List.flatten [bMo g o a 0 hi ac tp x_10 x_11 x_12 fl x_13 x_14 x_15 x_16 fm2_28 fk fa2_5 fc ft ff_18 fb_19 fi]) H := hP
            have hD : va_D A (List.flatten [bMo g o a 0 hi ac tp x_10 x_11 x_12 fl x_13 x_14 x_15 x_16 fm2_28 fk fa2_5 fc ft ff_18 fb_19 fi]) := hD
            exact mret_i hx hb hr hlocks hS (Nat.le_of_ble_eq_true rfl) (Nat.le_of_ble_eq_true rfl) dX12_dearest_103 ((0 : Int32), x_10, x_11, x_12, x_13, x_14, x_15, x_16, ff_18, fm2_28, fb_19, fa2_5, x_8) rfl (show (rM fa2_5) ∧ (rM fm2_28) ∧ (0 ≤ x_15.toInt ∧ x_15.toInt ≤ 1) ∧ (0 ≤ x_14.toInt ∧ x_14.toInt ≤ 1) from ⟨rfa2_5, rfm2_28, i24, i23⟩) hP hD
        · skip
          have c34 : x_9.toInt ≤ n.toInt := zle (Int32.not_lt.mp cb9) rfl rfl
          refine lv_aload_n hx hb dX12_dearest_46 rfl (lv_at hl 0 rfl) ?_
          refine mcallV' (g := g) (q0 := 0) (ci := 10) (As := []) (rest := []) St hK hT hA hP hD hS hl.1 [0] [] rfl rfl rfl (m_priceNow l g o a 0 hi ac tp x_10 x_11 x_12 fl x_13 x_14 x_15 x_16 fm_17 fk fa2_5 fc ft ff_18 fb_19 fi rfm_17) (cwV 0 hts (zgL (zl4 k1028 k1029 k1030 k837) k860) rfl rfl rfl (by decide +kernel) ⟨Nat.le_of_ble_eq_true rfl, Nat.le_of_ble_eq_true rfl⟩) rfl rfl rfl rfl (Nat.le_of_ble_eq_true rfl) dX12_dearest_47 ⟨(Nat.le_of_ble_eq_true rfl), (Nat.le_of_ble_eq_true rfl)⟩ (fun q_35 H locs hq36 hP hD hS => ?_)
          have hP : va_P g.1 vwCl (List.flatten [bMo g o a 0 hi ac tp x_10 x_11 x_12 fl x_13 x_14 x_15 x_16 fm_17 fk fa2_5 fc ft ff_18 fb_19 fi]) H := hP
          have hD : va_D A (List.flatten [bMo g o a 0 hi ac tp x_10 x_11 x_12 fl x_13 x_14 x_15 x_16 fm_17 fk fa2_5 fc ft ff_18 fb_19 fi]) := hD
          refine W.widen (k := 0) (n := 0) (Nat.le_of_ble_eq_true rfl) (Nat.le_of_ble_eq_true rfl) ?_
          refine W.eq (g2 := F0 m 50 ls [.int q_35]) rfl ?_
          refine lv_istore (lv' := [(6, .int q_35), (0, .ref o), (1, .int n), (2, .int much), (3, .int x_7), (4, .int x_8), (5, .int x_9)]) hx hb dX12_dearest_50 hl (by decide) rfl (fun ls hl => ?_)
          refine lv_iload hx hb dX12_dearest_52 (lv_at hl 0 rfl) ?_
          refine lv_iload hx hb dX12_dearest_54 (lv_at hl 5 rfl) ?_
          refine lv_icmp_le (tgt := 64) hx hb dX12_dearest_56 (by decide) (fun cb9 => ?_) (fun cb9 => ?_)
          · skip
            have c37 : q_35.toInt ≤ x_8.toInt := zle cb9 rfl rfl
            refine lv_iload_n hx hb dX12_dearest_64 rfl (lv_at hl 4 rfl) ?_
            refine lv_istore_n (lv' := [(3, .int x_7), (6, .int q_35), (0, .ref o), (1, .int n), (2, .int much), (4, .int x_8), (5, .int x_9)]) hx hb dX12_dearest_65 rfl hl (by decide) rfl (fun ls hl => ?_)
            refine lv_iload hx hb dX12_dearest_66 (lv_at hl 5 rfl) ?_
            refine lv_iload hx hb dX12_dearest_68 (lv_at hl 1 rfl) ?_
            refine mcallS' (g := g) (As := [.int x_8, .int q_35]) (rest := []) St hK hT hA hP hD hS hl.1 [] [0] rfl rfl rfl (m_greater l g x_8 q_35 ) (va_cwS 2 hts (zgL (zl3 k1002 k1003 k837) k826) rfl rfl rfl (by decide +kernel) ⟨Nat.le_of_ble_eq_true rfl, Nat.le_of_ble_eq_true rfl⟩) rfl rfl (Nat.le_of_ble_eq_true rfl) dX12_dearest_70 ⟨(Nat.le_of_ble_eq_true rfl), (Nat.le_of_ble_eq_true rfl)⟩ (fun q_38 H locs hq39 hP hD hS => ?_)
            replace hq39 : (x_8.toInt ≤ q_38.toInt ∧ q_35.toInt ≤ q_38.toInt ∧ (q_38.toInt = x_8.toInt ∨ q_38.toInt = q_35.toInt)) := hq39
            have hP : va_P g.1 vwCl (List.flatten [bMo g o a 0 hi ac tp x_10 x_11 x_12 fl x_13 x_14 x_15 x_16 fm_17 fk fa2_5 fc ft ff_18 fb_19 fi]) H := hP
            have hD : va_D A (List.flatten [bMo g o a 0 hi ac tp x_10 x_11 x_12 fl x_13 x_14 x_15 x_16 fm_17 fk fa2_5 fc ft ff_18 fb_19 fi]) := hD
            refine W.widen (k := 0) (n := 0) (Nat.le_of_ble_eq_true rfl) (Nat.le_of_ble_eq_true rfl) ?_
            refine W.eq (g2 := F0 m 73 ls [.int q_38]) rfl ?_
            refine lv_istore (lv' := [(4, .int q_38), (3, .int x_7), (6, .int q_35), (0, .ref o), (1, .int n), (2, .int much), (5, .int x_9)]) hx hb dX12_dearest_73 hl (by decide) rfl (fun ls hl => ?_)
            refine lv_aload_n hx hb dX12_dearest_75 rfl (lv_at hl 3 rfl) ?_
            refine lv_iconst (v := 1) hx hb dX12_dearest_76 (by decide) ?_
            refine lv_iconst (v := 0) hx hb dX12_dearest_77 (by decide) ?_
            have hL1 : (1 : Int32).toInt = 1 := by decide
            refine mcallV' (g := g) (q0 := 0) (ci := 10) (As := [.int 1, .int 0]) (rest := []) St hK hT hA hP hD hS hl.1 [0] [] rfl rfl rfl (m_goes l g o a 0 hi ac tp x_10 x_11 x_12 fl x_13 x_14 x_15 x_16 fm_17 fk fa2_5 fc ft ff_18 fb_19 fi 1 0 rfm_17 i23 i24 (by decide)) (cwV 2 hts (zgL (zl4 k1056 k1057 k1058 k837) k1027) rfl rfl rfl (by decide +kernel) ⟨Nat.le_of_ble_eq_true rfl, Nat.le_of_ble_eq_true rfl⟩) rfl rfl rfl rfl (Nat.le_of_ble_eq_true rfl) dX12_dearest_78 ⟨(Nat.le_of_ble_eq_true rfl), (Nat.le_of_ble_eq_true rfl)⟩ (fun u_ H locs hq51 hP hD hS => ?_)
            obtain ⟨ba2_40, en2_41, at2_42, de2_43, iD2_44, iO2_45, tU2_46, ff2_47, fm2_48, fb2_49, q_50⟩ := u_
            replace hq51 : (rM fm2_48) ∧ (0 ≤ iO2_45.toInt ∧ iO2_45.toInt ≤ 1) ∧ (0 ≤ iD2_44.toInt ∧ iD2_44.toInt ≤ 1) := hq51
            have hP : va_P g.1 vwCl (List.flatten [bMo g o a 0 hi ac tp ba2_40 en2_41 at2_42 fl de2_43 iD2_44 iO2_45 tU2_46 fm2_48 fk fa2_5 fc ft ff2_47 fb2_49 fi]) H := hP
            have hD : va_D A (List.flatten [bMo g o a 0 hi ac tp ba2_40 en2_41 at2_42 fl de2_43 iD2_44 iO2_45 tU2_46 fm2_48 fk fa2_5 fc ft ff2_47 fb2_49 fi]) := hD
            refine W.widen (k := 0) (n := 0) (Nat.le_of_ble_eq_true rfl) (Nat.le_of_ble_eq_true rfl) ?_
            refine W.eq (g2 := F0 m 81 ls [.int q_50]) rfl ?_
            obtain ⟨rfm2_48, hq51_1, hq51_2⟩ := hq51
            refine lv_istore (lv' := [(7, .int q_50), (4, .int q_38), (3, .int x_7), (6, .int q_35), (0, .ref o), (1, .int n), (2, .int much), (5, .int x_9)]) hx hb dX12_dearest_81 hl (by decide) rfl (fun ls hl => ?_)
            refine ziinc (j := x_9.toInt + 1) (lv' := fun v9 => [(5, .int v9), (7, .int q_50), (4, .int q_38), (3, .int x_7), (6, .int q_35), (0, .ref o), (1, .int n), (2, .int much)]) hx hb dX12_dearest_83 hl (k := 7) rfl (by decide) (fun _ => rfl) (zadd (i := x_9.toInt) (j := 1) rfl (by decide) (by omega)) (fun x_52 ls hx_52 hl => ?_)
            refine lv_goto (tgt := 40) hx hb dX12_dearest_86 (by decide) ?_
            have hl := lv_sub (l' := [(0, .ref o), (1, .int n), (2, .int much), (3, .int x_7), (4, .int q_38), (5, .int x_52), (6, .int q_35), (7, .int q_50)]) hl [5, 6, 7, 3, 2, 0, 4, 1] rfl
            have hP : va_P g.1 vwCl (List.flatten [bMo g o a 0 hi ac tp ba2_40 en2_41 at2_42 fl de2_43 iD2_44 iO2_45 tU2_46 fm2_48 fk fa2_5 fc ft ff2_47 fb2_49 fi]) H := hP
            have hD : va_D A (List.flatten [bMo g o a 0 hi ac tp ba2_40 en2_41 at2_42 fl de2_43 iD2_44 iO2_45 tU2_46 fm2_48 fk fa2_5 fc ft ff2_47 fb2_49 fi]) := hD
            exact ih40_26 x_7 q_38 x_52 ba2_40 en2_41 at2_42 de2_43 iD2_44 iO2_45 tU2_46 fm2_48 ff2_47 fb2_49 ⟨i20.1, i20.2⟩ (by first | omega | assumption | decide) (by first | omega | assumption | decide) ⟨hq51_2.1, hq51_2.2⟩ ⟨hq51_1.1, hq51_1.2⟩ rfm2_48 H _ ls (by omega)  hP hD hS (lv_sub hl [0, 1, 2, 3, 4, 5] rfl)
          · skip
            have c53 : x_8.toInt < q_35.toInt := zlti (Int32.not_le.mp cb9) rfl rfl
            have n54 : 1 ≤ q_35.toInt := zL2 (a := 0) c53 i21 (by decide)
            refine lv_iload hx hb dX12_dearest_59 (lv_at hl 6 rfl) ?_
            refine lv_goto (tgt := 65) hx hb dX12_dearest_61 (by decide) ?_
            refine lv_istore_n (lv' := [(3, .int x_9), (6, .int q_35), (0, .ref o), (1, .int n), (2, .int much), (4, .int x_8), (5, .int x_9)]) hx hb dX12_dearest_65 rfl hl (by decide) rfl (fun ls hl => ?_)
            refine lv_iload hx hb dX12_dearest_66 (lv_at hl 5 rfl) ?_
            refine lv_iload hx hb dX12_dearest_68 (lv_at hl 1 rfl) ?_
            refine mcallS' (g := g) (As := [.int x_8, .int q_35]) (rest := []) St hK hT hA hP hD hS hl.1 [] [0] rfl rfl rfl (m_greater l g x_8 q_35 ) (va_cwS 2 hts (zgL (zl3 k1002 k1003 k837) k826) rfl rfl rfl (by decide +kernel) ⟨Nat.le_of_ble_eq_true rfl, Nat.le_of_ble_eq_true rfl⟩) rfl rfl (Nat.le_of_ble_eq_true rfl) dX12_dearest_70 ⟨(Nat.le_of_ble_eq_true rfl), (Nat.le_of_ble_eq_true rfl)⟩ (fun q_55 H locs hq56 hP hD hS => ?_)
            replace hq56 : (x_8.toInt ≤ q_55.toInt ∧ q_35.toInt ≤ q_55.toInt ∧ (q_55.toInt = x_8.toInt ∨ q_55.toInt = q_35.toInt)) := hq56
            have hP : va_P g.1 vwCl (List.flatten [bMo g o a 0 hi ac tp x_10 x_11 x_12 fl x_13 x_14 x_15 x_16 fm_17 fk fa2_5 fc ft ff_18 fb_19 fi]) H := hP
            have hD : va_D A (List.flatten [bMo g o a 0 hi ac tp x_10 x_11 x_12 fl x_13 x_14 x_15 x_16 fm_17 fk fa2_5 fc ft ff_18 fb_19 fi]) := hD
            refine W.widen (k := 0) (n := 0) (Nat.le_of_ble_eq_true rfl) (Nat.le_of_ble_eq_true rfl) ?_
            refine W.eq (g2 := F0 m 73 ls [.int q_55]) rfl ?_
            refine lv_istore (lv' := [(4, .int q_55), (3, .int x_9), (6, .int q_35), (0, .ref o), (1, .int n), (2, .int much), (5, .int x_9)]) hx hb dX12_dearest_73 hl (by decide) rfl (fun ls hl => ?_)
            refine lv_aload_n hx hb dX12_dearest_75 rfl (lv_at hl 3 rfl) ?_
            refine lv_iconst (v := 1) hx hb dX12_dearest_76 (by decide) ?_
            refine lv_iconst (v := 0) hx hb dX12_dearest_77 (by decide) ?_
            have hL1 : (1 : Int32).toInt = 1 := by decide
            refine mcallV' (g := g) (q0 := 0) (ci := 10) (As := [.int 1, .int 0]) (rest := []) St hK hT hA hP hD hS hl.1 [0] [] rfl rfl rfl (m_goes l g o a 0 hi ac tp x_10 x_11 x_12 fl x_13 x_14 x_15 x_16 fm_17 fk fa2_5 fc ft ff_18 fb_19 fi 1 0 rfm_17 i23 i24 (by decide)) (cwV 2 hts (zgL (zl4 k1056 k1057 k1058 k837) k1027) rfl rfl rfl (by decide +kernel) ⟨Nat.le_of_ble_eq_true rfl, Nat.le_of_ble_eq_true rfl⟩) rfl rfl rfl rfl (Nat.le_of_ble_eq_true rfl) dX12_dearest_78 ⟨(Nat.le_of_ble_eq_true rfl), (Nat.le_of_ble_eq_true rfl)⟩ (fun u_ H locs hq68 hP hD hS => ?_)
            obtain ⟨ba2_57, en2_58, at2_59, de2_60, iD2_61, iO2_62, tU2_63, ff2_64, fm2_65, fb2_66, q_67⟩ := u_
            replace hq68 : (rM fm2_65) ∧ (0 ≤ iO2_62.toInt ∧ iO2_62.toInt ≤ 1) ∧ (0 ≤ iD2_61.toInt ∧ iD2_61.toInt ≤ 1) := hq68
            have hP : va_P g.1 vwCl (List.flatten [bMo g o a 0 hi ac tp ba2_57 en2_58 at2_59 fl de2_60 iD2_61 iO2_62 tU2_63 fm2_65 fk fa2_5 fc ft ff2_64 fb2_66 fi]) H := hP
            have hD : va_D A (List.flatten [bMo g o a 0 hi ac tp ba2_57 en2_58 at2_59 fl de2_60 iD2_61 iO2_62 tU2_63 fm2_65 fk fa2_5 fc ft ff2_64 fb2_66 fi]) := hD
            refine W.widen (k := 0) (n := 0) (Nat.le_of_ble_eq_true rfl) (Nat.le_of_ble_eq_true rfl) ?_
            refine W.eq (g2 := F0 m 81 ls [.int q_67]) rfl ?_
            obtain ⟨rfm2_65, hq68_1, hq68_2⟩ := hq68
            refine lv_istore (lv' := [(7, .int q_67), (4, .int q_55), (3, .int x_9), (6, .int q_35), (0, .ref o), (1, .int n), (2, .int much), (5, .int x_9)]) hx hb dX12_dearest_81 hl (by decide) rfl (fun ls hl => ?_)
            refine ziinc (j := x_9.toInt + 1) (lv' := fun v9 => [(5, .int v9), (7, .int q_67), (4, .int q_55), (3, .int x_9), (6, .int q_35), (0, .ref o), (1, .int n), (2, .int much)]) hx hb dX12_dearest_83 hl (k := 7) rfl (by decide) (fun _ => rfl) (zadd (i := x_9.toInt) (j := 1) rfl (by decide) (by omega)) (fun x_69 ls hx_69 hl => ?_)
            refine lv_goto (tgt := 40) hx hb dX12_dearest_86 (by decide) ?_
            have hl := lv_sub (l' := [(0, .ref o), (1, .int n), (2, .int much), (3, .int x_9), (4, .int q_55), (5, .int x_69), (6, .int q_35), (7, .int q_67)]) hl [5, 6, 7, 3, 2, 0, 4, 1] rfl
            have hP : va_P g.1 vwCl (List.flatten [bMo g o a 0 hi ac tp ba2_57 en2_58 at2_59 fl de2_60 iD2_61 iO2_62 tU2_63 fm2_65 fk fa2_5 fc ft ff2_64 fb2_66 fi]) H := hP
            have hD : va_D A (List.flatten [bMo g o a 0 hi ac tp ba2_57 en2_58 at2_59 fl de2_60 iD2_61 iO2_62 tU2_63 fm2_65 fk fa2_5 fc ft ff2_64 fb2_66 fi]) := hD
            exact ih40_26 x_9 q_55 x_69 ba2_57 en2_58 at2_59 de2_60 iD2_61 iO2_62 tU2_63 fm2_65 ff2_64 fb2_66 (by first | omega | assumption | decide) (by first | omega | assumption | decide) (by first | omega | assumption | decide) ⟨hq68_2.1, hq68_2.2⟩ ⟨hq68_1.1, hq68_1.2⟩ rfm2_65 H _ ls (by omega)  hP hD hS (lv_sub hl [0, 1, 2, 3, 4, 5] rfl)
    have hP : va_P g.1 vwCl (List.flatten [bMo g o a 0 hi ac tp ba en tA fl de iD iO tU fm fk fa2_5 fc ft ff fb fi]) H := hP
    have hD : va_D A (List.flatten [bMo g o a 0 hi ac tp ba en tA fl de iD iO tU fm fk fa2_5 fc ft ff fb fi]) := hD
    exact LP40_25 _ 0 0 0 ba en tA de iD iO tU fm ff fb (by decide) (by decide) (by decide) ⟨hiD.1, hiD.2⟩ ⟨hiO.1, hiO.2⟩ rfm H _ ls (Nat.lt_succ_self _)  hP hD hS (lv_sub hl [0, 1, 2, 3, 4, 5] rfl)
  · skip
    refine lv_if_ne (tgt := 15) hx hb dX12_dearest_8 (by decide) (fun c70 => absurd (by decide) c70) (fun _ => ?_)
    refine lv_iconst (v := 1) hx hb dX12_dearest_11 (by decide) ?_
    refine lv_goto (tgt := 16) hx hb dX12_dearest_12 (by decide) ?_
    refine va_put (D := g.1) (ci := 10) (v := .int 1) (ty := .int) (C := RX12) (T := TX12) (N := 20) hx hb hts izRX12 tyX12 tyX12_ok nmX12 hown hK hP hD hS 0 rfl rfl 0 (by decide) (hts _ k871) (fun _ h9 => h9) rfl (by decide +kernel) rfl rfl (Nat.le_of_ble_eq_true rfl) dX12_dearest_16 (fun H locs hP hD hS => ?_)
    have hP : va_P g.1 vwCl (List.flatten [bMo g o a 1 hi ac tp ba en tA fl de iD iO tU fm fk fa fc ft ff fb fi]) H := hP
    have hD : va_D A (List.flatten [bMo g o a 1 hi ac tp ba en tA fl de iD iO tU fm fk fa fc ft ff fb fi]) := hD
    refine lv_aload_n hx hb dX12_dearest_19 rfl (lv_at hl 0 rfl) ?_
    refine va_get (D := g.1) (ci := 10) (v := .int 1) (C := RX12) (T := TX12) (N := 20) hx hb hts izRX12 hown hK hP 0 rfl rfl 0 (by decide) (hts _ k871) (fun _ h9 => h9) rfl dX12_dearest_20 ?_
    refine lv_if_le (tgt := 28) hx hb dX12_dearest_23 (by decide) (fun c71 => absurd c71 (by decide)) (fun _ => ?_)
    refine lv_iconst (v := 0) hx hb dX12_dearest_26 (by decide) ?_
    have hP : va_P g.1 vwCl (List.flatten [bMo g o a 1 hi ac tp ba en tA fl de iD iO tU fm fk fa fc ft ff fb fi]) H := hP
    have hD : va_D A (List.flatten [bMo g o a 1 hi ac tp ba en tA fl de iD iO tU fm fk fa fc ft ff fb fi]) := hD
    exact mret_i hx hb hr hlocks hS (Nat.le_of_ble_eq_true rfl) (Nat.le_of_ble_eq_true rfl) dX12_dearest_27 ((1 : Int32), ba, en, tA, de, iD, iO, tU, ff, fm, fb, fa, (0 : Int32)) rfl (show (rM fa) ∧ (rM fm) ∧ (0 ≤ iO.toInt ∧ iO.toInt ≤ 1) ∧ (0 ≤ iD.toInt ∧ iD.toInt ≤ 1) from ⟨rfa, rfm, hiO, hiD⟩) hP hD
set_option maxRecDepth 100000 in
set_option maxHeartbeats 4000000 in
theorem m_falls (l : Launch) (g : zG) (o : Nat) (a : Nat → Nat) (th : Int32) (hi : Int32) (ac : Int32) (tp : Int32) (ba : Int32) (en : Int32) (tA : Int32) (fl : Int32) (de : Int32) (iD : Int32) (iO : Int32) (tU : Int32) (fm : Nat → Int32) (fk : Nat → Int32) (fa : Nat → Int32) (fc : Nat → Int32) (ft : Nat → Int32) (ff : Nat → Int32) (fb : Nat → Int32) (fi : Nat → Int32) (n : Int32) (rfm : rM fm) (rfa : rM fa) (hiD : 0 ≤ iD.toInt ∧ iD.toInt ≤ 1) (hiO : 0 ≤ iO.toInt ∧ iO.toInt ≤ 1) : zM' g l yX12_falls (Cond.code yX12_falls cX12_falls 5 (some .int) :: zB) ({ frames := 33, cells := 0, slots := 0, locals := 736 } : Room) [.ref o, .int n] [bMo g o a th hi ac tp ba en tA fl de iD iO tU fm fk fa fc ft ff fb fi] (fun u : Int32 × Int32 × Int32 × Int32 × Int32 × Int32 × Int32 × Int32 × (Nat → Int32) × (Nat → Int32) × (Nat → Int32) × (Nat → Int32) × Int32 => (fun (th2 : Int32) (ba2 : Int32) (en2 : Int32) (at2 : Int32) (de2 : Int32) (iD2 : Int32) (iO2 : Int32) (tU2 : Int32) (ff2 : Nat → Int32) (fm2 : Nat → Int32) (fb2 : Nat → Int32) (fa2 : Nat → Int32) (q : Int32) => some (.int q)) (u.1) (u.2.1) (u.2.2.1) (u.2.2.2.1) (u.2.2.2.2.1) (u.2.2.2.2.2.1) (u.2.2.2.2.2.2.1) (u.2.2.2.2.2.2.2.1) (u.2.2.2.2.2.2.2.2.1) (u.2.2.2.2.2.2.2.2.2.1) (u.2.2.2.2.2.2.2.2.2.2.1) (u.2.2.2.2.2.2.2.2.2.2.2.1) (u.2.2.2.2.2.2.2.2.2.2.2.2)) (fun u : Int32 × Int32 × Int32 × Int32 × Int32 × Int32 × Int32 × Int32 × (Nat → Int32) × (Nat → Int32) × (Nat → Int32) × (Nat → Int32) × Int32 => (fun (th2 : Int32) (ba2 : Int32) (en2 : Int32) (at2 : Int32) (de2 : Int32) (iD2 : Int32) (iO2 : Int32) (tU2 : Int32) (ff2 : Nat → Int32) (fm2 : Nat → Int32) (fb2 : Nat → Int32) (fa2 : Nat → Int32) (q : Int32) => (rM fa2) ∧ (rM fm2) ∧ (0 ≤ iO2.toInt ∧ iO2.toInt ≤ 1) ∧ (0 ≤ iD2.toInt ∧ iD2.toInt ≤ 1)) (u.1) (u.2.1) (u.2.2.1) (u.2.2.2.1) (u.2.2.2.2.1) (u.2.2.2.2.2.1) (u.2.2.2.2.2.2.1) (u.2.2.2.2.2.2.2.1) (u.2.2.2.2.2.2.2.2.1) (u.2.2.2.2.2.2.2.2.2.1) (u.2.2.2.2.2.2.2.2.2.2.1) (u.2.2.2.2.2.2.2.2.2.2.2.1) (u.2.2.2.2.2.2.2.2.2.2.2.2)) (fun u : Int32 × Int32 × Int32 × Int32 × Int32 × Int32 × Int32 × Int32 × (Nat → Int32) × (Nat → Int32) × (Nat → Int32) × (Nat → Int32) × Int32 => (fun (th2 : Int32) (ba2 : Int32) (en2 : Int32) (at2 : Int32) (de2 : Int32) (iD2 : Int32) (iO2 : Int32) (tU2 : Int32) (ff2 : Nat → Int32) (fm2 : Nat → Int32) (fb2 : Nat → Int32) (fa2 : Nat → Int32) (q : Int32) => [bMo g o a th2 hi ac tp ba2 en2 at2 fl de2 iD2 iO2 tU2 fm2 fk fa2 fc ft ff2 fb2 fi]) (u.1) (u.2.1) (u.2.2.1) (u.2.2.2.1) (u.2.2.2.2.1) (u.2.2.2.2.2.1) (u.2.2.2.2.2.2.1) (u.2.2.2.2.2.2.2.1) (u.2.2.2.2.2.2.2.2.1) (u.2.2.2.2.2.2.2.2.2.1) (u.2.2.2.2.2.2.2.2.2.2.1) (u.2.2.2.2.2.2.2.2.2.2.2.1) (u.2.2.2.2.2.2.2.2.2.2.2.2)) := by
  refine zM'.of (cc := cX12_falls) (maxL := 5) (rt := (some .int)) (by decide) rfl (Nat.le_of_ble_eq_true rfl) ?_
  intro p e s m args below meth c A ls St hr hlocks hin hK hT hA hP hD hS hl
  obtain ⟨hx, hb, hml, hown, hts⟩ := id St
  have hl : lv_has ls 5 [(0, .ref o), (1, .int n)] := hl
  refine lv_aload_n hx hb dX12_falls_0 rfl (lv_at hl 0 rfl) ?_
  refine lv_iload_n hx hb dX12_falls_1 rfl (lv_at hl 1 rfl) ?_
  refine lv_iconst (v := 0) hx hb dX12_falls_2 (by decide) ?_
  refine lv_bipush (v := 100) hx hb dX12_falls_3 (by decide) ?_
  have hL0 : (0 : Int32).toInt = 0 := by decide
  have hL100 : (100 : Int32).toInt = 100 := by decide
  refine mcallS' (g := g) (As := [.int n, .int 0, .int 100]) (rest := [.ref o]) St hK hT hA hP hD hS hl.1 [] [0] rfl rfl rfl (m_isIn l g n 0 100 ) (va_cwS 3 hts (zgL (zl3 k835 k836 k837) k824) rfl rfl rfl (by decide +kernel) ⟨Nat.le_of_ble_eq_true rfl, Nat.le_of_ble_eq_true rfl⟩) rfl rfl (Nat.le_of_ble_eq_true rfl) dX12_falls_5 ⟨(Nat.le_of_ble_eq_true rfl), (Nat.le_of_ble_eq_true rfl)⟩ (fun q_1 H locs hq2 hP hD hS => ?_)
  replace hq2 : (q_1 = 1 ∧ (0 : Int32).toInt ≤ n.toInt ∧ n.toInt ≤ (100 : Int32).toInt ∨ q_1 = 0 ∧ (n.toInt < (0 : Int32).toInt ∨ (100 : Int32).toInt < n.toInt)) := hq2
  have hP : va_P g.1 vwCl (List.flatten [bMo g o a th hi ac tp ba en tA fl de iD iO tU fm fk fa fc ft ff fb fi]) H := hP
  have hD : va_D A (List.flatten [bMo g o a th hi ac tp ba en tA fl de iD iO tU fm fk fa fc ft ff fb fi]) := hD
  refine W.widen (k := 0) (n := 0) (Nat.le_of_ble_eq_true rfl) (Nat.le_of_ble_eq_true rfl) ?_
  refine W.eq (g2 := F0 m 8 ls [.int q_1, .ref o]) rfl ?_
  rcases hq2 with ⟨rfl, hq2_k⟩ | ⟨rfl, hq2_k⟩
  · skip
    refine lv_if_ne (tgt := 15) hx hb dX12_falls_8 (by decide) (fun _ => ?_) (fun c3 => absurd c3 (by decide))
    refine lv_iconst (v := 0) hx hb dX12_falls_15 (by decide) ?_
    refine va_put (D := g.1) (ci := 10) (v := .int 0) (ty := .int) (C := RX12) (T := TX12) (N := 20) hx hb hts izRX12 tyX12 tyX12_ok nmX12 hown hK hP hD hS 0 rfl rfl 0 (by decide) (hts _ k871) (fun _ h9 => h9) rfl (by decide +kernel) rfl rfl (Nat.le_of_ble_eq_true rfl) dX12_falls_16 (fun H locs hP hD hS => ?_)
    have hP : va_P g.1 vwCl (List.flatten [bMo g o a 0 hi ac tp ba en tA fl de iD iO tU fm fk fa fc ft ff fb fi]) H := hP
    have hD : va_D A (List.flatten [bMo g o a 0 hi ac tp ba en tA fl de iD iO tU fm fk fa fc ft ff fb fi]) := hD
    refine lv_aload_n hx hb dX12_falls_19 rfl (lv_at hl 0 rfl) ?_
    refine va_get (D := g.1) (ci := 10) (v := .int 0) (C := RX12) (T := TX12) (N := 20) hx hb hts izRX12 hown hK hP 0 rfl rfl 0 (by decide) (hts _ k871) (fun _ h9 => h9) rfl dX12_falls_20 ?_
    refine lv_if_le (tgt := 28) hx hb dX12_falls_23 (by decide) (fun _ => ?_) (fun c4 => absurd (by decide) c4)
    refine lv_aload_n hx hb dX12_falls_28 rfl (lv_at hl 0 rfl) ?_
    refine lv_iconst (v := 2) hx hb dX12_falls_29 (by decide) ?_
    refine mcallV' (g := g) (q0 := 0) (ci := 10) (As := [.int 2]) (rest := []) St hK hT hA hP hD hS hl.1 [0] [] rfl rfl rfl (m_worksOf l g o a 0 hi ac tp ba en tA fl de iD iO tU fm fk fa fc ft ff fb fi 2 rfm) (cwV 1 hts (zgL (zl4 k989 k990 k991 k837) k861) rfl rfl rfl (by decide +kernel) ⟨Nat.le_of_ble_eq_true rfl, Nat.le_of_ble_eq_true rfl⟩) rfl rfl rfl rfl (Nat.le_of_ble_eq_true rfl) dX12_falls_30 ⟨(Nat.le_of_ble_eq_true rfl), (Nat.le_of_ble_eq_true rfl)⟩ (fun q_5 H locs hq6 hP hD hS => ?_)
    have hP : va_P g.1 vwCl (List.flatten [bMo g o a 0 hi ac tp ba en tA fl de iD iO tU fm fk fa fc ft ff fb fi]) H := hP
    have hD : va_D A (List.flatten [bMo g o a 0 hi ac tp ba en tA fl de iD iO tU fm fk fa fc ft ff fb fi]) := hD
    refine W.widen (k := 0) (n := 0) (Nat.le_of_ble_eq_true rfl) (Nat.le_of_ble_eq_true rfl) ?_
    refine W.eq (g2 := F0 m 33 ls [.int q_5]) rfl ?_
    refine lv_istore_n (lv' := [(2, .int q_5), (0, .ref o), (1, .int n)]) hx hb dX12_falls_33 rfl hl (by decide) rfl (fun ls hl => ?_)
    refine lv_aload_n hx hb dX12_falls_34 rfl (lv_at hl 1 rfl) ?_
    refine mcallV' (g := g) (q0 := 0) (ci := 10) (As := []) (rest := []) St hK hT hA hP hD hS hl.1 [0] [] rfl rfl rfl (m_putsAside l g o a 0 hi ac tp ba en tA fl de iD iO tU fm fk fa fc ft ff fb fi rfm rfa) (cwV 0 hts (zgL (zl4 k974 k975 k976 k837) k971) rfl rfl rfl (by decide +kernel) ⟨Nat.le_of_ble_eq_true rfl, Nat.le_of_ble_eq_true rfl⟩) rfl rfl rfl rfl (Nat.le_of_ble_eq_true rfl) dX12_falls_35 ⟨(Nat.le_of_ble_eq_true rfl), (Nat.le_of_ble_eq_true rfl)⟩ (fun fa2_7 H locs hq8 hP hD hS => ?_)
    replace hq8 : (rM fa2_7) := hq8
    have hP : va_P g.1 vwCl (List.flatten [bMo g o a 0 hi ac tp ba en tA fl de iD iO tU fm fk fa2_7 fc ft ff fb fi]) H := hP
    have hD : va_D A (List.flatten [bMo g o a 0 hi ac tp ba en tA fl de iD iO tU fm fk fa2_7 fc ft ff fb fi]) := hD
    refine W.widen (k := 0) (n := 0) (Nat.le_of_ble_eq_true rfl) (Nat.le_of_ble_eq_true rfl) ?_
    refine W.eq (g2 := F0 m 38 ls []) rfl ?_
    have rfa2_7 := hq8; clear hq8
    refine lv_aload_n hx hb dX12_falls_38 rfl (lv_at hl 1 rfl) ?_
    refine lv_iload_n hx hb dX12_falls_39 rfl (lv_at hl 2 rfl) ?_
    refine lv_iconst (v := 0) hx hb dX12_falls_40 (by decide) ?_
    refine mcallV' (g := g) (q0 := 0) (ci := 10) (As := [.int n, .int 0]) (rest := []) St hK hT hA hP hD hS hl.1 [0] [] rfl rfl rfl (m_goes l g o a 0 hi ac tp ba en tA fl de iD iO tU fm fk fa2_7 fc ft ff fb fi n 0 rfm hiD hiO (by first | assumption | omega | decide | exact Or.inl (by decide) | exact Or.inr (by decide))) (cwV 2 hts (zgL (zl4 k1056 k1057 k1058 k837) k1027) rfl rfl rfl (by decide +kernel) ⟨Nat.le_of_ble_eq_true rfl, Nat.le_of_ble_eq_true rfl⟩) rfl rfl rfl rfl (Nat.le_of_ble_eq_true rfl) dX12_falls_41 ⟨(Nat.le_of_ble_eq_true rfl), (Nat.le_of_ble_eq_true rfl)⟩ (fun u_ H locs hq20 hP hD hS => ?_)
    obtain ⟨ba2_9, en2_10, at2_11, de2_12, iD2_13, iO2_14, tU2_15, ff2_16, fm2_17, fb2_18, q_19⟩ := u_
    replace hq20 : (rM fm2_17) ∧ (0 ≤ iO2_14.toInt ∧ iO2_14.toInt ≤ 1) ∧ (0 ≤ iD2_13.toInt ∧ iD2_13.toInt ≤ 1) := hq20
    have hP : va_P g.1 vwCl (List.flatten [bMo g o a 0 hi ac tp ba2_9 en2_10 at2_11 fl de2_12 iD2_13 iO2_14 tU2_15 fm2_17 fk fa2_7 fc ft ff2_16 fb2_18 fi]) H := hP
    have hD : va_D A (List.flatten [bMo g o a 0 hi ac tp ba2_9 en2_10 at2_11 fl de2_12 iD2_13 iO2_14 tU2_15 fm2_17 fk fa2_7 fc ft ff2_16 fb2_18 fi]) := hD
    refine W.widen (k := 0) (n := 0) (Nat.le_of_ble_eq_true rfl) (Nat.le_of_ble_eq_true rfl) ?_
    refine W.eq (g2 := F0 m 44 ls [.int q_19]) rfl ?_
    obtain ⟨rfm2_17, hq20_1, hq20_2⟩ := hq20
    refine lv_istore_n (lv' := [(3, .int q_19), (2, .int q_5), (0, .ref o), (1, .int n)]) hx hb dX12_falls_44 rfl hl (by decide) rfl (fun ls hl => ?_)
    refine lv_aload_n hx hb dX12_falls_45 rfl (lv_at hl 2 rfl) ?_
    refine lv_iconst (v := 2) hx hb dX12_falls_46 (by decide) ?_
    refine mcallV' (g := g) (q0 := 0) (ci := 10) (As := [.int 2]) (rest := []) St hK hT hA hP hD hS hl.1 [0] [] rfl rfl rfl (m_worksOf l g o a 0 hi ac tp ba2_9 en2_10 at2_11 fl de2_12 iD2_13 iO2_14 tU2_15 fm2_17 fk fa2_7 fc ft ff2_16 fb2_18 fi 2 rfm2_17) (cwV 1 hts (zgL (zl4 k989 k990 k991 k837) k861) rfl rfl rfl (by decide +kernel) ⟨Nat.le_of_ble_eq_true rfl, Nat.le_of_ble_eq_true rfl⟩) rfl rfl rfl rfl (Nat.le_of_ble_eq_true rfl) dX12_falls_47 ⟨(Nat.le_of_ble_eq_true rfl), (Nat.le_of_ble_eq_true rfl)⟩ (fun q_21 H locs hq22 hP hD hS => ?_)
    have hP : va_P g.1 vwCl (List.flatten [bMo g o a 0 hi ac tp ba2_9 en2_10 at2_11 fl de2_12 iD2_13 iO2_14 tU2_15 fm2_17 fk fa2_7 fc ft ff2_16 fb2_18 fi]) H := hP
    have hD : va_D A (List.flatten [bMo g o a 0 hi ac tp ba2_9 en2_10 at2_11 fl de2_12 iD2_13 iO2_14 tU2_15 fm2_17 fk fa2_7 fc ft ff2_16 fb2_18 fi]) := hD
    refine W.widen (k := 0) (n := 0) (Nat.le_of_ble_eq_true rfl) (Nat.le_of_ble_eq_true rfl) ?_
    refine W.eq (g2 := F0 m 50 ls [.int q_21]) rfl ?_
    refine lv_iload_n hx hb dX12_falls_50 rfl (lv_at hl 1 rfl) ?_
    refine lv_iconst (v := (-1)) hx hb dX12_falls_51 (by decide) ?_
    refine lv_ixor hx hb dX12_falls_52 ?_
    refine zg (fun x_23 => ?_)
    refine lv_iand hx hb dX12_falls_53 ?_
    refine zg (fun x_24 => ?_)
    refine lv_istore (lv' := [(4, .int x_24), (3, .int q_19), (2, .int q_5), (0, .ref o), (1, .int n)]) hx hb dX12_falls_54 hl (by decide) rfl (fun ls hl => ?_)
    refine lv_aload_n hx hb dX12_falls_56 rfl (lv_at hl 3 rfl) ?_
    refine mcallV' (g := g) (q0 := 0) (ci := 10) (As := []) (rest := []) St hK hT hA hP hD hS hl.1 [0] [] rfl rfl rfl (m_comesBack l g o a 0 hi ac tp ba2_9 en2_10 at2_11 fl de2_12 iD2_13 iO2_14 tU2_15 fm2_17 fk fa2_7 fc ft ff2_16 fb2_18 fi rfm2_17 rfa2_7) (cwV 0 hts (zgL (zl4 k983 k984 k985 k837) k972) rfl rfl rfl (by decide +kernel) ⟨Nat.le_of_ble_eq_true rfl, Nat.le_of_ble_eq_true rfl⟩) rfl rfl rfl rfl (Nat.le_of_ble_eq_true rfl) dX12_falls_57 ⟨(Nat.le_of_ble_eq_true rfl), (Nat.le_of_ble_eq_true rfl)⟩ (fun fm2_25 H locs hq26 hP hD hS => ?_)
    replace hq26 : (rM fm2_25) := hq26
    have hP : va_P g.1 vwCl (List.flatten [bMo g o a 0 hi ac tp ba2_9 en2_10 at2_11 fl de2_12 iD2_13 iO2_14 tU2_15 fm2_25 fk fa2_7 fc ft ff2_16 fb2_18 fi]) H := hP
    have hD : va_D A (List.flatten [bMo g o a 0 hi ac tp ba2_9 en2_10 at2_11 fl de2_12 iD2_13 iO2_14 tU2_15 fm2_25 fk fa2_7 fc ft ff2_16 fb2_18 fi]) := hD
    refine W.widen (k := 0) (n := 0) (Nat.le_of_ble_eq_true rfl) (Nat.le_of_ble_eq_true rfl) ?_
    refine W.eq (g2 := F0 m 60 ls []) rfl ?_
    have rfm2_25 := hq26; clear hq26
    refine lv_iload hx hb dX12_falls_60 (lv_at hl 0 rfl) ?_
    have hP : va_P g.1 vwCl (List.flatten [bMo g o a 0 hi ac tp ba2_9 en2_10 at2_11 fl de2_12 iD2_13 iO2_14 tU2_15 fm2_25 fk fa2_7 fc ft ff2_16 fb2_18 fi]) H := hP
    have hD : va_D A (List.flatten [bMo g o a 0 hi ac tp ba2_9 en2_10 at2_11 fl de2_12 iD2_13 iO2_14 tU2_15 fm2_25 fk fa2_7 fc ft ff2_16 fb2_18 fi]) := hD
    exact mret_i hx hb hr hlocks hS (Nat.le_of_ble_eq_true rfl) (Nat.le_of_ble_eq_true rfl) dX12_falls_62 ((0 : Int32), ba2_9, en2_10, at2_11, de2_12, iD2_13, iO2_14, tU2_15, ff2_16, fm2_25, fb2_18, fa2_7, x_24) rfl (show (rM fa2_7) ∧ (rM fm2_25) ∧ (0 ≤ iO2_14.toInt ∧ iO2_14.toInt ≤ 1) ∧ (0 ≤ iD2_13.toInt ∧ iD2_13.toInt ≤ 1) from ⟨rfa2_7, rfm2_25, hq20_1, hq20_2⟩) hP hD
  · skip
    refine lv_if_ne (tgt := 15) hx hb dX12_falls_8 (by decide) (fun c27 => absurd (by decide) c27) (fun _ => ?_)
    refine lv_iconst (v := 1) hx hb dX12_falls_11 (by decide) ?_
    refine lv_goto (tgt := 16) hx hb dX12_falls_12 (by decide) ?_
    refine va_put (D := g.1) (ci := 10) (v := .int 1) (ty := .int) (C := RX12) (T := TX12) (N := 20) hx hb hts izRX12 tyX12 tyX12_ok nmX12 hown hK hP hD hS 0 rfl rfl 0 (by decide) (hts _ k871) (fun _ h9 => h9) rfl (by decide +kernel) rfl rfl (Nat.le_of_ble_eq_true rfl) dX12_falls_16 (fun H locs hP hD hS => ?_)
    have hP : va_P g.1 vwCl (List.flatten [bMo g o a 1 hi ac tp ba en tA fl de iD iO tU fm fk fa fc ft ff fb fi]) H := hP
    have hD : va_D A (List.flatten [bMo g o a 1 hi ac tp ba en tA fl de iD iO tU fm fk fa fc ft ff fb fi]) := hD
    refine lv_aload_n hx hb dX12_falls_19 rfl (lv_at hl 0 rfl) ?_
    refine va_get (D := g.1) (ci := 10) (v := .int 1) (C := RX12) (T := TX12) (N := 20) hx hb hts izRX12 hown hK hP 0 rfl rfl 0 (by decide) (hts _ k871) (fun _ h9 => h9) rfl dX12_falls_20 ?_
    refine lv_if_le (tgt := 28) hx hb dX12_falls_23 (by decide) (fun c28 => absurd c28 (by decide)) (fun _ => ?_)
    refine lv_iconst (v := 0) hx hb dX12_falls_26 (by decide) ?_
    have hP : va_P g.1 vwCl (List.flatten [bMo g o a 1 hi ac tp ba en tA fl de iD iO tU fm fk fa fc ft ff fb fi]) H := hP
    have hD : va_D A (List.flatten [bMo g o a 1 hi ac tp ba en tA fl de iD iO tU fm fk fa fc ft ff fb fi]) := hD
    exact mret_i hx hb hr hlocks hS (Nat.le_of_ble_eq_true rfl) (Nat.le_of_ble_eq_true rfl) dX12_falls_27 ((1 : Int32), ba, en, tA, de, iD, iO, tU, ff, fm, fb, fa, (0 : Int32)) rfl (show (rM fa) ∧ (rM fm) ∧ (0 ≤ iO.toInt ∧ iO.toInt ≤ 1) ∧ (0 ≤ iD.toInt ∧ iD.toInt ≤ 1) from ⟨rfa, rfm, hiO, hiD⟩) hP hD
set_option maxRecDepth 100000 in
set_option maxHeartbeats 4000000 in
theorem m_last (l : Launch) (g : zG) (o : Nat) (a : Nat → Nat) (th : Int32) (hi : Int32) (ac : Int32) (tp : Int32) (ba : Int32) (en : Int32) (tA : Int32) (fl : Int32) (de : Int32) (iD : Int32) (iO : Int32) (tU : Int32) (fm : Nat → Int32) (fk : Nat → Int32) (fa : Nat → Int32) (fc : Nat → Int32) (ft : Nat → Int32) (ff : Nat → Int32) (fb : Nat → Int32) (fi : Nat → Int32) (w : Int32) (rfm : rM fm) (rfa : rM fa) (hiD : 0 ≤ iD.toInt ∧ iD.toInt ≤ 1) (hiO : 0 ≤ iO.toInt ∧ iO.toInt ≤ 1) : zM' g l yX12_last (Cond.code yX12_last cX12_last 5 (some .int) :: zB) ({ frames := 33, cells := 0, slots := 0, locals := 736 } : Room) [.ref o, .int w] [bMo g o a th hi ac tp ba en tA fl de iD iO tU fm fk fa fc ft ff fb fi] (fun u : Int32 × Int32 × Int32 × Int32 × Int32 × Int32 × Int32 × Int32 × (Nat → Int32) × (Nat → Int32) × (Nat → Int32) × (Nat → Int32) × Int32 => (fun (th2 : Int32) (ba2 : Int32) (en2 : Int32) (at2 : Int32) (de2 : Int32) (iD2 : Int32) (iO2 : Int32) (tU2 : Int32) (ff2 : Nat → Int32) (fm2 : Nat → Int32) (fb2 : Nat → Int32) (fa2 : Nat → Int32) (q : Int32) => some (.int q)) (u.1) (u.2.1) (u.2.2.1) (u.2.2.2.1) (u.2.2.2.2.1) (u.2.2.2.2.2.1) (u.2.2.2.2.2.2.1) (u.2.2.2.2.2.2.2.1) (u.2.2.2.2.2.2.2.2.1) (u.2.2.2.2.2.2.2.2.2.1) (u.2.2.2.2.2.2.2.2.2.2.1) (u.2.2.2.2.2.2.2.2.2.2.2.1) (u.2.2.2.2.2.2.2.2.2.2.2.2)) (fun u : Int32 × Int32 × Int32 × Int32 × Int32 × Int32 × Int32 × Int32 × (Nat → Int32) × (Nat → Int32) × (Nat → Int32) × (Nat → Int32) × Int32 => (fun (th2 : Int32) (ba2 : Int32) (en2 : Int32) (at2 : Int32) (de2 : Int32) (iD2 : Int32) (iO2 : Int32) (tU2 : Int32) (ff2 : Nat → Int32) (fm2 : Nat → Int32) (fb2 : Nat → Int32) (fa2 : Nat → Int32) (q : Int32) => (rM fa2) ∧ (rM fm2) ∧ (0 ≤ iO2.toInt ∧ iO2.toInt ≤ 1) ∧ (0 ≤ iD2.toInt ∧ iD2.toInt ≤ 1)) (u.1) (u.2.1) (u.2.2.1) (u.2.2.2.1) (u.2.2.2.2.1) (u.2.2.2.2.2.1) (u.2.2.2.2.2.2.1) (u.2.2.2.2.2.2.2.1) (u.2.2.2.2.2.2.2.2.1) (u.2.2.2.2.2.2.2.2.2.1) (u.2.2.2.2.2.2.2.2.2.2.1) (u.2.2.2.2.2.2.2.2.2.2.2.1) (u.2.2.2.2.2.2.2.2.2.2.2.2)) (fun u : Int32 × Int32 × Int32 × Int32 × Int32 × Int32 × Int32 × Int32 × (Nat → Int32) × (Nat → Int32) × (Nat → Int32) × (Nat → Int32) × Int32 => (fun (th2 : Int32) (ba2 : Int32) (en2 : Int32) (at2 : Int32) (de2 : Int32) (iD2 : Int32) (iO2 : Int32) (tU2 : Int32) (ff2 : Nat → Int32) (fm2 : Nat → Int32) (fb2 : Nat → Int32) (fa2 : Nat → Int32) (q : Int32) => [bMo g o a th2 hi ac tp ba2 en2 at2 fl de2 iD2 iO2 tU2 fm2 fk fa2 fc ft ff2 fb2 fi]) (u.1) (u.2.1) (u.2.2.1) (u.2.2.2.1) (u.2.2.2.2.1) (u.2.2.2.2.2.1) (u.2.2.2.2.2.2.1) (u.2.2.2.2.2.2.2.1) (u.2.2.2.2.2.2.2.2.1) (u.2.2.2.2.2.2.2.2.2.1) (u.2.2.2.2.2.2.2.2.2.2.1) (u.2.2.2.2.2.2.2.2.2.2.2.1) (u.2.2.2.2.2.2.2.2.2.2.2.2)) := by
  refine zM'.of (cc := cX12_last) (maxL := 5) (rt := (some .int)) (by decide) rfl (Nat.le_of_ble_eq_true rfl) ?_
  intro p e s m args below meth c A ls St hr hlocks hin hK hT hA hP hD hS hl
  obtain ⟨hx, hb, hml, hown, hts⟩ := id St
  have hl : lv_has ls 5 [(0, .ref o), (1, .int w)] := hl
  refine lv_aload_n hx hb dX12_last_0 rfl (lv_at hl 0 rfl) ?_
  refine lv_aload_n hx hb dX12_last_1 rfl (lv_at hl 0 rfl) ?_
  refine lv_iload_n hx hb dX12_last_2 rfl (lv_at hl 1 rfl) ?_
  refine mcallV' (g := g) (q0 := 0) (ci := 10) (As := [.int w]) (rest := [.ref o]) St hK hT hA hP hD hS hl.1 [0] [] rfl rfl rfl (m_isWork l g o a th hi ac tp ba en tA fl de iD iO tU fm fk fa fc ft ff fb fi w rfm) (cwV 1 hts (zgL (zl4 k1041 k1042 k1043 k837) k838) rfl rfl rfl (by decide +kernel) ⟨Nat.le_of_ble_eq_true rfl, Nat.le_of_ble_eq_true rfl⟩) rfl rfl rfl rfl (Nat.le_of_ble_eq_true rfl) dX12_last_3 ⟨(Nat.le_of_ble_eq_true rfl), (Nat.le_of_ble_eq_true rfl)⟩ (fun q_1 H locs hq2 hP hD hS => ?_)
  replace hq2 : (q_1 = 1 ∧ 0 ≤ w.toInt ∧ w.toInt ≤ 5 ∧ w.toInt < (fm 4).toInt ∨ q_1 = 0) := hq2
  have hP : va_P g.1 vwCl (List.flatten [bMo g o a th hi ac tp ba en tA fl de iD iO tU fm fk fa fc ft ff fb fi]) H := hP
  have hD : va_D A (List.flatten [bMo g o a th hi ac tp ba en tA fl de iD iO tU fm fk fa fc ft ff fb fi]) := hD
  refine W.widen (k := 0) (n := 0) (Nat.le_of_ble_eq_true rfl) (Nat.le_of_ble_eq_true rfl) ?_
  refine W.eq (g2 := F0 m 6 ls [.int q_1, .ref o]) rfl ?_
  rcases hq2 with ⟨rfl, hq2_k⟩ | rfl
  · skip
    refine lv_if_ne (tgt := 13) hx hb dX12_last_6 (by decide) (fun _ => ?_) (fun c3 => absurd c3 (by decide))
    refine lv_iconst (v := 0) hx hb dX12_last_13 (by decide) ?_
    refine va_put (D := g.1) (ci := 10) (v := .int 0) (ty := .int) (C := RX12) (T := TX12) (N := 20) hx hb hts izRX12 tyX12 tyX12_ok nmX12 hown hK hP hD hS 0 rfl rfl 0 (by decide) (hts _ k871) (fun _ h9 => h9) rfl (by decide +kernel) rfl rfl (Nat.le_of_ble_eq_true rfl) dX12_last_14 (fun H locs hP hD hS => ?_)
    have hP : va_P g.1 vwCl (List.flatten [bMo g o a 0 hi ac tp ba en tA fl de iD iO tU fm fk fa fc ft ff fb fi]) H := hP
    have hD : va_D A (List.flatten [bMo g o a 0 hi ac tp ba en tA fl de iD iO tU fm fk fa fc ft ff fb fi]) := hD
    refine lv_aload_n hx hb dX12_last_17 rfl (lv_at hl 0 rfl) ?_
    refine va_get (D := g.1) (ci := 10) (v := .int 0) (C := RX12) (T := TX12) (N := 20) hx hb hts izRX12 hown hK hP 0 rfl rfl 0 (by decide) (hts _ k871) (fun _ h9 => h9) rfl dX12_last_18 ?_
    refine lv_if_le (tgt := 26) hx hb dX12_last_21 (by decide) (fun _ => ?_) (fun c4 => absurd (by decide) c4)
    refine lv_aload_n hx hb dX12_last_26 rfl (lv_at hl 0 rfl) ?_
    refine mcallV' (g := g) (q0 := 0) (ci := 10) (As := []) (rest := []) St hK hT hA hP hD hS hl.1 [0] [] rfl rfl rfl (m_putsAside l g o a 0 hi ac tp ba en tA fl de iD iO tU fm fk fa fc ft ff fb fi rfm rfa) (cwV 0 hts (zgL (zl4 k974 k975 k976 k837) k971) rfl rfl rfl (by decide +kernel) ⟨Nat.le_of_ble_eq_true rfl, Nat.le_of_ble_eq_true rfl⟩) rfl rfl rfl rfl (Nat.le_of_ble_eq_true rfl) dX12_last_27 ⟨(Nat.le_of_ble_eq_true rfl), (Nat.le_of_ble_eq_true rfl)⟩ (fun fa2_5 H locs hq6 hP hD hS => ?_)
    replace hq6 : (rM fa2_5) := hq6
    have hP : va_P g.1 vwCl (List.flatten [bMo g o a 0 hi ac tp ba en tA fl de iD iO tU fm fk fa2_5 fc ft ff fb fi]) H := hP
    have hD : va_D A (List.flatten [bMo g o a 0 hi ac tp ba en tA fl de iD iO tU fm fk fa2_5 fc ft ff fb fi]) := hD
    refine W.widen (k := 0) (n := 0) (Nat.le_of_ble_eq_true rfl) (Nat.le_of_ble_eq_true rfl) ?_
    refine W.eq (g2 := F0 m 30 ls []) rfl ?_
    have rfa2_5 := hq6; clear hq6
    refine lv_iconst (v := (-1)) hx hb dX12_last_30 (by decide) ?_
    refine lv_istore_n (lv' := [(2, .int (-1)), (0, .ref o), (1, .int w)]) hx hb dX12_last_31 rfl hl (by decide) rfl (fun ls hl => ?_)
    refine lv_iconst (v := 0) hx hb dX12_last_32 (by decide) ?_
    refine lv_istore_n (lv' := [(3, .int 0), (2, .int (-1)), (0, .ref o), (1, .int w)]) hx hb dX12_last_33 rfl hl (by decide) rfl (fun ls hl => ?_)
    have hl := lv_sub (l' := [(0, .ref o), (1, .int w), (2, .int (-1)), (3, .int 0)]) hl [2, 3, 1, 0] rfl
    have LP34_23 : ∀ (kf : Nat) (x_7 : Int32) (x_8 : Int32) (x_9 : Int32) (x_10 : Int32) (x_11 : Int32) (x_12 : Int32) (x_13 : Int32) (x_14 : Int32) (x_15 : Int32) (fm_16 : Nat → Int32) (ff_17 : Nat → Int32) (fb_18 : Nat → Int32), ((-1) ≤ x_7.toInt ∧ x_7.toInt ≤ 100) → (0 ≤ x_8.toInt ∧ x_8.toInt ≤ 101) → (0 ≤ x_13.toInt ∧ x_13.toInt ≤ 1) → (0 ≤ x_14.toInt ∧ x_14.toInt ≤ 1) → (rM fm_16) → ∀ (H : Heap) (locs : List Loc) (ls : Array Slot), ((102 - x_8.toInt).toNat) < kf → va_P g.1 vwCl (List.flatten [bMo g o a 0 hi ac tp x_9 x_10 x_11 fl x_12 x_13 x_14 x_15 fm_16 fk fa2_5 fc ft ff_17 fb_18 fi]) H → va_D A (List.flatten [bMo g o a 0 hi ac tp x_9 x_10 x_11 fl x_12 x_13 x_14 x_15 fm_16 fk fa2_5 fc ft ff_17 fb_18 fi]) → va_S A s.heap H locs → lv_has ls 5 [(0, .ref o), (1, .int w), (2, .int x_7), (3, .int x_8)] → W p l e ({ frames := 33, cells := 0, slots := 0, locals := 736 } : Room) s m args below meth c H locs (0) (0) (zF g (fun u : Int32 × Int32 × Int32 × Int32 × Int32 × Int32 × Int32 × Int32 × (Nat → Int32) × (Nat → Int32) × (Nat → Int32) × (Nat → Int32) × Int32 => (fun (th2 : Int32) (ba2 : Int32) (en2 : Int32) (at2 : Int32) (de2 : Int32) (iD2 : Int32) (iO2 : Int32) (tU2 : Int32) (ff2 : Nat → Int32) (fm2 : Nat → Int32) (fb2 : Nat → Int32) (fa2 : Nat → Int32) (q : Int32) => some (.int q)) (u.1) (u.2.1) (u.2.2.1) (u.2.2.2.1) (u.2.2.2.2.1) (u.2.2.2.2.2.1) (u.2.2.2.2.2.2.1) (u.2.2.2.2.2.2.2.1) (u.2.2.2.2.2.2.2.2.1) (u.2.2.2.2.2.2.2.2.2.1) (u.2.2.2.2.2.2.2.2.2.2.1) (u.2.2.2.2.2.2.2.2.2.2.2.1) (u.2.2.2.2.2.2.2.2.2.2.2.2)) (fun u : Int32 × Int32 × Int32 × Int32 × Int32 × Int32 × Int32 × Int32 × (Nat → Int32) × (Nat → Int32) × (Nat → Int32) × (Nat → Int32) × Int32 => (fun (th2 : Int32) (ba2 : Int32) (en2 : Int32) (at2 : Int32) (de2 : Int32) (iD2 : Int32) (iO2 : Int32) (tU2 : Int32) (ff2 : Nat → Int32) (fm2 : Nat → Int32) (fb2 : Nat → Int32) (fa2 : Nat → Int32) (q : Int32) => (rM fa2) ∧ (rM fm2) ∧ (0 ≤ iO2.toInt ∧ iO2.toInt ≤ 1) ∧ (0 ≤ iD2.toInt ∧ iD2.toInt ≤ 1)) (u.1) (u.2.1) (u.2.2.1) (u.2.2.2.1) (u.2.2.2.2.1) (u.2.2.2.2.2.1) (u.2.2.2.2.2.2.1) (u.2.2.2.2.2.2.2.1) (u.2.2.2.2.2.2.2.2.1) (u.2.2.2.2.2.2.2.2.2.1) (u.2.2.2.2.2.2.2.2.2.2.1) (u.2.2.2.2.2.2.2.2.2.2.2.1) (u.2.2.2.2.2.2.2.2.2.2.2.2)) (fun u : Int32 × Int32 × Int32 × Int32 × Int32 × Int32 × Int32 × Int32 × (Nat → Int32) × (Nat → Int32) × (Nat → Int32) × (Nat → Int32) × Int32 => (fun (th2 : Int32) (ba2 : Int32) (en2 : Int32) (at2 : Int32) (de2 : Int32) (iD2 : Int32) (iO2 : Int32) (tU2 : Int32) (ff2 : Nat → Int32) (fm2 : Nat → Int32) (fb2 : Nat → Int32) (fa2 : Nat → Int32) (q : Int32) => [bMo g o a th2 hi ac tp ba2 en2 at2 fl de2 iD2 iO2 tU2 fm2 fk fa2 fc ft ff2 fb2 fi]) (u.1) (u.2.1) (u.2.2.1) (u.2.2.2.1) (u.2.2.2.2.1) (u.2.2.2.2.2.1) (u.2.2.2.2.2.2.1) (u.2.2.2.2.2.2.2.1) (u.2.2.2.2.2.2.2.2.1) (u.2.2.2.2.2.2.2.2.2.1) (u.2.2.2.2.2.2.2.2.2.2.1) (u.2.2.2.2.2.2.2.2.2.2.2.1) (u.2.2.2.2.2.2.2.2.2.2.2.2)) ({ frames := 33, cells := 0, slots := 0, locals := 736 } : Room) below args s A) (F0 m 34 ls []) := by
      intro kf
      induction kf with
      | zero => intro x_7 x_8 x_9 x_10 x_11 x_12 x_13 x_14 x_15 fm_16 ff_17 fb_18 i19 i20 i21 i22 rfm_16 H locs ls hk; exact absurd hk (Nat.not_lt_zero _)
      | succ kf ih34_24 =>
        intro x_7 x_8 x_9 x_10 x_11 x_12 x_13 x_14 x_15 fm_16 ff_17 fb_18 i19 i20 i21 i22 rfm_16 H locs ls hk34_24 hP hD hS hl
        refine lv_iload_n hx hb dX12_last_34 rfl (lv_at hl 3 rfl) ?_
        refine lv_bipush (v := 100) hx hb dX12_last_35 (by decide) ?_
        refine lv_icmp_gt (tgt := 71) hx hb dX12_last_37 (by decide) (fun cb9 => ?_) (fun cb9 => ?_)
        · skip
          have c25 : 100 < x_8.toInt := zlti cb9 (by decide) rfl
          have n26 : 101 ≤ x_8.toInt := zL2 (a := 100) c25 (Int.le_refl _) (by decide)
          refine lv_aload_n hx hb dX12_last_71 rfl (lv_at hl 0 rfl) ?_
          refine mcallV' (g := g) (q0 := 0) (ci := 10) (As := []) (rest := []) St hK hT hA hP hD hS hl.1 [0] [] rfl rfl rfl (m_comesBack l g o a 0 hi ac tp x_9 x_10 x_11 fl x_12 x_13 x_14 x_15 fm_16 fk fa2_5 fc ft ff_17 fb_18 fi rfm_16 rfa2_5) (cwV 0 hts (zgL (zl4 k983 k984 k985 k837) k972) rfl rfl rfl (by decide +kernel) ⟨Nat.le_of_ble_eq_true rfl, Nat.le_of_ble_eq_true rfl⟩) rfl rfl rfl rfl (Nat.le_of_ble_eq_true rfl) dX12_last_72 ⟨(Nat.le_of_ble_eq_true rfl), (Nat.le_of_ble_eq_true rfl)⟩ (fun fm2_27 H locs hq28 hP hD hS => ?_)
          replace hq28 : (rM fm2_27) := hq28
          have hP : va_P g.1 vwCl (List.flatten [bMo g o a 0 hi ac tp x_9 x_10 x_11 fl x_12 x_13 x_14 x_15 fm2_27 fk fa2_5 fc ft ff_17 fb_18 fi]) H := hP
          have hD : va_D A (List.flatten [bMo g o a 0 hi ac tp x_9 x_10 x_11 fl x_12 x_13 x_14 x_15 fm2_27 fk fa2_5 fc ft ff_17 fb_18 fi]) := hD
          refine W.widen (k := 0) (n := 0) (Nat.le_of_ble_eq_true rfl) (Nat.le_of_ble_eq_true rfl) ?_
          refine W.eq (g2 := F0 m 75 ls []) rfl ?_
          have rfm2_27 := hq28; clear hq28
          refine lv_iload_n hx hb dX12_last_75 rfl (lv_at hl 2 rfl) ?_
          have hP : va_P g.1 vwCl (List.flatten [bMo g o a 0 hi ac tp x_9 x_10 x_11 fl x_12 x_13 x_14 x_15 fm2_27 fk fa2_5 fc ft ff_17 fb_18 fi]) H := hP
          have hD : va_D A (List.flatten [bMo g o a 0 hi ac tp x_9 x_10 x_11 fl x_12 x_13 x_14 x_15 fm2_27 fk fa2_5 fc ft ff_17 fb_18 fi]) := hD
          exact mret_i hx hb hr hlocks hS (Nat.le_of_ble_eq_true rfl) (Nat.le_of_ble_eq_true rfl) dX12_last_76 ((0 : Int32), x_9, x_10, x_11, x_12, x_13, x_14, x_15, ff_17, fm2_27, fb_18, fa2_5, x_7) rfl (show (rM fa2_5) ∧ (rM fm2_27) ∧ (0 ≤ x_14.toInt ∧ x_14.toInt ≤ 1) ∧ (0 ≤ x_13.toInt ∧ x_13.toInt ≤ 1) from ⟨rfa2_5, rfm2_27, i22, i21⟩) hP hD
        · skip
          have c29 : x_8.toInt ≤ 100 := zle (Int32.not_lt.mp cb9) rfl (by decide)
          have n30 : x_8.toInt ≤ 100 := Int.le_trans c29 (Int.le_refl _)
          refine lv_iload_n hx hb dX12_last_40 rfl (lv_at hl 2 rfl) ?_
          refine lv_iconst (v := (-1)) hx hb dX12_last_41 (by decide) ?_
          refine lv_icmp_ne (tgt := 71) hx hb dX12_last_42 (by decide) (fun cb9 => ?_) (fun cb9 => ?_)
          · skip
            have c31 : ¬ x_7.toInt = (-1) := zne cb9 rfl (by decide)
            have n32 : 0 ≤ x_7.toInt := zN1 c31 i19.1 (by decide)
            refine lv_aload_n hx hb dX12_last_71 rfl (lv_at hl 0 rfl) ?_
            refine mcallV' (g := g) (q0 := 0) (ci := 10) (As := []) (rest := []) St hK hT hA hP hD hS hl.1 [0] [] rfl rfl rfl (m_comesBack l g o a 0 hi ac tp x_9 x_10 x_11 fl x_12 x_13 x_14 x_15 fm_16 fk fa2_5 fc ft ff_17 fb_18 fi rfm_16 rfa2_5) (cwV 0 hts (zgL (zl4 k983 k984 k985 k837) k972) rfl rfl rfl (by decide +kernel) ⟨Nat.le_of_ble_eq_true rfl, Nat.le_of_ble_eq_true rfl⟩) rfl rfl rfl rfl (Nat.le_of_ble_eq_true rfl) dX12_last_72 ⟨(Nat.le_of_ble_eq_true rfl), (Nat.le_of_ble_eq_true rfl)⟩ (fun fm2_33 H locs hq34 hP hD hS => ?_)
            replace hq34 : (rM fm2_33) := hq34
            have hP : va_P g.1 vwCl (List.flatten [bMo g o a 0 hi ac tp x_9 x_10 x_11 fl x_12 x_13 x_14 x_15 fm2_33 fk fa2_5 fc ft ff_17 fb_18 fi]) H := hP
            have hD : va_D A (List.flatten [bMo g o a 0 hi ac tp x_9 x_10 x_11 fl x_12 x_13 x_14 x_15 fm2_33 fk fa2_5 fc ft ff_17 fb_18 fi]) := hD
            refine W.widen (k := 0) (n := 0) (Nat.le_of_ble_eq_true rfl) (Nat.le_of_ble_eq_true rfl) ?_
            refine W.eq (g2 := F0 m 75 ls []) rfl ?_
            have rfm2_33 := hq34; clear hq34
            refine lv_iload_n hx hb dX12_last_75 rfl (lv_at hl 2 rfl) ?_
            have hP : va_P g.1 vwCl (List.flatten [bMo g o a 0 hi ac tp x_9 x_10 x_11 fl x_12 x_13 x_14 x_15 fm2_33 fk fa2_5 fc ft ff_17 fb_18 fi]) H := hP
            have hD : va_D A (List.flatten [bMo g o a 0 hi ac tp x_9 x_10 x_11 fl x_12 x_13 x_14 x_15 fm2_33 fk fa2_5 fc ft ff_17 fb_18 fi]) := hD
            exact mret_i hx hb hr hlocks hS (Nat.le_of_ble_eq_true rfl) (Nat.le_of_ble_eq_true rfl) dX12_last_76 ((0 : Int32), x_9, x_10, x_11, x_12, x_13, x_14, x_15, ff_17, fm2_33, fb_18, fa2_5, x_7) rfl (show (rM fa2_5) ∧ (rM fm2_33) ∧ (0 ≤ x_14.toInt ∧ x_14.toInt ≤ 1) ∧ (0 ≤ x_13.toInt ∧ x_13.toInt ≤ 1) from ⟨rfa2_5, rfm2_33, i22, i21⟩) hP hD
          · skip
            have c35 : x_7.toInt = (-1) := zeq cb9 rfl (by decide)
            have n36 : x_7.toInt ≤ (-1) := Int.le_trans (Int.le_of_eq c35) (Int.le_refl _)
            refine lv_aload_n hx hb dX12_last_45 rfl (lv_at hl 0 rfl) ?_
            refine lv_iload_n hx hb dX12_last_46 rfl (lv_at hl 1 rfl) ?_
            refine lv_iconst (v := 3) hx hb dX12_last_47 (by decide) ?_
            have hL3 : (3 : Int32).toInt = 3 := by decide
            refine mcallV' (g := g) (q0 := 0) (ci := 10) (As := [.int w, .int 3]) (rest := []) St hK hT hA hP hD hS hl.1 [0] [] rfl rfl rfl (m_ofWork l g o a 0 hi ac tp x_9 x_10 x_11 fl x_12 x_13 x_14 x_15 fm_16 fk fa2_5 fc ft ff_17 fb_18 fi w 3 (by first | assumption | omega | decide | exact Or.inl (by decide) | exact Or.inr (by decide)) (by decide)) (cwV 2 hts (zgL (zl4 k862 k863 k864 k837) k831) rfl rfl rfl (by decide +kernel) ⟨Nat.le_of_ble_eq_true rfl, Nat.le_of_ble_eq_true rfl⟩) rfl rfl rfl rfl (Nat.le_of_ble_eq_true rfl) dX12_last_48 ⟨(Nat.le_of_ble_eq_true rfl), (Nat.le_of_ble_eq_true rfl)⟩ (fun q_37 H locs hq38 hP hD hS => ?_)
            have hP : va_P g.1 vwCl (List.flatten [bMo g o a 0 hi ac tp x_9 x_10 x_11 fl x_12 x_13 x_14 x_15 fm_16 fk fa2_5 fc ft ff_17 fb_18 fi]) H := hP
            have hD : va_D A (List.flatten [bMo g o a 0 hi ac tp x_9 x_10 x_11 fl x_12 x_13 x_14 x_15 fm_16 fk fa2_5 fc ft ff_17 fb_18 fi]) := hD
            refine W.widen (k := 0) (n := 0) (Nat.le_of_ble_eq_true rfl) (Nat.le_of_ble_eq_true rfl) ?_
            refine W.eq (g2 := F0 m 51 ls [.int q_37]) rfl ?_
            refine lv_iconst (v := 2) hx hb dX12_last_51 (by decide) ?_
            refine lv_icmp_ne (tgt := 57) hx hb dX12_last_52 (by decide) (fun cb9 => ?_) (fun cb9 => ?_)
            · skip
              have c39 : ¬ q_37.toInt = 2 := zne cb9 rfl (by decide)
              refine lv_aload_n hx hb dX12_last_57 rfl (lv_at hl 0 rfl) ?_
              refine lv_iconst (v := 1) hx hb dX12_last_58 (by decide) ?_
              refine lv_iconst (v := 0) hx hb dX12_last_59 (by decide) ?_
              have hL1 : (1 : Int32).toInt = 1 := by decide
              refine mcallV' (g := g) (q0 := 0) (ci := 10) (As := [.int 1, .int 0]) (rest := []) St hK hT hA hP hD hS hl.1 [0] [] rfl rfl rfl (m_goes l g o a 0 hi ac tp x_9 x_10 x_11 fl x_12 x_13 x_14 x_15 fm_16 fk fa2_5 fc ft ff_17 fb_18 fi 1 0 rfm_16 i21 i22 (by decide)) (cwV 2 hts (zgL (zl4 k1056 k1057 k1058 k837) k1027) rfl rfl rfl (by decide +kernel) ⟨Nat.le_of_ble_eq_true rfl, Nat.le_of_ble_eq_true rfl⟩) rfl rfl rfl rfl (Nat.le_of_ble_eq_true rfl) dX12_last_60 ⟨(Nat.le_of_ble_eq_true rfl), (Nat.le_of_ble_eq_true rfl)⟩ (fun u_ H locs hq51 hP hD hS => ?_)
              obtain ⟨ba2_40, en2_41, at2_42, de2_43, iD2_44, iO2_45, tU2_46, ff2_47, fm2_48, fb2_49, q_50⟩ := u_
              replace hq51 : (rM fm2_48) ∧ (0 ≤ iO2_45.toInt ∧ iO2_45.toInt ≤ 1) ∧ (0 ≤ iD2_44.toInt ∧ iD2_44.toInt ≤ 1) := hq51
              have hP : va_P g.1 vwCl (List.flatten [bMo g o a 0 hi ac tp ba2_40 en2_41 at2_42 fl de2_43 iD2_44 iO2_45 tU2_46 fm2_48 fk fa2_5 fc ft ff2_47 fb2_49 fi]) H := hP
              have hD : va_D A (List.flatten [bMo g o a 0 hi ac tp ba2_40 en2_41 at2_42 fl de2_43 iD2_44 iO2_45 tU2_46 fm2_48 fk fa2_5 fc ft ff2_47 fb2_49 fi]) := hD
              refine W.widen (k := 0) (n := 0) (Nat.le_of_ble_eq_true rfl) (Nat.le_of_ble_eq_true rfl) ?_
              refine W.eq (g2 := F0 m 63 ls [.int q_50]) rfl ?_
              obtain ⟨rfm2_48, hq51_1, hq51_2⟩ := hq51
              refine lv_istore (lv' := [(4, .int q_50), (0, .ref o), (1, .int w), (2, .int x_7), (3, .int x_8)]) hx hb dX12_last_63 hl (by decide) rfl (fun ls hl => ?_)
              refine ziinc3 (n' := 1) (a' := 1) (b' := 101) (lv' := fun v9 => [(3, .int v9), (4, .int q_50), (0, .ref o), (1, .int w), (2, .int x_7)]) hx hb dX12_last_65 hl (k := 4) rfl (by decide) (fun _ => rfl) (zaddK (i := x_8.toInt) (j := 1) rfl (by decide) i20.1 n30 (Int.le_refl _) (Int.le_refl _) (by decide)) (fun x_52 ls hx_52 hl => ?_)
              refine lv_goto (tgt := 34) hx hb dX12_last_68 (by decide) ?_
              have hl := lv_sub (l' := [(0, .ref o), (1, .int w), (2, .int x_7), (3, .int x_52), (4, .int q_50)]) hl [2, 3, 4, 0, 1] rfl
              have hP : va_P g.1 vwCl (List.flatten [bMo g o a 0 hi ac tp ba2_40 en2_41 at2_42 fl de2_43 iD2_44 iO2_45 tU2_46 fm2_48 fk fa2_5 fc ft ff2_47 fb2_49 fi]) H := hP
              have hD : va_D A (List.flatten [bMo g o a 0 hi ac tp ba2_40 en2_41 at2_42 fl de2_43 iD2_44 iO2_45 tU2_46 fm2_48 fk fa2_5 fc ft ff2_47 fb2_49 fi]) := hD
              exact ih34_24 x_7 x_52 ba2_40 en2_41 at2_42 de2_43 iD2_44 iO2_45 tU2_46 fm2_48 ff2_47 fb2_49 ⟨i19.1, (Int.le_trans n36 (by decide))⟩ ⟨(Int.le_trans (by decide) hx_52.2.1), hx_52.2.2⟩ ⟨hq51_2.1, hq51_2.2⟩ ⟨hq51_1.1, hq51_1.2⟩ rfm2_48 H _ ls (zmK hx_52.1 (by decide) n30 (by decide) hk34_24)  hP hD hS (lv_sub hl [0, 1, 2, 3] rfl)
            · skip
              have c53 : q_37.toInt = 2 := zeq cb9 rfl (by decide)
              have n54 : 2 ≤ q_37.toInt := Int.le_trans (Int.le_refl _) (Int.le_of_eq c53.symm)
              have n55 : q_37.toInt ≤ 2 := Int.le_trans (Int.le_of_eq c53) (Int.le_refl _)
              refine lv_iload_n hx hb dX12_last_55 rfl (lv_at hl 3 rfl) ?_
              refine lv_istore_n (lv' := [(2, .int x_8), (0, .ref o), (1, .int w), (3, .int x_8)]) hx hb dX12_last_56 rfl hl (by decide) rfl (fun ls hl => ?_)
              refine lv_aload_n hx hb dX12_last_57 rfl (lv_at hl 1 rfl) ?_
              refine lv_iconst (v := 1) hx hb dX12_last_58 (by decide) ?_
              refine lv_iconst (v := 0) hx hb dX12_last_59 (by decide) ?_
              have hL1 : (1 : Int32).toInt = 1 := by decide
              refine mcallV' (g := g) (q0 := 0) (ci := 10) (As := [.int 1, .int 0]) (rest := []) St hK hT hA hP hD hS hl.1 [0] [] rfl rfl rfl (m_goes l g o a 0 hi ac tp x_9 x_10 x_11 fl x_12 x_13 x_14 x_15 fm_16 fk fa2_5 fc ft ff_17 fb_18 fi 1 0 rfm_16 i21 i22 (by decide)) (cwV 2 hts (zgL (zl4 k1056 k1057 k1058 k837) k1027) rfl rfl rfl (by decide +kernel) ⟨Nat.le_of_ble_eq_true rfl, Nat.le_of_ble_eq_true rfl⟩) rfl rfl rfl rfl (Nat.le_of_ble_eq_true rfl) dX12_last_60 ⟨(Nat.le_of_ble_eq_true rfl), (Nat.le_of_ble_eq_true rfl)⟩ (fun u_ H locs hq67 hP hD hS => ?_)
              obtain ⟨ba2_56, en2_57, at2_58, de2_59, iD2_60, iO2_61, tU2_62, ff2_63, fm2_64, fb2_65, q_66⟩ := u_
              replace hq67 : (rM fm2_64) ∧ (0 ≤ iO2_61.toInt ∧ iO2_61.toInt ≤ 1) ∧ (0 ≤ iD2_60.toInt ∧ iD2_60.toInt ≤ 1) := hq67
              have hP : va_P g.1 vwCl (List.flatten [bMo g o a 0 hi ac tp ba2_56 en2_57 at2_58 fl de2_59 iD2_60 iO2_61 tU2_62 fm2_64 fk fa2_5 fc ft ff2_63 fb2_65 fi]) H := hP
              have hD : va_D A (List.flatten [bMo g o a 0 hi ac tp ba2_56 en2_57 at2_58 fl de2_59 iD2_60 iO2_61 tU2_62 fm2_64 fk fa2_5 fc ft ff2_63 fb2_65 fi]) := hD
              refine W.widen (k := 0) (n := 0) (Nat.le_of_ble_eq_true rfl) (Nat.le_of_ble_eq_true rfl) ?_
              refine W.eq (g2 := F0 m 63 ls [.int q_66]) rfl ?_
              obtain ⟨rfm2_64, hq67_1, hq67_2⟩ := hq67
              refine lv_istore (lv' := [(4, .int q_66), (2, .int x_8), (0, .ref o), (1, .int w), (3, .int x_8)]) hx hb dX12_last_63 hl (by decide) rfl (fun ls hl => ?_)
              refine ziinc3 (n' := 1) (a' := 1) (b' := 101) (lv' := fun v9 => [(3, .int v9), (4, .int q_66), (2, .int x_8), (0, .ref o), (1, .int w)]) hx hb dX12_last_65 hl (k := 4) rfl (by decide) (fun _ => rfl) (zaddK (i := x_8.toInt) (j := 1) rfl (by decide) i20.1 n30 (Int.le_refl _) (Int.le_refl _) (by decide)) (fun x_68 ls hx_68 hl => ?_)
              refine lv_goto (tgt := 34) hx hb dX12_last_68 (by decide) ?_
              have hl := lv_sub (l' := [(0, .ref o), (1, .int w), (2, .int x_8), (3, .int x_68), (4, .int q_66)]) hl [3, 4, 2, 0, 1] rfl
              have hP : va_P g.1 vwCl (List.flatten [bMo g o a 0 hi ac tp ba2_56 en2_57 at2_58 fl de2_59 iD2_60 iO2_61 tU2_62 fm2_64 fk fa2_5 fc ft ff2_63 fb2_65 fi]) H := hP
              have hD : va_D A (List.flatten [bMo g o a 0 hi ac tp ba2_56 en2_57 at2_58 fl de2_59 iD2_60 iO2_61 tU2_62 fm2_64 fk fa2_5 fc ft ff2_63 fb2_65 fi]) := hD
              exact ih34_24 x_8 x_68 ba2_56 en2_57 at2_58 de2_59 iD2_60 iO2_61 tU2_62 fm2_64 ff2_63 fb2_65 ⟨(Int.le_trans (by decide) i20.1), n30⟩ ⟨(Int.le_trans (by decide) hx_68.2.1), hx_68.2.2⟩ ⟨hq67_2.1, hq67_2.2⟩ ⟨hq67_1.1, hq67_1.2⟩ rfm2_64 H _ ls (zmK hx_68.1 (by decide) n30 (by decide) hk34_24)  hP hD hS (lv_sub hl [0, 1, 2, 3] rfl)
    have hP : va_P g.1 vwCl (List.flatten [bMo g o a 0 hi ac tp ba en tA fl de iD iO tU fm fk fa2_5 fc ft ff fb fi]) H := hP
    have hD : va_D A (List.flatten [bMo g o a 0 hi ac tp ba en tA fl de iD iO tU fm fk fa2_5 fc ft ff fb fi]) := hD
    exact LP34_23 _ (-1) 0 ba en tA de iD iO tU fm ff fb (by decide) (by decide) ⟨hiD.1, hiD.2⟩ ⟨hiO.1, hiO.2⟩ rfm H _ ls (Nat.lt_succ_self _)  hP hD hS (lv_sub hl [0, 1, 2, 3] rfl)
  · skip
    refine lv_if_ne (tgt := 13) hx hb dX12_last_6 (by decide) (fun c69 => absurd (by decide) c69) (fun _ => ?_)
    refine lv_iconst (v := 1) hx hb dX12_last_9 (by decide) ?_
    refine lv_goto (tgt := 14) hx hb dX12_last_10 (by decide) ?_
    refine va_put (D := g.1) (ci := 10) (v := .int 1) (ty := .int) (C := RX12) (T := TX12) (N := 20) hx hb hts izRX12 tyX12 tyX12_ok nmX12 hown hK hP hD hS 0 rfl rfl 0 (by decide) (hts _ k871) (fun _ h9 => h9) rfl (by decide +kernel) rfl rfl (Nat.le_of_ble_eq_true rfl) dX12_last_14 (fun H locs hP hD hS => ?_)
    have hP : va_P g.1 vwCl (List.flatten [bMo g o a 1 hi ac tp ba en tA fl de iD iO tU fm fk fa fc ft ff fb fi]) H := hP
    have hD : va_D A (List.flatten [bMo g o a 1 hi ac tp ba en tA fl de iD iO tU fm fk fa fc ft ff fb fi]) := hD
    refine lv_aload_n hx hb dX12_last_17 rfl (lv_at hl 0 rfl) ?_
    refine va_get (D := g.1) (ci := 10) (v := .int 1) (C := RX12) (T := TX12) (N := 20) hx hb hts izRX12 hown hK hP 0 rfl rfl 0 (by decide) (hts _ k871) (fun _ h9 => h9) rfl dX12_last_18 ?_
    refine lv_if_le (tgt := 26) hx hb dX12_last_21 (by decide) (fun c70 => absurd c70 (by decide)) (fun _ => ?_)
    refine lv_iconst (v := 0) hx hb dX12_last_24 (by decide) ?_
    have hP : va_P g.1 vwCl (List.flatten [bMo g o a 1 hi ac tp ba en tA fl de iD iO tU fm fk fa fc ft ff fb fi]) H := hP
    have hD : va_D A (List.flatten [bMo g o a 1 hi ac tp ba en tA fl de iD iO tU fm fk fa fc ft ff fb fi]) := hD
    exact mret_i hx hb hr hlocks hS (Nat.le_of_ble_eq_true rfl) (Nat.le_of_ble_eq_true rfl) dX12_last_25 ((1 : Int32), ba, en, tA, de, iD, iO, tU, ff, fm, fb, fa, (0 : Int32)) rfl (show (rM fa) ∧ (rM fm) ∧ (0 ≤ iO.toInt ∧ iO.toInt ≤ 1) ∧ (0 ≤ iD.toInt ∧ iD.toInt ≤ 1) from ⟨rfa, rfm, hiO, hiD⟩) hP hD
set_option maxRecDepth 100000 in
set_option maxHeartbeats 4000000 in
theorem m_trial (l : Launch) (g : zG) (o : Nat) (a : Nat → Nat) (th : Int32) (hi : Int32) (ac : Int32) (tp : Int32) (ba : Int32) (en : Int32) (tA : Int32) (fl : Int32) (de : Int32) (iD : Int32) (iO : Int32) (tU : Int32) (fm : Nat → Int32) (fk : Nat → Int32) (fa : Nat → Int32) (fc : Nat → Int32) (ft : Nat → Int32) (ff : Nat → Int32) (fb : Nat → Int32) (fi : Nat → Int32) (n : Int32) (ch : Int32) (rfm : rM fm) (rfa : rM fa) (hiD : 0 ≤ iD.toInt ∧ iD.toInt ≤ 1) (hiO : 0 ≤ iO.toInt ∧ iO.toInt ≤ 1) : zM' g l yX12_trial (Cond.code yX12_trial cX12_trial 5 (some .int) :: zB) ({ frames := 33, cells := 0, slots := 0, locals := 736 } : Room) [.ref o, .int n, .int ch] [bMo g o a th hi ac tp ba en tA fl de iD iO tU fm fk fa fc ft ff fb fi] (fun u : Int32 × Int32 × Int32 × Int32 × Int32 × Int32 × Int32 × Int32 × (Nat → Int32) × (Nat → Int32) × (Nat → Int32) × (Nat → Int32) × Int32 => (fun (th2 : Int32) (ba2 : Int32) (en2 : Int32) (at2 : Int32) (de2 : Int32) (iD2 : Int32) (iO2 : Int32) (tU2 : Int32) (ff2 : Nat → Int32) (fm2 : Nat → Int32) (fb2 : Nat → Int32) (fa2 : Nat → Int32) (q : Int32) => some (.int q)) (u.1) (u.2.1) (u.2.2.1) (u.2.2.2.1) (u.2.2.2.2.1) (u.2.2.2.2.2.1) (u.2.2.2.2.2.2.1) (u.2.2.2.2.2.2.2.1) (u.2.2.2.2.2.2.2.2.1) (u.2.2.2.2.2.2.2.2.2.1) (u.2.2.2.2.2.2.2.2.2.2.1) (u.2.2.2.2.2.2.2.2.2.2.2.1) (u.2.2.2.2.2.2.2.2.2.2.2.2)) (fun u : Int32 × Int32 × Int32 × Int32 × Int32 × Int32 × Int32 × Int32 × (Nat → Int32) × (Nat → Int32) × (Nat → Int32) × (Nat → Int32) × Int32 => (fun (th2 : Int32) (ba2 : Int32) (en2 : Int32) (at2 : Int32) (de2 : Int32) (iD2 : Int32) (iO2 : Int32) (tU2 : Int32) (ff2 : Nat → Int32) (fm2 : Nat → Int32) (fb2 : Nat → Int32) (fa2 : Nat → Int32) (q : Int32) => (rM fa2) ∧ (rM fm2) ∧ (0 ≤ iO2.toInt ∧ iO2.toInt ≤ 1) ∧ (0 ≤ iD2.toInt ∧ iD2.toInt ≤ 1)) (u.1) (u.2.1) (u.2.2.1) (u.2.2.2.1) (u.2.2.2.2.1) (u.2.2.2.2.2.1) (u.2.2.2.2.2.2.1) (u.2.2.2.2.2.2.2.1) (u.2.2.2.2.2.2.2.2.1) (u.2.2.2.2.2.2.2.2.2.1) (u.2.2.2.2.2.2.2.2.2.2.1) (u.2.2.2.2.2.2.2.2.2.2.2.1) (u.2.2.2.2.2.2.2.2.2.2.2.2)) (fun u : Int32 × Int32 × Int32 × Int32 × Int32 × Int32 × Int32 × Int32 × (Nat → Int32) × (Nat → Int32) × (Nat → Int32) × (Nat → Int32) × Int32 => (fun (th2 : Int32) (ba2 : Int32) (en2 : Int32) (at2 : Int32) (de2 : Int32) (iD2 : Int32) (iO2 : Int32) (tU2 : Int32) (ff2 : Nat → Int32) (fm2 : Nat → Int32) (fb2 : Nat → Int32) (fa2 : Nat → Int32) (q : Int32) => [bMo g o a th2 hi ac tp ba2 en2 at2 fl de2 iD2 iO2 tU2 fm2 fk fa2 fc ft ff2 fb2 fi]) (u.1) (u.2.1) (u.2.2.1) (u.2.2.2.1) (u.2.2.2.2.1) (u.2.2.2.2.2.1) (u.2.2.2.2.2.2.1) (u.2.2.2.2.2.2.2.1) (u.2.2.2.2.2.2.2.2.1) (u.2.2.2.2.2.2.2.2.2.1) (u.2.2.2.2.2.2.2.2.2.2.1) (u.2.2.2.2.2.2.2.2.2.2.2.1) (u.2.2.2.2.2.2.2.2.2.2.2.2)) := by
  refine zM'.of (cc := cX12_trial) (maxL := 5) (rt := (some .int)) (by decide) rfl (Nat.le_of_ble_eq_true rfl) ?_
  intro p e s m args below meth c A ls St hr hlocks hin hK hT hA hP hD hS hl
  obtain ⟨hx, hb, hml, hown, hts⟩ := id St
  have hl : lv_has ls 5 [(0, .ref o), (1, .int n), (2, .int ch)] := hl
  refine lv_aload_n hx hb dX12_trial_0 rfl (lv_at hl 0 rfl) ?_
  refine lv_iload_n hx hb dX12_trial_1 rfl (lv_at hl 1 rfl) ?_
  refine lv_iconst (v := 0) hx hb dX12_trial_2 (by decide) ?_
  refine lv_bipush (v := 60) hx hb dX12_trial_3 (by decide) ?_
  have hL0 : (0 : Int32).toInt = 0 := by decide
  have hL60 : (60 : Int32).toInt = 60 := by decide
  refine mcallS' (g := g) (As := [.int n, .int 0, .int 60]) (rest := [.ref o]) St hK hT hA hP hD hS hl.1 [] [0] rfl rfl rfl (m_isIn l g n 0 60 ) (va_cwS 3 hts (zgL (zl3 k835 k836 k837) k824) rfl rfl rfl (by decide +kernel) ⟨Nat.le_of_ble_eq_true rfl, Nat.le_of_ble_eq_true rfl⟩) rfl rfl (Nat.le_of_ble_eq_true rfl) dX12_trial_5 ⟨(Nat.le_of_ble_eq_true rfl), (Nat.le_of_ble_eq_true rfl)⟩ (fun q_1 H locs hq2 hP hD hS => ?_)
  replace hq2 : (q_1 = 1 ∧ (0 : Int32).toInt ≤ n.toInt ∧ n.toInt ≤ (60 : Int32).toInt ∨ q_1 = 0 ∧ (n.toInt < (0 : Int32).toInt ∨ (60 : Int32).toInt < n.toInt)) := hq2
  have hP : va_P g.1 vwCl (List.flatten [bMo g o a th hi ac tp ba en tA fl de iD iO tU fm fk fa fc ft ff fb fi]) H := hP
  have hD : va_D A (List.flatten [bMo g o a th hi ac tp ba en tA fl de iD iO tU fm fk fa fc ft ff fb fi]) := hD
  refine W.widen (k := 0) (n := 0) (Nat.le_of_ble_eq_true rfl) (Nat.le_of_ble_eq_true rfl) ?_
  refine W.eq (g2 := F0 m 8 ls [.int q_1, .ref o]) rfl ?_
  rcases hq2 with ⟨rfl, hq2_k⟩ | ⟨rfl, hq2_k⟩
  · skip
    refine lv_if_ne (tgt := 15) hx hb dX12_trial_8 (by decide) (fun _ => ?_) (fun c3 => absurd c3 (by decide))
    refine lv_iconst (v := 0) hx hb dX12_trial_15 (by decide) ?_
    refine va_put (D := g.1) (ci := 10) (v := .int 0) (ty := .int) (C := RX12) (T := TX12) (N := 20) hx hb hts izRX12 tyX12 tyX12_ok nmX12 hown hK hP hD hS 0 rfl rfl 0 (by decide) (hts _ k871) (fun _ h9 => h9) rfl (by decide +kernel) rfl rfl (Nat.le_of_ble_eq_true rfl) dX12_trial_16 (fun H locs hP hD hS => ?_)
    have hP : va_P g.1 vwCl (List.flatten [bMo g o a 0 hi ac tp ba en tA fl de iD iO tU fm fk fa fc ft ff fb fi]) H := hP
    have hD : va_D A (List.flatten [bMo g o a 0 hi ac tp ba en tA fl de iD iO tU fm fk fa fc ft ff fb fi]) := hD
    refine lv_aload_n hx hb dX12_trial_19 rfl (lv_at hl 0 rfl) ?_
    refine va_get (D := g.1) (ci := 10) (v := .int 0) (C := RX12) (T := TX12) (N := 20) hx hb hts izRX12 hown hK hP 0 rfl rfl 0 (by decide) (hts _ k871) (fun _ h9 => h9) rfl dX12_trial_20 ?_
    refine lv_if_le (tgt := 28) hx hb dX12_trial_23 (by decide) (fun _ => ?_) (fun c4 => absurd (by decide) c4)
    refine lv_aload_n hx hb dX12_trial_28 rfl (lv_at hl 0 rfl) ?_
    refine mcallV' (g := g) (q0 := 0) (ci := 10) (As := []) (rest := []) St hK hT hA hP hD hS hl.1 [0] [] rfl rfl rfl (m_putsAside l g o a 0 hi ac tp ba en tA fl de iD iO tU fm fk fa fc ft ff fb fi rfm rfa) (cwV 0 hts (zgL (zl4 k974 k975 k976 k837) k971) rfl rfl rfl (by decide +kernel) ⟨Nat.le_of_ble_eq_true rfl, Nat.le_of_ble_eq_true rfl⟩) rfl rfl rfl rfl (Nat.le_of_ble_eq_true rfl) dX12_trial_29 ⟨(Nat.le_of_ble_eq_true rfl), (Nat.le_of_ble_eq_true rfl)⟩ (fun fa2_5 H locs hq6 hP hD hS => ?_)
    replace hq6 : (rM fa2_5) := hq6
    have hP : va_P g.1 vwCl (List.flatten [bMo g o a 0 hi ac tp ba en tA fl de iD iO tU fm fk fa2_5 fc ft ff fb fi]) H := hP
    have hD : va_D A (List.flatten [bMo g o a 0 hi ac tp ba en tA fl de iD iO tU fm fk fa2_5 fc ft ff fb fi]) := hD
    refine W.widen (k := 0) (n := 0) (Nat.le_of_ble_eq_true rfl) (Nat.le_of_ble_eq_true rfl) ?_
    refine W.eq (g2 := F0 m 32 ls []) rfl ?_
    have rfa2_5 := hq6; clear hq6
    refine lv_aload_n hx hb dX12_trial_32 rfl (lv_at hl 0 rfl) ?_
    refine lv_iload_n hx hb dX12_trial_33 rfl (lv_at hl 1 rfl) ?_
    refine lv_iconst (v := 1) hx hb dX12_trial_34 (by decide) ?_
    refine mcallV' (g := g) (q0 := 0) (ci := 10) (As := [.int n, .int 1]) (rest := []) St hK hT hA hP hD hS hl.1 [0] [] rfl rfl rfl (m_goes l g o a 0 hi ac tp ba en tA fl de iD iO tU fm fk fa2_5 fc ft ff fb fi n 1 rfm hiD hiO (by first | assumption | omega | decide | exact Or.inl (by decide) | exact Or.inr (by decide))) (cwV 2 hts (zgL (zl4 k1056 k1057 k1058 k837) k1027) rfl rfl rfl (by decide +kernel) ⟨Nat.le_of_ble_eq_true rfl, Nat.le_of_ble_eq_true rfl⟩) rfl rfl rfl rfl (Nat.le_of_ble_eq_true rfl) dX12_trial_35 ⟨(Nat.le_of_ble_eq_true rfl), (Nat.le_of_ble_eq_true rfl)⟩ (fun u_ H locs hq18 hP hD hS => ?_)
    obtain ⟨ba2_7, en2_8, at2_9, de2_10, iD2_11, iO2_12, tU2_13, ff2_14, fm2_15, fb2_16, q_17⟩ := u_
    replace hq18 : (rM fm2_15) ∧ (0 ≤ iO2_12.toInt ∧ iO2_12.toInt ≤ 1) ∧ (0 ≤ iD2_11.toInt ∧ iD2_11.toInt ≤ 1) := hq18
    have hP : va_P g.1 vwCl (List.flatten [bMo g o a 0 hi ac tp ba2_7 en2_8 at2_9 fl de2_10 iD2_11 iO2_12 tU2_13 fm2_15 fk fa2_5 fc ft ff2_14 fb2_16 fi]) H := hP
    have hD : va_D A (List.flatten [bMo g o a 0 hi ac tp ba2_7 en2_8 at2_9 fl de2_10 iD2_11 iO2_12 tU2_13 fm2_15 fk fa2_5 fc ft ff2_14 fb2_16 fi]) := hD
    refine W.widen (k := 0) (n := 0) (Nat.le_of_ble_eq_true rfl) (Nat.le_of_ble_eq_true rfl) ?_
    refine W.eq (g2 := F0 m 38 ls [.int q_17]) rfl ?_
    obtain ⟨rfm2_15, hq18_1, hq18_2⟩ := hq18
    refine lv_istore_n (lv' := [(3, .int q_17), (0, .ref o), (1, .int n), (2, .int ch)]) hx hb dX12_trial_38 rfl hl (by decide) rfl (fun ls hl => ?_)
    refine lv_iload_n hx hb dX12_trial_39 rfl (lv_at hl 3 rfl) ?_
    refine lv_if_eq (tgt := 52) hx hb dX12_trial_40 (by decide) (fun cb9 => ?_) (fun cb9 => ?_)
    · skip
      have c19 : ch.toInt = 0 := zeq cb9 rfl (by decide)
      have n20 : 0 ≤ ch.toInt := Int.le_trans (Int.le_refl _) (Int.le_of_eq c19.symm)
      have n21 : ch.toInt ≤ 0 := Int.le_trans (Int.le_of_eq c19) (Int.le_refl _)
      refine lv_aload_n hx hb dX12_trial_52 rfl (lv_at hl 1 rfl) ?_
      refine mcallV' (g := g) (q0 := 0) (ci := 10) (As := []) (rest := []) St hK hT hA hP hD hS hl.1 [0] [] rfl rfl rfl (m_believed l g o a 0 hi ac tp ba2_7 en2_8 at2_9 fl de2_10 iD2_11 iO2_12 tU2_13 fm2_15 fk fa2_5 fc ft ff2_14 fb2_16 fi rfm2_15) (cwV 0 hts (zgL (zl4 k854 k855 k856 k837) k847) rfl rfl rfl (by decide +kernel) ⟨Nat.le_of_ble_eq_true rfl, Nat.le_of_ble_eq_true rfl⟩) rfl rfl rfl rfl (Nat.le_of_ble_eq_true rfl) dX12_trial_53 ⟨(Nat.le_of_ble_eq_true rfl), (Nat.le_of_ble_eq_true rfl)⟩ (fun q_22 H locs hq23 hP hD hS => ?_)
      have hP : va_P g.1 vwCl (List.flatten [bMo g o a 0 hi ac tp ba2_7 en2_8 at2_9 fl de2_10 iD2_11 iO2_12 tU2_13 fm2_15 fk fa2_5 fc ft ff2_14 fb2_16 fi]) H := hP
      have hD : va_D A (List.flatten [bMo g o a 0 hi ac tp ba2_7 en2_8 at2_9 fl de2_10 iD2_11 iO2_12 tU2_13 fm2_15 fk fa2_5 fc ft ff2_14 fb2_16 fi]) := hD
      refine W.widen (k := 0) (n := 0) (Nat.le_of_ble_eq_true rfl) (Nat.le_of_ble_eq_true rfl) ?_
      refine W.eq (g2 := F0 m 56 ls [.int q_22]) rfl ?_
      refine lv_istore (lv' := [(4, .int q_22), (3, .int q_17), (0, .ref o), (1, .int n), (2, .int ch)]) hx hb dX12_trial_56 hl (by decide) rfl (fun ls hl => ?_)
      refine lv_aload_n hx hb dX12_trial_58 rfl (lv_at hl 2 rfl) ?_
      refine mcallV' (g := g) (q0 := 0) (ci := 10) (As := []) (rest := []) St hK hT hA hP hD hS hl.1 [0] [] rfl rfl rfl (m_comesBack l g o a 0 hi ac tp ba2_7 en2_8 at2_9 fl de2_10 iD2_11 iO2_12 tU2_13 fm2_15 fk fa2_5 fc ft ff2_14 fb2_16 fi rfm2_15 rfa2_5) (cwV 0 hts (zgL (zl4 k983 k984 k985 k837) k972) rfl rfl rfl (by decide +kernel) ⟨Nat.le_of_ble_eq_true rfl, Nat.le_of_ble_eq_true rfl⟩) rfl rfl rfl rfl (Nat.le_of_ble_eq_true rfl) dX12_trial_59 ⟨(Nat.le_of_ble_eq_true rfl), (Nat.le_of_ble_eq_true rfl)⟩ (fun fm2_24 H locs hq25 hP hD hS => ?_)
      replace hq25 : (rM fm2_24) := hq25
      have hP : va_P g.1 vwCl (List.flatten [bMo g o a 0 hi ac tp ba2_7 en2_8 at2_9 fl de2_10 iD2_11 iO2_12 tU2_13 fm2_24 fk fa2_5 fc ft ff2_14 fb2_16 fi]) H := hP
      have hD : va_D A (List.flatten [bMo g o a 0 hi ac tp ba2_7 en2_8 at2_9 fl de2_10 iD2_11 iO2_12 tU2_13 fm2_24 fk fa2_5 fc ft ff2_14 fb2_16 fi]) := hD
      refine W.widen (k := 0) (n := 0) (Nat.le_of_ble_eq_true rfl) (Nat.le_of_ble_eq_true rfl) ?_
      refine W.eq (g2 := F0 m 62 ls []) rfl ?_
      have rfm2_24 := hq25; clear hq25
      refine lv_iload hx hb dX12_trial_62 (lv_at hl 0 rfl) ?_
      have hP : va_P g.1 vwCl (List.flatten [bMo g o a 0 hi ac tp ba2_7 en2_8 at2_9 fl de2_10 iD2_11 iO2_12 tU2_13 fm2_24 fk fa2_5 fc ft ff2_14 fb2_16 fi]) H := hP
      have hD : va_D A (List.flatten [bMo g o a 0 hi ac tp ba2_7 en2_8 at2_9 fl de2_10 iD2_11 iO2_12 tU2_13 fm2_24 fk fa2_5 fc ft ff2_14 fb2_16 fi]) := hD
      exact mret_i hx hb hr hlocks hS (Nat.le_of_ble_eq_true rfl) (Nat.le_of_ble_eq_true rfl) dX12_trial_64 ((0 : Int32), ba2_7, en2_8, at2_9, de2_10, iD2_11, iO2_12, tU2_13, ff2_14, fm2_24, fb2_16, fa2_5, q_22) rfl (show (rM fa2_5) ∧ (rM fm2_24) ∧ (0 ≤ iO2_12.toInt ∧ iO2_12.toInt ≤ 1) ∧ (0 ≤ iD2_11.toInt ∧ iD2_11.toInt ≤ 1) from ⟨rfa2_5, rfm2_24, hq18_1, hq18_2⟩) hP hD
    · skip
      have c26 : ¬ ch.toInt = 0 := zne cb9 rfl (by decide)
      refine lv_aload_n hx hb dX12_trial_43 rfl (lv_at hl 1 rfl) ?_
      refine va_get (D := g.1) (ci := 10) (v := .ref (a 0)) (C := RX12) (T := TX12) (N := 20) hx hb hts izRX12 hown hK hP 0 rfl rfl 1 (by decide) (hts _ k815) (fun _ h9 => h9) rfl dX12_trial_44 ?_
      refine lv_iconst (v := 5) hx hb dX12_trial_47 (by decide) ?_
      refine va_iald hx hb hK hP 1 0 rfl rfl (zin rfl) dX12_trial_48 ?_
      refine zg (fun x_27 => ?_)
      refine lv_goto (tgt := 56) hx hb dX12_trial_49 (by decide) ?_
      refine lv_istore (lv' := [(4, .int x_27), (3, .int q_17), (0, .ref o), (1, .int n), (2, .int ch)]) hx hb dX12_trial_56 hl (by decide) rfl (fun ls hl => ?_)
      refine lv_aload_n hx hb dX12_trial_58 rfl (lv_at hl 2 rfl) ?_
      refine mcallV' (g := g) (q0 := 0) (ci := 10) (As := []) (rest := []) St hK hT hA hP hD hS hl.1 [0] [] rfl rfl rfl (m_comesBack l g o a 0 hi ac tp ba2_7 en2_8 at2_9 fl de2_10 iD2_11 iO2_12 tU2_13 fm2_15 fk fa2_5 fc ft ff2_14 fb2_16 fi rfm2_15 rfa2_5) (cwV 0 hts (zgL (zl4 k983 k984 k985 k837) k972) rfl rfl rfl (by decide +kernel) ⟨Nat.le_of_ble_eq_true rfl, Nat.le_of_ble_eq_true rfl⟩) rfl rfl rfl rfl (Nat.le_of_ble_eq_true rfl) dX12_trial_59 ⟨(Nat.le_of_ble_eq_true rfl), (Nat.le_of_ble_eq_true rfl)⟩ (fun fm2_28 H locs hq29 hP hD hS => ?_)
      replace hq29 : (rM fm2_28) := hq29
      have hP : va_P g.1 vwCl (List.flatten [bMo g o a 0 hi ac tp ba2_7 en2_8 at2_9 fl de2_10 iD2_11 iO2_12 tU2_13 fm2_28 fk fa2_5 fc ft ff2_14 fb2_16 fi]) H := hP
      have hD : va_D A (List.flatten [bMo g o a 0 hi ac tp ba2_7 en2_8 at2_9 fl de2_10 iD2_11 iO2_12 tU2_13 fm2_28 fk fa2_5 fc ft ff2_14 fb2_16 fi]) := hD
      refine W.widen (k := 0) (n := 0) (Nat.le_of_ble_eq_true rfl) (Nat.le_of_ble_eq_true rfl) ?_
      refine W.eq (g2 := F0 m 62 ls []) rfl ?_
      have rfm2_28 := hq29; clear hq29
      refine lv_iload hx hb dX12_trial_62 (lv_at hl 0 rfl) ?_
      have hP : va_P g.1 vwCl (List.flatten [bMo g o a 0 hi ac tp ba2_7 en2_8 at2_9 fl de2_10 iD2_11 iO2_12 tU2_13 fm2_28 fk fa2_5 fc ft ff2_14 fb2_16 fi]) H := hP
      have hD : va_D A (List.flatten [bMo g o a 0 hi ac tp ba2_7 en2_8 at2_9 fl de2_10 iD2_11 iO2_12 tU2_13 fm2_28 fk fa2_5 fc ft ff2_14 fb2_16 fi]) := hD
      exact mret_i hx hb hr hlocks hS (Nat.le_of_ble_eq_true rfl) (Nat.le_of_ble_eq_true rfl) dX12_trial_64 ((0 : Int32), ba2_7, en2_8, at2_9, de2_10, iD2_11, iO2_12, tU2_13, ff2_14, fm2_28, fb2_16, fa2_5, x_27) rfl (show (rM fa2_5) ∧ (rM fm2_28) ∧ (0 ≤ iO2_12.toInt ∧ iO2_12.toInt ≤ 1) ∧ (0 ≤ iD2_11.toInt ∧ iD2_11.toInt ≤ 1) from ⟨rfa2_5, rfm2_28, hq18_1, hq18_2⟩) hP hD
  · skip
    refine lv_if_ne (tgt := 15) hx hb dX12_trial_8 (by decide) (fun c30 => absurd (by decide) c30) (fun _ => ?_)
    refine lv_iconst (v := 1) hx hb dX12_trial_11 (by decide) ?_
    refine lv_goto (tgt := 16) hx hb dX12_trial_12 (by decide) ?_
    refine va_put (D := g.1) (ci := 10) (v := .int 1) (ty := .int) (C := RX12) (T := TX12) (N := 20) hx hb hts izRX12 tyX12 tyX12_ok nmX12 hown hK hP hD hS 0 rfl rfl 0 (by decide) (hts _ k871) (fun _ h9 => h9) rfl (by decide +kernel) rfl rfl (Nat.le_of_ble_eq_true rfl) dX12_trial_16 (fun H locs hP hD hS => ?_)
    have hP : va_P g.1 vwCl (List.flatten [bMo g o a 1 hi ac tp ba en tA fl de iD iO tU fm fk fa fc ft ff fb fi]) H := hP
    have hD : va_D A (List.flatten [bMo g o a 1 hi ac tp ba en tA fl de iD iO tU fm fk fa fc ft ff fb fi]) := hD
    refine lv_aload_n hx hb dX12_trial_19 rfl (lv_at hl 0 rfl) ?_
    refine va_get (D := g.1) (ci := 10) (v := .int 1) (C := RX12) (T := TX12) (N := 20) hx hb hts izRX12 hown hK hP 0 rfl rfl 0 (by decide) (hts _ k871) (fun _ h9 => h9) rfl dX12_trial_20 ?_
    refine lv_if_le (tgt := 28) hx hb dX12_trial_23 (by decide) (fun c31 => absurd c31 (by decide)) (fun _ => ?_)
    refine lv_iconst (v := 0) hx hb dX12_trial_26 (by decide) ?_
    have hP : va_P g.1 vwCl (List.flatten [bMo g o a 1 hi ac tp ba en tA fl de iD iO tU fm fk fa fc ft ff fb fi]) H := hP
    have hD : va_D A (List.flatten [bMo g o a 1 hi ac tp ba en tA fl de iD iO tU fm fk fa fc ft ff fb fi]) := hD
    exact mret_i hx hb hr hlocks hS (Nat.le_of_ble_eq_true rfl) (Nat.le_of_ble_eq_true rfl) dX12_trial_27 ((1 : Int32), ba, en, tA, de, iD, iO, tU, ff, fm, fb, fa, (0 : Int32)) rfl (show (rM fa) ∧ (rM fm) ∧ (0 ≤ iO.toInt ∧ iO.toInt ≤ 1) ∧ (0 ≤ iD.toInt ∧ iD.toInt ≤ 1) from ⟨rfa, rfm, hiO, hiD⟩) hP hD
set_option maxRecDepth 100000 in
set_option maxHeartbeats 4000000 in
theorem m_span (l : Launch) (g : zG) (o : Nat) (a : Nat → Nat) (th : Int32) (hi : Int32) (ac : Int32) (tp : Int32) (ba : Int32) (en : Int32) (tA : Int32) (fl : Int32) (de : Int32) (iD : Int32) (iO : Int32) (tU : Int32) (fm : Nat → Int32) (fk : Nat → Int32) (fa : Nat → Int32) (fc : Nat → Int32) (ft : Nat → Int32) (ff : Nat → Int32) (fb : Nat → Int32) (fi : Nat → Int32) (n : Int32) (most : Int32) (rfm : rM fm) (rfa : rM fa) (hiD : 0 ≤ iD.toInt ∧ iD.toInt ≤ 1) (hiO : 0 ≤ iO.toInt ∧ iO.toInt ≤ 1) : zM' g l yX12_span (Cond.code yX12_span cX12_span 7 (some .int) :: zB) ({ frames := 33, cells := 0, slots := 0, locals := 736 } : Room) [.ref o, .int n, .int most] [bMo g o a th hi ac tp ba en tA fl de iD iO tU fm fk fa fc ft ff fb fi] (fun u : Int32 × Int32 × Int32 × Int32 × Int32 × Int32 × Int32 × Int32 × (Nat → Int32) × (Nat → Int32) × (Nat → Int32) × (Nat → Int32) × Int32 => (fun (th2 : Int32) (ba2 : Int32) (en2 : Int32) (at2 : Int32) (de2 : Int32) (iD2 : Int32) (iO2 : Int32) (tU2 : Int32) (ff2 : Nat → Int32) (fm2 : Nat → Int32) (fb2 : Nat → Int32) (fa2 : Nat → Int32) (q : Int32) => some (.int q)) (u.1) (u.2.1) (u.2.2.1) (u.2.2.2.1) (u.2.2.2.2.1) (u.2.2.2.2.2.1) (u.2.2.2.2.2.2.1) (u.2.2.2.2.2.2.2.1) (u.2.2.2.2.2.2.2.2.1) (u.2.2.2.2.2.2.2.2.2.1) (u.2.2.2.2.2.2.2.2.2.2.1) (u.2.2.2.2.2.2.2.2.2.2.2.1) (u.2.2.2.2.2.2.2.2.2.2.2.2)) (fun u : Int32 × Int32 × Int32 × Int32 × Int32 × Int32 × Int32 × Int32 × (Nat → Int32) × (Nat → Int32) × (Nat → Int32) × (Nat → Int32) × Int32 => (fun (th2 : Int32) (ba2 : Int32) (en2 : Int32) (at2 : Int32) (de2 : Int32) (iD2 : Int32) (iO2 : Int32) (tU2 : Int32) (ff2 : Nat → Int32) (fm2 : Nat → Int32) (fb2 : Nat → Int32) (fa2 : Nat → Int32) (q : Int32) => (rM fa2) ∧ (rM fm2) ∧ (0 ≤ iO2.toInt ∧ iO2.toInt ≤ 1) ∧ (0 ≤ iD2.toInt ∧ iD2.toInt ≤ 1)) (u.1) (u.2.1) (u.2.2.1) (u.2.2.2.1) (u.2.2.2.2.1) (u.2.2.2.2.2.1) (u.2.2.2.2.2.2.1) (u.2.2.2.2.2.2.2.1) (u.2.2.2.2.2.2.2.2.1) (u.2.2.2.2.2.2.2.2.2.1) (u.2.2.2.2.2.2.2.2.2.2.1) (u.2.2.2.2.2.2.2.2.2.2.2.1) (u.2.2.2.2.2.2.2.2.2.2.2.2)) (fun u : Int32 × Int32 × Int32 × Int32 × Int32 × Int32 × Int32 × Int32 × (Nat → Int32) × (Nat → Int32) × (Nat → Int32) × (Nat → Int32) × Int32 => (fun (th2 : Int32) (ba2 : Int32) (en2 : Int32) (at2 : Int32) (de2 : Int32) (iD2 : Int32) (iO2 : Int32) (tU2 : Int32) (ff2 : Nat → Int32) (fm2 : Nat → Int32) (fb2 : Nat → Int32) (fa2 : Nat → Int32) (q : Int32) => [bMo g o a th2 hi ac tp ba2 en2 at2 fl de2 iD2 iO2 tU2 fm2 fk fa2 fc ft ff2 fb2 fi]) (u.1) (u.2.1) (u.2.2.1) (u.2.2.2.1) (u.2.2.2.2.1) (u.2.2.2.2.2.1) (u.2.2.2.2.2.2.1) (u.2.2.2.2.2.2.2.1) (u.2.2.2.2.2.2.2.2.1) (u.2.2.2.2.2.2.2.2.2.1) (u.2.2.2.2.2.2.2.2.2.2.1) (u.2.2.2.2.2.2.2.2.2.2.2.1) (u.2.2.2.2.2.2.2.2.2.2.2.2)) := by
  refine zM'.of (cc := cX12_span) (maxL := 7) (rt := (some .int)) (by decide) rfl (Nat.le_of_ble_eq_true rfl) ?_
  intro p e s m args below meth c A ls St hr hlocks hin hK hT hA hP hD hS hl
  obtain ⟨hx, hb, hml, hown, hts⟩ := id St
  have hl : lv_has ls 7 [(0, .ref o), (1, .int n), (2, .int most)] := hl
  refine lv_aload_n hx hb dX12_span_0 rfl (lv_at hl 0 rfl) ?_
  refine lv_iload_n hx hb dX12_span_1 rfl (lv_at hl 1 rfl) ?_
  refine lv_iconst (v := 0) hx hb dX12_span_2 (by decide) ?_
  refine lv_bipush (v := 60) hx hb dX12_span_3 (by decide) ?_
  have hL0 : (0 : Int32).toInt = 0 := by decide
  have hL60 : (60 : Int32).toInt = 60 := by decide
  refine mcallS' (g := g) (As := [.int n, .int 0, .int 60]) (rest := [.ref o]) St hK hT hA hP hD hS hl.1 [] [0] rfl rfl rfl (m_isIn l g n 0 60 ) (va_cwS 3 hts (zgL (zl3 k835 k836 k837) k824) rfl rfl rfl (by decide +kernel) ⟨Nat.le_of_ble_eq_true rfl, Nat.le_of_ble_eq_true rfl⟩) rfl rfl (Nat.le_of_ble_eq_true rfl) dX12_span_5 ⟨(Nat.le_of_ble_eq_true rfl), (Nat.le_of_ble_eq_true rfl)⟩ (fun q_1 H locs hq2 hP hD hS => ?_)
  replace hq2 : (q_1 = 1 ∧ (0 : Int32).toInt ≤ n.toInt ∧ n.toInt ≤ (60 : Int32).toInt ∨ q_1 = 0 ∧ (n.toInt < (0 : Int32).toInt ∨ (60 : Int32).toInt < n.toInt)) := hq2
  have hP : va_P g.1 vwCl (List.flatten [bMo g o a th hi ac tp ba en tA fl de iD iO tU fm fk fa fc ft ff fb fi]) H := hP
  have hD : va_D A (List.flatten [bMo g o a th hi ac tp ba en tA fl de iD iO tU fm fk fa fc ft ff fb fi]) := hD
  refine W.widen (k := 0) (n := 0) (Nat.le_of_ble_eq_true rfl) (Nat.le_of_ble_eq_true rfl) ?_
  refine W.eq (g2 := F0 m 8 ls [.int q_1, .ref o]) rfl ?_
  rcases hq2 with ⟨rfl, hq2_k⟩ | ⟨rfl, hq2_k⟩
  · skip
    refine lv_if_ne (tgt := 15) hx hb dX12_span_8 (by decide) (fun _ => ?_) (fun c3 => absurd c3 (by decide))
    refine lv_iconst (v := 0) hx hb dX12_span_15 (by decide) ?_
    refine va_put (D := g.1) (ci := 10) (v := .int 0) (ty := .int) (C := RX12) (T := TX12) (N := 20) hx hb hts izRX12 tyX12 tyX12_ok nmX12 hown hK hP hD hS 0 rfl rfl 0 (by decide) (hts _ k871) (fun _ h9 => h9) rfl (by decide +kernel) rfl rfl (Nat.le_of_ble_eq_true rfl) dX12_span_16 (fun H locs hP hD hS => ?_)
    have hP : va_P g.1 vwCl (List.flatten [bMo g o a 0 hi ac tp ba en tA fl de iD iO tU fm fk fa fc ft ff fb fi]) H := hP
    have hD : va_D A (List.flatten [bMo g o a 0 hi ac tp ba en tA fl de iD iO tU fm fk fa fc ft ff fb fi]) := hD
    refine lv_aload_n hx hb dX12_span_19 rfl (lv_at hl 0 rfl) ?_
    refine va_get (D := g.1) (ci := 10) (v := .int 0) (C := RX12) (T := TX12) (N := 20) hx hb hts izRX12 hown hK hP 0 rfl rfl 0 (by decide) (hts _ k871) (fun _ h9 => h9) rfl dX12_span_20 ?_
    refine lv_if_le (tgt := 28) hx hb dX12_span_23 (by decide) (fun _ => ?_) (fun c4 => absurd (by decide) c4)
    refine lv_aload_n hx hb dX12_span_28 rfl (lv_at hl 0 rfl) ?_
    refine mcallV' (g := g) (q0 := 0) (ci := 10) (As := []) (rest := []) St hK hT hA hP hD hS hl.1 [0] [] rfl rfl rfl (m_putsAside l g o a 0 hi ac tp ba en tA fl de iD iO tU fm fk fa fc ft ff fb fi rfm rfa) (cwV 0 hts (zgL (zl4 k974 k975 k976 k837) k971) rfl rfl rfl (by decide +kernel) ⟨Nat.le_of_ble_eq_true rfl, Nat.le_of_ble_eq_true rfl⟩) rfl rfl rfl rfl (Nat.le_of_ble_eq_true rfl) dX12_span_29 ⟨(Nat.le_of_ble_eq_true rfl), (Nat.le_of_ble_eq_true rfl)⟩ (fun fa2_5 H locs hq6 hP hD hS => ?_)
    replace hq6 : (rM fa2_5) := hq6
    have hP : va_P g.1 vwCl (List.flatten [bMo g o a 0 hi ac tp ba en tA fl de iD iO tU fm fk fa2_5 fc ft ff fb fi]) H := hP
    have hD : va_D A (List.flatten [bMo g o a 0 hi ac tp ba en tA fl de iD iO tU fm fk fa2_5 fc ft ff fb fi]) := hD
    refine W.widen (k := 0) (n := 0) (Nat.le_of_ble_eq_true rfl) (Nat.le_of_ble_eq_true rfl) ?_
    refine W.eq (g2 := F0 m 32 ls []) rfl ?_
    have rfa2_5 := hq6; clear hq6
    refine lv_iconst (v := (-1)) hx hb dX12_span_32 (by decide) ?_
    refine lv_istore_n (lv' := [(3, .int (-1)), (0, .ref o), (1, .int n), (2, .int most)]) hx hb dX12_span_33 rfl hl (by decide) rfl (fun ls hl => ?_)
    refine lv_iconst (v := 1) hx hb dX12_span_34 (by decide) ?_
    refine lv_istore (lv' := [(4, .int 1), (3, .int (-1)), (0, .ref o), (1, .int n), (2, .int most)]) hx hb dX12_span_35 hl (by decide) rfl (fun ls hl => ?_)
    have hl := lv_sub (l' := [(0, .ref o), (1, .int n), (2, .int most), (3, .int (-1)), (4, .int 1)]) hl [2, 3, 4, 1, 0] rfl
    have LP37_22 : ∀ (kf : Nat) (x_7 : Int32) (x_8 : Int32) (x_9 : Int32) (x_10 : Int32) (x_11 : Int32) (x_12 : Int32) (x_13 : Int32) (x_14 : Int32) (x_15 : Int32) (fm_16 : Nat → Int32) (ff_17 : Nat → Int32) (fb_18 : Nat → Int32), (1 ≤ x_8.toInt ∧ x_8.toInt ≤ 7) → (0 ≤ x_13.toInt ∧ x_13.toInt ≤ 1) → (0 ≤ x_14.toInt ∧ x_14.toInt ≤ 1) → (rM fm_16) → ∀ (H : Heap) (locs : List Loc) (ls : Array Slot), ((8 - x_8.toInt).toNat) < kf → va_P g.1 vwCl (List.flatten [bMo g o a 0 hi ac tp x_9 x_10 x_11 fl x_12 x_13 x_14 x_15 fm_16 fk fa2_5 fc ft ff_17 fb_18 fi]) H → va_D A (List.flatten [bMo g o a 0 hi ac tp x_9 x_10 x_11 fl x_12 x_13 x_14 x_15 fm_16 fk fa2_5 fc ft ff_17 fb_18 fi]) → va_S A s.heap H locs → lv_has ls 7 [(0, .ref o), (1, .int n), (2, .int most), (3, .int x_7), (4, .int x_8)] → W p l e ({ frames := 33, cells := 0, slots := 0, locals := 736 } : Room) s m args below meth c H locs (0) (0) (zF g (fun u : Int32 × Int32 × Int32 × Int32 × Int32 × Int32 × Int32 × Int32 × (Nat → Int32) × (Nat → Int32) × (Nat → Int32) × (Nat → Int32) × Int32 => (fun (th2 : Int32) (ba2 : Int32) (en2 : Int32) (at2 : Int32) (de2 : Int32) (iD2 : Int32) (iO2 : Int32) (tU2 : Int32) (ff2 : Nat → Int32) (fm2 : Nat → Int32) (fb2 : Nat → Int32) (fa2 : Nat → Int32) (q : Int32) => some (.int q)) (u.1) (u.2.1) (u.2.2.1) (u.2.2.2.1) (u.2.2.2.2.1) (u.2.2.2.2.2.1) (u.2.2.2.2.2.2.1) (u.2.2.2.2.2.2.2.1) (u.2.2.2.2.2.2.2.2.1) (u.2.2.2.2.2.2.2.2.2.1) (u.2.2.2.2.2.2.2.2.2.2.1) (u.2.2.2.2.2.2.2.2.2.2.2.1) (u.2.2.2.2.2.2.2.2.2.2.2.2)) (fun u : Int32 × Int32 × Int32 × Int32 × Int32 × Int32 × Int32 × Int32 × (Nat → Int32) × (Nat → Int32) × (Nat → Int32) × (Nat → Int32) × Int32 => (fun (th2 : Int32) (ba2 : Int32) (en2 : Int32) (at2 : Int32) (de2 : Int32) (iD2 : Int32) (iO2 : Int32) (tU2 : Int32) (ff2 : Nat → Int32) (fm2 : Nat → Int32) (fb2 : Nat → Int32) (fa2 : Nat → Int32) (q : Int32) => (rM fa2) ∧ (rM fm2) ∧ (0 ≤ iO2.toInt ∧ iO2.toInt ≤ 1) ∧ (0 ≤ iD2.toInt ∧ iD2.toInt ≤ 1)) (u.1) (u.2.1) (u.2.2.1) (u.2.2.2.1) (u.2.2.2.2.1) (u.2.2.2.2.2.1) (u.2.2.2.2.2.2.1) (u.2.2.2.2.2.2.2.1) (u.2.2.2.2.2.2.2.2.1) (u.2.2.2.2.2.2.2.2.2.1) (u.2.2.2.2.2.2.2.2.2.2.1) (u.2.2.2.2.2.2.2.2.2.2.2.1) (u.2.2.2.2.2.2.2.2.2.2.2.2)) (fun u : Int32 × Int32 × Int32 × Int32 × Int32 × Int32 × Int32 × Int32 × (Nat → Int32) × (Nat → Int32) × (Nat → Int32) × (Nat → Int32) × Int32 => (fun (th2 : Int32) (ba2 : Int32) (en2 : Int32) (at2 : Int32) (de2 : Int32) (iD2 : Int32) (iO2 : Int32) (tU2 : Int32) (ff2 : Nat → Int32) (fm2 : Nat → Int32) (fb2 : Nat → Int32) (fa2 : Nat → Int32) (q : Int32) => [bMo g o a th2 hi ac tp ba2 en2 at2 fl de2 iD2 iO2 tU2 fm2 fk fa2 fc ft ff2 fb2 fi]) (u.1) (u.2.1) (u.2.2.1) (u.2.2.2.1) (u.2.2.2.2.1) (u.2.2.2.2.2.1) (u.2.2.2.2.2.2.1) (u.2.2.2.2.2.2.2.1) (u.2.2.2.2.2.2.2.2.1) (u.2.2.2.2.2.2.2.2.2.1) (u.2.2.2.2.2.2.2.2.2.2.1) (u.2.2.2.2.2.2.2.2.2.2.2.1) (u.2.2.2.2.2.2.2.2.2.2.2.2)) ({ frames := 33, cells := 0, slots := 0, locals := 736 } : Room) below args s A) (F0 m 37 ls []) := by
      intro kf
      induction kf with
      | zero => intro x_7 x_8 x_9 x_10 x_11 x_12 x_13 x_14 x_15 fm_16 ff_17 fb_18 i19 i20 i21 rfm_16 H locs ls hk; exact absurd hk (Nat.not_lt_zero _)
      | succ kf ih37_23 =>
        intro x_7 x_8 x_9 x_10 x_11 x_12 x_13 x_14 x_15 fm_16 ff_17 fb_18 i19 i20 i21 rfm_16 H locs ls hk37_23 hP hD hS hl
        refine lv_iload hx hb dX12_span_37 (lv_at hl 4 rfl) ?_
        refine lv_bipush (v := 6) hx hb dX12_span_39 (by decide) ?_
        refine lv_icmp_gt (tgt := 107) hx hb dX12_span_41 (by decide) (fun cb9 => ?_) (fun cb9 => ?_)
        · skip
          have c24 : 6 < x_8.toInt := zlti cb9 (by decide) rfl
          have n25 : 7 ≤ x_8.toInt := zL2 (a := 6) c24 (Int.le_refl _) (by decide)
          refine lv_iload_n hx hb dX12_span_107 rfl (lv_at hl 3 rfl) ?_
          have hP : va_P g.1 vwCl (List.flatten [bMo g o a 0 hi ac tp x_9 x_10 x_11 fl x_12 x_13 x_14 x_15 fm_16 fk fa2_5 fc ft ff_17 fb_18 fi]) H := hP
          have hD : va_D A (List.flatten [bMo g o a 0 hi ac tp x_9 x_10 x_11 fl x_12 x_13 x_14 x_15 fm_16 fk fa2_5 fc ft ff_17 fb_18 fi]) := hD
          exact mret_i hx hb hr hlocks hS (Nat.le_of_ble_eq_true rfl) (Nat.le_of_ble_eq_true rfl) dX12_span_108 ((0 : Int32), x_9, x_10, x_11, x_12, x_13, x_14, x_15, ff_17, fm_16, fb_18, fa2_5, x_7) rfl (show (rM fa2_5) ∧ (rM fm_16) ∧ (0 ≤ x_14.toInt ∧ x_14.toInt ≤ 1) ∧ (0 ≤ x_13.toInt ∧ x_13.toInt ≤ 1) from ⟨rfa2_5, rfm_16, i21, i20⟩) hP hD
        · skip
          have c26 : x_8.toInt ≤ 6 := zle (Int32.not_lt.mp cb9) rfl (by decide)
          have n27 : x_8.toInt ≤ 6 := Int.le_trans c26 (Int.le_refl _)
          refine lv_aload_n hx hb dX12_span_44 rfl (lv_at hl 0 rfl) ?_
          refine va_get (D := g.1) (ci := 10) (v := .ref (a 0)) (C := RX12) (T := TX12) (N := 20) hx hb hts izRX12 hown hK hP 0 rfl rfl 1 (by decide) (hts _ k815) (fun _ h9 => h9) rfl dX12_span_45 ?_
          refine lv_bipush (v := 10) hx hb dX12_span_48 (by decide) ?_
          refine lv_iload hx hb dX12_span_50 (lv_at hl 4 rfl) ?_
          refine va_iast hx hb hK hP hD hS 1 0 rfl rfl (zin rfl) dX12_span_52 (fun H locs hP hD hS => ?_)
          obtain ⟨fm_28, rfm_28, hP, hD⟩ : ∃ fm_28 : Nat → Int32, rM fm_28 ∧ va_P g.1 vwCl (List.flatten [bMo g o a 0 hi ac tp x_9 x_10 x_11 fl x_12 x_13 x_14 x_15 fm_28 fk fa2_5 fc ft ff_17 fb_18 fi]) H ∧ va_D A (List.flatten [bMo g o a 0 hi ac tp x_9 x_10 x_11 fl x_12 x_13 x_14 x_15 fm_28 fk fa2_5 fc ft ff_17 fb_18 fi]) := ⟨upd fm_16 10 x_8, (rM_stL rfm_16 (by decide)), hP, hD⟩
          refine lv_aload_n hx hb dX12_span_53 rfl (lv_at hl 0 rfl) ?_
          refine lv_iload_n hx hb dX12_span_54 rfl (lv_at hl 1 rfl) ?_
          refine lv_iconst (v := 1) hx hb dX12_span_55 (by decide) ?_
          refine mcallV' (g := g) (q0 := 0) (ci := 10) (As := [.int n, .int 1]) (rest := []) St hK hT hA hP hD hS hl.1 [0] [] rfl rfl rfl (m_goes l g o a 0 hi ac tp x_9 x_10 x_11 fl x_12 x_13 x_14 x_15 fm_28 fk fa2_5 fc ft ff_17 fb_18 fi n 1 rfm_28 i20 i21 (by first | assumption | omega | decide | exact Or.inl (by decide) | exact Or.inr (by decide))) (cwV 2 hts (zgL (zl4 k1056 k1057 k1058 k837) k1027) rfl rfl rfl (by decide +kernel) ⟨Nat.le_of_ble_eq_true rfl, Nat.le_of_ble_eq_true rfl⟩) rfl rfl rfl rfl (Nat.le_of_ble_eq_true rfl) dX12_span_56 ⟨(Nat.le_of_ble_eq_true rfl), (Nat.le_of_ble_eq_true rfl)⟩ (fun u_ H locs hq40 hP hD hS => ?_)
          obtain ⟨ba2_29, en2_30, at2_31, de2_32, iD2_33, iO2_34, tU2_35, ff2_36, fm2_37, fb2_38, q_39⟩ := u_
          replace hq40 : (rM fm2_37) ∧ (0 ≤ iO2_34.toInt ∧ iO2_34.toInt ≤ 1) ∧ (0 ≤ iD2_33.toInt ∧ iD2_33.toInt ≤ 1) := hq40
          have hP : va_P g.1 vwCl (List.flatten [bMo g o a 0 hi ac tp ba2_29 en2_30 at2_31 fl de2_32 iD2_33 iO2_34 tU2_35 fm2_37 fk fa2_5 fc ft ff2_36 fb2_38 fi]) H := hP
          have hD : va_D A (List.flatten [bMo g o a 0 hi ac tp ba2_29 en2_30 at2_31 fl de2_32 iD2_33 iO2_34 tU2_35 fm2_37 fk fa2_5 fc ft ff2_36 fb2_38 fi]) := hD
          refine W.widen (k := 0) (n := 0) (Nat.le_of_ble_eq_true rfl) (Nat.le_of_ble_eq_true rfl) ?_
          refine W.eq (g2 := F0 m 59 ls [.int q_39]) rfl ?_
          obtain ⟨rfm2_37, hq40_1, hq40_2⟩ := hq40
          refine lv_istore (lv' := [(5, .int q_39), (0, .ref o), (1, .int n), (2, .int most), (3, .int x_7), (4, .int x_8)]) hx hb dX12_span_59 hl (by decide) rfl (fun ls hl => ?_)
          refine lv_aload_n hx hb dX12_span_61 rfl (lv_at hl 1 rfl) ?_
          refine mcallV' (g := g) (q0 := 0) (ci := 10) (As := []) (rest := []) St hK hT hA hP hD hS hl.1 [0] [] rfl rfl rfl (m_believed l g o a 0 hi ac tp ba2_29 en2_30 at2_31 fl de2_32 iD2_33 iO2_34 tU2_35 fm2_37 fk fa2_5 fc ft ff2_36 fb2_38 fi rfm2_37) (cwV 0 hts (zgL (zl4 k854 k855 k856 k837) k847) rfl rfl rfl (by decide +kernel) ⟨Nat.le_of_ble_eq_true rfl, Nat.le_of_ble_eq_true rfl⟩) rfl rfl rfl rfl (Nat.le_of_ble_eq_true rfl) dX12_span_62 ⟨(Nat.le_of_ble_eq_true rfl), (Nat.le_of_ble_eq_true rfl)⟩ (fun q_41 H locs hq42 hP hD hS => ?_)
          have hP : va_P g.1 vwCl (List.flatten [bMo g o a 0 hi ac tp ba2_29 en2_30 at2_31 fl de2_32 iD2_33 iO2_34 tU2_35 fm2_37 fk fa2_5 fc ft ff2_36 fb2_38 fi]) H := hP
          have hD : va_D A (List.flatten [bMo g o a 0 hi ac tp ba2_29 en2_30 at2_31 fl de2_32 iD2_33 iO2_34 tU2_35 fm2_37 fk fa2_5 fc ft ff2_36 fb2_38 fi]) := hD
          refine W.widen (k := 0) (n := 0) (Nat.le_of_ble_eq_true rfl) (Nat.le_of_ble_eq_true rfl) ?_
          refine W.eq (g2 := F0 m 65 ls [.int q_41]) rfl ?_
          refine lv_istore (lv' := [(6, .int q_41), (5, .int q_39), (0, .ref o), (1, .int n), (2, .int most), (3, .int x_7), (4, .int x_8)]) hx hb dX12_span_65 hl (by decide) rfl (fun ls hl => ?_)
          refine lv_aload_n hx hb dX12_span_67 rfl (lv_at hl 2 rfl) ?_
          refine mcallV' (g := g) (q0 := 0) (ci := 10) (As := []) (rest := []) St hK hT hA hP hD hS hl.1 [0] [] rfl rfl rfl (m_comesBack l g o a 0 hi ac tp ba2_29 en2_30 at2_31 fl de2_32 iD2_33 iO2_34 tU2_35 fm2_37 fk fa2_5 fc ft ff2_36 fb2_38 fi rfm2_37 rfa2_5) (cwV 0 hts (zgL (zl4 k983 k984 k985 k837) k972) rfl rfl rfl (by decide +kernel) ⟨Nat.le_of_ble_eq_true rfl, Nat.le_of_ble_eq_true rfl⟩) rfl rfl rfl rfl (Nat.le_of_ble_eq_true rfl) dX12_span_68 ⟨(Nat.le_of_ble_eq_true rfl), (Nat.le_of_ble_eq_true rfl)⟩ (fun fm2_43 H locs hq44 hP hD hS => ?_)
          replace hq44 : (rM fm2_43) := hq44
          have hP : va_P g.1 vwCl (List.flatten [bMo g o a 0 hi ac tp ba2_29 en2_30 at2_31 fl de2_32 iD2_33 iO2_34 tU2_35 fm2_43 fk fa2_5 fc ft ff2_36 fb2_38 fi]) H := hP
          have hD : va_D A (List.flatten [bMo g o a 0 hi ac tp ba2_29 en2_30 at2_31 fl de2_32 iD2_33 iO2_34 tU2_35 fm2_43 fk fa2_5 fc ft ff2_36 fb2_38 fi]) := hD
          refine W.widen (k := 0) (n := 0) (Nat.le_of_ble_eq_true rfl) (Nat.le_of_ble_eq_true rfl) ?_
          refine W.eq (g2 := F0 m 71 ls []) rfl ?_
          have rfm2_43 := hq44; clear hq44
          refine lv_iload_n hx hb dX12_span_71 rfl (lv_at hl 5 rfl) ?_
          refine lv_iconst (v := (-1)) hx hb dX12_span_72 (by decide) ?_
          refine lv_icmp_ne (tgt := 81) hx hb dX12_span_73 (by decide) (fun cb9 => ?_) (fun cb9 => ?_)
          · skip
            have c45 : ¬ x_7.toInt = (-1) := zne cb9 rfl (by decide)
            refine lv_iload_n hx hb dX12_span_81 rfl (lv_at hl 4 rfl) ?_
            refine lv_if_eq (tgt := 94) hx hb dX12_span_82 (by decide) (fun cb9 => ?_) (fun cb9 => ?_)
            · skip
              have c46 : most.toInt = 0 := zeq cb9 rfl (by decide)
              have n47 : 0 ≤ most.toInt := Int.le_trans (Int.le_refl _) (Int.le_of_eq c46.symm)
              have n48 : most.toInt ≤ 0 := Int.le_trans (Int.le_of_eq c46) (Int.le_refl _)
              refine lv_iload_n hx hb dX12_span_94 rfl (lv_at hl 5 rfl) ?_
              refine lv_iload hx hb dX12_span_95 (lv_at hl 0 rfl) ?_
              refine mcallS' (g := g) (As := [.int x_7, .int q_41]) (rest := []) St hK hT hA hP hD hS hl.1 [] [0] rfl rfl rfl (m_lesser l g x_7 q_41 ) (va_cwS 2 hts (zgL (zl3 k999 k1000 k837) k825) rfl rfl rfl (by decide +kernel) ⟨Nat.le_of_ble_eq_true rfl, Nat.le_of_ble_eq_true rfl⟩) rfl rfl (Nat.le_of_ble_eq_true rfl) dX12_span_97 ⟨(Nat.le_of_ble_eq_true rfl), (Nat.le_of_ble_eq_true rfl)⟩ (fun q_49 H locs hq50 hP hD hS => ?_)
              replace hq50 : (q_49.toInt ≤ x_7.toInt ∧ q_49.toInt ≤ q_41.toInt ∧ (q_49.toInt = x_7.toInt ∨ q_49.toInt = q_41.toInt)) := hq50
              have hP : va_P g.1 vwCl (List.flatten [bMo g o a 0 hi ac tp ba2_29 en2_30 at2_31 fl de2_32 iD2_33 iO2_34 tU2_35 fm2_43 fk fa2_5 fc ft ff2_36 fb2_38 fi]) H := hP
              have hD : va_D A (List.flatten [bMo g o a 0 hi ac tp ba2_29 en2_30 at2_31 fl de2_32 iD2_33 iO2_34 tU2_35 fm2_43 fk fa2_5 fc ft ff2_36 fb2_38 fi]) := hD
              refine W.widen (k := 0) (n := 0) (Nat.le_of_ble_eq_true rfl) (Nat.le_of_ble_eq_true rfl) ?_
              refine W.eq (g2 := F0 m 100 ls [.int q_49]) rfl ?_
              refine lv_istore_n (lv' := [(3, .int q_49), (6, .int q_41), (5, .int q_39), (0, .ref o), (1, .int n), (2, .int most), (4, .int x_8)]) hx hb dX12_span_100 rfl hl (by decide) rfl (fun ls hl => ?_)
              refine ziinc3 (n' := 1) (a' := 2) (b' := 7) (lv' := fun v9 => [(4, .int v9), (3, .int q_49), (6, .int q_41), (5, .int q_39), (0, .ref o), (1, .int n), (2, .int most)]) hx hb dX12_span_101 hl (k := 6) rfl (by decide) (fun _ => rfl) (zaddK (i := x_8.toInt) (j := 1) rfl (by decide) i19.1 n27 (Int.le_refl _) (Int.le_refl _) (by decide)) (fun x_51 ls hx_51 hl => ?_)
              refine lv_goto (tgt := 37) hx hb dX12_span_104 (by decide) ?_
              have hl := lv_sub (l' := [(0, .ref o), (1, .int n), (2, .int most), (3, .int q_49), (4, .int x_51), (5, .int q_39), (6, .int q_41)]) hl [4, 5, 6, 1, 0, 3, 2] rfl
              have hP : va_P g.1 vwCl (List.flatten [bMo g o a 0 hi ac tp ba2_29 en2_30 at2_31 fl de2_32 iD2_33 iO2_34 tU2_35 fm2_43 fk fa2_5 fc ft ff2_36 fb2_38 fi]) H := hP
              have hD : va_D A (List.flatten [bMo g o a 0 hi ac tp ba2_29 en2_30 at2_31 fl de2_32 iD2_33 iO2_34 tU2_35 fm2_43 fk fa2_5 fc ft ff2_36 fb2_38 fi]) := hD
              exact ih37_23 q_49 x_51 ba2_29 en2_30 at2_31 de2_32 iD2_33 iO2_34 tU2_35 fm2_43 ff2_36 fb2_38 ⟨(Int.le_trans (by decide) hx_51.2.1), hx_51.2.2⟩ ⟨hq40_2.1, hq40_2.2⟩ ⟨hq40_1.1, hq40_1.2⟩ rfm2_43 H _ ls (zmK hx_51.1 (by decide) n27 (by decide) hk37_23)  hP hD hS (lv_sub hl [0, 1, 2, 3, 4] rfl)
            · skip
              have c52 : ¬ most.toInt = 0 := zne cb9 rfl (by decide)
              refine lv_iload_n hx hb dX12_span_85 rfl (lv_at hl 5 rfl) ?_
              refine lv_iload hx hb dX12_span_86 (lv_at hl 0 rfl) ?_
              refine mcallS' (g := g) (As := [.int x_7, .int q_41]) (rest := []) St hK hT hA hP hD hS hl.1 [] [0] rfl rfl rfl (m_greater l g x_7 q_41 ) (va_cwS 2 hts (zgL (zl3 k1002 k1003 k837) k826) rfl rfl rfl (by decide +kernel) ⟨Nat.le_of_ble_eq_true rfl, Nat.le_of_ble_eq_true rfl⟩) rfl rfl (Nat.le_of_ble_eq_true rfl) dX12_span_88 ⟨(Nat.le_of_ble_eq_true rfl), (Nat.le_of_ble_eq_true rfl)⟩ (fun q_53 H locs hq54 hP hD hS => ?_)
              replace hq54 : (x_7.toInt ≤ q_53.toInt ∧ q_41.toInt ≤ q_53.toInt ∧ (q_53.toInt = x_7.toInt ∨ q_53.toInt = q_41.toInt)) := hq54
              have hP : va_P g.1 vwCl (List.flatten [bMo g o a 0 hi ac tp ba2_29 en2_30 at2_31 fl de2_32 iD2_33 iO2_34 tU2_35 fm2_43 fk fa2_5 fc ft ff2_36 fb2_38 fi]) H := hP
              have hD : va_D A (List.flatten [bMo g o a 0 hi ac tp ba2_29 en2_30 at2_31 fl de2_32 iD2_33 iO2_34 tU2_35 fm2_43 fk fa2_5 fc ft ff2_36 fb2_38 fi]) := hD
              refine W.widen (k := 0) (n := 0) (Nat.le_of_ble_eq_true rfl) (Nat.le_of_ble_eq_true rfl) ?_
              refine W.eq (g2 := F0 m 91 ls [.int q_53]) rfl ?_
              refine lv_goto (tgt := 100) hx hb dX12_span_91 (by decide) ?_
              refine lv_istore_n (lv' := [(3, .int q_53), (6, .int q_41), (5, .int q_39), (0, .ref o), (1, .int n), (2, .int most), (4, .int x_8)]) hx hb dX12_span_100 rfl hl (by decide) rfl (fun ls hl => ?_)
              refine ziinc3 (n' := 1) (a' := 2) (b' := 7) (lv' := fun v9 => [(4, .int v9), (3, .int q_53), (6, .int q_41), (5, .int q_39), (0, .ref o), (1, .int n), (2, .int most)]) hx hb dX12_span_101 hl (k := 6) rfl (by decide) (fun _ => rfl) (zaddK (i := x_8.toInt) (j := 1) rfl (by decide) i19.1 n27 (Int.le_refl _) (Int.le_refl _) (by decide)) (fun x_55 ls hx_55 hl => ?_)
              refine lv_goto (tgt := 37) hx hb dX12_span_104 (by decide) ?_
              have hl := lv_sub (l' := [(0, .ref o), (1, .int n), (2, .int most), (3, .int q_53), (4, .int x_55), (5, .int q_39), (6, .int q_41)]) hl [4, 5, 6, 1, 0, 3, 2] rfl
              have hP : va_P g.1 vwCl (List.flatten [bMo g o a 0 hi ac tp ba2_29 en2_30 at2_31 fl de2_32 iD2_33 iO2_34 tU2_35 fm2_43 fk fa2_5 fc ft ff2_36 fb2_38 fi]) H := hP
              have hD : va_D A (List.flatten [bMo g o a 0 hi ac tp ba2_29 en2_30 at2_31 fl de2_32 iD2_33 iO2_34 tU2_35 fm2_43 fk fa2_5 fc ft ff2_36 fb2_38 fi]) := hD
              exact ih37_23 q_53 x_55 ba2_29 en2_30 at2_31 de2_32 iD2_33 iO2_34 tU2_35 fm2_43 ff2_36 fb2_38 ⟨(Int.le_trans (by decide) hx_55.2.1), hx_55.2.2⟩ ⟨hq40_2.1, hq40_2.2⟩ ⟨hq40_1.1, hq40_1.2⟩ rfm2_43 H _ ls (zmK hx_55.1 (by decide) n27 (by decide) hk37_23)  hP hD hS (lv_sub hl [0, 1, 2, 3, 4] rfl)
          · skip
            have c56 : x_7.toInt = (-1) := zeq cb9 rfl (by decide)
            have n57 : (-1) ≤ x_7.toInt := Int.le_trans (Int.le_refl _) (Int.le_of_eq c56.symm)
            have n58 : x_7.toInt ≤ (-1) := Int.le_trans (Int.le_of_eq c56) (Int.le_refl _)
            refine lv_iload hx hb dX12_span_76 (lv_at hl 0 rfl) ?_
            refine lv_goto (tgt := 100) hx hb dX12_span_78 (by decide) ?_
            refine lv_istore_n (lv' := [(3, .int q_41), (6, .int q_41), (5, .int q_39), (0, .ref o), (1, .int n), (2, .int most), (4, .int x_8)]) hx hb dX12_span_100 rfl hl (by decide) rfl (fun ls hl => ?_)
            refine ziinc3 (n' := 1) (a' := 2) (b' := 7) (lv' := fun v9 => [(4, .int v9), (3, .int q_41), (6, .int q_41), (5, .int q_39), (0, .ref o), (1, .int n), (2, .int most)]) hx hb dX12_span_101 hl (k := 6) rfl (by decide) (fun _ => rfl) (zaddK (i := x_8.toInt) (j := 1) rfl (by decide) i19.1 n27 (Int.le_refl _) (Int.le_refl _) (by decide)) (fun x_59 ls hx_59 hl => ?_)
            refine lv_goto (tgt := 37) hx hb dX12_span_104 (by decide) ?_
            have hl := lv_sub (l' := [(0, .ref o), (1, .int n), (2, .int most), (3, .int q_41), (4, .int x_59), (5, .int q_39), (6, .int q_41)]) hl [4, 5, 6, 1, 0, 3, 2] rfl
            have hP : va_P g.1 vwCl (List.flatten [bMo g o a 0 hi ac tp ba2_29 en2_30 at2_31 fl de2_32 iD2_33 iO2_34 tU2_35 fm2_43 fk fa2_5 fc ft ff2_36 fb2_38 fi]) H := hP
            have hD : va_D A (List.flatten [bMo g o a 0 hi ac tp ba2_29 en2_30 at2_31 fl de2_32 iD2_33 iO2_34 tU2_35 fm2_43 fk fa2_5 fc ft ff2_36 fb2_38 fi]) := hD
            exact ih37_23 q_41 x_59 ba2_29 en2_30 at2_31 de2_32 iD2_33 iO2_34 tU2_35 fm2_43 ff2_36 fb2_38 ⟨(Int.le_trans (by decide) hx_59.2.1), hx_59.2.2⟩ ⟨hq40_2.1, hq40_2.2⟩ ⟨hq40_1.1, hq40_1.2⟩ rfm2_43 H _ ls (zmK hx_59.1 (by decide) n27 (by decide) hk37_23)  hP hD hS (lv_sub hl [0, 1, 2, 3, 4] rfl)
    have hP : va_P g.1 vwCl (List.flatten [bMo g o a 0 hi ac tp ba en tA fl de iD iO tU fm fk fa2_5 fc ft ff fb fi]) H := hP
    have hD : va_D A (List.flatten [bMo g o a 0 hi ac tp ba en tA fl de iD iO tU fm fk fa2_5 fc ft ff fb fi]) := hD
    exact LP37_22 _ (-1) 1 ba en tA de iD iO tU fm ff fb (by decide) ⟨hiD.1, hiD.2⟩ ⟨hiO.1, hiO.2⟩ rfm H _ ls (Nat.lt_succ_self _)  hP hD hS (lv_sub hl [0, 1, 2, 3, 4] rfl)
  · skip
    refine lv_if_ne (tgt := 15) hx hb dX12_span_8 (by decide) (fun c60 => absurd (by decide) c60) (fun _ => ?_)
    refine lv_iconst (v := 1) hx hb dX12_span_11 (by decide) ?_
    refine lv_goto (tgt := 16) hx hb dX12_span_12 (by decide) ?_
    refine va_put (D := g.1) (ci := 10) (v := .int 1) (ty := .int) (C := RX12) (T := TX12) (N := 20) hx hb hts izRX12 tyX12 tyX12_ok nmX12 hown hK hP hD hS 0 rfl rfl 0 (by decide) (hts _ k871) (fun _ h9 => h9) rfl (by decide +kernel) rfl rfl (Nat.le_of_ble_eq_true rfl) dX12_span_16 (fun H locs hP hD hS => ?_)
    have hP : va_P g.1 vwCl (List.flatten [bMo g o a 1 hi ac tp ba en tA fl de iD iO tU fm fk fa fc ft ff fb fi]) H := hP
    have hD : va_D A (List.flatten [bMo g o a 1 hi ac tp ba en tA fl de iD iO tU fm fk fa fc ft ff fb fi]) := hD
    refine lv_aload_n hx hb dX12_span_19 rfl (lv_at hl 0 rfl) ?_
    refine va_get (D := g.1) (ci := 10) (v := .int 1) (C := RX12) (T := TX12) (N := 20) hx hb hts izRX12 hown hK hP 0 rfl rfl 0 (by decide) (hts _ k871) (fun _ h9 => h9) rfl dX12_span_20 ?_
    refine lv_if_le (tgt := 28) hx hb dX12_span_23 (by decide) (fun c61 => absurd c61 (by decide)) (fun _ => ?_)
    refine lv_iconst (v := 0) hx hb dX12_span_26 (by decide) ?_
    have hP : va_P g.1 vwCl (List.flatten [bMo g o a 1 hi ac tp ba en tA fl de iD iO tU fm fk fa fc ft ff fb fi]) H := hP
    have hD : va_D A (List.flatten [bMo g o a 1 hi ac tp ba en tA fl de iD iO tU fm fk fa fc ft ff fb fi]) := hD
    exact mret_i hx hb hr hlocks hS (Nat.le_of_ble_eq_true rfl) (Nat.le_of_ble_eq_true rfl) dX12_span_27 ((1 : Int32), ba, en, tA, de, iD, iO, tU, ff, fm, fb, fa, (0 : Int32)) rfl (show (rM fa) ∧ (rM fm) ∧ (0 ≤ iO.toInt ∧ iO.toInt ≤ 1) ∧ (0 ≤ iD.toInt ∧ iD.toInt ≤ 1) from ⟨rfa, rfm, hiO, hiD⟩) hP hD
set_option maxRecDepth 100000 in
set_option maxHeartbeats 4000000 in
theorem m_ruin (l : Launch) (g : zG) (o : Nat) (a : Nat → Nat) (th : Int32) (hi : Int32) (ac : Int32) (tp : Int32) (ba : Int32) (en : Int32) (tA : Int32) (fl : Int32) (de : Int32) (iD : Int32) (iO : Int32) (tU : Int32) (fm : Nat → Int32) (fk : Nat → Int32) (fa : Nat → Int32) (fc : Nat → Int32) (ft : Nat → Int32) (ff : Nat → Int32) (fb : Nat → Int32) (fi : Nat → Int32) (rfm : rM fm) (rfa : rM fa) (hiD : 0 ≤ iD.toInt ∧ iD.toInt ≤ 1) (hiO : 0 ≤ iO.toInt ∧ iO.toInt ≤ 1) : zM' g l yX12_ruin (Cond.code yX12_ruin cX12_ruin 4 (some .int) :: zB) ({ frames := 33, cells := 0, slots := 0, locals := 736 } : Room) [.ref o] [bMo g o a th hi ac tp ba en tA fl de iD iO tU fm fk fa fc ft ff fb fi] (fun u : Int32 × Int32 × Int32 × Int32 × Int32 × Int32 × Int32 × Int32 × (Nat → Int32) × (Nat → Int32) × (Nat → Int32) × (Nat → Int32) × Int32 => (fun (th2 : Int32) (ba2 : Int32) (en2 : Int32) (at2 : Int32) (de2 : Int32) (iD2 : Int32) (iO2 : Int32) (tU2 : Int32) (ff2 : Nat → Int32) (fm2 : Nat → Int32) (fb2 : Nat → Int32) (fa2 : Nat → Int32) (q : Int32) => some (.int q)) (u.1) (u.2.1) (u.2.2.1) (u.2.2.2.1) (u.2.2.2.2.1) (u.2.2.2.2.2.1) (u.2.2.2.2.2.2.1) (u.2.2.2.2.2.2.2.1) (u.2.2.2.2.2.2.2.2.1) (u.2.2.2.2.2.2.2.2.2.1) (u.2.2.2.2.2.2.2.2.2.2.1) (u.2.2.2.2.2.2.2.2.2.2.2.1) (u.2.2.2.2.2.2.2.2.2.2.2.2)) (fun u : Int32 × Int32 × Int32 × Int32 × Int32 × Int32 × Int32 × Int32 × (Nat → Int32) × (Nat → Int32) × (Nat → Int32) × (Nat → Int32) × Int32 => (fun (th2 : Int32) (ba2 : Int32) (en2 : Int32) (at2 : Int32) (de2 : Int32) (iD2 : Int32) (iO2 : Int32) (tU2 : Int32) (ff2 : Nat → Int32) (fm2 : Nat → Int32) (fb2 : Nat → Int32) (fa2 : Nat → Int32) (q : Int32) => (rM fa2) ∧ (rM fm2) ∧ (0 ≤ iO2.toInt ∧ iO2.toInt ≤ 1) ∧ (0 ≤ iD2.toInt ∧ iD2.toInt ≤ 1)) (u.1) (u.2.1) (u.2.2.1) (u.2.2.2.1) (u.2.2.2.2.1) (u.2.2.2.2.2.1) (u.2.2.2.2.2.2.1) (u.2.2.2.2.2.2.2.1) (u.2.2.2.2.2.2.2.2.1) (u.2.2.2.2.2.2.2.2.2.1) (u.2.2.2.2.2.2.2.2.2.2.1) (u.2.2.2.2.2.2.2.2.2.2.2.1) (u.2.2.2.2.2.2.2.2.2.2.2.2)) (fun u : Int32 × Int32 × Int32 × Int32 × Int32 × Int32 × Int32 × Int32 × (Nat → Int32) × (Nat → Int32) × (Nat → Int32) × (Nat → Int32) × Int32 => (fun (th2 : Int32) (ba2 : Int32) (en2 : Int32) (at2 : Int32) (de2 : Int32) (iD2 : Int32) (iO2 : Int32) (tU2 : Int32) (ff2 : Nat → Int32) (fm2 : Nat → Int32) (fb2 : Nat → Int32) (fa2 : Nat → Int32) (q : Int32) => [bMo g o a th2 hi ac tp ba2 en2 at2 fl de2 iD2 iO2 tU2 fm2 fk fa2 fc ft ff2 fb2 fi]) (u.1) (u.2.1) (u.2.2.1) (u.2.2.2.1) (u.2.2.2.2.1) (u.2.2.2.2.2.1) (u.2.2.2.2.2.2.1) (u.2.2.2.2.2.2.2.1) (u.2.2.2.2.2.2.2.2.1) (u.2.2.2.2.2.2.2.2.2.1) (u.2.2.2.2.2.2.2.2.2.2.1) (u.2.2.2.2.2.2.2.2.2.2.2.1) (u.2.2.2.2.2.2.2.2.2.2.2.2)) := by
  refine zM'.of (cc := cX12_ruin) (maxL := 4) (rt := (some .int)) (by decide) rfl (Nat.le_of_ble_eq_true rfl) ?_
  intro p e s m args below meth c A ls St hr hlocks hin hK hT hA hP hD hS hl
  obtain ⟨hx, hb, hml, hown, hts⟩ := id St
  have hl : lv_has ls 4 [(0, .ref o)] := hl
  refine lv_aload_n hx hb dX12_ruin_0 rfl (lv_at hl 0 rfl) ?_
  refine lv_iconst (v := 0) hx hb dX12_ruin_1 (by decide) ?_
  refine va_put (D := g.1) (ci := 10) (v := .int 0) (ty := .int) (C := RX12) (T := TX12) (N := 20) hx hb hts izRX12 tyX12 tyX12_ok nmX12 hown hK hP hD hS 0 rfl rfl 0 (by decide) (hts _ k871) (fun _ h9 => h9) rfl (by decide +kernel) rfl rfl (Nat.le_of_ble_eq_true rfl) dX12_ruin_2 (fun H locs hP hD hS => ?_)
  have hP : va_P g.1 vwCl (List.flatten [bMo g o a 0 hi ac tp ba en tA fl de iD iO tU fm fk fa fc ft ff fb fi]) H := hP
  have hD : va_D A (List.flatten [bMo g o a 0 hi ac tp ba en tA fl de iD iO tU fm fk fa fc ft ff fb fi]) := hD
  refine lv_aload_n hx hb dX12_ruin_5 rfl (lv_at hl 0 rfl) ?_
  refine mcallV' (g := g) (q0 := 0) (ci := 10) (As := []) (rest := []) St hK hT hA hP hD hS hl.1 [0] [] rfl rfl rfl (m_putsAside l g o a 0 hi ac tp ba en tA fl de iD iO tU fm fk fa fc ft ff fb fi rfm rfa) (cwV 0 hts (zgL (zl4 k974 k975 k976 k837) k971) rfl rfl rfl (by decide +kernel) ⟨Nat.le_of_ble_eq_true rfl, Nat.le_of_ble_eq_true rfl⟩) rfl rfl rfl rfl (Nat.le_of_ble_eq_true rfl) dX12_ruin_6 ⟨(Nat.le_of_ble_eq_true rfl), (Nat.le_of_ble_eq_true rfl)⟩ (fun fa2_1 H locs hq2 hP hD hS => ?_)
  replace hq2 : (rM fa2_1) := hq2
  have hP : va_P g.1 vwCl (List.flatten [bMo g o a 0 hi ac tp ba en tA fl de iD iO tU fm fk fa2_1 fc ft ff fb fi]) H := hP
  have hD : va_D A (List.flatten [bMo g o a 0 hi ac tp ba en tA fl de iD iO tU fm fk fa2_1 fc ft ff fb fi]) := hD
  refine W.widen (k := 0) (n := 0) (Nat.le_of_ble_eq_true rfl) (Nat.le_of_ble_eq_true rfl) ?_
  refine W.eq (g2 := F0 m 9 ls []) rfl ?_
  have rfa2_1 := hq2; clear hq2
  refine lv_iconst (v := (-1)) hx hb dX12_ruin_9 (by decide) ?_
  refine lv_istore_n (lv' := [(1, .int (-1)), (0, .ref o)]) hx hb dX12_ruin_10 rfl hl (by decide) rfl (fun ls hl => ?_)
  refine lv_iconst (v := 0) hx hb dX12_ruin_11 (by decide) ?_
  refine lv_istore_n (lv' := [(2, .int 0), (1, .int (-1)), (0, .ref o)]) hx hb dX12_ruin_12 rfl hl (by decide) rfl (fun ls hl => ?_)
  have hl := lv_sub (l' := [(0, .ref o), (1, .int (-1)), (2, .int 0)]) hl [2, 1, 0] rfl
  have LP13_19 : ∀ (kf : Nat) (x_3 : Int32) (x_4 : Int32) (x_5 : Int32) (x_6 : Int32) (x_7 : Int32) (x_8 : Int32) (x_9 : Int32) (x_10 : Int32) (x_11 : Int32) (fm_12 : Nat → Int32) (ff_13 : Nat → Int32) (fb_14 : Nat → Int32), ((-1) ≤ x_3.toInt ∧ x_3.toInt ≤ 100) → (0 ≤ x_4.toInt ∧ x_4.toInt ≤ 101) → (0 ≤ x_9.toInt ∧ x_9.toInt ≤ 1) → (0 ≤ x_10.toInt ∧ x_10.toInt ≤ 1) → (rM fm_12) → ∀ (H : Heap) (locs : List Loc) (ls : Array Slot), ((102 - x_4.toInt).toNat) < kf → va_P g.1 vwCl (List.flatten [bMo g o a 0 hi ac tp x_5 x_6 x_7 fl x_8 x_9 x_10 x_11 fm_12 fk fa2_1 fc ft ff_13 fb_14 fi]) H → va_D A (List.flatten [bMo g o a 0 hi ac tp x_5 x_6 x_7 fl x_8 x_9 x_10 x_11 fm_12 fk fa2_1 fc ft ff_13 fb_14 fi]) → va_S A s.heap H locs → lv_has ls 4 [(0, .ref o), (1, .int x_3), (2, .int x_4)] → W p l e ({ frames := 33, cells := 0, slots := 0, locals := 736 } : Room) s m args below meth c H locs (0) (0) (zF g (fun u : Int32 × Int32 × Int32 × Int32 × Int32 × Int32 × Int32 × Int32 × (Nat → Int32) × (Nat → Int32) × (Nat → Int32) × (Nat → Int32) × Int32 => (fun (th2 : Int32) (ba2 : Int32) (en2 : Int32) (at2 : Int32) (de2 : Int32) (iD2 : Int32) (iO2 : Int32) (tU2 : Int32) (ff2 : Nat → Int32) (fm2 : Nat → Int32) (fb2 : Nat → Int32) (fa2 : Nat → Int32) (q : Int32) => some (.int q)) (u.1) (u.2.1) (u.2.2.1) (u.2.2.2.1) (u.2.2.2.2.1) (u.2.2.2.2.2.1) (u.2.2.2.2.2.2.1) (u.2.2.2.2.2.2.2.1) (u.2.2.2.2.2.2.2.2.1) (u.2.2.2.2.2.2.2.2.2.1) (u.2.2.2.2.2.2.2.2.2.2.1) (u.2.2.2.2.2.2.2.2.2.2.2.1) (u.2.2.2.2.2.2.2.2.2.2.2.2)) (fun u : Int32 × Int32 × Int32 × Int32 × Int32 × Int32 × Int32 × Int32 × (Nat → Int32) × (Nat → Int32) × (Nat → Int32) × (Nat → Int32) × Int32 => (fun (th2 : Int32) (ba2 : Int32) (en2 : Int32) (at2 : Int32) (de2 : Int32) (iD2 : Int32) (iO2 : Int32) (tU2 : Int32) (ff2 : Nat → Int32) (fm2 : Nat → Int32) (fb2 : Nat → Int32) (fa2 : Nat → Int32) (q : Int32) => (rM fa2) ∧ (rM fm2) ∧ (0 ≤ iO2.toInt ∧ iO2.toInt ≤ 1) ∧ (0 ≤ iD2.toInt ∧ iD2.toInt ≤ 1)) (u.1) (u.2.1) (u.2.2.1) (u.2.2.2.1) (u.2.2.2.2.1) (u.2.2.2.2.2.1) (u.2.2.2.2.2.2.1) (u.2.2.2.2.2.2.2.1) (u.2.2.2.2.2.2.2.2.1) (u.2.2.2.2.2.2.2.2.2.1) (u.2.2.2.2.2.2.2.2.2.2.1) (u.2.2.2.2.2.2.2.2.2.2.2.1) (u.2.2.2.2.2.2.2.2.2.2.2.2)) (fun u : Int32 × Int32 × Int32 × Int32 × Int32 × Int32 × Int32 × Int32 × (Nat → Int32) × (Nat → Int32) × (Nat → Int32) × (Nat → Int32) × Int32 => (fun (th2 : Int32) (ba2 : Int32) (en2 : Int32) (at2 : Int32) (de2 : Int32) (iD2 : Int32) (iO2 : Int32) (tU2 : Int32) (ff2 : Nat → Int32) (fm2 : Nat → Int32) (fb2 : Nat → Int32) (fa2 : Nat → Int32) (q : Int32) => [bMo g o a th2 hi ac tp ba2 en2 at2 fl de2 iD2 iO2 tU2 fm2 fk fa2 fc ft ff2 fb2 fi]) (u.1) (u.2.1) (u.2.2.1) (u.2.2.2.1) (u.2.2.2.2.1) (u.2.2.2.2.2.1) (u.2.2.2.2.2.2.1) (u.2.2.2.2.2.2.2.1) (u.2.2.2.2.2.2.2.2.1) (u.2.2.2.2.2.2.2.2.2.1) (u.2.2.2.2.2.2.2.2.2.2.1) (u.2.2.2.2.2.2.2.2.2.2.2.1) (u.2.2.2.2.2.2.2.2.2.2.2.2)) ({ frames := 33, cells := 0, slots := 0, locals := 736 } : Room) below args s A) (F0 m 13 ls []) := by
    intro kf
    induction kf with
    | zero => intro x_3 x_4 x_5 x_6 x_7 x_8 x_9 x_10 x_11 fm_12 ff_13 fb_14 i15 i16 i17 i18 rfm_12 H locs ls hk; exact absurd hk (Nat.not_lt_zero _)
    | succ kf ih13_20 =>
      intro x_3 x_4 x_5 x_6 x_7 x_8 x_9 x_10 x_11 fm_12 ff_13 fb_14 i15 i16 i17 i18 rfm_12 H locs ls hk13_20 hP hD hS hl
      refine lv_iload_n hx hb dX12_ruin_13 rfl (lv_at hl 2 rfl) ?_
      refine lv_bipush (v := 100) hx hb dX12_ruin_14 (by decide) ?_
      refine lv_icmp_gt (tgt := 67) hx hb dX12_ruin_16 (by decide) (fun cb9 => ?_) (fun cb9 => ?_)
      · skip
        have c21 : 100 < x_4.toInt := zlti cb9 (by decide) rfl
        have n22 : 101 ≤ x_4.toInt := zL2 (a := 100) c21 (Int.le_refl _) (by decide)
        refine lv_aload_n hx hb dX12_ruin_67 rfl (lv_at hl 0 rfl) ?_
        refine mcallV' (g := g) (q0 := 0) (ci := 10) (As := []) (rest := []) St hK hT hA hP hD hS hl.1 [0] [] rfl rfl rfl (m_comesBack l g o a 0 hi ac tp x_5 x_6 x_7 fl x_8 x_9 x_10 x_11 fm_12 fk fa2_1 fc ft ff_13 fb_14 fi rfm_12 rfa2_1) (cwV 0 hts (zgL (zl4 k983 k984 k985 k837) k972) rfl rfl rfl (by decide +kernel) ⟨Nat.le_of_ble_eq_true rfl, Nat.le_of_ble_eq_true rfl⟩) rfl rfl rfl rfl (Nat.le_of_ble_eq_true rfl) dX12_ruin_68 ⟨(Nat.le_of_ble_eq_true rfl), (Nat.le_of_ble_eq_true rfl)⟩ (fun fm2_23 H locs hq24 hP hD hS => ?_)
        replace hq24 : (rM fm2_23) := hq24
        have hP : va_P g.1 vwCl (List.flatten [bMo g o a 0 hi ac tp x_5 x_6 x_7 fl x_8 x_9 x_10 x_11 fm2_23 fk fa2_1 fc ft ff_13 fb_14 fi]) H := hP
        have hD : va_D A (List.flatten [bMo g o a 0 hi ac tp x_5 x_6 x_7 fl x_8 x_9 x_10 x_11 fm2_23 fk fa2_1 fc ft ff_13 fb_14 fi]) := hD
        refine W.widen (k := 0) (n := 0) (Nat.le_of_ble_eq_true rfl) (Nat.le_of_ble_eq_true rfl) ?_
        refine W.eq (g2 := F0 m 71 ls []) rfl ?_
        have rfm2_23 := hq24; clear hq24
        refine lv_iload_n hx hb dX12_ruin_71 rfl (lv_at hl 1 rfl) ?_
        have hP : va_P g.1 vwCl (List.flatten [bMo g o a 0 hi ac tp x_5 x_6 x_7 fl x_8 x_9 x_10 x_11 fm2_23 fk fa2_1 fc ft ff_13 fb_14 fi]) H := hP
        have hD : va_D A (List.flatten [bMo g o a 0 hi ac tp x_5 x_6 x_7 fl x_8 x_9 x_10 x_11 fm2_23 fk fa2_1 fc ft ff_13 fb_14 fi]) := hD
        exact mret_i hx hb hr hlocks hS (Nat.le_of_ble_eq_true rfl) (Nat.le_of_ble_eq_true rfl) dX12_ruin_72 ((0 : Int32), x_5, x_6, x_7, x_8, x_9, x_10, x_11, ff_13, fm2_23, fb_14, fa2_1, x_3) rfl (show (rM fa2_1) ∧ (rM fm2_23) ∧ (0 ≤ x_10.toInt ∧ x_10.toInt ≤ 1) ∧ (0 ≤ x_9.toInt ∧ x_9.toInt ≤ 1) from ⟨rfa2_1, rfm2_23, i18, i17⟩) hP hD
      · skip
        have c25 : x_4.toInt ≤ 100 := zle (Int32.not_lt.mp cb9) rfl (by decide)
        have n26 : x_4.toInt ≤ 100 := Int.le_trans c25 (Int.le_refl _)
        refine lv_iload_n hx hb dX12_ruin_19 rfl (lv_at hl 1 rfl) ?_
        refine lv_iconst (v := (-1)) hx hb dX12_ruin_20 (by decide) ?_
        refine lv_icmp_ne (tgt := 67) hx hb dX12_ruin_21 (by decide) (fun cb9 => ?_) (fun cb9 => ?_)
        · skip
          have c27 : ¬ x_3.toInt = (-1) := zne cb9 rfl (by decide)
          have n28 : 0 ≤ x_3.toInt := zN1 c27 i15.1 (by decide)
          refine lv_aload_n hx hb dX12_ruin_67 rfl (lv_at hl 0 rfl) ?_
          refine mcallV' (g := g) (q0 := 0) (ci := 10) (As := []) (rest := []) St hK hT hA hP hD hS hl.1 [0] [] rfl rfl rfl (m_comesBack l g o a 0 hi ac tp x_5 x_6 x_7 fl x_8 x_9 x_10 x_11 fm_12 fk fa2_1 fc ft ff_13 fb_14 fi rfm_12 rfa2_1) (cwV 0 hts (zgL (zl4 k983 k984 k985 k837) k972) rfl rfl rfl (by decide +kernel) ⟨Nat.le_of_ble_eq_true rfl, Nat.le_of_ble_eq_true rfl⟩) rfl rfl rfl rfl (Nat.le_of_ble_eq_true rfl) dX12_ruin_68 ⟨(Nat.le_of_ble_eq_true rfl), (Nat.le_of_ble_eq_true rfl)⟩ (fun fm2_29 H locs hq30 hP hD hS => ?_)
          replace hq30 : (rM fm2_29) := hq30
          have hP : va_P g.1 vwCl (List.flatten [bMo g o a 0 hi ac tp x_5 x_6 x_7 fl x_8 x_9 x_10 x_11 fm2_29 fk fa2_1 fc ft ff_13 fb_14 fi]) H := hP
          have hD : va_D A (List.flatten [bMo g o a 0 hi ac tp x_5 x_6 x_7 fl x_8 x_9 x_10 x_11 fm2_29 fk fa2_1 fc ft ff_13 fb_14 fi]) := hD
          refine W.widen (k := 0) (n := 0) (Nat.le_of_ble_eq_true rfl) (Nat.le_of_ble_eq_true rfl) ?_
          refine W.eq (g2 := F0 m 71 ls []) rfl ?_
          have rfm2_29 := hq30; clear hq30
          refine lv_iload_n hx hb dX12_ruin_71 rfl (lv_at hl 1 rfl) ?_
          have hP : va_P g.1 vwCl (List.flatten [bMo g o a 0 hi ac tp x_5 x_6 x_7 fl x_8 x_9 x_10 x_11 fm2_29 fk fa2_1 fc ft ff_13 fb_14 fi]) H := hP
          have hD : va_D A (List.flatten [bMo g o a 0 hi ac tp x_5 x_6 x_7 fl x_8 x_9 x_10 x_11 fm2_29 fk fa2_1 fc ft ff_13 fb_14 fi]) := hD
          exact mret_i hx hb hr hlocks hS (Nat.le_of_ble_eq_true rfl) (Nat.le_of_ble_eq_true rfl) dX12_ruin_72 ((0 : Int32), x_5, x_6, x_7, x_8, x_9, x_10, x_11, ff_13, fm2_29, fb_14, fa2_1, x_3) rfl (show (rM fa2_1) ∧ (rM fm2_29) ∧ (0 ≤ x_10.toInt ∧ x_10.toInt ≤ 1) ∧ (0 ≤ x_9.toInt ∧ x_9.toInt ≤ 1) from ⟨rfa2_1, rfm2_29, i18, i17⟩) hP hD
        · skip
          have c31 : x_3.toInt = (-1) := zeq cb9 rfl (by decide)
          have n32 : x_3.toInt ≤ (-1) := Int.le_trans (Int.le_of_eq c31) (Int.le_refl _)
          refine lv_aload_n hx hb dX12_ruin_24 rfl (lv_at hl 0 rfl) ?_
          refine mcallV' (g := g) (q0 := 0) (ci := 10) (As := []) (rest := []) St hK hT hA hP hD hS hl.1 [0] [] rfl rfl rfl (m_hereOnes l g o a 0 hi ac tp x_5 x_6 x_7 fl x_8 x_9 x_10 x_11 fm_12 fk fa2_1 fc ft ff_13 fb_14 fi rfm_12) (cwV 0 hts (zgL (zl4 k849 k850 k851 k837) k843) rfl rfl rfl (by decide +kernel) ⟨Nat.le_of_ble_eq_true rfl, Nat.le_of_ble_eq_true rfl⟩) rfl rfl rfl rfl (Nat.le_of_ble_eq_true rfl) dX12_ruin_25 ⟨(Nat.le_of_ble_eq_true rfl), (Nat.le_of_ble_eq_true rfl)⟩ (fun q_33 H locs hq34 hP hD hS => ?_)
          have hP : va_P g.1 vwCl (List.flatten [bMo g o a 0 hi ac tp x_5 x_6 x_7 fl x_8 x_9 x_10 x_11 fm_12 fk fa2_1 fc ft ff_13 fb_14 fi]) H := hP
          have hD : va_D A (List.flatten [bMo g o a 0 hi ac tp x_5 x_6 x_7 fl x_8 x_9 x_10 x_11 fm_12 fk fa2_1 fc ft ff_13 fb_14 fi]) := hD
          refine W.widen (k := 0) (n := 0) (Nat.le_of_ble_eq_true rfl) (Nat.le_of_ble_eq_true rfl) ?_
          refine W.eq (g2 := F0 m 28 ls [.int q_33]) rfl ?_
          refine lv_if_eq (tgt := 54) hx hb dX12_ruin_28 (by decide) (fun cb9 => ?_) (fun cb9 => ?_)
          · skip
            have c35 : q_33.toInt = 0 := zeq cb9 rfl (by decide)
            have n36 : 0 ≤ q_33.toInt := Int.le_trans (Int.le_refl _) (Int.le_of_eq c35.symm)
            have n37 : q_33.toInt ≤ 0 := Int.le_trans (Int.le_of_eq c35) (Int.le_refl _)
            refine lv_aload_n hx hb dX12_ruin_54 rfl (lv_at hl 0 rfl) ?_
            refine lv_iconst (v := 1) hx hb dX12_ruin_55 (by decide) ?_
            refine lv_iconst (v := 0) hx hb dX12_ruin_56 (by decide) ?_
            have hL1 : (1 : Int32).toInt = 1 := by decide
            refine mcallV' (g := g) (q0 := 0) (ci := 10) (As := [.int 1, .int 0]) (rest := []) St hK hT hA hP hD hS hl.1 [0] [] rfl rfl rfl (m_goes l g o a 0 hi ac tp x_5 x_6 x_7 fl x_8 x_9 x_10 x_11 fm_12 fk fa2_1 fc ft ff_13 fb_14 fi 1 0 rfm_12 i17 i18 (by decide)) (cwV 2 hts (zgL (zl4 k1056 k1057 k1058 k837) k1027) rfl rfl rfl (by decide +kernel) ⟨Nat.le_of_ble_eq_true rfl, Nat.le_of_ble_eq_true rfl⟩) rfl rfl rfl rfl (Nat.le_of_ble_eq_true rfl) dX12_ruin_57 ⟨(Nat.le_of_ble_eq_true rfl), (Nat.le_of_ble_eq_true rfl)⟩ (fun u_ H locs hq49 hP hD hS => ?_)
            obtain ⟨ba2_38, en2_39, at2_40, de2_41, iD2_42, iO2_43, tU2_44, ff2_45, fm2_46, fb2_47, q_48⟩ := u_
            replace hq49 : (rM fm2_46) ∧ (0 ≤ iO2_43.toInt ∧ iO2_43.toInt ≤ 1) ∧ (0 ≤ iD2_42.toInt ∧ iD2_42.toInt ≤ 1) := hq49
            have hP : va_P g.1 vwCl (List.flatten [bMo g o a 0 hi ac tp ba2_38 en2_39 at2_40 fl de2_41 iD2_42 iO2_43 tU2_44 fm2_46 fk fa2_1 fc ft ff2_45 fb2_47 fi]) H := hP
            have hD : va_D A (List.flatten [bMo g o a 0 hi ac tp ba2_38 en2_39 at2_40 fl de2_41 iD2_42 iO2_43 tU2_44 fm2_46 fk fa2_1 fc ft ff2_45 fb2_47 fi]) := hD
            refine W.widen (k := 0) (n := 0) (Nat.le_of_ble_eq_true rfl) (Nat.le_of_ble_eq_true rfl) ?_
            refine W.eq (g2 := F0 m 60 ls [.int q_48]) rfl ?_
            obtain ⟨rfm2_46, hq49_1, hq49_2⟩ := hq49
            refine lv_istore_n (lv' := [(3, .int q_48), (0, .ref o), (1, .int x_3), (2, .int x_4)]) hx hb dX12_ruin_60 rfl hl (by decide) rfl (fun ls hl => ?_)
            refine ziinc3 (n' := 1) (a' := 1) (b' := 101) (lv' := fun v9 => [(2, .int v9), (3, .int q_48), (0, .ref o), (1, .int x_3)]) hx hb dX12_ruin_61 hl (k := 3) rfl (by decide) (fun _ => rfl) (zaddK (i := x_4.toInt) (j := 1) rfl (by decide) i16.1 n26 (Int.le_refl _) (Int.le_refl _) (by decide)) (fun x_50 ls hx_50 hl => ?_)
            refine lv_goto (tgt := 13) hx hb dX12_ruin_64 (by decide) ?_
            have hl := lv_sub (l' := [(0, .ref o), (1, .int x_3), (2, .int x_50), (3, .int q_48)]) hl [2, 3, 0, 1] rfl
            have hP : va_P g.1 vwCl (List.flatten [bMo g o a 0 hi ac tp ba2_38 en2_39 at2_40 fl de2_41 iD2_42 iO2_43 tU2_44 fm2_46 fk fa2_1 fc ft ff2_45 fb2_47 fi]) H := hP
            have hD : va_D A (List.flatten [bMo g o a 0 hi ac tp ba2_38 en2_39 at2_40 fl de2_41 iD2_42 iO2_43 tU2_44 fm2_46 fk fa2_1 fc ft ff2_45 fb2_47 fi]) := hD
            exact ih13_20 x_3 x_50 ba2_38 en2_39 at2_40 de2_41 iD2_42 iO2_43 tU2_44 fm2_46 ff2_45 fb2_47 ⟨i15.1, (Int.le_trans n32 (by decide))⟩ ⟨(Int.le_trans (by decide) hx_50.2.1), hx_50.2.2⟩ ⟨hq49_2.1, hq49_2.2⟩ ⟨hq49_1.1, hq49_1.2⟩ rfm2_46 H _ ls (zmK hx_50.1 (by decide) n26 (by decide) hk13_20)  hP hD hS (lv_sub hl [0, 1, 2] rfl)
          · skip
            have c51 : ¬ q_33.toInt = 0 := zne cb9 rfl (by decide)
            refine lv_iconst (v := 3) hx hb dX12_ruin_31 (by decide) ?_
            refine lv_aload_n hx hb dX12_ruin_32 rfl (lv_at hl 0 rfl) ?_
            refine mcallV' (g := g) (q0 := 0) (ci := 10) (As := []) (rest := [.int 3]) St hK hT hA hP hD hS hl.1 [0] [] rfl rfl rfl (m_doubtsNow l g o a 0 hi ac tp x_5 x_6 x_7 fl x_8 x_9 x_10 x_11 fm_12 fk fa2_1 fc ft ff_13 fb_14 fi rfm_12) (cwV 0 hts (zgL (zl4 k1074 k1075 k1076 k837) k1072) rfl rfl rfl (by decide +kernel) ⟨Nat.le_of_ble_eq_true rfl, Nat.le_of_ble_eq_true rfl⟩) rfl rfl rfl rfl (Nat.le_of_ble_eq_true rfl) dX12_ruin_33 ⟨(Nat.le_of_ble_eq_true rfl), (Nat.le_of_ble_eq_true rfl)⟩ (fun q_52 H locs hq53 hP hD hS => ?_)
            have hP : va_P g.1 vwCl (List.flatten [bMo g o a 0 hi ac tp x_5 x_6 x_7 fl x_8 x_9 x_10 x_11 fm_12 fk fa2_1 fc ft ff_13 fb_14 fi]) H := hP
            have hD : va_D A (List.flatten [bMo g o a 0 hi ac tp x_5 x_6 x_7 fl x_8 x_9 x_10 x_11 fm_12 fk fa2_1 fc ft ff_13 fb_14 fi]) := hD
            refine W.widen (k := 0) (n := 0) (Nat.le_of_ble_eq_true rfl) (Nat.le_of_ble_eq_true rfl) ?_
            refine W.eq (g2 := F0 m 36 ls [.int q_52, .int 3]) rfl ?_
            refine mcallS' (g := g) (As := [.int q_52]) (rest := [.int 3]) St hK hT hA hP hD hS hl.1 [] [0] rfl rfl rfl (m_bits l g q_52 ) (va_cwS 1 hts (zgL (zl3 k852 k853 k837) k828) rfl rfl rfl (by decide +kernel) ⟨Nat.le_of_ble_eq_true rfl, Nat.le_of_ble_eq_true rfl⟩) rfl rfl (Nat.le_of_ble_eq_true rfl) dX12_ruin_36 ⟨(Nat.le_of_ble_eq_true rfl), (Nat.le_of_ble_eq_true rfl)⟩ (fun q_54 H locs hq55 hP hD hS => ?_)
            have hP : va_P g.1 vwCl (List.flatten [bMo g o a 0 hi ac tp x_5 x_6 x_7 fl x_8 x_9 x_10 x_11 fm_12 fk fa2_1 fc ft ff_13 fb_14 fi]) H := hP
            have hD : va_D A (List.flatten [bMo g o a 0 hi ac tp x_5 x_6 x_7 fl x_8 x_9 x_10 x_11 fm_12 fk fa2_1 fc ft ff_13 fb_14 fi]) := hD
            refine W.widen (k := 0) (n := 0) (Nat.le_of_ble_eq_true rfl) (Nat.le_of_ble_eq_true rfl) ?_
            refine W.eq (g2 := F0 m 39 ls [.int q_54, .int 3]) rfl ?_
            refine lv_imul hx hb dX12_ruin_39 ?_
            refine zg (fun x_56 => ?_)
            refine lv_iconst (v := 2) hx hb dX12_ruin_40 (by decide) ?_
            refine lv_aload_n hx hb dX12_ruin_41 rfl (lv_at hl 0 rfl) ?_
            refine mcallV' (g := g) (q0 := 0) (ci := 10) (As := []) (rest := [.int 2, .int x_56]) St hK hT hA hP hD hS hl.1 [0] [] rfl rfl rfl (m_hereOnes l g o a 0 hi ac tp x_5 x_6 x_7 fl x_8 x_9 x_10 x_11 fm_12 fk fa2_1 fc ft ff_13 fb_14 fi rfm_12) (cwV 0 hts (zgL (zl4 k849 k850 k851 k837) k843) rfl rfl rfl (by decide +kernel) ⟨Nat.le_of_ble_eq_true rfl, Nat.le_of_ble_eq_true rfl⟩) rfl rfl rfl rfl (Nat.le_of_ble_eq_true rfl) dX12_ruin_42 ⟨(Nat.le_of_ble_eq_true rfl), (Nat.le_of_ble_eq_true rfl)⟩ (fun q_57 H locs hq58 hP hD hS => ?_)
            have hP : va_P g.1 vwCl (List.flatten [bMo g o a 0 hi ac tp x_5 x_6 x_7 fl x_8 x_9 x_10 x_11 fm_12 fk fa2_1 fc ft ff_13 fb_14 fi]) H := hP
            have hD : va_D A (List.flatten [bMo g o a 0 hi ac tp x_5 x_6 x_7 fl x_8 x_9 x_10 x_11 fm_12 fk fa2_1 fc ft ff_13 fb_14 fi]) := hD
            refine W.widen (k := 0) (n := 0) (Nat.le_of_ble_eq_true rfl) (Nat.le_of_ble_eq_true rfl) ?_
            refine W.eq (g2 := F0 m 45 ls [.int q_57, .int 2, .int x_56]) rfl ?_
            refine mcallS' (g := g) (As := [.int q_57]) (rest := [.int 2, .int x_56]) St hK hT hA hP hD hS hl.1 [] [0] rfl rfl rfl (m_bits l g q_57 ) (va_cwS 1 hts (zgL (zl3 k852 k853 k837) k828) rfl rfl rfl (by decide +kernel) ⟨Nat.le_of_ble_eq_true rfl, Nat.le_of_ble_eq_true rfl⟩) rfl rfl (Nat.le_of_ble_eq_true rfl) dX12_ruin_45 ⟨(Nat.le_of_ble_eq_true rfl), (Nat.le_of_ble_eq_true rfl)⟩ (fun q_59 H locs hq60 hP hD hS => ?_)
            have hP : va_P g.1 vwCl (List.flatten [bMo g o a 0 hi ac tp x_5 x_6 x_7 fl x_8 x_9 x_10 x_11 fm_12 fk fa2_1 fc ft ff_13 fb_14 fi]) H := hP
            have hD : va_D A (List.flatten [bMo g o a 0 hi ac tp x_5 x_6 x_7 fl x_8 x_9 x_10 x_11 fm_12 fk fa2_1 fc ft ff_13 fb_14 fi]) := hD
            refine W.widen (k := 0) (n := 0) (Nat.le_of_ble_eq_true rfl) (Nat.le_of_ble_eq_true rfl) ?_
            refine W.eq (g2 := F0 m 48 ls [.int q_59, .int 2, .int x_56]) rfl ?_
            refine lv_imul hx hb dX12_ruin_48 ?_
            refine zg (fun x_61 => ?_)
            refine lv_icmp_lt (tgt := 54) hx hb dX12_ruin_49 (by decide) (fun cb9 => ?_) (fun cb9 => ?_)
            · skip
              have c62 : x_56.toInt < x_61.toInt := zlti cb9 rfl rfl
              refine lv_aload_n hx hb dX12_ruin_54 rfl (lv_at hl 0 rfl) ?_
              refine lv_iconst (v := 1) hx hb dX12_ruin_55 (by decide) ?_
              refine lv_iconst (v := 0) hx hb dX12_ruin_56 (by decide) ?_
              have hL1 : (1 : Int32).toInt = 1 := by decide
              refine mcallV' (g := g) (q0 := 0) (ci := 10) (As := [.int 1, .int 0]) (rest := []) St hK hT hA hP hD hS hl.1 [0] [] rfl rfl rfl (m_goes l g o a 0 hi ac tp x_5 x_6 x_7 fl x_8 x_9 x_10 x_11 fm_12 fk fa2_1 fc ft ff_13 fb_14 fi 1 0 rfm_12 i17 i18 (by decide)) (cwV 2 hts (zgL (zl4 k1056 k1057 k1058 k837) k1027) rfl rfl rfl (by decide +kernel) ⟨Nat.le_of_ble_eq_true rfl, Nat.le_of_ble_eq_true rfl⟩) rfl rfl rfl rfl (Nat.le_of_ble_eq_true rfl) dX12_ruin_57 ⟨(Nat.le_of_ble_eq_true rfl), (Nat.le_of_ble_eq_true rfl)⟩ (fun u_ H locs hq74 hP hD hS => ?_)
              obtain ⟨ba2_63, en2_64, at2_65, de2_66, iD2_67, iO2_68, tU2_69, ff2_70, fm2_71, fb2_72, q_73⟩ := u_
              replace hq74 : (rM fm2_71) ∧ (0 ≤ iO2_68.toInt ∧ iO2_68.toInt ≤ 1) ∧ (0 ≤ iD2_67.toInt ∧ iD2_67.toInt ≤ 1) := hq74
              have hP : va_P g.1 vwCl (List.flatten [bMo g o a 0 hi ac tp ba2_63 en2_64 at2_65 fl de2_66 iD2_67 iO2_68 tU2_69 fm2_71 fk fa2_1 fc ft ff2_70 fb2_72 fi]) H := hP
              have hD : va_D A (List.flatten [bMo g o a 0 hi ac tp ba2_63 en2_64 at2_65 fl de2_66 iD2_67 iO2_68 tU2_69 fm2_71 fk fa2_1 fc ft ff2_70 fb2_72 fi]) := hD
              refine W.widen (k := 0) (n := 0) (Nat.le_of_ble_eq_true rfl) (Nat.le_of_ble_eq_true rfl) ?_
              refine W.eq (g2 := F0 m 60 ls [.int q_73]) rfl ?_
              obtain ⟨rfm2_71, hq74_1, hq74_2⟩ := hq74
              refine lv_istore_n (lv' := [(3, .int q_73), (0, .ref o), (1, .int x_3), (2, .int x_4)]) hx hb dX12_ruin_60 rfl hl (by decide) rfl (fun ls hl => ?_)
              refine ziinc3 (n' := 1) (a' := 1) (b' := 101) (lv' := fun v9 => [(2, .int v9), (3, .int q_73), (0, .ref o), (1, .int x_3)]) hx hb dX12_ruin_61 hl (k := 3) rfl (by decide) (fun _ => rfl) (zaddK (i := x_4.toInt) (j := 1) rfl (by decide) i16.1 n26 (Int.le_refl _) (Int.le_refl _) (by decide)) (fun x_75 ls hx_75 hl => ?_)
              refine lv_goto (tgt := 13) hx hb dX12_ruin_64 (by decide) ?_
              have hl := lv_sub (l' := [(0, .ref o), (1, .int x_3), (2, .int x_75), (3, .int q_73)]) hl [2, 3, 0, 1] rfl
              have hP : va_P g.1 vwCl (List.flatten [bMo g o a 0 hi ac tp ba2_63 en2_64 at2_65 fl de2_66 iD2_67 iO2_68 tU2_69 fm2_71 fk fa2_1 fc ft ff2_70 fb2_72 fi]) H := hP
              have hD : va_D A (List.flatten [bMo g o a 0 hi ac tp ba2_63 en2_64 at2_65 fl de2_66 iD2_67 iO2_68 tU2_69 fm2_71 fk fa2_1 fc ft ff2_70 fb2_72 fi]) := hD
              exact ih13_20 x_3 x_75 ba2_63 en2_64 at2_65 de2_66 iD2_67 iO2_68 tU2_69 fm2_71 ff2_70 fb2_72 ⟨i15.1, (Int.le_trans n32 (by decide))⟩ ⟨(Int.le_trans (by decide) hx_75.2.1), hx_75.2.2⟩ ⟨hq74_2.1, hq74_2.2⟩ ⟨hq74_1.1, hq74_1.2⟩ rfm2_71 H _ ls (zmK hx_75.1 (by decide) n26 (by decide) hk13_20)  hP hD hS (lv_sub hl [0, 1, 2] rfl)
            · skip
              have c76 : x_61.toInt ≤ x_56.toInt := zle (Int32.not_lt.mp cb9) rfl rfl
              refine lv_iload_n hx hb dX12_ruin_52 rfl (lv_at hl 2 rfl) ?_
              refine lv_istore_n (lv' := [(1, .int x_4), (0, .ref o), (2, .int x_4)]) hx hb dX12_ruin_53 rfl hl (by decide) rfl (fun ls hl => ?_)
              refine lv_aload_n hx hb dX12_ruin_54 rfl (lv_at hl 1 rfl) ?_
              refine lv_iconst (v := 1) hx hb dX12_ruin_55 (by decide) ?_
              refine lv_iconst (v := 0) hx hb dX12_ruin_56 (by decide) ?_
              have hL1 : (1 : Int32).toInt = 1 := by decide
              refine mcallV' (g := g) (q0 := 0) (ci := 10) (As := [.int 1, .int 0]) (rest := []) St hK hT hA hP hD hS hl.1 [0] [] rfl rfl rfl (m_goes l g o a 0 hi ac tp x_5 x_6 x_7 fl x_8 x_9 x_10 x_11 fm_12 fk fa2_1 fc ft ff_13 fb_14 fi 1 0 rfm_12 i17 i18 (by decide)) (cwV 2 hts (zgL (zl4 k1056 k1057 k1058 k837) k1027) rfl rfl rfl (by decide +kernel) ⟨Nat.le_of_ble_eq_true rfl, Nat.le_of_ble_eq_true rfl⟩) rfl rfl rfl rfl (Nat.le_of_ble_eq_true rfl) dX12_ruin_57 ⟨(Nat.le_of_ble_eq_true rfl), (Nat.le_of_ble_eq_true rfl)⟩ (fun u_ H locs hq88 hP hD hS => ?_)
              obtain ⟨ba2_77, en2_78, at2_79, de2_80, iD2_81, iO2_82, tU2_83, ff2_84, fm2_85, fb2_86, q_87⟩ := u_
              replace hq88 : (rM fm2_85) ∧ (0 ≤ iO2_82.toInt ∧ iO2_82.toInt ≤ 1) ∧ (0 ≤ iD2_81.toInt ∧ iD2_81.toInt ≤ 1) := hq88
              have hP : va_P g.1 vwCl (List.flatten [bMo g o a 0 hi ac tp ba2_77 en2_78 at2_79 fl de2_80 iD2_81 iO2_82 tU2_83 fm2_85 fk fa2_1 fc ft ff2_84 fb2_86 fi]) H := hP
              have hD : va_D A (List.flatten [bMo g o a 0 hi ac tp ba2_77 en2_78 at2_79 fl de2_80 iD2_81 iO2_82 tU2_83 fm2_85 fk fa2_1 fc ft ff2_84 fb2_86 fi]) := hD
              refine W.widen (k := 0) (n := 0) (Nat.le_of_ble_eq_true rfl) (Nat.le_of_ble_eq_true rfl) ?_
              refine W.eq (g2 := F0 m 60 ls [.int q_87]) rfl ?_
              obtain ⟨rfm2_85, hq88_1, hq88_2⟩ := hq88
              refine lv_istore_n (lv' := [(3, .int q_87), (1, .int x_4), (0, .ref o), (2, .int x_4)]) hx hb dX12_ruin_60 rfl hl (by decide) rfl (fun ls hl => ?_)
              refine ziinc3 (n' := 1) (a' := 1) (b' := 101) (lv' := fun v9 => [(2, .int v9), (3, .int q_87), (1, .int x_4), (0, .ref o)]) hx hb dX12_ruin_61 hl (k := 3) rfl (by decide) (fun _ => rfl) (zaddK (i := x_4.toInt) (j := 1) rfl (by decide) i16.1 n26 (Int.le_refl _) (Int.le_refl _) (by decide)) (fun x_89 ls hx_89 hl => ?_)
              refine lv_goto (tgt := 13) hx hb dX12_ruin_64 (by decide) ?_
              have hl := lv_sub (l' := [(0, .ref o), (1, .int x_4), (2, .int x_89), (3, .int q_87)]) hl [3, 2, 0, 1] rfl
              have hP : va_P g.1 vwCl (List.flatten [bMo g o a 0 hi ac tp ba2_77 en2_78 at2_79 fl de2_80 iD2_81 iO2_82 tU2_83 fm2_85 fk fa2_1 fc ft ff2_84 fb2_86 fi]) H := hP
              have hD : va_D A (List.flatten [bMo g o a 0 hi ac tp ba2_77 en2_78 at2_79 fl de2_80 iD2_81 iO2_82 tU2_83 fm2_85 fk fa2_1 fc ft ff2_84 fb2_86 fi]) := hD
              exact ih13_20 x_4 x_89 ba2_77 en2_78 at2_79 de2_80 iD2_81 iO2_82 tU2_83 fm2_85 ff2_84 fb2_86 ⟨(Int.le_trans (by decide) i16.1), n26⟩ ⟨(Int.le_trans (by decide) hx_89.2.1), hx_89.2.2⟩ ⟨hq88_2.1, hq88_2.2⟩ ⟨hq88_1.1, hq88_1.2⟩ rfm2_85 H _ ls (zmK hx_89.1 (by decide) n26 (by decide) hk13_20)  hP hD hS (lv_sub hl [0, 1, 2] rfl)
  have hP : va_P g.1 vwCl (List.flatten [bMo g o a 0 hi ac tp ba en tA fl de iD iO tU fm fk fa2_1 fc ft ff fb fi]) H := hP
  have hD : va_D A (List.flatten [bMo g o a 0 hi ac tp ba en tA fl de iD iO tU fm fk fa2_1 fc ft ff fb fi]) := hD
  exact LP13_19 _ (-1) 0 ba en tA de iD iO tU fm ff fb (by decide) (by decide) ⟨hiD.1, hiD.2⟩ ⟨hiO.1, hiO.2⟩ rfm H _ ls (Nat.lt_succ_self _)  hP hD hS (lv_sub hl [0, 1, 2] rfl)
set_option maxRecDepth 100000 in
set_option maxHeartbeats 4000000 in
theorem m_seed (l : Launch) (g : zG) (o : Nat) (a : Nat → Nat) (th : Int32) (hi : Int32) (ac : Int32) (tp : Int32) (ba : Int32) (en : Int32) (tA : Int32) (fl : Int32) (de : Int32) (iD : Int32) (iO : Int32) (tU : Int32) (fm : Nat → Int32) (fk : Nat → Int32) (fa : Nat → Int32) (fc : Nat → Int32) (ft : Nat → Int32) (ff : Nat → Int32) (fb : Nat → Int32) (fi : Nat → Int32) (n : Int32) (rfm : rM fm) : zM' g l yX12_seed (Cond.code yX12_seed cX12_seed 3 (some .int) :: zB) ({ frames := 0, cells := 0, slots := 0, locals := 0 } : Room) [.ref o, .int n] [bMo g o a th hi ac tp ba en tA fl de iD iO tU fm fk fa fc ft ff fb fi] (fun u : Int32 × (Nat → Int32) × Int32 => (fun (th2 : Int32) (fm2 : Nat → Int32) (q : Int32) => some (.int q)) (u.1) (u.2.1) (u.2.2)) (fun u : Int32 × (Nat → Int32) × Int32 => (fun (th2 : Int32) (fm2 : Nat → Int32) (q : Int32) => (rM fm2)) (u.1) (u.2.1) (u.2.2)) (fun u : Int32 × (Nat → Int32) × Int32 => (fun (th2 : Int32) (fm2 : Nat → Int32) (q : Int32) => [bMo g o a th2 hi ac tp ba en tA fl de iD iO tU fm2 fk fa fc ft ff fb fi]) (u.1) (u.2.1) (u.2.2)) := by
  refine zM'.of (cc := cX12_seed) (maxL := 3) (rt := (some .int)) (by decide) rfl (Nat.le_of_ble_eq_true rfl) ?_
  intro p e s m args below meth c A ls St hr hlocks hin hK hT hA hP hD hS hl
  obtain ⟨hx, hb, hml, hown, hts⟩ := id St
  have hl : lv_has ls 3 [(0, .ref o), (1, .int n)] := hl
  refine lv_aload_n hx hb dX12_seed_0 rfl (lv_at hl 0 rfl) ?_
  refine lv_iconst (v := 0) hx hb dX12_seed_1 (by decide) ?_
  refine va_put (D := g.1) (ci := 10) (v := .int 0) (ty := .int) (C := RX12) (T := TX12) (N := 20) hx hb hts izRX12 tyX12 tyX12_ok nmX12 hown hK hP hD hS 0 rfl rfl 0 (by decide) (hts _ k871) (fun _ h9 => h9) rfl (by decide +kernel) rfl rfl (Nat.le_of_ble_eq_true rfl) dX12_seed_2 (fun H locs hP hD hS => ?_)
  have hP : va_P g.1 vwCl (List.flatten [bMo g o a 0 hi ac tp ba en tA fl de iD iO tU fm fk fa fc ft ff fb fi]) H := hP
  have hD : va_D A (List.flatten [bMo g o a 0 hi ac tp ba en tA fl de iD iO tU fm fk fa fc ft ff fb fi]) := hD
  refine lv_aload_n hx hb dX12_seed_5 rfl (lv_at hl 0 rfl) ?_
  refine va_get (D := g.1) (ci := 10) (v := .ref (a 0)) (C := RX12) (T := TX12) (N := 20) hx hb hts izRX12 hown hK hP 0 rfl rfl 1 (by decide) (hts _ k815) (fun _ h9 => h9) rfl dX12_seed_6 ?_
  refine lv_bipush (v := 10) hx hb dX12_seed_9 (by decide) ?_
  refine va_iald hx hb hK hP 1 0 rfl rfl (zin rfl) dX12_seed_11 ?_
  refine zg (fun x_1 => ?_)
  refine lv_istore_n (lv' := [(2, .int x_1), (0, .ref o), (1, .int n)]) hx hb dX12_seed_12 rfl hl (by decide) rfl (fun ls hl => ?_)
  refine lv_aload_n hx hb dX12_seed_13 rfl (lv_at hl 1 rfl) ?_
  refine va_get (D := g.1) (ci := 10) (v := .ref (a 0)) (C := RX12) (T := TX12) (N := 20) hx hb hts izRX12 hown hK hP 0 rfl rfl 1 (by decide) (hts _ k815) (fun _ h9 => h9) rfl dX12_seed_14 ?_
  refine lv_bipush (v := 10) hx hb dX12_seed_17 (by decide) ?_
  refine lv_iload_n hx hb dX12_seed_19 rfl (lv_at hl 2 rfl) ?_
  refine va_iast hx hb hK hP hD hS 1 0 rfl rfl (zin rfl) dX12_seed_20 (fun H locs hP hD hS => ?_)
  obtain ⟨fm_2, rfm_2, hP, hD⟩ : ∃ fm_2 : Nat → Int32, rM fm_2 ∧ va_P g.1 vwCl (List.flatten [bMo g o a 0 hi ac tp ba en tA fl de iD iO tU fm_2 fk fa fc ft ff fb fi]) H ∧ va_D A (List.flatten [bMo g o a 0 hi ac tp ba en tA fl de iD iO tU fm_2 fk fa fc ft ff fb fi]) := ⟨upd fm 10 n, (rM_stL rfm (by decide)), hP, hD⟩
  refine lv_iload_n hx hb dX12_seed_21 rfl (lv_at hl 0 rfl) ?_
  have hP : va_P g.1 vwCl (List.flatten [bMo g o a 0 hi ac tp ba en tA fl de iD iO tU fm_2 fk fa fc ft ff fb fi]) H := hP
  have hD : va_D A (List.flatten [bMo g o a 0 hi ac tp ba en tA fl de iD iO tU fm_2 fk fa fc ft ff fb fi]) := hD
  exact mret_i hx hb hr hlocks hS (Nat.le_of_ble_eq_true rfl) (Nat.le_of_ble_eq_true rfl) dX12_seed_22 ((0 : Int32), fm_2, x_1) rfl (show (rM fm_2) from rfm_2) hP hD
set_option maxRecDepth 100000 in
set_option maxHeartbeats 4000000 in
theorem m_undo (l : Launch) (g : zG) (o : Nat) (a : Nat → Nat) (th : Int32) (hi : Int32) (ac : Int32) (tp : Int32) (ba : Int32) (en : Int32) (tA : Int32) (fl : Int32) (de : Int32) (iD : Int32) (iO : Int32) (tU : Int32) (fm : Nat → Int32) (fk : Nat → Int32) (fa : Nat → Int32) (fc : Nat → Int32) (ft : Nat → Int32) (ff : Nat → Int32) (fb : Nat → Int32) (fi : Nat → Int32) (rfm : rM fm) (rfc : rC fc) (hac : 0 ≤ ac.toInt ∧ ac.toInt ≤ 12) : zM' g l yX12_undo (Cond.code yX12_undo cX12_undo 2 (some .boolean) :: zB) ({ frames := 0, cells := 0, slots := 0, locals := 0 } : Room) [.ref o] [bMo g o a th hi ac tp ba en tA fl de iD iO tU fm fk fa fc ft ff fb fi] (fun u : Int32 × Int32 × (Nat → Int32) × Int32 => (fun (th2 : Int32) (ac2 : Int32) (fm2 : Nat → Int32) (q : Int32) => some (.int q)) (u.1) (u.2.1) (u.2.2.1) (u.2.2.2)) (fun u : Int32 × Int32 × (Nat → Int32) × Int32 => (fun (th2 : Int32) (ac2 : Int32) (fm2 : Nat → Int32) (q : Int32) => (rM fm2) ∧ (0 ≤ ac2.toInt ∧ ac2.toInt ≤ 12) ∧ (q = 0 ∨ q = 1)) (u.1) (u.2.1) (u.2.2.1) (u.2.2.2)) (fun u : Int32 × Int32 × (Nat → Int32) × Int32 => (fun (th2 : Int32) (ac2 : Int32) (fm2 : Nat → Int32) (q : Int32) => [bMo g o a th2 hi ac2 tp ba en tA fl de iD iO tU fm2 fk fa fc ft ff fb fi]) (u.1) (u.2.1) (u.2.2.1) (u.2.2.2)) := by
  refine zM'.of (cc := cX12_undo) (maxL := 2) (rt := (some .boolean)) (by decide) rfl (Nat.le_of_ble_eq_true rfl) ?_
  intro p e s m args below meth c A ls St hr hlocks hin hK hT hA hP hD hS hl
  obtain ⟨hx, hb, hml, hown, hts⟩ := id St
  have hl : lv_has ls 2 [(0, .ref o)] := hl
  refine lv_aload_n hx hb dX12_undo_0 rfl (lv_at hl 0 rfl) ?_
  refine lv_iconst (v := 0) hx hb dX12_undo_1 (by decide) ?_
  refine va_put (D := g.1) (ci := 10) (v := .int 0) (ty := .int) (C := RX12) (T := TX12) (N := 20) hx hb hts izRX12 tyX12 tyX12_ok nmX12 hown hK hP hD hS 0 rfl rfl 0 (by decide) (hts _ k871) (fun _ h9 => h9) rfl (by decide +kernel) rfl rfl (Nat.le_of_ble_eq_true rfl) dX12_undo_2 (fun H locs hP hD hS => ?_)
  have hP : va_P g.1 vwCl (List.flatten [bMo g o a 0 hi ac tp ba en tA fl de iD iO tU fm fk fa fc ft ff fb fi]) H := hP
  have hD : va_D A (List.flatten [bMo g o a 0 hi ac tp ba en tA fl de iD iO tU fm fk fa fc ft ff fb fi]) := hD
  refine lv_aload_n hx hb dX12_undo_5 rfl (lv_at hl 0 rfl) ?_
  refine va_get (D := g.1) (ci := 10) (v := .int ac) (C := RX12) (T := TX12) (N := 20) hx hb hts izRX12 hown hK hP 0 rfl rfl 6 (by decide) (hts _ k973) (fun _ h9 => h9) rfl dX12_undo_6 ?_
  refine lv_if_ne (tgt := 14) hx hb dX12_undo_9 (by decide) (fun cb9 => ?_) (fun cb9 => ?_)
  · skip
    have c1 : ¬ ac.toInt = 0 := zne cb9 rfl (by decide)
    have n2 : 1 ≤ ac.toInt := zN1 c1 hac.1 (by decide)
    refine lv_aload_n hx hb dX12_undo_14 rfl (lv_at hl 0 rfl) ?_
    refine lv_dup hx hb dX12_undo_15 rfl ?_
    refine va_get (D := g.1) (ci := 10) (v := .int ac) (C := RX12) (T := TX12) (N := 20) hx hb hts izRX12 hown hK hP 0 rfl rfl 6 (by decide) (hts _ k973) (fun _ h9 => h9) rfl dX12_undo_16 ?_
    refine lv_iconst (v := 1) hx hb dX12_undo_19 (by decide) ?_
    refine lv_isub hx hb dX12_undo_20 ?_
    refine zg3 (zsubK (i := ac.toInt) (j := 1) (a' := 0) (b' := 11) rfl (by decide) n2 hac.2 (Int.le_refl _) (Int.le_refl _) (by decide)) (fun x_3 hx_3 => ?_)
    refine va_put (D := g.1) (ci := 10) (v := .int x_3) (ty := .int) (C := RX12) (T := TX12) (N := 20) hx hb hts izRX12 tyX12 tyX12_ok nmX12 hown hK hP hD hS 0 rfl rfl 6 (by decide) (hts _ k973) (fun _ h9 => h9) rfl (by decide +kernel) rfl rfl (Nat.le_of_ble_eq_true rfl) dX12_undo_21 (fun H locs hP hD hS => ?_)
    have hP : va_P g.1 vwCl (List.flatten [bMo g o a 0 hi x_3 tp ba en tA fl de iD iO tU fm fk fa fc ft ff fb fi]) H := hP
    have hD : va_D A (List.flatten [bMo g o a 0 hi x_3 tp ba en tA fl de iD iO tU fm fk fa fc ft ff fb fi]) := hD
    refine lv_iconst (v := 0) hx hb dX12_undo_24 (by decide) ?_
    refine lv_istore_n (lv' := [(1, .int 0), (0, .ref o)]) hx hb dX12_undo_25 rfl hl (by decide) rfl (fun ls hl => ?_)
    have hl := lv_sub (l' := [(0, .ref o), (1, .int 0)]) hl [1, 0] rfl
    have LP26_7 : ∀ (kf : Nat) (x_4 : Int32) (fm_5 : Nat → Int32), (0 ≤ x_4.toInt ∧ x_4.toInt ≤ 379) → (rM fm_5) → ∀ (H : Heap) (locs : List Loc) (ls : Array Slot), ((380 - x_4.toInt).toNat) < kf → va_P g.1 vwCl (List.flatten [bMo g o a 0 hi x_3 tp ba en tA fl de iD iO tU fm_5 fk fa fc ft ff fb fi]) H → va_D A (List.flatten [bMo g o a 0 hi x_3 tp ba en tA fl de iD iO tU fm_5 fk fa fc ft ff fb fi]) → va_S A s.heap H locs → lv_has ls 2 [(0, .ref o), (1, .int x_4)] → W p l e ({ frames := 0, cells := 0, slots := 0, locals := 0 } : Room) s m args below meth c H locs (0) (0) (zF g (fun u : Int32 × Int32 × (Nat → Int32) × Int32 => (fun (th2 : Int32) (ac2 : Int32) (fm2 : Nat → Int32) (q : Int32) => some (.int q)) (u.1) (u.2.1) (u.2.2.1) (u.2.2.2)) (fun u : Int32 × Int32 × (Nat → Int32) × Int32 => (fun (th2 : Int32) (ac2 : Int32) (fm2 : Nat → Int32) (q : Int32) => (rM fm2) ∧ (0 ≤ ac2.toInt ∧ ac2.toInt ≤ 12) ∧ (q = 0 ∨ q = 1)) (u.1) (u.2.1) (u.2.2.1) (u.2.2.2)) (fun u : Int32 × Int32 × (Nat → Int32) × Int32 => (fun (th2 : Int32) (ac2 : Int32) (fm2 : Nat → Int32) (q : Int32) => [bMo g o a th2 hi ac2 tp ba en tA fl de iD iO tU fm2 fk fa fc ft ff fb fi]) (u.1) (u.2.1) (u.2.2.1) (u.2.2.2)) ({ frames := 0, cells := 0, slots := 0, locals := 0 } : Room) below args s A) (F0 m 26 ls []) := by
      intro kf
      induction kf with
      | zero => intro x_4 fm_5 i6 rfm_5 H locs ls hk; exact absurd hk (Nat.not_lt_zero _)
      | succ kf ih26_8 =>
        intro x_4 fm_5 i6 rfm_5 H locs ls hk26_8 hP hD hS hl
        refine lv_iload_n hx hb dX12_undo_26 rfl (lv_at hl 1 rfl) ?_
        refine lv_sipush (v := 379) hx hb dX12_undo_27 (by decide) ?_
        refine lv_icmp_ge (tgt := 60) hx hb dX12_undo_30 (by decide) (fun cb9 => ?_) (fun cb9 => ?_)
        · skip
          have c9 : 379 ≤ x_4.toInt := zle cb9 (by decide) rfl
          have n10 : 379 ≤ x_4.toInt := Int.le_trans (Int.le_refl _) c9
          refine lv_iconst (v := 1) hx hb dX12_undo_60 (by decide) ?_
          have hP : va_P g.1 vwCl (List.flatten [bMo g o a 0 hi x_3 tp ba en tA fl de iD iO tU fm_5 fk fa fc ft ff fb fi]) H := hP
          have hD : va_D A (List.flatten [bMo g o a 0 hi x_3 tp ba en tA fl de iD iO tU fm_5 fk fa fc ft ff fb fi]) := hD
          exact mret_z hx hb hr hlocks hS (Nat.le_of_ble_eq_true rfl) (Nat.le_of_ble_eq_true rfl) dX12_undo_61 ((0 : Int32), x_3, fm_5, (1 : Int32)) rfl (by decide) (show (rM fm_5) ∧ (0 ≤ x_3.toInt ∧ x_3.toInt ≤ 12) ∧ (1 = 0 ∨ 1 = 1) from ⟨rfm_5, (by first | assumption | omega | decide | exact rfl | exact zb01 (by omega) | exact Or.inl (by decide) | exact Or.inr (by first | omega | decide)), (by decide)⟩) hP hD
        · skip
          have c11 : x_4.toInt < 379 := zlti (Int32.not_le.mp cb9) rfl (by decide)
          have n12 : x_4.toInt ≤ 378 := zL1 (b := 379) c11 (Int.le_refl _) (by decide)
          refine lv_aload_n hx hb dX12_undo_33 rfl (lv_at hl 0 rfl) ?_
          refine va_get (D := g.1) (ci := 10) (v := .ref (a 0)) (C := RX12) (T := TX12) (N := 20) hx hb hts izRX12 hown hK hP 0 rfl rfl 1 (by decide) (hts _ k815) (fun _ h9 => h9) rfl dX12_undo_34 ?_
          refine lv_iload_n hx hb dX12_undo_37 rfl (lv_at hl 1 rfl) ?_
          refine lv_aload_n hx hb dX12_undo_38 rfl (lv_at hl 0 rfl) ?_
          refine va_get (D := g.1) (ci := 10) (v := .ref (a 3)) (C := RX12) (T := TX12) (N := 20) hx hb hts izRX12 hown hK hP 0 rfl rfl 5 (by decide) (hts _ k818) (fun _ h9 => h9) rfl dX12_undo_39 ?_
          refine lv_sipush (v := 379) hx hb dX12_undo_42 (by decide) ?_
          refine lv_aload_n hx hb dX12_undo_45 rfl (lv_at hl 0 rfl) ?_
          refine va_get (D := g.1) (ci := 10) (v := .int x_3) (C := RX12) (T := TX12) (N := 20) hx hb hts izRX12 hown hK hP 0 rfl rfl 6 (by decide) (hts _ k973) (fun _ h9 => h9) rfl dX12_undo_46 ?_
          refine lv_imul hx hb dX12_undo_49 ?_
          refine zg3 (zmulKL (i := x_3.toInt) (n := 379) (a' := 0) (b' := 4169) rfl (by decide) hx_3.2.1 hx_3.2.2 (by decide) (by decide)) (fun x_13 hx_13 => ?_)
          refine lv_iload_n hx hb dX12_undo_50 rfl (lv_at hl 1 rfl) ?_
          refine lv_iadd hx hb dX12_undo_51 ?_
          refine zg3 (zaddK (i := x_13.toInt) (j := x_4.toInt) (a' := 0) (b' := 4547) rfl rfl hx_13.2.1 hx_13.2.2 i6.1 n12 (by decide)) (fun x_14 hx_14 => ?_)
          refine va_iald hx hb hK hP 4 0 rfl rfl (zinK (a := 0) (b := 4547) hx_14.2.1 hx_14.2.2 (by decide)) dX12_undo_52 ?_
          refine va_iast hx hb hK hP hD hS 1 0 rfl rfl (zinK (a := 0) (b := 378) i6.1 n12 (by decide)) dX12_undo_53 (fun H locs hP hD hS => ?_)
          obtain ⟨fm_15, rfm_15, hP, hD⟩ : ∃ fm_15 : Nat → Int32, rM fm_15 ∧ va_P g.1 vwCl (List.flatten [bMo g o a 0 hi x_3 tp ba en tA fl de iD iO tU fm_15 fk fa fc ft ff fb fi]) H ∧ va_D A (List.flatten [bMo g o a 0 hi x_3 tp ba en tA fl de iD iO tU fm_15 fk fa fc ft ff fb fi]) := ⟨upd fm_5 x_4.toNatClampNeg (fc x_14.toNatClampNeg), (rM_cq (a := x_3) rfm_5 rfc (by omega) (by omega) (by omega)), hP, hD⟩
          refine ziinc3 (n' := 1) (a' := 1) (b' := 379) (lv' := fun v9 => [(1, .int v9), (0, .ref o)]) hx hb dX12_undo_54 hl (k := 1) rfl (by decide) (fun _ => rfl) (zaddK (i := x_4.toInt) (j := 1) rfl (by decide) i6.1 n12 (Int.le_refl _) (Int.le_refl _) (by decide)) (fun x_16 ls hx_16 hl => ?_)
          refine lv_goto (tgt := 26) hx hb dX12_undo_57 (by decide) ?_
          have hl := lv_sub (l' := [(0, .ref o), (1, .int x_16)]) hl [1, 0] rfl
          have hP : va_P g.1 vwCl (List.flatten [bMo g o a 0 hi x_3 tp ba en tA fl de iD iO tU fm_15 fk fa fc ft ff fb fi]) H := hP
          have hD : va_D A (List.flatten [bMo g o a 0 hi x_3 tp ba en tA fl de iD iO tU fm_15 fk fa fc ft ff fb fi]) := hD
          exact ih26_8 x_16 fm_15 ⟨(Int.le_trans (by decide) hx_16.2.1), hx_16.2.2⟩ rfm_15 H _ ls (zmK hx_16.1 (by decide) n12 (by decide) hk26_8)  hP hD hS (lv_sub hl [0, 1] rfl)
    have hP : va_P g.1 vwCl (List.flatten [bMo g o a 0 hi x_3 tp ba en tA fl de iD iO tU fm fk fa fc ft ff fb fi]) H := hP
    have hD : va_D A (List.flatten [bMo g o a 0 hi x_3 tp ba en tA fl de iD iO tU fm fk fa fc ft ff fb fi]) := hD
    exact LP26_7 _ 0 fm (by decide) rfm H _ ls (Nat.lt_succ_self _)  hP hD hS (lv_sub hl [0, 1] rfl)
  · skip
    have c17 : ac.toInt = 0 := zeq cb9 rfl (by decide)
    have n18 : ac.toInt ≤ 0 := Int.le_trans (Int.le_of_eq c17) (Int.le_refl _)
    refine lv_iconst (v := 0) hx hb dX12_undo_12 (by decide) ?_
    have hP : va_P g.1 vwCl (List.flatten [bMo g o a 0 hi ac tp ba en tA fl de iD iO tU fm fk fa fc ft ff fb fi]) H := hP
    have hD : va_D A (List.flatten [bMo g o a 0 hi ac tp ba en tA fl de iD iO tU fm fk fa fc ft ff fb fi]) := hD
    exact mret_z hx hb hr hlocks hS (Nat.le_of_ble_eq_true rfl) (Nat.le_of_ble_eq_true rfl) dX12_undo_13 ((0 : Int32), ac, fm, (0 : Int32)) rfl (by decide) (show (rM fm) ∧ (0 ≤ ac.toInt ∧ ac.toInt ≤ 12) ∧ (0 = 0 ∨ 0 = 1) from ⟨rfm, hac, (by decide)⟩) hP hD
set_option maxRecDepth 100000 in
set_option maxHeartbeats 4000000 in
theorem m_image (l : Launch) (g : zG) (o : Nat) (a : Nat → Nat) (th : Int32) (hi : Int32) (ac : Int32) (tp : Int32) (ba : Int32) (en : Int32) (tA : Int32) (fl : Int32) (de : Int32) (iD : Int32) (iO : Int32) (tU : Int32) (fm : Nat → Int32) (fk : Nat → Int32) (fa : Nat → Int32) (fc : Nat → Int32) (ft : Nat → Int32) (ff : Nat → Int32) (fb : Nat → Int32) (fi : Nat → Int32) (rfm : rM fm) (rfk : rM fk) : zM' g l yX12_image (Cond.code yX12_image cX12_image 2 none :: zB) ({ frames := 0, cells := 0, slots := 0, locals := 0 } : Room) [.ref o] [bMo g o a th hi ac tp ba en tA fl de iD iO tU fm fk fa fc ft ff fb fi] (fun u : Int32 × (Nat → Int32) => (fun (th2 : Int32) (fk2 : Nat → Int32) => none) (u.1) (u.2)) (fun u : Int32 × (Nat → Int32) => (fun (th2 : Int32) (fk2 : Nat → Int32) => (rM fk2)) (u.1) (u.2)) (fun u : Int32 × (Nat → Int32) => (fun (th2 : Int32) (fk2 : Nat → Int32) => [bMo g o a th2 1 ac tp ba en tA fl de iD iO tU fm fk2 fa fc ft ff fb fi]) (u.1) (u.2)) := by
  refine zM'.of (cc := cX12_image) (maxL := 2) (rt := none) (by decide) rfl (Nat.le_of_ble_eq_true rfl) ?_
  intro p e s m args below meth c A ls St hr hlocks hin hK hT hA hP hD hS hl
  obtain ⟨hx, hb, hml, hown, hts⟩ := id St
  have hl : lv_has ls 2 [(0, .ref o)] := hl
  refine lv_aload_n hx hb dX12_image_0 rfl (lv_at hl 0 rfl) ?_
  refine lv_iconst (v := 0) hx hb dX12_image_1 (by decide) ?_
  refine va_put (D := g.1) (ci := 10) (v := .int 0) (ty := .int) (C := RX12) (T := TX12) (N := 20) hx hb hts izRX12 tyX12 tyX12_ok nmX12 hown hK hP hD hS 0 rfl rfl 0 (by decide) (hts _ k871) (fun _ h9 => h9) rfl (by decide +kernel) rfl rfl (Nat.le_of_ble_eq_true rfl) dX12_image_2 (fun H locs hP hD hS => ?_)
  have hP : va_P g.1 vwCl (List.flatten [bMo g o a 0 hi ac tp ba en tA fl de iD iO tU fm fk fa fc ft ff fb fi]) H := hP
  have hD : va_D A (List.flatten [bMo g o a 0 hi ac tp ba en tA fl de iD iO tU fm fk fa fc ft ff fb fi]) := hD
  refine lv_iconst (v := 0) hx hb dX12_image_5 (by decide) ?_
  refine lv_istore_n (lv' := [(1, .int 0), (0, .ref o)]) hx hb dX12_image_6 rfl hl (by decide) rfl (fun ls hl => ?_)
  have hl := lv_sub (l' := [(0, .ref o), (1, .int 0)]) hl [1, 0] rfl
  have LP7_4 : ∀ (kf : Nat) (x_1 : Int32) (fk_2 : Nat → Int32), (0 ≤ x_1.toInt ∧ x_1.toInt ≤ 779) → (rM fk_2) → ∀ (H : Heap) (locs : List Loc) (ls : Array Slot), ((780 - x_1.toInt).toNat) < kf → va_P g.1 vwCl (List.flatten [bMo g o a 0 hi ac tp ba en tA fl de iD iO tU fm fk_2 fa fc ft ff fb fi]) H → va_D A (List.flatten [bMo g o a 0 hi ac tp ba en tA fl de iD iO tU fm fk_2 fa fc ft ff fb fi]) → va_S A s.heap H locs → lv_has ls 2 [(0, .ref o), (1, .int x_1)] → W p l e ({ frames := 0, cells := 0, slots := 0, locals := 0 } : Room) s m args below meth c H locs (0) (0) (zF g (fun u : Int32 × (Nat → Int32) => (fun (th2 : Int32) (fk2 : Nat → Int32) => none) (u.1) (u.2)) (fun u : Int32 × (Nat → Int32) => (fun (th2 : Int32) (fk2 : Nat → Int32) => (rM fk2)) (u.1) (u.2)) (fun u : Int32 × (Nat → Int32) => (fun (th2 : Int32) (fk2 : Nat → Int32) => [bMo g o a th2 1 ac tp ba en tA fl de iD iO tU fm fk2 fa fc ft ff fb fi]) (u.1) (u.2)) ({ frames := 0, cells := 0, slots := 0, locals := 0 } : Room) below args s A) (F0 m 7 ls []) := by
    intro kf
    induction kf with
    | zero => intro x_1 fk_2 i3 rfk_2 H locs ls hk; exact absurd hk (Nat.not_lt_zero _)
    | succ kf ih7_5 =>
      intro x_1 fk_2 i3 rfk_2 H locs ls hk7_5 hP hD hS hl
      refine lv_iload_n hx hb dX12_image_7 rfl (lv_at hl 1 rfl) ?_
      refine lv_sipush (v := 779) hx hb dX12_image_8 (by decide) ?_
      refine lv_icmp_ge (tgt := 32) hx hb dX12_image_11 (by decide) (fun cb9 => ?_) (fun cb9 => ?_)
      · skip
        have c6 : 779 ≤ x_1.toInt := zle cb9 (by decide) rfl
        have n7 : 779 ≤ x_1.toInt := Int.le_trans (Int.le_refl _) c6
        refine lv_aload_n hx hb dX12_image_32 rfl (lv_at hl 0 rfl) ?_
        refine lv_iconst (v := 1) hx hb dX12_image_33 (by decide) ?_
        refine va_put (D := g.1) (ci := 10) (v := .int 1) (ty := .boolean) (C := RX12) (T := TX12) (N := 20) hx hb hts izRX12 tyX12 tyX12_ok nmX12 hown hK hP hD hS 0 rfl rfl 3 (by decide) (hts _ k1145) (fun _ h9 => h9) rfl (by decide +kernel) rfl rfl (Nat.le_of_ble_eq_true rfl) dX12_image_34 (fun H locs hP hD hS => ?_)
        have hP : va_P g.1 vwCl (List.flatten [bMo g o a 0 1 ac tp ba en tA fl de iD iO tU fm fk_2 fa fc ft ff fb fi]) H := hP
        have hD : va_D A (List.flatten [bMo g o a 0 1 ac tp ba en tA fl de iD iO tU fm fk_2 fa fc ft ff fb fi]) := hD
        have hP : va_P g.1 vwCl (List.flatten [bMo g o a 0 1 ac tp ba en tA fl de iD iO tU fm fk_2 fa fc ft ff fb fi]) H := hP
        have hD : va_D A (List.flatten [bMo g o a 0 1 ac tp ba en tA fl de iD iO tU fm fk_2 fa fc ft ff fb fi]) := hD
        exact mret_v hx hb hr hlocks hS (Nat.le_of_ble_eq_true rfl) (Nat.le_of_ble_eq_true rfl) dX12_image_37 ((0 : Int32), fk_2) rfl (show (rM fk_2) from rfk_2) hP hD
      · skip
        have c8 : x_1.toInt < 779 := zlti (Int32.not_le.mp cb9) rfl (by decide)
        have n9 : x_1.toInt ≤ 778 := zL1 (b := 779) c8 (Int.le_refl _) (by decide)
        refine lv_aload_n hx hb dX12_image_14 rfl (lv_at hl 0 rfl) ?_
        refine va_get (D := g.1) (ci := 10) (v := .ref (a 1)) (C := RX12) (T := TX12) (N := 20) hx hb hts izRX12 hown hK hP 0 rfl rfl 2 (by decide) (hts _ k816) (fun _ h9 => h9) rfl dX12_image_15 ?_
        refine lv_iload_n hx hb dX12_image_18 rfl (lv_at hl 1 rfl) ?_
        refine lv_aload_n hx hb dX12_image_19 rfl (lv_at hl 0 rfl) ?_
        refine va_get (D := g.1) (ci := 10) (v := .ref (a 0)) (C := RX12) (T := TX12) (N := 20) hx hb hts izRX12 hown hK hP 0 rfl rfl 1 (by decide) (hts _ k815) (fun _ h9 => h9) rfl dX12_image_20 ?_
        refine lv_iload_n hx hb dX12_image_23 rfl (lv_at hl 1 rfl) ?_
        refine va_iald hx hb hK hP 1 0 rfl rfl (zinK (a := 0) (b := 778) i3.1 n9 (by decide)) dX12_image_24 ?_
        refine va_iast hx hb hK hP hD hS 2 0 rfl rfl (zinK (a := 0) (b := 778) i3.1 n9 (by decide)) dX12_image_25 (fun H locs hP hD hS => ?_)
        obtain ⟨fk_10, rfk_10, hP, hD⟩ : ∃ fk_10 : Nat → Int32, rM fk_10 ∧ va_P g.1 vwCl (List.flatten [bMo g o a 0 hi ac tp ba en tA fl de iD iO tU fm fk_10 fa fc ft ff fb fi]) H ∧ va_D A (List.flatten [bMo g o a 0 hi ac tp ba en tA fl de iD iO tU fm fk_10 fa fc ft ff fb fi]) := ⟨upd fk_2 x_1.toNatClampNeg (fm x_1.toNatClampNeg), (rM_cp rfk_2 rfm), hP, hD⟩
        refine ziinc3 (n' := 1) (a' := 1) (b' := 779) (lv' := fun v9 => [(1, .int v9), (0, .ref o)]) hx hb dX12_image_26 hl (k := 1) rfl (by decide) (fun _ => rfl) (zaddK (i := x_1.toInt) (j := 1) rfl (by decide) i3.1 n9 (Int.le_refl _) (Int.le_refl _) (by decide)) (fun x_11 ls hx_11 hl => ?_)
        refine lv_goto (tgt := 7) hx hb dX12_image_29 (by decide) ?_
        have hl := lv_sub (l' := [(0, .ref o), (1, .int x_11)]) hl [1, 0] rfl
        have hP : va_P g.1 vwCl (List.flatten [bMo g o a 0 hi ac tp ba en tA fl de iD iO tU fm fk_10 fa fc ft ff fb fi]) H := hP
        have hD : va_D A (List.flatten [bMo g o a 0 hi ac tp ba en tA fl de iD iO tU fm fk_10 fa fc ft ff fb fi]) := hD
        exact ih7_5 x_11 fk_10 ⟨(Int.le_trans (by decide) hx_11.2.1), hx_11.2.2⟩ rfk_10 H _ ls (zmK hx_11.1 (by decide) n9 (by decide) hk7_5)  hP hD hS (lv_sub hl [0, 1] rfl)
  have hP : va_P g.1 vwCl (List.flatten [bMo g o a 0 hi ac tp ba en tA fl de iD iO tU fm fk fa fc ft ff fb fi]) H := hP
  have hD : va_D A (List.flatten [bMo g o a 0 hi ac tp ba en tA fl de iD iO tU fm fk fa fc ft ff fb fi]) := hD
  exact LP7_4 _ 0 fk (by decide) rfk H _ ls (Nat.lt_succ_self _)  hP hD hS (lv_sub hl [0, 1] rfl)
set_option maxRecDepth 100000 in
set_option maxHeartbeats 4000000 in
theorem m_back (l : Launch) (g : zG) (o : Nat) (a : Nat → Nat) (th : Int32) (hi : Int32) (ac : Int32) (tp : Int32) (ba : Int32) (en : Int32) (tA : Int32) (fl : Int32) (de : Int32) (iD : Int32) (iO : Int32) (tU : Int32) (fm : Nat → Int32) (fk : Nat → Int32) (fa : Nat → Int32) (fc : Nat → Int32) (ft : Nat → Int32) (ff : Nat → Int32) (fb : Nat → Int32) (fi : Nat → Int32) (rfm : rM fm) (rfk : rM fk) (hac : 0 ≤ ac.toInt ∧ ac.toInt ≤ 12) : zM' g l yX12_back (Cond.code yX12_back cX12_back 2 (some .boolean) :: zB) ({ frames := 0, cells := 0, slots := 0, locals := 0 } : Room) [.ref o] [bMo g o a th hi ac tp ba en tA fl de iD iO tU fm fk fa fc ft ff fb fi] (fun u : Int32 × Int32 × (Nat → Int32) × Int32 => (fun (th2 : Int32) (ac2 : Int32) (fm2 : Nat → Int32) (q : Int32) => some (.int q)) (u.1) (u.2.1) (u.2.2.1) (u.2.2.2)) (fun u : Int32 × Int32 × (Nat → Int32) × Int32 => (fun (th2 : Int32) (ac2 : Int32) (fm2 : Nat → Int32) (q : Int32) => (rM fm2) ∧ (0 ≤ ac2.toInt ∧ ac2.toInt ≤ 12) ∧ (q = 1 ∧ ¬ hi.toInt = 0 ∨ q = 0 ∧ hi.toInt = 0)) (u.1) (u.2.1) (u.2.2.1) (u.2.2.2)) (fun u : Int32 × Int32 × (Nat → Int32) × Int32 => (fun (th2 : Int32) (ac2 : Int32) (fm2 : Nat → Int32) (q : Int32) => [bMo g o a th2 hi ac2 tp ba en tA fl de iD iO tU fm2 fk fa fc ft ff fb fi]) (u.1) (u.2.1) (u.2.2.1) (u.2.2.2)) := by
  refine zM'.of (cc := cX12_back) (maxL := 2) (rt := (some .boolean)) (by decide) rfl (Nat.le_of_ble_eq_true rfl) ?_
  intro p e s m args below meth c A ls St hr hlocks hin hK hT hA hP hD hS hl
  obtain ⟨hx, hb, hml, hown, hts⟩ := id St
  have hl : lv_has ls 2 [(0, .ref o)] := hl
  refine lv_aload_n hx hb dX12_back_0 rfl (lv_at hl 0 rfl) ?_
  refine lv_iconst (v := 0) hx hb dX12_back_1 (by decide) ?_
  refine va_put (D := g.1) (ci := 10) (v := .int 0) (ty := .int) (C := RX12) (T := TX12) (N := 20) hx hb hts izRX12 tyX12 tyX12_ok nmX12 hown hK hP hD hS 0 rfl rfl 0 (by decide) (hts _ k871) (fun _ h9 => h9) rfl (by decide +kernel) rfl rfl (Nat.le_of_ble_eq_true rfl) dX12_back_2 (fun H locs hP hD hS => ?_)
  have hP : va_P g.1 vwCl (List.flatten [bMo g o a 0 hi ac tp ba en tA fl de iD iO tU fm fk fa fc ft ff fb fi]) H := hP
  have hD : va_D A (List.flatten [bMo g o a 0 hi ac tp ba en tA fl de iD iO tU fm fk fa fc ft ff fb fi]) := hD
  refine lv_aload_n hx hb dX12_back_5 rfl (lv_at hl 0 rfl) ?_
  refine va_get (D := g.1) (ci := 10) (v := .int hi) (C := RX12) (T := TX12) (N := 20) hx hb hts izRX12 hown hK hP 0 rfl rfl 3 (by decide) (hts _ k1145) (fun _ h9 => h9) rfl dX12_back_6 ?_
  refine lv_if_ne (tgt := 14) hx hb dX12_back_9 (by decide) (fun cb9 => ?_) (fun cb9 => ?_)
  · skip
    have c1 : ¬ hi.toInt = 0 := zne cb9 rfl (by decide)
    refine lv_iconst (v := 0) hx hb dX12_back_14 (by decide) ?_
    refine lv_istore_n (lv' := [(1, .int 0), (0, .ref o)]) hx hb dX12_back_15 rfl hl (by decide) rfl (fun ls hl => ?_)
    have hl := lv_sub (l' := [(0, .ref o), (1, .int 0)]) hl [1, 0] rfl
    have LP16_5 : ∀ (kf : Nat) (x_2 : Int32) (fm_3 : Nat → Int32), (0 ≤ x_2.toInt ∧ x_2.toInt ≤ 779) → (rM fm_3) → ∀ (H : Heap) (locs : List Loc) (ls : Array Slot), ((780 - x_2.toInt).toNat) < kf → va_P g.1 vwCl (List.flatten [bMo g o a 0 hi ac tp ba en tA fl de iD iO tU fm_3 fk fa fc ft ff fb fi]) H → va_D A (List.flatten [bMo g o a 0 hi ac tp ba en tA fl de iD iO tU fm_3 fk fa fc ft ff fb fi]) → va_S A s.heap H locs → lv_has ls 2 [(0, .ref o), (1, .int x_2)] → W p l e ({ frames := 0, cells := 0, slots := 0, locals := 0 } : Room) s m args below meth c H locs (0) (0) (zF g (fun u : Int32 × Int32 × (Nat → Int32) × Int32 => (fun (th2 : Int32) (ac2 : Int32) (fm2 : Nat → Int32) (q : Int32) => some (.int q)) (u.1) (u.2.1) (u.2.2.1) (u.2.2.2)) (fun u : Int32 × Int32 × (Nat → Int32) × Int32 => (fun (th2 : Int32) (ac2 : Int32) (fm2 : Nat → Int32) (q : Int32) => (rM fm2) ∧ (0 ≤ ac2.toInt ∧ ac2.toInt ≤ 12) ∧ (q = 1 ∧ ¬ hi.toInt = 0 ∨ q = 0 ∧ hi.toInt = 0)) (u.1) (u.2.1) (u.2.2.1) (u.2.2.2)) (fun u : Int32 × Int32 × (Nat → Int32) × Int32 => (fun (th2 : Int32) (ac2 : Int32) (fm2 : Nat → Int32) (q : Int32) => [bMo g o a th2 hi ac2 tp ba en tA fl de iD iO tU fm2 fk fa fc ft ff fb fi]) (u.1) (u.2.1) (u.2.2.1) (u.2.2.2)) ({ frames := 0, cells := 0, slots := 0, locals := 0 } : Room) below args s A) (F0 m 16 ls []) := by
      intro kf
      induction kf with
      | zero => intro x_2 fm_3 i4 rfm_3 H locs ls hk; exact absurd hk (Nat.not_lt_zero _)
      | succ kf ih16_6 =>
        intro x_2 fm_3 i4 rfm_3 H locs ls hk16_6 hP hD hS hl
        refine lv_iload_n hx hb dX12_back_16 rfl (lv_at hl 1 rfl) ?_
        refine lv_sipush (v := 779) hx hb dX12_back_17 (by decide) ?_
        refine lv_icmp_ge (tgt := 41) hx hb dX12_back_20 (by decide) (fun cb9 => ?_) (fun cb9 => ?_)
        · skip
          have c7 : 779 ≤ x_2.toInt := zle cb9 (by decide) rfl
          have n8 : 779 ≤ x_2.toInt := Int.le_trans (Int.le_refl _) c7
          refine lv_aload_n hx hb dX12_back_41 rfl (lv_at hl 0 rfl) ?_
          refine lv_iconst (v := 0) hx hb dX12_back_42 (by decide) ?_
          refine va_put (D := g.1) (ci := 10) (v := .int 0) (ty := .int) (C := RX12) (T := TX12) (N := 20) hx hb hts izRX12 tyX12 tyX12_ok nmX12 hown hK hP hD hS 0 rfl rfl 6 (by decide) (hts _ k973) (fun _ h9 => h9) rfl (by decide +kernel) rfl rfl (Nat.le_of_ble_eq_true rfl) dX12_back_43 (fun H locs hP hD hS => ?_)
          have hP : va_P g.1 vwCl (List.flatten [bMo g o a 0 hi 0 tp ba en tA fl de iD iO tU fm_3 fk fa fc ft ff fb fi]) H := hP
          have hD : va_D A (List.flatten [bMo g o a 0 hi 0 tp ba en tA fl de iD iO tU fm_3 fk fa fc ft ff fb fi]) := hD
          refine lv_iconst (v := 1) hx hb dX12_back_46 (by decide) ?_
          have hP : va_P g.1 vwCl (List.flatten [bMo g o a 0 hi 0 tp ba en tA fl de iD iO tU fm_3 fk fa fc ft ff fb fi]) H := hP
          have hD : va_D A (List.flatten [bMo g o a 0 hi 0 tp ba en tA fl de iD iO tU fm_3 fk fa fc ft ff fb fi]) := hD
          exact mret_z hx hb hr hlocks hS (Nat.le_of_ble_eq_true rfl) (Nat.le_of_ble_eq_true rfl) dX12_back_47 ((0 : Int32), (0 : Int32), fm_3, (1 : Int32)) rfl (by decide) (show (rM fm_3) ∧ (0 ≤ (0 : Int32).toInt ∧ (0 : Int32).toInt ≤ 12) ∧ (1 = 1 ∧ ¬ hi.toInt = 0 ∨ 1 = 0 ∧ hi.toInt = 0) from ⟨(by first | assumption | omega | decide), (by first | assumption | omega | decide), (by first | exact Or.inl ⟨rfl, by omega⟩ | exact Or.inr ⟨rfl, by omega⟩)⟩) hP hD
        · skip
          have c9 : x_2.toInt < 779 := zlti (Int32.not_le.mp cb9) rfl (by decide)
          have n10 : x_2.toInt ≤ 778 := zL1 (b := 779) c9 (Int.le_refl _) (by decide)
          refine lv_aload_n hx hb dX12_back_23 rfl (lv_at hl 0 rfl) ?_
          refine va_get (D := g.1) (ci := 10) (v := .ref (a 0)) (C := RX12) (T := TX12) (N := 20) hx hb hts izRX12 hown hK hP 0 rfl rfl 1 (by decide) (hts _ k815) (fun _ h9 => h9) rfl dX12_back_24 ?_
          refine lv_iload_n hx hb dX12_back_27 rfl (lv_at hl 1 rfl) ?_
          refine lv_aload_n hx hb dX12_back_28 rfl (lv_at hl 0 rfl) ?_
          refine va_get (D := g.1) (ci := 10) (v := .ref (a 1)) (C := RX12) (T := TX12) (N := 20) hx hb hts izRX12 hown hK hP 0 rfl rfl 2 (by decide) (hts _ k816) (fun _ h9 => h9) rfl dX12_back_29 ?_
          refine lv_iload_n hx hb dX12_back_32 rfl (lv_at hl 1 rfl) ?_
          refine va_iald hx hb hK hP 2 0 rfl rfl (zinK (a := 0) (b := 778) i4.1 n10 (by decide)) dX12_back_33 ?_
          refine va_iast hx hb hK hP hD hS 1 0 rfl rfl (zinK (a := 0) (b := 778) i4.1 n10 (by decide)) dX12_back_34 (fun H locs hP hD hS => ?_)
          obtain ⟨fm_11, rfm_11, hP, hD⟩ : ∃ fm_11 : Nat → Int32, rM fm_11 ∧ va_P g.1 vwCl (List.flatten [bMo g o a 0 hi ac tp ba en tA fl de iD iO tU fm_11 fk fa fc ft ff fb fi]) H ∧ va_D A (List.flatten [bMo g o a 0 hi ac tp ba en tA fl de iD iO tU fm_11 fk fa fc ft ff fb fi]) := ⟨upd fm_3 x_2.toNatClampNeg (fk x_2.toNatClampNeg), (rM_cp rfm_3 rfk), hP, hD⟩
          refine ziinc3 (n' := 1) (a' := 1) (b' := 779) (lv' := fun v9 => [(1, .int v9), (0, .ref o)]) hx hb dX12_back_35 hl (k := 1) rfl (by decide) (fun _ => rfl) (zaddK (i := x_2.toInt) (j := 1) rfl (by decide) i4.1 n10 (Int.le_refl _) (Int.le_refl _) (by decide)) (fun x_12 ls hx_12 hl => ?_)
          refine lv_goto (tgt := 16) hx hb dX12_back_38 (by decide) ?_
          have hl := lv_sub (l' := [(0, .ref o), (1, .int x_12)]) hl [1, 0] rfl
          have hP : va_P g.1 vwCl (List.flatten [bMo g o a 0 hi ac tp ba en tA fl de iD iO tU fm_11 fk fa fc ft ff fb fi]) H := hP
          have hD : va_D A (List.flatten [bMo g o a 0 hi ac tp ba en tA fl de iD iO tU fm_11 fk fa fc ft ff fb fi]) := hD
          exact ih16_6 x_12 fm_11 ⟨(Int.le_trans (by decide) hx_12.2.1), hx_12.2.2⟩ rfm_11 H _ ls (zmK hx_12.1 (by decide) n10 (by decide) hk16_6)  hP hD hS (lv_sub hl [0, 1] rfl)
    have hP : va_P g.1 vwCl (List.flatten [bMo g o a 0 hi ac tp ba en tA fl de iD iO tU fm fk fa fc ft ff fb fi]) H := hP
    have hD : va_D A (List.flatten [bMo g o a 0 hi ac tp ba en tA fl de iD iO tU fm fk fa fc ft ff fb fi]) := hD
    exact LP16_5 _ 0 fm (by decide) rfm H _ ls (Nat.lt_succ_self _)  hP hD hS (lv_sub hl [0, 1] rfl)
  · skip
    have c13 : hi.toInt = 0 := zeq cb9 rfl (by decide)
    have n14 : 0 ≤ hi.toInt := Int.le_trans (Int.le_refl _) (Int.le_of_eq c13.symm)
    have n15 : hi.toInt ≤ 0 := Int.le_trans (Int.le_of_eq c13) (Int.le_refl _)
    refine lv_iconst (v := 0) hx hb dX12_back_12 (by decide) ?_
    have hP : va_P g.1 vwCl (List.flatten [bMo g o a 0 hi ac tp ba en tA fl de iD iO tU fm fk fa fc ft ff fb fi]) H := hP
    have hD : va_D A (List.flatten [bMo g o a 0 hi ac tp ba en tA fl de iD iO tU fm fk fa fc ft ff fb fi]) := hD
    exact mret_z hx hb hr hlocks hS (Nat.le_of_ble_eq_true rfl) (Nat.le_of_ble_eq_true rfl) dX12_back_13 ((0 : Int32), ac, fm, (0 : Int32)) rfl (by decide) (show (rM fm) ∧ (0 ≤ ac.toInt ∧ ac.toInt ≤ 12) ∧ (0 = 1 ∧ ¬ hi.toInt = 0 ∨ 0 = 0 ∧ hi.toInt = 0) from ⟨(by first | assumption | omega | decide), (by first | assumption | omega | decide), (by first | exact Or.inl ⟨rfl, by omega⟩ | exact Or.inr ⟨rfl, by omega⟩)⟩) hP hD
set_option maxRecDepth 100000 in
set_option maxHeartbeats 4000000 in
theorem m_feed (l : Launch) (g : zG) (o : Nat) (a : Nat → Nat) (th : Int32) (hi : Int32) (ac : Int32) (tp : Int32) (ba : Int32) (en : Int32) (tA : Int32) (fl : Int32) (de : Int32) (iD : Int32) (iO : Int32) (tU : Int32) (fm : Nat → Int32) (fk : Nat → Int32) (fa : Nat → Int32) (fc : Nat → Int32) (ft : Nat → Int32) (ff : Nat → Int32) (fb : Nat → Int32) (fi : Nat → Int32) (a1 : Int32) (a2 : Int32) (a3 : Int32) (a4 : Int32) (a5 : Int32) (htp : 0 ≤ tp.toInt ∧ tp.toInt ≤ 400) : zM' g l yX12_feed (Cond.code yX12_feed cX12_feed 8 (some .int) :: zB) ({ frames := 0, cells := 0, slots := 0, locals := 0 } : Room) [.ref o, .int a1, .int a2, .int a3, .int a4, .int a5] [bMo g o a th hi ac tp ba en tA fl de iD iO tU fm fk fa fc ft ff fb fi] (fun u : Int32 × Int32 × (Nat → Int32) × Int32 => (fun (th2 : Int32) (tp2 : Int32) (ft2 : Nat → Int32) (q : Int32) => some (.int q)) (u.1) (u.2.1) (u.2.2.1) (u.2.2.2)) (fun u : Int32 × Int32 × (Nat → Int32) × Int32 => (fun (th2 : Int32) (tp2 : Int32) (ft2 : Nat → Int32) (q : Int32) => (0 ≤ tp2.toInt ∧ tp2.toInt ≤ 400) ∧ ((380 < tp.toInt → tp2.toInt = tp.toInt) ∧ (tp.toInt ≤ 380 → tp2.toInt = tp.toInt + 20)) ∧ ((380 < tp.toInt → q.toInt = -1) ∧ (tp.toInt ≤ 380 → q.toInt = tp2.toInt))) (u.1) (u.2.1) (u.2.2.1) (u.2.2.2)) (fun u : Int32 × Int32 × (Nat → Int32) × Int32 => (fun (th2 : Int32) (tp2 : Int32) (ft2 : Nat → Int32) (q : Int32) => [bMo g o a th2 hi ac tp2 ba en tA fl de iD iO tU fm fk fa fc ft2 ff fb fi]) (u.1) (u.2.1) (u.2.2.1) (u.2.2.2)) := by
  refine zM'.of (cc := cX12_feed) (maxL := 8) (rt := (some .int)) (by decide) rfl (Nat.le_of_ble_eq_true rfl) ?_
  intro p e s m args below meth c A ls St hr hlocks hin hK hT hA hP hD hS hl
  obtain ⟨hx, hb, hml, hown, hts⟩ := id St
  have hl : lv_has ls 8 [(0, .ref o), (1, .int a1), (2, .int a2), (3, .int a3), (4, .int a4), (5, .int a5)] := hl
  refine lv_aload_n hx hb dX12_feed_0 rfl (lv_at hl 0 rfl) ?_
  refine lv_iconst (v := 0) hx hb dX12_feed_1 (by decide) ?_
  refine va_put (D := g.1) (ci := 10) (v := .int 0) (ty := .int) (C := RX12) (T := TX12) (N := 20) hx hb hts izRX12 tyX12 tyX12_ok nmX12 hown hK hP hD hS 0 rfl rfl 0 (by decide) (hts _ k871) (fun _ h9 => h9) rfl (by decide +kernel) rfl rfl (Nat.le_of_ble_eq_true rfl) dX12_feed_2 (fun H locs hP hD hS => ?_)
  have hP : va_P g.1 vwCl (List.flatten [bMo g o a 0 hi ac tp ba en tA fl de iD iO tU fm fk fa fc ft ff fb fi]) H := hP
  have hD : va_D A (List.flatten [bMo g o a 0 hi ac tp ba en tA fl de iD iO tU fm fk fa fc ft ff fb fi]) := hD
  refine lv_aload_n hx hb dX12_feed_5 rfl (lv_at hl 0 rfl) ?_
  refine va_get (D := g.1) (ci := 10) (v := .int tp) (C := RX12) (T := TX12) (N := 20) hx hb hts izRX12 hown hK hP 0 rfl rfl 8 (by decide) (hts _ k872) (fun _ h9 => h9) rfl dX12_feed_6 ?_
  refine lv_bipush (v := 20) hx hb dX12_feed_9 (by decide) ?_
  refine lv_iadd hx hb dX12_feed_11 ?_
  refine zg3 (zaddK (i := tp.toInt) (j := 20) (a' := 20) (b' := 420) rfl (by decide) htp.1 htp.2 (Int.le_refl _) (Int.le_refl _) (by decide)) (fun x_1 hx_1 => ?_)
  refine lv_sipush (v := 400) hx hb dX12_feed_12 (by decide) ?_
  refine lv_icmp_le (tgt := 20) hx hb dX12_feed_15 (by decide) (fun cb9 => ?_) (fun cb9 => ?_)
  · skip
    have c2 : x_1.toInt ≤ 400 := zle cb9 rfl (by decide)
    have n3 : x_1.toInt ≤ 400 := Int.le_trans c2 (Int.le_refl _)
    refine lv_iconst (v := 0) hx hb dX12_feed_20 (by decide) ?_
    refine lv_istore (lv' := [(6, .int 0), (0, .ref o), (1, .int a1), (2, .int a2), (3, .int a3), (4, .int a4), (5, .int a5)]) hx hb dX12_feed_21 hl (by decide) rfl (fun ls hl => ?_)
    have hl := lv_sub (l' := [(0, .ref o), (1, .int a1), (2, .int a2), (3, .int a3), (4, .int a4), (5, .int a5), (6, .int 0)]) hl [1, 2, 3, 4, 5, 6, 0] rfl
    have LP23_10 : ∀ (kf : Nat) (x_4 : Int32) (x_5 : Int32) (ft_6 : Nat → Int32), (0 ≤ x_4.toInt ∧ x_4.toInt ≤ 20) → (0 ≤ x_5.toInt ∧ x_5.toInt ≤ 400) → (x_5.toInt = tp.toInt + x_4.toInt) → ∀ (H : Heap) (locs : List Loc) (ls : Array Slot), ((21 - x_4.toInt).toNat) < kf → va_P g.1 vwCl (List.flatten [bMo g o a 0 hi ac x_5 ba en tA fl de iD iO tU fm fk fa fc ft_6 ff fb fi]) H → va_D A (List.flatten [bMo g o a 0 hi ac x_5 ba en tA fl de iD iO tU fm fk fa fc ft_6 ff fb fi]) → va_S A s.heap H locs → lv_has ls 8 [(0, .ref o), (1, .int a1), (2, .int a2), (3, .int a3), (4, .int a4), (5, .int a5), (6, .int x_4)] → W p l e ({ frames := 0, cells := 0, slots := 0, locals := 0 } : Room) s m args below meth c H locs (0) (0) (zF g (fun u : Int32 × Int32 × (Nat → Int32) × Int32 => (fun (th2 : Int32) (tp2 : Int32) (ft2 : Nat → Int32) (q : Int32) => some (.int q)) (u.1) (u.2.1) (u.2.2.1) (u.2.2.2)) (fun u : Int32 × Int32 × (Nat → Int32) × Int32 => (fun (th2 : Int32) (tp2 : Int32) (ft2 : Nat → Int32) (q : Int32) => (0 ≤ tp2.toInt ∧ tp2.toInt ≤ 400) ∧ ((380 < tp.toInt → tp2.toInt = tp.toInt) ∧ (tp.toInt ≤ 380 → tp2.toInt = tp.toInt + 20)) ∧ ((380 < tp.toInt → q.toInt = -1) ∧ (tp.toInt ≤ 380 → q.toInt = tp2.toInt))) (u.1) (u.2.1) (u.2.2.1) (u.2.2.2)) (fun u : Int32 × Int32 × (Nat → Int32) × Int32 => (fun (th2 : Int32) (tp2 : Int32) (ft2 : Nat → Int32) (q : Int32) => [bMo g o a th2 hi ac tp2 ba en tA fl de iD iO tU fm fk fa fc ft2 ff fb fi]) (u.1) (u.2.1) (u.2.2.1) (u.2.2.2)) ({ frames := 0, cells := 0, slots := 0, locals := 0 } : Room) below args s A) (F0 m 23 ls []) := by
      intro kf
      induction kf with
      | zero => intro x_4 x_5 ft_6 i7 i8 i9 H locs ls hk; exact absurd hk (Nat.not_lt_zero _)
      | succ kf ih23_11 =>
        intro x_4 x_5 ft_6 i7 i8 i9 H locs ls hk23_11 hP hD hS hl
        refine lv_iload hx hb dX12_feed_23 (lv_at hl 6 rfl) ?_
        refine lv_bipush (v := 20) hx hb dX12_feed_25 (by decide) ?_
        refine lv_icmp_ge (tgt := 120) hx hb dX12_feed_27 (by decide) (fun cb9 => ?_) (fun cb9 => ?_)
        · skip
          have c12 : 20 ≤ x_4.toInt := zle cb9 (by decide) rfl
          have n13 : 20 ≤ x_4.toInt := Int.le_trans (Int.le_refl _) c12
          refine lv_aload_n hx hb dX12_feed_120 rfl (lv_at hl 0 rfl) ?_
          refine va_get (D := g.1) (ci := 10) (v := .int x_5) (C := RX12) (T := TX12) (N := 20) hx hb hts izRX12 hown hK hP 0 rfl rfl 8 (by decide) (hts _ k872) (fun _ h9 => h9) rfl dX12_feed_121 ?_
          have hP : va_P g.1 vwCl (List.flatten [bMo g o a 0 hi ac x_5 ba en tA fl de iD iO tU fm fk fa fc ft_6 ff fb fi]) H := hP
          have hD : va_D A (List.flatten [bMo g o a 0 hi ac x_5 ba en tA fl de iD iO tU fm fk fa fc ft_6 ff fb fi]) := hD
          exact mret_i hx hb hr hlocks hS (Nat.le_of_ble_eq_true rfl) (Nat.le_of_ble_eq_true rfl) dX12_feed_124 ((0 : Int32), x_5, ft_6, x_5) rfl (show (0 ≤ x_5.toInt ∧ x_5.toInt ≤ 400) ∧ ((380 < tp.toInt → x_5.toInt = tp.toInt) ∧ (tp.toInt ≤ 380 → x_5.toInt = tp.toInt + 20)) ∧ ((380 < tp.toInt → x_5.toInt = -1) ∧ (tp.toInt ≤ 380 → x_5.toInt = x_5.toInt)) from ⟨i8, (by first | assumption | omega | decide | exact rfl | exact zb01 (by omega) | exact Or.inl (by decide) | exact Or.inr (by first | omega | decide)), (by first | assumption | omega | decide | exact rfl | exact zb01 (by omega) | exact Or.inl (by decide) | exact Or.inr (by first | omega | decide))⟩) hP hD
        · skip
          have c14 : x_4.toInt < 20 := zlti (Int32.not_le.mp cb9) rfl (by decide)
          have n15 : x_4.toInt ≤ 19 := zL1 (b := 20) c14 (Int.le_refl _) (by decide)
          refine lv_iload hx hb dX12_feed_30 (lv_at hl 6 rfl) ?_
          refine lv_iconst (v := 4) hx hb dX12_feed_32 (by decide) ?_
          refine lv_icmp_ge (tgt := 40) hx hb dX12_feed_33 (by decide) (fun cb9 => ?_) (fun cb9 => ?_)
          · skip
            have c16 : 4 ≤ x_4.toInt := zle cb9 (by decide) rfl
            have n17 : 4 ≤ x_4.toInt := Int.le_trans (Int.le_refl _) c16
            refine lv_iload hx hb dX12_feed_40 (lv_at hl 6 rfl) ?_
            refine lv_bipush (v := 8) hx hb dX12_feed_42 (by decide) ?_
            refine lv_icmp_ge (tgt := 51) hx hb dX12_feed_44 (by decide) (fun cb9 => ?_) (fun cb9 => ?_)
            · skip
              have c18 : 8 ≤ x_4.toInt := zle cb9 (by decide) rfl
              have n19 : 8 ≤ x_4.toInt := Int.le_trans (Int.le_refl _) c18
              refine lv_iload hx hb dX12_feed_51 (lv_at hl 6 rfl) ?_
              refine lv_bipush (v := 12) hx hb dX12_feed_53 (by decide) ?_
              refine lv_icmp_ge (tgt := 62) hx hb dX12_feed_55 (by decide) (fun cb9 => ?_) (fun cb9 => ?_)
              · skip
                have c20 : 12 ≤ x_4.toInt := zle cb9 (by decide) rfl
                have n21 : 12 ≤ x_4.toInt := Int.le_trans (Int.le_refl _) c20
                refine lv_iload hx hb dX12_feed_62 (lv_at hl 6 rfl) ?_
                refine lv_bipush (v := 16) hx hb dX12_feed_64 (by decide) ?_
                refine lv_icmp_ge (tgt := 74) hx hb dX12_feed_66 (by decide) (fun cb9 => ?_) (fun cb9 => ?_)
                · skip
                  have c22 : 16 ≤ x_4.toInt := zle cb9 (by decide) rfl
                  have n23 : 16 ≤ x_4.toInt := Int.le_trans (Int.le_refl _) c22
                  refine lv_iload hx hb dX12_feed_74 (lv_at hl 5 rfl) ?_
                  refine lv_istore (lv' := [(7, .int a5), (0, .ref o), (1, .int a1), (2, .int a2), (3, .int a3), (4, .int a4), (5, .int a5), (6, .int x_4)]) hx hb dX12_feed_76 hl (by decide) rfl (fun ls hl => ?_)
                  refine lv_aload_n hx hb dX12_feed_78 rfl (lv_at hl 1 rfl) ?_
                  refine va_get (D := g.1) (ci := 10) (v := .ref (a 4)) (C := RX12) (T := TX12) (N := 20) hx hb hts izRX12 hown hK hP 0 rfl rfl 7 (by decide) (hts _ k819) (fun _ h9 => h9) rfl dX12_feed_79 ?_
                  refine lv_aload_n hx hb dX12_feed_82 rfl (lv_at hl 1 rfl) ?_
                  refine va_get (D := g.1) (ci := 10) (v := .int x_5) (C := RX12) (T := TX12) (N := 20) hx hb hts izRX12 hown hK hP 0 rfl rfl 8 (by decide) (hts _ k872) (fun _ h9 => h9) rfl dX12_feed_83 ?_
                  refine lv_iload hx hb dX12_feed_86 (lv_at hl 0 rfl) ?_
                  refine lv_bipush (v := 24) hx hb dX12_feed_88 (by decide) ?_
                  refine lv_bipush (v := 8) hx hb dX12_feed_90 (by decide) ?_
                  refine lv_iload hx hb dX12_feed_92 (lv_at hl 7 rfl) ?_
                  refine lv_iconst (v := 4) hx hb dX12_feed_94 (by decide) ?_
                  refine lv_irem hx hb dX12_feed_95 (by decide) ?_
                  refine zgb (zrem (j := x_4.toInt) (d := 4) rfl (by decide) (Int.le_trans (by decide) n23) (by decide)) (fun x_24 hx_24 => ?_)
                  refine lv_imul hx hb dX12_feed_96 ?_
                  refine zg3 (zmulKL (i := x_24.toInt) (n := 8) (a' := 0) (b' := 24) rfl (by decide) hx_24.1 hx_24.2 (by decide) (by decide)) (fun x_25 hx_25 => ?_)
                  refine lv_isub hx hb dX12_feed_97 ?_
                  refine zg3 (zsubK (i := 24) (j := x_25.toInt) (a' := 0) (b' := 24) (by decide) rfl (Int.le_refl _) (Int.le_refl _) hx_25.2.1 hx_25.2.2 (by decide)) (fun x_26 hx_26 => ?_)
                  refine lv_iushr hx hb dX12_feed_98 rfl ?_
                  refine zg (fun x_27 => ?_)
                  refine lv_sipush (v := 255) hx hb dX12_feed_99 (by decide) ?_
                  refine lv_iand hx hb dX12_feed_102 ?_
                  refine zgb (zand255 _) (fun x_28 hx_28 => ?_)
                  refine va_iast hx hb hK hP hD hS 5 0 rfl rfl (zinI (by omega) (by omega)) dX12_feed_103 (fun H locs hP hD hS => ?_)
                  obtain ⟨ft_29, hP, hD⟩ : ∃ ft_29 : Nat → Int32, va_P g.1 vwCl (List.flatten [bMo g o a 0 hi ac x_5 ba en tA fl de iD iO tU fm fk fa fc ft_29 ff fb fi]) H ∧ va_D A (List.flatten [bMo g o a 0 hi ac x_5 ba en tA fl de iD iO tU fm fk fa fc ft_29 ff fb fi]) := ⟨upd ft_6 x_5.toNatClampNeg x_28, hP, hD⟩
                  refine lv_aload_n hx hb dX12_feed_104 rfl (lv_at hl 1 rfl) ?_
                  refine lv_dup hx hb dX12_feed_105 rfl ?_
                  refine va_get (D := g.1) (ci := 10) (v := .int x_5) (C := RX12) (T := TX12) (N := 20) hx hb hts izRX12 hown hK hP 0 rfl rfl 8 (by decide) (hts _ k872) (fun _ h9 => h9) rfl dX12_feed_106 ?_
                  refine lv_iconst (v := 1) hx hb dX12_feed_109 (by decide) ?_
                  refine lv_iadd hx hb dX12_feed_110 ?_
                  refine zg3 (zaddK (i := x_5.toInt) (j := 1) (a' := 1) (b' := 401) rfl (by decide) i8.1 i8.2 (Int.le_refl _) (Int.le_refl _) (by decide)) (fun x_30 hx_30 => ?_)
                  refine va_put (D := g.1) (ci := 10) (v := .int x_30) (ty := .int) (C := RX12) (T := TX12) (N := 20) hx hb hts izRX12 tyX12 tyX12_ok nmX12 hown hK hP hD hS 0 rfl rfl 8 (by decide) (hts _ k872) (fun _ h9 => h9) rfl (by decide +kernel) rfl rfl (Nat.le_of_ble_eq_true rfl) dX12_feed_111 (fun H locs hP hD hS => ?_)
                  have hP : va_P g.1 vwCl (List.flatten [bMo g o a 0 hi ac x_30 ba en tA fl de iD iO tU fm fk fa fc ft_29 ff fb fi]) H := hP
                  have hD : va_D A (List.flatten [bMo g o a 0 hi ac x_30 ba en tA fl de iD iO tU fm fk fa fc ft_29 ff fb fi]) := hD
                  refine ziinc3 (n' := 1) (a' := 17) (b' := 20) (lv' := fun v9 => [(6, .int v9), (7, .int a5), (0, .ref o), (1, .int a1), (2, .int a2), (3, .int a3), (4, .int a4), (5, .int a5)]) hx hb dX12_feed_114 hl (k := 7) rfl (by decide) (fun _ => rfl) (zaddK (i := x_4.toInt) (j := 1) rfl (by decide) n23 n15 (Int.le_refl _) (Int.le_refl _) (by decide)) (fun x_31 ls hx_31 hl => ?_)
                  refine lv_goto (tgt := 23) hx hb dX12_feed_117 (by decide) ?_
                  have hl := lv_sub (l' := [(0, .ref o), (1, .int a1), (2, .int a2), (3, .int a3), (4, .int a4), (5, .int a5), (6, .int x_31), (7, .int a5)]) hl [2, 3, 4, 5, 6, 7, 0, 1] rfl
                  have hP : va_P g.1 vwCl (List.flatten [bMo g o a 0 hi ac x_30 ba en tA fl de iD iO tU fm fk fa fc ft_29 ff fb fi]) H := hP
                  have hD : va_D A (List.flatten [bMo g o a 0 hi ac x_30 ba en tA fl de iD iO tU fm fk fa fc ft_29 ff fb fi]) := hD
                  exact ih23_11 x_31 x_30 ft_29 ⟨(Int.le_trans (by decide) hx_31.2.1), hx_31.2.2⟩ (by first | omega | assumption | decide) (by first | omega | assumption | decide) H _ ls (zmK hx_31.1 (by decide) n15 (by decide) hk23_11)  hP hD hS (lv_sub hl [0, 1, 2, 3, 4, 5, 6] rfl)
                · skip
                  have c32 : x_4.toInt < 16 := zlti (Int32.not_le.mp cb9) rfl (by decide)
                  have n33 : x_4.toInt ≤ 15 := zL1 (b := 16) c32 (Int.le_refl _) (by decide)
                  refine lv_iload hx hb dX12_feed_69 (lv_at hl 4 rfl) ?_
                  refine lv_goto (tgt := 76) hx hb dX12_feed_71 (by decide) ?_
                  refine lv_istore (lv' := [(7, .int a4), (0, .ref o), (1, .int a1), (2, .int a2), (3, .int a3), (4, .int a4), (5, .int a5), (6, .int x_4)]) hx hb dX12_feed_76 hl (by decide) rfl (fun ls hl => ?_)
                  refine lv_aload_n hx hb dX12_feed_78 rfl (lv_at hl 1 rfl) ?_
                  refine va_get (D := g.1) (ci := 10) (v := .ref (a 4)) (C := RX12) (T := TX12) (N := 20) hx hb hts izRX12 hown hK hP 0 rfl rfl 7 (by decide) (hts _ k819) (fun _ h9 => h9) rfl dX12_feed_79 ?_
                  refine lv_aload_n hx hb dX12_feed_82 rfl (lv_at hl 1 rfl) ?_
                  refine va_get (D := g.1) (ci := 10) (v := .int x_5) (C := RX12) (T := TX12) (N := 20) hx hb hts izRX12 hown hK hP 0 rfl rfl 8 (by decide) (hts _ k872) (fun _ h9 => h9) rfl dX12_feed_83 ?_
                  refine lv_iload hx hb dX12_feed_86 (lv_at hl 0 rfl) ?_
                  refine lv_bipush (v := 24) hx hb dX12_feed_88 (by decide) ?_
                  refine lv_bipush (v := 8) hx hb dX12_feed_90 (by decide) ?_
                  refine lv_iload hx hb dX12_feed_92 (lv_at hl 7 rfl) ?_
                  refine lv_iconst (v := 4) hx hb dX12_feed_94 (by decide) ?_
                  refine lv_irem hx hb dX12_feed_95 (by decide) ?_
                  refine zgb (zrem (j := x_4.toInt) (d := 4) rfl (by decide) (Int.le_trans (by decide) n21) (by decide)) (fun x_34 hx_34 => ?_)
                  refine lv_imul hx hb dX12_feed_96 ?_
                  refine zg3 (zmulKL (i := x_34.toInt) (n := 8) (a' := 0) (b' := 24) rfl (by decide) hx_34.1 hx_34.2 (by decide) (by decide)) (fun x_35 hx_35 => ?_)
                  refine lv_isub hx hb dX12_feed_97 ?_
                  refine zg3 (zsubK (i := 24) (j := x_35.toInt) (a' := 0) (b' := 24) (by decide) rfl (Int.le_refl _) (Int.le_refl _) hx_35.2.1 hx_35.2.2 (by decide)) (fun x_36 hx_36 => ?_)
                  refine lv_iushr hx hb dX12_feed_98 rfl ?_
                  refine zg (fun x_37 => ?_)
                  refine lv_sipush (v := 255) hx hb dX12_feed_99 (by decide) ?_
                  refine lv_iand hx hb dX12_feed_102 ?_
                  refine zgb (zand255 _) (fun x_38 hx_38 => ?_)
                  refine va_iast hx hb hK hP hD hS 5 0 rfl rfl (zinI (by omega) (by omega)) dX12_feed_103 (fun H locs hP hD hS => ?_)
                  obtain ⟨ft_39, hP, hD⟩ : ∃ ft_39 : Nat → Int32, va_P g.1 vwCl (List.flatten [bMo g o a 0 hi ac x_5 ba en tA fl de iD iO tU fm fk fa fc ft_39 ff fb fi]) H ∧ va_D A (List.flatten [bMo g o a 0 hi ac x_5 ba en tA fl de iD iO tU fm fk fa fc ft_39 ff fb fi]) := ⟨upd ft_6 x_5.toNatClampNeg x_38, hP, hD⟩
                  refine lv_aload_n hx hb dX12_feed_104 rfl (lv_at hl 1 rfl) ?_
                  refine lv_dup hx hb dX12_feed_105 rfl ?_
                  refine va_get (D := g.1) (ci := 10) (v := .int x_5) (C := RX12) (T := TX12) (N := 20) hx hb hts izRX12 hown hK hP 0 rfl rfl 8 (by decide) (hts _ k872) (fun _ h9 => h9) rfl dX12_feed_106 ?_
                  refine lv_iconst (v := 1) hx hb dX12_feed_109 (by decide) ?_
                  refine lv_iadd hx hb dX12_feed_110 ?_
                  refine zg3 (zaddK (i := x_5.toInt) (j := 1) (a' := 1) (b' := 401) rfl (by decide) i8.1 i8.2 (Int.le_refl _) (Int.le_refl _) (by decide)) (fun x_40 hx_40 => ?_)
                  refine va_put (D := g.1) (ci := 10) (v := .int x_40) (ty := .int) (C := RX12) (T := TX12) (N := 20) hx hb hts izRX12 tyX12 tyX12_ok nmX12 hown hK hP hD hS 0 rfl rfl 8 (by decide) (hts _ k872) (fun _ h9 => h9) rfl (by decide +kernel) rfl rfl (Nat.le_of_ble_eq_true rfl) dX12_feed_111 (fun H locs hP hD hS => ?_)
                  have hP : va_P g.1 vwCl (List.flatten [bMo g o a 0 hi ac x_40 ba en tA fl de iD iO tU fm fk fa fc ft_39 ff fb fi]) H := hP
                  have hD : va_D A (List.flatten [bMo g o a 0 hi ac x_40 ba en tA fl de iD iO tU fm fk fa fc ft_39 ff fb fi]) := hD
                  refine ziinc3 (n' := 1) (a' := 13) (b' := 16) (lv' := fun v9 => [(6, .int v9), (7, .int a4), (0, .ref o), (1, .int a1), (2, .int a2), (3, .int a3), (4, .int a4), (5, .int a5)]) hx hb dX12_feed_114 hl (k := 7) rfl (by decide) (fun _ => rfl) (zaddK (i := x_4.toInt) (j := 1) rfl (by decide) n21 n33 (Int.le_refl _) (Int.le_refl _) (by decide)) (fun x_41 ls hx_41 hl => ?_)
                  refine lv_goto (tgt := 23) hx hb dX12_feed_117 (by decide) ?_
                  have hl := lv_sub (l' := [(0, .ref o), (1, .int a1), (2, .int a2), (3, .int a3), (4, .int a4), (5, .int a5), (6, .int x_41), (7, .int a4)]) hl [2, 3, 4, 5, 6, 7, 0, 1] rfl
                  have hP : va_P g.1 vwCl (List.flatten [bMo g o a 0 hi ac x_40 ba en tA fl de iD iO tU fm fk fa fc ft_39 ff fb fi]) H := hP
                  have hD : va_D A (List.flatten [bMo g o a 0 hi ac x_40 ba en tA fl de iD iO tU fm fk fa fc ft_39 ff fb fi]) := hD
                  exact ih23_11 x_41 x_40 ft_39 ⟨(Int.le_trans (by decide) hx_41.2.1), (Int.le_trans hx_41.2.2 (by decide))⟩ (by first | omega | assumption | decide) (by first | omega | assumption | decide) H _ ls (zmK hx_41.1 (by decide) n33 (by decide) hk23_11)  hP hD hS (lv_sub hl [0, 1, 2, 3, 4, 5, 6] rfl)
              · skip
                have c42 : x_4.toInt < 12 := zlti (Int32.not_le.mp cb9) rfl (by decide)
                have n43 : x_4.toInt ≤ 11 := zL1 (b := 12) c42 (Int.le_refl _) (by decide)
                refine lv_iload_n hx hb dX12_feed_58 rfl (lv_at hl 3 rfl) ?_
                refine lv_goto (tgt := 76) hx hb dX12_feed_59 (by decide) ?_
                refine lv_istore (lv' := [(7, .int a3), (0, .ref o), (1, .int a1), (2, .int a2), (3, .int a3), (4, .int a4), (5, .int a5), (6, .int x_4)]) hx hb dX12_feed_76 hl (by decide) rfl (fun ls hl => ?_)
                refine lv_aload_n hx hb dX12_feed_78 rfl (lv_at hl 1 rfl) ?_
                refine va_get (D := g.1) (ci := 10) (v := .ref (a 4)) (C := RX12) (T := TX12) (N := 20) hx hb hts izRX12 hown hK hP 0 rfl rfl 7 (by decide) (hts _ k819) (fun _ h9 => h9) rfl dX12_feed_79 ?_
                refine lv_aload_n hx hb dX12_feed_82 rfl (lv_at hl 1 rfl) ?_
                refine va_get (D := g.1) (ci := 10) (v := .int x_5) (C := RX12) (T := TX12) (N := 20) hx hb hts izRX12 hown hK hP 0 rfl rfl 8 (by decide) (hts _ k872) (fun _ h9 => h9) rfl dX12_feed_83 ?_
                refine lv_iload hx hb dX12_feed_86 (lv_at hl 0 rfl) ?_
                refine lv_bipush (v := 24) hx hb dX12_feed_88 (by decide) ?_
                refine lv_bipush (v := 8) hx hb dX12_feed_90 (by decide) ?_
                refine lv_iload hx hb dX12_feed_92 (lv_at hl 7 rfl) ?_
                refine lv_iconst (v := 4) hx hb dX12_feed_94 (by decide) ?_
                refine lv_irem hx hb dX12_feed_95 (by decide) ?_
                refine zgb (zrem (j := x_4.toInt) (d := 4) rfl (by decide) (Int.le_trans (by decide) n19) (by decide)) (fun x_44 hx_44 => ?_)
                refine lv_imul hx hb dX12_feed_96 ?_
                refine zg3 (zmulKL (i := x_44.toInt) (n := 8) (a' := 0) (b' := 24) rfl (by decide) hx_44.1 hx_44.2 (by decide) (by decide)) (fun x_45 hx_45 => ?_)
                refine lv_isub hx hb dX12_feed_97 ?_
                refine zg3 (zsubK (i := 24) (j := x_45.toInt) (a' := 0) (b' := 24) (by decide) rfl (Int.le_refl _) (Int.le_refl _) hx_45.2.1 hx_45.2.2 (by decide)) (fun x_46 hx_46 => ?_)
                refine lv_iushr hx hb dX12_feed_98 rfl ?_
                refine zg (fun x_47 => ?_)
                refine lv_sipush (v := 255) hx hb dX12_feed_99 (by decide) ?_
                refine lv_iand hx hb dX12_feed_102 ?_
                refine zgb (zand255 _) (fun x_48 hx_48 => ?_)
                refine va_iast hx hb hK hP hD hS 5 0 rfl rfl (zinI (by omega) (by omega)) dX12_feed_103 (fun H locs hP hD hS => ?_)
                obtain ⟨ft_49, hP, hD⟩ : ∃ ft_49 : Nat → Int32, va_P g.1 vwCl (List.flatten [bMo g o a 0 hi ac x_5 ba en tA fl de iD iO tU fm fk fa fc ft_49 ff fb fi]) H ∧ va_D A (List.flatten [bMo g o a 0 hi ac x_5 ba en tA fl de iD iO tU fm fk fa fc ft_49 ff fb fi]) := ⟨upd ft_6 x_5.toNatClampNeg x_48, hP, hD⟩
                refine lv_aload_n hx hb dX12_feed_104 rfl (lv_at hl 1 rfl) ?_
                refine lv_dup hx hb dX12_feed_105 rfl ?_
                refine va_get (D := g.1) (ci := 10) (v := .int x_5) (C := RX12) (T := TX12) (N := 20) hx hb hts izRX12 hown hK hP 0 rfl rfl 8 (by decide) (hts _ k872) (fun _ h9 => h9) rfl dX12_feed_106 ?_
                refine lv_iconst (v := 1) hx hb dX12_feed_109 (by decide) ?_
                refine lv_iadd hx hb dX12_feed_110 ?_
                refine zg3 (zaddK (i := x_5.toInt) (j := 1) (a' := 1) (b' := 401) rfl (by decide) i8.1 i8.2 (Int.le_refl _) (Int.le_refl _) (by decide)) (fun x_50 hx_50 => ?_)
                refine va_put (D := g.1) (ci := 10) (v := .int x_50) (ty := .int) (C := RX12) (T := TX12) (N := 20) hx hb hts izRX12 tyX12 tyX12_ok nmX12 hown hK hP hD hS 0 rfl rfl 8 (by decide) (hts _ k872) (fun _ h9 => h9) rfl (by decide +kernel) rfl rfl (Nat.le_of_ble_eq_true rfl) dX12_feed_111 (fun H locs hP hD hS => ?_)
                have hP : va_P g.1 vwCl (List.flatten [bMo g o a 0 hi ac x_50 ba en tA fl de iD iO tU fm fk fa fc ft_49 ff fb fi]) H := hP
                have hD : va_D A (List.flatten [bMo g o a 0 hi ac x_50 ba en tA fl de iD iO tU fm fk fa fc ft_49 ff fb fi]) := hD
                refine ziinc3 (n' := 1) (a' := 9) (b' := 12) (lv' := fun v9 => [(6, .int v9), (7, .int a3), (0, .ref o), (1, .int a1), (2, .int a2), (3, .int a3), (4, .int a4), (5, .int a5)]) hx hb dX12_feed_114 hl (k := 7) rfl (by decide) (fun _ => rfl) (zaddK (i := x_4.toInt) (j := 1) rfl (by decide) n19 n43 (Int.le_refl _) (Int.le_refl _) (by decide)) (fun x_51 ls hx_51 hl => ?_)
                refine lv_goto (tgt := 23) hx hb dX12_feed_117 (by decide) ?_
                have hl := lv_sub (l' := [(0, .ref o), (1, .int a1), (2, .int a2), (3, .int a3), (4, .int a4), (5, .int a5), (6, .int x_51), (7, .int a3)]) hl [2, 3, 4, 5, 6, 7, 0, 1] rfl
                have hP : va_P g.1 vwCl (List.flatten [bMo g o a 0 hi ac x_50 ba en tA fl de iD iO tU fm fk fa fc ft_49 ff fb fi]) H := hP
                have hD : va_D A (List.flatten [bMo g o a 0 hi ac x_50 ba en tA fl de iD iO tU fm fk fa fc ft_49 ff fb fi]) := hD
                exact ih23_11 x_51 x_50 ft_49 ⟨(Int.le_trans (by decide) hx_51.2.1), (Int.le_trans hx_51.2.2 (by decide))⟩ (by first | omega | assumption | decide) (by first | omega | assumption | decide) H _ ls (zmK hx_51.1 (by decide) n43 (by decide) hk23_11)  hP hD hS (lv_sub hl [0, 1, 2, 3, 4, 5, 6] rfl)
            · skip
              have c52 : x_4.toInt < 8 := zlti (Int32.not_le.mp cb9) rfl (by decide)
              have n53 : x_4.toInt ≤ 7 := zL1 (b := 8) c52 (Int.le_refl _) (by decide)
              refine lv_iload_n hx hb dX12_feed_47 rfl (lv_at hl 2 rfl) ?_
              refine lv_goto (tgt := 76) hx hb dX12_feed_48 (by decide) ?_
              refine lv_istore (lv' := [(7, .int a2), (0, .ref o), (1, .int a1), (2, .int a2), (3, .int a3), (4, .int a4), (5, .int a5), (6, .int x_4)]) hx hb dX12_feed_76 hl (by decide) rfl (fun ls hl => ?_)
              refine lv_aload_n hx hb dX12_feed_78 rfl (lv_at hl 1 rfl) ?_
              refine va_get (D := g.1) (ci := 10) (v := .ref (a 4)) (C := RX12) (T := TX12) (N := 20) hx hb hts izRX12 hown hK hP 0 rfl rfl 7 (by decide) (hts _ k819) (fun _ h9 => h9) rfl dX12_feed_79 ?_
              refine lv_aload_n hx hb dX12_feed_82 rfl (lv_at hl 1 rfl) ?_
              refine va_get (D := g.1) (ci := 10) (v := .int x_5) (C := RX12) (T := TX12) (N := 20) hx hb hts izRX12 hown hK hP 0 rfl rfl 8 (by decide) (hts _ k872) (fun _ h9 => h9) rfl dX12_feed_83 ?_
              refine lv_iload hx hb dX12_feed_86 (lv_at hl 0 rfl) ?_
              refine lv_bipush (v := 24) hx hb dX12_feed_88 (by decide) ?_
              refine lv_bipush (v := 8) hx hb dX12_feed_90 (by decide) ?_
              refine lv_iload hx hb dX12_feed_92 (lv_at hl 7 rfl) ?_
              refine lv_iconst (v := 4) hx hb dX12_feed_94 (by decide) ?_
              refine lv_irem hx hb dX12_feed_95 (by decide) ?_
              refine zgb (zrem (j := x_4.toInt) (d := 4) rfl (by decide) (Int.le_trans (by decide) n17) (by decide)) (fun x_54 hx_54 => ?_)
              refine lv_imul hx hb dX12_feed_96 ?_
              refine zg3 (zmulKL (i := x_54.toInt) (n := 8) (a' := 0) (b' := 24) rfl (by decide) hx_54.1 hx_54.2 (by decide) (by decide)) (fun x_55 hx_55 => ?_)
              refine lv_isub hx hb dX12_feed_97 ?_
              refine zg3 (zsubK (i := 24) (j := x_55.toInt) (a' := 0) (b' := 24) (by decide) rfl (Int.le_refl _) (Int.le_refl _) hx_55.2.1 hx_55.2.2 (by decide)) (fun x_56 hx_56 => ?_)
              refine lv_iushr hx hb dX12_feed_98 rfl ?_
              refine zg (fun x_57 => ?_)
              refine lv_sipush (v := 255) hx hb dX12_feed_99 (by decide) ?_
              refine lv_iand hx hb dX12_feed_102 ?_
              refine zgb (zand255 _) (fun x_58 hx_58 => ?_)
              refine va_iast hx hb hK hP hD hS 5 0 rfl rfl (zinI (by omega) (by omega)) dX12_feed_103 (fun H locs hP hD hS => ?_)
              obtain ⟨ft_59, hP, hD⟩ : ∃ ft_59 : Nat → Int32, va_P g.1 vwCl (List.flatten [bMo g o a 0 hi ac x_5 ba en tA fl de iD iO tU fm fk fa fc ft_59 ff fb fi]) H ∧ va_D A (List.flatten [bMo g o a 0 hi ac x_5 ba en tA fl de iD iO tU fm fk fa fc ft_59 ff fb fi]) := ⟨upd ft_6 x_5.toNatClampNeg x_58, hP, hD⟩
              refine lv_aload_n hx hb dX12_feed_104 rfl (lv_at hl 1 rfl) ?_
              refine lv_dup hx hb dX12_feed_105 rfl ?_
              refine va_get (D := g.1) (ci := 10) (v := .int x_5) (C := RX12) (T := TX12) (N := 20) hx hb hts izRX12 hown hK hP 0 rfl rfl 8 (by decide) (hts _ k872) (fun _ h9 => h9) rfl dX12_feed_106 ?_
              refine lv_iconst (v := 1) hx hb dX12_feed_109 (by decide) ?_
              refine lv_iadd hx hb dX12_feed_110 ?_
              refine zg3 (zaddK (i := x_5.toInt) (j := 1) (a' := 1) (b' := 401) rfl (by decide) i8.1 i8.2 (Int.le_refl _) (Int.le_refl _) (by decide)) (fun x_60 hx_60 => ?_)
              refine va_put (D := g.1) (ci := 10) (v := .int x_60) (ty := .int) (C := RX12) (T := TX12) (N := 20) hx hb hts izRX12 tyX12 tyX12_ok nmX12 hown hK hP hD hS 0 rfl rfl 8 (by decide) (hts _ k872) (fun _ h9 => h9) rfl (by decide +kernel) rfl rfl (Nat.le_of_ble_eq_true rfl) dX12_feed_111 (fun H locs hP hD hS => ?_)
              have hP : va_P g.1 vwCl (List.flatten [bMo g o a 0 hi ac x_60 ba en tA fl de iD iO tU fm fk fa fc ft_59 ff fb fi]) H := hP
              have hD : va_D A (List.flatten [bMo g o a 0 hi ac x_60 ba en tA fl de iD iO tU fm fk fa fc ft_59 ff fb fi]) := hD
              refine ziinc3 (n' := 1) (a' := 5) (b' := 8) (lv' := fun v9 => [(6, .int v9), (7, .int a2), (0, .ref o), (1, .int a1), (2, .int a2), (3, .int a3), (4, .int a4), (5, .int a5)]) hx hb dX12_feed_114 hl (k := 7) rfl (by decide) (fun _ => rfl) (zaddK (i := x_4.toInt) (j := 1) rfl (by decide) n17 n53 (Int.le_refl _) (Int.le_refl _) (by decide)) (fun x_61 ls hx_61 hl => ?_)
              refine lv_goto (tgt := 23) hx hb dX12_feed_117 (by decide) ?_
              have hl := lv_sub (l' := [(0, .ref o), (1, .int a1), (2, .int a2), (3, .int a3), (4, .int a4), (5, .int a5), (6, .int x_61), (7, .int a2)]) hl [2, 3, 4, 5, 6, 7, 0, 1] rfl
              have hP : va_P g.1 vwCl (List.flatten [bMo g o a 0 hi ac x_60 ba en tA fl de iD iO tU fm fk fa fc ft_59 ff fb fi]) H := hP
              have hD : va_D A (List.flatten [bMo g o a 0 hi ac x_60 ba en tA fl de iD iO tU fm fk fa fc ft_59 ff fb fi]) := hD
              exact ih23_11 x_61 x_60 ft_59 ⟨(Int.le_trans (by decide) hx_61.2.1), (Int.le_trans hx_61.2.2 (by decide))⟩ (by first | omega | assumption | decide) (by first | omega | assumption | decide) H _ ls (zmK hx_61.1 (by decide) n53 (by decide) hk23_11)  hP hD hS (lv_sub hl [0, 1, 2, 3, 4, 5, 6] rfl)
          · skip
            have c62 : x_4.toInt < 4 := zlti (Int32.not_le.mp cb9) rfl (by decide)
            have n63 : x_4.toInt ≤ 3 := zL1 (b := 4) c62 (Int.le_refl _) (by decide)
            refine lv_iload_n hx hb dX12_feed_36 rfl (lv_at hl 1 rfl) ?_
            refine lv_goto (tgt := 76) hx hb dX12_feed_37 (by decide) ?_
            refine lv_istore (lv' := [(7, .int a1), (0, .ref o), (1, .int a1), (2, .int a2), (3, .int a3), (4, .int a4), (5, .int a5), (6, .int x_4)]) hx hb dX12_feed_76 hl (by decide) rfl (fun ls hl => ?_)
            refine lv_aload_n hx hb dX12_feed_78 rfl (lv_at hl 1 rfl) ?_
            refine va_get (D := g.1) (ci := 10) (v := .ref (a 4)) (C := RX12) (T := TX12) (N := 20) hx hb hts izRX12 hown hK hP 0 rfl rfl 7 (by decide) (hts _ k819) (fun _ h9 => h9) rfl dX12_feed_79 ?_
            refine lv_aload_n hx hb dX12_feed_82 rfl (lv_at hl 1 rfl) ?_
            refine va_get (D := g.1) (ci := 10) (v := .int x_5) (C := RX12) (T := TX12) (N := 20) hx hb hts izRX12 hown hK hP 0 rfl rfl 8 (by decide) (hts _ k872) (fun _ h9 => h9) rfl dX12_feed_83 ?_
            refine lv_iload hx hb dX12_feed_86 (lv_at hl 0 rfl) ?_
            refine lv_bipush (v := 24) hx hb dX12_feed_88 (by decide) ?_
            refine lv_bipush (v := 8) hx hb dX12_feed_90 (by decide) ?_
            refine lv_iload hx hb dX12_feed_92 (lv_at hl 7 rfl) ?_
            refine lv_iconst (v := 4) hx hb dX12_feed_94 (by decide) ?_
            refine lv_irem hx hb dX12_feed_95 (by decide) ?_
            refine zgb (zrem (j := x_4.toInt) (d := 4) rfl (by decide) i7.1 (by decide)) (fun x_64 hx_64 => ?_)
            refine lv_imul hx hb dX12_feed_96 ?_
            refine zg3 (zmulKL (i := x_64.toInt) (n := 8) (a' := 0) (b' := 24) rfl (by decide) hx_64.1 hx_64.2 (by decide) (by decide)) (fun x_65 hx_65 => ?_)
            refine lv_isub hx hb dX12_feed_97 ?_
            refine zg3 (zsubK (i := 24) (j := x_65.toInt) (a' := 0) (b' := 24) (by decide) rfl (Int.le_refl _) (Int.le_refl _) hx_65.2.1 hx_65.2.2 (by decide)) (fun x_66 hx_66 => ?_)
            refine lv_iushr hx hb dX12_feed_98 rfl ?_
            refine zg (fun x_67 => ?_)
            refine lv_sipush (v := 255) hx hb dX12_feed_99 (by decide) ?_
            refine lv_iand hx hb dX12_feed_102 ?_
            refine zgb (zand255 _) (fun x_68 hx_68 => ?_)
            refine va_iast hx hb hK hP hD hS 5 0 rfl rfl (zinI (by omega) (by omega)) dX12_feed_103 (fun H locs hP hD hS => ?_)
            obtain ⟨ft_69, hP, hD⟩ : ∃ ft_69 : Nat → Int32, va_P g.1 vwCl (List.flatten [bMo g o a 0 hi ac x_5 ba en tA fl de iD iO tU fm fk fa fc ft_69 ff fb fi]) H ∧ va_D A (List.flatten [bMo g o a 0 hi ac x_5 ba en tA fl de iD iO tU fm fk fa fc ft_69 ff fb fi]) := ⟨upd ft_6 x_5.toNatClampNeg x_68, hP, hD⟩
            refine lv_aload_n hx hb dX12_feed_104 rfl (lv_at hl 1 rfl) ?_
            refine lv_dup hx hb dX12_feed_105 rfl ?_
            refine va_get (D := g.1) (ci := 10) (v := .int x_5) (C := RX12) (T := TX12) (N := 20) hx hb hts izRX12 hown hK hP 0 rfl rfl 8 (by decide) (hts _ k872) (fun _ h9 => h9) rfl dX12_feed_106 ?_
            refine lv_iconst (v := 1) hx hb dX12_feed_109 (by decide) ?_
            refine lv_iadd hx hb dX12_feed_110 ?_
            refine zg3 (zaddK (i := x_5.toInt) (j := 1) (a' := 1) (b' := 401) rfl (by decide) i8.1 i8.2 (Int.le_refl _) (Int.le_refl _) (by decide)) (fun x_70 hx_70 => ?_)
            refine va_put (D := g.1) (ci := 10) (v := .int x_70) (ty := .int) (C := RX12) (T := TX12) (N := 20) hx hb hts izRX12 tyX12 tyX12_ok nmX12 hown hK hP hD hS 0 rfl rfl 8 (by decide) (hts _ k872) (fun _ h9 => h9) rfl (by decide +kernel) rfl rfl (Nat.le_of_ble_eq_true rfl) dX12_feed_111 (fun H locs hP hD hS => ?_)
            have hP : va_P g.1 vwCl (List.flatten [bMo g o a 0 hi ac x_70 ba en tA fl de iD iO tU fm fk fa fc ft_69 ff fb fi]) H := hP
            have hD : va_D A (List.flatten [bMo g o a 0 hi ac x_70 ba en tA fl de iD iO tU fm fk fa fc ft_69 ff fb fi]) := hD
            refine ziinc3 (n' := 1) (a' := 1) (b' := 4) (lv' := fun v9 => [(6, .int v9), (7, .int a1), (0, .ref o), (1, .int a1), (2, .int a2), (3, .int a3), (4, .int a4), (5, .int a5)]) hx hb dX12_feed_114 hl (k := 7) rfl (by decide) (fun _ => rfl) (zaddK (i := x_4.toInt) (j := 1) rfl (by decide) i7.1 n63 (Int.le_refl _) (Int.le_refl _) (by decide)) (fun x_71 ls hx_71 hl => ?_)
            refine lv_goto (tgt := 23) hx hb dX12_feed_117 (by decide) ?_
            have hl := lv_sub (l' := [(0, .ref o), (1, .int a1), (2, .int a2), (3, .int a3), (4, .int a4), (5, .int a5), (6, .int x_71), (7, .int a1)]) hl [2, 3, 4, 5, 6, 7, 0, 1] rfl
            have hP : va_P g.1 vwCl (List.flatten [bMo g o a 0 hi ac x_70 ba en tA fl de iD iO tU fm fk fa fc ft_69 ff fb fi]) H := hP
            have hD : va_D A (List.flatten [bMo g o a 0 hi ac x_70 ba en tA fl de iD iO tU fm fk fa fc ft_69 ff fb fi]) := hD
            exact ih23_11 x_71 x_70 ft_69 ⟨(Int.le_trans (by decide) hx_71.2.1), (Int.le_trans hx_71.2.2 (by decide))⟩ (by first | omega | assumption | decide) (by first | omega | assumption | decide) H _ ls (zmK hx_71.1 (by decide) n63 (by decide) hk23_11)  hP hD hS (lv_sub hl [0, 1, 2, 3, 4, 5, 6] rfl)
    have hL0 : (0 : Int32).toInt = 0 := by decide
    have hP : va_P g.1 vwCl (List.flatten [bMo g o a 0 hi ac tp ba en tA fl de iD iO tU fm fk fa fc ft ff fb fi]) H := hP
    have hD : va_D A (List.flatten [bMo g o a 0 hi ac tp ba en tA fl de iD iO tU fm fk fa fc ft ff fb fi]) := hD
    exact LP23_10 _ 0 tp ft (by decide) ⟨htp.1, htp.2⟩ (by first | omega | assumption | decide) H _ ls (Nat.lt_succ_self _)  hP hD hS (lv_sub hl [0, 1, 2, 3, 4, 5, 6] rfl)
  · skip
    have c72 : 400 < x_1.toInt := zlti (Int32.not_le.mp cb9) (by decide) rfl
    have n73 : 401 ≤ x_1.toInt := zL2 (a := 400) c72 (Int.le_refl _) (by decide)
    refine lv_iconst (v := (-1)) hx hb dX12_feed_18 (by decide) ?_
    have hLn1 : ((-1) : Int32).toInt = (-1) := by decide
    have hP : va_P g.1 vwCl (List.flatten [bMo g o a 0 hi ac tp ba en tA fl de iD iO tU fm fk fa fc ft ff fb fi]) H := hP
    have hD : va_D A (List.flatten [bMo g o a 0 hi ac tp ba en tA fl de iD iO tU fm fk fa fc ft ff fb fi]) := hD
    exact mret_i hx hb hr hlocks hS (Nat.le_of_ble_eq_true rfl) (Nat.le_of_ble_eq_true rfl) dX12_feed_19 ((0 : Int32), tp, ft, -1) rfl (show (0 ≤ tp.toInt ∧ tp.toInt ≤ 400) ∧ ((380 < tp.toInt → tp.toInt = tp.toInt) ∧ (tp.toInt ≤ 380 → tp.toInt = tp.toInt + 20)) ∧ ((380 < tp.toInt → ((-1) : Int32).toInt = -1) ∧ (tp.toInt ≤ 380 → ((-1) : Int32).toInt = tp.toInt)) from ⟨htp, (by first | assumption | omega | decide | exact rfl | exact zb01 (by omega) | exact Or.inl (by decide) | exact Or.inr (by first | omega | decide)), (by first | assumption | omega | decide | exact rfl | exact zb01 (by omega) | exact Or.inl (by decide) | exact Or.inr (by first | omega | decide))⟩) hP hD
