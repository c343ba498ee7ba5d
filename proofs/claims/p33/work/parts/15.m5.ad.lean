set_option maxRecDepth 100000 in
set_option maxHeartbeats 4000000 in
theorem m_dearest (l : Launch) (g : zG) (o : Nat) (a : Nat → Nat) (th : Int32) (hi : Int32) (ac : Int32) (tp : Int32) (ba : Int32) (en : Int32) (tA : Int32) (fl : Int32) (de : Int32) (iD : Int32) (iO : Int32) (tU : Int32) (fm : Nat → Int32) (fk : Nat → Int32) (fa : Nat → Int32) (fc : Nat → Int32) (ft : Nat → Int32) (ff : Nat → Int32) (fb : Nat → Int32) (fi : Nat → Int32) (n : Int32) (much : Int32) (rfm : rM fm) (rfa : rM fa) (hiD : 0 ≤ iD.toInt ∧ iD.toInt ≤ 1) (hiO : 0 ≤ iO.toInt ∧ iO.toInt ≤ 1) : zM' g l yX12_dearest (Cond.code yX12_dearest cX12_dearest 8 (some .int) :: zB) ({ frames := 33, cells := 0, slots := 0, locals := 736 } : Room) [.ref o, .int n, .int much] [bMo g o a th hi ac tp ba en tA fl de iD iO tU fm fk fa fc ft ff fb fi] (fun u : Int32 × Int32 × Int32 × Int32 × Int32 × Int32 × Int32 × Int32 × (Nat → Int32) × (Nat → Int32) × (Nat → Int32) × (Nat → Int32) × Int32 => (fun (th2 : Int32) (ba2 : Int32) (en2 : Int32) (at2 : Int32) (de2 : Int32) (iD2 : Int32) (iO2 : Int32) (tU2 : Int32) (ff2 : Nat → Int32) (fm2 : Nat → Int32) (fb2 : Nat → Int32) (fa2 : Nat → Int32) (q : Int32) => some (.int q)) (u.1) (u.2.1) (u.2.2.1) (u.2.2.2.1) (u.2.2.2.2.1) (u.2.2.2.2.2.1) (u.2.2.2.2.2.2.1) (u.2.2.2.2.2.2.2.1) (u.2.2.2.2.2.2.2.2.1) (u.2.2.2.2.2.2.2.2.2.1) (u.2.2.2.2.2.2.2.2.2.2.1) (u.2.2.2.2.2.2.2.2.2.2.2.1) (u.2.2.2.2.2.2.2.2.2.2.2.2)) (fun u : Int32 × Int32 × Int32 × Int32 × Int32 × Int32 × Int32 × Int32 × (Nat → Int32) × (Nat → Int32) × (Nat → Int32) × (Nat → Int32) × Int32 => (fun (th2 : Int32) (ba2 : Int32) (en2 : Int32) (at2 : Int32) (de2 : Int32) (iD2 : Int32) (iO2 : Int32) (tU2 : Int32) (ff2 : Nat → Int32) (fm2 : Nat → Int32) (fb2 : Nat → Int32) (fa2 : Nat → Int32) (q : Int32) => ((fm2 0).toInt = (fm 0).toInt ∧ (fm2 3).toInt = (fm 3).toInt ∧ (fm2 4).toInt = (fm 4).toInt) ∧ (rM fa2) ∧ (rM fm2) ∧ (0 ≤ iO2.toInt ∧ iO2.toInt ≤ 1) ∧ (0 ≤ iD2.toInt ∧ iD2.toInt ≤ 1)) (u.1) (u.2.1) (u.2.2.1) (u.2.2.2.1) (u.2.2.2.2.1) (u.2.2.2.2.2.1) (u.2.2.2.2.2.2.1) (u.2.2.2.2.2.2.2.1) (u.2.2.2.2.2.2.2.2.1) (u.2.2.2.2.2.2.2.2.2.1) (u.2.2.2.2.2.2.2.2.2.2.1) (u.2.2.2.2.2.2.2.2.2.2.2.1) (u.2.2.2.2.2.2.2.2.2.2.2.2)) (fun u : Int32 × Int32 × Int32 × Int32 × Int32 × Int32 × Int32 × Int32 × (Nat → Int32) × (Nat → Int32) × (Nat → Int32) × (Nat → Int32) × Int32 => (fun (th2 : Int32) (ba2 : Int32) (en2 : Int32) (at2 : Int32) (de2 : Int32) (iD2 : Int32) (iO2 : Int32) (tU2 : Int32) (ff2 : Nat → Int32) (fm2 : Nat → Int32) (fb2 : Nat → Int32) (fa2 : Nat → Int32) (q : Int32) => [bMo g o a th2 hi ac tp ba2 en2 at2 fl de2 iD2 iO2 tU2 fm2 fk fa2 fc ft ff2 fb2 fi]) (u.1) (u.2.1) (u.2.2.1) (u.2.2.2.1) (u.2.2.2.2.1) (u.2.2.2.2.2.1) (u.2.2.2.2.2.2.1) (u.2.2.2.2.2.2.2.1) (u.2.2.2.2.2.2.2.2.1) (u.2.2.2.2.2.2.2.2.2.1) (u.2.2.2.2.2.2.2.2.2.2.1) (u.2.2.2.2.2.2.2.2.2.2.2.1) (u.2.2.2.2.2.2.2.2.2.2.2.2)) := by
  refine zM'.of (cc := cX12_dearest) (maxL := 8) (rt := (some .int)) (by decide) rfl (Nat.le_of_ble_eq_true rfl) ?_
  intro p e s m args below meth c A ls St hr hlocks hin hK hT hA hP hD hS hl
  obtain ⟨hx, hb, hml, hown, hts⟩ := id St
  have hl : lv_has ls 8 [(0, .ref o), (1, .int n), (2, .int much)] := hl
  refine lv_aload_n hx hb dX12_dearest_0 rfl (lv_at hl 0 rfl) ?_
  refine lv_iload_n hx hb dX12_dearest_1 rfl (lv_at hl 1 rfl) ?_
  refine lv_iconst (v := 0) hx hb dX12_dearest_2 (by decide) ?_
  refine lv_bipush (v := 100) hx hb dX12_dearest_3 (by decide) ?_
  have hL0 : (0 : Int32).toInt = 0 := by decide
  have hL100 : (100 : Int32).toInt = 100 := by decide
  refine mcallS' (g := g) (As := [.int n, .int 0, .int 100]) (rest := [.ref o]) St hK hT hA hP hD hS hl.1 [] [0] rfl rfl rfl (m_isIn l g n 0 100 ) (va_cwS 3 hts (zgL (zl3 k837 k838 k839) k826) rfl rfl rfl (by decide +kernel) ⟨Nat.le_of_ble_eq_true rfl, Nat.le_of_ble_eq_true rfl⟩) rfl rfl (Nat.le_of_ble_eq_true rfl) dX12_dearest_5 ⟨(Nat.le_of_ble_eq_true rfl), (Nat.le_of_ble_eq_true rfl)⟩ (fun q_1 H locs hq2 hP hD hS => ?_)
  replace hq2 : (q_1 = 1 ∧ (0 : Int32).toInt ≤ n.toInt ∧ n.toInt ≤ (100 : Int32).toInt ∨ q_1 = 0 ∧ (n.toInt < (0 : Int32).toInt ∨ (100 : Int32).toInt < n.toInt)) := hq2
  have hP : va_P g.1 vwCl (List.flatten [bMo g o a th hi ac tp ba en tA fl de iD iO tU fm fk fa fc ft ff fb fi]) H := hP
  have hD : va_D A (List.flatten [bMo g o a th hi ac tp ba en tA fl de iD iO tU fm fk fa fc ft ff fb fi]) := hD
  refine W.widen (k := 0) (n := 0) (Nat.le_of_ble_eq_true rfl) (Nat.le_of_ble_eq_true rfl) ?_
  refine W.eq (g2 := F0 m 8 ls [.int q_1, .ref o]) rfl ?_
  rcases hq2 with ⟨rfl, hq2_k⟩ | ⟨rfl, hq2_k⟩
  · skip
    refine lv_if_ne (tgt := 15) hx hb dX12_dearest_8 (by decide) (fun _ => ?_) (fun c3 => absurd c3 (by decide))
    refine lv_iconst (v := 0) hx hb dX12_dearest_15 (by decide) ?_
    refine va_put (D := g.1) (ci := 10) (v := .int 0) (ty := .int) (C := RX12) (T := TX12) (N := 20) hx hb hts izRX12 tyX12 tyX12_ok nmX12 hown hK hP hD hS 0 rfl rfl 0 (by decide) (hts _ k825) (fun _ h9 => h9) rfl (by decide +kernel) rfl rfl (Nat.le_of_ble_eq_true rfl) dX12_dearest_16 (fun H locs hP hD hS => ?_)
    have hP : va_P g.1 vwCl (List.flatten [bMo g o a 0 hi ac tp ba en tA fl de iD iO tU fm fk fa fc ft ff fb fi]) H := hP
    have hD : va_D A (List.flatten [bMo g o a 0 hi ac tp ba en tA fl de iD iO tU fm fk fa fc ft ff fb fi]) := hD
    refine lv_aload_n hx hb dX12_dearest_19 rfl (lv_at hl 0 rfl) ?_
    refine va_get (D := g.1) (ci := 10) (v := .int 0) (C := RX12) (T := TX12) (N := 20) hx hb hts izRX12 hown hK hP 0 rfl rfl 0 (by decide) (hts _ k825) (fun _ h9 => h9) rfl dX12_dearest_20 ?_
    refine lv_if_le (tgt := 28) hx hb dX12_dearest_23 (by decide) (fun _ => ?_) (fun c4 => absurd (by decide) c4)
    refine lv_aload_n hx hb dX12_dearest_28 rfl (lv_at hl 0 rfl) ?_
    refine mcallV' (g := g) (q0 := 0) (ci := 10) (As := []) (rest := []) St hK hT hA hP hD hS hl.1 [0] [] rfl rfl rfl (m_putsAside l g o a 0 hi ac tp ba en tA fl de iD iO tU fm fk fa fc ft ff fb fi rfm rfa) (cwV 0 hts (zgL (zl4 k975 k976 k977 k839) k972) rfl rfl rfl (by decide +kernel) ⟨Nat.le_of_ble_eq_true rfl, Nat.le_of_ble_eq_true rfl⟩) rfl rfl rfl rfl (Nat.le_of_ble_eq_true rfl) dX12_dearest_29 ⟨(Nat.le_of_ble_eq_true rfl), (Nat.le_of_ble_eq_true rfl)⟩ (fun fa2_5 H locs hq6 hP hD hS => ?_)
    replace hq6 : (rM fa2_5) ∧ (zCy fa fa2_5 0 fm 0 379) ∧ ((fa2_5 0).toInt = (fm 0).toInt ∧ (fa2_5 3).toInt = (fm 3).toInt ∧ (fa2_5 4).toInt = (fm 4).toInt) := hq6
    have hP : va_P g.1 vwCl (List.flatten [bMo g o a 0 hi ac tp ba en tA fl de iD iO tU fm fk fa2_5 fc ft ff fb fi]) H := hP
    have hD : va_D A (List.flatten [bMo g o a 0 hi ac tp ba en tA fl de iD iO tU fm fk fa2_5 fc ft ff fb fi]) := hD
    refine W.widen (k := 0) (n := 0) (Nat.le_of_ble_eq_true rfl) (Nat.le_of_ble_eq_true rfl) ?_
    refine W.eq (g2 := F0 m 32 ls []) rfl ?_
    obtain ⟨rfa2_5, hq6_1, hq6_2⟩ := hq6
    refine lv_iconst (v := 0) hx hb dX12_dearest_32 (by decide) ?_
    refine lv_istore_n (lv' := [(3, .int 0), (0, .ref o), (1, .int n), (2, .int much)]) hx hb dX12_dearest_33 rfl hl (by decide) rfl (fun ls hl => ?_)
    refine lv_iconst (v := 0) hx hb dX12_dearest_34 (by decide) ?_
    refine lv_istore (lv' := [(4, .int 0), (3, .int 0), (0, .ref o), (1, .int n), (2, .int much)]) hx hb dX12_dearest_35 hl (by decide) rfl (fun ls hl => ?_)
    refine lv_iconst (v := 0) hx hb dX12_dearest_37 (by decide) ?_
    refine lv_istore (lv' := [(5, .int 0), (4, .int 0), (3, .int 0), (0, .ref o), (1, .int n), (2, .int much)]) hx hb dX12_dearest_38 hl (by decide) rfl (fun ls hl => ?_)
    have hl := lv_sub (l' := [(0, .ref o), (1, .int n), (2, .int much), (3, .int 0), (4, .int 0), (5, .int 0)]) hl [3, 4, 5, 2, 1, 0] rfl
    have LP40_26 : ∀ (kf : Nat) (x_7 : Int32) (x_8 : Int32) (x_9 : Int32) (x_10 : Int32) (x_11 : Int32) (x_12 : Int32) (x_13 : Int32) (x_14 : Int32) (x_15 : Int32) (x_16 : Int32) (fm_17 : Nat → Int32) (ff_18 : Nat → Int32) (fb_19 : Nat → Int32), (0 ≤ x_7.toInt ∧ x_7.toInt ≤ 100) → (0 ≤ x_8.toInt) → (0 ≤ x_9.toInt ∧ x_9.toInt ≤ 101) → (0 ≤ x_14.toInt ∧ x_14.toInt ≤ 1) → (0 ≤ x_15.toInt ∧ x_15.toInt ≤ 1) → (rM fm_17) → ((fm_17 0).toInt = (fm 0).toInt ∧ (fm_17 3).toInt = (fm 3).toInt ∧ (fm_17 4).toInt = (fm 4).toInt) → ∀ (H : Heap) (locs : List Loc) (ls : Array Slot), ((102 - x_9.toInt).toNat) < kf → va_P g.1 vwCl (List.flatten [bMo g o a 0 hi ac tp x_10 x_11 x_12 fl x_13 x_14 x_15 x_16 fm_17 fk fa2_5 fc ft ff_18 fb_19 fi]) H → va_D A (List.flatten [bMo g o a 0 hi ac tp x_10 x_11 x_12 fl x_13 x_14 x_15 x_16 fm_17 fk fa2_5 fc ft ff_18 fb_19 fi]) → va_S A s.heap H locs → lv_has ls 8 [(0, .ref o), (1, .int n), (2, .int much), (3, .int x_7), (4, .int x_8), (5, .int x_9)] → W p l e ({ frames := 33, cells := 0, slots := 0, locals := 736 } : Room) s m args below meth c H locs (0) (0) (zF g (fun u : Int32 × Int32 × Int32 × Int32 × Int32 × Int32 × Int32 × Int32 × (Nat → Int32) × (Nat → Int32) × (Nat → Int32) × (Nat → Int32) × Int32 => (fun (th2 : Int32) (ba2 : Int32) (en2 : Int32) (at2 : Int32) (de2 : Int32) (iD2 : Int32) (iO2 : Int32) (tU2 : Int32) (ff2 : Nat → Int32) (fm2 : Nat → Int32) (fb2 : Nat → Int32) (fa2 : Nat → Int32) (q : Int32) => some (.int q)) (u.1) (u.2.1) (u.2.2.1) (u.2.2.2.1) (u.2.2.2.2.1) (u.2.2.2.2.2.1) (u.2.2.2.2.2.2.1) (u.2.2.2.2.2.2.2.1) (u.2.2.2.2.2.2.2.2.1) (u.2.2.2.2.2.2.2.2.2.1) (u.2.2.2.2.2.2.2.2.2.2.1) (u.2.2.2.2.2.2.2.2.2.2.2.1) (u.2.2.2.2.2.2.2.2.2.2.2.2)) (fun u : Int32 × Int32 × Int32 × Int32 × Int32 × Int32 × Int32 × Int32 × (Nat → Int32) × (Nat → Int32) × (Nat → Int32) × (Nat → Int32) × Int32 => (fun (th2 : Int32) (ba2 : Int32) (en2 : Int32) (at2 : Int32) (de2 : Int32) (iD2 : Int32) (iO2 : Int32) (tU2 : Int32) (ff2 : Nat → Int32) (fm2 : Nat → Int32) (fb2 : Nat → Int32) (fa2 : Nat → Int32) (q : Int32) => ((fm2 0).toInt = (fm 0).toInt ∧ (fm2 3).toInt = (fm 3).toInt ∧ (fm2 4).toInt = (fm 4).toInt) ∧ (rM fa2) ∧ (rM fm2) ∧ (0 ≤ iO2.toInt ∧ iO2.toInt ≤ 1) ∧ (0 ≤ iD2.toInt ∧ iD2.toInt ≤ 1)) (u.1) (u.2.1) (u.2.2.1) (u.2.2.2.1) (u.2.2.2.2.1) (u.2.2.2.2.2.1) (u.2.2.2.2.2.2.1) (u.2.2.2.2.2.2.2.1) (u.2.2.2.2.2.2.2.2.1) (u.2.2.2.2.2.2.2.2.2.1) (u.2.2.2.2.2.2.2.2.2.2.1) (u.2.2.2.2.2.2.2.2.2.2.2.1) (u.2.2.2.2.2.2.2.2.2.2.2.2)) (fun u : Int32 × Int32 × Int32 × Int32 × Int32 × Int32 × Int32 × Int32 × (Nat → Int32) × (Nat → Int32) × (Nat → Int32) × (Nat → Int32) × Int32 => (fun (th2 : Int32) (ba2 : Int32) (en2 : Int32) (at2 : Int32) (de2 : Int32) (iD2 : Int32) (iO2 : Int32) (tU2 : Int32) (ff2 : Nat → Int32) (fm2 : Nat → Int32) (fb2 : Nat → Int32) (fa2 : Nat → Int32) (q : Int32) => [bMo g o a th2 hi ac tp ba2 en2 at2 fl de2 iD2 iO2 tU2 fm2 fk fa2 fc ft ff2 fb2 fi]) (u.1) (u.2.1) (u.2.2.1) (u.2.2.2.1) (u.2.2.2.2.1) (u.2.2.2.2.2.1) (u.2.2.2.2.2.2.1) (u.2.2.2.2.2.2.2.1) (u.2.2.2.2.2.2.2.2.1) (u.2.2.2.2.2.2.2.2.2.1) (u.2.2.2.2.2.2.2.2.2.2.1) (u.2.2.2.2.2.2.2.2.2.2.2.1) (u.2.2.2.2.2.2.2.2.2.2.2.2)) ({ frames := 33, cells := 0, slots := 0, locals := 736 } : Room) below args s A) (F0 m 40 ls []) := by
      intro kf
      induction kf with
      | zero => intro x_7 x_8 x_9 x_10 x_11 x_12 x_13 x_14 x_15 x_16 fm_17 ff_18 fb_19 i20 i21 i22 i23 i24 rfm_17 i25 H locs ls hk; exact absurd hk (Nat.not_lt_zero _)
      | succ kf ih40_27 =>
        intro x_7 x_8 x_9 x_10 x_11 x_12 x_13 x_14 x_15 x_16 fm_17 ff_18 fb_19 i20 i21 i22 i23 i24 rfm_17 i25 H locs ls hk40_27 hP hD hS hl
        refine lv_iload hx hb dX12_dearest_40 (lv_at hl 5 rfl) ?_
        refine lv_iload_n hx hb dX12_dearest_42 rfl (lv_at hl 1 rfl) ?_
        refine lv_icmp_gt (tgt := 89) hx hb dX12_dearest_43 (by decide) (fun cb9 => ?_) (fun cb9 => ?_)
        · skip
          have c28 : n.toInt < x_9.toInt := zlti cb9 rfl rfl
          refine lv_aload_n hx hb dX12_dearest_89 rfl (lv_at hl 0 rfl) ?_
          refine mcallV' (g := g) (q0 := 0) (ci := 10) (As := []) (rest := []) St hK hT hA hP hD hS hl.1 [0] [] rfl rfl rfl (m_comesBack l g o a 0 hi ac tp x_10 x_11 x_12 fl x_13 x_14 x_15 x_16 fm_17 fk fa2_5 fc ft ff_18 fb_19 fi rfm_17 rfa2_5) (cwV 0 hts (zgL (zl4 k984 k985 k986 k839) k973) rfl rfl rfl (by decide +kernel) ⟨Nat.le_of_ble_eq_true rfl, Nat.le_of_ble_eq_true rfl⟩) rfl rfl rfl rfl (Nat.le_of_ble_eq_true rfl) dX12_dearest_90 ⟨(Nat.le_of_ble_eq_true rfl), (Nat.le_of_ble_eq_true rfl)⟩ (fun fm2_29 H locs hq30 hP hD hS => ?_)
          replace hq30 : (rM fm2_29) ∧ (zCy fm_17 fm2_29 0 fa2_5 0 379) ∧ ((fm2_29 0).toInt = (fa2_5 0).toInt ∧ (fm2_29 3).toInt = (fa2_5 3).toInt ∧ (fm2_29 4).toInt = (fa2_5 4).toInt) := hq30
          have hP : va_P g.1 vwCl (List.flatten [bMo g o a 0 hi ac tp x_10 x_11 x_12 fl x_13 x_14 x_15 x_16 fm2_29 fk fa2_5 fc ft ff_18 fb_19 fi]) H := hP
          have hD : va_D A (List.flatten [bMo g o a 0 hi ac tp x_10 x_11 x_12 fl x_13 x_14 x_15 x_16 fm2_29 fk fa2_5 fc ft ff_18 fb_19 fi]) := hD
          refine W.widen (k := 0) (n := 0) (Nat.le_of_ble_eq_true rfl) (Nat.le_of_ble_eq_true rfl) ?_
          refine W.eq (g2 := F0 m 93 ls []) rfl ?_
          obtain ⟨rfm2_29, hq30_1, hq30_2⟩ := hq30
          refine lv_iload_n hx hb dX12_dearest_93 rfl (lv_at hl 2 rfl) ?_
          refine lv_if_eq (tgt := 102) hx hb dX12_dearest_94 (by decide) (fun cb9 => ?_) (fun cb9 => ?_)
          · skip
            have c31 : much.toInt = 0 := zeq cb9 rfl (by decide)
            have n32 : 0 ≤ much.toInt := Int.le_trans (Int.le_refl _) (Int.le_of_eq c31.symm)
            have n33 : much.toInt ≤ 0 := Int.le_trans (Int.le_of_eq c31) (Int.le_refl _)
            refine lv_iload_n hx hb dX12_dearest_102 rfl (lv_at hl 3 rfl) ?_
            have hP : va_P g.1 vwCl (List.flatten [bMo g o a 0 hi ac tp x_10 x_11 x_12 fl x_13 x_14 x_15 x_16 fm2_29 fk fa2_5 fc ft ff_18 fb_19 fi]) H := hP
            have hD : va_D A (List.flatten [bMo g o a 0 hi ac tp x_10 x_11 x_12 fl x_13 x_14 x_15 x_16 fm2_29 fk fa2_5 fc ft ff_18 fb_19 fi]) := hD
            exact mret_i hx hb hr hlocks hS (Nat.le_of_ble_eq_true rfl) (Nat.le_of_ble_eq_true rfl) dX12_dearest_103 ((0 : Int32), x_10, x_11, x_12, x_13, x_14, x_15, x_16, ff_18, fm2_29, fb_19, fa2_5, x_7) rfl (show ((fm2_29 0).toInt = (fm 0).toInt ∧ (fm2_29 3).toInt = (fm 3).toInt ∧ (fm2_29 4).toInt = (fm 4).toInt) ∧ (rM fa2_5) ∧ (rM fm2_29) ∧ (0 ≤ x_15.toInt ∧ x_15.toInt ≤ 1) ∧ (0 ≤ x_14.toInt ∧ x_14.toInt ≤ 1) from ⟨(by first | assumption | omega | decide | exact rfl | exact zb01 (by omega) | exact Or.inl (by decide) | exact Or.inr (by first | omega | decide)), rfa2_5, rfm2_29, i24, i23⟩) hP hD
          · skip
            have c34 : ¬ much.toInt = 0 := zne cb9 rfl (by decide)
            refine lv_iload hx hb dX12_dearest_97 (lv_at hl 4 rfl) ?_
            refine lv_goto (tgt := 103) hx hb dX12_dearest_99 (by decide) ?_
            have hP : va_P g.1 vwCl (List.flatten [bMo g o a 0 hi ac tp x_10 x_11 x_12 fl x_13 x_14 x_15 x_16 fm2_29 fk fa2_5 fc ft ff_18 fb_19 fi]) H := hP
            have hD : va_D A (List.flatten [bMo g o a 0 hi ac tp x_10 x_11 x_12 fl x_13 x_14 x_15 x_16 fm2_29 fk fa2_5 fc ft ff_18 fb_19 fi]) := hD
            exact mret_i hx hb hr hlocks hS (Nat.le_of_ble_eq_true rfl) (Nat.le_of_ble_eq_true rfl) dX12_dearest_103 ((0 : Int32), x_10, x_11, x_12, x_13, x_14, x_15, x_16, ff_18, fm2_29, fb_19, fa2_5, x_8) rfl (show ((fm2_29 0).toInt = (fm 0).toInt ∧ (fm2_29 3).toInt = (fm 3).toInt ∧ (fm2_29 4).toInt = (fm 4).toInt) ∧ (rM fa2_5) ∧ (rM fm2_29) ∧ (0 ≤ x_15.toInt ∧ x_15.toInt ≤ 1) ∧ (0 ≤ x_14.toInt ∧ x_14.toInt ≤ 1) from ⟨(by first | assumption | omega | decide | exact rfl | exact zb01 (by omega) | exact Or.inl (by decide) | exact Or.inr (by first | omega | decide)), rfa2_5, rfm2_29, i24, i23⟩) hP hD
        · skip
          have c35 : x_9.toInt ≤ n.toInt := zle (Int32.not_lt.mp cb9) rfl rfl
          refine lv_aload_n hx hb dX12_dearest_46 rfl (lv_at hl 0 rfl) ?_
          refine mcallV' (g := g) (q0 := 0) (ci := 10) (As := []) (rest := []) St hK hT hA hP hD hS hl.1 [0] [] rfl rfl rfl (m_priceNow l g o a 0 hi ac tp x_10 x_11 x_12 fl x_13 x_14 x_15 x_16 fm_17 fk fa2_5 fc ft ff_18 fb_19 fi rfm_17) (cwV 0 hts (zgL (zl4 k1029 k1030 k1031 k839) k862) rfl rfl rfl (by decide +kernel) ⟨Nat.le_of_ble_eq_true rfl, Nat.le_of_ble_eq_true rfl⟩) rfl rfl rfl rfl (Nat.le_of_ble_eq_true rfl) dX12_dearest_47 ⟨(Nat.le_of_ble_eq_true rfl), (Nat.le_of_ble_eq_true rfl)⟩ (fun q_36 H locs hq37 hP hD hS => ?_)
          have hP : va_P g.1 vwCl (List.flatten [bMo g o a 0 hi ac tp x_10 x_11 x_12 fl x_13 x_14 x_15 x_16 fm_17 fk fa2_5 fc ft ff_18 fb_19 fi]) H := hP
          have hD : va_D A (List.flatten [bMo g o a 0 hi ac tp x_10 x_11 x_12 fl x_13 x_14 x_15 x_16 fm_17 fk fa2_5 fc ft ff_18 fb_19 fi]) := hD
          refine W.widen (k := 0) (n := 0) (Nat.le_of_ble_eq_true rfl) (Nat.le_of_ble_eq_true rfl) ?_
          refine W.eq (g2 := F0 m 50 ls [.int q_36]) rfl ?_
          refine lv_istore (lv' := [(6, .int q_36), (0, .ref o), (1, .int n), (2, .int much), (3, .int x_7), (4, .int x_8), (5, .int x_9)]) hx hb dX12_dearest_50 hl (by decide) rfl (fun ls hl => ?_)
          refine lv_iload hx hb dX12_dearest_52 (lv_at hl 0 rfl) ?_
          refine lv_iload hx hb dX12_dearest_54 (lv_at hl 5 rfl) ?_
          refine lv_icmp_le (tgt := 64) hx hb dX12_dearest_56 (by decide) (fun cb9 => ?_) (fun cb9 => ?_)
          · skip
            have c38 : q_36.toInt ≤ x_8.toInt := zle cb9 rfl rfl
            refine lv_iload_n hx hb dX12_dearest_64 rfl (lv_at hl 4 rfl) ?_
            refine lv_istore_n (lv' := [(3, .int x_7), (6, .int q_36), (0, .ref o), (1, .int n), (2, .int much), (4, .int x_8), (5, .int x_9)]) hx hb dX12_dearest_65 rfl hl (by decide) rfl (fun ls hl => ?_)
            refine lv_iload hx hb dX12_dearest_66 (lv_at hl 5 rfl) ?_
            refine lv_iload hx hb dX12_dearest_68 (lv_at hl 1 rfl) ?_
            refine mcallS' (g := g) (As := [.int x_8, .int q_36]) (rest := []) St hK hT hA hP hD hS hl.1 [] [0] rfl rfl rfl (m_greater l g x_8 q_36 ) (va_cwS 2 hts (zgL (zl3 k1003 k1004 k839) k828) rfl rfl rfl (by decide +kernel) ⟨Nat.le_of_ble_eq_true rfl, Nat.le_of_ble_eq_true rfl⟩) rfl rfl (Nat.le_of_ble_eq_true rfl) dX12_dearest_70 ⟨(Nat.le_of_ble_eq_true rfl), (Nat.le_of_ble_eq_true rfl)⟩ (fun q_39 H locs hq40 hP hD hS => ?_)
            replace hq40 : (x_8.toInt ≤ q_39.toInt ∧ q_36.toInt ≤ q_39.toInt ∧ (q_39.toInt = x_8.toInt ∨ q_39.toInt = q_36.toInt)) := hq40
            have hP : va_P g.1 vwCl (List.flatten [bMo g o a 0 hi ac tp x_10 x_11 x_12 fl x_13 x_14 x_15 x_16 fm_17 fk fa2_5 fc ft ff_18 fb_19 fi]) H := hP
            have hD : va_D A (List.flatten [bMo g o a 0 hi ac tp x_10 x_11 x_12 fl x_13 x_14 x_15 x_16 fm_17 fk fa2_5 fc ft ff_18 fb_19 fi]) := hD
            refine W.widen (k := 0) (n := 0) (Nat.le_of_ble_eq_true rfl) (Nat.le_of_ble_eq_true rfl) ?_
            refine W.eq (g2 := F0 m 73 ls [.int q_39]) rfl ?_
            refine lv_istore (lv' := [(4, .int q_39), (3, .int x_7), (6, .int q_36), (0, .ref o), (1, .int n), (2, .int much), (5, .int x_9)]) hx hb dX12_dearest_73 hl (by decide) rfl (fun ls hl => ?_)
            refine lv_aload_n hx hb dX12_dearest_75 rfl (lv_at hl 3 rfl) ?_
            refine lv_iconst (v := 1) hx hb dX12_dearest_76 (by decide) ?_
            refine lv_iconst (v := 0) hx hb dX12_dearest_77 (by decide) ?_
            have hL1 : (1 : Int32).toInt = 1 := by decide
            refine mcallV' (g := g) (q0 := 0) (ci := 10) (As := [.int 1, .int 0]) (rest := []) St hK hT hA hP hD hS hl.1 [0] [] rfl rfl rfl (m_goes l g o a 0 hi ac tp x_10 x_11 x_12 fl x_13 x_14 x_15 x_16 fm_17 fk fa2_5 fc ft ff_18 fb_19 fi 1 0 rfm_17 i23 i24 (by decide)) (cwV 2 hts (zgL (zl4 k1057 k1058 k1059 k839) k1028) rfl rfl rfl (by decide +kernel) ⟨Nat.le_of_ble_eq_true rfl, Nat.le_of_ble_eq_true rfl⟩) rfl rfl rfl rfl (Nat.le_of_ble_eq_true rfl) dX12_dearest_78 ⟨(Nat.le_of_ble_eq_true rfl), (Nat.le_of_ble_eq_true rfl)⟩ (fun u_ H locs hq52 hP hD hS => ?_)
            obtain ⟨ba2_41, en2_42, at2_43, de2_44, iD2_45, iO2_46, tU2_47, ff2_48, fm2_49, fb2_50, q_51⟩ := u_
            replace hq52 : ((fm2_49 0).toInt = (fm_17 0).toInt ∧ (fm2_49 3).toInt = (fm_17 3).toInt ∧ (fm2_49 4).toInt = (fm_17 4).toInt) ∧ (rM fm2_49) ∧ (0 ≤ iO2_46.toInt ∧ iO2_46.toInt ≤ 1) ∧ (0 ≤ iD2_45.toInt ∧ iD2_45.toInt ≤ 1) := hq52
            have hP : va_P g.1 vwCl (List.flatten [bMo g o a 0 hi ac tp ba2_41 en2_42 at2_43 fl de2_44 iD2_45 iO2_46 tU2_47 fm2_49 fk fa2_5 fc ft ff2_48 fb2_50 fi]) H := hP
            have hD : va_D A (List.flatten [bMo g o a 0 hi ac tp ba2_41 en2_42 at2_43 fl de2_44 iD2_45 iO2_46 tU2_47 fm2_49 fk fa2_5 fc ft ff2_48 fb2_50 fi]) := hD
            refine W.widen (k := 0) (n := 0) (Nat.le_of_ble_eq_true rfl) (Nat.le_of_ble_eq_true rfl) ?_
            refine W.eq (g2 := F0 m 81 ls [.int q_51]) rfl ?_
            obtain ⟨hq52_0, rfm2_49, hq52_2, hq52_3⟩ := hq52
            refine lv_istore (lv' := [(7, .int q_51), (4, .int q_39), (3, .int x_7), (6, .int q_36), (0, .ref o), (1, .int n), (2, .int much), (5, .int x_9)]) hx hb dX12_dearest_81 hl (by decide) rfl (fun ls hl => ?_)
            refine ziinc (j := x_9.toInt + 1) (lv' := fun v9 => [(5, .int v9), (7, .int q_51), (4, .int q_39), (3, .int x_7), (6, .int q_36), (0, .ref o), (1, .int n), (2, .int much)]) hx hb dX12_dearest_83 hl (k := 7) rfl (by decide) (fun _ => rfl) (zadd (i := x_9.toInt) (j := 1) rfl (by decide) (by omega)) (fun x_53 ls hx_53 hl => ?_)
            refine lv_goto (tgt := 40) hx hb dX12_dearest_86 (by decide) ?_
            have hl := lv_sub (l' := [(0, .ref o), (1, .int n), (2, .int much), (3, .int x_7), (4, .int q_39), (5, .int x_53), (6, .int q_36), (7, .int q_51)]) hl [5, 6, 7, 3, 2, 0, 4, 1] rfl
            have hP : va_P g.1 vwCl (List.flatten [bMo g o a 0 hi ac tp ba2_41 en2_42 at2_43 fl de2_44 iD2_45 iO2_46 tU2_47 fm2_49 fk fa2_5 fc ft ff2_48 fb2_50 fi]) H := hP
            have hD : va_D A (List.flatten [bMo g o a 0 hi ac tp ba2_41 en2_42 at2_43 fl de2_44 iD2_45 iO2_46 tU2_47 fm2_49 fk fa2_5 fc ft ff2_48 fb2_50 fi]) := hD
            exact ih40_27 x_7 q_39 x_53 ba2_41 en2_42 at2_43 de2_44 iD2_45 iO2_46 tU2_47 fm2_49 ff2_48 fb2_50 ⟨i20.1, i20.2⟩ (by first | omega | assumption | decide) (by first | omega | assumption | decide) ⟨hq52_3.1, hq52_3.2⟩ ⟨hq52_2.1, hq52_2.2⟩ rfm2_49 (by first | omega | assumption | decide) H _ ls (by omega)  hP hD hS (lv_sub hl [0, 1, 2, 3, 4, 5] rfl)
          · skip
            have c54 : x_8.toInt < q_36.toInt := zlti (Int32.not_le.mp cb9) rfl rfl
            have n55 : 1 ≤ q_36.toInt := zL2 (a := 0) c54 i21 (by decide)
            refine lv_iload hx hb dX12_dearest_59 (lv_at hl 6 rfl) ?_
            refine lv_goto (tgt := 65) hx hb dX12_dearest_61 (by decide) ?_
            refine lv_istore_n (lv' := [(3, .int x_9), (6, .int q_36), (0, .ref o), (1, .int n), (2, .int much), (4, .int x_8), (5, .int x_9)]) hx hb dX12_dearest_65 rfl hl (by decide) rfl (fun ls hl => ?_)
            refine lv_iload hx hb dX12_dearest_66 (lv_at hl 5 rfl) ?_
            refine lv_iload hx hb dX12_dearest_68 (lv_at hl 1 rfl) ?_
            refine mcallS' (g := g) (As := [.int x_8, .int q_36]) (rest := []) St hK hT hA hP hD hS hl.1 [] [0] rfl rfl rfl (m_greater l g x_8 q_36 ) (va_cwS 2 hts (zgL (zl3 k1003 k1004 k839) k828) rfl rfl rfl (by decide +kernel) ⟨Nat.le_of_ble_eq_true rfl, Nat.le_of_ble_eq_true rfl⟩) rfl rfl (Nat.le_of_ble_eq_true rfl) dX12_dearest_70 ⟨(Nat.le_of_ble_eq_true rfl), (Nat.le_of_ble_eq_true rfl)⟩ (fun q_56 H locs hq57 hP hD hS => ?_)
            replace hq57 : (x_8.toInt ≤ q_56.toInt ∧ q_36.toInt ≤ q_56.toInt ∧ (q_56.toInt = x_8.toInt ∨ q_56.toInt = q_36.toInt)) := hq57
            have hP : va_P g.1 vwCl (List.flatten [bMo g o a 0 hi ac tp x_10 x_11 x_12 fl x_13 x_14 x_15 x_16 fm_17 fk fa2_5 fc ft ff_18 fb_19 fi]) H := hP
            have hD : va_D A (List.flatten [bMo g o a 0 hi ac tp x_10 x_11 x_12 fl x_13 x_14 x_15 x_16 fm_17 fk fa2_5 fc ft ff_18 fb_19 fi]) := hD
            refine W.widen (k := 0) (n := 0) (Nat.le_of_ble_eq_true rfl) (Nat.le_of_ble_eq_true rfl) ?_
            refine W.eq (g2 := F0 m 73 ls [.int q_56]) rfl ?_
            refine lv_istore (lv' := [(4, .int q_56), (3, .int x_9), (6, .int q_36), (0, .ref o), (1, .int n), (2, .int much), (5, .int x_9)]) hx hb dX12_dearest_73 hl (by decide) rfl (fun ls hl => ?_)
            refine lv_aload_n hx hb dX12_dearest_75 rfl (lv_at hl 3 rfl) ?_
            refine lv_iconst (v := 1) hx hb dX12_dearest_76 (by decide) ?_
            refine lv_iconst (v := 0) hx hb dX12_dearest_77 (by decide) ?_
            have hL1 : (1 : Int32).toInt = 1 := by decide
            refine mcallV' (g := g) (q0 := 0) (ci := 10) (As := [.int 1, .int 0]) (rest := []) St hK hT hA hP hD hS hl.1 [0] [] rfl rfl rfl (m_goes l g o a 0 hi ac tp x_10 x_11 x_12 fl x_13 x_14 x_15 x_16 fm_17 fk fa2_5 fc ft ff_18 fb_19 fi 1 0 rfm_17 i23 i24 (by decide)) (cwV 2 hts (zgL (zl4 k1057 k1058 k1059 k839) k1028) rfl rfl rfl (by decide +kernel) ⟨Nat.le_of_ble_eq_true rfl, Nat.le_of_ble_eq_true rfl⟩) rfl rfl rfl rfl (Nat.le_of_ble_eq_true rfl) dX12_dearest_78 ⟨(Nat.le_of_ble_eq_true rfl), (Nat.le_of_ble_eq_true rfl)⟩ (fun u_ H locs hq69 hP hD hS => ?_)
            obtain ⟨ba2_58, en2_59, at2_60, de2_61, iD2_62, iO2_63, tU2_64, ff2_65, fm2_66, fb2_67, q_68⟩ := u_
            replace hq69 : ((fm2_66 0).toInt = (fm_17 0).toInt ∧ (fm2_66 3).toInt = (fm_17 3).toInt ∧ (fm2_66 4).toInt = (fm_17 4).toInt) ∧ (rM fm2_66) ∧ (0 ≤ iO2_63.toInt ∧ iO2_63.toInt ≤ 1) ∧ (0 ≤ iD2_62.toInt ∧ iD2_62.toInt ≤ 1) := hq69
            have hP : va_P g.1 vwCl (List.flatten [bMo g o a 0 hi ac tp ba2_58 en2_59 at2_60 fl de2_61 iD2_62 iO2_63 tU2_64 fm2_66 fk fa2_5 fc ft ff2_65 fb2_67 fi]) H := hP
            have hD : va_D A (List.flatten [bMo g o a 0 hi ac tp ba2_58 en2_59 at2_60 fl de2_61 iD2_62 iO2_63 tU2_64 fm2_66 fk fa2_5 fc ft ff2_65 fb2_67 fi]) := hD
            refine W.widen (k := 0) (n := 0) (Nat.le_of_ble_eq_true rfl) (Nat.le_of_ble_eq_true rfl) ?_
            refine W.eq (g2 := F0 m 81 ls [.int q_68]) rfl ?_
            obtain ⟨hq69_0, rfm2_66, hq69_2, hq69_3⟩ := hq69
            refine lv_istore (lv' := [(7, .int q_68), (4, .int q_56), (3, .int x_9), (6, .int q_36), (0, .ref o), (1, .int n), (2, .int much), (5, .int x_9)]) hx hb dX12_dearest_81 hl (by decide) rfl (fun ls hl => ?_)
            refine ziinc (j := x_9.toInt + 1) (lv' := fun v9 => [(5, .int v9), (7, .int q_68), (4, .int q_56), (3, .int x_9), (6, .int q_36), (0, .ref o), (1, .int n), (2, .int much)]) hx hb dX12_dearest_83 hl (k := 7) rfl (by decide) (fun _ => rfl) (zadd (i := x_9.toInt) (j := 1) rfl (by decide) (by omega)) (fun x_70 ls hx_70 hl => ?_)
            refine lv_goto (tgt := 40) hx hb dX12_dearest_86 (by decide) ?_
            have hl := lv_sub (l' := [(0, .ref o), (1, .int n), (2, .int much), (3, .int x_9), (4, .int q_56), (5, .int x_70), (6, .int q_36), (7, .int q_68)]) hl [5, 6, 7, 3, 2, 0, 4, 1] rfl
            have hP : va_P g.1 vwCl (List.flatten [bMo g o a 0 hi ac tp ba2_58 en2_59 at2_60 fl de2_61 iD2_62 iO2_63 tU2_64 fm2_66 fk fa2_5 fc ft ff2_65 fb2_67 fi]) H := hP
            have hD : va_D A (List.flatten [bMo g o a 0 hi ac tp ba2_58 en2_59 at2_60 fl de2_61 iD2_62 iO2_63 tU2_64 fm2_66 fk fa2_5 fc ft ff2_65 fb2_67 fi]) := hD
            exact ih40_27 x_9 q_56 x_70 ba2_58 en2_59 at2_60 de2_61 iD2_62 iO2_63 tU2_64 fm2_66 ff2_65 fb2_67 (by first | omega | assumption | decide) (by first | omega | assumption | decide) (by first | omega | assumption | decide) ⟨hq69_3.1, hq69_3.2⟩ ⟨hq69_2.1, hq69_2.2⟩ rfm2_66 (by first | omega | assumption | decide) H _ ls (by omega)  hP hD hS (lv_sub hl [0, 1, 2, 3, 4, 5] rfl)
    have hP : va_P g.1 vwCl (List.flatten [bMo g o a 0 hi ac tp ba en tA fl de iD iO tU fm fk fa2_5 fc ft ff fb fi]) H := hP
    have hD : va_D A (List.flatten [bMo g o a 0 hi ac tp ba en tA fl de iD iO tU fm fk fa2_5 fc ft ff fb fi]) := hD
    exact LP40_26 _ 0 0 0 ba en tA de iD iO tU fm ff fb (by decide) (by decide) (by decide) ⟨hiD.1, hiD.2⟩ ⟨hiO.1, hiO.2⟩ rfm (by first | omega | assumption | decide) H _ ls (Nat.lt_succ_self _)  hP hD hS (lv_sub hl [0, 1, 2, 3, 4, 5] rfl)
  · skip
    refine lv_if_ne (tgt := 15) hx hb dX12_dearest_8 (by decide) (fun c71 => absurd (by decide) c71) (fun _ => ?_)
    refine lv_iconst (v := 1) hx hb dX12_dearest_11 (by decide) ?_
    refine lv_goto (tgt := 16) hx hb dX12_dearest_12 (by decide) ?_
    refine va_put (D := g.1) (ci := 10) (v := .int 1) (ty := .int) (C := RX12) (T := TX12) (N := 20) hx hb hts izRX12 tyX12 tyX12_ok nmX12 hown hK hP hD hS 0 rfl rfl 0 (by decide) (hts _ k825) (fun _ h9 => h9) rfl (by decide +kernel) rfl rfl (Nat.le_of_ble_eq_true rfl) dX12_dearest_16 (fun H locs hP hD hS => ?_)
    have hP : va_P g.1 vwCl (List.flatten [bMo g o a 1 hi ac tp ba en tA fl de iD iO tU fm fk fa fc ft ff fb fi]) H := hP
    have hD : va_D A (List.flatten [bMo g o a 1 hi ac tp ba en tA fl de iD iO tU fm fk fa fc ft ff fb fi]) := hD
    refine lv_aload_n hx hb dX12_dearest_19 rfl (lv_at hl 0 rfl) ?_
    refine va_get (D := g.1) (ci := 10) (v := .int 1) (C := RX12) (T := TX12) (N := 20) hx hb hts izRX12 hown hK hP 0 rfl rfl 0 (by decide) (hts _ k825) (fun _ h9 => h9) rfl dX12_dearest_20 ?_
    refine lv_if_le (tgt := 28) hx hb dX12_dearest_23 (by decide) (fun c72 => absurd c72 (by decide)) (fun _ => ?_)
    refine lv_iconst (v := 0) hx hb dX12_dearest_26 (by decide) ?_
    have hP : va_P g.1 vwCl (List.flatten [bMo g o a 1 hi ac tp ba en tA fl de iD iO tU fm fk fa fc ft ff fb fi]) H := hP
    have hD : va_D A (List.flatten [bMo g o a 1 hi ac tp ba en tA fl de iD iO tU fm fk fa fc ft ff fb fi]) := hD
    exact mret_i hx hb hr hlocks hS (Nat.le_of_ble_eq_true rfl) (Nat.le_of_ble_eq_true rfl) dX12_dearest_27 ((1 : Int32), ba, en, tA, de, iD, iO, tU, ff, fm, fb, fa, (0 : Int32)) rfl (show ((fm 0).toInt = (fm 0).toInt ∧ (fm 3).toInt = (fm 3).toInt ∧ (fm 4).toInt = (fm 4).toInt) ∧ (rM fa) ∧ (rM fm) ∧ (0 ≤ iO.toInt ∧ iO.toInt ≤ 1) ∧ (0 ≤ iD.toInt ∧ iD.toInt ≤ 1) from ⟨(by first | assumption | omega | decide | exact rfl | exact zb01 (by omega) | exact Or.inl (by decide) | exact Or.inr (by first | omega | decide)), rfa, rfm, hiO, hiD⟩) hP hD
set_option maxRecDepth 100000 in
set_option maxHeartbeats 4000000 in
theorem m_falls (l : Launch) (g : zG) (o : Nat) (a : Nat → Nat) (th : Int32) (hi : Int32) (ac : Int32) (tp : Int32) (ba : Int32) (en : Int32) (tA : Int32) (fl : Int32) (de : Int32) (iD : Int32) (iO : Int32) (tU : Int32) (fm : Nat → Int32) (fk : Nat → Int32) (fa : Nat → Int32) (fc : Nat → Int32) (ft : Nat → Int32) (ff : Nat → Int32) (fb : Nat → Int32) (fi : Nat → Int32) (n : Int32) (rfm : rM fm) (rfa : rM fa) (hiD : 0 ≤ iD.toInt ∧ iD.toInt ≤ 1) (hiO : 0 ≤ iO.toInt ∧ iO.toInt ≤ 1) : zM' g l yX12_falls (Cond.code yX12_falls cX12_falls 5 (some .int) :: zB) ({ frames := 33, cells := 0, slots := 0, locals := 736 } : Room) [.ref o, .int n] [bMo g o a th hi ac tp ba en tA fl de iD iO tU fm fk fa fc ft ff fb fi] (fun u : Int32 × Int32 × Int32 × Int32 × Int32 × Int32 × Int32 × Int32 × (Nat → Int32) × (Nat → Int32) × (Nat → Int32) × (Nat → Int32) × Int32 => (fun (th2 : Int32) (ba2 : Int32) (en2 : Int32) (at2 : Int32) (de2 : Int32) (iD2 : Int32) (iO2 : Int32) (tU2 : Int32) (ff2 : Nat → Int32) (fm2 : Nat → Int32) (fb2 : Nat → Int32) (fa2 : Nat → Int32) (q : Int32) => some (.int q)) (u.1) (u.2.1) (u.2.2.1) (u.2.2.2.1) (u.2.2.2.2.1) (u.2.2.2.2.2.1) (u.2.2.2.2.2.2.1) (u.2.2.2.2.2.2.2.1) (u.2.2.2.2.2.2.2.2.1) (u.2.2.2.2.2.2.2.2.2.1) (u.2.2.2.2.2.2.2.2.2.2.1) (u.2.2.2.2.2.2.2.2.2.2.2.1) (u.2.2.2.2.2.2.2.2.2.2.2.2)) (fun u : Int32 × Int32 × Int32 × Int32 × Int32 × Int32 × Int32 × Int32 × (Nat → Int32) × (Nat → Int32) × (Nat → Int32) × (Nat → Int32) × Int32 => (fun (th2 : Int32) (ba2 : Int32) (en2 : Int32) (at2 : Int32) (de2 : Int32) (iD2 : Int32) (iO2 : Int32) (tU2 : Int32) (ff2 : Nat → Int32) (fm2 : Nat → Int32) (fb2 : Nat → Int32) (fa2 : Nat → Int32) (q : Int32) => ((fm2 0).toInt = (fm 0).toInt ∧ (fm2 3).toInt = (fm 3).toInt ∧ (fm2 4).toInt = (fm 4).toInt) ∧ (rM fa2) ∧ (rM fm2) ∧ (0 ≤ iO2.toInt ∧ iO2.toInt ≤ 1) ∧ (0 ≤ iD2.toInt ∧ iD2.toInt ≤ 1)) (u.1) (u.2.1) (u.2.2.1) (u.2.2.2.1) (u.2.2.2.2.1) (u.2.2.2.2.2.1) (u.2.2.2.2.2.2.1) (u.2.2.2.2.2.2.2.1) (u.2.2.2.2.2.2.2.2.1) (u.2.2.2.2.2.2.2.2.2.1) (u.2.2.2.2.2.2.2.2.2.2.1) (u.2.2.2.2.2.2.2.2.2.2.2.1) (u.2.2.2.2.2.2.2.2.2.2.2.2)) (fun u : Int32 × Int32 × Int32 × Int32 × Int32 × Int32 × Int32 × Int32 × (Nat → Int32) × (Nat → Int32) × (Nat → Int32) × (Nat → Int32) × Int32 => (fun (th2 : Int32) (ba2 : Int32) (en2 : Int32) (at2 : Int32) (de2 : Int32) (iD2 : Int32) (iO2 : Int32) (tU2 : Int32) (ff2 : Nat → Int32) (fm2 : Nat → Int32) (fb2 : Nat → Int32) (fa2 : Nat → Int32) (q : Int32) => [bMo g o a th2 hi ac tp ba2 en2 at2 fl de2 iD2 iO2 tU2 fm2 fk fa2 fc ft ff2 fb2 fi]) (u.1) (u.2.1) (u.2.2.1) (u.2.2.2.1) (u.2.2.2.2.1) (u.2.2.2.2.2.1) (u.2.2.2.2.2.2.1) (u.2.2.2.2.2.2.2.1) (u.2.2.2.2.2.2.2.2.1) (u.2.2.2.2.2.2.2.2.2.1) (u.2.2.2.2.2.2.2.2.2.2.1) (u.2.2.2.2.2.2.2.2.2.2.2.1) (u.2.2.2.2.2.2.2.2.2.2.2.2)) := by
  refine zM'.of (cc := cX12_falls) (maxL := 5) (rt := (some .int)) (by decide) rfl (Nat.le_of_ble_eq_true rfl) ?_
  intro p e s m args below meth c A ls St hr hlocks hin hK hT hA hP hD hS hl
  obtain ⟨hx, hb, hml, hown, hts⟩ := id St
  have hl : lv_has ls 5 [(0, .ref o), (1, .int n)] := hl
  refine lv_aload_n hx hb dX12_falls_0 rfl (lv_at hl 0 rfl) ?_
  refine lv_iload_n hx hb dX12_falls_1 rfl (lv_at hl 1 rfl) ?_
  refine lv_iconst (v := 0) hx hb dX12_falls_2 (by decide) ?_
  refine lv_bipush (v := 100) hx hb dX12_falls_3 (by decide) ?_
  have hL0 : (0 : Int32).toInt = 0 := by decide
  have hL100 : (100 : Int32).toInt = 100 := by decide
  refine mcallS' (g := g) (As := [.int n, .int 0, .int 100]) (rest := [.ref o]) St hK hT hA hP hD hS hl.1 [] [0] rfl rfl rfl (m_isIn l g n 0 100 ) (va_cwS 3 hts (zgL (zl3 k837 k838 k839) k826) rfl rfl rfl (by decide +kernel) ⟨Nat.le_of_ble_eq_true rfl, Nat.le_of_ble_eq_true rfl⟩) rfl rfl (Nat.le_of_ble_eq_true rfl) dX12_falls_5 ⟨(Nat.le_of_ble_eq_true rfl), (Nat.le_of_ble_eq_true rfl)⟩ (fun q_1 H locs hq2 hP hD hS => ?_)
  replace hq2 : (q_1 = 1 ∧ (0 : Int32).toInt ≤ n.toInt ∧ n.toInt ≤ (100 : Int32).toInt ∨ q_1 = 0 ∧ (n.toInt < (0 : Int32).toInt ∨ (100 : Int32).toInt < n.toInt)) := hq2
  have hP : va_P g.1 vwCl (List.flatten [bMo g o a th hi ac tp ba en tA fl de iD iO tU fm fk fa fc ft ff fb fi]) H := hP
  have hD : va_D A (List.flatten [bMo g o a th hi ac tp ba en tA fl de iD iO tU fm fk fa fc ft ff fb fi]) := hD
  refine W.widen (k := 0) (n := 0) (Nat.le_of_ble_eq_true rfl) (Nat.le_of_ble_eq_true rfl) ?_
  refine W.eq (g2 := F0 m 8 ls [.int q_1, .ref o]) rfl ?_
  rcases hq2 with ⟨rfl, hq2_k⟩ | ⟨rfl, hq2_k⟩
  · skip
    refine lv_if_ne (tgt := 15) hx hb dX12_falls_8 (by decide) (fun _ => ?_) (fun c3 => absurd c3 (by decide))
    refine lv_iconst (v := 0) hx hb dX12_falls_15 (by decide) ?_
    refine va_put (D := g.1) (ci := 10) (v := .int 0) (ty := .int) (C := RX12) (T := TX12) (N := 20) hx hb hts izRX12 tyX12 tyX12_ok nmX12 hown hK hP hD hS 0 rfl rfl 0 (by decide) (hts _ k825) (fun _ h9 => h9) rfl (by decide +kernel) rfl rfl (Nat.le_of_ble_eq_true rfl) dX12_falls_16 (fun H locs hP hD hS => ?_)
    have hP : va_P g.1 vwCl (List.flatten [bMo g o a 0 hi ac tp ba en tA fl de iD iO tU fm fk fa fc ft ff fb fi]) H := hP
    have hD : va_D A (List.flatten [bMo g o a 0 hi ac tp ba en tA fl de iD iO tU fm fk fa fc ft ff fb fi]) := hD
    refine lv_aload_n hx hb dX12_falls_19 rfl (lv_at hl 0 rfl) ?_
    refine va_get (D := g.1) (ci := 10) (v := .int 0) (C := RX12) (T := TX12) (N := 20) hx hb hts izRX12 hown hK hP 0 rfl rfl 0 (by decide) (hts _ k825) (fun _ h9 => h9) rfl dX12_falls_20 ?_
    refine lv_if_le (tgt := 28) hx hb dX12_falls_23 (by decide) (fun _ => ?_) (fun c4 => absurd (by decide) c4)
    refine lv_aload_n hx hb dX12_falls_28 rfl (lv_at hl 0 rfl) ?_
    refine lv_iconst (v := 2) hx hb dX12_falls_29 (by decide) ?_
    refine mcallV' (g := g) (q0 := 0) (ci := 10) (As := [.int 2]) (rest := []) St hK hT hA hP hD hS hl.1 [0] [] rfl rfl rfl (m_worksOf l g o a 0 hi ac tp ba en tA fl de iD iO tU fm fk fa fc ft ff fb fi 2 rfm) (cwV 1 hts (zgL (zl4 k990 k991 k992 k839) k863) rfl rfl rfl (by decide +kernel) ⟨Nat.le_of_ble_eq_true rfl, Nat.le_of_ble_eq_true rfl⟩) rfl rfl rfl rfl (Nat.le_of_ble_eq_true rfl) dX12_falls_30 ⟨(Nat.le_of_ble_eq_true rfl), (Nat.le_of_ble_eq_true rfl)⟩ (fun q_5 H locs hq6 hP hD hS => ?_)
    have hP : va_P g.1 vwCl (List.flatten [bMo g o a 0 hi ac tp ba en tA fl de iD iO tU fm fk fa fc ft ff fb fi]) H := hP
    have hD : va_D A (List.flatten [bMo g o a 0 hi ac tp ba en tA fl de iD iO tU fm fk fa fc ft ff fb fi]) := hD
    refine W.widen (k := 0) (n := 0) (Nat.le_of_ble_eq_true rfl) (Nat.le_of_ble_eq_true rfl) ?_
    refine W.eq (g2 := F0 m 33 ls [.int q_5]) rfl ?_
    refine lv_istore_n (lv' := [(2, .int q_5), (0, .ref o), (1, .int n)]) hx hb dX12_falls_33 rfl hl (by decide) rfl (fun ls hl => ?_)
    refine lv_aload_n hx hb dX12_falls_34 rfl (lv_at hl 1 rfl) ?_
    refine mcallV' (g := g) (q0 := 0) (ci := 10) (As := []) (rest := []) St hK hT hA hP hD hS hl.1 [0] [] rfl rfl rfl (m_putsAside l g o a 0 hi ac tp ba en tA fl de iD iO tU fm fk fa fc ft ff fb fi rfm rfa) (cwV 0 hts (zgL (zl4 k975 k976 k977 k839) k972) rfl rfl rfl (by decide +kernel) ⟨Nat.le_of_ble_eq_true rfl, Nat.le_of_ble_eq_true rfl⟩) rfl rfl rfl rfl (Nat.le_of_ble_eq_true rfl) dX12_falls_35 ⟨(Nat.le_of_ble_eq_true rfl), (Nat.le_of_ble_eq_true rfl)⟩ (fun fa2_7 H locs hq8 hP hD hS => ?_)
    replace hq8 : (rM fa2_7) ∧ (zCy fa fa2_7 0 fm 0 379) ∧ ((fa2_7 0).toInt = (fm 0).toInt ∧ (fa2_7 3).toInt = (fm 3).toInt ∧ (fa2_7 4).toInt = (fm 4).toInt) := hq8
    have hP : va_P g.1 vwCl (List.flatten [bMo g o a 0 hi ac tp ba en tA fl de iD iO tU fm fk fa2_7 fc ft ff fb fi]) H := hP
    have hD : va_D A (List.flatten [bMo g o a 0 hi ac tp ba en tA fl de iD iO tU fm fk fa2_7 fc ft ff fb fi]) := hD
    refine W.widen (k := 0) (n := 0) (Nat.le_of_ble_eq_true rfl) (Nat.le_of_ble_eq_true rfl) ?_
    refine W.eq (g2 := F0 m 38 ls []) rfl ?_
    obtain ⟨rfa2_7, hq8_1, hq8_2⟩ := hq8
    refine lv_aload_n hx hb dX12_falls_38 rfl (lv_at hl 1 rfl) ?_
    refine lv_iload_n hx hb dX12_falls_39 rfl (lv_at hl 2 rfl) ?_
    refine lv_iconst (v := 0) hx hb dX12_falls_40 (by decide) ?_
    refine mcallV' (g := g) (q0 := 0) (ci := 10) (As := [.int n, .int 0]) (rest := []) St hK hT hA hP hD hS hl.1 [0] [] rfl rfl rfl (m_goes l g o a 0 hi ac tp ba en tA fl de iD iO tU fm fk fa2_7 fc ft ff fb fi n 0 rfm hiD hiO (by first | assumption | omega | decide | exact Or.inl (by decide) | exact Or.inr (by decide))) (cwV 2 hts (zgL (zl4 k1057 k1058 k1059 k839) k1028) rfl rfl rfl (by decide +kernel) ⟨Nat.le_of_ble_eq_true rfl, Nat.le_of_ble_eq_true rfl⟩) rfl rfl rfl rfl (Nat.le_of_ble_eq_true rfl) dX12_falls_41 ⟨(Nat.le_of_ble_eq_true rfl), (Nat.le_of_ble_eq_true rfl)⟩ (fun u_ H locs hq20 hP hD hS => ?_)
    obtain ⟨ba2_9, en2_10, at2_11, de2_12, iD2_13, iO2_14, tU2_15, ff2_16, fm2_17, fb2_18, q_19⟩ := u_
    replace hq20 : ((fm2_17 0).toInt = (fm 0).toInt ∧ (fm2_17 3).toInt = (fm 3).toInt ∧ (fm2_17 4).toInt = (fm 4).toInt) ∧ (rM fm2_17) ∧ (0 ≤ iO2_14.toInt ∧ iO2_14.toInt ≤ 1) ∧ (0 ≤ iD2_13.toInt ∧ iD2_13.toInt ≤ 1) := hq20
    have hP : va_P g.1 vwCl (List.flatten [bMo g o a 0 hi ac tp ba2_9 en2_10 at2_11 fl de2_12 iD2_13 iO2_14 tU2_15 fm2_17 fk fa2_7 fc ft ff2_16 fb2_18 fi]) H := hP
    have hD : va_D A (List.flatten [bMo g o a 0 hi ac tp ba2_9 en2_10 at2_11 fl de2_12 iD2_13 iO2_14 tU2_15 fm2_17 fk fa2_7 fc ft ff2_16 fb2_18 fi]) := hD
    refine W.widen (k := 0) (n := 0) (Nat.le_of_ble_eq_true rfl) (Nat.le_of_ble_eq_true rfl) ?_
    refine W.eq (g2 := F0 m 44 ls [.int q_19]) rfl ?_
    obtain ⟨hq20_0, rfm2_17, hq20_2, hq20_3⟩ := hq20
    refine lv_istore_n (lv' := [(3, .int q_19), (2, .int q_5), (0, .ref o), (1, .int n)]) hx hb dX12_falls_44 rfl hl (by decide) rfl (fun ls hl => ?_)
    refine lv_aload_n hx hb dX12_falls_45 rfl (lv_at hl 2 rfl) ?_
    refine lv_iconst (v := 2) hx hb dX12_falls_46 (by decide) ?_
    refine mcallV' (g := g) (q0 := 0) (ci := 10) (As := [.int 2]) (rest := []) St hK hT hA hP hD hS hl.1 [0] [] rfl rfl rfl (m_worksOf l g o a 0 hi ac tp ba2_9 en2_10 at2_11 fl de2_12 iD2_13 iO2_14 tU2_15 fm2_17 fk fa2_7 fc ft ff2_16 fb2_18 fi 2 rfm2_17) (cwV 1 hts (zgL (zl4 k990 k991 k992 k839) k863) rfl rfl rfl (by decide +kernel) ⟨Nat.le_of_ble_eq_true rfl, Nat.le_of_ble_eq_true rfl⟩) rfl rfl rfl rfl (Nat.le_of_ble_eq_true rfl) dX12_falls_47 ⟨(Nat.le_of_ble_eq_true rfl), (Nat.le_of_ble_eq_true rfl)⟩ (fun q_21 H locs hq22 hP hD hS => ?_)
    have hP : va_P g.1 vwCl (List.flatten [bMo g o a 0 hi ac tp ba2_9 en2_10 at2_11 fl de2_12 iD2_13 iO2_14 tU2_15 fm2_17 fk fa2_7 fc ft ff2_16 fb2_18 fi]) H := hP
    have hD : va_D A (List.flatten [bMo g o a 0 hi ac tp ba2_9 en2_10 at2_11 fl de2_12 iD2_13 iO2_14 tU2_15 fm2_17 fk fa2_7 fc ft ff2_16 fb2_18 fi]) := hD
    refine W.widen (k := 0) (n := 0) (Nat.le_of_ble_eq_true rfl) (Nat.le_of_ble_eq_true rfl) ?_
    refine W.eq (g2 := F0 m 50 ls [.int q_21]) rfl ?_
    refine lv_iload_n hx hb dX12_falls_50 rfl (lv_at hl 1 rfl) ?_
    refine lv_iconst (v := (-1)) hx hb dX12_falls_51 (by decide) ?_
    refine lv_ixor hx hb dX12_falls_52 ?_
    refine zg (fun x_23 => ?_)
    refine lv_iand hx hb dX12_falls_53 ?_
    refine zg (fun x_24 => ?_)
    refine lv_istore (lv' := [(4, .int x_24), (3, .int q_19), (2, .int q_5), (0, .ref o), (1, .int n)]) hx hb dX12_falls_54 hl (by decide) rfl (fun ls hl => ?_)
    refine lv_aload_n hx hb dX12_falls_56 rfl (lv_at hl 3 rfl) ?_
    refine mcallV' (g := g) (q0 := 0) (ci := 10) (As := []) (rest := []) St hK hT hA hP hD hS hl.1 [0] [] rfl rfl rfl (m_comesBack l g o a 0 hi ac tp ba2_9 en2_10 at2_11 fl de2_12 iD2_13 iO2_14 tU2_15 fm2_17 fk fa2_7 fc ft ff2_16 fb2_18 fi rfm2_17 rfa2_7) (cwV 0 hts (zgL (zl4 k984 k985 k986 k839) k973) rfl rfl rfl (by decide +kernel) ⟨Nat.le_of_ble_eq_true rfl, Nat.le_of_ble_eq_true rfl⟩) rfl rfl rfl rfl (Nat.le_of_ble_eq_true rfl) dX12_falls_57 ⟨(Nat.le_of_ble_eq_true rfl), (Nat.le_of_ble_eq_true rfl)⟩ (fun fm2_25 H locs hq26 hP hD hS => ?_)
    replace hq26 : (rM fm2_25) ∧ (zCy fm2_17 fm2_25 0 fa2_7 0 379) ∧ ((fm2_25 0).toInt = (fa2_7 0).toInt ∧ (fm2_25 3).toInt = (fa2_7 3).toInt ∧ (fm2_25 4).toInt = (fa2_7 4).toInt) := hq26
    have hP : va_P g.1 vwCl (List.flatten [bMo g o a 0 hi ac tp ba2_9 en2_10 at2_11 fl de2_12 iD2_13 iO2_14 tU2_15 fm2_25 fk fa2_7 fc ft ff2_16 fb2_18 fi]) H := hP
    have hD : va_D A (List.flatten [bMo g o a 0 hi ac tp ba2_9 en2_10 at2_11 fl de2_12 iD2_13 iO2_14 tU2_15 fm2_25 fk fa2_7 fc ft ff2_16 fb2_18 fi]) := hD
    refine W.widen (k := 0) (n := 0) (Nat.le_of_ble_eq_true rfl) (Nat.le_of_ble_eq_true rfl) ?_
    refine W.eq (g2 := F0 m 60 ls []) rfl ?_
    obtain ⟨rfm2_25, hq26_1, hq26_2⟩ := hq26
    refine lv_iload hx hb dX12_falls_60 (lv_at hl 0 rfl) ?_
    have hP : va_P g.1 vwCl (List.flatten [bMo g o a 0 hi ac tp ba2_9 en2_10 at2_11 fl de2_12 iD2_13 iO2_14 tU2_15 fm2_25 fk fa2_7 fc ft ff2_16 fb2_18 fi]) H := hP
    have hD : va_D A (List.flatten [bMo g o a 0 hi ac tp ba2_9 en2_10 at2_11 fl de2_12 iD2_13 iO2_14 tU2_15 fm2_25 fk fa2_7 fc ft ff2_16 fb2_18 fi]) := hD
    exact mret_i hx hb hr hlocks hS (Nat.le_of_ble_eq_true rfl) (Nat.le_of_ble_eq_true rfl) dX12_falls_62 ((0 : Int32), ba2_9, en2_10, at2_11, de2_12, iD2_13, iO2_14, tU2_15, ff2_16, fm2_25, fb2_18, fa2_7, x_24) rfl (show ((fm2_25 0).toInt = (fm 0).toInt ∧ (fm2_25 3).toInt = (fm 3).toInt ∧ (fm2_25 4).toInt = (fm 4).toInt) ∧ (rM fa2_7) ∧ (rM fm2_25) ∧ (0 ≤ iO2_14.toInt ∧ iO2_14.toInt ≤ 1) ∧ (0 ≤ iD2_13.toInt ∧ iD2_13.toInt ≤ 1) from ⟨(by first | assumption | omega | decide | exact rfl | exact zb01 (by omega) | exact Or.inl (by decide) | exact Or.inr (by first | omega | decide)), rfa2_7, rfm2_25, hq20_2, hq20_3⟩) hP hD
  · skip
    refine lv_if_ne (tgt := 15) hx hb dX12_falls_8 (by decide) (fun c27 => absurd (by decide) c27) (fun _ => ?_)
    refine lv_iconst (v := 1) hx hb dX12_falls_11 (by decide) ?_
    refine lv_goto (tgt := 16) hx hb dX12_falls_12 (by decide) ?_
    refine va_put (D := g.1) (ci := 10) (v := .int 1) (ty := .int) (C := RX12) (T := TX12) (N := 20) hx hb hts izRX12 tyX12 tyX12_ok nmX12 hown hK hP hD hS 0 rfl rfl 0 (by decide) (hts _ k825) (fun _ h9 => h9) rfl (by decide +kernel) rfl rfl (Nat.le_of_ble_eq_true rfl) dX12_falls_16 (fun H locs hP hD hS => ?_)
    have hP : va_P g.1 vwCl (List.flatten [bMo g o a 1 hi ac tp ba en tA fl de iD iO tU fm fk fa fc ft ff fb fi]) H := hP
    have hD : va_D A (List.flatten [bMo g o a 1 hi ac tp ba en tA fl de iD iO tU fm fk fa fc ft ff fb fi]) := hD
    refine lv_aload_n hx hb dX12_falls_19 rfl (lv_at hl 0 rfl) ?_
    refine va_get (D := g.1) (ci := 10) (v := .int 1) (C := RX12) (T := TX12) (N := 20) hx hb hts izRX12 hown hK hP 0 rfl rfl 0 (by decide) (hts _ k825) (fun _ h9 => h9) rfl dX12_falls_20 ?_
    refine lv_if_le (tgt := 28) hx hb dX12_falls_23 (by decide) (fun c28 => absurd c28 (by decide)) (fun _ => ?_)
    refine lv_iconst (v := 0) hx hb dX12_falls_26 (by decide) ?_
    have hP : va_P g.1 vwCl (List.flatten [bMo g o a 1 hi ac tp ba en tA fl de iD iO tU fm fk fa fc ft ff fb fi]) H := hP
    have hD : va_D A (List.flatten [bMo g o a 1 hi ac tp ba en tA fl de iD iO tU fm fk fa fc ft ff fb fi]) := hD
    exact mret_i hx hb hr hlocks hS (Nat.le_of_ble_eq_true rfl) (Nat.le_of_ble_eq_true rfl) dX12_falls_27 ((1 : Int32), ba, en, tA, de, iD, iO, tU, ff, fm, fb, fa, (0 : Int32)) rfl (show ((fm 0).toInt = (fm 0).toInt ∧ (fm 3).toInt = (fm 3).toInt ∧ (fm 4).toInt = (fm 4).toInt) ∧ (rM fa) ∧ (rM fm) ∧ (0 ≤ iO.toInt ∧ iO.toInt ≤ 1) ∧ (0 ≤ iD.toInt ∧ iD.toInt ≤ 1) from ⟨(by first | assumption | omega | decide | exact rfl | exact zb01 (by omega) | exact Or.inl (by decide) | exact Or.inr (by first | omega | decide)), rfa, rfm, hiO, hiD⟩) hP hD
set_option maxRecDepth 100000 in
set_option maxHeartbeats 4000000 in
theorem m_last (l : Launch) (g : zG) (o : Nat) (a : Nat → Nat) (th : Int32) (hi : Int32) (ac : Int32) (tp : Int32) (ba : Int32) (en : Int32) (tA : Int32) (fl : Int32) (de : Int32) (iD : Int32) (iO : Int32) (tU : Int32) (fm : Nat → Int32) (fk : Nat → Int32) (fa : Nat → Int32) (fc : Nat → Int32) (ft : Nat → Int32) (ff : Nat → Int32) (fb : Nat → Int32) (fi : Nat → Int32) (w : Int32) (rfm : rM fm) (rfa : rM fa) (hiD : 0 ≤ iD.toInt ∧ iD.toInt ≤ 1) (hiO : 0 ≤ iO.toInt ∧ iO.toInt ≤ 1) : zM' g l yX12_last (Cond.code yX12_last cX12_last 5 (some .int) :: zB) ({ frames := 33, cells := 0, slots := 0, locals := 736 } : Room) [.ref o, .int w] [bMo g o a th hi ac tp ba en tA fl de iD iO tU fm fk fa fc ft ff fb fi] (fun u : Int32 × Int32 × Int32 × Int32 × Int32 × Int32 × Int32 × Int32 × (Nat → Int32) × (Nat → Int32) × (Nat → Int32) × (Nat → Int32) × Int32 => (fun (th2 : Int32) (ba2 : Int32) (en2 : Int32) (at2 : Int32) (de2 : Int32) (iD2 : Int32) (iO2 : Int32) (tU2 : Int32) (ff2 : Nat → Int32) (fm2 : Nat → Int32) (fb2 : Nat → Int32) (fa2 : Nat → Int32) (q : Int32) => some (.int q)) (u.1) (u.2.1) (u.2.2.1) (u.2.2.2.1) (u.2.2.2.2.1) (u.2.2.2.2.2.1) (u.2.2.2.2.2.2.1) (u.2.2.2.2.2.2.2.1) (u.2.2.2.2.2.2.2.2.1) (u.2.2.2.2.2.2.2.2.2.1) (u.2.2.2.2.2.2.2.2.2.2.1) (u.2.2.2.2.2.2.2.2.2.2.2.1) (u.2.2.2.2.2.2.2.2.2.2.2.2)) (fun u : Int32 × Int32 × Int32 × Int32 × Int32 × Int32 × Int32 × Int32 × (Nat → Int32) × (Nat → Int32) × (Nat → Int32) × (Nat → Int32) × Int32 => (fun (th2 : Int32) (ba2 : Int32) (en2 : Int32) (at2 : Int32) (de2 : Int32) (iD2 : Int32) (iO2 : Int32) (tU2 : Int32) (ff2 : Nat → Int32) (fm2 : Nat → Int32) (fb2 : Nat → Int32) (fa2 : Nat → Int32) (q : Int32) => ((fm2 0).toInt = (fm 0).toInt ∧ (fm2 3).toInt = (fm 3).toInt ∧ (fm2 4).toInt = (fm 4).toInt) ∧ (rM fa2) ∧ (rM fm2) ∧ (0 ≤ iO2.toInt ∧ iO2.toInt ≤ 1) ∧ (0 ≤ iD2.toInt ∧ iD2.toInt ≤ 1)) (u.1) (u.2.1) (u.2.2.1) (u.2.2.2.1) (u.2.2.2.2.1) (u.2.2.2.2.2.1) (u.2.2.2.2.2.2.1) (u.2.2.2.2.2.2.2.1) (u.2.2.2.2.2.2.2.2.1) (u.2.2.2.2.2.2.2.2.2.1) (u.2.2.2.2.2.2.2.2.2.2.1) (u.2.2.2.2.2.2.2.2.2.2.2.1) (u.2.2.2.2.2.2.2.2.2.2.2.2)) (fun u : Int32 × Int32 × Int32 × Int32 × Int32 × Int32 × Int32 × Int32 × (Nat → Int32) × (Nat → Int32) × (Nat → Int32) × (Nat → Int32) × Int32 => (fun (th2 : Int32) (ba2 : Int32) (en2 : Int32) (at2 : Int32) (de2 : Int32) (iD2 : Int32) (iO2 : Int32) (tU2 : Int32) (ff2 : Nat → Int32) (fm2 : Nat → Int32) (fb2 : Nat → Int32) (fa2 : Nat → Int32) (q : Int32) => [bMo g o a th2 hi ac tp ba2 en2 at2 fl de2 iD2 iO2 tU2 fm2 fk fa2 fc ft ff2 fb2 fi]) (u.1) (u.2.1) (u.2.2.1) (u.2.2.2.1) (u.2.2.2.2.1) (u.2.2.2.2.2.1) (u.2.2.2.2.2.2.1) (u.2.2.2.2.2.2.2.1) (u.2.2.2.2.2.2.2.2.1) (u.2.2.2.2.2.2.2.2.2.1) (u.2.2.2.2.2.2.2.2.2.2.1) (u.2.2.2.2.2.2.2.2.2.2.2.1) (u.2.2.2.2.2.2.2.2.2.2.2.2)) := by
  refine zM'.of (cc := cX12_last) (maxL := 5) (rt := (some .int)) (by decide) rfl (Nat.le_of_ble_eq_true rfl) ?_
  intro p e s m args below meth c A ls St hr hlocks hin hK hT hA hP hD hS hl
  obtain ⟨hx, hb, hml, hown, hts⟩ := id St
  have hl : lv_has ls 5 [(0, .ref o), (1, .int w)] := hl
  refine lv_aload_n hx hb dX12_last_0 rfl (lv_at hl 0 rfl) ?_
  refine lv_aload_n hx hb dX12_last_1 rfl (lv_at hl 0 rfl) ?_
  refine lv_iload_n hx hb dX12_last_2 rfl (lv_at hl 1 rfl) ?_
  refine mcallV' (g := g) (q0 := 0) (ci := 10) (As := [.int w]) (rest := [.ref o]) St hK hT hA hP hD hS hl.1 [0] [] rfl rfl rfl (m_isWork l g o a th hi ac tp ba en tA fl de iD iO tU fm fk fa fc ft ff fb fi w rfm) (cwV 1 hts (zgL (zl4 k1042 k1043 k1044 k839) k840) rfl rfl rfl (by decide +kernel) ⟨Nat.le_of_ble_eq_true rfl, Nat.le_of_ble_eq_true rfl⟩) rfl rfl rfl rfl (Nat.le_of_ble_eq_true rfl) dX12_last_3 ⟨(Nat.le_of_ble_eq_true rfl), (Nat.le_of_ble_eq_true rfl)⟩ (fun q_1 H locs hq2 hP hD hS => ?_)
  replace hq2 : (q_1 = 1 ∧ 0 ≤ w.toInt ∧ w.toInt ≤ 5 ∧ w.toInt < (fm 4).toInt ∨ q_1 = 0) := hq2
  have hP : va_P g.1 vwCl (List.flatten [bMo g o a th hi ac tp ba en tA fl de iD iO tU fm fk fa fc ft ff fb fi]) H := hP
  have hD : va_D A (List.flatten [bMo g o a th hi ac tp ba en tA fl de iD iO tU fm fk fa fc ft ff fb fi]) := hD
  refine W.widen (k := 0) (n := 0) (Nat.le_of_ble_eq_true rfl) (Nat.le_of_ble_eq_true rfl) ?_
  refine W.eq (g2 := F0 m 6 ls [.int q_1, .ref o]) rfl ?_
  rcases hq2 with ⟨rfl, hq2_k⟩ | rfl
  · skip
    refine lv_if_ne (tgt := 13) hx hb dX12_last_6 (by decide) (fun _ => ?_) (fun c3 => absurd c3 (by decide))
    refine lv_iconst (v := 0) hx hb dX12_last_13 (by decide) ?_
    refine va_put (D := g.1) (ci := 10) (v := .int 0) (ty := .int) (C := RX12) (T := TX12) (N := 20) hx hb hts izRX12 tyX12 tyX12_ok nmX12 hown hK hP hD hS 0 rfl rfl 0 (by decide) (hts _ k825) (fun _ h9 => h9) rfl (by decide +kernel) rfl rfl (Nat.le_of_ble_eq_true rfl) dX12_last_14 (fun H locs hP hD hS => ?_)
    have hP : va_P g.1 vwCl (List.flatten [bMo g o a 0 hi ac tp ba en tA fl de iD iO tU fm fk fa fc ft ff fb fi]) H := hP
    have hD : va_D A (List.flatten [bMo g o a 0 hi ac tp ba en tA fl de iD iO tU fm fk fa fc ft ff fb fi]) := hD
    refine lv_aload_n hx hb dX12_last_17 rfl (lv_at hl 0 rfl) ?_
    refine va_get (D := g.1) (ci := 10) (v := .int 0) (C := RX12) (T := TX12) (N := 20) hx hb hts izRX12 hown hK hP 0 rfl rfl 0 (by decide) (hts _ k825) (fun _ h9 => h9) rfl dX12_last_18 ?_
    refine lv_if_le (tgt := 26) hx hb dX12_last_21 (by decide) (fun _ => ?_) (fun c4 => absurd (by decide) c4)
    refine lv_aload_n hx hb dX12_last_26 rfl (lv_at hl 0 rfl) ?_
    refine mcallV' (g := g) (q0 := 0) (ci := 10) (As := []) (rest := []) St hK hT hA hP hD hS hl.1 [0] [] rfl rfl rfl (m_putsAside l g o a 0 hi ac tp ba en tA fl de iD iO tU fm fk fa fc ft ff fb fi rfm rfa) (cwV 0 hts (zgL (zl4 k975 k976 k977 k839) k972) rfl rfl rfl (by decide +kernel) ⟨Nat.le_of_ble_eq_true rfl, Nat.le_of_ble_eq_true rfl⟩) rfl rfl rfl rfl (Nat.le_of_ble_eq_true rfl) dX12_last_27 ⟨(Nat.le_of_ble_eq_true rfl), (Nat.le_of_ble_eq_true rfl)⟩ (fun fa2_5 H locs hq6 hP hD hS => ?_)
    replace hq6 : (rM fa2_5) ∧ (zCy fa fa2_5 0 fm 0 379) ∧ ((fa2_5 0).toInt = (fm 0).toInt ∧ (fa2_5 3).toInt = (fm 3).toInt ∧ (fa2_5 4).toInt = (fm 4).toInt) := hq6
    have hP : va_P g.1 vwCl (List.flatten [bMo g o a 0 hi ac tp ba en tA fl de iD iO tU fm fk fa2_5 fc ft ff fb fi]) H := hP
    have hD : va_D A (List.flatten [bMo g o a 0 hi ac tp ba en tA fl de iD iO tU fm fk fa2_5 fc ft ff fb fi]) := hD
    refine W.widen (k := 0) (n := 0) (Nat.le_of_ble_eq_true rfl) (Nat.le_of_ble_eq_true rfl) ?_
    refine W.eq (g2 := F0 m 30 ls []) rfl ?_
    obtain ⟨rfa2_5, hq6_1, hq6_2⟩ := hq6
    refine lv_iconst (v := (-1)) hx hb dX12_last_30 (by decide) ?_
    refine lv_istore_n (lv' := [(2, .int (-1)), (0, .ref o), (1, .int w)]) hx hb dX12_last_31 rfl hl (by decide) rfl (fun ls hl => ?_)
    refine lv_iconst (v := 0) hx hb dX12_last_32 (by decide) ?_
    refine lv_istore_n (lv' := [(3, .int 0), (2, .int (-1)), (0, .ref o), (1, .int w)]) hx hb dX12_last_33 rfl hl (by decide) rfl (fun ls hl => ?_)
    have hl := lv_sub (l' := [(0, .ref o), (1, .int w), (2, .int (-1)), (3, .int 0)]) hl [2, 3, 1, 0] rfl
    have LP34_24 : ∀ (kf : Nat) (x_7 : Int32) (x_8 : Int32) (x_9 : Int32) (x_10 : Int32) (x_11 : Int32) (x_12 : Int32) (x_13 : Int32) (x_14 : Int32) (x_15 : Int32) (fm_16 : Nat → Int32) (ff_17 : Nat → Int32) (fb_18 : Nat → Int32), ((-1) ≤ x_7.toInt ∧ x_7.toInt ≤ 100) → (0 ≤ x_8.toInt ∧ x_8.toInt ≤ 101) → (0 ≤ x_13.toInt ∧ x_13.toInt ≤ 1) → (0 ≤ x_14.toInt ∧ x_14.toInt ≤ 1) → (rM fm_16) → ((fm_16 0).toInt = (fm 0).toInt ∧ (fm_16 3).toInt = (fm 3).toInt ∧ (fm_16 4).toInt = (fm 4).toInt) → ∀ (H : Heap) (locs : List Loc) (ls : Array Slot), ((102 - x_8.toInt).toNat) < kf → va_P g.1 vwCl (List.flatten [bMo g o a 0 hi ac tp x_9 x_10 x_11 fl x_12 x_13 x_14 x_15 fm_16 fk fa2_5 fc ft ff_17 fb_18 fi]) H → va_D A (List.flatten [bMo g o a 0 hi ac tp x_9 x_10 x_11 fl x_12 x_13 x_14 x_15 fm_16 fk fa2_5 fc ft ff_17 fb_18 fi]) → va_S A s.heap H locs → lv_has ls 5 [(0, .ref o), (1, .int w), (2, .int x_7), (3, .int x_8)] → W p l e ({ frames := 33, cells := 0, slots := 0, locals := 736 } : Room) s m args below meth c H locs (0) (0) (zF g (fun u : Int32 × Int32 × Int32 × Int32 × Int32 × Int32 × Int32 × Int32 × (Nat → Int32) × (Nat → Int32) × (Nat → Int32) × (Nat → Int32) × Int32 => (fun (th2 : Int32) (ba2 : Int32) (en2 : Int32) (at2 : Int32) (de2 : Int32) (iD2 : Int32) (iO2 : Int32) (tU2 : Int32) (ff2 : Nat → Int32) (fm2 : Nat → Int32) (fb2 : Nat → Int32) (fa2 : Nat → Int32) (q : Int32) => some (.int q)) (u.1) (u.2.1) (u.2.2.1) (u.2.2.2.1) (u.2.2.2.2.1) (u.2.2.2.2.2.1) (u.2.2.2.2.2.2.1) (u.2.2.2.2.2.2.2.1) (u.2.2.2.2.2.2.2.2.1) (u.2.2.2.2.2.2.2.2.2.1) (u.2.2.2.2.2.2.2.2.2.2.1) (u.2.2.2.2.2.2.2.2.2.2.2.1) (u.2.2.2.2.2.2.2.2.2.2.2.2)) (fun u : Int32 × Int32 × Int32 × Int32 × Int32 × Int32 × Int32 × Int32 × (Nat → Int32) × (Nat → Int32) × (Nat → Int32) × (Nat → Int32) × Int32 => (fun (th2 : Int32) (ba2 : Int32) (en2 : Int32) (at2 : Int32) (de2 : Int32) (iD2 : Int32) (iO2 : Int32) (tU2 : Int32) (ff2 : Nat → Int32) (fm2 : Nat → Int32) (fb2 : Nat → Int32) (fa2 : Nat → Int32) (q : Int32) => ((fm2 0).toInt = (fm 0).toInt ∧ (fm2 3).toInt = (fm 3).toInt ∧ (fm2 4).toInt = (fm 4).toInt) ∧ (rM fa2) ∧ (rM fm2) ∧ (0 ≤ iO2.toInt ∧ iO2.toInt ≤ 1) ∧ (0 ≤ iD2.toInt ∧ iD2.toInt ≤ 1)) (u.1) (u.2.1) (u.2.2.1) (u.2.2.2.1) (u.2.2.2.2.1) (u.2.2.2.2.2.1) (u.2.2.2.2.2.2.1) (u.2.2.2.2.2.2.2.1) (u.2.2.2.2.2.2.2.2.1) (u.2.2.2.2.2.2.2.2.2.1) (u.2.2.2.2.2.2.2.2.2.2.1) (u.2.2.2.2.2.2.2.2.2.2.2.1) (u.2.2.2.2.2.2.2.2.2.2.2.2)) (fun u : Int32 × Int32 × Int32 × Int32 × Int32 × Int32 × Int32 × Int32 × (Nat → Int32) × (Nat → Int32) × (Nat → Int32) × (Nat → Int32) × Int32 => (fun (th2 : Int32) (ba2 : Int32) (en2 : Int32) (at2 : Int32) (de2 : Int32) (iD2 : Int32) (iO2 : Int32) (tU2 : Int32) (ff2 : Nat → Int32) (fm2 : Nat → Int32) (fb2 : Nat → Int32) (fa2 : Nat → Int32) (q : Int32) => [bMo g o a th2 hi ac tp ba2 en2 at2 fl de2 iD2 iO2 tU2 fm2 fk fa2 fc ft ff2 fb2 fi]) (u.1) (u.2.1) (u.2.2.1) (u.2.2.2.1) (u.2.2.2.2.1) (u.2.2.2.2.2.1) (u.2.2.2.2.2.2.1) (u.2.2.2.2.2.2.2.1) (u.2.2.2.2.2.2.2.2.1) (u.2.2.2.2.2.2.2.2.2.1) (u.2.2.2.2.2.2.2.2.2.2.1) (u.2.2.2.2.2.2.2.2.2.2.2.1) (u.2.2.2.2.2.2.2.2.2.2.2.2)) ({ frames := 33, cells := 0, slots := 0, locals := 736 } : Room) below args s A) (F0 m 34 ls []) := by
      intro kf
      induction kf with
      | zero => intro x_7 x_8 x_9 x_10 x_11 x_12 x_13 x_14 x_15 fm_16 ff_17 fb_18 i19 i20 i21 i22 rfm_16 i23 H locs ls hk; exact absurd hk (Nat.not_lt_zero _)
      | succ kf ih34_25 =>
        intro x_7 x_8 x_9 x_10 x_11 x_12 x_13 x_14 x_15 fm_16 ff_17 fb_18 i19 i20 i21 i22 rfm_16 i23 H locs ls hk34_25 hP hD hS hl
        refine lv_iload_n hx hb dX12_last_34 rfl (lv_at hl 3 rfl) ?_
        refine lv_bipush (v := 100) hx hb dX12_last_35 (by decide) ?_
        refine lv_icmp_gt (tgt := 71) hx hb dX12_last_37 (by decide) (fun cb9 => ?_) (fun cb9 => ?_)
        · skip
          have c26 : 100 < x_8.toInt := zlti cb9 (by decide) rfl
          have n27 : 101 ≤ x_8.toInt := zL2 (a := 100) c26 (Int.le_refl _) (by decide)
          refine lv_aload_n hx hb dX12_last_71 rfl (lv_at hl 0 rfl) ?_
          refine mcallV' (g := g) (q0 := 0) (ci := 10) (As := []) (rest := []) St hK hT hA hP hD hS hl.1 [0] [] rfl rfl rfl (m_comesBack l g o a 0 hi ac tp x_9 x_10 x_11 fl x_12 x_13 x_14 x_15 fm_16 fk fa2_5 fc ft ff_17 fb_18 fi rfm_16 rfa2_5) (cwV 0 hts (zgL (zl4 k984 k985 k986 k839) k973) rfl rfl rfl (by decide +kernel) ⟨Nat.le_of_ble_eq_true rfl, Nat.le_of_ble_eq_true rfl⟩) rfl rfl rfl rfl (Nat.le_of_ble_eq_true rfl) dX12_last_72 ⟨(Nat.le_of_ble_eq_true rfl), (Nat.le_of_ble_eq_true rfl)⟩ (fun fm2_28 H locs hq29 hP hD hS => ?_)
          replace hq29 : (rM fm2_28) ∧ (zCy fm_16 fm2_28 0 fa2_5 0 379) ∧ ((fm2_28 0).toInt = (fa2_5 0).toInt ∧ (fm2_28 3).toInt = (fa2_5 3).toInt ∧ (fm2_28 4).toInt = (fa2_5 4).toInt) := hq29
          have hP : va_P g.1 vwCl (List.flatten [bMo g o a 0 hi ac tp x_9 x_10 x_11 fl x_12 x_13 x_14 x_15 fm2_28 fk fa2_5 fc ft ff_17 fb_18 fi]) H := hP
          have hD : va_D A (List.flatten [bMo g o a 0 hi ac tp x_9 x_10 x_11 fl x_12 x_13 x_14 x_15 fm2_28 fk fa2_5 fc ft ff_17 fb_18 fi]) := hD
          refine W.widen (k := 0) (n := 0) (Nat.le_of_ble_eq_true rfl) (Nat.le_of_ble_eq_true rfl) ?_
          refine W.eq (g2 := F0 m 75 ls []) rfl ?_
          obtain ⟨rfm2_28, hq29_1, hq29_2⟩ := hq29
          refine lv_iload_n hx hb dX12_last_75 rfl (lv_at hl 2 rfl) ?_
          have hP : va_P g.1 vwCl (List.flatten [bMo g o a 0 hi ac tp x_9 x_10 x_11 fl x_12 x_13 x_14 x_15 fm2_28 fk fa2_5 fc ft ff_17 fb_18 fi]) H := hP
          have hD : va_D A (List.flatten [bMo g o a 0 hi ac tp x_9 x_10 x_11 fl x_12 x_13 x_14 x_15 fm2_28 fk fa2_5 fc ft ff_17 fb_18 fi]) := hD
          exact mret_i hx hb hr hlocks hS (Nat.le_of_ble_eq_true rfl) (Nat.le_of_ble_eq_true rfl) dX12_last_76 ((0 : Int32), x_9, x_10, x_11, x_12, x_13, x_14, x_15, ff_17, fm2_28, fb_18, fa2_5, x_7) rfl (show ((fm2_28 0).toInt = (fm 0).toInt ∧ (fm2_28 3).toInt = (fm 3).toInt ∧ (fm2_28 4).toInt = (fm 4).toInt) ∧ (rM fa2_5) ∧ (rM fm2_28) ∧ (0 ≤ x_14.toInt ∧ x_14.toInt ≤ 1) ∧ (0 ≤ x_13.toInt ∧ x_13.toInt ≤ 1) from ⟨(by first | assumption | omega | decide | exact rfl | exact zb01 (by omega) | exact Or.inl (by decide) | exact Or.inr (by first | omega | decide)), rfa2_5, rfm2_28, i22, i21⟩) hP hD
        · skip
          have c30 : x_8.toInt ≤ 100 := zle (Int32.not_lt.mp cb9) rfl (by decide)
          have n31 : x_8.toInt ≤ 100 := Int.le_trans c30 (Int.le_refl _)
          refine lv_iload_n hx hb dX12_last_40 rfl (lv_at hl 2 rfl) ?_
          refine lv_iconst (v := (-1)) hx hb dX12_last_41 (by decide) ?_
          refine lv_icmp_ne (tgt := 71) hx hb dX12_last_42 (by decide) (fun cb9 => ?_) (fun cb9 => ?_)
          · skip
            have c32 : ¬ x_7.toInt = (-1) := zne cb9 rfl (by decide)
            have n33 : 0 ≤ x_7.toInt := zN1 c32 i19.1 (by decide)
            refine lv_aload_n hx hb dX12_last_71 rfl (lv_at hl 0 rfl) ?_
            refine mcallV' (g := g) (q0 := 0) (ci := 10) (As := []) (rest := []) St hK hT hA hP hD hS hl.1 [0] [] rfl rfl rfl (m_comesBack l g o a 0 hi ac tp x_9 x_10 x_11 fl x_12 x_13 x_14 x_15 fm_16 fk fa2_5 fc ft ff_17 fb_18 fi rfm_16 rfa2_5) (cwV 0 hts (zgL (zl4 k984 k985 k986 k839) k973) rfl rfl rfl (by decide +kernel) ⟨Nat.le_of_ble_eq_true rfl, Nat.le_of_ble_eq_true rfl⟩) rfl rfl rfl rfl (Nat.le_of_ble_eq_true rfl) dX12_last_72 ⟨(Nat.le_of_ble_eq_true rfl), (Nat.le_of_ble_eq_true rfl)⟩ (fun fm2_34 H locs hq35 hP hD hS => ?_)
            replace hq35 : (rM fm2_34) ∧ (zCy fm_16 fm2_34 0 fa2_5 0 379) ∧ ((fm2_34 0).toInt = (fa2_5 0).toInt ∧ (fm2_34 3).toInt = (fa2_5 3).toInt ∧ (fm2_34 4).toInt = (fa2_5 4).toInt) := hq35
            have hP : va_P g.1 vwCl (List.flatten [bMo g o a 0 hi ac tp x_9 x_10 x_11 fl x_12 x_13 x_14 x_15 fm2_34 fk fa2_5 fc ft ff_17 fb_18 fi]) H := hP
            have hD : va_D A (List.flatten [bMo g o a 0 hi ac tp x_9 x_10 x_11 fl x_12 x_13 x_14 x_15 fm2_34 fk fa2_5 fc ft ff_17 fb_18 fi]) := hD
            refine W.widen (k := 0) (n := 0) (Nat.le_of_ble_eq_true rfl) (Nat.le_of_ble_eq_true rfl) ?_
            refine W.eq (g2 := F0 m 75 ls []) rfl ?_
            obtain ⟨rfm2_34, hq35_1, hq35_2⟩ := hq35
            refine lv_iload_n hx hb dX12_last_75 rfl (lv_at hl 2 rfl) ?_
            have hP : va_P g.1 vwCl (List.flatten [bMo g o a 0 hi ac tp x_9 x_10 x_11 fl x_12 x_13 x_14 x_15 fm2_34 fk fa2_5 fc ft ff_17 fb_18 fi]) H := hP
            have hD : va_D A (List.flatten [bMo g o a 0 hi ac tp x_9 x_10 x_11 fl x_12 x_13 x_14 x_15 fm2_34 fk fa2_5 fc ft ff_17 fb_18 fi]) := hD
            exact mret_i hx hb hr hlocks hS (Nat.le_of_ble_eq_true rfl) (Nat.le_of_ble_eq_true rfl) dX12_last_76 ((0 : Int32), x_9, x_10, x_11, x_12, x_13, x_14, x_15, ff_17, fm2_34, fb_18, fa2_5, x_7) rfl (show ((fm2_34 0).toInt = (fm 0).toInt ∧ (fm2_34 3).toInt = (fm 3).toInt ∧ (fm2_34 4).toInt = (fm 4).toInt) ∧ (rM fa2_5) ∧ (rM fm2_34) ∧ (0 ≤ x_14.toInt ∧ x_14.toInt ≤ 1) ∧ (0 ≤ x_13.toInt ∧ x_13.toInt ≤ 1) from ⟨(by first | assumption | omega | decide | exact rfl | exact zb01 (by omega) | exact Or.inl (by decide) | exact Or.inr (by first | omega | decide)), rfa2_5, rfm2_34, i22, i21⟩) hP hD
          · skip
            have c36 : x_7.toInt = (-1) := zeq cb9 rfl (by decide)
            have n37 : x_7.toInt ≤ (-1) := Int.le_trans (Int.le_of_eq c36) (Int.le_refl _)
            refine lv_aload_n hx hb dX12_last_45 rfl (lv_at hl 0 rfl) ?_
            refine lv_iload_n hx hb dX12_last_46 rfl (lv_at hl 1 rfl) ?_
            refine lv_iconst (v := 3) hx hb dX12_last_47 (by decide) ?_
            have hL3 : (3 : Int32).toInt = 3 := by decide
            refine mcallV' (g := g) (q0 := 0) (ci := 10) (As := [.int w, .int 3]) (rest := []) St hK hT hA hP hD hS hl.1 [0] [] rfl rfl rfl (m_ofWork l g o a 0 hi ac tp x_9 x_10 x_11 fl x_12 x_13 x_14 x_15 fm_16 fk fa2_5 fc ft ff_17 fb_18 fi w 3 (by first | assumption | omega | decide | exact Or.inl (by decide) | exact Or.inr (by decide)) (by decide)) (cwV 2 hts (zgL (zl4 k864 k865 k866 k839) k833) rfl rfl rfl (by decide +kernel) ⟨Nat.le_of_ble_eq_true rfl, Nat.le_of_ble_eq_true rfl⟩) rfl rfl rfl rfl (Nat.le_of_ble_eq_true rfl) dX12_last_48 ⟨(Nat.le_of_ble_eq_true rfl), (Nat.le_of_ble_eq_true rfl)⟩ (fun q_38 H locs hq39 hP hD hS => ?_)
            have hP : va_P g.1 vwCl (List.flatten [bMo g o a 0 hi ac tp x_9 x_10 x_11 fl x_12 x_13 x_14 x_15 fm_16 fk fa2_5 fc ft ff_17 fb_18 fi]) H := hP
            have hD : va_D A (List.flatten [bMo g o a 0 hi ac tp x_9 x_10 x_11 fl x_12 x_13 x_14 x_15 fm_16 fk fa2_5 fc ft ff_17 fb_18 fi]) := hD
            refine W.widen (k := 0) (n := 0) (Nat.le_of_ble_eq_true rfl) (Nat.le_of_ble_eq_true rfl) ?_
            refine W.eq (g2 := F0 m 51 ls [.int q_38]) rfl ?_
            refine lv_iconst (v := 2) hx hb dX12_last_51 (by decide) ?_
            refine lv_icmp_ne (tgt := 57) hx hb dX12_last_52 (by decide) (fun cb9 => ?_) (fun cb9 => ?_)
            · skip
              have c40 : ¬ q_38.toInt = 2 := zne cb9 rfl (by decide)
              refine lv_aload_n hx hb dX12_last_57 rfl (lv_at hl 0 rfl) ?_
              refine lv_iconst (v := 1) hx hb dX12_last_58 (by decide) ?_
              refine lv_iconst (v := 0) hx hb dX12_last_59 (by decide) ?_
              have hL1 : (1 : Int32).toInt = 1 := by decide
              refine mcallV' (g := g) (q0 := 0) (ci := 10) (As := [.int 1, .int 0]) (rest := []) St hK hT hA hP hD hS hl.1 [0] [] rfl rfl rfl (m_goes l g o a 0 hi ac tp x_9 x_10 x_11 fl x_12 x_13 x_14 x_15 fm_16 fk fa2_5 fc ft ff_17 fb_18 fi 1 0 rfm_16 i21 i22 (by decide)) (cwV 2 hts (zgL (zl4 k1057 k1058 k1059 k839) k1028) rfl rfl rfl (by decide +kernel) ⟨Nat.le_of_ble_eq_true rfl, Nat.le_of_ble_eq_true rfl⟩) rfl rfl rfl rfl (Nat.le_of_ble_eq_true rfl) dX12_last_60 ⟨(Nat.le_of_ble_eq_true rfl), (Nat.le_of_ble_eq_true rfl)⟩ (fun u_ H locs hq52 hP hD hS => ?_)
              obtain ⟨ba2_41, en2_42, at2_43, de2_44, iD2_45, iO2_46, tU2_47, ff2_48, fm2_49, fb2_50, q_51⟩ := u_
              replace hq52 : ((fm2_49 0).toInt = (fm_16 0).toInt ∧ (fm2_49 3).toInt = (fm_16 3).toInt ∧ (fm2_49 4).toInt = (fm_16 4).toInt) ∧ (rM fm2_49) ∧ (0 ≤ iO2_46.toInt ∧ iO2_46.toInt ≤ 1) ∧ (0 ≤ iD2_45.toInt ∧ iD2_45.toInt ≤ 1) := hq52
              have hP : va_P g.1 vwCl (List.flatten [bMo g o a 0 hi ac tp ba2_41 en2_42 at2_43 fl de2_44 iD2_45 iO2_46 tU2_47 fm2_49 fk fa2_5 fc ft ff2_48 fb2_50 fi]) H := hP
              have hD : va_D A (List.flatten [bMo g o a 0 hi ac tp ba2_41 en2_42 at2_43 fl de2_44 iD2_45 iO2_46 tU2_47 fm2_49 fk fa2_5 fc ft ff2_48 fb2_50 fi]) := hD
              refine W.widen (k := 0) (n := 0) (Nat.le_of_ble_eq_true rfl) (Nat.le_of_ble_eq_true rfl) ?_
              refine W.eq (g2 := F0 m 63 ls [.int q_51]) rfl ?_
              obtain ⟨hq52_0, rfm2_49, hq52_2, hq52_3⟩ := hq52
              refine lv_istore (lv' := [(4, .int q_51), (0, .ref o), (1, .int w), (2, .int x_7), (3, .int x_8)]) hx hb dX12_last_63 hl (by decide) rfl (fun ls hl => ?_)
              refine ziinc3 (n' := 1) (a' := 1) (b' := 101) (lv' := fun v9 => [(3, .int v9), (4, .int q_51), (0, .ref o), (1, .int w), (2, .int x_7)]) hx hb dX12_last_65 hl (k := 4) rfl (by decide) (fun _ => rfl) (zaddK (i := x_8.toInt) (j := 1) rfl (by decide) i20.1 n31 (Int.le_refl _) (Int.le_refl _) (by decide)) (fun x_53 ls hx_53 hl => ?_)
              refine lv_goto (tgt := 34) hx hb dX12_last_68 (by decide) ?_
              have hl := lv_sub (l' := [(0, .ref o), (1, .int w), (2, .int x_7), (3, .int x_53), (4, .int q_51)]) hl [2, 3, 4, 0, 1] rfl
              have hP : va_P g.1 vwCl (List.flatten [bMo g o a 0 hi ac tp ba2_41 en2_42 at2_43 fl de2_44 iD2_45 iO2_46 tU2_47 fm2_49 fk fa2_5 fc ft ff2_48 fb2_50 fi]) H := hP
              have hD : va_D A (List.flatten [bMo g o a 0 hi ac tp ba2_41 en2_42 at2_43 fl de2_44 iD2_45 iO2_46 tU2_47 fm2_49 fk fa2_5 fc ft ff2_48 fb2_50 fi]) := hD
              exact ih34_25 x_7 x_53 ba2_41 en2_42 at2_43 de2_44 iD2_45 iO2_46 tU2_47 fm2_49 ff2_48 fb2_50 ⟨i19.1, (Int.le_trans n37 (by decide))⟩ ⟨(Int.le_trans (by decide) hx_53.2.1), hx_53.2.2⟩ ⟨hq52_3.1, hq52_3.2⟩ ⟨hq52_2.1, hq52_2.2⟩ rfm2_49 (by first | omega | assumption | decide) H _ ls (zmK hx_53.1 (by decide) n31 (by decide) hk34_25)  hP hD hS (lv_sub hl [0, 1, 2, 3] rfl)
            · skip
              have c54 : q_38.toInt = 2 := zeq cb9 rfl (by decide)
              have n55 : 2 ≤ q_38.toInt := Int.le_trans (Int.le_refl _) (Int.le_of_eq c54.symm)
              have n56 : q_38.toInt ≤ 2 := Int.le_trans (Int.le_of_eq c54) (Int.le_refl _)
              refine lv_iload_n hx hb dX12_last_55 rfl (lv_at hl 3 rfl) ?_
              refine lv_istore_n (lv' := [(2, .int x_8), (0, .ref o), (1, .int w), (3, .int x_8)]) hx hb dX12_last_56 rfl hl (by decide) rfl (fun ls hl => ?_)
              refine lv_aload_n hx hb dX12_last_57 rfl (lv_at hl 1 rfl) ?_
              refine lv_iconst (v := 1) hx hb dX12_last_58 (by decide) ?_
              refine lv_iconst (v := 0) hx hb dX12_last_59 (by decide) ?_
              have hL1 : (1 : Int32).toInt = 1 := by decide
              refine mcallV' (g := g) (q0 := 0) (ci := 10) (As := [.int 1, .int 0]) (rest := []) St hK hT hA hP hD hS hl.1 [0] [] rfl rfl rfl (m_goes l g o a 0 hi ac tp x_9 x_10 x_11 fl x_12 x_13 x_14 x_15 fm_16 fk fa2_5 fc ft ff_17 fb_18 fi 1 0 rfm_16 i21 i22 (by decide)) (cwV 2 hts (zgL (zl4 k1057 k1058 k1059 k839) k1028) rfl rfl rfl (by decide +kernel) ⟨Nat.le_of_ble_eq_true rfl, Nat.le_of_ble_eq_true rfl⟩) rfl rfl rfl rfl (Nat.le_of_ble_eq_true rfl) dX12_last_60 ⟨(Nat.le_of_ble_eq_true rfl), (Nat.le_of_ble_eq_true rfl)⟩ (fun u_ H locs hq68 hP hD hS => ?_)
              obtain ⟨ba2_57, en2_58, at2_59, de2_60, iD2_61, iO2_62, tU2_63, ff2_64, fm2_65, fb2_66, q_67⟩ := u_
              replace hq68 : ((fm2_65 0).toInt = (fm_16 0).toInt ∧ (fm2_65 3).toInt = (fm_16 3).toInt ∧ (fm2_65 4).toInt = (fm_16 4).toInt) ∧ (rM fm2_65) ∧ (0 ≤ iO2_62.toInt ∧ iO2_62.toInt ≤ 1) ∧ (0 ≤ iD2_61.toInt ∧ iD2_61.toInt ≤ 1) := hq68
              have hP : va_P g.1 vwCl (List.flatten [bMo g o a 0 hi ac tp ba2_57 en2_58 at2_59 fl de2_60 iD2_61 iO2_62 tU2_63 fm2_65 fk fa2_5 fc ft ff2_64 fb2_66 fi]) H := hP
              have hD : va_D A (List.flatten [bMo g o a 0 hi ac tp ba2_57 en2_58 at2_59 fl de2_60 iD2_61 iO2_62 tU2_63 fm2_65 fk fa2_5 fc ft ff2_64 fb2_66 fi]) := hD
              refine W.widen (k := 0) (n := 0) (Nat.le_of_ble_eq_true rfl) (Nat.le_of_ble_eq_true rfl) ?_
              refine W.eq (g2 := F0 m 63 ls [.int q_67]) rfl ?_
              obtain ⟨hq68_0, rfm2_65, hq68_2, hq68_3⟩ := hq68
              refine lv_istore (lv' := [(4, .int q_67), (2, .int x_8), (0, .ref o), (1, .int w), (3, .int x_8)]) hx hb dX12_last_63 hl (by decide) rfl (fun ls hl => ?_)
              refine ziinc3 (n' := 1) (a' := 1) (b' := 101) (lv' := fun v9 => [(3, .int v9), (4, .int q_67), (2, .int x_8), (0, .ref o), (1, .int w)]) hx hb dX12_last_65 hl (k := 4) rfl (by decide) (fun _ => rfl) (zaddK (i := x_8.toInt) (j := 1) rfl (by decide) i20.1 n31 (Int.le_refl _) (Int.le_refl _) (by decide)) (fun x_69 ls hx_69 hl => ?_)
              refine lv_goto (tgt := 34) hx hb dX12_last_68 (by decide) ?_
              have hl := lv_sub (l' := [(0, .ref o), (1, .int w), (2, .int x_8), (3, .int x_69), (4, .int q_67)]) hl [3, 4, 2, 0, 1] rfl
              have hP : va_P g.1 vwCl (List.flatten [bMo g o a 0 hi ac tp ba2_57 en2_58 at2_59 fl de2_60 iD2_61 iO2_62 tU2_63 fm2_65 fk fa2_5 fc ft ff2_64 fb2_66 fi]) H := hP
              have hD : va_D A (List.flatten [bMo g o a 0 hi ac tp ba2_57 en2_58 at2_59 fl de2_60 iD2_61 iO2_62 tU2_63 fm2_65 fk fa2_5 fc ft ff2_64 fb2_66 fi]) := hD
              exact ih34_25 x_8 x_69 ba2_57 en2_58 at2_59 de2_60 iD2_61 iO2_62 tU2_63 fm2_65 ff2_64 fb2_66 ⟨(Int.le_trans (by decide) i20.1), n31⟩ ⟨(Int.le_trans (by decide) hx_69.2.1), hx_69.2.2⟩ ⟨hq68_3.1, hq68_3.2⟩ ⟨hq68_2.1, hq68_2.2⟩ rfm2_65 (by first | omega | assumption | decide) H _ ls (zmK hx_69.1 (by decide) n31 (by decide) hk34_25)  hP hD hS (lv_sub hl [0, 1, 2, 3] rfl)
    have hLn1 : ((-1) : Int32).toInt = (-1) := by decide
    have hL0 : (0 : Int32).toInt = 0 := by decide
    have hP : va_P g.1 vwCl (List.flatten [bMo g o a 0 hi ac tp ba en tA fl de iD iO tU fm fk fa2_5 fc ft ff fb fi]) H := hP
    have hD : va_D A (List.flatten [bMo g o a 0 hi ac tp ba en tA fl de iD iO tU fm fk fa2_5 fc ft ff fb fi]) := hD
    exact LP34_24 _ (-1) 0 ba en tA de iD iO tU fm ff fb (by decide) (by decide) ⟨hiD.1, hiD.2⟩ ⟨hiO.1, hiO.2⟩ rfm (by first | omega | assumption | decide) H _ ls (Nat.lt_succ_self _)  hP hD hS (lv_sub hl [0, 1, 2, 3] rfl)
  · skip
    refine lv_if_ne (tgt := 13) hx hb dX12_last_6 (by decide) (fun c70 => absurd (by decide) c70) (fun _ => ?_)
    refine lv_iconst (v := 1) hx hb dX12_last_9 (by decide) ?_
    refine lv_goto (tgt := 14) hx hb dX12_last_10 (by decide) ?_
    refine va_put (D := g.1) (ci := 10) (v := .int 1) (ty := .int) (C := RX12) (T := TX12) (N := 20) hx hb hts izRX12 tyX12 tyX12_ok nmX12 hown hK hP hD hS 0 rfl rfl 0 (by decide) (hts _ k825) (fun _ h9 => h9) rfl (by decide +kernel) rfl rfl (Nat.le_of_ble_eq_true rfl) dX12_last_14 (fun H locs hP hD hS => ?_)
    have hP : va_P g.1 vwCl (List.flatten [bMo g o a 1 hi ac tp ba en tA fl de iD iO tU fm fk fa fc ft ff fb fi]) H := hP
    have hD : va_D A (List.flatten [bMo g o a 1 hi ac tp ba en tA fl de iD iO tU fm fk fa fc ft ff fb fi]) := hD
    refine lv_aload_n hx hb dX12_last_17 rfl (lv_at hl 0 rfl) ?_
    refine va_get (D := g.1) (ci := 10) (v := .int 1) (C := RX12) (T := TX12) (N := 20) hx hb hts izRX12 hown hK hP 0 rfl rfl 0 (by decide) (hts _ k825) (fun _ h9 => h9) rfl dX12_last_18 ?_
    refine lv_if_le (tgt := 26) hx hb dX12_last_21 (by decide) (fun c71 => absurd c71 (by decide)) (fun _ => ?_)
    refine lv_iconst (v := 0) hx hb dX12_last_24 (by decide) ?_
    have hP : va_P g.1 vwCl (List.flatten [bMo g o a 1 hi ac tp ba en tA fl de iD iO tU fm fk fa fc ft ff fb fi]) H := hP
    have hD : va_D A (List.flatten [bMo g o a 1 hi ac tp ba en tA fl de iD iO tU fm fk fa fc ft ff fb fi]) := hD
    exact mret_i hx hb hr hlocks hS (Nat.le_of_ble_eq_true rfl) (Nat.le_of_ble_eq_true rfl) dX12_last_25 ((1 : Int32), ba, en, tA, de, iD, iO, tU, ff, fm, fb, fa, (0 : Int32)) rfl (show ((fm 0).toInt = (fm 0).toInt ∧ (fm 3).toInt = (fm 3).toInt ∧ (fm 4).toInt = (fm 4).toInt) ∧ (rM fa) ∧ (rM fm) ∧ (0 ≤ iO.toInt ∧ iO.toInt ≤ 1) ∧ (0 ≤ iD.toInt ∧ iD.toInt ≤ 1) from ⟨(by first | assumption | omega | decide | exact rfl | exact zb01 (by omega) | exact Or.inl (by decide) | exact Or.inr (by first | omega | decide)), rfa, rfm, hiO, hiD⟩) hP hD
set_option maxRecDepth 100000 in
set_option maxHeartbeats 4000000 in
theorem m_trial (l : Launch) (g : zG) (o : Nat) (a : Nat → Nat) (th : Int32) (hi : Int32) (ac : Int32) (tp : Int32) (ba : Int32) (en : Int32) (tA : Int32) (fl : Int32) (de : Int32) (iD : Int32) (iO : Int32) (tU : Int32) (fm : Nat → Int32) (fk : Nat → Int32) (fa : Nat → Int32) (fc : Nat → Int32) (ft : Nat → Int32) (ff : Nat → Int32) (fb : Nat → Int32) (fi : Nat → Int32) (n : Int32) (ch : Int32) (rfm : rM fm) (rfa : rM fa) (hiD : 0 ≤ iD.toInt ∧ iD.toInt ≤ 1) (hiO : 0 ≤ iO.toInt ∧ iO.toInt ≤ 1) : zM' g l yX12_trial (Cond.code yX12_trial cX12_trial 5 (some .int) :: zB) ({ frames := 33, cells := 0, slots := 0, locals := 736 } : Room) [.ref o, .int n, .int ch] [bMo g o a th hi ac tp ba en tA fl de iD iO tU fm fk fa fc ft ff fb fi] (fun u : Int32 × Int32 × Int32 × Int32 × Int32 × Int32 × Int32 × Int32 × (Nat → Int32) × (Nat → Int32) × (Nat → Int32) × (Nat → Int32) × Int32 => (fun (th2 : Int32) (ba2 : Int32) (en2 : Int32) (at2 : Int32) (de2 : Int32) (iD2 : Int32) (iO2 : Int32) (tU2 : Int32) (ff2 : Nat → Int32) (fm2 : Nat → Int32) (fb2 : Nat → Int32) (fa2 : Nat → Int32) (q : Int32) => some (.int q)) (u.1) (u.2.1) (u.2.2.1) (u.2.2.2.1) (u.2.2.2.2.1) (u.2.2.2.2.2.1) (u.2.2.2.2.2.2.1) (u.2.2.2.2.2.2.2.1) (u.2.2.2.2.2.2.2.2.1) (u.2.2.2.2.2.2.2.2.2.1) (u.2.2.2.2.2.2.2.2.2.2.1) (u.2.2.2.2.2.2.2.2.2.2.2.1) (u.2.2.2.2.2.2.2.2.2.2.2.2)) (fun u : Int32 × Int32 × Int32 × Int32 × Int32 × Int32 × Int32 × Int32 × (Nat → Int32) × (Nat → Int32) × (Nat → Int32) × (Nat → Int32) × Int32 => (fun (th2 : Int32) (ba2 : Int32) (en2 : Int32) (at2 : Int32) (de2 : Int32) (iD2 : Int32) (iO2 : Int32) (tU2 : Int32) (ff2 : Nat → Int32) (fm2 : Nat → Int32) (fb2 : Nat → Int32) (fa2 : Nat → Int32) (q : Int32) => ((fm2 0).toInt = (fm 0).toInt ∧ (fm2 3).toInt = (fm 3).toInt ∧ (fm2 4).toInt = (fm 4).toInt) ∧ (rM fa2) ∧ (rM fm2) ∧ (0 ≤ iO2.toInt ∧ iO2.toInt ≤ 1) ∧ (0 ≤ iD2.toInt ∧ iD2.toInt ≤ 1)) (u.1) (u.2.1) (u.2.2.1) (u.2.2.2.1) (u.2.2.2.2.1) (u.2.2.2.2.2.1) (u.2.2.2.2.2.2.1) (u.2.2.2.2.2.2.2.1) (u.2.2.2.2.2.2.2.2.1) (u.2.2.2.2.2.2.2.2.2.1) (u.2.2.2.2.2.2.2.2.2.2.1) (u.2.2.2.2.2.2.2.2.2.2.2.1) (u.2.2.2.2.2.2.2.2.2.2.2.2)) (fun u : Int32 × Int32 × Int32 × Int32 × Int32 × Int32 × Int32 × Int32 × (Nat → Int32) × (Nat → Int32) × (Nat → Int32) × (Nat → Int32) × Int32 => (fun (th2 : Int32) (ba2 : Int32) (en2 : Int32) (at2 : Int32) (de2 : Int32) (iD2 : Int32) (iO2 : Int32) (tU2 : Int32) (ff2 : Nat → Int32) (fm2 : Nat → Int32) (fb2 : Nat → Int32) (fa2 : Nat → Int32) (q : Int32) => [bMo g o a th2 hi ac tp ba2 en2 at2 fl de2 iD2 iO2 tU2 fm2 fk fa2 fc ft ff2 fb2 fi]) (u.1) (u.2.1) (u.2.2.1) (u.2.2.2.1) (u.2.2.2.2.1) (u.2.2.2.2.2.1) (u.2.2.2.2.2.2.1) (u.2.2.2.2.2.2.2.1) (u.2.2.2.2.2.2.2.2.1) (u.2.2.2.2.2.2.2.2.2.1) (u.2.2.2.2.2.2.2.2.2.2.1) (u.2.2.2.2.2.2.2.2.2.2.2.1) (u.2.2.2.2.2.2.2.2.2.2.2.2)) := by
  refine zM'.of (cc := cX12_trial) (maxL := 5) (rt := (some .int)) (by decide) rfl (Nat.le_of_ble_eq_true rfl) ?_
  intro p e s m args below meth c A ls St hr hlocks hin hK hT hA hP hD hS hl
  obtain ⟨hx, hb, hml, hown, hts⟩ := id St
  have hl : lv_has ls 5 [(0, .ref o), (1, .int n), (2, .int ch)] := hl
  refine lv_aload_n hx hb dX12_trial_0 rfl (lv_at hl 0 rfl) ?_
  refine lv_iload_n hx hb dX12_trial_1 rfl (lv_at hl 1 rfl) ?_
  refine lv_iconst (v := 0) hx hb dX12_trial_2 (by decide) ?_
  refine lv_bipush (v := 60) hx hb dX12_trial_3 (by decide) ?_
  have hL0 : (0 : Int32).toInt = 0 := by decide
  have hL60 : (60 : Int32).toInt = 60 := by decide
  refine mcallS' (g := g) (As := [.int n, .int 0, .int 60]) (rest := [.ref o]) St hK hT hA hP hD hS hl.1 [] [0] rfl rfl rfl (m_isIn l g n 0 60 ) (va_cwS 3 hts (zgL (zl3 k837 k838 k839) k826) rfl rfl rfl (by decide +kernel) ⟨Nat.le_of_ble_eq_true rfl, Nat.le_of_ble_eq_true rfl⟩) rfl rfl (Nat.le_of_ble_eq_true rfl) dX12_trial_5 ⟨(Nat.le_of_ble_eq_true rfl), (Nat.le_of_ble_eq_true rfl)⟩ (fun q_1 H locs hq2 hP hD hS => ?_)
  replace hq2 : (q_1 = 1 ∧ (0 : Int32).toInt ≤ n.toInt ∧ n.toInt ≤ (60 : Int32).toInt ∨ q_1 = 0 ∧ (n.toInt < (0 : Int32).toInt ∨ (60 : Int32).toInt < n.toInt)) := hq2
  have hP : va_P g.1 vwCl (List.flatten [bMo g o a th hi ac tp ba en tA fl de iD iO tU fm fk fa fc ft ff fb fi]) H := hP
  have hD : va_D A (List.flatten [bMo g o a th hi ac tp ba en tA fl de iD iO tU fm fk fa fc ft ff fb fi]) := hD
  refine W.widen (k := 0) (n := 0) (Nat.le_of_ble_eq_true rfl) (Nat.le_of_ble_eq_true rfl) ?_
  refine W.eq (g2 := F0 m 8 ls [.int q_1, .ref o]) rfl ?_
  rcases hq2 with ⟨rfl, hq2_k⟩ | ⟨rfl, hq2_k⟩
  · skip
    refine lv_if_ne (tgt := 15) hx hb dX12_trial_8 (by decide) (fun _ => ?_) (fun c3 => absurd c3 (by decide))
    refine lv_iconst (v := 0) hx hb dX12_trial_15 (by decide) ?_
    refine va_put (D := g.1) (ci := 10) (v := .int 0) (ty := .int) (C := RX12) (T := TX12) (N := 20) hx hb hts izRX12 tyX12 tyX12_ok nmX12 hown hK hP hD hS 0 rfl rfl 0 (by decide) (hts _ k825) (fun _ h9 => h9) rfl (by decide +kernel) rfl rfl (Nat.le_of_ble_eq_true rfl) dX12_trial_16 (fun H locs hP hD hS => ?_)
    have hP : va_P g.1 vwCl (List.flatten [bMo g o a 0 hi ac tp ba en tA fl de iD iO tU fm fk fa fc ft ff fb fi]) H := hP
    have hD : va_D A (List.flatten [bMo g o a 0 hi ac tp ba en tA fl de iD iO tU fm fk fa fc ft ff fb fi]) := hD
    refine lv_aload_n hx hb dX12_trial_19 rfl (lv_at hl 0 rfl) ?_
    refine va_get (D := g.1) (ci := 10) (v := .int 0) (C := RX12) (T := TX12) (N := 20) hx hb hts izRX12 hown hK hP 0 rfl rfl 0 (by decide) (hts _ k825) (fun _ h9 => h9) rfl dX12_trial_20 ?_
    refine lv_if_le (tgt := 28) hx hb dX12_trial_23 (by decide) (fun _ => ?_) (fun c4 => absurd (by decide) c4)
    refine lv_aload_n hx hb dX12_trial_28 rfl (lv_at hl 0 rfl) ?_
    refine mcallV' (g := g) (q0 := 0) (ci := 10) (As := []) (rest := []) St hK hT hA hP hD hS hl.1 [0] [] rfl rfl rfl (m_putsAside l g o a 0 hi ac tp ba en tA fl de iD iO tU fm fk fa fc ft ff fb fi rfm rfa) (cwV 0 hts (zgL (zl4 k975 k976 k977 k839) k972) rfl rfl rfl (by decide +kernel) ⟨Nat.le_of_ble_eq_true rfl, Nat.le_of_ble_eq_true rfl⟩) rfl rfl rfl rfl (Nat.le_of_ble_eq_true rfl) dX12_trial_29 ⟨(Nat.le_of_ble_eq_true rfl), (Nat.le_of_ble_eq_true rfl)⟩ (fun fa2_5 H locs hq6 hP hD hS => ?_)
    replace hq6 : (rM fa2_5) ∧ (zCy fa fa2_5 0 fm 0 379) ∧ ((fa2_5 0).toInt = (fm 0).toInt ∧ (fa2_5 3).toInt = (fm 3).toInt ∧ (fa2_5 4).toInt = (fm 4).toInt) := hq6
    have hP : va_P g.1 vwCl (List.flatten [bMo g o a 0 hi ac tp ba en tA fl de iD iO tU fm fk fa2_5 fc ft ff fb fi]) H := hP
    have hD : va_D A (List.flatten [bMo g o a 0 hi ac tp ba en tA fl de iD iO tU fm fk fa2_5 fc ft ff fb fi]) := hD
    refine W.widen (k := 0) (n := 0) (Nat.le_of_ble_eq_true rfl) (Nat.le_of_ble_eq_true rfl) ?_
    refine W.eq (g2 := F0 m 32 ls []) rfl ?_
    obtain ⟨rfa2_5, hq6_1, hq6_2⟩ := hq6
    refine lv_aload_n hx hb dX12_trial_32 rfl (lv_at hl 0 rfl) ?_
    refine lv_iload_n hx hb dX12_trial_33 rfl (lv_at hl 1 rfl) ?_
    refine lv_iconst (v := 1) hx hb dX12_trial_34 (by decide) ?_
    refine mcallV' (g := g) (q0 := 0) (ci := 10) (As := [.int n, .int 1]) (rest := []) St hK hT hA hP hD hS hl.1 [0] [] rfl rfl rfl (m_goes l g o a 0 hi ac tp ba en tA fl de iD iO tU fm fk fa2_5 fc ft ff fb fi n 1 rfm hiD hiO (by first | assumption | omega | decide | exact Or.inl (by decide) | exact Or.inr (by decide))) (cwV 2 hts (zgL (zl4 k1057 k1058 k1059 k839) k1028) rfl rfl rfl (by decide +kernel) ⟨Nat.le_of_ble_eq_true rfl, Nat.le_of_ble_eq_true rfl⟩) rfl rfl rfl rfl (Nat.le_of_ble_eq_true rfl) dX12_trial_35 ⟨(Nat.le_of_ble_eq_true rfl), (Nat.le_of_ble_eq_true rfl)⟩ (fun u_ H locs hq18 hP hD hS => ?_)
    obtain ⟨ba2_7, en2_8, at2_9, de2_10, iD2_11, iO2_12, tU2_13, ff2_14, fm2_15, fb2_16, q_17⟩ := u_
    replace hq18 : ((fm2_15 0).toInt = (fm 0).toInt ∧ (fm2_15 3).toInt = (fm 3).toInt ∧ (fm2_15 4).toInt = (fm 4).toInt) ∧ (rM fm2_15) ∧ (0 ≤ iO2_12.toInt ∧ iO2_12.toInt ≤ 1) ∧ (0 ≤ iD2_11.toInt ∧ iD2_11.toInt ≤ 1) := hq18
    have hP : va_P g.1 vwCl (List.flatten [bMo g o a 0 hi ac tp ba2_7 en2_8 at2_9 fl de2_10 iD2_11 iO2_12 tU2_13 fm2_15 fk fa2_5 fc ft ff2_14 fb2_16 fi]) H := hP
    have hD : va_D A (List.flatten [bMo g o a 0 hi ac tp ba2_7 en2_8 at2_9 fl de2_10 iD2_11 iO2_12 tU2_13 fm2_15 fk fa2_5 fc ft ff2_14 fb2_16 fi]) := hD
    refine W.widen (k := 0) (n := 0) (Nat.le_of_ble_eq_true rfl) (Nat.le_of_ble_eq_true rfl) ?_
    refine W.eq (g2 := F0 m 38 ls [.int q_17]) rfl ?_
    obtain ⟨hq18_0, rfm2_15, hq18_2, hq18_3⟩ := hq18
    refine lv_istore_n (lv' := [(3, .int q_17), (0, .ref o), (1, .int n), (2, .int ch)]) hx hb dX12_trial_38 rfl hl (by decide) rfl (fun ls hl => ?_)
    refine lv_iload_n hx hb dX12_trial_39 rfl (lv_at hl 3 rfl) ?_
    refine lv_if_eq (tgt := 52) hx hb dX12_trial_40 (by decide) (fun cb9 => ?_) (fun cb9 => ?_)
    · skip
      have c19 : ch.toInt = 0 := zeq cb9 rfl (by decide)
      have n20 : 0 ≤ ch.toInt := Int.le_trans (Int.le_refl _) (Int.le_of_eq c19.symm)
      have n21 : ch.toInt ≤ 0 := Int.le_trans (Int.le_of_eq c19) (Int.le_refl _)
      refine lv_aload_n hx hb dX12_trial_52 rfl (lv_at hl 1 rfl) ?_
      refine mcallV' (g := g) (q0 := 0) (ci := 10) (As := []) (rest := []) St hK hT hA hP hD hS hl.1 [0] [] rfl rfl rfl (m_believed l g o a 0 hi ac tp ba2_7 en2_8 at2_9 fl de2_10 iD2_11 iO2_12 tU2_13 fm2_15 fk fa2_5 fc ft ff2_14 fb2_16 fi rfm2_15) (cwV 0 hts (zgL (zl4 k856 k857 k858 k839) k849) rfl rfl rfl (by decide +kernel) ⟨Nat.le_of_ble_eq_true rfl, Nat.le_of_ble_eq_true rfl⟩) rfl rfl rfl rfl (Nat.le_of_ble_eq_true rfl) dX12_trial_53 ⟨(Nat.le_of_ble_eq_true rfl), (Nat.le_of_ble_eq_true rfl)⟩ (fun q_22 H locs hq23 hP hD hS => ?_)
      have hP : va_P g.1 vwCl (List.flatten [bMo g o a 0 hi ac tp ba2_7 en2_8 at2_9 fl de2_10 iD2_11 iO2_12 tU2_13 fm2_15 fk fa2_5 fc ft ff2_14 fb2_16 fi]) H := hP
      have hD : va_D A (List.flatten [bMo g o a 0 hi ac tp ba2_7 en2_8 at2_9 fl de2_10 iD2_11 iO2_12 tU2_13 fm2_15 fk fa2_5 fc ft ff2_14 fb2_16 fi]) := hD
      refine W.widen (k := 0) (n := 0) (Nat.le_of_ble_eq_true rfl) (Nat.le_of_ble_eq_true rfl) ?_
      refine W.eq (g2 := F0 m 56 ls [.int q_22]) rfl ?_
      refine lv_istore (lv' := [(4, .int q_22), (3, .int q_17), (0, .ref o), (1, .int n), (2, .int ch)]) hx hb dX12_trial_56 hl (by decide) rfl (fun ls hl => ?_)
      refine lv_aload_n hx hb dX12_trial_58 rfl (lv_at hl 2 rfl) ?_
      refine mcallV' (g := g) (q0 := 0) (ci := 10) (As := []) (rest := []) St hK hT hA hP hD hS hl.1 [0] [] rfl rfl rfl (m_comesBack l g o a 0 hi ac tp ba2_7 en2_8 at2_9 fl de2_10 iD2_11 iO2_12 tU2_13 fm2_15 fk fa2_5 fc ft ff2_14 fb2_16 fi rfm2_15 rfa2_5) (cwV 0 hts (zgL (zl4 k984 k985 k986 k839) k973) rfl rfl rfl (by decide +kernel) ⟨Nat.le_of_ble_eq_true rfl, Nat.le_of_ble_eq_true rfl⟩) rfl rfl rfl rfl (Nat.le_of_ble_eq_true rfl) dX12_trial_59 ⟨(Nat.le_of_ble_eq_true rfl), (Nat.le_of_ble_eq_true rfl)⟩ (fun fm2_24 H locs hq25 hP hD hS => ?_)
      replace hq25 : (rM fm2_24) ∧ (zCy fm2_15 fm2_24 0 fa2_5 0 379) ∧ ((fm2_24 0).toInt = (fa2_5 0).toInt ∧ (fm2_24 3).toInt = (fa2_5 3).toInt ∧ (fm2_24 4).toInt = (fa2_5 4).toInt) := hq25
      have hP : va_P g.1 vwCl (List.flatten [bMo g o a 0 hi ac tp ba2_7 en2_8 at2_9 fl de2_10 iD2_11 iO2_12 tU2_13 fm2_24 fk fa2_5 fc ft ff2_14 fb2_16 fi]) H := hP
      have hD : va_D A (List.flatten [bMo g o a 0 hi ac tp ba2_7 en2_8 at2_9 fl de2_10 iD2_11 iO2_12 tU2_13 fm2_24 fk fa2_5 fc ft ff2_14 fb2_16 fi]) := hD
      refine W.widen (k := 0) (n := 0) (Nat.le_of_ble_eq_true rfl) (Nat.le_of_ble_eq_true rfl) ?_
      refine W.eq (g2 := F0 m 62 ls []) rfl ?_
      obtain ⟨rfm2_24, hq25_1, hq25_2⟩ := hq25
      refine lv_iload hx hb dX12_trial_62 (lv_at hl 0 rfl) ?_
      have hP : va_P g.1 vwCl (List.flatten [bMo g o a 0 hi ac tp ba2_7 en2_8 at2_9 fl de2_10 iD2_11 iO2_12 tU2_13 fm2_24 fk fa2_5 fc ft ff2_14 fb2_16 fi]) H := hP
      have hD : va_D A (List.flatten [bMo g o a 0 hi ac tp ba2_7 en2_8 at2_9 fl de2_10 iD2_11 iO2_12 tU2_13 fm2_24 fk fa2_5 fc ft ff2_14 fb2_16 fi]) := hD
      exact mret_i hx hb hr hlocks hS (Nat.le_of_ble_eq_true rfl) (Nat.le_of_ble_eq_true rfl) dX12_trial_64 ((0 : Int32), ba2_7, en2_8, at2_9, de2_10, iD2_11, iO2_12, tU2_13, ff2_14, fm2_24, fb2_16, fa2_5, q_22) rfl (show ((fm2_24 0).toInt = (fm 0).toInt ∧ (fm2_24 3).toInt = (fm 3).toInt ∧ (fm2_24 4).toInt = (fm 4).toInt) ∧ (rM fa2_5) ∧ (rM fm2_24) ∧ (0 ≤ iO2_12.toInt ∧ iO2_12.toInt ≤ 1) ∧ (0 ≤ iD2_11.toInt ∧ iD2_11.toInt ≤ 1) from ⟨(by first | assumption | omega | decide | exact rfl | exact zb01 (by omega) | exact Or.inl (by decide) | exact Or.inr (by first | omega | decide)), rfa2_5, rfm2_24, hq18_2, hq18_3⟩) hP hD
    · skip
      have c26 : ¬ ch.toInt = 0 := zne cb9 rfl (by decide)
      refine lv_aload_n hx hb dX12_trial_43 rfl (lv_at hl 1 rfl) ?_
      refine va_get (D := g.1) (ci := 10) (v := .ref (a 0)) (C := RX12) (T := TX12) (N := 20) hx hb hts izRX12 hown hK hP 0 rfl rfl 1 (by decide) (hts _ k815) (fun _ h9 => h9) rfl dX12_trial_44 ?_
      refine lv_iconst (v := 5) hx hb dX12_trial_47 (by decide) ?_
      refine va_iald hx hb hK hP 1 0 rfl rfl (zin rfl) dX12_trial_48 ?_
      refine zg (fun x_27 => ?_)
      refine lv_goto (tgt := 56) hx hb dX12_trial_49 (by decide) ?_
      refine lv_istore (lv' := [(4, .int x_27), (3, .int q_17), (0, .ref o), (1, .int n), (2, .int ch)]) hx hb dX12_trial_56 hl (by decide) rfl (fun ls hl => ?_)
      refine lv_aload_n hx hb dX12_trial_58 rfl (lv_at hl 2 rfl) ?_
      refine mcallV' (g := g) (q0 := 0) (ci := 10) (As := []) (rest := []) St hK hT hA hP hD hS hl.1 [0] [] rfl rfl rfl (m_comesBack l g o a 0 hi ac tp ba2_7 en2_8 at2_9 fl de2_10 iD2_11 iO2_12 tU2_13 fm2_15 fk fa2_5 fc ft ff2_14 fb2_16 fi rfm2_15 rfa2_5) (cwV 0 hts (zgL (zl4 k984 k985 k986 k839) k973) rfl rfl rfl (by decide +kernel) ⟨Nat.le_of_ble_eq_true rfl, Nat.le_of_ble_eq_true rfl⟩) rfl rfl rfl rfl (Nat.le_of_ble_eq_true rfl) dX12_trial_59 ⟨(Nat.le_of_ble_eq_true rfl), (Nat.le_of_ble_eq_true rfl)⟩ (fun fm2_28 H locs hq29 hP hD hS => ?_)
      replace hq29 : (rM fm2_28) ∧ (zCy fm2_15 fm2_28 0 fa2_5 0 379) ∧ ((fm2_28 0).toInt = (fa2_5 0).toInt ∧ (fm2_28 3).toInt = (fa2_5 3).toInt ∧ (fm2_28 4).toInt = (fa2_5 4).toInt) := hq29
      have hP : va_P g.1 vwCl (List.flatten [bMo g o a 0 hi ac tp ba2_7 en2_8 at2_9 fl de2_10 iD2_11 iO2_12 tU2_13 fm2_28 fk fa2_5 fc ft ff2_14 fb2_16 fi]) H := hP
      have hD : va_D A (List.flatten [bMo g o a 0 hi ac tp ba2_7 en2_8 at2_9 fl de2_10 iD2_11 iO2_12 tU2_13 fm2_28 fk fa2_5 fc ft ff2_14 fb2_16 fi]) := hD
      refine W.widen (k := 0) (n := 0) (Nat.le_of_ble_eq_true rfl) (Nat.le_of_ble_eq_true rfl) ?_
      refine W.eq (g2 := F0 m 62 ls []) rfl ?_
      obtain ⟨rfm2_28, hq29_1, hq29_2⟩ := hq29
      refine lv_iload hx hb dX12_trial_62 (lv_at hl 0 rfl) ?_
      have hP : va_P g.1 vwCl (List.flatten [bMo g o a 0 hi ac tp ba2_7 en2_8 at2_9 fl de2_10 iD2_11 iO2_12 tU2_13 fm2_28 fk fa2_5 fc ft ff2_14 fb2_16 fi]) H := hP
      have hD : va_D A (List.flatten [bMo g o a 0 hi ac tp ba2_7 en2_8 at2_9 fl de2_10 iD2_11 iO2_12 tU2_13 fm2_28 fk fa2_5 fc ft ff2_14 fb2_16 fi]) := hD
      exact mret_i hx hb hr hlocks hS (Nat.le_of_ble_eq_true rfl) (Nat.le_of_ble_eq_true rfl) dX12_trial_64 ((0 : Int32), ba2_7, en2_8, at2_9, de2_10, iD2_11, iO2_12, tU2_13, ff2_14, fm2_28, fb2_16, fa2_5, x_27) rfl (show ((fm2_28 0).toInt = (fm 0).toInt ∧ (fm2_28 3).toInt = (fm 3).toInt ∧ (fm2_28 4).toInt = (fm 4).toInt) ∧ (rM fa2_5) ∧ (rM fm2_28) ∧ (0 ≤ iO2_12.toInt ∧ iO2_12.toInt ≤ 1) ∧ (0 ≤ iD2_11.toInt ∧ iD2_11.toInt ≤ 1) from ⟨(by first | assumption | omega | decide | exact rfl | exact zb01 (by omega) | exact Or.inl (by decide) | exact Or.inr (by first | omega | decide)), rfa2_5, rfm2_28, hq18_2, hq18_3⟩) hP hD
  · skip
    refine lv_if_ne (tgt := 15) hx hb dX12_trial_8 (by decide) (fun c30 => absurd (by decide) c30) (fun _ => ?_)
    refine lv_iconst (v := 1) hx hb dX12_trial_11 (by decide) ?_
    refine lv_goto (tgt := 16) hx hb dX12_trial_12 (by decide) ?_
    refine va_put (D := g.1) (ci := 10) (v := .int 1) (ty := .int) (C := RX12) (T := TX12) (N := 20) hx hb hts izRX12 tyX12 tyX12_ok nmX12 hown hK hP hD hS 0 rfl rfl 0 (by decide) (hts _ k825) (fun _ h9 => h9) rfl (by decide +kernel) rfl rfl (Nat.le_of_ble_eq_true rfl) dX12_trial_16 (fun H locs hP hD hS => ?_)
    have hP : va_P g.1 vwCl (List.flatten [bMo g o a 1 hi ac tp ba en tA fl de iD iO tU fm fk fa fc ft ff fb fi]) H := hP
    have hD : va_D A (List.flatten [bMo g o a 1 hi ac tp ba en tA fl de iD iO tU fm fk fa fc ft ff fb fi]) := hD
    refine lv_aload_n hx hb dX12_trial_19 rfl (lv_at hl 0 rfl) ?_
    refine va_get (D := g.1) (ci := 10) (v := .int 1) (C := RX12) (T := TX12) (N := 20) hx hb hts izRX12 hown hK hP 0 rfl rfl 0 (by decide) (hts _ k825) (fun _ h9 => h9) rfl dX12_trial_20 ?_
    refine lv_if_le (tgt := 28) hx hb dX12_trial_23 (by decide) (fun c31 => absurd c31 (by decide)) (fun _ => ?_)
    refine lv_iconst (v := 0) hx hb dX12_trial_26 (by decide) ?_
    have hP : va_P g.1 vwCl (List.flatten [bMo g o a 1 hi ac tp ba en tA fl de iD iO tU fm fk fa fc ft ff fb fi]) H := hP
    have hD : va_D A (List.flatten [bMo g o a 1 hi ac tp ba en tA fl de iD iO tU fm fk fa fc ft ff fb fi]) := hD
    exact mret_i hx hb hr hlocks hS (Nat.le_of_ble_eq_true rfl) (Nat.le_of_ble_eq_true rfl) dX12_trial_27 ((1 : Int32), ba, en, tA, de, iD, iO, tU, ff, fm, fb, fa, (0 : Int32)) rfl (show ((fm 0).toInt = (fm 0).toInt ∧ (fm 3).toInt = (fm 3).toInt ∧ (fm 4).toInt = (fm 4).toInt) ∧ (rM fa) ∧ (rM fm) ∧ (0 ≤ iO.toInt ∧ iO.toInt ≤ 1) ∧ (0 ≤ iD.toInt ∧ iD.toInt ≤ 1) from ⟨(by first | assumption | omega | decide | exact rfl | exact zb01 (by omega) | exact Or.inl (by decide) | exact Or.inr (by first | omega | decide)), rfa, rfm, hiO, hiD⟩) hP hD
set_option maxRecDepth 100000 in
set_option maxHeartbeats 4000000 in
theorem m_span (l : Launch) (g : zG) (o : Nat) (a : Nat → Nat) (th : Int32) (hi : Int32) (ac : Int32) (tp : Int32) (ba : Int32) (en : Int32) (tA : Int32) (fl : Int32) (de : Int32) (iD : Int32) (iO : Int32) (tU : Int32) (fm : Nat → Int32) (fk : Nat → Int32) (fa : Nat → Int32) (fc : Nat → Int32) (ft : Nat → Int32) (ff : Nat → Int32) (fb : Nat → Int32) (fi : Nat → Int32) (n : Int32) (most : Int32) (rfm : rM fm) (rfa : rM fa) (hiD : 0 ≤ iD.toInt ∧ iD.toInt ≤ 1) (hiO : 0 ≤ iO.toInt ∧ iO.toInt ≤ 1) : zM' g l yX12_span (Cond.code yX12_span cX12_span 7 (some .int) :: zB) ({ frames := 33, cells := 0, slots := 0, locals := 736 } : Room) [.ref o, .int n, .int most] [bMo g o a th hi ac tp ba en tA fl de iD iO tU fm fk fa fc ft ff fb fi] (fun u : Int32 × Int32 × Int32 × Int32 × Int32 × Int32 × Int32 × Int32 × (Nat → Int32) × (Nat → Int32) × (Nat → Int32) × (Nat → Int32) × Int32 => (fun (th2 : Int32) (ba2 : Int32) (en2 : Int32) (at2 : Int32) (de2 : Int32) (iD2 : Int32) (iO2 : Int32) (tU2 : Int32) (ff2 : Nat → Int32) (fm2 : Nat → Int32) (fb2 : Nat → Int32) (fa2 : Nat → Int32) (q : Int32) => some (.int q)) (u.1) (u.2.1) (u.2.2.1) (u.2.2.2.1) (u.2.2.2.2.1) (u.2.2.2.2.2.1) (u.2.2.2.2.2.2.1) (u.2.2.2.2.2.2.2.1) (u.2.2.2.2.2.2.2.2.1) (u.2.2.2.2.2.2.2.2.2.1) (u.2.2.2.2.2.2.2.2.2.2.1) (u.2.2.2.2.2.2.2.2.2.2.2.1) (u.2.2.2.2.2.2.2.2.2.2.2.2)) (fun u : Int32 × Int32 × Int32 × Int32 × Int32 × Int32 × Int32 × Int32 × (Nat → Int32) × (Nat → Int32) × (Nat → Int32) × (Nat → Int32) × Int32 => (fun (th2 : Int32) (ba2 : Int32) (en2 : Int32) (at2 : Int32) (de2 : Int32) (iD2 : Int32) (iO2 : Int32) (tU2 : Int32) (ff2 : Nat → Int32) (fm2 : Nat → Int32) (fb2 : Nat → Int32) (fa2 : Nat → Int32) (q : Int32) => ((fm2 0).toInt = (fm 0).toInt ∧ (fm2 3).toInt = (fm 3).toInt ∧ (fm2 4).toInt = (fm 4).toInt) ∧ (rM fa2) ∧ (rM fm2) ∧ (0 ≤ iO2.toInt ∧ iO2.toInt ≤ 1) ∧ (0 ≤ iD2.toInt ∧ iD2.toInt ≤ 1)) (u.1) (u.2.1) (u.2.2.1) (u.2.2.2.1) (u.2.2.2.2.1) (u.2.2.2.2.2.1) (u.2.2.2.2.2.2.1) (u.2.2.2.2.2.2.2.1) (u.2.2.2.2.2.2.2.2.1) (u.2.2.2.2.2.2.2.2.2.1) (u.2.2.2.2.2.2.2.2.2.2.1) (u.2.2.2.2.2.2.2.2.2.2.2.1) (u.2.2.2.2.2.2.2.2.2.2.2.2)) (fun u : Int32 × Int32 × Int32 × Int32 × Int32 × Int32 × Int32 × Int32 × (Nat → Int32) × (Nat → Int32) × (Nat → Int32) × (Nat → Int32) × Int32 => (fun (th2 : Int32) (ba2 : Int32) (en2 : Int32) (at2 : Int32) (de2 : Int32) (iD2 : Int32) (iO2 : Int32) (tU2 : Int32) (ff2 : Nat → Int32) (fm2 : Nat → Int32) (fb2 : Nat → Int32) (fa2 : Nat → Int32) (q : Int32) => [bMo g o a th2 hi ac tp ba2 en2 at2 fl de2 iD2 iO2 tU2 fm2 fk fa2 fc ft ff2 fb2 fi]) (u.1) (u.2.1) (u.2.2.1) (u.2.2.2.1) (u.2.2.2.2.1) (u.2.2.2.2.2.1) (u.2.2.2.2.2.2.1) (u.2.2.2.2.2.2.2.1) (u.2.2.2.2.2.2.2.2.1) (u.2.2.2.2.2.2.2.2.2.1) (u.2.2.2.2.2.2.2.2.2.2.1) (u.2.2.2.2.2.2.2.2.2.2.2.1) (u.2.2.2.2.2.2.2.2.2.2.2.2)) := by
  refine zM'.of (cc := cX12_span) (maxL := 7) (rt := (some .int)) (by decide) rfl (Nat.le_of_ble_eq_true rfl) ?_
  intro p e s m args below meth c A ls St hr hlocks hin hK hT hA hP hD hS hl
  obtain ⟨hx, hb, hml, hown, hts⟩ := id St
  have hl : lv_has ls 7 [(0, .ref o), (1, .int n), (2, .int most)] := hl
  refine lv_aload_n hx hb dX12_span_0 rfl (lv_at hl 0 rfl) ?_
  refine lv_iload_n hx hb dX12_span_1 rfl (lv_at hl 1 rfl) ?_
  refine lv_iconst (v := 0) hx hb dX12_span_2 (by decide) ?_
  refine lv_bipush (v := 60) hx hb dX12_span_3 (by decide) ?_
  have hL0 : (0 : Int32).toInt = 0 := by decide
  have hL60 : (60 : Int32).toInt = 60 := by decide
  refine mcallS' (g := g) (As := [.int n, .int 0, .int 60]) (rest := [.ref o]) St hK hT hA hP hD hS hl.1 [] [0] rfl rfl rfl (m_isIn l g n 0 60 ) (va_cwS 3 hts (zgL (zl3 k837 k838 k839) k826) rfl rfl rfl (by decide +kernel) ⟨Nat.le_of_ble_eq_true rfl, Nat.le_of_ble_eq_true rfl⟩) rfl rfl (Nat.le_of_ble_eq_true rfl) dX12_span_5 ⟨(Nat.le_of_ble_eq_true rfl), (Nat.le_of_ble_eq_true rfl)⟩ (fun q_1 H locs hq2 hP hD hS => ?_)
  replace hq2 : (q_1 = 1 ∧ (0 : Int32).toInt ≤ n.toInt ∧ n.toInt ≤ (60 : Int32).toInt ∨ q_1 = 0 ∧ (n.toInt < (0 : Int32).toInt ∨ (60 : Int32).toInt < n.toInt)) := hq2
  have hP : va_P g.1 vwCl (List.flatten [bMo g o a th hi ac tp ba en tA fl de iD iO tU fm fk fa fc ft ff fb fi]) H := hP
  have hD : va_D A (List.flatten [bMo g o a th hi ac tp ba en tA fl de iD iO tU fm fk fa fc ft ff fb fi]) := hD
  refine W.widen (k := 0) (n := 0) (Nat.le_of_ble_eq_true rfl) (Nat.le_of_ble_eq_true rfl) ?_
  refine W.eq (g2 := F0 m 8 ls [.int q_1, .ref o]) rfl ?_
  rcases hq2 with ⟨rfl, hq2_k⟩ | ⟨rfl, hq2_k⟩
  · skip
    refine lv_if_ne (tgt := 15) hx hb dX12_span_8 (by decide) (fun _ => ?_) (fun c3 => absurd c3 (by decide))
    refine lv_iconst (v := 0) hx hb dX12_span_15 (by decide) ?_
    refine va_put (D := g.1) (ci := 10) (v := .int 0) (ty := .int) (C := RX12) (T := TX12) (N := 20) hx hb hts izRX12 tyX12 tyX12_ok nmX12 hown hK hP hD hS 0 rfl rfl 0 (by decide) (hts _ k825) (fun _ h9 => h9) rfl (by decide +kernel) rfl rfl (Nat.le_of_ble_eq_true rfl) dX12_span_16 (fun H locs hP hD hS => ?_)
    have hP : va_P g.1 vwCl (List.flatten [bMo g o a 0 hi ac tp ba en tA fl de iD iO tU fm fk fa fc ft ff fb fi]) H := hP
    have hD : va_D A (List.flatten [bMo g o a 0 hi ac tp ba en tA fl de iD iO tU fm fk fa fc ft ff fb fi]) := hD
    refine lv_aload_n hx hb dX12_span_19 rfl (lv_at hl 0 rfl) ?_
    refine va_get (D := g.1) (ci := 10) (v := .int 0) (C := RX12) (T := TX12) (N := 20) hx hb hts izRX12 hown hK hP 0 rfl rfl 0 (by decide) (hts _ k825) (fun _ h9 => h9) rfl dX12_span_20 ?_
    refine lv_if_le (tgt := 28) hx hb dX12_span_23 (by decide) (fun _ => ?_) (fun c4 => absurd (by decide) c4)
    refine lv_aload_n hx hb dX12_span_28 rfl (lv_at hl 0 rfl) ?_
    refine mcallV' (g := g) (q0 := 0) (ci := 10) (As := []) (rest := []) St hK hT hA hP hD hS hl.1 [0] [] rfl rfl rfl (m_putsAside l g o a 0 hi ac tp ba en tA fl de iD iO tU fm fk fa fc ft ff fb fi rfm rfa) (cwV 0 hts (zgL (zl4 k975 k976 k977 k839) k972) rfl rfl rfl (by decide +kernel) ⟨Nat.le_of_ble_eq_true rfl, Nat.le_of_ble_eq_true rfl⟩) rfl rfl rfl rfl (Nat.le_of_ble_eq_true rfl) dX12_span_29 ⟨(Nat.le_of_ble_eq_true rfl), (Nat.le_of_ble_eq_true rfl)⟩ (fun fa2_5 H locs hq6 hP hD hS => ?_)
    replace hq6 : (rM fa2_5) ∧ (zCy fa fa2_5 0 fm 0 379) ∧ ((fa2_5 0).toInt = (fm 0).toInt ∧ (fa2_5 3).toInt = (fm 3).toInt ∧ (fa2_5 4).toInt = (fm 4).toInt) := hq6
    have hP : va_P g.1 vwCl (List.flatten [bMo g o a 0 hi ac tp ba en tA fl de iD iO tU fm fk fa2_5 fc ft ff fb fi]) H := hP
    have hD : va_D A (List.flatten [bMo g o a 0 hi ac tp ba en tA fl de iD iO tU fm fk fa2_5 fc ft ff fb fi]) := hD
    refine W.widen (k := 0) (n := 0) (Nat.le_of_ble_eq_true rfl) (Nat.le_of_ble_eq_true rfl) ?_
    refine W.eq (g2 := F0 m 32 ls []) rfl ?_
    obtain ⟨rfa2_5, hq6_1, hq6_2⟩ := hq6
    refine lv_iconst (v := (-1)) hx hb dX12_span_32 (by decide) ?_
    refine lv_istore_n (lv' := [(3, .int (-1)), (0, .ref o), (1, .int n), (2, .int most)]) hx hb dX12_span_33 rfl hl (by decide) rfl (fun ls hl => ?_)
    refine lv_iconst (v := 1) hx hb dX12_span_34 (by decide) ?_
    refine lv_istore (lv' := [(4, .int 1), (3, .int (-1)), (0, .ref o), (1, .int n), (2, .int most)]) hx hb dX12_span_35 hl (by decide) rfl (fun ls hl => ?_)
    have hl := lv_sub (l' := [(0, .ref o), (1, .int n), (2, .int most), (3, .int (-1)), (4, .int 1)]) hl [2, 3, 4, 1, 0] rfl
    have LP37_23 : ∀ (kf : Nat) (x_7 : Int32) (x_8 : Int32) (x_9 : Int32) (x_10 : Int32) (x_11 : Int32) (x_12 : Int32) (x_13 : Int32) (x_14 : Int32) (x_15 : Int32) (fm_16 : Nat → Int32) (ff_17 : Nat → Int32) (fb_18 : Nat → Int32), (1 ≤ x_8.toInt ∧ x_8.toInt ≤ 7) → (0 ≤ x_13.toInt ∧ x_13.toInt ≤ 1) → (0 ≤ x_14.toInt ∧ x_14.toInt ≤ 1) → (rM fm_16) → ((fm_16 0).toInt = (fm 0).toInt ∧ (fm_16 3).toInt = (fm 3).toInt ∧ (fm_16 4).toInt = (fm 4).toInt) → ∀ (H : Heap) (locs : List Loc) (ls : Array Slot), ((8 - x_8.toInt).toNat) < kf → va_P g.1 vwCl (List.flatten [bMo g o a 0 hi ac tp x_9 x_10 x_11 fl x_12 x_13 x_14 x_15 fm_16 fk fa2_5 fc ft ff_17 fb_18 fi]) H → va_D A (List.flatten [bMo g o a 0 hi ac tp x_9 x_10 x_11 fl x_12 x_13 x_14 x_15 fm_16 fk fa2_5 fc ft ff_17 fb_18 fi]) → va_S A s.heap H locs → lv_has ls 7 [(0, .ref o), (1, .int n), (2, .int most), (3, .int x_7), (4, .int x_8)] → W p l e ({ frames := 33, cells := 0, slots := 0, locals := 736 } : Room) s m args below meth c H locs (0) (0) (zF g (fun u : Int32 × Int32 × Int32 × Int32 × Int32 × Int32 × Int32 × Int32 × (Nat → Int32) × (Nat → Int32) × (Nat → Int32) × (Nat → Int32) × Int32 => (fun (th2 : Int32) (ba2 : Int32) (en2 : Int32) (at2 : Int32) (de2 : Int32) (iD2 : Int32) (iO2 : Int32) (tU2 : Int32) (ff2 : Nat → Int32) (fm2 : Nat → Int32) (fb2 : Nat → Int32) (fa2 : Nat → Int32) (q : Int32) => some (.int q)) (u.1) (u.2.1) (u.2.2.1) (u.2.2.2.1) (u.2.2.2.2.1) (u.2.2.2.2.2.1) (u.2.2.2.2.2.2.1) (u.2.2.2.2.2.2.2.1) (u.2.2.2.2.2.2.2.2.1) (u.2.2.2.2.2.2.2.2.2.1) (u.2.2.2.2.2.2.2.2.2.2.1) (u.2.2.2.2.2.2.2.2.2.2.2.1) (u.2.2.2.2.2.2.2.2.2.2.2.2)) (fun u : Int32 × Int32 × Int32 × Int32 × Int32 × Int32 × Int32 × Int32 × (Nat → Int32) × (Nat → Int32) × (Nat → Int32) × (Nat → Int32) × Int32 => (fun (th2 : Int32) (ba2 : Int32) (en2 : Int32) (at2 : Int32) (de2 : Int32) (iD2 : Int32) (iO2 : Int32) (tU2 : Int32) (ff2 : Nat → Int32) (fm2 : Nat → Int32) (fb2 : Nat → Int32) (fa2 : Nat → Int32) (q : Int32) => ((fm2 0).toInt = (fm 0).toInt ∧ (fm2 3).toInt = (fm 3).toInt ∧ (fm2 4).toInt = (fm 4).toInt) ∧ (rM fa2) ∧ (rM fm2) ∧ (0 ≤ iO2.toInt ∧ iO2.toInt ≤ 1) ∧ (0 ≤ iD2.toInt ∧ iD2.toInt ≤ 1)) (u.1) (u.2.1) (u.2.2.1) (u.2.2.2.1) (u.2.2.2.2.1) (u.2.2.2.2.2.1) (u.2.2.2.2.2.2.1) (u.2.2.2.2.2.2.2.1) (u.2.2.2.2.2.2.2.2.1) (u.2.2.2.2.2.2.2.2.2.1) (u.2.2.2.2.2.2.2.2.2.2.1) (u.2.2.2.2.2.2.2.2.2.2.2.1) (u.2.2.2.2.2.2.2.2.2.2.2.2)) (fun u : Int32 × Int32 × Int32 × Int32 × Int32 × Int32 × Int32 × Int32 × (Nat → Int32) × (Nat → Int32) × (Nat → Int32) × (Nat → Int32) × Int32 => (fun (th2 : Int32) (ba2 : Int32) (en2 : Int32) (at2 : Int32) (de2 : Int32) (iD2 : Int32) (iO2 : Int32) (tU2 : Int32) (ff2 : Nat → Int32) (fm2 : Nat → Int32) (fb2 : Nat → Int32) (fa2 : Nat → Int32) (q : Int32) => [bMo g o a th2 hi ac tp ba2 en2 at2 fl de2 iD2 iO2 tU2 fm2 fk fa2 fc ft ff2 fb2 fi]) (u.1) (u.2.1) (u.2.2.1) (u.2.2.2.1) (u.2.2.2.2.1) (u.2.2.2.2.2.1) (u.2.2.2.2.2.2.1) (u.2.2.2.2.2.2.2.1) (u.2.2.2.2.2.2.2.2.1) (u.2.2.2.2.2.2.2.2.2.1) (u.2.2.2.2.2.2.2.2.2.2.1) (u.2.2.2.2.2.2.2.2.2.2.2.1) (u.2.2.2.2.2.2.2.2.2.2.2.2)) ({ frames := 33, cells := 0, slots := 0, locals := 736 } : Room) below args s A) (F0 m 37 ls []) := by
      intro kf
      induction kf with
      | zero => intro x_7 x_8 x_9 x_10 x_11 x_12 x_13 x_14 x_15 fm_16 ff_17 fb_18 i19 i20 i21 rfm_16 i22 H locs ls hk; exact absurd hk (Nat.not_lt_zero _)
      | succ kf ih37_24 =>
        intro x_7 x_8 x_9 x_10 x_11 x_12 x_13 x_14 x_15 fm_16 ff_17 fb_18 i19 i20 i21 rfm_16 i22 H locs ls hk37_24 hP hD hS hl
        refine lv_iload hx hb dX12_span_37 (lv_at hl 4 rfl) ?_
        refine lv_bipush (v := 6) hx hb dX12_span_39 (by decide) ?_
        refine lv_icmp_gt (tgt := 107) hx hb dX12_span_41 (by decide) (fun cb9 => ?_) (fun cb9 => ?_)
        · skip
          have c25 : 6 < x_8.toInt := zlti cb9 (by decide) rfl
          have n26 : 7 ≤ x_8.toInt := zL2 (a := 6) c25 (Int.le_refl _) (by decide)
          refine lv_iload_n hx hb dX12_span_107 rfl (lv_at hl 3 rfl) ?_
          have hP : va_P g.1 vwCl (List.flatten [bMo g o a 0 hi ac tp x_9 x_10 x_11 fl x_12 x_13 x_14 x_15 fm_16 fk fa2_5 fc ft ff_17 fb_18 fi]) H := hP
          have hD : va_D A (List.flatten [bMo g o a 0 hi ac tp x_9 x_10 x_11 fl x_12 x_13 x_14 x_15 fm_16 fk fa2_5 fc ft ff_17 fb_18 fi]) := hD
          exact mret_i hx hb hr hlocks hS (Nat.le_of_ble_eq_true rfl) (Nat.le_of_ble_eq_true rfl) dX12_span_108 ((0 : Int32), x_9, x_10, x_11, x_12, x_13, x_14, x_15, ff_17, fm_16, fb_18, fa2_5, x_7) rfl (show ((fm_16 0).toInt = (fm 0).toInt ∧ (fm_16 3).toInt = (fm 3).toInt ∧ (fm_16 4).toInt = (fm 4).toInt) ∧ (rM fa2_5) ∧ (rM fm_16) ∧ (0 ≤ x_14.toInt ∧ x_14.toInt ≤ 1) ∧ (0 ≤ x_13.toInt ∧ x_13.toInt ≤ 1) from ⟨i22, rfa2_5, rfm_16, i21, i20⟩) hP hD
        · skip
          have c27 : x_8.toInt ≤ 6 := zle (Int32.not_lt.mp cb9) rfl (by decide)
          have n28 : x_8.toInt ≤ 6 := Int.le_trans c27 (Int.le_refl _)
          refine lv_aload_n hx hb dX12_span_44 rfl (lv_at hl 0 rfl) ?_
          refine va_get (D := g.1) (ci := 10) (v := .ref (a 0)) (C := RX12) (T := TX12) (N := 20) hx hb hts izRX12 hown hK hP 0 rfl rfl 1 (by decide) (hts _ k815) (fun _ h9 => h9) rfl dX12_span_45 ?_
          refine lv_bipush (v := 10) hx hb dX12_span_48 (by decide) ?_
          refine lv_iload hx hb dX12_span_50 (lv_at hl 4 rfl) ?_
          refine va_iast hx hb hK hP hD hS 1 0 rfl rfl (zin rfl) dX12_span_52 (fun H locs hP hD hS => ?_)
          obtain ⟨fm_29, rfm_29, hkfm_29, hP, hD⟩ : ∃ fm_29 : Nat → Int32, rM fm_29 ∧ ((fm_29 0).toInt = (fm_16 0).toInt ∧ (fm_29 3).toInt = (fm_16 3).toInt ∧ (fm_29 4).toInt = (fm_16 4).toInt) ∧ va_P g.1 vwCl (List.flatten [bMo g o a 0 hi ac tp x_9 x_10 x_11 fl x_12 x_13 x_14 x_15 fm_29 fk fa2_5 fc ft ff_17 fb_18 fi]) H ∧ va_D A (List.flatten [bMo g o a 0 hi ac tp x_9 x_10 x_11 fl x_12 x_13 x_14 x_15 fm_29 fk fa2_5 fc ft ff_17 fb_18 fi]) := ⟨upd fm_16 10 x_8, (rM_stL rfm_16 (by decide)), ⟨rfl, rfl, rfl⟩, hP, hD⟩
          refine lv_aload_n hx hb dX12_span_53 rfl (lv_at hl 0 rfl) ?_
          refine lv_iload_n hx hb dX12_span_54 rfl (lv_at hl 1 rfl) ?_
          refine lv_iconst (v := 1) hx hb dX12_span_55 (by decide) ?_
          refine mcallV' (g := g) (q0 := 0) (ci := 10) (As := [.int n, .int 1]) (rest := []) St hK hT hA hP hD hS hl.1 [0] [] rfl rfl rfl (m_goes l g o a 0 hi ac tp x_9 x_10 x_11 fl x_12 x_13 x_14 x_15 fm_29 fk fa2_5 fc ft ff_17 fb_18 fi n 1 rfm_29 i20 i21 (by first | assumption | omega | decide | exact Or.inl (by decide) | exact Or.inr (by decide))) (cwV 2 hts (zgL (zl4 k1057 k1058 k1059 k839) k1028) rfl rfl rfl (by decide +kernel) ⟨Nat.le_of_ble_eq_true rfl, Nat.le_of_ble_eq_true rfl⟩) rfl rfl rfl rfl (Nat.le_of_ble_eq_true rfl) dX12_span_56 ⟨(Nat.le_of_ble_eq_true rfl), (Nat.le_of_ble_eq_true rfl)⟩ (fun u_ H locs hq41 hP hD hS => ?_)
          obtain ⟨ba2_30, en2_31, at2_32, de2_33, iD2_34, iO2_35, tU2_36, ff2_37, fm2_38, fb2_39, q_40⟩ := u_
          replace hq41 : ((fm2_38 0).toInt = (fm_29 0).toInt ∧ (fm2_38 3).toInt = (fm_29 3).toInt ∧ (fm2_38 4).toInt = (fm_29 4).toInt) ∧ (rM fm2_38) ∧ (0 ≤ iO2_35.toInt ∧ iO2_35.toInt ≤ 1) ∧ (0 ≤ iD2_34.toInt ∧ iD2_34.toInt ≤ 1) := hq41
          have hP : va_P g.1 vwCl (List.flatten [bMo g o a 0 hi ac tp ba2_30 en2_31 at2_32 fl de2_33 iD2_34 iO2_35 tU2_36 fm2_38 fk fa2_5 fc ft ff2_37 fb2_39 fi]) H := hP
          have hD : va_D A (List.flatten [bMo g o a 0 hi ac tp ba2_30 en2_31 at2_32 fl de2_33 iD2_34 iO2_35 tU2_36 fm2_38 fk fa2_5 fc ft ff2_37 fb2_39 fi]) := hD
          refine W.widen (k := 0) (n := 0) (Nat.le_of_ble_eq_true rfl) (Nat.le_of_ble_eq_true rfl) ?_
          refine W.eq (g2 := F0 m 59 ls [.int q_40]) rfl ?_
          obtain ⟨hq41_0, rfm2_38, hq41_2, hq41_3⟩ := hq41
          refine lv_istore (lv' := [(5, .int q_40), (0, .ref o), (1, .int n), (2, .int most), (3, .int x_7), (4, .int x_8)]) hx hb dX12_span_59 hl (by decide) rfl (fun ls hl => ?_)
          refine lv_aload_n hx hb dX12_span_61 rfl (lv_at hl 1 rfl) ?_
          refine mcallV' (g := g) (q0 := 0) (ci := 10) (As := []) (rest := []) St hK hT hA hP hD hS hl.1 [0] [] rfl rfl rfl (m_believed l g o a 0 hi ac tp ba2_30 en2_31 at2_32 fl de2_33 iD2_34 iO2_35 tU2_36 fm2_38 fk fa2_5 fc ft ff2_37 fb2_39 fi rfm2_38) (cwV 0 hts (zgL (zl4 k856 k857 k858 k839) k849) rfl rfl rfl (by decide +kernel) ⟨Nat.le_of_ble_eq_true rfl, Nat.le_of_ble_eq_true rfl⟩) rfl rfl rfl rfl (Nat.le_of_ble_eq_true rfl) dX12_span_62 ⟨(Nat.le_of_ble_eq_true rfl), (Nat.le_of_ble_eq_true rfl)⟩ (fun q_42 H locs hq43 hP hD hS => ?_)
          have hP : va_P g.1 vwCl (List.flatten [bMo g o a 0 hi ac tp ba2_30 en2_31 at2_32 fl de2_33 iD2_34 iO2_35 tU2_36 fm2_38 fk fa2_5 fc ft ff2_37 fb2_39 fi]) H := hP
          have hD : va_D A (List.flatten [bMo g o a 0 hi ac tp ba2_30 en2_31 at2_32 fl de2_33 iD2_34 iO2_35 tU2_36 fm2_38 fk fa2_5 fc ft ff2_37 fb2_39 fi]) := hD
          refine W.widen (k := 0) (n := 0) (Nat.le_of_ble_eq_true rfl) (Nat.le_of_ble_eq_true rfl) ?_
          refine W.eq (g2 := F0 m 65 ls [.int q_42]) rfl ?_
          refine lv_istore (lv' := [(6, .int q_42), (5, .int q_40), (0, .ref o), (1, .int n), (2, .int most), (3, .int x_7), (4, .int x_8)]) hx hb dX12_span_65 hl (by decide) rfl (fun ls hl => ?_)
          refine lv_aload_n hx hb dX12_span_67 rfl (lv_at hl 2 rfl) ?_
          refine mcallV' (g := g) (q0 := 0) (ci := 10) (As := []) (rest := []) St hK hT hA hP hD hS hl.1 [0] [] rfl rfl rfl (m_comesBack l g o a 0 hi ac tp ba2_30 en2_31 at2_32 fl de2_33 iD2_34 iO2_35 tU2_36 fm2_38 fk fa2_5 fc ft ff2_37 fb2_39 fi rfm2_38 rfa2_5) (cwV 0 hts (zgL (zl4 k984 k985 k986 k839) k973) rfl rfl rfl (by decide +kernel) ⟨Nat.le_of_ble_eq_true rfl, Nat.le_of_ble_eq_true rfl⟩) rfl rfl rfl rfl (Nat.le_of_ble_eq_true rfl) dX12_span_68 ⟨(Nat.le_of_ble_eq_true rfl), (Nat.le_of_ble_eq_true rfl)⟩ (fun fm2_44 H locs hq45 hP hD hS => ?_)
          replace hq45 : (rM fm2_44) ∧ (zCy fm2_38 fm2_44 0 fa2_5 0 379) ∧ ((fm2_44 0).toInt = (fa2_5 0).toInt ∧ (fm2_44 3).toInt = (fa2_5 3).toInt ∧ (fm2_44 4).toInt = (fa2_5 4).toInt) := hq45
          have hP : va_P g.1 vwCl (List.flatten [bMo g o a 0 hi ac tp ba2_30 en2_31 at2_32 fl de2_33 iD2_34 iO2_35 tU2_36 fm2_44 fk fa2_5 fc ft ff2_37 fb2_39 fi]) H := hP
          have hD : va_D A (List.flatten [bMo g o a 0 hi ac tp ba2_30 en2_31 at2_32 fl de2_33 iD2_34 iO2_35 tU2_36 fm2_44 fk fa2_5 fc ft ff2_37 fb2_39 fi]) := hD
          refine W.widen (k := 0) (n := 0) (Nat.le_of_ble_eq_true rfl) (Nat.le_of_ble_eq_true rfl) ?_
          refine W.eq (g2 := F0 m 71 ls []) rfl ?_
          obtain ⟨rfm2_44, hq45_1, hq45_2⟩ := hq45
          refine lv_iload_n hx hb dX12_span_71 rfl (lv_at hl 5 rfl) ?_
          refine lv_iconst (v := (-1)) hx hb dX12_span_72 (by decide) ?_
          refine lv_icmp_ne (tgt := 81) hx hb dX12_span_73 (by decide) (fun cb9 => ?_) (fun cb9 => ?_)
          · skip
            have c46 : ¬ x_7.toInt = (-1) := zne cb9 rfl (by decide)
            refine lv_iload_n hx hb dX12_span_81 rfl (lv_at hl 4 rfl) ?_
            refine lv_if_eq (tgt := 94) hx hb dX12_span_82 (by decide) (fun cb9 => ?_) (fun cb9 => ?_)
            · skip
              have c47 : most.toInt = 0 := zeq cb9 rfl (by decide)
              have n48 : 0 ≤ most.toInt := Int.le_trans (Int.le_refl _) (Int.le_of_eq c47.symm)
              have n49 : most.toInt ≤ 0 := Int.le_trans (Int.le_of_eq c47) (Int.le_refl _)
              refine lv_iload_n hx hb dX12_span_94 rfl (lv_at hl 5 rfl) ?_
              refine lv_iload hx hb dX12_span_95 (lv_at hl 0 rfl) ?_
              refine mcallS' (g := g) (As := [.int x_7, .int q_42]) (rest := []) St hK hT hA hP hD hS hl.1 [] [0] rfl rfl rfl (m_lesser l g x_7 q_42 ) (va_cwS 2 hts (zgL (zl3 k1000 k1001 k839) k827) rfl rfl rfl (by decide +kernel) ⟨Nat.le_of_ble_eq_true rfl, Nat.le_of_ble_eq_true rfl⟩) rfl rfl (Nat.le_of_ble_eq_true rfl) dX12_span_97 ⟨(Nat.le_of_ble_eq_true rfl), (Nat.le_of_ble_eq_true rfl)⟩ (fun q_50 H locs hq51 hP hD hS => ?_)
              replace hq51 : (q_50.toInt ≤ x_7.toInt ∧ q_50.toInt ≤ q_42.toInt ∧ (q_50.toInt = x_7.toInt ∨ q_50.toInt = q_42.toInt)) := hq51
              have hP : va_P g.1 vwCl (List.flatten [bMo g o a 0 hi ac tp ba2_30 en2_31 at2_32 fl de2_33 iD2_34 iO2_35 tU2_36 fm2_44 fk fa2_5 fc ft ff2_37 fb2_39 fi]) H := hP
              have hD : va_D A (List.flatten [bMo g o a 0 hi ac tp ba2_30 en2_31 at2_32 fl de2_33 iD2_34 iO2_35 tU2_36 fm2_44 fk fa2_5 fc ft ff2_37 fb2_39 fi]) := hD
              refine W.widen (k := 0) (n := 0) (Nat.le_of_ble_eq_true rfl) (Nat.le_of_ble_eq_true rfl) ?_
              refine W.eq (g2 := F0 m 100 ls [.int q_50]) rfl ?_
              refine lv_istore_n (lv' := [(3, .int q_50), (6, .int q_42), (5, .int q_40), (0, .ref o), (1, .int n), (2, .int most), (4, .int x_8)]) hx hb dX12_span_100 rfl hl (by decide) rfl (fun ls hl => ?_)
              refine ziinc3 (n' := 1) (a' := 2) (b' := 7) (lv' := fun v9 => [(4, .int v9), (3, .int q_50), (6, .int q_42), (5, .int q_40), (0, .ref o), (1, .int n), (2, .int most)]) hx hb dX12_span_101 hl (k := 6) rfl (by decide) (fun _ => rfl) (zaddK (i := x_8.toInt) (j := 1) rfl (by decide) i19.1 n28 (Int.le_refl _) (Int.le_refl _) (by decide)) (fun x_52 ls hx_52 hl => ?_)
              refine lv_goto (tgt := 37) hx hb dX12_span_104 (by decide) ?_
              have hl := lv_sub (l' := [(0, .ref o), (1, .int n), (2, .int most), (3, .int q_50), (4, .int x_52), (5, .int q_40), (6, .int q_42)]) hl [4, 5, 6, 1, 0, 3, 2] rfl
              have hP : va_P g.1 vwCl (List.flatten [bMo g o a 0 hi ac tp ba2_30 en2_31 at2_32 fl de2_33 iD2_34 iO2_35 tU2_36 fm2_44 fk fa2_5 fc ft ff2_37 fb2_39 fi]) H := hP
              have hD : va_D A (List.flatten [bMo g o a 0 hi ac tp ba2_30 en2_31 at2_32 fl de2_33 iD2_34 iO2_35 tU2_36 fm2_44 fk fa2_5 fc ft ff2_37 fb2_39 fi]) := hD
              exact ih37_24 q_50 x_52 ba2_30 en2_31 at2_32 de2_33 iD2_34 iO2_35 tU2_36 fm2_44 ff2_37 fb2_39 ⟨(Int.le_trans (by decide) hx_52.2.1), hx_52.2.2⟩ ⟨hq41_3.1, hq41_3.2⟩ ⟨hq41_2.1, hq41_2.2⟩ rfm2_44 (by first | omega | assumption | decide) H _ ls (zmK hx_52.1 (by decide) n28 (by decide) hk37_24)  hP hD hS (lv_sub hl [0, 1, 2, 3, 4] rfl)
            · skip
              have c53 : ¬ most.toInt = 0 := zne cb9 rfl (by decide)
              refine lv_iload_n hx hb dX12_span_85 rfl (lv_at hl 5 rfl) ?_
              refine lv_iload hx hb dX12_span_86 (lv_at hl 0 rfl) ?_
              refine mcallS' (g := g) (As := [.int x_7, .int q_42]) (rest := []) St hK hT hA hP hD hS hl.1 [] [0] rfl rfl rfl (m_greater l g x_7 q_42 ) (va_cwS 2 hts (zgL (zl3 k1003 k1004 k839) k828) rfl rfl rfl (by decide +kernel) ⟨Nat.le_of_ble_eq_true rfl, Nat.le_of_ble_eq_true rfl⟩) rfl rfl (Nat.le_of_ble_eq_true rfl) dX12_span_88 ⟨(Nat.le_of_ble_eq_true rfl), (Nat.le_of_ble_eq_true rfl)⟩ (fun q_54 H locs hq55 hP hD hS => ?_)
              replace hq55 : (x_7.toInt ≤ q_54.toInt ∧ q_42.toInt ≤ q_54.toInt ∧ (q_54.toInt = x_7.toInt ∨ q_54.toInt = q_42.toInt)) := hq55
              have hP : va_P g.1 vwCl (List.flatten [bMo g o a 0 hi ac tp ba2_30 en2_31 at2_32 fl de2_33 iD2_34 iO2_35 tU2_36 fm2_44 fk fa2_5 fc ft ff2_37 fb2_39 fi]) H := hP
              have hD : va_D A (List.flatten [bMo g o a 0 hi ac tp ba2_30 en2_31 at2_32 fl de2_33 iD2_34 iO2_35 tU2_36 fm2_44 fk fa2_5 fc ft ff2_37 fb2_39 fi]) := hD
              refine W.widen (k := 0) (n := 0) (Nat.le_of_ble_eq_true rfl) (Nat.le_of_ble_eq_true rfl) ?_
              refine W.eq (g2 := F0 m 91 ls [.int q_54]) rfl ?_
              refine lv_goto (tgt := 100) hx hb dX12_span_91 (by decide) ?_
              refine lv_istore_n (lv' := [(3, .int q_54), (6, .int q_42), (5, .int q_40), (0, .ref o), (1, .int n), (2, .int most), (4, .int x_8)]) hx hb dX12_span_100 rfl hl (by decide) rfl (fun ls hl => ?_)
              refine ziinc3 (n' := 1) (a' := 2) (b' := 7) (lv' := fun v9 => [(4, .int v9), (3, .int q_54), (6, .int q_42), (5, .int q_40), (0, .ref o), (1, .int n), (2, .int most)]) hx hb dX12_span_101 hl (k := 6) rfl (by decide) (fun _ => rfl) (zaddK (i := x_8.toInt) (j := 1) rfl (by decide) i19.1 n28 (Int.le_refl _) (Int.le_refl _) (by decide)) (fun x_56 ls hx_56 hl => ?_)
              refine lv_goto (tgt := 37) hx hb dX12_span_104 (by decide) ?_
              have hl := lv_sub (l' := [(0, .ref o), (1, .int n), (2, .int most), (3, .int q_54), (4, .int x_56), (5, .int q_40), (6, .int q_42)]) hl [4, 5, 6, 1, 0, 3, 2] rfl
              have hP : va_P g.1 vwCl (List.flatten [bMo g o a 0 hi ac tp ba2_30 en2_31 at2_32 fl de2_33 iD2_34 iO2_35 tU2_36 fm2_44 fk fa2_5 fc ft ff2_37 fb2_39 fi]) H := hP
              have hD : va_D A (List.flatten [bMo g o a 0 hi ac tp ba2_30 en2_31 at2_32 fl de2_33 iD2_34 iO2_35 tU2_36 fm2_44 fk fa2_5 fc ft ff2_37 fb2_39 fi]) := hD
              exact ih37_24 q_54 x_56 ba2_30 en2_31 at2_32 de2_33 iD2_34 iO2_35 tU2_36 fm2_44 ff2_37 fb2_39 ⟨(Int.le_trans (by decide) hx_56.2.1), hx_56.2.2⟩ ⟨hq41_3.1, hq41_3.2⟩ ⟨hq41_2.1, hq41_2.2⟩ rfm2_44 (by first | omega | assumption | decide) H _ ls (zmK hx_56.1 (by decide) n28 (by decide) hk37_24)  hP hD hS (lv_sub hl [0, 1, 2, 3, 4] rfl)
          · skip
            have c57 : x_7.toInt = (-1) := zeq cb9 rfl (by decide)
            have n58 : (-1) ≤ x_7.toInt := Int.le_trans (Int.le_refl _) (Int.le_of_eq c57.symm)
            have n59 : x_7.toInt ≤ (-1) := Int.le_trans (Int.le_of_eq c57) (Int.le_refl _)
            refine lv_iload hx hb dX12_span_76 (lv_at hl 0 rfl) ?_
            refine lv_goto (tgt := 100) hx hb dX12_span_78 (by decide) ?_
            refine lv_istore_n (lv' := [(3, .int q_42), (6, .int q_42), (5, .int q_40), (0, .ref o), (1, .int n), (2, .int most), (4, .int x_8)]) hx hb dX12_span_100 rfl hl (by decide) rfl (fun ls hl => ?_)
            refine ziinc3 (n' := 1) (a' := 2) (b' := 7) (lv' := fun v9 => [(4, .int v9), (3, .int q_42), (6, .int q_42), (5, .int q_40), (0, .ref o), (1, .int n), (2, .int most)]) hx hb dX12_span_101 hl (k := 6) rfl (by decide) (fun _ => rfl) (zaddK (i := x_8.toInt) (j := 1) rfl (by decide) i19.1 n28 (Int.le_refl _) (Int.le_refl _) (by decide)) (fun x_60 ls hx_60 hl => ?_)
            refine lv_goto (tgt := 37) hx hb dX12_span_104 (by decide) ?_
            have hl := lv_sub (l' := [(0, .ref o), (1, .int n), (2, .int most), (3, .int q_42), (4, .int x_60), (5, .int q_40), (6, .int q_42)]) hl [4, 5, 6, 1, 0, 3, 2] rfl
            have hP : va_P g.1 vwCl (List.flatten [bMo g o a 0 hi ac tp ba2_30 en2_31 at2_32 fl de2_33 iD2_34 iO2_35 tU2_36 fm2_44 fk fa2_5 fc ft ff2_37 fb2_39 fi]) H := hP
            have hD : va_D A (List.flatten [bMo g o a 0 hi ac tp ba2_30 en2_31 at2_32 fl de2_33 iD2_34 iO2_35 tU2_36 fm2_44 fk fa2_5 fc ft ff2_37 fb2_39 fi]) := hD
            exact ih37_24 q_42 x_60 ba2_30 en2_31 at2_32 de2_33 iD2_34 iO2_35 tU2_36 fm2_44 ff2_37 fb2_39 ⟨(Int.le_trans (by decide) hx_60.2.1), hx_60.2.2⟩ ⟨hq41_3.1, hq41_3.2⟩ ⟨hq41_2.1, hq41_2.2⟩ rfm2_44 (by first | omega | assumption | decide) H _ ls (zmK hx_60.1 (by decide) n28 (by decide) hk37_24)  hP hD hS (lv_sub hl [0, 1, 2, 3, 4] rfl)
    have hLn1 : ((-1) : Int32).toInt = (-1) := by decide
    have hL1 : (1 : Int32).toInt = 1 := by decide
    have hP : va_P g.1 vwCl (List.flatten [bMo g o a 0 hi ac tp ba en tA fl de iD iO tU fm fk fa2_5 fc ft ff fb fi]) H := hP
    have hD : va_D A (List.flatten [bMo g o a 0 hi ac tp ba en tA fl de iD iO tU fm fk fa2_5 fc ft ff fb fi]) := hD
    exact LP37_23 _ (-1) 1 ba en tA de iD iO tU fm ff fb (by decide) ⟨hiD.1, hiD.2⟩ ⟨hiO.1, hiO.2⟩ rfm (by first | omega | assumption | decide) H _ ls (Nat.lt_succ_self _)  hP hD hS (lv_sub hl [0, 1, 2, 3, 4] rfl)
  · skip
    refine lv_if_ne (tgt := 15) hx hb dX12_span_8 (by decide) (fun c61 => absurd (by decide) c61) (fun _ => ?_)
    refine lv_iconst (v := 1) hx hb dX12_span_11 (by decide) ?_
    refine lv_goto (tgt := 16) hx hb dX12_span_12 (by decide) ?_
    refine va_put (D := g.1) (ci := 10) (v := .int 1) (ty := .int) (C := RX12) (T := TX12) (N := 20) hx hb hts izRX12 tyX12 tyX12_ok nmX12 hown hK hP hD hS 0 rfl rfl 0 (by decide) (hts _ k825) (fun _ h9 => h9) rfl (by decide +kernel) rfl rfl (Nat.le_of_ble_eq_true rfl) dX12_span_16 (fun H locs hP hD hS => ?_)
    have hP : va_P g.1 vwCl (List.flatten [bMo g o a 1 hi ac tp ba en tA fl de iD iO tU fm fk fa fc ft ff fb fi]) H := hP
    have hD : va_D A (List.flatten [bMo g o a 1 hi ac tp ba en tA fl de iD iO tU fm fk fa fc ft ff fb fi]) := hD
    refine lv_aload_n hx hb dX12_span_19 rfl (lv_at hl 0 rfl) ?_
    refine va_get (D := g.1) (ci := 10) (v := .int 1) (C := RX12) (T := TX12) (N := 20) hx hb hts izRX12 hown hK hP 0 rfl rfl 0 (by decide) (hts _ k825) (fun _ h9 => h9) rfl dX12_span_20 ?_
    refine lv_if_le (tgt := 28) hx hb dX12_span_23 (by decide) (fun c62 => absurd c62 (by decide)) (fun _ => ?_)
    refine lv_iconst (v := 0) hx hb dX12_span_26 (by decide) ?_
    have hP : va_P g.1 vwCl (List.flatten [bMo g o a 1 hi ac tp ba en tA fl de iD iO tU fm fk fa fc ft ff fb fi]) H := hP
    have hD : va_D A (List.flatten [bMo g o a 1 hi ac tp ba en tA fl de iD iO tU fm fk fa fc ft ff fb fi]) := hD
    exact mret_i hx hb hr hlocks hS (Nat.le_of_ble_eq_true rfl) (Nat.le_of_ble_eq_true rfl) dX12_span_27 ((1 : Int32), ba, en, tA, de, iD, iO, tU, ff, fm, fb, fa, (0 : Int32)) rfl (show ((fm 0).toInt = (fm 0).toInt ∧ (fm 3).toInt = (fm 3).toInt ∧ (fm 4).toInt = (fm 4).toInt) ∧ (rM fa) ∧ (rM fm) ∧ (0 ≤ iO.toInt ∧ iO.toInt ≤ 1) ∧ (0 ≤ iD.toInt ∧ iD.toInt ≤ 1) from ⟨(by first | assumption | omega | decide | exact rfl | exact zb01 (by omega) | exact Or.inl (by decide) | exact Or.inr (by first | omega | decide)), rfa, rfm, hiO, hiD⟩) hP hD
set_option maxRecDepth 100000 in
set_option maxHeartbeats 4000000 in
theorem m_ruin (l : Launch) (g : zG) (o : Nat) (a : Nat → Nat) (th : Int32) (hi : Int32) (ac : Int32) (tp : Int32) (ba : Int32) (en : Int32) (tA : Int32) (fl : Int32) (de : Int32) (iD : Int32) (iO : Int32) (tU : Int32) (fm : Nat → Int32) (fk : Nat → Int32) (fa : Nat → Int32) (fc : Nat → Int32) (ft : Nat → Int32) (ff : Nat → Int32) (fb : Nat → Int32) (fi : Nat → Int32) (rfm : rM fm) (rfa : rM fa) (hiD : 0 ≤ iD.toInt ∧ iD.toInt ≤ 1) (hiO : 0 ≤ iO.toInt ∧ iO.toInt ≤ 1) : zM' g l yX12_ruin (Cond.code yX12_ruin cX12_ruin 4 (some .int) :: zB) ({ frames := 33, cells := 0, slots := 0, locals := 736 } : Room) [.ref o] [bMo g o a th hi ac tp ba en tA fl de iD iO tU fm fk fa fc ft ff fb fi] (fun u : Int32 × Int32 × Int32 × Int32 × Int32 × Int32 × Int32 × Int32 × (Nat → Int32) × (Nat → Int32) × (Nat → Int32) × (Nat → Int32) × Int32 => (fun (th2 : Int32) (ba2 : Int32) (en2 : Int32) (at2 : Int32) (de2 : Int32) (iD2 : Int32) (iO2 : Int32) (tU2 : Int32) (ff2 : Nat → Int32) (fm2 : Nat → Int32) (fb2 : Nat → Int32) (fa2 : Nat → Int32) (q : Int32) => some (.int q)) (u.1) (u.2.1) (u.2.2.1) (u.2.2.2.1) (u.2.2.2.2.1) (u.2.2.2.2.2.1) (u.2.2.2.2.2.2.1) (u.2.2.2.2.2.2.2.1) (u.2.2.2.2.2.2.2.2.1) (u.2.2.2.2.2.2.2.2.2.1) (u.2.2.2.2.2.2.2.2.2.2.1) (u.2.2.2.2.2.2.2.2.2.2.2.1) (u.2.2.2.2.2.2.2.2.2.2.2.2)) (fun u : Int32 × Int32 × Int32 × Int32 × Int32 × Int32 × Int32 × Int32 × (Nat → Int32) × (Nat → Int32) × (Nat → Int32) × (Nat → Int32) × Int32 => (fun (th2 : Int32) (ba2 : Int32) (en2 : Int32) (at2 : Int32) (de2 : Int32) (iD2 : Int32) (iO2 : Int32) (tU2 : Int32) (ff2 : Nat → Int32) (fm2 : Nat → Int32) (fb2 : Nat → Int32) (fa2 : Nat → Int32) (q : Int32) => ((fm2 0).toInt = (fm 0).toInt ∧ (fm2 3).toInt = (fm 3).toInt ∧ (fm2 4).toInt = (fm 4).toInt) ∧ (rM fa2) ∧ (rM fm2) ∧ (0 ≤ iO2.toInt ∧ iO2.toInt ≤ 1) ∧ (0 ≤ iD2.toInt ∧ iD2.toInt ≤ 1)) (u.1) (u.2.1) (u.2.2.1) (u.2.2.2.1) (u.2.2.2.2.1) (u.2.2.2.2.2.1) (u.2.2.2.2.2.2.1) (u.2.2.2.2.2.2.2.1) (u.2.2.2.2.2.2.2.2.1) (u.2.2.2.2.2.2.2.2.2.1) (u.2.2.2.2.2.2.2.2.2.2.1) (u.2.2.2.2.2.2.2.2.2.2.2.1) (u.2.2.2.2.2.2.2.2.2.2.2.2)) (fun u : Int32 × Int32 × Int32 × Int32 × Int32 × Int32 × Int32 × Int32 × (Nat → Int32) × (Nat → Int32) × (Nat → Int32) × (Nat → Int32) × Int32 => (fun (th2 : Int32) (ba2 : Int32) (en2 : Int32) (at2 : Int32) (de2 : Int32) (iD2 : Int32) (iO2 : Int32) (tU2 : Int32) (ff2 : Nat → Int32) (fm2 : Nat → Int32) (fb2 : Nat → Int32) (fa2 : Nat → Int32) (q : Int32) => [bMo g o a th2 hi ac tp ba2 en2 at2 fl de2 iD2 iO2 tU2 fm2 fk fa2 fc ft ff2 fb2 fi]) (u.1) (u.2.1) (u.2.2.1) (u.2.2.2.1) (u.2.2.2.2.1) (u.2.2.2.2.2.1) (u.2.2.2.2.2.2.1) (u.2.2.2.2.2.2.2.1) (u.2.2.2.2.2.2.2.2.1) (u.2.2.2.2.2.2.2.2.2.1) (u.2.2.2.2.2.2.2.2.2.2.1) (u.2.2.2.2.2.2.2.2.2.2.2.1) (u.2.2.2.2.2.2.2.2.2.2.2.2)) := by
  refine zM'.of (cc := cX12_ruin) (maxL := 4) (rt := (some .int)) (by decide) rfl (Nat.le_of_ble_eq_true rfl) ?_
  intro p e s m args below meth c A ls St hr hlocks hin hK hT hA hP hD hS hl
  obtain ⟨hx, hb, hml, hown, hts⟩ := id St
  have hl : lv_has ls 4 [(0, .ref o)] := hl
  refine lv_aload_n hx hb dX12_ruin_0 rfl (lv_at hl 0 rfl) ?_
  refine lv_iconst (v := 0) hx hb dX12_ruin_1 (by decide) ?_
  refine va_put (D := g.1) (ci := 10) (v := .int 0) (ty := .int) (C := RX12) (T := TX12) (N := 20) hx hb hts izRX12 tyX12 tyX12_ok nmX12 hown hK hP hD hS 0 rfl rfl 0 (by decide) (hts _ k825) (fun _ h9 => h9) rfl (by decide +kernel) rfl rfl (Nat.le_of_ble_eq_true rfl) dX12_ruin_2 (fun H locs hP hD hS => ?_)
  have hP : va_P g.1 vwCl (List.flatten [bMo g o a 0 hi ac tp ba en tA fl de iD iO tU fm fk fa fc ft ff fb fi]) H := hP
  have hD : va_D A (List.flatten [bMo g o a 0 hi ac tp ba en tA fl de iD iO tU fm fk fa fc ft ff fb fi]) := hD
  refine lv_aload_n hx hb dX12_ruin_5 rfl (lv_at hl 0 rfl) ?_
  refine mcallV' (g := g) (q0 := 0) (ci := 10) (As := []) (rest := []) St hK hT hA hP hD hS hl.1 [0] [] rfl rfl rfl (m_putsAside l g o a 0 hi ac tp ba en tA fl de iD iO tU fm fk fa fc ft ff fb fi rfm rfa) (cwV 0 hts (zgL (zl4 k975 k976 k977 k839) k972) rfl rfl rfl (by decide +kernel) ⟨Nat.le_of_ble_eq_true rfl, Nat.le_of_ble_eq_true rfl⟩) rfl rfl rfl rfl (Nat.le_of_ble_eq_true rfl) dX12_ruin_6 ⟨(Nat.le_of_ble_eq_true rfl), (Nat.le_of_ble_eq_true rfl)⟩ (fun fa2_1 H locs hq2 hP hD hS => ?_)
  replace hq2 : (rM fa2_1) ∧ (zCy fa fa2_1 0 fm 0 379) ∧ ((fa2_1 0).toInt = (fm 0).toInt ∧ (fa2_1 3).toInt = (fm 3).toInt ∧ (fa2_1 4).toInt = (fm 4).toInt) := hq2
  have hP : va_P g.1 vwCl (List.flatten [bMo g o a 0 hi ac tp ba en tA fl de iD iO tU fm fk fa2_1 fc ft ff fb fi]) H := hP
  have hD : va_D A (List.flatten [bMo g o a 0 hi ac tp ba en tA fl de iD iO tU fm fk fa2_1 fc ft ff fb fi]) := hD
  refine W.widen (k := 0) (n := 0) (Nat.le_of_ble_eq_true rfl) (Nat.le_of_ble_eq_true rfl) ?_
  refine W.eq (g2 := F0 m 9 ls []) rfl ?_
  obtain ⟨rfa2_1, hq2_1, hq2_2⟩ := hq2
  refine lv_iconst (v := (-1)) hx hb dX12_ruin_9 (by decide) ?_
  refine lv_istore_n (lv' := [(1, .int (-1)), (0, .ref o)]) hx hb dX12_ruin_10 rfl hl (by decide) rfl (fun ls hl => ?_)
  refine lv_iconst (v := 0) hx hb dX12_ruin_11 (by decide) ?_
  refine lv_istore_n (lv' := [(2, .int 0), (1, .int (-1)), (0, .ref o)]) hx hb dX12_ruin_12 rfl hl (by decide) rfl (fun ls hl => ?_)
  have hl := lv_sub (l' := [(0, .ref o), (1, .int (-1)), (2, .int 0)]) hl [2, 1, 0] rfl
  have LP13_20 : ∀ (kf : Nat) (x_3 : Int32) (x_4 : Int32) (x_5 : Int32) (x_6 : Int32) (x_7 : Int32) (x_8 : Int32) (x_9 : Int32) (x_10 : Int32) (x_11 : Int32) (fm_12 : Nat → Int32) (ff_13 : Nat → Int32) (fb_14 : Nat → Int32), ((-1) ≤ x_3.toInt ∧ x_3.toInt ≤ 100) → (0 ≤ x_4.toInt ∧ x_4.toInt ≤ 101) → (0 ≤ x_9.toInt ∧ x_9.toInt ≤ 1) → (0 ≤ x_10.toInt ∧ x_10.toInt ≤ 1) → (rM fm_12) → ((fm_12 0).toInt = (fm 0).toInt ∧ (fm_12 3).toInt = (fm 3).toInt ∧ (fm_12 4).toInt = (fm 4).toInt) → ∀ (H : Heap) (locs : List Loc) (ls : Array Slot), ((102 - x_4.toInt).toNat) < kf → va_P g.1 vwCl (List.flatten [bMo g o a 0 hi ac tp x_5 x_6 x_7 fl x_8 x_9 x_10 x_11 fm_12 fk fa2_1 fc ft ff_13 fb_14 fi]) H → va_D A (List.flatten [bMo g o a 0 hi ac tp x_5 x_6 x_7 fl x_8 x_9 x_10 x_11 fm_12 fk fa2_1 fc ft ff_13 fb_14 fi]) → va_S A s.heap H locs → lv_has ls 4 [(0, .ref o), (1, .int x_3), (2, .int x_4)] → W p l e ({ frames := 33, cells := 0, slots := 0, locals := 736 } : Room) s m args below meth c H locs (0) (0) (zF g (fun u : Int32 × Int32 × Int32 × Int32 × Int32 × Int32 × Int32 × Int32 × (Nat → Int32) × (Nat → Int32) × (Nat → Int32) × (Nat → Int32) × Int32 => (fun (th2 : Int32) (ba2 : Int32) (en2 : Int32) (at2 : Int32) (de2 : Int32) (iD2 : Int32) (iO2 : Int32) (tU2 : Int32) (ff2 : Nat → Int32) (fm2 : Nat → Int32) (fb2 : Nat → Int32) (fa2 : Nat → Int32) (q : Int32) => some (.int q)) (u.1) (u.2.1) (u.2.2.1) (u.2.2.2.1) (u.2.2.2.2.1) (u.2.2.2.2.2.1) (u.2.2.2.2.2.2.1) (u.2.2.2.2.2.2.2.1) (u.2.2.2.2.2.2.2.2.1) (u.2.2.2.2.2.2.2.2.2.1) (u.2.2.2.2.2.2.2.2.2.2.1) (u.2.2.2.2.2.2.2.2.2.2.2.1) (u.2.2.2.2.2.2.2.2.2.2.2.2)) (fun u : Int32 × Int32 × Int32 × Int32 × Int32 × Int32 × Int32 × Int32 × (Nat → Int32) × (Nat → Int32) × (Nat → Int32) × (Nat → Int32) × Int32 => (fun (th2 : Int32) (ba2 : Int32) (en2 : Int32) (at2 : Int32) (de2 : Int32) (iD2 : Int32) (iO2 : Int32) (tU2 : Int32) (ff2 : Nat → Int32) (fm2 : Nat → Int32) (fb2 : Nat → Int32) (fa2 : Nat → Int32) (q : Int32) => ((fm2 0).toInt = (fm 0).toInt ∧ (fm2 3).toInt = (fm 3).toInt ∧ (fm2 4).toInt = (fm 4).toInt) ∧ (rM fa2) ∧ (rM fm2) ∧ (0 ≤ iO2.toInt ∧ iO2.toInt ≤ 1) ∧ (0 ≤ iD2.toInt ∧ iD2.toInt ≤ 1)) (u.1) (u.2.1) (u.2.2.1) (u.2.2.2.1) (u.2.2.2.2.1) (u.2.2.2.2.2.1) (u.2.2.2.2.2.2.1) (u.2.2.2.2.2.2.2.1) (u.2.2.2.2.2.2.2.2.1) (u.2.2.2.2.2.2.2.2.2.1) (u.2.2.2.2.2.2.2.2.2.2.1) (u.2.2.2.2.2.2.2.2.2.2.2.1) (u.2.2.2.2.2.2.2.2.2.2.2.2)) (fun u : Int32 × Int32 × Int32 × Int32 × Int32 × Int32 × Int32 × Int32 × (Nat → Int32) × (Nat → Int32) × (Nat → Int32) × (Nat → Int32) × Int32 => (fun (th2 : Int32) (ba2 : Int32) (en2 : Int32) (at2 : Int32) (de2 : Int32) (iD2 : Int32) (iO2 : Int32) (tU2 : Int32) (ff2 : Nat → Int32) (fm2 : Nat → Int32) (fb2 : Nat → Int32) (fa2 : Nat → Int32) (q : Int32) => [bMo g o a th2 hi ac tp ba2 en2 at2 fl de2 iD2 iO2 tU2 fm2 fk fa2 fc ft ff2 fb2 fi]) (u.1) (u.2.1) (u.2.2.1) (u.2.2.2.1) (u.2.2.2.2.1) (u.2.2.2.2.2.1) (u.2.2.2.2.2.2.1) (u.2.2.2.2.2.2.2.1) (u.2.2.2.2.2.2.2.2.1) (u.2.2.2.2.2.2.2.2.2.1) (u.2.2.2.2.2.2.2.2.2.2.1) (u.2.2.2.2.2.2.2.2.2.2.2.1) (u.2.2.2.2.2.2.2.2.2.2.2.2)) ({ frames := 33, cells := 0, slots := 0, locals := 736 } : Room) below args s A) (F0 m 13 ls []) := by
    intro kf
    induction kf with
    | zero => intro x_3 x_4 x_5 x_6 x_7 x_8 x_9 x_10 x_11 fm_12 ff_13 fb_14 i15 i16 i17 i18 rfm_12 i19 H locs ls hk; exact absurd hk (Nat.not_lt_zero _)
    | succ kf ih13_21 =>
      intro x_3 x_4 x_5 x_6 x_7 x_8 x_9 x_10 x_11 fm_12 ff_13 fb_14 i15 i16 i17 i18 rfm_12 i19 H locs ls hk13_21 hP hD hS hl
      refine lv_iload_n hx hb dX12_ruin_13 rfl (lv_at hl 2 rfl) ?_
      refine lv_bipush (v := 100) hx hb dX12_ruin_14 (by decide) ?_
      refine lv_icmp_gt (tgt := 67) hx hb dX12_ruin_16 (by decide) (fun cb9 => ?_) (fun cb9 => ?_)
      · skip
        have c22 : 100 < x_4.toInt := zlti cb9 (by decide) rfl
        have n23 : 101 ≤ x_4.toInt := zL2 (a := 100) c22 (Int.le_refl _) (by decide)
        refine lv_aload_n hx hb dX12_ruin_67 rfl (lv_at hl 0 rfl) ?_
        refine mcallV' (g := g) (q0 := 0) (ci := 10) (As := []) (rest := []) St hK hT hA hP hD hS hl.1 [0] [] rfl rfl rfl (m_comesBack l g o a 0 hi ac tp x_5 x_6 x_7 fl x_8 x_9 x_10 x_11 fm_12 fk fa2_1 fc ft ff_13 fb_14 fi rfm_12 rfa2_1) (cwV 0 hts (zgL (zl4 k984 k985 k986 k839) k973) rfl rfl rfl (by decide +kernel) ⟨Nat.le_of_ble_eq_true rfl, Nat.le_of_ble_eq_true rfl⟩) rfl rfl rfl rfl (Nat.le_of_ble_eq_true rfl) dX12_ruin_68 ⟨(Nat.le_of_ble_eq_true rfl), (Nat.le_of_ble_eq_true rfl)⟩ (fun fm2_24 H locs hq25 hP hD hS => ?_)
        replace hq25 : (rM fm2_24) ∧ (zCy fm_12 fm2_24 0 fa2_1 0 379) ∧ ((fm2_24 0).toInt = (fa2_1 0).toInt ∧ (fm2_24 3).toInt = (fa2_1 3).toInt ∧ (fm2_24 4).toInt = (fa2_1 4).toInt) := hq25
        have hP : va_P g.1 vwCl (List.flatten [bMo g o a 0 hi ac tp x_5 x_6 x_7 fl x_8 x_9 x_10 x_11 fm2_24 fk fa2_1 fc ft ff_13 fb_14 fi]) H := hP
        have hD : va_D A (List.flatten [bMo g o a 0 hi ac tp x_5 x_6 x_7 fl x_8 x_9 x_10 x_11 fm2_24 fk fa2_1 fc ft ff_13 fb_14 fi]) := hD
        refine W.widen (k := 0) (n := 0) (Nat.le_of_ble_eq_true rfl) (Nat.le_of_ble_eq_true rfl) ?_
        refine W.eq (g2 := F0 m 71 ls []) rfl ?_
        obtain ⟨rfm2_24, hq25_1, hq25_2⟩ := hq25
        refine lv_iload_n hx hb dX12_ruin_71 rfl (lv_at hl 1 rfl) ?_
        have hP : va_P g.1 vwCl (List.flatten [bMo g o a 0 hi ac tp x_5 x_6 x_7 fl x_8 x_9 x_10 x_11 fm2_24 fk fa2_1 fc ft ff_13 fb_14 fi]) H := hP
        have hD : va_D A (List.flatten [bMo g o a 0 hi ac tp x_5 x_6 x_7 fl x_8 x_9 x_10 x_11 fm2_24 fk fa2_1 fc ft ff_13 fb_14 fi]) := hD
        exact mret_i hx hb hr hlocks hS (Nat.le_of_ble_eq_true rfl) (Nat.le_of_ble_eq_true rfl) dX12_ruin_72 ((0 : Int32), x_5, x_6, x_7, x_8, x_9, x_10, x_11, ff_13, fm2_24, fb_14, fa2_1, x_3) rfl (show ((fm2_24 0).toInt = (fm 0).toInt ∧ (fm2_24 3).toInt = (fm 3).toInt ∧ (fm2_24 4).toInt = (fm 4).toInt) ∧ (rM fa2_1) ∧ (rM fm2_24) ∧ (0 ≤ x_10.toInt ∧ x_10.toInt ≤ 1) ∧ (0 ≤ x_9.toInt ∧ x_9.toInt ≤ 1) from ⟨(by first | assumption | omega | decide | exact rfl | exact zb01 (by omega) | exact Or.inl (by decide) | exact Or.inr (by first | omega | decide)), rfa2_1, rfm2_24, i18, i17⟩) hP hD
      · skip
        have c26 : x_4.toInt ≤ 100 := zle (Int32.not_lt.mp cb9) rfl (by decide)
        have n27 : x_4.toInt ≤ 100 := Int.le_trans c26 (Int.le_refl _)
        refine lv_iload_n hx hb dX12_ruin_19 rfl (lv_at hl 1 rfl) ?_
        refine lv_iconst (v := (-1)) hx hb dX12_ruin_20 (by decide) ?_
        refine lv_icmp_ne (tgt := 67) hx hb dX12_ruin_21 (by decide) (fun cb9 => ?_) (fun cb9 => ?_)
        · skip
          have c28 : ¬ x_3.toInt = (-1) := zne cb9 rfl (by decide)
          have n29 : 0 ≤ x_3.toInt := zN1 c28 i15.1 (by decide)
          refine lv_aload_n hx hb dX12_ruin_67 rfl (lv_at hl 0 rfl) ?_
          refine mcallV' (g := g) (q0 := 0) (ci := 10) (As := []) (rest := []) St hK hT hA hP hD hS hl.1 [0] [] rfl rfl rfl (m_comesBack l g o a 0 hi ac tp x_5 x_6 x_7 fl x_8 x_9 x_10 x_11 fm_12 fk fa2_1 fc ft ff_13 fb_14 fi rfm_12 rfa2_1) (cwV 0 hts (zgL (zl4 k984 k985 k986 k839) k973) rfl rfl rfl (by decide +kernel) ⟨Nat.le_of_ble_eq_true rfl, Nat.le_of_ble_eq_true rfl⟩) rfl rfl rfl rfl (Nat.le_of_ble_eq_true rfl) dX12_ruin_68 ⟨(Nat.le_of_ble_eq_true rfl), (Nat.le_of_ble_eq_true rfl)⟩ (fun fm2_30 H locs hq31 hP hD hS => ?_)
          replace hq31 : (rM fm2_30) ∧ (zCy fm_12 fm2_30 0 fa2_1 0 379) ∧ ((fm2_30 0).toInt = (fa2_1 0).toInt ∧ (fm2_30 3).toInt = (fa2_1 3).toInt ∧ (fm2_30 4).toInt = (fa2_1 4).toInt) := hq31
          have hP : va_P g.1 vwCl (List.flatten [bMo g o a 0 hi ac tp x_5 x_6 x_7 fl x_8 x_9 x_10 x_11 fm2_30 fk fa2_1 fc ft ff_13 fb_14 fi]) H := hP
          have hD : va_D A (List.flatten [bMo g o a 0 hi ac tp x_5 x_6 x_7 fl x_8 x_9 x_10 x_11 fm2_30 fk fa2_1 fc ft ff_13 fb_14 fi]) := hD
          refine W.widen (k := 0) (n := 0) (Nat.le_of_ble_eq_true rfl) (Nat.le_of_ble_eq_true rfl) ?_
          refine W.eq (g2 := F0 m 71 ls []) rfl ?_
          obtain ⟨rfm2_30, hq31_1, hq31_2⟩ := hq31
          refine lv_iload_n hx hb dX12_ruin_71 rfl (lv_at hl 1 rfl) ?_
          have hP : va_P g.1 vwCl (List.flatten [bMo g o a 0 hi ac tp x_5 x_6 x_7 fl x_8 x_9 x_10 x_11 fm2_30 fk fa2_1 fc ft ff_13 fb_14 fi]) H := hP
          have hD : va_D A (List.flatten [bMo g o a 0 hi ac tp x_5 x_6 x_7 fl x_8 x_9 x_10 x_11 fm2_30 fk fa2_1 fc ft ff_13 fb_14 fi]) := hD
          exact mret_i hx hb hr hlocks hS (Nat.le_of_ble_eq_true rfl) (Nat.le_of_ble_eq_true rfl) dX12_ruin_72 ((0 : Int32), x_5, x_6, x_7, x_8, x_9, x_10, x_11, ff_13, fm2_30, fb_14, fa2_1, x_3) rfl (show ((fm2_30 0).toInt = (fm 0).toInt ∧ (fm2_30 3).toInt = (fm 3).toInt ∧ (fm2_30 4).toInt = (fm 4).toInt) ∧ (rM fa2_1) ∧ (rM fm2_30) ∧ (0 ≤ x_10.toInt ∧ x_10.toInt ≤ 1) ∧ (0 ≤ x_9.toInt ∧ x_9.toInt ≤ 1) from ⟨(by first | assumption | omega | decide | exact rfl | exact zb01 (by omega) | exact Or.inl (by decide) | exact Or.inr (by first | omega | decide)), rfa2_1, rfm2_30, i18, i17⟩) hP hD
        · skip
          have c32 : x_3.toInt = (-1) := zeq cb9 rfl (by decide)
          have n33 : x_3.toInt ≤ (-1) := Int.le_trans (Int.le_of_eq c32) (Int.le_refl _)
          refine lv_aload_n hx hb dX12_ruin_24 rfl (lv_at hl 0 rfl) ?_
          refine mcallV' (g := g) (q0 := 0) (ci := 10) (As := []) (rest := []) St hK hT hA hP hD hS hl.1 [0] [] rfl rfl rfl (m_hereOnes l g o a 0 hi ac tp x_5 x_6 x_7 fl x_8 x_9 x_10 x_11 fm_12 fk fa2_1 fc ft ff_13 fb_14 fi rfm_12) (cwV 0 hts (zgL (zl4 k851 k852 k853 k839) k845) rfl rfl rfl (by decide +kernel) ⟨Nat.le_of_ble_eq_true rfl, Nat.le_of_ble_eq_true rfl⟩) rfl rfl rfl rfl (Nat.le_of_ble_eq_true rfl) dX12_ruin_25 ⟨(Nat.le_of_ble_eq_true rfl), (Nat.le_of_ble_eq_true rfl)⟩ (fun q_34 H locs hq35 hP hD hS => ?_)
          have hP : va_P g.1 vwCl (List.flatten [bMo g o a 0 hi ac tp x_5 x_6 x_7 fl x_8 x_9 x_10 x_11 fm_12 fk fa2_1 fc ft ff_13 fb_14 fi]) H := hP
          have hD : va_D A (List.flatten [bMo g o a 0 hi ac tp x_5 x_6 x_7 fl x_8 x_9 x_10 x_11 fm_12 fk fa2_1 fc ft ff_13 fb_14 fi]) := hD
          refine W.widen (k := 0) (n := 0) (Nat.le_of_ble_eq_true rfl) (Nat.le_of_ble_eq_true rfl) ?_
          refine W.eq (g2 := F0 m 28 ls [.int q_34]) rfl ?_
          refine lv_if_eq (tgt := 54) hx hb dX12_ruin_28 (by decide) (fun cb9 => ?_) (fun cb9 => ?_)
          · skip
            have c36 : q_34.toInt = 0 := zeq cb9 rfl (by decide)
            have n37 : 0 ≤ q_34.toInt := Int.le_trans (Int.le_refl _) (Int.le_of_eq c36.symm)
            have n38 : q_34.toInt ≤ 0 := Int.le_trans (Int.le_of_eq c36) (Int.le_refl _)
            refine lv_aload_n hx hb dX12_ruin_54 rfl (lv_at hl 0 rfl) ?_
            refine lv_iconst (v := 1) hx hb dX12_ruin_55 (by decide) ?_
            refine lv_iconst (v := 0) hx hb dX12_ruin_56 (by decide) ?_
            have hL1 : (1 : Int32).toInt = 1 := by decide
            refine mcallV' (g := g) (q0 := 0) (ci := 10) (As := [.int 1, .int 0]) (rest := []) St hK hT hA hP hD hS hl.1 [0] [] rfl rfl rfl (m_goes l g o a 0 hi ac tp x_5 x_6 x_7 fl x_8 x_9 x_10 x_11 fm_12 fk fa2_1 fc ft ff_13 fb_14 fi 1 0 rfm_12 i17 i18 (by decide)) (cwV 2 hts (zgL (zl4 k1057 k1058 k1059 k839) k1028) rfl rfl rfl (by decide +kernel) ⟨Nat.le_of_ble_eq_true rfl, Nat.le_of_ble_eq_true rfl⟩) rfl rfl rfl rfl (Nat.le_of_ble_eq_true rfl) dX12_ruin_57 ⟨(Nat.le_of_ble_eq_true rfl), (Nat.le_of_ble_eq_true rfl)⟩ (fun u_ H locs hq50 hP hD hS => ?_)
            obtain ⟨ba2_39, en2_40, at2_41, de2_42, iD2_43, iO2_44, tU2_45, ff2_46, fm2_47, fb2_48, q_49⟩ := u_
            replace hq50 : ((fm2_47 0).toInt = (fm_12 0).toInt ∧ (fm2_47 3).toInt = (fm_12 3).toInt ∧ (fm2_47 4).toInt = (fm_12 4).toInt) ∧ (rM fm2_47) ∧ (0 ≤ iO2_44.toInt ∧ iO2_44.toInt ≤ 1) ∧ (0 ≤ iD2_43.toInt ∧ iD2_43.toInt ≤ 1) := hq50
            have hP : va_P g.1 vwCl (List.flatten [bMo g o a 0 hi ac tp ba2_39 en2_40 at2_41 fl de2_42 iD2_43 iO2_44 tU2_45 fm2_47 fk fa2_1 fc ft ff2_46 fb2_48 fi]) H := hP
            have hD : va_D A (List.flatten [bMo g o a 0 hi ac tp ba2_39 en2_40 at2_41 fl de2_42 iD2_43 iO2_44 tU2_45 fm2_47 fk fa2_1 fc ft ff2_46 fb2_48 fi]) := hD
            refine W.widen (k := 0) (n := 0) (Nat.le_of_ble_eq_true rfl) (Nat.le_of_ble_eq_true rfl) ?_
            refine W.eq (g2 := F0 m 60 ls [.int q_49]) rfl ?_
            obtain ⟨hq50_0, rfm2_47, hq50_2, hq50_3⟩ := hq50
            refine lv_istore_n (lv' := [(3, .int q_49), (0, .ref o), (1, .int x_3), (2, .int x_4)]) hx hb dX12_ruin_60 rfl hl (by decide) rfl (fun ls hl => ?_)
            refine ziinc3 (n' := 1) (a' := 1) (b' := 101) (lv' := fun v9 => [(2, .int v9), (3, .int q_49), (0, .ref o), (1, .int x_3)]) hx hb dX12_ruin_61 hl (k := 3) rfl (by decide) (fun _ => rfl) (zaddK (i := x_4.toInt) (j := 1) rfl (by decide) i16.1 n27 (Int.le_refl _) (Int.le_refl _) (by decide)) (fun x_51 ls hx_51 hl => ?_)
            refine lv_goto (tgt := 13) hx hb dX12_ruin_64 (by decide) ?_
            have hl := lv_sub (l' := [(0, .ref o), (1, .int x_3), (2, .int x_51), (3, .int q_49)]) hl [2, 3, 0, 1] rfl
            have hP : va_P g.1 vwCl (List.flatten [bMo g o a 0 hi ac tp ba2_39 en2_40 at2_41 fl de2_42 iD2_43 iO2_44 tU2_45 fm2_47 fk fa2_1 fc ft ff2_46 fb2_48 fi]) H := hP
            have hD : va_D A (List.flatten [bMo g o a 0 hi ac tp ba2_39 en2_40 at2_41 fl de2_42 iD2_43 iO2_44 tU2_45 fm2_47 fk fa2_1 fc ft ff2_46 fb2_48 fi]) := hD
            exact ih13_21 x_3 x_51 ba2_39 en2_40 at2_41 de2_42 iD2_43 iO2_44 tU2_45 fm2_47 ff2_46 fb2_48 ⟨i15.1, (Int.le_trans n33 (by decide))⟩ ⟨(Int.le_trans (by decide) hx_51.2.1), hx_51.2.2⟩ ⟨hq50_3.1, hq50_3.2⟩ ⟨hq50_2.1, hq50_2.2⟩ rfm2_47 (by first | omega | assumption | decide) H _ ls (zmK hx_51.1 (by decide) n27 (by decide) hk13_21)  hP hD hS (lv_sub hl [0, 1, 2] rfl)
          · skip
            have c52 : ¬ q_34.toInt = 0 := zne cb9 rfl (by decide)
            refine lv_iconst (v := 3) hx hb dX12_ruin_31 (by decide) ?_
            refine lv_aload_n hx hb dX12_ruin_32 rfl (lv_at hl 0 rfl) ?_
            refine mcallV' (g := g) (q0 := 0) (ci := 10) (As := []) (rest := [.int 3]) St hK hT hA hP hD hS hl.1 [0] [] rfl rfl rfl (m_doubtsNow l g o a 0 hi ac tp x_5 x_6 x_7 fl x_8 x_9 x_10 x_11 fm_12 fk fa2_1 fc ft ff_13 fb_14 fi rfm_12) (cwV 0 hts (zgL (zl4 k1075 k1076 k1077 k839) k1073) rfl rfl rfl (by decide +kernel) ⟨Nat.le_of_ble_eq_true rfl, Nat.le_of_ble_eq_true rfl⟩) rfl rfl rfl rfl (Nat.le_of_ble_eq_true rfl) dX12_ruin_33 ⟨(Nat.le_of_ble_eq_true rfl), (Nat.le_of_ble_eq_true rfl)⟩ (fun q_53 H locs hq54 hP hD hS => ?_)
            have hP : va_P g.1 vwCl (List.flatten [bMo g o a 0 hi ac tp x_5 x_6 x_7 fl x_8 x_9 x_10 x_11 fm_12 fk fa2_1 fc ft ff_13 fb_14 fi]) H := hP
            have hD : va_D A (List.flatten [bMo g o a 0 hi ac tp x_5 x_6 x_7 fl x_8 x_9 x_10 x_11 fm_12 fk fa2_1 fc ft ff_13 fb_14 fi]) := hD
            refine W.widen (k := 0) (n := 0) (Nat.le_of_ble_eq_true rfl) (Nat.le_of_ble_eq_true rfl) ?_
            refine W.eq (g2 := F0 m 36 ls [.int q_53, .int 3]) rfl ?_
            refine mcallS' (g := g) (As := [.int q_53]) (rest := [.int 3]) St hK hT hA hP hD hS hl.1 [] [0] rfl rfl rfl (m_bits l g q_53 ) (va_cwS 1 hts (zgL (zl3 k854 k855 k839) k830) rfl rfl rfl (by decide +kernel) ⟨Nat.le_of_ble_eq_true rfl, Nat.le_of_ble_eq_true rfl⟩) rfl rfl (Nat.le_of_ble_eq_true rfl) dX12_ruin_36 ⟨(Nat.le_of_ble_eq_true rfl), (Nat.le_of_ble_eq_true rfl)⟩ (fun q_55 H locs hq56 hP hD hS => ?_)
            have hP : va_P g.1 vwCl (List.flatten [bMo g o a 0 hi ac tp x_5 x_6 x_7 fl x_8 x_9 x_10 x_11 fm_12 fk fa2_1 fc ft ff_13 fb_14 fi]) H := hP
            have hD : va_D A (List.flatten [bMo g o a 0 hi ac tp x_5 x_6 x_7 fl x_8 x_9 x_10 x_11 fm_12 fk fa2_1 fc ft ff_13 fb_14 fi]) := hD
            refine W.widen (k := 0) (n := 0) (Nat.le_of_ble_eq_true rfl) (Nat.le_of_ble_eq_true rfl) ?_
            refine W.eq (g2 := F0 m 39 ls [.int q_55, .int 3]) rfl ?_
            refine lv_imul hx hb dX12_ruin_39 ?_
            refine zg (fun x_57 => ?_)
            refine lv_iconst (v := 2) hx hb dX12_ruin_40 (by decide) ?_
            refine lv_aload_n hx hb dX12_ruin_41 rfl (lv_at hl 0 rfl) ?_
            refine mcallV' (g := g) (q0 := 0) (ci := 10) (As := []) (rest := [.int 2, .int x_57]) St hK hT hA hP hD hS hl.1 [0] [] rfl rfl rfl (m_hereOnes l g o a 0 hi ac tp x_5 x_6 x_7 fl x_8 x_9 x_10 x_11 fm_12 fk fa2_1 fc ft ff_13 fb_14 fi rfm_12) (cwV 0 hts (zgL (zl4 k851 k852 k853 k839) k845) rfl rfl rfl (by decide +kernel) ⟨Nat.le_of_ble_eq_true rfl, Nat.le_of_ble_eq_true rfl⟩) rfl rfl rfl rfl (Nat.le_of_ble_eq_true rfl) dX12_ruin_42 ⟨(Nat.le_of_ble_eq_true rfl), (Nat.le_of_ble_eq_true rfl)⟩ (fun q_58 H locs hq59 hP hD hS => ?_)
            have hP : va_P g.1 vwCl (List.flatten [bMo g o a 0 hi ac tp x_5 x_6 x_7 fl x_8 x_9 x_10 x_11 fm_12 fk fa2_1 fc ft ff_13 fb_14 fi]) H := hP
            have hD : va_D A (List.flatten [bMo g o a 0 hi ac tp x_5 x_6 x_7 fl x_8 x_9 x_10 x_11 fm_12 fk fa2_1 fc ft ff_13 fb_14 fi]) := hD
            refine W.widen (k := 0) (n := 0) (Nat.le_of_ble_eq_true rfl) (Nat.le_of_ble_eq_true rfl) ?_
            refine W.eq (g2 := F0 m 45 ls [.int q_58, .int 2, .int x_57]) rfl ?_
            refine mcallS' (g := g) (As := [.int q_58]) (rest := [.int 2, .int x_57]) St hK hT hA hP hD hS hl.1 [] [0] rfl rfl rfl (m_bits l g q_58 ) (va_cwS 1 hts (zgL (zl3 k854 k855 k839) k830) rfl rfl rfl (by decide +kernel) ⟨Nat.le_of_ble_eq_true rfl, Nat.le_of_ble_eq_true rfl⟩) rfl rfl (Nat.le_of_ble_eq_true rfl) dX12_ruin_45 ⟨(Nat.le_of_ble_eq_true rfl), (Nat.le_of_ble_eq_true rfl)⟩ (fun q_60 H locs hq61 hP hD hS => ?_)
            have hP : va_P g.1 vwCl (List.flatten [bMo g o a 0 hi ac tp x_5 x_6 x_7 fl x_8 x_9 x_10 x_11 fm_12 fk fa2_1 fc ft ff_13 fb_14 fi]) H := hP
            have hD : va_D A (List.flatten [bMo g o a 0 hi ac tp x_5 x_6 x_7 fl x_8 x_9 x_10 x_11 fm_12 fk fa2_1 fc ft ff_13 fb_14 fi]) := hD
            refine W.widen (k := 0) (n := 0) (Nat.le_of_ble_eq_true rfl) (Nat.le_of_ble_eq_true rfl) ?_
            refine W.eq (g2 := F0 m 48 ls [.int q_60, .int 2, .int x_57]) rfl ?_
            refine lv_imul hx hb dX12_ruin_48 ?_
            refine zg (fun x_62 => ?_)
            refine lv_icmp_lt (tgt := 54) hx hb dX12_ruin_49 (by decide) (fun cb9 => ?_) (fun cb9 => ?_)
            · skip
              have c63 : x_57.toInt < x_62.toInt := zlti cb9 rfl rfl
              refine lv_aload_n hx hb dX12_ruin_54 rfl (lv_at hl 0 rfl) ?_
              refine lv_iconst (v := 1) hx hb dX12_ruin_55 (by decide) ?_
              refine lv_iconst (v := 0) hx hb dX12_ruin_56 (by decide) ?_
              have hL1 : (1 : Int32).toInt = 1 := by decide
              refine mcallV' (g := g) (q0 := 0) (ci := 10) (As := [.int 1, .int 0]) (rest := []) St hK hT hA hP hD hS hl.1 [0] [] rfl rfl rfl (m_goes l g o a 0 hi ac tp x_5 x_6 x_7 fl x_8 x_9 x_10 x_11 fm_12 fk fa2_1 fc ft ff_13 fb_14 fi 1 0 rfm_12 i17 i18 (by decide)) (cwV 2 hts (zgL (zl4 k1057 k1058 k1059 k839) k1028) rfl rfl rfl (by decide +kernel) ⟨Nat.le_of_ble_eq_true rfl, Nat.le_of_ble_eq_true rfl⟩) rfl rfl rfl rfl (Nat.le_of_ble_eq_true rfl) dX12_ruin_57 ⟨(Nat.le_of_ble_eq_true rfl), (Nat.le_of_ble_eq_true rfl)⟩ (fun u_ H locs hq75 hP hD hS => ?_)
              obtain ⟨ba2_64, en2_65, at2_66, de2_67, iD2_68, iO2_69, tU2_70, ff2_71, fm2_72, fb2_73, q_74⟩ := u_
              replace hq75 : ((fm2_72 0).toInt = (fm_12 0).toInt ∧ (fm2_72 3).toInt = (fm_12 3).toInt ∧ (fm2_72 4).toInt = (fm_12 4).toInt) ∧ (rM fm2_72) ∧ (0 ≤ iO2_69.toInt ∧ iO2_69.toInt ≤ 1) ∧ (0 ≤ iD2_68.toInt ∧ iD2_68.toInt ≤ 1) := hq75
              have hP : va_P g.1 vwCl (List.flatten [bMo g o a 0 hi ac tp ba2_64 en2_65 at2_66 fl de2_67 iD2_68 iO2_69 tU2_70 fm2_72 fk fa2_1 fc ft ff2_71 fb2_73 fi]) H := hP
              have hD : va_D A (List.flatten [bMo g o a 0 hi ac tp ba2_64 en2_65 at2_66 fl de2_67 iD2_68 iO2_69 tU2_70 fm2_72 fk fa2_1 fc ft ff2_71 fb2_73 fi]) := hD
              refine W.widen (k := 0) (n := 0) (Nat.le_of_ble_eq_true rfl) (Nat.le_of_ble_eq_true rfl) ?_
              refine W.eq (g2 := F0 m 60 ls [.int q_74]) rfl ?_
              obtain ⟨hq75_0, rfm2_72, hq75_2, hq75_3⟩ := hq75
              refine lv_istore_n (lv' := [(3, .int q_74), (0, .ref o), (1, .int x_3), (2, .int x_4)]) hx hb dX12_ruin_60 rfl hl (by decide) rfl (fun ls hl => ?_)
              refine ziinc3 (n' := 1) (a' := 1) (b' := 101) (lv' := fun v9 => [(2, .int v9), (3, .int q_74), (0, .ref o), (1, .int x_3)]) hx hb dX12_ruin_61 hl (k := 3) rfl (by decide) (fun _ => rfl) (zaddK (i := x_4.toInt) (j := 1) rfl (by decide) i16.1 n27 (Int.le_refl _) (Int.le_refl _) (by decide)) (fun x_76 ls hx_76 hl => ?_)
              refine lv_goto (tgt := 13) hx hb dX12_ruin_64 (by decide) ?_
              have hl := lv_sub (l' := [(0, .ref o), (1, .int x_3), (2, .int x_76), (3, .int q_74)]) hl [2, 3, 0, 1] rfl
              have hP : va_P g.1 vwCl (List.flatten [bMo g o a 0 hi ac tp ba2_64 en2_65 at2_66 fl de2_67 iD2_68 iO2_69 tU2_70 fm2_72 fk fa2_1 fc ft ff2_71 fb2_73 fi]) H := hP
              have hD : va_D A (List.flatten [bMo g o a 0 hi ac tp ba2_64 en2_65 at2_66 fl de2_67 iD2_68 iO2_69 tU2_70 fm2_72 fk fa2_1 fc ft ff2_71 fb2_73 fi]) := hD
              exact ih13_21 x_3 x_76 ba2_64 en2_65 at2_66 de2_67 iD2_68 iO2_69 tU2_70 fm2_72 ff2_71 fb2_73 ⟨i15.1, (Int.le_trans n33 (by decide))⟩ ⟨(Int.le_trans (by decide) hx_76.2.1), hx_76.2.2⟩ ⟨hq75_3.1, hq75_3.2⟩ ⟨hq75_2.1, hq75_2.2⟩ rfm2_72 (by first | omega | assumption | decide) H _ ls (zmK hx_76.1 (by decide) n27 (by decide) hk13_21)  hP hD hS (lv_sub hl [0, 1, 2] rfl)
            · skip
              have c77 : x_62.toInt ≤ x_57.toInt := zle (Int32.not_lt.mp cb9) rfl rfl
              refine lv_iload_n hx hb dX12_ruin_52 rfl (lv_at hl 2 rfl) ?_
              refine lv_istore_n (lv' := [(1, .int x_4), (0, .ref o), (2, .int x_4)]) hx hb dX12_ruin_53 rfl hl (by decide) rfl (fun ls hl => ?_)
              refine lv_aload_n hx hb dX12_ruin_54 rfl (lv_at hl 1 rfl) ?_
              refine lv_iconst (v := 1) hx hb dX12_ruin_55 (by decide) ?_
              refine lv_iconst (v := 0) hx hb dX12_ruin_56 (by decide) ?_
              have hL1 : (1 : Int32).toInt = 1 := by decide
              refine mcallV' (g := g) (q0 := 0) (ci := 10) (As := [.int 1, .int 0]) (rest := []) St hK hT hA hP hD hS hl.1 [0] [] rfl rfl rfl (m_goes l g o a 0 hi ac tp x_5 x_6 x_7 fl x_8 x_9 x_10 x_11 fm_12 fk fa2_1 fc ft ff_13 fb_14 fi 1 0 rfm_12 i17 i18 (by decide)) (cwV 2 hts (zgL (zl4 k1057 k1058 k1059 k839) k1028) rfl rfl rfl (by decide +kernel) ⟨Nat.le_of_ble_eq_true rfl, Nat.le_of_ble_eq_true rfl⟩) rfl rfl rfl rfl (Nat.le_of_ble_eq_true rfl) dX12_ruin_57 ⟨(Nat.le_of_ble_eq_true rfl), (Nat.le_of_ble_eq_true rfl)⟩ (fun u_ H locs hq89 hP hD hS => ?_)
              obtain ⟨ba2_78, en2_79, at2_80, de2_81, iD2_82, iO2_83, tU2_84, ff2_85, fm2_86, fb2_87, q_88⟩ := u_
              replace hq89 : ((fm2_86 0).toInt = (fm_12 0).toInt ∧ (fm2_86 3).toInt = (fm_12 3).toInt ∧ (fm2_86 4).toInt = (fm_12 4).toInt) ∧ (rM fm2_86) ∧ (0 ≤ iO2_83.toInt ∧ iO2_83.toInt ≤ 1) ∧ (0 ≤ iD2_82.toInt ∧ iD2_82.toInt ≤ 1) := hq89
              have hP : va_P g.1 vwCl (List.flatten [bMo g o a 0 hi ac tp ba2_78 en2_79 at2_80 fl de2_81 iD2_82 iO2_83 tU2_84 fm2_86 fk fa2_1 fc ft ff2_85 fb2_87 fi]) H := hP
              have hD : va_D A (List.flatten [bMo g o a 0 hi ac tp ba2_78 en2_79 at2_80 fl de2_81 iD2_82 iO2_83 tU2_84 fm2_86 fk fa2_1 fc ft ff2_85 fb2_87 fi]) := hD
              refine W.widen (k := 0) (n := 0) (Nat.le_of_ble_eq_true rfl) (Nat.le_of_ble_eq_true rfl) ?_
              refine W.eq (g2 := F0 m 60 ls [.int q_88]) rfl ?_
              obtain ⟨hq89_0, rfm2_86, hq89_2, hq89_3⟩ := hq89
              refine lv_istore_n (lv' := [(3, .int q_88), (1, .int x_4), (0, .ref o), (2, .int x_4)]) hx hb dX12_ruin_60 rfl hl (by decide) rfl (fun ls hl => ?_)
              refine ziinc3 (n' := 1) (a' := 1) (b' := 101) (lv' := fun v9 => [(2, .int v9), (3, .int q_88), (1, .int x_4), (0, .ref o)]) hx hb dX12_ruin_61 hl (k := 3) rfl (by decide) (fun _ => rfl) (zaddK (i := x_4.toInt) (j := 1) rfl (by decide) i16.1 n27 (Int.le_refl _) (Int.le_refl _) (by decide)) (fun x_90 ls hx_90 hl => ?_)
              refine lv_goto (tgt := 13) hx hb dX12_ruin_64 (by decide) ?_
              have hl := lv_sub (l' := [(0, .ref o), (1, .int x_4), (2, .int x_90), (3, .int q_88)]) hl [3, 2, 0, 1] rfl
              have hP : va_P g.1 vwCl (List.flatten [bMo g o a 0 hi ac tp ba2_78 en2_79 at2_80 fl de2_81 iD2_82 iO2_83 tU2_84 fm2_86 fk fa2_1 fc ft ff2_85 fb2_87 fi]) H := hP
              have hD : va_D A (List.flatten [bMo g o a 0 hi ac tp ba2_78 en2_79 at2_80 fl de2_81 iD2_82 iO2_83 tU2_84 fm2_86 fk fa2_1 fc ft ff2_85 fb2_87 fi]) := hD
              exact ih13_21 x_4 x_90 ba2_78 en2_79 at2_80 de2_81 iD2_82 iO2_83 tU2_84 fm2_86 ff2_85 fb2_87 ⟨(Int.le_trans (by decide) i16.1), n27⟩ ⟨(Int.le_trans (by decide) hx_90.2.1), hx_90.2.2⟩ ⟨hq89_3.1, hq89_3.2⟩ ⟨hq89_2.1, hq89_2.2⟩ rfm2_86 (by first | omega | assumption | decide) H _ ls (zmK hx_90.1 (by decide) n27 (by decide) hk13_21)  hP hD hS (lv_sub hl [0, 1, 2] rfl)
  have hLn1 : ((-1) : Int32).toInt = (-1) := by decide
  have hL0 : (0 : Int32).toInt = 0 := by decide
  have hP : va_P g.1 vwCl (List.flatten [bMo g o a 0 hi ac tp ba en tA fl de iD iO tU fm fk fa2_1 fc ft ff fb fi]) H := hP
  have hD : va_D A (List.flatten [bMo g o a 0 hi ac tp ba en tA fl de iD iO tU fm fk fa2_1 fc ft ff fb fi]) := hD
  exact LP13_20 _ (-1) 0 ba en tA de iD iO tU fm ff fb (by decide) (by decide) ⟨hiD.1, hiD.2⟩ ⟨hiO.1, hiO.2⟩ rfm (by first | omega | assumption | decide) H _ ls (Nat.lt_succ_self _)  hP hD hS (lv_sub hl [0, 1, 2] rfl)
set_option maxRecDepth 100000 in
set_option maxHeartbeats 4000000 in
theorem m_seed (l : Launch) (g : zG) (o : Nat) (a : Nat → Nat) (th : Int32) (hi : Int32) (ac : Int32) (tp : Int32) (ba : Int32) (en : Int32) (tA : Int32) (fl : Int32) (de : Int32) (iD : Int32) (iO : Int32) (tU : Int32) (fm : Nat → Int32) (fk : Nat → Int32) (fa : Nat → Int32) (fc : Nat → Int32) (ft : Nat → Int32) (ff : Nat → Int32) (fb : Nat → Int32) (fi : Nat → Int32) (n : Int32) (rfm : rM fm) : zM' g l yX12_seed (Cond.code yX12_seed cX12_seed 3 (some .int) :: zB) ({ frames := 0, cells := 0, slots := 0, locals := 0 } : Room) [.ref o, .int n] [bMo g o a th hi ac tp ba en tA fl de iD iO tU fm fk fa fc ft ff fb fi] (fun u : Int32 × (Nat → Int32) × Int32 => (fun (th2 : Int32) (fm2 : Nat → Int32) (q : Int32) => some (.int q)) (u.1) (u.2.1) (u.2.2)) (fun u : Int32 × (Nat → Int32) × Int32 => (fun (th2 : Int32) (fm2 : Nat → Int32) (q : Int32) => ((fm2 0).toInt = (fm 0).toInt ∧ (fm2 3).toInt = (fm 3).toInt ∧ (fm2 4).toInt = (fm 4).toInt) ∧ (rM fm2)) (u.1) (u.2.1) (u.2.2)) (fun u : Int32 × (Nat → Int32) × Int32 => (fun (th2 : Int32) (fm2 : Nat → Int32) (q : Int32) => [bMo g o a th2 hi ac tp ba en tA fl de iD iO tU fm2 fk fa fc ft ff fb fi]) (u.1) (u.2.1) (u.2.2)) := by
  refine zM'.of (cc := cX12_seed) (maxL := 3) (rt := (some .int)) (by decide) rfl (Nat.le_of_ble_eq_true rfl) ?_
  intro p e s m args below meth c A ls St hr hlocks hin hK hT hA hP hD hS hl
  obtain ⟨hx, hb, hml, hown, hts⟩ := id St
  have hl : lv_has ls 3 [(0, .ref o), (1, .int n)] := hl
  refine lv_aload_n hx hb dX12_seed_0 rfl (lv_at hl 0 rfl) ?_
  refine lv_iconst (v := 0) hx hb dX12_seed_1 (by decide) ?_
  refine va_put (D := g.1) (ci := 10) (v := .int 0) (ty := .int) (C := RX12) (T := TX12) (N := 20) hx hb hts izRX12 tyX12 tyX12_ok nmX12 hown hK hP hD hS 0 rfl rfl 0 (by decide) (hts _ k825) (fun _ h9 => h9) rfl (by decide +kernel) rfl rfl (Nat.le_of_ble_eq_true rfl) dX12_seed_2 (fun H locs hP hD hS => ?_)
  have hP : va_P g.1 vwCl (List.flatten [bMo g o a 0 hi ac tp ba en tA fl de iD iO tU fm fk fa fc ft ff fb fi]) H := hP
  have hD : va_D A (List.flatten [bMo g o a 0 hi ac tp ba en tA fl de iD iO tU fm fk fa fc ft ff fb fi]) := hD
  refine lv_aload_n hx hb dX12_seed_5 rfl (lv_at hl 0 rfl) ?_
  refine va_get (D := g.1) (ci := 10) (v := .ref (a 0)) (C := RX12) (T := TX12) (N := 20) hx hb hts izRX12 hown hK hP 0 rfl rfl 1 (by decide) (hts _ k815) (fun _ h9 => h9) rfl dX12_seed_6 ?_
  refine lv_bipush (v := 10) hx hb dX12_seed_9 (by decide) ?_
  refine va_iald hx hb hK hP 1 0 rfl rfl (zin rfl) dX12_seed_11 ?_
  refine zg (fun x_1 => ?_)
  refine lv_istore_n (lv' := [(2, .int x_1), (0, .ref o), (1, .int n)]) hx hb dX12_seed_12 rfl hl (by decide) rfl (fun ls hl => ?_)
  refine lv_aload_n hx hb dX12_seed_13 rfl (lv_at hl 1 rfl) ?_
  refine va_get (D := g.1) (ci := 10) (v := .ref (a 0)) (C := RX12) (T := TX12) (N := 20) hx hb hts izRX12 hown hK hP 0 rfl rfl 1 (by decide) (hts _ k815) (fun _ h9 => h9) rfl dX12_seed_14 ?_
  refine lv_bipush (v := 10) hx hb dX12_seed_17 (by decide) ?_
  refine lv_iload_n hx hb dX12_seed_19 rfl (lv_at hl 2 rfl) ?_
  refine va_iast hx hb hK hP hD hS 1 0 rfl rfl (zin rfl) dX12_seed_20 (fun H locs hP hD hS => ?_)
  obtain ⟨fm_2, rfm_2, hkfm_2, hP, hD⟩ : ∃ fm_2 : Nat → Int32, rM fm_2 ∧ ((fm_2 0).toInt = (fm 0).toInt ∧ (fm_2 3).toInt = (fm 3).toInt ∧ (fm_2 4).toInt = (fm 4).toInt) ∧ va_P g.1 vwCl (List.flatten [bMo g o a 0 hi ac tp ba en tA fl de iD iO tU fm_2 fk fa fc ft ff fb fi]) H ∧ va_D A (List.flatten [bMo g o a 0 hi ac tp ba en tA fl de iD iO tU fm_2 fk fa fc ft ff fb fi]) := ⟨upd fm 10 n, (rM_stL rfm (by decide)), ⟨rfl, rfl, rfl⟩, hP, hD⟩
  refine lv_iload_n hx hb dX12_seed_21 rfl (lv_at hl 0 rfl) ?_
  have hP : va_P g.1 vwCl (List.flatten [bMo g o a 0 hi ac tp ba en tA fl de iD iO tU fm_2 fk fa fc ft ff fb fi]) H := hP
  have hD : va_D A (List.flatten [bMo g o a 0 hi ac tp ba en tA fl de iD iO tU fm_2 fk fa fc ft ff fb fi]) := hD
  exact mret_i hx hb hr hlocks hS (Nat.le_of_ble_eq_true rfl) (Nat.le_of_ble_eq_true rfl) dX12_seed_22 ((0 : Int32), fm_2, x_1) rfl (show ((fm_2 0).toInt = (fm 0).toInt ∧ (fm_2 3).toInt = (fm 3).toInt ∧ (fm_2 4).toInt = (fm 4).toInt) ∧ (rM fm_2) from ⟨(by first | assumption | omega | decide | exact rfl | exact zb01 (by omega) | exact Or.inl (by decide) | exact Or.inr (by first | omega | decide)), rfm_2⟩) hP hD
set_option maxRecDepth 100000 in
set_option maxHeartbeats 4000000 in
theorem m_undo (l : Launch) (g : zG) (o : Nat) (a : Nat → Nat) (th : Int32) (hi : Int32) (ac : Int32) (tp : Int32) (ba : Int32) (en : Int32) (tA : Int32) (fl : Int32) (de : Int32) (iD : Int32) (iO : Int32) (tU : Int32) (fm : Nat → Int32) (fk : Nat → Int32) (fa : Nat → Int32) (fc : Nat → Int32) (ft : Nat → Int32) (ff : Nat → Int32) (fb : Nat → Int32) (fi : Nat → Int32) (rfm : rM fm) (rfc : rC fc) (hac : 0 ≤ ac.toInt ∧ ac.toInt ≤ 12) : zM' g l yX12_undo (Cond.code yX12_undo cX12_undo 2 (some .boolean) :: zB) ({ frames := 0, cells := 0, slots := 0, locals := 0 } : Room) [.ref o] [bMo g o a th hi ac tp ba en tA fl de iD iO tU fm fk fa fc ft ff fb fi] (fun u : Int32 × Int32 × (Nat → Int32) × Int32 => (fun (th2 : Int32) (ac2 : Int32) (fm2 : Nat → Int32) (q : Int32) => some (.int q)) (u.1) (u.2.1) (u.2.2.1) (u.2.2.2)) (fun u : Int32 × Int32 × (Nat → Int32) × Int32 => (fun (th2 : Int32) (ac2 : Int32) (fm2 : Nat → Int32) (q : Int32) => (rM fm2) ∧ (0 ≤ ac2.toInt ∧ ac2.toInt ≤ 12) ∧ (q = 1 ∧ ¬ ac.toInt = 0 ∧ ac2.toInt = ac.toInt - 1 ∧ zCy fm fm2 0 fc (379 * ac2.toInt.toNat) 379 ∨ q = 0 ∧ ac.toInt = 0 ∧ fm = fm2 ∧ ac = ac2)) (u.1) (u.2.1) (u.2.2.1) (u.2.2.2)) (fun u : Int32 × Int32 × (Nat → Int32) × Int32 => (fun (th2 : Int32) (ac2 : Int32) (fm2 : Nat → Int32) (q : Int32) => [bMo g o a th2 hi ac2 tp ba en tA fl de iD iO tU fm2 fk fa fc ft ff fb fi]) (u.1) (u.2.1) (u.2.2.1) (u.2.2.2)) := by
  refine zM'.of (cc := cX12_undo) (maxL := 2) (rt := (some .boolean)) (by decide) rfl (Nat.le_of_ble_eq_true rfl) ?_
  intro p e s m args below meth c A ls St hr hlocks hin hK hT hA hP hD hS hl
  obtain ⟨hx, hb, hml, hown, hts⟩ := id St
  have hl : lv_has ls 2 [(0, .ref o)] := hl
  refine lv_aload_n hx hb dX12_undo_0 rfl (lv_at hl 0 rfl) ?_
  refine lv_iconst (v := 0) hx hb dX12_undo_1 (by decide) ?_
  refine va_put (D := g.1) (ci := 10) (v := .int 0) (ty := .int) (C := RX12) (T := TX12) (N := 20) hx hb hts izRX12 tyX12 tyX12_ok nmX12 hown hK hP hD hS 0 rfl rfl 0 (by decide) (hts _ k825) (fun _ h9 => h9) rfl (by decide +kernel) rfl rfl (Nat.le_of_ble_eq_true rfl) dX12_undo_2 (fun H locs hP hD hS => ?_)
  have hP : va_P g.1 vwCl (List.flatten [bMo g o a 0 hi ac tp ba en tA fl de iD iO tU fm fk fa fc ft ff fb fi]) H := hP
  have hD : va_D A (List.flatten [bMo g o a 0 hi ac tp ba en tA fl de iD iO tU fm fk fa fc ft ff fb fi]) := hD
  refine lv_aload_n hx hb dX12_undo_5 rfl (lv_at hl 0 rfl) ?_
  refine va_get (D := g.1) (ci := 10) (v := .int ac) (C := RX12) (T := TX12) (N := 20) hx hb hts izRX12 hown hK hP 0 rfl rfl 6 (by decide) (hts _ k974) (fun _ h9 => h9) rfl dX12_undo_6 ?_
  refine lv_if_ne (tgt := 14) hx hb dX12_undo_9 (by decide) (fun cb9 => ?_) (fun cb9 => ?_)
  · skip
    have c1 : ¬ ac.toInt = 0 := zne cb9 rfl (by decide)
    have n2 : 1 ≤ ac.toInt := zN1 c1 hac.1 (by decide)
    refine lv_aload_n hx hb dX12_undo_14 rfl (lv_at hl 0 rfl) ?_
    refine lv_dup hx hb dX12_undo_15 rfl ?_
    refine va_get (D := g.1) (ci := 10) (v := .int ac) (C := RX12) (T := TX12) (N := 20) hx hb hts izRX12 hown hK hP 0 rfl rfl 6 (by decide) (hts _ k974) (fun _ h9 => h9) rfl dX12_undo_16 ?_
    refine lv_iconst (v := 1) hx hb dX12_undo_19 (by decide) ?_
    refine lv_isub hx hb dX12_undo_20 ?_
    refine zg3 (zsubK (i := ac.toInt) (j := 1) (a' := 0) (b' := 11) rfl (by decide) n2 hac.2 (Int.le_refl _) (Int.le_refl _) (by decide)) (fun x_3 hx_3 => ?_)
    refine va_put (D := g.1) (ci := 10) (v := .int x_3) (ty := .int) (C := RX12) (T := TX12) (N := 20) hx hb hts izRX12 tyX12 tyX12_ok nmX12 hown hK hP hD hS 0 rfl rfl 6 (by decide) (hts _ k974) (fun _ h9 => h9) rfl (by decide +kernel) rfl rfl (Nat.le_of_ble_eq_true rfl) dX12_undo_21 (fun H locs hP hD hS => ?_)
    have hP : va_P g.1 vwCl (List.flatten [bMo g o a 0 hi x_3 tp ba en tA fl de iD iO tU fm fk fa fc ft ff fb fi]) H := hP
    have hD : va_D A (List.flatten [bMo g o a 0 hi x_3 tp ba en tA fl de iD iO tU fm fk fa fc ft ff fb fi]) := hD
    refine lv_iconst (v := 0) hx hb dX12_undo_24 (by decide) ?_
    refine lv_istore_n (lv' := [(1, .int 0), (0, .ref o)]) hx hb dX12_undo_25 rfl hl (by decide) rfl (fun ls hl => ?_)
    have hl := lv_sub (l' := [(0, .ref o), (1, .int 0)]) hl [1, 0] rfl
    have LP26_8 : ∀ (kf : Nat) (x_4 : Int32) (fm_5 : Nat → Int32), (0 ≤ x_4.toInt ∧ x_4.toInt ≤ 379) → (rM fm_5) → (zCy fm fm_5 0 fc (379 * x_3.toInt.toNat) x_4.toInt) → ∀ (H : Heap) (locs : List Loc) (ls : Array Slot), ((380 - x_4.toInt).toNat) < kf → va_P g.1 vwCl (List.flatten [bMo g o a 0 hi x_3 tp ba en tA fl de iD iO tU fm_5 fk fa fc ft ff fb fi]) H → va_D A (List.flatten [bMo g o a 0 hi x_3 tp ba en tA fl de iD iO tU fm_5 fk fa fc ft ff fb fi]) → va_S A s.heap H locs → lv_has ls 2 [(0, .ref o), (1, .int x_4)] → W p l e ({ frames := 0, cells := 0, slots := 0, locals := 0 } : Room) s m args below meth c H locs (0) (0) (zF g (fun u : Int32 × Int32 × (Nat → Int32) × Int32 => (fun (th2 : Int32) (ac2 : Int32) (fm2 : Nat → Int32) (q : Int32) => some (.int q)) (u.1) (u.2.1) (u.2.2.1) (u.2.2.2)) (fun u : Int32 × Int32 × (Nat → Int32) × Int32 => (fun (th2 : Int32) (ac2 : Int32) (fm2 : Nat → Int32) (q : Int32) => (rM fm2) ∧ (0 ≤ ac2.toInt ∧ ac2.toInt ≤ 12) ∧ (q = 1 ∧ ¬ ac.toInt = 0 ∧ ac2.toInt = ac.toInt - 1 ∧ zCy fm fm2 0 fc (379 * ac2.toInt.toNat) 379 ∨ q = 0 ∧ ac.toInt = 0 ∧ fm = fm2 ∧ ac = ac2)) (u.1) (u.2.1) (u.2.2.1) (u.2.2.2)) (fun u : Int32 × Int32 × (Nat → Int32) × Int32 => (fun (th2 : Int32) (ac2 : Int32) (fm2 : Nat → Int32) (q : Int32) => [bMo g o a th2 hi ac2 tp ba en tA fl de iD iO tU fm2 fk fa fc ft ff fb fi]) (u.1) (u.2.1) (u.2.2.1) (u.2.2.2)) ({ frames := 0, cells := 0, slots := 0, locals := 0 } : Room) below args s A) (F0 m 26 ls []) := by
      intro kf
      induction kf with
      | zero => intro x_4 fm_5 i6 rfm_5 i7 H locs ls hk; exact absurd hk (Nat.not_lt_zero _)
      | succ kf ih26_9 =>
        intro x_4 fm_5 i6 rfm_5 i7 H locs ls hk26_9 hP hD hS hl
        refine lv_iload_n hx hb dX12_undo_26 rfl (lv_at hl 1 rfl) ?_
        refine lv_sipush (v := 379) hx hb dX12_undo_27 (by decide) ?_
        refine lv_icmp_ge (tgt := 60) hx hb dX12_undo_30 (by decide) (fun cb9 => ?_) (fun cb9 => ?_)
        · skip
          have c10 : 379 ≤ x_4.toInt := zle cb9 (by decide) rfl
          have n11 : 379 ≤ x_4.toInt := Int.le_trans (Int.le_refl _) c10
          refine lv_iconst (v := 1) hx hb dX12_undo_60 (by decide) ?_
          have hP : va_P g.1 vwCl (List.flatten [bMo g o a 0 hi x_3 tp ba en tA fl de iD iO tU fm_5 fk fa fc ft ff fb fi]) H := hP
          have hD : va_D A (List.flatten [bMo g o a 0 hi x_3 tp ba en tA fl de iD iO tU fm_5 fk fa fc ft ff fb fi]) := hD
          exact mret_z hx hb hr hlocks hS (Nat.le_of_ble_eq_true rfl) (Nat.le_of_ble_eq_true rfl) dX12_undo_61 ((0 : Int32), x_3, fm_5, (1 : Int32)) rfl (by decide) (show (rM fm_5) ∧ (0 ≤ x_3.toInt ∧ x_3.toInt ≤ 12) ∧ (1 = 1 ∧ ¬ ac.toInt = 0 ∧ x_3.toInt = ac.toInt - 1 ∧ zCy fm fm_5 0 fc (379 * x_3.toInt.toNat) 379 ∨ 1 = 0 ∧ ac.toInt = 0 ∧ fm = fm_5 ∧ ac = x_3) from ⟨(by first | assumption | omega), (by first | assumption | omega), (Or.inl ⟨rfl, (by omega), (by omega), (zCy_e i7 (by omega))⟩)⟩) hP hD
        · skip
          have c12 : x_4.toInt < 379 := zlti (Int32.not_le.mp cb9) rfl (by decide)
          have n13 : x_4.toInt ≤ 378 := zL1 (b := 379) c12 (Int.le_refl _) (by decide)
          refine lv_aload_n hx hb dX12_undo_33 rfl (lv_at hl 0 rfl) ?_
          refine va_get (D := g.1) (ci := 10) (v := .ref (a 0)) (C := RX12) (T := TX12) (N := 20) hx hb hts izRX12 hown hK hP 0 rfl rfl 1 (by decide) (hts _ k815) (fun _ h9 => h9) rfl dX12_undo_34 ?_
          refine lv_iload_n hx hb dX12_undo_37 rfl (lv_at hl 1 rfl) ?_
          refine lv_aload_n hx hb dX12_undo_38 rfl (lv_at hl 0 rfl) ?_
          refine va_get (D := g.1) (ci := 10) (v := .ref (a 3)) (C := RX12) (T := TX12) (N := 20) hx hb hts izRX12 hown hK hP 0 rfl rfl 5 (by decide) (hts _ k818) (fun _ h9 => h9) rfl dX12_undo_39 ?_
          refine lv_sipush (v := 379) hx hb dX12_undo_42 (by decide) ?_
          refine lv_aload_n hx hb dX12_undo_45 rfl (lv_at hl 0 rfl) ?_
          refine va_get (D := g.1) (ci := 10) (v := .int x_3) (C := RX12) (T := TX12) (N := 20) hx hb hts izRX12 hown hK hP 0 rfl rfl 6 (by decide) (hts _ k974) (fun _ h9 => h9) rfl dX12_undo_46 ?_
          refine lv_imul hx hb dX12_undo_49 ?_
          refine zg3 (zmulKL (i := x_3.toInt) (n := 379) (a' := 0) (b' := 4169) rfl (by decide) hx_3.2.1 hx_3.2.2 (by decide) (by decide)) (fun x_14 hx_14 => ?_)
          refine lv_iload_n hx hb dX12_undo_50 rfl (lv_at hl 1 rfl) ?_
          refine lv_iadd hx hb dX12_undo_51 ?_
          refine zg3 (zaddK (i := x_14.toInt) (j := x_4.toInt) (a' := 0) (b' := 4547) rfl rfl hx_14.2.1 hx_14.2.2 i6.1 n13 (by decide)) (fun x_15 hx_15 => ?_)
          refine va_iald hx hb hK hP 4 0 rfl rfl (zinK (a := 0) (b := 4547) hx_15.2.1 hx_15.2.2 (by decide)) dX12_undo_52 ?_
          refine va_iast hx hb hK hP hD hS 1 0 rfl rfl (zinK (a := 0) (b := 378) i6.1 n13 (by decide)) dX12_undo_53 (fun H locs hP hD hS => ?_)
          obtain ⟨fm_16, ⟨rfm_16, hcfm_16⟩, hP, hD⟩ : ∃ fm_16 : Nat → Int32, (rM fm_16 ∧ zCy fm fm_16 0 fc (379 * x_3.toInt.toNat) (x_4.toInt + 1)) ∧ va_P g.1 vwCl (List.flatten [bMo g o a 0 hi x_3 tp ba en tA fl de iD iO tU fm_16 fk fa fc ft ff fb fi]) H ∧ va_D A (List.flatten [bMo g o a 0 hi x_3 tp ba en tA fl de iD iO tU fm_16 fk fa fc ft ff fb fi]) := ⟨upd fm_5 x_4.toNatClampNeg (fc x_15.toNatClampNeg), ⟨(rM_cq (a := x_3) rfm_5 rfc (by omega) (by omega) (by omega)), (zCy_s i7 (by omega) (congrArg fc (by rw [zcl]; omega)) rfl)⟩, hP, hD⟩
          refine ziinc3 (n' := 1) (a' := 1) (b' := 379) (lv' := fun v9 => [(1, .int v9), (0, .ref o)]) hx hb dX12_undo_54 hl (k := 1) rfl (by decide) (fun _ => rfl) (zaddK (i := x_4.toInt) (j := 1) rfl (by decide) i6.1 n13 (Int.le_refl _) (Int.le_refl _) (by decide)) (fun x_17 ls hx_17 hl => ?_)
          refine lv_goto (tgt := 26) hx hb dX12_undo_57 (by decide) ?_
          have hl := lv_sub (l' := [(0, .ref o), (1, .int x_17)]) hl [1, 0] rfl
          have hP : va_P g.1 vwCl (List.flatten [bMo g o a 0 hi x_3 tp ba en tA fl de iD iO tU fm_16 fk fa fc ft ff fb fi]) H := hP
          have hD : va_D A (List.flatten [bMo g o a 0 hi x_3 tp ba en tA fl de iD iO tU fm_16 fk fa fc ft ff fb fi]) := hD
          exact ih26_9 x_17 fm_16 ⟨(Int.le_trans (by decide) hx_17.2.1), hx_17.2.2⟩ rfm_16 (zCy_e hcfm_16 (by omega)) H _ ls (zmK hx_17.1 (by decide) n13 (by decide) hk26_9)  hP hD hS (lv_sub hl [0, 1] rfl)
    have hL0 : (0 : Int32).toInt = 0 := by decide
    have hP : va_P g.1 vwCl (List.flatten [bMo g o a 0 hi x_3 tp ba en tA fl de iD iO tU fm fk fa fc ft ff fb fi]) H := hP
    have hD : va_D A (List.flatten [bMo g o a 0 hi x_3 tp ba en tA fl de iD iO tU fm fk fa fc ft ff fb fi]) := hD
    exact LP26_8 _ 0 fm (by decide) rfm (zCy_0 (by decide)) H _ ls (Nat.lt_succ_self _)  hP hD hS (lv_sub hl [0, 1] rfl)
  · skip
    have c18 : ac.toInt = 0 := zeq cb9 rfl (by decide)
    have n19 : ac.toInt ≤ 0 := Int.le_trans (Int.le_of_eq c18) (Int.le_refl _)
    refine lv_iconst (v := 0) hx hb dX12_undo_12 (by decide) ?_
    have hP : va_P g.1 vwCl (List.flatten [bMo g o a 0 hi ac tp ba en tA fl de iD iO tU fm fk fa fc ft ff fb fi]) H := hP
    have hD : va_D A (List.flatten [bMo g o a 0 hi ac tp ba en tA fl de iD iO tU fm fk fa fc ft ff fb fi]) := hD
    exact mret_z hx hb hr hlocks hS (Nat.le_of_ble_eq_true rfl) (Nat.le_of_ble_eq_true rfl) dX12_undo_13 ((0 : Int32), ac, fm, (0 : Int32)) rfl (by decide) (show (rM fm) ∧ (0 ≤ ac.toInt ∧ ac.toInt ≤ 12) ∧ (0 = 1 ∧ ¬ ac.toInt = 0 ∧ ac.toInt = ac.toInt - 1 ∧ zCy fm fm 0 fc (379 * ac.toInt.toNat) 379 ∨ 0 = 0 ∧ ac.toInt = 0 ∧ fm = fm ∧ ac = ac) from ⟨(by first | assumption | omega | decide), (by first | assumption | omega | decide), (Or.inr ⟨rfl, (by omega), rfl, rfl⟩)⟩) hP hD
set_option maxRecDepth 100000 in
set_option maxHeartbeats 4000000 in
theorem m_image (l : Launch) (g : zG) (o : Nat) (a : Nat → Nat) (th : Int32) (hi : Int32) (ac : Int32) (tp : Int32) (ba : Int32) (en : Int32) (tA : Int32) (fl : Int32) (de : Int32) (iD : Int32) (iO : Int32) (tU : Int32) (fm : Nat → Int32) (fk : Nat → Int32) (fa : Nat → Int32) (fc : Nat → Int32) (ft : Nat → Int32) (ff : Nat → Int32) (fb : Nat → Int32) (fi : Nat → Int32) (rfm : rM fm) (rfk : rM fk) : zM' g l yX12_image (Cond.code yX12_image cX12_image 2 none :: zB) ({ frames := 0, cells := 0, slots := 0, locals := 0 } : Room) [.ref o] [bMo g o a th hi ac tp ba en tA fl de iD iO tU fm fk fa fc ft ff fb fi] (fun u : Int32 × (Nat → Int32) => (fun (th2 : Int32) (fk2 : Nat → Int32) => none) (u.1) (u.2)) (fun u : Int32 × (Nat → Int32) => (fun (th2 : Int32) (fk2 : Nat → Int32) => (rM fk2) ∧ (zCy fk fk2 0 fm 0 779)) (u.1) (u.2)) (fun u : Int32 × (Nat → Int32) => (fun (th2 : Int32) (fk2 : Nat → Int32) => [bMo g o a th2 1 ac tp ba en tA fl de iD iO tU fm fk2 fa fc ft ff fb fi]) (u.1) (u.2)) := by
  refine zM'.of (cc := cX12_image) (maxL := 2) (rt := none) (by decide) rfl (Nat.le_of_ble_eq_true rfl) ?_
  intro p e s m args below meth c A ls St hr hlocks hin hK hT hA hP hD hS hl
  obtain ⟨hx, hb, hml, hown, hts⟩ := id St
  have hl : lv_has ls 2 [(0, .ref o)] := hl
  refine lv_aload_n hx hb dX12_image_0 rfl (lv_at hl 0 rfl) ?_
  refine lv_iconst (v := 0) hx hb dX12_image_1 (by decide) ?_
  refine va_put (D := g.1) (ci := 10) (v := .int 0) (ty := .int) (C := RX12) (T := TX12) (N := 20) hx hb hts izRX12 tyX12 tyX12_ok nmX12 hown hK hP hD hS 0 rfl rfl 0 (by decide) (hts _ k825) (fun _ h9 => h9) rfl (by decide +kernel) rfl rfl (Nat.le_of_ble_eq_true rfl) dX12_image_2 (fun H locs hP hD hS => ?_)
  have hP : va_P g.1 vwCl (List.flatten [bMo g o a 0 hi ac tp ba en tA fl de iD iO tU fm fk fa fc ft ff fb fi]) H := hP
  have hD : va_D A (List.flatten [bMo g o a 0 hi ac tp ba en tA fl de iD iO tU fm fk fa fc ft ff fb fi]) := hD
  refine lv_iconst (v := 0) hx hb dX12_image_5 (by decide) ?_
  refine lv_istore_n (lv' := [(1, .int 0), (0, .ref o)]) hx hb dX12_image_6 rfl hl (by decide) rfl (fun ls hl => ?_)
  have hl := lv_sub (l' := [(0, .ref o), (1, .int 0)]) hl [1, 0] rfl
  have LP7_5 : ∀ (kf : Nat) (x_1 : Int32) (fk_2 : Nat → Int32), (0 ≤ x_1.toInt ∧ x_1.toInt ≤ 779) → (rM fk_2) → (zCy fk fk_2 0 fm 0 x_1.toInt) → ∀ (H : Heap) (locs : List Loc) (ls : Array Slot), ((780 - x_1.toInt).toNat) < kf → va_P g.1 vwCl (List.flatten [bMo g o a 0 hi ac tp ba en tA fl de iD iO tU fm fk_2 fa fc ft ff fb fi]) H → va_D A (List.flatten [bMo g o a 0 hi ac tp ba en tA fl de iD iO tU fm fk_2 fa fc ft ff fb fi]) → va_S A s.heap H locs → lv_has ls 2 [(0, .ref o), (1, .int x_1)] → W p l e ({ frames := 0, cells := 0, slots := 0, locals := 0 } : Room) s m args below meth c H locs (0) (0) (zF g (fun u : Int32 × (Nat → Int32) => (fun (th2 : Int32) (fk2 : Nat → Int32) => none) (u.1) (u.2)) (fun u : Int32 × (Nat → Int32) => (fun (th2 : Int32) (fk2 : Nat → Int32) => (rM fk2) ∧ (zCy fk fk2 0 fm 0 779)) (u.1) (u.2)) (fun u : Int32 × (Nat → Int32) => (fun (th2 : Int32) (fk2 : Nat → Int32) => [bMo g o a th2 1 ac tp ba en tA fl de iD iO tU fm fk2 fa fc ft ff fb fi]) (u.1) (u.2)) ({ frames := 0, cells := 0, slots := 0, locals := 0 } : Room) below args s A) (F0 m 7 ls []) := by
    intro kf
    induction kf with
    | zero => intro x_1 fk_2 i3 rfk_2 i4 H locs ls hk; exact absurd hk (Nat.not_lt_zero _)
    | succ kf ih7_6 =>
      intro x_1 fk_2 i3 rfk_2 i4 H locs ls hk7_6 hP hD hS hl
      refine lv_iload_n hx hb dX12_image_7 rfl (lv_at hl 1 rfl) ?_
      refine lv_sipush (v := 779) hx hb dX12_image_8 (by decide) ?_
      refine lv_icmp_ge (tgt := 32) hx hb dX12_image_11 (by decide) (fun cb9 => ?_) (fun cb9 => ?_)
      · skip
        have c7 : 779 ≤ x_1.toInt := zle cb9 (by decide) rfl
        have n8 : 779 ≤ x_1.toInt := Int.le_trans (Int.le_refl _) c7
        refine lv_aload_n hx hb dX12_image_32 rfl (lv_at hl 0 rfl) ?_
        refine lv_iconst (v := 1) hx hb dX12_image_33 (by decide) ?_
        refine va_put (D := g.1) (ci := 10) (v := .int 1) (ty := .boolean) (C := RX12) (T := TX12) (N := 20) hx hb hts izRX12 tyX12 tyX12_ok nmX12 hown hK hP hD hS 0 rfl rfl 3 (by decide) (hts _ k1146) (fun _ h9 => h9) rfl (by decide +kernel) rfl rfl (Nat.le_of_ble_eq_true rfl) dX12_image_34 (fun H locs hP hD hS => ?_)
        have hP : va_P g.1 vwCl (List.flatten [bMo g o a 0 1 ac tp ba en tA fl de iD iO tU fm fk_2 fa fc ft ff fb fi]) H := hP
        have hD : va_D A (List.flatten [bMo g o a 0 1 ac tp ba en tA fl de iD iO tU fm fk_2 fa fc ft ff fb fi]) := hD
        have hP : va_P g.1 vwCl (List.flatten [bMo g o a 0 1 ac tp ba en tA fl de iD iO tU fm fk_2 fa fc ft ff fb fi]) H := hP
        have hD : va_D A (List.flatten [bMo g o a 0 1 ac tp ba en tA fl de iD iO tU fm fk_2 fa fc ft ff fb fi]) := hD
        exact mret_v hx hb hr hlocks hS (Nat.le_of_ble_eq_true rfl) (Nat.le_of_ble_eq_true rfl) dX12_image_37 ((0 : Int32), fk_2) rfl (show (rM fk_2) ∧ (zCy fk fk_2 0 fm 0 779) from ⟨(by assumption), (zCy_e i4 (by omega))⟩) hP hD
      · skip
        have c9 : x_1.toInt < 779 := zlti (Int32.not_le.mp cb9) rfl (by decide)
        have n10 : x_1.toInt ≤ 778 := zL1 (b := 779) c9 (Int.le_refl _) (by decide)
        refine lv_aload_n hx hb dX12_image_14 rfl (lv_at hl 0 rfl) ?_
        refine va_get (D := g.1) (ci := 10) (v := .ref (a 1)) (C := RX12) (T := TX12) (N := 20) hx hb hts izRX12 hown hK hP 0 rfl rfl 2 (by decide) (hts _ k816) (fun _ h9 => h9) rfl dX12_image_15 ?_
        refine lv_iload_n hx hb dX12_image_18 rfl (lv_at hl 1 rfl) ?_
        refine lv_aload_n hx hb dX12_image_19 rfl (lv_at hl 0 rfl) ?_
        refine va_get (D := g.1) (ci := 10) (v := .ref (a 0)) (C := RX12) (T := TX12) (N := 20) hx hb hts izRX12 hown hK hP 0 rfl rfl 1 (by decide) (hts _ k815) (fun _ h9 => h9) rfl dX12_image_20 ?_
        refine lv_iload_n hx hb dX12_image_23 rfl (lv_at hl 1 rfl) ?_
        refine va_iald hx hb hK hP 1 0 rfl rfl (zinK (a := 0) (b := 778) i3.1 n10 (by decide)) dX12_image_24 ?_
        refine va_iast hx hb hK hP hD hS 2 0 rfl rfl (zinK (a := 0) (b := 778) i3.1 n10 (by decide)) dX12_image_25 (fun H locs hP hD hS => ?_)
        obtain ⟨fk_11, ⟨rfk_11, hcfk_11⟩, hP, hD⟩ : ∃ fk_11 : Nat → Int32, (rM fk_11 ∧ zCy fk fk_11 0 fm 0 (x_1.toInt + 1)) ∧ va_P g.1 vwCl (List.flatten [bMo g o a 0 hi ac tp ba en tA fl de iD iO tU fm fk_11 fa fc ft ff fb fi]) H ∧ va_D A (List.flatten [bMo g o a 0 hi ac tp ba en tA fl de iD iO tU fm fk_11 fa fc ft ff fb fi]) := ⟨upd fk_2 x_1.toNatClampNeg (fm x_1.toNatClampNeg), ⟨(rM_cp rfk_2 rfm), (zCy_s i4 (by omega) (congrArg fm (by rw [zcl]; omega)) rfl)⟩, hP, hD⟩
        refine ziinc3 (n' := 1) (a' := 1) (b' := 779) (lv' := fun v9 => [(1, .int v9), (0, .ref o)]) hx hb dX12_image_26 hl (k := 1) rfl (by decide) (fun _ => rfl) (zaddK (i := x_1.toInt) (j := 1) rfl (by decide) i3.1 n10 (Int.le_refl _) (Int.le_refl _) (by decide)) (fun x_12 ls hx_12 hl => ?_)
        refine lv_goto (tgt := 7) hx hb dX12_image_29 (by decide) ?_
        have hl := lv_sub (l' := [(0, .ref o), (1, .int x_12)]) hl [1, 0] rfl
        have hP : va_P g.1 vwCl (List.flatten [bMo g o a 0 hi ac tp ba en tA fl de iD iO tU fm fk_11 fa fc ft ff fb fi]) H := hP
        have hD : va_D A (List.flatten [bMo g o a 0 hi ac tp ba en tA fl de iD iO tU fm fk_11 fa fc ft ff fb fi]) := hD
        exact ih7_6 x_12 fk_11 ⟨(Int.le_trans (by decide) hx_12.2.1), hx_12.2.2⟩ rfk_11 (zCy_e hcfk_11 (by omega)) H _ ls (zmK hx_12.1 (by decide) n10 (by decide) hk7_6)  hP hD hS (lv_sub hl [0, 1] rfl)
  have hL0 : (0 : Int32).toInt = 0 := by decide
  have hP : va_P g.1 vwCl (List.flatten [bMo g o a 0 hi ac tp ba en tA fl de iD iO tU fm fk fa fc ft ff fb fi]) H := hP
  have hD : va_D A (List.flatten [bMo g o a 0 hi ac tp ba en tA fl de iD iO tU fm fk fa fc ft ff fb fi]) := hD
  exact LP7_5 _ 0 fk (by decide) rfk (zCy_0 (by decide)) H _ ls (Nat.lt_succ_self _)  hP hD hS (lv_sub hl [0, 1] rfl)
set_option maxRecDepth 100000 in
set_option maxHeartbeats 4000000 in
theorem m_back (l : Launch) (g : zG) (o : Nat) (a : Nat → Nat) (th : Int32) (hi : Int32) (ac : Int32) (tp : Int32) (ba : Int32) (en : Int32) (tA : Int32) (fl : Int32) (de : Int32) (iD : Int32) (iO : Int32) (tU : Int32) (fm : Nat → Int32) (fk : Nat → Int32) (fa : Nat → Int32) (fc : Nat → Int32) (ft : Nat → Int32) (ff : Nat → Int32) (fb : Nat → Int32) (fi : Nat → Int32) (rfm : rM fm) (rfk : rM fk) (hac : 0 ≤ ac.toInt ∧ ac.toInt ≤ 12) : zM' g l yX12_back (Cond.code yX12_back cX12_back 2 (some .boolean) :: zB) ({ frames := 0, cells := 0, slots := 0, locals := 0 } : Room) [.ref o] [bMo g o a th hi ac tp ba en tA fl de iD iO tU fm fk fa fc ft ff fb fi] (fun u : Int32 × Int32 × (Nat → Int32) × Int32 => (fun (th2 : Int32) (ac2 : Int32) (fm2 : Nat → Int32) (q : Int32) => some (.int q)) (u.1) (u.2.1) (u.2.2.1) (u.2.2.2)) (fun u : Int32 × Int32 × (Nat → Int32) × Int32 => (fun (th2 : Int32) (ac2 : Int32) (fm2 : Nat → Int32) (q : Int32) => (rM fm2) ∧ (0 ≤ ac2.toInt ∧ ac2.toInt ≤ 12) ∧ (q = 1 ∧ ¬ hi.toInt = 0 ∧ ac2.toInt = 0 ∧ zCy fm fm2 0 fk 0 779 ∨ q = 0 ∧ hi.toInt = 0 ∧ fm = fm2 ∧ ac = ac2)) (u.1) (u.2.1) (u.2.2.1) (u.2.2.2)) (fun u : Int32 × Int32 × (Nat → Int32) × Int32 => (fun (th2 : Int32) (ac2 : Int32) (fm2 : Nat → Int32) (q : Int32) => [bMo g o a th2 hi ac2 tp ba en tA fl de iD iO tU fm2 fk fa fc ft ff fb fi]) (u.1) (u.2.1) (u.2.2.1) (u.2.2.2)) := by
  refine zM'.of (cc := cX12_back) (maxL := 2) (rt := (some .boolean)) (by decide) rfl (Nat.le_of_ble_eq_true rfl) ?_
  intro p e s m args below meth c A ls St hr hlocks hin hK hT hA hP hD hS hl
  obtain ⟨hx, hb, hml, hown, hts⟩ := id St
  have hl : lv_has ls 2 [(0, .ref o)] := hl
  refine lv_aload_n hx hb dX12_back_0 rfl (lv_at hl 0 rfl) ?_
  refine lv_iconst (v := 0) hx hb dX12_back_1 (by decide) ?_
  refine va_put (D := g.1) (ci := 10) (v := .int 0) (ty := .int) (C := RX12) (T := TX12) (N := 20) hx hb hts izRX12 tyX12 tyX12_ok nmX12 hown hK hP hD hS 0 rfl rfl 0 (by decide) (hts _ k825) (fun _ h9 => h9) rfl (by decide +kernel) rfl rfl (Nat.le_of_ble_eq_true rfl) dX12_back_2 (fun H locs hP hD hS => ?_)
  have hP : va_P g.1 vwCl (List.flatten [bMo g o a 0 hi ac tp ba en tA fl de iD iO tU fm fk fa fc ft ff fb fi]) H := hP
  have hD : va_D A (List.flatten [bMo g o a 0 hi ac tp ba en tA fl de iD iO tU fm fk fa fc ft ff fb fi]) := hD
  refine lv_aload_n hx hb dX12_back_5 rfl (lv_at hl 0 rfl) ?_
  refine va_get (D := g.1) (ci := 10) (v := .int hi) (C := RX12) (T := TX12) (N := 20) hx hb hts izRX12 hown hK hP 0 rfl rfl 3 (by decide) (hts _ k1146) (fun _ h9 => h9) rfl dX12_back_6 ?_
  refine lv_if_ne (tgt := 14) hx hb dX12_back_9 (by decide) (fun cb9 => ?_) (fun cb9 => ?_)
  · skip
    have c1 : ¬ hi.toInt = 0 := zne cb9 rfl (by decide)
    refine lv_iconst (v := 0) hx hb dX12_back_14 (by decide) ?_
    refine lv_istore_n (lv' := [(1, .int 0), (0, .ref o)]) hx hb dX12_back_15 rfl hl (by decide) rfl (fun ls hl => ?_)
    have hl := lv_sub (l' := [(0, .ref o), (1, .int 0)]) hl [1, 0] rfl
    have LP16_6 : ∀ (kf : Nat) (x_2 : Int32) (fm_3 : Nat → Int32), (0 ≤ x_2.toInt ∧ x_2.toInt ≤ 779) → (rM fm_3) → (zCy fm fm_3 0 fk 0 x_2.toInt) → ∀ (H : Heap) (locs : List Loc) (ls : Array Slot), ((780 - x_2.toInt).toNat) < kf → va_P g.1 vwCl (List.flatten [bMo g o a 0 hi ac tp ba en tA fl de iD iO tU fm_3 fk fa fc ft ff fb fi]) H → va_D A (List.flatten [bMo g o a 0 hi ac tp ba en tA fl de iD iO tU fm_3 fk fa fc ft ff fb fi]) → va_S A s.heap H locs → lv_has ls 2 [(0, .ref o), (1, .int x_2)] → W p l e ({ frames := 0, cells := 0, slots := 0, locals := 0 } : Room) s m args below meth c H locs (0) (0) (zF g (fun u : Int32 × Int32 × (Nat → Int32) × Int32 => (fun (th2 : Int32) (ac2 : Int32) (fm2 : Nat → Int32) (q : Int32) => some (.int q)) (u.1) (u.2.1) (u.2.2.1) (u.2.2.2)) (fun u : Int32 × Int32 × (Nat → Int32) × Int32 => (fun (th2 : Int32) (ac2 : Int32) (fm2 : Nat → Int32) (q : Int32) => (rM fm2) ∧ (0 ≤ ac2.toInt ∧ ac2.toInt ≤ 12) ∧ (q = 1 ∧ ¬ hi.toInt = 0 ∧ ac2.toInt = 0 ∧ zCy fm fm2 0 fk 0 779 ∨ q = 0 ∧ hi.toInt = 0 ∧ fm = fm2 ∧ ac = ac2)) (u.1) (u.2.1) (u.2.2.1) (u.2.2.2)) (fun u : Int32 × Int32 × (Nat → Int32) × Int32 => (fun (th2 : Int32) (ac2 : Int32) (fm2 : Nat → Int32) (q : Int32) => [bMo g o a th2 hi ac2 tp ba en tA fl de iD iO tU fm2 fk fa fc ft ff fb fi]) (u.1) (u.2.1) (u.2.2.1) (u.2.2.2)) ({ frames := 0, cells := 0, slots := 0, locals := 0 } : Room) below args s A) (F0 m 16 ls []) := by
      intro kf
      induction kf with
      | zero => intro x_2 fm_3 i4 rfm_3 i5 H locs ls hk; exact absurd hk (Nat.not_lt_zero _)
      | succ kf ih16_7 =>
        intro x_2 fm_3 i4 rfm_3 i5 H locs ls hk16_7 hP hD hS hl
        refine lv_iload_n hx hb dX12_back_16 rfl (lv_at hl 1 rfl) ?_
        refine lv_sipush (v := 779) hx hb dX12_back_17 (by decide) ?_
        refine lv_icmp_ge (tgt := 41) hx hb dX12_back_20 (by decide) (fun cb9 => ?_) (fun cb9 => ?_)
        · skip
          have c8 : 779 ≤ x_2.toInt := zle cb9 (by decide) rfl
          have n9 : 779 ≤ x_2.toInt := Int.le_trans (Int.le_refl _) c8
          refine lv_aload_n hx hb dX12_back_41 rfl (lv_at hl 0 rfl) ?_
          refine lv_iconst (v := 0) hx hb dX12_back_42 (by decide) ?_
          refine va_put (D := g.1) (ci := 10) (v := .int 0) (ty := .int) (C := RX12) (T := TX12) (N := 20) hx hb hts izRX12 tyX12 tyX12_ok nmX12 hown hK hP hD hS 0 rfl rfl 6 (by decide) (hts _ k974) (fun _ h9 => h9) rfl (by decide +kernel) rfl rfl (Nat.le_of_ble_eq_true rfl) dX12_back_43 (fun H locs hP hD hS => ?_)
          have hP : va_P g.1 vwCl (List.flatten [bMo g o a 0 hi 0 tp ba en tA fl de iD iO tU fm_3 fk fa fc ft ff fb fi]) H := hP
          have hD : va_D A (List.flatten [bMo g o a 0 hi 0 tp ba en tA fl de iD iO tU fm_3 fk fa fc ft ff fb fi]) := hD
          refine lv_iconst (v := 1) hx hb dX12_back_46 (by decide) ?_
          have hP : va_P g.1 vwCl (List.flatten [bMo g o a 0 hi 0 tp ba en tA fl de iD iO tU fm_3 fk fa fc ft ff fb fi]) H := hP
          have hD : va_D A (List.flatten [bMo g o a 0 hi 0 tp ba en tA fl de iD iO tU fm_3 fk fa fc ft ff fb fi]) := hD
          exact mret_z hx hb hr hlocks hS (Nat.le_of_ble_eq_true rfl) (Nat.le_of_ble_eq_true rfl) dX12_back_47 ((0 : Int32), (0 : Int32), fm_3, (1 : Int32)) rfl (by decide) (show (rM fm_3) ∧ (0 ≤ (0 : Int32).toInt ∧ (0 : Int32).toInt ≤ 12) ∧ (1 = 1 ∧ ¬ hi.toInt = 0 ∧ (0 : Int32).toInt = 0 ∧ zCy fm fm_3 0 fk 0 779 ∨ 1 = 0 ∧ hi.toInt = 0 ∧ fm = fm_3 ∧ ac = 0) from ⟨(by first | assumption | omega | decide), (by first | assumption | omega | decide), (Or.inl ⟨rfl, (by omega), (by decide), (zCy_e i5 (by omega))⟩)⟩) hP hD
        · skip
          have c10 : x_2.toInt < 779 := zlti (Int32.not_le.mp cb9) rfl (by decide)
          have n11 : x_2.toInt ≤ 778 := zL1 (b := 779) c10 (Int.le_refl _) (by decide)
          refine lv_aload_n hx hb dX12_back_23 rfl (lv_at hl 0 rfl) ?_
          refine va_get (D := g.1) (ci := 10) (v := .ref (a 0)) (C := RX12) (T := TX12) (N := 20) hx hb hts izRX12 hown hK hP 0 rfl rfl 1 (by decide) (hts _ k815) (fun _ h9 => h9) rfl dX12_back_24 ?_
          refine lv_iload_n hx hb dX12_back_27 rfl (lv_at hl 1 rfl) ?_
          refine lv_aload_n hx hb dX12_back_28 rfl (lv_at hl 0 rfl) ?_
          refine va_get (D := g.1) (ci := 10) (v := .ref (a 1)) (C := RX12) (T := TX12) (N := 20) hx hb hts izRX12 hown hK hP 0 rfl rfl 2 (by decide) (hts _ k816) (fun _ h9 => h9) rfl dX12_back_29 ?_
          refine lv_iload_n hx hb dX12_back_32 rfl (lv_at hl 1 rfl) ?_
          refine va_iald hx hb hK hP 2 0 rfl rfl (zinK (a := 0) (b := 778) i4.1 n11 (by decide)) dX12_back_33 ?_
          refine va_iast hx hb hK hP hD hS 1 0 rfl rfl (zinK (a := 0) (b := 778) i4.1 n11 (by decide)) dX12_back_34 (fun H locs hP hD hS => ?_)
          obtain ⟨fm_12, ⟨rfm_12, hcfm_12⟩, hP, hD⟩ : ∃ fm_12 : Nat → Int32, (rM fm_12 ∧ zCy fm fm_12 0 fk 0 (x_2.toInt + 1)) ∧ va_P g.1 vwCl (List.flatten [bMo g o a 0 hi ac tp ba en tA fl de iD iO tU fm_12 fk fa fc ft ff fb fi]) H ∧ va_D A (List.flatten [bMo g o a 0 hi ac tp ba en tA fl de iD iO tU fm_12 fk fa fc ft ff fb fi]) := ⟨upd fm_3 x_2.toNatClampNeg (fk x_2.toNatClampNeg), ⟨(rM_cp rfm_3 rfk), (zCy_s i5 (by omega) (congrArg fk (by rw [zcl]; omega)) rfl)⟩, hP, hD⟩
          refine ziinc3 (n' := 1) (a' := 1) (b' := 779) (lv' := fun v9 => [(1, .int v9), (0, .ref o)]) hx hb dX12_back_35 hl (k := 1) rfl (by decide) (fun _ => rfl) (zaddK (i := x_2.toInt) (j := 1) rfl (by decide) i4.1 n11 (Int.le_refl _) (Int.le_refl _) (by decide)) (fun x_13 ls hx_13 hl => ?_)
          refine lv_goto (tgt := 16) hx hb dX12_back_38 (by decide) ?_
          have hl := lv_sub (l' := [(0, .ref o), (1, .int x_13)]) hl [1, 0] rfl
          have hP : va_P g.1 vwCl (List.flatten [bMo g o a 0 hi ac tp ba en tA fl de iD iO tU fm_12 fk fa fc ft ff fb fi]) H := hP
          have hD : va_D A (List.flatten [bMo g o a 0 hi ac tp ba en tA fl de iD iO tU fm_12 fk fa fc ft ff fb fi]) := hD
          exact ih16_7 x_13 fm_12 ⟨(Int.le_trans (by decide) hx_13.2.1), hx_13.2.2⟩ rfm_12 (zCy_e hcfm_12 (by omega)) H _ ls (zmK hx_13.1 (by decide) n11 (by decide) hk16_7)  hP hD hS (lv_sub hl [0, 1] rfl)
    have hL0 : (0 : Int32).toInt = 0 := by decide
    have hP : va_P g.1 vwCl (List.flatten [bMo g o a 0 hi ac tp ba en tA fl de iD iO tU fm fk fa fc ft ff fb fi]) H := hP
    have hD : va_D A (List.flatten [bMo g o a 0 hi ac tp ba en tA fl de iD iO tU fm fk fa fc ft ff fb fi]) := hD
    exact LP16_6 _ 0 fm (by decide) rfm (zCy_0 (by decide)) H _ ls (Nat.lt_succ_self _)  hP hD hS (lv_sub hl [0, 1] rfl)
  · skip
    have c14 : hi.toInt = 0 := zeq cb9 rfl (by decide)
    have n15 : 0 ≤ hi.toInt := Int.le_trans (Int.le_refl _) (Int.le_of_eq c14.symm)
    have n16 : hi.toInt ≤ 0 := Int.le_trans (Int.le_of_eq c14) (Int.le_refl _)
    refine lv_iconst (v := 0) hx hb dX12_back_12 (by decide) ?_
    have hP : va_P g.1 vwCl (List.flatten [bMo g o a 0 hi ac tp ba en tA fl de iD iO tU fm fk fa fc ft ff fb fi]) H := hP
    have hD : va_D A (List.flatten [bMo g o a 0 hi ac tp ba en tA fl de iD iO tU fm fk fa fc ft ff fb fi]) := hD
    exact mret_z hx hb hr hlocks hS (Nat.le_of_ble_eq_true rfl) (Nat.le_of_ble_eq_true rfl) dX12_back_13 ((0 : Int32), ac, fm, (0 : Int32)) rfl (by decide) (show (rM fm) ∧ (0 ≤ ac.toInt ∧ ac.toInt ≤ 12) ∧ (0 = 1 ∧ ¬ hi.toInt = 0 ∧ ac.toInt = 0 ∧ zCy fm fm 0 fk 0 779 ∨ 0 = 0 ∧ hi.toInt = 0 ∧ fm = fm ∧ ac = ac) from ⟨(by first | assumption | omega | decide), (by first | assumption | omega | decide), (Or.inr ⟨rfl, (by omega), rfl, rfl⟩)⟩) hP hD
set_option maxRecDepth 100000 in
set_option maxHeartbeats 4000000 in
theorem m_feed (l : Launch) (g : zG) (o : Nat) (a : Nat → Nat) (th : Int32) (hi : Int32) (ac : Int32) (tp : Int32) (ba : Int32) (en : Int32) (tA : Int32) (fl : Int32) (de : Int32) (iD : Int32) (iO : Int32) (tU : Int32) (fm : Nat → Int32) (fk : Nat → Int32) (fa : Nat → Int32) (fc : Nat → Int32) (ft : Nat → Int32) (ff : Nat → Int32) (fb : Nat → Int32) (fi : Nat → Int32) (a1 : Int32) (a2 : Int32) (a3 : Int32) (a4 : Int32) (a5 : Int32) (htp : 0 ≤ tp.toInt ∧ tp.toInt ≤ 400) : zM' g l yX12_feed (Cond.code yX12_feed cX12_feed 8 (some .int) :: zB) ({ frames := 0, cells := 0, slots := 0, locals := 0 } : Room) [.ref o, .int a1, .int a2, .int a3, .int a4, .int a5] [bMo g o a th hi ac tp ba en tA fl de iD iO tU fm fk fa fc ft ff fb fi] (fun u : Int32 × Int32 × (Nat → Int32) × Int32 => (fun (th2 : Int32) (tp2 : Int32) (ft2 : Nat → Int32) (q : Int32) => some (.int q)) (u.1) (u.2.1) (u.2.2.1) (u.2.2.2)) (fun u : Int32 × Int32 × (Nat → Int32) × Int32 => (fun (th2 : Int32) (tp2 : Int32) (ft2 : Nat → Int32) (q : Int32) => (0 ≤ tp2.toInt ∧ tp2.toInt ≤ 400) ∧ ((380 < tp.toInt → tp2.toInt = tp.toInt) ∧ (tp.toInt ≤ 380 → tp2.toInt = tp.toInt + 20)) ∧ ((380 < tp.toInt → q.toInt = -1) ∧ (tp.toInt ≤ 380 → q.toInt = tp2.toInt))) (u.1) (u.2.1) (u.2.2.1) (u.2.2.2)) (fun u : Int32 × Int32 × (Nat → Int32) × Int32 => (fun (th2 : Int32) (tp2 : Int32) (ft2 : Nat → Int32) (q : Int32) => [bMo g o a th2 hi ac tp2 ba en tA fl de iD iO tU fm fk fa fc ft2 ff fb fi]) (u.1) (u.2.1) (u.2.2.1) (u.2.2.2)) := by
  refine zM'.of (cc := cX12_feed) (maxL := 8) (rt := (some .int)) (by decide) rfl (Nat.le_of_ble_eq_true rfl) ?_
  intro p e s m args below meth c A ls St hr hlocks hin hK hT hA hP hD hS hl
  obtain ⟨hx, hb, hml, hown, hts⟩ := id St
  have hl : lv_has ls 8 [(0, .ref o), (1, .int a1), (2, .int a2), (3, .int a3), (4, .int a4), (5, .int a5)] := hl
  refine lv_aload_n hx hb dX12_feed_0 rfl (lv_at hl 0 rfl) ?_
  refine lv_iconst (v := 0) hx hb dX12_feed_1 (by decide) ?_
  refine va_put (D := g.1) (ci := 10) (v := .int 0) (ty := .int) (C := RX12) (T := TX12) (N := 20) hx hb hts izRX12 tyX12 tyX12_ok nmX12 hown hK hP hD hS 0 rfl rfl 0 (by decide) (hts _ k825) (fun _ h9 => h9) rfl (by decide +kernel) rfl rfl (Nat.le_of_ble_eq_true rfl) dX12_feed_2 (fun H locs hP hD hS => ?_)
  have hP : va_P g.1 vwCl (List.flatten [bMo g o a 0 hi ac tp ba en tA fl de iD iO tU fm fk fa fc ft ff fb fi]) H := hP
  have hD : va_D A (List.flatten [bMo g o a 0 hi ac tp ba en tA fl de iD iO tU fm fk fa fc ft ff fb fi]) := hD
  refine lv_aload_n hx hb dX12_feed_5 rfl (lv_at hl 0 rfl) ?_
  refine va_get (D := g.1) (ci := 10) (v := .int tp) (C := RX12) (T := TX12) (N := 20) hx hb hts izRX12 hown hK hP 0 rfl rfl 8 (by decide) (hts _ k873) (fun _ h9 => h9) rfl dX12_feed_6 ?_
  refine lv_bipush (v := 20) hx hb dX12_feed_9 (by decide) ?_
  refine lv_iadd hx hb dX12_feed_11 ?_
  refine zg3 (zaddK (i := tp.toInt) (j := 20) (a' := 20) (b' := 420) rfl (by decide) htp.1 htp.2 (Int.le_refl _) (Int.le_refl _) (by decide)) (fun x_1 hx_1 => ?_)
  refine lv_sipush (v := 400) hx hb dX12_feed_12 (by decide) ?_
  refine lv_icmp_le (tgt := 20) hx hb dX12_feed_15 (by decide) (fun cb9 => ?_) (fun cb9 => ?_)
  · skip
    have c2 : x_1.toInt ≤ 400 := zle cb9 rfl (by decide)
    have n3 : x_1.toInt ≤ 400 := Int.le_trans c2 (Int.le_refl _)
    refine lv_iconst (v := 0) hx hb dX12_feed_20 (by decide) ?_
    refine lv_istore (lv' := [(6, .int 0), (0, .ref o), (1, .int a1), (2, .int a2), (3, .int a3), (4, .int a4), (5, .int a5)]) hx hb dX12_feed_21 hl (by decide) rfl (fun ls hl => ?_)
    have hl := lv_sub (l' := [(0, .ref o), (1, .int a1), (2, .int a2), (3, .int a3), (4, .int a4), (5, .int a5), (6, .int 0)]) hl [1, 2, 3, 4, 5, 6, 0] rfl
    have LP23_10 : ∀ (kf : Nat) (x_4 : Int32) (x_5 : Int32) (ft_6 : Nat → Int32), (0 ≤ x_4.toInt ∧ x_4.toInt ≤ 20) → (0 ≤ x_5.toInt ∧ x_5.toInt ≤ 400) → (x_5.toInt = tp.toInt + x_4.toInt) → ∀ (H : Heap) (locs : List Loc) (ls : Array Slot), ((21 - x_4.toInt).toNat) < kf → va_P g.1 vwCl (List.flatten [bMo g o a 0 hi ac x_5 ba en tA fl de iD iO tU fm fk fa fc ft_6 ff fb fi]) H → va_D A (List.flatten [bMo g o a 0 hi ac x_5 ba en tA fl de iD iO tU fm fk fa fc ft_6 ff fb fi]) → va_S A s.heap H locs → lv_has ls 8 [(0, .ref o), (1, .int a1), (2, .int a2), (3, .int a3), (4, .int a4), (5, .int a5), (6, .int x_4)] → W p l e ({ frames := 0, cells := 0, slots := 0, locals := 0 } : Room) s m args below meth c H locs (0) (0) (zF g (fun u : Int32 × Int32 × (Nat → Int32) × Int32 => (fun (th2 : Int32) (tp2 : Int32) (ft2 : Nat → Int32) (q : Int32) => some (.int q)) (u.1) (u.2.1) (u.2.2.1) (u.2.2.2)) (fun u : Int32 × Int32 × (Nat → Int32) × Int32 => (fun (th2 : Int32) (tp2 : Int32) (ft2 : Nat → Int32) (q : Int32) => (0 ≤ tp2.toInt ∧ tp2.toInt ≤ 400) ∧ ((380 < tp.toInt → tp2.toInt = tp.toInt) ∧ (tp.toInt ≤ 380 → tp2.toInt = tp.toInt + 20)) ∧ ((380 < tp.toInt → q.toInt = -1) ∧ (tp.toInt ≤ 380 → q.toInt = tp2.toInt))) (u.1) (u.2.1) (u.2.2.1) (u.2.2.2)) (fun u : Int32 × Int32 × (Nat → Int32) × Int32 => (fun (th2 : Int32) (tp2 : Int32) (ft2 : Nat → Int32) (q : Int32) => [bMo g o a th2 hi ac tp2 ba en tA fl de iD iO tU fm fk fa fc ft2 ff fb fi]) (u.1) (u.2.1) (u.2.2.1) (u.2.2.2)) ({ frames := 0, cells := 0, slots := 0, locals := 0 } : Room) below args s A) (F0 m 23 ls []) := by
      intro kf
      induction kf with
      | zero => intro x_4 x_5 ft_6 i7 i8 i9 H locs ls hk; exact absurd hk (Nat.not_lt_zero _)
      | succ kf ih23_11 =>
        intro x_4 x_5 ft_6 i7 i8 i9 H locs ls hk23_11 hP hD hS hl
        refine lv_iload hx hb dX12_feed_23 (lv_at hl 6 rfl) ?_
        refine lv_bipush (v := 20) hx hb dX12_feed_25 (by decide) ?_
        refine lv_icmp_ge (tgt := 120) hx hb dX12_feed_27 (by decide) (fun cb9 => ?_) (fun cb9 => ?_)
        · skip
          have c12 : 20 ≤ x_4.toInt := zle cb9 (by decide) rfl
          have n13 : 20 ≤ x_4.toInt := Int.le_trans (Int.le_refl _) c12
          refine lv_aload_n hx hb dX12_feed_120 rfl (lv_at hl 0 rfl) ?_
          refine va_get (D := g.1) (ci := 10) (v := .int x_5) (C := RX12) (T := TX12) (N := 20) hx hb hts izRX12 hown hK hP 0 rfl rfl 8 (by decide) (hts _ k873) (fun _ h9 => h9) rfl dX12_feed_121 ?_
          have hP : va_P g.1 vwCl (List.flatten [bMo g o a 0 hi ac x_5 ba en tA fl de iD iO tU fm fk fa fc ft_6 ff fb fi]) H := hP
          have hD : va_D A (List.flatten [bMo g o a 0 hi ac x_5 ba en tA fl de iD iO tU fm fk fa fc ft_6 ff fb fi]) := hD
          exact mret_i hx hb hr hlocks hS (Nat.le_of_ble_eq_true rfl) (Nat.le_of_ble_eq_true rfl) dX12_feed_124 ((0 : Int32), x_5, ft_6, x_5) rfl (show (0 ≤ x_5.toInt ∧ x_5.toInt ≤ 400) ∧ ((380 < tp.toInt → x_5.toInt = tp.toInt) ∧ (tp.toInt ≤ 380 → x_5.toInt = tp.toInt + 20)) ∧ ((380 < tp.toInt → x_5.toInt = -1) ∧ (tp.toInt ≤ 380 → x_5.toInt = x_5.toInt)) from ⟨i8, (by first | assumption | omega | decide | exact rfl | exact zb01 (by omega) | exact Or.inl (by decide) | exact Or.inr (by first | omega | decide)), (by first | assumption | omega | decide | exact rfl | exact zb01 (by omega) | exact Or.inl (by decide) | exact Or.inr (by first | omega | decide))⟩) hP hD
        · skip
          have c14 : x_4.toInt < 20 := zlti (Int32.not_le.mp cb9) rfl (by decide)
          have n15 : x_4.toInt ≤ 19 := zL1 (b := 20) c14 (Int.le_refl _) (by decide)
          refine lv_iload hx hb dX12_feed_30 (lv_at hl 6 rfl) ?_
          refine lv_iconst (v := 4) hx hb dX12_feed_32 (by decide) ?_
          refine lv_icmp_ge (tgt := 40) hx hb dX12_feed_33 (by decide) (fun cb9 => ?_) (fun cb9 => ?_)
          · skip
            have c16 : 4 ≤ x_4.toInt := zle cb9 (by decide) rfl
            have n17 : 4 ≤ x_4.toInt := Int.le_trans (Int.le_refl _) c16
            refine lv_iload hx hb dX12_feed_40 (lv_at hl 6 rfl) ?_
            refine lv_bipush (v := 8) hx hb dX12_feed_42 (by decide) ?_
            refine lv_icmp_ge (tgt := 51) hx hb dX12_feed_44 (by decide) (fun cb9 => ?_) (fun cb9 => ?_)
            · skip
              have c18 : 8 ≤ x_4.toInt := zle cb9 (by decide) rfl
              have n19 : 8 ≤ x_4.toInt := Int.le_trans (Int.le_refl _) c18
              refine lv_iload hx hb dX12_feed_51 (lv_at hl 6 rfl) ?_
              refine lv_bipush (v := 12) hx hb dX12_feed_53 (by decide) ?_
              refine lv_icmp_ge (tgt := 62) hx hb dX12_feed_55 (by decide) (fun cb9 => ?_) (fun cb9 => ?_)
              · skip
                have c20 : 12 ≤ x_4.toInt := zle cb9 (by decide) rfl
                have n21 : 12 ≤ x_4.toInt := Int.le_trans (Int.le_refl _) c20
                refine lv_iload hx hb dX12_feed_62 (lv_at hl 6 rfl) ?_
                refine lv_bipush (v := 16) hx hb dX12_feed_64 (by decide) ?_
                refine lv_icmp_ge (tgt := 74) hx hb dX12_feed_66 (by decide) (fun cb9 => ?_) (fun cb9 => ?_)
                · skip
                  have c22 : 16 ≤ x_4.toInt := zle cb9 (by decide) rfl
                  have n23 : 16 ≤ x_4.toInt := Int.le_trans (Int.le_refl _) c22
                  refine lv_iload hx hb dX12_feed_74 (lv_at hl 5 rfl) ?_
                  refine lv_istore (lv' := [(7, .int a5), (0, .ref o), (1, .int a1), (2, .int a2), (3, .int a3), (4, .int a4), (5, .int a5), (6, .int x_4)]) hx hb dX12_feed_76 hl (by decide) rfl (fun ls hl => ?_)
                  refine lv_aload_n hx hb dX12_feed_78 rfl (lv_at hl 1 rfl) ?_
                  refine va_get (D := g.1) (ci := 10) (v := .ref (a 4)) (C := RX12) (T := TX12) (N := 20) hx hb hts izRX12 hown hK hP 0 rfl rfl 7 (by decide) (hts _ k819) (fun _ h9 => h9) rfl dX12_feed_79 ?_
                  refine lv_aload_n hx hb dX12_feed_82 rfl (lv_at hl 1 rfl) ?_
                  refine va_get (D := g.1) (ci := 10) (v := .int x_5) (C := RX12) (T := TX12) (N := 20) hx hb hts izRX12 hown hK hP 0 rfl rfl 8 (by decide) (hts _ k873) (fun _ h9 => h9) rfl dX12_feed_83 ?_
                  refine lv_iload hx hb dX12_feed_86 (lv_at hl 0 rfl) ?_
                  refine lv_bipush (v := 24) hx hb dX12_feed_88 (by decide) ?_
                  refine lv_bipush (v := 8) hx hb dX12_feed_90 (by decide) ?_
                  refine lv_iload hx hb dX12_feed_92 (lv_at hl 7 rfl) ?_
                  refine lv_iconst (v := 4) hx hb dX12_feed_94 (by decide) ?_
                  refine lv_irem hx hb dX12_feed_95 (by decide) ?_
                  refine zgb (zrem (j := x_4.toInt) (d := 4) rfl (by decide) (Int.le_trans (by decide) n23) (by decide)) (fun x_24 hx_24 => ?_)
                  refine lv_imul hx hb dX12_feed_96 ?_
                  refine zg3 (zmulKL (i := x_24.toInt) (n := 8) (a' := 0) (b' := 24) rfl (by decide) hx_24.1 hx_24.2 (by decide) (by decide)) (fun x_25 hx_25 => ?_)
                  refine lv_isub hx hb dX12_feed_97 ?_
                  refine zg3 (zsubK (i := 24) (j := x_25.toInt) (a' := 0) (b' := 24) (by decide) rfl (Int.le_refl _) (Int.le_refl _) hx_25.2.1 hx_25.2.2 (by decide)) (fun x_26 hx_26 => ?_)
                  refine lv_iushr hx hb dX12_feed_98 rfl ?_
                  refine zg (fun x_27 => ?_)
                  refine lv_sipush (v := 255) hx hb dX12_feed_99 (by decide) ?_
                  refine lv_iand hx hb dX12_feed_102 ?_
                  refine zgb (zand255 _) (fun x_28 hx_28 => ?_)
                  refine va_iast hx hb hK hP hD hS 5 0 rfl rfl (zinI (by omega) (by omega)) dX12_feed_103 (fun H locs hP hD hS => ?_)
                  obtain ⟨ft_29, hP, hD⟩ : ∃ ft_29 : Nat → Int32, va_P g.1 vwCl (List.flatten [bMo g o a 0 hi ac x_5 ba en tA fl de iD iO tU fm fk fa fc ft_29 ff fb fi]) H ∧ va_D A (List.flatten [bMo g o a 0 hi ac x_5 ba en tA fl de iD iO tU fm fk fa fc ft_29 ff fb fi]) := ⟨upd ft_6 x_5.toNatClampNeg x_28, hP, hD⟩
                  refine lv_aload_n hx hb dX12_feed_104 rfl (lv_at hl 1 rfl) ?_
                  refine lv_dup hx hb dX12_feed_105 rfl ?_
                  refine va_get (D := g.1) (ci := 10) (v := .int x_5) (C := RX12) (T := TX12) (N := 20) hx hb hts izRX12 hown hK hP 0 rfl rfl 8 (by decide) (hts _ k873) (fun _ h9 => h9) rfl dX12_feed_106 ?_
                  refine lv_iconst (v := 1) hx hb dX12_feed_109 (by decide) ?_
                  refine lv_iadd hx hb dX12_feed_110 ?_
                  refine zg3 (zaddK (i := x_5.toInt) (j := 1) (a' := 1) (b' := 401) rfl (by decide) i8.1 i8.2 (Int.le_refl _) (Int.le_refl _) (by decide)) (fun x_30 hx_30 => ?_)
                  refine va_put (D := g.1) (ci := 10) (v := .int x_30) (ty := .int) (C := RX12) (T := TX12) (N := 20) hx hb hts izRX12 tyX12 tyX12_ok nmX12 hown hK hP hD hS 0 rfl rfl 8 (by decide) (hts _ k873) (fun _ h9 => h9) rfl (by decide +kernel) rfl rfl (Nat.le_of_ble_eq_true rfl) dX12_feed_111 (fun H locs hP hD hS => ?_)
                  have hP : va_P g.1 vwCl (List.flatten [bMo g o a 0 hi ac x_30 ba en tA fl de iD iO tU fm fk fa fc ft_29 ff fb fi]) H := hP
                  have hD : va_D A (List.flatten [bMo g o a 0 hi ac x_30 ba en tA fl de iD iO tU fm fk fa fc ft_29 ff fb fi]) := hD
                  refine ziinc3 (n' := 1) (a' := 17) (b' := 20) (lv' := fun v9 => [(6, .int v9), (7, .int a5), (0, .ref o), (1, .int a1), (2, .int a2), (3, .int a3), (4, .int a4), (5, .int a5)]) hx hb dX12_feed_114 hl (k := 7) rfl (by decide) (fun _ => rfl) (zaddK (i := x_4.toInt) (j := 1) rfl (by decide) n23 n15 (Int.le_refl _) (Int.le_refl _) (by decide)) (fun x_31 ls hx_31 hl => ?_)
                  refine lv_goto (tgt := 23) hx hb dX12_feed_117 (by decide) ?_
                  have hl := lv_sub (l' := [(0, .ref o), (1, .int a1), (2, .int a2), (3, .int a3), (4, .int a4), (5, .int a5), (6, .int x_31), (7, .int a5)]) hl [2, 3, 4, 5, 6, 7, 0, 1] rfl
                  have hP : va_P g.1 vwCl (List.flatten [bMo g o a 0 hi ac x_30 ba en tA fl de iD iO tU fm fk fa fc ft_29 ff fb fi]) H := hP
                  have hD : va_D A (List.flatten [bMo g o a 0 hi ac x_30 ba en tA fl de iD iO tU fm fk fa fc ft_29 ff fb fi]) := hD
                  exact ih23_11 x_31 x_30 ft_29 ⟨(Int.le_trans (by decide) hx_31.2.1), hx_31.2.2⟩ (by first | omega | assumption | decide) (by first | omega | assumption | decide) H _ ls (zmK hx_31.1 (by decide) n15 (by decide) hk23_11)  hP hD hS (lv_sub hl [0, 1, 2, 3, 4, 5, 6] rfl)
                · skip
                  have c32 : x_4.toInt < 16 := zlti (Int32.not_le.mp cb9) rfl (by decide)
                  have n33 : x_4.toInt ≤ 15 := zL1 (b := 16) c32 (Int.le_refl _) (by decide)
                  refine lv_iload hx hb dX12_feed_69 (lv_at hl 4 rfl) ?_
                  refine lv_goto (tgt := 76) hx hb dX12_feed_71 (by decide) ?_
                  refine lv_istore (lv' := [(7, .int a4), (0, .ref o), (1, .int a1), (2, .int a2), (3, .int a3), (4, .int a4), (5, .int a5), (6, .int x_4)]) hx hb dX12_feed_76 hl (by decide) rfl (fun ls hl => ?_)
                  refine lv_aload_n hx hb dX12_feed_78 rfl (lv_at hl 1 rfl) ?_
                  refine va_get (D := g.1) (ci := 10) (v := .ref (a 4)) (C := RX12) (T := TX12) (N := 20) hx hb hts izRX12 hown hK hP 0 rfl rfl 7 (by decide) (hts _ k819) (fun _ h9 => h9) rfl dX12_feed_79 ?_
                  refine lv_aload_n hx hb dX12_feed_82 rfl (lv_at hl 1 rfl) ?_
                  refine va_get (D := g.1) (ci := 10) (v := .int x_5) (C := RX12) (T := TX12) (N := 20) hx hb hts izRX12 hown hK hP 0 rfl rfl 8 (by decide) (hts _ k873) (fun _ h9 => h9) rfl dX12_feed_83 ?_
                  refine lv_iload hx hb dX12_feed_86 (lv_at hl 0 rfl) ?_
                  refine lv_bipush (v := 24) hx hb dX12_feed_88 (by decide) ?_
                  refine lv_bipush (v := 8) hx hb dX12_feed_90 (by decide) ?_
                  refine lv_iload hx hb dX12_feed_92 (lv_at hl 7 rfl) ?_
                  refine lv_iconst (v := 4) hx hb dX12_feed_94 (by decide) ?_
                  refine lv_irem hx hb dX12_feed_95 (by decide) ?_
                  refine zgb (zrem (j := x_4.toInt) (d := 4) rfl (by decide) (Int.le_trans (by decide) n21) (by decide)) (fun x_34 hx_34 => ?_)
                  refine lv_imul hx hb dX12_feed_96 ?_
                  refine zg3 (zmulKL (i := x_34.toInt) (n := 8) (a' := 0) (b' := 24) rfl (by decide) hx_34.1 hx_34.2 (by decide) (by decide)) (fun x_35 hx_35 => ?_)
                  refine lv_isub hx hb dX12_feed_97 ?_
                  refine zg3 (zsubK (i := 24) (j := x_35.toInt) (a' := 0) (b' := 24) (by decide) rfl (Int.le_refl _) (Int.le_refl _) hx_35.2.1 hx_35.2.2 (by decide)) (fun x_36 hx_36 => ?_)
                  refine lv_iushr hx hb dX12_feed_98 rfl ?_
                  refine zg (fun x_37 => ?_)
                  refine lv_sipush (v := 255) hx hb dX12_feed_99 (by decide) ?_
                  refine lv_iand hx hb dX12_feed_102 ?_
                  refine zgb (zand255 _) (fun x_38 hx_38 => ?_)
                  refine va_iast hx hb hK hP hD hS 5 0 rfl rfl (zinI (by omega) (by omega)) dX12_feed_103 (fun H locs hP hD hS => ?_)
                  obtain ⟨ft_39, hP, hD⟩ : ∃ ft_39 : Nat → Int32, va_P g.1 vwCl (List.flatten [bMo g o a 0 hi ac x_5 ba en tA fl de iD iO tU fm fk fa fc ft_39 ff fb fi]) H ∧ va_D A (List.flatten [bMo g o a 0 hi ac x_5 ba en tA fl de iD iO tU fm fk fa fc ft_39 ff fb fi]) := ⟨upd ft_6 x_5.toNatClampNeg x_38, hP, hD⟩
                  refine lv_aload_n hx hb dX12_feed_104 rfl (lv_at hl 1 rfl) ?_
                  refine lv_dup hx hb dX12_feed_105 rfl ?_
                  refine va_get (D := g.1) (ci := 10) (v := .int x_5) (C := RX12) (T := TX12) (N := 20) hx hb hts izRX12 hown hK hP 0 rfl rfl 8 (by decide) (hts _ k873) (fun _ h9 => h9) rfl dX12_feed_106 ?_
                  refine lv_iconst (v := 1) hx hb dX12_feed_109 (by decide) ?_
                  refine lv_iadd hx hb dX12_feed_110 ?_
                  refine zg3 (zaddK (i := x_5.toInt) (j := 1) (a' := 1) (b' := 401) rfl (by decide) i8.1 i8.2 (Int.le_refl _) (Int.le_refl _) (by decide)) (fun x_40 hx_40 => ?_)
                  refine va_put (D := g.1) (ci := 10) (v := .int x_40) (ty := .int) (C := RX12) (T := TX12) (N := 20) hx hb hts izRX12 tyX12 tyX12_ok nmX12 hown hK hP hD hS 0 rfl rfl 8 (by decide) (hts _ k873) (fun _ h9 => h9) rfl (by decide +kernel) rfl rfl (Nat.le_of_ble_eq_true rfl) dX12_feed_111 (fun H locs hP hD hS => ?_)
                  have hP : va_P g.1 vwCl (List.flatten [bMo g o a 0 hi ac x_40 ba en tA fl de iD iO tU fm fk fa fc ft_39 ff fb fi]) H := hP
                  have hD : va_D A (List.flatten [bMo g o a 0 hi ac x_40 ba en tA fl de iD iO tU fm fk fa fc ft_39 ff fb fi]) := hD
                  refine ziinc3 (n' := 1) (a' := 13) (b' := 16) (lv' := fun v9 => [(6, .int v9), (7, .int a4), (0, .ref o), (1, .int a1), (2, .int a2), (3, .int a3), (4, .int a4), (5, .int a5)]) hx hb dX12_feed_114 hl (k := 7) rfl (by decide) (fun _ => rfl) (zaddK (i := x_4.toInt) (j := 1) rfl (by decide) n21 n33 (Int.le_refl _) (Int.le_refl _) (by decide)) (fun x_41 ls hx_41 hl => ?_)
                  refine lv_goto (tgt := 23) hx hb dX12_feed_117 (by decide) ?_
                  have hl := lv_sub (l' := [(0, .ref o), (1, .int a1), (2, .int a2), (3, .int a3), (4, .int a4), (5, .int a5), (6, .int x_41), (7, .int a4)]) hl [2, 3, 4, 5, 6, 7, 0, 1] rfl
                  have hP : va_P g.1 vwCl (List.flatten [bMo g o a 0 hi ac x_40 ba en tA fl de iD iO tU fm fk fa fc ft_39 ff fb fi]) H := hP
                  have hD : va_D A (List.flatten [bMo g o a 0 hi ac x_40 ba en tA fl de iD iO tU fm fk fa fc ft_39 ff fb fi]) := hD
                  exact ih23_11 x_41 x_40 ft_39 ⟨(Int.le_trans (by decide) hx_41.2.1), (Int.le_trans hx_41.2.2 (by decide))⟩ (by first | omega | assumption | decide) (by first | omega | assumption | decide) H _ ls (zmK hx_41.1 (by decide) n33 (by decide) hk23_11)  hP hD hS (lv_sub hl [0, 1, 2, 3, 4, 5, 6] rfl)
              · skip
                have c42 : x_4.toInt < 12 := zlti (Int32.not_le.mp cb9) rfl (by decide)
                have n43 : x_4.toInt ≤ 11 := zL1 (b := 12) c42 (Int.le_refl _) (by decide)
                refine lv_iload_n hx hb dX12_feed_58 rfl (lv_at hl 3 rfl) ?_
                refine lv_goto (tgt := 76) hx hb dX12_feed_59 (by decide) ?_
                refine lv_istore (lv' := [(7, .int a3), (0, .ref o), (1, .int a1), (2, .int a2), (3, .int a3), (4, .int a4), (5, .int a5), (6, .int x_4)]) hx hb dX12_feed_76 hl (by decide) rfl (fun ls hl => ?_)
                refine lv_aload_n hx hb dX12_feed_78 rfl (lv_at hl 1 rfl) ?_
                refine va_get (D := g.1) (ci := 10) (v := .ref (a 4)) (C := RX12) (T := TX12) (N := 20) hx hb hts izRX12 hown hK hP 0 rfl rfl 7 (by decide) (hts _ k819) (fun _ h9 => h9) rfl dX12_feed_79 ?_
                refine lv_aload_n hx hb dX12_feed_82 rfl (lv_at hl 1 rfl) ?_
                refine va_get (D := g.1) (ci := 10) (v := .int x_5) (C := RX12) (T := TX12) (N := 20) hx hb hts izRX12 hown hK hP 0 rfl rfl 8 (by decide) (hts _ k873) (fun _ h9 => h9) rfl dX12_feed_83 ?_
                refine lv_iload hx hb dX12_feed_86 (lv_at hl 0 rfl) ?_
                refine lv_bipush (v := 24) hx hb dX12_feed_88 (by decide) ?_
                refine lv_bipush (v := 8) hx hb dX12_feed_90 (by decide) ?_
                refine lv_iload hx hb dX12_feed_92 (lv_at hl 7 rfl) ?_
                refine lv_iconst (v := 4) hx hb dX12_feed_94 (by decide) ?_
                refine lv_irem hx hb dX12_feed_95 (by decide) ?_
                refine zgb (zrem (j := x_4.toInt) (d := 4) rfl (by decide) (Int.le_trans (by decide) n19) (by decide)) (fun x_44 hx_44 => ?_)
                refine lv_imul hx hb dX12_feed_96 ?_
                refine zg3 (zmulKL (i := x_44.toInt) (n := 8) (a' := 0) (b' := 24) rfl (by decide) hx_44.1 hx_44.2 (by decide) (by decide)) (fun x_45 hx_45 => ?_)
                refine lv_isub hx hb dX12_feed_97 ?_
                refine zg3 (zsubK (i := 24) (j := x_45.toInt) (a' := 0) (b' := 24) (by decide) rfl (Int.le_refl _) (Int.le_refl _) hx_45.2.1 hx_45.2.2 (by decide)) (fun x_46 hx_46 => ?_)
                refine lv_iushr hx hb dX12_feed_98 rfl ?_
                refine zg (fun x_47 => ?_)
                refine lv_sipush (v := 255) hx hb dX12_feed_99 (by decide) ?_
                refine lv_iand hx hb dX12_feed_102 ?_
                refine zgb (zand255 _) (fun x_48 hx_48 => ?_)
                refine va_iast hx hb hK hP hD hS 5 0 rfl rfl (zinI (by omega) (by omega)) dX12_feed_103 (fun H locs hP hD hS => ?_)
                obtain ⟨ft_49, hP, hD⟩ : ∃ ft_49 : Nat → Int32, va_P g.1 vwCl (List.flatten [bMo g o a 0 hi ac x_5 ba en tA fl de iD iO tU fm fk fa fc ft_49 ff fb fi]) H ∧ va_D A (List.flatten [bMo g o a 0 hi ac x_5 ba en tA fl de iD iO tU fm fk fa fc ft_49 ff fb fi]) := ⟨upd ft_6 x_5.toNatClampNeg x_48, hP, hD⟩
                refine lv_aload_n hx hb dX12_feed_104 rfl (lv_at hl 1 rfl) ?_
                refine lv_dup hx hb dX12_feed_105 rfl ?_
                refine va_get (D := g.1) (ci := 10) (v := .int x_5) (C := RX12) (T := TX12) (N := 20) hx hb hts izRX12 hown hK hP 0 rfl rfl 8 (by decide) (hts _ k873) (fun _ h9 => h9) rfl dX12_feed_106 ?_
                refine lv_iconst (v := 1) hx hb dX12_feed_109 (by decide) ?_
                refine lv_iadd hx hb dX12_feed_110 ?_
                refine zg3 (zaddK (i := x_5.toInt) (j := 1) (a' := 1) (b' := 401) rfl (by decide) i8.1 i8.2 (Int.le_refl _) (Int.le_refl _) (by decide)) (fun x_50 hx_50 => ?_)
                refine va_put (D := g.1) (ci := 10) (v := .int x_50) (ty := .int) (C := RX12) (T := TX12) (N := 20) hx hb hts izRX12 tyX12 tyX12_ok nmX12 hown hK hP hD hS 0 rfl rfl 8 (by decide) (hts _ k873) (fun _ h9 => h9) rfl (by decide +kernel) rfl rfl (Nat.le_of_ble_eq_true rfl) dX12_feed_111 (fun H locs hP hD hS => ?_)
                have hP : va_P g.1 vwCl (List.flatten [bMo g o a 0 hi ac x_50 ba en tA fl de iD iO tU fm fk fa fc ft_49 ff fb fi]) H := hP
                have hD : va_D A (List.flatten [bMo g o a 0 hi ac x_50 ba en tA fl de iD iO tU fm fk fa fc ft_49 ff fb fi]) := hD
                refine ziinc3 (n' := 1) (a' := 9) (b' := 12) (lv' := fun v9 => [(6, .int v9), (7, .int a3), (0, .ref o), (1, .int a1), (2, .int a2), (3, .int a3), (4, .int a4), (5, .int a5)]) hx hb dX12_feed_114 hl (k := 7) rfl (by decide) (fun _ => rfl) (zaddK (i := x_4.toInt) (j := 1) rfl (by decide) n19 n43 (Int.le_refl _) (Int.le_refl _) (by decide)) (fun x_51 ls hx_51 hl => ?_)
                refine lv_goto (tgt := 23) hx hb dX12_feed_117 (by decide) ?_
                have hl := lv_sub (l' := [(0, .ref o), (1, .int a1), (2, .int a2), (3, .int a3), (4, .int a4), (5, .int a5), (6, .int x_51), (7, .int a3)]) hl [2, 3, 4, 5, 6, 7, 0, 1] rfl
                have hP : va_P g.1 vwCl (List.flatten [bMo g o a 0 hi ac x_50 ba en tA fl de iD iO tU fm fk fa fc ft_49 ff fb fi]) H := hP
                have hD : va_D A (List.flatten [bMo g o a 0 hi ac x_50 ba en tA fl de iD iO tU fm fk fa fc ft_49 ff fb fi]) := hD
                exact ih23_11 x_51 x_50 ft_49 ⟨(Int.le_trans (by decide) hx_51.2.1), (Int.le_trans hx_51.2.2 (by decide))⟩ (by first | omega | assumption | decide) (by first | omega | assumption | decide) H _ ls (zmK hx_51.1 (by decide) n43 (by decide) hk23_11)  hP hD hS (lv_sub hl [0, 1, 2, 3, 4, 5, 6] rfl)
            · skip
              have c52 : x_4.toInt < 8 := zlti (Int32.not_le.mp cb9) rfl (by decide)
              have n53 : x_4.toInt ≤ 7 := zL1 (b := 8) c52 (Int.le_refl _) (by decide)
              refine lv_iload_n hx hb dX12_feed_47 rfl (lv_at hl 2 rfl) ?_
              refine lv_goto (tgt := 76) hx hb dX12_feed_48 (by decide) ?_
              refine lv_istore (lv' := [(7, .int a2), (0, .ref o), (1, .int a1), (2, .int a2), (3, .int a3), (4, .int a4), (5, .int a5), (6, .int x_4)]) hx hb dX12_feed_76 hl (by decide) rfl (fun ls hl => ?_)
              refine lv_aload_n hx hb dX12_feed_78 rfl (lv_at hl 1 rfl) ?_
              refine va_get (D := g.1) (ci := 10) (v := .ref (a 4)) (C := RX12) (T := TX12) (N := 20) hx hb hts izRX12 hown hK hP 0 rfl rfl 7 (by decide) (hts _ k819) (fun _ h9 => h9) rfl dX12_feed_79 ?_
              refine lv_aload_n hx hb dX12_feed_82 rfl (lv_at hl 1 rfl) ?_
              refine va_get (D := g.1) (ci := 10) (v := .int x_5) (C := RX12) (T := TX12) (N := 20) hx hb hts izRX12 hown hK hP 0 rfl rfl 8 (by decide) (hts _ k873) (fun _ h9 => h9) rfl dX12_feed_83 ?_
              refine lv_iload hx hb dX12_feed_86 (lv_at hl 0 rfl) ?_
              refine lv_bipush (v := 24) hx hb dX12_feed_88 (by decide) ?_
              refine lv_bipush (v := 8) hx hb dX12_feed_90 (by decide) ?_
              refine lv_iload hx hb dX12_feed_92 (lv_at hl 7 rfl) ?_
              refine lv_iconst (v := 4) hx hb dX12_feed_94 (by decide) ?_
              refine lv_irem hx hb dX12_feed_95 (by decide) ?_
              refine zgb (zrem (j := x_4.toInt) (d := 4) rfl (by decide) (Int.le_trans (by decide) n17) (by decide)) (fun x_54 hx_54 => ?_)
              refine lv_imul hx hb dX12_feed_96 ?_
              refine zg3 (zmulKL (i := x_54.toInt) (n := 8) (a' := 0) (b' := 24) rfl (by decide) hx_54.1 hx_54.2 (by decide) (by decide)) (fun x_55 hx_55 => ?_)
              refine lv_isub hx hb dX12_feed_97 ?_
              refine zg3 (zsubK (i := 24) (j := x_55.toInt) (a' := 0) (b' := 24) (by decide) rfl (Int.le_refl _) (Int.le_refl _) hx_55.2.1 hx_55.2.2 (by decide)) (fun x_56 hx_56 => ?_)
              refine lv_iushr hx hb dX12_feed_98 rfl ?_
              refine zg (fun x_57 => ?_)
              refine lv_sipush (v := 255) hx hb dX12_feed_99 (by decide) ?_
              refine lv_iand hx hb dX12_feed_102 ?_
              refine zgb (zand255 _) (fun x_58 hx_58 => ?_)
              refine va_iast hx hb hK hP hD hS 5 0 rfl rfl (zinI (by omega) (by omega)) dX12_feed_103 (fun H locs hP hD hS => ?_)
              obtain ⟨ft_59, hP, hD⟩ : ∃ ft_59 : Nat → Int32, va_P g.1 vwCl (List.flatten [bMo g o a 0 hi ac x_5 ba en tA fl de iD iO tU fm fk fa fc ft_59 ff fb fi]) H ∧ va_D A (List.flatten [bMo g o a 0 hi ac x_5 ba en tA fl de iD iO tU fm fk fa fc ft_59 ff fb fi]) := ⟨upd ft_6 x_5.toNatClampNeg x_58, hP, hD⟩
              refine lv_aload_n hx hb dX12_feed_104 rfl (lv_at hl 1 rfl) ?_
              refine lv_dup hx hb dX12_feed_105 rfl ?_
              refine va_get (D := g.1) (ci := 10) (v := .int x_5) (C := RX12) (T := TX12) (N := 20) hx hb hts izRX12 hown hK hP 0 rfl rfl 8 (by decide) (hts _ k873) (fun _ h9 => h9) rfl dX12_feed_106 ?_
              refine lv_iconst (v := 1) hx hb dX12_feed_109 (by decide) ?_
              refine lv_iadd hx hb dX12_feed_110 ?_
              refine zg3 (zaddK (i := x_5.toInt) (j := 1) (a' := 1) (b' := 401) rfl (by decide) i8.1 i8.2 (Int.le_refl _) (Int.le_refl _) (by decide)) (fun x_60 hx_60 => ?_)
              refine va_put (D := g.1) (ci := 10) (v := .int x_60) (ty := .int) (C := RX12) (T := TX12) (N := 20) hx hb hts izRX12 tyX12 tyX12_ok nmX12 hown hK hP hD hS 0 rfl rfl 8 (by decide) (hts _ k873) (fun _ h9 => h9) rfl (by decide +kernel) rfl rfl (Nat.le_of_ble_eq_true rfl) dX12_feed_111 (fun H locs hP hD hS => ?_)
              have hP : va_P g.1 vwCl (List.flatten [bMo g o a 0 hi ac x_60 ba en tA fl de iD iO tU fm fk fa fc ft_59 ff fb fi]) H := hP
              have hD : va_D A (List.flatten [bMo g o a 0 hi ac x_60 ba en tA fl de iD iO tU fm fk fa fc ft_59 ff fb fi]) := hD
              refine ziinc3 (n' := 1) (a' := 5) (b' := 8) (lv' := fun v9 => [(6, .int v9), (7, .int a2), (0, .ref o), (1, .int a1), (2, .int a2), (3, .int a3), (4, .int a4), (5, .int a5)]) hx hb dX12_feed_114 hl (k := 7) rfl (by decide) (fun _ => rfl) (zaddK (i := x_4.toInt) (j := 1) rfl (by decide) n17 n53 (Int.le_refl _) (Int.le_refl _) (by decide)) (fun x_61 ls hx_61 hl => ?_)
              refine lv_goto (tgt := 23) hx hb dX12_feed_117 (by decide) ?_
              have hl := lv_sub (l' := [(0, .ref o), (1, .int a1), (2, .int a2), (3, .int a3), (4, .int a4), (5, .int a5), (6, .int x_61), (7, .int a2)]) hl [2, 3, 4, 5, 6, 7, 0, 1] rfl
              have hP : va_P g.1 vwCl (List.flatten [bMo g o a 0 hi ac x_60 ba en tA fl de iD iO tU fm fk fa fc ft_59 ff fb fi]) H := hP
              have hD : va_D A (List.flatten [bMo g o a 0 hi ac x_60 ba en tA fl de iD iO tU fm fk fa fc ft_59 ff fb fi]) := hD
              exact ih23_11 x_61 x_60 ft_59 ⟨(Int.le_trans (by decide) hx_61.2.1), (Int.le_trans hx_61.2.2 (by decide))⟩ (by first | omega | assumption | decide) (by first | omega | assumption | decide) H _ ls (zmK hx_61.1 (by decide) n53 (by decide) hk23_11)  hP hD hS (lv_sub hl [0, 1, 2, 3, 4, 5, 6] rfl)
          · skip
            have c62 : x_4.toInt < 4 := zlti (Int32.not_le.mp cb9) rfl (by decide)
            have n63 : x_4.toInt ≤ 3 := zL1 (b := 4) c62 (Int.le_refl _) (by decide)
            refine lv_iload_n hx hb dX12_feed_36 rfl (lv_at hl 1 rfl) ?_
            refine lv_goto (tgt := 76) hx hb dX12_feed_37 (by decide) ?_
            refine lv_istore (lv' := [(7, .int a1), (0, .ref o), (1, .int a1), (2, .int a2), (3, .int a3), (4, .int a4), (5, .int a5), (6, .int x_4)]) hx hb dX12_feed_76 hl (by decide) rfl (fun ls hl => ?_)
            refine lv_aload_n hx hb dX12_feed_78 rfl (lv_at hl 1 rfl) ?_
            refine va_get (D := g.1) (ci := 10) (v := .ref (a 4)) (C := RX12) (T := TX12) (N := 20) hx hb hts izRX12 hown hK hP 0 rfl rfl 7 (by decide) (hts _ k819) (fun _ h9 => h9) rfl dX12_feed_79 ?_
            refine lv_aload_n hx hb dX12_feed_82 rfl (lv_at hl 1 rfl) ?_
            refine va_get (D := g.1) (ci := 10) (v := .int x_5) (C := RX12) (T := TX12) (N := 20) hx hb hts izRX12 hown hK hP 0 rfl rfl 8 (by decide) (hts _ k873) (fun _ h9 => h9) rfl dX12_feed_83 ?_
            refine lv_iload hx hb dX12_feed_86 (lv_at hl 0 rfl) ?_
            refine lv_bipush (v := 24) hx hb dX12_feed_88 (by decide) ?_
            refine lv_bipush (v := 8) hx hb dX12_feed_90 (by decide) ?_
            refine lv_iload hx hb dX12_feed_92 (lv_at hl 7 rfl) ?_
            refine lv_iconst (v := 4) hx hb dX12_feed_94 (by decide) ?_
            refine lv_irem hx hb dX12_feed_95 (by decide) ?_
            refine zgb (zrem (j := x_4.toInt) (d := 4) rfl (by decide) i7.1 (by decide)) (fun x_64 hx_64 => ?_)
            refine lv_imul hx hb dX12_feed_96 ?_
            refine zg3 (zmulKL (i := x_64.toInt) (n := 8) (a' := 0) (b' := 24) rfl (by decide) hx_64.1 hx_64.2 (by decide) (by decide)) (fun x_65 hx_65 => ?_)
            refine lv_isub hx hb dX12_feed_97 ?_
            refine zg3 (zsubK (i := 24) (j := x_65.toInt) (a' := 0) (b' := 24) (by decide) rfl (Int.le_refl _) (Int.le_refl _) hx_65.2.1 hx_65.2.2 (by decide)) (fun x_66 hx_66 => ?_)
            refine lv_iushr hx hb dX12_feed_98 rfl ?_
            refine zg (fun x_67 => ?_)
            refine lv_sipush (v := 255) hx hb dX12_feed_99 (by decide) ?_
            refine lv_iand hx hb dX12_feed_102 ?_
            refine zgb (zand255 _) (fun x_68 hx_68 => ?_)
            refine va_iast hx hb hK hP hD hS 5 0 rfl rfl (zinI (by omega) (by omega)) dX12_feed_103 (fun H locs hP hD hS => ?_)
            obtain ⟨ft_69, hP, hD⟩ : ∃ ft_69 : Nat → Int32, va_P g.1 vwCl (List.flatten [bMo g o a 0 hi ac x_5 ba en tA fl de iD iO tU fm fk fa fc ft_69 ff fb fi]) H ∧ va_D A (List.flatten [bMo g o a 0 hi ac x_5 ba en tA fl de iD iO tU fm fk fa fc ft_69 ff fb fi]) := ⟨upd ft_6 x_5.toNatClampNeg x_68, hP, hD⟩
            refine lv_aload_n hx hb dX12_feed_104 rfl (lv_at hl 1 rfl) ?_
            refine lv_dup hx hb dX12_feed_105 rfl ?_
            refine va_get (D := g.1) (ci := 10) (v := .int x_5) (C := RX12) (T := TX12) (N := 20) hx hb hts izRX12 hown hK hP 0 rfl rfl 8 (by decide) (hts _ k873) (fun _ h9 => h9) rfl dX12_feed_106 ?_
            refine lv_iconst (v := 1) hx hb dX12_feed_109 (by decide) ?_
            refine lv_iadd hx hb dX12_feed_110 ?_
            refine zg3 (zaddK (i := x_5.toInt) (j := 1) (a' := 1) (b' := 401) rfl (by decide) i8.1 i8.2 (Int.le_refl _) (Int.le_refl _) (by decide)) (fun x_70 hx_70 => ?_)
            refine va_put (D := g.1) (ci := 10) (v := .int x_70) (ty := .int) (C := RX12) (T := TX12) (N := 20) hx hb hts izRX12 tyX12 tyX12_ok nmX12 hown hK hP hD hS 0 rfl rfl 8 (by decide) (hts _ k873) (fun _ h9 => h9) rfl (by decide +kernel) rfl rfl (Nat.le_of_ble_eq_true rfl) dX12_feed_111 (fun H locs hP hD hS => ?_)
            have hP : va_P g.1 vwCl (List.flatten [bMo g o a 0 hi ac x_70 ba en tA fl de iD iO tU fm fk fa fc ft_69 ff fb fi]) H := hP
            have hD : va_D A (List.flatten [bMo g o a 0 hi ac x_70 ba en tA fl de iD iO tU fm fk fa fc ft_69 ff fb fi]) := hD
            refine ziinc3 (n' := 1) (a' := 1) (b' := 4) (lv' := fun v9 => [(6, .int v9), (7, .int a1), (0, .ref o), (1, .int a1), (2, .int a2), (3, .int a3), (4, .int a4), (5, .int a5)]) hx hb dX12_feed_114 hl (k := 7) rfl (by decide) (fun _ => rfl) (zaddK (i := x_4.toInt) (j := 1) rfl (by decide) i7.1 n63 (Int.le_refl _) (Int.le_refl _) (by decide)) (fun x_71 ls hx_71 hl => ?_)
            refine lv_goto (tgt := 23) hx hb dX12_feed_117 (by decide) ?_
            have hl := lv_sub (l' := [(0, .ref o), (1, .int a1), (2, .int a2), (3, .int a3), (4, .int a4), (5, .int a5), (6, .int x_71), (7, .int a1)]) hl [2, 3, 4, 5, 6, 7, 0, 1] rfl
            have hP : va_P g.1 vwCl (List.flatten [bMo g o a 0 hi ac x_70 ba en tA fl de iD iO tU fm fk fa fc ft_69 ff fb fi]) H := hP
            have hD : va_D A (List.flatten [bMo g o a 0 hi ac x_70 ba en tA fl de iD iO tU fm fk fa fc ft_69 ff fb fi]) := hD
            exact ih23_11 x_71 x_70 ft_69 ⟨(Int.le_trans (by decide) hx_71.2.1), (Int.le_trans hx_71.2.2 (by decide))⟩ (by first | omega | assumption | decide) (by first | omega | assumption | decide) H _ ls (zmK hx_71.1 (by decide) n63 (by decide) hk23_11)  hP hD hS (lv_sub hl [0, 1, 2, 3, 4, 5, 6] rfl)
    have hL0 : (0 : Int32).toInt = 0 := by decide
    have hP : va_P g.1 vwCl (List.flatten [bMo g o a 0 hi ac tp ba en tA fl de iD iO tU fm fk fa fc ft ff fb fi]) H := hP
    have hD : va_D A (List.flatten [bMo g o a 0 hi ac tp ba en tA fl de iD iO tU fm fk fa fc ft ff fb fi]) := hD
    exact LP23_10 _ 0 tp ft (by decide) ⟨htp.1, htp.2⟩ (by first | omega | assumption | decide) H _ ls (Nat.lt_succ_self _)  hP hD hS (lv_sub hl [0, 1, 2, 3, 4, 5, 6] rfl)
  · skip
    have c72 : 400 < x_1.toInt := zlti (Int32.not_le.mp cb9) (by decide) rfl
    have n73 : 401 ≤ x_1.toInt := zL2 (a := 400) c72 (Int.le_refl _) (by decide)
    refine lv_iconst (v := (-1)) hx hb dX12_feed_18 (by decide) ?_
    have hLn1 : ((-1) : Int32).toInt = (-1) := by decide
    have hP : va_P g.1 vwCl (List.flatten [bMo g o a 0 hi ac tp ba en tA fl de iD iO tU fm fk fa fc ft ff fb fi]) H := hP
    have hD : va_D A (List.flatten [bMo g o a 0 hi ac tp ba en tA fl de iD iO tU fm fk fa fc ft ff fb fi]) := hD
    exact mret_i hx hb hr hlocks hS (Nat.le_of_ble_eq_true rfl) (Nat.le_of_ble_eq_true rfl) dX12_feed_19 ((0 : Int32), tp, ft, -1) rfl (show (0 ≤ tp.toInt ∧ tp.toInt ≤ 400) ∧ ((380 < tp.toInt → tp.toInt = tp.toInt) ∧ (tp.toInt ≤ 380 → tp.toInt = tp.toInt + 20)) ∧ ((380 < tp.toInt → ((-1) : Int32).toInt = -1) ∧ (tp.toInt ≤ 380 → ((-1) : Int32).toInt = tp.toInt)) from ⟨htp, (by first | assumption | omega | decide | exact rfl | exact zb01 (by omega) | exact Or.inl (by decide) | exact Or.inr (by first | omega | decide)), (by first | assumption | omega | decide | exact rfl | exact zb01 (by omega) | exact Or.inl (by decide) | exact Or.inr (by first | omega | decide))⟩) hP hD
