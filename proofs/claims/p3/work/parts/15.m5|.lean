set_option maxRecDepth 100000 in
set_option maxHeartbeats 4000000 in
theorem m_must (l : Launch) (g : zG) (o : Nat) (a : Nat → Nat) (th : Int32) (hi : Int32) (ac : Int32) (tp : Int32) (ba : Int32) (en : Int32) (tA : Int32) (fl : Int32) (de : Int32) (iD : Int32) (iO : Int32) (tU : Int32) (fm : Nat → Int32) (fk : Nat → Int32) (fa : Nat → Int32) (fc : Nat → Int32) (ft : Nat → Int32) (ff : Nat → Int32) (fb : Nat → Int32) (fi : Nat → Int32) (x : Int32) (n : Int32) (rfm : rM fm) (rfa : rM fa) (hiD : 0 ≤ iD.toInt ∧ iD.toInt ≤ 1) (hiO : 0 ≤ iO.toInt ∧ iO.toInt ≤ 1) : zM' g l yX12_must (Cond.code yX12_must cX12_must 6 (some .int) :: zB) ({ frames := 34, cells := 0, slots := 0, locals := 761 } : Room) [.ref o, .int x, .int n] [bMo g o a th hi ac tp ba en tA fl de iD iO tU fm fk fa fc ft ff fb fi] (fun u : Int32 × Int32 × Int32 × Int32 × Int32 × Int32 × Int32 × Int32 × (Nat → Int32) × (Nat → Int32) × (Nat → Int32) × (Nat → Int32) × Int32 => (fun (th2 : Int32) (ba2 : Int32) (en2 : Int32) (at2 : Int32) (de2 : Int32) (iD2 : Int32) (iO2 : Int32) (tU2 : Int32) (ff2 : Nat → Int32) (fm2 : Nat → Int32) (fb2 : Nat → Int32) (fa2 : Nat → Int32) (q : Int32) => some (.int q)) (u.1) (u.2.1) (u.2.2.1) (u.2.2.2.1) (u.2.2.2.2.1) (u.2.2.2.2.2.1) (u.2.2.2.2.2.2.1) (u.2.2.2.2.2.2.2.1) (u.2.2.2.2.2.2.2.2.1) (u.2.2.2.2.2.2.2.2.2.1) (u.2.2.2.2.2.2.2.2.2.2.1) (u.2.2.2.2.2.2.2.2.2.2.2.1) (u.2.2.2.2.2.2.2.2.2.2.2.2)) (fun u : Int32 × Int32 × Int32 × Int32 × Int32 × Int32 × Int32 × Int32 × (Nat → Int32) × (Nat → Int32) × (Nat → Int32) × (Nat → Int32) × Int32 => (fun (th2 : Int32) (ba2 : Int32) (en2 : Int32) (at2 : Int32) (de2 : Int32) (iD2 : Int32) (iO2 : Int32) (tU2 : Int32) (ff2 : Nat → Int32) (fm2 : Nat → Int32) (fb2 : Nat → Int32) (fa2 : Nat → Int32) (q : Int32) => (rM fa2) ∧ (rM fm2) ∧ (0 ≤ iO2.toInt ∧ iO2.toInt ≤ 1) ∧ (0 ≤ iD2.toInt ∧ iD2.toInt ≤ 1)) (u.1) (u.2.1) (u.2.2.1) (u.2.2.2.1) (u.2.2.2.2.1) (u.2.2.2.2.2.1) (u.2.2.2.2.2.2.1) (u.2.2.2.2.2.2.2.1) (u.2.2.2.2.2.2.2.2.1) (u.2.2.2.2.2.2.2.2.2.1) (u.2.2.2.2.2.2.2.2.2.2.1) (u.2.2.2.2.2.2.2.2.2.2.2.1) (u.2.2.2.2.2.2.2.2.2.2.2.2)) (fun u : Int32 × Int32 × Int32 × Int32 × Int32 × Int32 × Int32 × Int32 × (Nat → Int32) × (Nat → Int32) × (Nat → Int32) × (Nat → Int32) × Int32 => (fun (th2 : Int32) (ba2 : Int32) (en2 : Int32) (at2 : Int32) (de2 : Int32) (iD2 : Int32) (iO2 : Int32) (tU2 : Int32) (ff2 : Nat → Int32) (fm2 : Nat → Int32) (fb2 : Nat → Int32) (fa2 : Nat → Int32) (q : Int32) => [bMo g o a th2 hi ac tp ba2 en2 at2 fl de2 iD2 iO2 tU2 fm2 fk fa2 fc ft ff2 fb2 fi]) (u.1) (u.2.1) (u.2.2.1) (u.2.2.2.1) (u.2.2.2.2.1) (u.2.2.2.2.2.1) (u.2.2.2.2.2.2.1) (u.2.2.2.2.2.2.2.1) (u.2.2.2.2.2.2.2.2.1) (u.2.2.2.2.2.2.2.2.2.1) (u.2.2.2.2.2.2.2.2.2.2.1) (u.2.2.2.2.2.2.2.2.2.2.2.1) (u.2.2.2.2.2.2.2.2.2.2.2.2)) := by
  refine zM'.of (cc := cX12_must) (maxL := 6) (rt := (some .int)) (by decide) rfl (Nat.le_of_ble_eq_true rfl) ?_
  intro p e s m args below meth c A ls St hr hlocks hin hK hT hA hP hD hS hl
  obtain ⟨hx, hb, hml, hown, hts⟩ := id St
  have hl : lv_has ls 6 [(0, .ref o), (1, .int x), (2, .int n)] := hl
  refine lv_aload_n hx hb dX12_must_0 rfl (lv_at hl 0 rfl) ?_
  refine lv_iload_n hx hb dX12_must_1 rfl (lv_at hl 1 rfl) ?_
  refine lv_iconst (v := 1) hx hb dX12_must_2 (by decide) ?_
  refine lv_sipush (v := 792) hx hb dX12_must_3 (by decide) ?_
  have hL1 : (1 : Int32).toInt = 1 := by decide
  have hL792 : (792 : Int32).toInt = 792 := by decide
  refine mcallS' (g := g) (As := [.int x, .int 1, .int 792]) (rest := [.ref o]) St hK hT hA hP hD hS hl.1 [] [0] rfl rfl rfl (m_isIn l g x 1 792 ) (va_cwS 3 hts (zgL (zl3 k835 k836 k837) k824) rfl rfl rfl (by decide +kernel) ⟨Nat.le_of_ble_eq_true rfl, Nat.le_of_ble_eq_true rfl⟩) rfl rfl (Nat.le_of_ble_eq_true rfl) dX12_must_6 ⟨(Nat.le_of_ble_eq_true rfl), (Nat.le_of_ble_eq_true rfl)⟩ (fun q_1 H locs hq2 hP hD hS => ?_)
  replace hq2 : (q_1 = 1 ∧ (1 : Int32).toInt ≤ x.toInt ∧ x.toInt ≤ (792 : Int32).toInt ∨ q_1 = 0 ∧ (x.toInt < (1 : Int32).toInt ∨ (792 : Int32).toInt < x.toInt)) := hq2
  have hP : va_P g.1 vwCl (List.flatten [bMo g o a th hi ac tp ba en tA fl de iD iO tU fm fk fa fc ft ff fb fi]) H := hP
  have hD : va_D A (List.flatten [bMo g o a th hi ac tp ba en tA fl de iD iO tU fm fk fa fc ft ff fb fi]) := hD
  refine W.widen (k := 0) (n := 0) (Nat.le_of_ble_eq_true rfl) (Nat.le_of_ble_eq_true rfl) ?_
  refine W.eq (g2 := F0 m 9 ls [.int q_1, .ref o]) rfl ?_
  rcases hq2 with ⟨rfl, hq2_k⟩ | ⟨rfl, hq2_k⟩
  · skip
    refine lv_if_eq (tgt := 22) hx hb dX12_must_9 (by decide) (fun c3 => absurd c3 (by decide)) (fun _ => ?_)
    refine lv_iload_n hx hb dX12_must_12 rfl (lv_at hl 2 rfl) ?_
    refine lv_iconst (v := 0) hx hb dX12_must_13 (by decide) ?_
    refine lv_bipush (v := 30) hx hb dX12_must_14 (by decide) ?_
    have hL0 : (0 : Int32).toInt = 0 := by decide
    have hL30 : (30 : Int32).toInt = 30 := by decide
    refine mcallS' (g := g) (As := [.int n, .int 0, .int 30]) (rest := [.ref o]) St hK hT hA hP hD hS hl.1 [] [0] rfl rfl rfl (m_isIn l g n 0 30 ) (va_cwS 3 hts (zgL (zl3 k835 k836 k837) k824) rfl rfl rfl (by decide +kernel) ⟨Nat.le_of_ble_eq_true rfl, Nat.le_of_ble_eq_true rfl⟩) rfl rfl (Nat.le_of_ble_eq_true rfl) dX12_must_16 ⟨(Nat.le_of_ble_eq_true rfl), (Nat.le_of_ble_eq_true rfl)⟩ (fun q_4 H locs hq5 hP hD hS => ?_)
    replace hq5 : (q_4 = 1 ∧ (0 : Int32).toInt ≤ n.toInt ∧ n.toInt ≤ (30 : Int32).toInt ∨ q_4 = 0 ∧ (n.toInt < (0 : Int32).toInt ∨ (30 : Int32).toInt < n.toInt)) := hq5
    have hP : va_P g.1 vwCl (List.flatten [bMo g o a th hi ac tp ba en tA fl de iD iO tU fm fk fa fc ft ff fb fi]) H := hP
    have hD : va_D A (List.flatten [bMo g o a th hi ac tp ba en tA fl de iD iO tU fm fk fa fc ft ff fb fi]) := hD
    refine W.widen (k := 0) (n := 0) (Nat.le_of_ble_eq_true rfl) (Nat.le_of_ble_eq_true rfl) ?_
    refine W.eq (g2 := F0 m 19 ls [.int q_4, .ref o]) rfl ?_
    rcases hq5 with ⟨rfl, hq5_k⟩ | ⟨rfl, hq5_k⟩
    · skip
      refine lv_if_ne (tgt := 26) hx hb dX12_must_19 (by decide) (fun _ => ?_) (fun c6 => absurd c6 (by decide))
      refine lv_iconst (v := 0) hx hb dX12_must_26 (by decide) ?_
      refine va_put (D := g.1) (ci := 10) (v := .int 0) (ty := .int) (C := RX12) (T := TX12) (N := 20) hx hb hts izRX12 tyX12 tyX12_ok nmX12 hown hK hP hD hS 0 rfl rfl 0 (by decide) (hts _ k871) (fun _ h9 => h9) rfl (by decide +kernel) rfl rfl (Nat.le_of_ble_eq_true rfl) dX12_must_27 (fun H locs hP hD hS => ?_)
      have hP : va_P g.1 vwCl (List.flatten [bMo g o a 0 hi ac tp ba en tA fl de iD iO tU fm fk fa fc ft ff fb fi]) H := hP
      have hD : va_D A (List.flatten [bMo g o a 0 hi ac tp ba en tA fl de iD iO tU fm fk fa fc ft ff fb fi]) := hD
      refine lv_aload_n hx hb dX12_must_30 rfl (lv_at hl 0 rfl) ?_
      refine va_get (D := g.1) (ci := 10) (v := .int 0) (C := RX12) (T := TX12) (N := 20) hx hb hts izRX12 hown hK hP 0 rfl rfl 0 (by decide) (hts _ k871) (fun _ h9 => h9) rfl dX12_must_31 ?_
      refine lv_if_le (tgt := 39) hx hb dX12_must_34 (by decide) (fun _ => ?_) (fun c7 => absurd (by decide) c7)
      refine lv_aload_n hx hb dX12_must_39 rfl (lv_at hl 0 rfl) ?_
      refine mcallV' (g := g) (q0 := 0) (ci := 10) (As := []) (rest := []) St hK hT hA hP hD hS hl.1 [0] [] rfl rfl rfl (m_hereOnes l g o a 0 hi ac tp ba en tA fl de iD iO tU fm fk fa fc ft ff fb fi (by first | assumption | omega | decide | exact Or.inl (by decide) | exact Or.inr (by decide))) (cwV 0 hts (zgL (zl4 k849 k850 k851 k837) k843) rfl rfl rfl (by decide +kernel) ⟨Nat.le_of_ble_eq_true rfl, Nat.le_of_ble_eq_true rfl⟩) rfl rfl rfl rfl (Nat.le_of_ble_eq_true rfl) dX12_must_40 ⟨(Nat.le_of_ble_eq_true rfl), (Nat.le_of_ble_eq_true rfl)⟩ (fun q_8 H locs hq9 hP hD hS => ?_)
      have hP : va_P g.1 vwCl (List.flatten [bMo g o a 0 hi ac tp ba en tA fl de iD iO tU fm fk fa fc ft ff fb fi]) H := hP
      have hD : va_D A (List.flatten [bMo g o a 0 hi ac tp ba en tA fl de iD iO tU fm fk fa fc ft ff fb fi]) := hD
      refine W.widen (k := 0) (n := 0) (Nat.le_of_ble_eq_true rfl) (Nat.le_of_ble_eq_true rfl) ?_
      refine W.eq (g2 := F0 m 43 ls [.int q_8]) rfl ?_
      refine lv_istore_n (lv' := [(3, .int q_8), (0, .ref o), (1, .int x), (2, .int n)]) hx hb dX12_must_43 rfl hl (by decide) rfl (fun ls hl => ?_)
      refine lv_iconst (v := (-1)) hx hb dX12_must_44 (by decide) ?_
      refine lv_istore (lv' := [(4, .int (-1)), (3, .int q_8), (0, .ref o), (1, .int x), (2, .int n)]) hx hb dX12_must_45 hl (by decide) rfl (fun ls hl => ?_)
      refine lv_iconst (v := 0) hx hb dX12_must_47 (by decide) ?_
      refine lv_istore (lv' := [(5, .int 0), (4, .int (-1)), (3, .int q_8), (0, .ref o), (1, .int x), (2, .int n)]) hx hb dX12_must_48 hl (by decide) rfl (fun ls hl => ?_)
      have hl := lv_sub (l' := [(0, .ref o), (1, .int x), (2, .int n), (3, .int q_8), (4, .int (-1)), (5, .int 0)]) hl [3, 4, 5, 2, 1, 0] rfl
      have LP50_27 : ∀ (kf : Nat) (x_10 : Int32) (x_11 : Int32) (x_12 : Int32) (x_13 : Int32) (x_14 : Int32) (x_15 : Int32) (x_16 : Int32) (x_17 : Int32) (x_18 : Int32) (fm_19 : Nat → Int32) (fa_20 : Nat → Int32) (ff_21 : Nat → Int32) (fb_22 : Nat → Int32), ((-1) ≤ x_10.toInt ∧ x_10.toInt ≤ 255) → (0 ≤ x_11.toInt ∧ x_11.toInt ≤ 256) → (0 ≤ x_16.toInt ∧ x_16.toInt ≤ 1) → (0 ≤ x_17.toInt ∧ x_17.toInt ≤ 1) → (rM fm_19) → (rM fa_20) → ∀ (H : Heap) (locs : List Loc) (ls : Array Slot), ((257 - x_11.toInt).toNat) < kf → va_P g.1 vwCl (List.flatten [bMo g o a 0 hi ac tp x_12 x_13 x_14 fl x_15 x_16 x_17 x_18 fm_19 fk fa_20 fc ft ff_21 fb_22 fi]) H → va_D A (List.flatten [bMo g o a 0 hi ac tp x_12 x_13 x_14 fl x_15 x_16 x_17 x_18 fm_19 fk fa_20 fc ft ff_21 fb_22 fi]) → va_S A s.heap H locs → lv_has ls 6 [(0, .ref o), (1, .int x), (2, .int n), (3, .int q_8), (4, .int x_10), (5, .int x_11)] → W p l e ({ frames := 34, cells := 0, slots := 0, locals := 761 } : Room) s m args below meth c H locs (0) (0) (zF g (fun u : Int32 × Int32 × Int32 × Int32 × Int32 × Int32 × Int32 × Int32 × (Nat → Int32) × (Nat → Int32) × (Nat → Int32) × (Nat → Int32) × Int32 => (fun (th2 : Int32) (ba2 : Int32) (en2 : Int32) (at2 : Int32) (de2 : Int32) (iD2 : Int32) (iO2 : Int32) (tU2 : Int32) (ff2 : Nat → Int32) (fm2 : Nat → Int32) (fb2 : Nat → Int32) (fa2 : Nat → Int32) (q : Int32) => some (.int q)) (u.1) (u.2.1) (u.2.2.1) (u.2.2.2.1) (u.2.2.2.2.1) (u.2.2.2.2.2.1) (u.2.2.2.2.2.2.1) (u.2.2.2.2.2.2.2.1) (u.2.2.2.2.2.2.2.2.1) (u.2.2.2.2.2.2.2.2.2.1) (u.2.2.2.2.2.2.2.2.2.2.1) (u.2.2.2.2.2.2.2.2.2.2.2.1) (u.2.2.2.2.2.2.2.2.2.2.2.2)) (fun u : Int32 × Int32 × Int32 × Int32 × Int32 × Int32 × Int32 × Int32 × (Nat → Int32) × (Nat → Int32) × (Nat → Int32) × (Nat → Int32) × Int32 => (fun (th2 : Int32) (ba2 : Int32) (en2 : Int32) (at2 : Int32) (de2 : Int32) (iD2 : Int32) (iO2 : Int32) (tU2 : Int32) (ff2 : Nat → Int32) (fm2 : Nat → Int32) (fb2 : Nat → Int32) (fa2 : Nat → Int32) (q : Int32) => (rM fa2) ∧ (rM fm2) ∧ (0 ≤ iO2.toInt ∧ iO2.toInt ≤ 1) ∧ (0 ≤ iD2.toInt ∧ iD2.toInt ≤ 1)) (u.1) (u.2.1) (u.2.2.1) (u.2.2.2.1) (u.2.2.2.2.1) (u.2.2.2.2.2.1) (u.2.2.2.2.2.2.1) (u.2.2.2.2.2.2.2.1) (u.2.2.2.2.2.2.2.2.1) (u.2.2.2.2.2.2.2.2.2.1) (u.2.2.2.2.2.2.2.2.2.2.1) (u.2.2.2.2.2.2.2.2.2.2.2.1) (u.2.2.2.2.2.2.2.2.2.2.2.2)) (fun u : Int32 × Int32 × Int32 × Int32 × Int32 × Int32 × Int32 × Int32 × (Nat → Int32) × (Nat → Int32) × (Nat → Int32) × (Nat → Int32) × Int32 => (fun (th2 : Int32) (ba2 : Int32) (en2 : Int32) (at2 : Int32) (de2 : Int32) (iD2 : Int32) (iO2 : Int32) (tU2 : Int32) (ff2 : Nat → Int32) (fm2 : Nat → Int32) (fb2 : Nat → Int32) (fa2 : Nat → Int32) (q : Int32) => [bMo g o a th2 hi ac tp ba2 en2 at2 fl de2 iD2 iO2 tU2 fm2 fk fa2 fc ft ff2 fb2 fi]) (u.1) (u.2.1) (u.2.2.1) (u.2.2.2.1) (u.2.2.2.2.1) (u.2.2.2.2.2.1) (u.2.2.2.2.2.2.1) (u.2.2.2.2.2.2.2.1) (u.2.2.2.2.2.2.2.2.1) (u.2.2.2.2.2.2.2.2.2.1) (u.2.2.2.2.2.2.2.2.2.2.1) (u.2.2.2.2.2.2.2.2.2.2.2.1) (u.2.2.2.2.2.2.2.2.2.2.2.2)) ({ frames := 34, cells := 0, slots := 0, locals := 761 } : Room) below args s A) (F0 m 50 ls []) := by
        intro kf
        induction kf with
        | zero => intro x_10 x_11 x_12 x_13 x_14 x_15 x_16 x_17 x_18 fm_19 fa_20 ff_21 fb_22 i23 i24 i25 i26 rfm_19 rfa_20 H locs ls hk; exact absurd hk (Nat.not_lt_zero _)
        | succ kf ih50_28 =>
          intro x_10 x_11 x_12 x_13 x_14 x_15 x_16 x_17 x_18 fm_19 fa_20 ff_21 fb_22 i23 i24 i25 i26 rfm_19 rfa_20 H locs ls hk50_28 hP hD hS hl
          refine lv_iload hx hb dX12_must_50 (lv_at hl 5 rfl) ?_
          refine lv_iconst (v := 1) hx hb dX12_must_52 (by decide) ?_
          refine lv_aload_n hx hb dX12_must_53 rfl (lv_at hl 0 rfl) ?_
          refine va_get (D := g.1) (ci := 10) (v := .ref (a 0)) (C := RX12) (T := TX12) (N := 20) hx hb hts izRX12 hown hK hP 0 rfl rfl 1 (by decide) (hts _ k815) (fun _ h9 => h9) rfl dX12_must_54 ?_
          refine lv_iconst (v := 3) hx hb dX12_must_57 (by decide) ?_
          refine va_iald hx hb hK hP 1 0 rfl rfl (zin rfl) dX12_must_58 ?_
          refine zgq (r := fm_19 3) rfl (rM3 rfm_19) (fun x_29 hx_29 => ?_)
          refine lv_ishl hx hb dX12_must_59 ?_
          refine zgb (zshl1 (j := x_29.toInt) rfl 8 256 (by decide) (by decide) ⟨hx_29.1, hx_29.2.1⟩) (fun x_30 hx_30 => ?_)
          refine lv_icmp_ge (tgt := 114) hx hb dX12_must_60 (by decide) (fun cb9 => ?_) (fun cb9 => ?_)
          · skip
            have c31 : x_30.toInt ≤ x_11.toInt := zle cb9 rfl rfl
            have n32 : 1 ≤ x_11.toInt := Int.le_trans hx_30.1 c31
            refine lv_iload hx hb dX12_must_114 (lv_at hl 4 rfl) ?_
            have hP : va_P g.1 vwCl (List.flatten [bMo g o a 0 hi ac tp x_12 x_13 x_14 fl x_15 x_16 x_17 x_18 fm_19 fk fa_20 fc ft ff_21 fb_22 fi]) H := hP
            have hD : va_D A (List.flatten [bMo g o a 0 hi ac tp x_12 x_13 x_14 fl x_15 x_16 x_17 x_18 fm_19 fk fa_20 fc ft ff_21 fb_22 fi]) := hD
            exact mret_i hx hb hr hlocks hS (Nat.le_of_ble_eq_true rfl) (Nat.le_of_ble_eq_true rfl) dX12_must_116 ((0 : Int32), x_12, x_13, x_14, x_15, x_16, x_17, x_18, ff_21, fm_19, fb_22, fa_20, x_10) rfl (show (rM fa_20) ∧ (rM fm_19) ∧ (0 ≤ x_17.toInt ∧ x_17.toInt ≤ 1) ∧ (0 ≤ x_16.toInt ∧ x_16.toInt ≤ 1) from ⟨(by first | assumption | omega | decide | exact rfl | exact zb01 (by omega) | exact Or.inl (by decide) | exact Or.inr (by first | omega | decide)), (by first | assumption | omega | decide | exact rfl | exact zb01 (by omega) | exact Or.inl (by decide) | exact Or.inr (by first | omega | decide)), (by first | assumption | omega | decide | exact rfl | exact zb01 (by omega) | exact Or.inl (by decide) | exact Or.inr (by first | omega | decide)), (by first | assumption | omega | decide | exact rfl | exact zb01 (by omega) | exact Or.inl (by decide) | exact Or.inr (by first | omega | decide))⟩) hP hD
          · skip
            have c33 : x_11.toInt < x_30.toInt := zlti (Int32.not_le.mp cb9) rfl rfl
            have n34 : x_11.toInt ≤ 255 := zL1 (b := 256) c33 hx_30.2 (by decide)
            refine lv_iload hx hb dX12_must_63 (lv_at hl 5 rfl) ?_
            refine lv_iload_n hx hb dX12_must_65 rfl (lv_at hl 3 rfl) ?_
            refine lv_iconst (v := (-1)) hx hb dX12_must_66 (by decide) ?_
            refine lv_ixor hx hb dX12_must_67 ?_
            refine zg (fun x_35 => ?_)
            refine lv_iand hx hb dX12_must_68 ?_
            refine zg (fun x_36 => ?_)
            refine lv_if_ne (tgt := 108) hx hb dX12_must_69 (by decide) (fun cb9 => ?_) (fun cb9 => ?_)
            · skip
              have c37 : ¬ x_36.toInt = 0 := zne cb9 rfl (by decide)
              refine ziinc3 (n' := 1) (a' := 1) (b' := 256) (lv' := fun v9 => [(5, .int v9), (0, .ref o), (1, .int x), (2, .int n), (3, .int q_8), (4, .int x_10)]) hx hb dX12_must_108 hl (k := 5) rfl (by decide) (fun _ => rfl) (zaddK (i := x_11.toInt) (j := 1) rfl (by decide) i24.1 n34 (Int.le_refl _) (Int.le_refl _) (by decide)) (fun x_38 ls hx_38 hl => ?_)
              refine lv_goto (tgt := 50) hx hb dX12_must_111 (by decide) ?_
              have hl := lv_sub (l' := [(0, .ref o), (1, .int x), (2, .int n), (3, .int q_8), (4, .int x_10), (5, .int x_38)]) hl [1, 2, 3, 4, 5, 0] rfl
              have hP : va_P g.1 vwCl (List.flatten [bMo g o a 0 hi ac tp x_12 x_13 x_14 fl x_15 x_16 x_17 x_18 fm_19 fk fa_20 fc ft ff_21 fb_22 fi]) H := hP
              have hD : va_D A (List.flatten [bMo g o a 0 hi ac tp x_12 x_13 x_14 fl x_15 x_16 x_17 x_18 fm_19 fk fa_20 fc ft ff_21 fb_22 fi]) := hD
              exact ih50_28 x_10 x_38 x_12 x_13 x_14 x_15 x_16 x_17 x_18 fm_19 fa_20 ff_21 fb_22 ⟨i23.1, i23.2⟩ ⟨(Int.le_trans (by decide) hx_38.2.1), hx_38.2.2⟩ ⟨i25.1, i25.2⟩ ⟨i26.1, i26.2⟩ rfm_19 rfa_20 H _ ls (zmK hx_38.1 (by decide) n34 (by decide) hk50_28)  hP hD hS (lv_sub hl [0, 1, 2, 3, 4, 5] rfl)
            · skip
              have c39 : x_36.toInt = 0 := zeq cb9 rfl (by decide)
              have n40 : 0 ≤ x_36.toInt := Int.le_trans (Int.le_refl _) (Int.le_of_eq c39.symm)
              have n41 : x_36.toInt ≤ 0 := Int.le_trans (Int.le_of_eq c39) (Int.le_refl _)
              refine lv_iload hx hb dX12_must_72 (lv_at hl 4 rfl) ?_
              refine lv_iconst (v := (-1)) hx hb dX12_must_74 (by decide) ?_
              refine lv_icmp_eq (tgt := 91) hx hb dX12_must_75 (by decide) (fun cb9 => ?_) (fun cb9 => ?_)
              · skip
                have c42 : x_10.toInt = (-1) := zeq cb9 rfl (by decide)
                have n43 : x_10.toInt ≤ (-1) := Int.le_trans (Int.le_of_eq c42) (Int.le_refl _)
                refine lv_aload_n hx hb dX12_must_91 rfl (lv_at hl 0 rfl) ?_
                refine lv_iload_n hx hb dX12_must_92 rfl (lv_at hl 2 rfl) ?_
                refine lv_iload hx hb dX12_must_93 (lv_at hl 5 rfl) ?_
                refine lv_bipush (v := 20) hx hb dX12_must_95 (by decide) ?_
                refine mcallV' (g := g) (q0 := 0) (ci := 10) (As := [.int n, .int x_11, .int 20]) (rest := []) St hK hT hA hP hD hS hl.1 [0] [] rfl rfl rfl (m_believedBy l g o a 0 hi ac tp x_12 x_13 x_14 fl x_15 x_16 x_17 x_18 fm_19 fk fa_20 fc ft ff_21 fb_22 fi n x_11 20 (by first | assumption | omega | decide | exact Or.inl (by decide) | exact Or.inr (by decide)) (by first | assumption | omega | decide | exact Or.inl (by decide) | exact Or.inr (by decide)) (⟨i25.1, i25.2⟩) (⟨i26.1, i26.2⟩) (by first | assumption | omega | decide | exact Or.inl (by decide) | exact Or.inr (by decide))) (cwV 3 hts (zgL (zl4 k1065 k1066 k1067 k837) k1063) rfl rfl rfl (by decide +kernel) ⟨Nat.le_of_ble_eq_true rfl, Nat.le_of_ble_eq_true rfl⟩) rfl rfl rfl rfl (Nat.le_of_ble_eq_true rfl) dX12_must_97 ⟨(Nat.le_of_ble_eq_true rfl), (Nat.le_of_ble_eq_true rfl)⟩ (fun u_ H locs hq56 hP hD hS => ?_)
                obtain ⟨ba2_44, en2_45, at2_46, de2_47, iD2_48, iO2_49, tU2_50, ff2_51, fm2_52, fb2_53, fa2_54, q_55⟩ := u_
                replace hq56 : (rM fa2_54) ∧ (rM fm2_52) ∧ (0 ≤ iO2_49.toInt ∧ iO2_49.toInt ≤ 1) ∧ (0 ≤ iD2_48.toInt ∧ iD2_48.toInt ≤ 1) := hq56
                have hP : va_P g.1 vwCl (List.flatten [bMo g o a 0 hi ac tp ba2_44 en2_45 at2_46 fl de2_47 iD2_48 iO2_49 tU2_50 fm2_52 fk fa2_54 fc ft ff2_51 fb2_53 fi]) H := hP
                have hD : va_D A (List.flatten [bMo g o a 0 hi ac tp ba2_44 en2_45 at2_46 fl de2_47 iD2_48 iO2_49 tU2_50 fm2_52 fk fa2_54 fc ft ff2_51 fb2_53 fi]) := hD
                refine W.widen (k := 0) (n := 0) (Nat.le_of_ble_eq_true rfl) (Nat.le_of_ble_eq_true rfl) ?_
                refine W.eq (g2 := F0 m 100 ls [.int q_55]) rfl ?_
                obtain ⟨rfa2_54, rfm2_52, hq56_2, hq56_3⟩ := hq56
                refine lv_iload_n hx hb dX12_must_100 rfl (lv_at hl 1 rfl) ?_
                refine lv_icmp_lt (tgt := 108) hx hb dX12_must_101 (by decide) (fun cb9 => ?_) (fun cb9 => ?_)
                · skip
                  have c57 : q_55.toInt < x.toInt := zlti cb9 rfl rfl
                  refine ziinc3 (n' := 1) (a' := 1) (b' := 256) (lv' := fun v9 => [(5, .int v9), (0, .ref o), (1, .int x), (2, .int n), (3, .int q_8), (4, .int x_10)]) hx hb dX12_must_108 hl (k := 5) rfl (by decide) (fun _ => rfl) (zaddK (i := x_11.toInt) (j := 1) rfl (by decide) i24.1 n34 (Int.le_refl _) (Int.le_refl _) (by decide)) (fun x_58 ls hx_58 hl => ?_)
                  refine lv_goto (tgt := 50) hx hb dX12_must_111 (by decide) ?_
                  have hl := lv_sub (l' := [(0, .ref o), (1, .int x), (2, .int n), (3, .int q_8), (4, .int x_10), (5, .int x_58)]) hl [1, 2, 3, 4, 5, 0] rfl
                  have hP : va_P g.1 vwCl (List.flatten [bMo g o a 0 hi ac tp ba2_44 en2_45 at2_46 fl de2_47 iD2_48 iO2_49 tU2_50 fm2_52 fk fa2_54 fc ft ff2_51 fb2_53 fi]) H := hP
                  have hD : va_D A (List.flatten [bMo g o a 0 hi ac tp ba2_44 en2_45 at2_46 fl de2_47 iD2_48 iO2_49 tU2_50 fm2_52 fk fa2_54 fc ft ff2_51 fb2_53 fi]) := hD
                  exact ih50_28 x_10 x_58 ba2_44 en2_45 at2_46 de2_47 iD2_48 iO2_49 tU2_50 fm2_52 fa2_54 ff2_51 fb2_53 ⟨i23.1, (Int.le_trans n43 (by decide))⟩ ⟨(Int.le_trans (by decide) hx_58.2.1), hx_58.2.2⟩ ⟨hq56_3.1, hq56_3.2⟩ ⟨hq56_2.1, hq56_2.2⟩ rfm2_52 rfa2_54 H _ ls (zmK hx_58.1 (by decide) n34 (by decide) hk50_28)  hP hD hS (lv_sub hl [0, 1, 2, 3, 4, 5] rfl)
                · skip
                  have c59 : x.toInt ≤ q_55.toInt := zle (Int32.not_lt.mp cb9) rfl rfl
                  refine lv_iload hx hb dX12_must_104 (lv_at hl 5 rfl) ?_
                  refine lv_istore (lv' := [(4, .int x_11), (0, .ref o), (1, .int x), (2, .int n), (3, .int q_8), (5, .int x_11)]) hx hb dX12_must_106 hl (by decide) rfl (fun ls hl => ?_)
                  refine ziinc3 (n' := 1) (a' := 1) (b' := 256) (lv' := fun v9 => [(5, .int v9), (4, .int x_11), (0, .ref o), (1, .int x), (2, .int n), (3, .int q_8)]) hx hb dX12_must_108 hl (k := 5) rfl (by decide) (fun _ => rfl) (zaddK (i := x_11.toInt) (j := 1) rfl (by decide) i24.1 n34 (Int.le_refl _) (Int.le_refl _) (by decide)) (fun x_60 ls hx_60 hl => ?_)
                  refine lv_goto (tgt := 50) hx hb dX12_must_111 (by decide) ?_
                  have hl := lv_sub (l' := [(0, .ref o), (1, .int x), (2, .int n), (3, .int q_8), (4, .int x_11), (5, .int x_60)]) hl [2, 3, 4, 5, 1, 0] rfl
                  have hP : va_P g.1 vwCl (List.flatten [bMo g o a 0 hi ac tp ba2_44 en2_45 at2_46 fl de2_47 iD2_48 iO2_49 tU2_50 fm2_52 fk fa2_54 fc ft ff2_51 fb2_53 fi]) H := hP
                  have hD : va_D A (List.flatten [bMo g o a 0 hi ac tp ba2_44 en2_45 at2_46 fl de2_47 iD2_48 iO2_49 tU2_50 fm2_52 fk fa2_54 fc ft ff2_51 fb2_53 fi]) := hD
                  exact ih50_28 x_11 x_60 ba2_44 en2_45 at2_46 de2_47 iD2_48 iO2_49 tU2_50 fm2_52 fa2_54 ff2_51 fb2_53 ⟨(Int.le_trans (by decide) i24.1), n34⟩ ⟨(Int.le_trans (by decide) hx_60.2.1), hx_60.2.2⟩ ⟨hq56_3.1, hq56_3.2⟩ ⟨hq56_2.1, hq56_2.2⟩ rfm2_52 rfa2_54 H _ ls (zmK hx_60.1 (by decide) n34 (by decide) hk50_28)  hP hD hS (lv_sub hl [0, 1, 2, 3, 4, 5] rfl)
              · skip
                have c61 : ¬ x_10.toInt = (-1) := zne cb9 rfl (by decide)
                have n62 : 0 ≤ x_10.toInt := zN1 c61 i23.1 (by decide)
                refine lv_iload hx hb dX12_must_78 (lv_at hl 5 rfl) ?_
                refine mcallS' (g := g) (As := [.int x_11]) (rest := []) St hK hT hA hP hD hS hl.1 [] [0] rfl rfl rfl (m_bits l g x_11 ) (va_cwS 1 hts (zgL (zl3 k852 k853 k837) k828) rfl rfl rfl (by decide +kernel) ⟨Nat.le_of_ble_eq_true rfl, Nat.le_of_ble_eq_true rfl⟩) rfl rfl (Nat.le_of_ble_eq_true rfl) dX12_must_80 ⟨(Nat.le_of_ble_eq_true rfl), (Nat.le_of_ble_eq_true rfl)⟩ (fun q_63 H locs hq64 hP hD hS => ?_)
                have hP : va_P g.1 vwCl (List.flatten [bMo g o a 0 hi ac tp x_12 x_13 x_14 fl x_15 x_16 x_17 x_18 fm_19 fk fa_20 fc ft ff_21 fb_22 fi]) H := hP
                have hD : va_D A (List.flatten [bMo g o a 0 hi ac tp x_12 x_13 x_14 fl x_15 x_16 x_17 x_18 fm_19 fk fa_20 fc ft ff_21 fb_22 fi]) := hD
                refine W.widen (k := 0) (n := 0) (Nat.le_of_ble_eq_true rfl) (Nat.le_of_ble_eq_true rfl) ?_
                refine W.eq (g2 := F0 m 83 ls [.int q_63]) rfl ?_
                refine lv_iload hx hb dX12_must_83 (lv_at hl 4 rfl) ?_
                refine mcallS' (g := g) (As := [.int x_10]) (rest := [.int q_63]) St hK hT hA hP hD hS hl.1 [] [0] rfl rfl rfl (m_bits l g x_10 ) (va_cwS 1 hts (zgL (zl3 k852 k853 k837) k828) rfl rfl rfl (by decide +kernel) ⟨Nat.le_of_ble_eq_true rfl, Nat.le_of_ble_eq_true rfl⟩) rfl rfl (Nat.le_of_ble_eq_true rfl) dX12_must_85 ⟨(Nat.le_of_ble_eq_true rfl), (Nat.le_of_ble_eq_true rfl)⟩ (fun q_65 H locs hq66 hP hD hS => ?_)
                have hP : va_P g.1 vwCl (List.flatten [bMo g o a 0 hi ac tp x_12 x_13 x_14 fl x_15 x_16 x_17 x_18 fm_19 fk fa_20 fc ft ff_21 fb_22 fi]) H := hP
                have hD : va_D A (List.flatten [bMo g o a 0 hi ac tp x_12 x_13 x_14 fl x_15 x_16 x_17 x_18 fm_19 fk fa_20 fc ft ff_21 fb_22 fi]) := hD
                refine W.widen (k := 0) (n := 0) (Nat.le_of_ble_eq_true rfl) (Nat.le_of_ble_eq_true rfl) ?_
                refine W.eq (g2 := F0 m 88 ls [.int q_65, .int q_63]) rfl ?_
                refine lv_icmp_ge (tgt := 108) hx hb dX12_must_88 (by decide) (fun cb9 => ?_) (fun cb9 => ?_)
                · skip
                  have c67 : q_65.toInt ≤ q_63.toInt := zle cb9 rfl rfl
                  refine ziinc3 (n' := 1) (a' := 1) (b' := 256) (lv' := fun v9 => [(5, .int v9), (0, .ref o), (1, .int x), (2, .int n), (3, .int q_8), (4, .int x_10)]) hx hb dX12_must_108 hl (k := 5) rfl (by decide) (fun _ => rfl) (zaddK (i := x_11.toInt) (j := 1) rfl (by decide) i24.1 n34 (Int.le_refl _) (Int.le_refl _) (by decide)) (fun x_68 ls hx_68 hl => ?_)
                  refine lv_goto (tgt := 50) hx hb dX12_must_111 (by decide) ?_
                  have hl := lv_sub (l' := [(0, .ref o), (1, .int x), (2, .int n), (3, .int q_8), (4, .int x_10), (5, .int x_68)]) hl [1, 2, 3, 4, 5, 0] rfl
                  have hP : va_P g.1 vwCl (List.flatten [bMo g o a 0 hi ac tp x_12 x_13 x_14 fl x_15 x_16 x_17 x_18 fm_19 fk fa_20 fc ft ff_21 fb_22 fi]) H := hP
                  have hD : va_D A (List.flatten [bMo g o a 0 hi ac tp x_12 x_13 x_14 fl x_15 x_16 x_17 x_18 fm_19 fk fa_20 fc ft ff_21 fb_22 fi]) := hD
                  exact ih50_28 x_10 x_68 x_12 x_13 x_14 x_15 x_16 x_17 x_18 fm_19 fa_20 ff_21 fb_22 ⟨(Int.le_trans (by decide) n62), i23.2⟩ ⟨(Int.le_trans (by decide) hx_68.2.1), hx_68.2.2⟩ ⟨i25.1, i25.2⟩ ⟨i26.1, i26.2⟩ rfm_19 rfa_20 H _ ls (zmK hx_68.1 (by decide) n34 (by decide) hk50_28)  hP hD hS (lv_sub hl [0, 1, 2, 3, 4, 5] rfl)
                · skip
                  have c69 : q_63.toInt < q_65.toInt := zlti (Int32.not_le.mp cb9) rfl rfl
                  refine lv_aload_n hx hb dX12_must_91 rfl (lv_at hl 0 rfl) ?_
                  refine lv_iload_n hx hb dX12_must_92 rfl (lv_at hl 2 rfl) ?_
                  refine lv_iload hx hb dX12_must_93 (lv_at hl 5 rfl) ?_
                  refine lv_bipush (v := 20) hx hb dX12_must_95 (by decide) ?_
                  refine mcallV' (g := g) (q0 := 0) (ci := 10) (As := [.int n, .int x_11, .int 20]) (rest := []) St hK hT hA hP hD hS hl.1 [0] [] rfl rfl rfl (m_believedBy l g o a 0 hi ac tp x_12 x_13 x_14 fl x_15 x_16 x_17 x_18 fm_19 fk fa_20 fc ft ff_21 fb_22 fi n x_11 20 (by first | assumption | omega | decide | exact Or.inl (by decide) | exact Or.inr (by decide)) (by first | assumption | omega | decide | exact Or.inl (by decide) | exact Or.inr (by decide)) (⟨i25.1, i25.2⟩) (⟨i26.1, i26.2⟩) (by first | assumption | omega | decide | exact Or.inl (by decide) | exact Or.inr (by decide))) (cwV 3 hts (zgL (zl4 k1065 k1066 k1067 k837) k1063) rfl rfl rfl (by decide +kernel) ⟨Nat.le_of_ble_eq_true rfl, Nat.le_of_ble_eq_true rfl⟩) rfl rfl rfl rfl (Nat.le_of_ble_eq_true rfl) dX12_must_97 ⟨(Nat.le_of_ble_eq_true rfl), (Nat.le_of_ble_eq_true rfl)⟩ (fun u_ H locs hq82 hP hD hS => ?_)
                  obtain ⟨ba2_70, en2_71, at2_72, de2_73, iD2_74, iO2_75, tU2_76, ff2_77, fm2_78, fb2_79, fa2_80, q_81⟩ := u_
                  replace hq82 : (rM fa2_80) ∧ (rM fm2_78) ∧ (0 ≤ iO2_75.toInt ∧ iO2_75.toInt ≤ 1) ∧ (0 ≤ iD2_74.toInt ∧ iD2_74.toInt ≤ 1) := hq82
                  have hP : va_P g.1 vwCl (List.flatten [bMo g o a 0 hi ac tp ba2_70 en2_71 at2_72 fl de2_73 iD2_74 iO2_75 tU2_76 fm2_78 fk fa2_80 fc ft ff2_77 fb2_79 fi]) H := hP
                  have hD : va_D A (List.flatten [bMo g o a 0 hi ac tp ba2_70 en2_71 at2_72 fl de2_73 iD2_74 iO2_75 tU2_76 fm2_78 fk fa2_80 fc ft ff2_77 fb2_79 fi]) := hD
                  refine W.widen (k := 0) (n := 0) (Nat.le_of_ble_eq_true rfl) (Nat.le_of_ble_eq_true rfl) ?_
                  refine W.eq (g2 := F0 m 100 ls [.int q_81]) rfl ?_
                  obtain ⟨rfa2_80, rfm2_78, hq82_2, hq82_3⟩ := hq82
                  refine lv_iload_n hx hb dX12_must_100 rfl (lv_at hl 1 rfl) ?_
                  refine lv_icmp_lt (tgt := 108) hx hb dX12_must_101 (by decide) (fun cb9 => ?_) (fun cb9 => ?_)
                  · skip
                    have c83 : q_81.toInt < x.toInt := zlti cb9 rfl rfl
                    refine ziinc3 (n' := 1) (a' := 1) (b' := 256) (lv' := fun v9 => [(5, .int v9), (0, .ref o), (1, .int x), (2, .int n), (3, .int q_8), (4, .int x_10)]) hx hb dX12_must_108 hl (k := 5) rfl (by decide) (fun _ => rfl) (zaddK (i := x_11.toInt) (j := 1) rfl (by decide) i24.1 n34 (Int.le_refl _) (Int.le_refl _) (by decide)) (fun x_84 ls hx_84 hl => ?_)
                    refine lv_goto (tgt := 50) hx hb dX12_must_111 (by decide) ?_
                    have hl := lv_sub (l' := [(0, .ref o), (1, .int x), (2, .int n), (3, .int q_8), (4, .int x_10), (5, .int x_84)]) hl [1, 2, 3, 4, 5, 0] rfl
                    have hP : va_P g.1 vwCl (List.flatten [bMo g o a 0 hi ac tp ba2_70 en2_71 at2_72 fl de2_73 iD2_74 iO2_75 tU2_76 fm2_78 fk fa2_80 fc ft ff2_77 fb2_79 fi]) H := hP
                    have hD : va_D A (List.flatten [bMo g o a 0 hi ac tp ba2_70 en2_71 at2_72 fl de2_73 iD2_74 iO2_75 tU2_76 fm2_78 fk fa2_80 fc ft ff2_77 fb2_79 fi]) := hD
                    exact ih50_28 x_10 x_84 ba2_70 en2_71 at2_72 de2_73 iD2_74 iO2_75 tU2_76 fm2_78 fa2_80 ff2_77 fb2_79 ⟨(Int.le_trans (by decide) n62), i23.2⟩ ⟨(Int.le_trans (by decide) hx_84.2.1), hx_84.2.2⟩ ⟨hq82_3.1, hq82_3.2⟩ ⟨hq82_2.1, hq82_2.2⟩ rfm2_78 rfa2_80 H _ ls (zmK hx_84.1 (by decide) n34 (by decide) hk50_28)  hP hD hS (lv_sub hl [0, 1, 2, 3, 4, 5] rfl)
                  · skip
                    have c85 : x.toInt ≤ q_81.toInt := zle (Int32.not_lt.mp cb9) rfl rfl
                    refine lv_iload hx hb dX12_must_104 (lv_at hl 5 rfl) ?_
                    refine lv_istore (lv' := [(4, .int x_11), (0, .ref o), (1, .int x), (2, .int n), (3, .int q_8), (5, .int x_11)]) hx hb dX12_must_106 hl (by decide) rfl (fun ls hl => ?_)
                    refine ziinc3 (n' := 1) (a' := 1) (b' := 256) (lv' := fun v9 => [(5, .int v9), (4, .int x_11), (0, .ref o), (1, .int x), (2, .int n), (3, .int q_8)]) hx hb dX12_must_108 hl (k := 5) rfl (by decide) (fun _ => rfl) (zaddK (i := x_11.toInt) (j := 1) rfl (by decide) i24.1 n34 (Int.le_refl _) (Int.le_refl _) (by decide)) (fun x_86 ls hx_86 hl => ?_)
                    refine lv_goto (tgt := 50) hx hb dX12_must_111 (by decide) ?_
                    have hl := lv_sub (l' := [(0, .ref o), (1, .int x), (2, .int n), (3, .int q_8), (4, .int x_11), (5, .int x_86)]) hl [2, 3, 4, 5, 1, 0] rfl
                    have hP : va_P g.1 vwCl (List.flatten [bMo g o a 0 hi ac tp ba2_70 en2_71 at2_72 fl de2_73 iD2_74 iO2_75 tU2_76 fm2_78 fk fa2_80 fc ft ff2_77 fb2_79 fi]) H := hP
                    have hD : va_D A (List.flatten [bMo g o a 0 hi ac tp ba2_70 en2_71 at2_72 fl de2_73 iD2_74 iO2_75 tU2_76 fm2_78 fk fa2_80 fc ft ff2_77 fb2_79 fi]) := hD
                    exact ih50_28 x_11 x_86 ba2_70 en2_71 at2_72 de2_73 iD2_74 iO2_75 tU2_76 fm2_78 fa2_80 ff2_77 fb2_79 ⟨(Int.le_trans (by decide) i24.1), n34⟩ ⟨(Int.le_trans (by decide) hx_86.2.1), hx_86.2.2⟩ ⟨hq82_3.1, hq82_3.2⟩ ⟨hq82_2.1, hq82_2.2⟩ rfm2_78 rfa2_80 H _ ls (zmK hx_86.1 (by decide) n34 (by decide) hk50_28)  hP hD hS (lv_sub hl [0, 1, 2, 3, 4, 5] rfl)
      have hP : va_P g.1 vwCl (List.flatten [bMo g o a 0 hi ac tp ba en tA fl de iD iO tU fm fk fa fc ft ff fb fi]) H := hP
      have hD : va_D A (List.flatten [bMo g o a 0 hi ac tp ba en tA fl de iD iO tU fm fk fa fc ft ff fb fi]) := hD
      exact LP50_27 _ (-1) 0 ba en tA de iD iO tU fm fa ff fb (by decide) (by decide) ⟨hiD.1, hiD.2⟩ ⟨hiO.1, hiO.2⟩ rfm rfa H _ ls (Nat.lt_succ_self _)  hP hD hS (lv_sub hl [0, 1, 2, 3, 4, 5] rfl)
    · skip
      refine lv_if_ne (tgt := 26) hx hb dX12_must_19 (by decide) (fun c87 => absurd (by decide) c87) (fun _ => ?_)
      refine lv_iconst (v := 1) hx hb dX12_must_22 (by decide) ?_
      refine lv_goto (tgt := 27) hx hb dX12_must_23 (by decide) ?_
      refine va_put (D := g.1) (ci := 10) (v := .int 1) (ty := .int) (C := RX12) (T := TX12) (N := 20) hx hb hts izRX12 tyX12 tyX12_ok nmX12 hown hK hP hD hS 0 rfl rfl 0 (by decide) (hts _ k871) (fun _ h9 => h9) rfl (by decide +kernel) rfl rfl (Nat.le_of_ble_eq_true rfl) dX12_must_27 (fun H locs hP hD hS => ?_)
      have hP : va_P g.1 vwCl (List.flatten [bMo g o a 1 hi ac tp ba en tA fl de iD iO tU fm fk fa fc ft ff fb fi]) H := hP
      have hD : va_D A (List.flatten [bMo g o a 1 hi ac tp ba en tA fl de iD iO tU fm fk fa fc ft ff fb fi]) := hD
      refine lv_aload_n hx hb dX12_must_30 rfl (lv_at hl 0 rfl) ?_
      refine va_get (D := g.1) (ci := 10) (v := .int 1) (C := RX12) (T := TX12) (N := 20) hx hb hts izRX12 hown hK hP 0 rfl rfl 0 (by decide) (hts _ k871) (fun _ h9 => h9) rfl dX12_must_31 ?_
      refine lv_if_le (tgt := 39) hx hb dX12_must_34 (by decide) (fun c88 => absurd c88 (by decide)) (fun _ => ?_)
      refine lv_iconst (v := 0) hx hb dX12_must_37 (by decide) ?_
      have hP : va_P g.1 vwCl (List.flatten [bMo g o a 1 hi ac tp ba en tA fl de iD iO tU fm fk fa fc ft ff fb fi]) H := hP
      have hD : va_D A (List.flatten [bMo g o a 1 hi ac tp ba en tA fl de iD iO tU fm fk fa fc ft ff fb fi]) := hD
      exact mret_i hx hb hr hlocks hS (Nat.le_of_ble_eq_true rfl) (Nat.le_of_ble_eq_true rfl) dX12_must_38 ((1 : Int32), ba, en, tA, de, iD, iO, tU, ff, fm, fb, fa, (0 : Int32)) rfl (show (rM fa) ∧ (rM fm) ∧ (0 ≤ iO.toInt ∧ iO.toInt ≤ 1) ∧ (0 ≤ iD.toInt ∧ iD.toInt ≤ 1) from ⟨(by first | assumption | omega | decide | exact rfl | exact zb01 (by omega) | exact Or.inl (by decide) | exact Or.inr (by first | omega | decide)), (by first | assumption | omega | decide | exact rfl | exact zb01 (by omega) | exact Or.inl (by decide) | exact Or.inr (by first | omega | decide)), (by first | assumption | omega | decide | exact rfl | exact zb01 (by omega) | exact Or.inl (by decide) | exact Or.inr (by first | omega | decide)), (by first | assumption | omega | decide | exact rfl | exact zb01 (by omega) | exact Or.inl (by decide) | exact Or.inr (by first | omega | decide))⟩) hP hD
  · skip
    refine lv_if_eq (tgt := 22) hx hb dX12_must_9 (by decide) (fun _ => ?_) (fun c89 => absurd (by decide) c89)
    refine lv_iconst (v := 1) hx hb dX12_must_22 (by decide) ?_
    refine lv_goto (tgt := 27) hx hb dX12_must_23 (by decide) ?_
    refine va_put (D := g.1) (ci := 10) (v := .int 1) (ty := .int) (C := RX12) (T := TX12) (N := 20) hx hb hts izRX12 tyX12 tyX12_ok nmX12 hown hK hP hD hS 0 rfl rfl 0 (by decide) (hts _ k871) (fun _ h9 => h9) rfl (by decide +kernel) rfl rfl (Nat.le_of_ble_eq_true rfl) dX12_must_27 (fun H locs hP hD hS => ?_)
    have hP : va_P g.1 vwCl (List.flatten [bMo g o a 1 hi ac tp ba en tA fl de iD iO tU fm fk fa fc ft ff fb fi]) H := hP
    have hD : va_D A (List.flatten [bMo g o a 1 hi ac tp ba en tA fl de iD iO tU fm fk fa fc ft ff fb fi]) := hD
    refine lv_aload_n hx hb dX12_must_30 rfl (lv_at hl 0 rfl) ?_
    refine va_get (D := g.1) (ci := 10) (v := .int 1) (C := RX12) (T := TX12) (N := 20) hx hb hts izRX12 hown hK hP 0 rfl rfl 0 (by decide) (hts _ k871) (fun _ h9 => h9) rfl dX12_must_31 ?_
    refine lv_if_le (tgt := 39) hx hb dX12_must_34 (by decide) (fun c90 => absurd c90 (by decide)) (fun _ => ?_)
    refine lv_iconst (v := 0) hx hb dX12_must_37 (by decide) ?_
    have hP : va_P g.1 vwCl (List.flatten [bMo g o a 1 hi ac tp ba en tA fl de iD iO tU fm fk fa fc ft ff fb fi]) H := hP
    have hD : va_D A (List.flatten [bMo g o a 1 hi ac tp ba en tA fl de iD iO tU fm fk fa fc ft ff fb fi]) := hD
    exact mret_i hx hb hr hlocks hS (Nat.le_of_ble_eq_true rfl) (Nat.le_of_ble_eq_true rfl) dX12_must_38 ((1 : Int32), ba, en, tA, de, iD, iO, tU, ff, fm, fb, fa, (0 : Int32)) rfl (show (rM fa) ∧ (rM fm) ∧ (0 ≤ iO.toInt ∧ iO.toInt ≤ 1) ∧ (0 ≤ iD.toInt ∧ iD.toInt ≤ 1) from ⟨(by first | assumption | omega | decide | exact rfl | exact zb01 (by omega) | exact Or.inl (by decide) | exact Or.inr (by first | omega | decide)), (by first | assumption | omega | decide | exact rfl | exact zb01 (by omega) | exact Or.inl (by decide) | exact Or.inr (by first | omega | decide)), (by first | assumption | omega | decide | exact rfl | exact zb01 (by omega) | exact Or.inl (by decide) | exact Or.inr (by first | omega | decide)), (by first | assumption | omega | decide | exact rfl | exact zb01 (by omega) | exact Or.inl (by decide) | exact Or.inr (by first | omega | decide))⟩) hP hD
