set_option maxRecDepth 100000 in
set_option maxHeartbeats 4000000 in
theorem m_mustC (l : Launch) (g : zG) (o : Nat) (a : Nat → Nat) (th : Int32) (hi : Int32) (ac : Int32) (tp : Int32) (ba : Int32) (en : Int32) (tA : Int32) (fl : Int32) (de : Int32) (iD : Int32) (iO : Int32) (tU : Int32) (fm : Nat → Int32) (fk : Nat → Int32) (fa : Nat → Int32) (fc : Nat → Int32) (ft : Nat → Int32) (ff : Nat → Int32) (fb : Nat → Int32) (fi : Nat → Int32) (x : Int32) (n : Int32) (L : zLw) (rfm : rM fm) (rfa : rM fa) (hiD : 0 ≤ iD.toInt ∧ iD.toInt ≤ 1) (hiO : 0 ≤ iO.toInt ∧ iO.toInt ≤ 1) (hrg : zRg (zV fm)) (hL : zLm L fm) : zM' g l yX12_must (Cond.code yX12_must cX12_must 6 (some .int) :: zB) ({ frames := 34, cells := 0, slots := 0, locals := 761 } : Room) [.ref o, .int x, .int n] [bMo g o a th hi ac tp ba en tA fl de iD iO tU fm fk fa fc ft ff fb fi] (fun u : Int32 × (Nat → Int32) × (Nat → Int32) × Int32 × Int32 × Int32 × Int32 × Int32 × Int32 × Int32 × (Nat → Int32) × (Nat → Int32) × Int32 => (fun (th2 : Int32) (fm2 : Nat → Int32) (fa2 : Nat → Int32) (ba2 : Int32) (en2 : Int32) (at2 : Int32) (de2 : Int32) (iD2 : Int32) (iO2 : Int32) (tU2 : Int32) (ff2 : Nat → Int32) (fb2 : Nat → Int32) (q : Int32) => some (.int q)) (u.1) (u.2.1) (u.2.2.1) (u.2.2.2.1) (u.2.2.2.2.1) (u.2.2.2.2.2.1) (u.2.2.2.2.2.2.1) (u.2.2.2.2.2.2.2.1) (u.2.2.2.2.2.2.2.2.1) (u.2.2.2.2.2.2.2.2.2.1) (u.2.2.2.2.2.2.2.2.2.2.1) (u.2.2.2.2.2.2.2.2.2.2.2.1) (u.2.2.2.2.2.2.2.2.2.2.2.2)) (fun u : Int32 × (Nat → Int32) × (Nat → Int32) × Int32 × Int32 × Int32 × Int32 × Int32 × Int32 × Int32 × (Nat → Int32) × (Nat → Int32) × Int32 => (fun (th2 : Int32) (fm2 : Nat → Int32) (fa2 : Nat → Int32) (ba2 : Int32) (en2 : Int32) (at2 : Int32) (de2 : Int32) (iD2 : Int32) (iO2 : Int32) (tU2 : Int32) (ff2 : Nat → Int32) (fb2 : Nat → Int32) (q : Int32) => (0 ≤ iO2.toInt ∧ iO2.toInt ≤ 1) ∧ (0 ≤ iD2.toInt ∧ iD2.toInt ≤ 1) ∧ (rM fa2) ∧ (rM fm2) ∧ (fm = fm2)) (u.1) (u.2.1) (u.2.2.1) (u.2.2.2.1) (u.2.2.2.2.1) (u.2.2.2.2.2.1) (u.2.2.2.2.2.2.1) (u.2.2.2.2.2.2.2.1) (u.2.2.2.2.2.2.2.2.1) (u.2.2.2.2.2.2.2.2.2.1) (u.2.2.2.2.2.2.2.2.2.2.1) (u.2.2.2.2.2.2.2.2.2.2.2.1) (u.2.2.2.2.2.2.2.2.2.2.2.2)) (fun u : Int32 × (Nat → Int32) × (Nat → Int32) × Int32 × Int32 × Int32 × Int32 × Int32 × Int32 × Int32 × (Nat → Int32) × (Nat → Int32) × Int32 => (fun (th2 : Int32) (fm2 : Nat → Int32) (fa2 : Nat → Int32) (ba2 : Int32) (en2 : Int32) (at2 : Int32) (de2 : Int32) (iD2 : Int32) (iO2 : Int32) (tU2 : Int32) (ff2 : Nat → Int32) (fb2 : Nat → Int32) (q : Int32) => [bMo g o a th2 hi ac tp ba2 en2 at2 fl de2 iD2 iO2 tU2 fm2 fk fa2 fc ft ff2 fb2 fi]) (u.1) (u.2.1) (u.2.2.1) (u.2.2.2.1) (u.2.2.2.2.1) (u.2.2.2.2.2.1) (u.2.2.2.2.2.2.1) (u.2.2.2.2.2.2.2.1) (u.2.2.2.2.2.2.2.2.1) (u.2.2.2.2.2.2.2.2.2.1) (u.2.2.2.2.2.2.2.2.2.2.1) (u.2.2.2.2.2.2.2.2.2.2.2.1) (u.2.2.2.2.2.2.2.2.2.2.2.2)) := by
  refine zM'.of (cc := cX12_must) (maxL := 6) (rt := (some .int)) (by decide) rfl (Nat.le_of_ble_eq_true rfl) ?_
  intro p e s m args below meth c A ls St hr hlocks hin hK hT hA hP hD hS hl
  obtain ⟨hx, hb, hml, hown, hts⟩ := id St
  have hl : lv_has ls 6 [(0, .ref o), (1, .int x), (2, .int n)] := hl
  refine lv_aload_n hx hb dX12_must_0 rfl (lv_at hl 0 rfl) ?_
  refine lv_iload_n hx hb dX12_must_1 rfl (lv_at hl 1 rfl) ?_
  refine lv_iconst (v := 1) hx hb dX12_must_2 (by decide) ?_
  refine lv_sipush (v := 792) hx hb dX12_must_3 (by decide) ?_
  have hL1 : (1 : Int32).toInt = 1 := by decide
  have hL792 : (792 : Int32).toInt = 792 := by decide
  refine mcallS' (g := g) (As := [.int x, .int 1, .int 792]) (rest := [.ref o]) St hK hT hA hP hD hS hl.1 [] [0] rfl rfl rfl (m_isIn l g x 1 792 ) (va_cwS 3 hts (zgL (zl3 k837 k838 k839) k826) rfl rfl rfl (by decide +kernel) ⟨Nat.le_of_ble_eq_true rfl, Nat.le_of_ble_eq_true rfl⟩) rfl rfl (Nat.le_of_ble_eq_true rfl) dX12_must_6 ⟨(Nat.le_of_ble_eq_true rfl), (Nat.le_of_ble_eq_true rfl)⟩ (fun q_1 H locs hq2 hP hD hS => ?_)
  replace hq2 : (q_1 = 1 ∧ (1 : Int32).toInt ≤ x.toInt ∧ x.toInt ≤ (792 : Int32).toInt ∨ q_1 = 0 ∧ (x.toInt < (1 : Int32).toInt ∨ (792 : Int32).toInt < x.toInt)) := hq2
  have hP : va_P g.1 vwCl (List.flatten [bMo g o a th hi ac tp ba en tA fl de iD iO tU fm fk fa fc ft ff fb fi]) H := hP
  have hD : va_D A (List.flatten [bMo g o a th hi ac tp ba en tA fl de iD iO tU fm fk fa fc ft ff fb fi]) := hD
  refine W.widen (k := 0) (n := 0) (Nat.le_of_ble_eq_true rfl) (Nat.le_of_ble_eq_true rfl) ?_
  refine W.eq (g2 := F0 m 9 ls [.int q_1, .ref o]) rfl ?_
  rcases hq2 with ⟨rfl, hq2_k⟩ | ⟨rfl, hq2_k⟩
  · skip
    refine lv_if_eq (tgt := 22) hx hb dX12_must_9 (by decide) (fun c3 => absurd c3 (by decide)) (fun _ => ?_)
    refine lv_iload_n hx hb dX12_must_12 rfl (lv_at hl 2 rfl) ?_
    refine lv_iconst (v := 0) hx hb dX12_must_13 (by decide) ?_
    refine lv_bipush (v := 30) hx hb dX12_must_14 (by decide) ?_
    have hL0 : (0 : Int32).toInt = 0 := by decide
    have hL30 : (30 : Int32).toInt = 30 := by decide
    refine mcallS' (g := g) (As := [.int n, .int 0, .int 30]) (rest := [.ref o]) St hK hT hA hP hD hS hl.1 [] [0] rfl rfl rfl (m_isIn l g n 0 30 ) (va_cwS 3 hts (zgL (zl3 k837 k838 k839) k826) rfl rfl rfl (by decide +kernel) ⟨Nat.le_of_ble_eq_true rfl, Nat.le_of_ble_eq_true rfl⟩) rfl rfl (Nat.le_of_ble_eq_true rfl) dX12_must_16 ⟨(Nat.le_of_ble_eq_true rfl), (Nat.le_of_ble_eq_true rfl)⟩ (fun q_4 H locs hq5 hP hD hS => ?_)
    replace hq5 : (q_4 = 1 ∧ (0 : Int32).toInt ≤ n.toInt ∧ n.toInt ≤ (30 : Int32).toInt ∨ q_4 = 0 ∧ (n.toInt < (0 : Int32).toInt ∨ (30 : Int32).toInt < n.toInt)) := hq5
    have hP : va_P g.1 vwCl (List.flatten [bMo g o a th hi ac tp ba en tA fl de iD iO tU fm fk fa fc ft ff fb fi]) H := hP
    have hD : va_D A (List.flatten [bMo g o a th hi ac tp ba en tA fl de iD iO tU fm fk fa fc ft ff fb fi]) := hD
    refine W.widen (k := 0) (n := 0) (Nat.le_of_ble_eq_true rfl) (Nat.le_of_ble_eq_true rfl) ?_
    refine W.eq (g2 := F0 m 19 ls [.int q_4, .ref o]) rfl ?_
    rcases hq5 with ⟨rfl, hq5_k⟩ | ⟨rfl, hq5_k⟩
    · skip
      refine lv_if_ne (tgt := 26) hx hb dX12_must_19 (by decide) (fun _ => ?_) (fun c6 => absurd c6 (by decide))
      refine lv_iconst (v := 0) hx hb dX12_must_26 (by decide) ?_
      refine va_put (D := g.1) (ci := 10) (v := .int 0) (ty := .int) (C := RX12) (T := TX12) (N := 20) hx hb hts izRX12 tyX12 tyX12_ok nmX12 hown hK hP hD hS 0 rfl rfl 0 (by decide) (hts _ k825) (fun _ h9 => h9) rfl (by decide +kernel) rfl rfl (Nat.le_of_ble_eq_true rfl) dX12_must_27 (fun H locs hP hD hS => ?_)
      have hP : va_P g.1 vwCl (List.flatten [bMo g o a 0 hi ac tp ba en tA fl de iD iO tU fm fk fa fc ft ff fb fi]) H := hP
      have hD : va_D A (List.flatten [bMo g o a 0 hi ac tp ba en tA fl de iD iO tU fm fk fa fc ft ff fb fi]) := hD
      refine lv_aload_n hx hb dX12_must_30 rfl (lv_at hl 0 rfl) ?_
      refine va_get (D := g.1) (ci := 10) (v := .int 0) (C := RX12) (T := TX12) (N := 20) hx hb hts izRX12 hown hK hP 0 rfl rfl 0 (by decide) (hts _ k825) (fun _ h9 => h9) rfl dX12_must_31 ?_
      refine lv_if_le (tgt := 39) hx hb dX12_must_34 (by decide) (fun _ => ?_) (fun c7 => absurd (by decide) c7)
      refine lv_aload_n hx hb dX12_must_39 rfl (lv_at hl 0 rfl) ?_
      refine mcallV' (g := g) (q0 := 0) (ci := 10) (As := []) (rest := []) St hK hT hA hP hD hS hl.1 [0] [] rfl rfl rfl (m_hereOnes l g o a 0 hi ac tp ba en tA fl de iD iO tU fm fk fa fc ft ff fb fi rfm) (cwV 0 hts (zgL (zl4 k851 k852 k853 k839) k845) rfl rfl rfl (by decide +kernel) ⟨Nat.le_of_ble_eq_true rfl, Nat.le_of_ble_eq_true rfl⟩) rfl rfl rfl rfl (Nat.le_of_ble_eq_true rfl) dX12_must_40 ⟨(Nat.le_of_ble_eq_true rfl), (Nat.le_of_ble_eq_true rfl)⟩ (fun q_8 H locs hq9 hP hD hS => ?_)
      have hP : va_P g.1 vwCl (List.flatten [bMo g o a 0 hi ac tp ba en tA fl de iD iO tU fm fk fa fc ft ff fb fi]) H := hP
      have hD : va_D A (List.flatten [bMo g o a 0 hi ac tp ba en tA fl de iD iO tU fm fk fa fc ft ff fb fi]) := hD
      refine W.widen (k := 0) (n := 0) (Nat.le_of_ble_eq_true rfl) (Nat.le_of_ble_eq_true rfl) ?_
      refine W.eq (g2 := F0 m 43 ls [.int q_8]) rfl ?_
      refine lv_istore_n (lv' := [(3, .int q_8), (0, .ref o), (1, .int x), (2, .int n)]) hx hb dX12_must_43 rfl hl (by decide) rfl (fun ls hl => ?_)
      refine lv_iconst (v := (-1)) hx hb dX12_must_44 (by decide) ?_
      refine lv_istore (lv' := [(4, .int (-1)), (3, .int q_8), (0, .ref o), (1, .int x), (2, .int n)]) hx hb dX12_must_45 hl (by decide) rfl (fun ls hl => ?_)
      refine lv_iconst (v := 0) hx hb dX12_must_47 (by decide) ?_
      refine lv_istore (lv' := [(5, .int 0), (4, .int (-1)), (3, .int q_8), (0, .ref o), (1, .int x), (2, .int n)]) hx hb dX12_must_48 hl (by decide) rfl (fun ls hl => ?_)
      have hl := lv_sub (l' := [(0, .ref o), (1, .int x), (2, .int n), (3, .int q_8), (4, .int (-1)), (5, .int 0)]) hl [3, 4, 5, 2, 1, 0] rfl
      have LP50_26 : ∀ (kf : Nat) (x_10 : Int32) (x_11 : Int32) (x_12 : Int32) (x_13 : Int32) (x_14 : Int32) (x_15 : Int32) (x_16 : Int32) (x_17 : Int32) (x_18 : Int32) (fa_19 : Nat → Int32) (ff_20 : Nat → Int32) (fb_21 : Nat → Int32), ((-1) ≤ x_10.toInt ∧ x_10.toInt ≤ 255) → (0 ≤ x_11.toInt ∧ x_11.toInt ≤ 256) → (0 ≤ x_16.toInt ∧ x_16.toInt ≤ 1) → (0 ≤ x_17.toInt ∧ x_17.toInt ≤ 1) → (rM fa_19) → ∀ (H : Heap) (locs : List Loc) (ls : Array Slot), ((257 - x_11.toInt).toNat) < kf → va_P g.1 vwCl (List.flatten [bMo g o a 0 hi ac tp x_12 x_13 x_14 fl x_15 x_16 x_17 x_18 fm fk fa_19 fc ft ff_20 fb_21 fi]) H → va_D A (List.flatten [bMo g o a 0 hi ac tp x_12 x_13 x_14 fl x_15 x_16 x_17 x_18 fm fk fa_19 fc ft ff_20 fb_21 fi]) → va_S A s.heap H locs → lv_has ls 6 [(0, .ref o), (1, .int x), (2, .int n), (3, .int q_8), (4, .int x_10), (5, .int x_11)] → W p l e ({ frames := 34, cells := 0, slots := 0, locals := 761 } : Room) s m args below meth c H locs (0) (0) (zF g (fun u : Int32 × (Nat → Int32) × (Nat → Int32) × Int32 × Int32 × Int32 × Int32 × Int32 × Int32 × Int32 × (Nat → Int32) × (Nat → Int32) × Int32 => (fun (th2 : Int32) (fm2 : Nat → Int32) (fa2 : Nat → Int32) (ba2 : Int32) (en2 : Int32) (at2 : Int32) (de2 : Int32) (iD2 : Int32) (iO2 : Int32) (tU2 : Int32) (ff2 : Nat → Int32) (fb2 : Nat → Int32) (q : Int32) => some (.int q)) (u.1) (u.2.1) (u.2.2.1) (u.2.2.2.1) (u.2.2.2.2.1) (u.2.2.2.2.2.1) (u.2.2.2.2.2.2.1) (u.2.2.2.2.2.2.2.1) (u.2.2.2.2.2.2.2.2.1) (u.2.2.2.2.2.2.2.2.2.1) (u.2.2.2.2.2.2.2.2.2.2.1) (u.2.2.2.2.2.2.2.2.2.2.2.1) (u.2.2.2.2.2.2.2.2.2.2.2.2)) (fun u : Int32 × (Nat → Int32) × (Nat → Int32) × Int32 × Int32 × Int32 × Int32 × Int32 × Int32 × Int32 × (Nat → Int32) × (Nat → Int32) × Int32 => (fun (th2 : Int32) (fm2 : Nat → Int32) (fa2 : Nat → Int32) (ba2 : Int32) (en2 : Int32) (at2 : Int32) (de2 : Int32) (iD2 : Int32) (iO2 : Int32) (tU2 : Int32) (ff2 : Nat → Int32) (fb2 : Nat → Int32) (q : Int32) => (0 ≤ iO2.toInt ∧ iO2.toInt ≤ 1) ∧ (0 ≤ iD2.toInt ∧ iD2.toInt ≤ 1) ∧ (rM fa2) ∧ (rM fm2) ∧ (fm = fm2)) (u.1) (u.2.1) (u.2.2.1) (u.2.2.2.1) (u.2.2.2.2.1) (u.2.2.2.2.2.1) (u.2.2.2.2.2.2.1) (u.2.2.2.2.2.2.2.1) (u.2.2.2.2.2.2.2.2.1) (u.2.2.2.2.2.2.2.2.2.1) (u.2.2.2.2.2.2.2.2.2.2.1) (u.2.2.2.2.2.2.2.2.2.2.2.1) (u.2.2.2.2.2.2.2.2.2.2.2.2)) (fun u : Int32 × (Nat → Int32) × (Nat → Int32) × Int32 × Int32 × Int32 × Int32 × Int32 × Int32 × Int32 × (Nat → Int32) × (Nat → Int32) × Int32 => (fun (th2 : Int32) (fm2 : Nat → Int32) (fa2 : Nat → Int32) (ba2 : Int32) (en2 : Int32) (at2 : Int32) (de2 : Int32) (iD2 : Int32) (iO2 : Int32) (tU2 : Int32) (ff2 : Nat → Int32) (fb2 : Nat → Int32) (q : Int32) => [bMo g o a th2 hi ac tp ba2 en2 at2 fl de2 iD2 iO2 tU2 fm2 fk fa2 fc ft ff2 fb2 fi]) (u.1) (u.2.1) (u.2.2.1) (u.2.2.2.1) (u.2.2.2.2.1) (u.2.2.2.2.2.1) (u.2.2.2.2.2.2.1) (u.2.2.2.2.2.2.2.1) (u.2.2.2.2.2.2.2.2.1) (u.2.2.2.2.2.2.2.2.2.1) (u.2.2.2.2.2.2.2.2.2.2.1) (u.2.2.2.2.2.2.2.2.2.2.2.1) (u.2.2.2.2.2.2.2.2.2.2.2.2)) ({ frames := 34, cells := 0, slots := 0, locals := 761 } : Room) below args s A) (F0 m 50 ls []) := by
        intro kf
        induction kf with
        | zero => intro x_10 x_11 x_12 x_13 x_14 x_15 x_16 x_17 x_18 fa_19 ff_20 fb_21 i22 i23 i24 i25 rfa_19 H locs ls hk; exact absurd hk (Nat.not_lt_zero _)
        | succ kf ih50_27 =>
          intro x_10 x_11 x_12 x_13 x_14 x_15 x_16 x_17 x_18 fa_19 ff_20 fb_21 i22 i23 i24 i25 rfa_19 H locs ls hk50_27 hP hD hS hl
          refine lv_iload hx hb dX12_must_50 (lv_at hl 5 rfl) ?_
          refine lv_iconst (v := 1) hx hb dX12_must_52 (by decide) ?_
          refine lv_aload_n hx hb dX12_must_53 rfl (lv_at hl 0 rfl) ?_
          refine va_get (D := g.1) (ci := 10) (v := .ref (a 0)) (C := RX12) (T := TX12) (N := 20) hx hb hts izRX12 hown hK hP 0 rfl rfl 1 (by decide) (hts _ k815) (fun _ h9 => h9) rfl dX12_must_54 ?_
          refine lv_iconst (v := 3) hx hb dX12_must_57 (by decide) ?_
          refine va_iald hx hb hK hP 1 0 rfl rfl (zin rfl) dX12_must_58 ?_
          refine zgq (r := fm 3) rfl (rM3 rfm) (fun x_28 hx_28 => ?_)
          refine lv_ishl hx hb dX12_must_59 ?_
          refine zgb (zshl1 (j := x_28.toInt) rfl 8 256 (by decide) (by decide) ⟨hx_28.1, hx_28.2.1⟩) (fun x_29 hx_29 => ?_)
          refine lv_icmp_ge (tgt := 114) hx hb dX12_must_60 (by decide) (fun cb9 => ?_) (fun cb9 => ?_)
          · skip
            have c30 : x_29.toInt ≤ x_11.toInt := zle cb9 rfl rfl
            have n31 : 1 ≤ x_11.toInt := Int.le_trans hx_29.1 c30
            refine lv_iload hx hb dX12_must_114 (lv_at hl 4 rfl) ?_
            have hP : va_P g.1 vwCl (List.flatten [bMo g o a 0 hi ac tp x_12 x_13 x_14 fl x_15 x_16 x_17 x_18 fm fk fa_19 fc ft ff_20 fb_21 fi]) H := hP
            have hD : va_D A (List.flatten [bMo g o a 0 hi ac tp x_12 x_13 x_14 fl x_15 x_16 x_17 x_18 fm fk fa_19 fc ft ff_20 fb_21 fi]) := hD
            exact mret_i hx hb hr hlocks hS (Nat.le_of_ble_eq_true rfl) (Nat.le_of_ble_eq_true rfl) dX12_must_116 ((0 : Int32), fm, fa_19, x_12, x_13, x_14, x_15, x_16, x_17, x_18, ff_20, fb_21, x_10) rfl (show (0 ≤ x_17.toInt ∧ x_17.toInt ≤ 1) ∧ (0 ≤ x_16.toInt ∧ x_16.toInt ≤ 1) ∧ (rM fa_19) ∧ (rM fm) ∧ (fm = fm) from ⟨(by first | assumption | omega | decide), (by first | assumption | omega | decide), (by first | assumption | omega | decide), (by first | assumption | omega | decide), rfl⟩) hP hD
          · skip
            have c32 : x_11.toInt < x_29.toInt := zlti (Int32.not_le.mp cb9) rfl rfl
            have n33 : x_11.toInt ≤ 255 := zL1 (b := 256) c32 hx_29.2 (by decide)
            refine lv_iload hx hb dX12_must_63 (lv_at hl 5 rfl) ?_
            refine lv_iload_n hx hb dX12_must_65 rfl (lv_at hl 3 rfl) ?_
            refine lv_iconst (v := (-1)) hx hb dX12_must_66 (by decide) ?_
            refine lv_ixor hx hb dX12_must_67 ?_
            refine zg (fun x_34 => ?_)
            refine lv_iand hx hb dX12_must_68 ?_
            refine zg (fun x_35 => ?_)
            refine lv_if_ne (tgt := 108) hx hb dX12_must_69 (by decide) (fun cb9 => ?_) (fun cb9 => ?_)
            · skip
              have c36 : ¬ x_35.toInt = 0 := zne cb9 rfl (by decide)
              refine ziinc3 (n' := 1) (a' := 1) (b' := 256) (lv' := fun v9 => [(5, .int v9), (0, .ref o), (1, .int x), (2, .int n), (3, .int q_8), (4, .int x_10)]) hx hb dX12_must_108 hl (k := 5) rfl (by decide) (fun _ => rfl) (zaddK (i := x_11.toInt) (j := 1) rfl (by decide) i23.1 n33 (Int.le_refl _) (Int.le_refl _) (by decide)) (fun x_37 ls hx_37 hl => ?_)
              refine lv_goto (tgt := 50) hx hb dX12_must_111 (by decide) ?_
              have hl := lv_sub (l' := [(0, .ref o), (1, .int x), (2, .int n), (3, .int q_8), (4, .int x_10), (5, .int x_37)]) hl [1, 2, 3, 4, 5, 0] rfl
              have hP : va_P g.1 vwCl (List.flatten [bMo g o a 0 hi ac tp x_12 x_13 x_14 fl x_15 x_16 x_17 x_18 fm fk fa_19 fc ft ff_20 fb_21 fi]) H := hP
              have hD : va_D A (List.flatten [bMo g o a 0 hi ac tp x_12 x_13 x_14 fl x_15 x_16 x_17 x_18 fm fk fa_19 fc ft ff_20 fb_21 fi]) := hD
              exact ih50_27 x_10 x_37 x_12 x_13 x_14 x_15 x_16 x_17 x_18 fa_19 ff_20 fb_21 ⟨i22.1, i22.2⟩ ⟨(Int.le_trans (by decide) hx_37.2.1), hx_37.2.2⟩ ⟨i24.1, i24.2⟩ ⟨i25.1, i25.2⟩ rfa_19 H _ ls (zmK hx_37.1 (by decide) n33 (by decide) hk50_27)  hP hD hS (lv_sub hl [0, 1, 2, 3, 4, 5] rfl)
            · skip
              have c38 : x_35.toInt = 0 := zeq cb9 rfl (by decide)
              have n39 : 0 ≤ x_35.toInt := Int.le_trans (Int.le_refl _) (Int.le_of_eq c38.symm)
              have n40 : x_35.toInt ≤ 0 := Int.le_trans (Int.le_of_eq c38) (Int.le_refl _)
              refine lv_iload hx hb dX12_must_72 (lv_at hl 4 rfl) ?_
              refine lv_iconst (v := (-1)) hx hb dX12_must_74 (by decide) ?_
              refine lv_icmp_eq (tgt := 91) hx hb dX12_must_75 (by decide) (fun cb9 => ?_) (fun cb9 => ?_)
              · skip
                have c41 : x_10.toInt = (-1) := zeq cb9 rfl (by decide)
                have n42 : x_10.toInt ≤ (-1) := Int.le_trans (Int.le_of_eq c41) (Int.le_refl _)
                refine lv_aload_n hx hb dX12_must_91 rfl (lv_at hl 0 rfl) ?_
                refine lv_iload_n hx hb dX12_must_92 rfl (lv_at hl 2 rfl) ?_
                refine lv_iload hx hb dX12_must_93 (lv_at hl 5 rfl) ?_
                refine lv_bipush (v := 20) hx hb dX12_must_95 (by decide) ?_
                refine mcallV' (g := g) (q0 := 0) (ci := 10) (As := [.int n, .int x_11, .int 20]) (rest := []) St hK hT hA hP hD hS hl.1 [0] [] rfl rfl rfl (m_believedByC l g o a 0 hi ac tp x_12 x_13 x_14 fl x_15 x_16 x_17 x_18 fm fk fa_19 fc ft ff_20 fb_21 fi n x_11 20 L rfm rfa_19 i24 i25 (by first | assumption | omega | decide | exact Or.inl (by decide) | exact Or.inr (by decide)) hrg hL) (cwV 3 hts (zgL (zl4 k1066 k1067 k1068 k839) k1064) rfl rfl rfl (by decide +kernel) ⟨Nat.le_of_ble_eq_true rfl, Nat.le_of_ble_eq_true rfl⟩) rfl rfl rfl rfl (Nat.le_of_ble_eq_true rfl) dX12_must_97 ⟨(Nat.le_of_ble_eq_true rfl), (Nat.le_of_ble_eq_true rfl)⟩ (fun u_ H locs hq55 hP hD hS => ?_)
                obtain ⟨fm2_43, fa2_44, ba2_45, en2_46, at2_47, de2_48, iD2_49, iO2_50, tU2_51, ff2_52, fb2_53, q_54⟩ := u_
                replace hq55 : (0 ≤ iO2_50.toInt ∧ iO2_50.toInt ≤ 1) ∧ (0 ≤ iD2_49.toInt ∧ iD2_49.toInt ≤ 1) ∧ (rM fa2_44) ∧ (rM fm2_43) ∧ (q_54 = zBl9 (zLk L x_11 20 n.toInt.toNat (zM9 fm))) ∧ (fm = fm2_43) := hq55
                have hP : va_P g.1 vwCl (List.flatten [bMo g o a 0 hi ac tp ba2_45 en2_46 at2_47 fl de2_48 iD2_49 iO2_50 tU2_51 fm2_43 fk fa2_44 fc ft ff2_52 fb2_53 fi]) H := hP
                have hD : va_D A (List.flatten [bMo g o a 0 hi ac tp ba2_45 en2_46 at2_47 fl de2_48 iD2_49 iO2_50 tU2_51 fm2_43 fk fa2_44 fc ft ff2_52 fb2_53 fi]) := hD
                refine W.widen (k := 0) (n := 0) (Nat.le_of_ble_eq_true rfl) (Nat.le_of_ble_eq_true rfl) ?_
                refine W.eq (g2 := F0 m 100 ls [.int q_54]) rfl ?_
                obtain ⟨hq55_0, hq55_1, rfa2_44, rfm2_43, hq55_4, hq55_5⟩ := hq55
                rcases hq55_5 with rfl
                · skip
                  refine lv_iload_n hx hb dX12_must_100 rfl (lv_at hl 1 rfl) ?_
                  refine lv_icmp_lt (tgt := 108) hx hb dX12_must_101 (by decide) (fun cb9 => ?_) (fun cb9 => ?_)
                  · skip
                    have c56 : q_54.toInt < x.toInt := zlti cb9 rfl rfl
                    refine ziinc3 (n' := 1) (a' := 1) (b' := 256) (lv' := fun v9 => [(5, .int v9), (0, .ref o), (1, .int x), (2, .int n), (3, .int q_8), (4, .int x_10)]) hx hb dX12_must_108 hl (k := 5) rfl (by decide) (fun _ => rfl) (zaddK (i := x_11.toInt) (j := 1) rfl (by decide) i23.1 n33 (Int.le_refl _) (Int.le_refl _) (by decide)) (fun x_57 ls hx_57 hl => ?_)
                    refine lv_goto (tgt := 50) hx hb dX12_must_111 (by decide) ?_
                    have hl := lv_sub (l' := [(0, .ref o), (1, .int x), (2, .int n), (3, .int q_8), (4, .int x_10), (5, .int x_57)]) hl [1, 2, 3, 4, 5, 0] rfl
                    have hP : va_P g.1 vwCl (List.flatten [bMo g o a 0 hi ac tp ba2_45 en2_46 at2_47 fl de2_48 iD2_49 iO2_50 tU2_51 fm fk fa2_44 fc ft ff2_52 fb2_53 fi]) H := hP
                    have hD : va_D A (List.flatten [bMo g o a 0 hi ac tp ba2_45 en2_46 at2_47 fl de2_48 iD2_49 iO2_50 tU2_51 fm fk fa2_44 fc ft ff2_52 fb2_53 fi]) := hD
                    exact ih50_27 x_10 x_57 ba2_45 en2_46 at2_47 de2_48 iD2_49 iO2_50 tU2_51 fa2_44 ff2_52 fb2_53 ⟨i22.1, (Int.le_trans n42 (by decide))⟩ ⟨(Int.le_trans (by decide) hx_57.2.1), hx_57.2.2⟩ ⟨hq55_1.1, hq55_1.2⟩ ⟨hq55_0.1, hq55_0.2⟩ rfa2_44 H _ ls (zmK hx_57.1 (by decide) n33 (by decide) hk50_27)  hP hD hS (lv_sub hl [0, 1, 2, 3, 4, 5] rfl)
                  · skip
                    have c58 : x.toInt ≤ q_54.toInt := zle (Int32.not_lt.mp cb9) rfl rfl
                    refine lv_iload hx hb dX12_must_104 (lv_at hl 5 rfl) ?_
                    refine lv_istore (lv' := [(4, .int x_11), (0, .ref o), (1, .int x), (2, .int n), (3, .int q_8), (5, .int x_11)]) hx hb dX12_must_106 hl (by decide) rfl (fun ls hl => ?_)
                    refine ziinc3 (n' := 1) (a' := 1) (b' := 256) (lv' := fun v9 => [(5, .int v9), (4, .int x_11), (0, .ref o), (1, .int x), (2, .int n), (3, .int q_8)]) hx hb dX12_must_108 hl (k := 5) rfl (by decide) (fun _ => rfl) (zaddK (i := x_11.toInt) (j := 1) rfl (by decide) i23.1 n33 (Int.le_refl _) (Int.le_refl _) (by decide)) (fun x_59 ls hx_59 hl => ?_)
                    refine lv_goto (tgt := 50) hx hb dX12_must_111 (by decide) ?_
                    have hl := lv_sub (l' := [(0, .ref o), (1, .int x), (2, .int n), (3, .int q_8), (4, .int x_11), (5, .int x_59)]) hl [2, 3, 4, 5, 1, 0] rfl
                    have hP : va_P g.1 vwCl (List.flatten [bMo g o a 0 hi ac tp ba2_45 en2_46 at2_47 fl de2_48 iD2_49 iO2_50 tU2_51 fm fk fa2_44 fc ft ff2_52 fb2_53 fi]) H := hP
                    have hD : va_D A (List.flatten [bMo g o a 0 hi ac tp ba2_45 en2_46 at2_47 fl de2_48 iD2_49 iO2_50 tU2_51 fm fk fa2_44 fc ft ff2_52 fb2_53 fi]) := hD
                    exact ih50_27 x_11 x_59 ba2_45 en2_46 at2_47 de2_48 iD2_49 iO2_50 tU2_51 fa2_44 ff2_52 fb2_53 ⟨(Int.le_trans (by decide) i23.1), n33⟩ ⟨(Int.le_trans (by decide) hx_59.2.1), hx_59.2.2⟩ ⟨hq55_1.1, hq55_1.2⟩ ⟨hq55_0.1, hq55_0.2⟩ rfa2_44 H _ ls (zmK hx_59.1 (by decide) n33 (by decide) hk50_27)  hP hD hS (lv_sub hl [0, 1, 2, 3, 4, 5] rfl)
              · skip
                have c60 : ¬ x_10.toInt = (-1) := zne cb9 rfl (by decide)
                have n61 : 0 ≤ x_10.toInt := zN1 c60 i22.1 (by decide)
                refine lv_iload hx hb dX12_must_78 (lv_at hl 5 rfl) ?_
                refine mcallS' (g := g) (As := [.int x_11]) (rest := []) St hK hT hA hP hD hS hl.1 [] [0] rfl rfl rfl (m_bits l g x_11 ) (va_cwS 1 hts (zgL (zl3 k854 k855 k839) k830) rfl rfl rfl (by decide +kernel) ⟨Nat.le_of_ble_eq_true rfl, Nat.le_of_ble_eq_true rfl⟩) rfl rfl (Nat.le_of_ble_eq_true rfl) dX12_must_80 ⟨(Nat.le_of_ble_eq_true rfl), (Nat.le_of_ble_eq_true rfl)⟩ (fun q_62 H locs hq63 hP hD hS => ?_)
                have hP : va_P g.1 vwCl (List.flatten [bMo g o a 0 hi ac tp x_12 x_13 x_14 fl x_15 x_16 x_17 x_18 fm fk fa_19 fc ft ff_20 fb_21 fi]) H := hP
                have hD : va_D A (List.flatten [bMo g o a 0 hi ac tp x_12 x_13 x_14 fl x_15 x_16 x_17 x_18 fm fk fa_19 fc ft ff_20 fb_21 fi]) := hD
                refine W.widen (k := 0) (n := 0) (Nat.le_of_ble_eq_true rfl) (Nat.le_of_ble_eq_true rfl) ?_
                refine W.eq (g2 := F0 m 83 ls [.int q_62]) rfl ?_
                refine lv_iload hx hb dX12_must_83 (lv_at hl 4 rfl) ?_
                refine mcallS' (g := g) (As := [.int x_10]) (rest := [.int q_62]) St hK hT hA hP hD hS hl.1 [] [0] rfl rfl rfl (m_bits l g x_10 ) (va_cwS 1 hts (zgL (zl3 k854 k855 k839) k830) rfl rfl rfl (by decide +kernel) ⟨Nat.le_of_ble_eq_true rfl, Nat.le_of_ble_eq_true rfl⟩) rfl rfl (Nat.le_of_ble_eq_true rfl) dX12_must_85 ⟨(Nat.le_of_ble_eq_true rfl), (Nat.le_of_ble_eq_true rfl)⟩ (fun q_64 H locs hq65 hP hD hS => ?_)
                have hP : va_P g.1 vwCl (List.flatten [bMo g o a 0 hi ac tp x_12 x_13 x_14 fl x_15 x_16 x_17 x_18 fm fk fa_19 fc ft ff_20 fb_21 fi]) H := hP
                have hD : va_D A (List.flatten [bMo g o a 0 hi ac tp x_12 x_13 x_14 fl x_15 x_16 x_17 x_18 fm fk fa_19 fc ft ff_20 fb_21 fi]) := hD
                refine W.widen (k := 0) (n := 0) (Nat.le_of_ble_eq_true rfl) (Nat.le_of_ble_eq_true rfl) ?_
                refine W.eq (g2 := F0 m 88 ls [.int q_64, .int q_62]) rfl ?_
                refine lv_icmp_ge (tgt := 108) hx hb dX12_must_88 (by decide) (fun cb9 => ?_) (fun cb9 => ?_)
                · skip
                  have c66 : q_64.toInt ≤ q_62.toInt := zle cb9 rfl rfl
                  refine ziinc3 (n' := 1) (a' := 1) (b' := 256) (lv' := fun v9 => [(5, .int v9), (0, .ref o), (1, .int x), (2, .int n), (3, .int q_8), (4, .int x_10)]) hx hb dX12_must_108 hl (k := 5) rfl (by decide) (fun _ => rfl) (zaddK (i := x_11.toInt) (j := 1) rfl (by decide) i23.1 n33 (Int.le_refl _) (Int.le_refl _) (by decide)) (fun x_67 ls hx_67 hl => ?_)
                  refine lv_goto (tgt := 50) hx hb dX12_must_111 (by decide) ?_
                  have hl := lv_sub (l' := [(0, .ref o), (1, .int x), (2, .int n), (3, .int q_8), (4, .int x_10), (5, .int x_67)]) hl [1, 2, 3, 4, 5, 0] rfl
                  have hP : va_P g.1 vwCl (List.flatten [bMo g o a 0 hi ac tp x_12 x_13 x_14 fl x_15 x_16 x_17 x_18 fm fk fa_19 fc ft ff_20 fb_21 fi]) H := hP
                  have hD : va_D A (List.flatten [bMo g o a 0 hi ac tp x_12 x_13 x_14 fl x_15 x_16 x_17 x_18 fm fk fa_19 fc ft ff_20 fb_21 fi]) := hD
                  exact ih50_27 x_10 x_67 x_12 x_13 x_14 x_15 x_16 x_17 x_18 fa_19 ff_20 fb_21 ⟨(Int.le_trans (by decide) n61), i22.2⟩ ⟨(Int.le_trans (by decide) hx_67.2.1), hx_67.2.2⟩ ⟨i24.1, i24.2⟩ ⟨i25.1, i25.2⟩ rfa_19 H _ ls (zmK hx_67.1 (by decide) n33 (by decide) hk50_27)  hP hD hS (lv_sub hl [0, 1, 2, 3, 4, 5] rfl)
                · skip
                  have c68 : q_62.toInt < q_64.toInt := zlti (Int32.not_le.mp cb9) rfl rfl
                  refine lv_aload_n hx hb dX12_must_91 rfl (lv_at hl 0 rfl) ?_
                  refine lv_iload_n hx hb dX12_must_92 rfl (lv_at hl 2 rfl) ?_
                  refine lv_iload hx hb dX12_must_93 (lv_at hl 5 rfl) ?_
                  refine lv_bipush (v := 20) hx hb dX12_must_95 (by decide) ?_
                  refine mcallV' (g := g) (q0 := 0) (ci := 10) (As := [.int n, .int x_11, .int 20]) (rest := []) St hK hT hA hP hD hS hl.1 [0] [] rfl rfl rfl (m_believedByC l g o a 0 hi ac tp x_12 x_13 x_14 fl x_15 x_16 x_17 x_18 fm fk fa_19 fc ft ff_20 fb_21 fi n x_11 20 L rfm rfa_19 i24 i25 (by first | assumption | omega | decide | exact Or.inl (by decide) | exact Or.inr (by decide)) hrg hL) (cwV 3 hts (zgL (zl4 k1066 k1067 k1068 k839) k1064) rfl rfl rfl (by decide +kernel) ⟨Nat.le_of_ble_eq_true rfl, Nat.le_of_ble_eq_true rfl⟩) rfl rfl rfl rfl (Nat.le_of_ble_eq_true rfl) dX12_must_97 ⟨(Nat.le_of_ble_eq_true rfl), (Nat.le_of_ble_eq_true rfl)⟩ (fun u_ H locs hq81 hP hD hS => ?_)
                  obtain ⟨fm2_69, fa2_70, ba2_71, en2_72, at2_73, de2_74, iD2_75, iO2_76, tU2_77, ff2_78, fb2_79, q_80⟩ := u_
                  replace hq81 : (0 ≤ iO2_76.toInt ∧ iO2_76.toInt ≤ 1) ∧ (0 ≤ iD2_75.toInt ∧ iD2_75.toInt ≤ 1) ∧ (rM fa2_70) ∧ (rM fm2_69) ∧ (q_80 = zBl9 (zLk L x_11 20 n.toInt.toNat (zM9 fm))) ∧ (fm = fm2_69) := hq81
                  have hP : va_P g.1 vwCl (List.flatten [bMo g o a 0 hi ac tp ba2_71 en2_72 at2_73 fl de2_74 iD2_75 iO2_76 tU2_77 fm2_69 fk fa2_70 fc ft ff2_78 fb2_79 fi]) H := hP
                  have hD : va_D A (List.flatten [bMo g o a 0 hi ac tp ba2_71 en2_72 at2_73 fl de2_74 iD2_75 iO2_76 tU2_77 fm2_69 fk fa2_70 fc ft ff2_78 fb2_79 fi]) := hD
                  refine W.widen (k := 0) (n := 0) (Nat.le_of_ble_eq_true rfl) (Nat.le_of_ble_eq_true rfl) ?_
                  refine W.eq (g2 := F0 m 100 ls [.int q_80]) rfl ?_
                  obtain ⟨hq81_0, hq81_1, rfa2_70, rfm2_69, hq81_4, hq81_5⟩ := hq81
                  rcases hq81_5 with rfl
                  · skip
                    refine lv_iload_n hx hb dX12_must_100 rfl (lv_at hl 1 rfl) ?_
                    refine lv_icmp_lt (tgt := 108) hx hb dX12_must_101 (by decide) (fun cb9 => ?_) (fun cb9 => ?_)
                    · skip
                      have c82 : q_80.toInt < x.toInt := zlti cb9 rfl rfl
                      refine ziinc3 (n' := 1) (a' := 1) (b' := 256) (lv' := fun v9 => [(5, .int v9), (0, .ref o), (1, .int x), (2, .int n), (3, .int q_8), (4, .int x_10)]) hx hb dX12_must_108 hl (k := 5) rfl (by decide) (fun _ => rfl) (zaddK (i := x_11.toInt) (j := 1) rfl (by decide) i23.1 n33 (Int.le_refl _) (Int.le_refl _) (by decide)) (fun x_83 ls hx_83 hl => ?_)
                      refine lv_goto (tgt := 50) hx hb dX12_must_111 (by decide) ?_
                      have hl := lv_sub (l' := [(0, .ref o), (1, .int x), (2, .int n), (3, .int q_8), (4, .int x_10), (5, .int x_83)]) hl [1, 2, 3, 4, 5, 0] rfl
                      have hP : va_P g.1 vwCl (List.flatten [bMo g o a 0 hi ac tp ba2_71 en2_72 at2_73 fl de2_74 iD2_75 iO2_76 tU2_77 fm fk fa2_70 fc ft ff2_78 fb2_79 fi]) H := hP
                      have hD : va_D A (List.flatten [bMo g o a 0 hi ac tp ba2_71 en2_72 at2_73 fl de2_74 iD2_75 iO2_76 tU2_77 fm fk fa2_70 fc ft ff2_78 fb2_79 fi]) := hD
                      exact ih50_27 x_10 x_83 ba2_71 en2_72 at2_73 de2_74 iD2_75 iO2_76 tU2_77 fa2_70 ff2_78 fb2_79 ⟨(Int.le_trans (by decide) n61), i22.2⟩ ⟨(Int.le_trans (by decide) hx_83.2.1), hx_83.2.2⟩ ⟨hq81_1.1, hq81_1.2⟩ ⟨hq81_0.1, hq81_0.2⟩ rfa2_70 H _ ls (zmK hx_83.1 (by decide) n33 (by decide) hk50_27)  hP hD hS (lv_sub hl [0, 1, 2, 3, 4, 5] rfl)
                    · skip
                      have c84 : x.toInt ≤ q_80.toInt := zle (Int32.not_lt.mp cb9) rfl rfl
                      refine lv_iload hx hb dX12_must_104 (lv_at hl 5 rfl) ?_
                      refine lv_istore (lv' := [(4, .int x_11), (0, .ref o), (1, .int x), (2, .int n), (3, .int q_8), (5, .int x_11)]) hx hb dX12_must_106 hl (by decide) rfl (fun ls hl => ?_)
                      refine ziinc3 (n' := 1) (a' := 1) (b' := 256) (lv' := fun v9 => [(5, .int v9), (4, .int x_11), (0, .ref o), (1, .int x), (2, .int n), (3, .int q_8)]) hx hb dX12_must_108 hl (k := 5) rfl (by decide) (fun _ => rfl) (zaddK (i := x_11.toInt) (j := 1) rfl (by decide) i23.1 n33 (Int.le_refl _) (Int.le_refl _) (by decide)) (fun x_85 ls hx_85 hl => ?_)
                      refine lv_goto (tgt := 50) hx hb dX12_must_111 (by decide) ?_
                      have hl := lv_sub (l' := [(0, .ref o), (1, .int x), (2, .int n), (3, .int q_8), (4, .int x_11), (5, .int x_85)]) hl [2, 3, 4, 5, 1, 0] rfl
                      have hP : va_P g.1 vwCl (List.flatten [bMo g o a 0 hi ac tp ba2_71 en2_72 at2_73 fl de2_74 iD2_75 iO2_76 tU2_77 fm fk fa2_70 fc ft ff2_78 fb2_79 fi]) H := hP
                      have hD : va_D A (List.flatten [bMo g o a 0 hi ac tp ba2_71 en2_72 at2_73 fl de2_74 iD2_75 iO2_76 tU2_77 fm fk fa2_70 fc ft ff2_78 fb2_79 fi]) := hD
                      exact ih50_27 x_11 x_85 ba2_71 en2_72 at2_73 de2_74 iD2_75 iO2_76 tU2_77 fa2_70 ff2_78 fb2_79 ⟨(Int.le_trans (by decide) i23.1), n33⟩ ⟨(Int.le_trans (by decide) hx_85.2.1), hx_85.2.2⟩ ⟨hq81_1.1, hq81_1.2⟩ ⟨hq81_0.1, hq81_0.2⟩ rfa2_70 H _ ls (zmK hx_85.1 (by decide) n33 (by decide) hk50_27)  hP hD hS (lv_sub hl [0, 1, 2, 3, 4, 5] rfl)
      have hP : va_P g.1 vwCl (List.flatten [bMo g o a 0 hi ac tp ba en tA fl de iD iO tU fm fk fa fc ft ff fb fi]) H := hP
      have hD : va_D A (List.flatten [bMo g o a 0 hi ac tp ba en tA fl de iD iO tU fm fk fa fc ft ff fb fi]) := hD
      exact LP50_26 _ (-1) 0 ba en tA de iD iO tU fa ff fb (by decide) (by decide) ⟨hiD.1, hiD.2⟩ ⟨hiO.1, hiO.2⟩ rfa H _ ls (Nat.lt_succ_self _)  hP hD hS (lv_sub hl [0, 1, 2, 3, 4, 5] rfl)
    · skip
      refine lv_if_ne (tgt := 26) hx hb dX12_must_19 (by decide) (fun c86 => absurd (by decide) c86) (fun _ => ?_)
      refine lv_iconst (v := 1) hx hb dX12_must_22 (by decide) ?_
      refine lv_goto (tgt := 27) hx hb dX12_must_23 (by decide) ?_
      refine va_put (D := g.1) (ci := 10) (v := .int 1) (ty := .int) (C := RX12) (T := TX12) (N := 20) hx hb hts izRX12 tyX12 tyX12_ok nmX12 hown hK hP hD hS 0 rfl rfl 0 (by decide) (hts _ k825) (fun _ h9 => h9) rfl (by decide +kernel) rfl rfl (Nat.le_of_ble_eq_true rfl) dX12_must_27 (fun H locs hP hD hS => ?_)
      have hP : va_P g.1 vwCl (List.flatten [bMo g o a 1 hi ac tp ba en tA fl de iD iO tU fm fk fa fc ft ff fb fi]) H := hP
      have hD : va_D A (List.flatten [bMo g o a 1 hi ac tp ba en tA fl de iD iO tU fm fk fa fc ft ff fb fi]) := hD
      refine lv_aload_n hx hb dX12_must_30 rfl (lv_at hl 0 rfl) ?_
      refine va_get (D := g.1) (ci := 10) (v := .int 1) (C := RX12) (T := TX12) (N := 20) hx hb hts izRX12 hown hK hP 0 rfl rfl 0 (by decide) (hts _ k825) (fun _ h9 => h9) rfl dX12_must_31 ?_
      refine lv_if_le (tgt := 39) hx hb dX12_must_34 (by decide) (fun c87 => absurd c87 (by decide)) (fun _ => ?_)
      refine lv_iconst (v := 0) hx hb dX12_must_37 (by decide) ?_
      have hP : va_P g.1 vwCl (List.flatten [bMo g o a 1 hi ac tp ba en tA fl de iD iO tU fm fk fa fc ft ff fb fi]) H := hP
      have hD : va_D A (List.flatten [bMo g o a 1 hi ac tp ba en tA fl de iD iO tU fm fk fa fc ft ff fb fi]) := hD
      exact mret_i hx hb hr hlocks hS (Nat.le_of_ble_eq_true rfl) (Nat.le_of_ble_eq_true rfl) dX12_must_38 ((1 : Int32), fm, fa, ba, en, tA, de, iD, iO, tU, ff, fb, (0 : Int32)) rfl (show (0 ≤ iO.toInt ∧ iO.toInt ≤ 1) ∧ (0 ≤ iD.toInt ∧ iD.toInt ≤ 1) ∧ (rM fa) ∧ (rM fm) ∧ (fm = fm) from ⟨(by first | assumption | omega | decide), (by first | assumption | omega | decide), (by first | assumption | omega | decide), (by first | assumption | omega | decide), rfl⟩) hP hD
  · skip
    refine lv_if_eq (tgt := 22) hx hb dX12_must_9 (by decide) (fun _ => ?_) (fun c88 => absurd (by decide) c88)
    refine lv_iconst (v := 1) hx hb dX12_must_22 (by decide) ?_
    refine lv_goto (tgt := 27) hx hb dX12_must_23 (by decide) ?_
    refine va_put (D := g.1) (ci := 10) (v := .int 1) (ty := .int) (C := RX12) (T := TX12) (N := 20) hx hb hts izRX12 tyX12 tyX12_ok nmX12 hown hK hP hD hS 0 rfl rfl 0 (by decide) (hts _ k825) (fun _ h9 => h9) rfl (by decide +kernel) rfl rfl (Nat.le_of_ble_eq_true rfl) dX12_must_27 (fun H locs hP hD hS => ?_)
    have hP : va_P g.1 vwCl (List.flatten [bMo g o a 1 hi ac tp ba en tA fl de iD iO tU fm fk fa fc ft ff fb fi]) H := hP
    have hD : va_D A (List.flatten [bMo g o a 1 hi ac tp ba en tA fl de iD iO tU fm fk fa fc ft ff fb fi]) := hD
    refine lv_aload_n hx hb dX12_must_30 rfl (lv_at hl 0 rfl) ?_
    refine va_get (D := g.1) (ci := 10) (v := .int 1) (C := RX12) (T := TX12) (N := 20) hx hb hts izRX12 hown hK hP 0 rfl rfl 0 (by decide) (hts _ k825) (fun _ h9 => h9) rfl dX12_must_31 ?_
    refine lv_if_le (tgt := 39) hx hb dX12_must_34 (by decide) (fun c89 => absurd c89 (by decide)) (fun _ => ?_)
    refine lv_iconst (v := 0) hx hb dX12_must_37 (by decide) ?_
    have hP : va_P g.1 vwCl (List.flatten [bMo g o a 1 hi ac tp ba en tA fl de iD iO tU fm fk fa fc ft ff fb fi]) H := hP
    have hD : va_D A (List.flatten [bMo g o a 1 hi ac tp ba en tA fl de iD iO tU fm fk fa fc ft ff fb fi]) := hD
    exact mret_i hx hb hr hlocks hS (Nat.le_of_ble_eq_true rfl) (Nat.le_of_ble_eq_true rfl) dX12_must_38 ((1 : Int32), fm, fa, ba, en, tA, de, iD, iO, tU, ff, fb, (0 : Int32)) rfl (show (0 ≤ iO.toInt ∧ iO.toInt ≤ 1) ∧ (0 ≤ iD.toInt ∧ iD.toInt ≤ 1) ∧ (rM fa) ∧ (rM fm) ∧ (fm = fm) from ⟨(by first | assumption | omega | decide), (by first | assumption | omega | decide), (by first | assumption | omega | decide), (by first | assumption | omega | decide), rfl⟩) hP hD
set_option maxRecDepth 100000 in
set_option maxHeartbeats 4000000 in
theorem m_ruinC (l : Launch) (g : zG) (o : Nat) (a : Nat → Nat) (th : Int32) (hi : Int32) (ac : Int32) (tp : Int32) (ba : Int32) (en : Int32) (tA : Int32) (fl : Int32) (de : Int32) (iD : Int32) (iO : Int32) (tU : Int32) (fm : Nat → Int32) (fk : Nat → Int32) (fa : Nat → Int32) (fc : Nat → Int32) (ft : Nat → Int32) (ff : Nat → Int32) (fb : Nat → Int32) (fi : Nat → Int32) (L : zLw) (rfm : rM fm) (rfa : rM fa) (hiD : 0 ≤ iD.toInt ∧ iD.toInt ≤ 1) (hiO : 0 ≤ iO.toInt ∧ iO.toInt ≤ 1) (hrg : zRg (zV fm)) (hL : zLm L fm) : zM' g l yX12_ruin (Cond.code yX12_ruin cX12_ruin 4 (some .int) :: zB) ({ frames := 33, cells := 0, slots := 0, locals := 736 } : Room) [.ref o] [bMo g o a th hi ac tp ba en tA fl de iD iO tU fm fk fa fc ft ff fb fi] (fun u : Int32 × (Nat → Int32) × (Nat → Int32) × Int32 × Int32 × Int32 × Int32 × Int32 × Int32 × Int32 × (Nat → Int32) × (Nat → Int32) × Int32 => (fun (th2 : Int32) (fm2 : Nat → Int32) (fa2 : Nat → Int32) (ba2 : Int32) (en2 : Int32) (at2 : Int32) (de2 : Int32) (iD2 : Int32) (iO2 : Int32) (tU2 : Int32) (ff2 : Nat → Int32) (fb2 : Nat → Int32) (q : Int32) => some (.int q)) (u.1) (u.2.1) (u.2.2.1) (u.2.2.2.1) (u.2.2.2.2.1) (u.2.2.2.2.2.1) (u.2.2.2.2.2.2.1) (u.2.2.2.2.2.2.2.1) (u.2.2.2.2.2.2.2.2.1) (u.2.2.2.2.2.2.2.2.2.1) (u.2.2.2.2.2.2.2.2.2.2.1) (u.2.2.2.2.2.2.2.2.2.2.2.1) (u.2.2.2.2.2.2.2.2.2.2.2.2)) (fun u : Int32 × (Nat → Int32) × (Nat → Int32) × Int32 × Int32 × Int32 × Int32 × Int32 × Int32 × Int32 × (Nat → Int32) × (Nat → Int32) × Int32 => (fun (th2 : Int32) (fm2 : Nat → Int32) (fa2 : Nat → Int32) (ba2 : Int32) (en2 : Int32) (at2 : Int32) (de2 : Int32) (iD2 : Int32) (iO2 : Int32) (tU2 : Int32) (ff2 : Nat → Int32) (fb2 : Nat → Int32) (q : Int32) => (0 ≤ iO2.toInt ∧ iO2.toInt ≤ 1) ∧ (0 ≤ iD2.toInt ∧ iD2.toInt ≤ 1) ∧ (rM fa2) ∧ (rM fm2) ∧ (fm = fm2)) (u.1) (u.2.1) (u.2.2.1) (u.2.2.2.1) (u.2.2.2.2.1) (u.2.2.2.2.2.1) (u.2.2.2.2.2.2.1) (u.2.2.2.2.2.2.2.1) (u.2.2.2.2.2.2.2.2.1) (u.2.2.2.2.2.2.2.2.2.1) (u.2.2.2.2.2.2.2.2.2.2.1) (u.2.2.2.2.2.2.2.2.2.2.2.1) (u.2.2.2.2.2.2.2.2.2.2.2.2)) (fun u : Int32 × (Nat → Int32) × (Nat → Int32) × Int32 × Int32 × Int32 × Int32 × Int32 × Int32 × Int32 × (Nat → Int32) × (Nat → Int32) × Int32 => (fun (th2 : Int32) (fm2 : Nat → Int32) (fa2 : Nat → Int32) (ba2 : Int32) (en2 : Int32) (at2 : Int32) (de2 : Int32) (iD2 : Int32) (iO2 : Int32) (tU2 : Int32) (ff2 : Nat → Int32) (fb2 : Nat → Int32) (q : Int32) => [bMo g o a th2 hi ac tp ba2 en2 at2 fl de2 iD2 iO2 tU2 fm2 fk fa2 fc ft ff2 fb2 fi]) (u.1) (u.2.1) (u.2.2.1) (u.2.2.2.1) (u.2.2.2.2.1) (u.2.2.2.2.2.1) (u.2.2.2.2.2.2.1) (u.2.2.2.2.2.2.2.1) (u.2.2.2.2.2.2.2.2.1) (u.2.2.2.2.2.2.2.2.2.1) (u.2.2.2.2.2.2.2.2.2.2.1) (u.2.2.2.2.2.2.2.2.2.2.2.1) (u.2.2.2.2.2.2.2.2.2.2.2.2)) := by
  refine zM'.of (cc := cX12_ruin) (maxL := 4) (rt := (some .int)) (by decide) rfl (Nat.le_of_ble_eq_true rfl) ?_
  intro p e s m args below meth c A ls St hr hlocks hin hK hT hA hP hD hS hl
  obtain ⟨hx, hb, hml, hown, hts⟩ := id St
  have hl : lv_has ls 4 [(0, .ref o)] := hl
  have hrm3 := rM3 rfm
  have hrm4 := rM4 rfm
  refine lv_aload_n hx hb dX12_ruin_0 rfl (lv_at hl 0 rfl) ?_
  refine lv_iconst (v := 0) hx hb dX12_ruin_1 (by decide) ?_
  refine va_put (D := g.1) (ci := 10) (v := .int 0) (ty := .int) (C := RX12) (T := TX12) (N := 20) hx hb hts izRX12 tyX12 tyX12_ok nmX12 hown hK hP hD hS 0 rfl rfl 0 (by decide) (hts _ k825) (fun _ h9 => h9) rfl (by decide +kernel) rfl rfl (Nat.le_of_ble_eq_true rfl) dX12_ruin_2 (fun H locs hP hD hS => ?_)
  have hP : va_P g.1 vwCl (List.flatten [bMo g o a 0 hi ac tp ba en tA fl de iD iO tU fm fk fa fc ft ff fb fi]) H := hP
  have hD : va_D A (List.flatten [bMo g o a 0 hi ac tp ba en tA fl de iD iO tU fm fk fa fc ft ff fb fi]) := hD
  refine lv_aload_n hx hb dX12_ruin_5 rfl (lv_at hl 0 rfl) ?_
  refine mcallV' (g := g) (q0 := 0) (ci := 10) (As := []) (rest := []) St hK hT hA hP hD hS hl.1 [0] [] rfl rfl rfl (m_putsAside l g o a 0 hi ac tp ba en tA fl de iD iO tU fm fk fa fc ft ff fb fi rfm rfa) (cwV 0 hts (zgL (zl4 k975 k976 k977 k839) k972) rfl rfl rfl (by decide +kernel) ⟨Nat.le_of_ble_eq_true rfl, Nat.le_of_ble_eq_true rfl⟩) rfl rfl rfl rfl (Nat.le_of_ble_eq_true rfl) dX12_ruin_6 ⟨(Nat.le_of_ble_eq_true rfl), (Nat.le_of_ble_eq_true rfl)⟩ (fun fa2_1 H locs hq2 hP hD hS => ?_)
  replace hq2 : (rM fa2_1) ∧ (zCy fa fa2_1 0 fm 0 379) ∧ ((fa2_1 0).toInt = (fm 0).toInt ∧ (fa2_1 3).toInt = (fm 3).toInt ∧ (fa2_1 4).toInt = (fm 4).toInt) := hq2
  have hP : va_P g.1 vwCl (List.flatten [bMo g o a 0 hi ac tp ba en tA fl de iD iO tU fm fk fa2_1 fc ft ff fb fi]) H := hP
  have hD : va_D A (List.flatten [bMo g o a 0 hi ac tp ba en tA fl de iD iO tU fm fk fa2_1 fc ft ff fb fi]) := hD
  refine W.widen (k := 0) (n := 0) (Nat.le_of_ble_eq_true rfl) (Nat.le_of_ble_eq_true rfl) ?_
  refine W.eq (g2 := F0 m 9 ls []) rfl ?_
  obtain ⟨rfa2_1, hq2_1, hq2_2⟩ := hq2
  refine lv_iconst (v := (-1)) hx hb dX12_ruin_9 (by decide) ?_
  refine lv_istore_n (lv' := [(1, .int (-1)), (0, .ref o)]) hx hb dX12_ruin_10 rfl hl (by decide) rfl (fun ls hl => ?_)
  refine lv_iconst (v := 0) hx hb dX12_ruin_11 (by decide) ?_
  refine lv_istore_n (lv' := [(2, .int 0), (1, .int (-1)), (0, .ref o)]) hx hb dX12_ruin_12 rfl hl (by decide) rfl (fun ls hl => ?_)
  have hl := lv_sub (l' := [(0, .ref o), (1, .int (-1)), (2, .int 0)]) hl [2, 1, 0] rfl
  have LP13_21 : ∀ (kf : Nat) (x_3 : Int32) (x_4 : Int32) (x_5 : Int32) (x_6 : Int32) (x_7 : Int32) (x_8 : Int32) (x_9 : Int32) (x_10 : Int32) (x_11 : Int32) (fm_12 : Nat → Int32) (ff_13 : Nat → Int32) (fb_14 : Nat → Int32), ((-1) ≤ x_3.toInt ∧ x_3.toInt ≤ 100) → (0 ≤ x_4.toInt ∧ x_4.toInt ≤ 101) → (0 ≤ x_9.toInt ∧ x_9.toInt ≤ 1) → (0 ≤ x_10.toInt ∧ x_10.toInt ≤ 1) → (rM fm_12) → (zRg (zV fm_12)) → (zGk fm fm_12) → ∀ (H : Heap) (locs : List Loc) (ls : Array Slot), ((102 - x_4.toInt).toNat) < kf → va_P g.1 vwCl (List.flatten [bMo g o a 0 hi ac tp x_5 x_6 x_7 fl x_8 x_9 x_10 x_11 fm_12 fk fa2_1 fc ft ff_13 fb_14 fi]) H → va_D A (List.flatten [bMo g o a 0 hi ac tp x_5 x_6 x_7 fl x_8 x_9 x_10 x_11 fm_12 fk fa2_1 fc ft ff_13 fb_14 fi]) → va_S A s.heap H locs → lv_has ls 4 [(0, .ref o), (1, .int x_3), (2, .int x_4)] → W p l e ({ frames := 33, cells := 0, slots := 0, locals := 736 } : Room) s m args below meth c H locs (0) (0) (zF g (fun u : Int32 × (Nat → Int32) × (Nat → Int32) × Int32 × Int32 × Int32 × Int32 × Int32 × Int32 × Int32 × (Nat → Int32) × (Nat → Int32) × Int32 => (fun (th2 : Int32) (fm2 : Nat → Int32) (fa2 : Nat → Int32) (ba2 : Int32) (en2 : Int32) (at2 : Int32) (de2 : Int32) (iD2 : Int32) (iO2 : Int32) (tU2 : Int32) (ff2 : Nat → Int32) (fb2 : Nat → Int32) (q : Int32) => some (.int q)) (u.1) (u.2.1) (u.2.2.1) (u.2.2.2.1) (u.2.2.2.2.1) (u.2.2.2.2.2.1) (u.2.2.2.2.2.2.1) (u.2.2.2.2.2.2.2.1) (u.2.2.2.2.2.2.2.2.1) (u.2.2.2.2.2.2.2.2.2.1) (u.2.2.2.2.2.2.2.2.2.2.1) (u.2.2.2.2.2.2.2.2.2.2.2.1) (u.2.2.2.2.2.2.2.2.2.2.2.2)) (fun u : Int32 × (Nat → Int32) × (Nat → Int32) × Int32 × Int32 × Int32 × Int32 × Int32 × Int32 × Int32 × (Nat → Int32) × (Nat → Int32) × Int32 => (fun (th2 : Int32) (fm2 : Nat → Int32) (fa2 : Nat → Int32) (ba2 : Int32) (en2 : Int32) (at2 : Int32) (de2 : Int32) (iD2 : Int32) (iO2 : Int32) (tU2 : Int32) (ff2 : Nat → Int32) (fb2 : Nat → Int32) (q : Int32) => (0 ≤ iO2.toInt ∧ iO2.toInt ≤ 1) ∧ (0 ≤ iD2.toInt ∧ iD2.toInt ≤ 1) ∧ (rM fa2) ∧ (rM fm2) ∧ (fm = fm2)) (u.1) (u.2.1) (u.2.2.1) (u.2.2.2.1) (u.2.2.2.2.1) (u.2.2.2.2.2.1) (u.2.2.2.2.2.2.1) (u.2.2.2.2.2.2.2.1) (u.2.2.2.2.2.2.2.2.1) (u.2.2.2.2.2.2.2.2.2.1) (u.2.2.2.2.2.2.2.2.2.2.1) (u.2.2.2.2.2.2.2.2.2.2.2.1) (u.2.2.2.2.2.2.2.2.2.2.2.2)) (fun u : Int32 × (Nat → Int32) × (Nat → Int32) × Int32 × Int32 × Int32 × Int32 × Int32 × Int32 × Int32 × (Nat → Int32) × (Nat → Int32) × Int32 => (fun (th2 : Int32) (fm2 : Nat → Int32) (fa2 : Nat → Int32) (ba2 : Int32) (en2 : Int32) (at2 : Int32) (de2 : Int32) (iD2 : Int32) (iO2 : Int32) (tU2 : Int32) (ff2 : Nat → Int32) (fb2 : Nat → Int32) (q : Int32) => [bMo g o a th2 hi ac tp ba2 en2 at2 fl de2 iD2 iO2 tU2 fm2 fk fa2 fc ft ff2 fb2 fi]) (u.1) (u.2.1) (u.2.2.1) (u.2.2.2.1) (u.2.2.2.2.1) (u.2.2.2.2.2.1) (u.2.2.2.2.2.2.1) (u.2.2.2.2.2.2.2.1) (u.2.2.2.2.2.2.2.2.1) (u.2.2.2.2.2.2.2.2.2.1) (u.2.2.2.2.2.2.2.2.2.2.1) (u.2.2.2.2.2.2.2.2.2.2.2.1) (u.2.2.2.2.2.2.2.2.2.2.2.2)) ({ frames := 33, cells := 0, slots := 0, locals := 736 } : Room) below args s A) (F0 m 13 ls []) := by
    intro kf
    induction kf with
    | zero => intro x_3 x_4 x_5 x_6 x_7 x_8 x_9 x_10 x_11 fm_12 ff_13 fb_14 i15 i16 i17 i18 rfm_12 i19 i20 H locs ls hk; exact absurd hk (Nat.not_lt_zero _)
    | succ kf ih13_22 =>
      intro x_3 x_4 x_5 x_6 x_7 x_8 x_9 x_10 x_11 fm_12 ff_13 fb_14 i15 i16 i17 i18 rfm_12 i19 i20 H locs ls hk13_22 hP hD hS hl
      refine lv_iload_n hx hb dX12_ruin_13 rfl (lv_at hl 2 rfl) ?_
      refine lv_bipush (v := 100) hx hb dX12_ruin_14 (by decide) ?_
      refine lv_icmp_gt (tgt := 67) hx hb dX12_ruin_16 (by decide) (fun cb9 => ?_) (fun cb9 => ?_)
      · skip
        have c23 : 100 < x_4.toInt := zlti cb9 (by decide) rfl
        have n24 : 101 ≤ x_4.toInt := zL2 (a := 100) c23 (Int.le_refl _) (by decide)
        refine lv_aload_n hx hb dX12_ruin_67 rfl (lv_at hl 0 rfl) ?_
        refine mcallV' (g := g) (q0 := 0) (ci := 10) (As := []) (rest := []) St hK hT hA hP hD hS hl.1 [0] [] rfl rfl rfl (m_comesBack l g o a 0 hi ac tp x_5 x_6 x_7 fl x_8 x_9 x_10 x_11 fm_12 fk fa2_1 fc ft ff_13 fb_14 fi rfm_12 rfa2_1) (cwV 0 hts (zgL (zl4 k984 k985 k986 k839) k973) rfl rfl rfl (by decide +kernel) ⟨Nat.le_of_ble_eq_true rfl, Nat.le_of_ble_eq_true rfl⟩) rfl rfl rfl rfl (Nat.le_of_ble_eq_true rfl) dX12_ruin_68 ⟨(Nat.le_of_ble_eq_true rfl), (Nat.le_of_ble_eq_true rfl)⟩ (fun fm2_25 H locs hq26 hP hD hS => ?_)
        replace hq26 : (rM fm2_25) ∧ (zCy fm_12 fm2_25 0 fa2_1 0 379) ∧ ((fm2_25 0).toInt = (fa2_1 0).toInt ∧ (fm2_25 3).toInt = (fa2_1 3).toInt ∧ (fm2_25 4).toInt = (fa2_1 4).toInt) := hq26
        have hP : va_P g.1 vwCl (List.flatten [bMo g o a 0 hi ac tp x_5 x_6 x_7 fl x_8 x_9 x_10 x_11 fm2_25 fk fa2_1 fc ft ff_13 fb_14 fi]) H := hP
        have hD : va_D A (List.flatten [bMo g o a 0 hi ac tp x_5 x_6 x_7 fl x_8 x_9 x_10 x_11 fm2_25 fk fa2_1 fc ft ff_13 fb_14 fi]) := hD
        refine W.widen (k := 0) (n := 0) (Nat.le_of_ble_eq_true rfl) (Nat.le_of_ble_eq_true rfl) ?_
        refine W.eq (g2 := F0 m 71 ls []) rfl ?_
        obtain ⟨rfm2_25, hq26_1, hq26_2⟩ := hq26
        refine lv_iload_n hx hb dX12_ruin_71 rfl (lv_at hl 1 rfl) ?_
        have hP : va_P g.1 vwCl (List.flatten [bMo g o a 0 hi ac tp x_5 x_6 x_7 fl x_8 x_9 x_10 x_11 fm2_25 fk fa2_1 fc ft ff_13 fb_14 fi]) H := hP
        have hD : va_D A (List.flatten [bMo g o a 0 hi ac tp x_5 x_6 x_7 fl x_8 x_9 x_10 x_11 fm2_25 fk fa2_1 fc ft ff_13 fb_14 fi]) := hD
        exact mret_i hx hb hr hlocks hS (Nat.le_of_ble_eq_true rfl) (Nat.le_of_ble_eq_true rfl) dX12_ruin_72 ((0 : Int32), fm2_25, fa2_1, x_5, x_6, x_7, x_8, x_9, x_10, x_11, ff_13, fb_14, x_3) rfl (show (0 ≤ x_10.toInt ∧ x_10.toInt ≤ 1) ∧ (0 ≤ x_9.toInt ∧ x_9.toInt ≤ 1) ∧ (rM fa2_1) ∧ (rM fm2_25) ∧ (fm = fm2_25) from ⟨(by first | assumption | omega | decide), (by first | assumption | omega | decide), (by first | assumption | omega | decide), (by first | assumption | omega | decide), (zBackD hq2_1 i20 hq26_1)⟩) hP hD
      · skip
        have c27 : x_4.toInt ≤ 100 := zle (Int32.not_lt.mp cb9) rfl (by decide)
        have n28 : x_4.toInt ≤ 100 := Int.le_trans c27 (Int.le_refl _)
        refine lv_iload_n hx hb dX12_ruin_19 rfl (lv_at hl 1 rfl) ?_
        refine lv_iconst (v := (-1)) hx hb dX12_ruin_20 (by decide) ?_
        refine lv_icmp_ne (tgt := 67) hx hb dX12_ruin_21 (by decide) (fun cb9 => ?_) (fun cb9 => ?_)
        · skip
          have c29 : ¬ x_3.toInt = (-1) := zne cb9 rfl (by decide)
          have n30 : 0 ≤ x_3.toInt := zN1 c29 i15.1 (by decide)
          refine lv_aload_n hx hb dX12_ruin_67 rfl (lv_at hl 0 rfl) ?_
          refine mcallV' (g := g) (q0 := 0) (ci := 10) (As := []) (rest := []) St hK hT hA hP hD hS hl.1 [0] [] rfl rfl rfl (m_comesBack l g o a 0 hi ac tp x_5 x_6 x_7 fl x_8 x_9 x_10 x_11 fm_12 fk fa2_1 fc ft ff_13 fb_14 fi rfm_12 rfa2_1) (cwV 0 hts (zgL (zl4 k984 k985 k986 k839) k973) rfl rfl rfl (by decide +kernel) ⟨Nat.le_of_ble_eq_true rfl, Nat.le_of_ble_eq_true rfl⟩) rfl rfl rfl rfl (Nat.le_of_ble_eq_true rfl) dX12_ruin_68 ⟨(Nat.le_of_ble_eq_true rfl), (Nat.le_of_ble_eq_true rfl)⟩ (fun fm2_31 H locs hq32 hP hD hS => ?_)
          replace hq32 : (rM fm2_31) ∧ (zCy fm_12 fm2_31 0 fa2_1 0 379) ∧ ((fm2_31 0).toInt = (fa2_1 0).toInt ∧ (fm2_31 3).toInt = (fa2_1 3).toInt ∧ (fm2_31 4).toInt = (fa2_1 4).toInt) := hq32
          have hP : va_P g.1 vwCl (List.flatten [bMo g o a 0 hi ac tp x_5 x_6 x_7 fl x_8 x_9 x_10 x_11 fm2_31 fk fa2_1 fc ft ff_13 fb_14 fi]) H := hP
          have hD : va_D A (List.flatten [bMo g o a 0 hi ac tp x_5 x_6 x_7 fl x_8 x_9 x_10 x_11 fm2_31 fk fa2_1 fc ft ff_13 fb_14 fi]) := hD
          refine W.widen (k := 0) (n := 0) (Nat.le_of_ble_eq_true rfl) (Nat.le_of_ble_eq_true rfl) ?_
          refine W.eq (g2 := F0 m 71 ls []) rfl ?_
          obtain ⟨rfm2_31, hq32_1, hq32_2⟩ := hq32
          refine lv_iload_n hx hb dX12_ruin_71 rfl (lv_at hl 1 rfl) ?_
          have hP : va_P g.1 vwCl (List.flatten [bMo g o a 0 hi ac tp x_5 x_6 x_7 fl x_8 x_9 x_10 x_11 fm2_31 fk fa2_1 fc ft ff_13 fb_14 fi]) H := hP
          have hD : va_D A (List.flatten [bMo g o a 0 hi ac tp x_5 x_6 x_7 fl x_8 x_9 x_10 x_11 fm2_31 fk fa2_1 fc ft ff_13 fb_14 fi]) := hD
          exact mret_i hx hb hr hlocks hS (Nat.le_of_ble_eq_true rfl) (Nat.le_of_ble_eq_true rfl) dX12_ruin_72 ((0 : Int32), fm2_31, fa2_1, x_5, x_6, x_7, x_8, x_9, x_10, x_11, ff_13, fb_14, x_3) rfl (show (0 ≤ x_10.toInt ∧ x_10.toInt ≤ 1) ∧ (0 ≤ x_9.toInt ∧ x_9.toInt ≤ 1) ∧ (rM fa2_1) ∧ (rM fm2_31) ∧ (fm = fm2_31) from ⟨(by first | assumption | omega | decide), (by first | assumption | omega | decide), (by first | assumption | omega | decide), (by first | assumption | omega | decide), (zBackD hq2_1 i20 hq32_1)⟩) hP hD
        · skip
          have c33 : x_3.toInt = (-1) := zeq cb9 rfl (by decide)
          have n34 : x_3.toInt ≤ (-1) := Int.le_trans (Int.le_of_eq c33) (Int.le_refl _)
          refine lv_aload_n hx hb dX12_ruin_24 rfl (lv_at hl 0 rfl) ?_
          refine mcallV' (g := g) (q0 := 0) (ci := 10) (As := []) (rest := []) St hK hT hA hP hD hS hl.1 [0] [] rfl rfl rfl (m_hereOnesG l g o a 0 hi ac tp x_5 x_6 x_7 fl x_8 x_9 x_10 x_11 fm_12 fk fa2_1 fc ft ff_13 fb_14 fi rfm_12) (cwV 0 hts (zgL (zl4 k851 k852 k853 k839) k845) rfl rfl rfl (by decide +kernel) ⟨Nat.le_of_ble_eq_true rfl, Nat.le_of_ble_eq_true rfl⟩) rfl rfl rfl rfl (Nat.le_of_ble_eq_true rfl) dX12_ruin_25 ⟨(Nat.le_of_ble_eq_true rfl), (Nat.le_of_ble_eq_true rfl)⟩ (fun _u H locs hq35 hP hD hS => ?_)
          have hP : va_P g.1 vwCl (List.flatten [bMo g o a 0 hi ac tp x_5 x_6 x_7 fl x_8 x_9 x_10 x_11 fm_12 fk fa2_1 fc ft ff_13 fb_14 fi]) H := hP
          have hD : va_D A (List.flatten [bMo g o a 0 hi ac tp x_5 x_6 x_7 fl x_8 x_9 x_10 x_11 fm_12 fk fa2_1 fc ft ff_13 fb_14 fi]) := hD
          refine W.widen (k := 0) (n := 0) (Nat.le_of_ble_eq_true rfl) (Nat.le_of_ble_eq_true rfl) ?_
          refine W.eq (g2 := F0 m 28 ls [.int (zHs (zV fm_12) (fm_12 3).toInt.toNat)]) rfl ?_
          refine lv_if_eq (tgt := 54) hx hb dX12_ruin_28 (by decide) (fun cb9 => ?_) (fun cb9 => ?_)
          · skip
            have c36 : (zHs (zV fm_12) (fm_12 3).toInt.toNat).toInt = 0 := zeq cb9 rfl (by decide)
            have n37 : 0 ≤ (zHs (zV fm_12) (fm_12 3).toInt.toNat).toInt := Int.le_trans (Int.le_refl _) (Int.le_of_eq c36.symm)
            have n38 : (zHs (zV fm_12) (fm_12 3).toInt.toNat).toInt ≤ 0 := Int.le_trans (Int.le_of_eq c36) (Int.le_refl _)
            refine lv_aload_n hx hb dX12_ruin_54 rfl (lv_at hl 0 rfl) ?_
            refine lv_iconst (v := 1) hx hb dX12_ruin_55 (by decide) ?_
            refine lv_iconst (v := 0) hx hb dX12_ruin_56 (by decide) ?_
            have hL1 : (1 : Int32).toInt = 1 := by decide
            refine mcallV' (g := g) (q0 := 0) (ci := 10) (As := [.int 1, .int 0]) (rest := []) St hK hT hA hP hD hS hl.1 [0] [] rfl rfl rfl (m_goes0G l g o a 0 hi ac tp x_5 x_6 x_7 fl x_8 x_9 x_10 x_11 fm_12 fk fa2_1 fc ft ff_13 fb_14 fi 1 L rfm_12 (by first | assumption | omega | decide) (by first | assumption | omega | decide) (by first | assumption | omega | decide) i19 (zLm_k hL i20)) (cwV 2 hts (zgL (zl4 k1057 k1058 k1059 k839) k1028) rfl rfl rfl (by decide +kernel) ⟨Nat.le_of_ble_eq_true rfl, Nat.le_of_ble_eq_true rfl⟩) rfl rfl rfl rfl (Nat.le_of_ble_eq_true rfl) dX12_ruin_57 ⟨(Nat.le_of_ble_eq_true rfl), (Nat.le_of_ble_eq_true rfl)⟩ (fun u_ H locs hq50 hP hD hS => ?_)
            obtain ⟨ba2_39, en2_40, at2_41, de2_42, iD2_43, iO2_44, tU2_45, ff2_46, fm2_47, fb2_48, q_49⟩ := u_
            replace hq50 : (rM fm2_47) ∧ (0 ≤ iO2_44.toInt ∧ iO2_44.toInt ≤ 1) ∧ (0 ≤ iD2_43.toInt ∧ iD2_43.toInt ≤ 1) ∧ (zNR ((fm2_47 5, fm2_47 8, fm2_47 10, zV fm2_47), q_49) (zNds L (fm_12 3).toInt.toNat (fm_12 4).toInt.toNat (fm_12 7) 0 (1 : Int32).toInt.toNat (fm_12 5, fm_12 8, fm_12 10, zV fm_12))) ∧ (zGk fm_12 fm2_47) := hq50
            have hP : va_P g.1 vwCl (List.flatten [bMo g o a 0 hi ac tp ba2_39 en2_40 at2_41 fl de2_42 iD2_43 iO2_44 tU2_45 fm2_47 fk fa2_1 fc ft ff2_46 fb2_48 fi]) H := hP
            have hD : va_D A (List.flatten [bMo g o a 0 hi ac tp ba2_39 en2_40 at2_41 fl de2_42 iD2_43 iO2_44 tU2_45 fm2_47 fk fa2_1 fc ft ff2_46 fb2_48 fi]) := hD
            refine W.widen (k := 0) (n := 0) (Nat.le_of_ble_eq_true rfl) (Nat.le_of_ble_eq_true rfl) ?_
            refine W.eq (g2 := F0 m 60 ls [.int q_49]) rfl ?_
            obtain ⟨rfm2_47, hq50_1, hq50_2, hq50_3, hq50_4⟩ := hq50
            have rg51 : zRg (zV fm2_47) := zRg_go hq50_3 i19
            have gk52 : zGk fm fm2_47 := zGk_t i20 hq50_4
            refine lv_istore_n (lv' := [(3, .int q_49), (0, .ref o), (1, .int x_3), (2, .int x_4)]) hx hb dX12_ruin_60 rfl hl (by decide) rfl (fun ls hl => ?_)
            refine ziinc3 (n' := 1) (a' := 1) (b' := 101) (lv' := fun v9 => [(2, .int v9), (3, .int q_49), (0, .ref o), (1, .int x_3)]) hx hb dX12_ruin_61 hl (k := 3) rfl (by decide) (fun _ => rfl) (zaddK (i := x_4.toInt) (j := 1) rfl (by decide) i16.1 n28 (Int.le_refl _) (Int.le_refl _) (by decide)) (fun x_53 ls hx_53 hl => ?_)
            refine lv_goto (tgt := 13) hx hb dX12_ruin_64 (by decide) ?_
            have hl := lv_sub (l' := [(0, .ref o), (1, .int x_3), (2, .int x_53), (3, .int q_49)]) hl [2, 3, 0, 1] rfl
            have hP : va_P g.1 vwCl (List.flatten [bMo g o a 0 hi ac tp ba2_39 en2_40 at2_41 fl de2_42 iD2_43 iO2_44 tU2_45 fm2_47 fk fa2_1 fc ft ff2_46 fb2_48 fi]) H := hP
            have hD : va_D A (List.flatten [bMo g o a 0 hi ac tp ba2_39 en2_40 at2_41 fl de2_42 iD2_43 iO2_44 tU2_45 fm2_47 fk fa2_1 fc ft ff2_46 fb2_48 fi]) := hD
            exact ih13_22 x_3 x_53 ba2_39 en2_40 at2_41 de2_42 iD2_43 iO2_44 tU2_45 fm2_47 ff2_46 fb2_48 ⟨i15.1, (Int.le_trans n34 (by decide))⟩ ⟨(Int.le_trans (by decide) hx_53.2.1), hx_53.2.2⟩ ⟨hq50_2.1, hq50_2.2⟩ ⟨hq50_1.1, hq50_1.2⟩ rfm2_47 rg51 gk52 H _ ls (zmK hx_53.1 (by decide) n28 (by decide) hk13_22)  hP hD hS (lv_sub hl [0, 1, 2] rfl)
          · skip
            have c54 : ¬ (zHs (zV fm_12) (fm_12 3).toInt.toNat).toInt = 0 := zne cb9 rfl (by decide)
            refine lv_iconst (v := 3) hx hb dX12_ruin_31 (by decide) ?_
            refine lv_aload_n hx hb dX12_ruin_32 rfl (lv_at hl 0 rfl) ?_
            refine mcallV' (g := g) (q0 := 0) (ci := 10) (As := []) (rest := [.int 3]) St hK hT hA hP hD hS hl.1 [0] [] rfl rfl rfl (m_doubtsNow l g o a 0 hi ac tp x_5 x_6 x_7 fl x_8 x_9 x_10 x_11 fm_12 fk fa2_1 fc ft ff_13 fb_14 fi rfm_12) (cwV 0 hts (zgL (zl4 k1075 k1076 k1077 k839) k1073) rfl rfl rfl (by decide +kernel) ⟨Nat.le_of_ble_eq_true rfl, Nat.le_of_ble_eq_true rfl⟩) rfl rfl rfl rfl (Nat.le_of_ble_eq_true rfl) dX12_ruin_33 ⟨(Nat.le_of_ble_eq_true rfl), (Nat.le_of_ble_eq_true rfl)⟩ (fun q_55 H locs hq56 hP hD hS => ?_)
            have hP : va_P g.1 vwCl (List.flatten [bMo g o a 0 hi ac tp x_5 x_6 x_7 fl x_8 x_9 x_10 x_11 fm_12 fk fa2_1 fc ft ff_13 fb_14 fi]) H := hP
            have hD : va_D A (List.flatten [bMo g o a 0 hi ac tp x_5 x_6 x_7 fl x_8 x_9 x_10 x_11 fm_12 fk fa2_1 fc ft ff_13 fb_14 fi]) := hD
            refine W.widen (k := 0) (n := 0) (Nat.le_of_ble_eq_true rfl) (Nat.le_of_ble_eq_true rfl) ?_
            refine W.eq (g2 := F0 m 36 ls [.int q_55, .int 3]) rfl ?_
            refine mcallS' (g := g) (As := [.int q_55]) (rest := [.int 3]) St hK hT hA hP hD hS hl.1 [] [0] rfl rfl rfl (m_bitsF l g q_55 ) (va_cwS 1 hts (zgL (zl3 k854 k855 k839) k830) rfl rfl rfl (by decide +kernel) ⟨Nat.le_of_ble_eq_true rfl, Nat.le_of_ble_eq_true rfl⟩) rfl rfl (Nat.le_of_ble_eq_true rfl) dX12_ruin_36 ⟨(Nat.le_of_ble_eq_true rfl), (Nat.le_of_ble_eq_true rfl)⟩ (fun _u H locs hq57 hP hD hS => ?_)
            have hP : va_P g.1 vwCl (List.flatten [bMo g o a 0 hi ac tp x_5 x_6 x_7 fl x_8 x_9 x_10 x_11 fm_12 fk fa2_1 fc ft ff_13 fb_14 fi]) H := hP
            have hD : va_D A (List.flatten [bMo g o a 0 hi ac tp x_5 x_6 x_7 fl x_8 x_9 x_10 x_11 fm_12 fk fa2_1 fc ft ff_13 fb_14 fi]) := hD
            refine W.widen (k := 0) (n := 0) (Nat.le_of_ble_eq_true rfl) (Nat.le_of_ble_eq_true rfl) ?_
            refine W.eq (g2 := F0 m 39 ls [.int (zPop q_55), .int 3]) rfl ?_
            refine lv_imul hx hb dX12_ruin_39 ?_
            refine lv_iconst (v := 2) hx hb dX12_ruin_40 (by decide) ?_
            refine lv_aload_n hx hb dX12_ruin_41 rfl (lv_at hl 0 rfl) ?_
            refine mcallV' (g := g) (q0 := 0) (ci := 10) (As := []) (rest := [.int 2, .int (3 * (zPop q_55))]) St hK hT hA hP hD hS hl.1 [0] [] rfl rfl rfl (m_hereOnesG l g o a 0 hi ac tp x_5 x_6 x_7 fl x_8 x_9 x_10 x_11 fm_12 fk fa2_1 fc ft ff_13 fb_14 fi rfm_12) (cwV 0 hts (zgL (zl4 k851 k852 k853 k839) k845) rfl rfl rfl (by decide +kernel) ⟨Nat.le_of_ble_eq_true rfl, Nat.le_of_ble_eq_true rfl⟩) rfl rfl rfl rfl (Nat.le_of_ble_eq_true rfl) dX12_ruin_42 ⟨(Nat.le_of_ble_eq_true rfl), (Nat.le_of_ble_eq_true rfl)⟩ (fun _u H locs hq58 hP hD hS => ?_)
            have hP : va_P g.1 vwCl (List.flatten [bMo g o a 0 hi ac tp x_5 x_6 x_7 fl x_8 x_9 x_10 x_11 fm_12 fk fa2_1 fc ft ff_13 fb_14 fi]) H := hP
            have hD : va_D A (List.flatten [bMo g o a 0 hi ac tp x_5 x_6 x_7 fl x_8 x_9 x_10 x_11 fm_12 fk fa2_1 fc ft ff_13 fb_14 fi]) := hD
            refine W.widen (k := 0) (n := 0) (Nat.le_of_ble_eq_true rfl) (Nat.le_of_ble_eq_true rfl) ?_
            refine W.eq (g2 := F0 m 45 ls [.int (zHs (zV fm_12) (fm_12 3).toInt.toNat), .int 2, .int (3 * (zPop q_55))]) rfl ?_
            refine mcallS' (g := g) (As := [.int (zHs (zV fm_12) (fm_12 3).toInt.toNat)]) (rest := [.int 2, .int (3 * (zPop q_55))]) St hK hT hA hP hD hS hl.1 [] [0] rfl rfl rfl (m_bitsF l g (zHs (zV fm_12) (fm_12 3).toInt.toNat) ) (va_cwS 1 hts (zgL (zl3 k854 k855 k839) k830) rfl rfl rfl (by decide +kernel) ⟨Nat.le_of_ble_eq_true rfl, Nat.le_of_ble_eq_true rfl⟩) rfl rfl (Nat.le_of_ble_eq_true rfl) dX12_ruin_45 ⟨(Nat.le_of_ble_eq_true rfl), (Nat.le_of_ble_eq_true rfl)⟩ (fun _u H locs hq59 hP hD hS => ?_)
            have hP : va_P g.1 vwCl (List.flatten [bMo g o a 0 hi ac tp x_5 x_6 x_7 fl x_8 x_9 x_10 x_11 fm_12 fk fa2_1 fc ft ff_13 fb_14 fi]) H := hP
            have hD : va_D A (List.flatten [bMo g o a 0 hi ac tp x_5 x_6 x_7 fl x_8 x_9 x_10 x_11 fm_12 fk fa2_1 fc ft ff_13 fb_14 fi]) := hD
            refine W.widen (k := 0) (n := 0) (Nat.le_of_ble_eq_true rfl) (Nat.le_of_ble_eq_true rfl) ?_
            refine W.eq (g2 := F0 m 48 ls [.int (zPop (zHs (zV fm_12) (fm_12 3).toInt.toNat)), .int 2, .int (3 * (zPop q_55))]) rfl ?_
            refine lv_imul hx hb dX12_ruin_48 ?_
            refine lv_icmp_lt (tgt := 54) hx hb dX12_ruin_49 (by decide) (fun cb9 => ?_) (fun cb9 => ?_)
            · skip
              have c60 : (3 * (zPop q_55)).toInt < (2 * (zPop (zHs (zV fm_12) (fm_12 3).toInt.toNat))).toInt := zlti cb9 rfl rfl
              refine lv_aload_n hx hb dX12_ruin_54 rfl (lv_at hl 0 rfl) ?_
              refine lv_iconst (v := 1) hx hb dX12_ruin_55 (by decide) ?_
              refine lv_iconst (v := 0) hx hb dX12_ruin_56 (by decide) ?_
              have hL1 : (1 : Int32).toInt = 1 := by decide
              refine mcallV' (g := g) (q0 := 0) (ci := 10) (As := [.int 1, .int 0]) (rest := []) St hK hT hA hP hD hS hl.1 [0] [] rfl rfl rfl (m_goes0G l g o a 0 hi ac tp x_5 x_6 x_7 fl x_8 x_9 x_10 x_11 fm_12 fk fa2_1 fc ft ff_13 fb_14 fi 1 L rfm_12 (by first | assumption | omega | decide) (by first | assumption | omega | decide) (by first | assumption | omega | decide) i19 (zLm_k hL i20)) (cwV 2 hts (zgL (zl4 k1057 k1058 k1059 k839) k1028) rfl rfl rfl (by decide +kernel) ⟨Nat.le_of_ble_eq_true rfl, Nat.le_of_ble_eq_true rfl⟩) rfl rfl rfl rfl (Nat.le_of_ble_eq_true rfl) dX12_ruin_57 ⟨(Nat.le_of_ble_eq_true rfl), (Nat.le_of_ble_eq_true rfl)⟩ (fun u_ H locs hq72 hP hD hS => ?_)
              obtain ⟨ba2_61, en2_62, at2_63, de2_64, iD2_65, iO2_66, tU2_67, ff2_68, fm2_69, fb2_70, q_71⟩ := u_
              replace hq72 : (rM fm2_69) ∧ (0 ≤ iO2_66.toInt ∧ iO2_66.toInt ≤ 1) ∧ (0 ≤ iD2_65.toInt ∧ iD2_65.toInt ≤ 1) ∧ (zNR ((fm2_69 5, fm2_69 8, fm2_69 10, zV fm2_69), q_71) (zNds L (fm_12 3).toInt.toNat (fm_12 4).toInt.toNat (fm_12 7) 0 (1 : Int32).toInt.toNat (fm_12 5, fm_12 8, fm_12 10, zV fm_12))) ∧ (zGk fm_12 fm2_69) := hq72
              have hP : va_P g.1 vwCl (List.flatten [bMo g o a 0 hi ac tp ba2_61 en2_62 at2_63 fl de2_64 iD2_65 iO2_66 tU2_67 fm2_69 fk fa2_1 fc ft ff2_68 fb2_70 fi]) H := hP
              have hD : va_D A (List.flatten [bMo g o a 0 hi ac tp ba2_61 en2_62 at2_63 fl de2_64 iD2_65 iO2_66 tU2_67 fm2_69 fk fa2_1 fc ft ff2_68 fb2_70 fi]) := hD
              refine W.widen (k := 0) (n := 0) (Nat.le_of_ble_eq_true rfl) (Nat.le_of_ble_eq_true rfl) ?_
              refine W.eq (g2 := F0 m 60 ls [.int q_71]) rfl ?_
              obtain ⟨rfm2_69, hq72_1, hq72_2, hq72_3, hq72_4⟩ := hq72
              have rg73 : zRg (zV fm2_69) := zRg_go hq72_3 i19
              have gk74 : zGk fm fm2_69 := zGk_t i20 hq72_4
              refine lv_istore_n (lv' := [(3, .int q_71), (0, .ref o), (1, .int x_3), (2, .int x_4)]) hx hb dX12_ruin_60 rfl hl (by decide) rfl (fun ls hl => ?_)
              refine ziinc3 (n' := 1) (a' := 1) (b' := 101) (lv' := fun v9 => [(2, .int v9), (3, .int q_71), (0, .ref o), (1, .int x_3)]) hx hb dX12_ruin_61 hl (k := 3) rfl (by decide) (fun _ => rfl) (zaddK (i := x_4.toInt) (j := 1) rfl (by decide) i16.1 n28 (Int.le_refl _) (Int.le_refl _) (by decide)) (fun x_75 ls hx_75 hl => ?_)
              refine lv_goto (tgt := 13) hx hb dX12_ruin_64 (by decide) ?_
              have hl := lv_sub (l' := [(0, .ref o), (1, .int x_3), (2, .int x_75), (3, .int q_71)]) hl [2, 3, 0, 1] rfl
              have hP : va_P g.1 vwCl (List.flatten [bMo g o a 0 hi ac tp ba2_61 en2_62 at2_63 fl de2_64 iD2_65 iO2_66 tU2_67 fm2_69 fk fa2_1 fc ft ff2_68 fb2_70 fi]) H := hP
              have hD : va_D A (List.flatten [bMo g o a 0 hi ac tp ba2_61 en2_62 at2_63 fl de2_64 iD2_65 iO2_66 tU2_67 fm2_69 fk fa2_1 fc ft ff2_68 fb2_70 fi]) := hD
              exact ih13_22 x_3 x_75 ba2_61 en2_62 at2_63 de2_64 iD2_65 iO2_66 tU2_67 fm2_69 ff2_68 fb2_70 ⟨i15.1, (Int.le_trans n34 (by decide))⟩ ⟨(Int.le_trans (by decide) hx_75.2.1), hx_75.2.2⟩ ⟨hq72_2.1, hq72_2.2⟩ ⟨hq72_1.1, hq72_1.2⟩ rfm2_69 rg73 gk74 H _ ls (zmK hx_75.1 (by decide) n28 (by decide) hk13_22)  hP hD hS (lv_sub hl [0, 1, 2] rfl)
            · skip
              have c76 : (2 * (zPop (zHs (zV fm_12) (fm_12 3).toInt.toNat))).toInt ≤ (3 * (zPop q_55)).toInt := zle (Int32.not_lt.mp cb9) rfl rfl
              refine lv_iload_n hx hb dX12_ruin_52 rfl (lv_at hl 2 rfl) ?_
              refine lv_istore_n (lv' := [(1, .int x_4), (0, .ref o), (2, .int x_4)]) hx hb dX12_ruin_53 rfl hl (by decide) rfl (fun ls hl => ?_)
              refine lv_aload_n hx hb dX12_ruin_54 rfl (lv_at hl 1 rfl) ?_
              refine lv_iconst (v := 1) hx hb dX12_ruin_55 (by decide) ?_
              refine lv_iconst (v := 0) hx hb dX12_ruin_56 (by decide) ?_
              have hL1 : (1 : Int32).toInt = 1 := by decide
              refine mcallV' (g := g) (q0 := 0) (ci := 10) (As := [.int 1, .int 0]) (rest := []) St hK hT hA hP hD hS hl.1 [0] [] rfl rfl rfl (m_goes0G l g o a 0 hi ac tp x_5 x_6 x_7 fl x_8 x_9 x_10 x_11 fm_12 fk fa2_1 fc ft ff_13 fb_14 fi 1 L rfm_12 (by first | assumption | omega | decide) (by first | assumption | omega | decide) (by first | assumption | omega | decide) i19 (zLm_k hL i20)) (cwV 2 hts (zgL (zl4 k1057 k1058 k1059 k839) k1028) rfl rfl rfl (by decide +kernel) ⟨Nat.le_of_ble_eq_true rfl, Nat.le_of_ble_eq_true rfl⟩) rfl rfl rfl rfl (Nat.le_of_ble_eq_true rfl) dX12_ruin_57 ⟨(Nat.le_of_ble_eq_true rfl), (Nat.le_of_ble_eq_true rfl)⟩ (fun u_ H locs hq88 hP hD hS => ?_)
              obtain ⟨ba2_77, en2_78, at2_79, de2_80, iD2_81, iO2_82, tU2_83, ff2_84, fm2_85, fb2_86, q_87⟩ := u_
              replace hq88 : (rM fm2_85) ∧ (0 ≤ iO2_82.toInt ∧ iO2_82.toInt ≤ 1) ∧ (0 ≤ iD2_81.toInt ∧ iD2_81.toInt ≤ 1) ∧ (zNR ((fm2_85 5, fm2_85 8, fm2_85 10, zV fm2_85), q_87) (zNds L (fm_12 3).toInt.toNat (fm_12 4).toInt.toNat (fm_12 7) 0 (1 : Int32).toInt.toNat (fm_12 5, fm_12 8, fm_12 10, zV fm_12))) ∧ (zGk fm_12 fm2_85) := hq88
              have hP : va_P g.1 vwCl (List.flatten [bMo g o a 0 hi ac tp ba2_77 en2_78 at2_79 fl de2_80 iD2_81 iO2_82 tU2_83 fm2_85 fk fa2_1 fc ft ff2_84 fb2_86 fi]) H := hP
              have hD : va_D A (List.flatten [bMo g o a 0 hi ac tp ba2_77 en2_78 at2_79 fl de2_80 iD2_81 iO2_82 tU2_83 fm2_85 fk fa2_1 fc ft ff2_84 fb2_86 fi]) := hD
              refine W.widen (k := 0) (n := 0) (Nat.le_of_ble_eq_true rfl) (Nat.le_of_ble_eq_true rfl) ?_
              refine W.eq (g2 := F0 m 60 ls [.int q_87]) rfl ?_
              obtain ⟨rfm2_85, hq88_1, hq88_2, hq88_3, hq88_4⟩ := hq88
              have rg89 : zRg (zV fm2_85) := zRg_go hq88_3 i19
              have gk90 : zGk fm fm2_85 := zGk_t i20 hq88_4
              refine lv_istore_n (lv' := [(3, .int q_87), (1, .int x_4), (0, .ref o), (2, .int x_4)]) hx hb dX12_ruin_60 rfl hl (by decide) rfl (fun ls hl => ?_)
              refine ziinc3 (n' := 1) (a' := 1) (b' := 101) (lv' := fun v9 => [(2, .int v9), (3, .int q_87), (1, .int x_4), (0, .ref o)]) hx hb dX12_ruin_61 hl (k := 3) rfl (by decide) (fun _ => rfl) (zaddK (i := x_4.toInt) (j := 1) rfl (by decide) i16.1 n28 (Int.le_refl _) (Int.le_refl _) (by decide)) (fun x_91 ls hx_91 hl => ?_)
              refine lv_goto (tgt := 13) hx hb dX12_ruin_64 (by decide) ?_
              have hl := lv_sub (l' := [(0, .ref o), (1, .int x_4), (2, .int x_91), (3, .int q_87)]) hl [3, 2, 0, 1] rfl
              have hP : va_P g.1 vwCl (List.flatten [bMo g o a 0 hi ac tp ba2_77 en2_78 at2_79 fl de2_80 iD2_81 iO2_82 tU2_83 fm2_85 fk fa2_1 fc ft ff2_84 fb2_86 fi]) H := hP
              have hD : va_D A (List.flatten [bMo g o a 0 hi ac tp ba2_77 en2_78 at2_79 fl de2_80 iD2_81 iO2_82 tU2_83 fm2_85 fk fa2_1 fc ft ff2_84 fb2_86 fi]) := hD
              exact ih13_22 x_4 x_91 ba2_77 en2_78 at2_79 de2_80 iD2_81 iO2_82 tU2_83 fm2_85 ff2_84 fb2_86 ⟨(Int.le_trans (by decide) i16.1), n28⟩ ⟨(Int.le_trans (by decide) hx_91.2.1), hx_91.2.2⟩ ⟨hq88_2.1, hq88_2.2⟩ ⟨hq88_1.1, hq88_1.2⟩ rfm2_85 rg89 gk90 H _ ls (zmK hx_91.1 (by decide) n28 (by decide) hk13_22)  hP hD hS (lv_sub hl [0, 1, 2] rfl)
  have hLn1 : ((-1) : Int32).toInt = (-1) := by decide
  have hL0 : (0 : Int32).toInt = 0 := by decide
  have hP : va_P g.1 vwCl (List.flatten [bMo g o a 0 hi ac tp ba en tA fl de iD iO tU fm fk fa2_1 fc ft ff fb fi]) H := hP
  have hD : va_D A (List.flatten [bMo g o a 0 hi ac tp ba en tA fl de iD iO tU fm fk fa2_1 fc ft ff fb fi]) := hD
  exact LP13_21 _ (-1) 0 ba en tA de iD iO tU fm ff fb (by decide) (by decide) ⟨hiD.1, hiD.2⟩ ⟨hiO.1, hiO.2⟩ rfm hrg (zGk_r _) H _ ls (Nat.lt_succ_self _)  hP hD hS (lv_sub hl [0, 1, 2] rfl)
set_option maxRecDepth 100000 in
set_option maxHeartbeats 4000000 in
theorem m_lastC (l : Launch) (g : zG) (o : Nat) (a : Nat → Nat) (th : Int32) (hi : Int32) (ac : Int32) (tp : Int32) (ba : Int32) (en : Int32) (tA : Int32) (fl : Int32) (de : Int32) (iD : Int32) (iO : Int32) (tU : Int32) (fm : Nat → Int32) (fk : Nat → Int32) (fa : Nat → Int32) (fc : Nat → Int32) (ft : Nat → Int32) (ff : Nat → Int32) (fb : Nat → Int32) (fi : Nat → Int32) (w : Int32) (L : zLw) (rfm : rM fm) (rfa : rM fa) (hiD : 0 ≤ iD.toInt ∧ iD.toInt ≤ 1) (hiO : 0 ≤ iO.toInt ∧ iO.toInt ≤ 1) (hrg : zRg (zV fm)) (hL : zLm L fm) : zM' g l yX12_last (Cond.code yX12_last cX12_last 5 (some .int) :: zB) ({ frames := 33, cells := 0, slots := 0, locals := 736 } : Room) [.ref o, .int w] [bMo g o a th hi ac tp ba en tA fl de iD iO tU fm fk fa fc ft ff fb fi] (fun u : Int32 × (Nat → Int32) × (Nat → Int32) × Int32 × Int32 × Int32 × Int32 × Int32 × Int32 × Int32 × (Nat → Int32) × (Nat → Int32) × Int32 => (fun (th2 : Int32) (fm2 : Nat → Int32) (fa2 : Nat → Int32) (ba2 : Int32) (en2 : Int32) (at2 : Int32) (de2 : Int32) (iD2 : Int32) (iO2 : Int32) (tU2 : Int32) (ff2 : Nat → Int32) (fb2 : Nat → Int32) (q : Int32) => some (.int q)) (u.1) (u.2.1) (u.2.2.1) (u.2.2.2.1) (u.2.2.2.2.1) (u.2.2.2.2.2.1) (u.2.2.2.2.2.2.1) (u.2.2.2.2.2.2.2.1) (u.2.2.2.2.2.2.2.2.1) (u.2.2.2.2.2.2.2.2.2.1) (u.2.2.2.2.2.2.2.2.2.2.1) (u.2.2.2.2.2.2.2.2.2.2.2.1) (u.2.2.2.2.2.2.2.2.2.2.2.2)) (fun u : Int32 × (Nat → Int32) × (Nat → Int32) × Int32 × Int32 × Int32 × Int32 × Int32 × Int32 × Int32 × (Nat → Int32) × (Nat → Int32) × Int32 => (fun (th2 : Int32) (fm2 : Nat → Int32) (fa2 : Nat → Int32) (ba2 : Int32) (en2 : Int32) (at2 : Int32) (de2 : Int32) (iD2 : Int32) (iO2 : Int32) (tU2 : Int32) (ff2 : Nat → Int32) (fb2 : Nat → Int32) (q : Int32) => (0 ≤ iO2.toInt ∧ iO2.toInt ≤ 1) ∧ (0 ≤ iD2.toInt ∧ iD2.toInt ≤ 1) ∧ (rM fa2) ∧ (rM fm2) ∧ (fm = fm2)) (u.1) (u.2.1) (u.2.2.1) (u.2.2.2.1) (u.2.2.2.2.1) (u.2.2.2.2.2.1) (u.2.2.2.2.2.2.1) (u.2.2.2.2.2.2.2.1) (u.2.2.2.2.2.2.2.2.1) (u.2.2.2.2.2.2.2.2.2.1) (u.2.2.2.2.2.2.2.2.2.2.1) (u.2.2.2.2.2.2.2.2.2.2.2.1) (u.2.2.2.2.2.2.2.2.2.2.2.2)) (fun u : Int32 × (Nat → Int32) × (Nat → Int32) × Int32 × Int32 × Int32 × Int32 × Int32 × Int32 × Int32 × (Nat → Int32) × (Nat → Int32) × Int32 => (fun (th2 : Int32) (fm2 : Nat → Int32) (fa2 : Nat → Int32) (ba2 : Int32) (en2 : Int32) (at2 : Int32) (de2 : Int32) (iD2 : Int32) (iO2 : Int32) (tU2 : Int32) (ff2 : Nat → Int32) (fb2 : Nat → Int32) (q : Int32) => [bMo g o a th2 hi ac tp ba2 en2 at2 fl de2 iD2 iO2 tU2 fm2 fk fa2 fc ft ff2 fb2 fi]) (u.1) (u.2.1) (u.2.2.1) (u.2.2.2.1) (u.2.2.2.2.1) (u.2.2.2.2.2.1) (u.2.2.2.2.2.2.1) (u.2.2.2.2.2.2.2.1) (u.2.2.2.2.2.2.2.2.1) (u.2.2.2.2.2.2.2.2.2.1) (u.2.2.2.2.2.2.2.2.2.2.1) (u.2.2.2.2.2.2.2.2.2.2.2.1) (u.2.2.2.2.2.2.2.2.2.2.2.2)) := by
  refine zM'.of (cc := cX12_last) (maxL := 5) (rt := (some .int)) (by decide) rfl (Nat.le_of_ble_eq_true rfl) ?_
  intro p e s m args below meth c A ls St hr hlocks hin hK hT hA hP hD hS hl
  obtain ⟨hx, hb, hml, hown, hts⟩ := id St
  have hl : lv_has ls 5 [(0, .ref o), (1, .int w)] := hl
  have hrm3 := rM3 rfm
  have hrm4 := rM4 rfm
  refine lv_aload_n hx hb dX12_last_0 rfl (lv_at hl 0 rfl) ?_
  refine lv_aload_n hx hb dX12_last_1 rfl (lv_at hl 0 rfl) ?_
  refine lv_iload_n hx hb dX12_last_2 rfl (lv_at hl 1 rfl) ?_
  refine mcallV' (g := g) (q0 := 0) (ci := 10) (As := [.int w]) (rest := [.ref o]) St hK hT hA hP hD hS hl.1 [0] [] rfl rfl rfl (m_isWorkG l g o a th hi ac tp ba en tA fl de iD iO tU fm fk fa fc ft ff fb fi w rfm) (cwV 1 hts (zgL (zl4 k1042 k1043 k1044 k839) k840) rfl rfl rfl (by decide +kernel) ⟨Nat.le_of_ble_eq_true rfl, Nat.le_of_ble_eq_true rfl⟩) rfl rfl rfl rfl (Nat.le_of_ble_eq_true rfl) dX12_last_3 ⟨(Nat.le_of_ble_eq_true rfl), (Nat.le_of_ble_eq_true rfl)⟩ (fun q_1 H locs hq2 hP hD hS => ?_)
  replace hq2 : (q_1 = 1 ∧ 0 ≤ w.toInt ∧ w.toInt ≤ 5 ∧ w.toInt < (fm 4).toInt ∨ q_1 = 0 ∧ ¬ (0 ≤ w.toInt ∧ w.toInt < (fm 4).toInt)) := hq2
  have hP : va_P g.1 vwCl (List.flatten [bMo g o a th hi ac tp ba en tA fl de iD iO tU fm fk fa fc ft ff fb fi]) H := hP
  have hD : va_D A (List.flatten [bMo g o a th hi ac tp ba en tA fl de iD iO tU fm fk fa fc ft ff fb fi]) := hD
  refine W.widen (k := 0) (n := 0) (Nat.le_of_ble_eq_true rfl) (Nat.le_of_ble_eq_true rfl) ?_
  refine W.eq (g2 := F0 m 6 ls [.int q_1, .ref o]) rfl ?_
  rcases hq2 with ⟨rfl, hq2_k⟩ | ⟨rfl, hq2_k⟩
  · skip
    refine lv_if_ne (tgt := 13) hx hb dX12_last_6 (by decide) (fun _ => ?_) (fun c3 => absurd c3 (by decide))
    refine lv_iconst (v := 0) hx hb dX12_last_13 (by decide) ?_
    refine va_put (D := g.1) (ci := 10) (v := .int 0) (ty := .int) (C := RX12) (T := TX12) (N := 20) hx hb hts izRX12 tyX12 tyX12_ok nmX12 hown hK hP hD hS 0 rfl rfl 0 (by decide) (hts _ k825) (fun _ h9 => h9) rfl (by decide +kernel) rfl rfl (Nat.le_of_ble_eq_true rfl) dX12_last_14 (fun H locs hP hD hS => ?_)
    have hP : va_P g.1 vwCl (List.flatten [bMo g o a 0 hi ac tp ba en tA fl de iD iO tU fm fk fa fc ft ff fb fi]) H := hP
    have hD : va_D A (List.flatten [bMo g o a 0 hi ac tp ba en tA fl de iD iO tU fm fk fa fc ft ff fb fi]) := hD
    refine lv_aload_n hx hb dX12_last_17 rfl (lv_at hl 0 rfl) ?_
    refine va_get (D := g.1) (ci := 10) (v := .int 0) (C := RX12) (T := TX12) (N := 20) hx hb hts izRX12 hown hK hP 0 rfl rfl 0 (by decide) (hts _ k825) (fun _ h9 => h9) rfl dX12_last_18 ?_
    refine lv_if_le (tgt := 26) hx hb dX12_last_21 (by decide) (fun _ => ?_) (fun c4 => absurd (by decide) c4)
    refine lv_aload_n hx hb dX12_last_26 rfl (lv_at hl 0 rfl) ?_
    refine mcallV' (g := g) (q0 := 0) (ci := 10) (As := []) (rest := []) St hK hT hA hP hD hS hl.1 [0] [] rfl rfl rfl (m_putsAside l g o a 0 hi ac tp ba en tA fl de iD iO tU fm fk fa fc ft ff fb fi rfm rfa) (cwV 0 hts (zgL (zl4 k975 k976 k977 k839) k972) rfl rfl rfl (by decide +kernel) ⟨Nat.le_of_ble_eq_true rfl, Nat.le_of_ble_eq_true rfl⟩) rfl rfl rfl rfl (Nat.le_of_ble_eq_true rfl) dX12_last_27 ⟨(Nat.le_of_ble_eq_true rfl), (Nat.le_of_ble_eq_true rfl)⟩ (fun fa2_5 H locs hq6 hP hD hS => ?_)
    replace hq6 : (rM fa2_5) ∧ (zCy fa fa2_5 0 fm 0 379) ∧ ((fa2_5 0).toInt = (fm 0).toInt ∧ (fa2_5 3).toInt = (fm 3).toInt ∧ (fa2_5 4).toInt = (fm 4).toInt) := hq6
    have hP : va_P g.1 vwCl (List.flatten [bMo g o a 0 hi ac tp ba en tA fl de iD iO tU fm fk fa2_5 fc ft ff fb fi]) H := hP
    have hD : va_D A (List.flatten [bMo g o a 0 hi ac tp ba en tA fl de iD iO tU fm fk fa2_5 fc ft ff fb fi]) := hD
    refine W.widen (k := 0) (n := 0) (Nat.le_of_ble_eq_true rfl) (Nat.le_of_ble_eq_true rfl) ?_
    refine W.eq (g2 := F0 m 30 ls []) rfl ?_
    obtain ⟨rfa2_5, hq6_1, hq6_2⟩ := hq6
    refine lv_iconst (v := (-1)) hx hb dX12_last_30 (by decide) ?_
    refine lv_istore_n (lv' := [(2, .int (-1)), (0, .ref o), (1, .int w)]) hx hb dX12_last_31 rfl hl (by decide) rfl (fun ls hl => ?_)
    refine lv_iconst (v := 0) hx hb dX12_last_32 (by decide) ?_
    refine lv_istore_n (lv' := [(3, .int 0), (2, .int (-1)), (0, .ref o), (1, .int w)]) hx hb dX12_last_33 rfl hl (by decide) rfl (fun ls hl => ?_)
    have hl := lv_sub (l' := [(0, .ref o), (1, .int w), (2, .int (-1)), (3, .int 0)]) hl [2, 3, 1, 0] rfl
    have LP34_25 : ∀ (kf : Nat) (x_7 : Int32) (x_8 : Int32) (x_9 : Int32) (x_10 : Int32) (x_11 : Int32) (x_12 : Int32) (x_13 : Int32) (x_14 : Int32) (x_15 : Int32) (fm_16 : Nat → Int32) (ff_17 : Nat → Int32) (fb_18 : Nat → Int32), ((-1) ≤ x_7.toInt ∧ x_7.toInt ≤ 100) → (0 ≤ x_8.toInt ∧ x_8.toInt ≤ 101) → (0 ≤ x_13.toInt ∧ x_13.toInt ≤ 1) → (0 ≤ x_14.toInt ∧ x_14.toInt ≤ 1) → (rM fm_16) → (zRg (zV fm_16)) → (zGk fm fm_16) → ∀ (H : Heap) (locs : List Loc) (ls : Array Slot), ((102 - x_8.toInt).toNat) < kf → va_P g.1 vwCl (List.flatten [bMo g o a 0 hi ac tp x_9 x_10 x_11 fl x_12 x_13 x_14 x_15 fm_16 fk fa2_5 fc ft ff_17 fb_18 fi]) H → va_D A (List.flatten [bMo g o a 0 hi ac tp x_9 x_10 x_11 fl x_12 x_13 x_14 x_15 fm_16 fk fa2_5 fc ft ff_17 fb_18 fi]) → va_S A s.heap H locs → lv_has ls 5 [(0, .ref o), (1, .int w), (2, .int x_7), (3, .int x_8)] → W p l e ({ frames := 33, cells := 0, slots := 0, locals := 736 } : Room) s m args below meth c H locs (0) (0) (zF g (fun u : Int32 × (Nat → Int32) × (Nat → Int32) × Int32 × Int32 × Int32 × Int32 × Int32 × Int32 × Int32 × (Nat → Int32) × (Nat → Int32) × Int32 => (fun (th2 : Int32) (fm2 : Nat → Int32) (fa2 : Nat → Int32) (ba2 : Int32) (en2 : Int32) (at2 : Int32) (de2 : Int32) (iD2 : Int32) (iO2 : Int32) (tU2 : Int32) (ff2 : Nat → Int32) (fb2 : Nat → Int32) (q : Int32) => some (.int q)) (u.1) (u.2.1) (u.2.2.1) (u.2.2.2.1) (u.2.2.2.2.1) (u.2.2.2.2.2.1) (u.2.2.2.2.2.2.1) (u.2.2.2.2.2.2.2.1) (u.2.2.2.2.2.2.2.2.1) (u.2.2.2.2.2.2.2.2.2.1) (u.2.2.2.2.2.2.2.2.2.2.1) (u.2.2.2.2.2.2.2.2.2.2.2.1) (u.2.2.2.2.2.2.2.2.2.2.2.2)) (fun u : Int32 × (Nat → Int32) × (Nat → Int32) × Int32 × Int32 × Int32 × Int32 × Int32 × Int32 × Int32 × (Nat → Int32) × (Nat → Int32) × Int32 => (fun (th2 : Int32) (fm2 : Nat → Int32) (fa2 : Nat → Int32) (ba2 : Int32) (en2 : Int32) (at2 : Int32) (de2 : Int32) (iD2 : Int32) (iO2 : Int32) (tU2 : Int32) (ff2 : Nat → Int32) (fb2 : Nat → Int32) (q : Int32) => (0 ≤ iO2.toInt ∧ iO2.toInt ≤ 1) ∧ (0 ≤ iD2.toInt ∧ iD2.toInt ≤ 1) ∧ (rM fa2) ∧ (rM fm2) ∧ (fm = fm2)) (u.1) (u.2.1) (u.2.2.1) (u.2.2.2.1) (u.2.2.2.2.1) (u.2.2.2.2.2.1) (u.2.2.2.2.2.2.1) (u.2.2.2.2.2.2.2.1) (u.2.2.2.2.2.2.2.2.1) (u.2.2.2.2.2.2.2.2.2.1) (u.2.2.2.2.2.2.2.2.2.2.1) (u.2.2.2.2.2.2.2.2.2.2.2.1) (u.2.2.2.2.2.2.2.2.2.2.2.2)) (fun u : Int32 × (Nat → Int32) × (Nat → Int32) × Int32 × Int32 × Int32 × Int32 × Int32 × Int32 × Int32 × (Nat → Int32) × (Nat → Int32) × Int32 => (fun (th2 : Int32) (fm2 : Nat → Int32) (fa2 : Nat → Int32) (ba2 : Int32) (en2 : Int32) (at2 : Int32) (de2 : Int32) (iD2 : Int32) (iO2 : Int32) (tU2 : Int32) (ff2 : Nat → Int32) (fb2 : Nat → Int32) (q : Int32) => [bMo g o a th2 hi ac tp ba2 en2 at2 fl de2 iD2 iO2 tU2 fm2 fk fa2 fc ft ff2 fb2 fi]) (u.1) (u.2.1) (u.2.2.1) (u.2.2.2.1) (u.2.2.2.2.1) (u.2.2.2.2.2.1) (u.2.2.2.2.2.2.1) (u.2.2.2.2.2.2.2.1) (u.2.2.2.2.2.2.2.2.1) (u.2.2.2.2.2.2.2.2.2.1) (u.2.2.2.2.2.2.2.2.2.2.1) (u.2.2.2.2.2.2.2.2.2.2.2.1) (u.2.2.2.2.2.2.2.2.2.2.2.2)) ({ frames := 33, cells := 0, slots := 0, locals := 736 } : Room) below args s A) (F0 m 34 ls []) := by
      intro kf
      induction kf with
      | zero => intro x_7 x_8 x_9 x_10 x_11 x_12 x_13 x_14 x_15 fm_16 ff_17 fb_18 i19 i20 i21 i22 rfm_16 i23 i24 H locs ls hk; exact absurd hk (Nat.not_lt_zero _)
      | succ kf ih34_26 =>
        intro x_7 x_8 x_9 x_10 x_11 x_12 x_13 x_14 x_15 fm_16 ff_17 fb_18 i19 i20 i21 i22 rfm_16 i23 i24 H locs ls hk34_26 hP hD hS hl
        refine lv_iload_n hx hb dX12_last_34 rfl (lv_at hl 3 rfl) ?_
        refine lv_bipush (v := 100) hx hb dX12_last_35 (by decide) ?_
        refine lv_icmp_gt (tgt := 71) hx hb dX12_last_37 (by decide) (fun cb9 => ?_) (fun cb9 => ?_)
        · skip
          have c27 : 100 < x_8.toInt := zlti cb9 (by decide) rfl
          have n28 : 101 ≤ x_8.toInt := zL2 (a := 100) c27 (Int.le_refl _) (by decide)
          refine lv_aload_n hx hb dX12_last_71 rfl (lv_at hl 0 rfl) ?_
          refine mcallV' (g := g) (q0 := 0) (ci := 10) (As := []) (rest := []) St hK hT hA hP hD hS hl.1 [0] [] rfl rfl rfl (m_comesBack l g o a 0 hi ac tp x_9 x_10 x_11 fl x_12 x_13 x_14 x_15 fm_16 fk fa2_5 fc ft ff_17 fb_18 fi rfm_16 rfa2_5) (cwV 0 hts (zgL (zl4 k984 k985 k986 k839) k973) rfl rfl rfl (by decide +kernel) ⟨Nat.le_of_ble_eq_true rfl, Nat.le_of_ble_eq_true rfl⟩) rfl rfl rfl rfl (Nat.le_of_ble_eq_true rfl) dX12_last_72 ⟨(Nat.le_of_ble_eq_true rfl), (Nat.le_of_ble_eq_true rfl)⟩ (fun fm2_29 H locs hq30 hP hD hS => ?_)
          replace hq30 : (rM fm2_29) ∧ (zCy fm_16 fm2_29 0 fa2_5 0 379) ∧ ((fm2_29 0).toInt = (fa2_5 0).toInt ∧ (fm2_29 3).toInt = (fa2_5 3).toInt ∧ (fm2_29 4).toInt = (fa2_5 4).toInt) := hq30
          have hP : va_P g.1 vwCl (List.flatten [bMo g o a 0 hi ac tp x_9 x_10 x_11 fl x_12 x_13 x_14 x_15 fm2_29 fk fa2_5 fc ft ff_17 fb_18 fi]) H := hP
          have hD : va_D A (List.flatten [bMo g o a 0 hi ac tp x_9 x_10 x_11 fl x_12 x_13 x_14 x_15 fm2_29 fk fa2_5 fc ft ff_17 fb_18 fi]) := hD
          refine W.widen (k := 0) (n := 0) (Nat.le_of_ble_eq_true rfl) (Nat.le_of_ble_eq_true rfl) ?_
          refine W.eq (g2 := F0 m 75 ls []) rfl ?_
          obtain ⟨rfm2_29, hq30_1, hq30_2⟩ := hq30
          refine lv_iload_n hx hb dX12_last_75 rfl (lv_at hl 2 rfl) ?_
          have hP : va_P g.1 vwCl (List.flatten [bMo g o a 0 hi ac tp x_9 x_10 x_11 fl x_12 x_13 x_14 x_15 fm2_29 fk fa2_5 fc ft ff_17 fb_18 fi]) H := hP
          have hD : va_D A (List.flatten [bMo g o a 0 hi ac tp x_9 x_10 x_11 fl x_12 x_13 x_14 x_15 fm2_29 fk fa2_5 fc ft ff_17 fb_18 fi]) := hD
          exact mret_i hx hb hr hlocks hS (Nat.le_of_ble_eq_true rfl) (Nat.le_of_ble_eq_true rfl) dX12_last_76 ((0 : Int32), fm2_29, fa2_5, x_9, x_10, x_11, x_12, x_13, x_14, x_15, ff_17, fb_18, x_7) rfl (show (0 ≤ x_14.toInt ∧ x_14.toInt ≤ 1) ∧ (0 ≤ x_13.toInt ∧ x_13.toInt ≤ 1) ∧ (rM fa2_5) ∧ (rM fm2_29) ∧ (fm = fm2_29) from ⟨(by first | assumption | omega | decide), (by first | assumption | omega | decide), (by first | assumption | omega | decide), (by first | assumption | omega | decide), (zBackD hq6_1 i24 hq30_1)⟩) hP hD
        · skip
          have c31 : x_8.toInt ≤ 100 := zle (Int32.not_lt.mp cb9) rfl (by decide)
          have n32 : x_8.toInt ≤ 100 := Int.le_trans c31 (Int.le_refl _)
          refine lv_iload_n hx hb dX12_last_40 rfl (lv_at hl 2 rfl) ?_
          refine lv_iconst (v := (-1)) hx hb dX12_last_41 (by decide) ?_
          refine lv_icmp_ne (tgt := 71) hx hb dX12_last_42 (by decide) (fun cb9 => ?_) (fun cb9 => ?_)
          · skip
            have c33 : ¬ x_7.toInt = (-1) := zne cb9 rfl (by decide)
            have n34 : 0 ≤ x_7.toInt := zN1 c33 i19.1 (by decide)
            refine lv_aload_n hx hb dX12_last_71 rfl (lv_at hl 0 rfl) ?_
            refine mcallV' (g := g) (q0 := 0) (ci := 10) (As := []) (rest := []) St hK hT hA hP hD hS hl.1 [0] [] rfl rfl rfl (m_comesBack l g o a 0 hi ac tp x_9 x_10 x_11 fl x_12 x_13 x_14 x_15 fm_16 fk fa2_5 fc ft ff_17 fb_18 fi rfm_16 rfa2_5) (cwV 0 hts (zgL (zl4 k984 k985 k986 k839) k973) rfl rfl rfl (by decide +kernel) ⟨Nat.le_of_ble_eq_true rfl, Nat.le_of_ble_eq_true rfl⟩) rfl rfl rfl rfl (Nat.le_of_ble_eq_true rfl) dX12_last_72 ⟨(Nat.le_of_ble_eq_true rfl), (Nat.le_of_ble_eq_true rfl)⟩ (fun fm2_35 H locs hq36 hP hD hS => ?_)
            replace hq36 : (rM fm2_35) ∧ (zCy fm_16 fm2_35 0 fa2_5 0 379) ∧ ((fm2_35 0).toInt = (fa2_5 0).toInt ∧ (fm2_35 3).toInt = (fa2_5 3).toInt ∧ (fm2_35 4).toInt = (fa2_5 4).toInt) := hq36
            have hP : va_P g.1 vwCl (List.flatten [bMo g o a 0 hi ac tp x_9 x_10 x_11 fl x_12 x_13 x_14 x_15 fm2_35 fk fa2_5 fc ft ff_17 fb_18 fi]) H := hP
            have hD : va_D A (List.flatten [bMo g o a 0 hi ac tp x_9 x_10 x_11 fl x_12 x_13 x_14 x_15 fm2_35 fk fa2_5 fc ft ff_17 fb_18 fi]) := hD
            refine W.widen (k := 0) (n := 0) (Nat.le_of_ble_eq_true rfl) (Nat.le_of_ble_eq_true rfl) ?_
            refine W.eq (g2 := F0 m 75 ls []) rfl ?_
            obtain ⟨rfm2_35, hq36_1, hq36_2⟩ := hq36
            refine lv_iload_n hx hb dX12_last_75 rfl (lv_at hl 2 rfl) ?_
            have hP : va_P g.1 vwCl (List.flatten [bMo g o a 0 hi ac tp x_9 x_10 x_11 fl x_12 x_13 x_14 x_15 fm2_35 fk fa2_5 fc ft ff_17 fb_18 fi]) H := hP
            have hD : va_D A (List.flatten [bMo g o a 0 hi ac tp x_9 x_10 x_11 fl x_12 x_13 x_14 x_15 fm2_35 fk fa2_5 fc ft ff_17 fb_18 fi]) := hD
            exact mret_i hx hb hr hlocks hS (Nat.le_of_ble_eq_true rfl) (Nat.le_of_ble_eq_true rfl) dX12_last_76 ((0 : Int32), fm2_35, fa2_5, x_9, x_10, x_11, x_12, x_13, x_14, x_15, ff_17, fb_18, x_7) rfl (show (0 ≤ x_14.toInt ∧ x_14.toInt ≤ 1) ∧ (0 ≤ x_13.toInt ∧ x_13.toInt ≤ 1) ∧ (rM fa2_5) ∧ (rM fm2_35) ∧ (fm = fm2_35) from ⟨(by first | assumption | omega | decide), (by first | assumption | omega | decide), (by first | assumption | omega | decide), (by first | assumption | omega | decide), (zBackD hq6_1 i24 hq36_1)⟩) hP hD
          · skip
            have c37 : x_7.toInt = (-1) := zeq cb9 rfl (by decide)
            have n38 : x_7.toInt ≤ (-1) := Int.le_trans (Int.le_of_eq c37) (Int.le_refl _)
            refine lv_aload_n hx hb dX12_last_45 rfl (lv_at hl 0 rfl) ?_
            refine lv_iload_n hx hb dX12_last_46 rfl (lv_at hl 1 rfl) ?_
            refine lv_iconst (v := 3) hx hb dX12_last_47 (by decide) ?_
            refine mcallV' (g := g) (q0 := 0) (ci := 10) (As := [.int w, .int 3]) (rest := []) St hK hT hA hP hD hS hl.1 [0] [] rfl rfl rfl (m_ofW3F l g o a 0 hi ac tp x_9 x_10 x_11 fl x_12 x_13 x_14 x_15 fm_16 fk fa2_5 fc ft ff_17 fb_18 fi w (by first | assumption | omega | decide | exact Or.inl (by decide) | exact Or.inr (by decide))) (cwV 2 hts (zgL (zl4 k864 k865 k866 k839) k833) rfl rfl rfl (by decide +kernel) ⟨Nat.le_of_ble_eq_true rfl, Nat.le_of_ble_eq_true rfl⟩) rfl rfl rfl rfl (Nat.le_of_ble_eq_true rfl) dX12_last_48 ⟨(Nat.le_of_ble_eq_true rfl), (Nat.le_of_ble_eq_true rfl)⟩ (fun _u H locs hq39 hP hD hS => ?_)
            have hP : va_P g.1 vwCl (List.flatten [bMo g o a 0 hi ac tp x_9 x_10 x_11 fl x_12 x_13 x_14 x_15 fm_16 fk fa2_5 fc ft ff_17 fb_18 fi]) H := hP
            have hD : va_D A (List.flatten [bMo g o a 0 hi ac tp x_9 x_10 x_11 fl x_12 x_13 x_14 x_15 fm_16 fk fa2_5 fc ft ff_17 fb_18 fi]) := hD
            refine W.widen (k := 0) (n := 0) (Nat.le_of_ble_eq_true rfl) (Nat.le_of_ble_eq_true rfl) ?_
            refine W.eq (g2 := F0 m 51 ls [.int (zV fm_16 9 w.toInt.toNat)]) rfl ?_
            refine lv_iconst (v := 2) hx hb dX12_last_51 (by decide) ?_
            refine lv_icmp_ne (tgt := 57) hx hb dX12_last_52 (by decide) (fun cb9 => ?_) (fun cb9 => ?_)
            · skip
              have c40 : ¬ (zV fm_16 9 w.toInt.toNat).toInt = 2 := zne cb9 rfl (by decide)
              refine lv_aload_n hx hb dX12_last_57 rfl (lv_at hl 0 rfl) ?_
              refine lv_iconst (v := 1) hx hb dX12_last_58 (by decide) ?_
              refine lv_iconst (v := 0) hx hb dX12_last_59 (by decide) ?_
              have hL1 : (1 : Int32).toInt = 1 := by decide
              refine mcallV' (g := g) (q0 := 0) (ci := 10) (As := [.int 1, .int 0]) (rest := []) St hK hT hA hP hD hS hl.1 [0] [] rfl rfl rfl (m_goes0G l g o a 0 hi ac tp x_9 x_10 x_11 fl x_12 x_13 x_14 x_15 fm_16 fk fa2_5 fc ft ff_17 fb_18 fi 1 L rfm_16 (by first | assumption | omega | decide) (by first | assumption | omega | decide) (by first | assumption | omega | decide) i23 (zLm_k hL i24)) (cwV 2 hts (zgL (zl4 k1057 k1058 k1059 k839) k1028) rfl rfl rfl (by decide +kernel) ⟨Nat.le_of_ble_eq_true rfl, Nat.le_of_ble_eq_true rfl⟩) rfl rfl rfl rfl (Nat.le_of_ble_eq_true rfl) dX12_last_60 ⟨(Nat.le_of_ble_eq_true rfl), (Nat.le_of_ble_eq_true rfl)⟩ (fun u_ H locs hq52 hP hD hS => ?_)
              obtain ⟨ba2_41, en2_42, at2_43, de2_44, iD2_45, iO2_46, tU2_47, ff2_48, fm2_49, fb2_50, q_51⟩ := u_
              replace hq52 : (rM fm2_49) ∧ (0 ≤ iO2_46.toInt ∧ iO2_46.toInt ≤ 1) ∧ (0 ≤ iD2_45.toInt ∧ iD2_45.toInt ≤ 1) ∧ (zNR ((fm2_49 5, fm2_49 8, fm2_49 10, zV fm2_49), q_51) (zNds L (fm_16 3).toInt.toNat (fm_16 4).toInt.toNat (fm_16 7) 0 (1 : Int32).toInt.toNat (fm_16 5, fm_16 8, fm_16 10, zV fm_16))) ∧ (zGk fm_16 fm2_49) := hq52
              have hP : va_P g.1 vwCl (List.flatten [bMo g o a 0 hi ac tp ba2_41 en2_42 at2_43 fl de2_44 iD2_45 iO2_46 tU2_47 fm2_49 fk fa2_5 fc ft ff2_48 fb2_50 fi]) H := hP
              have hD : va_D A (List.flatten [bMo g o a 0 hi ac tp ba2_41 en2_42 at2_43 fl de2_44 iD2_45 iO2_46 tU2_47 fm2_49 fk fa2_5 fc ft ff2_48 fb2_50 fi]) := hD
              refine W.widen (k := 0) (n := 0) (Nat.le_of_ble_eq_true rfl) (Nat.le_of_ble_eq_true rfl) ?_
              refine W.eq (g2 := F0 m 63 ls [.int q_51]) rfl ?_
              obtain ⟨rfm2_49, hq52_1, hq52_2, hq52_3, hq52_4⟩ := hq52
              have rg53 : zRg (zV fm2_49) := zRg_go hq52_3 i23
              have gk54 : zGk fm fm2_49 := zGk_t i24 hq52_4
              refine lv_istore (lv' := [(4, .int q_51), (0, .ref o), (1, .int w), (2, .int x_7), (3, .int x_8)]) hx hb dX12_last_63 hl (by decide) rfl (fun ls hl => ?_)
              refine ziinc3 (n' := 1) (a' := 1) (b' := 101) (lv' := fun v9 => [(3, .int v9), (4, .int q_51), (0, .ref o), (1, .int w), (2, .int x_7)]) hx hb dX12_last_65 hl (k := 4) rfl (by decide) (fun _ => rfl) (zaddK (i := x_8.toInt) (j := 1) rfl (by decide) i20.1 n32 (Int.le_refl _) (Int.le_refl _) (by decide)) (fun x_55 ls hx_55 hl => ?_)
              refine lv_goto (tgt := 34) hx hb dX12_last_68 (by decide) ?_
              have hl := lv_sub (l' := [(0, .ref o), (1, .int w), (2, .int x_7), (3, .int x_55), (4, .int q_51)]) hl [2, 3, 4, 0, 1] rfl
              have hP : va_P g.1 vwCl (List.flatten [bMo g o a 0 hi ac tp ba2_41 en2_42 at2_43 fl de2_44 iD2_45 iO2_46 tU2_47 fm2_49 fk fa2_5 fc ft ff2_48 fb2_50 fi]) H := hP
              have hD : va_D A (List.flatten [bMo g o a 0 hi ac tp ba2_41 en2_42 at2_43 fl de2_44 iD2_45 iO2_46 tU2_47 fm2_49 fk fa2_5 fc ft ff2_48 fb2_50 fi]) := hD
              exact ih34_26 x_7 x_55 ba2_41 en2_42 at2_43 de2_44 iD2_45 iO2_46 tU2_47 fm2_49 ff2_48 fb2_50 ⟨i19.1, (Int.le_trans n38 (by decide))⟩ ⟨(Int.le_trans (by decide) hx_55.2.1), hx_55.2.2⟩ ⟨hq52_2.1, hq52_2.2⟩ ⟨hq52_1.1, hq52_1.2⟩ rfm2_49 rg53 gk54 H _ ls (zmK hx_55.1 (by decide) n32 (by decide) hk34_26)  hP hD hS (lv_sub hl [0, 1, 2, 3] rfl)
            · skip
              have c56 : (zV fm_16 9 w.toInt.toNat).toInt = 2 := zeq cb9 rfl (by decide)
              have n57 : 2 ≤ (zV fm_16 9 w.toInt.toNat).toInt := Int.le_trans (Int.le_refl _) (Int.le_of_eq c56.symm)
              have n58 : (zV fm_16 9 w.toInt.toNat).toInt ≤ 2 := Int.le_trans (Int.le_of_eq c56) (Int.le_refl _)
              refine lv_iload_n hx hb dX12_last_55 rfl (lv_at hl 3 rfl) ?_
              refine lv_istore_n (lv' := [(2, .int x_8), (0, .ref o), (1, .int w), (3, .int x_8)]) hx hb dX12_last_56 rfl hl (by decide) rfl (fun ls hl => ?_)
              refine lv_aload_n hx hb dX12_last_57 rfl (lv_at hl 1 rfl) ?_
              refine lv_iconst (v := 1) hx hb dX12_last_58 (by decide) ?_
              refine lv_iconst (v := 0) hx hb dX12_last_59 (by decide) ?_
              have hL1 : (1 : Int32).toInt = 1 := by decide
              refine mcallV' (g := g) (q0 := 0) (ci := 10) (As := [.int 1, .int 0]) (rest := []) St hK hT hA hP hD hS hl.1 [0] [] rfl rfl rfl (m_goes0G l g o a 0 hi ac tp x_9 x_10 x_11 fl x_12 x_13 x_14 x_15 fm_16 fk fa2_5 fc ft ff_17 fb_18 fi 1 L rfm_16 (by first | assumption | omega | decide) (by first | assumption | omega | decide) (by first | assumption | omega | decide) i23 (zLm_k hL i24)) (cwV 2 hts (zgL (zl4 k1057 k1058 k1059 k839) k1028) rfl rfl rfl (by decide +kernel) ⟨Nat.le_of_ble_eq_true rfl, Nat.le_of_ble_eq_true rfl⟩) rfl rfl rfl rfl (Nat.le_of_ble_eq_true rfl) dX12_last_60 ⟨(Nat.le_of_ble_eq_true rfl), (Nat.le_of_ble_eq_true rfl)⟩ (fun u_ H locs hq70 hP hD hS => ?_)
              obtain ⟨ba2_59, en2_60, at2_61, de2_62, iD2_63, iO2_64, tU2_65, ff2_66, fm2_67, fb2_68, q_69⟩ := u_
              replace hq70 : (rM fm2_67) ∧ (0 ≤ iO2_64.toInt ∧ iO2_64.toInt ≤ 1) ∧ (0 ≤ iD2_63.toInt ∧ iD2_63.toInt ≤ 1) ∧ (zNR ((fm2_67 5, fm2_67 8, fm2_67 10, zV fm2_67), q_69) (zNds L (fm_16 3).toInt.toNat (fm_16 4).toInt.toNat (fm_16 7) 0 (1 : Int32).toInt.toNat (fm_16 5, fm_16 8, fm_16 10, zV fm_16))) ∧ (zGk fm_16 fm2_67) := hq70
              have hP : va_P g.1 vwCl (List.flatten [bMo g o a 0 hi ac tp ba2_59 en2_60 at2_61 fl de2_62 iD2_63 iO2_64 tU2_65 fm2_67 fk fa2_5 fc ft ff2_66 fb2_68 fi]) H := hP
              have hD : va_D A (List.flatten [bMo g o a 0 hi ac tp ba2_59 en2_60 at2_61 fl de2_62 iD2_63 iO2_64 tU2_65 fm2_67 fk fa2_5 fc ft ff2_66 fb2_68 fi]) := hD
              refine W.widen (k := 0) (n := 0) (Nat.le_of_ble_eq_true rfl) (Nat.le_of_ble_eq_true rfl) ?_
              refine W.eq (g2 := F0 m 63 ls [.int q_69]) rfl ?_
              obtain ⟨rfm2_67, hq70_1, hq70_2, hq70_3, hq70_4⟩ := hq70
              have rg71 : zRg (zV fm2_67) := zRg_go hq70_3 i23
              have gk72 : zGk fm fm2_67 := zGk_t i24 hq70_4
              refine lv_istore (lv' := [(4, .int q_69), (2, .int x_8), (0, .ref o), (1, .int w), (3, .int x_8)]) hx hb dX12_last_63 hl (by decide) rfl (fun ls hl => ?_)
              refine ziinc3 (n' := 1) (a' := 1) (b' := 101) (lv' := fun v9 => [(3, .int v9), (4, .int q_69), (2, .int x_8), (0, .ref o), (1, .int w)]) hx hb dX12_last_65 hl (k := 4) rfl (by decide) (fun _ => rfl) (zaddK (i := x_8.toInt) (j := 1) rfl (by decide) i20.1 n32 (Int.le_refl _) (Int.le_refl _) (by decide)) (fun x_73 ls hx_73 hl => ?_)
              refine lv_goto (tgt := 34) hx hb dX12_last_68 (by decide) ?_
              have hl := lv_sub (l' := [(0, .ref o), (1, .int w), (2, .int x_8), (3, .int x_73), (4, .int q_69)]) hl [3, 4, 2, 0, 1] rfl
              have hP : va_P g.1 vwCl (List.flatten [bMo g o a 0 hi ac tp ba2_59 en2_60 at2_61 fl de2_62 iD2_63 iO2_64 tU2_65 fm2_67 fk fa2_5 fc ft ff2_66 fb2_68 fi]) H := hP
              have hD : va_D A (List.flatten [bMo g o a 0 hi ac tp ba2_59 en2_60 at2_61 fl de2_62 iD2_63 iO2_64 tU2_65 fm2_67 fk fa2_5 fc ft ff2_66 fb2_68 fi]) := hD
              exact ih34_26 x_8 x_73 ba2_59 en2_60 at2_61 de2_62 iD2_63 iO2_64 tU2_65 fm2_67 ff2_66 fb2_68 ⟨(Int.le_trans (by decide) i20.1), n32⟩ ⟨(Int.le_trans (by decide) hx_73.2.1), hx_73.2.2⟩ ⟨hq70_2.1, hq70_2.2⟩ ⟨hq70_1.1, hq70_1.2⟩ rfm2_67 rg71 gk72 H _ ls (zmK hx_73.1 (by decide) n32 (by decide) hk34_26)  hP hD hS (lv_sub hl [0, 1, 2, 3] rfl)
    have hLn1 : ((-1) : Int32).toInt = (-1) := by decide
    have hL0 : (0 : Int32).toInt = 0 := by decide
    have hP : va_P g.1 vwCl (List.flatten [bMo g o a 0 hi ac tp ba en tA fl de iD iO tU fm fk fa2_5 fc ft ff fb fi]) H := hP
    have hD : va_D A (List.flatten [bMo g o a 0 hi ac tp ba en tA fl de iD iO tU fm fk fa2_5 fc ft ff fb fi]) := hD
    exact LP34_25 _ (-1) 0 ba en tA de iD iO tU fm ff fb (by decide) (by decide) ⟨hiD.1, hiD.2⟩ ⟨hiO.1, hiO.2⟩ rfm hrg (zGk_r _) H _ ls (Nat.lt_succ_self _)  hP hD hS (lv_sub hl [0, 1, 2, 3] rfl)
  · skip
    refine lv_if_ne (tgt := 13) hx hb dX12_last_6 (by decide) (fun c74 => absurd (by decide) c74) (fun _ => ?_)
    refine lv_iconst (v := 1) hx hb dX12_last_9 (by decide) ?_
    refine lv_goto (tgt := 14) hx hb dX12_last_10 (by decide) ?_
    refine va_put (D := g.1) (ci := 10) (v := .int 1) (ty := .int) (C := RX12) (T := TX12) (N := 20) hx hb hts izRX12 tyX12 tyX12_ok nmX12 hown hK hP hD hS 0 rfl rfl 0 (by decide) (hts _ k825) (fun _ h9 => h9) rfl (by decide +kernel) rfl rfl (Nat.le_of_ble_eq_true rfl) dX12_last_14 (fun H locs hP hD hS => ?_)
    have hP : va_P g.1 vwCl (List.flatten [bMo g o a 1 hi ac tp ba en tA fl de iD iO tU fm fk fa fc ft ff fb fi]) H := hP
    have hD : va_D A (List.flatten [bMo g o a 1 hi ac tp ba en tA fl de iD iO tU fm fk fa fc ft ff fb fi]) := hD
    refine lv_aload_n hx hb dX12_last_17 rfl (lv_at hl 0 rfl) ?_
    refine va_get (D := g.1) (ci := 10) (v := .int 1) (C := RX12) (T := TX12) (N := 20) hx hb hts izRX12 hown hK hP 0 rfl rfl 0 (by decide) (hts _ k825) (fun _ h9 => h9) rfl dX12_last_18 ?_
    refine lv_if_le (tgt := 26) hx hb dX12_last_21 (by decide) (fun c75 => absurd c75 (by decide)) (fun _ => ?_)
    refine lv_iconst (v := 0) hx hb dX12_last_24 (by decide) ?_
    have hP : va_P g.1 vwCl (List.flatten [bMo g o a 1 hi ac tp ba en tA fl de iD iO tU fm fk fa fc ft ff fb fi]) H := hP
    have hD : va_D A (List.flatten [bMo g o a 1 hi ac tp ba en tA fl de iD iO tU fm fk fa fc ft ff fb fi]) := hD
    exact mret_i hx hb hr hlocks hS (Nat.le_of_ble_eq_true rfl) (Nat.le_of_ble_eq_true rfl) dX12_last_25 ((1 : Int32), fm, fa, ba, en, tA, de, iD, iO, tU, ff, fb, (0 : Int32)) rfl (show (0 ≤ iO.toInt ∧ iO.toInt ≤ 1) ∧ (0 ≤ iD.toInt ∧ iD.toInt ≤ 1) ∧ (rM fa) ∧ (rM fm) ∧ (fm = fm) from ⟨(by first | assumption | omega | decide), (by first | assumption | omega | decide), (by first | assumption | omega | decide), (by first | assumption | omega | decide), rfl⟩) hP hD
set_option maxRecDepth 100000 in
set_option maxHeartbeats 4000000 in
theorem m_dearestC (l : Launch) (g : zG) (o : Nat) (a : Nat → Nat) (th : Int32) (hi : Int32) (ac : Int32) (tp : Int32) (ba : Int32) (en : Int32) (tA : Int32) (fl : Int32) (de : Int32) (iD : Int32) (iO : Int32) (tU : Int32) (fm : Nat → Int32) (fk : Nat → Int32) (fa : Nat → Int32) (fc : Nat → Int32) (ft : Nat → Int32) (ff : Nat → Int32) (fb : Nat → Int32) (fi : Nat → Int32) (n : Int32) (much : Int32) (L : zLw) (rfm : rM fm) (rfa : rM fa) (hiD : 0 ≤ iD.toInt ∧ iD.toInt ≤ 1) (hiO : 0 ≤ iO.toInt ∧ iO.toInt ≤ 1) (hrg : zRg (zV fm)) (hL : zLm L fm) : zM' g l yX12_dearest (Cond.code yX12_dearest cX12_dearest 8 (some .int) :: zB) ({ frames := 33, cells := 0, slots := 0, locals := 736 } : Room) [.ref o, .int n, .int much] [bMo g o a th hi ac tp ba en tA fl de iD iO tU fm fk fa fc ft ff fb fi] (fun u : Int32 × (Nat → Int32) × (Nat → Int32) × Int32 × Int32 × Int32 × Int32 × Int32 × Int32 × Int32 × (Nat → Int32) × (Nat → Int32) × Int32 => (fun (th2 : Int32) (fm2 : Nat → Int32) (fa2 : Nat → Int32) (ba2 : Int32) (en2 : Int32) (at2 : Int32) (de2 : Int32) (iD2 : Int32) (iO2 : Int32) (tU2 : Int32) (ff2 : Nat → Int32) (fb2 : Nat → Int32) (q : Int32) => some (.int q)) (u.1) (u.2.1) (u.2.2.1) (u.2.2.2.1) (u.2.2.2.2.1) (u.2.2.2.2.2.1) (u.2.2.2.2.2.2.1) (u.2.2.2.2.2.2.2.1) (u.2.2.2.2.2.2.2.2.1) (u.2.2.2.2.2.2.2.2.2.1) (u.2.2.2.2.2.2.2.2.2.2.1) (u.2.2.2.2.2.2.2.2.2.2.2.1) (u.2.2.2.2.2.2.2.2.2.2.2.2)) (fun u : Int32 × (Nat → Int32) × (Nat → Int32) × Int32 × Int32 × Int32 × Int32 × Int32 × Int32 × Int32 × (Nat → Int32) × (Nat → Int32) × Int32 => (fun (th2 : Int32) (fm2 : Nat → Int32) (fa2 : Nat → Int32) (ba2 : Int32) (en2 : Int32) (at2 : Int32) (de2 : Int32) (iD2 : Int32) (iO2 : Int32) (tU2 : Int32) (ff2 : Nat → Int32) (fb2 : Nat → Int32) (q : Int32) => (0 ≤ iO2.toInt ∧ iO2.toInt ≤ 1) ∧ (0 ≤ iD2.toInt ∧ iD2.toInt ≤ 1) ∧ (rM fa2) ∧ (rM fm2) ∧ (fm = fm2)) (u.1) (u.2.1) (u.2.2.1) (u.2.2.2.1) (u.2.2.2.2.1) (u.2.2.2.2.2.1) (u.2.2.2.2.2.2.1) (u.2.2.2.2.2.2.2.1) (u.2.2.2.2.2.2.2.2.1) (u.2.2.2.2.2.2.2.2.2.1) (u.2.2.2.2.2.2.2.2.2.2.1) (u.2.2.2.2.2.2.2.2.2.2.2.1) (u.2.2.2.2.2.2.2.2.2.2.2.2)) (fun u : Int32 × (Nat → Int32) × (Nat → Int32) × Int32 × Int32 × Int32 × Int32 × Int32 × Int32 × Int32 × (Nat → Int32) × (Nat → Int32) × Int32 => (fun (th2 : Int32) (fm2 : Nat → Int32) (fa2 : Nat → Int32) (ba2 : Int32) (en2 : Int32) (at2 : Int32) (de2 : Int32) (iD2 : Int32) (iO2 : Int32) (tU2 : Int32) (ff2 : Nat → Int32) (fb2 : Nat → Int32) (q : Int32) => [bMo g o a th2 hi ac tp ba2 en2 at2 fl de2 iD2 iO2 tU2 fm2 fk fa2 fc ft ff2 fb2 fi]) (u.1) (u.2.1) (u.2.2.1) (u.2.2.2.1) (u.2.2.2.2.1) (u.2.2.2.2.2.1) (u.2.2.2.2.2.2.1) (u.2.2.2.2.2.2.2.1) (u.2.2.2.2.2.2.2.2.1) (u.2.2.2.2.2.2.2.2.2.1) (u.2.2.2.2.2.2.2.2.2.2.1) (u.2.2.2.2.2.2.2.2.2.2.2.1) (u.2.2.2.2.2.2.2.2.2.2.2.2)) := by
  refine zM'.of (cc := cX12_dearest) (maxL := 8) (rt := (some .int)) (by decide) rfl (Nat.le_of_ble_eq_true rfl) ?_
  intro p e s m args below meth c A ls St hr hlocks hin hK hT hA hP hD hS hl
  obtain ⟨hx, hb, hml, hown, hts⟩ := id St
  have hl : lv_has ls 8 [(0, .ref o), (1, .int n), (2, .int much)] := hl
  have hrm3 := rM3 rfm
  have hrm4 := rM4 rfm
  refine lv_aload_n hx hb dX12_dearest_0 rfl (lv_at hl 0 rfl) ?_
  refine lv_iload_n hx hb dX12_dearest_1 rfl (lv_at hl 1 rfl) ?_
  refine lv_iconst (v := 0) hx hb dX12_dearest_2 (by decide) ?_
  refine lv_bipush (v := 100) hx hb dX12_dearest_3 (by decide) ?_
  have hL0 : (0 : Int32).toInt = 0 := by decide
  have hL100 : (100 : Int32).toInt = 100 := by decide
  refine mcallS' (g := g) (As := [.int n, .int 0, .int 100]) (rest := [.ref o]) St hK hT hA hP hD hS hl.1 [] [0] rfl rfl rfl (m_isIn l g n 0 100 ) (va_cwS 3 hts (zgL (zl3 k837 k838 k839) k826) rfl rfl rfl (by decide +kernel) ⟨Nat.le_of_ble_eq_true rfl, Nat.le_of_ble_eq_true rfl⟩) rfl rfl (Nat.le_of_ble_eq_true rfl) dX12_dearest_5 ⟨(Nat.le_of_ble_eq_true rfl), (Nat.le_of_ble_eq_true rfl)⟩ (fun q_1 H locs hq2 hP hD hS => ?_)
  replace hq2 : (q_1 = 1 ∧ (0 : Int32).toInt ≤ n.toInt ∧ n.toInt ≤ (100 : Int32).toInt ∨ q_1 = 0 ∧ (n.toInt < (0 : Int32).toInt ∨ (100 : Int32).toInt < n.toInt)) := hq2
  have hP : va_P g.1 vwCl (List.flatten [bMo g o a th hi ac tp ba en tA fl de iD iO tU fm fk fa fc ft ff fb fi]) H := hP
  have hD : va_D A (List.flatten [bMo g o a th hi ac tp ba en tA fl de iD iO tU fm fk fa fc ft ff fb fi]) := hD
  refine W.widen (k := 0) (n := 0) (Nat.le_of_ble_eq_true rfl) (Nat.le_of_ble_eq_true rfl) ?_
  refine W.eq (g2 := F0 m 8 ls [.int q_1, .ref o]) rfl ?_
  rcases hq2 with ⟨rfl, hq2_k⟩ | ⟨rfl, hq2_k⟩
  · skip
    refine lv_if_ne (tgt := 15) hx hb dX12_dearest_8 (by decide) (fun _ => ?_) (fun c3 => absurd c3 (by decide))
    refine lv_iconst (v := 0) hx hb dX12_dearest_15 (by decide) ?_
    refine va_put (D := g.1) (ci := 10) (v := .int 0) (ty := .int) (C := RX12) (T := TX12) (N := 20) hx hb hts izRX12 tyX12 tyX12_ok nmX12 hown hK hP hD hS 0 rfl rfl 0 (by decide) (hts _ k825) (fun _ h9 => h9) rfl (by decide +kernel) rfl rfl (Nat.le_of_ble_eq_true rfl) dX12_dearest_16 (fun H locs hP hD hS => ?_)
    have hP : va_P g.1 vwCl (List.flatten [bMo g o a 0 hi ac tp ba en tA fl de iD iO tU fm fk fa fc ft ff fb fi]) H := hP
    have hD : va_D A (List.flatten [bMo g o a 0 hi ac tp ba en tA fl de iD iO tU fm fk fa fc ft ff fb fi]) := hD
    refine lv_aload_n hx hb dX12_dearest_19 rfl (lv_at hl 0 rfl) ?_
    refine va_get (D := g.1) (ci := 10) (v := .int 0) (C := RX12) (T := TX12) (N := 20) hx hb hts izRX12 hown hK hP 0 rfl rfl 0 (by decide) (hts _ k825) (fun _ h9 => h9) rfl dX12_dearest_20 ?_
    refine lv_if_le (tgt := 28) hx hb dX12_dearest_23 (by decide) (fun _ => ?_) (fun c4 => absurd (by decide) c4)
    refine lv_aload_n hx hb dX12_dearest_28 rfl (lv_at hl 0 rfl) ?_
    refine mcallV' (g := g) (q0 := 0) (ci := 10) (As := []) (rest := []) St hK hT hA hP hD hS hl.1 [0] [] rfl rfl rfl (m_putsAside l g o a 0 hi ac tp ba en tA fl de iD iO tU fm fk fa fc ft ff fb fi rfm rfa) (cwV 0 hts (zgL (zl4 k975 k976 k977 k839) k972) rfl rfl rfl (by decide +kernel) ⟨Nat.le_of_ble_eq_true rfl, Nat.le_of_ble_eq_true rfl⟩) rfl rfl rfl rfl (Nat.le_of_ble_eq_true rfl) dX12_dearest_29 ⟨(Nat.le_of_ble_eq_true rfl), (Nat.le_of_ble_eq_true rfl)⟩ (fun fa2_5 H locs hq6 hP hD hS => ?_)
    replace hq6 : (rM fa2_5) ∧ (zCy fa fa2_5 0 fm 0 379) ∧ ((fa2_5 0).toInt = (fm 0).toInt ∧ (fa2_5 3).toInt = (fm 3).toInt ∧ (fa2_5 4).toInt = (fm 4).toInt) := hq6
    have hP : va_P g.1 vwCl (List.flatten [bMo g o a 0 hi ac tp ba en tA fl de iD iO tU fm fk fa2_5 fc ft ff fb fi]) H := hP
    have hD : va_D A (List.flatten [bMo g o a 0 hi ac tp ba en tA fl de iD iO tU fm fk fa2_5 fc ft ff fb fi]) := hD
    refine W.widen (k := 0) (n := 0) (Nat.le_of_ble_eq_true rfl) (Nat.le_of_ble_eq_true rfl) ?_
    refine W.eq (g2 := F0 m 32 ls []) rfl ?_
    obtain ⟨rfa2_5, hq6_1, hq6_2⟩ := hq6
    refine lv_iconst (v := 0) hx hb dX12_dearest_32 (by decide) ?_
    refine lv_istore_n (lv' := [(3, .int 0), (0, .ref o), (1, .int n), (2, .int much)]) hx hb dX12_dearest_33 rfl hl (by decide) rfl (fun ls hl => ?_)
    refine lv_iconst (v := 0) hx hb dX12_dearest_34 (by decide) ?_
    refine lv_istore (lv' := [(4, .int 0), (3, .int 0), (0, .ref o), (1, .int n), (2, .int much)]) hx hb dX12_dearest_35 hl (by decide) rfl (fun ls hl => ?_)
    refine lv_iconst (v := 0) hx hb dX12_dearest_37 (by decide) ?_
    refine lv_istore (lv' := [(5, .int 0), (4, .int 0), (3, .int 0), (0, .ref o), (1, .int n), (2, .int much)]) hx hb dX12_dearest_38 hl (by decide) rfl (fun ls hl => ?_)
    have hl := lv_sub (l' := [(0, .ref o), (1, .int n), (2, .int much), (3, .int 0), (4, .int 0), (5, .int 0)]) hl [3, 4, 5, 2, 1, 0] rfl
    have LP40_27 : ∀ (kf : Nat) (x_7 : Int32) (x_8 : Int32) (x_9 : Int32) (x_10 : Int32) (x_11 : Int32) (x_12 : Int32) (x_13 : Int32) (x_14 : Int32) (x_15 : Int32) (x_16 : Int32) (fm_17 : Nat → Int32) (ff_18 : Nat → Int32) (fb_19 : Nat → Int32), (0 ≤ x_7.toInt ∧ x_7.toInt ≤ 100) → (0 ≤ x_8.toInt) → (0 ≤ x_9.toInt ∧ x_9.toInt ≤ 101) → (0 ≤ x_14.toInt ∧ x_14.toInt ≤ 1) → (0 ≤ x_15.toInt ∧ x_15.toInt ≤ 1) → (rM fm_17) → (zRg (zV fm_17)) → (zGk fm fm_17) → ∀ (H : Heap) (locs : List Loc) (ls : Array Slot), ((102 - x_9.toInt).toNat) < kf → va_P g.1 vwCl (List.flatten [bMo g o a 0 hi ac tp x_10 x_11 x_12 fl x_13 x_14 x_15 x_16 fm_17 fk fa2_5 fc ft ff_18 fb_19 fi]) H → va_D A (List.flatten [bMo g o a 0 hi ac tp x_10 x_11 x_12 fl x_13 x_14 x_15 x_16 fm_17 fk fa2_5 fc ft ff_18 fb_19 fi]) → va_S A s.heap H locs → lv_has ls 8 [(0, .ref o), (1, .int n), (2, .int much), (3, .int x_7), (4, .int x_8), (5, .int x_9)] → W p l e ({ frames := 33, cells := 0, slots := 0, locals := 736 } : Room) s m args below meth c H locs (0) (0) (zF g (fun u : Int32 × (Nat → Int32) × (Nat → Int32) × Int32 × Int32 × Int32 × Int32 × Int32 × Int32 × Int32 × (Nat → Int32) × (Nat → Int32) × Int32 => (fun (th2 : Int32) (fm2 : Nat → Int32) (fa2 : Nat → Int32) (ba2 : Int32) (en2 : Int32) (at2 : Int32) (de2 : Int32) (iD2 : Int32) (iO2 : Int32) (tU2 : Int32) (ff2 : Nat → Int32) (fb2 : Nat → Int32) (q : Int32) => some (.int q)) (u.1) (u.2.1) (u.2.2.1) (u.2.2.2.1) (u.2.2.2.2.1) (u.2.2.2.2.2.1) (u.2.2.2.2.2.2.1) (u.2.2.2.2.2.2.2.1) (u.2.2.2.2.2.2.2.2.1) (u.2.2.2.2.2.2.2.2.2.1) (u.2.2.2.2.2.2.2.2.2.2.1) (u.2.2.2.2.2.2.2.2.2.2.2.1) (u.2.2.2.2.2.2.2.2.2.2.2.2)) (fun u : Int32 × (Nat → Int32) × (Nat → Int32) × Int32 × Int32 × Int32 × Int32 × Int32 × Int32 × Int32 × (Nat → Int32) × (Nat → Int32) × Int32 => (fun (th2 : Int32) (fm2 : Nat → Int32) (fa2 : Nat → Int32) (ba2 : Int32) (en2 : Int32) (at2 : Int32) (de2 : Int32) (iD2 : Int32) (iO2 : Int32) (tU2 : Int32) (ff2 : Nat → Int32) (fb2 : Nat → Int32) (q : Int32) => (0 ≤ iO2.toInt ∧ iO2.toInt ≤ 1) ∧ (0 ≤ iD2.toInt ∧ iD2.toInt ≤ 1) ∧ (rM fa2) ∧ (rM fm2) ∧ (fm = fm2)) (u.1) (u.2.1) (u.2.2.1) (u.2.2.2.1) (u.2.2.2.2.1) (u.2.2.2.2.2.1) (u.2.2.2.2.2.2.1) (u.2.2.2.2.2.2.2.1) (u.2.2.2.2.2.2.2.2.1) (u.2.2.2.2.2.2.2.2.2.1) (u.2.2.2.2.2.2.2.2.2.2.1) (u.2.2.2.2.2.2.2.2.2.2.2.1) (u.2.2.2.2.2.2.2.2.2.2.2.2)) (fun u : Int32 × (Nat → Int32) × (Nat → Int32) × Int32 × Int32 × Int32 × Int32 × Int32 × Int32 × Int32 × (Nat → Int32) × (Nat → Int32) × Int32 => (fun (th2 : Int32) (fm2 : Nat → Int32) (fa2 : Nat → Int32) (ba2 : Int32) (en2 : Int32) (at2 : Int32) (de2 : Int32) (iD2 : Int32) (iO2 : Int32) (tU2 : Int32) (ff2 : Nat → Int32) (fb2 : Nat → Int32) (q : Int32) => [bMo g o a th2 hi ac tp ba2 en2 at2 fl de2 iD2 iO2 tU2 fm2 fk fa2 fc ft ff2 fb2 fi]) (u.1) (u.2.1) (u.2.2.1) (u.2.2.2.1) (u.2.2.2.2.1) (u.2.2.2.2.2.1) (u.2.2.2.2.2.2.1) (u.2.2.2.2.2.2.2.1) (u.2.2.2.2.2.2.2.2.1) (u.2.2.2.2.2.2.2.2.2.1) (u.2.2.2.2.2.2.2.2.2.2.1) (u.2.2.2.2.2.2.2.2.2.2.2.1) (u.2.2.2.2.2.2.2.2.2.2.2.2)) ({ frames := 33, cells := 0, slots := 0, locals := 736 } : Room) below args s A) (F0 m 40 ls []) := by
      intro kf
      induction kf with
      | zero => intro x_7 x_8 x_9 x_10 x_11 x_12 x_13 x_14 x_15 x_16 fm_17 ff_18 fb_19 i20 i21 i22 i23 i24 rfm_17 i25 i26 H locs ls hk; exact absurd hk (Nat.not_lt_zero _)
      | succ kf ih40_28 =>
        intro x_7 x_8 x_9 x_10 x_11 x_12 x_13 x_14 x_15 x_16 fm_17 ff_18 fb_19 i20 i21 i22 i23 i24 rfm_17 i25 i26 H locs ls hk40_28 hP hD hS hl
        refine lv_iload hx hb dX12_dearest_40 (lv_at hl 5 rfl) ?_
        refine lv_iload_n hx hb dX12_dearest_42 rfl (lv_at hl 1 rfl) ?_
        refine lv_icmp_gt (tgt := 89) hx hb dX12_dearest_43 (by decide) (fun cb9 => ?_) (fun cb9 => ?_)
        · skip
          have c29 : n.toInt < x_9.toInt := zlti cb9 rfl rfl
          refine lv_aload_n hx hb dX12_dearest_89 rfl (lv_at hl 0 rfl) ?_
          refine mcallV' (g := g) (q0 := 0) (ci := 10) (As := []) (rest := []) St hK hT hA hP hD hS hl.1 [0] [] rfl rfl rfl (m_comesBack l g o a 0 hi ac tp x_10 x_11 x_12 fl x_13 x_14 x_15 x_16 fm_17 fk fa2_5 fc ft ff_18 fb_19 fi rfm_17 rfa2_5) (cwV 0 hts (zgL (zl4 k984 k985 k986 k839) k973) rfl rfl rfl (by decide +kernel) ⟨Nat.le_of_ble_eq_true rfl, Nat.le_of_ble_eq_true rfl⟩) rfl rfl rfl rfl (Nat.le_of_ble_eq_true rfl) dX12_dearest_90 ⟨(Nat.le_of_ble_eq_true rfl), (Nat.le_of_ble_eq_true rfl)⟩ (fun fm2_30 H locs hq31 hP hD hS => ?_)
          replace hq31 : (rM fm2_30) ∧ (zCy fm_17 fm2_30 0 fa2_5 0 379) ∧ ((fm2_30 0).toInt = (fa2_5 0).toInt ∧ (fm2_30 3).toInt = (fa2_5 3).toInt ∧ (fm2_30 4).toInt = (fa2_5 4).toInt) := hq31
          have hP : va_P g.1 vwCl (List.flatten [bMo g o a 0 hi ac tp x_10 x_11 x_12 fl x_13 x_14 x_15 x_16 fm2_30 fk fa2_5 fc ft ff_18 fb_19 fi]) H := hP
          have hD : va_D A (List.flatten [bMo g o a 0 hi ac tp x_10 x_11 x_12 fl x_13 x_14 x_15 x_16 fm2_30 fk fa2_5 fc ft ff_18 fb_19 fi]) := hD
          refine W.widen (k := 0) (n := 0) (Nat.le_of_ble_eq_true rfl) (Nat.le_of_ble_eq_true rfl) ?_
          refine W.eq (g2 := F0 m 93 ls []) rfl ?_
          obtain ⟨rfm2_30, hq31_1, hq31_2⟩ := hq31
          refine lv_iload_n hx hb dX12_dearest_93 rfl (lv_at hl 2 rfl) ?_
          refine lv_if_eq (tgt := 102) hx hb dX12_dearest_94 (by decide) (fun cb9 => ?_) (fun cb9 => ?_)
          · skip
            have c32 : much.toInt = 0 := zeq cb9 rfl (by decide)
            have n33 : 0 ≤ much.toInt := Int.le_trans (Int.le_refl _) (Int.le_of_eq c32.symm)
            have n34 : much.toInt ≤ 0 := Int.le_trans (Int.le_of_eq c32) (Int.le_refl _)
            refine lv_iload_n hx hb dX12_dearest_102 rfl (lv_at hl 3 rfl) ?_
            have hP : va_P g.1 vwCl (List.flatten [bMo g o a 0 hi ac tp x_10 x_11 x_12 fl x_13 x_14 x_15 x_16 fm2_30 fk fa2_5 fc ft ff_18 fb_19 fi]) H := hP
            have hD : va_D A (List.flatten [bMo g o a 0 hi ac tp x_10 x_11 x_12 fl x_13 x_14 x_15 x_16 fm2_30 fk fa2_5 fc ft ff_18 fb_19 fi]) := hD
            exact mret_i hx hb hr hlocks hS (Nat.le_of_ble_eq_true rfl) (Nat.le_of_ble_eq_true rfl) dX12_dearest_103 ((0 : Int32), fm2_30, fa2_5, x_10, x_11, x_12, x_13, x_14, x_15, x_16, ff_18, fb_19, x_7) rfl (show (0 ≤ x_15.toInt ∧ x_15.toInt ≤ 1) ∧ (0 ≤ x_14.toInt ∧ x_14.toInt ≤ 1) ∧ (rM fa2_5) ∧ (rM fm2_30) ∧ (fm = fm2_30) from ⟨(by first | assumption | omega | decide), (by first | assumption | omega | decide), (by first | assumption | omega | decide), (by first | assumption | omega | decide), (zBackD hq6_1 i26 hq31_1)⟩) hP hD
          · skip
            have c35 : ¬ much.toInt = 0 := zne cb9 rfl (by decide)
            refine lv_iload hx hb dX12_dearest_97 (lv_at hl 4 rfl) ?_
            refine lv_goto (tgt := 103) hx hb dX12_dearest_99 (by decide) ?_
            have hP : va_P g.1 vwCl (List.flatten [bMo g o a 0 hi ac tp x_10 x_11 x_12 fl x_13 x_14 x_15 x_16 fm2_30 fk fa2_5 fc ft ff_18 fb_19 fi]) H := hP
            have hD : va_D A (List.flatten [bMo g o a 0 hi ac tp x_10 x_11 x_12 fl x_13 x_14 x_15 x_16 fm2_30 fk fa2_5 fc ft ff_18 fb_19 fi]) := hD
            exact mret_i hx hb hr hlocks hS (Nat.le_of_ble_eq_true rfl) (Nat.le_of_ble_eq_true rfl) dX12_dearest_103 ((0 : Int32), fm2_30, fa2_5, x_10, x_11, x_12, x_13, x_14, x_15, x_16, ff_18, fb_19, x_8) rfl (show (0 ≤ x_15.toInt ∧ x_15.toInt ≤ 1) ∧ (0 ≤ x_14.toInt ∧ x_14.toInt ≤ 1) ∧ (rM fa2_5) ∧ (rM fm2_30) ∧ (fm = fm2_30) from ⟨(by first | assumption | omega | decide), (by first | assumption | omega | decide), (by first | assumption | omega | decide), (by first | assumption | omega | decide), (zBackD hq6_1 i26 hq31_1)⟩) hP hD
        · skip
          have c36 : x_9.toInt ≤ n.toInt := zle (Int32.not_lt.mp cb9) rfl rfl
          refine lv_aload_n hx hb dX12_dearest_46 rfl (lv_at hl 0 rfl) ?_
          refine mcallV' (g := g) (q0 := 0) (ci := 10) (As := []) (rest := []) St hK hT hA hP hD hS hl.1 [0] [] rfl rfl rfl (m_priceNowG l g o a 0 hi ac tp x_10 x_11 x_12 fl x_13 x_14 x_15 x_16 fm_17 fk fa2_5 fc ft ff_18 fb_19 fi rfm_17) (cwV 0 hts (zgL (zl4 k1029 k1030 k1031 k839) k862) rfl rfl rfl (by decide +kernel) ⟨Nat.le_of_ble_eq_true rfl, Nat.le_of_ble_eq_true rfl⟩) rfl rfl rfl rfl (Nat.le_of_ble_eq_true rfl) dX12_dearest_47 ⟨(Nat.le_of_ble_eq_true rfl), (Nat.le_of_ble_eq_true rfl)⟩ (fun _u H locs hq37 hP hD hS => ?_)
          have hP : va_P g.1 vwCl (List.flatten [bMo g o a 0 hi ac tp x_10 x_11 x_12 fl x_13 x_14 x_15 x_16 fm_17 fk fa2_5 fc ft ff_18 fb_19 fi]) H := hP
          have hD : va_D A (List.flatten [bMo g o a 0 hi ac tp x_10 x_11 x_12 fl x_13 x_14 x_15 x_16 fm_17 fk fa2_5 fc ft ff_18 fb_19 fi]) := hD
          refine W.widen (k := 0) (n := 0) (Nat.le_of_ble_eq_true rfl) (Nat.le_of_ble_eq_true rfl) ?_
          refine W.eq (g2 := F0 m 50 ls [.int (zPrice (zV fm_17) (fm_17 3).toInt.toNat)]) rfl ?_
          refine lv_istore (lv' := [(6, .int (zPrice (zV fm_17) (fm_17 3).toInt.toNat)), (0, .ref o), (1, .int n), (2, .int much), (3, .int x_7), (4, .int x_8), (5, .int x_9)]) hx hb dX12_dearest_50 hl (by decide) rfl (fun ls hl => ?_)
          refine lv_iload hx hb dX12_dearest_52 (lv_at hl 0 rfl) ?_
          refine lv_iload hx hb dX12_dearest_54 (lv_at hl 5 rfl) ?_
          refine lv_icmp_le (tgt := 64) hx hb dX12_dearest_56 (by decide) (fun cb9 => ?_) (fun cb9 => ?_)
          · skip
            have c38 : (zPrice (zV fm_17) (fm_17 3).toInt.toNat).toInt ≤ x_8.toInt := zle cb9 rfl rfl
            refine lv_iload_n hx hb dX12_dearest_64 rfl (lv_at hl 4 rfl) ?_
            refine lv_istore_n (lv' := [(3, .int x_7), (6, .int (zPrice (zV fm_17) (fm_17 3).toInt.toNat)), (0, .ref o), (1, .int n), (2, .int much), (4, .int x_8), (5, .int x_9)]) hx hb dX12_dearest_65 rfl hl (by decide) rfl (fun ls hl => ?_)
            refine lv_iload hx hb dX12_dearest_66 (lv_at hl 5 rfl) ?_
            refine lv_iload hx hb dX12_dearest_68 (lv_at hl 1 rfl) ?_
            refine mcallS' (g := g) (As := [.int x_8, .int (zPrice (zV fm_17) (fm_17 3).toInt.toNat)]) (rest := []) St hK hT hA hP hD hS hl.1 [] [0] rfl rfl rfl (m_greater l g x_8 (zPrice (zV fm_17) (fm_17 3).toInt.toNat) ) (va_cwS 2 hts (zgL (zl3 k1003 k1004 k839) k828) rfl rfl rfl (by decide +kernel) ⟨Nat.le_of_ble_eq_true rfl, Nat.le_of_ble_eq_true rfl⟩) rfl rfl (Nat.le_of_ble_eq_true rfl) dX12_dearest_70 ⟨(Nat.le_of_ble_eq_true rfl), (Nat.le_of_ble_eq_true rfl)⟩ (fun q_39 H locs hq40 hP hD hS => ?_)
            replace hq40 : (x_8.toInt ≤ q_39.toInt ∧ (zPrice (zV fm_17) (fm_17 3).toInt.toNat).toInt ≤ q_39.toInt ∧ (q_39.toInt = x_8.toInt ∨ q_39.toInt = (zPrice (zV fm_17) (fm_17 3).toInt.toNat).toInt)) := hq40
            have hP : va_P g.1 vwCl (List.flatten [bMo g o a 0 hi ac tp x_10 x_11 x_12 fl x_13 x_14 x_15 x_16 fm_17 fk fa2_5 fc ft ff_18 fb_19 fi]) H := hP
            have hD : va_D A (List.flatten [bMo g o a 0 hi ac tp x_10 x_11 x_12 fl x_13 x_14 x_15 x_16 fm_17 fk fa2_5 fc ft ff_18 fb_19 fi]) := hD
            refine W.widen (k := 0) (n := 0) (Nat.le_of_ble_eq_true rfl) (Nat.le_of_ble_eq_true rfl) ?_
            refine W.eq (g2 := F0 m 73 ls [.int q_39]) rfl ?_
            refine lv_istore (lv' := [(4, .int q_39), (3, .int x_7), (6, .int (zPrice (zV fm_17) (fm_17 3).toInt.toNat)), (0, .ref o), (1, .int n), (2, .int much), (5, .int x_9)]) hx hb dX12_dearest_73 hl (by decide) rfl (fun ls hl => ?_)
            refine lv_aload_n hx hb dX12_dearest_75 rfl (lv_at hl 3 rfl) ?_
            refine lv_iconst (v := 1) hx hb dX12_dearest_76 (by decide) ?_
            refine lv_iconst (v := 0) hx hb dX12_dearest_77 (by decide) ?_
            have hL1 : (1 : Int32).toInt = 1 := by decide
            refine mcallV' (g := g) (q0 := 0) (ci := 10) (As := [.int 1, .int 0]) (rest := []) St hK hT hA hP hD hS hl.1 [0] [] rfl rfl rfl (m_goes0G l g o a 0 hi ac tp x_10 x_11 x_12 fl x_13 x_14 x_15 x_16 fm_17 fk fa2_5 fc ft ff_18 fb_19 fi 1 L rfm_17 (by first | assumption | omega | decide) (by first | assumption | omega | decide) (by first | assumption | omega | decide) i25 (zLm_k hL i26)) (cwV 2 hts (zgL (zl4 k1057 k1058 k1059 k839) k1028) rfl rfl rfl (by decide +kernel) ⟨Nat.le_of_ble_eq_true rfl, Nat.le_of_ble_eq_true rfl⟩) rfl rfl rfl rfl (Nat.le_of_ble_eq_true rfl) dX12_dearest_78 ⟨(Nat.le_of_ble_eq_true rfl), (Nat.le_of_ble_eq_true rfl)⟩ (fun u_ H locs hq52 hP hD hS => ?_)
            obtain ⟨ba2_41, en2_42, at2_43, de2_44, iD2_45, iO2_46, tU2_47, ff2_48, fm2_49, fb2_50, q_51⟩ := u_
            replace hq52 : (rM fm2_49) ∧ (0 ≤ iO2_46.toInt ∧ iO2_46.toInt ≤ 1) ∧ (0 ≤ iD2_45.toInt ∧ iD2_45.toInt ≤ 1) ∧ (zNR ((fm2_49 5, fm2_49 8, fm2_49 10, zV fm2_49), q_51) (zNds L (fm_17 3).toInt.toNat (fm_17 4).toInt.toNat (fm_17 7) 0 (1 : Int32).toInt.toNat (fm_17 5, fm_17 8, fm_17 10, zV fm_17))) ∧ (zGk fm_17 fm2_49) := hq52
            have hP : va_P g.1 vwCl (List.flatten [bMo g o a 0 hi ac tp ba2_41 en2_42 at2_43 fl de2_44 iD2_45 iO2_46 tU2_47 fm2_49 fk fa2_5 fc ft ff2_48 fb2_50 fi]) H := hP
            have hD : va_D A (List.flatten [bMo g o a 0 hi ac tp ba2_41 en2_42 at2_43 fl de2_44 iD2_45 iO2_46 tU2_47 fm2_49 fk fa2_5 fc ft ff2_48 fb2_50 fi]) := hD
            refine W.widen (k := 0) (n := 0) (Nat.le_of_ble_eq_true rfl) (Nat.le_of_ble_eq_true rfl) ?_
            refine W.eq (g2 := F0 m 81 ls [.int q_51]) rfl ?_
            obtain ⟨rfm2_49, hq52_1, hq52_2, hq52_3, hq52_4⟩ := hq52
            have rg53 : zRg (zV fm2_49) := zRg_go hq52_3 i25
            have gk54 : zGk fm fm2_49 := zGk_t i26 hq52_4
            refine lv_istore (lv' := [(7, .int q_51), (4, .int q_39), (3, .int x_7), (6, .int (zPrice (zV fm_17) (fm_17 3).toInt.toNat)), (0, .ref o), (1, .int n), (2, .int much), (5, .int x_9)]) hx hb dX12_dearest_81 hl (by decide) rfl (fun ls hl => ?_)
            refine ziinc (j := x_9.toInt + 1) (lv' := fun v9 => [(5, .int v9), (7, .int q_51), (4, .int q_39), (3, .int x_7), (6, .int (zPrice (zV fm_17) (fm_17 3).toInt.toNat)), (0, .ref o), (1, .int n), (2, .int much)]) hx hb dX12_dearest_83 hl (k := 7) rfl (by decide) (fun _ => rfl) (zadd (i := x_9.toInt) (j := 1) rfl (by decide) (by omega)) (fun x_55 ls hx_55 hl => ?_)
            refine lv_goto (tgt := 40) hx hb dX12_dearest_86 (by decide) ?_
            have hl := lv_sub (l' := [(0, .ref o), (1, .int n), (2, .int much), (3, .int x_7), (4, .int q_39), (5, .int x_55), (6, .int (zPrice (zV fm_17) (fm_17 3).toInt.toNat)), (7, .int q_51)]) hl [5, 6, 7, 3, 2, 0, 4, 1] rfl
            have hP : va_P g.1 vwCl (List.flatten [bMo g o a 0 hi ac tp ba2_41 en2_42 at2_43 fl de2_44 iD2_45 iO2_46 tU2_47 fm2_49 fk fa2_5 fc ft ff2_48 fb2_50 fi]) H := hP
            have hD : va_D A (List.flatten [bMo g o a 0 hi ac tp ba2_41 en2_42 at2_43 fl de2_44 iD2_45 iO2_46 tU2_47 fm2_49 fk fa2_5 fc ft ff2_48 fb2_50 fi]) := hD
            exact ih40_28 x_7 q_39 x_55 ba2_41 en2_42 at2_43 de2_44 iD2_45 iO2_46 tU2_47 fm2_49 ff2_48 fb2_50 ⟨i20.1, i20.2⟩ (by first | omega | assumption | decide) (by first | omega | assumption | decide) ⟨hq52_2.1, hq52_2.2⟩ ⟨hq52_1.1, hq52_1.2⟩ rfm2_49 rg53 gk54 H _ ls (by omega)  hP hD hS (lv_sub hl [0, 1, 2, 3, 4, 5] rfl)
          · skip
            have c56 : x_8.toInt < (zPrice (zV fm_17) (fm_17 3).toInt.toNat).toInt := zlti (Int32.not_le.mp cb9) rfl rfl
            have n57 : 1 ≤ (zPrice (zV fm_17) (fm_17 3).toInt.toNat).toInt := zL2 (a := 0) c56 i21 (by decide)
            refine lv_iload hx hb dX12_dearest_59 (lv_at hl 6 rfl) ?_
            refine lv_goto (tgt := 65) hx hb dX12_dearest_61 (by decide) ?_
            refine lv_istore_n (lv' := [(3, .int x_9), (6, .int (zPrice (zV fm_17) (fm_17 3).toInt.toNat)), (0, .ref o), (1, .int n), (2, .int much), (4, .int x_8), (5, .int x_9)]) hx hb dX12_dearest_65 rfl hl (by decide) rfl (fun ls hl => ?_)
            refine lv_iload hx hb dX12_dearest_66 (lv_at hl 5 rfl) ?_
            refine lv_iload hx hb dX12_dearest_68 (lv_at hl 1 rfl) ?_
            refine mcallS' (g := g) (As := [.int x_8, .int (zPrice (zV fm_17) (fm_17 3).toInt.toNat)]) (rest := []) St hK hT hA hP hD hS hl.1 [] [0] rfl rfl rfl (m_greater l g x_8 (zPrice (zV fm_17) (fm_17 3).toInt.toNat) ) (va_cwS 2 hts (zgL (zl3 k1003 k1004 k839) k828) rfl rfl rfl (by decide +kernel) ⟨Nat.le_of_ble_eq_true rfl, Nat.le_of_ble_eq_true rfl⟩) rfl rfl (Nat.le_of_ble_eq_true rfl) dX12_dearest_70 ⟨(Nat.le_of_ble_eq_true rfl), (Nat.le_of_ble_eq_true rfl)⟩ (fun q_58 H locs hq59 hP hD hS => ?_)
            replace hq59 : (x_8.toInt ≤ q_58.toInt ∧ (zPrice (zV fm_17) (fm_17 3).toInt.toNat).toInt ≤ q_58.toInt ∧ (q_58.toInt = x_8.toInt ∨ q_58.toInt = (zPrice (zV fm_17) (fm_17 3).toInt.toNat).toInt)) := hq59
            have hP : va_P g.1 vwCl (List.flatten [bMo g o a 0 hi ac tp x_10 x_11 x_12 fl x_13 x_14 x_15 x_16 fm_17 fk fa2_5 fc ft ff_18 fb_19 fi]) H := hP
            have hD : va_D A (List.flatten [bMo g o a 0 hi ac tp x_10 x_11 x_12 fl x_13 x_14 x_15 x_16 fm_17 fk fa2_5 fc ft ff_18 fb_19 fi]) := hD
            refine W.widen (k := 0) (n := 0) (Nat.le_of_ble_eq_true rfl) (Nat.le_of_ble_eq_true rfl) ?_
            refine W.eq (g2 := F0 m 73 ls [.int q_58]) rfl ?_
            refine lv_istore (lv' := [(4, .int q_58), (3, .int x_9), (6, .int (zPrice (zV fm_17) (fm_17 3).toInt.toNat)), (0, .ref o), (1, .int n), (2, .int much), (5, .int x_9)]) hx hb dX12_dearest_73 hl (by decide) rfl (fun ls hl => ?_)
            refine lv_aload_n hx hb dX12_dearest_75 rfl (lv_at hl 3 rfl) ?_
            refine lv_iconst (v := 1) hx hb dX12_dearest_76 (by decide) ?_
            refine lv_iconst (v := 0) hx hb dX12_dearest_77 (by decide) ?_
            have hL1 : (1 : Int32).toInt = 1 := by decide
            refine mcallV' (g := g) (q0 := 0) (ci := 10) (As := [.int 1, .int 0]) (rest := []) St hK hT hA hP hD hS hl.1 [0] [] rfl rfl rfl (m_goes0G l g o a 0 hi ac tp x_10 x_11 x_12 fl x_13 x_14 x_15 x_16 fm_17 fk fa2_5 fc ft ff_18 fb_19 fi 1 L rfm_17 (by first | assumption | omega | decide) (by first | assumption | omega | decide) (by first | assumption | omega | decide) i25 (zLm_k hL i26)) (cwV 2 hts (zgL (zl4 k1057 k1058 k1059 k839) k1028) rfl rfl rfl (by decide +kernel) ⟨Nat.le_of_ble_eq_true rfl, Nat.le_of_ble_eq_true rfl⟩) rfl rfl rfl rfl (Nat.le_of_ble_eq_true rfl) dX12_dearest_78 ⟨(Nat.le_of_ble_eq_true rfl), (Nat.le_of_ble_eq_true rfl)⟩ (fun u_ H locs hq71 hP hD hS => ?_)
            obtain ⟨ba2_60, en2_61, at2_62, de2_63, iD2_64, iO2_65, tU2_66, ff2_67, fm2_68, fb2_69, q_70⟩ := u_
            replace hq71 : (rM fm2_68) ∧ (0 ≤ iO2_65.toInt ∧ iO2_65.toInt ≤ 1) ∧ (0 ≤ iD2_64.toInt ∧ iD2_64.toInt ≤ 1) ∧ (zNR ((fm2_68 5, fm2_68 8, fm2_68 10, zV fm2_68), q_70) (zNds L (fm_17 3).toInt.toNat (fm_17 4).toInt.toNat (fm_17 7) 0 (1 : Int32).toInt.toNat (fm_17 5, fm_17 8, fm_17 10, zV fm_17))) ∧ (zGk fm_17 fm2_68) := hq71
            have hP : va_P g.1 vwCl (List.flatten [bMo g o a 0 hi ac tp ba2_60 en2_61 at2_62 fl de2_63 iD2_64 iO2_65 tU2_66 fm2_68 fk fa2_5 fc ft ff2_67 fb2_69 fi]) H := hP
            have hD : va_D A (List.flatten [bMo g o a 0 hi ac tp ba2_60 en2_61 at2_62 fl de2_63 iD2_64 iO2_65 tU2_66 fm2_68 fk fa2_5 fc ft ff2_67 fb2_69 fi]) := hD
            refine W.widen (k := 0) (n := 0) (Nat.le_of_ble_eq_true rfl) (Nat.le_of_ble_eq_true rfl) ?_
            refine W.eq (g2 := F0 m 81 ls [.int q_70]) rfl ?_
            obtain ⟨rfm2_68, hq71_1, hq71_2, hq71_3, hq71_4⟩ := hq71
            have rg72 : zRg (zV fm2_68) := zRg_go hq71_3 i25
            have gk73 : zGk fm fm2_68 := zGk_t i26 hq71_4
            refine lv_istore (lv' := [(7, .int q_70), (4, .int q_58), (3, .int x_9), (6, .int (zPrice (zV fm_17) (fm_17 3).toInt.toNat)), (0, .ref o), (1, .int n), (2, .int much), (5, .int x_9)]) hx hb dX12_dearest_81 hl (by decide) rfl (fun ls hl => ?_)
            refine ziinc (j := x_9.toInt + 1) (lv' := fun v9 => [(5, .int v9), (7, .int q_70), (4, .int q_58), (3, .int x_9), (6, .int (zPrice (zV fm_17) (fm_17 3).toInt.toNat)), (0, .ref o), (1, .int n), (2, .int much)]) hx hb dX12_dearest_83 hl (k := 7) rfl (by decide) (fun _ => rfl) (zadd (i := x_9.toInt) (j := 1) rfl (by decide) (by omega)) (fun x_74 ls hx_74 hl => ?_)
            refine lv_goto (tgt := 40) hx hb dX12_dearest_86 (by decide) ?_
            have hl := lv_sub (l' := [(0, .ref o), (1, .int n), (2, .int much), (3, .int x_9), (4, .int q_58), (5, .int x_74), (6, .int (zPrice (zV fm_17) (fm_17 3).toInt.toNat)), (7, .int q_70)]) hl [5, 6, 7, 3, 2, 0, 4, 1] rfl
            have hP : va_P g.1 vwCl (List.flatten [bMo g o a 0 hi ac tp ba2_60 en2_61 at2_62 fl de2_63 iD2_64 iO2_65 tU2_66 fm2_68 fk fa2_5 fc ft ff2_67 fb2_69 fi]) H := hP
            have hD : va_D A (List.flatten [bMo g o a 0 hi ac tp ba2_60 en2_61 at2_62 fl de2_63 iD2_64 iO2_65 tU2_66 fm2_68 fk fa2_5 fc ft ff2_67 fb2_69 fi]) := hD
            exact ih40_28 x_9 q_58 x_74 ba2_60 en2_61 at2_62 de2_63 iD2_64 iO2_65 tU2_66 fm2_68 ff2_67 fb2_69 (by first | omega | assumption | decide) (by first | omega | assumption | decide) (by first | omega | assumption | decide) ⟨hq71_2.1, hq71_2.2⟩ ⟨hq71_1.1, hq71_1.2⟩ rfm2_68 rg72 gk73 H _ ls (by omega)  hP hD hS (lv_sub hl [0, 1, 2, 3, 4, 5] rfl)
    have hP : va_P g.1 vwCl (List.flatten [bMo g o a 0 hi ac tp ba en tA fl de iD iO tU fm fk fa2_5 fc ft ff fb fi]) H := hP
    have hD : va_D A (List.flatten [bMo g o a 0 hi ac tp ba en tA fl de iD iO tU fm fk fa2_5 fc ft ff fb fi]) := hD
    exact LP40_27 _ 0 0 0 ba en tA de iD iO tU fm ff fb (by decide) (by decide) (by decide) ⟨hiD.1, hiD.2⟩ ⟨hiO.1, hiO.2⟩ rfm hrg (zGk_r _) H _ ls (Nat.lt_succ_self _)  hP hD hS (lv_sub hl [0, 1, 2, 3, 4, 5] rfl)
  · skip
    refine lv_if_ne (tgt := 15) hx hb dX12_dearest_8 (by decide) (fun c75 => absurd (by decide) c75) (fun _ => ?_)
    refine lv_iconst (v := 1) hx hb dX12_dearest_11 (by decide) ?_
    refine lv_goto (tgt := 16) hx hb dX12_dearest_12 (by decide) ?_
    refine va_put (D := g.1) (ci := 10) (v := .int 1) (ty := .int) (C := RX12) (T := TX12) (N := 20) hx hb hts izRX12 tyX12 tyX12_ok nmX12 hown hK hP hD hS 0 rfl rfl 0 (by decide) (hts _ k825) (fun _ h9 => h9) rfl (by decide +kernel) rfl rfl (Nat.le_of_ble_eq_true rfl) dX12_dearest_16 (fun H locs hP hD hS => ?_)
    have hP : va_P g.1 vwCl (List.flatten [bMo g o a 1 hi ac tp ba en tA fl de iD iO tU fm fk fa fc ft ff fb fi]) H := hP
    have hD : va_D A (List.flatten [bMo g o a 1 hi ac tp ba en tA fl de iD iO tU fm fk fa fc ft ff fb fi]) := hD
    refine lv_aload_n hx hb dX12_dearest_19 rfl (lv_at hl 0 rfl) ?_
    refine va_get (D := g.1) (ci := 10) (v := .int 1) (C := RX12) (T := TX12) (N := 20) hx hb hts izRX12 hown hK hP 0 rfl rfl 0 (by decide) (hts _ k825) (fun _ h9 => h9) rfl dX12_dearest_20 ?_
    refine lv_if_le (tgt := 28) hx hb dX12_dearest_23 (by decide) (fun c76 => absurd c76 (by decide)) (fun _ => ?_)
    refine lv_iconst (v := 0) hx hb dX12_dearest_26 (by decide) ?_
    have hP : va_P g.1 vwCl (List.flatten [bMo g o a 1 hi ac tp ba en tA fl de iD iO tU fm fk fa fc ft ff fb fi]) H := hP
    have hD : va_D A (List.flatten [bMo g o a 1 hi ac tp ba en tA fl de iD iO tU fm fk fa fc ft ff fb fi]) := hD
    exact mret_i hx hb hr hlocks hS (Nat.le_of_ble_eq_true rfl) (Nat.le_of_ble_eq_true rfl) dX12_dearest_27 ((1 : Int32), fm, fa, ba, en, tA, de, iD, iO, tU, ff, fb, (0 : Int32)) rfl (show (0 ≤ iO.toInt ∧ iO.toInt ≤ 1) ∧ (0 ≤ iD.toInt ∧ iD.toInt ≤ 1) ∧ (rM fa) ∧ (rM fm) ∧ (fm = fm) from ⟨(by first | assumption | omega | decide), (by first | assumption | omega | decide), (by first | assumption | omega | decide), (by first | assumption | omega | decide), rfl⟩) hP hD
set_option maxRecDepth 100000 in
set_option maxHeartbeats 4000000 in
theorem m_spanC (l : Launch) (g : zG) (o : Nat) (a : Nat → Nat) (th : Int32) (hi : Int32) (ac : Int32) (tp : Int32) (ba : Int32) (en : Int32) (tA : Int32) (fl : Int32) (de : Int32) (iD : Int32) (iO : Int32) (tU : Int32) (fm : Nat → Int32) (fk : Nat → Int32) (fa : Nat → Int32) (fc : Nat → Int32) (ft : Nat → Int32) (ff : Nat → Int32) (fb : Nat → Int32) (fi : Nat → Int32) (n : Int32) (most : Int32) (L : zLw) (rfm : rM fm) (rfa : rM fa) (hiD : 0 ≤ iD.toInt ∧ iD.toInt ≤ 1) (hiO : 0 ≤ iO.toInt ∧ iO.toInt ≤ 1) (hrg : zRg (zV fm)) (hL : zLm L fm) : zM' g l yX12_span (Cond.code yX12_span cX12_span 7 (some .int) :: zB) ({ frames := 33, cells := 0, slots := 0, locals := 736 } : Room) [.ref o, .int n, .int most] [bMo g o a th hi ac tp ba en tA fl de iD iO tU fm fk fa fc ft ff fb fi] (fun u : Int32 × (Nat → Int32) × (Nat → Int32) × Int32 × Int32 × Int32 × Int32 × Int32 × Int32 × Int32 × (Nat → Int32) × (Nat → Int32) × Int32 => (fun (th2 : Int32) (fm2 : Nat → Int32) (fa2 : Nat → Int32) (ba2 : Int32) (en2 : Int32) (at2 : Int32) (de2 : Int32) (iD2 : Int32) (iO2 : Int32) (tU2 : Int32) (ff2 : Nat → Int32) (fb2 : Nat → Int32) (q : Int32) => some (.int q)) (u.1) (u.2.1) (u.2.2.1) (u.2.2.2.1) (u.2.2.2.2.1) (u.2.2.2.2.2.1) (u.2.2.2.2.2.2.1) (u.2.2.2.2.2.2.2.1) (u.2.2.2.2.2.2.2.2.1) (u.2.2.2.2.2.2.2.2.2.1) (u.2.2.2.2.2.2.2.2.2.2.1) (u.2.2.2.2.2.2.2.2.2.2.2.1) (u.2.2.2.2.2.2.2.2.2.2.2.2)) (fun u : Int32 × (Nat → Int32) × (Nat → Int32) × Int32 × Int32 × Int32 × Int32 × Int32 × Int32 × Int32 × (Nat → Int32) × (Nat → Int32) × Int32 => (fun (th2 : Int32) (fm2 : Nat → Int32) (fa2 : Nat → Int32) (ba2 : Int32) (en2 : Int32) (at2 : Int32) (de2 : Int32) (iD2 : Int32) (iO2 : Int32) (tU2 : Int32) (ff2 : Nat → Int32) (fb2 : Nat → Int32) (q : Int32) => (0 ≤ iO2.toInt ∧ iO2.toInt ≤ 1) ∧ (0 ≤ iD2.toInt ∧ iD2.toInt ≤ 1) ∧ (rM fa2) ∧ (rM fm2) ∧ (fm = fm2)) (u.1) (u.2.1) (u.2.2.1) (u.2.2.2.1) (u.2.2.2.2.1) (u.2.2.2.2.2.1) (u.2.2.2.2.2.2.1) (u.2.2.2.2.2.2.2.1) (u.2.2.2.2.2.2.2.2.1) (u.2.2.2.2.2.2.2.2.2.1) (u.2.2.2.2.2.2.2.2.2.2.1) (u.2.2.2.2.2.2.2.2.2.2.2.1) (u.2.2.2.2.2.2.2.2.2.2.2.2)) (fun u : Int32 × (Nat → Int32) × (Nat → Int32) × Int32 × Int32 × Int32 × Int32 × Int32 × Int32 × Int32 × (Nat → Int32) × (Nat → Int32) × Int32 => (fun (th2 : Int32) (fm2 : Nat → Int32) (fa2 : Nat → Int32) (ba2 : Int32) (en2 : Int32) (at2 : Int32) (de2 : Int32) (iD2 : Int32) (iO2 : Int32) (tU2 : Int32) (ff2 : Nat → Int32) (fb2 : Nat → Int32) (q : Int32) => [bMo g o a th2 hi ac tp ba2 en2 at2 fl de2 iD2 iO2 tU2 fm2 fk fa2 fc ft ff2 fb2 fi]) (u.1) (u.2.1) (u.2.2.1) (u.2.2.2.1) (u.2.2.2.2.1) (u.2.2.2.2.2.1) (u.2.2.2.2.2.2.1) (u.2.2.2.2.2.2.2.1) (u.2.2.2.2.2.2.2.2.1) (u.2.2.2.2.2.2.2.2.2.1) (u.2.2.2.2.2.2.2.2.2.2.1) (u.2.2.2.2.2.2.2.2.2.2.2.1) (u.2.2.2.2.2.2.2.2.2.2.2.2)) := by
  refine zM'.of (cc := cX12_span) (maxL := 7) (rt := (some .int)) (by decide) rfl (Nat.le_of_ble_eq_true rfl) ?_
  intro p e s m args below meth c A ls St hr hlocks hin hK hT hA hP hD hS hl
  obtain ⟨hx, hb, hml, hown, hts⟩ := id St
  have hl : lv_has ls 7 [(0, .ref o), (1, .int n), (2, .int most)] := hl
  have hrm3 := rM3 rfm
  have hrm4 := rM4 rfm
  refine lv_aload_n hx hb dX12_span_0 rfl (lv_at hl 0 rfl) ?_
  refine lv_iload_n hx hb dX12_span_1 rfl (lv_at hl 1 rfl) ?_
  refine lv_iconst (v := 0) hx hb dX12_span_2 (by decide) ?_
  refine lv_bipush (v := 60) hx hb dX12_span_3 (by decide) ?_
  have hL0 : (0 : Int32).toInt = 0 := by decide
  have hL60 : (60 : Int32).toInt = 60 := by decide
  refine mcallS' (g := g) (As := [.int n, .int 0, .int 60]) (rest := [.ref o]) St hK hT hA hP hD hS hl.1 [] [0] rfl rfl rfl (m_isIn l g n 0 60 ) (va_cwS 3 hts (zgL (zl3 k837 k838 k839) k826) rfl rfl rfl (by decide +kernel) ⟨Nat.le_of_ble_eq_true rfl, Nat.le_of_ble_eq_true rfl⟩) rfl rfl (Nat.le_of_ble_eq_true rfl) dX12_span_5 ⟨(Nat.le_of_ble_eq_true rfl), (Nat.le_of_ble_eq_true rfl)⟩ (fun q_1 H locs hq2 hP hD hS => ?_)
  replace hq2 : (q_1 = 1 ∧ (0 : Int32).toInt ≤ n.toInt ∧ n.toInt ≤ (60 : Int32).toInt ∨ q_1 = 0 ∧ (n.toInt < (0 : Int32).toInt ∨ (60 : Int32).toInt < n.toInt)) := hq2
  have hP : va_P g.1 vwCl (List.flatten [bMo g o a th hi ac tp ba en tA fl de iD iO tU fm fk fa fc ft ff fb fi]) H := hP
  have hD : va_D A (List.flatten [bMo g o a th hi ac tp ba en tA fl de iD iO tU fm fk fa fc ft ff fb fi]) := hD
  refine W.widen (k := 0) (n := 0) (Nat.le_of_ble_eq_true rfl) (Nat.le_of_ble_eq_true rfl) ?_
  refine W.eq (g2 := F0 m 8 ls [.int q_1, .ref o]) rfl ?_
  rcases hq2 with ⟨rfl, hq2_k⟩ | ⟨rfl, hq2_k⟩
  · skip
    refine lv_if_ne (tgt := 15) hx hb dX12_span_8 (by decide) (fun _ => ?_) (fun c3 => absurd c3 (by decide))
    refine lv_iconst (v := 0) hx hb dX12_span_15 (by decide) ?_
    refine va_put (D := g.1) (ci := 10) (v := .int 0) (ty := .int) (C := RX12) (T := TX12) (N := 20) hx hb hts izRX12 tyX12 tyX12_ok nmX12 hown hK hP hD hS 0 rfl rfl 0 (by decide) (hts _ k825) (fun _ h9 => h9) rfl (by decide +kernel) rfl rfl (Nat.le_of_ble_eq_true rfl) dX12_span_16 (fun H locs hP hD hS => ?_)
    have hP : va_P g.1 vwCl (List.flatten [bMo g o a 0 hi ac tp ba en tA fl de iD iO tU fm fk fa fc ft ff fb fi]) H := hP
    have hD : va_D A (List.flatten [bMo g o a 0 hi ac tp ba en tA fl de iD iO tU fm fk fa fc ft ff fb fi]) := hD
    refine lv_aload_n hx hb dX12_span_19 rfl (lv_at hl 0 rfl) ?_
    refine va_get (D := g.1) (ci := 10) (v := .int 0) (C := RX12) (T := TX12) (N := 20) hx hb hts izRX12 hown hK hP 0 rfl rfl 0 (by decide) (hts _ k825) (fun _ h9 => h9) rfl dX12_span_20 ?_
    refine lv_if_le (tgt := 28) hx hb dX12_span_23 (by decide) (fun _ => ?_) (fun c4 => absurd (by decide) c4)
    refine lv_aload_n hx hb dX12_span_28 rfl (lv_at hl 0 rfl) ?_
    refine mcallV' (g := g) (q0 := 0) (ci := 10) (As := []) (rest := []) St hK hT hA hP hD hS hl.1 [0] [] rfl rfl rfl (m_putsAside l g o a 0 hi ac tp ba en tA fl de iD iO tU fm fk fa fc ft ff fb fi rfm rfa) (cwV 0 hts (zgL (zl4 k975 k976 k977 k839) k972) rfl rfl rfl (by decide +kernel) ⟨Nat.le_of_ble_eq_true rfl, Nat.le_of_ble_eq_true rfl⟩) rfl rfl rfl rfl (Nat.le_of_ble_eq_true rfl) dX12_span_29 ⟨(Nat.le_of_ble_eq_true rfl), (Nat.le_of_ble_eq_true rfl)⟩ (fun fa2_5 H locs hq6 hP hD hS => ?_)
    replace hq6 : (rM fa2_5) ∧ (zCy fa fa2_5 0 fm 0 379) ∧ ((fa2_5 0).toInt = (fm 0).toInt ∧ (fa2_5 3).toInt = (fm 3).toInt ∧ (fa2_5 4).toInt = (fm 4).toInt) := hq6
    have hP : va_P g.1 vwCl (List.flatten [bMo g o a 0 hi ac tp ba en tA fl de iD iO tU fm fk fa2_5 fc ft ff fb fi]) H := hP
    have hD : va_D A (List.flatten [bMo g o a 0 hi ac tp ba en tA fl de iD iO tU fm fk fa2_5 fc ft ff fb fi]) := hD
    refine W.widen (k := 0) (n := 0) (Nat.le_of_ble_eq_true rfl) (Nat.le_of_ble_eq_true rfl) ?_
    refine W.eq (g2 := F0 m 32 ls []) rfl ?_
    obtain ⟨rfa2_5, hq6_1, hq6_2⟩ := hq6
    refine lv_iconst (v := (-1)) hx hb dX12_span_32 (by decide) ?_
    refine lv_istore_n (lv' := [(3, .int (-1)), (0, .ref o), (1, .int n), (2, .int most)]) hx hb dX12_span_33 rfl hl (by decide) rfl (fun ls hl => ?_)
    refine lv_iconst (v := 1) hx hb dX12_span_34 (by decide) ?_
    refine lv_istore (lv' := [(4, .int 1), (3, .int (-1)), (0, .ref o), (1, .int n), (2, .int most)]) hx hb dX12_span_35 hl (by decide) rfl (fun ls hl => ?_)
    have hl := lv_sub (l' := [(0, .ref o), (1, .int n), (2, .int most), (3, .int (-1)), (4, .int 1)]) hl [2, 3, 4, 1, 0] rfl
    have LP37_23 : ∀ (kf : Nat) (x_7 : Int32) (x_8 : Int32) (x_9 : Int32) (x_10 : Int32) (x_11 : Int32) (x_12 : Int32) (x_13 : Int32) (x_14 : Int32) (x_15 : Int32) (fm_16 : Nat → Int32) (ff_17 : Nat → Int32) (fb_18 : Nat → Int32), (1 ≤ x_8.toInt ∧ x_8.toInt ≤ 7) → (0 ≤ x_13.toInt ∧ x_13.toInt ≤ 1) → (0 ≤ x_14.toInt ∧ x_14.toInt ≤ 1) → (rM fm_16) → (fm = fm_16) → ∀ (H : Heap) (locs : List Loc) (ls : Array Slot), ((8 - x_8.toInt).toNat) < kf → va_P g.1 vwCl (List.flatten [bMo g o a 0 hi ac tp x_9 x_10 x_11 fl x_12 x_13 x_14 x_15 fm_16 fk fa2_5 fc ft ff_17 fb_18 fi]) H → va_D A (List.flatten [bMo g o a 0 hi ac tp x_9 x_10 x_11 fl x_12 x_13 x_14 x_15 fm_16 fk fa2_5 fc ft ff_17 fb_18 fi]) → va_S A s.heap H locs → lv_has ls 7 [(0, .ref o), (1, .int n), (2, .int most), (3, .int x_7), (4, .int x_8)] → W p l e ({ frames := 33, cells := 0, slots := 0, locals := 736 } : Room) s m args below meth c H locs (0) (0) (zF g (fun u : Int32 × (Nat → Int32) × (Nat → Int32) × Int32 × Int32 × Int32 × Int32 × Int32 × Int32 × Int32 × (Nat → Int32) × (Nat → Int32) × Int32 => (fun (th2 : Int32) (fm2 : Nat → Int32) (fa2 : Nat → Int32) (ba2 : Int32) (en2 : Int32) (at2 : Int32) (de2 : Int32) (iD2 : Int32) (iO2 : Int32) (tU2 : Int32) (ff2 : Nat → Int32) (fb2 : Nat → Int32) (q : Int32) => some (.int q)) (u.1) (u.2.1) (u.2.2.1) (u.2.2.2.1) (u.2.2.2.2.1) (u.2.2.2.2.2.1) (u.2.2.2.2.2.2.1) (u.2.2.2.2.2.2.2.1) (u.2.2.2.2.2.2.2.2.1) (u.2.2.2.2.2.2.2.2.2.1) (u.2.2.2.2.2.2.2.2.2.2.1) (u.2.2.2.2.2.2.2.2.2.2.2.1) (u.2.2.2.2.2.2.2.2.2.2.2.2)) (fun u : Int32 × (Nat → Int32) × (Nat → Int32) × Int32 × Int32 × Int32 × Int32 × Int32 × Int32 × Int32 × (Nat → Int32) × (Nat → Int32) × Int32 => (fun (th2 : Int32) (fm2 : Nat → Int32) (fa2 : Nat → Int32) (ba2 : Int32) (en2 : Int32) (at2 : Int32) (de2 : Int32) (iD2 : Int32) (iO2 : Int32) (tU2 : Int32) (ff2 : Nat → Int32) (fb2 : Nat → Int32) (q : Int32) => (0 ≤ iO2.toInt ∧ iO2.toInt ≤ 1) ∧ (0 ≤ iD2.toInt ∧ iD2.toInt ≤ 1) ∧ (rM fa2) ∧ (rM fm2) ∧ (fm = fm2)) (u.1) (u.2.1) (u.2.2.1) (u.2.2.2.1) (u.2.2.2.2.1) (u.2.2.2.2.2.1) (u.2.2.2.2.2.2.1) (u.2.2.2.2.2.2.2.1) (u.2.2.2.2.2.2.2.2.1) (u.2.2.2.2.2.2.2.2.2.1) (u.2.2.2.2.2.2.2.2.2.2.1) (u.2.2.2.2.2.2.2.2.2.2.2.1) (u.2.2.2.2.2.2.2.2.2.2.2.2)) (fun u : Int32 × (Nat → Int32) × (Nat → Int32) × Int32 × Int32 × Int32 × Int32 × Int32 × Int32 × Int32 × (Nat → Int32) × (Nat → Int32) × Int32 => (fun (th2 : Int32) (fm2 : Nat → Int32) (fa2 : Nat → Int32) (ba2 : Int32) (en2 : Int32) (at2 : Int32) (de2 : Int32) (iD2 : Int32) (iO2 : Int32) (tU2 : Int32) (ff2 : Nat → Int32) (fb2 : Nat → Int32) (q : Int32) => [bMo g o a th2 hi ac tp ba2 en2 at2 fl de2 iD2 iO2 tU2 fm2 fk fa2 fc ft ff2 fb2 fi]) (u.1) (u.2.1) (u.2.2.1) (u.2.2.2.1) (u.2.2.2.2.1) (u.2.2.2.2.2.1) (u.2.2.2.2.2.2.1) (u.2.2.2.2.2.2.2.1) (u.2.2.2.2.2.2.2.2.1) (u.2.2.2.2.2.2.2.2.2.1) (u.2.2.2.2.2.2.2.2.2.2.1) (u.2.2.2.2.2.2.2.2.2.2.2.1) (u.2.2.2.2.2.2.2.2.2.2.2.2)) ({ frames := 33, cells := 0, slots := 0, locals := 736 } : Room) below args s A) (F0 m 37 ls []) := by
      intro kf
      induction kf with
      | zero => intro x_7 x_8 x_9 x_10 x_11 x_12 x_13 x_14 x_15 fm_16 ff_17 fb_18 i19 i20 i21 rfm_16 i22 H locs ls hk; exact absurd hk (Nat.not_lt_zero _)
      | succ kf ih37_24 =>
        intro x_7 x_8 x_9 x_10 x_11 x_12 x_13 x_14 x_15 fm_16 ff_17 fb_18 i19 i20 i21 rfm_16 i22 H locs ls hk37_24 hP hD hS hl
        refine lv_iload hx hb dX12_span_37 (lv_at hl 4 rfl) ?_
        refine lv_bipush (v := 6) hx hb dX12_span_39 (by decide) ?_
        refine lv_icmp_gt (tgt := 107) hx hb dX12_span_41 (by decide) (fun cb9 => ?_) (fun cb9 => ?_)
        · skip
          have c25 : 6 < x_8.toInt := zlti cb9 (by decide) rfl
          have n26 : 7 ≤ x_8.toInt := zL2 (a := 6) c25 (Int.le_refl _) (by decide)
          refine lv_iload_n hx hb dX12_span_107 rfl (lv_at hl 3 rfl) ?_
          have hP : va_P g.1 vwCl (List.flatten [bMo g o a 0 hi ac tp x_9 x_10 x_11 fl x_12 x_13 x_14 x_15 fm_16 fk fa2_5 fc ft ff_17 fb_18 fi]) H := hP
          have hD : va_D A (List.flatten [bMo g o a 0 hi ac tp x_9 x_10 x_11 fl x_12 x_13 x_14 x_15 fm_16 fk fa2_5 fc ft ff_17 fb_18 fi]) := hD
          exact mret_i hx hb hr hlocks hS (Nat.le_of_ble_eq_true rfl) (Nat.le_of_ble_eq_true rfl) dX12_span_108 ((0 : Int32), fm_16, fa2_5, x_9, x_10, x_11, x_12, x_13, x_14, x_15, ff_17, fb_18, x_7) rfl (show (0 ≤ x_14.toInt ∧ x_14.toInt ≤ 1) ∧ (0 ≤ x_13.toInt ∧ x_13.toInt ≤ 1) ∧ (rM fa2_5) ∧ (rM fm_16) ∧ (fm = fm_16) from ⟨(by first | assumption | omega | decide), (by first | assumption | omega | decide), (by first | assumption | omega | decide), (by first | assumption | omega | decide), i22⟩) hP hD
        · skip
          have c27 : x_8.toInt ≤ 6 := zle (Int32.not_lt.mp cb9) rfl (by decide)
          have n28 : x_8.toInt ≤ 6 := Int.le_trans c27 (Int.le_refl _)
          refine lv_aload_n hx hb dX12_span_44 rfl (lv_at hl 0 rfl) ?_
          refine va_get (D := g.1) (ci := 10) (v := .ref (a 0)) (C := RX12) (T := TX12) (N := 20) hx hb hts izRX12 hown hK hP 0 rfl rfl 1 (by decide) (hts _ k815) (fun _ h9 => h9) rfl dX12_span_45 ?_
          refine lv_bipush (v := 10) hx hb dX12_span_48 (by decide) ?_
          refine lv_iload hx hb dX12_span_50 (lv_at hl 4 rfl) ?_
          refine va_iast hx hb hK hP hD hS 1 0 rfl rfl (zin rfl) dX12_span_52 (fun H locs hP hD hS => ?_)
          obtain ⟨fm_29, rfm_29, efm_29, hP, hD⟩ : ∃ fm_29 : Nat → Int32, rM fm_29 ∧ fm_29 = upd fm_16 10 x_8 ∧ va_P g.1 vwCl (List.flatten [bMo g o a 0 hi ac tp x_9 x_10 x_11 fl x_12 x_13 x_14 x_15 fm_29 fk fa2_5 fc ft ff_17 fb_18 fi]) H ∧ va_D A (List.flatten [bMo g o a 0 hi ac tp x_9 x_10 x_11 fl x_12 x_13 x_14 x_15 fm_29 fk fa2_5 fc ft ff_17 fb_18 fi]) := ⟨upd fm_16 10 x_8, (rM_stL rfm_16 (by decide)), rfl, hP, hD⟩
          have rg30 : zRg (zV fm_29) := zRg_u10 (zFm_rg hrg i22) efm_29
          have gk31 : zGk fm fm_29 := zGk_v (zFm_gk i22) efm_29 (by omega)
          refine lv_aload_n hx hb dX12_span_53 rfl (lv_at hl 0 rfl) ?_
          refine lv_iload_n hx hb dX12_span_54 rfl (lv_at hl 1 rfl) ?_
          refine lv_iconst (v := 1) hx hb dX12_span_55 (by decide) ?_
          refine mcallV' (g := g) (q0 := 0) (ci := 10) (As := [.int n, .int 1]) (rest := []) St hK hT hA hP hD hS hl.1 [0] [] rfl rfl rfl (m_goes1G l g o a 0 hi ac tp x_9 x_10 x_11 fl x_12 x_13 x_14 x_15 fm_29 fk fa2_5 fc ft ff_17 fb_18 fi n L rfm_29 (by first | assumption | omega | decide) (by first | assumption | omega | decide) (by first | assumption | omega | decide) rg30 (zLm_k hL gk31)) (cwV 2 hts (zgL (zl4 k1057 k1058 k1059 k839) k1028) rfl rfl rfl (by decide +kernel) ⟨Nat.le_of_ble_eq_true rfl, Nat.le_of_ble_eq_true rfl⟩) rfl rfl rfl rfl (Nat.le_of_ble_eq_true rfl) dX12_span_56 ⟨(Nat.le_of_ble_eq_true rfl), (Nat.le_of_ble_eq_true rfl)⟩ (fun u_ H locs hq43 hP hD hS => ?_)
          obtain ⟨ba2_32, en2_33, at2_34, de2_35, iD2_36, iO2_37, tU2_38, ff2_39, fm2_40, fb2_41, q_42⟩ := u_
          replace hq43 : (rM fm2_40) ∧ (0 ≤ iO2_37.toInt ∧ iO2_37.toInt ≤ 1) ∧ (0 ≤ iD2_36.toInt ∧ iD2_36.toInt ≤ 1) ∧ (zNR ((fm2_40 5, fm2_40 8, fm2_40 10, zV fm2_40), q_42) (zNds L (fm_29 3).toInt.toNat (fm_29 4).toInt.toNat (fm_29 7) 1 n.toInt.toNat (fm_29 5, fm_29 8, fm_29 10, zV fm_29))) ∧ (zGk fm_29 fm2_40) := hq43
          have hP : va_P g.1 vwCl (List.flatten [bMo g o a 0 hi ac tp ba2_32 en2_33 at2_34 fl de2_35 iD2_36 iO2_37 tU2_38 fm2_40 fk fa2_5 fc ft ff2_39 fb2_41 fi]) H := hP
          have hD : va_D A (List.flatten [bMo g o a 0 hi ac tp ba2_32 en2_33 at2_34 fl de2_35 iD2_36 iO2_37 tU2_38 fm2_40 fk fa2_5 fc ft ff2_39 fb2_41 fi]) := hD
          refine W.widen (k := 0) (n := 0) (Nat.le_of_ble_eq_true rfl) (Nat.le_of_ble_eq_true rfl) ?_
          refine W.eq (g2 := F0 m 59 ls [.int q_42]) rfl ?_
          obtain ⟨rfm2_40, hq43_1, hq43_2, hq43_3, hq43_4⟩ := hq43
          have rg44 : zRg (zV fm2_40) := zRg_go hq43_3 rg30
          have gk45 : zGk fm fm2_40 := zGk_t gk31 hq43_4
          refine lv_istore (lv' := [(5, .int q_42), (0, .ref o), (1, .int n), (2, .int most), (3, .int x_7), (4, .int x_8)]) hx hb dX12_span_59 hl (by decide) rfl (fun ls hl => ?_)
          refine lv_aload_n hx hb dX12_span_61 rfl (lv_at hl 1 rfl) ?_
          refine mcallV' (g := g) (q0 := 0) (ci := 10) (As := []) (rest := []) St hK hT hA hP hD hS hl.1 [0] [] rfl rfl rfl (m_believedG l g o a 0 hi ac tp ba2_32 en2_33 at2_34 fl de2_35 iD2_36 iO2_37 tU2_38 fm2_40 fk fa2_5 fc ft ff2_39 fb2_41 fi rfm2_40) (cwV 0 hts (zgL (zl4 k856 k857 k858 k839) k849) rfl rfl rfl (by decide +kernel) ⟨Nat.le_of_ble_eq_true rfl, Nat.le_of_ble_eq_true rfl⟩) rfl rfl rfl rfl (Nat.le_of_ble_eq_true rfl) dX12_span_62 ⟨(Nat.le_of_ble_eq_true rfl), (Nat.le_of_ble_eq_true rfl)⟩ (fun _u H locs hq46 hP hD hS => ?_)
          have hP : va_P g.1 vwCl (List.flatten [bMo g o a 0 hi ac tp ba2_32 en2_33 at2_34 fl de2_35 iD2_36 iO2_37 tU2_38 fm2_40 fk fa2_5 fc ft ff2_39 fb2_41 fi]) H := hP
          have hD : va_D A (List.flatten [bMo g o a 0 hi ac tp ba2_32 en2_33 at2_34 fl de2_35 iD2_36 iO2_37 tU2_38 fm2_40 fk fa2_5 fc ft ff2_39 fb2_41 fi]) := hD
          refine W.widen (k := 0) (n := 0) (Nat.le_of_ble_eq_true rfl) (Nat.le_of_ble_eq_true rfl) ?_
          refine W.eq (g2 := F0 m 65 ls [.int (zBel (zV fm2_40) (fm2_40 3).toInt.toNat)]) rfl ?_
          refine lv_istore (lv' := [(6, .int (zBel (zV fm2_40) (fm2_40 3).toInt.toNat)), (5, .int q_42), (0, .ref o), (1, .int n), (2, .int most), (3, .int x_7), (4, .int x_8)]) hx hb dX12_span_65 hl (by decide) rfl (fun ls hl => ?_)
          refine lv_aload_n hx hb dX12_span_67 rfl (lv_at hl 2 rfl) ?_
          refine mcallV' (g := g) (q0 := 0) (ci := 10) (As := []) (rest := []) St hK hT hA hP hD hS hl.1 [0] [] rfl rfl rfl (m_comesBack l g o a 0 hi ac tp ba2_32 en2_33 at2_34 fl de2_35 iD2_36 iO2_37 tU2_38 fm2_40 fk fa2_5 fc ft ff2_39 fb2_41 fi rfm2_40 rfa2_5) (cwV 0 hts (zgL (zl4 k984 k985 k986 k839) k973) rfl rfl rfl (by decide +kernel) ⟨Nat.le_of_ble_eq_true rfl, Nat.le_of_ble_eq_true rfl⟩) rfl rfl rfl rfl (Nat.le_of_ble_eq_true rfl) dX12_span_68 ⟨(Nat.le_of_ble_eq_true rfl), (Nat.le_of_ble_eq_true rfl)⟩ (fun fm2_47 H locs hq48 hP hD hS => ?_)
          replace hq48 : (rM fm2_47) ∧ (zCy fm2_40 fm2_47 0 fa2_5 0 379) ∧ ((fm2_47 0).toInt = (fa2_5 0).toInt ∧ (fm2_47 3).toInt = (fa2_5 3).toInt ∧ (fm2_47 4).toInt = (fa2_5 4).toInt) := hq48
          have hP : va_P g.1 vwCl (List.flatten [bMo g o a 0 hi ac tp ba2_32 en2_33 at2_34 fl de2_35 iD2_36 iO2_37 tU2_38 fm2_47 fk fa2_5 fc ft ff2_39 fb2_41 fi]) H := hP
          have hD : va_D A (List.flatten [bMo g o a 0 hi ac tp ba2_32 en2_33 at2_34 fl de2_35 iD2_36 iO2_37 tU2_38 fm2_47 fk fa2_5 fc ft ff2_39 fb2_41 fi]) := hD
          refine W.widen (k := 0) (n := 0) (Nat.le_of_ble_eq_true rfl) (Nat.le_of_ble_eq_true rfl) ?_
          refine W.eq (g2 := F0 m 71 ls []) rfl ?_
          obtain ⟨rfm2_47, hq48_1, hq48_2⟩ := hq48
          refine lv_iload_n hx hb dX12_span_71 rfl (lv_at hl 5 rfl) ?_
          refine lv_iconst (v := (-1)) hx hb dX12_span_72 (by decide) ?_
          refine lv_icmp_ne (tgt := 81) hx hb dX12_span_73 (by decide) (fun cb9 => ?_) (fun cb9 => ?_)
          · skip
            have c49 : ¬ x_7.toInt = (-1) := zne cb9 rfl (by decide)
            refine lv_iload_n hx hb dX12_span_81 rfl (lv_at hl 4 rfl) ?_
            refine lv_if_eq (tgt := 94) hx hb dX12_span_82 (by decide) (fun cb9 => ?_) (fun cb9 => ?_)
            · skip
              have c50 : most.toInt = 0 := zeq cb9 rfl (by decide)
              have n51 : 0 ≤ most.toInt := Int.le_trans (Int.le_refl _) (Int.le_of_eq c50.symm)
              have n52 : most.toInt ≤ 0 := Int.le_trans (Int.le_of_eq c50) (Int.le_refl _)
              refine lv_iload_n hx hb dX12_span_94 rfl (lv_at hl 5 rfl) ?_
              refine lv_iload hx hb dX12_span_95 (lv_at hl 0 rfl) ?_
              refine mcallS' (g := g) (As := [.int x_7, .int (zBel (zV fm2_40) (fm2_40 3).toInt.toNat)]) (rest := []) St hK hT hA hP hD hS hl.1 [] [0] rfl rfl rfl (m_lesser l g x_7 (zBel (zV fm2_40) (fm2_40 3).toInt.toNat) ) (va_cwS 2 hts (zgL (zl3 k1000 k1001 k839) k827) rfl rfl rfl (by decide +kernel) ⟨Nat.le_of_ble_eq_true rfl, Nat.le_of_ble_eq_true rfl⟩) rfl rfl (Nat.le_of_ble_eq_true rfl) dX12_span_97 ⟨(Nat.le_of_ble_eq_true rfl), (Nat.le_of_ble_eq_true rfl)⟩ (fun q_53 H locs hq54 hP hD hS => ?_)
              replace hq54 : (q_53.toInt ≤ x_7.toInt ∧ q_53.toInt ≤ (zBel (zV fm2_40) (fm2_40 3).toInt.toNat).toInt ∧ (q_53.toInt = x_7.toInt ∨ q_53.toInt = (zBel (zV fm2_40) (fm2_40 3).toInt.toNat).toInt)) := hq54
              have hP : va_P g.1 vwCl (List.flatten [bMo g o a 0 hi ac tp ba2_32 en2_33 at2_34 fl de2_35 iD2_36 iO2_37 tU2_38 fm2_47 fk fa2_5 fc ft ff2_39 fb2_41 fi]) H := hP
              have hD : va_D A (List.flatten [bMo g o a 0 hi ac tp ba2_32 en2_33 at2_34 fl de2_35 iD2_36 iO2_37 tU2_38 fm2_47 fk fa2_5 fc ft ff2_39 fb2_41 fi]) := hD
              refine W.widen (k := 0) (n := 0) (Nat.le_of_ble_eq_true rfl) (Nat.le_of_ble_eq_true rfl) ?_
              refine W.eq (g2 := F0 m 100 ls [.int q_53]) rfl ?_
              refine lv_istore_n (lv' := [(3, .int q_53), (6, .int (zBel (zV fm2_40) (fm2_40 3).toInt.toNat)), (5, .int q_42), (0, .ref o), (1, .int n), (2, .int most), (4, .int x_8)]) hx hb dX12_span_100 rfl hl (by decide) rfl (fun ls hl => ?_)
              refine ziinc3 (n' := 1) (a' := 2) (b' := 7) (lv' := fun v9 => [(4, .int v9), (3, .int q_53), (6, .int (zBel (zV fm2_40) (fm2_40 3).toInt.toNat)), (5, .int q_42), (0, .ref o), (1, .int n), (2, .int most)]) hx hb dX12_span_101 hl (k := 6) rfl (by decide) (fun _ => rfl) (zaddK (i := x_8.toInt) (j := 1) rfl (by decide) i19.1 n28 (Int.le_refl _) (Int.le_refl _) (by decide)) (fun x_55 ls hx_55 hl => ?_)
              refine lv_goto (tgt := 37) hx hb dX12_span_104 (by decide) ?_
              have hl := lv_sub (l' := [(0, .ref o), (1, .int n), (2, .int most), (3, .int q_53), (4, .int x_55), (5, .int q_42), (6, .int (zBel (zV fm2_40) (fm2_40 3).toInt.toNat))]) hl [4, 5, 6, 1, 0, 3, 2] rfl
              have hP : va_P g.1 vwCl (List.flatten [bMo g o a 0 hi ac tp ba2_32 en2_33 at2_34 fl de2_35 iD2_36 iO2_37 tU2_38 fm2_47 fk fa2_5 fc ft ff2_39 fb2_41 fi]) H := hP
              have hD : va_D A (List.flatten [bMo g o a 0 hi ac tp ba2_32 en2_33 at2_34 fl de2_35 iD2_36 iO2_37 tU2_38 fm2_47 fk fa2_5 fc ft ff2_39 fb2_41 fi]) := hD
              exact ih37_24 q_53 x_55 ba2_32 en2_33 at2_34 de2_35 iD2_36 iO2_37 tU2_38 fm2_47 ff2_39 fb2_41 ⟨(Int.le_trans (by decide) hx_55.2.1), hx_55.2.2⟩ ⟨hq43_2.1, hq43_2.2⟩ ⟨hq43_1.1, hq43_1.2⟩ rfm2_47 (zBackD hq6_1 gk45 hq48_1) H _ ls (zmK hx_55.1 (by decide) n28 (by decide) hk37_24)  hP hD hS (lv_sub hl [0, 1, 2, 3, 4] rfl)
            · skip
              have c56 : ¬ most.toInt = 0 := zne cb9 rfl (by decide)
              refine lv_iload_n hx hb dX12_span_85 rfl (lv_at hl 5 rfl) ?_
              refine lv_iload hx hb dX12_span_86 (lv_at hl 0 rfl) ?_
              refine mcallS' (g := g) (As := [.int x_7, .int (zBel (zV fm2_40) (fm2_40 3).toInt.toNat)]) (rest := []) St hK hT hA hP hD hS hl.1 [] [0] rfl rfl rfl (m_greater l g x_7 (zBel (zV fm2_40) (fm2_40 3).toInt.toNat) ) (va_cwS 2 hts (zgL (zl3 k1003 k1004 k839) k828) rfl rfl rfl (by decide +kernel) ⟨Nat.le_of_ble_eq_true rfl, Nat.le_of_ble_eq_true rfl⟩) rfl rfl (Nat.le_of_ble_eq_true rfl) dX12_span_88 ⟨(Nat.le_of_ble_eq_true rfl), (Nat.le_of_ble_eq_true rfl)⟩ (fun q_57 H locs hq58 hP hD hS => ?_)
              replace hq58 : (x_7.toInt ≤ q_57.toInt ∧ (zBel (zV fm2_40) (fm2_40 3).toInt.toNat).toInt ≤ q_57.toInt ∧ (q_57.toInt = x_7.toInt ∨ q_57.toInt = (zBel (zV fm2_40) (fm2_40 3).toInt.toNat).toInt)) := hq58
              have hP : va_P g.1 vwCl (List.flatten [bMo g o a 0 hi ac tp ba2_32 en2_33 at2_34 fl de2_35 iD2_36 iO2_37 tU2_38 fm2_47 fk fa2_5 fc ft ff2_39 fb2_41 fi]) H := hP
              have hD : va_D A (List.flatten [bMo g o a 0 hi ac tp ba2_32 en2_33 at2_34 fl de2_35 iD2_36 iO2_37 tU2_38 fm2_47 fk fa2_5 fc ft ff2_39 fb2_41 fi]) := hD
              refine W.widen (k := 0) (n := 0) (Nat.le_of_ble_eq_true rfl) (Nat.le_of_ble_eq_true rfl) ?_
              refine W.eq (g2 := F0 m 91 ls [.int q_57]) rfl ?_
              refine lv_goto (tgt := 100) hx hb dX12_span_91 (by decide) ?_
              refine lv_istore_n (lv' := [(3, .int q_57), (6, .int (zBel (zV fm2_40) (fm2_40 3).toInt.toNat)), (5, .int q_42), (0, .ref o), (1, .int n), (2, .int most), (4, .int x_8)]) hx hb dX12_span_100 rfl hl (by decide) rfl (fun ls hl => ?_)
              refine ziinc3 (n' := 1) (a' := 2) (b' := 7) (lv' := fun v9 => [(4, .int v9), (3, .int q_57), (6, .int (zBel (zV fm2_40) (fm2_40 3).toInt.toNat)), (5, .int q_42), (0, .ref o), (1, .int n), (2, .int most)]) hx hb dX12_span_101 hl (k := 6) rfl (by decide) (fun _ => rfl) (zaddK (i := x_8.toInt) (j := 1) rfl (by decide) i19.1 n28 (Int.le_refl _) (Int.le_refl _) (by decide)) (fun x_59 ls hx_59 hl => ?_)
              refine lv_goto (tgt := 37) hx hb dX12_span_104 (by decide) ?_
              have hl := lv_sub (l' := [(0, .ref o), (1, .int n), (2, .int most), (3, .int q_57), (4, .int x_59), (5, .int q_42), (6, .int (zBel (zV fm2_40) (fm2_40 3).toInt.toNat))]) hl [4, 5, 6, 1, 0, 3, 2] rfl
              have hP : va_P g.1 vwCl (List.flatten [bMo g o a 0 hi ac tp ba2_32 en2_33 at2_34 fl de2_35 iD2_36 iO2_37 tU2_38 fm2_47 fk fa2_5 fc ft ff2_39 fb2_41 fi]) H := hP
              have hD : va_D A (List.flatten [bMo g o a 0 hi ac tp ba2_32 en2_33 at2_34 fl de2_35 iD2_36 iO2_37 tU2_38 fm2_47 fk fa2_5 fc ft ff2_39 fb2_41 fi]) := hD
              exact ih37_24 q_57 x_59 ba2_32 en2_33 at2_34 de2_35 iD2_36 iO2_37 tU2_38 fm2_47 ff2_39 fb2_41 ⟨(Int.le_trans (by decide) hx_59.2.1), hx_59.2.2⟩ ⟨hq43_2.1, hq43_2.2⟩ ⟨hq43_1.1, hq43_1.2⟩ rfm2_47 (zBackD hq6_1 gk45 hq48_1) H _ ls (zmK hx_59.1 (by decide) n28 (by decide) hk37_24)  hP hD hS (lv_sub hl [0, 1, 2, 3, 4] rfl)
          · skip
            have c60 : x_7.toInt = (-1) := zeq cb9 rfl (by decide)
            have n61 : (-1) ≤ x_7.toInt := Int.le_trans (Int.le_refl _) (Int.le_of_eq c60.symm)
            have n62 : x_7.toInt ≤ (-1) := Int.le_trans (Int.le_of_eq c60) (Int.le_refl _)
            refine lv_iload hx hb dX12_span_76 (lv_at hl 0 rfl) ?_
            refine lv_goto (tgt := 100) hx hb dX12_span_78 (by decide) ?_
            refine lv_istore_n (lv' := [(3, .int (zBel (zV fm2_40) (fm2_40 3).toInt.toNat)), (6, .int (zBel (zV fm2_40) (fm2_40 3).toInt.toNat)), (5, .int q_42), (0, .ref o), (1, .int n), (2, .int most), (4, .int x_8)]) hx hb dX12_span_100 rfl hl (by decide) rfl (fun ls hl => ?_)
            refine ziinc3 (n' := 1) (a' := 2) (b' := 7) (lv' := fun v9 => [(4, .int v9), (3, .int (zBel (zV fm2_40) (fm2_40 3).toInt.toNat)), (6, .int (zBel (zV fm2_40) (fm2_40 3).toInt.toNat)), (5, .int q_42), (0, .ref o), (1, .int n), (2, .int most)]) hx hb dX12_span_101 hl (k := 6) rfl (by decide) (fun _ => rfl) (zaddK (i := x_8.toInt) (j := 1) rfl (by decide) i19.1 n28 (Int.le_refl _) (Int.le_refl _) (by decide)) (fun x_63 ls hx_63 hl => ?_)
            refine lv_goto (tgt := 37) hx hb dX12_span_104 (by decide) ?_
            have hl := lv_sub (l' := [(0, .ref o), (1, .int n), (2, .int most), (3, .int (zBel (zV fm2_40) (fm2_40 3).toInt.toNat)), (4, .int x_63), (5, .int q_42), (6, .int (zBel (zV fm2_40) (fm2_40 3).toInt.toNat))]) hl [4, 5, 6, 1, 0, 3, 2] rfl
            have hP : va_P g.1 vwCl (List.flatten [bMo g o a 0 hi ac tp ba2_32 en2_33 at2_34 fl de2_35 iD2_36 iO2_37 tU2_38 fm2_47 fk fa2_5 fc ft ff2_39 fb2_41 fi]) H := hP
            have hD : va_D A (List.flatten [bMo g o a 0 hi ac tp ba2_32 en2_33 at2_34 fl de2_35 iD2_36 iO2_37 tU2_38 fm2_47 fk fa2_5 fc ft ff2_39 fb2_41 fi]) := hD
            exact ih37_24 (zBel (zV fm2_40) (fm2_40 3).toInt.toNat) x_63 ba2_32 en2_33 at2_34 de2_35 iD2_36 iO2_37 tU2_38 fm2_47 ff2_39 fb2_41 ⟨(Int.le_trans (by decide) hx_63.2.1), hx_63.2.2⟩ ⟨hq43_2.1, hq43_2.2⟩ ⟨hq43_1.1, hq43_1.2⟩ rfm2_47 (zBackD hq6_1 gk45 hq48_1) H _ ls (zmK hx_63.1 (by decide) n28 (by decide) hk37_24)  hP hD hS (lv_sub hl [0, 1, 2, 3, 4] rfl)
    have hLn1 : ((-1) : Int32).toInt = (-1) := by decide
    have hL1 : (1 : Int32).toInt = 1 := by decide
    have hP : va_P g.1 vwCl (List.flatten [bMo g o a 0 hi ac tp ba en tA fl de iD iO tU fm fk fa2_5 fc ft ff fb fi]) H := hP
    have hD : va_D A (List.flatten [bMo g o a 0 hi ac tp ba en tA fl de iD iO tU fm fk fa2_5 fc ft ff fb fi]) := hD
    exact LP37_23 _ (-1) 1 ba en tA de iD iO tU fm ff fb (by decide) ⟨hiD.1, hiD.2⟩ ⟨hiO.1, hiO.2⟩ rfm rfl H _ ls (Nat.lt_succ_self _)  hP hD hS (lv_sub hl [0, 1, 2, 3, 4] rfl)
  · skip
    refine lv_if_ne (tgt := 15) hx hb dX12_span_8 (by decide) (fun c64 => absurd (by decide) c64) (fun _ => ?_)
    refine lv_iconst (v := 1) hx hb dX12_span_11 (by decide) ?_
    refine lv_goto (tgt := 16) hx hb dX12_span_12 (by decide) ?_
    refine va_put (D := g.1) (ci := 10) (v := .int 1) (ty := .int) (C := RX12) (T := TX12) (N := 20) hx hb hts izRX12 tyX12 tyX12_ok nmX12 hown hK hP hD hS 0 rfl rfl 0 (by decide) (hts _ k825) (fun _ h9 => h9) rfl (by decide +kernel) rfl rfl (Nat.le_of_ble_eq_true rfl) dX12_span_16 (fun H locs hP hD hS => ?_)
    have hP : va_P g.1 vwCl (List.flatten [bMo g o a 1 hi ac tp ba en tA fl de iD iO tU fm fk fa fc ft ff fb fi]) H := hP
    have hD : va_D A (List.flatten [bMo g o a 1 hi ac tp ba en tA fl de iD iO tU fm fk fa fc ft ff fb fi]) := hD
    refine lv_aload_n hx hb dX12_span_19 rfl (lv_at hl 0 rfl) ?_
    refine va_get (D := g.1) (ci := 10) (v := .int 1) (C := RX12) (T := TX12) (N := 20) hx hb hts izRX12 hown hK hP 0 rfl rfl 0 (by decide) (hts _ k825) (fun _ h9 => h9) rfl dX12_span_20 ?_
    refine lv_if_le (tgt := 28) hx hb dX12_span_23 (by decide) (fun c65 => absurd c65 (by decide)) (fun _ => ?_)
    refine lv_iconst (v := 0) hx hb dX12_span_26 (by decide) ?_
    have hP : va_P g.1 vwCl (List.flatten [bMo g o a 1 hi ac tp ba en tA fl de iD iO tU fm fk fa fc ft ff fb fi]) H := hP
    have hD : va_D A (List.flatten [bMo g o a 1 hi ac tp ba en tA fl de iD iO tU fm fk fa fc ft ff fb fi]) := hD
    exact mret_i hx hb hr hlocks hS (Nat.le_of_ble_eq_true rfl) (Nat.le_of_ble_eq_true rfl) dX12_span_27 ((1 : Int32), fm, fa, ba, en, tA, de, iD, iO, tU, ff, fb, (0 : Int32)) rfl (show (0 ≤ iO.toInt ∧ iO.toInt ≤ 1) ∧ (0 ≤ iD.toInt ∧ iD.toInt ≤ 1) ∧ (rM fa) ∧ (rM fm) ∧ (fm = fm) from ⟨(by first | assumption | omega | decide), (by first | assumption | omega | decide), (by first | assumption | omega | decide), (by first | assumption | omega | decide), rfl⟩) hP hD
