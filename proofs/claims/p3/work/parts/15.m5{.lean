set_option maxRecDepth 100000 in
set_option maxHeartbeats 4000000 in
theorem m_guru (l : Launch) (g : zG) (o : Nat) (a : Nat → Nat) (th : Int32) (hi : Int32) (ac : Int32) (tp : Int32) (ba : Int32) (en : Int32) (tA : Int32) (fl : Int32) (de : Int32) (iD : Int32) (iO : Int32) (tU : Int32) (fm : Nat → Int32) (fk : Nat → Int32) (fa : Nat → Int32) (fc : Nat → Int32) (ft : Nat → Int32) (ff : Nat → Int32) (fb : Nat → Int32) (fi : Nat → Int32) (n : Int32) (rfm : rM fm) (rfa : rM fa) (hiD : 0 ≤ iD.toInt ∧ iD.toInt ≤ 1) (hiO : 0 ≤ iO.toInt ∧ iO.toInt ≤ 1) : zM' g l yX12_guru (Cond.code yX12_guru cX12_guru 6 (some .int) :: zB) ({ frames := 34, cells := 0, slots := 0, locals := 761 } : Room) [.ref o, .int n] [bMo g o a th hi ac tp ba en tA fl de iD iO tU fm fk fa fc ft ff fb fi] (fun u : Int32 × Int32 × Int32 × Int32 × Int32 × Int32 × Int32 × Int32 × (Nat → Int32) × (Nat → Int32) × (Nat → Int32) × (Nat → Int32) × Int32 => (fun (th2 : Int32) (ba2 : Int32) (en2 : Int32) (at2 : Int32) (de2 : Int32) (iD2 : Int32) (iO2 : Int32) (tU2 : Int32) (ff2 : Nat → Int32) (fm2 : Nat → Int32) (fb2 : Nat → Int32) (fa2 : Nat → Int32) (q : Int32) => some (.int q)) (u.1) (u.2.1) (u.2.2.1) (u.2.2.2.1) (u.2.2.2.2.1) (u.2.2.2.2.2.1) (u.2.2.2.2.2.2.1) (u.2.2.2.2.2.2.2.1) (u.2.2.2.2.2.2.2.2.1) (u.2.2.2.2.2.2.2.2.2.1) (u.2.2.2.2.2.2.2.2.2.2.1) (u.2.2.2.2.2.2.2.2.2.2.2.1) (u.2.2.2.2.2.2.2.2.2.2.2.2)) (fun u : Int32 × Int32 × Int32 × Int32 × Int32 × Int32 × Int32 × Int32 × (Nat → Int32) × (Nat → Int32) × (Nat → Int32) × (Nat → Int32) × Int32 => (fun (th2 : Int32) (ba2 : Int32) (en2 : Int32) (at2 : Int32) (de2 : Int32) (iD2 : Int32) (iO2 : Int32) (tU2 : Int32) (ff2 : Nat → Int32) (fm2 : Nat → Int32) (fb2 : Nat → Int32) (fa2 : Nat → Int32) (q : Int32) => (rM fa2) ∧ (rM fm2) ∧ (0 ≤ iO2.toInt ∧ iO2.toInt ≤ 1) ∧ (0 ≤ iD2.toInt ∧ iD2.toInt ≤ 1)) (u.1) (u.2.1) (u.2.2.1) (u.2.2.2.1) (u.2.2.2.2.1) (u.2.2.2.2.2.1) (u.2.2.2.2.2.2.1) (u.2.2.2.2.2.2.2.1) (u.2.2.2.2.2.2.2.2.1) (u.2.2.2.2.2.2.2.2.2.1) (u.2.2.2.2.2.2.2.2.2.2.1) (u.2.2.2.2.2.2.2.2.2.2.2.1) (u.2.2.2.2.2.2.2.2.2.2.2.2)) (fun u : Int32 × Int32 × Int32 × Int32 × Int32 × Int32 × Int32 × Int32 × (Nat → Int32) × (Nat → Int32) × (Nat → Int32) × (Nat → Int32) × Int32 => (fun (th2 : Int32) (ba2 : Int32) (en2 : Int32) (at2 : Int32) (de2 : Int32) (iD2 : Int32) (iO2 : Int32) (tU2 : Int32) (ff2 : Nat → Int32) (fm2 : Nat → Int32) (fb2 : Nat → Int32) (fa2 : Nat → Int32) (q : Int32) => [bMo g o a th2 hi ac tp ba2 en2 at2 fl de2 iD2 iO2 tU2 fm2 fk fa2 fc ft ff2 fb2 fi]) (u.1) (u.2.1) (u.2.2.1) (u.2.2.2.1) (u.2.2.2.2.1) (u.2.2.2.2.2.1) (u.2.2.2.2.2.2.1) (u.2.2.2.2.2.2.2.1) (u.2.2.2.2.2.2.2.2.1) (u.2.2.2.2.2.2.2.2.2.1) (u.2.2.2.2.2.2.2.2.2.2.1) (u.2.2.2.2.2.2.2.2.2.2.2.1) (u.2.2.2.2.2.2.2.2.2.2.2.2)) := by
  refine zM'.of (cc := cX12_guru) (maxL := 6) (rt := (some .int)) (by decide) rfl (Nat.le_of_ble_eq_true rfl) ?_
  intro p e s m args below meth c A ls St hr hlocks hin hK hT hA hP hD hS hl
  obtain ⟨hx, hb, hml, hown, hts⟩ := id St
  have hl : lv_has ls 6 [(0, .ref o), (1, .int n)] := hl
  refine lv_aload_n hx hb dX12_guru_0 rfl (lv_at hl 0 rfl) ?_
  refine lv_iload_n hx hb dX12_guru_1 rfl (lv_at hl 1 rfl) ?_
  refine lv_iconst (v := 0) hx hb dX12_guru_2 (by decide) ?_
  refine lv_bipush (v := 30) hx hb dX12_guru_3 (by decide) ?_
  have hL0 : (0 : Int32).toInt = 0 := by decide
  have hL30 : (30 : Int32).toInt = 30 := by decide
  refine mcallS' (g := g) (As := [.int n, .int 0, .int 30]) (rest := [.ref o]) St hK hT hA hP hD hS hl.1 [] [0] rfl rfl rfl (m_isIn l g n 0 30 ) (va_cwS 3 hts (zgL (zl3 k835 k836 k837) k824) rfl rfl rfl (by decide +kernel) ⟨Nat.le_of_ble_eq_true rfl, Nat.le_of_ble_eq_true rfl⟩) rfl rfl (Nat.le_of_ble_eq_true rfl) dX12_guru_5 ⟨(Nat.le_of_ble_eq_true rfl), (Nat.le_of_ble_eq_true rfl)⟩ (fun q_1 H locs hq2 hP hD hS => ?_)
  replace hq2 : (q_1 = 1 ∧ (0 : Int32).toInt ≤ n.toInt ∧ n.toInt ≤ (30 : Int32).toInt ∨ q_1 = 0 ∧ (n.toInt < (0 : Int32).toInt ∨ (30 : Int32).toInt < n.toInt)) := hq2
  have hP : va_P g.1 vwCl (List.flatten [bMo g o a th hi ac tp ba en tA fl de iD iO tU fm fk fa fc ft ff fb fi]) H := hP
  have hD : va_D A (List.flatten [bMo g o a th hi ac tp ba en tA fl de iD iO tU fm fk fa fc ft ff fb fi]) := hD
  refine W.widen (k := 0) (n := 0) (Nat.le_of_ble_eq_true rfl) (Nat.le_of_ble_eq_true rfl) ?_
  refine W.eq (g2 := F0 m 8 ls [.int q_1, .ref o]) rfl ?_
  rcases hq2 with ⟨rfl, hq2_k⟩ | ⟨rfl, hq2_k⟩
  · skip
    refine lv_if_ne (tgt := 15) hx hb dX12_guru_8 (by decide) (fun _ => ?_) (fun c3 => absurd c3 (by decide))
    refine lv_iconst (v := 0) hx hb dX12_guru_15 (by decide) ?_
    refine va_put (D := g.1) (ci := 10) (v := .int 0) (ty := .int) (C := RX12) (T := TX12) (N := 20) hx hb hts izRX12 tyX12 tyX12_ok nmX12 hown hK hP hD hS 0 rfl rfl 0 (by decide) (hts _ k871) (fun _ h9 => h9) rfl (by decide +kernel) rfl rfl (Nat.le_of_ble_eq_true rfl) dX12_guru_16 (fun H locs hP hD hS => ?_)
    have hP : va_P g.1 vwCl (List.flatten [bMo g o a 0 hi ac tp ba en tA fl de iD iO tU fm fk fa fc ft ff fb fi]) H := hP
    have hD : va_D A (List.flatten [bMo g o a 0 hi ac tp ba en tA fl de iD iO tU fm fk fa fc ft ff fb fi]) := hD
    refine lv_aload_n hx hb dX12_guru_19 rfl (lv_at hl 0 rfl) ?_
    refine va_get (D := g.1) (ci := 10) (v := .int 0) (C := RX12) (T := TX12) (N := 20) hx hb hts izRX12 hown hK hP 0 rfl rfl 0 (by decide) (hts _ k871) (fun _ h9 => h9) rfl dX12_guru_20 ?_
    refine lv_if_le (tgt := 28) hx hb dX12_guru_23 (by decide) (fun _ => ?_) (fun c4 => absurd (by decide) c4)
    refine lv_iconst (v := (-1)) hx hb dX12_guru_28 (by decide) ?_
    refine lv_istore_n (lv' := [(2, .int (-1)), (0, .ref o), (1, .int n)]) hx hb dX12_guru_29 rfl hl (by decide) rfl (fun ls hl => ?_)
    refine lv_iconst (v := 0) hx hb dX12_guru_30 (by decide) ?_
    refine lv_istore_n (lv' := [(3, .int 0), (2, .int (-1)), (0, .ref o), (1, .int n)]) hx hb dX12_guru_31 rfl hl (by decide) rfl (fun ls hl => ?_)
    refine lv_iconst (v := 0) hx hb dX12_guru_32 (by decide) ?_
    refine lv_istore (lv' := [(4, .int 0), (3, .int 0), (2, .int (-1)), (0, .ref o), (1, .int n)]) hx hb dX12_guru_33 hl (by decide) rfl (fun ls hl => ?_)
    have hl := lv_sub (l' := [(0, .ref o), (1, .int n), (2, .int (-1)), (3, .int 0), (4, .int 0)]) hl [3, 4, 2, 1, 0] rfl
    have LP35_23 : ∀ (kf : Nat) (x_5 : Int32) (x_6 : Int32) (x_7 : Int32) (x_8 : Int32) (x_9 : Int32) (x_10 : Int32) (x_11 : Int32) (x_12 : Int32) (x_13 : Int32) (x_14 : Int32) (fm_15 : Nat → Int32) (fa_16 : Nat → Int32) (ff_17 : Nat → Int32) (fb_18 : Nat → Int32), ((-1) ≤ x_5.toInt ∧ x_5.toInt ≤ 7) → (0 ≤ x_7.toInt ∧ x_7.toInt ≤ 8) → (0 ≤ x_12.toInt ∧ x_12.toInt ≤ 1) → (0 ≤ x_13.toInt ∧ x_13.toInt ≤ 1) → (rM fm_15) → (rM fa_16) → ∀ (H : Heap) (locs : List Loc) (ls : Array Slot), ((9 - x_7.toInt).toNat) < kf → va_P g.1 vwCl (List.flatten [bMo g o a 0 hi ac tp x_8 x_9 x_10 fl x_11 x_12 x_13 x_14 fm_15 fk fa_16 fc ft ff_17 fb_18 fi]) H → va_D A (List.flatten [bMo g o a 0 hi ac tp x_8 x_9 x_10 fl x_11 x_12 x_13 x_14 fm_15 fk fa_16 fc ft ff_17 fb_18 fi]) → va_S A s.heap H locs → lv_has ls 6 [(0, .ref o), (1, .int n), (2, .int x_5), (3, .int x_6), (4, .int x_7)] → W p l e ({ frames := 34, cells := 0, slots := 0, locals := 761 } : Room) s m args below meth c H locs (0) (0) (zF g (fun u : Int32 × Int32 × Int32 × Int32 × Int32 × Int32 × Int32 × Int32 × (Nat → Int32) × (Nat → Int32) × (Nat → Int32) × (Nat → Int32) × Int32 => (fun (th2 : Int32) (ba2 : Int32) (en2 : Int32) (at2 : Int32) (de2 : Int32) (iD2 : Int32) (iO2 : Int32) (tU2 : Int32) (ff2 : Nat → Int32) (fm2 : Nat → Int32) (fb2 : Nat → Int32) (fa2 : Nat → Int32) (q : Int32) => some (.int q)) (u.1) (u.2.1) (u.2.2.1) (u.2.2.2.1) (u.2.2.2.2.1) (u.2.2.2.2.2.1) (u.2.2.2.2.2.2.1) (u.2.2.2.2.2.2.2.1) (u.2.2.2.2.2.2.2.2.1) (u.2.2.2.2.2.2.2.2.2.1) (u.2.2.2.2.2.2.2.2.2.2.1) (u.2.2.2.2.2.2.2.2.2.2.2.1) (u.2.2.2.2.2.2.2.2.2.2.2.2)) (fun u : Int32 × Int32 × Int32 × Int32 × Int32 × Int32 × Int32 × Int32 × (Nat → Int32) × (Nat → Int32) × (Nat → Int32) × (Nat → Int32) × Int32 => (fun (th2 : Int32) (ba2 : Int32) (en2 : Int32) (at2 : Int32) (de2 : Int32) (iD2 : Int32) (iO2 : Int32) (tU2 : Int32) (ff2 : Nat → Int32) (fm2 : Nat → Int32) (fb2 : Nat → Int32) (fa2 : Nat → Int32) (q : Int32) => (rM fa2) ∧ (rM fm2) ∧ (0 ≤ iO2.toInt ∧ iO2.toInt ≤ 1) ∧ (0 ≤ iD2.toInt ∧ iD2.toInt ≤ 1)) (u.1) (u.2.1) (u.2.2.1) (u.2.2.2.1) (u.2.2.2.2.1) (u.2.2.2.2.2.1) (u.2.2.2.2.2.2.1) (u.2.2.2.2.2.2.2.1) (u.2.2.2.2.2.2.2.2.1) (u.2.2.2.2.2.2.2.2.2.1) (u.2.2.2.2.2.2.2.2.2.2.1) (u.2.2.2.2.2.2.2.2.2.2.2.1) (u.2.2.2.2.2.2.2.2.2.2.2.2)) (fun u : Int32 × Int32 × Int32 × Int32 × Int32 × Int32 × Int32 × Int32 × (Nat → Int32) × (Nat → Int32) × (Nat → Int32) × (Nat → Int32) × Int32 => (fun (th2 : Int32) (ba2 : Int32) (en2 : Int32) (at2 : Int32) (de2 : Int32) (iD2 : Int32) (iO2 : Int32) (tU2 : Int32) (ff2 : Nat → Int32) (fm2 : Nat → Int32) (fb2 : Nat → Int32) (fa2 : Nat → Int32) (q : Int32) => [bMo g o a th2 hi ac tp ba2 en2 at2 fl de2 iD2 iO2 tU2 fm2 fk fa2 fc ft ff2 fb2 fi]) (u.1) (u.2.1) (u.2.2.1) (u.2.2.2.1) (u.2.2.2.2.1) (u.2.2.2.2.2.1) (u.2.2.2.2.2.2.1) (u.2.2.2.2.2.2.2.1) (u.2.2.2.2.2.2.2.2.1) (u.2.2.2.2.2.2.2.2.2.1) (u.2.2.2.2.2.2.2.2.2.2.1) (u.2.2.2.2.2.2.2.2.2.2.2.1) (u.2.2.2.2.2.2.2.2.2.2.2.2)) ({ frames := 34, cells := 0, slots := 0, locals := 761 } : Room) below args s A) (F0 m 35 ls []) := by
      intro kf
      induction kf with
      | zero => intro x_5 x_6 x_7 x_8 x_9 x_10 x_11 x_12 x_13 x_14 fm_15 fa_16 ff_17 fb_18 i19 i20 i21 i22 rfm_15 rfa_16 H locs ls hk; exact absurd hk (Nat.not_lt_zero _)
      | succ kf ih35_24 =>
        intro x_5 x_6 x_7 x_8 x_9 x_10 x_11 x_12 x_13 x_14 fm_15 fa_16 ff_17 fb_18 i19 i20 i21 i22 rfm_15 rfa_16 H locs ls hk35_24 hP hD hS hl
        refine lv_iload hx hb dX12_guru_35 (lv_at hl 4 rfl) ?_
        refine lv_aload_n hx hb dX12_guru_37 rfl (lv_at hl 0 rfl) ?_
        refine va_get (D := g.1) (ci := 10) (v := .ref (a 0)) (C := RX12) (T := TX12) (N := 20) hx hb hts izRX12 hown hK hP 0 rfl rfl 1 (by decide) (hts _ k815) (fun _ h9 => h9) rfl dX12_guru_38 ?_
        refine lv_iconst (v := 3) hx hb dX12_guru_41 (by decide) ?_
        refine va_iald hx hb hK hP 1 0 rfl rfl (zin rfl) dX12_guru_42 ?_
        refine zgq (r := fm_15 3) rfl (rM3 rfm_15) (fun x_25 hx_25 => ?_)
        refine lv_icmp_ge (tgt := 107) hx hb dX12_guru_43 (by decide) (fun cb9 => ?_) (fun cb9 => ?_)
        · skip
          have c26 : x_25.toInt ≤ x_7.toInt := zle cb9 rfl rfl
          refine lv_iload_n hx hb dX12_guru_107 rfl (lv_at hl 2 rfl) ?_
          have hP : va_P g.1 vwCl (List.flatten [bMo g o a 0 hi ac tp x_8 x_9 x_10 fl x_11 x_12 x_13 x_14 fm_15 fk fa_16 fc ft ff_17 fb_18 fi]) H := hP
          have hD : va_D A (List.flatten [bMo g o a 0 hi ac tp x_8 x_9 x_10 fl x_11 x_12 x_13 x_14 fm_15 fk fa_16 fc ft ff_17 fb_18 fi]) := hD
          exact mret_i hx hb hr hlocks hS (Nat.le_of_ble_eq_true rfl) (Nat.le_of_ble_eq_true rfl) dX12_guru_108 ((0 : Int32), x_8, x_9, x_10, x_11, x_12, x_13, x_14, ff_17, fm_15, fb_18, fa_16, x_5) rfl (show (rM fa_16) ∧ (rM fm_15) ∧ (0 ≤ x_13.toInt ∧ x_13.toInt ≤ 1) ∧ (0 ≤ x_12.toInt ∧ x_12.toInt ≤ 1) from ⟨(by first | assumption | omega | decide | exact rfl | exact zb01 (by omega) | exact Or.inl (by decide) | exact Or.inr (by first | omega | decide)), (by first | assumption | omega | decide | exact rfl | exact zb01 (by omega) | exact Or.inl (by decide) | exact Or.inr (by first | omega | decide)), (by first | assumption | omega | decide | exact rfl | exact zb01 (by omega) | exact Or.inl (by decide) | exact Or.inr (by first | omega | decide)), (by first | assumption | omega | decide | exact rfl | exact zb01 (by omega) | exact Or.inl (by decide) | exact Or.inr (by first | omega | decide))⟩) hP hD
        · skip
          have c27 : x_7.toInt < x_25.toInt := zlti (Int32.not_le.mp cb9) rfl rfl
          have n28 : x_7.toInt ≤ 7 := zL1 (b := 8) c27 hx_25.2.1 (by decide)
          have n29 : 1 ≤ x_25.toInt := zL2 (a := 0) c27 i20.1 (by decide)
          refine lv_aload_n hx hb dX12_guru_46 rfl (lv_at hl 0 rfl) ?_
          refine lv_iload hx hb dX12_guru_47 (lv_at hl 4 rfl) ?_
          refine mcallV' (g := g) (q0 := 0) (ci := 10) (As := [.int x_7]) (rest := []) St hK hT hA hP hD hS hl.1 [0] [] rfl rfl rfl (m_isHere l g o a 0 hi ac tp x_8 x_9 x_10 fl x_11 x_12 x_13 x_14 fm_15 fk fa_16 fc ft ff_17 fb_18 fi x_7 (⟨i20.1, n28⟩)) (cwV 1 hts (zgL (zl4 k844 k845 k846 k837) k839) rfl rfl rfl (by decide +kernel) ⟨Nat.le_of_ble_eq_true rfl, Nat.le_of_ble_eq_true rfl⟩) rfl rfl rfl rfl (Nat.le_of_ble_eq_true rfl) dX12_guru_49 ⟨(Nat.le_of_ble_eq_true rfl), (Nat.le_of_ble_eq_true rfl)⟩ (fun q_30 H locs hq31 hP hD hS => ?_)
          replace hq31 : (q_30 = 0 ∨ q_30 = 1) := hq31
          have hP : va_P g.1 vwCl (List.flatten [bMo g o a 0 hi ac tp x_8 x_9 x_10 fl x_11 x_12 x_13 x_14 fm_15 fk fa_16 fc ft ff_17 fb_18 fi]) H := hP
          have hD : va_D A (List.flatten [bMo g o a 0 hi ac tp x_8 x_9 x_10 fl x_11 x_12 x_13 x_14 fm_15 fk fa_16 fc ft ff_17 fb_18 fi]) := hD
          refine W.widen (k := 0) (n := 0) (Nat.le_of_ble_eq_true rfl) (Nat.le_of_ble_eq_true rfl) ?_
          refine W.eq (g2 := F0 m 52 ls [.int q_30]) rfl ?_
          rcases hq31 with rfl | rfl
          · skip
            refine lv_if_eq (tgt := 69) hx hb dX12_guru_52 (by decide) (fun _ => ?_) (fun c32 => absurd (by decide) c32)
            refine lv_iconst (v := 0) hx hb dX12_guru_69 (by decide) ?_
            refine lv_istore (lv' := [(5, .int 0), (0, .ref o), (1, .int n), (2, .int x_5), (3, .int x_6), (4, .int x_7)]) hx hb dX12_guru_70 hl (by decide) rfl (fun ls hl => ?_)
            refine lv_aload_n hx hb dX12_guru_72 rfl (lv_at hl 1 rfl) ?_
            refine lv_iload hx hb dX12_guru_73 (lv_at hl 5 rfl) ?_
            refine mcallV' (g := g) (q0 := 0) (ci := 10) (As := [.int x_7]) (rest := []) St hK hT hA hP hD hS hl.1 [0] [] rfl rfl rfl (m_isHere l g o a 0 hi ac tp x_8 x_9 x_10 fl x_11 x_12 x_13 x_14 fm_15 fk fa_16 fc ft ff_17 fb_18 fi x_7 (⟨i20.1, n28⟩)) (cwV 1 hts (zgL (zl4 k844 k845 k846 k837) k839) rfl rfl rfl (by decide +kernel) ⟨Nat.le_of_ble_eq_true rfl, Nat.le_of_ble_eq_true rfl⟩) rfl rfl rfl rfl (Nat.le_of_ble_eq_true rfl) dX12_guru_75 ⟨(Nat.le_of_ble_eq_true rfl), (Nat.le_of_ble_eq_true rfl)⟩ (fun q_33 H locs hq34 hP hD hS => ?_)
            replace hq34 : (q_33 = 0 ∨ q_33 = 1) := hq34
            have hP : va_P g.1 vwCl (List.flatten [bMo g o a 0 hi ac tp x_8 x_9 x_10 fl x_11 x_12 x_13 x_14 fm_15 fk fa_16 fc ft ff_17 fb_18 fi]) H := hP
            have hD : va_D A (List.flatten [bMo g o a 0 hi ac tp x_8 x_9 x_10 fl x_11 x_12 x_13 x_14 fm_15 fk fa_16 fc ft ff_17 fb_18 fi]) := hD
            refine W.widen (k := 0) (n := 0) (Nat.le_of_ble_eq_true rfl) (Nat.le_of_ble_eq_true rfl) ?_
            refine W.eq (g2 := F0 m 78 ls [.int q_33]) rfl ?_
            rcases hq34 with rfl | rfl
            · skip
              refine lv_if_eq (tgt := 101) hx hb dX12_guru_78 (by decide) (fun _ => ?_) (fun c35 => absurd (by decide) c35)
              refine ziinc3 (n' := 1) (a' := 1) (b' := 8) (lv' := fun v9 => [(4, .int v9), (5, .int 0), (0, .ref o), (1, .int n), (2, .int x_5), (3, .int x_6)]) hx hb dX12_guru_101 hl (k := 5) rfl (by decide) (fun _ => rfl) (zaddK (i := x_7.toInt) (j := 1) rfl (by decide) i20.1 n28 (Int.le_refl _) (Int.le_refl _) (by decide)) (fun x_36 ls hx_36 hl => ?_)
              refine lv_goto (tgt := 35) hx hb dX12_guru_104 (by decide) ?_
              have hl := lv_sub (l' := [(0, .ref o), (1, .int n), (2, .int x_5), (3, .int x_6), (4, .int x_36), (5, .int 0)]) hl [2, 3, 4, 5, 0, 1] rfl
              have hP : va_P g.1 vwCl (List.flatten [bMo g o a 0 hi ac tp x_8 x_9 x_10 fl x_11 x_12 x_13 x_14 fm_15 fk fa_16 fc ft ff_17 fb_18 fi]) H := hP
              have hD : va_D A (List.flatten [bMo g o a 0 hi ac tp x_8 x_9 x_10 fl x_11 x_12 x_13 x_14 fm_15 fk fa_16 fc ft ff_17 fb_18 fi]) := hD
              exact ih35_24 x_5 x_6 x_36 x_8 x_9 x_10 x_11 x_12 x_13 x_14 fm_15 fa_16 ff_17 fb_18 ⟨i19.1, i19.2⟩ ⟨(Int.le_trans (by decide) hx_36.2.1), hx_36.2.2⟩ ⟨i21.1, i21.2⟩ ⟨i22.1, i22.2⟩ rfm_15 rfa_16 H _ ls (zmK hx_36.1 (by decide) n28 (by decide) hk35_24)  hP hD hS (lv_sub hl [0, 1, 2, 3, 4] rfl)
            · skip
              refine lv_if_eq (tgt := 101) hx hb dX12_guru_78 (by decide) (fun c37 => absurd c37 (by decide)) (fun _ => ?_)
              refine lv_iload_n hx hb dX12_guru_81 rfl (lv_at hl 3 rfl) ?_
              refine lv_iconst (v := (-1)) hx hb dX12_guru_82 (by decide) ?_
              refine lv_icmp_eq (tgt := 95) hx hb dX12_guru_83 (by decide) (fun cb9 => ?_) (fun cb9 => ?_)
              · skip
                have c38 : x_5.toInt = (-1) := zeq cb9 rfl (by decide)
                have n39 : x_5.toInt ≤ (-1) := Int.le_trans (Int.le_of_eq c38) (Int.le_refl _)
                refine lv_iload hx hb dX12_guru_95 (lv_at hl 0 rfl) ?_
                refine lv_istore_n (lv' := [(3, .int 0), (5, .int 0), (0, .ref o), (1, .int n), (2, .int x_5), (4, .int x_7)]) hx hb dX12_guru_97 rfl hl (by decide) rfl (fun ls hl => ?_)
                refine lv_iload hx hb dX12_guru_98 (lv_at hl 5 rfl) ?_
                refine lv_istore_n (lv' := [(2, .int x_7), (3, .int 0), (5, .int 0), (0, .ref o), (1, .int n), (4, .int x_7)]) hx hb dX12_guru_100 rfl hl (by decide) rfl (fun ls hl => ?_)
                refine ziinc3 (n' := 1) (a' := 1) (b' := 8) (lv' := fun v9 => [(4, .int v9), (2, .int x_7), (3, .int 0), (5, .int 0), (0, .ref o), (1, .int n)]) hx hb dX12_guru_101 hl (k := 5) rfl (by decide) (fun _ => rfl) (zaddK (i := x_7.toInt) (j := 1) rfl (by decide) i20.1 n28 (Int.le_refl _) (Int.le_refl _) (by decide)) (fun x_40 ls hx_40 hl => ?_)
                refine lv_goto (tgt := 35) hx hb dX12_guru_104 (by decide) ?_
                have hl := lv_sub (l' := [(0, .ref o), (1, .int n), (2, .int x_7), (3, .int 0), (4, .int x_40), (5, .int 0)]) hl [4, 5, 1, 2, 0, 3] rfl
                have hP : va_P g.1 vwCl (List.flatten [bMo g o a 0 hi ac tp x_8 x_9 x_10 fl x_11 x_12 x_13 x_14 fm_15 fk fa_16 fc ft ff_17 fb_18 fi]) H := hP
                have hD : va_D A (List.flatten [bMo g o a 0 hi ac tp x_8 x_9 x_10 fl x_11 x_12 x_13 x_14 fm_15 fk fa_16 fc ft ff_17 fb_18 fi]) := hD
                exact ih35_24 x_7 0 x_40 x_8 x_9 x_10 x_11 x_12 x_13 x_14 fm_15 fa_16 ff_17 fb_18 ⟨(Int.le_trans (by decide) i20.1), n28⟩ ⟨(Int.le_trans (by decide) hx_40.2.1), hx_40.2.2⟩ ⟨i21.1, i21.2⟩ ⟨i22.1, i22.2⟩ rfm_15 rfa_16 H _ ls (zmK hx_40.1 (by decide) n28 (by decide) hk35_24)  hP hD hS (lv_sub hl [0, 1, 2, 3, 4] rfl)
              · skip
                have c41 : ¬ x_5.toInt = (-1) := zne cb9 rfl (by decide)
                have n42 : 0 ≤ x_5.toInt := zN1 c41 i19.1 (by decide)
                refine lv_iload hx hb dX12_guru_86 (lv_at hl 0 rfl) ?_
                refine lv_iload_n hx hb dX12_guru_88 rfl (lv_at hl 4 rfl) ?_
                refine lv_icmp_gt (tgt := 95) hx hb dX12_guru_89 (by decide) (fun cb9 => ?_) (fun cb9 => ?_)
                · skip
                  have c43 : x_6.toInt < 0 := zlti cb9 rfl (by decide)
                  have n44 : x_6.toInt ≤ (-1) := zL1 (b := 0) c43 (Int.le_refl _) (by decide)
                  refine lv_iload hx hb dX12_guru_95 (lv_at hl 0 rfl) ?_
                  refine lv_istore_n (lv' := [(3, .int 0), (5, .int 0), (0, .ref o), (1, .int n), (2, .int x_5), (4, .int x_7)]) hx hb dX12_guru_97 rfl hl (by decide) rfl (fun ls hl => ?_)
                  refine lv_iload hx hb dX12_guru_98 (lv_at hl 5 rfl) ?_
                  refine lv_istore_n (lv' := [(2, .int x_7), (3, .int 0), (5, .int 0), (0, .ref o), (1, .int n), (4, .int x_7)]) hx hb dX12_guru_100 rfl hl (by decide) rfl (fun ls hl => ?_)
                  refine ziinc3 (n' := 1) (a' := 1) (b' := 8) (lv' := fun v9 => [(4, .int v9), (2, .int x_7), (3, .int 0), (5, .int 0), (0, .ref o), (1, .int n)]) hx hb dX12_guru_101 hl (k := 5) rfl (by decide) (fun _ => rfl) (zaddK (i := x_7.toInt) (j := 1) rfl (by decide) i20.1 n28 (Int.le_refl _) (Int.le_refl _) (by decide)) (fun x_45 ls hx_45 hl => ?_)
                  refine lv_goto (tgt := 35) hx hb dX12_guru_104 (by decide) ?_
                  have hl := lv_sub (l' := [(0, .ref o), (1, .int n), (2, .int x_7), (3, .int 0), (4, .int x_45), (5, .int 0)]) hl [4, 5, 1, 2, 0, 3] rfl
                  have hP : va_P g.1 vwCl (List.flatten [bMo g o a 0 hi ac tp x_8 x_9 x_10 fl x_11 x_12 x_13 x_14 fm_15 fk fa_16 fc ft ff_17 fb_18 fi]) H := hP
                  have hD : va_D A (List.flatten [bMo g o a 0 hi ac tp x_8 x_9 x_10 fl x_11 x_12 x_13 x_14 fm_15 fk fa_16 fc ft ff_17 fb_18 fi]) := hD
                  exact ih35_24 x_7 0 x_45 x_8 x_9 x_10 x_11 x_12 x_13 x_14 fm_15 fa_16 ff_17 fb_18 ⟨(Int.le_trans (by decide) i20.1), n28⟩ ⟨(Int.le_trans (by decide) hx_45.2.1), hx_45.2.2⟩ ⟨i21.1, i21.2⟩ ⟨i22.1, i22.2⟩ rfm_15 rfa_16 H _ ls (zmK hx_45.1 (by decide) n28 (by decide) hk35_24)  hP hD hS (lv_sub hl [0, 1, 2, 3, 4] rfl)
                · skip
                  have c46 : 0 ≤ x_6.toInt := zle (Int32.not_lt.mp cb9) (by decide) rfl
                  have n47 : 0 ≤ x_6.toInt := Int.le_trans (Int.le_refl _) c46
                  refine lv_goto (tgt := 101) hx hb dX12_guru_92 (by decide) ?_
                  refine ziinc3 (n' := 1) (a' := 1) (b' := 8) (lv' := fun v9 => [(4, .int v9), (5, .int 0), (0, .ref o), (1, .int n), (2, .int x_5), (3, .int x_6)]) hx hb dX12_guru_101 hl (k := 5) rfl (by decide) (fun _ => rfl) (zaddK (i := x_7.toInt) (j := 1) rfl (by decide) i20.1 n28 (Int.le_refl _) (Int.le_refl _) (by decide)) (fun x_48 ls hx_48 hl => ?_)
                  refine lv_goto (tgt := 35) hx hb dX12_guru_104 (by decide) ?_
                  have hl := lv_sub (l' := [(0, .ref o), (1, .int n), (2, .int x_5), (3, .int x_6), (4, .int x_48), (5, .int 0)]) hl [2, 3, 4, 5, 0, 1] rfl
                  have hP : va_P g.1 vwCl (List.flatten [bMo g o a 0 hi ac tp x_8 x_9 x_10 fl x_11 x_12 x_13 x_14 fm_15 fk fa_16 fc ft ff_17 fb_18 fi]) H := hP
                  have hD : va_D A (List.flatten [bMo g o a 0 hi ac tp x_8 x_9 x_10 fl x_11 x_12 x_13 x_14 fm_15 fk fa_16 fc ft ff_17 fb_18 fi]) := hD
                  exact ih35_24 x_5 x_6 x_48 x_8 x_9 x_10 x_11 x_12 x_13 x_14 fm_15 fa_16 ff_17 fb_18 ⟨(Int.le_trans (by decide) n42), i19.2⟩ ⟨(Int.le_trans (by decide) hx_48.2.1), hx_48.2.2⟩ ⟨i21.1, i21.2⟩ ⟨i22.1, i22.2⟩ rfm_15 rfa_16 H _ ls (zmK hx_48.1 (by decide) n28 (by decide) hk35_24)  hP hD hS (lv_sub hl [0, 1, 2, 3, 4] rfl)
          · skip
            refine lv_if_eq (tgt := 69) hx hb dX12_guru_52 (by decide) (fun c49 => absurd c49 (by decide)) (fun _ => ?_)
            refine lv_aload_n hx hb dX12_guru_55 rfl (lv_at hl 0 rfl) ?_
            refine lv_iload_n hx hb dX12_guru_56 rfl (lv_at hl 1 rfl) ?_
            refine lv_iconst (v := 1) hx hb dX12_guru_57 (by decide) ?_
            refine lv_iload hx hb dX12_guru_58 (lv_at hl 4 rfl) ?_
            refine lv_ishl hx hb dX12_guru_60 ?_
            refine zgb (zshl1 (j := x_7.toInt) rfl 7 128 (by decide) (by decide) ⟨i20.1, n28⟩) (fun x_50 hx_50 => ?_)
            refine lv_bipush (v := 10) hx hb dX12_guru_61 (by decide) ?_
            refine mcallV' (g := g) (q0 := 0) (ci := 10) (As := [.int n, .int x_50, .int 10]) (rest := []) St hK hT hA hP hD hS hl.1 [0] [] rfl rfl rfl (m_believedBy l g o a 0 hi ac tp x_8 x_9 x_10 fl x_11 x_12 x_13 x_14 fm_15 fk fa_16 fc ft ff_17 fb_18 fi n x_50 10 (by first | assumption | omega | decide | exact Or.inl (by decide) | exact Or.inr (by decide)) (by first | assumption | omega | decide | exact Or.inl (by decide) | exact Or.inr (by decide)) (⟨i21.1, i21.2⟩) (⟨i22.1, i22.2⟩) (by first | assumption | omega | decide | exact Or.inl (by decide) | exact Or.inr (by decide))) (cwV 3 hts (zgL (zl4 k1065 k1066 k1067 k837) k1063) rfl rfl rfl (by decide +kernel) ⟨Nat.le_of_ble_eq_true rfl, Nat.le_of_ble_eq_true rfl⟩) rfl rfl rfl rfl (Nat.le_of_ble_eq_true rfl) dX12_guru_63 ⟨(Nat.le_of_ble_eq_true rfl), (Nat.le_of_ble_eq_true rfl)⟩ (fun u_ H locs hq63 hP hD hS => ?_)
            obtain ⟨ba2_51, en2_52, at2_53, de2_54, iD2_55, iO2_56, tU2_57, ff2_58, fm2_59, fb2_60, fa2_61, q_62⟩ := u_
            replace hq63 : (rM fa2_61) ∧ (rM fm2_59) ∧ (0 ≤ iO2_56.toInt ∧ iO2_56.toInt ≤ 1) ∧ (0 ≤ iD2_55.toInt ∧ iD2_55.toInt ≤ 1) := hq63
            have hP : va_P g.1 vwCl (List.flatten [bMo g o a 0 hi ac tp ba2_51 en2_52 at2_53 fl de2_54 iD2_55 iO2_56 tU2_57 fm2_59 fk fa2_61 fc ft ff2_58 fb2_60 fi]) H := hP
            have hD : va_D A (List.flatten [bMo g o a 0 hi ac tp ba2_51 en2_52 at2_53 fl de2_54 iD2_55 iO2_56 tU2_57 fm2_59 fk fa2_61 fc ft ff2_58 fb2_60 fi]) := hD
            refine W.widen (k := 0) (n := 0) (Nat.le_of_ble_eq_true rfl) (Nat.le_of_ble_eq_true rfl) ?_
            refine W.eq (g2 := F0 m 66 ls [.int q_62]) rfl ?_
            obtain ⟨rfa2_61, rfm2_59, hq63_2, hq63_3⟩ := hq63
            refine lv_goto (tgt := 70) hx hb dX12_guru_66 (by decide) ?_
            refine lv_istore (lv' := [(5, .int q_62), (0, .ref o), (1, .int n), (2, .int x_5), (3, .int x_6), (4, .int x_7)]) hx hb dX12_guru_70 hl (by decide) rfl (fun ls hl => ?_)
            refine lv_aload_n hx hb dX12_guru_72 rfl (lv_at hl 1 rfl) ?_
            refine lv_iload hx hb dX12_guru_73 (lv_at hl 5 rfl) ?_
            refine mcallV' (g := g) (q0 := 0) (ci := 10) (As := [.int x_7]) (rest := []) St hK hT hA hP hD hS hl.1 [0] [] rfl rfl rfl (m_isHere l g o a 0 hi ac tp ba2_51 en2_52 at2_53 fl de2_54 iD2_55 iO2_56 tU2_57 fm2_59 fk fa2_61 fc ft ff2_58 fb2_60 fi x_7 (⟨i20.1, n28⟩)) (cwV 1 hts (zgL (zl4 k844 k845 k846 k837) k839) rfl rfl rfl (by decide +kernel) ⟨Nat.le_of_ble_eq_true rfl, Nat.le_of_ble_eq_true rfl⟩) rfl rfl rfl rfl (Nat.le_of_ble_eq_true rfl) dX12_guru_75 ⟨(Nat.le_of_ble_eq_true rfl), (Nat.le_of_ble_eq_true rfl)⟩ (fun q_64 H locs hq65 hP hD hS => ?_)
            replace hq65 : (q_64 = 0 ∨ q_64 = 1) := hq65
            have hP : va_P g.1 vwCl (List.flatten [bMo g o a 0 hi ac tp ba2_51 en2_52 at2_53 fl de2_54 iD2_55 iO2_56 tU2_57 fm2_59 fk fa2_61 fc ft ff2_58 fb2_60 fi]) H := hP
            have hD : va_D A (List.flatten [bMo g o a 0 hi ac tp ba2_51 en2_52 at2_53 fl de2_54 iD2_55 iO2_56 tU2_57 fm2_59 fk fa2_61 fc ft ff2_58 fb2_60 fi]) := hD
            refine W.widen (k := 0) (n := 0) (Nat.le_of_ble_eq_true rfl) (Nat.le_of_ble_eq_true rfl) ?_
            refine W.eq (g2 := F0 m 78 ls [.int q_64]) rfl ?_
            rcases hq65 with rfl | rfl
            · skip
              refine lv_if_eq (tgt := 101) hx hb dX12_guru_78 (by decide) (fun _ => ?_) (fun c66 => absurd (by decide) c66)
              refine ziinc3 (n' := 1) (a' := 1) (b' := 8) (lv' := fun v9 => [(4, .int v9), (5, .int q_62), (0, .ref o), (1, .int n), (2, .int x_5), (3, .int x_6)]) hx hb dX12_guru_101 hl (k := 5) rfl (by decide) (fun _ => rfl) (zaddK (i := x_7.toInt) (j := 1) rfl (by decide) i20.1 n28 (Int.le_refl _) (Int.le_refl _) (by decide)) (fun x_67 ls hx_67 hl => ?_)
              refine lv_goto (tgt := 35) hx hb dX12_guru_104 (by decide) ?_
              have hl := lv_sub (l' := [(0, .ref o), (1, .int n), (2, .int x_5), (3, .int x_6), (4, .int x_67), (5, .int q_62)]) hl [2, 3, 4, 5, 0, 1] rfl
              have hP : va_P g.1 vwCl (List.flatten [bMo g o a 0 hi ac tp ba2_51 en2_52 at2_53 fl de2_54 iD2_55 iO2_56 tU2_57 fm2_59 fk fa2_61 fc ft ff2_58 fb2_60 fi]) H := hP
              have hD : va_D A (List.flatten [bMo g o a 0 hi ac tp ba2_51 en2_52 at2_53 fl de2_54 iD2_55 iO2_56 tU2_57 fm2_59 fk fa2_61 fc ft ff2_58 fb2_60 fi]) := hD
              exact ih35_24 x_5 x_6 x_67 ba2_51 en2_52 at2_53 de2_54 iD2_55 iO2_56 tU2_57 fm2_59 fa2_61 ff2_58 fb2_60 ⟨i19.1, i19.2⟩ ⟨(Int.le_trans (by decide) hx_67.2.1), hx_67.2.2⟩ ⟨hq63_3.1, hq63_3.2⟩ ⟨hq63_2.1, hq63_2.2⟩ rfm2_59 rfa2_61 H _ ls (zmK hx_67.1 (by decide) n28 (by decide) hk35_24)  hP hD hS (lv_sub hl [0, 1, 2, 3, 4] rfl)
            · skip
              refine lv_if_eq (tgt := 101) hx hb dX12_guru_78 (by decide) (fun c68 => absurd c68 (by decide)) (fun _ => ?_)
              refine lv_iload_n hx hb dX12_guru_81 rfl (lv_at hl 3 rfl) ?_
              refine lv_iconst (v := (-1)) hx hb dX12_guru_82 (by decide) ?_
              refine lv_icmp_eq (tgt := 95) hx hb dX12_guru_83 (by decide) (fun cb9 => ?_) (fun cb9 => ?_)
              · skip
                have c69 : x_5.toInt = (-1) := zeq cb9 rfl (by decide)
                have n70 : x_5.toInt ≤ (-1) := Int.le_trans (Int.le_of_eq c69) (Int.le_refl _)
                refine lv_iload hx hb dX12_guru_95 (lv_at hl 0 rfl) ?_
                refine lv_istore_n (lv' := [(3, .int q_62), (5, .int q_62), (0, .ref o), (1, .int n), (2, .int x_5), (4, .int x_7)]) hx hb dX12_guru_97 rfl hl (by decide) rfl (fun ls hl => ?_)
                refine lv_iload hx hb dX12_guru_98 (lv_at hl 5 rfl) ?_
                refine lv_istore_n (lv' := [(2, .int x_7), (3, .int q_62), (5, .int q_62), (0, .ref o), (1, .int n), (4, .int x_7)]) hx hb dX12_guru_100 rfl hl (by decide) rfl (fun ls hl => ?_)
                refine ziinc3 (n' := 1) (a' := 1) (b' := 8) (lv' := fun v9 => [(4, .int v9), (2, .int x_7), (3, .int q_62), (5, .int q_62), (0, .ref o), (1, .int n)]) hx hb dX12_guru_101 hl (k := 5) rfl (by decide) (fun _ => rfl) (zaddK (i := x_7.toInt) (j := 1) rfl (by decide) i20.1 n28 (Int.le_refl _) (Int.le_refl _) (by decide)) (fun x_71 ls hx_71 hl => ?_)
                refine lv_goto (tgt := 35) hx hb dX12_guru_104 (by decide) ?_
                have hl := lv_sub (l' := [(0, .ref o), (1, .int n), (2, .int x_7), (3, .int q_62), (4, .int x_71), (5, .int q_62)]) hl [4, 5, 1, 2, 0, 3] rfl
                have hP : va_P g.1 vwCl (List.flatten [bMo g o a 0 hi ac tp ba2_51 en2_52 at2_53 fl de2_54 iD2_55 iO2_56 tU2_57 fm2_59 fk fa2_61 fc ft ff2_58 fb2_60 fi]) H := hP
                have hD : va_D A (List.flatten [bMo g o a 0 hi ac tp ba2_51 en2_52 at2_53 fl de2_54 iD2_55 iO2_56 tU2_57 fm2_59 fk fa2_61 fc ft ff2_58 fb2_60 fi]) := hD
                exact ih35_24 x_7 q_62 x_71 ba2_51 en2_52 at2_53 de2_54 iD2_55 iO2_56 tU2_57 fm2_59 fa2_61 ff2_58 fb2_60 ⟨(Int.le_trans (by decide) i20.1), n28⟩ ⟨(Int.le_trans (by decide) hx_71.2.1), hx_71.2.2⟩ ⟨hq63_3.1, hq63_3.2⟩ ⟨hq63_2.1, hq63_2.2⟩ rfm2_59 rfa2_61 H _ ls (zmK hx_71.1 (by decide) n28 (by decide) hk35_24)  hP hD hS (lv_sub hl [0, 1, 2, 3, 4] rfl)
              · skip
                have c72 : ¬ x_5.toInt = (-1) := zne cb9 rfl (by decide)
                have n73 : 0 ≤ x_5.toInt := zN1 c72 i19.1 (by decide)
                refine lv_iload hx hb dX12_guru_86 (lv_at hl 0 rfl) ?_
                refine lv_iload_n hx hb dX12_guru_88 rfl (lv_at hl 4 rfl) ?_
                refine lv_icmp_gt (tgt := 95) hx hb dX12_guru_89 (by decide) (fun cb9 => ?_) (fun cb9 => ?_)
                · skip
                  have c74 : x_6.toInt < q_62.toInt := zlti cb9 rfl rfl
                  refine lv_iload hx hb dX12_guru_95 (lv_at hl 0 rfl) ?_
                  refine lv_istore_n (lv' := [(3, .int q_62), (5, .int q_62), (0, .ref o), (1, .int n), (2, .int x_5), (4, .int x_7)]) hx hb dX12_guru_97 rfl hl (by decide) rfl (fun ls hl => ?_)
                  refine lv_iload hx hb dX12_guru_98 (lv_at hl 5 rfl) ?_
                  refine lv_istore_n (lv' := [(2, .int x_7), (3, .int q_62), (5, .int q_62), (0, .ref o), (1, .int n), (4, .int x_7)]) hx hb dX12_guru_100 rfl hl (by decide) rfl (fun ls hl => ?_)
                  refine ziinc3 (n' := 1) (a' := 1) (b' := 8) (lv' := fun v9 => [(4, .int v9), (2, .int x_7), (3, .int q_62), (5, .int q_62), (0, .ref o), (1, .int n)]) hx hb dX12_guru_101 hl (k := 5) rfl (by decide) (fun _ => rfl) (zaddK (i := x_7.toInt) (j := 1) rfl (by decide) i20.1 n28 (Int.le_refl _) (Int.le_refl _) (by decide)) (fun x_75 ls hx_75 hl => ?_)
                  refine lv_goto (tgt := 35) hx hb dX12_guru_104 (by decide) ?_
                  have hl := lv_sub (l' := [(0, .ref o), (1, .int n), (2, .int x_7), (3, .int q_62), (4, .int x_75), (5, .int q_62)]) hl [4, 5, 1, 2, 0, 3] rfl
                  have hP : va_P g.1 vwCl (List.flatten [bMo g o a 0 hi ac tp ba2_51 en2_52 at2_53 fl de2_54 iD2_55 iO2_56 tU2_57 fm2_59 fk fa2_61 fc ft ff2_58 fb2_60 fi]) H := hP
                  have hD : va_D A (List.flatten [bMo g o a 0 hi ac tp ba2_51 en2_52 at2_53 fl de2_54 iD2_55 iO2_56 tU2_57 fm2_59 fk fa2_61 fc ft ff2_58 fb2_60 fi]) := hD
                  exact ih35_24 x_7 q_62 x_75 ba2_51 en2_52 at2_53 de2_54 iD2_55 iO2_56 tU2_57 fm2_59 fa2_61 ff2_58 fb2_60 ⟨(Int.le_trans (by decide) i20.1), n28⟩ ⟨(Int.le_trans (by decide) hx_75.2.1), hx_75.2.2⟩ ⟨hq63_3.1, hq63_3.2⟩ ⟨hq63_2.1, hq63_2.2⟩ rfm2_59 rfa2_61 H _ ls (zmK hx_75.1 (by decide) n28 (by decide) hk35_24)  hP hD hS (lv_sub hl [0, 1, 2, 3, 4] rfl)
                · skip
                  have c76 : q_62.toInt ≤ x_6.toInt := zle (Int32.not_lt.mp cb9) rfl rfl
                  refine lv_goto (tgt := 101) hx hb dX12_guru_92 (by decide) ?_
                  refine ziinc3 (n' := 1) (a' := 1) (b' := 8) (lv' := fun v9 => [(4, .int v9), (5, .int q_62), (0, .ref o), (1, .int n), (2, .int x_5), (3, .int x_6)]) hx hb dX12_guru_101 hl (k := 5) rfl (by decide) (fun _ => rfl) (zaddK (i := x_7.toInt) (j := 1) rfl (by decide) i20.1 n28 (Int.le_refl _) (Int.le_refl _) (by decide)) (fun x_77 ls hx_77 hl => ?_)
                  refine lv_goto (tgt := 35) hx hb dX12_guru_104 (by decide) ?_
                  have hl := lv_sub (l' := [(0, .ref o), (1, .int n), (2, .int x_5), (3, .int x_6), (4, .int x_77), (5, .int q_62)]) hl [2, 3, 4, 5, 0, 1] rfl
                  have hP : va_P g.1 vwCl (List.flatten [bMo g o a 0 hi ac tp ba2_51 en2_52 at2_53 fl de2_54 iD2_55 iO2_56 tU2_57 fm2_59 fk fa2_61 fc ft ff2_58 fb2_60 fi]) H := hP
                  have hD : va_D A (List.flatten [bMo g o a 0 hi ac tp ba2_51 en2_52 at2_53 fl de2_54 iD2_55 iO2_56 tU2_57 fm2_59 fk fa2_61 fc ft ff2_58 fb2_60 fi]) := hD
                  exact ih35_24 x_5 x_6 x_77 ba2_51 en2_52 at2_53 de2_54 iD2_55 iO2_56 tU2_57 fm2_59 fa2_61 ff2_58 fb2_60 ⟨(Int.le_trans (by decide) n73), i19.2⟩ ⟨(Int.le_trans (by decide) hx_77.2.1), hx_77.2.2⟩ ⟨hq63_3.1, hq63_3.2⟩ ⟨hq63_2.1, hq63_2.2⟩ rfm2_59 rfa2_61 H _ ls (zmK hx_77.1 (by decide) n28 (by decide) hk35_24)  hP hD hS (lv_sub hl [0, 1, 2, 3, 4] rfl)
    have hP : va_P g.1 vwCl (List.flatten [bMo g o a 0 hi ac tp ba en tA fl de iD iO tU fm fk fa fc ft ff fb fi]) H := hP
    have hD : va_D A (List.flatten [bMo g o a 0 hi ac tp ba en tA fl de iD iO tU fm fk fa fc ft ff fb fi]) := hD
    exact LP35_23 _ (-1) 0 0 ba en tA de iD iO tU fm fa ff fb (by decide) (by decide) ⟨hiD.1, hiD.2⟩ ⟨hiO.1, hiO.2⟩ rfm rfa H _ ls (Nat.lt_succ_self _)  hP hD hS (lv_sub hl [0, 1, 2, 3, 4] rfl)
  · skip
    refine lv_if_ne (tgt := 15) hx hb dX12_guru_8 (by decide) (fun c78 => absurd (by decide) c78) (fun _ => ?_)
    refine lv_iconst (v := 1) hx hb dX12_guru_11 (by decide) ?_
    refine lv_goto (tgt := 16) hx hb dX12_guru_12 (by decide) ?_
    refine va_put (D := g.1) (ci := 10) (v := .int 1) (ty := .int) (C := RX12) (T := TX12) (N := 20) hx hb hts izRX12 tyX12 tyX12_ok nmX12 hown hK hP hD hS 0 rfl rfl 0 (by decide) (hts _ k871) (fun _ h9 => h9) rfl (by decide +kernel) rfl rfl (Nat.le_of_ble_eq_true rfl) dX12_guru_16 (fun H locs hP hD hS => ?_)
    have hP : va_P g.1 vwCl (List.flatten [bMo g o a 1 hi ac tp ba en tA fl de iD iO tU fm fk fa fc ft ff fb fi]) H := hP
    have hD : va_D A (List.flatten [bMo g o a 1 hi ac tp ba en tA fl de iD iO tU fm fk fa fc ft ff fb fi]) := hD
    refine lv_aload_n hx hb dX12_guru_19 rfl (lv_at hl 0 rfl) ?_
    refine va_get (D := g.1) (ci := 10) (v := .int 1) (C := RX12) (T := TX12) (N := 20) hx hb hts izRX12 hown hK hP 0 rfl rfl 0 (by decide) (hts _ k871) (fun _ h9 => h9) rfl dX12_guru_20 ?_
    refine lv_if_le (tgt := 28) hx hb dX12_guru_23 (by decide) (fun c79 => absurd c79 (by decide)) (fun _ => ?_)
    refine lv_iconst (v := 0) hx hb dX12_guru_26 (by decide) ?_
    have hP : va_P g.1 vwCl (List.flatten [bMo g o a 1 hi ac tp ba en tA fl de iD iO tU fm fk fa fc ft ff fb fi]) H := hP
    have hD : va_D A (List.flatten [bMo g o a 1 hi ac tp ba en tA fl de iD iO tU fm fk fa fc ft ff fb fi]) := hD
    exact mret_i hx hb hr hlocks hS (Nat.le_of_ble_eq_true rfl) (Nat.le_of_ble_eq_true rfl) dX12_guru_27 ((1 : Int32), ba, en, tA, de, iD, iO, tU, ff, fm, fb, fa, (0 : Int32)) rfl (show (rM fa) ∧ (rM fm) ∧ (0 ≤ iO.toInt ∧ iO.toInt ≤ 1) ∧ (0 ≤ iD.toInt ∧ iD.toInt ≤ 1) from ⟨(by first | assumption | omega | decide | exact rfl | exact zb01 (by omega) | exact Or.inl (by decide) | exact Or.inr (by first | omega | decide)), (by first | assumption | omega | decide | exact rfl | exact zb01 (by omega) | exact Or.inl (by decide) | exact Or.inr (by first | omega | decide)), (by first | assumption | omega | decide | exact rfl | exact zb01 (by omega) | exact Or.inl (by decide) | exact Or.inr (by first | omega | decide)), (by first | assumption | omega | decide | exact rfl | exact zb01 (by omega) | exact Or.inl (by decide) | exact Or.inr (by first | omega | decide))⟩) hP hD
