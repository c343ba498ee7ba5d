set_option maxRecDepth 100000 in
set_option maxHeartbeats 4000000 in
theorem m_logs (l : Launch) (g : zG) (o : Nat) (a : Nat → Nat) (th : Int32) (hi : Int32) (ac : Int32) (tp : Int32) (ba : Int32) (en : Int32) (tA : Int32) (fl : Int32) (de : Int32) (iD : Int32) (iO : Int32) (tU : Int32) (fm : Nat → Int32) (fk : Nat → Int32) (fa : Nat → Int32) (fc : Nat → Int32) (ft : Nat → Int32) (ff : Nat → Int32) (fb : Nat → Int32) (fi : Nat → Int32) (wh : Int32) (what : Int32) (rfm : rM fm) : zM' g l yX12_logs (Cond.code yX12_logs cX12_logs 4 none :: zB) ({ frames := 3, cells := 0, slots := 0, locals := 65 } : Room) [.ref o, .int wh, .int what] [bMo g o a th hi ac tp ba en tA fl de iD iO tU fm fk fa fc ft ff fb fi] (fun (fm2 : Nat → Int32) => none) (fun (fm2 : Nat → Int32) => (rM fm2)) (fun (fm2 : Nat → Int32) => [bMo g o a th hi ac tp ba en tA fl de iD iO tU fm2 fk fa fc ft ff fb fi]) := by
  refine zM'.of (cc := cX12_logs) (maxL := 4) (rt := none) (by decide) rfl (Nat.le_of_ble_eq_true rfl) ?_
  intro p e s m args below meth c A ls St hr hlocks hin hK hT hA hP hD hS hl
  obtain ⟨hx, hb, hml, hown, hts⟩ := id St
  have hl : lv_has ls 4 [(0, .ref o), (1, .int wh), (2, .int what)] := hl
  refine lv_sipush (v := 239) hx hb dX12_logs_0 (by decide) ?_
  refine lv_istore_n (lv' := [(3, .int 239), (0, .ref o), (1, .int wh), (2, .int what)]) hx hb dX12_logs_3 rfl hl (by decide) rfl (fun ls hl => ?_)
  have hl := lv_sub (l' := [(0, .ref o), (1, .int wh), (2, .int what), (3, .int 239)]) hl [1, 2, 3, 0] rfl
  have LP4_4 : ∀ (kf : Nat) (x_1 : Int32) (fm_2 : Nat → Int32), (3 ≤ x_1.toInt ∧ x_1.toInt ≤ 239) → (rM fm_2) → ∀ (H : Heap) (locs : List Loc) (ls : Array Slot), ((x_1.toInt - 3 + 1).toNat) < kf → va_P g.1 vwCl (List.flatten [bMo g o a th hi ac tp ba en tA fl de iD iO tU fm_2 fk fa fc ft ff fb fi]) H → va_D A (List.flatten [bMo g o a th hi ac tp ba en tA fl de iD iO tU fm_2 fk fa fc ft ff fb fi]) → va_S A s.heap H locs → lv_has ls 4 [(0, .ref o), (1, .int wh), (2, .int what), (3, .int x_1)] → W p l e ({ frames := 3, cells := 0, slots := 0, locals := 65 } : Room) s m args below meth c H locs (0) (0) (zF g (fun (fm2 : Nat → Int32) => none) (fun (fm2 : Nat → Int32) => (rM fm2)) (fun (fm2 : Nat → Int32) => [bMo g o a th hi ac tp ba en tA fl de iD iO tU fm2 fk fa fc ft ff fb fi]) ({ frames := 3, cells := 0, slots := 0, locals := 65 } : Room) below args s A) (F0 m 4 ls []) := by
    intro kf
    induction kf with
    | zero => intro x_1 fm_2 i3 rfm_2 H locs ls hk; exact absurd hk (Nat.not_lt_zero _)
    | succ kf ih4_5 =>
      intro x_1 fm_2 i3 rfm_2 H locs ls hk4_5 hP hD hS hl
      refine lv_iload_n hx hb dX12_logs_4 rfl (lv_at hl 3 rfl) ?_
      refine lv_iconst (v := 4) hx hb dX12_logs_5 (by decide) ?_
      refine lv_icmp_lt (tgt := 37) hx hb dX12_logs_6 (by decide) (fun cb9 => ?_) (fun cb9 => ?_)
      · skip
        have c6 : x_1.toInt < 4 := zlti cb9 rfl (by decide)
        have n7 : x_1.toInt ≤ 3 := zL1 (b := 4) c6 (Int.le_refl _) (by decide)
        refine lv_aload_n hx hb dX12_logs_37 rfl (lv_at hl 0 rfl) ?_
        refine va_get (D := g.1) (ci := 10) (v := .ref (a 0)) (C := RX12) (T := TX12) (N := 20) hx hb hts izRX12 hown hK hP 0 rfl rfl 1 (by decide) (hts _ k815) (fun _ h9 => h9) rfl dX12_logs_38 ?_
        refine lv_sipush (v := 139) hx hb dX12_logs_41 (by decide) ?_
        refine lv_aload_n hx hb dX12_logs_44 rfl (lv_at hl 0 rfl) ?_
        refine va_get (D := g.1) (ci := 10) (v := .ref (a 0)) (C := RX12) (T := TX12) (N := 20) hx hb hts izRX12 hown hK hP 0 rfl rfl 1 (by decide) (hts _ k815) (fun _ h9 => h9) rfl dX12_logs_45 ?_
        refine lv_bipush (v := 8) hx hb dX12_logs_48 (by decide) ?_
        refine va_iald hx hb hK hP 1 0 rfl rfl (zin rfl) dX12_logs_50 ?_
        refine zg (fun x_8 => ?_)
        refine va_iast hx hb hK hP hD hS 1 0 rfl rfl (zin rfl) dX12_logs_51 (fun H locs hP hD hS => ?_)
        obtain ⟨fm_9, rfm_9, hkfm_9, hP, hD⟩ : ∃ fm_9 : Nat → Int32, rM fm_9 ∧ ((fm_9 3).toInt = (fm_2 3).toInt ∧ (fm_9 4).toInt = (fm_2 4).toInt) ∧ va_P g.1 vwCl (List.flatten [bMo g o a th hi ac tp ba en tA fl de iD iO tU fm_9 fk fa fc ft ff fb fi]) H ∧ va_D A (List.flatten [bMo g o a th hi ac tp ba en tA fl de iD iO tU fm_9 fk fa fc ft ff fb fi]) := ⟨upd fm_2 (Int32.toNatClampNeg 139) x_8, (rM_stB rfm_2 (by decide)), (rM_kp (j := 139) (by decide) (by decide)), hP, hD⟩
        refine lv_aload_n hx hb dX12_logs_52 rfl (lv_at hl 0 rfl) ?_
        refine va_get (D := g.1) (ci := 10) (v := .ref (a 0)) (C := RX12) (T := TX12) (N := 20) hx hb hts izRX12 hown hK hP 0 rfl rfl 1 (by decide) (hts _ k815) (fun _ h9 => h9) rfl dX12_logs_53 ?_
        refine lv_sipush (v := 140) hx hb dX12_logs_56 (by decide) ?_
        refine lv_iload_n hx hb dX12_logs_59 rfl (lv_at hl 1 rfl) ?_
        refine va_iast hx hb hK hP hD hS 1 0 rfl rfl (zin rfl) dX12_logs_60 (fun H locs hP hD hS => ?_)
        obtain ⟨fm_10, rfm_10, hkfm_10, hP, hD⟩ : ∃ fm_10 : Nat → Int32, rM fm_10 ∧ ((fm_10 3).toInt = (fm_9 3).toInt ∧ (fm_10 4).toInt = (fm_9 4).toInt) ∧ va_P g.1 vwCl (List.flatten [bMo g o a th hi ac tp ba en tA fl de iD iO tU fm_10 fk fa fc ft ff fb fi]) H ∧ va_D A (List.flatten [bMo g o a th hi ac tp ba en tA fl de iD iO tU fm_10 fk fa fc ft ff fb fi]) := ⟨upd fm_9 (Int32.toNatClampNeg 140) wh, (rM_stB rfm_9 (by decide)), (rM_kp (j := 140) (by decide) (by decide)), hP, hD⟩
        refine lv_aload_n hx hb dX12_logs_61 rfl (lv_at hl 0 rfl) ?_
        refine va_get (D := g.1) (ci := 10) (v := .ref (a 0)) (C := RX12) (T := TX12) (N := 20) hx hb hts izRX12 hown hK hP 0 rfl rfl 1 (by decide) (hts _ k815) (fun _ h9 => h9) rfl dX12_logs_62 ?_
        refine lv_sipush (v := 141) hx hb dX12_logs_65 (by decide) ?_
        refine lv_iload_n hx hb dX12_logs_68 rfl (lv_at hl 2 rfl) ?_
        refine va_iast hx hb hK hP hD hS 1 0 rfl rfl (zin rfl) dX12_logs_69 (fun H locs hP hD hS => ?_)
        obtain ⟨fm_11, rfm_11, hkfm_11, hP, hD⟩ : ∃ fm_11 : Nat → Int32, rM fm_11 ∧ ((fm_11 3).toInt = (fm_10 3).toInt ∧ (fm_11 4).toInt = (fm_10 4).toInt) ∧ va_P g.1 vwCl (List.flatten [bMo g o a th hi ac tp ba en tA fl de iD iO tU fm_11 fk fa fc ft ff fb fi]) H ∧ va_D A (List.flatten [bMo g o a th hi ac tp ba en tA fl de iD iO tU fm_11 fk fa fc ft ff fb fi]) := ⟨upd fm_10 (Int32.toNatClampNeg 141) what, (rM_stB rfm_10 (by decide)), (rM_kp (j := 141) (by decide) (by decide)), hP, hD⟩
        refine lv_aload_n hx hb dX12_logs_70 rfl (lv_at hl 0 rfl) ?_
        refine va_get (D := g.1) (ci := 10) (v := .ref (a 0)) (C := RX12) (T := TX12) (N := 20) hx hb hts izRX12 hown hK hP 0 rfl rfl 1 (by decide) (hts _ k815) (fun _ h9 => h9) rfl dX12_logs_71 ?_
        refine lv_sipush (v := 142) hx hb dX12_logs_74 (by decide) ?_
        refine lv_aload_n hx hb dX12_logs_77 rfl (lv_at hl 0 rfl) ?_
        refine mcallV' (g := g) (q0 := 0) (ci := 10) (As := []) (rest := [.int 142, .ref (a 0)]) St hK hT hA hP hD hS hl.1 [0] [] rfl rfl rfl (m_believed l g o a th hi ac tp ba en tA fl de iD iO tU fm_11 fk fa fc ft ff fb fi (by first | assumption | omega | decide | exact Or.inl (by decide) | exact Or.inr (by decide))) (cwV 0 hts (zgL (zl4 k854 k855 k856 k837) k847) rfl rfl rfl (by decide +kernel) ⟨Nat.le_of_ble_eq_true rfl, Nat.le_of_ble_eq_true rfl⟩) rfl rfl rfl rfl (Nat.le_of_ble_eq_true rfl) dX12_logs_78 ⟨(Nat.le_of_ble_eq_true rfl), (Nat.le_of_ble_eq_true rfl)⟩ (fun q_12 H locs hq13 hP hD hS => ?_)
        have hP : va_P g.1 vwCl (List.flatten [bMo g o a th hi ac tp ba en tA fl de iD iO tU fm_11 fk fa fc ft ff fb fi]) H := hP
        have hD : va_D A (List.flatten [bMo g o a th hi ac tp ba en tA fl de iD iO tU fm_11 fk fa fc ft ff fb fi]) := hD
        refine W.widen (k := 0) (n := 0) (Nat.le_of_ble_eq_true rfl) (Nat.le_of_ble_eq_true rfl) ?_
        refine W.eq (g2 := F0 m 81 ls [.int q_12, .int 142, .ref (a 0)]) rfl ?_
        refine va_iast hx hb hK hP hD hS 1 0 rfl rfl (zin rfl) dX12_logs_81 (fun H locs hP hD hS => ?_)
        obtain ⟨fm_14, rfm_14, hkfm_14, hP, hD⟩ : ∃ fm_14 : Nat → Int32, rM fm_14 ∧ ((fm_14 3).toInt = (fm_11 3).toInt ∧ (fm_14 4).toInt = (fm_11 4).toInt) ∧ va_P g.1 vwCl (List.flatten [bMo g o a th hi ac tp ba en tA fl de iD iO tU fm_14 fk fa fc ft ff fb fi]) H ∧ va_D A (List.flatten [bMo g o a th hi ac tp ba en tA fl de iD iO tU fm_14 fk fa fc ft ff fb fi]) := ⟨upd fm_11 (Int32.toNatClampNeg 142) q_12, (rM_stB rfm_11 (by decide)), (rM_kp (j := 142) (by decide) (by decide)), hP, hD⟩
        refine lv_aload_n hx hb dX12_logs_82 rfl (lv_at hl 0 rfl) ?_
        refine va_get (D := g.1) (ci := 10) (v := .ref (a 0)) (C := RX12) (T := TX12) (N := 20) hx hb hts izRX12 hown hK hP 0 rfl rfl 1 (by decide) (hts _ k815) (fun _ h9 => h9) rfl dX12_logs_83 ?_
        refine lv_bipush (v := 9) hx hb dX12_logs_86 (by decide) ?_
        refine lv_bipush (v := 60) hx hb dX12_logs_88 (by decide) ?_
        refine lv_aload_n hx hb dX12_logs_90 rfl (lv_at hl 0 rfl) ?_
        refine va_get (D := g.1) (ci := 10) (v := .ref (a 0)) (C := RX12) (T := TX12) (N := 20) hx hb hts izRX12 hown hK hP 0 rfl rfl 1 (by decide) (hts _ k815) (fun _ h9 => h9) rfl dX12_logs_91 ?_
        refine lv_bipush (v := 9) hx hb dX12_logs_94 (by decide) ?_
        refine va_iald hx hb hK hP 1 0 rfl rfl (zin rfl) dX12_logs_96 ?_
        refine zgq (r := fm_14 9) rfl (rM9 rfm_14) (fun x_15 hx_15 => ?_)
        refine lv_iconst (v := 1) hx hb dX12_logs_97 (by decide) ?_
        refine lv_iadd hx hb dX12_logs_98 ?_
        refine zg3 (zaddK (i := x_15.toInt) (j := 1) (a' := 1) (b' := 61) rfl (by decide) hx_15.1 hx_15.2.1 (Int.le_refl _) (Int.le_refl _) (by decide)) (fun x_16 hx_16 => ?_)
        have hL60 : (60 : Int32).toInt = 60 := by decide
        refine mcallS' (g := g) (As := [.int 60, .int x_16]) (rest := [.int 9, .ref (a 0)]) St hK hT hA hP hD hS hl.1 [] [0] rfl rfl rfl (m_lesser l g 60 x_16 ) (va_cwS 2 hts (zgL (zl3 k999 k1000 k837) k825) rfl rfl rfl (by decide +kernel) ⟨Nat.le_of_ble_eq_true rfl, Nat.le_of_ble_eq_true rfl⟩) rfl rfl (Nat.le_of_ble_eq_true rfl) dX12_logs_99 ⟨(Nat.le_of_ble_eq_true rfl), (Nat.le_of_ble_eq_true rfl)⟩ (fun q_17 H locs hq18 hP hD hS => ?_)
        replace hq18 : (q_17.toInt ≤ (60 : Int32).toInt ∧ q_17.toInt ≤ x_16.toInt ∧ (q_17.toInt = (60 : Int32).toInt ∨ q_17.toInt = x_16.toInt)) := hq18
        have hP : va_P g.1 vwCl (List.flatten [bMo g o a th hi ac tp ba en tA fl de iD iO tU fm_14 fk fa fc ft ff fb fi]) H := hP
        have hD : va_D A (List.flatten [bMo g o a th hi ac tp ba en tA fl de iD iO tU fm_14 fk fa fc ft ff fb fi]) := hD
        refine W.widen (k := 0) (n := 0) (Nat.le_of_ble_eq_true rfl) (Nat.le_of_ble_eq_true rfl) ?_
        refine W.eq (g2 := F0 m 102 ls [.int q_17, .int 9, .ref (a 0)]) rfl ?_
        refine va_iast hx hb hK hP hD hS 1 0 rfl rfl (zin rfl) dX12_logs_102 (fun H locs hP hD hS => ?_)
        obtain ⟨fm_19, rfm_19, hP, hD⟩ : ∃ fm_19 : Nat → Int32, rM fm_19 ∧ va_P g.1 vwCl (List.flatten [bMo g o a th hi ac tp ba en tA fl de iD iO tU fm_19 fk fa fc ft ff fb fi]) H ∧ va_D A (List.flatten [bMo g o a th hi ac tp ba en tA fl de iD iO tU fm_19 fk fa fc ft ff fb fi]) := ⟨upd fm_14 9 q_17, (rM_s9 rfm_14 (show 0 ≤ q_17.toInt ∧ q_17.toInt ≤ 60 from (by omega))), hP, hD⟩
        have hP : va_P g.1 vwCl (List.flatten [bMo g o a th hi ac tp ba en tA fl de iD iO tU fm_19 fk fa fc ft ff fb fi]) H := hP
        have hD : va_D A (List.flatten [bMo g o a th hi ac tp ba en tA fl de iD iO tU fm_19 fk fa fc ft ff fb fi]) := hD
        exact mret_v hx hb hr hlocks hS (Nat.le_of_ble_eq_true rfl) (Nat.le_of_ble_eq_true rfl) dX12_logs_103 (fm_19) rfl (show (rM fm_19) from (by first | assumption | omega | decide | exact rfl | exact zb01 (by omega) | exact Or.inl (by decide) | exact Or.inr (by first | omega | decide))) hP hD
      · skip
        have c20 : 4 ≤ x_1.toInt := zle (Int32.not_lt.mp cb9) (by decide) rfl
        have n21 : 4 ≤ x_1.toInt := Int.le_trans (Int.le_refl _) c20
        refine lv_aload_n hx hb dX12_logs_9 rfl (lv_at hl 0 rfl) ?_
        refine va_get (D := g.1) (ci := 10) (v := .ref (a 0)) (C := RX12) (T := TX12) (N := 20) hx hb hts izRX12 hown hK hP 0 rfl rfl 1 (by decide) (hts _ k815) (fun _ h9 => h9) rfl dX12_logs_10 ?_
        refine lv_sipush (v := 139) hx hb dX12_logs_13 (by decide) ?_
        refine lv_iload_n hx hb dX12_logs_16 rfl (lv_at hl 3 rfl) ?_
        refine lv_iadd hx hb dX12_logs_17 ?_
        refine zg3 (zaddK (i := 139) (j := x_1.toInt) (a' := 143) (b' := 378) (by decide) rfl (Int.le_refl _) (Int.le_refl _) n21 i3.2 (by decide)) (fun x_22 hx_22 => ?_)
        refine lv_aload_n hx hb dX12_logs_18 rfl (lv_at hl 0 rfl) ?_
        refine va_get (D := g.1) (ci := 10) (v := .ref (a 0)) (C := RX12) (T := TX12) (N := 20) hx hb hts izRX12 hown hK hP 0 rfl rfl 1 (by decide) (hts _ k815) (fun _ h9 => h9) rfl dX12_logs_19 ?_
        refine lv_sipush (v := 139) hx hb dX12_logs_22 (by decide) ?_
        refine lv_iload_n hx hb dX12_logs_25 rfl (lv_at hl 3 rfl) ?_
        refine lv_iadd hx hb dX12_logs_26 ?_
        refine zg3 (zaddK (i := 139) (j := x_1.toInt) (a' := 143) (b' := 378) (by decide) rfl (Int.le_refl _) (Int.le_refl _) n21 i3.2 (by decide)) (fun x_23 hx_23 => ?_)
        refine lv_iconst (v := 4) hx hb dX12_logs_27 (by decide) ?_
        refine lv_isub hx hb dX12_logs_28 ?_
        refine zg3 (zsubK (i := x_23.toInt) (j := 4) (a' := 139) (b' := 374) rfl (by decide) hx_23.2.1 hx_23.2.2 (Int.le_refl _) (Int.le_refl _) (by decide)) (fun x_24 hx_24 => ?_)
        refine va_iald hx hb hK hP 1 0 rfl rfl (zinK (a := 139) (b := 374) hx_24.2.1 hx_24.2.2 (by decide)) dX12_logs_29 ?_
        refine zg (fun x_25 => ?_)
        refine va_iast hx hb hK hP hD hS 1 0 rfl rfl (zinK (a := 143) (b := 378) hx_22.2.1 hx_22.2.2 (by decide)) dX12_logs_30 (fun H locs hP hD hS => ?_)
        obtain ⟨fm_26, rfm_26, hkfm_26, hP, hD⟩ : ∃ fm_26 : Nat → Int32, rM fm_26 ∧ ((fm_26 3).toInt = (fm_2 3).toInt ∧ (fm_26 4).toInt = (fm_2 4).toInt) ∧ va_P g.1 vwCl (List.flatten [bMo g o a th hi ac tp ba en tA fl de iD iO tU fm_26 fk fa fc ft ff fb fi]) H ∧ va_D A (List.flatten [bMo g o a th hi ac tp ba en tA fl de iD iO tU fm_26 fk fa fc ft ff fb fi]) := ⟨upd fm_2 x_22.toNatClampNeg x_25, (rM_stB rfm_2 (Int.le_trans (by decide) hx_22.2.1)), (rM_kp (j := x_22.toInt) rfl (Int.le_trans (by decide) hx_22.2.1)), hP, hD⟩
        refine ziinc3 (n' := (-1)) (a' := 3) (b' := 238) (lv' := fun v9 => [(3, .int v9), (0, .ref o), (1, .int wh), (2, .int what)]) hx hb dX12_logs_31 hl (k := 3) rfl (by decide) (fun _ => rfl) (zaddK (i := x_1.toInt) (j := (-1)) rfl (by decide) n21 i3.2 (Int.le_refl _) (Int.le_refl _) (by decide)) (fun x_27 ls hx_27 hl => ?_)
        refine lv_goto (tgt := 4) hx hb dX12_logs_34 (by decide) ?_
        have hl := lv_sub (l' := [(0, .ref o), (1, .int wh), (2, .int what), (3, .int x_27)]) hl [1, 2, 3, 0] rfl
        have hP : va_P g.1 vwCl (List.flatten [bMo g o a th hi ac tp ba en tA fl de iD iO tU fm_26 fk fa fc ft ff fb fi]) H := hP
        have hD : va_D A (List.flatten [bMo g o a th hi ac tp ba en tA fl de iD iO tU fm_26 fk fa fc ft ff fb fi]) := hD
        exact ih4_5 x_27 fm_26 ⟨hx_27.2.1, (Int.le_trans hx_27.2.2 (by decide))⟩ rfm_26 H _ ls (zmKd hx_27.1 (by decide) n21 (by decide) hk4_5)  hP hD hS (lv_sub hl [0, 1, 2, 3] rfl)
  have hP : va_P g.1 vwCl (List.flatten [bMo g o a th hi ac tp ba en tA fl de iD iO tU fm fk fa fc ft ff fb fi]) s.heap := hP
  have hD : va_D A (List.flatten [bMo g o a th hi ac tp ba en tA fl de iD iO tU fm fk fa fc ft ff fb fi]) := hD
  exact LP4_4 _ 239 fm (by decide) rfm s.heap _ ls (Nat.lt_succ_self _)  hP hD hS (lv_sub hl [0, 1, 2, 3] rfl)
