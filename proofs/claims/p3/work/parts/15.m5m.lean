set_option maxRecDepth 100000 in
set_option maxHeartbeats 4000000 in
theorem m_led (l : Launch) (g : zG) (o : Nat) (a : Nat → Nat) (th : Int32) (hi : Int32) (ac : Int32) (tp : Int32) (ba : Int32) (en : Int32) (tA : Int32) (fl : Int32) (de : Int32) (iD : Int32) (iO : Int32) (tU : Int32) (fm : Nat → Int32) (fk : Nat → Int32) (fa : Nat → Int32) (fc : Nat → Int32) (ft : Nat → Int32) (ff : Nat → Int32) (fb : Nat → Int32) (fi : Nat → Int32) (w : Int32) (day : Int32) (rfm : rM fm) : zM' g l yX12_led (Cond.code yX12_led cX12_led 6 (some .int) :: zB) ({ frames := 2, cells := 0, slots := 0, locals := 43 } : Room) [.ref o, .int w, .int day] [bMo g o a th hi ac tp ba en tA fl de iD iO tU fm fk fa fc ft ff fb fi] (fun u : Int32 × Int32 => (fun (th2 : Int32) (q : Int32) => some (.int q)) (u.1) (u.2)) (fun u : Int32 × Int32 => (fun (th2 : Int32) (q : Int32) => True) (u.1) (u.2)) (fun u : Int32 × Int32 => (fun (th2 : Int32) (q : Int32) => [bMo g o a th2 hi ac tp ba en tA fl de iD iO tU fm fk fa fc ft ff fb fi]) (u.1) (u.2)) := by
  refine zM'.of (cc := cX12_led) (maxL := 6) (rt := (some .int)) (by decide) rfl (Nat.le_of_ble_eq_true rfl) ?_
  intro p e s m args below meth c A ls St hr hlocks hin hK hT hA hP hD hS hl
  obtain ⟨hx, hb, hml, hown, hts⟩ := id St
  have hl : lv_has ls 6 [(0, .ref o), (1, .int w), (2, .int day)] := hl
  refine lv_aload_n hx hb dX12_led_0 rfl (lv_at hl 0 rfl) ?_
  refine lv_aload_n hx hb dX12_led_1 rfl (lv_at hl 0 rfl) ?_
  refine lv_iload_n hx hb dX12_led_2 rfl (lv_at hl 1 rfl) ?_
  refine mcallV' (g := g) (q0 := 0) (ci := 10) (As := [.int w]) (rest := [.ref o]) St hK hT hA hP hD hS hl.1 [0] [] rfl rfl rfl (m_isWork l g o a th hi ac tp ba en tA fl de iD iO tU fm fk fa fc ft ff fb fi w (by first | assumption | omega | decide | exact Or.inl (by decide) | exact Or.inr (by decide))) (cwV 1 hts (zgL (zl4 k1041 k1042 k1043 k837) k838) rfl rfl rfl (by decide +kernel) ⟨Nat.le_of_ble_eq_true rfl, Nat.le_of_ble_eq_true rfl⟩) rfl rfl rfl rfl (Nat.le_of_ble_eq_true rfl) dX12_led_3 ⟨(Nat.le_of_ble_eq_true rfl), (Nat.le_of_ble_eq_true rfl)⟩ (fun q_1 H locs hq2 hP hD hS => ?_)
  replace hq2 : (q_1 = 1 ∧ 0 ≤ w.toInt ∧ w.toInt ≤ 5 ∧ w.toInt < (fm 4).toInt ∨ q_1 = 0) := hq2
  have hP : va_P g.1 vwCl (List.flatten [bMo g o a th hi ac tp ba en tA fl de iD iO tU fm fk fa fc ft ff fb fi]) H := hP
  have hD : va_D A (List.flatten [bMo g o a th hi ac tp ba en tA fl de iD iO tU fm fk fa fc ft ff fb fi]) := hD
  refine W.widen (k := 0) (n := 0) (Nat.le_of_ble_eq_true rfl) (Nat.le_of_ble_eq_true rfl) ?_
  refine W.eq (g2 := F0 m 6 ls [.int q_1, .ref o]) rfl ?_
  rcases hq2 with ⟨rfl, hq2_k⟩ | rfl
  · skip
    refine lv_if_ne (tgt := 13) hx hb dX12_led_6 (by decide) (fun _ => ?_) (fun c3 => absurd c3 (by decide))
    refine lv_iconst (v := 0) hx hb dX12_led_13 (by decide) ?_
    refine va_put (D := g.1) (ci := 10) (v := .int 0) (ty := .int) (C := RX12) (T := TX12) (N := 20) hx hb hts izRX12 tyX12 tyX12_ok nmX12 hown hK hP hD hS 0 rfl rfl 0 (by decide) (hts _ k871) (fun _ h9 => h9) rfl (by decide +kernel) rfl rfl (Nat.le_of_ble_eq_true rfl) dX12_led_14 (fun H locs hP hD hS => ?_)
    have hP : va_P g.1 vwCl (List.flatten [bMo g o a 0 hi ac tp ba en tA fl de iD iO tU fm fk fa fc ft ff fb fi]) H := hP
    have hD : va_D A (List.flatten [bMo g o a 0 hi ac tp ba en tA fl de iD iO tU fm fk fa fc ft ff fb fi]) := hD
    refine lv_aload_n hx hb dX12_led_17 rfl (lv_at hl 0 rfl) ?_
    refine va_get (D := g.1) (ci := 10) (v := .int 0) (C := RX12) (T := TX12) (N := 20) hx hb hts izRX12 hown hK hP 0 rfl rfl 0 (by decide) (hts _ k871) (fun _ h9 => h9) rfl dX12_led_18 ?_
    refine lv_if_le (tgt := 26) hx hb dX12_led_21 (by decide) (fun _ => ?_) (fun c4 => absurd (by decide) c4)
    refine lv_iconst (v := 0) hx hb dX12_led_26 (by decide) ?_
    refine lv_istore_n (lv' := [(3, .int 0), (0, .ref o), (1, .int w), (2, .int day)]) hx hb dX12_led_27 rfl hl (by decide) rfl (fun ls hl => ?_)
    refine lv_iconst (v := (-1)) hx hb dX12_led_28 (by decide) ?_
    refine lv_istore (lv' := [(4, .int (-1)), (3, .int 0), (0, .ref o), (1, .int w), (2, .int day)]) hx hb dX12_led_29 hl (by decide) rfl (fun ls hl => ?_)
    refine lv_aload_n hx hb dX12_led_31 rfl (lv_at hl 2 rfl) ?_
    refine va_get (D := g.1) (ci := 10) (v := .ref (a 0)) (C := RX12) (T := TX12) (N := 20) hx hb hts izRX12 hown hK hP 0 rfl rfl 1 (by decide) (hts _ k815) (fun _ h9 => h9) rfl dX12_led_32 ?_
    refine lv_bipush (v := 9) hx hb dX12_led_35 (by decide) ?_
    refine va_iald hx hb hK hP 1 0 rfl rfl (zin rfl) dX12_led_37 ?_
    refine zgq (r := fm 9) rfl (rM9 rfm) (fun x_5 hx_5 => ?_)
    refine lv_iconst (v := 1) hx hb dX12_led_38 (by decide) ?_
    refine lv_isub hx hb dX12_led_39 ?_
    refine zg3 (zsubK (i := x_5.toInt) (j := 1) (a' := (-1)) (b' := 59) rfl (by decide) hx_5.1 hx_5.2.1 (Int.le_refl _) (Int.le_refl _) (by decide)) (fun x_6 hx_6 => ?_)
    refine lv_istore (lv' := [(5, .int x_6), (4, .int (-1)), (3, .int 0), (0, .ref o), (1, .int w), (2, .int day)]) hx hb dX12_led_40 hl (by decide) rfl (fun ls hl => ?_)
    have hl := lv_sub (l' := [(0, .ref o), (1, .int w), (2, .int day), (3, .int 0), (4, .int (-1)), (5, .int x_6)]) hl [3, 4, 5, 2, 1, 0] rfl
    have LP42_11 : ∀ (kf : Nat) (x_7 : Int32) (x_8 : Int32) (x_9 : Int32), ((-1) ≤ x_9.toInt ∧ x_9.toInt ≤ 59) → ∀ (H : Heap) (locs : List Loc) (ls : Array Slot), ((x_9.toInt - (-1) + 1).toNat) < kf → va_P g.1 vwCl (List.flatten [bMo g o a 0 hi ac tp ba en tA fl de iD iO tU fm fk fa fc ft ff fb fi]) H → va_D A (List.flatten [bMo g o a 0 hi ac tp ba en tA fl de iD iO tU fm fk fa fc ft ff fb fi]) → va_S A s.heap H locs → lv_has ls 6 [(0, .ref o), (1, .int w), (2, .int day), (3, .int x_7), (4, .int x_8), (5, .int x_9)] → W p l e ({ frames := 2, cells := 0, slots := 0, locals := 43 } : Room) s m args below meth c H locs (0) (0) (zF g (fun u : Int32 × Int32 => (fun (th2 : Int32) (q : Int32) => some (.int q)) (u.1) (u.2)) (fun u : Int32 × Int32 => (fun (th2 : Int32) (q : Int32) => True) (u.1) (u.2)) (fun u : Int32 × Int32 => (fun (th2 : Int32) (q : Int32) => [bMo g o a th2 hi ac tp ba en tA fl de iD iO tU fm fk fa fc ft ff fb fi]) (u.1) (u.2)) ({ frames := 2, cells := 0, slots := 0, locals := 43 } : Room) below args s A) (F0 m 42 ls []) := by
      intro kf
      induction kf with
      | zero => intro x_7 x_8 x_9 i10 H locs ls hk; exact absurd hk (Nat.not_lt_zero _)
      | succ kf ih42_12 =>
        intro x_7 x_8 x_9 i10 H locs ls hk42_12 hP hD hS hl
        refine lv_iload hx hb dX12_led_42 (lv_at hl 5 rfl) ?_
        refine lv_if_lt (tgt := 90) hx hb dX12_led_44 (by decide) (fun cb9 => ?_) (fun cb9 => ?_)
        · skip
          have c13 : x_9.toInt < 0 := zlti cb9 rfl (by decide)
          have n14 : x_9.toInt ≤ (-1) := zL1 (b := 0) c13 (Int.le_refl _) (by decide)
          refine lv_iload_n hx hb dX12_led_90 rfl (lv_at hl 2 rfl) ?_
          refine lv_if_eq (tgt := 99) hx hb dX12_led_91 (by decide) (fun cb9 => ?_) (fun cb9 => ?_)
          · skip
            have c15 : day.toInt = 0 := zeq cb9 rfl (by decide)
            have n16 : 0 ≤ day.toInt := Int.le_trans (Int.le_refl _) (Int.le_of_eq c15.symm)
            have n17 : day.toInt ≤ 0 := Int.le_trans (Int.le_of_eq c15) (Int.le_refl _)
            refine lv_iload_n hx hb dX12_led_99 rfl (lv_at hl 3 rfl) ?_
            have hP : va_P g.1 vwCl (List.flatten [bMo g o a 0 hi ac tp ba en tA fl de iD iO tU fm fk fa fc ft ff fb fi]) H := hP
            have hD : va_D A (List.flatten [bMo g o a 0 hi ac tp ba en tA fl de iD iO tU fm fk fa fc ft ff fb fi]) := hD
            exact mret_i hx hb hr hlocks hS (Nat.le_of_ble_eq_true rfl) (Nat.le_of_ble_eq_true rfl) dX12_led_100 ((0 : Int32), x_7) rfl trivial hP hD
          · skip
            have c18 : ¬ day.toInt = 0 := zne cb9 rfl (by decide)
            refine lv_iload hx hb dX12_led_94 (lv_at hl 4 rfl) ?_
            refine lv_goto (tgt := 100) hx hb dX12_led_96 (by decide) ?_
            have hP : va_P g.1 vwCl (List.flatten [bMo g o a 0 hi ac tp ba en tA fl de iD iO tU fm fk fa fc ft ff fb fi]) H := hP
            have hD : va_D A (List.flatten [bMo g o a 0 hi ac tp ba en tA fl de iD iO tU fm fk fa fc ft ff fb fi]) := hD
            exact mret_i hx hb hr hlocks hS (Nat.le_of_ble_eq_true rfl) (Nat.le_of_ble_eq_true rfl) dX12_led_100 ((0 : Int32), x_8) rfl trivial hP hD
        · skip
          have c19 : 0 ≤ x_9.toInt := zle (Int32.not_lt.mp cb9) (by decide) rfl
          have n20 : 0 ≤ x_9.toInt := Int.le_trans (Int.le_refl _) c19
          refine lv_aload_n hx hb dX12_led_47 rfl (lv_at hl 0 rfl) ?_
          refine lv_iload hx hb dX12_led_48 (lv_at hl 5 rfl) ?_
          refine lv_iconst (v := 1) hx hb dX12_led_50 (by decide) ?_
          have hL1 : (1 : Int32).toInt = 1 := by decide
          refine mcallV' (g := g) (q0 := 0) (ci := 10) (As := [.int x_9, .int 1]) (rest := []) St hK hT hA hP hD hS hl.1 [0] [] rfl rfl rfl (m_logged l g o a 0 hi ac tp ba en tA fl de iD iO tU fm fk fa fc ft ff fb fi x_9 1 (⟨n20, i10.2⟩) (by decide)) (cwV 2 hts (zgL (zl4 k1138 k1139 k1140 k837) k1136) rfl rfl rfl (by decide +kernel) ⟨Nat.le_of_ble_eq_true rfl, Nat.le_of_ble_eq_true rfl⟩) rfl rfl rfl rfl (Nat.le_of_ble_eq_true rfl) dX12_led_51 ⟨(Nat.le_of_ble_eq_true rfl), (Nat.le_of_ble_eq_true rfl)⟩ (fun q_21 H locs hq22 hP hD hS => ?_)
          have hP : va_P g.1 vwCl (List.flatten [bMo g o a 0 hi ac tp ba en tA fl de iD iO tU fm fk fa fc ft ff fb fi]) H := hP
          have hD : va_D A (List.flatten [bMo g o a 0 hi ac tp ba en tA fl de iD iO tU fm fk fa fc ft ff fb fi]) := hD
          refine W.widen (k := 0) (n := 0) (Nat.le_of_ble_eq_true rfl) (Nat.le_of_ble_eq_true rfl) ?_
          refine W.eq (g2 := F0 m 54 ls [.int q_21]) rfl ?_
          refine lv_iload_n hx hb dX12_led_54 rfl (lv_at hl 1 rfl) ?_
          refine lv_icmp_ne (tgt := 84) hx hb dX12_led_55 (by decide) (fun cb9 => ?_) (fun cb9 => ?_)
          · skip
            have c23 : ¬ q_21.toInt = w.toInt := zne cb9 rfl rfl
            refine ziinc3 (n' := (-1)) (a' := (-1)) (b' := 58) (lv' := fun v9 => [(5, .int v9), (0, .ref o), (1, .int w), (2, .int day), (3, .int x_7), (4, .int x_8)]) hx hb dX12_led_84 hl (k := 5) rfl (by decide) (fun _ => rfl) (zaddK (i := x_9.toInt) (j := (-1)) rfl (by decide) n20 i10.2 (Int.le_refl _) (Int.le_refl _) (by decide)) (fun x_24 ls hx_24 hl => ?_)
            refine lv_goto (tgt := 42) hx hb dX12_led_87 (by decide) ?_
            have hl := lv_sub (l' := [(0, .ref o), (1, .int w), (2, .int day), (3, .int x_7), (4, .int x_8), (5, .int x_24)]) hl [1, 2, 3, 4, 5, 0] rfl
            have hP : va_P g.1 vwCl (List.flatten [bMo g o a 0 hi ac tp ba en tA fl de iD iO tU fm fk fa fc ft ff fb fi]) H := hP
            have hD : va_D A (List.flatten [bMo g o a 0 hi ac tp ba en tA fl de iD iO tU fm fk fa fc ft ff fb fi]) := hD
            exact ih42_12 x_7 x_8 x_24 ⟨hx_24.2.1, (Int.le_trans hx_24.2.2 (by decide))⟩ H _ ls (zmKd hx_24.1 (by decide) n20 (by decide) hk42_12)  hP hD hS (lv_sub hl [0, 1, 2, 3, 4, 5] rfl)
          · skip
            have c25 : q_21.toInt = w.toInt := zeq cb9 rfl rfl
            refine lv_aload_n hx hb dX12_led_58 rfl (lv_at hl 0 rfl) ?_
            refine lv_iload hx hb dX12_led_59 (lv_at hl 5 rfl) ?_
            refine lv_iconst (v := 2) hx hb dX12_led_61 (by decide) ?_
            have hL2 : (2 : Int32).toInt = 2 := by decide
            refine mcallV' (g := g) (q0 := 0) (ci := 10) (As := [.int x_9, .int 2]) (rest := []) St hK hT hA hP hD hS hl.1 [0] [] rfl rfl rfl (m_logged l g o a 0 hi ac tp ba en tA fl de iD iO tU fm fk fa fc ft ff fb fi x_9 2 (⟨n20, i10.2⟩) (by decide)) (cwV 2 hts (zgL (zl4 k1138 k1139 k1140 k837) k1136) rfl rfl rfl (by decide +kernel) ⟨Nat.le_of_ble_eq_true rfl, Nat.le_of_ble_eq_true rfl⟩) rfl rfl rfl rfl (Nat.le_of_ble_eq_true rfl) dX12_led_62 ⟨(Nat.le_of_ble_eq_true rfl), (Nat.le_of_ble_eq_true rfl)⟩ (fun q_26 H locs hq27 hP hD hS => ?_)
            have hP : va_P g.1 vwCl (List.flatten [bMo g o a 0 hi ac tp ba en tA fl de iD iO tU fm fk fa fc ft ff fb fi]) H := hP
            have hD : va_D A (List.flatten [bMo g o a 0 hi ac tp ba en tA fl de iD iO tU fm fk fa fc ft ff fb fi]) := hD
            refine W.widen (k := 0) (n := 0) (Nat.le_of_ble_eq_true rfl) (Nat.le_of_ble_eq_true rfl) ?_
            refine W.eq (g2 := F0 m 65 ls [.int q_26]) rfl ?_
            refine lv_iconst (v := 1) hx hb dX12_led_65 (by decide) ?_
            refine lv_icmp_le (tgt := 72) hx hb dX12_led_66 (by decide) (fun cb9 => ?_) (fun cb9 => ?_)
            · skip
              have c28 : q_26.toInt ≤ 1 := zle cb9 rfl (by decide)
              have n29 : q_26.toInt ≤ 1 := Int.le_trans c28 (Int.le_refl _)
              refine ziincG (lv' := fun v9 => [(3, .int v9), (0, .ref o), (1, .int w), (2, .int day), (4, .int x_8), (5, .int x_9)]) hx hb dX12_led_72 hl (k := 3) rfl (by decide) (fun _ => rfl) (fun x_30 ls hl => ?_)
              refine lv_aload_n hx hb dX12_led_75 rfl (lv_at hl 1 rfl) ?_
              refine lv_iload hx hb dX12_led_76 (lv_at hl 5 rfl) ?_
              refine lv_iconst (v := 0) hx hb dX12_led_78 (by decide) ?_
              have hL0 : (0 : Int32).toInt = 0 := by decide
              refine mcallV' (g := g) (q0 := 0) (ci := 10) (As := [.int x_9, .int 0]) (rest := []) St hK hT hA hP hD hS hl.1 [0] [] rfl rfl rfl (m_logged l g o a 0 hi ac tp ba en tA fl de iD iO tU fm fk fa fc ft ff fb fi x_9 0 (⟨n20, i10.2⟩) (by decide)) (cwV 2 hts (zgL (zl4 k1138 k1139 k1140 k837) k1136) rfl rfl rfl (by decide +kernel) ⟨Nat.le_of_ble_eq_true rfl, Nat.le_of_ble_eq_true rfl⟩) rfl rfl rfl rfl (Nat.le_of_ble_eq_true rfl) dX12_led_79 ⟨(Nat.le_of_ble_eq_true rfl), (Nat.le_of_ble_eq_true rfl)⟩ (fun q_31 H locs hq32 hP hD hS => ?_)
              have hP : va_P g.1 vwCl (List.flatten [bMo g o a 0 hi ac tp ba en tA fl de iD iO tU fm fk fa fc ft ff fb fi]) H := hP
              have hD : va_D A (List.flatten [bMo g o a 0 hi ac tp ba en tA fl de iD iO tU fm fk fa fc ft ff fb fi]) := hD
              refine W.widen (k := 0) (n := 0) (Nat.le_of_ble_eq_true rfl) (Nat.le_of_ble_eq_true rfl) ?_
              refine W.eq (g2 := F0 m 82 ls [.int q_31]) rfl ?_
              refine lv_istore (lv' := [(4, .int q_31), (3, .int x_30), (0, .ref o), (1, .int w), (2, .int day), (5, .int x_9)]) hx hb dX12_led_82 hl (by decide) rfl (fun ls hl => ?_)
              refine ziinc3 (n' := (-1)) (a' := (-1)) (b' := 58) (lv' := fun v9 => [(5, .int v9), (4, .int q_31), (3, .int x_30), (0, .ref o), (1, .int w), (2, .int day)]) hx hb dX12_led_84 hl (k := 5) rfl (by decide) (fun _ => rfl) (zaddK (i := x_9.toInt) (j := (-1)) rfl (by decide) n20 i10.2 (Int.le_refl _) (Int.le_refl _) (by decide)) (fun x_33 ls hx_33 hl => ?_)
              refine lv_goto (tgt := 42) hx hb dX12_led_87 (by decide) ?_
              have hl := lv_sub (l' := [(0, .ref o), (1, .int w), (2, .int day), (3, .int x_30), (4, .int q_31), (5, .int x_33)]) hl [3, 4, 5, 2, 1, 0] rfl
              have hP : va_P g.1 vwCl (List.flatten [bMo g o a 0 hi ac tp ba en tA fl de iD iO tU fm fk fa fc ft ff fb fi]) H := hP
              have hD : va_D A (List.flatten [bMo g o a 0 hi ac tp ba en tA fl de iD iO tU fm fk fa fc ft ff fb fi]) := hD
              exact ih42_12 x_30 q_31 x_33 ⟨hx_33.2.1, (Int.le_trans hx_33.2.2 (by decide))⟩ H _ ls (zmKd hx_33.1 (by decide) n20 (by decide) hk42_12)  hP hD hS (lv_sub hl [0, 1, 2, 3, 4, 5] rfl)
            · skip
              have c34 : 1 < q_26.toInt := zlti (Int32.not_le.mp cb9) (by decide) rfl
              have n35 : 2 ≤ q_26.toInt := zL2 (a := 1) c34 (Int.le_refl _) (by decide)
              refine lv_goto (tgt := 84) hx hb dX12_led_69 (by decide) ?_
              refine ziinc3 (n' := (-1)) (a' := (-1)) (b' := 58) (lv' := fun v9 => [(5, .int v9), (0, .ref o), (1, .int w), (2, .int day), (3, .int x_7), (4, .int x_8)]) hx hb dX12_led_84 hl (k := 5) rfl (by decide) (fun _ => rfl) (zaddK (i := x_9.toInt) (j := (-1)) rfl (by decide) n20 i10.2 (Int.le_refl _) (Int.le_refl _) (by decide)) (fun x_36 ls hx_36 hl => ?_)
              refine lv_goto (tgt := 42) hx hb dX12_led_87 (by decide) ?_
              have hl := lv_sub (l' := [(0, .ref o), (1, .int w), (2, .int day), (3, .int x_7), (4, .int x_8), (5, .int x_36)]) hl [1, 2, 3, 4, 5, 0] rfl
              have hP : va_P g.1 vwCl (List.flatten [bMo g o a 0 hi ac tp ba en tA fl de iD iO tU fm fk fa fc ft ff fb fi]) H := hP
              have hD : va_D A (List.flatten [bMo g o a 0 hi ac tp ba en tA fl de iD iO tU fm fk fa fc ft ff fb fi]) := hD
              exact ih42_12 x_7 x_8 x_36 ⟨hx_36.2.1, (Int.le_trans hx_36.2.2 (by decide))⟩ H _ ls (zmKd hx_36.1 (by decide) n20 (by decide) hk42_12)  hP hD hS (lv_sub hl [0, 1, 2, 3, 4, 5] rfl)
    have hP : va_P g.1 vwCl (List.flatten [bMo g o a 0 hi ac tp ba en tA fl de iD iO tU fm fk fa fc ft ff fb fi]) H := hP
    have hD : va_D A (List.flatten [bMo g o a 0 hi ac tp ba en tA fl de iD iO tU fm fk fa fc ft ff fb fi]) := hD
    exact LP42_11 _ 0 (-1) x_6 ⟨hx_6.2.1, hx_6.2.2⟩ H _ ls (Nat.lt_succ_self _)  hP hD hS (lv_sub hl [0, 1, 2, 3, 4, 5] rfl)
  · skip
    refine lv_if_ne (tgt := 13) hx hb dX12_led_6 (by decide) (fun c37 => absurd (by decide) c37) (fun _ => ?_)
    refine lv_iconst (v := 1) hx hb dX12_led_9 (by decide) ?_
    refine lv_goto (tgt := 14) hx hb dX12_led_10 (by decide) ?_
    refine va_put (D := g.1) (ci := 10) (v := .int 1) (ty := .int) (C := RX12) (T := TX12) (N := 20) hx hb hts izRX12 tyX12 tyX12_ok nmX12 hown hK hP hD hS 0 rfl rfl 0 (by decide) (hts _ k871) (fun _ h9 => h9) rfl (by decide +kernel) rfl rfl (Nat.le_of_ble_eq_true rfl) dX12_led_14 (fun H locs hP hD hS => ?_)
    have hP : va_P g.1 vwCl (List.flatten [bMo g o a 1 hi ac tp ba en tA fl de iD iO tU fm fk fa fc ft ff fb fi]) H := hP
    have hD : va_D A (List.flatten [bMo g o a 1 hi ac tp ba en tA fl de iD iO tU fm fk fa fc ft ff fb fi]) := hD
    refine lv_aload_n hx hb dX12_led_17 rfl (lv_at hl 0 rfl) ?_
    refine va_get (D := g.1) (ci := 10) (v := .int 1) (C := RX12) (T := TX12) (N := 20) hx hb hts izRX12 hown hK hP 0 rfl rfl 0 (by decide) (hts _ k871) (fun _ h9 => h9) rfl dX12_led_18 ?_
    refine lv_if_le (tgt := 26) hx hb dX12_led_21 (by decide) (fun c38 => absurd c38 (by decide)) (fun _ => ?_)
    refine lv_iconst (v := 0) hx hb dX12_led_24 (by decide) ?_
    have hP : va_P g.1 vwCl (List.flatten [bMo g o a 1 hi ac tp ba en tA fl de iD iO tU fm fk fa fc ft ff fb fi]) H := hP
    have hD : va_D A (List.flatten [bMo g o a 1 hi ac tp ba en tA fl de iD iO tU fm fk fa fc ft ff fb fi]) := hD
    exact mret_i hx hb hr hlocks hS (Nat.le_of_ble_eq_true rfl) (Nat.le_of_ble_eq_true rfl) dX12_led_25 ((1 : Int32), (0 : Int32)) rfl trivial hP hD
