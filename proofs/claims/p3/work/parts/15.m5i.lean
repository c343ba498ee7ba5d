set_option maxRecDepth 100000 in
set_option maxHeartbeats 4000000 in
theorem m_rests (l : Launch) (g : zG) (o : Nat) (a : Nat → Nat) (th : Int32) (hi : Int32) (ac : Int32) (tp : Int32) (ba : Int32) (en : Int32) (tA : Int32) (fl : Int32) (de : Int32) (iD : Int32) (iO : Int32) (tU : Int32) (fm : Nat → Int32) (fk : Nat → Int32) (fa : Nat → Int32) (fc : Nat → Int32) (ft : Nat → Int32) (ff : Nat → Int32) (fb : Nat → Int32) (fi : Nat → Int32) (x : Int32) (o2 : Int32) (rfm : rM fm) : zM' g l yX12_rests (Cond.code yX12_rests cX12_rests 7 (some .int) :: zB) ({ frames := 2, cells := 0, slots := 0, locals := 46 } : Room) [.ref o, .int x, .int o2] [bMo g o a th hi ac tp ba en tA fl de iD iO tU fm fk fa fc ft ff fb fi] (fun u : Int32 × Int32 => (fun (th2 : Int32) (q : Int32) => some (.int q)) (u.1) (u.2)) (fun u : Int32 × Int32 => (fun (th2 : Int32) (q : Int32) => True) (u.1) (u.2)) (fun u : Int32 × Int32 => (fun (th2 : Int32) (q : Int32) => [bMo g o a th2 hi ac tp ba en tA fl de iD iO tU fm fk fa fc ft ff fb fi]) (u.1) (u.2)) := by
  refine zM'.of (cc := cX12_rests) (maxL := 7) (rt := (some .int)) (by decide) rfl (Nat.le_of_ble_eq_true rfl) ?_
  intro p e s m args below meth c A ls St hr hlocks hin hK hT hA hP hD hS hl
  obtain ⟨hx, hb, hml, hown, hts⟩ := id St
  have hl : lv_has ls 7 [(0, .ref o), (1, .int x), (2, .int o2)] := hl
  refine lv_aload_n hx hb dX12_rests_0 rfl (lv_at hl 0 rfl) ?_
  refine lv_aload_n hx hb dX12_rests_1 rfl (lv_at hl 0 rfl) ?_
  refine lv_iload_n hx hb dX12_rests_2 rfl (lv_at hl 1 rfl) ?_
  refine mcallV' (g := g) (q0 := 0) (ci := 10) (As := [.int x]) (rest := [.ref o]) St hK hT hA hP hD hS hl.1 [0] [] rfl rfl rfl (m_isPerson l g o a th hi ac tp ba en tA fl de iD iO tU fm fk fa fc ft ff fb fi x (by first | assumption | omega | decide | exact Or.inl (by decide) | exact Or.inr (by decide))) (cwV 1 hts (zgL (zl4 k1032 k1033 k1034 k837) k834) rfl rfl rfl (by decide +kernel) ⟨Nat.le_of_ble_eq_true rfl, Nat.le_of_ble_eq_true rfl⟩) rfl rfl rfl rfl (Nat.le_of_ble_eq_true rfl) dX12_rests_3 ⟨(Nat.le_of_ble_eq_true rfl), (Nat.le_of_ble_eq_true rfl)⟩ (fun q_1 H locs hq2 hP hD hS => ?_)
  replace hq2 : (q_1 = 1 ∧ 0 ≤ x.toInt ∧ x.toInt ≤ 7 ∧ x.toInt < (fm 3).toInt ∨ q_1 = 0) := hq2
  have hP : va_P g.1 vwCl (List.flatten [bMo g o a th hi ac tp ba en tA fl de iD iO tU fm fk fa fc ft ff fb fi]) H := hP
  have hD : va_D A (List.flatten [bMo g o a th hi ac tp ba en tA fl de iD iO tU fm fk fa fc ft ff fb fi]) := hD
  refine W.widen (k := 0) (n := 0) (Nat.le_of_ble_eq_true rfl) (Nat.le_of_ble_eq_true rfl) ?_
  refine W.eq (g2 := F0 m 6 ls [.int q_1, .ref o]) rfl ?_
  rcases hq2 with ⟨rfl, hq2_k⟩ | rfl
  · skip
    refine lv_if_eq (tgt := 17) hx hb dX12_rests_6 (by decide) (fun c3 => absurd c3 (by decide)) (fun _ => ?_)
    refine lv_aload_n hx hb dX12_rests_9 rfl (lv_at hl 0 rfl) ?_
    refine lv_iload_n hx hb dX12_rests_10 rfl (lv_at hl 2 rfl) ?_
    refine mcallV' (g := g) (q0 := 0) (ci := 10) (As := [.int o2]) (rest := [.ref o]) St hK hT hA hP hD hS hl.1 [0] [] rfl rfl rfl (m_isPerson l g o a th hi ac tp ba en tA fl de iD iO tU fm fk fa fc ft ff fb fi o2 (by first | assumption | omega | decide | exact Or.inl (by decide) | exact Or.inr (by decide))) (cwV 1 hts (zgL (zl4 k1032 k1033 k1034 k837) k834) rfl rfl rfl (by decide +kernel) ⟨Nat.le_of_ble_eq_true rfl, Nat.le_of_ble_eq_true rfl⟩) rfl rfl rfl rfl (Nat.le_of_ble_eq_true rfl) dX12_rests_11 ⟨(Nat.le_of_ble_eq_true rfl), (Nat.le_of_ble_eq_true rfl)⟩ (fun q_4 H locs hq5 hP hD hS => ?_)
    replace hq5 : (q_4 = 1 ∧ 0 ≤ o2.toInt ∧ o2.toInt ≤ 7 ∧ o2.toInt < (fm 3).toInt ∨ q_4 = 0) := hq5
    have hP : va_P g.1 vwCl (List.flatten [bMo g o a th hi ac tp ba en tA fl de iD iO tU fm fk fa fc ft ff fb fi]) H := hP
    have hD : va_D A (List.flatten [bMo g o a th hi ac tp ba en tA fl de iD iO tU fm fk fa fc ft ff fb fi]) := hD
    refine W.widen (k := 0) (n := 0) (Nat.le_of_ble_eq_true rfl) (Nat.le_of_ble_eq_true rfl) ?_
    refine W.eq (g2 := F0 m 14 ls [.int q_4, .ref o]) rfl ?_
    rcases hq5 with ⟨rfl, hq5_k⟩ | rfl
    · skip
      refine lv_if_ne (tgt := 21) hx hb dX12_rests_14 (by decide) (fun _ => ?_) (fun c6 => absurd c6 (by decide))
      refine lv_iload_n hx hb dX12_rests_21 rfl (lv_at hl 1 rfl) ?_
      refine lv_iload_n hx hb dX12_rests_22 rfl (lv_at hl 2 rfl) ?_
      refine lv_icmp_ne (tgt := 30) hx hb dX12_rests_23 (by decide) (fun cb9 => ?_) (fun cb9 => ?_)
      · skip
        have c7 : ¬ x.toInt = o2.toInt := zne cb9 rfl rfl
        refine lv_iconst (v := 0) hx hb dX12_rests_30 (by decide) ?_
        refine va_put (D := g.1) (ci := 10) (v := .int 0) (ty := .int) (C := RX12) (T := TX12) (N := 20) hx hb hts izRX12 tyX12 tyX12_ok nmX12 hown hK hP hD hS 0 rfl rfl 0 (by decide) (hts _ k871) (fun _ h9 => h9) rfl (by decide +kernel) rfl rfl (Nat.le_of_ble_eq_true rfl) dX12_rests_31 (fun H locs hP hD hS => ?_)
        have hP : va_P g.1 vwCl (List.flatten [bMo g o a 0 hi ac tp ba en tA fl de iD iO tU fm fk fa fc ft ff fb fi]) H := hP
        have hD : va_D A (List.flatten [bMo g o a 0 hi ac tp ba en tA fl de iD iO tU fm fk fa fc ft ff fb fi]) := hD
        refine lv_aload_n hx hb dX12_rests_34 rfl (lv_at hl 0 rfl) ?_
        refine va_get (D := g.1) (ci := 10) (v := .int 0) (C := RX12) (T := TX12) (N := 20) hx hb hts izRX12 hown hK hP 0 rfl rfl 0 (by decide) (hts _ k871) (fun _ h9 => h9) rfl dX12_rests_35 ?_
        refine lv_if_le (tgt := 43) hx hb dX12_rests_38 (by decide) (fun _ => ?_) (fun c8 => absurd (by decide) c8)
        refine lv_iconst (v := 0) hx hb dX12_rests_43 (by decide) ?_
        refine lv_istore_n (lv' := [(3, .int 0), (0, .ref o), (1, .int x), (2, .int o2)]) hx hb dX12_rests_44 rfl hl (by decide) rfl (fun ls hl => ?_)
        refine lv_iconst (v := 0) hx hb dX12_rests_45 (by decide) ?_
        refine lv_istore (lv' := [(4, .int 0), (3, .int 0), (0, .ref o), (1, .int x), (2, .int o2)]) hx hb dX12_rests_46 hl (by decide) rfl (fun ls hl => ?_)
        have hl := lv_sub (l' := [(0, .ref o), (1, .int x), (2, .int o2), (3, .int 0), (4, .int 0)]) hl [2, 3, 4, 1, 0] rfl
        have LP48_12 : ∀ (kf : Nat) (x_9 : Int32) (x_10 : Int32), (0 ≤ x_10.toInt ∧ x_10.toInt ≤ 4) → ∀ (H : Heap) (locs : List Loc) (ls : Array Slot), ((5 - x_10.toInt).toNat) < kf → va_P g.1 vwCl (List.flatten [bMo g o a 0 hi ac tp ba en tA fl de iD iO tU fm fk fa fc ft ff fb fi]) H → va_D A (List.flatten [bMo g o a 0 hi ac tp ba en tA fl de iD iO tU fm fk fa fc ft ff fb fi]) → va_S A s.heap H locs → lv_has ls 7 [(0, .ref o), (1, .int x), (2, .int o2), (3, .int x_9), (4, .int x_10)] → W p l e ({ frames := 2, cells := 0, slots := 0, locals := 46 } : Room) s m args below meth c H locs (0) (0) (zF g (fun u : Int32 × Int32 => (fun (th2 : Int32) (q : Int32) => some (.int q)) (u.1) (u.2)) (fun u : Int32 × Int32 => (fun (th2 : Int32) (q : Int32) => True) (u.1) (u.2)) (fun u : Int32 × Int32 => (fun (th2 : Int32) (q : Int32) => [bMo g o a th2 hi ac tp ba en tA fl de iD iO tU fm fk fa fc ft ff fb fi]) (u.1) (u.2)) ({ frames := 2, cells := 0, slots := 0, locals := 46 } : Room) below args s A) (F0 m 48 ls []) := by
          intro kf
          induction kf with
          | zero => intro x_9 x_10 i11 H locs ls hk; exact absurd hk (Nat.not_lt_zero _)
          | succ kf ih48_13 =>
            intro x_9 x_10 i11 H locs ls hk48_13 hP hD hS hl
            refine lv_iload hx hb dX12_rests_48 (lv_at hl 4 rfl) ?_
            refine lv_iconst (v := 4) hx hb dX12_rests_50 (by decide) ?_
            refine lv_icmp_ge (tgt := 123) hx hb dX12_rests_51 (by decide) (fun cb9 => ?_) (fun cb9 => ?_)
            · skip
              have c14 : 4 ≤ x_10.toInt := zle cb9 (by decide) rfl
              have n15 : 4 ≤ x_10.toInt := Int.le_trans (Int.le_refl _) c14
              refine lv_iload_n hx hb dX12_rests_123 rfl (lv_at hl 3 rfl) ?_
              have hP : va_P g.1 vwCl (List.flatten [bMo g o a 0 hi ac tp ba en tA fl de iD iO tU fm fk fa fc ft ff fb fi]) H := hP
              have hD : va_D A (List.flatten [bMo g o a 0 hi ac tp ba en tA fl de iD iO tU fm fk fa fc ft ff fb fi]) := hD
              exact mret_i hx hb hr hlocks hS (Nat.le_of_ble_eq_true rfl) (Nat.le_of_ble_eq_true rfl) dX12_rests_124 ((0 : Int32), x_9) rfl trivial hP hD
            · skip
              have c16 : x_10.toInt < 4 := zlti (Int32.not_le.mp cb9) rfl (by decide)
              have n17 : x_10.toInt ≤ 3 := zL1 (b := 4) c16 (Int.le_refl _) (by decide)
              refine lv_iload hx hb dX12_rests_54 (lv_at hl 4 rfl) ?_
              refine lv_iconst (v := 2) hx hb dX12_rests_56 (by decide) ?_
              refine lv_idiv hx hb dX12_rests_57 (by decide) ?_
              refine zgb (zdiv (j := x_10.toInt) (d := 2) rfl (by decide) i11.1 (by decide)) (fun x_18 hx_18 => ?_)
              refine lv_istore (lv' := [(5, .int x_18), (0, .ref o), (1, .int x), (2, .int o2), (3, .int x_9), (4, .int x_10)]) hx hb dX12_rests_58 hl (by decide) rfl (fun ls hl => ?_)
              refine lv_iload hx hb dX12_rests_60 (lv_at hl 5 rfl) ?_
              refine lv_iconst (v := 2) hx hb dX12_rests_62 (by decide) ?_
              refine lv_irem hx hb dX12_rests_63 (by decide) ?_
              refine zgb (zrem (j := x_10.toInt) (d := 2) rfl (by decide) i11.1 (by decide)) (fun x_19 hx_19 => ?_)
              refine lv_istore (lv' := [(6, .int x_19), (5, .int x_18), (0, .ref o), (1, .int x), (2, .int o2), (3, .int x_9), (4, .int x_10)]) hx hb dX12_rests_64 hl (by decide) rfl (fun ls hl => ?_)
              refine lv_iconst (v := 1) hx hb dX12_rests_66 (by decide) ?_
              refine lv_iload hx hb dX12_rests_67 (lv_at hl 1 rfl) ?_
              refine lv_isub hx hb dX12_rests_69 ?_
              refine zgv (zsub (i := 1) (j := x_18.toInt) (by decide) rfl (by omega)) (fun x_20 hx_20 => ?_)
              refine lv_iload hx hb dX12_rests_70 (lv_at hl 0 rfl) ?_
              refine mcallS' (g := g) (As := [.int x_20, .int x_19]) (rest := []) St hK hT hA hP hD hS hl.1 [] [0] rfl rfl rfl (m_tellerHas l g x_20 x_19 ) (va_cwS 2 hts (zgL (zl3 k1126 k1127 k837) k1121) rfl rfl rfl (by decide +kernel) ⟨Nat.le_of_ble_eq_true rfl, Nat.le_of_ble_eq_true rfl⟩) rfl rfl (Nat.le_of_ble_eq_true rfl) dX12_rests_72 ⟨(Nat.le_of_ble_eq_true rfl), (Nat.le_of_ble_eq_true rfl)⟩ (fun q_21 H locs hq22 hP hD hS => ?_)
              have hP : va_P g.1 vwCl (List.flatten [bMo g o a 0 hi ac tp ba en tA fl de iD iO tU fm fk fa fc ft ff fb fi]) H := hP
              have hD : va_D A (List.flatten [bMo g o a 0 hi ac tp ba en tA fl de iD iO tU fm fk fa fc ft ff fb fi]) := hD
              refine W.widen (k := 0) (n := 0) (Nat.le_of_ble_eq_true rfl) (Nat.le_of_ble_eq_true rfl) ?_
              refine W.eq (g2 := F0 m 75 ls [.int q_21]) rfl ?_
              refine lv_iload hx hb dX12_rests_75 (lv_at hl 1 rfl) ?_
              refine lv_iload hx hb dX12_rests_77 (lv_at hl 0 rfl) ?_
              refine mcallS' (g := g) (As := [.int x_18, .int x_19]) (rest := [.int q_21]) St hK hT hA hP hD hS hl.1 [] [0] rfl rfl rfl (m_tellerHas l g x_18 x_19 ) (va_cwS 2 hts (zgL (zl3 k1126 k1127 k837) k1121) rfl rfl rfl (by decide +kernel) ⟨Nat.le_of_ble_eq_true rfl, Nat.le_of_ble_eq_true rfl⟩) rfl rfl (Nat.le_of_ble_eq_true rfl) dX12_rests_79 ⟨(Nat.le_of_ble_eq_true rfl), (Nat.le_of_ble_eq_true rfl)⟩ (fun q_23 H locs hq24 hP hD hS => ?_)
              have hP : va_P g.1 vwCl (List.flatten [bMo g o a 0 hi ac tp ba en tA fl de iD iO tU fm fk fa fc ft ff fb fi]) H := hP
              have hD : va_D A (List.flatten [bMo g o a 0 hi ac tp ba en tA fl de iD iO tU fm fk fa fc ft ff fb fi]) := hD
              refine W.widen (k := 0) (n := 0) (Nat.le_of_ble_eq_true rfl) (Nat.le_of_ble_eq_true rfl) ?_
              refine W.eq (g2 := F0 m 82 ls [.int q_23, .int q_21]) rfl ?_
              refine lv_icmp_gt (tgt := 117) hx hb dX12_rests_82 (by decide) (fun cb9 => ?_) (fun cb9 => ?_)
              · skip
                have c25 : q_23.toInt < q_21.toInt := zlti cb9 rfl rfl
                refine ziinc3 (n' := 1) (a' := 1) (b' := 4) (lv' := fun v9 => [(4, .int v9), (6, .int x_19), (5, .int x_18), (0, .ref o), (1, .int x), (2, .int o2), (3, .int x_9)]) hx hb dX12_rests_117 hl (k := 6) rfl (by decide) (fun _ => rfl) (zaddK (i := x_10.toInt) (j := 1) rfl (by decide) i11.1 n17 (Int.le_refl _) (Int.le_refl _) (by decide)) (fun x_26 ls hx_26 hl => ?_)
                refine lv_goto (tgt := 48) hx hb dX12_rests_120 (by decide) ?_
                have hl := lv_sub (l' := [(0, .ref o), (1, .int x), (2, .int o2), (3, .int x_9), (4, .int x_26), (5, .int x_18), (6, .int x_19)]) hl [3, 4, 5, 6, 0, 2, 1] rfl
                have hP : va_P g.1 vwCl (List.flatten [bMo g o a 0 hi ac tp ba en tA fl de iD iO tU fm fk fa fc ft ff fb fi]) H := hP
                have hD : va_D A (List.flatten [bMo g o a 0 hi ac tp ba en tA fl de iD iO tU fm fk fa fc ft ff fb fi]) := hD
                exact ih48_13 x_9 x_26 ⟨(Int.le_trans (by decide) hx_26.2.1), hx_26.2.2⟩ H _ ls (zmK hx_26.1 (by decide) n17 (by decide) hk48_13)  hP hD hS (lv_sub hl [0, 1, 2, 3, 4] rfl)
              · skip
                have c27 : q_21.toInt ≤ q_23.toInt := zle (Int32.not_lt.mp cb9) rfl rfl
                refine lv_aload_n hx hb dX12_rests_85 rfl (lv_at hl 2 rfl) ?_
                refine lv_iload_n hx hb dX12_rests_86 rfl (lv_at hl 3 rfl) ?_
                refine lv_iload_n hx hb dX12_rests_87 rfl (lv_at hl 4 rfl) ?_
                refine lv_iload hx hb dX12_rests_88 (lv_at hl 1 rfl) ?_
                refine lv_iconst (v := 1) hx hb dX12_rests_90 (by decide) ?_
                refine lv_iload hx hb dX12_rests_91 (lv_at hl 0 rfl) ?_
                refine lv_isub hx hb dX12_rests_93 ?_
                refine zg3 (zsubK (i := 1) (j := x_19.toInt) (a' := 0) (b' := 1) (by decide) rfl (Int.le_refl _) (Int.le_refl _) hx_19.1 hx_19.2 (by decide)) (fun x_28 hx_28 => ?_)
                refine mcallV' (g := g) (q0 := 0) (ci := 10) (As := [.int x, .int o2, .int x_18, .int x_28]) (rest := []) St hK hT hA hP hD hS hl.1 [0] [] rfl rfl rfl (m_dryHas l g o a 0 hi ac tp ba en tA fl de iD iO tU fm fk fa fc ft ff fb fi x o2 x_18 x_28 (by first | assumption | omega | decide | exact Or.inl (by decide) | exact Or.inr (by decide)) (by first | assumption | omega | decide | exact Or.inl (by decide) | exact Or.inr (by decide))) (cwV 4 hts (zgL (zl4 k1128 k1129 k1130 k837) k1124) rfl rfl rfl (by decide +kernel) ⟨Nat.le_of_ble_eq_true rfl, Nat.le_of_ble_eq_true rfl⟩) rfl rfl rfl rfl (Nat.le_of_ble_eq_true rfl) dX12_rests_94 ⟨(Nat.le_of_ble_eq_true rfl), (Nat.le_of_ble_eq_true rfl)⟩ (fun q_29 H locs hq30 hP hD hS => ?_)
                have hP : va_P g.1 vwCl (List.flatten [bMo g o a 0 hi ac tp ba en tA fl de iD iO tU fm fk fa fc ft ff fb fi]) H := hP
                have hD : va_D A (List.flatten [bMo g o a 0 hi ac tp ba en tA fl de iD iO tU fm fk fa fc ft ff fb fi]) := hD
                refine W.widen (k := 0) (n := 0) (Nat.le_of_ble_eq_true rfl) (Nat.le_of_ble_eq_true rfl) ?_
                refine W.eq (g2 := F0 m 97 ls [.int q_29]) rfl ?_
                refine lv_aload_n hx hb dX12_rests_97 rfl (lv_at hl 2 rfl) ?_
                refine lv_iload_n hx hb dX12_rests_98 rfl (lv_at hl 3 rfl) ?_
                refine lv_iload_n hx hb dX12_rests_99 rfl (lv_at hl 4 rfl) ?_
                refine lv_iload hx hb dX12_rests_100 (lv_at hl 1 rfl) ?_
                refine lv_iload hx hb dX12_rests_102 (lv_at hl 0 rfl) ?_
                refine mcallV' (g := g) (q0 := 0) (ci := 10) (As := [.int x, .int o2, .int x_18, .int x_19]) (rest := [.int q_29]) St hK hT hA hP hD hS hl.1 [0] [] rfl rfl rfl (m_dryHas l g o a 0 hi ac tp ba en tA fl de iD iO tU fm fk fa fc ft ff fb fi x o2 x_18 x_19 (by first | assumption | omega | decide | exact Or.inl (by decide) | exact Or.inr (by decide)) (by first | assumption | omega | decide | exact Or.inl (by decide) | exact Or.inr (by decide))) (cwV 4 hts (zgL (zl4 k1128 k1129 k1130 k837) k1124) rfl rfl rfl (by decide +kernel) ⟨Nat.le_of_ble_eq_true rfl, Nat.le_of_ble_eq_true rfl⟩) rfl rfl rfl rfl (Nat.le_of_ble_eq_true rfl) dX12_rests_104 ⟨(Nat.le_of_ble_eq_true rfl), (Nat.le_of_ble_eq_true rfl)⟩ (fun q_31 H locs hq32 hP hD hS => ?_)
                have hP : va_P g.1 vwCl (List.flatten [bMo g o a 0 hi ac tp ba en tA fl de iD iO tU fm fk fa fc ft ff fb fi]) H := hP
                have hD : va_D A (List.flatten [bMo g o a 0 hi ac tp ba en tA fl de iD iO tU fm fk fa fc ft ff fb fi]) := hD
                refine W.widen (k := 0) (n := 0) (Nat.le_of_ble_eq_true rfl) (Nat.le_of_ble_eq_true rfl) ?_
                refine W.eq (g2 := F0 m 107 ls [.int q_31, .int q_29]) rfl ?_
                refine lv_icmp_gt (tgt := 117) hx hb dX12_rests_107 (by decide) (fun cb9 => ?_) (fun cb9 => ?_)
                · skip
                  have c33 : q_31.toInt < q_29.toInt := zlti cb9 rfl rfl
                  refine ziinc3 (n' := 1) (a' := 1) (b' := 4) (lv' := fun v9 => [(4, .int v9), (6, .int x_19), (5, .int x_18), (0, .ref o), (1, .int x), (2, .int o2), (3, .int x_9)]) hx hb dX12_rests_117 hl (k := 6) rfl (by decide) (fun _ => rfl) (zaddK (i := x_10.toInt) (j := 1) rfl (by decide) i11.1 n17 (Int.le_refl _) (Int.le_refl _) (by decide)) (fun x_34 ls hx_34 hl => ?_)
                  refine lv_goto (tgt := 48) hx hb dX12_rests_120 (by decide) ?_
                  have hl := lv_sub (l' := [(0, .ref o), (1, .int x), (2, .int o2), (3, .int x_9), (4, .int x_34), (5, .int x_18), (6, .int x_19)]) hl [3, 4, 5, 6, 0, 2, 1] rfl
                  have hP : va_P g.1 vwCl (List.flatten [bMo g o a 0 hi ac tp ba en tA fl de iD iO tU fm fk fa fc ft ff fb fi]) H := hP
                  have hD : va_D A (List.flatten [bMo g o a 0 hi ac tp ba en tA fl de iD iO tU fm fk fa fc ft ff fb fi]) := hD
                  exact ih48_13 x_9 x_34 ⟨(Int.le_trans (by decide) hx_34.2.1), hx_34.2.2⟩ H _ ls (zmK hx_34.1 (by decide) n17 (by decide) hk48_13)  hP hD hS (lv_sub hl [0, 1, 2, 3, 4] rfl)
                · skip
                  have c35 : q_29.toInt ≤ q_31.toInt := zle (Int32.not_lt.mp cb9) rfl rfl
                  refine lv_iload_n hx hb dX12_rests_110 rfl (lv_at hl 5 rfl) ?_
                  refine lv_iconst (v := 1) hx hb dX12_rests_111 (by decide) ?_
                  refine lv_iload hx hb dX12_rests_112 (lv_at hl 6 rfl) ?_
                  refine lv_ishl hx hb dX12_rests_114 ?_
                  refine zgb (zshl1 (j := x_10.toInt) rfl 3 8 (by decide) (by decide) ⟨i11.1, n17⟩) (fun x_36 hx_36 => ?_)
                  refine lv_ior hx hb dX12_rests_115 ?_
                  refine zg (fun x_37 => ?_)
                  refine lv_istore_n (lv' := [(3, .int x_37), (6, .int x_19), (5, .int x_18), (0, .ref o), (1, .int x), (2, .int o2), (4, .int x_10)]) hx hb dX12_rests_116 rfl hl (by decide) rfl (fun ls hl => ?_)
                  refine ziinc3 (n' := 1) (a' := 1) (b' := 4) (lv' := fun v9 => [(4, .int v9), (3, .int x_37), (6, .int x_19), (5, .int x_18), (0, .ref o), (1, .int x), (2, .int o2)]) hx hb dX12_rests_117 hl (k := 6) rfl (by decide) (fun _ => rfl) (zaddK (i := x_10.toInt) (j := 1) rfl (by decide) i11.1 n17 (Int.le_refl _) (Int.le_refl _) (by decide)) (fun x_38 ls hx_38 hl => ?_)
                  refine lv_goto (tgt := 48) hx hb dX12_rests_120 (by decide) ?_
                  have hl := lv_sub (l' := [(0, .ref o), (1, .int x), (2, .int o2), (3, .int x_37), (4, .int x_38), (5, .int x_18), (6, .int x_19)]) hl [4, 5, 6, 1, 0, 3, 2] rfl
                  have hP : va_P g.1 vwCl (List.flatten [bMo g o a 0 hi ac tp ba en tA fl de iD iO tU fm fk fa fc ft ff fb fi]) H := hP
                  have hD : va_D A (List.flatten [bMo g o a 0 hi ac tp ba en tA fl de iD iO tU fm fk fa fc ft ff fb fi]) := hD
                  exact ih48_13 x_37 x_38 ⟨(Int.le_trans (by decide) hx_38.2.1), hx_38.2.2⟩ H _ ls (zmK hx_38.1 (by decide) n17 (by decide) hk48_13)  hP hD hS (lv_sub hl [0, 1, 2, 3, 4] rfl)
        have hP : va_P g.1 vwCl (List.flatten [bMo g o a 0 hi ac tp ba en tA fl de iD iO tU fm fk fa fc ft ff fb fi]) H := hP
        have hD : va_D A (List.flatten [bMo g o a 0 hi ac tp ba en tA fl de iD iO tU fm fk fa fc ft ff fb fi]) := hD
        exact LP48_12 _ 0 0 (by decide) H _ ls (Nat.lt_succ_self _)  hP hD hS (lv_sub hl [0, 1, 2, 3, 4] rfl)
      · skip
        have c39 : x.toInt = o2.toInt := zeq cb9 rfl rfl
        refine lv_iconst (v := 2) hx hb dX12_rests_26 (by decide) ?_
        refine lv_goto (tgt := 31) hx hb dX12_rests_27 (by decide) ?_
        refine va_put (D := g.1) (ci := 10) (v := .int 2) (ty := .int) (C := RX12) (T := TX12) (N := 20) hx hb hts izRX12 tyX12 tyX12_ok nmX12 hown hK hP hD hS 0 rfl rfl 0 (by decide) (hts _ k871) (fun _ h9 => h9) rfl (by decide +kernel) rfl rfl (Nat.le_of_ble_eq_true rfl) dX12_rests_31 (fun H locs hP hD hS => ?_)
        have hP : va_P g.1 vwCl (List.flatten [bMo g o a 2 hi ac tp ba en tA fl de iD iO tU fm fk fa fc ft ff fb fi]) H := hP
        have hD : va_D A (List.flatten [bMo g o a 2 hi ac tp ba en tA fl de iD iO tU fm fk fa fc ft ff fb fi]) := hD
        refine lv_aload_n hx hb dX12_rests_34 rfl (lv_at hl 0 rfl) ?_
        refine va_get (D := g.1) (ci := 10) (v := .int 2) (C := RX12) (T := TX12) (N := 20) hx hb hts izRX12 hown hK hP 0 rfl rfl 0 (by decide) (hts _ k871) (fun _ h9 => h9) rfl dX12_rests_35 ?_
        refine lv_if_le (tgt := 43) hx hb dX12_rests_38 (by decide) (fun c40 => absurd c40 (by decide)) (fun _ => ?_)
        refine lv_iconst (v := 0) hx hb dX12_rests_41 (by decide) ?_
        have hP : va_P g.1 vwCl (List.flatten [bMo g o a 2 hi ac tp ba en tA fl de iD iO tU fm fk fa fc ft ff fb fi]) H := hP
        have hD : va_D A (List.flatten [bMo g o a 2 hi ac tp ba en tA fl de iD iO tU fm fk fa fc ft ff fb fi]) := hD
        exact mret_i hx hb hr hlocks hS (Nat.le_of_ble_eq_true rfl) (Nat.le_of_ble_eq_true rfl) dX12_rests_42 ((2 : Int32), (0 : Int32)) rfl trivial hP hD
    · skip
      refine lv_if_ne (tgt := 21) hx hb dX12_rests_14 (by decide) (fun c41 => absurd (by decide) c41) (fun _ => ?_)
      refine lv_iconst (v := 1) hx hb dX12_rests_17 (by decide) ?_
      refine lv_goto (tgt := 31) hx hb dX12_rests_18 (by decide) ?_
      refine va_put (D := g.1) (ci := 10) (v := .int 1) (ty := .int) (C := RX12) (T := TX12) (N := 20) hx hb hts izRX12 tyX12 tyX12_ok nmX12 hown hK hP hD hS 0 rfl rfl 0 (by decide) (hts _ k871) (fun _ h9 => h9) rfl (by decide +kernel) rfl rfl (Nat.le_of_ble_eq_true rfl) dX12_rests_31 (fun H locs hP hD hS => ?_)
      have hP : va_P g.1 vwCl (List.flatten [bMo g o a 1 hi ac tp ba en tA fl de iD iO tU fm fk fa fc ft ff fb fi]) H := hP
      have hD : va_D A (List.flatten [bMo g o a 1 hi ac tp ba en tA fl de iD iO tU fm fk fa fc ft ff fb fi]) := hD
      refine lv_aload_n hx hb dX12_rests_34 rfl (lv_at hl 0 rfl) ?_
      refine va_get (D := g.1) (ci := 10) (v := .int 1) (C := RX12) (T := TX12) (N := 20) hx hb hts izRX12 hown hK hP 0 rfl rfl 0 (by decide) (hts _ k871) (fun _ h9 => h9) rfl dX12_rests_35 ?_
      refine lv_if_le (tgt := 43) hx hb dX12_rests_38 (by decide) (fun c42 => absurd c42 (by decide)) (fun _ => ?_)
      refine lv_iconst (v := 0) hx hb dX12_rests_41 (by decide) ?_
      have hP : va_P g.1 vwCl (List.flatten [bMo g o a 1 hi ac tp ba en tA fl de iD iO tU fm fk fa fc ft ff fb fi]) H := hP
      have hD : va_D A (List.flatten [bMo g o a 1 hi ac tp ba en tA fl de iD iO tU fm fk fa fc ft ff fb fi]) := hD
      exact mret_i hx hb hr hlocks hS (Nat.le_of_ble_eq_true rfl) (Nat.le_of_ble_eq_true rfl) dX12_rests_42 ((1 : Int32), (0 : Int32)) rfl trivial hP hD
  · skip
    refine lv_if_eq (tgt := 17) hx hb dX12_rests_6 (by decide) (fun _ => ?_) (fun c43 => absurd (by decide) c43)
    refine lv_iconst (v := 1) hx hb dX12_rests_17 (by decide) ?_
    refine lv_goto (tgt := 31) hx hb dX12_rests_18 (by decide) ?_
    refine va_put (D := g.1) (ci := 10) (v := .int 1) (ty := .int) (C := RX12) (T := TX12) (N := 20) hx hb hts izRX12 tyX12 tyX12_ok nmX12 hown hK hP hD hS 0 rfl rfl 0 (by decide) (hts _ k871) (fun _ h9 => h9) rfl (by decide +kernel) rfl rfl (Nat.le_of_ble_eq_true rfl) dX12_rests_31 (fun H locs hP hD hS => ?_)
    have hP : va_P g.1 vwCl (List.flatten [bMo g o a 1 hi ac tp ba en tA fl de iD iO tU fm fk fa fc ft ff fb fi]) H := hP
    have hD : va_D A (List.flatten [bMo g o a 1 hi ac tp ba en tA fl de iD iO tU fm fk fa fc ft ff fb fi]) := hD
    refine lv_aload_n hx hb dX12_rests_34 rfl (lv_at hl 0 rfl) ?_
    refine va_get (D := g.1) (ci := 10) (v := .int 1) (C := RX12) (T := TX12) (N := 20) hx hb hts izRX12 hown hK hP 0 rfl rfl 0 (by decide) (hts _ k871) (fun _ h9 => h9) rfl dX12_rests_35 ?_
    refine lv_if_le (tgt := 43) hx hb dX12_rests_38 (by decide) (fun c44 => absurd c44 (by decide)) (fun _ => ?_)
    refine lv_iconst (v := 0) hx hb dX12_rests_41 (by decide) ?_
    have hP : va_P g.1 vwCl (List.flatten [bMo g o a 1 hi ac tp ba en tA fl de iD iO tU fm fk fa fc ft ff fb fi]) H := hP
    have hD : va_D A (List.flatten [bMo g o a 1 hi ac tp ba en tA fl de iD iO tU fm fk fa fc ft ff fb fi]) := hD
    exact mret_i hx hb hr hlocks hS (Nat.le_of_ble_eq_true rfl) (Nat.le_of_ble_eq_true rfl) dX12_rests_42 ((1 : Int32), (0 : Int32)) rfl trivial hP hD
