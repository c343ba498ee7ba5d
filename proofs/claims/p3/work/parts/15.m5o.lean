set_option maxRecDepth 100000 in
set_option maxHeartbeats 4000000 in
theorem m_count (l : Launch) (g : zG) (o : Nat) (a : Nat → Nat) (th : Int32) (hi : Int32) (ac : Int32) (tp : Int32) (ba : Int32) (en : Int32) (tA : Int32) (fl : Int32) (de : Int32) (iD : Int32) (iO : Int32) (tU : Int32) (fm : Nat → Int32) (fk : Nat → Int32) (fa : Nat → Int32) (fc : Nat → Int32) (ft : Nat → Int32) (ff : Nat → Int32) (fb : Nat → Int32) (fi : Nat → Int32) (what : Int32) (rfm : rM fm) : zM' g l yX12_count (Cond.code yX12_count cX12_count 2 (some .int) :: zB) ({ frames := 3, cells := 0, slots := 0, locals := 65 } : Room) [.ref o, .int what] [bMo g o a th hi ac tp ba en tA fl de iD iO tU fm fk fa fc ft ff fb fi] (fun u : Int32 × Int32 => (fun (th2 : Int32) (q : Int32) => some (.int q)) (u.1) (u.2)) (fun u : Int32 × Int32 => (fun (th2 : Int32) (q : Int32) => True) (u.1) (u.2)) (fun u : Int32 × Int32 => (fun (th2 : Int32) (q : Int32) => [bMo g o a th2 hi ac tp ba en tA fl de iD iO tU fm fk fa fc ft ff fb fi]) (u.1) (u.2)) := by
  refine zM'.of (cc := cX12_count) (maxL := 2) (rt := (some .int)) (by decide) rfl (Nat.le_of_ble_eq_true rfl) ?_
  intro p e s m args below meth c A ls St hr hlocks hin hK hT hA hP hD hS hl
  obtain ⟨hx, hb, hml, hown, hts⟩ := id St
  have hl : lv_has ls 2 [(0, .ref o), (1, .int what)] := hl
  refine lv_aload_n hx hb dX12_count_0 rfl (lv_at hl 0 rfl) ?_
  refine lv_iconst (v := 0) hx hb dX12_count_1 (by decide) ?_
  refine va_put (D := g.1) (ci := 10) (v := .int 0) (ty := .int) (C := RX12) (T := TX12) (N := 20) hx hb hts izRX12 tyX12 tyX12_ok nmX12 hown hK hP hD hS 0 rfl rfl 0 (by decide) (hts _ k871) (fun _ h9 => h9) rfl (by decide +kernel) rfl rfl (Nat.le_of_ble_eq_true rfl) dX12_count_2 (fun H locs hP hD hS => ?_)
  have hP : va_P g.1 vwCl (List.flatten [bMo g o a 0 hi ac tp ba en tA fl de iD iO tU fm fk fa fc ft ff fb fi]) H := hP
  have hD : va_D A (List.flatten [bMo g o a 0 hi ac tp ba en tA fl de iD iO tU fm fk fa fc ft ff fb fi]) := hD
  refine lv_iload_n hx hb dX12_count_5 rfl (lv_at hl 1 rfl) ?_
  refine lv_if_ne (tgt := 16) hx hb dX12_count_6 (by decide) (fun cb9 => ?_) (fun cb9 => ?_)
  · skip
    have c1 : ¬ what.toInt = 0 := zne cb9 rfl (by decide)
    refine lv_iload_n hx hb dX12_count_16 rfl (lv_at hl 1 rfl) ?_
    refine lv_iconst (v := 1) hx hb dX12_count_17 (by decide) ?_
    refine lv_icmp_ne (tgt := 28) hx hb dX12_count_18 (by decide) (fun cb9 => ?_) (fun cb9 => ?_)
    · skip
      have c2 : ¬ what.toInt = 1 := zne cb9 rfl (by decide)
      refine lv_iload_n hx hb dX12_count_28 rfl (lv_at hl 1 rfl) ?_
      refine lv_iconst (v := 2) hx hb dX12_count_29 (by decide) ?_
      refine lv_icmp_ne (tgt := 40) hx hb dX12_count_30 (by decide) (fun cb9 => ?_) (fun cb9 => ?_)
      · skip
        have c3 : ¬ what.toInt = 2 := zne cb9 rfl (by decide)
        refine lv_iload_n hx hb dX12_count_40 rfl (lv_at hl 1 rfl) ?_
        refine lv_iconst (v := 3) hx hb dX12_count_41 (by decide) ?_
        refine lv_icmp_ne (tgt := 52) hx hb dX12_count_42 (by decide) (fun cb9 => ?_) (fun cb9 => ?_)
        · skip
          have c4 : ¬ what.toInt = 3 := zne cb9 rfl (by decide)
          refine lv_iload_n hx hb dX12_count_52 rfl (lv_at hl 1 rfl) ?_
          refine lv_iconst (v := 4) hx hb dX12_count_53 (by decide) ?_
          refine lv_icmp_ne (tgt := 65) hx hb dX12_count_54 (by decide) (fun cb9 => ?_) (fun cb9 => ?_)
          · skip
            have c5 : ¬ what.toInt = 4 := zne cb9 rfl (by decide)
            refine lv_iload_n hx hb dX12_count_65 rfl (lv_at hl 1 rfl) ?_
            refine lv_iconst (v := 5) hx hb dX12_count_66 (by decide) ?_
            refine lv_icmp_ne (tgt := 77) hx hb dX12_count_67 (by decide) (fun cb9 => ?_) (fun cb9 => ?_)
            · skip
              have c6 : ¬ what.toInt = 5 := zne cb9 rfl (by decide)
              refine lv_iload_n hx hb dX12_count_77 rfl (lv_at hl 1 rfl) ?_
              refine lv_bipush (v := 6) hx hb dX12_count_78 (by decide) ?_
              refine lv_icmp_ne (tgt := 88) hx hb dX12_count_80 (by decide) (fun cb9 => ?_) (fun cb9 => ?_)
              · skip
                have c7 : ¬ what.toInt = 6 := zne cb9 rfl (by decide)
                refine lv_iload_n hx hb dX12_count_88 rfl (lv_at hl 1 rfl) ?_
                refine lv_bipush (v := 7) hx hb dX12_count_89 (by decide) ?_
                refine lv_icmp_ne (tgt := 99) hx hb dX12_count_91 (by decide) (fun cb9 => ?_) (fun cb9 => ?_)
                · skip
                  have c8 : ¬ what.toInt = 7 := zne cb9 rfl (by decide)
                  refine lv_iload_n hx hb dX12_count_99 rfl (lv_at hl 1 rfl) ?_
                  refine lv_bipush (v := 8) hx hb dX12_count_100 (by decide) ?_
                  refine lv_bipush (v := 9) hx hb dX12_count_102 (by decide) ?_
                  have hL8 : (8 : Int32).toInt = 8 := by decide
                  have hL9 : (9 : Int32).toInt = 9 := by decide
                  refine mcallS' (g := g) (As := [.int what, .int 8, .int 9]) (rest := []) St hK hT hA hP hD hS hl.1 [] [0] rfl rfl rfl (m_isIn l g what 8 9 ) (va_cwS 3 hts (zgL (zl3 k835 k836 k837) k824) rfl rfl rfl (by decide +kernel) ⟨Nat.le_of_ble_eq_true rfl, Nat.le_of_ble_eq_true rfl⟩) rfl rfl (Nat.le_of_ble_eq_true rfl) dX12_count_104 ⟨(Nat.le_of_ble_eq_true rfl), (Nat.le_of_ble_eq_true rfl)⟩ (fun q_9 H locs hq10 hP hD hS => ?_)
                  replace hq10 : (q_9 = 1 ∧ (8 : Int32).toInt ≤ what.toInt ∧ what.toInt ≤ (9 : Int32).toInt ∨ q_9 = 0 ∧ (what.toInt < (8 : Int32).toInt ∨ (9 : Int32).toInt < what.toInt)) := hq10
                  have hP : va_P g.1 vwCl (List.flatten [bMo g o a 0 hi ac tp ba en tA fl de iD iO tU fm fk fa fc ft ff fb fi]) H := hP
                  have hD : va_D A (List.flatten [bMo g o a 0 hi ac tp ba en tA fl de iD iO tU fm fk fa fc ft ff fb fi]) := hD
                  refine W.widen (k := 0) (n := 0) (Nat.le_of_ble_eq_true rfl) (Nat.le_of_ble_eq_true rfl) ?_
                  refine W.eq (g2 := F0 m 107 ls [.int q_9]) rfl ?_
                  rcases hq10 with ⟨rfl, hq10_k⟩ | ⟨rfl, hq10_k⟩
                  · skip
                    refine lv_if_eq (tgt := 119) hx hb dX12_count_107 (by decide) (fun c11 => absurd c11 (by decide)) (fun _ => ?_)
                    refine lv_aload_n hx hb dX12_count_110 rfl (lv_at hl 0 rfl) ?_
                    refine lv_iload_n hx hb dX12_count_111 rfl (lv_at hl 1 rfl) ?_
                    refine lv_bipush (v := 7) hx hb dX12_count_112 (by decide) ?_
                    refine lv_isub hx hb dX12_count_114 ?_
                    refine zgv (zsub (i := what.toInt) (j := 7) rfl (by decide) (by omega)) (fun x_12 hx_12 => ?_)
                    refine mcallV' (g := g) (q0 := 0) (ci := 10) (As := [.int x_12]) (rest := []) St hK hT hA hP hD hS hl.1 [0] [] rfl rfl rfl (m_worksOf l g o a 0 hi ac tp ba en tA fl de iD iO tU fm fk fa fc ft ff fb fi x_12 (by first | assumption | omega | decide | exact Or.inl (by decide) | exact Or.inr (by decide))) (cwV 1 hts (zgL (zl4 k989 k990 k991 k837) k861) rfl rfl rfl (by decide +kernel) ⟨Nat.le_of_ble_eq_true rfl, Nat.le_of_ble_eq_true rfl⟩) rfl rfl rfl rfl (Nat.le_of_ble_eq_true rfl) dX12_count_115 ⟨(Nat.le_of_ble_eq_true rfl), (Nat.le_of_ble_eq_true rfl)⟩ (fun q_13 H locs hq14 hP hD hS => ?_)
                    have hP : va_P g.1 vwCl (List.flatten [bMo g o a 0 hi ac tp ba en tA fl de iD iO tU fm fk fa fc ft ff fb fi]) H := hP
                    have hD : va_D A (List.flatten [bMo g o a 0 hi ac tp ba en tA fl de iD iO tU fm fk fa fc ft ff fb fi]) := hD
                    refine W.widen (k := 0) (n := 0) (Nat.le_of_ble_eq_true rfl) (Nat.le_of_ble_eq_true rfl) ?_
                    refine W.eq (g2 := F0 m 118 ls [.int q_13]) rfl ?_
                    have hP : va_P g.1 vwCl (List.flatten [bMo g o a 0 hi ac tp ba en tA fl de iD iO tU fm fk fa fc ft ff fb fi]) H := hP
                    have hD : va_D A (List.flatten [bMo g o a 0 hi ac tp ba en tA fl de iD iO tU fm fk fa fc ft ff fb fi]) := hD
                    exact mret_i hx hb hr hlocks hS (Nat.le_of_ble_eq_true rfl) (Nat.le_of_ble_eq_true rfl) dX12_count_118 ((0 : Int32), q_13) rfl trivial hP hD
                  · skip
                    refine lv_if_eq (tgt := 119) hx hb dX12_count_107 (by decide) (fun _ => ?_) (fun c15 => absurd (by decide) c15)
                    refine lv_iload_n hx hb dX12_count_119 rfl (lv_at hl 1 rfl) ?_
                    refine lv_bipush (v := 10) hx hb dX12_count_120 (by decide) ?_
                    refine lv_icmp_ne (tgt := 130) hx hb dX12_count_122 (by decide) (fun cb9 => ?_) (fun cb9 => ?_)
                    · skip
                      have c16 : ¬ what.toInt = 10 := zne cb9 rfl (by decide)
                      refine lv_iload_n hx hb dX12_count_130 rfl (lv_at hl 1 rfl) ?_
                      refine lv_bipush (v := 11) hx hb dX12_count_131 (by decide) ?_
                      refine lv_icmp_ne (tgt := 144) hx hb dX12_count_133 (by decide) (fun cb9 => ?_) (fun cb9 => ?_)
                      · skip
                        have c17 : ¬ what.toInt = 11 := zne cb9 rfl (by decide)
                        refine lv_iload_n hx hb dX12_count_144 rfl (lv_at hl 1 rfl) ?_
                        refine lv_bipush (v := 12) hx hb dX12_count_145 (by decide) ?_
                        refine lv_icmp_ne (tgt := 157) hx hb dX12_count_147 (by decide) (fun cb9 => ?_) (fun cb9 => ?_)
                        · skip
                          have c18 : ¬ what.toInt = 12 := zne cb9 rfl (by decide)
                          refine lv_iconst (v := (-1)) hx hb dX12_count_157 (by decide) ?_
                          have hP : va_P g.1 vwCl (List.flatten [bMo g o a 0 hi ac tp ba en tA fl de iD iO tU fm fk fa fc ft ff fb fi]) H := hP
                          have hD : va_D A (List.flatten [bMo g o a 0 hi ac tp ba en tA fl de iD iO tU fm fk fa fc ft ff fb fi]) := hD
                          exact mret_i hx hb hr hlocks hS (Nat.le_of_ble_eq_true rfl) (Nat.le_of_ble_eq_true rfl) dX12_count_158 ((0 : Int32), -1) rfl trivial hP hD
                        · skip
                          have c19 : what.toInt = 12 := zeq cb9 rfl (by decide)
                          have n20 : 12 ≤ what.toInt := Int.le_trans (Int.le_refl _) (Int.le_of_eq c19.symm)
                          have n21 : what.toInt ≤ 12 := Int.le_trans (Int.le_of_eq c19) (Int.le_refl _)
                          refine lv_aload_n hx hb dX12_count_150 rfl (lv_at hl 0 rfl) ?_
                          refine va_get (D := g.1) (ci := 10) (v := .int ac) (C := RX12) (T := TX12) (N := 20) hx hb hts izRX12 hown hK hP 0 rfl rfl 6 (by decide) (hts _ k973) (fun _ h9 => h9) rfl dX12_count_151 ?_
                          refine lv_goto (tgt := 158) hx hb dX12_count_154 (by decide) ?_
                          have hP : va_P g.1 vwCl (List.flatten [bMo g o a 0 hi ac tp ba en tA fl de iD iO tU fm fk fa fc ft ff fb fi]) H := hP
                          have hD : va_D A (List.flatten [bMo g o a 0 hi ac tp ba en tA fl de iD iO tU fm fk fa fc ft ff fb fi]) := hD
                          exact mret_i hx hb hr hlocks hS (Nat.le_of_ble_eq_true rfl) (Nat.le_of_ble_eq_true rfl) dX12_count_158 ((0 : Int32), ac) rfl trivial hP hD
                      · skip
                        have c22 : what.toInt = 11 := zeq cb9 rfl (by decide)
                        have n23 : 11 ≤ what.toInt := Int.le_trans (Int.le_refl _) (Int.le_of_eq c22.symm)
                        have n24 : what.toInt ≤ 11 := Int.le_trans (Int.le_of_eq c22) (Int.le_refl _)
                        refine lv_aload_n hx hb dX12_count_136 rfl (lv_at hl 0 rfl) ?_
                        refine va_get (D := g.1) (ci := 10) (v := .ref (a 0)) (C := RX12) (T := TX12) (N := 20) hx hb hts izRX12 hown hK hP 0 rfl rfl 1 (by decide) (hts _ k815) (fun _ h9 => h9) rfl dX12_count_137 ?_
                        refine lv_bipush (v := 9) hx hb dX12_count_140 (by decide) ?_
                        refine va_iald hx hb hK hP 1 0 rfl rfl (zin rfl) dX12_count_142 ?_
                        refine zgq (r := fm 9) rfl (rM9 rfm) (fun x_25 hx_25 => ?_)
                        have hP : va_P g.1 vwCl (List.flatten [bMo g o a 0 hi ac tp ba en tA fl de iD iO tU fm fk fa fc ft ff fb fi]) H := hP
                        have hD : va_D A (List.flatten [bMo g o a 0 hi ac tp ba en tA fl de iD iO tU fm fk fa fc ft ff fb fi]) := hD
                        exact mret_i hx hb hr hlocks hS (Nat.le_of_ble_eq_true rfl) (Nat.le_of_ble_eq_true rfl) dX12_count_143 ((0 : Int32), x_25) rfl trivial hP hD
                    · skip
                      have c26 : what.toInt = 10 := zeq cb9 rfl (by decide)
                      have n27 : 10 ≤ what.toInt := Int.le_trans (Int.le_refl _) (Int.le_of_eq c26.symm)
                      have n28 : what.toInt ≤ 10 := Int.le_trans (Int.le_of_eq c26) (Int.le_refl _)
                      refine lv_aload_n hx hb dX12_count_125 rfl (lv_at hl 0 rfl) ?_
                      refine mcallV' (g := g) (q0 := 0) (ci := 10) (As := []) (rest := []) St hK hT hA hP hD hS hl.1 [0] [] rfl rfl rfl (m_sharesOfAll l g o a 0 hi ac tp ba en tA fl de iD iO tU fm fk fa fc ft ff fb fi (by first | assumption | omega | decide | exact Or.inl (by decide) | exact Or.inr (by decide))) (cwV 0 hts (zgL (zl4 k1148 k1149 k1150 k837) k1147) rfl rfl rfl (by decide +kernel) ⟨Nat.le_of_ble_eq_true rfl, Nat.le_of_ble_eq_true rfl⟩) rfl rfl rfl rfl (Nat.le_of_ble_eq_true rfl) dX12_count_126 ⟨(Nat.le_of_ble_eq_true rfl), (Nat.le_of_ble_eq_true rfl)⟩ (fun q_29 H locs hq30 hP hD hS => ?_)
                      have hP : va_P g.1 vwCl (List.flatten [bMo g o a 0 hi ac tp ba en tA fl de iD iO tU fm fk fa fc ft ff fb fi]) H := hP
                      have hD : va_D A (List.flatten [bMo g o a 0 hi ac tp ba en tA fl de iD iO tU fm fk fa fc ft ff fb fi]) := hD
                      refine W.widen (k := 0) (n := 0) (Nat.le_of_ble_eq_true rfl) (Nat.le_of_ble_eq_true rfl) ?_
                      refine W.eq (g2 := F0 m 129 ls [.int q_29]) rfl ?_
                      have hP : va_P g.1 vwCl (List.flatten [bMo g o a 0 hi ac tp ba en tA fl de iD iO tU fm fk fa fc ft ff fb fi]) H := hP
                      have hD : va_D A (List.flatten [bMo g o a 0 hi ac tp ba en tA fl de iD iO tU fm fk fa fc ft ff fb fi]) := hD
                      exact mret_i hx hb hr hlocks hS (Nat.le_of_ble_eq_true rfl) (Nat.le_of_ble_eq_true rfl) dX12_count_129 ((0 : Int32), q_29) rfl trivial hP hD
                · skip
                  have c31 : what.toInt = 7 := zeq cb9 rfl (by decide)
                  have n32 : 7 ≤ what.toInt := Int.le_trans (Int.le_refl _) (Int.le_of_eq c31.symm)
                  have n33 : what.toInt ≤ 7 := Int.le_trans (Int.le_of_eq c31) (Int.le_refl _)
                  refine lv_aload_n hx hb dX12_count_94 rfl (lv_at hl 0 rfl) ?_
                  refine mcallV' (g := g) (q0 := 0) (ci := 10) (As := []) (rest := []) St hK hT hA hP hD hS hl.1 [0] [] rfl rfl rfl (m_hereOnes l g o a 0 hi ac tp ba en tA fl de iD iO tU fm fk fa fc ft ff fb fi (by first | assumption | omega | decide | exact Or.inl (by decide) | exact Or.inr (by decide))) (cwV 0 hts (zgL (zl4 k849 k850 k851 k837) k843) rfl rfl rfl (by decide +kernel) ⟨Nat.le_of_ble_eq_true rfl, Nat.le_of_ble_eq_true rfl⟩) rfl rfl rfl rfl (Nat.le_of_ble_eq_true rfl) dX12_count_95 ⟨(Nat.le_of_ble_eq_true rfl), (Nat.le_of_ble_eq_true rfl)⟩ (fun q_34 H locs hq35 hP hD hS => ?_)
                  have hP : va_P g.1 vwCl (List.flatten [bMo g o a 0 hi ac tp ba en tA fl de iD iO tU fm fk fa fc ft ff fb fi]) H := hP
                  have hD : va_D A (List.flatten [bMo g o a 0 hi ac tp ba en tA fl de iD iO tU fm fk fa fc ft ff fb fi]) := hD
                  refine W.widen (k := 0) (n := 0) (Nat.le_of_ble_eq_true rfl) (Nat.le_of_ble_eq_true rfl) ?_
                  refine W.eq (g2 := F0 m 98 ls [.int q_34]) rfl ?_
                  have hP : va_P g.1 vwCl (List.flatten [bMo g o a 0 hi ac tp ba en tA fl de iD iO tU fm fk fa fc ft ff fb fi]) H := hP
                  have hD : va_D A (List.flatten [bMo g o a 0 hi ac tp ba en tA fl de iD iO tU fm fk fa fc ft ff fb fi]) := hD
                  exact mret_i hx hb hr hlocks hS (Nat.le_of_ble_eq_true rfl) (Nat.le_of_ble_eq_true rfl) dX12_count_98 ((0 : Int32), q_34) rfl trivial hP hD
              · skip
                have c36 : what.toInt = 6 := zeq cb9 rfl (by decide)
                have n37 : 6 ≤ what.toInt := Int.le_trans (Int.le_refl _) (Int.le_of_eq c36.symm)
                have n38 : what.toInt ≤ 6 := Int.le_trans (Int.le_of_eq c36) (Int.le_refl _)
                refine lv_aload_n hx hb dX12_count_83 rfl (lv_at hl 0 rfl) ?_
                refine mcallV' (g := g) (q0 := 0) (ci := 10) (As := []) (rest := []) St hK hT hA hP hD hS hl.1 [0] [] rfl rfl rfl (m_believed l g o a 0 hi ac tp ba en tA fl de iD iO tU fm fk fa fc ft ff fb fi (by first | assumption | omega | decide | exact Or.inl (by decide) | exact Or.inr (by decide))) (cwV 0 hts (zgL (zl4 k854 k855 k856 k837) k847) rfl rfl rfl (by decide +kernel) ⟨Nat.le_of_ble_eq_true rfl, Nat.le_of_ble_eq_true rfl⟩) rfl rfl rfl rfl (Nat.le_of_ble_eq_true rfl) dX12_count_84 ⟨(Nat.le_of_ble_eq_true rfl), (Nat.le_of_ble_eq_true rfl)⟩ (fun q_39 H locs hq40 hP hD hS => ?_)
                have hP : va_P g.1 vwCl (List.flatten [bMo g o a 0 hi ac tp ba en tA fl de iD iO tU fm fk fa fc ft ff fb fi]) H := hP
                have hD : va_D A (List.flatten [bMo g o a 0 hi ac tp ba en tA fl de iD iO tU fm fk fa fc ft ff fb fi]) := hD
                refine W.widen (k := 0) (n := 0) (Nat.le_of_ble_eq_true rfl) (Nat.le_of_ble_eq_true rfl) ?_
                refine W.eq (g2 := F0 m 87 ls [.int q_39]) rfl ?_
                have hP : va_P g.1 vwCl (List.flatten [bMo g o a 0 hi ac tp ba en tA fl de iD iO tU fm fk fa fc ft ff fb fi]) H := hP
                have hD : va_D A (List.flatten [bMo g o a 0 hi ac tp ba en tA fl de iD iO tU fm fk fa fc ft ff fb fi]) := hD
                exact mret_i hx hb hr hlocks hS (Nat.le_of_ble_eq_true rfl) (Nat.le_of_ble_eq_true rfl) dX12_count_87 ((0 : Int32), q_39) rfl trivial hP hD
            · skip
              have c41 : what.toInt = 5 := zeq cb9 rfl (by decide)
              have n42 : 5 ≤ what.toInt := Int.le_trans (Int.le_refl _) (Int.le_of_eq c41.symm)
              have n43 : what.toInt ≤ 5 := Int.le_trans (Int.le_of_eq c41) (Int.le_refl _)
              refine lv_aload_n hx hb dX12_count_70 rfl (lv_at hl 0 rfl) ?_
              refine va_get (D := g.1) (ci := 10) (v := .ref (a 0)) (C := RX12) (T := TX12) (N := 20) hx hb hts izRX12 hown hK hP 0 rfl rfl 1 (by decide) (hts _ k815) (fun _ h9 => h9) rfl dX12_count_71 ?_
              refine lv_iconst (v := 5) hx hb dX12_count_74 (by decide) ?_
              refine va_iald hx hb hK hP 1 0 rfl rfl (zin rfl) dX12_count_75 ?_
              refine zg (fun x_44 => ?_)
              have hP : va_P g.1 vwCl (List.flatten [bMo g o a 0 hi ac tp ba en tA fl de iD iO tU fm fk fa fc ft ff fb fi]) H := hP
              have hD : va_D A (List.flatten [bMo g o a 0 hi ac tp ba en tA fl de iD iO tU fm fk fa fc ft ff fb fi]) := hD
              exact mret_i hx hb hr hlocks hS (Nat.le_of_ble_eq_true rfl) (Nat.le_of_ble_eq_true rfl) dX12_count_76 ((0 : Int32), x_44) rfl trivial hP hD
          · skip
            have c45 : what.toInt = 4 := zeq cb9 rfl (by decide)
            have n46 : 4 ≤ what.toInt := Int.le_trans (Int.le_refl _) (Int.le_of_eq c45.symm)
            have n47 : what.toInt ≤ 4 := Int.le_trans (Int.le_of_eq c45) (Int.le_refl _)
            refine lv_aload_n hx hb dX12_count_57 rfl (lv_at hl 0 rfl) ?_
            refine va_get (D := g.1) (ci := 10) (v := .ref (a 0)) (C := RX12) (T := TX12) (N := 20) hx hb hts izRX12 hown hK hP 0 rfl rfl 1 (by decide) (hts _ k815) (fun _ h9 => h9) rfl dX12_count_58 ?_
            refine lv_bipush (v := 8) hx hb dX12_count_61 (by decide) ?_
            refine va_iald hx hb hK hP 1 0 rfl rfl (zin rfl) dX12_count_63 ?_
            refine zg (fun x_48 => ?_)
            have hP : va_P g.1 vwCl (List.flatten [bMo g o a 0 hi ac tp ba en tA fl de iD iO tU fm fk fa fc ft ff fb fi]) H := hP
            have hD : va_D A (List.flatten [bMo g o a 0 hi ac tp ba en tA fl de iD iO tU fm fk fa fc ft ff fb fi]) := hD
            exact mret_i hx hb hr hlocks hS (Nat.le_of_ble_eq_true rfl) (Nat.le_of_ble_eq_true rfl) dX12_count_64 ((0 : Int32), x_48) rfl trivial hP hD
        · skip
          have c49 : what.toInt = 3 := zeq cb9 rfl (by decide)
          have n50 : 3 ≤ what.toInt := Int.le_trans (Int.le_refl _) (Int.le_of_eq c49.symm)
          have n51 : what.toInt ≤ 3 := Int.le_trans (Int.le_of_eq c49) (Int.le_refl _)
          refine lv_aload_n hx hb dX12_count_45 rfl (lv_at hl 0 rfl) ?_
          refine va_get (D := g.1) (ci := 10) (v := .ref (a 0)) (C := RX12) (T := TX12) (N := 20) hx hb hts izRX12 hown hK hP 0 rfl rfl 1 (by decide) (hts _ k815) (fun _ h9 => h9) rfl dX12_count_46 ?_
          refine lv_iconst (v := 1) hx hb dX12_count_49 (by decide) ?_
          refine va_iald hx hb hK hP 1 0 rfl rfl (zin rfl) dX12_count_50 ?_
          refine zg (fun x_52 => ?_)
          have hP : va_P g.1 vwCl (List.flatten [bMo g o a 0 hi ac tp ba en tA fl de iD iO tU fm fk fa fc ft ff fb fi]) H := hP
          have hD : va_D A (List.flatten [bMo g o a 0 hi ac tp ba en tA fl de iD iO tU fm fk fa fc ft ff fb fi]) := hD
          exact mret_i hx hb hr hlocks hS (Nat.le_of_ble_eq_true rfl) (Nat.le_of_ble_eq_true rfl) dX12_count_51 ((0 : Int32), x_52) rfl trivial hP hD
      · skip
        have c53 : what.toInt = 2 := zeq cb9 rfl (by decide)
        have n54 : 2 ≤ what.toInt := Int.le_trans (Int.le_refl _) (Int.le_of_eq c53.symm)
        have n55 : what.toInt ≤ 2 := Int.le_trans (Int.le_of_eq c53) (Int.le_refl _)
        refine lv_aload_n hx hb dX12_count_33 rfl (lv_at hl 0 rfl) ?_
        refine va_get (D := g.1) (ci := 10) (v := .ref (a 0)) (C := RX12) (T := TX12) (N := 20) hx hb hts izRX12 hown hK hP 0 rfl rfl 1 (by decide) (hts _ k815) (fun _ h9 => h9) rfl dX12_count_34 ?_
        refine lv_iconst (v := 0) hx hb dX12_count_37 (by decide) ?_
        refine va_iald hx hb hK hP 1 0 rfl rfl (zin rfl) dX12_count_38 ?_
        refine zg (fun x_56 => ?_)
        have hP : va_P g.1 vwCl (List.flatten [bMo g o a 0 hi ac tp ba en tA fl de iD iO tU fm fk fa fc ft ff fb fi]) H := hP
        have hD : va_D A (List.flatten [bMo g o a 0 hi ac tp ba en tA fl de iD iO tU fm fk fa fc ft ff fb fi]) := hD
        exact mret_i hx hb hr hlocks hS (Nat.le_of_ble_eq_true rfl) (Nat.le_of_ble_eq_true rfl) dX12_count_39 ((0 : Int32), x_56) rfl trivial hP hD
    · skip
      have c57 : what.toInt = 1 := zeq cb9 rfl (by decide)
      have n58 : 1 ≤ what.toInt := Int.le_trans (Int.le_refl _) (Int.le_of_eq c57.symm)
      have n59 : what.toInt ≤ 1 := Int.le_trans (Int.le_of_eq c57) (Int.le_refl _)
      refine lv_aload_n hx hb dX12_count_21 rfl (lv_at hl 0 rfl) ?_
      refine va_get (D := g.1) (ci := 10) (v := .ref (a 0)) (C := RX12) (T := TX12) (N := 20) hx hb hts izRX12 hown hK hP 0 rfl rfl 1 (by decide) (hts _ k815) (fun _ h9 => h9) rfl dX12_count_22 ?_
      refine lv_iconst (v := 4) hx hb dX12_count_25 (by decide) ?_
      refine va_iald hx hb hK hP 1 0 rfl rfl (zin rfl) dX12_count_26 ?_
      refine zgq (r := fm 4) rfl (rM4 rfm) (fun x_60 hx_60 => ?_)
      have hP : va_P g.1 vwCl (List.flatten [bMo g o a 0 hi ac tp ba en tA fl de iD iO tU fm fk fa fc ft ff fb fi]) H := hP
      have hD : va_D A (List.flatten [bMo g o a 0 hi ac tp ba en tA fl de iD iO tU fm fk fa fc ft ff fb fi]) := hD
      exact mret_i hx hb hr hlocks hS (Nat.le_of_ble_eq_true rfl) (Nat.le_of_ble_eq_true rfl) dX12_count_27 ((0 : Int32), x_60) rfl trivial hP hD
  · skip
    have c61 : what.toInt = 0 := zeq cb9 rfl (by decide)
    have n62 : 0 ≤ what.toInt := Int.le_trans (Int.le_refl _) (Int.le_of_eq c61.symm)
    have n63 : what.toInt ≤ 0 := Int.le_trans (Int.le_of_eq c61) (Int.le_refl _)
    refine lv_aload_n hx hb dX12_count_9 rfl (lv_at hl 0 rfl) ?_
    refine va_get (D := g.1) (ci := 10) (v := .ref (a 0)) (C := RX12) (T := TX12) (N := 20) hx hb hts izRX12 hown hK hP 0 rfl rfl 1 (by decide) (hts _ k815) (fun _ h9 => h9) rfl dX12_count_10 ?_
    refine lv_iconst (v := 3) hx hb dX12_count_13 (by decide) ?_
    refine va_iald hx hb hK hP 1 0 rfl rfl (zin rfl) dX12_count_14 ?_
    refine zgq (r := fm 3) rfl (rM3 rfm) (fun x_64 hx_64 => ?_)
    have hP : va_P g.1 vwCl (List.flatten [bMo g o a 0 hi ac tp ba en tA fl de iD iO tU fm fk fa fc ft ff fb fi]) H := hP
    have hD : va_D A (List.flatten [bMo g o a 0 hi ac tp ba en tA fl de iD iO tU fm fk fa fc ft ff fb fi]) := hD
    exact mret_i hx hb hr hlocks hS (Nat.le_of_ble_eq_true rfl) (Nat.le_of_ble_eq_true rfl) dX12_count_15 ((0 : Int32), x_64) rfl trivial hP hD
