set_option maxRecDepth 100000 in
set_option maxHeartbeats 4000000 in
theorem m_chosen (l : Launch) (g : zG) (o : Nat) (a : Nat → Nat) (th : Int32) (hi : Int32) (ac : Int32) (tp : Int32) (ba : Int32) (en : Int32) (tA : Int32) (fl : Int32) (de : Int32) (iD : Int32) (iO : Int32) (tU : Int32) (fm : Nat → Int32) (fk : Nat → Int32) (fa : Nat → Int32) (fc : Nat → Int32) (ft : Nat → Int32) (ff : Nat → Int32) (fb : Nat → Int32) (fi : Nat → Int32) (much : Int32) (rfm : rM fm) : zM' g l yX12_chosen (Cond.code yX12_chosen cX12_chosen 5 (some .int) :: zB) ({ frames := 3, cells := 0, slots := 0, locals := 65 } : Room) [.ref o, .int much] [bMo g o a th hi ac tp ba en tA fl de iD iO tU fm fk fa fc ft ff fb fi] (fun u : Int32 × Int32 => (fun (th2 : Int32) (q : Int32) => some (.int q)) (u.1) (u.2)) (fun u : Int32 × Int32 => (fun (th2 : Int32) (q : Int32) => True) (u.1) (u.2)) (fun u : Int32 × Int32 => (fun (th2 : Int32) (q : Int32) => [bMo g o a th2 hi ac tp ba en tA fl de iD iO tU fm fk fa fc ft ff fb fi]) (u.1) (u.2)) := by
  refine zM'.of (cc := cX12_chosen) (maxL := 5) (rt := (some .int)) (by decide) rfl (Nat.le_of_ble_eq_true rfl) ?_
  intro p e s m args below meth c A ls St hr hlocks hin hK hT hA hP hD hS hl
  obtain ⟨hx, hb, hml, hown, hts⟩ := id St
  have hl : lv_has ls 5 [(0, .ref o), (1, .int much)] := hl
  refine lv_aload_n hx hb dX12_chosen_0 rfl (lv_at hl 0 rfl) ?_
  refine lv_iconst (v := 0) hx hb dX12_chosen_1 (by decide) ?_
  refine va_put (D := g.1) (ci := 10) (v := .int 0) (ty := .int) (C := RX12) (T := TX12) (N := 20) hx hb hts izRX12 tyX12 tyX12_ok nmX12 hown hK hP hD hS 0 rfl rfl 0 (by decide) (hts _ k871) (fun _ h9 => h9) rfl (by decide +kernel) rfl rfl (Nat.le_of_ble_eq_true rfl) dX12_chosen_2 (fun H locs hP hD hS => ?_)
  have hP : va_P g.1 vwCl (List.flatten [bMo g o a 0 hi ac tp ba en tA fl de iD iO tU fm fk fa fc ft ff fb fi]) H := hP
  have hD : va_D A (List.flatten [bMo g o a 0 hi ac tp ba en tA fl de iD iO tU fm fk fa fc ft ff fb fi]) := hD
  refine lv_iconst (v := 0) hx hb dX12_chosen_5 (by decide) ?_
  refine lv_istore_n (lv' := [(2, .int 0), (0, .ref o), (1, .int much)]) hx hb dX12_chosen_6 rfl hl (by decide) rfl (fun ls hl => ?_)
  refine lv_iconst (v := 0) hx hb dX12_chosen_7 (by decide) ?_
  refine lv_istore_n (lv' := [(3, .int 0), (2, .int 0), (0, .ref o), (1, .int much)]) hx hb dX12_chosen_8 rfl hl (by decide) rfl (fun ls hl => ?_)
  have hl := lv_sub (l' := [(0, .ref o), (1, .int much), (2, .int 0), (3, .int 0)]) hl [2, 3, 1, 0] rfl
  have LP9_4 : ∀ (kf : Nat) (x_1 : Int32) (x_2 : Int32), (0 ≤ x_2.toInt ∧ x_2.toInt ≤ 6) → ∀ (H : Heap) (locs : List Loc) (ls : Array Slot), ((7 - x_2.toInt).toNat) < kf → va_P g.1 vwCl (List.flatten [bMo g o a 0 hi ac tp ba en tA fl de iD iO tU fm fk fa fc ft ff fb fi]) H → va_D A (List.flatten [bMo g o a 0 hi ac tp ba en tA fl de iD iO tU fm fk fa fc ft ff fb fi]) → va_S A s.heap H locs → lv_has ls 5 [(0, .ref o), (1, .int much), (2, .int x_1), (3, .int x_2)] → W p l e ({ frames := 3, cells := 0, slots := 0, locals := 65 } : Room) s m args below meth c H locs (0) (0) (zF g (fun u : Int32 × Int32 => (fun (th2 : Int32) (q : Int32) => some (.int q)) (u.1) (u.2)) (fun u : Int32 × Int32 => (fun (th2 : Int32) (q : Int32) => True) (u.1) (u.2)) (fun u : Int32 × Int32 => (fun (th2 : Int32) (q : Int32) => [bMo g o a th2 hi ac tp ba en tA fl de iD iO tU fm fk fa fc ft ff fb fi]) (u.1) (u.2)) ({ frames := 3, cells := 0, slots := 0, locals := 65 } : Room) below args s A) (F0 m 9 ls []) := by
    intro kf
    induction kf with
    | zero => intro x_1 x_2 i3 H locs ls hk; exact absurd hk (Nat.not_lt_zero _)
    | succ kf ih9_5 =>
      intro x_1 x_2 i3 H locs ls hk9_5 hP hD hS hl
      refine lv_iload_n hx hb dX12_chosen_9 rfl (lv_at hl 3 rfl) ?_
      refine lv_aload_n hx hb dX12_chosen_10 rfl (lv_at hl 0 rfl) ?_
      refine va_get (D := g.1) (ci := 10) (v := .ref (a 0)) (C := RX12) (T := TX12) (N := 20) hx hb hts izRX12 hown hK hP 0 rfl rfl 1 (by decide) (hts _ k815) (fun _ h9 => h9) rfl dX12_chosen_11 ?_
      refine lv_iconst (v := 4) hx hb dX12_chosen_14 (by decide) ?_
      refine va_iald hx hb hK hP 1 0 rfl rfl (zin rfl) dX12_chosen_15 ?_
      refine zgq (r := fm 4) rfl (rM4 rfm) (fun x_6 hx_6 => ?_)
      refine lv_icmp_ge (tgt := 57) hx hb dX12_chosen_16 (by decide) (fun cb9 => ?_) (fun cb9 => ?_)
      · skip
        have c7 : x_6.toInt ≤ x_2.toInt := zle cb9 rfl rfl
        refine lv_iconst (v := 0) hx hb dX12_chosen_57 (by decide) ?_
        refine lv_istore_n (lv' := [(3, .int 0), (0, .ref o), (1, .int much), (2, .int x_1)]) hx hb dX12_chosen_58 rfl hl (by decide) rfl (fun ls hl => ?_)
        refine lv_iconst (v := 0) hx hb dX12_chosen_59 (by decide) ?_
        refine lv_istore (lv' := [(4, .int 0), (3, .int 0), (0, .ref o), (1, .int much), (2, .int x_1)]) hx hb dX12_chosen_60 hl (by decide) rfl (fun ls hl => ?_)
        have hl := lv_sub (l' := [(0, .ref o), (1, .int much), (2, .int x_1), (3, .int 0), (4, .int 0)]) hl [2, 3, 4, 1, 0] rfl
        have LP62_12 : ∀ (kf : Nat) (x_8 : Int32) (x_9 : Int32), (0 ≤ x_8.toInt ∧ x_8.toInt ≤ 63) → (0 ≤ x_9.toInt ∧ x_9.toInt ≤ 64) → ∀ (H : Heap) (locs : List Loc) (ls : Array Slot), ((65 - x_9.toInt).toNat) < kf → va_P g.1 vwCl (List.flatten [bMo g o a 0 hi ac tp ba en tA fl de iD iO tU fm fk fa fc ft ff fb fi]) H → va_D A (List.flatten [bMo g o a 0 hi ac tp ba en tA fl de iD iO tU fm fk fa fc ft ff fb fi]) → va_S A s.heap H locs → lv_has ls 5 [(0, .ref o), (1, .int much), (2, .int x_1), (3, .int x_8), (4, .int x_9)] → W p l e ({ frames := 3, cells := 0, slots := 0, locals := 65 } : Room) s m args below meth c H locs (0) (0) (zF g (fun u : Int32 × Int32 => (fun (th2 : Int32) (q : Int32) => some (.int q)) (u.1) (u.2)) (fun u : Int32 × Int32 => (fun (th2 : Int32) (q : Int32) => True) (u.1) (u.2)) (fun u : Int32 × Int32 => (fun (th2 : Int32) (q : Int32) => [bMo g o a th2 hi ac tp ba en tA fl de iD iO tU fm fk fa fc ft ff fb fi]) (u.1) (u.2)) ({ frames := 3, cells := 0, slots := 0, locals := 65 } : Room) below args s A) (F0 m 62 ls []) := by
          intro kf
          induction kf with
          | zero => intro x_8 x_9 i10 i11 H locs ls hk; exact absurd hk (Nat.not_lt_zero _)
          | succ kf ih62_13 =>
            intro x_8 x_9 i10 i11 H locs ls hk62_13 hP hD hS hl
            refine lv_iload hx hb dX12_chosen_62 (lv_at hl 4 rfl) ?_
            refine lv_iconst (v := 1) hx hb dX12_chosen_64 (by decide) ?_
            refine lv_aload_n hx hb dX12_chosen_65 rfl (lv_at hl 0 rfl) ?_
            refine va_get (D := g.1) (ci := 10) (v := .ref (a 0)) (C := RX12) (T := TX12) (N := 20) hx hb hts izRX12 hown hK hP 0 rfl rfl 1 (by decide) (hts _ k815) (fun _ h9 => h9) rfl dX12_chosen_66 ?_
            refine lv_iconst (v := 4) hx hb dX12_chosen_69 (by decide) ?_
            refine va_iald hx hb hK hP 1 0 rfl rfl (zin rfl) dX12_chosen_70 ?_
            refine zgq (r := fm 4) rfl (rM4 rfm) (fun x_14 hx_14 => ?_)
            refine lv_ishl hx hb dX12_chosen_71 ?_
            refine zgb (zshl1 (j := x_14.toInt) rfl 6 64 (by decide) (by decide) ⟨hx_14.1, hx_14.2.1⟩) (fun x_15 hx_15 => ?_)
            refine lv_icmp_ge (tgt := 125) hx hb dX12_chosen_72 (by decide) (fun cb9 => ?_) (fun cb9 => ?_)
            · skip
              have c16 : x_15.toInt ≤ x_9.toInt := zle cb9 rfl rfl
              have n17 : 1 ≤ x_9.toInt := Int.le_trans hx_15.1 c16
              refine lv_iload_n hx hb dX12_chosen_125 rfl (lv_at hl 1 rfl) ?_
              refine lv_if_eq (tgt := 138) hx hb dX12_chosen_126 (by decide) (fun cb9 => ?_) (fun cb9 => ?_)
              · skip
                have c18 : much.toInt = 0 := zeq cb9 rfl (by decide)
                have n19 : 0 ≤ much.toInt := Int.le_trans (Int.le_refl _) (Int.le_of_eq c18.symm)
                have n20 : much.toInt ≤ 0 := Int.le_trans (Int.le_of_eq c18) (Int.le_refl _)
                refine lv_iload_n hx hb dX12_chosen_138 rfl (lv_at hl 3 rfl) ?_
                have hP : va_P g.1 vwCl (List.flatten [bMo g o a 0 hi ac tp ba en tA fl de iD iO tU fm fk fa fc ft ff fb fi]) H := hP
                have hD : va_D A (List.flatten [bMo g o a 0 hi ac tp ba en tA fl de iD iO tU fm fk fa fc ft ff fb fi]) := hD
                exact mret_i hx hb hr hlocks hS (Nat.le_of_ble_eq_true rfl) (Nat.le_of_ble_eq_true rfl) dX12_chosen_139 ((0 : Int32), x_8) rfl trivial hP hD
              · skip
                have c21 : ¬ much.toInt = 0 := zne cb9 rfl (by decide)
                refine lv_aload_n hx hb dX12_chosen_129 rfl (lv_at hl 0 rfl) ?_
                refine lv_iload_n hx hb dX12_chosen_130 rfl (lv_at hl 3 rfl) ?_
                refine lv_iconst (v := 2) hx hb dX12_chosen_131 (by decide) ?_
                have hL2 : (2 : Int32).toInt = 2 := by decide
                refine mcallV' (g := g) (q0 := 0) (ci := 10) (As := [.int x_8, .int 2]) (rest := []) St hK hT hA hP hD hS hl.1 [0] [] rfl rfl rfl (m_sumOf l g o a 0 hi ac tp ba en tA fl de iD iO tU fm fk fa fc ft ff fb fi x_8 2 (by first | assumption | omega | decide | exact Or.inl (by decide) | exact Or.inr (by decide)) (by decide)) (cwV 2 hts (zgL (zl4 k1082 k1083 k1084 k837) k1081) rfl rfl rfl (by decide +kernel) ⟨Nat.le_of_ble_eq_true rfl, Nat.le_of_ble_eq_true rfl⟩) rfl rfl rfl rfl (Nat.le_of_ble_eq_true rfl) dX12_chosen_132 ⟨(Nat.le_of_ble_eq_true rfl), (Nat.le_of_ble_eq_true rfl)⟩ (fun q_22 H locs hq23 hP hD hS => ?_)
                have hP : va_P g.1 vwCl (List.flatten [bMo g o a 0 hi ac tp ba en tA fl de iD iO tU fm fk fa fc ft ff fb fi]) H := hP
                have hD : va_D A (List.flatten [bMo g o a 0 hi ac tp ba en tA fl de iD iO tU fm fk fa fc ft ff fb fi]) := hD
                refine W.widen (k := 0) (n := 0) (Nat.le_of_ble_eq_true rfl) (Nat.le_of_ble_eq_true rfl) ?_
                refine W.eq (g2 := F0 m 135 ls [.int q_22]) rfl ?_
                refine lv_goto (tgt := 139) hx hb dX12_chosen_135 (by decide) ?_
                have hP : va_P g.1 vwCl (List.flatten [bMo g o a 0 hi ac tp ba en tA fl de iD iO tU fm fk fa fc ft ff fb fi]) H := hP
                have hD : va_D A (List.flatten [bMo g o a 0 hi ac tp ba en tA fl de iD iO tU fm fk fa fc ft ff fb fi]) := hD
                exact mret_i hx hb hr hlocks hS (Nat.le_of_ble_eq_true rfl) (Nat.le_of_ble_eq_true rfl) dX12_chosen_139 ((0 : Int32), q_22) rfl trivial hP hD
            · skip
              have c24 : x_9.toInt < x_15.toInt := zlti (Int32.not_le.mp cb9) rfl rfl
              have n25 : x_9.toInt ≤ 63 := zL1 (b := 64) c24 hx_15.2 (by decide)
              refine lv_iload hx hb dX12_chosen_75 (lv_at hl 4 rfl) ?_
              refine lv_iload_n hx hb dX12_chosen_77 rfl (lv_at hl 2 rfl) ?_
              refine lv_iconst (v := (-1)) hx hb dX12_chosen_78 (by decide) ?_
              refine lv_ixor hx hb dX12_chosen_79 ?_
              refine zg (fun x_26 => ?_)
              refine lv_iand hx hb dX12_chosen_80 ?_
              refine zg (fun x_27 => ?_)
              refine lv_if_ne (tgt := 119) hx hb dX12_chosen_81 (by decide) (fun cb9 => ?_) (fun cb9 => ?_)
              · skip
                have c28 : ¬ x_27.toInt = 0 := zne cb9 rfl (by decide)
                refine ziinc3 (n' := 1) (a' := 1) (b' := 64) (lv' := fun v9 => [(4, .int v9), (0, .ref o), (1, .int much), (2, .int x_1), (3, .int x_8)]) hx hb dX12_chosen_119 hl (k := 4) rfl (by decide) (fun _ => rfl) (zaddK (i := x_9.toInt) (j := 1) rfl (by decide) i11.1 n25 (Int.le_refl _) (Int.le_refl _) (by decide)) (fun x_29 ls hx_29 hl => ?_)
                refine lv_goto (tgt := 62) hx hb dX12_chosen_122 (by decide) ?_
                have hl := lv_sub (l' := [(0, .ref o), (1, .int much), (2, .int x_1), (3, .int x_8), (4, .int x_29)]) hl [1, 2, 3, 4, 0] rfl
                have hP : va_P g.1 vwCl (List.flatten [bMo g o a 0 hi ac tp ba en tA fl de iD iO tU fm fk fa fc ft ff fb fi]) H := hP
                have hD : va_D A (List.flatten [bMo g o a 0 hi ac tp ba en tA fl de iD iO tU fm fk fa fc ft ff fb fi]) := hD
                exact ih62_13 x_8 x_29 ⟨i10.1, i10.2⟩ ⟨(Int.le_trans (by decide) hx_29.2.1), hx_29.2.2⟩ H _ ls (zmK hx_29.1 (by decide) n25 (by decide) hk62_13)  hP hD hS (lv_sub hl [0, 1, 2, 3, 4] rfl)
              · skip
                have c30 : x_27.toInt = 0 := zeq cb9 rfl (by decide)
                have n31 : 0 ≤ x_27.toInt := Int.le_trans (Int.le_refl _) (Int.le_of_eq c30.symm)
                have n32 : x_27.toInt ≤ 0 := Int.le_trans (Int.le_of_eq c30) (Int.le_refl _)
                refine lv_aload_n hx hb dX12_chosen_84 rfl (lv_at hl 0 rfl) ?_
                refine lv_iload hx hb dX12_chosen_85 (lv_at hl 4 rfl) ?_
                refine lv_iconst (v := 0) hx hb dX12_chosen_87 (by decide) ?_
                have hL0 : (0 : Int32).toInt = 0 := by decide
                refine mcallV' (g := g) (q0 := 0) (ci := 10) (As := [.int x_9, .int 0]) (rest := []) St hK hT hA hP hD hS hl.1 [0] [] rfl rfl rfl (m_sumOf l g o a 0 hi ac tp ba en tA fl de iD iO tU fm fk fa fc ft ff fb fi x_9 0 (by first | assumption | omega | decide | exact Or.inl (by decide) | exact Or.inr (by decide)) (by decide)) (cwV 2 hts (zgL (zl4 k1082 k1083 k1084 k837) k1081) rfl rfl rfl (by decide +kernel) ⟨Nat.le_of_ble_eq_true rfl, Nat.le_of_ble_eq_true rfl⟩) rfl rfl rfl rfl (Nat.le_of_ble_eq_true rfl) dX12_chosen_88 ⟨(Nat.le_of_ble_eq_true rfl), (Nat.le_of_ble_eq_true rfl)⟩ (fun q_33 H locs hq34 hP hD hS => ?_)
                have hP : va_P g.1 vwCl (List.flatten [bMo g o a 0 hi ac tp ba en tA fl de iD iO tU fm fk fa fc ft ff fb fi]) H := hP
                have hD : va_D A (List.flatten [bMo g o a 0 hi ac tp ba en tA fl de iD iO tU fm fk fa fc ft ff fb fi]) := hD
                refine W.widen (k := 0) (n := 0) (Nat.le_of_ble_eq_true rfl) (Nat.le_of_ble_eq_true rfl) ?_
                refine W.eq (g2 := F0 m 91 ls [.int q_33]) rfl ?_
                refine lv_aload_n hx hb dX12_chosen_91 rfl (lv_at hl 0 rfl) ?_
                refine va_get (D := g.1) (ci := 10) (v := .ref (a 0)) (C := RX12) (T := TX12) (N := 20) hx hb hts izRX12 hown hK hP 0 rfl rfl 1 (by decide) (hts _ k815) (fun _ h9 => h9) rfl dX12_chosen_92 ?_
                refine lv_iconst (v := 5) hx hb dX12_chosen_95 (by decide) ?_
                refine va_iald hx hb hK hP 1 0 rfl rfl (zin rfl) dX12_chosen_96 ?_
                refine zg (fun x_35 => ?_)
                refine lv_icmp_gt (tgt := 119) hx hb dX12_chosen_97 (by decide) (fun cb9 => ?_) (fun cb9 => ?_)
                · skip
                  have c36 : x_35.toInt < q_33.toInt := zlti cb9 rfl rfl
                  refine ziinc3 (n' := 1) (a' := 1) (b' := 64) (lv' := fun v9 => [(4, .int v9), (0, .ref o), (1, .int much), (2, .int x_1), (3, .int x_8)]) hx hb dX12_chosen_119 hl (k := 4) rfl (by decide) (fun _ => rfl) (zaddK (i := x_9.toInt) (j := 1) rfl (by decide) i11.1 n25 (Int.le_refl _) (Int.le_refl _) (by decide)) (fun x_37 ls hx_37 hl => ?_)
                  refine lv_goto (tgt := 62) hx hb dX12_chosen_122 (by decide) ?_
                  have hl := lv_sub (l' := [(0, .ref o), (1, .int much), (2, .int x_1), (3, .int x_8), (4, .int x_37)]) hl [1, 2, 3, 4, 0] rfl
                  have hP : va_P g.1 vwCl (List.flatten [bMo g o a 0 hi ac tp ba en tA fl de iD iO tU fm fk fa fc ft ff fb fi]) H := hP
                  have hD : va_D A (List.flatten [bMo g o a 0 hi ac tp ba en tA fl de iD iO tU fm fk fa fc ft ff fb fi]) := hD
                  exact ih62_13 x_8 x_37 ⟨i10.1, i10.2⟩ ⟨(Int.le_trans (by decide) hx_37.2.1), hx_37.2.2⟩ H _ ls (zmK hx_37.1 (by decide) n25 (by decide) hk62_13)  hP hD hS (lv_sub hl [0, 1, 2, 3, 4] rfl)
                · skip
                  have c38 : q_33.toInt ≤ x_35.toInt := zle (Int32.not_lt.mp cb9) rfl rfl
                  refine lv_aload_n hx hb dX12_chosen_100 rfl (lv_at hl 0 rfl) ?_
                  refine lv_iload hx hb dX12_chosen_101 (lv_at hl 4 rfl) ?_
                  refine lv_iconst (v := 2) hx hb dX12_chosen_103 (by decide) ?_
                  have hL2 : (2 : Int32).toInt = 2 := by decide
                  refine mcallV' (g := g) (q0 := 0) (ci := 10) (As := [.int x_9, .int 2]) (rest := []) St hK hT hA hP hD hS hl.1 [0] [] rfl rfl rfl (m_sumOf l g o a 0 hi ac tp ba en tA fl de iD iO tU fm fk fa fc ft ff fb fi x_9 2 (by first | assumption | omega | decide | exact Or.inl (by decide) | exact Or.inr (by decide)) (by decide)) (cwV 2 hts (zgL (zl4 k1082 k1083 k1084 k837) k1081) rfl rfl rfl (by decide +kernel) ⟨Nat.le_of_ble_eq_true rfl, Nat.le_of_ble_eq_true rfl⟩) rfl rfl rfl rfl (Nat.le_of_ble_eq_true rfl) dX12_chosen_104 ⟨(Nat.le_of_ble_eq_true rfl), (Nat.le_of_ble_eq_true rfl)⟩ (fun q_39 H locs hq40 hP hD hS => ?_)
                  have hP : va_P g.1 vwCl (List.flatten [bMo g o a 0 hi ac tp ba en tA fl de iD iO tU fm fk fa fc ft ff fb fi]) H := hP
                  have hD : va_D A (List.flatten [bMo g o a 0 hi ac tp ba en tA fl de iD iO tU fm fk fa fc ft ff fb fi]) := hD
                  refine W.widen (k := 0) (n := 0) (Nat.le_of_ble_eq_true rfl) (Nat.le_of_ble_eq_true rfl) ?_
                  refine W.eq (g2 := F0 m 107 ls [.int q_39]) rfl ?_
                  refine lv_aload_n hx hb dX12_chosen_107 rfl (lv_at hl 0 rfl) ?_
                  refine lv_iload_n hx hb dX12_chosen_108 rfl (lv_at hl 3 rfl) ?_
                  refine lv_iconst (v := 2) hx hb dX12_chosen_109 (by decide) ?_
                  refine mcallV' (g := g) (q0 := 0) (ci := 10) (As := [.int x_8, .int 2]) (rest := [.int q_39]) St hK hT hA hP hD hS hl.1 [0] [] rfl rfl rfl (m_sumOf l g o a 0 hi ac tp ba en tA fl de iD iO tU fm fk fa fc ft ff fb fi x_8 2 (by first | assumption | omega | decide | exact Or.inl (by decide) | exact Or.inr (by decide)) (by decide)) (cwV 2 hts (zgL (zl4 k1082 k1083 k1084 k837) k1081) rfl rfl rfl (by decide +kernel) ⟨Nat.le_of_ble_eq_true rfl, Nat.le_of_ble_eq_true rfl⟩) rfl rfl rfl rfl (Nat.le_of_ble_eq_true rfl) dX12_chosen_110 ⟨(Nat.le_of_ble_eq_true rfl), (Nat.le_of_ble_eq_true rfl)⟩ (fun q_41 H locs hq42 hP hD hS => ?_)
                  have hP : va_P g.1 vwCl (List.flatten [bMo g o a 0 hi ac tp ba en tA fl de iD iO tU fm fk fa fc ft ff fb fi]) H := hP
                  have hD : va_D A (List.flatten [bMo g o a 0 hi ac tp ba en tA fl de iD iO tU fm fk fa fc ft ff fb fi]) := hD
                  refine W.widen (k := 0) (n := 0) (Nat.le_of_ble_eq_true rfl) (Nat.le_of_ble_eq_true rfl) ?_
                  refine W.eq (g2 := F0 m 113 ls [.int q_41, .int q_39]) rfl ?_
                  refine lv_icmp_le (tgt := 119) hx hb dX12_chosen_113 (by decide) (fun cb9 => ?_) (fun cb9 => ?_)
                  · skip
                    have c43 : q_39.toInt ≤ q_41.toInt := zle cb9 rfl rfl
                    refine ziinc3 (n' := 1) (a' := 1) (b' := 64) (lv' := fun v9 => [(4, .int v9), (0, .ref o), (1, .int much), (2, .int x_1), (3, .int x_8)]) hx hb dX12_chosen_119 hl (k := 4) rfl (by decide) (fun _ => rfl) (zaddK (i := x_9.toInt) (j := 1) rfl (by decide) i11.1 n25 (Int.le_refl _) (Int.le_refl _) (by decide)) (fun x_44 ls hx_44 hl => ?_)
                    refine lv_goto (tgt := 62) hx hb dX12_chosen_122 (by decide) ?_
                    have hl := lv_sub (l' := [(0, .ref o), (1, .int much), (2, .int x_1), (3, .int x_8), (4, .int x_44)]) hl [1, 2, 3, 4, 0] rfl
                    have hP : va_P g.1 vwCl (List.flatten [bMo g o a 0 hi ac tp ba en tA fl de iD iO tU fm fk fa fc ft ff fb fi]) H := hP
                    have hD : va_D A (List.flatten [bMo g o a 0 hi ac tp ba en tA fl de iD iO tU fm fk fa fc ft ff fb fi]) := hD
                    exact ih62_13 x_8 x_44 ⟨i10.1, i10.2⟩ ⟨(Int.le_trans (by decide) hx_44.2.1), hx_44.2.2⟩ H _ ls (zmK hx_44.1 (by decide) n25 (by decide) hk62_13)  hP hD hS (lv_sub hl [0, 1, 2, 3, 4] rfl)
                  · skip
                    have c45 : q_41.toInt < q_39.toInt := zlti (Int32.not_le.mp cb9) rfl rfl
                    refine lv_iload hx hb dX12_chosen_116 (lv_at hl 4 rfl) ?_
                    refine lv_istore_n (lv' := [(3, .int x_9), (0, .ref o), (1, .int much), (2, .int x_1), (4, .int x_9)]) hx hb dX12_chosen_118 rfl hl (by decide) rfl (fun ls hl => ?_)
                    refine ziinc3 (n' := 1) (a' := 1) (b' := 64) (lv' := fun v9 => [(4, .int v9), (3, .int x_9), (0, .ref o), (1, .int much), (2, .int x_1)]) hx hb dX12_chosen_119 hl (k := 4) rfl (by decide) (fun _ => rfl) (zaddK (i := x_9.toInt) (j := 1) rfl (by decide) i11.1 n25 (Int.le_refl _) (Int.le_refl _) (by decide)) (fun x_46 ls hx_46 hl => ?_)
                    refine lv_goto (tgt := 62) hx hb dX12_chosen_122 (by decide) ?_
                    have hl := lv_sub (l' := [(0, .ref o), (1, .int much), (2, .int x_1), (3, .int x_9), (4, .int x_46)]) hl [2, 3, 4, 1, 0] rfl
                    have hP : va_P g.1 vwCl (List.flatten [bMo g o a 0 hi ac tp ba en tA fl de iD iO tU fm fk fa fc ft ff fb fi]) H := hP
                    have hD : va_D A (List.flatten [bMo g o a 0 hi ac tp ba en tA fl de iD iO tU fm fk fa fc ft ff fb fi]) := hD
                    exact ih62_13 x_9 x_46 ⟨i11.1, n25⟩ ⟨(Int.le_trans (by decide) hx_46.2.1), hx_46.2.2⟩ H _ ls (zmK hx_46.1 (by decide) n25 (by decide) hk62_13)  hP hD hS (lv_sub hl [0, 1, 2, 3, 4] rfl)
        have hP : va_P g.1 vwCl (List.flatten [bMo g o a 0 hi ac tp ba en tA fl de iD iO tU fm fk fa fc ft ff fb fi]) H := hP
        have hD : va_D A (List.flatten [bMo g o a 0 hi ac tp ba en tA fl de iD iO tU fm fk fa fc ft ff fb fi]) := hD
        exact LP62_12 _ 0 0 (by decide) (by decide) H _ ls (Nat.lt_succ_self _)  hP hD hS (lv_sub hl [0, 1, 2, 3, 4] rfl)
      · skip
        have c47 : x_2.toInt < x_6.toInt := zlti (Int32.not_le.mp cb9) rfl rfl
        have n48 : x_2.toInt ≤ 5 := zL1 (b := 6) c47 hx_6.2.1 (by decide)
        have n49 : 1 ≤ x_6.toInt := zL2 (a := 0) c47 i3.1 (by decide)
        refine lv_iload_n hx hb dX12_chosen_19 rfl (lv_at hl 2 rfl) ?_
        refine lv_aload_n hx hb dX12_chosen_20 rfl (lv_at hl 0 rfl) ?_
        refine lv_iload_n hx hb dX12_chosen_21 rfl (lv_at hl 3 rfl) ?_
        refine lv_iconst (v := 3) hx hb dX12_chosen_22 (by decide) ?_
        have hL3 : (3 : Int32).toInt = 3 := by decide
        refine mcallV' (g := g) (q0 := 0) (ci := 10) (As := [.int x_2, .int 3]) (rest := [.int x_1]) St hK hT hA hP hD hS hl.1 [0] [] rfl rfl rfl (m_ofWork l g o a 0 hi ac tp ba en tA fl de iD iO tU fm fk fa fc ft ff fb fi x_2 3 (⟨i3.1, n48⟩) (by decide)) (cwV 2 hts (zgL (zl4 k862 k863 k864 k837) k831) rfl rfl rfl (by decide +kernel) ⟨Nat.le_of_ble_eq_true rfl, Nat.le_of_ble_eq_true rfl⟩) rfl rfl rfl rfl (Nat.le_of_ble_eq_true rfl) dX12_chosen_23 ⟨(Nat.le_of_ble_eq_true rfl), (Nat.le_of_ble_eq_true rfl)⟩ (fun q_50 H locs hq51 hP hD hS => ?_)
        have hP : va_P g.1 vwCl (List.flatten [bMo g o a 0 hi ac tp ba en tA fl de iD iO tU fm fk fa fc ft ff fb fi]) H := hP
        have hD : va_D A (List.flatten [bMo g o a 0 hi ac tp ba en tA fl de iD iO tU fm fk fa fc ft ff fb fi]) := hD
        refine W.widen (k := 0) (n := 0) (Nat.le_of_ble_eq_true rfl) (Nat.le_of_ble_eq_true rfl) ?_
        refine W.eq (g2 := F0 m 26 ls [.int q_50, .int x_1]) rfl ?_
        refine lv_if_ne (tgt := 48) hx hb dX12_chosen_26 (by decide) (fun cb9 => ?_) (fun cb9 => ?_)
        · skip
          have c52 : ¬ q_50.toInt = 0 := zne cb9 rfl (by decide)
          refine lv_iconst (v := 0) hx hb dX12_chosen_48 (by decide) ?_
          refine lv_ior hx hb dX12_chosen_49 ?_
          refine zg (fun x_53 => ?_)
          refine lv_istore_n (lv' := [(2, .int x_53), (0, .ref o), (1, .int much), (3, .int x_2)]) hx hb dX12_chosen_50 rfl hl (by decide) rfl (fun ls hl => ?_)
          refine ziinc3 (n' := 1) (a' := 1) (b' := 6) (lv' := fun v9 => [(3, .int v9), (2, .int x_53), (0, .ref o), (1, .int much)]) hx hb dX12_chosen_51 hl (k := 3) rfl (by decide) (fun _ => rfl) (zaddK (i := x_2.toInt) (j := 1) rfl (by decide) i3.1 n48 (Int.le_refl _) (Int.le_refl _) (by decide)) (fun x_54 ls hx_54 hl => ?_)
          refine lv_goto (tgt := 9) hx hb dX12_chosen_54 (by decide) ?_
          have hl := lv_sub (l' := [(0, .ref o), (1, .int much), (2, .int x_53), (3, .int x_54)]) hl [2, 3, 1, 0] rfl
          have hP : va_P g.1 vwCl (List.flatten [bMo g o a 0 hi ac tp ba en tA fl de iD iO tU fm fk fa fc ft ff fb fi]) H := hP
          have hD : va_D A (List.flatten [bMo g o a 0 hi ac tp ba en tA fl de iD iO tU fm fk fa fc ft ff fb fi]) := hD
          exact ih9_5 x_53 x_54 ⟨(Int.le_trans (by decide) hx_54.2.1), hx_54.2.2⟩ H _ ls (zmK hx_54.1 (by decide) n48 (by decide) hk9_5)  hP hD hS (lv_sub hl [0, 1, 2, 3] rfl)
        · skip
          have c55 : q_50.toInt = 0 := zeq cb9 rfl (by decide)
          have n56 : 0 ≤ q_50.toInt := Int.le_trans (Int.le_refl _) (Int.le_of_eq c55.symm)
          have n57 : q_50.toInt ≤ 0 := Int.le_trans (Int.le_of_eq c55) (Int.le_refl _)
          refine lv_aload_n hx hb dX12_chosen_29 rfl (lv_at hl 0 rfl) ?_
          refine lv_iload_n hx hb dX12_chosen_30 rfl (lv_at hl 3 rfl) ?_
          refine lv_iconst (v := 1) hx hb dX12_chosen_31 (by decide) ?_
          have hL1 : (1 : Int32).toInt = 1 := by decide
          refine mcallV' (g := g) (q0 := 0) (ci := 10) (As := [.int x_2, .int 1]) (rest := [.int x_1]) St hK hT hA hP hD hS hl.1 [0] [] rfl rfl rfl (m_ofWork l g o a 0 hi ac tp ba en tA fl de iD iO tU fm fk fa fc ft ff fb fi x_2 1 (⟨i3.1, n48⟩) (by decide)) (cwV 2 hts (zgL (zl4 k862 k863 k864 k837) k831) rfl rfl rfl (by decide +kernel) ⟨Nat.le_of_ble_eq_true rfl, Nat.le_of_ble_eq_true rfl⟩) rfl rfl rfl rfl (Nat.le_of_ble_eq_true rfl) dX12_chosen_32 ⟨(Nat.le_of_ble_eq_true rfl), (Nat.le_of_ble_eq_true rfl)⟩ (fun q_58 H locs hq59 hP hD hS => ?_)
          have hP : va_P g.1 vwCl (List.flatten [bMo g o a 0 hi ac tp ba en tA fl de iD iO tU fm fk fa fc ft ff fb fi]) H := hP
          have hD : va_D A (List.flatten [bMo g o a 0 hi ac tp ba en tA fl de iD iO tU fm fk fa fc ft ff fb fi]) := hD
          refine W.widen (k := 0) (n := 0) (Nat.le_of_ble_eq_true rfl) (Nat.le_of_ble_eq_true rfl) ?_
          refine W.eq (g2 := F0 m 35 ls [.int q_58, .int x_1]) rfl ?_
          refine lv_aload_n hx hb dX12_chosen_35 rfl (lv_at hl 0 rfl) ?_
          refine mcallV' (g := g) (q0 := 0) (ci := 10) (As := []) (rest := [.int q_58, .int x_1]) St hK hT hA hP hD hS hl.1 [0] [] rfl rfl rfl (m_believed l g o a 0 hi ac tp ba en tA fl de iD iO tU fm fk fa fc ft ff fb fi (by first | assumption | omega | decide | exact Or.inl (by decide) | exact Or.inr (by decide))) (cwV 0 hts (zgL (zl4 k854 k855 k856 k837) k847) rfl rfl rfl (by decide +kernel) ⟨Nat.le_of_ble_eq_true rfl, Nat.le_of_ble_eq_true rfl⟩) rfl rfl rfl rfl (Nat.le_of_ble_eq_true rfl) dX12_chosen_36 ⟨(Nat.le_of_ble_eq_true rfl), (Nat.le_of_ble_eq_true rfl)⟩ (fun q_60 H locs hq61 hP hD hS => ?_)
          have hP : va_P g.1 vwCl (List.flatten [bMo g o a 0 hi ac tp ba en tA fl de iD iO tU fm fk fa fc ft ff fb fi]) H := hP
          have hD : va_D A (List.flatten [bMo g o a 0 hi ac tp ba en tA fl de iD iO tU fm fk fa fc ft ff fb fi]) := hD
          refine W.widen (k := 0) (n := 0) (Nat.le_of_ble_eq_true rfl) (Nat.le_of_ble_eq_true rfl) ?_
          refine W.eq (g2 := F0 m 39 ls [.int q_60, .int q_58, .int x_1]) rfl ?_
          refine lv_icmp_gt (tgt := 48) hx hb dX12_chosen_39 (by decide) (fun cb9 => ?_) (fun cb9 => ?_)
          · skip
            have c62 : q_60.toInt < q_58.toInt := zlti cb9 rfl rfl
            refine lv_iconst (v := 0) hx hb dX12_chosen_48 (by decide) ?_
            refine lv_ior hx hb dX12_chosen_49 ?_
            refine zg (fun x_63 => ?_)
            refine lv_istore_n (lv' := [(2, .int x_63), (0, .ref o), (1, .int much), (3, .int x_2)]) hx hb dX12_chosen_50 rfl hl (by decide) rfl (fun ls hl => ?_)
            refine ziinc3 (n' := 1) (a' := 1) (b' := 6) (lv' := fun v9 => [(3, .int v9), (2, .int x_63), (0, .ref o), (1, .int much)]) hx hb dX12_chosen_51 hl (k := 3) rfl (by decide) (fun _ => rfl) (zaddK (i := x_2.toInt) (j := 1) rfl (by decide) i3.1 n48 (Int.le_refl _) (Int.le_refl _) (by decide)) (fun x_64 ls hx_64 hl => ?_)
            refine lv_goto (tgt := 9) hx hb dX12_chosen_54 (by decide) ?_
            have hl := lv_sub (l' := [(0, .ref o), (1, .int much), (2, .int x_63), (3, .int x_64)]) hl [2, 3, 1, 0] rfl
            have hP : va_P g.1 vwCl (List.flatten [bMo g o a 0 hi ac tp ba en tA fl de iD iO tU fm fk fa fc ft ff fb fi]) H := hP
            have hD : va_D A (List.flatten [bMo g o a 0 hi ac tp ba en tA fl de iD iO tU fm fk fa fc ft ff fb fi]) := hD
            exact ih9_5 x_63 x_64 ⟨(Int.le_trans (by decide) hx_64.2.1), hx_64.2.2⟩ H _ ls (zmK hx_64.1 (by decide) n48 (by decide) hk9_5)  hP hD hS (lv_sub hl [0, 1, 2, 3] rfl)
          · skip
            have c65 : q_58.toInt ≤ q_60.toInt := zle (Int32.not_lt.mp cb9) rfl rfl
            refine lv_iconst (v := 1) hx hb dX12_chosen_42 (by decide) ?_
            refine lv_iload_n hx hb dX12_chosen_43 rfl (lv_at hl 3 rfl) ?_
            refine lv_ishl hx hb dX12_chosen_44 ?_
            refine zgb (zshl1 (j := x_2.toInt) rfl 5 32 (by decide) (by decide) ⟨i3.1, n48⟩) (fun x_66 hx_66 => ?_)
            refine lv_goto (tgt := 49) hx hb dX12_chosen_45 (by decide) ?_
            refine lv_ior hx hb dX12_chosen_49 ?_
            refine zg (fun x_67 => ?_)
            refine lv_istore_n (lv' := [(2, .int x_67), (0, .ref o), (1, .int much), (3, .int x_2)]) hx hb dX12_chosen_50 rfl hl (by decide) rfl (fun ls hl => ?_)
            refine ziinc3 (n' := 1) (a' := 1) (b' := 6) (lv' := fun v9 => [(3, .int v9), (2, .int x_67), (0, .ref o), (1, .int much)]) hx hb dX12_chosen_51 hl (k := 3) rfl (by decide) (fun _ => rfl) (zaddK (i := x_2.toInt) (j := 1) rfl (by decide) i3.1 n48 (Int.le_refl _) (Int.le_refl _) (by decide)) (fun x_68 ls hx_68 hl => ?_)
            refine lv_goto (tgt := 9) hx hb dX12_chosen_54 (by decide) ?_
            have hl := lv_sub (l' := [(0, .ref o), (1, .int much), (2, .int x_67), (3, .int x_68)]) hl [2, 3, 1, 0] rfl
            have hP : va_P g.1 vwCl (List.flatten [bMo g o a 0 hi ac tp ba en tA fl de iD iO tU fm fk fa fc ft ff fb fi]) H := hP
            have hD : va_D A (List.flatten [bMo g o a 0 hi ac tp ba en tA fl de iD iO tU fm fk fa fc ft ff fb fi]) := hD
            exact ih9_5 x_67 x_68 ⟨(Int.le_trans (by decide) hx_68.2.1), hx_68.2.2⟩ H _ ls (zmK hx_68.1 (by decide) n48 (by decide) hk9_5)  hP hD hS (lv_sub hl [0, 1, 2, 3] rfl)
  have hP : va_P g.1 vwCl (List.flatten [bMo g o a 0 hi ac tp ba en tA fl de iD iO tU fm fk fa fc ft ff fb fi]) H := hP
  have hD : va_D A (List.flatten [bMo g o a 0 hi ac tp ba en tA fl de iD iO tU fm fk fa fc ft ff fb fi]) := hD
  exact LP9_4 _ 0 0 (by decide) H _ ls (Nat.lt_succ_self _)  hP hD hS (lv_sub hl [0, 1, 2, 3] rfl)
