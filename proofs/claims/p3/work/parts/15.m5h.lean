set_option maxRecDepth 100000 in
set_option maxHeartbeats 4000000 in
theorem m_hermits (l : Launch) (g : zG) (o : Nat) (a : Nat → Nat) (th : Int32) (hi : Int32) (ac : Int32) (tp : Int32) (ba : Int32) (en : Int32) (tA : Int32) (fl : Int32) (de : Int32) (iD : Int32) (iO : Int32) (tU : Int32) (fm : Nat → Int32) (fk : Nat → Int32) (fa : Nat → Int32) (fc : Nat → Int32) (ft : Nat → Int32) (ff : Nat → Int32) (fb : Nat → Int32) (fi : Nat → Int32) (rfm : rM fm) : zM' g l yX12_hermits (Cond.code yX12_hermits cX12_hermits 5 (some .int) :: zB) ({ frames := 2, cells := 0, slots := 0, locals := 45 } : Room) [.ref o] [bMo g o a th hi ac tp ba en tA fl de iD iO tU fm fk fa fc ft ff fb fi] (fun u : Int32 × Int32 => (fun (th2 : Int32) (q : Int32) => some (.int q)) (u.1) (u.2)) (fun u : Int32 × Int32 => (fun (th2 : Int32) (q : Int32) => True) (u.1) (u.2)) (fun u : Int32 × Int32 => (fun (th2 : Int32) (q : Int32) => [bMo g o a th2 hi ac tp ba en tA fl de iD iO tU fm fk fa fc ft ff fb fi]) (u.1) (u.2)) := by
  refine zM'.of (cc := cX12_hermits) (maxL := 5) (rt := (some .int)) (by decide) rfl (Nat.le_of_ble_eq_true rfl) ?_
  intro p e s m args below meth c A ls St hr hlocks hin hK hT hA hP hD hS hl
  obtain ⟨hx, hb, hml, hown, hts⟩ := id St
  have hl : lv_has ls 5 [(0, .ref o)] := hl
  refine lv_aload_n hx hb dX12_hermits_0 rfl (lv_at hl 0 rfl) ?_
  refine lv_iconst (v := 0) hx hb dX12_hermits_1 (by decide) ?_
  refine va_put (D := g.1) (ci := 10) (v := .int 0) (ty := .int) (C := RX12) (T := TX12) (N := 20) hx hb hts izRX12 tyX12 tyX12_ok nmX12 hown hK hP hD hS 0 rfl rfl 0 (by decide) (hts _ k871) (fun _ h9 => h9) rfl (by decide +kernel) rfl rfl (Nat.le_of_ble_eq_true rfl) dX12_hermits_2 (fun H locs hP hD hS => ?_)
  have hP : va_P g.1 vwCl (List.flatten [bMo g o a 0 hi ac tp ba en tA fl de iD iO tU fm fk fa fc ft ff fb fi]) H := hP
  have hD : va_D A (List.flatten [bMo g o a 0 hi ac tp ba en tA fl de iD iO tU fm fk fa fc ft ff fb fi]) := hD
  refine lv_iconst (v := 0) hx hb dX12_hermits_5 (by decide) ?_
  refine lv_istore_n (lv' := [(1, .int 0), (0, .ref o)]) hx hb dX12_hermits_6 rfl hl (by decide) rfl (fun ls hl => ?_)
  refine lv_iconst (v := 0) hx hb dX12_hermits_7 (by decide) ?_
  refine lv_istore_n (lv' := [(2, .int 0), (1, .int 0), (0, .ref o)]) hx hb dX12_hermits_8 rfl hl (by decide) rfl (fun ls hl => ?_)
  have hl := lv_sub (l' := [(0, .ref o), (1, .int 0), (2, .int 0)]) hl [2, 1, 0] rfl
  have LP9_4 : ∀ (kf : Nat) (x_1 : Int32) (x_2 : Int32), (0 ≤ x_2.toInt ∧ x_2.toInt ≤ 8) → ∀ (H : Heap) (locs : List Loc) (ls : Array Slot), ((9 - x_2.toInt).toNat) < kf → va_P g.1 vwCl (List.flatten [bMo g o a 0 hi ac tp ba en tA fl de iD iO tU fm fk fa fc ft ff fb fi]) H → va_D A (List.flatten [bMo g o a 0 hi ac tp ba en tA fl de iD iO tU fm fk fa fc ft ff fb fi]) → va_S A s.heap H locs → lv_has ls 5 [(0, .ref o), (1, .int x_1), (2, .int x_2)] → W p l e ({ frames := 2, cells := 0, slots := 0, locals := 45 } : Room) s m args below meth c H locs (0) (0) (zF g (fun u : Int32 × Int32 => (fun (th2 : Int32) (q : Int32) => some (.int q)) (u.1) (u.2)) (fun u : Int32 × Int32 => (fun (th2 : Int32) (q : Int32) => True) (u.1) (u.2)) (fun u : Int32 × Int32 => (fun (th2 : Int32) (q : Int32) => [bMo g o a th2 hi ac tp ba en tA fl de iD iO tU fm fk fa fc ft ff fb fi]) (u.1) (u.2)) ({ frames := 2, cells := 0, slots := 0, locals := 45 } : Room) below args s A) (F0 m 9 ls []) := by
    intro kf
    induction kf with
    | zero => intro x_1 x_2 i3 H locs ls hk; exact absurd hk (Nat.not_lt_zero _)
    | succ kf ih9_5 =>
      intro x_1 x_2 i3 H locs ls hk9_5 hP hD hS hl
      refine lv_iload_n hx hb dX12_hermits_9 rfl (lv_at hl 2 rfl) ?_
      refine lv_aload_n hx hb dX12_hermits_10 rfl (lv_at hl 0 rfl) ?_
      refine va_get (D := g.1) (ci := 10) (v := .ref (a 0)) (C := RX12) (T := TX12) (N := 20) hx hb hts izRX12 hown hK hP 0 rfl rfl 1 (by decide) (hts _ k815) (fun _ h9 => h9) rfl dX12_hermits_11 ?_
      refine lv_iconst (v := 3) hx hb dX12_hermits_14 (by decide) ?_
      refine va_iald hx hb hK hP 1 0 rfl rfl (zin rfl) dX12_hermits_15 ?_
      refine zgq (r := fm 3) rfl (rM3 rfm) (fun x_6 hx_6 => ?_)
      refine lv_icmp_ge (tgt := 99) hx hb dX12_hermits_16 (by decide) (fun cb9 => ?_) (fun cb9 => ?_)
      · skip
        have c7 : x_6.toInt ≤ x_2.toInt := zle cb9 rfl rfl
        refine lv_iload_n hx hb dX12_hermits_99 rfl (lv_at hl 1 rfl) ?_
        have hP : va_P g.1 vwCl (List.flatten [bMo g o a 0 hi ac tp ba en tA fl de iD iO tU fm fk fa fc ft ff fb fi]) H := hP
        have hD : va_D A (List.flatten [bMo g o a 0 hi ac tp ba en tA fl de iD iO tU fm fk fa fc ft ff fb fi]) := hD
        exact mret_i hx hb hr hlocks hS (Nat.le_of_ble_eq_true rfl) (Nat.le_of_ble_eq_true rfl) dX12_hermits_100 ((0 : Int32), x_1) rfl trivial hP hD
      · skip
        have c8 : x_2.toInt < x_6.toInt := zlti (Int32.not_le.mp cb9) rfl rfl
        have n9 : x_2.toInt ≤ 7 := zL1 (b := 8) c8 hx_6.2.1 (by decide)
        have n10 : 1 ≤ x_6.toInt := zL2 (a := 0) c8 i3.1 (by decide)
        refine lv_aload_n hx hb dX12_hermits_19 rfl (lv_at hl 0 rfl) ?_
        refine lv_iload_n hx hb dX12_hermits_20 rfl (lv_at hl 2 rfl) ?_
        refine mcallV' (g := g) (q0 := 0) (ci := 10) (As := [.int x_2]) (rest := []) St hK hT hA hP hD hS hl.1 [0] [] rfl rfl rfl (m_ties l g o a 0 hi ac tp ba en tA fl de iD iO tU fm fk fa fc ft ff fb fi x_2 (by first | assumption | omega | decide | exact Or.inl (by decide) | exact Or.inr (by decide)) (⟨i3.1, n9⟩)) (cwV 1 hts (zgL (zl4 k992 k993 k994 k837) k865) rfl rfl rfl (by decide +kernel) ⟨Nat.le_of_ble_eq_true rfl, Nat.le_of_ble_eq_true rfl⟩) rfl rfl rfl rfl (Nat.le_of_ble_eq_true rfl) dX12_hermits_21 ⟨(Nat.le_of_ble_eq_true rfl), (Nat.le_of_ble_eq_true rfl)⟩ (fun q_11 H locs hq12 hP hD hS => ?_)
        have hP : va_P g.1 vwCl (List.flatten [bMo g o a 0 hi ac tp ba en tA fl de iD iO tU fm fk fa fc ft ff fb fi]) H := hP
        have hD : va_D A (List.flatten [bMo g o a 0 hi ac tp ba en tA fl de iD iO tU fm fk fa fc ft ff fb fi]) := hD
        refine W.widen (k := 0) (n := 0) (Nat.le_of_ble_eq_true rfl) (Nat.le_of_ble_eq_true rfl) ?_
        refine W.eq (g2 := F0 m 24 ls [.int q_11]) rfl ?_
        refine lv_if_ne (tgt := 31) hx hb dX12_hermits_24 (by decide) (fun cb9 => ?_) (fun cb9 => ?_)
        · skip
          have c13 : ¬ q_11.toInt = 0 := zne cb9 rfl (by decide)
          refine lv_iconst (v := 0) hx hb dX12_hermits_31 (by decide) ?_
          refine lv_istore_n (lv' := [(3, .int 0), (0, .ref o), (1, .int x_1), (2, .int x_2)]) hx hb dX12_hermits_32 rfl hl (by decide) rfl (fun ls hl => ?_)
          refine lv_iconst (v := 0) hx hb dX12_hermits_33 (by decide) ?_
          refine lv_istore (lv' := [(4, .int 0), (3, .int 0), (0, .ref o), (1, .int x_1), (2, .int x_2)]) hx hb dX12_hermits_34 hl (by decide) rfl (fun ls hl => ?_)
          have hl := lv_sub (l' := [(0, .ref o), (1, .int x_1), (2, .int x_2), (3, .int 0), (4, .int 0)]) hl [2, 3, 4, 1, 0] rfl
          have LP36_18 : ∀ (kf : Nat) (x_14 : Int32) (x_15 : Int32), (0 ≤ x_14.toInt ∧ x_14.toInt ≤ 1) → (0 ≤ x_15.toInt ∧ x_15.toInt ≤ 8) → ∀ (H : Heap) (locs : List Loc) (ls : Array Slot), ((9 - x_15.toInt).toNat) < kf → va_P g.1 vwCl (List.flatten [bMo g o a 0 hi ac tp ba en tA fl de iD iO tU fm fk fa fc ft ff fb fi]) H → va_D A (List.flatten [bMo g o a 0 hi ac tp ba en tA fl de iD iO tU fm fk fa fc ft ff fb fi]) → va_S A s.heap H locs → lv_has ls 5 [(0, .ref o), (1, .int x_1), (2, .int x_2), (3, .int x_14), (4, .int x_15)] → W p l e ({ frames := 2, cells := 0, slots := 0, locals := 45 } : Room) s m args below meth c H locs (0) (0) (zF g (fun u : Int32 × Int32 => (fun (th2 : Int32) (q : Int32) => some (.int q)) (u.1) (u.2)) (fun u : Int32 × Int32 => (fun (th2 : Int32) (q : Int32) => True) (u.1) (u.2)) (fun u : Int32 × Int32 => (fun (th2 : Int32) (q : Int32) => [bMo g o a th2 hi ac tp ba en tA fl de iD iO tU fm fk fa fc ft ff fb fi]) (u.1) (u.2)) ({ frames := 2, cells := 0, slots := 0, locals := 45 } : Room) below args s A) (F0 m 36 ls []) := by
            intro kf
            induction kf with
            | zero => intro x_14 x_15 i16 i17 H locs ls hk; exact absurd hk (Nat.not_lt_zero _)
            | succ kf ih36_19 =>
              intro x_14 x_15 i16 i17 H locs ls hk36_19 hP hD hS hl
              refine lv_iload hx hb dX12_hermits_36 (lv_at hl 4 rfl) ?_
              refine lv_aload_n hx hb dX12_hermits_38 rfl (lv_at hl 0 rfl) ?_
              refine va_get (D := g.1) (ci := 10) (v := .ref (a 0)) (C := RX12) (T := TX12) (N := 20) hx hb hts izRX12 hown hK hP 0 rfl rfl 1 (by decide) (hts _ k815) (fun _ h9 => h9) rfl dX12_hermits_39 ?_
              refine lv_iconst (v := 3) hx hb dX12_hermits_42 (by decide) ?_
              refine va_iald hx hb hK hP 1 0 rfl rfl (zin rfl) dX12_hermits_43 ?_
              refine zgq (r := fm 3) rfl (rM3 rfm) (fun x_20 hx_20 => ?_)
              refine lv_icmp_ge (tgt := 79) hx hb dX12_hermits_44 (by decide) (fun cb9 => ?_) (fun cb9 => ?_)
              · skip
                have c21 : x_20.toInt ≤ x_15.toInt := zle cb9 rfl rfl
                refine lv_iload_n hx hb dX12_hermits_79 rfl (lv_at hl 1 rfl) ?_
                refine lv_iload_n hx hb dX12_hermits_80 rfl (lv_at hl 3 rfl) ?_
                refine lv_if_eq (tgt := 90) hx hb dX12_hermits_81 (by decide) (fun cb9 => ?_) (fun cb9 => ?_)
                · skip
                  have c22 : x_14.toInt = 0 := zeq cb9 rfl (by decide)
                  have n23 : x_14.toInt ≤ 0 := Int.le_trans (Int.le_of_eq c22) (Int.le_refl _)
                  refine lv_iconst (v := 0) hx hb dX12_hermits_90 (by decide) ?_
                  refine lv_ior hx hb dX12_hermits_91 ?_
                  refine zg (fun x_24 => ?_)
                  refine lv_istore_n (lv' := [(1, .int x_24), (0, .ref o), (2, .int x_2), (3, .int x_14), (4, .int x_15)]) hx hb dX12_hermits_92 rfl hl (by decide) rfl (fun ls hl => ?_)
                  refine ziinc3 (n' := 1) (a' := 1) (b' := 8) (lv' := fun v9 => [(2, .int v9), (1, .int x_24), (0, .ref o), (3, .int x_14), (4, .int x_15)]) hx hb dX12_hermits_93 hl (k := 2) rfl (by decide) (fun _ => rfl) (zaddK (i := x_2.toInt) (j := 1) rfl (by decide) i3.1 n9 (Int.le_refl _) (Int.le_refl _) (by decide)) (fun x_25 ls hx_25 hl => ?_)
                  refine lv_goto (tgt := 9) hx hb dX12_hermits_96 (by decide) ?_
                  have hl := lv_sub (l' := [(0, .ref o), (1, .int x_24), (2, .int x_25), (3, .int x_14), (4, .int x_15)]) hl [2, 1, 0, 3, 4] rfl
                  have hP : va_P g.1 vwCl (List.flatten [bMo g o a 0 hi ac tp ba en tA fl de iD iO tU fm fk fa fc ft ff fb fi]) H := hP
                  have hD : va_D A (List.flatten [bMo g o a 0 hi ac tp ba en tA fl de iD iO tU fm fk fa fc ft ff fb fi]) := hD
                  exact ih9_5 x_24 x_25 ⟨(Int.le_trans (by decide) hx_25.2.1), hx_25.2.2⟩ H _ ls (zmK hx_25.1 (by decide) n9 (by decide) hk9_5)  hP hD hS (lv_sub hl [0, 1, 2] rfl)
                · skip
                  have c26 : ¬ x_14.toInt = 0 := zne cb9 rfl (by decide)
                  have n27 : 1 ≤ x_14.toInt := zN1 c26 i16.1 (by decide)
                  refine lv_iconst (v := 1) hx hb dX12_hermits_84 (by decide) ?_
                  refine lv_iload_n hx hb dX12_hermits_85 rfl (lv_at hl 2 rfl) ?_
                  refine lv_ishl hx hb dX12_hermits_86 ?_
                  refine zgb (zshl1 (j := x_2.toInt) rfl 7 128 (by decide) (by decide) ⟨i3.1, n9⟩) (fun x_28 hx_28 => ?_)
                  refine lv_goto (tgt := 91) hx hb dX12_hermits_87 (by decide) ?_
                  refine lv_ior hx hb dX12_hermits_91 ?_
                  refine zg (fun x_29 => ?_)
                  refine lv_istore_n (lv' := [(1, .int x_29), (0, .ref o), (2, .int x_2), (3, .int x_14), (4, .int x_15)]) hx hb dX12_hermits_92 rfl hl (by decide) rfl (fun ls hl => ?_)
                  refine ziinc3 (n' := 1) (a' := 1) (b' := 8) (lv' := fun v9 => [(2, .int v9), (1, .int x_29), (0, .ref o), (3, .int x_14), (4, .int x_15)]) hx hb dX12_hermits_93 hl (k := 2) rfl (by decide) (fun _ => rfl) (zaddK (i := x_2.toInt) (j := 1) rfl (by decide) i3.1 n9 (Int.le_refl _) (Int.le_refl _) (by decide)) (fun x_30 ls hx_30 hl => ?_)
                  refine lv_goto (tgt := 9) hx hb dX12_hermits_96 (by decide) ?_
                  have hl := lv_sub (l' := [(0, .ref o), (1, .int x_29), (2, .int x_30), (3, .int x_14), (4, .int x_15)]) hl [2, 1, 0, 3, 4] rfl
                  have hP : va_P g.1 vwCl (List.flatten [bMo g o a 0 hi ac tp ba en tA fl de iD iO tU fm fk fa fc ft ff fb fi]) H := hP
                  have hD : va_D A (List.flatten [bMo g o a 0 hi ac tp ba en tA fl de iD iO tU fm fk fa fc ft ff fb fi]) := hD
                  exact ih9_5 x_29 x_30 ⟨(Int.le_trans (by decide) hx_30.2.1), hx_30.2.2⟩ H _ ls (zmK hx_30.1 (by decide) n9 (by decide) hk9_5)  hP hD hS (lv_sub hl [0, 1, 2] rfl)
              · skip
                have c31 : x_15.toInt < x_20.toInt := zlti (Int32.not_le.mp cb9) rfl rfl
                have n32 : x_15.toInt ≤ 7 := zL1 (b := 8) c31 hx_20.2.1 (by decide)
                have n33 : 1 ≤ x_20.toInt := zL2 (a := 0) c31 i17.1 (by decide)
                refine lv_iload_n hx hb dX12_hermits_47 rfl (lv_at hl 3 rfl) ?_
                refine lv_if_eq (tgt := 79) hx hb dX12_hermits_48 (by decide) (fun cb9 => ?_) (fun cb9 => ?_)
                · skip
                  have c34 : x_14.toInt = 0 := zeq cb9 rfl (by decide)
                  have n35 : x_14.toInt ≤ 0 := Int.le_trans (Int.le_of_eq c34) (Int.le_refl _)
                  refine lv_iload_n hx hb dX12_hermits_79 rfl (lv_at hl 1 rfl) ?_
                  refine lv_iload_n hx hb dX12_hermits_80 rfl (lv_at hl 3 rfl) ?_
                  refine lv_if_eq (tgt := 90) hx hb dX12_hermits_81 (by decide) (fun cb9 => ?_) (fun cb9 => ?_)
                  · skip
                    have c36 : x_14.toInt = 0 := zeq cb9 rfl (by decide)
                    refine lv_iconst (v := 0) hx hb dX12_hermits_90 (by decide) ?_
                    refine lv_ior hx hb dX12_hermits_91 ?_
                    refine zg (fun x_37 => ?_)
                    refine lv_istore_n (lv' := [(1, .int x_37), (0, .ref o), (2, .int x_2), (3, .int x_14), (4, .int x_15)]) hx hb dX12_hermits_92 rfl hl (by decide) rfl (fun ls hl => ?_)
                    refine ziinc3 (n' := 1) (a' := 1) (b' := 8) (lv' := fun v9 => [(2, .int v9), (1, .int x_37), (0, .ref o), (3, .int x_14), (4, .int x_15)]) hx hb dX12_hermits_93 hl (k := 2) rfl (by decide) (fun _ => rfl) (zaddK (i := x_2.toInt) (j := 1) rfl (by decide) i3.1 n9 (Int.le_refl _) (Int.le_refl _) (by decide)) (fun x_38 ls hx_38 hl => ?_)
                    refine lv_goto (tgt := 9) hx hb dX12_hermits_96 (by decide) ?_
                    have hl := lv_sub (l' := [(0, .ref o), (1, .int x_37), (2, .int x_38), (3, .int x_14), (4, .int x_15)]) hl [2, 1, 0, 3, 4] rfl
                    have hP : va_P g.1 vwCl (List.flatten [bMo g o a 0 hi ac tp ba en tA fl de iD iO tU fm fk fa fc ft ff fb fi]) H := hP
                    have hD : va_D A (List.flatten [bMo g o a 0 hi ac tp ba en tA fl de iD iO tU fm fk fa fc ft ff fb fi]) := hD
                    exact ih9_5 x_37 x_38 ⟨(Int.le_trans (by decide) hx_38.2.1), hx_38.2.2⟩ H _ ls (zmK hx_38.1 (by decide) n9 (by decide) hk9_5)  hP hD hS (lv_sub hl [0, 1, 2] rfl)
                  · skip
                    exact absurd (show ¬ x_14.toInt = 0 from zne cb9 rfl (by decide)) (by omega)
                · skip
                  have c40 : ¬ x_14.toInt = 0 := zne cb9 rfl (by decide)
                  have n41 : 1 ≤ x_14.toInt := zN1 c40 i16.1 (by decide)
                  refine lv_iload hx hb dX12_hermits_51 (lv_at hl 4 rfl) ?_
                  refine lv_iload_n hx hb dX12_hermits_53 rfl (lv_at hl 2 rfl) ?_
                  refine lv_icmp_eq (tgt := 67) hx hb dX12_hermits_54 (by decide) (fun cb9 => ?_) (fun cb9 => ?_)
                  · skip
                    have c42 : x_15.toInt = x_2.toInt := zeq cb9 rfl rfl
                    refine lv_iconst (v := 1) hx hb dX12_hermits_67 (by decide) ?_
                    refine lv_goto (tgt := 72) hx hb dX12_hermits_68 (by decide) ?_
                    refine lv_istore_n (lv' := [(3, .int 1), (0, .ref o), (1, .int x_1), (2, .int x_2), (4, .int x_15)]) hx hb dX12_hermits_72 rfl hl (by decide) rfl (fun ls hl => ?_)
                    refine ziinc3 (n' := 1) (a' := 1) (b' := 8) (lv' := fun v9 => [(4, .int v9), (3, .int 1), (0, .ref o), (1, .int x_1), (2, .int x_2)]) hx hb dX12_hermits_73 hl (k := 4) rfl (by decide) (fun _ => rfl) (zaddK (i := x_15.toInt) (j := 1) rfl (by decide) i17.1 n32 (Int.le_refl _) (Int.le_refl _) (by decide)) (fun x_43 ls hx_43 hl => ?_)
                    refine lv_goto (tgt := 36) hx hb dX12_hermits_76 (by decide) ?_
                    have hl := lv_sub (l' := [(0, .ref o), (1, .int x_1), (2, .int x_2), (3, .int 1), (4, .int x_43)]) hl [2, 3, 4, 1, 0] rfl
                    have hP : va_P g.1 vwCl (List.flatten [bMo g o a 0 hi ac tp ba en tA fl de iD iO tU fm fk fa fc ft ff fb fi]) H := hP
                    have hD : va_D A (List.flatten [bMo g o a 0 hi ac tp ba en tA fl de iD iO tU fm fk fa fc ft ff fb fi]) := hD
                    exact ih36_19 1 x_43 (by decide) ⟨(Int.le_trans (by decide) hx_43.2.1), hx_43.2.2⟩ H _ ls (zmK hx_43.1 (by decide) n32 (by decide) hk36_19)  hP hD hS (lv_sub hl [0, 1, 2, 3, 4] rfl)
                  · skip
                    have c44 : ¬ x_15.toInt = x_2.toInt := zne cb9 rfl rfl
                    refine lv_aload_n hx hb dX12_hermits_57 rfl (lv_at hl 0 rfl) ?_
                    refine lv_iload hx hb dX12_hermits_58 (lv_at hl 4 rfl) ?_
                    refine lv_iload_n hx hb dX12_hermits_60 rfl (lv_at hl 2 rfl) ?_
                    refine mcallV' (g := g) (q0 := 0) (ci := 10) (As := [.int x_15, .int x_2]) (rest := []) St hK hT hA hP hD hS hl.1 [0] [] rfl rfl rfl (m_trustOf l g o a 0 hi ac tp ba en tA fl de iD iO tU fm fk fa fc ft ff fb fi x_15 x_2 (⟨i17.1, n32⟩) (⟨i3.1, n9⟩)) (cwV 2 hts (zgL (zl4 k866 k867 k868 k837) k833) rfl rfl rfl (by decide +kernel) ⟨Nat.le_of_ble_eq_true rfl, Nat.le_of_ble_eq_true rfl⟩) rfl rfl rfl rfl (Nat.le_of_ble_eq_true rfl) dX12_hermits_61 ⟨(Nat.le_of_ble_eq_true rfl), (Nat.le_of_ble_eq_true rfl)⟩ (fun q_45 H locs hq46 hP hD hS => ?_)
                    have hP : va_P g.1 vwCl (List.flatten [bMo g o a 0 hi ac tp ba en tA fl de iD iO tU fm fk fa fc ft ff fb fi]) H := hP
                    have hD : va_D A (List.flatten [bMo g o a 0 hi ac tp ba en tA fl de iD iO tU fm fk fa fc ft ff fb fi]) := hD
                    refine W.widen (k := 0) (n := 0) (Nat.le_of_ble_eq_true rfl) (Nat.le_of_ble_eq_true rfl) ?_
                    refine W.eq (g2 := F0 m 64 ls [.int q_45]) rfl ?_
                    refine lv_if_ne (tgt := 71) hx hb dX12_hermits_64 (by decide) (fun cb9 => ?_) (fun cb9 => ?_)
                    · skip
                      have c47 : ¬ q_45.toInt = 0 := zne cb9 rfl (by decide)
                      refine lv_iconst (v := 0) hx hb dX12_hermits_71 (by decide) ?_
                      refine lv_istore_n (lv' := [(3, .int 0), (0, .ref o), (1, .int x_1), (2, .int x_2), (4, .int x_15)]) hx hb dX12_hermits_72 rfl hl (by decide) rfl (fun ls hl => ?_)
                      refine ziinc3 (n' := 1) (a' := 1) (b' := 8) (lv' := fun v9 => [(4, .int v9), (3, .int 0), (0, .ref o), (1, .int x_1), (2, .int x_2)]) hx hb dX12_hermits_73 hl (k := 4) rfl (by decide) (fun _ => rfl) (zaddK (i := x_15.toInt) (j := 1) rfl (by decide) i17.1 n32 (Int.le_refl _) (Int.le_refl _) (by decide)) (fun x_48 ls hx_48 hl => ?_)
                      refine lv_goto (tgt := 36) hx hb dX12_hermits_76 (by decide) ?_
                      have hl := lv_sub (l' := [(0, .ref o), (1, .int x_1), (2, .int x_2), (3, .int 0), (4, .int x_48)]) hl [2, 3, 4, 1, 0] rfl
                      have hP : va_P g.1 vwCl (List.flatten [bMo g o a 0 hi ac tp ba en tA fl de iD iO tU fm fk fa fc ft ff fb fi]) H := hP
                      have hD : va_D A (List.flatten [bMo g o a 0 hi ac tp ba en tA fl de iD iO tU fm fk fa fc ft ff fb fi]) := hD
                      exact ih36_19 0 x_48 (by decide) ⟨(Int.le_trans (by decide) hx_48.2.1), hx_48.2.2⟩ H _ ls (zmK hx_48.1 (by decide) n32 (by decide) hk36_19)  hP hD hS (lv_sub hl [0, 1, 2, 3, 4] rfl)
                    · skip
                      have c49 : q_45.toInt = 0 := zeq cb9 rfl (by decide)
                      have n50 : 0 ≤ q_45.toInt := Int.le_trans (Int.le_refl _) (Int.le_of_eq c49.symm)
                      have n51 : q_45.toInt ≤ 0 := Int.le_trans (Int.le_of_eq c49) (Int.le_refl _)
                      refine lv_iconst (v := 1) hx hb dX12_hermits_67 (by decide) ?_
                      refine lv_goto (tgt := 72) hx hb dX12_hermits_68 (by decide) ?_
                      refine lv_istore_n (lv' := [(3, .int 1), (0, .ref o), (1, .int x_1), (2, .int x_2), (4, .int x_15)]) hx hb dX12_hermits_72 rfl hl (by decide) rfl (fun ls hl => ?_)
                      refine ziinc3 (n' := 1) (a' := 1) (b' := 8) (lv' := fun v9 => [(4, .int v9), (3, .int 1), (0, .ref o), (1, .int x_1), (2, .int x_2)]) hx hb dX12_hermits_73 hl (k := 4) rfl (by decide) (fun _ => rfl) (zaddK (i := x_15.toInt) (j := 1) rfl (by decide) i17.1 n32 (Int.le_refl _) (Int.le_refl _) (by decide)) (fun x_52 ls hx_52 hl => ?_)
                      refine lv_goto (tgt := 36) hx hb dX12_hermits_76 (by decide) ?_
                      have hl := lv_sub (l' := [(0, .ref o), (1, .int x_1), (2, .int x_2), (3, .int 1), (4, .int x_52)]) hl [2, 3, 4, 1, 0] rfl
                      have hP : va_P g.1 vwCl (List.flatten [bMo g o a 0 hi ac tp ba en tA fl de iD iO tU fm fk fa fc ft ff fb fi]) H := hP
                      have hD : va_D A (List.flatten [bMo g o a 0 hi ac tp ba en tA fl de iD iO tU fm fk fa fc ft ff fb fi]) := hD
                      exact ih36_19 1 x_52 (by decide) ⟨(Int.le_trans (by decide) hx_52.2.1), hx_52.2.2⟩ H _ ls (zmK hx_52.1 (by decide) n32 (by decide) hk36_19)  hP hD hS (lv_sub hl [0, 1, 2, 3, 4] rfl)
          have hP : va_P g.1 vwCl (List.flatten [bMo g o a 0 hi ac tp ba en tA fl de iD iO tU fm fk fa fc ft ff fb fi]) H := hP
          have hD : va_D A (List.flatten [bMo g o a 0 hi ac tp ba en tA fl de iD iO tU fm fk fa fc ft ff fb fi]) := hD
          exact LP36_18 _ 0 0 (by decide) (by decide) H _ ls (Nat.lt_succ_self _)  hP hD hS (lv_sub hl [0, 1, 2, 3, 4] rfl)
        · skip
          have c53 : q_11.toInt = 0 := zeq cb9 rfl (by decide)
          have n54 : 0 ≤ q_11.toInt := Int.le_trans (Int.le_refl _) (Int.le_of_eq c53.symm)
          have n55 : q_11.toInt ≤ 0 := Int.le_trans (Int.le_of_eq c53) (Int.le_refl _)
          refine lv_iconst (v := 1) hx hb dX12_hermits_27 (by decide) ?_
          refine lv_goto (tgt := 32) hx hb dX12_hermits_28 (by decide) ?_
          refine lv_istore_n (lv' := [(3, .int 1), (0, .ref o), (1, .int x_1), (2, .int x_2)]) hx hb dX12_hermits_32 rfl hl (by decide) rfl (fun ls hl => ?_)
          refine lv_iconst (v := 0) hx hb dX12_hermits_33 (by decide) ?_
          refine lv_istore (lv' := [(4, .int 0), (3, .int 1), (0, .ref o), (1, .int x_1), (2, .int x_2)]) hx hb dX12_hermits_34 hl (by decide) rfl (fun ls hl => ?_)
          have hl := lv_sub (l' := [(0, .ref o), (1, .int x_1), (2, .int x_2), (3, .int 1), (4, .int 0)]) hl [2, 3, 4, 1, 0] rfl
          have LP36_60 : ∀ (kf : Nat) (x_56 : Int32) (x_57 : Int32), (0 ≤ x_56.toInt ∧ x_56.toInt ≤ 1) → (0 ≤ x_57.toInt ∧ x_57.toInt ≤ 8) → ∀ (H : Heap) (locs : List Loc) (ls : Array Slot), ((9 - x_57.toInt).toNat) < kf → va_P g.1 vwCl (List.flatten [bMo g o a 0 hi ac tp ba en tA fl de iD iO tU fm fk fa fc ft ff fb fi]) H → va_D A (List.flatten [bMo g o a 0 hi ac tp ba en tA fl de iD iO tU fm fk fa fc ft ff fb fi]) → va_S A s.heap H locs → lv_has ls 5 [(0, .ref o), (1, .int x_1), (2, .int x_2), (3, .int x_56), (4, .int x_57)] → W p l e ({ frames := 2, cells := 0, slots := 0, locals := 45 } : Room) s m args below meth c H locs (0) (0) (zF g (fun u : Int32 × Int32 => (fun (th2 : Int32) (q : Int32) => some (.int q)) (u.1) (u.2)) (fun u : Int32 × Int32 => (fun (th2 : Int32) (q : Int32) => True) (u.1) (u.2)) (fun u : Int32 × Int32 => (fun (th2 : Int32) (q : Int32) => [bMo g o a th2 hi ac tp ba en tA fl de iD iO tU fm fk fa fc ft ff fb fi]) (u.1) (u.2)) ({ frames := 2, cells := 0, slots := 0, locals := 45 } : Room) below args s A) (F0 m 36 ls []) := by
            intro kf
            induction kf with
            | zero => intro x_56 x_57 i58 i59 H locs ls hk; exact absurd hk (Nat.not_lt_zero _)
            | succ kf ih36_61 =>
              intro x_56 x_57 i58 i59 H locs ls hk36_61 hP hD hS hl
              refine lv_iload hx hb dX12_hermits_36 (lv_at hl 4 rfl) ?_
              refine lv_aload_n hx hb dX12_hermits_38 rfl (lv_at hl 0 rfl) ?_
              refine va_get (D := g.1) (ci := 10) (v := .ref (a 0)) (C := RX12) (T := TX12) (N := 20) hx hb hts izRX12 hown hK hP 0 rfl rfl 1 (by decide) (hts _ k815) (fun _ h9 => h9) rfl dX12_hermits_39 ?_
              refine lv_iconst (v := 3) hx hb dX12_hermits_42 (by decide) ?_
              refine va_iald hx hb hK hP 1 0 rfl rfl (zin rfl) dX12_hermits_43 ?_
              refine zgq (r := fm 3) rfl (rM3 rfm) (fun x_62 hx_62 => ?_)
              refine lv_icmp_ge (tgt := 79) hx hb dX12_hermits_44 (by decide) (fun cb9 => ?_) (fun cb9 => ?_)
              · skip
                have c63 : x_62.toInt ≤ x_57.toInt := zle cb9 rfl rfl
                refine lv_iload_n hx hb dX12_hermits_79 rfl (lv_at hl 1 rfl) ?_
                refine lv_iload_n hx hb dX12_hermits_80 rfl (lv_at hl 3 rfl) ?_
                refine lv_if_eq (tgt := 90) hx hb dX12_hermits_81 (by decide) (fun cb9 => ?_) (fun cb9 => ?_)
                · skip
                  have c64 : x_56.toInt = 0 := zeq cb9 rfl (by decide)
                  have n65 : x_56.toInt ≤ 0 := Int.le_trans (Int.le_of_eq c64) (Int.le_refl _)
                  refine lv_iconst (v := 0) hx hb dX12_hermits_90 (by decide) ?_
                  refine lv_ior hx hb dX12_hermits_91 ?_
                  refine zg (fun x_66 => ?_)
                  refine lv_istore_n (lv' := [(1, .int x_66), (0, .ref o), (2, .int x_2), (3, .int x_56), (4, .int x_57)]) hx hb dX12_hermits_92 rfl hl (by decide) rfl (fun ls hl => ?_)
                  refine ziinc3 (n' := 1) (a' := 1) (b' := 8) (lv' := fun v9 => [(2, .int v9), (1, .int x_66), (0, .ref o), (3, .int x_56), (4, .int x_57)]) hx hb dX12_hermits_93 hl (k := 2) rfl (by decide) (fun _ => rfl) (zaddK (i := x_2.toInt) (j := 1) rfl (by decide) i3.1 n9 (Int.le_refl _) (Int.le_refl _) (by decide)) (fun x_67 ls hx_67 hl => ?_)
                  refine lv_goto (tgt := 9) hx hb dX12_hermits_96 (by decide) ?_
                  have hl := lv_sub (l' := [(0, .ref o), (1, .int x_66), (2, .int x_67), (3, .int x_56), (4, .int x_57)]) hl [2, 1, 0, 3, 4] rfl
                  have hP : va_P g.1 vwCl (List.flatten [bMo g o a 0 hi ac tp ba en tA fl de iD iO tU fm fk fa fc ft ff fb fi]) H := hP
                  have hD : va_D A (List.flatten [bMo g o a 0 hi ac tp ba en tA fl de iD iO tU fm fk fa fc ft ff fb fi]) := hD
                  exact ih9_5 x_66 x_67 ⟨(Int.le_trans (by decide) hx_67.2.1), hx_67.2.2⟩ H _ ls (zmK hx_67.1 (by decide) n9 (by decide) hk9_5)  hP hD hS (lv_sub hl [0, 1, 2] rfl)
                · skip
                  have c68 : ¬ x_56.toInt = 0 := zne cb9 rfl (by decide)
                  have n69 : 1 ≤ x_56.toInt := zN1 c68 i58.1 (by decide)
                  refine lv_iconst (v := 1) hx hb dX12_hermits_84 (by decide) ?_
                  refine lv_iload_n hx hb dX12_hermits_85 rfl (lv_at hl 2 rfl) ?_
                  refine lv_ishl hx hb dX12_hermits_86 ?_
                  refine zgb (zshl1 (j := x_2.toInt) rfl 7 128 (by decide) (by decide) ⟨i3.1, n9⟩) (fun x_70 hx_70 => ?_)
                  refine lv_goto (tgt := 91) hx hb dX12_hermits_87 (by decide) ?_
                  refine lv_ior hx hb dX12_hermits_91 ?_
                  refine zg (fun x_71 => ?_)
                  refine lv_istore_n (lv' := [(1, .int x_71), (0, .ref o), (2, .int x_2), (3, .int x_56), (4, .int x_57)]) hx hb dX12_hermits_92 rfl hl (by decide) rfl (fun ls hl => ?_)
                  refine ziinc3 (n' := 1) (a' := 1) (b' := 8) (lv' := fun v9 => [(2, .int v9), (1, .int x_71), (0, .ref o), (3, .int x_56), (4, .int x_57)]) hx hb dX12_hermits_93 hl (k := 2) rfl (by decide) (fun _ => rfl) (zaddK (i := x_2.toInt) (j := 1) rfl (by decide) i3.1 n9 (Int.le_refl _) (Int.le_refl _) (by decide)) (fun x_72 ls hx_72 hl => ?_)
                  refine lv_goto (tgt := 9) hx hb dX12_hermits_96 (by decide) ?_
                  have hl := lv_sub (l' := [(0, .ref o), (1, .int x_71), (2, .int x_72), (3, .int x_56), (4, .int x_57)]) hl [2, 1, 0, 3, 4] rfl
                  have hP : va_P g.1 vwCl (List.flatten [bMo g o a 0 hi ac tp ba en tA fl de iD iO tU fm fk fa fc ft ff fb fi]) H := hP
                  have hD : va_D A (List.flatten [bMo g o a 0 hi ac tp ba en tA fl de iD iO tU fm fk fa fc ft ff fb fi]) := hD
                  exact ih9_5 x_71 x_72 ⟨(Int.le_trans (by decide) hx_72.2.1), hx_72.2.2⟩ H _ ls (zmK hx_72.1 (by decide) n9 (by decide) hk9_5)  hP hD hS (lv_sub hl [0, 1, 2] rfl)
              · skip
                have c73 : x_57.toInt < x_62.toInt := zlti (Int32.not_le.mp cb9) rfl rfl
                have n74 : x_57.toInt ≤ 7 := zL1 (b := 8) c73 hx_62.2.1 (by decide)
                have n75 : 1 ≤ x_62.toInt := zL2 (a := 0) c73 i59.1 (by decide)
                refine lv_iload_n hx hb dX12_hermits_47 rfl (lv_at hl 3 rfl) ?_
                refine lv_if_eq (tgt := 79) hx hb dX12_hermits_48 (by decide) (fun cb9 => ?_) (fun cb9 => ?_)
                · skip
                  have c76 : x_56.toInt = 0 := zeq cb9 rfl (by decide)
                  have n77 : x_56.toInt ≤ 0 := Int.le_trans (Int.le_of_eq c76) (Int.le_refl _)
                  refine lv_iload_n hx hb dX12_hermits_79 rfl (lv_at hl 1 rfl) ?_
                  refine lv_iload_n hx hb dX12_hermits_80 rfl (lv_at hl 3 rfl) ?_
                  refine lv_if_eq (tgt := 90) hx hb dX12_hermits_81 (by decide) (fun cb9 => ?_) (fun cb9 => ?_)
                  · skip
                    have c78 : x_56.toInt = 0 := zeq cb9 rfl (by decide)
                    refine lv_iconst (v := 0) hx hb dX12_hermits_90 (by decide) ?_
                    refine lv_ior hx hb dX12_hermits_91 ?_
                    refine zg (fun x_79 => ?_)
                    refine lv_istore_n (lv' := [(1, .int x_79), (0, .ref o), (2, .int x_2), (3, .int x_56), (4, .int x_57)]) hx hb dX12_hermits_92 rfl hl (by decide) rfl (fun ls hl => ?_)
                    refine ziinc3 (n' := 1) (a' := 1) (b' := 8) (lv' := fun v9 => [(2, .int v9), (1, .int x_79), (0, .ref o), (3, .int x_56), (4, .int x_57)]) hx hb dX12_hermits_93 hl (k := 2) rfl (by decide) (fun _ => rfl) (zaddK (i := x_2.toInt) (j := 1) rfl (by decide) i3.1 n9 (Int.le_refl _) (Int.le_refl _) (by decide)) (fun x_80 ls hx_80 hl => ?_)
                    refine lv_goto (tgt := 9) hx hb dX12_hermits_96 (by decide) ?_
                    have hl := lv_sub (l' := [(0, .ref o), (1, .int x_79), (2, .int x_80), (3, .int x_56), (4, .int x_57)]) hl [2, 1, 0, 3, 4] rfl
                    have hP : va_P g.1 vwCl (List.flatten [bMo g o a 0 hi ac tp ba en tA fl de iD iO tU fm fk fa fc ft ff fb fi]) H := hP
                    have hD : va_D A (List.flatten [bMo g o a 0 hi ac tp ba en tA fl de iD iO tU fm fk fa fc ft ff fb fi]) := hD
                    exact ih9_5 x_79 x_80 ⟨(Int.le_trans (by decide) hx_80.2.1), hx_80.2.2⟩ H _ ls (zmK hx_80.1 (by decide) n9 (by decide) hk9_5)  hP hD hS (lv_sub hl [0, 1, 2] rfl)
                  · skip
                    exact absurd (show ¬ x_56.toInt = 0 from zne cb9 rfl (by decide)) (by omega)
                · skip
                  have c82 : ¬ x_56.toInt = 0 := zne cb9 rfl (by decide)
                  have n83 : 1 ≤ x_56.toInt := zN1 c82 i58.1 (by decide)
                  refine lv_iload hx hb dX12_hermits_51 (lv_at hl 4 rfl) ?_
                  refine lv_iload_n hx hb dX12_hermits_53 rfl (lv_at hl 2 rfl) ?_
                  refine lv_icmp_eq (tgt := 67) hx hb dX12_hermits_54 (by decide) (fun cb9 => ?_) (fun cb9 => ?_)
                  · skip
                    have c84 : x_57.toInt = x_2.toInt := zeq cb9 rfl rfl
                    refine lv_iconst (v := 1) hx hb dX12_hermits_67 (by decide) ?_
                    refine lv_goto (tgt := 72) hx hb dX12_hermits_68 (by decide) ?_
                    refine lv_istore_n (lv' := [(3, .int 1), (0, .ref o), (1, .int x_1), (2, .int x_2), (4, .int x_57)]) hx hb dX12_hermits_72 rfl hl (by decide) rfl (fun ls hl => ?_)
                    refine ziinc3 (n' := 1) (a' := 1) (b' := 8) (lv' := fun v9 => [(4, .int v9), (3, .int 1), (0, .ref o), (1, .int x_1), (2, .int x_2)]) hx hb dX12_hermits_73 hl (k := 4) rfl (by decide) (fun _ => rfl) (zaddK (i := x_57.toInt) (j := 1) rfl (by decide) i59.1 n74 (Int.le_refl _) (Int.le_refl _) (by decide)) (fun x_85 ls hx_85 hl => ?_)
                    refine lv_goto (tgt := 36) hx hb dX12_hermits_76 (by decide) ?_
                    have hl := lv_sub (l' := [(0, .ref o), (1, .int x_1), (2, .int x_2), (3, .int 1), (4, .int x_85)]) hl [2, 3, 4, 1, 0] rfl
                    have hP : va_P g.1 vwCl (List.flatten [bMo g o a 0 hi ac tp ba en tA fl de iD iO tU fm fk fa fc ft ff fb fi]) H := hP
                    have hD : va_D A (List.flatten [bMo g o a 0 hi ac tp ba en tA fl de iD iO tU fm fk fa fc ft ff fb fi]) := hD
                    exact ih36_61 1 x_85 (by decide) ⟨(Int.le_trans (by decide) hx_85.2.1), hx_85.2.2⟩ H _ ls (zmK hx_85.1 (by decide) n74 (by decide) hk36_61)  hP hD hS (lv_sub hl [0, 1, 2, 3, 4] rfl)
                  · skip
                    have c86 : ¬ x_57.toInt = x_2.toInt := zne cb9 rfl rfl
                    refine lv_aload_n hx hb dX12_hermits_57 rfl (lv_at hl 0 rfl) ?_
                    refine lv_iload hx hb dX12_hermits_58 (lv_at hl 4 rfl) ?_
                    refine lv_iload_n hx hb dX12_hermits_60 rfl (lv_at hl 2 rfl) ?_
                    refine mcallV' (g := g) (q0 := 0) (ci := 10) (As := [.int x_57, .int x_2]) (rest := []) St hK hT hA hP hD hS hl.1 [0] [] rfl rfl rfl (m_trustOf l g o a 0 hi ac tp ba en tA fl de iD iO tU fm fk fa fc ft ff fb fi x_57 x_2 (⟨i59.1, n74⟩) (⟨i3.1, n9⟩)) (cwV 2 hts (zgL (zl4 k866 k867 k868 k837) k833) rfl rfl rfl (by decide +kernel) ⟨Nat.le_of_ble_eq_true rfl, Nat.le_of_ble_eq_true rfl⟩) rfl rfl rfl rfl (Nat.le_of_ble_eq_true rfl) dX12_hermits_61 ⟨(Nat.le_of_ble_eq_true rfl), (Nat.le_of_ble_eq_true rfl)⟩ (fun q_87 H locs hq88 hP hD hS => ?_)
                    have hP : va_P g.1 vwCl (List.flatten [bMo g o a 0 hi ac tp ba en tA fl de iD iO tU fm fk fa fc ft ff fb fi]) H := hP
                    have hD : va_D A (List.flatten [bMo g o a 0 hi ac tp ba en tA fl de iD iO tU fm fk fa fc ft ff fb fi]) := hD
                    refine W.widen (k := 0) (n := 0) (Nat.le_of_ble_eq_true rfl) (Nat.le_of_ble_eq_true rfl) ?_
                    refine W.eq (g2 := F0 m 64 ls [.int q_87]) rfl ?_
                    refine lv_if_ne (tgt := 71) hx hb dX12_hermits_64 (by decide) (fun cb9 => ?_) (fun cb9 => ?_)
                    · skip
                      have c89 : ¬ q_87.toInt = 0 := zne cb9 rfl (by decide)
                      refine lv_iconst (v := 0) hx hb dX12_hermits_71 (by decide) ?_
                      refine lv_istore_n (lv' := [(3, .int 0), (0, .ref o), (1, .int x_1), (2, .int x_2), (4, .int x_57)]) hx hb dX12_hermits_72 rfl hl (by decide) rfl (fun ls hl => ?_)
                      refine ziinc3 (n' := 1) (a' := 1) (b' := 8) (lv' := fun v9 => [(4, .int v9), (3, .int 0), (0, .ref o), (1, .int x_1), (2, .int x_2)]) hx hb dX12_hermits_73 hl (k := 4) rfl (by decide) (fun _ => rfl) (zaddK (i := x_57.toInt) (j := 1) rfl (by decide) i59.1 n74 (Int.le_refl _) (Int.le_refl _) (by decide)) (fun x_90 ls hx_90 hl => ?_)
                      refine lv_goto (tgt := 36) hx hb dX12_hermits_76 (by decide) ?_
                      have hl := lv_sub (l' := [(0, .ref o), (1, .int x_1), (2, .int x_2), (3, .int 0), (4, .int x_90)]) hl [2, 3, 4, 1, 0] rfl
                      have hP : va_P g.1 vwCl (List.flatten [bMo g o a 0 hi ac tp ba en tA fl de iD iO tU fm fk fa fc ft ff fb fi]) H := hP
                      have hD : va_D A (List.flatten [bMo g o a 0 hi ac tp ba en tA fl de iD iO tU fm fk fa fc ft ff fb fi]) := hD
                      exact ih36_61 0 x_90 (by decide) ⟨(Int.le_trans (by decide) hx_90.2.1), hx_90.2.2⟩ H _ ls (zmK hx_90.1 (by decide) n74 (by decide) hk36_61)  hP hD hS (lv_sub hl [0, 1, 2, 3, 4] rfl)
                    · skip
                      have c91 : q_87.toInt = 0 := zeq cb9 rfl (by decide)
                      have n92 : 0 ≤ q_87.toInt := Int.le_trans (Int.le_refl _) (Int.le_of_eq c91.symm)
                      have n93 : q_87.toInt ≤ 0 := Int.le_trans (Int.le_of_eq c91) (Int.le_refl _)
                      refine lv_iconst (v := 1) hx hb dX12_hermits_67 (by decide) ?_
                      refine lv_goto (tgt := 72) hx hb dX12_hermits_68 (by decide) ?_
                      refine lv_istore_n (lv' := [(3, .int 1), (0, .ref o), (1, .int x_1), (2, .int x_2), (4, .int x_57)]) hx hb dX12_hermits_72 rfl hl (by decide) rfl (fun ls hl => ?_)
                      refine ziinc3 (n' := 1) (a' := 1) (b' := 8) (lv' := fun v9 => [(4, .int v9), (3, .int 1), (0, .ref o), (1, .int x_1), (2, .int x_2)]) hx hb dX12_hermits_73 hl (k := 4) rfl (by decide) (fun _ => rfl) (zaddK (i := x_57.toInt) (j := 1) rfl (by decide) i59.1 n74 (Int.le_refl _) (Int.le_refl _) (by decide)) (fun x_94 ls hx_94 hl => ?_)
                      refine lv_goto (tgt := 36) hx hb dX12_hermits_76 (by decide) ?_
                      have hl := lv_sub (l' := [(0, .ref o), (1, .int x_1), (2, .int x_2), (3, .int 1), (4, .int x_94)]) hl [2, 3, 4, 1, 0] rfl
                      have hP : va_P g.1 vwCl (List.flatten [bMo g o a 0 hi ac tp ba en tA fl de iD iO tU fm fk fa fc ft ff fb fi]) H := hP
                      have hD : va_D A (List.flatten [bMo g o a 0 hi ac tp ba en tA fl de iD iO tU fm fk fa fc ft ff fb fi]) := hD
                      exact ih36_61 1 x_94 (by decide) ⟨(Int.le_trans (by decide) hx_94.2.1), hx_94.2.2⟩ H _ ls (zmK hx_94.1 (by decide) n74 (by decide) hk36_61)  hP hD hS (lv_sub hl [0, 1, 2, 3, 4] rfl)
          have hP : va_P g.1 vwCl (List.flatten [bMo g o a 0 hi ac tp ba en tA fl de iD iO tU fm fk fa fc ft ff fb fi]) H := hP
          have hD : va_D A (List.flatten [bMo g o a 0 hi ac tp ba en tA fl de iD iO tU fm fk fa fc ft ff fb fi]) := hD
          exact LP36_60 _ 1 0 (by decide) (by decide) H _ ls (Nat.lt_succ_self _)  hP hD hS (lv_sub hl [0, 1, 2, 3, 4] rfl)
  have hP : va_P g.1 vwCl (List.flatten [bMo g o a 0 hi ac tp ba en tA fl de iD iO tU fm fk fa fc ft ff fb fi]) H := hP
  have hD : va_D A (List.flatten [bMo g o a 0 hi ac tp ba en tA fl de iD iO tU fm fk fa fc ft ff fb fi]) := hD
  exact LP9_4 _ 0 0 (by decide) H _ ls (Nat.lt_succ_self _)  hP hD hS (lv_sub hl [0, 1, 2] rfl)
