set_option maxRecDepth 100000 in
set_option maxHeartbeats 4000000 in
theorem m_feed (l : Launch) (g : zG) (o : Nat) (a : Nat → Nat) (th : Int32) (hi : Int32) (ac : Int32) (tp : Int32) (ba : Int32) (en : Int32) (tA : Int32) (fl : Int32) (de : Int32) (iD : Int32) (iO : Int32) (tU : Int32) (fm : Nat → Int32) (fk : Nat → Int32) (fa : Nat → Int32) (fc : Nat → Int32) (ft : Nat → Int32) (ff : Nat → Int32) (fb : Nat → Int32) (fi : Nat → Int32) (a1 : Int32) (a2 : Int32) (a3 : Int32) (a4 : Int32) (a5 : Int32) (htp : 0 ≤ tp.toInt ∧ tp.toInt ≤ 400) : zM' g l yX12_feed (Cond.code yX12_feed cX12_feed 8 (some .int) :: zB) ({ frames := 0, cells := 0, slots := 0, locals := 0 } : Room) [.ref o, .int a1, .int a2, .int a3, .int a4, .int a5] [bMo g o a th hi ac tp ba en tA fl de iD iO tU fm fk fa fc ft ff fb fi] (fun u : Int32 × Int32 × (Nat → Int32) × Int32 => (fun (th2 : Int32) (tp2 : Int32) (ft2 : Nat → Int32) (q : Int32) => some (.int q)) (u.1) (u.2.1) (u.2.2.1) (u.2.2.2)) (fun u : Int32 × Int32 × (Nat → Int32) × Int32 => (fun (th2 : Int32) (tp2 : Int32) (ft2 : Nat → Int32) (q : Int32) => (0 ≤ tp2.toInt ∧ tp2.toInt ≤ 400) ∧ ((380 < tp.toInt → tp2.toInt = tp.toInt) ∧ (tp.toInt ≤ 380 → tp2.toInt = tp.toInt + 20)) ∧ ((380 < tp.toInt → q.toInt = -1) ∧ (tp.toInt ≤ 380 → q.toInt = tp2.toInt))) (u.1) (u.2.1) (u.2.2.1) (u.2.2.2)) (fun u : Int32 × Int32 × (Nat → Int32) × Int32 => (fun (th2 : Int32) (tp2 : Int32) (ft2 : Nat → Int32) (q : Int32) => [bMo g o a th2 hi ac tp2 ba en tA fl de iD iO tU fm fk fa fc ft2 ff fb fi]) (u.1) (u.2.1) (u.2.2.1) (u.2.2.2)) := by
  refine zM'.of (cc := cX12_feed) (maxL := 8) (rt := (some .int)) (by decide) rfl (Nat.le_of_ble_eq_true rfl) ?_
  intro p e s m args below meth c A ls St hr hlocks hin hK hT hA hP hD hS hl
  obtain ⟨hx, hb, hml, hown, hts⟩ := id St
  have hl : lv_has ls 8 [(0, .ref o), (1, .int a1), (2, .int a2), (3, .int a3), (4, .int a4), (5, .int a5)] := hl
  refine lv_aload_n hx hb dX12_feed_0 rfl (lv_at hl 0 rfl) ?_
  refine lv_iconst (v := 0) hx hb dX12_feed_1 (by decide) ?_
  refine va_put (D := g.1) (ci := 10) (v := .int 0) (ty := .int) (C := RX12) (T := TX12) (N := 20) hx hb hts izRX12 tyX12 tyX12_ok nmX12 hown hK hP hD hS 0 rfl rfl 0 (by decide) (hts _ k871) (fun _ h9 => h9) rfl (by decide +kernel) rfl rfl (Nat.le_of_ble_eq_true rfl) dX12_feed_2 (fun H locs hP hD hS => ?_)
  have hP : va_P g.1 vwCl (List.flatten [bMo g o a 0 hi ac tp ba en tA fl de iD iO tU fm fk fa fc ft ff fb fi]) H := hP
  have hD : va_D A (List.flatten [bMo g o a 0 hi ac tp ba en tA fl de iD iO tU fm fk fa fc ft ff fb fi]) := hD
  refine lv_aload_n hx hb dX12_feed_5 rfl (lv_at hl 0 rfl) ?_
  refine va_get (D := g.1) (ci := 10) (v := .int tp) (C := RX12) (T := TX12) (N := 20) hx hb hts izRX12 hown hK hP 0 rfl rfl 8 (by decide) (hts _ k872) (fun _ h9 => h9) rfl dX12_feed_6 ?_
  refine lv_bipush (v := 20) hx hb dX12_feed_9 (by decide) ?_
  refine lv_iadd hx hb dX12_feed_11 ?_
  refine zg3 (zaddK (i := tp.toInt) (j := 20) (a' := 20) (b' := 420) rfl (by decide) htp.1 htp.2 (Int.le_refl _) (Int.le_refl _) (by decide)) (fun x_1 hx_1 => ?_)
  refine lv_sipush (v := 400) hx hb dX12_feed_12 (by decide) ?_
  refine lv_icmp_le (tgt := 20) hx hb dX12_feed_15 (by decide) (fun cb9 => ?_) (fun cb9 => ?_)
  · skip
    have c2 : x_1.toInt ≤ 400 := zle cb9 rfl (by decide)
    have n3 : x_1.toInt ≤ 400 := Int.le_trans c2 (Int.le_refl _)
    refine lv_iconst (v := 0) hx hb dX12_feed_20 (by decide) ?_
    refine lv_istore (lv' := [(6, .int 0), (0, .ref o), (1, .int a1), (2, .int a2), (3, .int a3), (4, .int a4), (5, .int a5)]) hx hb dX12_feed_21 hl (by decide) rfl (fun ls hl => ?_)
    have hl := lv_sub (l' := [(0, .ref o), (1, .int a1), (2, .int a2), (3, .int a3), (4, .int a4), (5, .int a5), (6, .int 0)]) hl [1, 2, 3, 4, 5, 6, 0] rfl
    have LP23_10 : ∀ (kf : Nat) (x_4 : Int32) (x_5 : Int32) (ft_6 : Nat → Int32), (0 ≤ x_4.toInt ∧ x_4.toInt ≤ 20) → (0 ≤ x_5.toInt ∧ x_5.toInt ≤ 400) → (x_5.toInt = tp.toInt + x_4.toInt) → ∀ (H : Heap) (locs : List Loc) (ls : Array Slot), ((21 - x_4.toInt).toNat) < kf → va_P g.1 vwCl (List.flatten [bMo g o a 0 hi ac x_5 ba en tA fl de iD iO tU fm fk fa fc ft_6 ff fb fi]) H → va_D A (List.flatten [bMo g o a 0 hi ac x_5 ba en tA fl de iD iO tU fm fk fa fc ft_6 ff fb fi]) → va_S A s.heap H locs → lv_has ls 8 [(0, .ref o), (1, .int a1), (2, .int a2), (3, .int a3), (4, .int a4), (5, .int a5), (6, .int x_4)] → W p l e ({ frames := 0, cells := 0, slots := 0, locals := 0 } : Room) s m args below meth c H locs (0) (0) (zF g (fun u : Int32 × Int32 × (Nat → Int32) × Int32 => (fun (th2 : Int32) (tp2 : Int32) (ft2 : Nat → Int32) (q : Int32) => some (.int q)) (u.1) (u.2.1) (u.2.2.1) (u.2.2.2)) (fun u : Int32 × Int32 × (Nat → Int32) × Int32 => (fun (th2 : Int32) (tp2 : Int32) (ft2 : Nat → Int32) (q : Int32) => (0 ≤ tp2.toInt ∧ tp2.toInt ≤ 400) ∧ ((380 < tp.toInt → tp2.toInt = tp.toInt) ∧ (tp.toInt ≤ 380 → tp2.toInt = tp.toInt + 20)) ∧ ((380 < tp.toInt → q.toInt = -1) ∧ (tp.toInt ≤ 380 → q.toInt = tp2.toInt))) (u.1) (u.2.1) (u.2.2.1) (u.2.2.2)) (fun u : Int32 × Int32 × (Nat → Int32) × Int32 => (fun (th2 : Int32) (tp2 : Int32) (ft2 : Nat → Int32) (q : Int32) => [bMo g o a th2 hi ac tp2 ba en tA fl de iD iO tU fm fk fa fc ft2 ff fb fi]) (u.1) (u.2.1) (u.2.2.1) (u.2.2.2)) ({ frames := 0, cells := 0, slots := 0, locals := 0 } : Room) below args s A) (F0 m 23 ls []) := by
      intro kf
      induction kf with
      | zero => intro x_4 x_5 ft_6 i7 i8 i9 H locs ls hk; exact absurd hk (Nat.not_lt_zero _)
      | succ kf ih23_11 =>
        intro x_4 x_5 ft_6 i7 i8 i9 H locs ls hk23_11 hP hD hS hl
        refine lv_iload hx hb dX12_feed_23 (lv_at hl 6 rfl) ?_
        refine lv_bipush (v := 20) hx hb dX12_feed_25 (by decide) ?_
        refine lv_icmp_ge (tgt := 120) hx hb dX12_feed_27 (by decide) (fun cb9 => ?_) (fun cb9 => ?_)
        · skip
          have c12 : 20 ≤ x_4.toInt := zle cb9 (by decide) rfl
          have n13 : 20 ≤ x_4.toInt := Int.le_trans (Int.le_refl _) c12
          refine lv_aload_n hx hb dX12_feed_120 rfl (lv_at hl 0 rfl) ?_
          refine va_get (D := g.1) (ci := 10) (v := .int x_5) (C := RX12) (T := TX12) (N := 20) hx hb hts izRX12 hown hK hP 0 rfl rfl 8 (by decide) (hts _ k872) (fun _ h9 => h9) rfl dX12_feed_121 ?_
          have hP : va_P g.1 vwCl (List.flatten [bMo g o a 0 hi ac x_5 ba en tA fl de iD iO tU fm fk fa fc ft_6 ff fb fi]) H := hP
          have hD : va_D A (List.flatten [bMo g o a 0 hi ac x_5 ba en tA fl de iD iO tU fm fk fa fc ft_6 ff fb fi]) := hD
          exact mret_i hx hb hr hlocks hS (Nat.le_of_ble_eq_true rfl) (Nat.le_of_ble_eq_true rfl) dX12_feed_124 ((0 : Int32), x_5, ft_6, x_5) rfl (show (0 ≤ x_5.toInt ∧ x_5.toInt ≤ 400) ∧ ((380 < tp.toInt → x_5.toInt = tp.toInt) ∧ (tp.toInt ≤ 380 → x_5.toInt = tp.toInt + 20)) ∧ ((380 < tp.toInt → x_5.toInt = -1) ∧ (tp.toInt ≤ 380 → x_5.toInt = x_5.toInt)) from ⟨(by first | assumption | omega | decide | exact rfl | exact zb01 (by omega) | exact Or.inl (by decide) | exact Or.inr (by first | omega | decide)), (by first | assumption | omega | decide | exact rfl | exact zb01 (by omega) | exact Or.inl (by decide) | exact Or.inr (by first | omega | decide)), (by first | assumption | omega | decide | exact rfl | exact zb01 (by omega) | exact Or.inl (by decide) | exact Or.inr (by first | omega | decide))⟩) hP hD
        · skip
          have c14 : x_4.toInt < 20 := zlti (Int32.not_le.mp cb9) rfl (by decide)
          have n15 : x_4.toInt ≤ 19 := zL1 (b := 20) c14 (Int.le_refl _) (by decide)
          refine lv_iload hx hb dX12_feed_30 (lv_at hl 6 rfl) ?_
          refine lv_iconst (v := 4) hx hb dX12_feed_32 (by decide) ?_
          refine lv_icmp_ge (tgt := 40) hx hb dX12_feed_33 (by decide) (fun cb9 => ?_) (fun cb9 => ?_)
          · skip
            have c16 : 4 ≤ x_4.toInt := zle cb9 (by decide) rfl
            have n17 : 4 ≤ x_4.toInt := Int.le_trans (Int.le_refl _) c16
            refine lv_iload hx hb dX12_feed_40 (lv_at hl 6 rfl) ?_
            refine lv_bipush (v := 8) hx hb dX12_feed_42 (by decide) ?_
            refine lv_icmp_ge (tgt := 51) hx hb dX12_feed_44 (by decide) (fun cb9 => ?_) (fun cb9 => ?_)
            · skip
              have c18 : 8 ≤ x_4.toInt := zle cb9 (by decide) rfl
              have n19 : 8 ≤ x_4.toInt := Int.le_trans (Int.le_refl _) c18
              refine lv_iload hx hb dX12_feed_51 (lv_at hl 6 rfl) ?_
              refine lv_bipush (v := 12) hx hb dX12_feed_53 (by decide) ?_
              refine lv_icmp_ge (tgt := 62) hx hb dX12_feed_55 (by decide) (fun cb9 => ?_) (fun cb9 => ?_)
              · skip
                have c20 : 12 ≤ x_4.toInt := zle cb9 (by decide) rfl
                have n21 : 12 ≤ x_4.toInt := Int.le_trans (Int.le_refl _) c20
                refine lv_iload hx hb dX12_feed_62 (lv_at hl 6 rfl) ?_
                refine lv_bipush (v := 16) hx hb dX12_feed_64 (by decide) ?_
                refine lv_icmp_ge (tgt := 74) hx hb dX12_feed_66 (by decide) (fun cb9 => ?_) (fun cb9 => ?_)
                · skip
                  have c22 : 16 ≤ x_4.toInt := zle cb9 (by decide) rfl
                  have n23 : 16 ≤ x_4.toInt := Int.le_trans (Int.le_refl _) c22
                  refine lv_iload hx hb dX12_feed_74 (lv_at hl 5 rfl) ?_
                  refine lv_istore (lv' := [(7, .int a5), (0, .ref o), (1, .int a1), (2, .int a2), (3, .int a3), (4, .int a4), (5, .int a5), (6, .int x_4)]) hx hb dX12_feed_76 hl (by decide) rfl (fun ls hl => ?_)
                  refine lv_aload_n hx hb dX12_feed_78 rfl (lv_at hl 1 rfl) ?_
                  refine va_get (D := g.1) (ci := 10) (v := .ref (a 4)) (C := RX12) (T := TX12) (N := 20) hx hb hts izRX12 hown hK hP 0 rfl rfl 7 (by decide) (hts _ k819) (fun _ h9 => h9) rfl dX12_feed_79 ?_
                  refine lv_aload_n hx hb dX12_feed_82 rfl (lv_at hl 1 rfl) ?_
                  refine va_get (D := g.1) (ci := 10) (v := .int x_5) (C := RX12) (T := TX12) (N := 20) hx hb hts izRX12 hown hK hP 0 rfl rfl 8 (by decide) (hts _ k872) (fun _ h9 => h9) rfl dX12_feed_83 ?_
                  refine lv_iload hx hb dX12_feed_86 (lv_at hl 0 rfl) ?_
                  refine lv_bipush (v := 24) hx hb dX12_feed_88 (by decide) ?_
                  refine lv_bipush (v := 8) hx hb dX12_feed_90 (by decide) ?_
                  refine lv_iload hx hb dX12_feed_92 (lv_at hl 7 rfl) ?_
                  refine lv_iconst (v := 4) hx hb dX12_feed_94 (by decide) ?_
                  refine lv_irem hx hb dX12_feed_95 (by decide) ?_
                  refine zgb (zrem (j := x_4.toInt) (d := 4) rfl (by decide) (Int.le_trans (by decide) n23) (by decide)) (fun x_24 hx_24 => ?_)
                  refine lv_imul hx hb dX12_feed_96 ?_
                  refine zg3 (zmulKL (i := x_24.toInt) (n := 8) (a' := 0) (b' := 24) rfl (by decide) hx_24.1 hx_24.2 (by decide) (by decide)) (fun x_25 hx_25 => ?_)
                  refine lv_isub hx hb dX12_feed_97 ?_
                  refine zg3 (zsubK (i := 24) (j := x_25.toInt) (a' := 0) (b' := 24) (by decide) rfl (Int.le_refl _) (Int.le_refl _) hx_25.2.1 hx_25.2.2 (by decide)) (fun x_26 hx_26 => ?_)
                  refine lv_iushr hx hb dX12_feed_98 rfl ?_
                  refine zg (fun x_27 => ?_)
                  refine lv_sipush (v := 255) hx hb dX12_feed_99 (by decide) ?_
                  refine lv_iand hx hb dX12_feed_102 ?_
                  refine zgb (zand255 _) (fun x_28 hx_28 => ?_)
                  refine va_iast hx hb hK hP hD hS 5 0 rfl rfl (zinI (by omega) (by omega)) dX12_feed_103 (fun H locs hP hD hS => ?_)
                  obtain ⟨ft_29, hP, hD⟩ : ∃ ft_29 : Nat → Int32, va_P g.1 vwCl (List.flatten [bMo g o a 0 hi ac x_5 ba en tA fl de iD iO tU fm fk fa fc ft_29 ff fb fi]) H ∧ va_D A (List.flatten [bMo g o a 0 hi ac x_5 ba en tA fl de iD iO tU fm fk fa fc ft_29 ff fb fi]) := ⟨upd ft_6 x_5.toNatClampNeg x_28, hP, hD⟩
                  refine lv_aload_n hx hb dX12_feed_104 rfl (lv_at hl 1 rfl) ?_
                  refine lv_dup hx hb dX12_feed_105 rfl ?_
                  refine va_get (D := g.1) (ci := 10) (v := .int x_5) (C := RX12) (T := TX12) (N := 20) hx hb hts izRX12 hown hK hP 0 rfl rfl 8 (by decide) (hts _ k872) (fun _ h9 => h9) rfl dX12_feed_106 ?_
                  refine lv_iconst (v := 1) hx hb dX12_feed_109 (by decide) ?_
                  refine lv_iadd hx hb dX12_feed_110 ?_
                  refine zg3 (zaddK (i := x_5.toInt) (j := 1) (a' := 1) (b' := 401) rfl (by decide) i8.1 i8.2 (Int.le_refl _) (Int.le_refl _) (by decide)) (fun x_30 hx_30 => ?_)
                  refine va_put (D := g.1) (ci := 10) (v := .int x_30) (ty := .int) (C := RX12) (T := TX12) (N := 20) hx hb hts izRX12 tyX12 tyX12_ok nmX12 hown hK hP hD hS 0 rfl rfl 8 (by decide) (hts _ k872) (fun _ h9 => h9) rfl (by decide +kernel) rfl rfl (Nat.le_of_ble_eq_true rfl) dX12_feed_111 (fun H locs hP hD hS => ?_)
                  have hP : va_P g.1 vwCl (List.flatten [bMo g o a 0 hi ac x_30 ba en tA fl de iD iO tU fm fk fa fc ft_29 ff fb fi]) H := hP
                  have hD : va_D A (List.flatten [bMo g o a 0 hi ac x_30 ba en tA fl de iD iO tU fm fk fa fc ft_29 ff fb fi]) := hD
                  refine ziinc3 (n' := 1) (a' := 17) (b' := 20) (lv' := fun v9 => [(6, .int v9), (7, .int a5), (0, .ref o), (1, .int a1), (2, .int a2), (3, .int a3), (4, .int a4), (5, .int a5)]) hx hb dX12_feed_114 hl (k := 7) rfl (by decide) (fun _ => rfl) (zaddK (i := x_4.toInt) (j := 1) rfl (by decide) n23 n15 (Int.le_refl _) (Int.le_refl _) (by decide)) (fun x_31 ls hx_31 hl => ?_)
                  refine lv_goto (tgt := 23) hx hb dX12_feed_117 (by decide) ?_
                  have hl := lv_sub (l' := [(0, .ref o), (1, .int a1), (2, .int a2), (3, .int a3), (4, .int a4), (5, .int a5), (6, .int x_31), (7, .int a5)]) hl [2, 3, 4, 5, 6, 7, 0, 1] rfl
                  have hP : va_P g.1 vwCl (List.flatten [bMo g o a 0 hi ac x_30 ba en tA fl de iD iO tU fm fk fa fc ft_29 ff fb fi]) H := hP
                  have hD : va_D A (List.flatten [bMo g o a 0 hi ac x_30 ba en tA fl de iD iO tU fm fk fa fc ft_29 ff fb fi]) := hD
                  exact ih23_11 x_31 x_30 ft_29 ⟨(Int.le_trans (by decide) hx_31.2.1), hx_31.2.2⟩ (by first | omega | assumption | decide) (by first | omega | assumption | decide) H _ ls (zmK hx_31.1 (by decide) n15 (by decide) hk23_11)  hP hD hS (lv_sub hl [0, 1, 2, 3, 4, 5, 6] rfl)
                · skip
                  have c32 : x_4.toInt < 16 := zlti (Int32.not_le.mp cb9) rfl (by decide)
                  have n33 : x_4.toInt ≤ 15 := zL1 (b := 16) c32 (Int.le_refl _) (by decide)
                  refine lv_iload hx hb dX12_feed_69 (lv_at hl 4 rfl) ?_
                  refine lv_goto (tgt := 76) hx hb dX12_feed_71 (by decide) ?_
                  refine lv_istore (lv' := [(7, .int a4), (0, .ref o), (1, .int a1), (2, .int a2), (3, .int a3), (4, .int a4), (5, .int a5), (6, .int x_4)]) hx hb dX12_feed_76 hl (by decide) rfl (fun ls hl => ?_)
                  refine lv_aload_n hx hb dX12_feed_78 rfl (lv_at hl 1 rfl) ?_
                  refine va_get (D := g.1) (ci := 10) (v := .ref (a 4)) (C := RX12) (T := TX12) (N := 20) hx hb hts izRX12 hown hK hP 0 rfl rfl 7 (by decide) (hts _ k819) (fun _ h9 => h9) rfl dX12_feed_79 ?_
                  refine lv_aload_n hx hb dX12_feed_82 rfl (lv_at hl 1 rfl) ?_
                  refine va_get (D := g.1) (ci := 10) (v := .int x_5) (C := RX12) (T := TX12) (N := 20) hx hb hts izRX12 hown hK hP 0 rfl rfl 8 (by decide) (hts _ k872) (fun _ h9 => h9) rfl dX12_feed_83 ?_
                  refine lv_iload hx hb dX12_feed_86 (lv_at hl 0 rfl) ?_
                  refine lv_bipush (v := 24) hx hb dX12_feed_88 (by decide) ?_
                  refine lv_bipush (v := 8) hx hb dX12_feed_90 (by decide) ?_
                  refine lv_iload hx hb dX12_feed_92 (lv_at hl 7 rfl) ?_
                  refine lv_iconst (v := 4) hx hb dX12_feed_94 (by decide) ?_
                  refine lv_irem hx hb dX12_feed_95 (by decide) ?_
                  refine zgb (zrem (j := x_4.toInt) (d := 4) rfl (by decide) (Int.le_trans (by decide) n21) (by decide)) (fun x_34 hx_34 => ?_)
                  refine lv_imul hx hb dX12_feed_96 ?_
                  refine zg3 (zmulKL (i := x_34.toInt) (n := 8) (a' := 0) (b' := 24) rfl (by decide) hx_34.1 hx_34.2 (by decide) (by decide)) (fun x_35 hx_35 => ?_)
                  refine lv_isub hx hb dX12_feed_97 ?_
                  refine zg3 (zsubK (i := 24) (j := x_35.toInt) (a' := 0) (b' := 24) (by decide) rfl (Int.le_refl _) (Int.le_refl _) hx_35.2.1 hx_35.2.2 (by decide)) (fun x_36 hx_36 => ?_)
                  refine lv_iushr hx hb dX12_feed_98 rfl ?_
                  refine zg (fun x_37 => ?_)
                  refine lv_sipush (v := 255) hx hb dX12_feed_99 (by decide) ?_
                  refine lv_iand hx hb dX12_feed_102 ?_
                  refine zgb (zand255 _) (fun x_38 hx_38 => ?_)
                  refine va_iast hx hb hK hP hD hS 5 0 rfl rfl (zinI (by omega) (by omega)) dX12_feed_103 (fun H locs hP hD hS => ?_)
                  obtain ⟨ft_39, hP, hD⟩ : ∃ ft_39 : Nat → Int32, va_P g.1 vwCl (List.flatten [bMo g o a 0 hi ac x_5 ba en tA fl de iD iO tU fm fk fa fc ft_39 ff fb fi]) H ∧ va_D A (List.flatten [bMo g o a 0 hi ac x_5 ba en tA fl de iD iO tU fm fk fa fc ft_39 ff fb fi]) := ⟨upd ft_6 x_5.toNatClampNeg x_38, hP, hD⟩
                  refine lv_aload_n hx hb dX12_feed_104 rfl (lv_at hl 1 rfl) ?_
                  refine lv_dup hx hb dX12_feed_105 rfl ?_
                  refine va_get (D := g.1) (ci := 10) (v := .int x_5) (C := RX12) (T := TX12) (N := 20) hx hb hts izRX12 hown hK hP 0 rfl rfl 8 (by decide) (hts _ k872) (fun _ h9 => h9) rfl dX12_feed_106 ?_
                  refine lv_iconst (v := 1) hx hb dX12_feed_109 (by decide) ?_
                  refine lv_iadd hx hb dX12_feed_110 ?_
                  refine zg3 (zaddK (i := x_5.toInt) (j := 1) (a' := 1) (b' := 401) rfl (by decide) i8.1 i8.2 (Int.le_refl _) (Int.le_refl _) (by decide)) (fun x_40 hx_40 => ?_)
                  refine va_put (D := g.1) (ci := 10) (v := .int x_40) (ty := .int) (C := RX12) (T := TX12) (N := 20) hx hb hts izRX12 tyX12 tyX12_ok nmX12 hown hK hP hD hS 0 rfl rfl 8 (by decide) (hts _ k872) (fun _ h9 => h9) rfl (by decide +kernel) rfl rfl (Nat.le_of_ble_eq_true rfl) dX12_feed_111 (fun H locs hP hD hS => ?_)
                  have hP : va_P g.1 vwCl (List.flatten [bMo g o a 0 hi ac x_40 ba en tA fl de iD iO tU fm fk fa fc ft_39 ff fb fi]) H := hP
                  have hD : va_D A (List.flatten [bMo g o a 0 hi ac x_40 ba en tA fl de iD iO tU fm fk fa fc ft_39 ff fb fi]) := hD
                  refine ziinc3 (n' := 1) (a' := 13) (b' := 16) (lv' := fun v9 => [(6, .int v9), (7, .int a4), (0, .ref o), (1, .int a1), (2, .int a2), (3, .int a3), (4, .int a4), (5, .int a5)]) hx hb dX12_feed_114 hl (k := 7) rfl (by decide) (fun _ => rfl) (zaddK (i := x_4.toInt) (j := 1) rfl (by decide) n21 n33 (Int.le_refl _) (Int.le_refl _) (by decide)) (fun x_41 ls hx_41 hl => ?_)
                  refine lv_goto (tgt := 23) hx hb dX12_feed_117 (by decide) ?_
                  have hl := lv_sub (l' := [(0, .ref o), (1, .int a1), (2, .int a2), (3, .int a3), (4, .int a4), (5, .int a5), (6, .int x_41), (7, .int a4)]) hl [2, 3, 4, 5, 6, 7, 0, 1] rfl
                  have hP : va_P g.1 vwCl (List.flatten [bMo g o a 0 hi ac x_40 ba en tA fl de iD iO tU fm fk fa fc ft_39 ff fb fi]) H := hP
                  have hD : va_D A (List.flatten [bMo g o a 0 hi ac x_40 ba en tA fl de iD iO tU fm fk fa fc ft_39 ff fb fi]) := hD
                  exact ih23_11 x_41 x_40 ft_39 ⟨(Int.le_trans (by decide) hx_41.2.1), (Int.le_trans hx_41.2.2 (by decide))⟩ (by first | omega | assumption | decide) (by first | omega | assumption | decide) H _ ls (zmK hx_41.1 (by decide) n33 (by decide) hk23_11)  hP hD hS (lv_sub hl [0, 1, 2, 3, 4, 5, 6] rfl)
              · skip
                have c42 : x_4.toInt < 12 := zlti (Int32.not_le.mp cb9) rfl (by decide)
                have n43 : x_4.toInt ≤ 11 := zL1 (b := 12) c42 (Int.le_refl _) (by decide)
                refine lv_iload_n hx hb dX12_feed_58 rfl (lv_at hl 3 rfl) ?_
                refine lv_goto (tgt := 76) hx hb dX12_feed_59 (by decide) ?_
                refine lv_istore (lv' := [(7, .int a3), (0, .ref o), (1, .int a1), (2, .int a2), (3, .int a3), (4, .int a4), (5, .int a5), (6, .int x_4)]) hx hb dX12_feed_76 hl (by decide) rfl (fun ls hl => ?_)
                refine lv_aload_n hx hb dX12_feed_78 rfl (lv_at hl 1 rfl) ?_
                refine va_get (D := g.1) (ci := 10) (v := .ref (a 4)) (C := RX12) (T := TX12) (N := 20) hx hb hts izRX12 hown hK hP 0 rfl rfl 7 (by decide) (hts _ k819) (fun _ h9 => h9) rfl dX12_feed_79 ?_
                refine lv_aload_n hx hb dX12_feed_82 rfl (lv_at hl 1 rfl) ?_
                refine va_get (D := g.1) (ci := 10) (v := .int x_5) (C := RX12) (T := TX12) (N := 20) hx hb hts izRX12 hown hK hP 0 rfl rfl 8 (by decide) (hts _ k872) (fun _ h9 => h9) rfl dX12_feed_83 ?_
                refine lv_iload hx hb dX12_feed_86 (lv_at hl 0 rfl) ?_
                refine lv_bipush (v := 24) hx hb dX12_feed_88 (by decide) ?_
                refine lv_bipush (v := 8) hx hb dX12_feed_90 (by decide) ?_
                refine lv_iload hx hb dX12_feed_92 (lv_at hl 7 rfl) ?_
                refine lv_iconst (v := 4) hx hb dX12_feed_94 (by decide) ?_
                refine lv_irem hx hb dX12_feed_95 (by decide) ?_
                refine zgb (zrem (j := x_4.toInt) (d := 4) rfl (by decide) (Int.le_trans (by decide) n19) (by decide)) (fun x_44 hx_44 => ?_)
                refine lv_imul hx hb dX12_feed_96 ?_
                refine zg3 (zmulKL (i := x_44.toInt) (n := 8) (a' := 0) (b' := 24) rfl (by decide) hx_44.1 hx_44.2 (by decide) (by decide)) (fun x_45 hx_45 => ?_)
                refine lv_isub hx hb dX12_feed_97 ?_
                refine zg3 (zsubK (i := 24) (j := x_45.toInt) (a' := 0) (b' := 24) (by decide) rfl (Int.le_refl _) (Int.le_refl _) hx_45.2.1 hx_45.2.2 (by decide)) (fun x_46 hx_46 => ?_)
                refine lv_iushr hx hb dX12_feed_98 rfl ?_
                refine zg (fun x_47 => ?_)
                refine lv_sipush (v := 255) hx hb dX12_feed_99 (by decide) ?_
                refine lv_iand hx hb dX12_feed_102 ?_
                refine zgb (zand255 _) (fun x_48 hx_48 => ?_)
                refine va_iast hx hb hK hP hD hS 5 0 rfl rfl (zinI (by omega) (by omega)) dX12_feed_103 (fun H locs hP hD hS => ?_)
                obtain ⟨ft_49, hP, hD⟩ : ∃ ft_49 : Nat → Int32, va_P g.1 vwCl (List.flatten [bMo g o a 0 hi ac x_5 ba en tA fl de iD iO tU fm fk fa fc ft_49 ff fb fi]) H ∧ va_D A (List.flatten [bMo g o a 0 hi ac x_5 ba en tA fl de iD iO tU fm fk fa fc ft_49 ff fb fi]) := ⟨upd ft_6 x_5.toNatClampNeg x_48, hP, hD⟩
                refine lv_aload_n hx hb dX12_feed_104 rfl (lv_at hl 1 rfl) ?_
                refine lv_dup hx hb dX12_feed_105 rfl ?_
                refine va_get (D := g.1) (ci := 10) (v := .int x_5) (C := RX12) (T := TX12) (N := 20) hx hb hts izRX12 hown hK hP 0 rfl rfl 8 (by decide) (hts _ k872) (fun _ h9 => h9) rfl dX12_feed_106 ?_
                refine lv_iconst (v := 1) hx hb dX12_feed_109 (by decide) ?_
                refine lv_iadd hx hb dX12_feed_110 ?_
                refine zg3 (zaddK (i := x_5.toInt) (j := 1) (a' := 1) (b' := 401) rfl (by decide) i8.1 i8.2 (Int.le_refl _) (Int.le_refl _) (by decide)) (fun x_50 hx_50 => ?_)
                refine va_put (D := g.1) (ci := 10) (v := .int x_50) (ty := .int) (C := RX12) (T := TX12) (N := 20) hx hb hts izRX12 tyX12 tyX12_ok nmX12 hown hK hP hD hS 0 rfl rfl 8 (by decide) (hts _ k872) (fun _ h9 => h9) rfl (by decide +kernel) rfl rfl (Nat.le_of_ble_eq_true rfl) dX12_feed_111 (fun H locs hP hD hS => ?_)
                have hP : va_P g.1 vwCl (List.flatten [bMo g o a 0 hi ac x_50 ba en tA fl de iD iO tU fm fk fa fc ft_49 ff fb fi]) H := hP
                have hD : va_D A (List.flatten [bMo g o a 0 hi ac x_50 ba en tA fl de iD iO tU fm fk fa fc ft_49 ff fb fi]) := hD
                refine ziinc3 (n' := 1) (a' := 9) (b' := 12) (lv' := fun v9 => [(6, .int v9), (7, .int a3), (0, .ref o), (1, .int a1), (2, .int a2), (3, .int a3), (4, .int a4), (5, .int a5)]) hx hb dX12_feed_114 hl (k := 7) rfl (by decide) (fun _ => rfl) (zaddK (i := x_4.toInt) (j := 1) rfl (by decide) n19 n43 (Int.le_refl _) (Int.le_refl _) (by decide)) (fun x_51 ls hx_51 hl => ?_)
                refine lv_goto (tgt := 23) hx hb dX12_feed_117 (by decide) ?_
                have hl := lv_sub (l' := [(0, .ref o), (1, .int a1), (2, .int a2), (3, .int a3), (4, .int a4), (5, .int a5), (6, .int x_51), (7, .int a3)]) hl [2, 3, 4, 5, 6, 7, 0, 1] rfl
                have hP : va_P g.1 vwCl (List.flatten [bMo g o a 0 hi ac x_50 ba en tA fl de iD iO tU fm fk fa fc ft_49 ff fb fi]) H := hP
                have hD : va_D A (List.flatten [bMo g o a 0 hi ac x_50 ba en tA fl de iD iO tU fm fk fa fc ft_49 ff fb fi]) := hD
                exact ih23_11 x_51 x_50 ft_49 ⟨(Int.le_trans (by decide) hx_51.2.1), (Int.le_trans hx_51.2.2 (by decide))⟩ (by first | omega | assumption | decide) (by first | omega | assumption | decide) H _ ls (zmK hx_51.1 (by decide) n43 (by decide) hk23_11)  hP hD hS (lv_sub hl [0, 1, 2, 3, 4, 5, 6] rfl)
            · skip
              have c52 : x_4.toInt < 8 := zlti (Int32.not_le.mp cb9) rfl (by decide)
              have n53 : x_4.toInt ≤ 7 := zL1 (b := 8) c52 (Int.le_refl _) (by decide)
              refine lv_iload_n hx hb dX12_feed_47 rfl (lv_at hl 2 rfl) ?_
              refine lv_goto (tgt := 76) hx hb dX12_feed_48 (by decide) ?_
              refine lv_istore (lv' := [(7, .int a2), (0, .ref o), (1, .int a1), (2, .int a2), (3, .int a3), (4, .int a4), (5, .int a5), (6, .int x_4)]) hx hb dX12_feed_76 hl (by decide) rfl (fun ls hl => ?_)
              refine lv_aload_n hx hb dX12_feed_78 rfl (lv_at hl 1 rfl) ?_
              refine va_get (D := g.1) (ci := 10) (v := .ref (a 4)) (C := RX12) (T := TX12) (N := 20) hx hb hts izRX12 hown hK hP 0 rfl rfl 7 (by decide) (hts _ k819) (fun _ h9 => h9) rfl dX12_feed_79 ?_
              refine lv_aload_n hx hb dX12_feed_82 rfl (lv_at hl 1 rfl) ?_
              refine va_get (D := g.1) (ci := 10) (v := .int x_5) (C := RX12) (T := TX12) (N := 20) hx hb hts izRX12 hown hK hP 0 rfl rfl 8 (by decide) (hts _ k872) (fun _ h9 => h9) rfl dX12_feed_83 ?_
              refine lv_iload hx hb dX12_feed_86 (lv_at hl 0 rfl) ?_
              refine lv_bipush (v := 24) hx hb dX12_feed_88 (by decide) ?_
              refine lv_bipush (v := 8) hx hb dX12_feed_90 (by decide) ?_
              refine lv_iload hx hb dX12_feed_92 (lv_at hl 7 rfl) ?_
              refine lv_iconst (v := 4) hx hb dX12_feed_94 (by decide) ?_
              refine lv_irem hx hb dX12_feed_95 (by decide) ?_
              refine zgb (zrem (j := x_4.toInt) (d := 4) rfl (by decide) (Int.le_trans (by decide) n17) (by decide)) (fun x_54 hx_54 => ?_)
              refine lv_imul hx hb dX12_feed_96 ?_
              refine zg3 (zmulKL (i := x_54.toInt) (n := 8) (a' := 0) (b' := 24) rfl (by decide) hx_54.1 hx_54.2 (by decide) (by decide)) (fun x_55 hx_55 => ?_)
              refine lv_isub hx hb dX12_feed_97 ?_
              refine zg3 (zsubK (i := 24) (j := x_55.toInt) (a' := 0) (b' := 24) (by decide) rfl (Int.le_refl _) (Int.le_refl _) hx_55.2.1 hx_55.2.2 (by decide)) (fun x_56 hx_56 => ?_)
              refine lv_iushr hx hb dX12_feed_98 rfl ?_
              refine zg (fun x_57 => ?_)
              refine lv_sipush (v := 255) hx hb dX12_feed_99 (by decide) ?_
              refine lv_iand hx hb dX12_feed_102 ?_
              refine zgb (zand255 _) (fun x_58 hx_58 => ?_)
              refine va_iast hx hb hK hP hD hS 5 0 rfl rfl (zinI (by omega) (by omega)) dX12_feed_103 (fun H locs hP hD hS => ?_)
              obtain ⟨ft_59, hP, hD⟩ : ∃ ft_59 : Nat → Int32, va_P g.1 vwCl (List.flatten [bMo g o a 0 hi ac x_5 ba en tA fl de iD iO tU fm fk fa fc ft_59 ff fb fi]) H ∧ va_D A (List.flatten [bMo g o a 0 hi ac x_5 ba en tA fl de iD iO tU fm fk fa fc ft_59 ff fb fi]) := ⟨upd ft_6 x_5.toNatClampNeg x_58, hP, hD⟩
              refine lv_aload_n hx hb dX12_feed_104 rfl (lv_at hl 1 rfl) ?_
              refine lv_dup hx hb dX12_feed_105 rfl ?_
              refine va_get (D := g.1) (ci := 10) (v := .int x_5) (C := RX12) (T := TX12) (N := 20) hx hb hts izRX12 hown hK hP 0 rfl rfl 8 (by decide) (hts _ k872) (fun _ h9 => h9) rfl dX12_feed_106 ?_
              refine lv_iconst (v := 1) hx hb dX12_feed_109 (by decide) ?_
              refine lv_iadd hx hb dX12_feed_110 ?_
              refine zg3 (zaddK (i := x_5.toInt) (j := 1) (a' := 1) (b' := 401) rfl (by decide) i8.1 i8.2 (Int.le_refl _) (Int.le_refl _) (by decide)) (fun x_60 hx_60 => ?_)
              refine va_put (D := g.1) (ci := 10) (v := .int x_60) (ty := .int) (C := RX12) (T := TX12) (N := 20) hx hb hts izRX12 tyX12 tyX12_ok nmX12 hown hK hP hD hS 0 rfl rfl 8 (by decide) (hts _ k872) (fun _ h9 => h9) rfl (by decide +kernel) rfl rfl (Nat.le_of_ble_eq_true rfl) dX12_feed_111 (fun H locs hP hD hS => ?_)
              have hP : va_P g.1 vwCl (List.flatten [bMo g o a 0 hi ac x_60 ba en tA fl de iD iO tU fm fk fa fc ft_59 ff fb fi]) H := hP
              have hD : va_D A (List.flatten [bMo g o a 0 hi ac x_60 ba en tA fl de iD iO tU fm fk fa fc ft_59 ff fb fi]) := hD
              refine ziinc3 (n' := 1) (a' := 5) (b' := 8) (lv' := fun v9 => [(6, .int v9), (7, .int a2), (0, .ref o), (1, .int a1), (2, .int a2), (3, .int a3), (4, .int a4), (5, .int a5)]) hx hb dX12_feed_114 hl (k := 7) rfl (by decide) (fun _ => rfl) (zaddK (i := x_4.toInt) (j := 1) rfl (by decide) n17 n53 (Int.le_refl _) (Int.le_refl _) (by decide)) (fun x_61 ls hx_61 hl => ?_)
              refine lv_goto (tgt := 23) hx hb dX12_feed_117 (by decide) ?_
              have hl := lv_sub (l' := [(0, .ref o), (1, .int a1), (2, .int a2), (3, .int a3), (4, .int a4), (5, .int a5), (6, .int x_61), (7, .int a2)]) hl [2, 3, 4, 5, 6, 7, 0, 1] rfl
              have hP : va_P g.1 vwCl (List.flatten [bMo g o a 0 hi ac x_60 ba en tA fl de iD iO tU fm fk fa fc ft_59 ff fb fi]) H := hP
              have hD : va_D A (List.flatten [bMo g o a 0 hi ac x_60 ba en tA fl de iD iO tU fm fk fa fc ft_59 ff fb fi]) := hD
              exact ih23_11 x_61 x_60 ft_59 ⟨(Int.le_trans (by decide) hx_61.2.1), (Int.le_trans hx_61.2.2 (by decide))⟩ (by first | omega | assumption | decide) (by first | omega | assumption | decide) H _ ls (zmK hx_61.1 (by decide) n53 (by decide) hk23_11)  hP hD hS (lv_sub hl [0, 1, 2, 3, 4, 5, 6] rfl)
          · skip
            have c62 : x_4.toInt < 4 := zlti (Int32.not_le.mp cb9) rfl (by decide)
            have n63 : x_4.toInt ≤ 3 := zL1 (b := 4) c62 (Int.le_refl _) (by decide)
            refine lv_iload_n hx hb dX12_feed_36 rfl (lv_at hl 1 rfl) ?_
            refine lv_goto (tgt := 76) hx hb dX12_feed_37 (by decide) ?_
            refine lv_istore (lv' := [(7, .int a1), (0, .ref o), (1, .int a1), (2, .int a2), (3, .int a3), (4, .int a4), (5, .int a5), (6, .int x_4)]) hx hb dX12_feed_76 hl (by decide) rfl (fun ls hl => ?_)
            refine lv_aload_n hx hb dX12_feed_78 rfl (lv_at hl 1 rfl) ?_
            refine va_get (D := g.1) (ci := 10) (v := .ref (a 4)) (C := RX12) (T := TX12) (N := 20) hx hb hts izRX12 hown hK hP 0 rfl rfl 7 (by decide) (hts _ k819) (fun _ h9 => h9) rfl dX12_feed_79 ?_
            refine lv_aload_n hx hb dX12_feed_82 rfl (lv_at hl 1 rfl) ?_
            refine va_get (D := g.1) (ci := 10) (v := .int x_5) (C := RX12) (T := TX12) (N := 20) hx hb hts izRX12 hown hK hP 0 rfl rfl 8 (by decide) (hts _ k872) (fun _ h9 => h9) rfl dX12_feed_83 ?_
            refine lv_iload hx hb dX12_feed_86 (lv_at hl 0 rfl) ?_
            refine lv_bipush (v := 24) hx hb dX12_feed_88 (by decide) ?_
            refine lv_bipush (v := 8) hx hb dX12_feed_90 (by decide) ?_
            refine lv_iload hx hb dX12_feed_92 (lv_at hl 7 rfl) ?_
            refine lv_iconst (v := 4) hx hb dX12_feed_94 (by decide) ?_
            refine lv_irem hx hb dX12_feed_95 (by decide) ?_
            refine zgb (zrem (j := x_4.toInt) (d := 4) rfl (by decide) i7.1 (by decide)) (fun x_64 hx_64 => ?_)
            refine lv_imul hx hb dX12_feed_96 ?_
            refine zg3 (zmulKL (i := x_64.toInt) (n := 8) (a' := 0) (b' := 24) rfl (by decide) hx_64.1 hx_64.2 (by decide) (by decide)) (fun x_65 hx_65 => ?_)
            refine lv_isub hx hb dX12_feed_97 ?_
            refine zg3 (zsubK (i := 24) (j := x_65.toInt) (a' := 0) (b' := 24) (by decide) rfl (Int.le_refl _) (Int.le_refl _) hx_65.2.1 hx_65.2.2 (by decide)) (fun x_66 hx_66 => ?_)
            refine lv_iushr hx hb dX12_feed_98 rfl ?_
            refine zg (fun x_67 => ?_)
            refine lv_sipush (v := 255) hx hb dX12_feed_99 (by decide) ?_
            refine lv_iand hx hb dX12_feed_102 ?_
            refine zgb (zand255 _) (fun x_68 hx_68 => ?_)
            refine va_iast hx hb hK hP hD hS 5 0 rfl rfl (zinI (by omega) (by omega)) dX12_feed_103 (fun H locs hP hD hS => ?_)
            obtain ⟨ft_69, hP, hD⟩ : ∃ ft_69 : Nat → Int32, va_P g.1 vwCl (List.flatten [bMo g o a 0 hi ac x_5 ba en tA fl de iD iO tU fm fk fa fc ft_69 ff fb fi]) H ∧ va_D A (List.flatten [bMo g o a 0 hi ac x_5 ba en tA fl de iD iO tU fm fk fa fc ft_69 ff fb fi]) := ⟨upd ft_6 x_5.toNatClampNeg x_68, hP, hD⟩
            refine lv_aload_n hx hb dX12_feed_104 rfl (lv_at hl 1 rfl) ?_
            refine lv_dup hx hb dX12_feed_105 rfl ?_
            refine va_get (D := g.1) (ci := 10) (v := .int x_5) (C := RX12) (T := TX12) (N := 20) hx hb hts izRX12 hown hK hP 0 rfl rfl 8 (by decide) (hts _ k872) (fun _ h9 => h9) rfl dX12_feed_106 ?_
            refine lv_iconst (v := 1) hx hb dX12_feed_109 (by decide) ?_
            refine lv_iadd hx hb dX12_feed_110 ?_
            refine zg3 (zaddK (i := x_5.toInt) (j := 1) (a' := 1) (b' := 401) rfl (by decide) i8.1 i8.2 (Int.le_refl _) (Int.le_refl _) (by decide)) (fun x_70 hx_70 => ?_)
            refine va_put (D := g.1) (ci := 10) (v := .int x_70) (ty := .int) (C := RX12) (T := TX12) (N := 20) hx hb hts izRX12 tyX12 tyX12_ok nmX12 hown hK hP hD hS 0 rfl rfl 8 (by decide) (hts _ k872) (fun _ h9 => h9) rfl (by decide +kernel) rfl rfl (Nat.le_of_ble_eq_true rfl) dX12_feed_111 (fun H locs hP hD hS => ?_)
            have hP : va_P g.1 vwCl (List.flatten [bMo g o a 0 hi ac x_70 ba en tA fl de iD iO tU fm fk fa fc ft_69 ff fb fi]) H := hP
            have hD : va_D A (List.flatten [bMo g o a 0 hi ac x_70 ba en tA fl de iD iO tU fm fk fa fc ft_69 ff fb fi]) := hD
            refine ziinc3 (n' := 1) (a' := 1) (b' := 4) (lv' := fun v9 => [(6, .int v9), (7, .int a1), (0, .ref o), (1, .int a1), (2, .int a2), (3, .int a3), (4, .int a4), (5, .int a5)]) hx hb dX12_feed_114 hl (k := 7) rfl (by decide) (fun _ => rfl) (zaddK (i := x_4.toInt) (j := 1) rfl (by decide) i7.1 n63 (Int.le_refl _) (Int.le_refl _) (by decide)) (fun x_71 ls hx_71 hl => ?_)
            refine lv_goto (tgt := 23) hx hb dX12_feed_117 (by decide) ?_
            have hl := lv_sub (l' := [(0, .ref o), (1, .int a1), (2, .int a2), (3, .int a3), (4, .int a4), (5, .int a5), (6, .int x_71), (7, .int a1)]) hl [2, 3, 4, 5, 6, 7, 0, 1] rfl
            have hP : va_P g.1 vwCl (List.flatten [bMo g o a 0 hi ac x_70 ba en tA fl de iD iO tU fm fk fa fc ft_69 ff fb fi]) H := hP
            have hD : va_D A (List.flatten [bMo g o a 0 hi ac x_70 ba en tA fl de iD iO tU fm fk fa fc ft_69 ff fb fi]) := hD
            exact ih23_11 x_71 x_70 ft_69 ⟨(Int.le_trans (by decide) hx_71.2.1), (Int.le_trans hx_71.2.2 (by decide))⟩ (by first | omega | assumption | decide) (by first | omega | assumption | decide) H _ ls (zmK hx_71.1 (by decide) n63 (by decide) hk23_11)  hP hD hS (lv_sub hl [0, 1, 2, 3, 4, 5, 6] rfl)
    have hL0 : (0 : Int32).toInt = 0 := by decide
    have hP : va_P g.1 vwCl (List.flatten [bMo g o a 0 hi ac tp ba en tA fl de iD iO tU fm fk fa fc ft ff fb fi]) H := hP
    have hD : va_D A (List.flatten [bMo g o a 0 hi ac tp ba en tA fl de iD iO tU fm fk fa fc ft ff fb fi]) := hD
    exact LP23_10 _ 0 tp ft (by decide) ⟨htp.1, htp.2⟩ (by first | omega | assumption | decide) H _ ls (Nat.lt_succ_self _)  hP hD hS (lv_sub hl [0, 1, 2, 3, 4, 5, 6] rfl)
  · skip
    have c72 : 400 < x_1.toInt := zlti (Int32.not_le.mp cb9) (by decide) rfl
    have n73 : 401 ≤ x_1.toInt := zL2 (a := 400) c72 (Int.le_refl _) (by decide)
    refine lv_iconst (v := (-1)) hx hb dX12_feed_18 (by decide) ?_
    have hLn1 : ((-1) : Int32).toInt = (-1) := by decide
    have hP : va_P g.1 vwCl (List.flatten [bMo g o a 0 hi ac tp ba en tA fl de iD iO tU fm fk fa fc ft ff fb fi]) H := hP
    have hD : va_D A (List.flatten [bMo g o a 0 hi ac tp ba en tA fl de iD iO tU fm fk fa fc ft ff fb fi]) := hD
    exact mret_i hx hb hr hlocks hS (Nat.le_of_ble_eq_true rfl) (Nat.le_of_ble_eq_true rfl) dX12_feed_19 ((0 : Int32), tp, ft, -1) rfl (show (0 ≤ tp.toInt ∧ tp.toInt ≤ 400) ∧ ((380 < tp.toInt → tp.toInt = tp.toInt) ∧ (tp.toInt ≤ 380 → tp.toInt = tp.toInt + 20)) ∧ ((380 < tp.toInt → ((-1) : Int32).toInt = -1) ∧ (tp.toInt ≤ 380 → ((-1) : Int32).toInt = tp.toInt)) from ⟨(by first | assumption | omega | decide | exact rfl | exact zb01 (by omega) | exact Or.inl (by decide) | exact Or.inr (by first | omega | decide)), (by first | assumption | omega | decide | exact rfl | exact zb01 (by omega) | exact Or.inl (by decide) | exact Or.inr (by first | omega | decide)), (by first | assumption | omega | decide | exact rfl | exact zb01 (by omega) | exact Or.inl (by decide) | exact Or.inr (by first | omega | decide))⟩) hP hD
