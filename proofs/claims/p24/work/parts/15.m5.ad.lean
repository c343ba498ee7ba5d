set_option maxRecDepth 100000 in
set_option maxHeartbeats 4000000 in
theorem m_ask (l : Launch) (g : zG) (o : Nat) (a : Nat → Nat) (th : Int32) (hi : Int32) (ac : Int32) (tp : Int32) (ba : Int32) (en : Int32) (tA : Int32) (fl : Int32) (de : Int32) (iD : Int32) (iO : Int32) (tU : Int32) (fm : Nat → Int32) (fk : Nat → Int32) (fa : Nat → Int32) (fc : Nat → Int32) (ft : Nat → Int32) (ff : Nat → Int32) (fb : Nat → Int32) (fi : Nat → Int32) (rfm : rM fm) (htp : 0 ≤ tp.toInt ∧ tp.toInt ≤ 400) : zM' g l yX12_ask (Cond.code yX12_ask cX12_ask 8 (some .int) :: zB) ({ frames := 3, cells := 0, slots := 0, locals := 68 } : Room) [.ref o] [bMo g o a th hi ac tp ba en tA fl de iD iO tU fm fk fa fc ft ff fb fi] (fun u : Int32 × (Nat → Int32) × Int32 => (fun (th2 : Int32) (fi2 : Nat → Int32) (q : Int32) => some (.int q)) (u.1) (u.2.1) (u.2.2)) (fun u : Int32 × (Nat → Int32) × Int32 => (fun (th2 : Int32) (fi2 : Nat → Int32) (q : Int32) => True) (u.1) (u.2.1) (u.2.2)) (fun u : Int32 × (Nat → Int32) × Int32 => (fun (th2 : Int32) (fi2 : Nat → Int32) (q : Int32) => [bMo g o a th2 hi ac 0 ba en tA fl de iD iO tU fm fk fa fc ft ff fb fi2]) (u.1) (u.2.1) (u.2.2)) := by
  refine zM'.of (cc := cX12_ask) (maxL := 8) (rt := (some .int)) (by decide) rfl (Nat.le_of_ble_eq_true rfl) ?_
  intro p e s m args below meth c A ls St hr hlocks hin hK hT hA hP hD hS hl
  obtain ⟨hx, hb, hml, hown, hts⟩ := id St
  have hl : lv_has ls 8 [(0, .ref o)] := hl
  refine lv_aload_n hx hb dX12_ask_0 rfl (lv_at hl 0 rfl) ?_
  refine mcallV' (g := g) (q0 := 0) (ci := 10) (As := []) (rest := []) St hK hT hA hP hD hS hl.1 [0] [] rfl rfl rfl (m_told l g o a th hi ac tp ba en tA fl de iD iO tU fm fk fa fc ft ff fb fi rfm htp) (cwV 0 hts (zgL (zl4 k1104 k1105 k1106 k839) k1100) rfl rfl rfl (by decide +kernel) ⟨Nat.le_of_ble_eq_true rfl, Nat.le_of_ble_eq_true rfl⟩) rfl rfl rfl rfl (Nat.le_of_ble_eq_true rfl) dX12_ask_1 ⟨(Nat.le_of_ble_eq_true rfl), (Nat.le_of_ble_eq_true rfl)⟩ (fun u_ H locs hq3 hP hD hS => ?_)
  obtain ⟨fi2_1, q_2⟩ := u_
  have hP : va_P g.1 vwCl (List.flatten [bMo g o a th hi ac 0 ba en tA fl de iD iO tU fm fk fa fc ft ff fb fi2_1]) H := hP
  have hD : va_D A (List.flatten [bMo g o a th hi ac 0 ba en tA fl de iD iO tU fm fk fa fc ft ff fb fi2_1]) := hD
  refine W.widen (k := 0) (n := 0) (Nat.le_of_ble_eq_true rfl) (Nat.le_of_ble_eq_true rfl) ?_
  refine W.eq (g2 := F0 m 4 ls [.int q_2]) rfl ?_
  refine lv_istore_n (lv' := [(1, .int q_2), (0, .ref o)]) hx hb dX12_ask_4 rfl hl (by decide) rfl (fun ls hl => ?_)
  refine lv_aload_n hx hb dX12_ask_5 rfl (lv_at hl 1 rfl) ?_
  refine lv_iload_n hx hb dX12_ask_6 rfl (lv_at hl 0 rfl) ?_
  refine lv_iconst (v := (-1)) hx hb dX12_ask_7 (by decide) ?_
  refine lv_icmp_ne (tgt := 15) hx hb dX12_ask_8 (by decide) (fun cb9 => ?_) (fun cb9 => ?_)
  · skip
    have c4 : ¬ q_2.toInt = (-1) := zne cb9 rfl (by decide)
    refine lv_iconst (v := 0) hx hb dX12_ask_15 (by decide) ?_
    refine va_put (D := g.1) (ci := 10) (v := .int 0) (ty := .int) (C := RX12) (T := TX12) (N := 20) hx hb hts izRX12 tyX12 tyX12_ok nmX12 hown hK hP hD hS 0 rfl rfl 0 (by decide) (hts _ k825) (fun _ h9 => h9) rfl (by decide +kernel) rfl rfl (Nat.le_of_ble_eq_true rfl) dX12_ask_16 (fun H locs hP hD hS => ?_)
    have hP : va_P g.1 vwCl (List.flatten [bMo g o a 0 hi ac 0 ba en tA fl de iD iO tU fm fk fa fc ft ff fb fi2_1]) H := hP
    have hD : va_D A (List.flatten [bMo g o a 0 hi ac 0 ba en tA fl de iD iO tU fm fk fa fc ft ff fb fi2_1]) := hD
    refine lv_aload_n hx hb dX12_ask_19 rfl (lv_at hl 1 rfl) ?_
    refine va_get (D := g.1) (ci := 10) (v := .int 0) (C := RX12) (T := TX12) (N := 20) hx hb hts izRX12 hown hK hP 0 rfl rfl 0 (by decide) (hts _ k825) (fun _ h9 => h9) rfl dX12_ask_20 ?_
    refine lv_if_le (tgt := 28) hx hb dX12_ask_23 (by decide) (fun _ => ?_) (fun c5 => absurd (by decide) c5)
    refine lv_iconst (v := (-1)) hx hb dX12_ask_28 (by decide) ?_
    refine lv_istore_n (lv' := [(2, .int (-1)), (1, .int q_2), (0, .ref o)]) hx hb dX12_ask_29 rfl hl (by decide) rfl (fun ls hl => ?_)
    refine lv_ldcw (v := 2000000000) hx hb hown (hts _ k1108) dX12_ask_30 ?_
    refine lv_istore_n (lv' := [(3, .int 2000000000), (2, .int (-1)), (1, .int q_2), (0, .ref o)]) hx hb dX12_ask_33 rfl hl (by decide) rfl (fun ls hl => ?_)
    refine lv_iconst (v := 0) hx hb dX12_ask_34 (by decide) ?_
    refine lv_istore (lv' := [(4, .int 0), (3, .int 2000000000), (2, .int (-1)), (1, .int q_2), (0, .ref o)]) hx hb dX12_ask_35 hl (by decide) rfl (fun ls hl => ?_)
    have hl := lv_sub (l' := [(0, .ref o), (1, .int q_2), (2, .int (-1)), (3, .int 2000000000), (4, .int 0)]) hl [4, 3, 2, 1, 0] rfl
    have LP37_11 : ∀ (kf : Nat) (x_6 : Int32) (x_7 : Int32) (x_8 : Int32), ((-1) ≤ x_6.toInt) → (0 ≤ x_8.toInt ∧ x_8.toInt ≤ 8) → ∀ (H : Heap) (locs : List Loc) (ls : Array Slot), ((9 - x_8.toInt).toNat) < kf → va_P g.1 vwCl (List.flatten [bMo g o a 0 hi ac 0 ba en tA fl de iD iO tU fm fk fa fc ft ff fb fi2_1]) H → va_D A (List.flatten [bMo g o a 0 hi ac 0 ba en tA fl de iD iO tU fm fk fa fc ft ff fb fi2_1]) → va_S A s.heap H locs → lv_has ls 8 [(0, .ref o), (1, .int q_2), (2, .int x_6), (3, .int x_7), (4, .int x_8)] → W p l e ({ frames := 3, cells := 0, slots := 0, locals := 68 } : Room) s m args below meth c H locs (0) (0) (zF g (fun u : Int32 × (Nat → Int32) × Int32 => (fun (th2 : Int32) (fi2 : Nat → Int32) (q : Int32) => some (.int q)) (u.1) (u.2.1) (u.2.2)) (fun u : Int32 × (Nat → Int32) × Int32 => (fun (th2 : Int32) (fi2 : Nat → Int32) (q : Int32) => True) (u.1) (u.2.1) (u.2.2)) (fun u : Int32 × (Nat → Int32) × Int32 => (fun (th2 : Int32) (fi2 : Nat → Int32) (q : Int32) => [bMo g o a th2 hi ac 0 ba en tA fl de iD iO tU fm fk fa fc ft ff fb fi2]) (u.1) (u.2.1) (u.2.2)) ({ frames := 3, cells := 0, slots := 0, locals := 68 } : Room) below args s A) (F0 m 37 ls []) := by
      intro kf
      induction kf with
      | zero => intro x_6 x_7 x_8 i9 i10 H locs ls hk; exact absurd hk (Nat.not_lt_zero _)
      | succ kf ih37_12 =>
        intro x_6 x_7 x_8 i9 i10 H locs ls hk37_12 hP hD hS hl
        refine lv_iload hx hb dX12_ask_37 (lv_at hl 4 rfl) ?_
        refine lv_aload_n hx hb dX12_ask_39 rfl (lv_at hl 0 rfl) ?_
        refine va_get (D := g.1) (ci := 10) (v := .ref (a 0)) (C := RX12) (T := TX12) (N := 20) hx hb hts izRX12 hown hK hP 0 rfl rfl 1 (by decide) (hts _ k815) (fun _ h9 => h9) rfl dX12_ask_40 ?_
        refine lv_iconst (v := 3) hx hb dX12_ask_43 (by decide) ?_
        refine va_iald hx hb hK hP 1 0 rfl rfl (zin rfl) dX12_ask_44 ?_
        refine zgq (r := fm 3) rfl (rM3 rfm) (fun x_13 hx_13 => ?_)
        refine lv_icmp_ge (tgt := 181) hx hb dX12_ask_45 (by decide) (fun cb9 => ?_) (fun cb9 => ?_)
        · skip
          have c14 : x_13.toInt ≤ x_8.toInt := zle cb9 rfl rfl
          refine lv_iload_n hx hb dX12_ask_181 rfl (lv_at hl 2 rfl) ?_
          have hP : va_P g.1 vwCl (List.flatten [bMo g o a 0 hi ac 0 ba en tA fl de iD iO tU fm fk fa fc ft ff fb fi2_1]) H := hP
          have hD : va_D A (List.flatten [bMo g o a 0 hi ac 0 ba en tA fl de iD iO tU fm fk fa fc ft ff fb fi2_1]) := hD
          exact mret_i hx hb hr hlocks hS (Nat.le_of_ble_eq_true rfl) (Nat.le_of_ble_eq_true rfl) dX12_ask_182 ((0 : Int32), fi2_1, x_6) rfl trivial hP hD
        · skip
          have c15 : x_8.toInt < x_13.toInt := zlti (Int32.not_le.mp cb9) rfl rfl
          have n16 : x_8.toInt ≤ 7 := zL1 (b := 8) c15 hx_13.2.1 (by decide)
          have n17 : 1 ≤ x_13.toInt := zL2 (a := 0) c15 i10.1 (by decide)
          refine lv_iload_n hx hb dX12_ask_48 rfl (lv_at hl 1 rfl) ?_
          refine lv_iconst (v := 1) hx hb dX12_ask_49 (by decide) ?_
          refine lv_icmp_le (tgt := 181) hx hb dX12_ask_50 (by decide) (fun cb9 => ?_) (fun cb9 => ?_)
          · skip
            have c18 : q_2.toInt ≤ 1 := zle cb9 rfl (by decide)
            have n19 : q_2.toInt ≤ 1 := Int.le_trans c18 (Int.le_refl _)
            refine lv_iload_n hx hb dX12_ask_181 rfl (lv_at hl 2 rfl) ?_
            have hP : va_P g.1 vwCl (List.flatten [bMo g o a 0 hi ac 0 ba en tA fl de iD iO tU fm fk fa fc ft ff fb fi2_1]) H := hP
            have hD : va_D A (List.flatten [bMo g o a 0 hi ac 0 ba en tA fl de iD iO tU fm fk fa fc ft ff fb fi2_1]) := hD
            exact mret_i hx hb hr hlocks hS (Nat.le_of_ble_eq_true rfl) (Nat.le_of_ble_eq_true rfl) dX12_ask_182 ((0 : Int32), fi2_1, x_6) rfl trivial hP hD
          · skip
            have c20 : 1 < q_2.toInt := zlti (Int32.not_le.mp cb9) (by decide) rfl
            have n21 : 2 ≤ q_2.toInt := zL2 (a := 1) c20 (Int.le_refl _) (by decide)
            refine lv_iconst (v := 0) hx hb dX12_ask_53 (by decide) ?_
            refine lv_istore (lv' := [(5, .int 0), (0, .ref o), (1, .int q_2), (2, .int x_6), (3, .int x_7), (4, .int x_8)]) hx hb dX12_ask_54 hl (by decide) rfl (fun ls hl => ?_)
            have hl := lv_sub (l' := [(0, .ref o), (1, .int q_2), (2, .int x_6), (3, .int x_7), (4, .int x_8), (5, .int 0)]) hl [1, 2, 3, 4, 5, 0] rfl
            have LP56_27 : ∀ (kf : Nat) (x_22 : Int32) (x_23 : Int32) (x_24 : Int32), ((-1) ≤ x_22.toInt) → (0 ≤ x_24.toInt ∧ x_24.toInt ≤ 8) → ∀ (H : Heap) (locs : List Loc) (ls : Array Slot), ((9 - x_24.toInt).toNat) < kf → va_P g.1 vwCl (List.flatten [bMo g o a 0 hi ac 0 ba en tA fl de iD iO tU fm fk fa fc ft ff fb fi2_1]) H → va_D A (List.flatten [bMo g o a 0 hi ac 0 ba en tA fl de iD iO tU fm fk fa fc ft ff fb fi2_1]) → va_S A s.heap H locs → lv_has ls 8 [(0, .ref o), (1, .int q_2), (2, .int x_22), (3, .int x_23), (4, .int x_8), (5, .int x_24)] → W p l e ({ frames := 3, cells := 0, slots := 0, locals := 68 } : Room) s m args below meth c H locs (0) (0) (zF g (fun u : Int32 × (Nat → Int32) × Int32 => (fun (th2 : Int32) (fi2 : Nat → Int32) (q : Int32) => some (.int q)) (u.1) (u.2.1) (u.2.2)) (fun u : Int32 × (Nat → Int32) × Int32 => (fun (th2 : Int32) (fi2 : Nat → Int32) (q : Int32) => True) (u.1) (u.2.1) (u.2.2)) (fun u : Int32 × (Nat → Int32) × Int32 => (fun (th2 : Int32) (fi2 : Nat → Int32) (q : Int32) => [bMo g o a th2 hi ac 0 ba en tA fl de iD iO tU fm fk fa fc ft ff fb fi2]) (u.1) (u.2.1) (u.2.2)) ({ frames := 3, cells := 0, slots := 0, locals := 68 } : Room) below args s A) (F0 m 56 ls []) := by
              intro kf
              induction kf with
              | zero => intro x_22 x_23 x_24 i25 i26 H locs ls hk; exact absurd hk (Nat.not_lt_zero _)
              | succ kf ih56_28 =>
                intro x_22 x_23 x_24 i25 i26 H locs ls hk56_28 hP hD hS hl
                refine lv_iload hx hb dX12_ask_56 (lv_at hl 5 rfl) ?_
                refine lv_aload_n hx hb dX12_ask_58 rfl (lv_at hl 0 rfl) ?_
                refine va_get (D := g.1) (ci := 10) (v := .ref (a 0)) (C := RX12) (T := TX12) (N := 20) hx hb hts izRX12 hown hK hP 0 rfl rfl 1 (by decide) (hts _ k815) (fun _ h9 => h9) rfl dX12_ask_59 ?_
                refine lv_iconst (v := 3) hx hb dX12_ask_62 (by decide) ?_
                refine va_iald hx hb hK hP 1 0 rfl rfl (zin rfl) dX12_ask_63 ?_
                refine zgq (r := fm 3) rfl (rM3 rfm) (fun x_29 hx_29 => ?_)
                refine lv_icmp_ge (tgt := 175) hx hb dX12_ask_64 (by decide) (fun cb9 => ?_) (fun cb9 => ?_)
                · skip
                  have c30 : x_29.toInt ≤ x_24.toInt := zle cb9 rfl rfl
                  refine ziinc3 (n' := 1) (a' := 1) (b' := 8) (lv' := fun v9 => [(4, .int v9), (0, .ref o), (1, .int q_2), (2, .int x_22), (3, .int x_23), (5, .int x_24)]) hx hb dX12_ask_175 hl (k := 4) rfl (by decide) (fun _ => rfl) (zaddK (i := x_8.toInt) (j := 1) rfl (by decide) i10.1 n16 (Int.le_refl _) (Int.le_refl _) (by decide)) (fun x_31 ls hx_31 hl => ?_)
                  refine lv_goto (tgt := 37) hx hb dX12_ask_178 (by decide) ?_
                  have hl := lv_sub (l' := [(0, .ref o), (1, .int q_2), (2, .int x_22), (3, .int x_23), (4, .int x_31), (5, .int x_24)]) hl [1, 2, 3, 4, 0, 5] rfl
                  have hP : va_P g.1 vwCl (List.flatten [bMo g o a 0 hi ac 0 ba en tA fl de iD iO tU fm fk fa fc ft ff fb fi2_1]) H := hP
                  have hD : va_D A (List.flatten [bMo g o a 0 hi ac 0 ba en tA fl de iD iO tU fm fk fa fc ft ff fb fi2_1]) := hD
                  exact ih37_12 x_22 x_23 x_31 i25 ⟨(Int.le_trans (by decide) hx_31.2.1), hx_31.2.2⟩ H _ ls (zmK hx_31.1 (by decide) n16 (by decide) hk37_12)  hP hD hS (lv_sub hl [0, 1, 2, 3, 4] rfl)
                · skip
                  have c32 : x_24.toInt < x_29.toInt := zlti (Int32.not_le.mp cb9) rfl rfl
                  have n33 : x_24.toInt ≤ 7 := zL1 (b := 8) c32 hx_29.2.1 (by decide)
                  have n34 : 1 ≤ x_29.toInt := zL2 (a := 0) c32 i26.1 (by decide)
                  refine lv_iload hx hb dX12_ask_67 (lv_at hl 4 rfl) ?_
                  refine lv_iload hx hb dX12_ask_69 (lv_at hl 5 rfl) ?_
                  refine lv_icmp_ne (tgt := 77) hx hb dX12_ask_71 (by decide) (fun cb9 => ?_) (fun cb9 => ?_)
                  · skip
                    have c35 : ¬ x_8.toInt = x_24.toInt := zne cb9 rfl rfl
                    refine lv_iconst (v := 0) hx hb dX12_ask_77 (by decide) ?_
                    refine lv_istore (lv' := [(6, .int 0), (0, .ref o), (1, .int q_2), (2, .int x_22), (3, .int x_23), (4, .int x_8), (5, .int x_24)]) hx hb dX12_ask_78 hl (by decide) rfl (fun ls hl => ?_)
                    refine lv_iconst (v := 0) hx hb dX12_ask_80 (by decide) ?_
                    refine lv_istore (lv' := [(7, .int 0), (6, .int 0), (0, .ref o), (1, .int q_2), (2, .int x_22), (3, .int x_23), (4, .int x_8), (5, .int x_24)]) hx hb dX12_ask_81 hl (by decide) rfl (fun ls hl => ?_)
                    have hl := lv_sub (l' := [(0, .ref o), (1, .int q_2), (2, .int x_22), (3, .int x_23), (4, .int x_8), (5, .int x_24), (6, .int 0), (7, .int 0)]) hl [2, 3, 4, 5, 6, 7, 1, 0] rfl
                    have LP83_39 : ∀ (kf : Nat) (x_36 : Int32) (x_37 : Int32), (0 ≤ x_37.toInt ∧ x_37.toInt ≤ 256) → ∀ (H : Heap) (locs : List Loc) (ls : Array Slot), ((257 - x_37.toInt).toNat) < kf → va_P g.1 vwCl (List.flatten [bMo g o a 0 hi ac 0 ba en tA fl de iD iO tU fm fk fa fc ft ff fb fi2_1]) H → va_D A (List.flatten [bMo g o a 0 hi ac 0 ba en tA fl de iD iO tU fm fk fa fc ft ff fb fi2_1]) → va_S A s.heap H locs → lv_has ls 8 [(0, .ref o), (1, .int q_2), (2, .int x_22), (3, .int x_23), (4, .int x_8), (5, .int x_24), (6, .int x_36), (7, .int x_37)] → W p l e ({ frames := 3, cells := 0, slots := 0, locals := 68 } : Room) s m args below meth c H locs (0) (0) (zF g (fun u : Int32 × (Nat → Int32) × Int32 => (fun (th2 : Int32) (fi2 : Nat → Int32) (q : Int32) => some (.int q)) (u.1) (u.2.1) (u.2.2)) (fun u : Int32 × (Nat → Int32) × Int32 => (fun (th2 : Int32) (fi2 : Nat → Int32) (q : Int32) => True) (u.1) (u.2.1) (u.2.2)) (fun u : Int32 × (Nat → Int32) × Int32 => (fun (th2 : Int32) (fi2 : Nat → Int32) (q : Int32) => [bMo g o a th2 hi ac 0 ba en tA fl de iD iO tU fm fk fa fc ft ff fb fi2]) (u.1) (u.2.1) (u.2.2)) ({ frames := 3, cells := 0, slots := 0, locals := 68 } : Room) below args s A) (F0 m 83 ls []) := by
                      intro kf
                      induction kf with
                      | zero => intro x_36 x_37 i38 H locs ls hk; exact absurd hk (Nat.not_lt_zero _)
                      | succ kf ih83_40 =>
                        intro x_36 x_37 i38 H locs ls hk83_40 hP hD hS hl
                        refine lv_iload hx hb dX12_ask_83 (lv_at hl 7 rfl) ?_
                        refine lv_iconst (v := 1) hx hb dX12_ask_85 (by decide) ?_
                        refine lv_aload_n hx hb dX12_ask_86 rfl (lv_at hl 0 rfl) ?_
                        refine va_get (D := g.1) (ci := 10) (v := .ref (a 0)) (C := RX12) (T := TX12) (N := 20) hx hb hts izRX12 hown hK hP 0 rfl rfl 1 (by decide) (hts _ k815) (fun _ h9 => h9) rfl dX12_ask_87 ?_
                        refine lv_iconst (v := 3) hx hb dX12_ask_90 (by decide) ?_
                        refine va_iald hx hb hK hP 1 0 rfl rfl (zin rfl) dX12_ask_91 ?_
                        refine zgq (r := fm 3) rfl (rM3 rfm) (fun x_41 hx_41 => ?_)
                        refine lv_ishl hx hb dX12_ask_92 ?_
                        refine zgb (zshl1 (j := x_41.toInt) rfl 8 256 (by decide) (by decide) ⟨hx_41.1, hx_41.2.1⟩) (fun x_42 hx_42 => ?_)
                        refine lv_icmp_ge (tgt := 134) hx hb dX12_ask_93 (by decide) (fun cb9 => ?_) (fun cb9 => ?_)
                        · skip
                          have c43 : x_42.toInt ≤ x_37.toInt := zle cb9 rfl rfl
                          have n44 : 1 ≤ x_37.toInt := Int.le_trans hx_42.1 c43
                          refine lv_iload hx hb dX12_ask_134 (lv_at hl 6 rfl) ?_
                          refine lv_iload_n hx hb dX12_ask_136 rfl (lv_at hl 1 rfl) ?_
                          refine lv_iload hx hb dX12_ask_137 (lv_at hl 6 rfl) ?_
                          refine lv_isub hx hb dX12_ask_139 ?_
                          refine zg (fun x_45 => ?_)
                          refine mcallS' (g := g) (As := [.int x_36, .int x_45]) (rest := []) St hK hT hA hP hD hS hl.1 [] [0] rfl rfl rfl (m_greater l g x_36 x_45 ) (va_cwS 2 hts (zgL (zl3 k1003 k1004 k839) k828) rfl rfl rfl (by decide +kernel) ⟨Nat.le_of_ble_eq_true rfl, Nat.le_of_ble_eq_true rfl⟩) rfl rfl (Nat.le_of_ble_eq_true rfl) dX12_ask_140 ⟨(Nat.le_of_ble_eq_true rfl), (Nat.le_of_ble_eq_true rfl)⟩ (fun q_46 H locs hq47 hP hD hS => ?_)
                          replace hq47 : (x_36.toInt ≤ q_46.toInt ∧ x_45.toInt ≤ q_46.toInt ∧ (q_46.toInt = x_36.toInt ∨ q_46.toInt = x_45.toInt)) := hq47
                          have hP : va_P g.1 vwCl (List.flatten [bMo g o a 0 hi ac 0 ba en tA fl de iD iO tU fm fk fa fc ft ff fb fi2_1]) H := hP
                          have hD : va_D A (List.flatten [bMo g o a 0 hi ac 0 ba en tA fl de iD iO tU fm fk fa fc ft ff fb fi2_1]) := hD
                          refine W.widen (k := 0) (n := 0) (Nat.le_of_ble_eq_true rfl) (Nat.le_of_ble_eq_true rfl) ?_
                          refine W.eq (g2 := F0 m 143 ls [.int q_46]) rfl ?_
                          refine lv_iload_n hx hb dX12_ask_143 rfl (lv_at hl 3 rfl) ?_
                          refine lv_icmp_lt (tgt := 150) hx hb dX12_ask_144 (by decide) (fun cb9 => ?_) (fun cb9 => ?_)
                          · skip
                            have c48 : q_46.toInt < x_23.toInt := zlti cb9 rfl rfl
                            refine lv_iload hx hb dX12_ask_150 (lv_at hl 6 rfl) ?_
                            refine lv_iload_n hx hb dX12_ask_152 rfl (lv_at hl 1 rfl) ?_
                            refine lv_iload hx hb dX12_ask_153 (lv_at hl 6 rfl) ?_
                            refine lv_isub hx hb dX12_ask_155 ?_
                            refine zg (fun x_49 => ?_)
                            refine mcallS' (g := g) (As := [.int x_36, .int x_49]) (rest := []) St hK hT hA hP hD hS hl.1 [] [0] rfl rfl rfl (m_greater l g x_36 x_49 ) (va_cwS 2 hts (zgL (zl3 k1003 k1004 k839) k828) rfl rfl rfl (by decide +kernel) ⟨Nat.le_of_ble_eq_true rfl, Nat.le_of_ble_eq_true rfl⟩) rfl rfl (Nat.le_of_ble_eq_true rfl) dX12_ask_156 ⟨(Nat.le_of_ble_eq_true rfl), (Nat.le_of_ble_eq_true rfl)⟩ (fun q_50 H locs hq51 hP hD hS => ?_)
                            replace hq51 : (x_36.toInt ≤ q_50.toInt ∧ x_49.toInt ≤ q_50.toInt ∧ (q_50.toInt = x_36.toInt ∨ q_50.toInt = x_49.toInt)) := hq51
                            have hP : va_P g.1 vwCl (List.flatten [bMo g o a 0 hi ac 0 ba en tA fl de iD iO tU fm fk fa fc ft ff fb fi2_1]) H := hP
                            have hD : va_D A (List.flatten [bMo g o a 0 hi ac 0 ba en tA fl de iD iO tU fm fk fa fc ft ff fb fi2_1]) := hD
                            refine W.widen (k := 0) (n := 0) (Nat.le_of_ble_eq_true rfl) (Nat.le_of_ble_eq_true rfl) ?_
                            refine W.eq (g2 := F0 m 159 ls [.int q_50]) rfl ?_
                            refine lv_istore_n (lv' := [(3, .int q_50), (0, .ref o), (1, .int q_2), (2, .int x_22), (4, .int x_8), (5, .int x_24), (6, .int x_36), (7, .int x_37)]) hx hb dX12_ask_159 rfl hl (by decide) rfl (fun ls hl => ?_)
                            refine lv_bipush (v := 10) hx hb dX12_ask_160 (by decide) ?_
                            refine lv_iload hx hb dX12_ask_162 (lv_at hl 4 rfl) ?_
                            refine lv_imul hx hb dX12_ask_164 ?_
                            refine zg3 (zmulKL (i := x_8.toInt) (n := 10) (a' := 0) (b' := 70) rfl (by decide) i10.1 n16 (by decide) (by decide)) (fun x_52 hx_52 => ?_)
                            refine lv_iload hx hb dX12_ask_165 (lv_at hl 5 rfl) ?_
                            refine lv_iadd hx hb dX12_ask_167 ?_
                            refine zg3 (zaddK (i := x_52.toInt) (j := x_24.toInt) (a' := 0) (b' := 77) rfl rfl hx_52.2.1 hx_52.2.2 i26.1 n33 (by decide)) (fun x_53 hx_53 => ?_)
                            refine lv_istore_n (lv' := [(2, .int x_53), (3, .int q_50), (0, .ref o), (1, .int q_2), (4, .int x_8), (5, .int x_24), (6, .int x_36), (7, .int x_37)]) hx hb dX12_ask_168 rfl hl (by decide) rfl (fun ls hl => ?_)
                            refine ziinc3 (n' := 1) (a' := 1) (b' := 8) (lv' := fun v9 => [(5, .int v9), (2, .int x_53), (3, .int q_50), (0, .ref o), (1, .int q_2), (4, .int x_8), (6, .int x_36), (7, .int x_37)]) hx hb dX12_ask_169 hl (k := 5) rfl (by decide) (fun _ => rfl) (zaddK (i := x_24.toInt) (j := 1) rfl (by decide) i26.1 n33 (Int.le_refl _) (Int.le_refl _) (by decide)) (fun x_54 ls hx_54 hl => ?_)
                            refine lv_goto (tgt := 56) hx hb dX12_ask_172 (by decide) ?_
                            have hl := lv_sub (l' := [(0, .ref o), (1, .int q_2), (2, .int x_53), (3, .int q_50), (4, .int x_8), (5, .int x_54), (6, .int x_36), (7, .int x_37)]) hl [3, 4, 1, 2, 5, 0, 6, 7] rfl
                            have hP : va_P g.1 vwCl (List.flatten [bMo g o a 0 hi ac 0 ba en tA fl de iD iO tU fm fk fa fc ft ff fb fi2_1]) H := hP
                            have hD : va_D A (List.flatten [bMo g o a 0 hi ac 0 ba en tA fl de iD iO tU fm fk fa fc ft ff fb fi2_1]) := hD
                            exact ih56_28 x_53 q_50 x_54 (Int.le_trans (by decide) hx_53.2.1) ⟨(Int.le_trans (by decide) hx_54.2.1), hx_54.2.2⟩ H _ ls (zmK hx_54.1 (by decide) n33 (by decide) hk56_28)  hP hD hS (lv_sub hl [0, 1, 2, 3, 4, 5] rfl)
                          · skip
                            have c55 : x_23.toInt ≤ q_46.toInt := zle (Int32.not_lt.mp cb9) rfl rfl
                            refine lv_goto (tgt := 169) hx hb dX12_ask_147 (by decide) ?_
                            refine ziinc3 (n' := 1) (a' := 1) (b' := 8) (lv' := fun v9 => [(5, .int v9), (0, .ref o), (1, .int q_2), (2, .int x_22), (3, .int x_23), (4, .int x_8), (6, .int x_36), (7, .int x_37)]) hx hb dX12_ask_169 hl (k := 5) rfl (by decide) (fun _ => rfl) (zaddK (i := x_24.toInt) (j := 1) rfl (by decide) i26.1 n33 (Int.le_refl _) (Int.le_refl _) (by decide)) (fun x_56 ls hx_56 hl => ?_)
                            refine lv_goto (tgt := 56) hx hb dX12_ask_172 (by decide) ?_
                            have hl := lv_sub (l' := [(0, .ref o), (1, .int q_2), (2, .int x_22), (3, .int x_23), (4, .int x_8), (5, .int x_56), (6, .int x_36), (7, .int x_37)]) hl [1, 2, 3, 4, 5, 0, 6, 7] rfl
                            have hP : va_P g.1 vwCl (List.flatten [bMo g o a 0 hi ac 0 ba en tA fl de iD iO tU fm fk fa fc ft ff fb fi2_1]) H := hP
                            have hD : va_D A (List.flatten [bMo g o a 0 hi ac 0 ba en tA fl de iD iO tU fm fk fa fc ft ff fb fi2_1]) := hD
                            exact ih56_28 x_22 x_23 x_56 i25 ⟨(Int.le_trans (by decide) hx_56.2.1), hx_56.2.2⟩ H _ ls (zmK hx_56.1 (by decide) n33 (by decide) hk56_28)  hP hD hS (lv_sub hl [0, 1, 2, 3, 4, 5] rfl)
                        · skip
                          have c57 : x_37.toInt < x_42.toInt := zlti (Int32.not_le.mp cb9) rfl rfl
                          have n58 : x_37.toInt ≤ 255 := zL1 (b := 256) c57 hx_42.2 (by decide)
                          refine lv_iload hx hb dX12_ask_96 (lv_at hl 6 rfl) ?_
                          refine lv_aload_n hx hb dX12_ask_98 rfl (lv_at hl 0 rfl) ?_
                          refine va_get (D := g.1) (ci := 10) (v := .ref (a 7)) (C := RX12) (T := TX12) (N := 20) hx hb hts izRX12 hown hK hP 0 rfl rfl 19 (by decide) (hts _ k823) (fun _ h9 => h9) rfl dX12_ask_99 ?_
                          refine lv_iload hx hb dX12_ask_102 (lv_at hl 7 rfl) ?_
                          refine va_zald hx hb hK hP 8 1 rfl rfl (zinK (a := 0) (b := 255) i38.1 n58 (by decide)) dX12_ask_104 ?_
                          refine zg (fun x_59 => ?_)
                          refine lv_if_eq (tgt := 124) hx hb dX12_ask_105 (by decide) (fun cb9 => ?_) (fun cb9 => ?_)
                          · skip
                            have c60 : x_59.toInt = 0 := zeq cb9 rfl (by decide)
                            have n61 : 0 ≤ x_59.toInt := Int.le_trans (Int.le_refl _) (Int.le_of_eq c60.symm)
                            have n62 : x_59.toInt ≤ 0 := Int.le_trans (Int.le_of_eq c60) (Int.le_refl _)
                            refine lv_iconst (v := 0) hx hb dX12_ask_124 (by decide) ?_
                            refine lv_iadd hx hb dX12_ask_125 ?_
                            refine zg (fun x_63 => ?_)
                            refine lv_istore (lv' := [(6, .int x_63), (0, .ref o), (1, .int q_2), (2, .int x_22), (3, .int x_23), (4, .int x_8), (5, .int x_24), (7, .int x_37)]) hx hb dX12_ask_126 hl (by decide) rfl (fun ls hl => ?_)
                            refine ziinc3 (n' := 1) (a' := 1) (b' := 256) (lv' := fun v9 => [(7, .int v9), (6, .int x_63), (0, .ref o), (1, .int q_2), (2, .int x_22), (3, .int x_23), (4, .int x_8), (5, .int x_24)]) hx hb dX12_ask_128 hl (k := 7) rfl (by decide) (fun _ => rfl) (zaddK (i := x_37.toInt) (j := 1) rfl (by decide) i38.1 n58 (Int.le_refl _) (Int.le_refl _) (by decide)) (fun x_64 ls hx_64 hl => ?_)
                            refine lv_goto (tgt := 83) hx hb dX12_ask_131 (by decide) ?_
                            have hl := lv_sub (l' := [(0, .ref o), (1, .int q_2), (2, .int x_22), (3, .int x_23), (4, .int x_8), (5, .int x_24), (6, .int x_63), (7, .int x_64)]) hl [2, 3, 4, 5, 6, 7, 1, 0] rfl
                            have hP : va_P g.1 vwCl (List.flatten [bMo g o a 0 hi ac 0 ba en tA fl de iD iO tU fm fk fa fc ft ff fb fi2_1]) H := hP
                            have hD : va_D A (List.flatten [bMo g o a 0 hi ac 0 ba en tA fl de iD iO tU fm fk fa fc ft ff fb fi2_1]) := hD
                            exact ih83_40 x_63 x_64 ⟨(Int.le_trans (by decide) hx_64.2.1), hx_64.2.2⟩ H _ ls (zmK hx_64.1 (by decide) n58 (by decide) hk83_40)  hP hD hS (lv_sub hl [0, 1, 2, 3, 4, 5, 6, 7] rfl)
                          · skip
                            have c65 : ¬ x_59.toInt = 0 := zne cb9 rfl (by decide)
                            refine lv_iload hx hb dX12_ask_108 (lv_at hl 7 rfl) ?_
                            refine lv_iload hx hb dX12_ask_110 (lv_at hl 4 rfl) ?_
                            refine lv_iload hx hb dX12_ask_112 (lv_at hl 5 rfl) ?_
                            refine mcallS' (g := g) (As := [.int x_37, .int x_8, .int x_24]) (rest := [.int x_36]) St hK hT hA hP hD hS hl.1 [] [0] rfl rfl rfl (m_says l g x_37 x_8 x_24 ) (va_cwS 3 hts (zgL (zl3 k1101 k1102 k839) k1099) rfl rfl rfl (by decide +kernel) ⟨Nat.le_of_ble_eq_true rfl, Nat.le_of_ble_eq_true rfl⟩) rfl rfl (Nat.le_of_ble_eq_true rfl) dX12_ask_114 ⟨(Nat.le_of_ble_eq_true rfl), (Nat.le_of_ble_eq_true rfl)⟩ (fun q_66 H locs hq67 hP hD hS => ?_)
                            replace hq67 : (q_66 = 0 ∨ q_66 = 1) := hq67
                            have hP : va_P g.1 vwCl (List.flatten [bMo g o a 0 hi ac 0 ba en tA fl de iD iO tU fm fk fa fc ft ff fb fi2_1]) H := hP
                            have hD : va_D A (List.flatten [bMo g o a 0 hi ac 0 ba en tA fl de iD iO tU fm fk fa fc ft ff fb fi2_1]) := hD
                            refine W.widen (k := 0) (n := 0) (Nat.le_of_ble_eq_true rfl) (Nat.le_of_ble_eq_true rfl) ?_
                            refine W.eq (g2 := F0 m 117 ls [.int q_66, .int x_36]) rfl ?_
                            rcases hq67 with rfl | rfl
                            · skip
                              refine lv_if_eq (tgt := 124) hx hb dX12_ask_117 (by decide) (fun _ => ?_) (fun c68 => absurd (by decide) c68)
                              refine lv_iconst (v := 0) hx hb dX12_ask_124 (by decide) ?_
                              refine lv_iadd hx hb dX12_ask_125 ?_
                              refine zg (fun x_69 => ?_)
                              refine lv_istore (lv' := [(6, .int x_69), (0, .ref o), (1, .int q_2), (2, .int x_22), (3, .int x_23), (4, .int x_8), (5, .int x_24), (7, .int x_37)]) hx hb dX12_ask_126 hl (by decide) rfl (fun ls hl => ?_)
                              refine ziinc3 (n' := 1) (a' := 1) (b' := 256) (lv' := fun v9 => [(7, .int v9), (6, .int x_69), (0, .ref o), (1, .int q_2), (2, .int x_22), (3, .int x_23), (4, .int x_8), (5, .int x_24)]) hx hb dX12_ask_128 hl (k := 7) rfl (by decide) (fun _ => rfl) (zaddK (i := x_37.toInt) (j := 1) rfl (by decide) i38.1 n58 (Int.le_refl _) (Int.le_refl _) (by decide)) (fun x_70 ls hx_70 hl => ?_)
                              refine lv_goto (tgt := 83) hx hb dX12_ask_131 (by decide) ?_
                              have hl := lv_sub (l' := [(0, .ref o), (1, .int q_2), (2, .int x_22), (3, .int x_23), (4, .int x_8), (5, .int x_24), (6, .int x_69), (7, .int x_70)]) hl [2, 3, 4, 5, 6, 7, 1, 0] rfl
                              have hP : va_P g.1 vwCl (List.flatten [bMo g o a 0 hi ac 0 ba en tA fl de iD iO tU fm fk fa fc ft ff fb fi2_1]) H := hP
                              have hD : va_D A (List.flatten [bMo g o a 0 hi ac 0 ba en tA fl de iD iO tU fm fk fa fc ft ff fb fi2_1]) := hD
                              exact ih83_40 x_69 x_70 ⟨(Int.le_trans (by decide) hx_70.2.1), hx_70.2.2⟩ H _ ls (zmK hx_70.1 (by decide) n58 (by decide) hk83_40)  hP hD hS (lv_sub hl [0, 1, 2, 3, 4, 5, 6, 7] rfl)
                            · skip
                              refine lv_if_eq (tgt := 124) hx hb dX12_ask_117 (by decide) (fun c71 => absurd c71 (by decide)) (fun _ => ?_)
                              refine lv_iconst (v := 1) hx hb dX12_ask_120 (by decide) ?_
                              refine lv_goto (tgt := 125) hx hb dX12_ask_121 (by decide) ?_
                              refine lv_iadd hx hb dX12_ask_125 ?_
                              refine zg (fun x_72 => ?_)
                              refine lv_istore (lv' := [(6, .int x_72), (0, .ref o), (1, .int q_2), (2, .int x_22), (3, .int x_23), (4, .int x_8), (5, .int x_24), (7, .int x_37)]) hx hb dX12_ask_126 hl (by decide) rfl (fun ls hl => ?_)
                              refine ziinc3 (n' := 1) (a' := 1) (b' := 256) (lv' := fun v9 => [(7, .int v9), (6, .int x_72), (0, .ref o), (1, .int q_2), (2, .int x_22), (3, .int x_23), (4, .int x_8), (5, .int x_24)]) hx hb dX12_ask_128 hl (k := 7) rfl (by decide) (fun _ => rfl) (zaddK (i := x_37.toInt) (j := 1) rfl (by decide) i38.1 n58 (Int.le_refl _) (Int.le_refl _) (by decide)) (fun x_73 ls hx_73 hl => ?_)
                              refine lv_goto (tgt := 83) hx hb dX12_ask_131 (by decide) ?_
                              have hl := lv_sub (l' := [(0, .ref o), (1, .int q_2), (2, .int x_22), (3, .int x_23), (4, .int x_8), (5, .int x_24), (6, .int x_72), (7, .int x_73)]) hl [2, 3, 4, 5, 6, 7, 1, 0] rfl
                              have hP : va_P g.1 vwCl (List.flatten [bMo g o a 0 hi ac 0 ba en tA fl de iD iO tU fm fk fa fc ft ff fb fi2_1]) H := hP
                              have hD : va_D A (List.flatten [bMo g o a 0 hi ac 0 ba en tA fl de iD iO tU fm fk fa fc ft ff fb fi2_1]) := hD
                              exact ih83_40 x_72 x_73 ⟨(Int.le_trans (by decide) hx_73.2.1), hx_73.2.2⟩ H _ ls (zmK hx_73.1 (by decide) n58 (by decide) hk83_40)  hP hD hS (lv_sub hl [0, 1, 2, 3, 4, 5, 6, 7] rfl)
                    have hP : va_P g.1 vwCl (List.flatten [bMo g o a 0 hi ac 0 ba en tA fl de iD iO tU fm fk fa fc ft ff fb fi2_1]) H := hP
                    have hD : va_D A (List.flatten [bMo g o a 0 hi ac 0 ba en tA fl de iD iO tU fm fk fa fc ft ff fb fi2_1]) := hD
                    exact LP83_39 _ 0 0 (by decide) H _ ls (Nat.lt_succ_self _)  hP hD hS (lv_sub hl [0, 1, 2, 3, 4, 5, 6, 7] rfl)
                  · skip
                    have c74 : x_8.toInt = x_24.toInt := zeq cb9 rfl rfl
                    refine lv_goto (tgt := 169) hx hb dX12_ask_74 (by decide) ?_
                    refine ziinc3 (n' := 1) (a' := 1) (b' := 8) (lv' := fun v9 => [(5, .int v9), (0, .ref o), (1, .int q_2), (2, .int x_22), (3, .int x_23), (4, .int x_8)]) hx hb dX12_ask_169 hl (k := 5) rfl (by decide) (fun _ => rfl) (zaddK (i := x_24.toInt) (j := 1) rfl (by decide) i26.1 n33 (Int.le_refl _) (Int.le_refl _) (by decide)) (fun x_75 ls hx_75 hl => ?_)
                    refine lv_goto (tgt := 56) hx hb dX12_ask_172 (by decide) ?_
                    have hl := lv_sub (l' := [(0, .ref o), (1, .int q_2), (2, .int x_22), (3, .int x_23), (4, .int x_8), (5, .int x_75)]) hl [1, 2, 3, 4, 5, 0] rfl
                    have hP : va_P g.1 vwCl (List.flatten [bMo g o a 0 hi ac 0 ba en tA fl de iD iO tU fm fk fa fc ft ff fb fi2_1]) H := hP
                    have hD : va_D A (List.flatten [bMo g o a 0 hi ac 0 ba en tA fl de iD iO tU fm fk fa fc ft ff fb fi2_1]) := hD
                    exact ih56_28 x_22 x_23 x_75 i25 ⟨(Int.le_trans (by decide) hx_75.2.1), hx_75.2.2⟩ H _ ls (zmK hx_75.1 (by decide) n33 (by decide) hk56_28)  hP hD hS (lv_sub hl [0, 1, 2, 3, 4, 5] rfl)
            have hP : va_P g.1 vwCl (List.flatten [bMo g o a 0 hi ac 0 ba en tA fl de iD iO tU fm fk fa fc ft ff fb fi2_1]) H := hP
            have hD : va_D A (List.flatten [bMo g o a 0 hi ac 0 ba en tA fl de iD iO tU fm fk fa fc ft ff fb fi2_1]) := hD
            exact LP56_27 _ x_6 x_7 0 i9 (by decide) H _ ls (Nat.lt_succ_self _)  hP hD hS (lv_sub hl [0, 1, 2, 3, 4, 5] rfl)
    have hP : va_P g.1 vwCl (List.flatten [bMo g o a 0 hi ac 0 ba en tA fl de iD iO tU fm fk fa fc ft ff fb fi2_1]) H := hP
    have hD : va_D A (List.flatten [bMo g o a 0 hi ac 0 ba en tA fl de iD iO tU fm fk fa fc ft ff fb fi2_1]) := hD
    exact LP37_11 _ (-1) 2000000000 0 (by decide) (by decide) H _ ls (Nat.lt_succ_self _)  hP hD hS (lv_sub hl [0, 1, 2, 3, 4] rfl)
  · skip
    have c76 : q_2.toInt = (-1) := zeq cb9 rfl (by decide)
    have n77 : (-1) ≤ q_2.toInt := Int.le_trans (Int.le_refl _) (Int.le_of_eq c76.symm)
    have n78 : q_2.toInt ≤ (-1) := Int.le_trans (Int.le_of_eq c76) (Int.le_refl _)
    refine lv_iconst (v := 1) hx hb dX12_ask_11 (by decide) ?_
    refine lv_goto (tgt := 16) hx hb dX12_ask_12 (by decide) ?_
    refine va_put (D := g.1) (ci := 10) (v := .int 1) (ty := .int) (C := RX12) (T := TX12) (N := 20) hx hb hts izRX12 tyX12 tyX12_ok nmX12 hown hK hP hD hS 0 rfl rfl 0 (by decide) (hts _ k825) (fun _ h9 => h9) rfl (by decide +kernel) rfl rfl (Nat.le_of_ble_eq_true rfl) dX12_ask_16 (fun H locs hP hD hS => ?_)
    have hP : va_P g.1 vwCl (List.flatten [bMo g o a 1 hi ac 0 ba en tA fl de iD iO tU fm fk fa fc ft ff fb fi2_1]) H := hP
    have hD : va_D A (List.flatten [bMo g o a 1 hi ac 0 ba en tA fl de iD iO tU fm fk fa fc ft ff fb fi2_1]) := hD
    refine lv_aload_n hx hb dX12_ask_19 rfl (lv_at hl 1 rfl) ?_
    refine va_get (D := g.1) (ci := 10) (v := .int 1) (C := RX12) (T := TX12) (N := 20) hx hb hts izRX12 hown hK hP 0 rfl rfl 0 (by decide) (hts _ k825) (fun _ h9 => h9) rfl dX12_ask_20 ?_
    refine lv_if_le (tgt := 28) hx hb dX12_ask_23 (by decide) (fun c79 => absurd c79 (by decide)) (fun _ => ?_)
    refine lv_iconst (v := 0) hx hb dX12_ask_26 (by decide) ?_
    have hP : va_P g.1 vwCl (List.flatten [bMo g o a 1 hi ac 0 ba en tA fl de iD iO tU fm fk fa fc ft ff fb fi2_1]) H := hP
    have hD : va_D A (List.flatten [bMo g o a 1 hi ac 0 ba en tA fl de iD iO tU fm fk fa fc ft ff fb fi2_1]) := hD
    exact mret_i hx hb hr hlocks hS (Nat.le_of_ble_eq_true rfl) (Nat.le_of_ble_eq_true rfl) dX12_ask_27 ((1 : Int32), fi2_1, (0 : Int32)) rfl trivial hP hD
