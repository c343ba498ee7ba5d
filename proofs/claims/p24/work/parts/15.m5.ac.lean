set_option maxRecDepth 100000 in
set_option maxHeartbeats 4000000 in
theorem m_told (l : Launch) (g : zG) (o : Nat) (a : Nat → Nat) (th : Int32) (hi : Int32) (ac : Int32) (tp : Int32) (ba : Int32) (en : Int32) (tA : Int32) (fl : Int32) (de : Int32) (iD : Int32) (iO : Int32) (tU : Int32) (fm : Nat → Int32) (fk : Nat → Int32) (fa : Nat → Int32) (fc : Nat → Int32) (ft : Nat → Int32) (ff : Nat → Int32) (fb : Nat → Int32) (fi : Nat → Int32) (rfm : rM fm) (htp : 0 ≤ tp.toInt ∧ tp.toInt ≤ 400) : zM' g l yX12_told (Cond.code yX12_told cX12_told 6 (some .int) :: zB) ({ frames := 2, cells := 0, slots := 0, locals := 43 } : Room) [.ref o] [bMo g o a th hi ac tp ba en tA fl de iD iO tU fm fk fa fc ft ff fb fi] (fun u : (Nat → Int32) × Int32 => (fun (fi2 : Nat → Int32) (q : Int32) => some (.int q)) (u.1) (u.2)) (fun u : (Nat → Int32) × Int32 => (fun (fi2 : Nat → Int32) (q : Int32) => True) (u.1) (u.2)) (fun u : (Nat → Int32) × Int32 => (fun (fi2 : Nat → Int32) (q : Int32) => [bMo g o a th hi ac 0 ba en tA fl de iD iO tU fm fk fa fc ft ff fb fi2]) (u.1) (u.2)) := by
  refine zM'.of (cc := cX12_told) (maxL := 6) (rt := (some .int)) (by decide) rfl (Nat.le_of_ble_eq_true rfl) ?_
  intro p e s m args below meth c A ls St hr hlocks hin hK hT hA hP hD hS hl
  obtain ⟨hx, hb, hml, hown, hts⟩ := id St
  have hl : lv_has ls 6 [(0, .ref o)] := hl
  refine lv_aload_n hx hb dX12_told_0 rfl (lv_at hl 0 rfl) ?_
  refine va_get (D := g.1) (ci := 10) (v := .int tp) (C := RX12) (T := TX12) (N := 20) hx hb hts izRX12 hown hK hP 0 rfl rfl 8 (by decide) (hts _ k873) (fun _ h9 => h9) rfl dX12_told_1 ?_
  refine lv_istore_n (lv' := [(1, .int tp), (0, .ref o)]) hx hb dX12_told_4 rfl hl (by decide) rfl (fun ls hl => ?_)
  refine lv_aload_n hx hb dX12_told_5 rfl (lv_at hl 1 rfl) ?_
  refine lv_iconst (v := 0) hx hb dX12_told_6 (by decide) ?_
  refine va_put (D := g.1) (ci := 10) (v := .int 0) (ty := .int) (C := RX12) (T := TX12) (N := 20) hx hb hts izRX12 tyX12 tyX12_ok nmX12 hown hK hP hD hS 0 rfl rfl 8 (by decide) (hts _ k873) (fun _ h9 => h9) rfl (by decide +kernel) rfl rfl (Nat.le_of_ble_eq_true rfl) dX12_told_7 (fun H locs hP hD hS => ?_)
  have hP : va_P g.1 vwCl (List.flatten [bMo g o a th hi ac 0 ba en tA fl de iD iO tU fm fk fa fc ft ff fb fi]) H := hP
  have hD : va_D A (List.flatten [bMo g o a th hi ac 0 ba en tA fl de iD iO tU fm fk fa fc ft ff fb fi]) := hD
  refine lv_iload_n hx hb dX12_told_10 rfl (lv_at hl 0 rfl) ?_
  refine lv_iconst (v := 3) hx hb dX12_told_11 (by decide) ?_
  refine lv_irem hx hb dX12_told_12 (by decide) ?_
  refine zgb (zrem (j := tp.toInt) (d := 3) rfl (by decide) htp.1 (by decide)) (fun x_1 hx_1 => ?_)
  refine lv_if_ne (tgt := 26) hx hb dX12_told_13 (by decide) (fun cb9 => ?_) (fun cb9 => ?_)
  · skip
    have c2 : ¬ x_1.toInt = 0 := zne cb9 rfl (by decide)
    have n3 : 1 ≤ x_1.toInt := zN1 c2 hx_1.1 (by decide)
    refine lv_iconst (v := 0) hx hb dX12_told_26 (by decide) ?_
    refine lv_istore_n (lv' := [(2, .int 0), (1, .int tp), (0, .ref o)]) hx hb dX12_told_27 rfl hl (by decide) rfl (fun ls hl => ?_)
    refine lv_iconst (v := 0) hx hb dX12_told_28 (by decide) ?_
    refine lv_istore_n (lv' := [(3, .int 0), (2, .int 0), (1, .int tp), (0, .ref o)]) hx hb dX12_told_29 rfl hl (by decide) rfl (fun ls hl => ?_)
    have hl := lv_sub (l' := [(0, .ref o), (1, .int tp), (2, .int 0), (3, .int 0)]) hl [3, 2, 1, 0] rfl
    have LP30_9 : ∀ (kf : Nat) (x_4 : Int32) (x_5 : Int32), (0 ≤ x_4.toInt ∧ x_4.toInt ≤ 1) → (0 ≤ x_5.toInt ∧ x_5.toInt ≤ 402) → (x_4.toInt = 0 ∨ tp.toInt ≤ 36) → ∀ (H : Heap) (locs : List Loc) (ls : Array Slot), ((403 - x_5.toInt).toNat) < kf → va_P g.1 vwCl (List.flatten [bMo g o a th hi ac 0 ba en tA fl de iD iO tU fm fk fa fc ft ff fb fi]) H → va_D A (List.flatten [bMo g o a th hi ac 0 ba en tA fl de iD iO tU fm fk fa fc ft ff fb fi]) → va_S A s.heap H locs → lv_has ls 6 [(0, .ref o), (1, .int tp), (2, .int x_4), (3, .int x_5)] → W p l e ({ frames := 2, cells := 0, slots := 0, locals := 43 } : Room) s m args below meth c H locs (0) (0) (zF g (fun u : (Nat → Int32) × Int32 => (fun (fi2 : Nat → Int32) (q : Int32) => some (.int q)) (u.1) (u.2)) (fun u : (Nat → Int32) × Int32 => (fun (fi2 : Nat → Int32) (q : Int32) => True) (u.1) (u.2)) (fun u : (Nat → Int32) × Int32 => (fun (fi2 : Nat → Int32) (q : Int32) => [bMo g o a th hi ac 0 ba en tA fl de iD iO tU fm fk fa fc ft ff fb fi2]) (u.1) (u.2)) ({ frames := 2, cells := 0, slots := 0, locals := 43 } : Room) below args s A) (F0 m 30 ls []) := by
      intro kf
      induction kf with
      | zero => intro x_4 x_5 i6 i7 i8 H locs ls hk; exact absurd hk (Nat.not_lt_zero _)
      | succ kf ih30_10 =>
        intro x_4 x_5 i6 i7 i8 H locs ls hk30_10 hP hD hS hl
        refine lv_iload_n hx hb dX12_told_30 rfl (lv_at hl 3 rfl) ?_
        refine lv_iload_n hx hb dX12_told_31 rfl (lv_at hl 1 rfl) ?_
        refine lv_icmp_ge (tgt := 112) hx hb dX12_told_32 (by decide) (fun cb9 => ?_) (fun cb9 => ?_)
        · skip
          have c11 : tp.toInt ≤ x_5.toInt := zle cb9 rfl rfl
          refine lv_iload_n hx hb dX12_told_112 rfl (lv_at hl 2 rfl) ?_
          refine lv_if_ne (tgt := 118) hx hb dX12_told_113 (by decide) (fun cb9 => ?_) (fun cb9 => ?_)
          · skip
            have c12 : ¬ x_4.toInt = 0 := zne cb9 rfl (by decide)
            have n13 : 1 ≤ x_4.toInt := zN1 c12 i6.1 (by decide)
            refine lv_iconst (v := 0) hx hb dX12_told_118 (by decide) ?_
            refine lv_istore_n (lv' := [(3, .int 0), (0, .ref o), (1, .int tp), (2, .int x_4)]) hx hb dX12_told_119 rfl hl (by decide) rfl (fun ls hl => ?_)
            refine lv_iconst (v := 0) hx hb dX12_told_120 (by decide) ?_
            refine lv_istore (lv' := [(4, .int 0), (3, .int 0), (0, .ref o), (1, .int tp), (2, .int x_4)]) hx hb dX12_told_121 hl (by decide) rfl (fun ls hl => ?_)
            have hl := lv_sub (l' := [(0, .ref o), (1, .int tp), (2, .int x_4), (3, .int 0), (4, .int 0)]) hl [2, 3, 4, 1, 0] rfl
            have LP123_18 : ∀ (kf : Nat) (x_14 : Int32) (x_15 : Int32) (fi_16 : Nat → Int32), (0 ≤ x_15.toInt ∧ x_15.toInt ≤ 256) → ∀ (H : Heap) (locs : List Loc) (ls : Array Slot), ((257 - x_15.toInt).toNat) < kf → va_P g.1 vwCl (List.flatten [bMo g o a th hi ac 0 ba en tA fl de iD iO tU fm fk fa fc ft ff fb fi_16]) H → va_D A (List.flatten [bMo g o a th hi ac 0 ba en tA fl de iD iO tU fm fk fa fc ft ff fb fi_16]) → va_S A s.heap H locs → lv_has ls 6 [(0, .ref o), (1, .int tp), (2, .int x_4), (3, .int x_14), (4, .int x_15)] → W p l e ({ frames := 2, cells := 0, slots := 0, locals := 43 } : Room) s m args below meth c H locs (0) (0) (zF g (fun u : (Nat → Int32) × Int32 => (fun (fi2 : Nat → Int32) (q : Int32) => some (.int q)) (u.1) (u.2)) (fun u : (Nat → Int32) × Int32 => (fun (fi2 : Nat → Int32) (q : Int32) => True) (u.1) (u.2)) (fun u : (Nat → Int32) × Int32 => (fun (fi2 : Nat → Int32) (q : Int32) => [bMo g o a th hi ac 0 ba en tA fl de iD iO tU fm fk fa fc ft ff fb fi2]) (u.1) (u.2)) ({ frames := 2, cells := 0, slots := 0, locals := 43 } : Room) below args s A) (F0 m 123 ls []) := by
              intro kf
              induction kf with
              | zero => intro x_14 x_15 fi_16 i17 H locs ls hk; exact absurd hk (Nat.not_lt_zero _)
              | succ kf ih123_19 =>
                intro x_14 x_15 fi_16 i17 H locs ls hk123_19 hP hD hS hl
                refine lv_iload hx hb dX12_told_123 (lv_at hl 4 rfl) ?_
                refine lv_iconst (v := 1) hx hb dX12_told_125 (by decide) ?_
                refine lv_aload_n hx hb dX12_told_126 rfl (lv_at hl 0 rfl) ?_
                refine va_get (D := g.1) (ci := 10) (v := .ref (a 0)) (C := RX12) (T := TX12) (N := 20) hx hb hts izRX12 hown hK hP 0 rfl rfl 1 (by decide) (hts _ k815) (fun _ h9 => h9) rfl dX12_told_127 ?_
                refine lv_iconst (v := 3) hx hb dX12_told_130 (by decide) ?_
                refine va_iald hx hb hK hP 1 0 rfl rfl (zin rfl) dX12_told_131 ?_
                refine zgq (r := fm 3) rfl (rM3 rfm) (fun x_20 hx_20 => ?_)
                refine lv_ishl hx hb dX12_told_132 ?_
                refine zgb (zshl1 (j := x_20.toInt) rfl 8 256 (by decide) (by decide) ⟨hx_20.1, hx_20.2.1⟩) (fun x_21 hx_21 => ?_)
                refine lv_icmp_ge (tgt := 247) hx hb dX12_told_133 (by decide) (fun cb9 => ?_) (fun cb9 => ?_)
                · skip
                  have c22 : x_21.toInt ≤ x_15.toInt := zle cb9 rfl rfl
                  have n23 : 1 ≤ x_15.toInt := Int.le_trans hx_21.1 c22
                  refine lv_iload_n hx hb dX12_told_247 rfl (lv_at hl 3 rfl) ?_
                  have hP : va_P g.1 vwCl (List.flatten [bMo g o a th hi ac 0 ba en tA fl de iD iO tU fm fk fa fc ft ff fb fi_16]) H := hP
                  have hD : va_D A (List.flatten [bMo g o a th hi ac 0 ba en tA fl de iD iO tU fm fk fa fc ft ff fb fi_16]) := hD
                  exact mret_i hx hb hr hlocks hS (Nat.le_of_ble_eq_true rfl) (Nat.le_of_ble_eq_true rfl) dX12_told_248 (fi_16, x_14) rfl trivial hP hD
                · skip
                  have c24 : x_15.toInt < x_21.toInt := zlti (Int32.not_le.mp cb9) rfl rfl
                  have n25 : x_15.toInt ≤ 255 := zL1 (b := 256) c24 hx_21.2 (by decide)
                  refine lv_aload_n hx hb dX12_told_136 rfl (lv_at hl 0 rfl) ?_
                  refine va_get (D := g.1) (ci := 10) (v := .ref (a 7)) (C := RX12) (T := TX12) (N := 20) hx hb hts izRX12 hown hK hP 0 rfl rfl 19 (by decide) (hts _ k823) (fun _ h9 => h9) rfl dX12_told_137 ?_
                  refine lv_iload hx hb dX12_told_140 (lv_at hl 4 rfl) ?_
                  refine lv_iconst (v := 1) hx hb dX12_told_142 (by decide) ?_
                  refine va_zast hx hb hK hP hD hS 8 1 rfl rfl (zinK (a := 0) (b := 255) i17.1 n25 (by decide)) dX12_told_143 (fun H locs hP hD hS => ?_)
                  obtain ⟨fi_26, hP, hD⟩ : ∃ fi_26 : Nat → Int32, va_P g.1 vwCl (List.flatten [bMo g o a th hi ac 0 ba en tA fl de iD iO tU fm fk fa fc ft ff fb fi_26]) H ∧ va_D A (List.flatten [bMo g o a th hi ac 0 ba en tA fl de iD iO tU fm fk fa fc ft ff fb fi_26]) := ⟨upd fi_16 x_15.toNatClampNeg (vp_nar .boolean 1), hP, hD⟩
                  refine lv_iconst (v := 0) hx hb dX12_told_144 (by decide) ?_
                  refine lv_istore (lv' := [(5, .int 0), (0, .ref o), (1, .int tp), (2, .int x_4), (3, .int x_14), (4, .int x_15)]) hx hb dX12_told_145 hl (by decide) rfl (fun ls hl => ?_)
                  have hl := lv_sub (l' := [(0, .ref o), (1, .int tp), (2, .int x_4), (3, .int x_14), (4, .int x_15), (5, .int 0)]) hl [1, 2, 3, 4, 5, 0] rfl
                  have LP147_30 : ∀ (kf : Nat) (x_27 : Int32) (fi_28 : Nat → Int32), (0 ≤ x_27.toInt ∧ x_27.toInt ≤ 402) → ∀ (H : Heap) (locs : List Loc) (ls : Array Slot), ((403 - x_27.toInt).toNat) < kf → va_P g.1 vwCl (List.flatten [bMo g o a th hi ac 0 ba en tA fl de iD iO tU fm fk fa fc ft ff fb fi_28]) H → va_D A (List.flatten [bMo g o a th hi ac 0 ba en tA fl de iD iO tU fm fk fa fc ft ff fb fi_28]) → va_S A s.heap H locs → lv_has ls 6 [(0, .ref o), (1, .int tp), (2, .int x_4), (3, .int x_14), (4, .int x_15), (5, .int x_27)] → W p l e ({ frames := 2, cells := 0, slots := 0, locals := 43 } : Room) s m args below meth c H locs (0) (0) (zF g (fun u : (Nat → Int32) × Int32 => (fun (fi2 : Nat → Int32) (q : Int32) => some (.int q)) (u.1) (u.2)) (fun u : (Nat → Int32) × Int32 => (fun (fi2 : Nat → Int32) (q : Int32) => True) (u.1) (u.2)) (fun u : (Nat → Int32) × Int32 => (fun (fi2 : Nat → Int32) (q : Int32) => [bMo g o a th hi ac 0 ba en tA fl de iD iO tU fm fk fa fc ft ff fb fi2]) (u.1) (u.2)) ({ frames := 2, cells := 0, slots := 0, locals := 43 } : Room) below args s A) (F0 m 147 ls []) := by
                    intro kf
                    induction kf with
                    | zero => intro x_27 fi_28 i29 H locs ls hk; exact absurd hk (Nat.not_lt_zero _)
                    | succ kf ih147_31 =>
                      intro x_27 fi_28 i29 H locs ls hk147_31 hP hD hS hl
                      refine lv_iload hx hb dX12_told_147 (lv_at hl 5 rfl) ?_
                      refine lv_iload_n hx hb dX12_told_149 rfl (lv_at hl 1 rfl) ?_
                      refine lv_icmp_ge (tgt := 223) hx hb dX12_told_150 (by decide) (fun cb9 => ?_) (fun cb9 => ?_)
                      · skip
                        have c32 : tp.toInt ≤ x_27.toInt := zle cb9 rfl rfl
                        refine lv_iload_n hx hb dX12_told_223 rfl (lv_at hl 3 rfl) ?_
                        refine lv_aload_n hx hb dX12_told_224 rfl (lv_at hl 0 rfl) ?_
                        refine va_get (D := g.1) (ci := 10) (v := .ref (a 7)) (C := RX12) (T := TX12) (N := 20) hx hb hts izRX12 hown hK hP 0 rfl rfl 19 (by decide) (hts _ k823) (fun _ h9 => h9) rfl dX12_told_225 ?_
                        refine lv_iload hx hb dX12_told_228 (lv_at hl 4 rfl) ?_
                        refine va_zald hx hb hK hP 8 1 rfl rfl (zinK (a := 0) (b := 255) i17.1 n25 (by decide)) dX12_told_230 ?_
                        refine zg (fun x_33 => ?_)
                        refine lv_if_eq (tgt := 238) hx hb dX12_told_231 (by decide) (fun cb9 => ?_) (fun cb9 => ?_)
                        · skip
                          have c34 : x_33.toInt = 0 := zeq cb9 rfl (by decide)
                          have n35 : 0 ≤ x_33.toInt := Int.le_trans (Int.le_refl _) (Int.le_of_eq c34.symm)
                          have n36 : x_33.toInt ≤ 0 := Int.le_trans (Int.le_of_eq c34) (Int.le_refl _)
                          refine lv_iconst (v := 0) hx hb dX12_told_238 (by decide) ?_
                          refine lv_iadd hx hb dX12_told_239 ?_
                          refine zg (fun x_37 => ?_)
                          refine lv_istore_n (lv' := [(3, .int x_37), (0, .ref o), (1, .int tp), (2, .int x_4), (4, .int x_15), (5, .int x_27)]) hx hb dX12_told_240 rfl hl (by decide) rfl (fun ls hl => ?_)
                          refine ziinc3 (n' := 1) (a' := 1) (b' := 256) (lv' := fun v9 => [(4, .int v9), (3, .int x_37), (0, .ref o), (1, .int tp), (2, .int x_4), (5, .int x_27)]) hx hb dX12_told_241 hl (k := 4) rfl (by decide) (fun _ => rfl) (zaddK (i := x_15.toInt) (j := 1) rfl (by decide) i17.1 n25 (Int.le_refl _) (Int.le_refl _) (by decide)) (fun x_38 ls hx_38 hl => ?_)
                          refine lv_goto (tgt := 123) hx hb dX12_told_244 (by decide) ?_
                          have hl := lv_sub (l' := [(0, .ref o), (1, .int tp), (2, .int x_4), (3, .int x_37), (4, .int x_38), (5, .int x_27)]) hl [2, 3, 4, 1, 0, 5] rfl
                          have hP : va_P g.1 vwCl (List.flatten [bMo g o a th hi ac 0 ba en tA fl de iD iO tU fm fk fa fc ft ff fb fi_28]) H := hP
                          have hD : va_D A (List.flatten [bMo g o a th hi ac 0 ba en tA fl de iD iO tU fm fk fa fc ft ff fb fi_28]) := hD
                          exact ih123_19 x_37 x_38 fi_28 ⟨(Int.le_trans (by decide) hx_38.2.1), hx_38.2.2⟩ H _ ls (zmK hx_38.1 (by decide) n25 (by decide) hk123_19)  hP hD hS (lv_sub hl [0, 1, 2, 3, 4] rfl)
                        · skip
                          have c39 : ¬ x_33.toInt = 0 := zne cb9 rfl (by decide)
                          refine lv_iconst (v := 1) hx hb dX12_told_234 (by decide) ?_
                          refine lv_goto (tgt := 239) hx hb dX12_told_235 (by decide) ?_
                          refine lv_iadd hx hb dX12_told_239 ?_
                          refine zg (fun x_40 => ?_)
                          refine lv_istore_n (lv' := [(3, .int x_40), (0, .ref o), (1, .int tp), (2, .int x_4), (4, .int x_15), (5, .int x_27)]) hx hb dX12_told_240 rfl hl (by decide) rfl (fun ls hl => ?_)
                          refine ziinc3 (n' := 1) (a' := 1) (b' := 256) (lv' := fun v9 => [(4, .int v9), (3, .int x_40), (0, .ref o), (1, .int tp), (2, .int x_4), (5, .int x_27)]) hx hb dX12_told_241 hl (k := 4) rfl (by decide) (fun _ => rfl) (zaddK (i := x_15.toInt) (j := 1) rfl (by decide) i17.1 n25 (Int.le_refl _) (Int.le_refl _) (by decide)) (fun x_41 ls hx_41 hl => ?_)
                          refine lv_goto (tgt := 123) hx hb dX12_told_244 (by decide) ?_
                          have hl := lv_sub (l' := [(0, .ref o), (1, .int tp), (2, .int x_4), (3, .int x_40), (4, .int x_41), (5, .int x_27)]) hl [2, 3, 4, 1, 0, 5] rfl
                          have hP : va_P g.1 vwCl (List.flatten [bMo g o a th hi ac 0 ba en tA fl de iD iO tU fm fk fa fc ft ff fb fi_28]) H := hP
                          have hD : va_D A (List.flatten [bMo g o a th hi ac 0 ba en tA fl de iD iO tU fm fk fa fc ft ff fb fi_28]) := hD
                          exact ih123_19 x_40 x_41 fi_28 ⟨(Int.le_trans (by decide) hx_41.2.1), hx_41.2.2⟩ H _ ls (zmK hx_41.1 (by decide) n25 (by decide) hk123_19)  hP hD hS (lv_sub hl [0, 1, 2, 3, 4] rfl)
                      · skip
                        have c42 : x_27.toInt < tp.toInt := zlti (Int32.not_le.mp cb9) rfl rfl
                        have n43 : x_27.toInt ≤ 399 := zL1 (b := 400) c42 htp.2 (by decide)
                        have n44 : 1 ≤ tp.toInt := zL2 (a := 0) c42 i29.1 (by decide)
                        refine lv_aload_n hx hb dX12_told_153 rfl (lv_at hl 0 rfl) ?_
                        refine va_get (D := g.1) (ci := 10) (v := .ref (a 7)) (C := RX12) (T := TX12) (N := 20) hx hb hts izRX12 hown hK hP 0 rfl rfl 19 (by decide) (hts _ k823) (fun _ h9 => h9) rfl dX12_told_154 ?_
                        refine lv_iload hx hb dX12_told_157 (lv_at hl 4 rfl) ?_
                        refine va_zald hx hb hK hP 8 1 rfl rfl (zinK (a := 0) (b := 255) i17.1 n25 (by decide)) dX12_told_159 ?_
                        refine zg (fun x_45 => ?_)
                        refine lv_if_eq (tgt := 223) hx hb dX12_told_160 (by decide) (fun cb9 => ?_) (fun cb9 => ?_)
                        · skip
                          have c46 : x_45.toInt = 0 := zeq cb9 rfl (by decide)
                          have n47 : 0 ≤ x_45.toInt := Int.le_trans (Int.le_refl _) (Int.le_of_eq c46.symm)
                          have n48 : x_45.toInt ≤ 0 := Int.le_trans (Int.le_of_eq c46) (Int.le_refl _)
                          refine lv_iload_n hx hb dX12_told_223 rfl (lv_at hl 3 rfl) ?_
                          refine lv_aload_n hx hb dX12_told_224 rfl (lv_at hl 0 rfl) ?_
                          refine va_get (D := g.1) (ci := 10) (v := .ref (a 7)) (C := RX12) (T := TX12) (N := 20) hx hb hts izRX12 hown hK hP 0 rfl rfl 19 (by decide) (hts _ k823) (fun _ h9 => h9) rfl dX12_told_225 ?_
                          refine lv_iload hx hb dX12_told_228 (lv_at hl 4 rfl) ?_
                          refine va_zald hx hb hK hP 8 1 rfl rfl (zinK (a := 0) (b := 255) i17.1 n25 (by decide)) dX12_told_230 ?_
                          refine zg (fun x_49 => ?_)
                          refine lv_if_eq (tgt := 238) hx hb dX12_told_231 (by decide) (fun cb9 => ?_) (fun cb9 => ?_)
                          · skip
                            have c50 : x_49.toInt = 0 := zeq cb9 rfl (by decide)
                            have n51 : 0 ≤ x_49.toInt := Int.le_trans (Int.le_refl _) (Int.le_of_eq c50.symm)
                            have n52 : x_49.toInt ≤ 0 := Int.le_trans (Int.le_of_eq c50) (Int.le_refl _)
                            refine lv_iconst (v := 0) hx hb dX12_told_238 (by decide) ?_
                            refine lv_iadd hx hb dX12_told_239 ?_
                            refine zg (fun x_53 => ?_)
                            refine lv_istore_n (lv' := [(3, .int x_53), (0, .ref o), (1, .int tp), (2, .int x_4), (4, .int x_15), (5, .int x_27)]) hx hb dX12_told_240 rfl hl (by decide) rfl (fun ls hl => ?_)
                            refine ziinc3 (n' := 1) (a' := 1) (b' := 256) (lv' := fun v9 => [(4, .int v9), (3, .int x_53), (0, .ref o), (1, .int tp), (2, .int x_4), (5, .int x_27)]) hx hb dX12_told_241 hl (k := 4) rfl (by decide) (fun _ => rfl) (zaddK (i := x_15.toInt) (j := 1) rfl (by decide) i17.1 n25 (Int.le_refl _) (Int.le_refl _) (by decide)) (fun x_54 ls hx_54 hl => ?_)
                            refine lv_goto (tgt := 123) hx hb dX12_told_244 (by decide) ?_
                            have hl := lv_sub (l' := [(0, .ref o), (1, .int tp), (2, .int x_4), (3, .int x_53), (4, .int x_54), (5, .int x_27)]) hl [2, 3, 4, 1, 0, 5] rfl
                            have hP : va_P g.1 vwCl (List.flatten [bMo g o a th hi ac 0 ba en tA fl de iD iO tU fm fk fa fc ft ff fb fi_28]) H := hP
                            have hD : va_D A (List.flatten [bMo g o a th hi ac 0 ba en tA fl de iD iO tU fm fk fa fc ft ff fb fi_28]) := hD
                            exact ih123_19 x_53 x_54 fi_28 ⟨(Int.le_trans (by decide) hx_54.2.1), hx_54.2.2⟩ H _ ls (zmK hx_54.1 (by decide) n25 (by decide) hk123_19)  hP hD hS (lv_sub hl [0, 1, 2, 3, 4] rfl)
                          · skip
                            have c55 : ¬ x_49.toInt = 0 := zne cb9 rfl (by decide)
                            refine lv_iconst (v := 1) hx hb dX12_told_234 (by decide) ?_
                            refine lv_goto (tgt := 239) hx hb dX12_told_235 (by decide) ?_
                            refine lv_iadd hx hb dX12_told_239 ?_
                            refine zg (fun x_56 => ?_)
                            refine lv_istore_n (lv' := [(3, .int x_56), (0, .ref o), (1, .int tp), (2, .int x_4), (4, .int x_15), (5, .int x_27)]) hx hb dX12_told_240 rfl hl (by decide) rfl (fun ls hl => ?_)
                            refine ziinc3 (n' := 1) (a' := 1) (b' := 256) (lv' := fun v9 => [(4, .int v9), (3, .int x_56), (0, .ref o), (1, .int tp), (2, .int x_4), (5, .int x_27)]) hx hb dX12_told_241 hl (k := 4) rfl (by decide) (fun _ => rfl) (zaddK (i := x_15.toInt) (j := 1) rfl (by decide) i17.1 n25 (Int.le_refl _) (Int.le_refl _) (by decide)) (fun x_57 ls hx_57 hl => ?_)
                            refine lv_goto (tgt := 123) hx hb dX12_told_244 (by decide) ?_
                            have hl := lv_sub (l' := [(0, .ref o), (1, .int tp), (2, .int x_4), (3, .int x_56), (4, .int x_57), (5, .int x_27)]) hl [2, 3, 4, 1, 0, 5] rfl
                            have hP : va_P g.1 vwCl (List.flatten [bMo g o a th hi ac 0 ba en tA fl de iD iO tU fm fk fa fc ft ff fb fi_28]) H := hP
                            have hD : va_D A (List.flatten [bMo g o a th hi ac 0 ba en tA fl de iD iO tU fm fk fa fc ft ff fb fi_28]) := hD
                            exact ih123_19 x_56 x_57 fi_28 ⟨(Int.le_trans (by decide) hx_57.2.1), hx_57.2.2⟩ H _ ls (zmK hx_57.1 (by decide) n25 (by decide) hk123_19)  hP hD hS (lv_sub hl [0, 1, 2, 3, 4] rfl)
                        · skip
                          have c58 : ¬ x_45.toInt = 0 := zne cb9 rfl (by decide)
                          refine lv_aload_n hx hb dX12_told_163 rfl (lv_at hl 0 rfl) ?_
                          refine va_get (D := g.1) (ci := 10) (v := .ref (a 7)) (C := RX12) (T := TX12) (N := 20) hx hb hts izRX12 hown hK hP 0 rfl rfl 19 (by decide) (hts _ k823) (fun _ h9 => h9) rfl dX12_told_164 ?_
                          refine lv_iload hx hb dX12_told_167 (lv_at hl 4 rfl) ?_
                          refine lv_iload hx hb dX12_told_169 (lv_at hl 4 rfl) ?_
                          refine lv_aload_n hx hb dX12_told_171 rfl (lv_at hl 0 rfl) ?_
                          refine va_get (D := g.1) (ci := 10) (v := .ref (a 4)) (C := RX12) (T := TX12) (N := 20) hx hb hts izRX12 hown hK hP 0 rfl rfl 7 (by decide) (hts _ k819) (fun _ h9 => h9) rfl dX12_told_172 ?_
                          refine lv_iload hx hb dX12_told_175 (lv_at hl 5 rfl) ?_
                          refine va_iald hx hb hK hP 5 0 rfl rfl (zinK (a := 0) (b := 399) i29.1 n43 (by decide)) dX12_told_177 ?_
                          refine zg (fun x_59 => ?_)
                          refine lv_aload_n hx hb dX12_told_178 rfl (lv_at hl 0 rfl) ?_
                          refine va_get (D := g.1) (ci := 10) (v := .ref (a 4)) (C := RX12) (T := TX12) (N := 20) hx hb hts izRX12 hown hK hP 0 rfl rfl 7 (by decide) (hts _ k819) (fun _ h9 => h9) rfl dX12_told_179 ?_
                          refine lv_iload hx hb dX12_told_182 (lv_at hl 5 rfl) ?_
                          refine lv_iconst (v := 1) hx hb dX12_told_184 (by decide) ?_
                          refine lv_iadd hx hb dX12_told_185 ?_
                          refine zg3 (zaddK (i := x_27.toInt) (j := 1) (a' := 1) (b' := 400) rfl (by decide) i29.1 n43 (Int.le_refl _) (Int.le_refl _) (by decide)) (fun x_60 hx_60 => ?_)
                          refine va_iald hx hb hK hP 5 0 rfl rfl (zinI (by omega) (by omega)) dX12_told_186 ?_
                          refine zg (fun x_61 => ?_)
                          refine mcallS' (g := g) (As := [.int x_15, .int x_59, .int x_61]) (rest := [.int x_15, .ref (a 7)]) St hK hT hA hP hD hS hl.1 [] [0] rfl rfl rfl (m_says l g x_15 x_59 x_61 ) (va_cwS 3 hts (zgL (zl3 k1101 k1102 k839) k1099) rfl rfl rfl (by decide +kernel) ⟨Nat.le_of_ble_eq_true rfl, Nat.le_of_ble_eq_true rfl⟩) rfl rfl (Nat.le_of_ble_eq_true rfl) dX12_told_187 ⟨(Nat.le_of_ble_eq_true rfl), (Nat.le_of_ble_eq_true rfl)⟩ (fun q_62 H locs hq63 hP hD hS => ?_)
                          replace hq63 : (q_62 = 0 ∨ q_62 = 1) := hq63
                          have hP : va_P g.1 vwCl (List.flatten [bMo g o a th hi ac 0 ba en tA fl de iD iO tU fm fk fa fc ft ff fb fi_28]) H := hP
                          have hD : va_D A (List.flatten [bMo g o a th hi ac 0 ba en tA fl de iD iO tU fm fk fa fc ft ff fb fi_28]) := hD
                          refine W.widen (k := 0) (n := 0) (Nat.le_of_ble_eq_true rfl) (Nat.le_of_ble_eq_true rfl) ?_
                          refine W.eq (g2 := F0 m 190 ls [.int q_62, .int x_15, .ref (a 7)]) rfl ?_
                          rcases hq63 with rfl | rfl
                          · skip
                            refine lv_aload_n hx hb dX12_told_190 rfl (lv_at hl 0 rfl) ?_
                            refine va_get (D := g.1) (ci := 10) (v := .ref (a 4)) (C := RX12) (T := TX12) (N := 20) hx hb hts izRX12 hown hK hP 0 rfl rfl 7 (by decide) (hts _ k819) (fun _ h9 => h9) rfl dX12_told_191 ?_
                            refine lv_iload hx hb dX12_told_194 (lv_at hl 5 rfl) ?_
                            refine lv_iconst (v := 2) hx hb dX12_told_196 (by decide) ?_
                            refine lv_iadd hx hb dX12_told_197 ?_
                            refine zg3 (zaddK (i := x_27.toInt) (j := 2) (a' := 2) (b' := 401) rfl (by decide) i29.1 n43 (Int.le_refl _) (Int.le_refl _) (by decide)) (fun x_64 hx_64 => ?_)
                            refine va_iald hx hb hK hP 5 0 rfl rfl (zinI (by omega) (by omega)) dX12_told_198 ?_
                            refine zg (fun x_65 => ?_)
                            refine lv_iconst (v := 1) hx hb dX12_told_199 (by decide) ?_
                            refine lv_icmp_ne (tgt := 207) hx hb dX12_told_200 (by decide) (fun cb9 => ?_) (fun cb9 => ?_)
                            · skip
                              have c66 : ¬ x_65.toInt = 1 := zne cb9 rfl (by decide)
                              refine lv_iconst (v := 0) hx hb dX12_told_207 (by decide) ?_
                              refine lv_icmp_ne (tgt := 215) hx hb dX12_told_208 (by decide) (fun c67 => absurd (by decide) c67) (fun _ => ?_)
                              refine lv_iconst (v := 1) hx hb dX12_told_211 (by decide) ?_
                              refine lv_goto (tgt := 216) hx hb dX12_told_212 (by decide) ?_
                              refine va_zast hx hb hK hP hD hS 8 1 rfl rfl (zinK (a := 0) (b := 255) i17.1 n25 (by decide)) dX12_told_216 (fun H locs hP hD hS => ?_)
                              obtain ⟨fi_68, hP, hD⟩ : ∃ fi_68 : Nat → Int32, va_P g.1 vwCl (List.flatten [bMo g o a th hi ac 0 ba en tA fl de iD iO tU fm fk fa fc ft ff fb fi_68]) H ∧ va_D A (List.flatten [bMo g o a th hi ac 0 ba en tA fl de iD iO tU fm fk fa fc ft ff fb fi_68]) := ⟨upd fi_28 x_15.toNatClampNeg (vp_nar .boolean 1), hP, hD⟩
                              refine ziinc3 (n' := 3) (a' := 3) (b' := 402) (lv' := fun v9 => [(5, .int v9), (0, .ref o), (1, .int tp), (2, .int x_4), (3, .int x_14), (4, .int x_15)]) hx hb dX12_told_217 hl (k := 5) rfl (by decide) (fun _ => rfl) (zaddK (i := x_27.toInt) (j := 3) rfl (by decide) i29.1 n43 (Int.le_refl _) (Int.le_refl _) (by decide)) (fun x_69 ls hx_69 hl => ?_)
                              refine lv_goto (tgt := 147) hx hb dX12_told_220 (by decide) ?_
                              have hl := lv_sub (l' := [(0, .ref o), (1, .int tp), (2, .int x_4), (3, .int x_14), (4, .int x_15), (5, .int x_69)]) hl [1, 2, 3, 4, 5, 0] rfl
                              have hP : va_P g.1 vwCl (List.flatten [bMo g o a th hi ac 0 ba en tA fl de iD iO tU fm fk fa fc ft ff fb fi_68]) H := hP
                              have hD : va_D A (List.flatten [bMo g o a th hi ac 0 ba en tA fl de iD iO tU fm fk fa fc ft ff fb fi_68]) := hD
                              exact ih147_31 x_69 fi_68 ⟨(Int.le_trans (by decide) hx_69.2.1), hx_69.2.2⟩ H _ ls (zmK hx_69.1 (by decide) n43 (by decide) hk147_31)  hP hD hS (lv_sub hl [0, 1, 2, 3, 4, 5] rfl)
                            · skip
                              have c70 : x_65.toInt = 1 := zeq cb9 rfl (by decide)
                              have n71 : 1 ≤ x_65.toInt := Int.le_trans (Int.le_refl _) (Int.le_of_eq c70.symm)
                              have n72 : x_65.toInt ≤ 1 := Int.le_trans (Int.le_of_eq c70) (Int.le_refl _)
                              refine lv_iconst (v := 1) hx hb dX12_told_203 (by decide) ?_
                              refine lv_goto (tgt := 208) hx hb dX12_told_204 (by decide) ?_
                              refine lv_icmp_ne (tgt := 215) hx hb dX12_told_208 (by decide) (fun _ => ?_) (fun c73 => absurd c73 (by decide))
                              refine lv_iconst (v := 0) hx hb dX12_told_215 (by decide) ?_
                              refine va_zast hx hb hK hP hD hS 8 1 rfl rfl (zinK (a := 0) (b := 255) i17.1 n25 (by decide)) dX12_told_216 (fun H locs hP hD hS => ?_)
                              obtain ⟨fi_74, hP, hD⟩ : ∃ fi_74 : Nat → Int32, va_P g.1 vwCl (List.flatten [bMo g o a th hi ac 0 ba en tA fl de iD iO tU fm fk fa fc ft ff fb fi_74]) H ∧ va_D A (List.flatten [bMo g o a th hi ac 0 ba en tA fl de iD iO tU fm fk fa fc ft ff fb fi_74]) := ⟨upd fi_28 x_15.toNatClampNeg (vp_nar .boolean 0), hP, hD⟩
                              refine ziinc3 (n' := 3) (a' := 3) (b' := 402) (lv' := fun v9 => [(5, .int v9), (0, .ref o), (1, .int tp), (2, .int x_4), (3, .int x_14), (4, .int x_15)]) hx hb dX12_told_217 hl (k := 5) rfl (by decide) (fun _ => rfl) (zaddK (i := x_27.toInt) (j := 3) rfl (by decide) i29.1 n43 (Int.le_refl _) (Int.le_refl _) (by decide)) (fun x_75 ls hx_75 hl => ?_)
                              refine lv_goto (tgt := 147) hx hb dX12_told_220 (by decide) ?_
                              have hl := lv_sub (l' := [(0, .ref o), (1, .int tp), (2, .int x_4), (3, .int x_14), (4, .int x_15), (5, .int x_75)]) hl [1, 2, 3, 4, 5, 0] rfl
                              have hP : va_P g.1 vwCl (List.flatten [bMo g o a th hi ac 0 ba en tA fl de iD iO tU fm fk fa fc ft ff fb fi_74]) H := hP
                              have hD : va_D A (List.flatten [bMo g o a th hi ac 0 ba en tA fl de iD iO tU fm fk fa fc ft ff fb fi_74]) := hD
                              exact ih147_31 x_75 fi_74 ⟨(Int.le_trans (by decide) hx_75.2.1), hx_75.2.2⟩ H _ ls (zmK hx_75.1 (by decide) n43 (by decide) hk147_31)  hP hD hS (lv_sub hl [0, 1, 2, 3, 4, 5] rfl)
                          · skip
                            refine lv_aload_n hx hb dX12_told_190 rfl (lv_at hl 0 rfl) ?_
                            refine va_get (D := g.1) (ci := 10) (v := .ref (a 4)) (C := RX12) (T := TX12) (N := 20) hx hb hts izRX12 hown hK hP 0 rfl rfl 7 (by decide) (hts _ k819) (fun _ h9 => h9) rfl dX12_told_191 ?_
                            refine lv_iload hx hb dX12_told_194 (lv_at hl 5 rfl) ?_
                            refine lv_iconst (v := 2) hx hb dX12_told_196 (by decide) ?_
                            refine lv_iadd hx hb dX12_told_197 ?_
                            refine zg3 (zaddK (i := x_27.toInt) (j := 2) (a' := 2) (b' := 401) rfl (by decide) i29.1 n43 (Int.le_refl _) (Int.le_refl _) (by decide)) (fun x_76 hx_76 => ?_)
                            refine va_iald hx hb hK hP 5 0 rfl rfl (zinI (by omega) (by omega)) dX12_told_198 ?_
                            refine zg (fun x_77 => ?_)
                            refine lv_iconst (v := 1) hx hb dX12_told_199 (by decide) ?_
                            refine lv_icmp_ne (tgt := 207) hx hb dX12_told_200 (by decide) (fun cb9 => ?_) (fun cb9 => ?_)
                            · skip
                              have c78 : ¬ x_77.toInt = 1 := zne cb9 rfl (by decide)
                              refine lv_iconst (v := 0) hx hb dX12_told_207 (by decide) ?_
                              refine lv_icmp_ne (tgt := 215) hx hb dX12_told_208 (by decide) (fun _ => ?_) (fun c79 => absurd c79 (by decide))
                              refine lv_iconst (v := 0) hx hb dX12_told_215 (by decide) ?_
                              refine va_zast hx hb hK hP hD hS 8 1 rfl rfl (zinK (a := 0) (b := 255) i17.1 n25 (by decide)) dX12_told_216 (fun H locs hP hD hS => ?_)
                              obtain ⟨fi_80, hP, hD⟩ : ∃ fi_80 : Nat → Int32, va_P g.1 vwCl (List.flatten [bMo g o a th hi ac 0 ba en tA fl de iD iO tU fm fk fa fc ft ff fb fi_80]) H ∧ va_D A (List.flatten [bMo g o a th hi ac 0 ba en tA fl de iD iO tU fm fk fa fc ft ff fb fi_80]) := ⟨upd fi_28 x_15.toNatClampNeg (vp_nar .boolean 0), hP, hD⟩
                              refine ziinc3 (n' := 3) (a' := 3) (b' := 402) (lv' := fun v9 => [(5, .int v9), (0, .ref o), (1, .int tp), (2, .int x_4), (3, .int x_14), (4, .int x_15)]) hx hb dX12_told_217 hl (k := 5) rfl (by decide) (fun _ => rfl) (zaddK (i := x_27.toInt) (j := 3) rfl (by decide) i29.1 n43 (Int.le_refl _) (Int.le_refl _) (by decide)) (fun x_81 ls hx_81 hl => ?_)
                              refine lv_goto (tgt := 147) hx hb dX12_told_220 (by decide) ?_
                              have hl := lv_sub (l' := [(0, .ref o), (1, .int tp), (2, .int x_4), (3, .int x_14), (4, .int x_15), (5, .int x_81)]) hl [1, 2, 3, 4, 5, 0] rfl
                              have hP : va_P g.1 vwCl (List.flatten [bMo g o a th hi ac 0 ba en tA fl de iD iO tU fm fk fa fc ft ff fb fi_80]) H := hP
                              have hD : va_D A (List.flatten [bMo g o a th hi ac 0 ba en tA fl de iD iO tU fm fk fa fc ft ff fb fi_80]) := hD
                              exact ih147_31 x_81 fi_80 ⟨(Int.le_trans (by decide) hx_81.2.1), hx_81.2.2⟩ H _ ls (zmK hx_81.1 (by decide) n43 (by decide) hk147_31)  hP hD hS (lv_sub hl [0, 1, 2, 3, 4, 5] rfl)
                            · skip
                              have c82 : x_77.toInt = 1 := zeq cb9 rfl (by decide)
                              have n83 : 1 ≤ x_77.toInt := Int.le_trans (Int.le_refl _) (Int.le_of_eq c82.symm)
                              have n84 : x_77.toInt ≤ 1 := Int.le_trans (Int.le_of_eq c82) (Int.le_refl _)
                              refine lv_iconst (v := 1) hx hb dX12_told_203 (by decide) ?_
                              refine lv_goto (tgt := 208) hx hb dX12_told_204 (by decide) ?_
                              refine lv_icmp_ne (tgt := 215) hx hb dX12_told_208 (by decide) (fun c85 => absurd (by decide) c85) (fun _ => ?_)
                              refine lv_iconst (v := 1) hx hb dX12_told_211 (by decide) ?_
                              refine lv_goto (tgt := 216) hx hb dX12_told_212 (by decide) ?_
                              refine va_zast hx hb hK hP hD hS 8 1 rfl rfl (zinK (a := 0) (b := 255) i17.1 n25 (by decide)) dX12_told_216 (fun H locs hP hD hS => ?_)
                              obtain ⟨fi_86, hP, hD⟩ : ∃ fi_86 : Nat → Int32, va_P g.1 vwCl (List.flatten [bMo g o a th hi ac 0 ba en tA fl de iD iO tU fm fk fa fc ft ff fb fi_86]) H ∧ va_D A (List.flatten [bMo g o a th hi ac 0 ba en tA fl de iD iO tU fm fk fa fc ft ff fb fi_86]) := ⟨upd fi_28 x_15.toNatClampNeg (vp_nar .boolean 1), hP, hD⟩
                              refine ziinc3 (n' := 3) (a' := 3) (b' := 402) (lv' := fun v9 => [(5, .int v9), (0, .ref o), (1, .int tp), (2, .int x_4), (3, .int x_14), (4, .int x_15)]) hx hb dX12_told_217 hl (k := 5) rfl (by decide) (fun _ => rfl) (zaddK (i := x_27.toInt) (j := 3) rfl (by decide) i29.1 n43 (Int.le_refl _) (Int.le_refl _) (by decide)) (fun x_87 ls hx_87 hl => ?_)
                              refine lv_goto (tgt := 147) hx hb dX12_told_220 (by decide) ?_
                              have hl := lv_sub (l' := [(0, .ref o), (1, .int tp), (2, .int x_4), (3, .int x_14), (4, .int x_15), (5, .int x_87)]) hl [1, 2, 3, 4, 5, 0] rfl
                              have hP : va_P g.1 vwCl (List.flatten [bMo g o a th hi ac 0 ba en tA fl de iD iO tU fm fk fa fc ft ff fb fi_86]) H := hP
                              have hD : va_D A (List.flatten [bMo g o a th hi ac 0 ba en tA fl de iD iO tU fm fk fa fc ft ff fb fi_86]) := hD
                              exact ih147_31 x_87 fi_86 ⟨(Int.le_trans (by decide) hx_87.2.1), hx_87.2.2⟩ H _ ls (zmK hx_87.1 (by decide) n43 (by decide) hk147_31)  hP hD hS (lv_sub hl [0, 1, 2, 3, 4, 5] rfl)
                  have hP : va_P g.1 vwCl (List.flatten [bMo g o a th hi ac 0 ba en tA fl de iD iO tU fm fk fa fc ft ff fb fi_26]) H := hP
                  have hD : va_D A (List.flatten [bMo g o a th hi ac 0 ba en tA fl de iD iO tU fm fk fa fc ft ff fb fi_26]) := hD
                  exact LP147_30 _ 0 fi_26 (by decide) H _ ls (Nat.lt_succ_self _)  hP hD hS (lv_sub hl [0, 1, 2, 3, 4, 5] rfl)
            have hP : va_P g.1 vwCl (List.flatten [bMo g o a th hi ac 0 ba en tA fl de iD iO tU fm fk fa fc ft ff fb fi]) H := hP
            have hD : va_D A (List.flatten [bMo g o a th hi ac 0 ba en tA fl de iD iO tU fm fk fa fc ft ff fb fi]) := hD
            exact LP123_18 _ 0 0 fi (by decide) H _ ls (Nat.lt_succ_self _)  hP hD hS (lv_sub hl [0, 1, 2, 3, 4] rfl)
          · skip
            have c88 : x_4.toInt = 0 := zeq cb9 rfl (by decide)
            have n89 : x_4.toInt ≤ 0 := Int.le_trans (Int.le_of_eq c88) (Int.le_refl _)
            refine lv_iconst (v := (-1)) hx hb dX12_told_116 (by decide) ?_
            have hP : va_P g.1 vwCl (List.flatten [bMo g o a th hi ac 0 ba en tA fl de iD iO tU fm fk fa fc ft ff fb fi]) H := hP
            have hD : va_D A (List.flatten [bMo g o a th hi ac 0 ba en tA fl de iD iO tU fm fk fa fc ft ff fb fi]) := hD
            exact mret_i hx hb hr hlocks hS (Nat.le_of_ble_eq_true rfl) (Nat.le_of_ble_eq_true rfl) dX12_told_117 (fi, -1) rfl trivial hP hD
        · skip
          have c90 : x_5.toInt < tp.toInt := zlti (Int32.not_le.mp cb9) rfl rfl
          have n91 : x_5.toInt ≤ 399 := zL1 (b := 400) c90 htp.2 (by decide)
          have n92 : 1 ≤ tp.toInt := zL2 (a := 0) c90 i7.1 (by decide)
          refine lv_iload_n hx hb dX12_told_35 rfl (lv_at hl 2 rfl) ?_
          refine lv_if_eq (tgt := 112) hx hb dX12_told_36 (by decide) (fun cb9 => ?_) (fun cb9 => ?_)
          · skip
            have c93 : x_4.toInt = 0 := zeq cb9 rfl (by decide)
            have n94 : x_4.toInt ≤ 0 := Int.le_trans (Int.le_of_eq c93) (Int.le_refl _)
            refine lv_iload_n hx hb dX12_told_112 rfl (lv_at hl 2 rfl) ?_
            refine lv_if_ne (tgt := 118) hx hb dX12_told_113 (by decide) (fun cb9 => ?_) (fun cb9 => ?_)
            · skip
              exact absurd (show ¬ x_4.toInt = 0 from zne cb9 rfl (by decide)) (by omega)
            · skip
              have c96 : x_4.toInt = 0 := zeq cb9 rfl (by decide)
              refine lv_iconst (v := (-1)) hx hb dX12_told_116 (by decide) ?_
              have hP : va_P g.1 vwCl (List.flatten [bMo g o a th hi ac 0 ba en tA fl de iD iO tU fm fk fa fc ft ff fb fi]) H := hP
              have hD : va_D A (List.flatten [bMo g o a th hi ac 0 ba en tA fl de iD iO tU fm fk fa fc ft ff fb fi]) := hD
              exact mret_i hx hb hr hlocks hS (Nat.le_of_ble_eq_true rfl) (Nat.le_of_ble_eq_true rfl) dX12_told_117 (fi, -1) rfl trivial hP hD
          · skip
            have c97 : ¬ x_4.toInt = 0 := zne cb9 rfl (by decide)
            have n98 : 1 ≤ x_4.toInt := zN1 c97 i6.1 (by decide)
            refine lv_aload_n hx hb dX12_told_39 rfl (lv_at hl 0 rfl) ?_
            refine va_get (D := g.1) (ci := 10) (v := .ref (a 4)) (C := RX12) (T := TX12) (N := 20) hx hb hts izRX12 hown hK hP 0 rfl rfl 7 (by decide) (hts _ k819) (fun _ h9 => h9) rfl dX12_told_40 ?_
            refine lv_iload_n hx hb dX12_told_43 rfl (lv_at hl 3 rfl) ?_
            refine va_iald hx hb hK hP 5 0 rfl rfl (zinK (a := 0) (b := 399) i7.1 n91 (by decide)) dX12_told_44 ?_
            refine zg (fun x_99 => ?_)
            refine lv_aload_n hx hb dX12_told_45 rfl (lv_at hl 0 rfl) ?_
            refine va_get (D := g.1) (ci := 10) (v := .ref (a 0)) (C := RX12) (T := TX12) (N := 20) hx hb hts izRX12 hown hK hP 0 rfl rfl 1 (by decide) (hts _ k815) (fun _ h9 => h9) rfl dX12_told_46 ?_
            refine lv_iconst (v := 3) hx hb dX12_told_49 (by decide) ?_
            refine va_iald hx hb hK hP 1 0 rfl rfl (zin rfl) dX12_told_50 ?_
            refine zgq (r := fm 3) rfl (rM3 rfm) (fun x_100 hx_100 => ?_)
            refine lv_icmp_ge (tgt := 104) hx hb dX12_told_51 (by decide) (fun cb9 => ?_) (fun cb9 => ?_)
            · skip
              have c101 : x_100.toInt ≤ x_99.toInt := zle cb9 rfl rfl
              have n102 : 0 ≤ x_99.toInt := Int.le_trans hx_100.1 c101
              refine lv_iconst (v := 0) hx hb dX12_told_104 (by decide) ?_
              refine lv_istore_n (lv' := [(2, .int 0), (0, .ref o), (1, .int tp), (3, .int x_5)]) hx hb dX12_told_105 rfl hl (by decide) rfl (fun ls hl => ?_)
              refine ziinc3 (n' := 3) (a' := 3) (b' := 402) (lv' := fun v9 => [(3, .int v9), (2, .int 0), (0, .ref o), (1, .int tp)]) hx hb dX12_told_106 hl (k := 3) rfl (by decide) (fun _ => rfl) (zaddK (i := x_5.toInt) (j := 3) rfl (by decide) i7.1 n91 (Int.le_refl _) (Int.le_refl _) (by decide)) (fun x_103 ls hx_103 hl => ?_)
              refine lv_goto (tgt := 30) hx hb dX12_told_109 (by decide) ?_
              have hl := lv_sub (l' := [(0, .ref o), (1, .int tp), (2, .int 0), (3, .int x_103)]) hl [2, 3, 1, 0] rfl
              have hL0 : (0 : Int32).toInt = 0 := by decide
              have hP : va_P g.1 vwCl (List.flatten [bMo g o a th hi ac 0 ba en tA fl de iD iO tU fm fk fa fc ft ff fb fi]) H := hP
              have hD : va_D A (List.flatten [bMo g o a th hi ac 0 ba en tA fl de iD iO tU fm fk fa fc ft ff fb fi]) := hD
              exact ih30_10 0 x_103 (by decide) ⟨(Int.le_trans (by decide) hx_103.2.1), hx_103.2.2⟩ (by first | omega | assumption | decide) H _ ls (zmK hx_103.1 (by decide) n91 (by decide) hk30_10)  hP hD hS (lv_sub hl [0, 1, 2, 3] rfl)
            · skip
              have c104 : x_99.toInt < x_100.toInt := zlti (Int32.not_le.mp cb9) rfl rfl
              have n105 : x_99.toInt ≤ 7 := zL1 (b := 8) c104 hx_100.2.1 (by decide)
              refine lv_aload_n hx hb dX12_told_54 rfl (lv_at hl 0 rfl) ?_
              refine va_get (D := g.1) (ci := 10) (v := .ref (a 4)) (C := RX12) (T := TX12) (N := 20) hx hb hts izRX12 hown hK hP 0 rfl rfl 7 (by decide) (hts _ k819) (fun _ h9 => h9) rfl dX12_told_55 ?_
              refine lv_iload_n hx hb dX12_told_58 rfl (lv_at hl 3 rfl) ?_
              refine lv_iconst (v := 1) hx hb dX12_told_59 (by decide) ?_
              refine lv_iadd hx hb dX12_told_60 ?_
              refine zg3 (zaddK (i := x_5.toInt) (j := 1) (a' := 1) (b' := 400) rfl (by decide) i7.1 n91 (Int.le_refl _) (Int.le_refl _) (by decide)) (fun x_106 hx_106 => ?_)
              refine va_iald hx hb hK hP 5 0 rfl rfl (zinI (by omega) (by omega)) dX12_told_61 ?_
              refine zg (fun x_107 => ?_)
              refine lv_aload_n hx hb dX12_told_62 rfl (lv_at hl 0 rfl) ?_
              refine va_get (D := g.1) (ci := 10) (v := .ref (a 0)) (C := RX12) (T := TX12) (N := 20) hx hb hts izRX12 hown hK hP 0 rfl rfl 1 (by decide) (hts _ k815) (fun _ h9 => h9) rfl dX12_told_63 ?_
              refine lv_iconst (v := 3) hx hb dX12_told_66 (by decide) ?_
              refine va_iald hx hb hK hP 1 0 rfl rfl (zin rfl) dX12_told_67 ?_
              refine zgq (r := fm 3) rfl (rM3 rfm) (fun x_108 hx_108 => ?_)
              refine lv_icmp_ge (tgt := 104) hx hb dX12_told_68 (by decide) (fun cb9 => ?_) (fun cb9 => ?_)
              · skip
                have c109 : x_108.toInt ≤ x_107.toInt := zle cb9 rfl rfl
                have n110 : 0 ≤ x_107.toInt := Int.le_trans hx_108.1 c109
                refine lv_iconst (v := 0) hx hb dX12_told_104 (by decide) ?_
                refine lv_istore_n (lv' := [(2, .int 0), (0, .ref o), (1, .int tp), (3, .int x_5)]) hx hb dX12_told_105 rfl hl (by decide) rfl (fun ls hl => ?_)
                refine ziinc3 (n' := 3) (a' := 3) (b' := 402) (lv' := fun v9 => [(3, .int v9), (2, .int 0), (0, .ref o), (1, .int tp)]) hx hb dX12_told_106 hl (k := 3) rfl (by decide) (fun _ => rfl) (zaddK (i := x_5.toInt) (j := 3) rfl (by decide) i7.1 n91 (Int.le_refl _) (Int.le_refl _) (by decide)) (fun x_111 ls hx_111 hl => ?_)
                refine lv_goto (tgt := 30) hx hb dX12_told_109 (by decide) ?_
                have hl := lv_sub (l' := [(0, .ref o), (1, .int tp), (2, .int 0), (3, .int x_111)]) hl [2, 3, 1, 0] rfl
                have hL0 : (0 : Int32).toInt = 0 := by decide
                have hP : va_P g.1 vwCl (List.flatten [bMo g o a th hi ac 0 ba en tA fl de iD iO tU fm fk fa fc ft ff fb fi]) H := hP
                have hD : va_D A (List.flatten [bMo g o a th hi ac 0 ba en tA fl de iD iO tU fm fk fa fc ft ff fb fi]) := hD
                exact ih30_10 0 x_111 (by decide) ⟨(Int.le_trans (by decide) hx_111.2.1), hx_111.2.2⟩ (by first | omega | assumption | decide) H _ ls (zmK hx_111.1 (by decide) n91 (by decide) hk30_10)  hP hD hS (lv_sub hl [0, 1, 2, 3] rfl)
              · skip
                have c112 : x_107.toInt < x_108.toInt := zlti (Int32.not_le.mp cb9) rfl rfl
                have n113 : x_107.toInt ≤ 7 := zL1 (b := 8) c112 hx_108.2.1 (by decide)
                refine lv_aload_n hx hb dX12_told_71 rfl (lv_at hl 0 rfl) ?_
                refine va_get (D := g.1) (ci := 10) (v := .ref (a 4)) (C := RX12) (T := TX12) (N := 20) hx hb hts izRX12 hown hK hP 0 rfl rfl 7 (by decide) (hts _ k819) (fun _ h9 => h9) rfl dX12_told_72 ?_
                refine lv_iload_n hx hb dX12_told_75 rfl (lv_at hl 3 rfl) ?_
                refine va_iald hx hb hK hP 5 0 rfl rfl (zinK (a := 0) (b := 399) i7.1 n91 (by decide)) dX12_told_76 ?_
                refine zg (fun x_114 => ?_)
                refine lv_aload_n hx hb dX12_told_77 rfl (lv_at hl 0 rfl) ?_
                refine va_get (D := g.1) (ci := 10) (v := .ref (a 4)) (C := RX12) (T := TX12) (N := 20) hx hb hts izRX12 hown hK hP 0 rfl rfl 7 (by decide) (hts _ k819) (fun _ h9 => h9) rfl dX12_told_78 ?_
                refine lv_iload_n hx hb dX12_told_81 rfl (lv_at hl 3 rfl) ?_
                refine lv_iconst (v := 1) hx hb dX12_told_82 (by decide) ?_
                refine lv_iadd hx hb dX12_told_83 ?_
                refine zg3 (zaddK (i := x_5.toInt) (j := 1) (a' := 1) (b' := 400) rfl (by decide) i7.1 n91 (Int.le_refl _) (Int.le_refl _) (by decide)) (fun x_115 hx_115 => ?_)
                refine va_iald hx hb hK hP 5 0 rfl rfl (zinI (by omega) (by omega)) dX12_told_84 ?_
                refine zg (fun x_116 => ?_)
                refine lv_icmp_eq (tgt := 104) hx hb dX12_told_85 (by decide) (fun cb9 => ?_) (fun cb9 => ?_)
                · skip
                  have c117 : x_114.toInt = x_116.toInt := zeq cb9 rfl rfl
                  refine lv_iconst (v := 0) hx hb dX12_told_104 (by decide) ?_
                  refine lv_istore_n (lv' := [(2, .int 0), (0, .ref o), (1, .int tp), (3, .int x_5)]) hx hb dX12_told_105 rfl hl (by decide) rfl (fun ls hl => ?_)
                  refine ziinc3 (n' := 3) (a' := 3) (b' := 402) (lv' := fun v9 => [(3, .int v9), (2, .int 0), (0, .ref o), (1, .int tp)]) hx hb dX12_told_106 hl (k := 3) rfl (by decide) (fun _ => rfl) (zaddK (i := x_5.toInt) (j := 3) rfl (by decide) i7.1 n91 (Int.le_refl _) (Int.le_refl _) (by decide)) (fun x_118 ls hx_118 hl => ?_)
                  refine lv_goto (tgt := 30) hx hb dX12_told_109 (by decide) ?_
                  have hl := lv_sub (l' := [(0, .ref o), (1, .int tp), (2, .int 0), (3, .int x_118)]) hl [2, 3, 1, 0] rfl
                  have hL0 : (0 : Int32).toInt = 0 := by decide
                  have hP : va_P g.1 vwCl (List.flatten [bMo g o a th hi ac 0 ba en tA fl de iD iO tU fm fk fa fc ft ff fb fi]) H := hP
                  have hD : va_D A (List.flatten [bMo g o a th hi ac 0 ba en tA fl de iD iO tU fm fk fa fc ft ff fb fi]) := hD
                  exact ih30_10 0 x_118 (by decide) ⟨(Int.le_trans (by decide) hx_118.2.1), hx_118.2.2⟩ (by first | omega | assumption | decide) H _ ls (zmK hx_118.1 (by decide) n91 (by decide) hk30_10)  hP hD hS (lv_sub hl [0, 1, 2, 3] rfl)
                · skip
                  have c119 : ¬ x_114.toInt = x_116.toInt := zne cb9 rfl rfl
                  refine lv_aload_n hx hb dX12_told_88 rfl (lv_at hl 0 rfl) ?_
                  refine va_get (D := g.1) (ci := 10) (v := .ref (a 4)) (C := RX12) (T := TX12) (N := 20) hx hb hts izRX12 hown hK hP 0 rfl rfl 7 (by decide) (hts _ k819) (fun _ h9 => h9) rfl dX12_told_89 ?_
                  refine lv_iload_n hx hb dX12_told_92 rfl (lv_at hl 3 rfl) ?_
                  refine lv_iconst (v := 2) hx hb dX12_told_93 (by decide) ?_
                  refine lv_iadd hx hb dX12_told_94 ?_
                  refine zg3 (zaddK (i := x_5.toInt) (j := 2) (a' := 2) (b' := 401) rfl (by decide) i7.1 n91 (Int.le_refl _) (Int.le_refl _) (by decide)) (fun x_120 hx_120 => ?_)
                  refine va_iald hx hb hK hP 5 0 rfl rfl (zinI (by omega) (by omega)) dX12_told_95 ?_
                  refine zg (fun x_121 => ?_)
                  refine lv_iconst (v := 2) hx hb dX12_told_96 (by decide) ?_
                  refine lv_icmp_ge (tgt := 104) hx hb dX12_told_97 (by decide) (fun cb9 => ?_) (fun cb9 => ?_)
                  · skip
                    have c122 : 2 ≤ x_121.toInt := zle cb9 (by decide) rfl
                    have n123 : 2 ≤ x_121.toInt := Int.le_trans (Int.le_refl _) c122
                    refine lv_iconst (v := 0) hx hb dX12_told_104 (by decide) ?_
                    refine lv_istore_n (lv' := [(2, .int 0), (0, .ref o), (1, .int tp), (3, .int x_5)]) hx hb dX12_told_105 rfl hl (by decide) rfl (fun ls hl => ?_)
                    refine ziinc3 (n' := 3) (a' := 3) (b' := 402) (lv' := fun v9 => [(3, .int v9), (2, .int 0), (0, .ref o), (1, .int tp)]) hx hb dX12_told_106 hl (k := 3) rfl (by decide) (fun _ => rfl) (zaddK (i := x_5.toInt) (j := 3) rfl (by decide) i7.1 n91 (Int.le_refl _) (Int.le_refl _) (by decide)) (fun x_124 ls hx_124 hl => ?_)
                    refine lv_goto (tgt := 30) hx hb dX12_told_109 (by decide) ?_
                    have hl := lv_sub (l' := [(0, .ref o), (1, .int tp), (2, .int 0), (3, .int x_124)]) hl [2, 3, 1, 0] rfl
                    have hL0 : (0 : Int32).toInt = 0 := by decide
                    have hP : va_P g.1 vwCl (List.flatten [bMo g o a th hi ac 0 ba en tA fl de iD iO tU fm fk fa fc ft ff fb fi]) H := hP
                    have hD : va_D A (List.flatten [bMo g o a th hi ac 0 ba en tA fl de iD iO tU fm fk fa fc ft ff fb fi]) := hD
                    exact ih30_10 0 x_124 (by decide) ⟨(Int.le_trans (by decide) hx_124.2.1), hx_124.2.2⟩ (by first | omega | assumption | decide) H _ ls (zmK hx_124.1 (by decide) n91 (by decide) hk30_10)  hP hD hS (lv_sub hl [0, 1, 2, 3] rfl)
                  · skip
                    have c125 : x_121.toInt < 2 := zlti (Int32.not_le.mp cb9) rfl (by decide)
                    have n126 : x_121.toInt ≤ 1 := zL1 (b := 2) c125 (Int.le_refl _) (by decide)
                    refine lv_iconst (v := 1) hx hb dX12_told_100 (by decide) ?_
                    refine lv_goto (tgt := 105) hx hb dX12_told_101 (by decide) ?_
                    refine lv_istore_n (lv' := [(2, .int 1), (0, .ref o), (1, .int tp), (3, .int x_5)]) hx hb dX12_told_105 rfl hl (by decide) rfl (fun ls hl => ?_)
                    refine ziinc3 (n' := 3) (a' := 3) (b' := 402) (lv' := fun v9 => [(3, .int v9), (2, .int 1), (0, .ref o), (1, .int tp)]) hx hb dX12_told_106 hl (k := 3) rfl (by decide) (fun _ => rfl) (zaddK (i := x_5.toInt) (j := 3) rfl (by decide) i7.1 n91 (Int.le_refl _) (Int.le_refl _) (by decide)) (fun x_127 ls hx_127 hl => ?_)
                    refine lv_goto (tgt := 30) hx hb dX12_told_109 (by decide) ?_
                    have hl := lv_sub (l' := [(0, .ref o), (1, .int tp), (2, .int 1), (3, .int x_127)]) hl [2, 3, 1, 0] rfl
                    have hL1 : (1 : Int32).toInt = 1 := by decide
                    have hP : va_P g.1 vwCl (List.flatten [bMo g o a th hi ac 0 ba en tA fl de iD iO tU fm fk fa fc ft ff fb fi]) H := hP
                    have hD : va_D A (List.flatten [bMo g o a th hi ac 0 ba en tA fl de iD iO tU fm fk fa fc ft ff fb fi]) := hD
                    exact ih30_10 1 x_127 (by decide) ⟨(Int.le_trans (by decide) hx_127.2.1), hx_127.2.2⟩ (by first | omega | assumption | decide) H _ ls (zmK hx_127.1 (by decide) n91 (by decide) hk30_10)  hP hD hS (lv_sub hl [0, 1, 2, 3] rfl)
    have hL0 : (0 : Int32).toInt = 0 := by decide
    have hP : va_P g.1 vwCl (List.flatten [bMo g o a th hi ac 0 ba en tA fl de iD iO tU fm fk fa fc ft ff fb fi]) H := hP
    have hD : va_D A (List.flatten [bMo g o a th hi ac 0 ba en tA fl de iD iO tU fm fk fa fc ft ff fb fi]) := hD
    exact LP30_9 _ 0 0 (by decide) (by decide) (by first | omega | assumption | decide) H _ ls (Nat.lt_succ_self _)  hP hD hS (lv_sub hl [0, 1, 2, 3] rfl)
  · skip
    have c128 : x_1.toInt = 0 := zeq cb9 rfl (by decide)
    have n129 : x_1.toInt ≤ 0 := Int.le_trans (Int.le_of_eq c128) (Int.le_refl _)
    refine lv_iload_n hx hb dX12_told_16 rfl (lv_at hl 0 rfl) ?_
    refine lv_bipush (v := 36) hx hb dX12_told_17 (by decide) ?_
    refine lv_icmp_gt (tgt := 26) hx hb dX12_told_19 (by decide) (fun cb9 => ?_) (fun cb9 => ?_)
    · skip
      have c130 : 36 < tp.toInt := zlti cb9 (by decide) rfl
      have n131 : 37 ≤ tp.toInt := zL2 (a := 36) c130 (Int.le_refl _) (by decide)
      refine lv_iconst (v := 0) hx hb dX12_told_26 (by decide) ?_
      refine lv_istore_n (lv' := [(2, .int 0), (1, .int tp), (0, .ref o)]) hx hb dX12_told_27 rfl hl (by decide) rfl (fun ls hl => ?_)
      refine lv_iconst (v := 0) hx hb dX12_told_28 (by decide) ?_
      refine lv_istore_n (lv' := [(3, .int 0), (2, .int 0), (1, .int tp), (0, .ref o)]) hx hb dX12_told_29 rfl hl (by decide) rfl (fun ls hl => ?_)
      have hl := lv_sub (l' := [(0, .ref o), (1, .int tp), (2, .int 0), (3, .int 0)]) hl [3, 2, 1, 0] rfl
      have LP30_137 : ∀ (kf : Nat) (x_132 : Int32) (x_133 : Int32), (0 ≤ x_132.toInt ∧ x_132.toInt ≤ 1) → (0 ≤ x_133.toInt ∧ x_133.toInt ≤ 402) → (x_132.toInt = 0 ∨ tp.toInt ≤ 36) → ∀ (H : Heap) (locs : List Loc) (ls : Array Slot), ((403 - x_133.toInt).toNat) < kf → va_P g.1 vwCl (List.flatten [bMo g o a th hi ac 0 ba en tA fl de iD iO tU fm fk fa fc ft ff fb fi]) H → va_D A (List.flatten [bMo g o a th hi ac 0 ba en tA fl de iD iO tU fm fk fa fc ft ff fb fi]) → va_S A s.heap H locs → lv_has ls 6 [(0, .ref o), (1, .int tp), (2, .int x_132), (3, .int x_133)] → W p l e ({ frames := 2, cells := 0, slots := 0, locals := 43 } : Room) s m args below meth c H locs (0) (0) (zF g (fun u : (Nat → Int32) × Int32 => (fun (fi2 : Nat → Int32) (q : Int32) => some (.int q)) (u.1) (u.2)) (fun u : (Nat → Int32) × Int32 => (fun (fi2 : Nat → Int32) (q : Int32) => True) (u.1) (u.2)) (fun u : (Nat → Int32) × Int32 => (fun (fi2 : Nat → Int32) (q : Int32) => [bMo g o a th hi ac 0 ba en tA fl de iD iO tU fm fk fa fc ft ff fb fi2]) (u.1) (u.2)) ({ frames := 2, cells := 0, slots := 0, locals := 43 } : Room) below args s A) (F0 m 30 ls []) := by
        intro kf
        induction kf with
        | zero => intro x_132 x_133 i134 i135 i136 H locs ls hk; exact absurd hk (Nat.not_lt_zero _)
        | succ kf ih30_138 =>
          intro x_132 x_133 i134 i135 i136 H locs ls hk30_138 hP hD hS hl
          refine lv_iload_n hx hb dX12_told_30 rfl (lv_at hl 3 rfl) ?_
          refine lv_iload_n hx hb dX12_told_31 rfl (lv_at hl 1 rfl) ?_
          refine lv_icmp_ge (tgt := 112) hx hb dX12_told_32 (by decide) (fun cb9 => ?_) (fun cb9 => ?_)
          · skip
            have c139 : tp.toInt ≤ x_133.toInt := zle cb9 rfl rfl
            have n140 : 37 ≤ x_133.toInt := Int.le_trans n131 c139
            refine lv_iload_n hx hb dX12_told_112 rfl (lv_at hl 2 rfl) ?_
            refine lv_if_ne (tgt := 118) hx hb dX12_told_113 (by decide) (fun cb9 => ?_) (fun cb9 => ?_)
            · skip
              have c141 : ¬ x_132.toInt = 0 := zne cb9 rfl (by decide)
              have n142 : 1 ≤ x_132.toInt := zN1 c141 i134.1 (by decide)
              refine lv_iconst (v := 0) hx hb dX12_told_118 (by decide) ?_
              refine lv_istore_n (lv' := [(3, .int 0), (0, .ref o), (1, .int tp), (2, .int x_132)]) hx hb dX12_told_119 rfl hl (by decide) rfl (fun ls hl => ?_)
              refine lv_iconst (v := 0) hx hb dX12_told_120 (by decide) ?_
              refine lv_istore (lv' := [(4, .int 0), (3, .int 0), (0, .ref o), (1, .int tp), (2, .int x_132)]) hx hb dX12_told_121 hl (by decide) rfl (fun ls hl => ?_)
              have hl := lv_sub (l' := [(0, .ref o), (1, .int tp), (2, .int x_132), (3, .int 0), (4, .int 0)]) hl [2, 3, 4, 1, 0] rfl
              have LP123_147 : ∀ (kf : Nat) (x_143 : Int32) (x_144 : Int32) (fi_145 : Nat → Int32), (0 ≤ x_144.toInt ∧ x_144.toInt ≤ 256) → ∀ (H : Heap) (locs : List Loc) (ls : Array Slot), ((257 - x_144.toInt).toNat) < kf → va_P g.1 vwCl (List.flatten [bMo g o a th hi ac 0 ba en tA fl de iD iO tU fm fk fa fc ft ff fb fi_145]) H → va_D A (List.flatten [bMo g o a th hi ac 0 ba en tA fl de iD iO tU fm fk fa fc ft ff fb fi_145]) → va_S A s.heap H locs → lv_has ls 6 [(0, .ref o), (1, .int tp), (2, .int x_132), (3, .int x_143), (4, .int x_144)] → W p l e ({ frames := 2, cells := 0, slots := 0, locals := 43 } : Room) s m args below meth c H locs (0) (0) (zF g (fun u : (Nat → Int32) × Int32 => (fun (fi2 : Nat → Int32) (q : Int32) => some (.int q)) (u.1) (u.2)) (fun u : (Nat → Int32) × Int32 => (fun (fi2 : Nat → Int32) (q : Int32) => True) (u.1) (u.2)) (fun u : (Nat → Int32) × Int32 => (fun (fi2 : Nat → Int32) (q : Int32) => [bMo g o a th hi ac 0 ba en tA fl de iD iO tU fm fk fa fc ft ff fb fi2]) (u.1) (u.2)) ({ frames := 2, cells := 0, slots := 0, locals := 43 } : Room) below args s A) (F0 m 123 ls []) := by
                intro kf
                induction kf with
                | zero => intro x_143 x_144 fi_145 i146 H locs ls hk; exact absurd hk (Nat.not_lt_zero _)
                | succ kf ih123_148 =>
                  intro x_143 x_144 fi_145 i146 H locs ls hk123_148 hP hD hS hl
                  refine lv_iload hx hb dX12_told_123 (lv_at hl 4 rfl) ?_
                  refine lv_iconst (v := 1) hx hb dX12_told_125 (by decide) ?_
                  refine lv_aload_n hx hb dX12_told_126 rfl (lv_at hl 0 rfl) ?_
                  refine va_get (D := g.1) (ci := 10) (v := .ref (a 0)) (C := RX12) (T := TX12) (N := 20) hx hb hts izRX12 hown hK hP 0 rfl rfl 1 (by decide) (hts _ k815) (fun _ h9 => h9) rfl dX12_told_127 ?_
                  refine lv_iconst (v := 3) hx hb dX12_told_130 (by decide) ?_
                  refine va_iald hx hb hK hP 1 0 rfl rfl (zin rfl) dX12_told_131 ?_
                  refine zgq (r := fm 3) rfl (rM3 rfm) (fun x_149 hx_149 => ?_)
                  refine lv_ishl hx hb dX12_told_132 ?_
                  refine zgb (zshl1 (j := x_149.toInt) rfl 8 256 (by decide) (by decide) ⟨hx_149.1, hx_149.2.1⟩) (fun x_150 hx_150 => ?_)
                  refine lv_icmp_ge (tgt := 247) hx hb dX12_told_133 (by decide) (fun cb9 => ?_) (fun cb9 => ?_)
                  · skip
                    have c151 : x_150.toInt ≤ x_144.toInt := zle cb9 rfl rfl
                    have n152 : 1 ≤ x_144.toInt := Int.le_trans hx_150.1 c151
                    refine lv_iload_n hx hb dX12_told_247 rfl (lv_at hl 3 rfl) ?_
                    have hP : va_P g.1 vwCl (List.flatten [bMo g o a th hi ac 0 ba en tA fl de iD iO tU fm fk fa fc ft ff fb fi_145]) H := hP
                    have hD : va_D A (List.flatten [bMo g o a th hi ac 0 ba en tA fl de iD iO tU fm fk fa fc ft ff fb fi_145]) := hD
                    exact mret_i hx hb hr hlocks hS (Nat.le_of_ble_eq_true rfl) (Nat.le_of_ble_eq_true rfl) dX12_told_248 (fi_145, x_143) rfl trivial hP hD
                  · skip
                    have c153 : x_144.toInt < x_150.toInt := zlti (Int32.not_le.mp cb9) rfl rfl
                    have n154 : x_144.toInt ≤ 255 := zL1 (b := 256) c153 hx_150.2 (by decide)
                    refine lv_aload_n hx hb dX12_told_136 rfl (lv_at hl 0 rfl) ?_
                    refine va_get (D := g.1) (ci := 10) (v := .ref (a 7)) (C := RX12) (T := TX12) (N := 20) hx hb hts izRX12 hown hK hP 0 rfl rfl 19 (by decide) (hts _ k823) (fun _ h9 => h9) rfl dX12_told_137 ?_
                    refine lv_iload hx hb dX12_told_140 (lv_at hl 4 rfl) ?_
                    refine lv_iconst (v := 1) hx hb dX12_told_142 (by decide) ?_
                    refine va_zast hx hb hK hP hD hS 8 1 rfl rfl (zinK (a := 0) (b := 255) i146.1 n154 (by decide)) dX12_told_143 (fun H locs hP hD hS => ?_)
                    obtain ⟨fi_155, hP, hD⟩ : ∃ fi_155 : Nat → Int32, va_P g.1 vwCl (List.flatten [bMo g o a th hi ac 0 ba en tA fl de iD iO tU fm fk fa fc ft ff fb fi_155]) H ∧ va_D A (List.flatten [bMo g o a th hi ac 0 ba en tA fl de iD iO tU fm fk fa fc ft ff fb fi_155]) := ⟨upd fi_145 x_144.toNatClampNeg (vp_nar .boolean 1), hP, hD⟩
                    refine lv_iconst (v := 0) hx hb dX12_told_144 (by decide) ?_
                    refine lv_istore (lv' := [(5, .int 0), (0, .ref o), (1, .int tp), (2, .int x_132), (3, .int x_143), (4, .int x_144)]) hx hb dX12_told_145 hl (by decide) rfl (fun ls hl => ?_)
                    have hl := lv_sub (l' := [(0, .ref o), (1, .int tp), (2, .int x_132), (3, .int x_143), (4, .int x_144), (5, .int 0)]) hl [1, 2, 3, 4, 5, 0] rfl
                    have LP147_159 : ∀ (kf : Nat) (x_156 : Int32) (fi_157 : Nat → Int32), (0 ≤ x_156.toInt ∧ x_156.toInt ≤ 402) → ∀ (H : Heap) (locs : List Loc) (ls : Array Slot), ((403 - x_156.toInt).toNat) < kf → va_P g.1 vwCl (List.flatten [bMo g o a th hi ac 0 ba en tA fl de iD iO tU fm fk fa fc ft ff fb fi_157]) H → va_D A (List.flatten [bMo g o a th hi ac 0 ba en tA fl de iD iO tU fm fk fa fc ft ff fb fi_157]) → va_S A s.heap H locs → lv_has ls 6 [(0, .ref o), (1, .int tp), (2, .int x_132), (3, .int x_143), (4, .int x_144), (5, .int x_156)] → W p l e ({ frames := 2, cells := 0, slots := 0, locals := 43 } : Room) s m args below meth c H locs (0) (0) (zF g (fun u : (Nat → Int32) × Int32 => (fun (fi2 : Nat → Int32) (q : Int32) => some (.int q)) (u.1) (u.2)) (fun u : (Nat → Int32) × Int32 => (fun (fi2 : Nat → Int32) (q : Int32) => True) (u.1) (u.2)) (fun u : (Nat → Int32) × Int32 => (fun (fi2 : Nat → Int32) (q : Int32) => [bMo g o a th hi ac 0 ba en tA fl de iD iO tU fm fk fa fc ft ff fb fi2]) (u.1) (u.2)) ({ frames := 2, cells := 0, slots := 0, locals := 43 } : Room) below args s A) (F0 m 147 ls []) := by
                      intro kf
                      induction kf with
                      | zero => intro x_156 fi_157 i158 H locs ls hk; exact absurd hk (Nat.not_lt_zero _)
                      | succ kf ih147_160 =>
                        intro x_156 fi_157 i158 H locs ls hk147_160 hP hD hS hl
                        refine lv_iload hx hb dX12_told_147 (lv_at hl 5 rfl) ?_
                        refine lv_iload_n hx hb dX12_told_149 rfl (lv_at hl 1 rfl) ?_
                        refine lv_icmp_ge (tgt := 223) hx hb dX12_told_150 (by decide) (fun cb9 => ?_) (fun cb9 => ?_)
                        · skip
                          have c161 : tp.toInt ≤ x_156.toInt := zle cb9 rfl rfl
                          have n162 : 37 ≤ x_156.toInt := Int.le_trans n131 c161
                          refine lv_iload_n hx hb dX12_told_223 rfl (lv_at hl 3 rfl) ?_
                          refine lv_aload_n hx hb dX12_told_224 rfl (lv_at hl 0 rfl) ?_
                          refine va_get (D := g.1) (ci := 10) (v := .ref (a 7)) (C := RX12) (T := TX12) (N := 20) hx hb hts izRX12 hown hK hP 0 rfl rfl 19 (by decide) (hts _ k823) (fun _ h9 => h9) rfl dX12_told_225 ?_
                          refine lv_iload hx hb dX12_told_228 (lv_at hl 4 rfl) ?_
                          refine va_zald hx hb hK hP 8 1 rfl rfl (zinK (a := 0) (b := 255) i146.1 n154 (by decide)) dX12_told_230 ?_
                          refine zg (fun x_163 => ?_)
                          refine lv_if_eq (tgt := 238) hx hb dX12_told_231 (by decide) (fun cb9 => ?_) (fun cb9 => ?_)
                          · skip
                            have c164 : x_163.toInt = 0 := zeq cb9 rfl (by decide)
                            have n165 : 0 ≤ x_163.toInt := Int.le_trans (Int.le_refl _) (Int.le_of_eq c164.symm)
                            have n166 : x_163.toInt ≤ 0 := Int.le_trans (Int.le_of_eq c164) (Int.le_refl _)
                            refine lv_iconst (v := 0) hx hb dX12_told_238 (by decide) ?_
                            refine lv_iadd hx hb dX12_told_239 ?_
                            refine zg (fun x_167 => ?_)
                            refine lv_istore_n (lv' := [(3, .int x_167), (0, .ref o), (1, .int tp), (2, .int x_132), (4, .int x_144), (5, .int x_156)]) hx hb dX12_told_240 rfl hl (by decide) rfl (fun ls hl => ?_)
                            refine ziinc3 (n' := 1) (a' := 1) (b' := 256) (lv' := fun v9 => [(4, .int v9), (3, .int x_167), (0, .ref o), (1, .int tp), (2, .int x_132), (5, .int x_156)]) hx hb dX12_told_241 hl (k := 4) rfl (by decide) (fun _ => rfl) (zaddK (i := x_144.toInt) (j := 1) rfl (by decide) i146.1 n154 (Int.le_refl _) (Int.le_refl _) (by decide)) (fun x_168 ls hx_168 hl => ?_)
                            refine lv_goto (tgt := 123) hx hb dX12_told_244 (by decide) ?_
                            have hl := lv_sub (l' := [(0, .ref o), (1, .int tp), (2, .int x_132), (3, .int x_167), (4, .int x_168), (5, .int x_156)]) hl [2, 3, 4, 1, 0, 5] rfl
                            have hP : va_P g.1 vwCl (List.flatten [bMo g o a th hi ac 0 ba en tA fl de iD iO tU fm fk fa fc ft ff fb fi_157]) H := hP
                            have hD : va_D A (List.flatten [bMo g o a th hi ac 0 ba en tA fl de iD iO tU fm fk fa fc ft ff fb fi_157]) := hD
                            exact ih123_148 x_167 x_168 fi_157 ⟨(Int.le_trans (by decide) hx_168.2.1), hx_168.2.2⟩ H _ ls (zmK hx_168.1 (by decide) n154 (by decide) hk123_148)  hP hD hS (lv_sub hl [0, 1, 2, 3, 4] rfl)
                          · skip
                            have c169 : ¬ x_163.toInt = 0 := zne cb9 rfl (by decide)
                            refine lv_iconst (v := 1) hx hb dX12_told_234 (by decide) ?_
                            refine lv_goto (tgt := 239) hx hb dX12_told_235 (by decide) ?_
                            refine lv_iadd hx hb dX12_told_239 ?_
                            refine zg (fun x_170 => ?_)
                            refine lv_istore_n (lv' := [(3, .int x_170), (0, .ref o), (1, .int tp), (2, .int x_132), (4, .int x_144), (5, .int x_156)]) hx hb dX12_told_240 rfl hl (by decide) rfl (fun ls hl => ?_)
                            refine ziinc3 (n' := 1) (a' := 1) (b' := 256) (lv' := fun v9 => [(4, .int v9), (3, .int x_170), (0, .ref o), (1, .int tp), (2, .int x_132), (5, .int x_156)]) hx hb dX12_told_241 hl (k := 4) rfl (by decide) (fun _ => rfl) (zaddK (i := x_144.toInt) (j := 1) rfl (by decide) i146.1 n154 (Int.le_refl _) (Int.le_refl _) (by decide)) (fun x_171 ls hx_171 hl => ?_)
                            refine lv_goto (tgt := 123) hx hb dX12_told_244 (by decide) ?_
                            have hl := lv_sub (l' := [(0, .ref o), (1, .int tp), (2, .int x_132), (3, .int x_170), (4, .int x_171), (5, .int x_156)]) hl [2, 3, 4, 1, 0, 5] rfl
                            have hP : va_P g.1 vwCl (List.flatten [bMo g o a th hi ac 0 ba en tA fl de iD iO tU fm fk fa fc ft ff fb fi_157]) H := hP
                            have hD : va_D A (List.flatten [bMo g o a th hi ac 0 ba en tA fl de iD iO tU fm fk fa fc ft ff fb fi_157]) := hD
                            exact ih123_148 x_170 x_171 fi_157 ⟨(Int.le_trans (by decide) hx_171.2.1), hx_171.2.2⟩ H _ ls (zmK hx_171.1 (by decide) n154 (by decide) hk123_148)  hP hD hS (lv_sub hl [0, 1, 2, 3, 4] rfl)
                        · skip
                          have c172 : x_156.toInt < tp.toInt := zlti (Int32.not_le.mp cb9) rfl rfl
                          have n173 : x_156.toInt ≤ 399 := zL1 (b := 400) c172 htp.2 (by decide)
                          refine lv_aload_n hx hb dX12_told_153 rfl (lv_at hl 0 rfl) ?_
                          refine va_get (D := g.1) (ci := 10) (v := .ref (a 7)) (C := RX12) (T := TX12) (N := 20) hx hb hts izRX12 hown hK hP 0 rfl rfl 19 (by decide) (hts _ k823) (fun _ h9 => h9) rfl dX12_told_154 ?_
                          refine lv_iload hx hb dX12_told_157 (lv_at hl 4 rfl) ?_
                          refine va_zald hx hb hK hP 8 1 rfl rfl (zinK (a := 0) (b := 255) i146.1 n154 (by decide)) dX12_told_159 ?_
                          refine zg (fun x_174 => ?_)
                          refine lv_if_eq (tgt := 223) hx hb dX12_told_160 (by decide) (fun cb9 => ?_) (fun cb9 => ?_)
                          · skip
                            have c175 : x_174.toInt = 0 := zeq cb9 rfl (by decide)
                            have n176 : 0 ≤ x_174.toInt := Int.le_trans (Int.le_refl _) (Int.le_of_eq c175.symm)
                            have n177 : x_174.toInt ≤ 0 := Int.le_trans (Int.le_of_eq c175) (Int.le_refl _)
                            refine lv_iload_n hx hb dX12_told_223 rfl (lv_at hl 3 rfl) ?_
                            refine lv_aload_n hx hb dX12_told_224 rfl (lv_at hl 0 rfl) ?_
                            refine va_get (D := g.1) (ci := 10) (v := .ref (a 7)) (C := RX12) (T := TX12) (N := 20) hx hb hts izRX12 hown hK hP 0 rfl rfl 19 (by decide) (hts _ k823) (fun _ h9 => h9) rfl dX12_told_225 ?_
                            refine lv_iload hx hb dX12_told_228 (lv_at hl 4 rfl) ?_
                            refine va_zald hx hb hK hP 8 1 rfl rfl (zinK (a := 0) (b := 255) i146.1 n154 (by decide)) dX12_told_230 ?_
                            refine zg (fun x_178 => ?_)
                            refine lv_if_eq (tgt := 238) hx hb dX12_told_231 (by decide) (fun cb9 => ?_) (fun cb9 => ?_)
                            · skip
                              have c179 : x_178.toInt = 0 := zeq cb9 rfl (by decide)
                              have n180 : 0 ≤ x_178.toInt := Int.le_trans (Int.le_refl _) (Int.le_of_eq c179.symm)
                              have n181 : x_178.toInt ≤ 0 := Int.le_trans (Int.le_of_eq c179) (Int.le_refl _)
                              refine lv_iconst (v := 0) hx hb dX12_told_238 (by decide) ?_
                              refine lv_iadd hx hb dX12_told_239 ?_
                              refine zg (fun x_182 => ?_)
                              refine lv_istore_n (lv' := [(3, .int x_182), (0, .ref o), (1, .int tp), (2, .int x_132), (4, .int x_144), (5, .int x_156)]) hx hb dX12_told_240 rfl hl (by decide) rfl (fun ls hl => ?_)
                              refine ziinc3 (n' := 1) (a' := 1) (b' := 256) (lv' := fun v9 => [(4, .int v9), (3, .int x_182), (0, .ref o), (1, .int tp), (2, .int x_132), (5, .int x_156)]) hx hb dX12_told_241 hl (k := 4) rfl (by decide) (fun _ => rfl) (zaddK (i := x_144.toInt) (j := 1) rfl (by decide) i146.1 n154 (Int.le_refl _) (Int.le_refl _) (by decide)) (fun x_183 ls hx_183 hl => ?_)
                              refine lv_goto (tgt := 123) hx hb dX12_told_244 (by decide) ?_
                              have hl := lv_sub (l' := [(0, .ref o), (1, .int tp), (2, .int x_132), (3, .int x_182), (4, .int x_183), (5, .int x_156)]) hl [2, 3, 4, 1, 0, 5] rfl
                              have hP : va_P g.1 vwCl (List.flatten [bMo g o a th hi ac 0 ba en tA fl de iD iO tU fm fk fa fc ft ff fb fi_157]) H := hP
                              have hD : va_D A (List.flatten [bMo g o a th hi ac 0 ba en tA fl de iD iO tU fm fk fa fc ft ff fb fi_157]) := hD
                              exact ih123_148 x_182 x_183 fi_157 ⟨(Int.le_trans (by decide) hx_183.2.1), hx_183.2.2⟩ H _ ls (zmK hx_183.1 (by decide) n154 (by decide) hk123_148)  hP hD hS (lv_sub hl [0, 1, 2, 3, 4] rfl)
                            · skip
                              have c184 : ¬ x_178.toInt = 0 := zne cb9 rfl (by decide)
                              refine lv_iconst (v := 1) hx hb dX12_told_234 (by decide) ?_
                              refine lv_goto (tgt := 239) hx hb dX12_told_235 (by decide) ?_
                              refine lv_iadd hx hb dX12_told_239 ?_
                              refine zg (fun x_185 => ?_)
                              refine lv_istore_n (lv' := [(3, .int x_185), (0, .ref o), (1, .int tp), (2, .int x_132), (4, .int x_144), (5, .int x_156)]) hx hb dX12_told_240 rfl hl (by decide) rfl (fun ls hl => ?_)
                              refine ziinc3 (n' := 1) (a' := 1) (b' := 256) (lv' := fun v9 => [(4, .int v9), (3, .int x_185), (0, .ref o), (1, .int tp), (2, .int x_132), (5, .int x_156)]) hx hb dX12_told_241 hl (k := 4) rfl (by decide) (fun _ => rfl) (zaddK (i := x_144.toInt) (j := 1) rfl (by decide) i146.1 n154 (Int.le_refl _) (Int.le_refl _) (by decide)) (fun x_186 ls hx_186 hl => ?_)
                              refine lv_goto (tgt := 123) hx hb dX12_told_244 (by decide) ?_
                              have hl := lv_sub (l' := [(0, .ref o), (1, .int tp), (2, .int x_132), (3, .int x_185), (4, .int x_186), (5, .int x_156)]) hl [2, 3, 4, 1, 0, 5] rfl
                              have hP : va_P g.1 vwCl (List.flatten [bMo g o a th hi ac 0 ba en tA fl de iD iO tU fm fk fa fc ft ff fb fi_157]) H := hP
                              have hD : va_D A (List.flatten [bMo g o a th hi ac 0 ba en tA fl de iD iO tU fm fk fa fc ft ff fb fi_157]) := hD
                              exact ih123_148 x_185 x_186 fi_157 ⟨(Int.le_trans (by decide) hx_186.2.1), hx_186.2.2⟩ H _ ls (zmK hx_186.1 (by decide) n154 (by decide) hk123_148)  hP hD hS (lv_sub hl [0, 1, 2, 3, 4] rfl)
                          · skip
                            have c187 : ¬ x_174.toInt = 0 := zne cb9 rfl (by decide)
                            refine lv_aload_n hx hb dX12_told_163 rfl (lv_at hl 0 rfl) ?_
                            refine va_get (D := g.1) (ci := 10) (v := .ref (a 7)) (C := RX12) (T := TX12) (N := 20) hx hb hts izRX12 hown hK hP 0 rfl rfl 19 (by decide) (hts _ k823) (fun _ h9 => h9) rfl dX12_told_164 ?_
                            refine lv_iload hx hb dX12_told_167 (lv_at hl 4 rfl) ?_
                            refine lv_iload hx hb dX12_told_169 (lv_at hl 4 rfl) ?_
                            refine lv_aload_n hx hb dX12_told_171 rfl (lv_at hl 0 rfl) ?_
                            refine va_get (D := g.1) (ci := 10) (v := .ref (a 4)) (C := RX12) (T := TX12) (N := 20) hx hb hts izRX12 hown hK hP 0 rfl rfl 7 (by decide) (hts _ k819) (fun _ h9 => h9) rfl dX12_told_172 ?_
                            refine lv_iload hx hb dX12_told_175 (lv_at hl 5 rfl) ?_
                            refine va_iald hx hb hK hP 5 0 rfl rfl (zinK (a := 0) (b := 399) i158.1 n173 (by decide)) dX12_told_177 ?_
                            refine zg (fun x_188 => ?_)
                            refine lv_aload_n hx hb dX12_told_178 rfl (lv_at hl 0 rfl) ?_
                            refine va_get (D := g.1) (ci := 10) (v := .ref (a 4)) (C := RX12) (T := TX12) (N := 20) hx hb hts izRX12 hown hK hP 0 rfl rfl 7 (by decide) (hts _ k819) (fun _ h9 => h9) rfl dX12_told_179 ?_
                            refine lv_iload hx hb dX12_told_182 (lv_at hl 5 rfl) ?_
                            refine lv_iconst (v := 1) hx hb dX12_told_184 (by decide) ?_
                            refine lv_iadd hx hb dX12_told_185 ?_
                            refine zg3 (zaddK (i := x_156.toInt) (j := 1) (a' := 1) (b' := 400) rfl (by decide) i158.1 n173 (Int.le_refl _) (Int.le_refl _) (by decide)) (fun x_189 hx_189 => ?_)
                            refine va_iald hx hb hK hP 5 0 rfl rfl (zinI (by omega) (by omega)) dX12_told_186 ?_
                            refine zg (fun x_190 => ?_)
                            refine mcallS' (g := g) (As := [.int x_144, .int x_188, .int x_190]) (rest := [.int x_144, .ref (a 7)]) St hK hT hA hP hD hS hl.1 [] [0] rfl rfl rfl (m_says l g x_144 x_188 x_190 ) (va_cwS 3 hts (zgL (zl3 k1101 k1102 k839) k1099) rfl rfl rfl (by decide +kernel) ⟨Nat.le_of_ble_eq_true rfl, Nat.le_of_ble_eq_true rfl⟩) rfl rfl (Nat.le_of_ble_eq_true rfl) dX12_told_187 ⟨(Nat.le_of_ble_eq_true rfl), (Nat.le_of_ble_eq_true rfl)⟩ (fun q_191 H locs hq192 hP hD hS => ?_)
                            replace hq192 : (q_191 = 0 ∨ q_191 = 1) := hq192
                            have hP : va_P g.1 vwCl (List.flatten [bMo g o a th hi ac 0 ba en tA fl de iD iO tU fm fk fa fc ft ff fb fi_157]) H := hP
                            have hD : va_D A (List.flatten [bMo g o a th hi ac 0 ba en tA fl de iD iO tU fm fk fa fc ft ff fb fi_157]) := hD
                            refine W.widen (k := 0) (n := 0) (Nat.le_of_ble_eq_true rfl) (Nat.le_of_ble_eq_true rfl) ?_
                            refine W.eq (g2 := F0 m 190 ls [.int q_191, .int x_144, .ref (a 7)]) rfl ?_
                            rcases hq192 with rfl | rfl
                            · skip
                              refine lv_aload_n hx hb dX12_told_190 rfl (lv_at hl 0 rfl) ?_
                              refine va_get (D := g.1) (ci := 10) (v := .ref (a 4)) (C := RX12) (T := TX12) (N := 20) hx hb hts izRX12 hown hK hP 0 rfl rfl 7 (by decide) (hts _ k819) (fun _ h9 => h9) rfl dX12_told_191 ?_
                              refine lv_iload hx hb dX12_told_194 (lv_at hl 5 rfl) ?_
                              refine lv_iconst (v := 2) hx hb dX12_told_196 (by decide) ?_
                              refine lv_iadd hx hb dX12_told_197 ?_
                              refine zg3 (zaddK (i := x_156.toInt) (j := 2) (a' := 2) (b' := 401) rfl (by decide) i158.1 n173 (Int.le_refl _) (Int.le_refl _) (by decide)) (fun x_193 hx_193 => ?_)
                              refine va_iald hx hb hK hP 5 0 rfl rfl (zinI (by omega) (by omega)) dX12_told_198 ?_
                              refine zg (fun x_194 => ?_)
                              refine lv_iconst (v := 1) hx hb dX12_told_199 (by decide) ?_
                              refine lv_icmp_ne (tgt := 207) hx hb dX12_told_200 (by decide) (fun cb9 => ?_) (fun cb9 => ?_)
                              · skip
                                have c195 : ¬ x_194.toInt = 1 := zne cb9 rfl (by decide)
                                refine lv_iconst (v := 0) hx hb dX12_told_207 (by decide) ?_
                                refine lv_icmp_ne (tgt := 215) hx hb dX12_told_208 (by decide) (fun c196 => absurd (by decide) c196) (fun _ => ?_)
                                refine lv_iconst (v := 1) hx hb dX12_told_211 (by decide) ?_
                                refine lv_goto (tgt := 216) hx hb dX12_told_212 (by decide) ?_
                                refine va_zast hx hb hK hP hD hS 8 1 rfl rfl (zinK (a := 0) (b := 255) i146.1 n154 (by decide)) dX12_told_216 (fun H locs hP hD hS => ?_)
                                obtain ⟨fi_197, hP, hD⟩ : ∃ fi_197 : Nat → Int32, va_P g.1 vwCl (List.flatten [bMo g o a th hi ac 0 ba en tA fl de iD iO tU fm fk fa fc ft ff fb fi_197]) H ∧ va_D A (List.flatten [bMo g o a th hi ac 0 ba en tA fl de iD iO tU fm fk fa fc ft ff fb fi_197]) := ⟨upd fi_157 x_144.toNatClampNeg (vp_nar .boolean 1), hP, hD⟩
                                refine ziinc3 (n' := 3) (a' := 3) (b' := 402) (lv' := fun v9 => [(5, .int v9), (0, .ref o), (1, .int tp), (2, .int x_132), (3, .int x_143), (4, .int x_144)]) hx hb dX12_told_217 hl (k := 5) rfl (by decide) (fun _ => rfl) (zaddK (i := x_156.toInt) (j := 3) rfl (by decide) i158.1 n173 (Int.le_refl _) (Int.le_refl _) (by decide)) (fun x_198 ls hx_198 hl => ?_)
                                refine lv_goto (tgt := 147) hx hb dX12_told_220 (by decide) ?_
                                have hl := lv_sub (l' := [(0, .ref o), (1, .int tp), (2, .int x_132), (3, .int x_143), (4, .int x_144), (5, .int x_198)]) hl [1, 2, 3, 4, 5, 0] rfl
                                have hP : va_P g.1 vwCl (List.flatten [bMo g o a th hi ac 0 ba en tA fl de iD iO tU fm fk fa fc ft ff fb fi_197]) H := hP
                                have hD : va_D A (List.flatten [bMo g o a th hi ac 0 ba en tA fl de iD iO tU fm fk fa fc ft ff fb fi_197]) := hD
                                exact ih147_160 x_198 fi_197 ⟨(Int.le_trans (by decide) hx_198.2.1), hx_198.2.2⟩ H _ ls (zmK hx_198.1 (by decide) n173 (by decide) hk147_160)  hP hD hS (lv_sub hl [0, 1, 2, 3, 4, 5] rfl)
                              · skip
                                have c199 : x_194.toInt = 1 := zeq cb9 rfl (by decide)
                                have n200 : 1 ≤ x_194.toInt := Int.le_trans (Int.le_refl _) (Int.le_of_eq c199.symm)
                                have n201 : x_194.toInt ≤ 1 := Int.le_trans (Int.le_of_eq c199) (Int.le_refl _)
                                refine lv_iconst (v := 1) hx hb dX12_told_203 (by decide) ?_
                                refine lv_goto (tgt := 208) hx hb dX12_told_204 (by decide) ?_
                                refine lv_icmp_ne (tgt := 215) hx hb dX12_told_208 (by decide) (fun _ => ?_) (fun c202 => absurd c202 (by decide))
                                refine lv_iconst (v := 0) hx hb dX12_told_215 (by decide) ?_
                                refine va_zast hx hb hK hP hD hS 8 1 rfl rfl (zinK (a := 0) (b := 255) i146.1 n154 (by decide)) dX12_told_216 (fun H locs hP hD hS => ?_)
                                obtain ⟨fi_203, hP, hD⟩ : ∃ fi_203 : Nat → Int32, va_P g.1 vwCl (List.flatten [bMo g o a th hi ac 0 ba en tA fl de iD iO tU fm fk fa fc ft ff fb fi_203]) H ∧ va_D A (List.flatten [bMo g o a th hi ac 0 ba en tA fl de iD iO tU fm fk fa fc ft ff fb fi_203]) := ⟨upd fi_157 x_144.toNatClampNeg (vp_nar .boolean 0), hP, hD⟩
                                refine ziinc3 (n' := 3) (a' := 3) (b' := 402) (lv' := fun v9 => [(5, .int v9), (0, .ref o), (1, .int tp), (2, .int x_132), (3, .int x_143), (4, .int x_144)]) hx hb dX12_told_217 hl (k := 5) rfl (by decide) (fun _ => rfl) (zaddK (i := x_156.toInt) (j := 3) rfl (by decide) i158.1 n173 (Int.le_refl _) (Int.le_refl _) (by decide)) (fun x_204 ls hx_204 hl => ?_)
                                refine lv_goto (tgt := 147) hx hb dX12_told_220 (by decide) ?_
                                have hl := lv_sub (l' := [(0, .ref o), (1, .int tp), (2, .int x_132), (3, .int x_143), (4, .int x_144), (5, .int x_204)]) hl [1, 2, 3, 4, 5, 0] rfl
                                have hP : va_P g.1 vwCl (List.flatten [bMo g o a th hi ac 0 ba en tA fl de iD iO tU fm fk fa fc ft ff fb fi_203]) H := hP
                                have hD : va_D A (List.flatten [bMo g o a th hi ac 0 ba en tA fl de iD iO tU fm fk fa fc ft ff fb fi_203]) := hD
                                exact ih147_160 x_204 fi_203 ⟨(Int.le_trans (by decide) hx_204.2.1), hx_204.2.2⟩ H _ ls (zmK hx_204.1 (by decide) n173 (by decide) hk147_160)  hP hD hS (lv_sub hl [0, 1, 2, 3, 4, 5] rfl)
                            · skip
                              refine lv_aload_n hx hb dX12_told_190 rfl (lv_at hl 0 rfl) ?_
                              refine va_get (D := g.1) (ci := 10) (v := .ref (a 4)) (C := RX12) (T := TX12) (N := 20) hx hb hts izRX12 hown hK hP 0 rfl rfl 7 (by decide) (hts _ k819) (fun _ h9 => h9) rfl dX12_told_191 ?_
                              refine lv_iload hx hb dX12_told_194 (lv_at hl 5 rfl) ?_
                              refine lv_iconst (v := 2) hx hb dX12_told_196 (by decide) ?_
                              refine lv_iadd hx hb dX12_told_197 ?_
                              refine zg3 (zaddK (i := x_156.toInt) (j := 2) (a' := 2) (b' := 401) rfl (by decide) i158.1 n173 (Int.le_refl _) (Int.le_refl _) (by decide)) (fun x_205 hx_205 => ?_)
                              refine va_iald hx hb hK hP 5 0 rfl rfl (zinI (by omega) (by omega)) dX12_told_198 ?_
                              refine zg (fun x_206 => ?_)
                              refine lv_iconst (v := 1) hx hb dX12_told_199 (by decide) ?_
                              refine lv_icmp_ne (tgt := 207) hx hb dX12_told_200 (by decide) (fun cb9 => ?_) (fun cb9 => ?_)
                              · skip
                                have c207 : ¬ x_206.toInt = 1 := zne cb9 rfl (by decide)
                                refine lv_iconst (v := 0) hx hb dX12_told_207 (by decide) ?_
                                refine lv_icmp_ne (tgt := 215) hx hb dX12_told_208 (by decide) (fun _ => ?_) (fun c208 => absurd c208 (by decide))
                                refine lv_iconst (v := 0) hx hb dX12_told_215 (by decide) ?_
                                refine va_zast hx hb hK hP hD hS 8 1 rfl rfl (zinK (a := 0) (b := 255) i146.1 n154 (by decide)) dX12_told_216 (fun H locs hP hD hS => ?_)
                                obtain ⟨fi_209, hP, hD⟩ : ∃ fi_209 : Nat → Int32, va_P g.1 vwCl (List.flatten [bMo g o a th hi ac 0 ba en tA fl de iD iO tU fm fk fa fc ft ff fb fi_209]) H ∧ va_D A (List.flatten [bMo g o a th hi ac 0 ba en tA fl de iD iO tU fm fk fa fc ft ff fb fi_209]) := ⟨upd fi_157 x_144.toNatClampNeg (vp_nar .boolean 0), hP, hD⟩
                                refine ziinc3 (n' := 3) (a' := 3) (b' := 402) (lv' := fun v9 => [(5, .int v9), (0, .ref o), (1, .int tp), (2, .int x_132), (3, .int x_143), (4, .int x_144)]) hx hb dX12_told_217 hl (k := 5) rfl (by decide) (fun _ => rfl) (zaddK (i := x_156.toInt) (j := 3) rfl (by decide) i158.1 n173 (Int.le_refl _) (Int.le_refl _) (by decide)) (fun x_210 ls hx_210 hl => ?_)
                                refine lv_goto (tgt := 147) hx hb dX12_told_220 (by decide) ?_
                                have hl := lv_sub (l' := [(0, .ref o), (1, .int tp), (2, .int x_132), (3, .int x_143), (4, .int x_144), (5, .int x_210)]) hl [1, 2, 3, 4, 5, 0] rfl
                                have hP : va_P g.1 vwCl (List.flatten [bMo g o a th hi ac 0 ba en tA fl de iD iO tU fm fk fa fc ft ff fb fi_209]) H := hP
                                have hD : va_D A (List.flatten [bMo g o a th hi ac 0 ba en tA fl de iD iO tU fm fk fa fc ft ff fb fi_209]) := hD
                                exact ih147_160 x_210 fi_209 ⟨(Int.le_trans (by decide) hx_210.2.1), hx_210.2.2⟩ H _ ls (zmK hx_210.1 (by decide) n173 (by decide) hk147_160)  hP hD hS (lv_sub hl [0, 1, 2, 3, 4, 5] rfl)
                              · skip
                                have c211 : x_206.toInt = 1 := zeq cb9 rfl (by decide)
                                have n212 : 1 ≤ x_206.toInt := Int.le_trans (Int.le_refl _) (Int.le_of_eq c211.symm)
                                have n213 : x_206.toInt ≤ 1 := Int.le_trans (Int.le_of_eq c211) (Int.le_refl _)
                                refine lv_iconst (v := 1) hx hb dX12_told_203 (by decide) ?_
                                refine lv_goto (tgt := 208) hx hb dX12_told_204 (by decide) ?_
                                refine lv_icmp_ne (tgt := 215) hx hb dX12_told_208 (by decide) (fun c214 => absurd (by decide) c214) (fun _ => ?_)
                                refine lv_iconst (v := 1) hx hb dX12_told_211 (by decide) ?_
                                refine lv_goto (tgt := 216) hx hb dX12_told_212 (by decide) ?_
                                refine va_zast hx hb hK hP hD hS 8 1 rfl rfl (zinK (a := 0) (b := 255) i146.1 n154 (by decide)) dX12_told_216 (fun H locs hP hD hS => ?_)
                                obtain ⟨fi_215, hP, hD⟩ : ∃ fi_215 : Nat → Int32, va_P g.1 vwCl (List.flatten [bMo g o a th hi ac 0 ba en tA fl de iD iO tU fm fk fa fc ft ff fb fi_215]) H ∧ va_D A (List.flatten [bMo g o a th hi ac 0 ba en tA fl de iD iO tU fm fk fa fc ft ff fb fi_215]) := ⟨upd fi_157 x_144.toNatClampNeg (vp_nar .boolean 1), hP, hD⟩
                                refine ziinc3 (n' := 3) (a' := 3) (b' := 402) (lv' := fun v9 => [(5, .int v9), (0, .ref o), (1, .int tp), (2, .int x_132), (3, .int x_143), (4, .int x_144)]) hx hb dX12_told_217 hl (k := 5) rfl (by decide) (fun _ => rfl) (zaddK (i := x_156.toInt) (j := 3) rfl (by decide) i158.1 n173 (Int.le_refl _) (Int.le_refl _) (by decide)) (fun x_216 ls hx_216 hl => ?_)
                                refine lv_goto (tgt := 147) hx hb dX12_told_220 (by decide) ?_
                                have hl := lv_sub (l' := [(0, .ref o), (1, .int tp), (2, .int x_132), (3, .int x_143), (4, .int x_144), (5, .int x_216)]) hl [1, 2, 3, 4, 5, 0] rfl
                                have hP : va_P g.1 vwCl (List.flatten [bMo g o a th hi ac 0 ba en tA fl de iD iO tU fm fk fa fc ft ff fb fi_215]) H := hP
                                have hD : va_D A (List.flatten [bMo g o a th hi ac 0 ba en tA fl de iD iO tU fm fk fa fc ft ff fb fi_215]) := hD
                                exact ih147_160 x_216 fi_215 ⟨(Int.le_trans (by decide) hx_216.2.1), hx_216.2.2⟩ H _ ls (zmK hx_216.1 (by decide) n173 (by decide) hk147_160)  hP hD hS (lv_sub hl [0, 1, 2, 3, 4, 5] rfl)
                    have hP : va_P g.1 vwCl (List.flatten [bMo g o a th hi ac 0 ba en tA fl de iD iO tU fm fk fa fc ft ff fb fi_155]) H := hP
                    have hD : va_D A (List.flatten [bMo g o a th hi ac 0 ba en tA fl de iD iO tU fm fk fa fc ft ff fb fi_155]) := hD
                    exact LP147_159 _ 0 fi_155 (by decide) H _ ls (Nat.lt_succ_self _)  hP hD hS (lv_sub hl [0, 1, 2, 3, 4, 5] rfl)
              have hP : va_P g.1 vwCl (List.flatten [bMo g o a th hi ac 0 ba en tA fl de iD iO tU fm fk fa fc ft ff fb fi]) H := hP
              have hD : va_D A (List.flatten [bMo g o a th hi ac 0 ba en tA fl de iD iO tU fm fk fa fc ft ff fb fi]) := hD
              exact LP123_147 _ 0 0 fi (by decide) H _ ls (Nat.lt_succ_self _)  hP hD hS (lv_sub hl [0, 1, 2, 3, 4] rfl)
            · skip
              have c217 : x_132.toInt = 0 := zeq cb9 rfl (by decide)
              have n218 : x_132.toInt ≤ 0 := Int.le_trans (Int.le_of_eq c217) (Int.le_refl _)
              refine lv_iconst (v := (-1)) hx hb dX12_told_116 (by decide) ?_
              have hP : va_P g.1 vwCl (List.flatten [bMo g o a th hi ac 0 ba en tA fl de iD iO tU fm fk fa fc ft ff fb fi]) H := hP
              have hD : va_D A (List.flatten [bMo g o a th hi ac 0 ba en tA fl de iD iO tU fm fk fa fc ft ff fb fi]) := hD
              exact mret_i hx hb hr hlocks hS (Nat.le_of_ble_eq_true rfl) (Nat.le_of_ble_eq_true rfl) dX12_told_117 (fi, -1) rfl trivial hP hD
          · skip
            have c219 : x_133.toInt < tp.toInt := zlti (Int32.not_le.mp cb9) rfl rfl
            have n220 : x_133.toInt ≤ 399 := zL1 (b := 400) c219 htp.2 (by decide)
            refine lv_iload_n hx hb dX12_told_35 rfl (lv_at hl 2 rfl) ?_
            refine lv_if_eq (tgt := 112) hx hb dX12_told_36 (by decide) (fun cb9 => ?_) (fun cb9 => ?_)
            · skip
              have c221 : x_132.toInt = 0 := zeq cb9 rfl (by decide)
              have n222 : x_132.toInt ≤ 0 := Int.le_trans (Int.le_of_eq c221) (Int.le_refl _)
              refine lv_iload_n hx hb dX12_told_112 rfl (lv_at hl 2 rfl) ?_
              refine lv_if_ne (tgt := 118) hx hb dX12_told_113 (by decide) (fun cb9 => ?_) (fun cb9 => ?_)
              · skip
                exact absurd (show ¬ x_132.toInt = 0 from zne cb9 rfl (by decide)) (by omega)
              · skip
                have c224 : x_132.toInt = 0 := zeq cb9 rfl (by decide)
                refine lv_iconst (v := (-1)) hx hb dX12_told_116 (by decide) ?_
                have hP : va_P g.1 vwCl (List.flatten [bMo g o a th hi ac 0 ba en tA fl de iD iO tU fm fk fa fc ft ff fb fi]) H := hP
                have hD : va_D A (List.flatten [bMo g o a th hi ac 0 ba en tA fl de iD iO tU fm fk fa fc ft ff fb fi]) := hD
                exact mret_i hx hb hr hlocks hS (Nat.le_of_ble_eq_true rfl) (Nat.le_of_ble_eq_true rfl) dX12_told_117 (fi, -1) rfl trivial hP hD
            · skip
              have c225 : ¬ x_132.toInt = 0 := zne cb9 rfl (by decide)
              have n226 : 1 ≤ x_132.toInt := zN1 c225 i134.1 (by decide)
              refine lv_aload_n hx hb dX12_told_39 rfl (lv_at hl 0 rfl) ?_
              refine va_get (D := g.1) (ci := 10) (v := .ref (a 4)) (C := RX12) (T := TX12) (N := 20) hx hb hts izRX12 hown hK hP 0 rfl rfl 7 (by decide) (hts _ k819) (fun _ h9 => h9) rfl dX12_told_40 ?_
              refine lv_iload_n hx hb dX12_told_43 rfl (lv_at hl 3 rfl) ?_
              refine va_iald hx hb hK hP 5 0 rfl rfl (zinK (a := 0) (b := 399) i135.1 n220 (by decide)) dX12_told_44 ?_
              refine zg (fun x_227 => ?_)
              refine lv_aload_n hx hb dX12_told_45 rfl (lv_at hl 0 rfl) ?_
              refine va_get (D := g.1) (ci := 10) (v := .ref (a 0)) (C := RX12) (T := TX12) (N := 20) hx hb hts izRX12 hown hK hP 0 rfl rfl 1 (by decide) (hts _ k815) (fun _ h9 => h9) rfl dX12_told_46 ?_
              refine lv_iconst (v := 3) hx hb dX12_told_49 (by decide) ?_
              refine va_iald hx hb hK hP 1 0 rfl rfl (zin rfl) dX12_told_50 ?_
              refine zgq (r := fm 3) rfl (rM3 rfm) (fun x_228 hx_228 => ?_)
              refine lv_icmp_ge (tgt := 104) hx hb dX12_told_51 (by decide) (fun cb9 => ?_) (fun cb9 => ?_)
              · skip
                have c229 : x_228.toInt ≤ x_227.toInt := zle cb9 rfl rfl
                have n230 : 0 ≤ x_227.toInt := Int.le_trans hx_228.1 c229
                refine lv_iconst (v := 0) hx hb dX12_told_104 (by decide) ?_
                refine lv_istore_n (lv' := [(2, .int 0), (0, .ref o), (1, .int tp), (3, .int x_133)]) hx hb dX12_told_105 rfl hl (by decide) rfl (fun ls hl => ?_)
                refine ziinc3 (n' := 3) (a' := 3) (b' := 402) (lv' := fun v9 => [(3, .int v9), (2, .int 0), (0, .ref o), (1, .int tp)]) hx hb dX12_told_106 hl (k := 3) rfl (by decide) (fun _ => rfl) (zaddK (i := x_133.toInt) (j := 3) rfl (by decide) i135.1 n220 (Int.le_refl _) (Int.le_refl _) (by decide)) (fun x_231 ls hx_231 hl => ?_)
                refine lv_goto (tgt := 30) hx hb dX12_told_109 (by decide) ?_
                have hl := lv_sub (l' := [(0, .ref o), (1, .int tp), (2, .int 0), (3, .int x_231)]) hl [2, 3, 1, 0] rfl
                have hL0 : (0 : Int32).toInt = 0 := by decide
                have hP : va_P g.1 vwCl (List.flatten [bMo g o a th hi ac 0 ba en tA fl de iD iO tU fm fk fa fc ft ff fb fi]) H := hP
                have hD : va_D A (List.flatten [bMo g o a th hi ac 0 ba en tA fl de iD iO tU fm fk fa fc ft ff fb fi]) := hD
                exact ih30_138 0 x_231 (by decide) ⟨(Int.le_trans (by decide) hx_231.2.1), hx_231.2.2⟩ (by first | omega | assumption | decide) H _ ls (zmK hx_231.1 (by decide) n220 (by decide) hk30_138)  hP hD hS (lv_sub hl [0, 1, 2, 3] rfl)
              · skip
                have c232 : x_227.toInt < x_228.toInt := zlti (Int32.not_le.mp cb9) rfl rfl
                have n233 : x_227.toInt ≤ 7 := zL1 (b := 8) c232 hx_228.2.1 (by decide)
                refine lv_aload_n hx hb dX12_told_54 rfl (lv_at hl 0 rfl) ?_
                refine va_get (D := g.1) (ci := 10) (v := .ref (a 4)) (C := RX12) (T := TX12) (N := 20) hx hb hts izRX12 hown hK hP 0 rfl rfl 7 (by decide) (hts _ k819) (fun _ h9 => h9) rfl dX12_told_55 ?_
                refine lv_iload_n hx hb dX12_told_58 rfl (lv_at hl 3 rfl) ?_
                refine lv_iconst (v := 1) hx hb dX12_told_59 (by decide) ?_
                refine lv_iadd hx hb dX12_told_60 ?_
                refine zg3 (zaddK (i := x_133.toInt) (j := 1) (a' := 1) (b' := 400) rfl (by decide) i135.1 n220 (Int.le_refl _) (Int.le_refl _) (by decide)) (fun x_234 hx_234 => ?_)
                refine va_iald hx hb hK hP 5 0 rfl rfl (zinI (by omega) (by omega)) dX12_told_61 ?_
                refine zg (fun x_235 => ?_)
                refine lv_aload_n hx hb dX12_told_62 rfl (lv_at hl 0 rfl) ?_
                refine va_get (D := g.1) (ci := 10) (v := .ref (a 0)) (C := RX12) (T := TX12) (N := 20) hx hb hts izRX12 hown hK hP 0 rfl rfl 1 (by decide) (hts _ k815) (fun _ h9 => h9) rfl dX12_told_63 ?_
                refine lv_iconst (v := 3) hx hb dX12_told_66 (by decide) ?_
                refine va_iald hx hb hK hP 1 0 rfl rfl (zin rfl) dX12_told_67 ?_
                refine zgq (r := fm 3) rfl (rM3 rfm) (fun x_236 hx_236 => ?_)
                refine lv_icmp_ge (tgt := 104) hx hb dX12_told_68 (by decide) (fun cb9 => ?_) (fun cb9 => ?_)
                · skip
                  have c237 : x_236.toInt ≤ x_235.toInt := zle cb9 rfl rfl
                  have n238 : 0 ≤ x_235.toInt := Int.le_trans hx_236.1 c237
                  refine lv_iconst (v := 0) hx hb dX12_told_104 (by decide) ?_
                  refine lv_istore_n (lv' := [(2, .int 0), (0, .ref o), (1, .int tp), (3, .int x_133)]) hx hb dX12_told_105 rfl hl (by decide) rfl (fun ls hl => ?_)
                  refine ziinc3 (n' := 3) (a' := 3) (b' := 402) (lv' := fun v9 => [(3, .int v9), (2, .int 0), (0, .ref o), (1, .int tp)]) hx hb dX12_told_106 hl (k := 3) rfl (by decide) (fun _ => rfl) (zaddK (i := x_133.toInt) (j := 3) rfl (by decide) i135.1 n220 (Int.le_refl _) (Int.le_refl _) (by decide)) (fun x_239 ls hx_239 hl => ?_)
                  refine lv_goto (tgt := 30) hx hb dX12_told_109 (by decide) ?_
                  have hl := lv_sub (l' := [(0, .ref o), (1, .int tp), (2, .int 0), (3, .int x_239)]) hl [2, 3, 1, 0] rfl
                  have hL0 : (0 : Int32).toInt = 0 := by decide
                  have hP : va_P g.1 vwCl (List.flatten [bMo g o a th hi ac 0 ba en tA fl de iD iO tU fm fk fa fc ft ff fb fi]) H := hP
                  have hD : va_D A (List.flatten [bMo g o a th hi ac 0 ba en tA fl de iD iO tU fm fk fa fc ft ff fb fi]) := hD
                  exact ih30_138 0 x_239 (by decide) ⟨(Int.le_trans (by decide) hx_239.2.1), hx_239.2.2⟩ (by first | omega | assumption | decide) H _ ls (zmK hx_239.1 (by decide) n220 (by decide) hk30_138)  hP hD hS (lv_sub hl [0, 1, 2, 3] rfl)
                · skip
                  have c240 : x_235.toInt < x_236.toInt := zlti (Int32.not_le.mp cb9) rfl rfl
                  have n241 : x_235.toInt ≤ 7 := zL1 (b := 8) c240 hx_236.2.1 (by decide)
                  refine lv_aload_n hx hb dX12_told_71 rfl (lv_at hl 0 rfl) ?_
                  refine va_get (D := g.1) (ci := 10) (v := .ref (a 4)) (C := RX12) (T := TX12) (N := 20) hx hb hts izRX12 hown hK hP 0 rfl rfl 7 (by decide) (hts _ k819) (fun _ h9 => h9) rfl dX12_told_72 ?_
                  refine lv_iload_n hx hb dX12_told_75 rfl (lv_at hl 3 rfl) ?_
                  refine va_iald hx hb hK hP 5 0 rfl rfl (zinK (a := 0) (b := 399) i135.1 n220 (by decide)) dX12_told_76 ?_
                  refine zg (fun x_242 => ?_)
                  refine lv_aload_n hx hb dX12_told_77 rfl (lv_at hl 0 rfl) ?_
                  refine va_get (D := g.1) (ci := 10) (v := .ref (a 4)) (C := RX12) (T := TX12) (N := 20) hx hb hts izRX12 hown hK hP 0 rfl rfl 7 (by decide) (hts _ k819) (fun _ h9 => h9) rfl dX12_told_78 ?_
                  refine lv_iload_n hx hb dX12_told_81 rfl (lv_at hl 3 rfl) ?_
                  refine lv_iconst (v := 1) hx hb dX12_told_82 (by decide) ?_
                  refine lv_iadd hx hb dX12_told_83 ?_
                  refine zg3 (zaddK (i := x_133.toInt) (j := 1) (a' := 1) (b' := 400) rfl (by decide) i135.1 n220 (Int.le_refl _) (Int.le_refl _) (by decide)) (fun x_243 hx_243 => ?_)
                  refine va_iald hx hb hK hP 5 0 rfl rfl (zinI (by omega) (by omega)) dX12_told_84 ?_
                  refine zg (fun x_244 => ?_)
                  refine lv_icmp_eq (tgt := 104) hx hb dX12_told_85 (by decide) (fun cb9 => ?_) (fun cb9 => ?_)
                  · skip
                    have c245 : x_242.toInt = x_244.toInt := zeq cb9 rfl rfl
                    refine lv_iconst (v := 0) hx hb dX12_told_104 (by decide) ?_
                    refine lv_istore_n (lv' := [(2, .int 0), (0, .ref o), (1, .int tp), (3, .int x_133)]) hx hb dX12_told_105 rfl hl (by decide) rfl (fun ls hl => ?_)
                    refine ziinc3 (n' := 3) (a' := 3) (b' := 402) (lv' := fun v9 => [(3, .int v9), (2, .int 0), (0, .ref o), (1, .int tp)]) hx hb dX12_told_106 hl (k := 3) rfl (by decide) (fun _ => rfl) (zaddK (i := x_133.toInt) (j := 3) rfl (by decide) i135.1 n220 (Int.le_refl _) (Int.le_refl _) (by decide)) (fun x_246 ls hx_246 hl => ?_)
                    refine lv_goto (tgt := 30) hx hb dX12_told_109 (by decide) ?_
                    have hl := lv_sub (l' := [(0, .ref o), (1, .int tp), (2, .int 0), (3, .int x_246)]) hl [2, 3, 1, 0] rfl
                    have hL0 : (0 : Int32).toInt = 0 := by decide
                    have hP : va_P g.1 vwCl (List.flatten [bMo g o a th hi ac 0 ba en tA fl de iD iO tU fm fk fa fc ft ff fb fi]) H := hP
                    have hD : va_D A (List.flatten [bMo g o a th hi ac 0 ba en tA fl de iD iO tU fm fk fa fc ft ff fb fi]) := hD
                    exact ih30_138 0 x_246 (by decide) ⟨(Int.le_trans (by decide) hx_246.2.1), hx_246.2.2⟩ (by first | omega | assumption | decide) H _ ls (zmK hx_246.1 (by decide) n220 (by decide) hk30_138)  hP hD hS (lv_sub hl [0, 1, 2, 3] rfl)
                  · skip
                    have c247 : ¬ x_242.toInt = x_244.toInt := zne cb9 rfl rfl
                    refine lv_aload_n hx hb dX12_told_88 rfl (lv_at hl 0 rfl) ?_
                    refine va_get (D := g.1) (ci := 10) (v := .ref (a 4)) (C := RX12) (T := TX12) (N := 20) hx hb hts izRX12 hown hK hP 0 rfl rfl 7 (by decide) (hts _ k819) (fun _ h9 => h9) rfl dX12_told_89 ?_
                    refine lv_iload_n hx hb dX12_told_92 rfl (lv_at hl 3 rfl) ?_
                    refine lv_iconst (v := 2) hx hb dX12_told_93 (by decide) ?_
                    refine lv_iadd hx hb dX12_told_94 ?_
                    refine zg3 (zaddK (i := x_133.toInt) (j := 2) (a' := 2) (b' := 401) rfl (by decide) i135.1 n220 (Int.le_refl _) (Int.le_refl _) (by decide)) (fun x_248 hx_248 => ?_)
                    refine va_iald hx hb hK hP 5 0 rfl rfl (zinI (by omega) (by omega)) dX12_told_95 ?_
                    refine zg (fun x_249 => ?_)
                    refine lv_iconst (v := 2) hx hb dX12_told_96 (by decide) ?_
                    refine lv_icmp_ge (tgt := 104) hx hb dX12_told_97 (by decide) (fun cb9 => ?_) (fun cb9 => ?_)
                    · skip
                      have c250 : 2 ≤ x_249.toInt := zle cb9 (by decide) rfl
                      have n251 : 2 ≤ x_249.toInt := Int.le_trans (Int.le_refl _) c250
                      refine lv_iconst (v := 0) hx hb dX12_told_104 (by decide) ?_
                      refine lv_istore_n (lv' := [(2, .int 0), (0, .ref o), (1, .int tp), (3, .int x_133)]) hx hb dX12_told_105 rfl hl (by decide) rfl (fun ls hl => ?_)
                      refine ziinc3 (n' := 3) (a' := 3) (b' := 402) (lv' := fun v9 => [(3, .int v9), (2, .int 0), (0, .ref o), (1, .int tp)]) hx hb dX12_told_106 hl (k := 3) rfl (by decide) (fun _ => rfl) (zaddK (i := x_133.toInt) (j := 3) rfl (by decide) i135.1 n220 (Int.le_refl _) (Int.le_refl _) (by decide)) (fun x_252 ls hx_252 hl => ?_)
                      refine lv_goto (tgt := 30) hx hb dX12_told_109 (by decide) ?_
                      have hl := lv_sub (l' := [(0, .ref o), (1, .int tp), (2, .int 0), (3, .int x_252)]) hl [2, 3, 1, 0] rfl
                      have hL0 : (0 : Int32).toInt = 0 := by decide
                      have hP : va_P g.1 vwCl (List.flatten [bMo g o a th hi ac 0 ba en tA fl de iD iO tU fm fk fa fc ft ff fb fi]) H := hP
                      have hD : va_D A (List.flatten [bMo g o a th hi ac 0 ba en tA fl de iD iO tU fm fk fa fc ft ff fb fi]) := hD
                      exact ih30_138 0 x_252 (by decide) ⟨(Int.le_trans (by decide) hx_252.2.1), hx_252.2.2⟩ (by first | omega | assumption | decide) H _ ls (zmK hx_252.1 (by decide) n220 (by decide) hk30_138)  hP hD hS (lv_sub hl [0, 1, 2, 3] rfl)
                    · skip
                      have c253 : x_249.toInt < 2 := zlti (Int32.not_le.mp cb9) rfl (by decide)
                      have n254 : x_249.toInt ≤ 1 := zL1 (b := 2) c253 (Int.le_refl _) (by decide)
                      refine lv_iconst (v := 1) hx hb dX12_told_100 (by decide) ?_
                      refine lv_goto (tgt := 105) hx hb dX12_told_101 (by decide) ?_
                      refine lv_istore_n (lv' := [(2, .int 1), (0, .ref o), (1, .int tp), (3, .int x_133)]) hx hb dX12_told_105 rfl hl (by decide) rfl (fun ls hl => ?_)
                      refine ziinc3 (n' := 3) (a' := 3) (b' := 402) (lv' := fun v9 => [(3, .int v9), (2, .int 1), (0, .ref o), (1, .int tp)]) hx hb dX12_told_106 hl (k := 3) rfl (by decide) (fun _ => rfl) (zaddK (i := x_133.toInt) (j := 3) rfl (by decide) i135.1 n220 (Int.le_refl _) (Int.le_refl _) (by decide)) (fun x_255 ls hx_255 hl => ?_)
                      refine lv_goto (tgt := 30) hx hb dX12_told_109 (by decide) ?_
                      have hl := lv_sub (l' := [(0, .ref o), (1, .int tp), (2, .int 1), (3, .int x_255)]) hl [2, 3, 1, 0] rfl
                      have hL1 : (1 : Int32).toInt = 1 := by decide
                      have hP : va_P g.1 vwCl (List.flatten [bMo g o a th hi ac 0 ba en tA fl de iD iO tU fm fk fa fc ft ff fb fi]) H := hP
                      have hD : va_D A (List.flatten [bMo g o a th hi ac 0 ba en tA fl de iD iO tU fm fk fa fc ft ff fb fi]) := hD
                      exact ih30_138 1 x_255 (by decide) ⟨(Int.le_trans (by decide) hx_255.2.1), hx_255.2.2⟩ (by first | omega | assumption | decide) H _ ls (zmK hx_255.1 (by decide) n220 (by decide) hk30_138)  hP hD hS (lv_sub hl [0, 1, 2, 3] rfl)
      have hL0 : (0 : Int32).toInt = 0 := by decide
      have hP : va_P g.1 vwCl (List.flatten [bMo g o a th hi ac 0 ba en tA fl de iD iO tU fm fk fa fc ft ff fb fi]) H := hP
      have hD : va_D A (List.flatten [bMo g o a th hi ac 0 ba en tA fl de iD iO tU fm fk fa fc ft ff fb fi]) := hD
      exact LP30_137 _ 0 0 (by decide) (by decide) (by first | omega | assumption | decide) H _ ls (Nat.lt_succ_self _)  hP hD hS (lv_sub hl [0, 1, 2, 3] rfl)
    · skip
      have c256 : tp.toInt ≤ 36 := zle (Int32.not_lt.mp cb9) rfl (by decide)
      have n257 : tp.toInt ≤ 36 := Int.le_trans c256 (Int.le_refl _)
      refine lv_iconst (v := 1) hx hb dX12_told_22 (by decide) ?_
      refine lv_goto (tgt := 27) hx hb dX12_told_23 (by decide) ?_
      refine lv_istore_n (lv' := [(2, .int 1), (1, .int tp), (0, .ref o)]) hx hb dX12_told_27 rfl hl (by decide) rfl (fun ls hl => ?_)
      refine lv_iconst (v := 0) hx hb dX12_told_28 (by decide) ?_
      refine lv_istore_n (lv' := [(3, .int 0), (2, .int 1), (1, .int tp), (0, .ref o)]) hx hb dX12_told_29 rfl hl (by decide) rfl (fun ls hl => ?_)
      have hl := lv_sub (l' := [(0, .ref o), (1, .int tp), (2, .int 1), (3, .int 0)]) hl [3, 2, 1, 0] rfl
      have LP30_263 : ∀ (kf : Nat) (x_258 : Int32) (x_259 : Int32), (0 ≤ x_258.toInt ∧ x_258.toInt ≤ 1) → (0 ≤ x_259.toInt ∧ x_259.toInt ≤ 402) → (x_258.toInt = 0 ∨ tp.toInt ≤ 36) → ∀ (H : Heap) (locs : List Loc) (ls : Array Slot), ((403 - x_259.toInt).toNat) < kf → va_P g.1 vwCl (List.flatten [bMo g o a th hi ac 0 ba en tA fl de iD iO tU fm fk fa fc ft ff fb fi]) H → va_D A (List.flatten [bMo g o a th hi ac 0 ba en tA fl de iD iO tU fm fk fa fc ft ff fb fi]) → va_S A s.heap H locs → lv_has ls 6 [(0, .ref o), (1, .int tp), (2, .int x_258), (3, .int x_259)] → W p l e ({ frames := 2, cells := 0, slots := 0, locals := 43 } : Room) s m args below meth c H locs (0) (0) (zF g (fun u : (Nat → Int32) × Int32 => (fun (fi2 : Nat → Int32) (q : Int32) => some (.int q)) (u.1) (u.2)) (fun u : (Nat → Int32) × Int32 => (fun (fi2 : Nat → Int32) (q : Int32) => True) (u.1) (u.2)) (fun u : (Nat → Int32) × Int32 => (fun (fi2 : Nat → Int32) (q : Int32) => [bMo g o a th hi ac 0 ba en tA fl de iD iO tU fm fk fa fc ft ff fb fi2]) (u.1) (u.2)) ({ frames := 2, cells := 0, slots := 0, locals := 43 } : Room) below args s A) (F0 m 30 ls []) := by
        intro kf
        induction kf with
        | zero => intro x_258 x_259 i260 i261 i262 H locs ls hk; exact absurd hk (Nat.not_lt_zero _)
        | succ kf ih30_264 =>
          intro x_258 x_259 i260 i261 i262 H locs ls hk30_264 hP hD hS hl
          refine lv_iload_n hx hb dX12_told_30 rfl (lv_at hl 3 rfl) ?_
          refine lv_iload_n hx hb dX12_told_31 rfl (lv_at hl 1 rfl) ?_
          refine lv_icmp_ge (tgt := 112) hx hb dX12_told_32 (by decide) (fun cb9 => ?_) (fun cb9 => ?_)
          · skip
            have c265 : tp.toInt ≤ x_259.toInt := zle cb9 rfl rfl
            refine lv_iload_n hx hb dX12_told_112 rfl (lv_at hl 2 rfl) ?_
            refine lv_if_ne (tgt := 118) hx hb dX12_told_113 (by decide) (fun cb9 => ?_) (fun cb9 => ?_)
            · skip
              have c266 : ¬ x_258.toInt = 0 := zne cb9 rfl (by decide)
              have n267 : 1 ≤ x_258.toInt := zN1 c266 i260.1 (by decide)
              refine lv_iconst (v := 0) hx hb dX12_told_118 (by decide) ?_
              refine lv_istore_n (lv' := [(3, .int 0), (0, .ref o), (1, .int tp), (2, .int x_258)]) hx hb dX12_told_119 rfl hl (by decide) rfl (fun ls hl => ?_)
              refine lv_iconst (v := 0) hx hb dX12_told_120 (by decide) ?_
              refine lv_istore (lv' := [(4, .int 0), (3, .int 0), (0, .ref o), (1, .int tp), (2, .int x_258)]) hx hb dX12_told_121 hl (by decide) rfl (fun ls hl => ?_)
              have hl := lv_sub (l' := [(0, .ref o), (1, .int tp), (2, .int x_258), (3, .int 0), (4, .int 0)]) hl [2, 3, 4, 1, 0] rfl
              have LP123_272 : ∀ (kf : Nat) (x_268 : Int32) (x_269 : Int32) (fi_270 : Nat → Int32), (0 ≤ x_269.toInt ∧ x_269.toInt ≤ 256) → ∀ (H : Heap) (locs : List Loc) (ls : Array Slot), ((257 - x_269.toInt).toNat) < kf → va_P g.1 vwCl (List.flatten [bMo g o a th hi ac 0 ba en tA fl de iD iO tU fm fk fa fc ft ff fb fi_270]) H → va_D A (List.flatten [bMo g o a th hi ac 0 ba en tA fl de iD iO tU fm fk fa fc ft ff fb fi_270]) → va_S A s.heap H locs → lv_has ls 6 [(0, .ref o), (1, .int tp), (2, .int x_258), (3, .int x_268), (4, .int x_269)] → W p l e ({ frames := 2, cells := 0, slots := 0, locals := 43 } : Room) s m args below meth c H locs (0) (0) (zF g (fun u : (Nat → Int32) × Int32 => (fun (fi2 : Nat → Int32) (q : Int32) => some (.int q)) (u.1) (u.2)) (fun u : (Nat → Int32) × Int32 => (fun (fi2 : Nat → Int32) (q : Int32) => True) (u.1) (u.2)) (fun u : (Nat → Int32) × Int32 => (fun (fi2 : Nat → Int32) (q : Int32) => [bMo g o a th hi ac 0 ba en tA fl de iD iO tU fm fk fa fc ft ff fb fi2]) (u.1) (u.2)) ({ frames := 2, cells := 0, slots := 0, locals := 43 } : Room) below args s A) (F0 m 123 ls []) := by
                intro kf
                induction kf with
                | zero => intro x_268 x_269 fi_270 i271 H locs ls hk; exact absurd hk (Nat.not_lt_zero _)
                | succ kf ih123_273 =>
                  intro x_268 x_269 fi_270 i271 H locs ls hk123_273 hP hD hS hl
                  refine lv_iload hx hb dX12_told_123 (lv_at hl 4 rfl) ?_
                  refine lv_iconst (v := 1) hx hb dX12_told_125 (by decide) ?_
                  refine lv_aload_n hx hb dX12_told_126 rfl (lv_at hl 0 rfl) ?_
                  refine va_get (D := g.1) (ci := 10) (v := .ref (a 0)) (C := RX12) (T := TX12) (N := 20) hx hb hts izRX12 hown hK hP 0 rfl rfl 1 (by decide) (hts _ k815) (fun _ h9 => h9) rfl dX12_told_127 ?_
                  refine lv_iconst (v := 3) hx hb dX12_told_130 (by decide) ?_
                  refine va_iald hx hb hK hP 1 0 rfl rfl (zin rfl) dX12_told_131 ?_
                  refine zgq (r := fm 3) rfl (rM3 rfm) (fun x_274 hx_274 => ?_)
                  refine lv_ishl hx hb dX12_told_132 ?_
                  refine zgb (zshl1 (j := x_274.toInt) rfl 8 256 (by decide) (by decide) ⟨hx_274.1, hx_274.2.1⟩) (fun x_275 hx_275 => ?_)
                  refine lv_icmp_ge (tgt := 247) hx hb dX12_told_133 (by decide) (fun cb9 => ?_) (fun cb9 => ?_)
                  · skip
                    have c276 : x_275.toInt ≤ x_269.toInt := zle cb9 rfl rfl
                    have n277 : 1 ≤ x_269.toInt := Int.le_trans hx_275.1 c276
                    refine lv_iload_n hx hb dX12_told_247 rfl (lv_at hl 3 rfl) ?_
                    have hP : va_P g.1 vwCl (List.flatten [bMo g o a th hi ac 0 ba en tA fl de iD iO tU fm fk fa fc ft ff fb fi_270]) H := hP
                    have hD : va_D A (List.flatten [bMo g o a th hi ac 0 ba en tA fl de iD iO tU fm fk fa fc ft ff fb fi_270]) := hD
                    exact mret_i hx hb hr hlocks hS (Nat.le_of_ble_eq_true rfl) (Nat.le_of_ble_eq_true rfl) dX12_told_248 (fi_270, x_268) rfl trivial hP hD
                  · skip
                    have c278 : x_269.toInt < x_275.toInt := zlti (Int32.not_le.mp cb9) rfl rfl
                    have n279 : x_269.toInt ≤ 255 := zL1 (b := 256) c278 hx_275.2 (by decide)
                    refine lv_aload_n hx hb dX12_told_136 rfl (lv_at hl 0 rfl) ?_
                    refine va_get (D := g.1) (ci := 10) (v := .ref (a 7)) (C := RX12) (T := TX12) (N := 20) hx hb hts izRX12 hown hK hP 0 rfl rfl 19 (by decide) (hts _ k823) (fun _ h9 => h9) rfl dX12_told_137 ?_
                    refine lv_iload hx hb dX12_told_140 (lv_at hl 4 rfl) ?_
                    refine lv_iconst (v := 1) hx hb dX12_told_142 (by decide) ?_
                    refine va_zast hx hb hK hP hD hS 8 1 rfl rfl (zinK (a := 0) (b := 255) i271.1 n279 (by decide)) dX12_told_143 (fun H locs hP hD hS => ?_)
                    obtain ⟨fi_280, hP, hD⟩ : ∃ fi_280 : Nat → Int32, va_P g.1 vwCl (List.flatten [bMo g o a th hi ac 0 ba en tA fl de iD iO tU fm fk fa fc ft ff fb fi_280]) H ∧ va_D A (List.flatten [bMo g o a th hi ac 0 ba en tA fl de iD iO tU fm fk fa fc ft ff fb fi_280]) := ⟨upd fi_270 x_269.toNatClampNeg (vp_nar .boolean 1), hP, hD⟩
                    refine lv_iconst (v := 0) hx hb dX12_told_144 (by decide) ?_
                    refine lv_istore (lv' := [(5, .int 0), (0, .ref o), (1, .int tp), (2, .int x_258), (3, .int x_268), (4, .int x_269)]) hx hb dX12_told_145 hl (by decide) rfl (fun ls hl => ?_)
                    have hl := lv_sub (l' := [(0, .ref o), (1, .int tp), (2, .int x_258), (3, .int x_268), (4, .int x_269), (5, .int 0)]) hl [1, 2, 3, 4, 5, 0] rfl
                    have LP147_284 : ∀ (kf : Nat) (x_281 : Int32) (fi_282 : Nat → Int32), (0 ≤ x_281.toInt ∧ x_281.toInt ≤ 402) → ∀ (H : Heap) (locs : List Loc) (ls : Array Slot), ((403 - x_281.toInt).toNat) < kf → va_P g.1 vwCl (List.flatten [bMo g o a th hi ac 0 ba en tA fl de iD iO tU fm fk fa fc ft ff fb fi_282]) H → va_D A (List.flatten [bMo g o a th hi ac 0 ba en tA fl de iD iO tU fm fk fa fc ft ff fb fi_282]) → va_S A s.heap H locs → lv_has ls 6 [(0, .ref o), (1, .int tp), (2, .int x_258), (3, .int x_268), (4, .int x_269), (5, .int x_281)] → W p l e ({ frames := 2, cells := 0, slots := 0, locals := 43 } : Room) s m args below meth c H locs (0) (0) (zF g (fun u : (Nat → Int32) × Int32 => (fun (fi2 : Nat → Int32) (q : Int32) => some (.int q)) (u.1) (u.2)) (fun u : (Nat → Int32) × Int32 => (fun (fi2 : Nat → Int32) (q : Int32) => True) (u.1) (u.2)) (fun u : (Nat → Int32) × Int32 => (fun (fi2 : Nat → Int32) (q : Int32) => [bMo g o a th hi ac 0 ba en tA fl de iD iO tU fm fk fa fc ft ff fb fi2]) (u.1) (u.2)) ({ frames := 2, cells := 0, slots := 0, locals := 43 } : Room) below args s A) (F0 m 147 ls []) := by
                      intro kf
                      induction kf with
                      | zero => intro x_281 fi_282 i283 H locs ls hk; exact absurd hk (Nat.not_lt_zero _)
                      | succ kf ih147_285 =>
                        intro x_281 fi_282 i283 H locs ls hk147_285 hP hD hS hl
                        refine lv_iload hx hb dX12_told_147 (lv_at hl 5 rfl) ?_
                        refine lv_iload_n hx hb dX12_told_149 rfl (lv_at hl 1 rfl) ?_
                        refine lv_icmp_ge (tgt := 223) hx hb dX12_told_150 (by decide) (fun cb9 => ?_) (fun cb9 => ?_)
                        · skip
                          have c286 : tp.toInt ≤ x_281.toInt := zle cb9 rfl rfl
                          refine lv_iload_n hx hb dX12_told_223 rfl (lv_at hl 3 rfl) ?_
                          refine lv_aload_n hx hb dX12_told_224 rfl (lv_at hl 0 rfl) ?_
                          refine va_get (D := g.1) (ci := 10) (v := .ref (a 7)) (C := RX12) (T := TX12) (N := 20) hx hb hts izRX12 hown hK hP 0 rfl rfl 19 (by decide) (hts _ k823) (fun _ h9 => h9) rfl dX12_told_225 ?_
                          refine lv_iload hx hb dX12_told_228 (lv_at hl 4 rfl) ?_
                          refine va_zald hx hb hK hP 8 1 rfl rfl (zinK (a := 0) (b := 255) i271.1 n279 (by decide)) dX12_told_230 ?_
                          refine zg (fun x_287 => ?_)
                          refine lv_if_eq (tgt := 238) hx hb dX12_told_231 (by decide) (fun cb9 => ?_) (fun cb9 => ?_)
                          · skip
                            have c288 : x_287.toInt = 0 := zeq cb9 rfl (by decide)
                            have n289 : 0 ≤ x_287.toInt := Int.le_trans (Int.le_refl _) (Int.le_of_eq c288.symm)
                            have n290 : x_287.toInt ≤ 0 := Int.le_trans (Int.le_of_eq c288) (Int.le_refl _)
                            refine lv_iconst (v := 0) hx hb dX12_told_238 (by decide) ?_
                            refine lv_iadd hx hb dX12_told_239 ?_
                            refine zg (fun x_291 => ?_)
                            refine lv_istore_n (lv' := [(3, .int x_291), (0, .ref o), (1, .int tp), (2, .int x_258), (4, .int x_269), (5, .int x_281)]) hx hb dX12_told_240 rfl hl (by decide) rfl (fun ls hl => ?_)
                            refine ziinc3 (n' := 1) (a' := 1) (b' := 256) (lv' := fun v9 => [(4, .int v9), (3, .int x_291), (0, .ref o), (1, .int tp), (2, .int x_258), (5, .int x_281)]) hx hb dX12_told_241 hl (k := 4) rfl (by decide) (fun _ => rfl) (zaddK (i := x_269.toInt) (j := 1) rfl (by decide) i271.1 n279 (Int.le_refl _) (Int.le_refl _) (by decide)) (fun x_292 ls hx_292 hl => ?_)
                            refine lv_goto (tgt := 123) hx hb dX12_told_244 (by decide) ?_
                            have hl := lv_sub (l' := [(0, .ref o), (1, .int tp), (2, .int x_258), (3, .int x_291), (4, .int x_292), (5, .int x_281)]) hl [2, 3, 4, 1, 0, 5] rfl
                            have hP : va_P g.1 vwCl (List.flatten [bMo g o a th hi ac 0 ba en tA fl de iD iO tU fm fk fa fc ft ff fb fi_282]) H := hP
                            have hD : va_D A (List.flatten [bMo g o a th hi ac 0 ba en tA fl de iD iO tU fm fk fa fc ft ff fb fi_282]) := hD
                            exact ih123_273 x_291 x_292 fi_282 ⟨(Int.le_trans (by decide) hx_292.2.1), hx_292.2.2⟩ H _ ls (zmK hx_292.1 (by decide) n279 (by decide) hk123_273)  hP hD hS (lv_sub hl [0, 1, 2, 3, 4] rfl)
                          · skip
                            have c293 : ¬ x_287.toInt = 0 := zne cb9 rfl (by decide)
                            refine lv_iconst (v := 1) hx hb dX12_told_234 (by decide) ?_
                            refine lv_goto (tgt := 239) hx hb dX12_told_235 (by decide) ?_
                            refine lv_iadd hx hb dX12_told_239 ?_
                            refine zg (fun x_294 => ?_)
                            refine lv_istore_n (lv' := [(3, .int x_294), (0, .ref o), (1, .int tp), (2, .int x_258), (4, .int x_269), (5, .int x_281)]) hx hb dX12_told_240 rfl hl (by decide) rfl (fun ls hl => ?_)
                            refine ziinc3 (n' := 1) (a' := 1) (b' := 256) (lv' := fun v9 => [(4, .int v9), (3, .int x_294), (0, .ref o), (1, .int tp), (2, .int x_258), (5, .int x_281)]) hx hb dX12_told_241 hl (k := 4) rfl (by decide) (fun _ => rfl) (zaddK (i := x_269.toInt) (j := 1) rfl (by decide) i271.1 n279 (Int.le_refl _) (Int.le_refl _) (by decide)) (fun x_295 ls hx_295 hl => ?_)
                            refine lv_goto (tgt := 123) hx hb dX12_told_244 (by decide) ?_
                            have hl := lv_sub (l' := [(0, .ref o), (1, .int tp), (2, .int x_258), (3, .int x_294), (4, .int x_295), (5, .int x_281)]) hl [2, 3, 4, 1, 0, 5] rfl
                            have hP : va_P g.1 vwCl (List.flatten [bMo g o a th hi ac 0 ba en tA fl de iD iO tU fm fk fa fc ft ff fb fi_282]) H := hP
                            have hD : va_D A (List.flatten [bMo g o a th hi ac 0 ba en tA fl de iD iO tU fm fk fa fc ft ff fb fi_282]) := hD
                            exact ih123_273 x_294 x_295 fi_282 ⟨(Int.le_trans (by decide) hx_295.2.1), hx_295.2.2⟩ H _ ls (zmK hx_295.1 (by decide) n279 (by decide) hk123_273)  hP hD hS (lv_sub hl [0, 1, 2, 3, 4] rfl)
                        · skip
                          have c296 : x_281.toInt < tp.toInt := zlti (Int32.not_le.mp cb9) rfl rfl
                          have n297 : x_281.toInt ≤ 35 := zL1 (b := 36) c296 n257 (by decide)
                          have n298 : 1 ≤ tp.toInt := zL2 (a := 0) c296 i283.1 (by decide)
                          refine lv_aload_n hx hb dX12_told_153 rfl (lv_at hl 0 rfl) ?_
                          refine va_get (D := g.1) (ci := 10) (v := .ref (a 7)) (C := RX12) (T := TX12) (N := 20) hx hb hts izRX12 hown hK hP 0 rfl rfl 19 (by decide) (hts _ k823) (fun _ h9 => h9) rfl dX12_told_154 ?_
                          refine lv_iload hx hb dX12_told_157 (lv_at hl 4 rfl) ?_
                          refine va_zald hx hb hK hP 8 1 rfl rfl (zinK (a := 0) (b := 255) i271.1 n279 (by decide)) dX12_told_159 ?_
                          refine zg (fun x_299 => ?_)
                          refine lv_if_eq (tgt := 223) hx hb dX12_told_160 (by decide) (fun cb9 => ?_) (fun cb9 => ?_)
                          · skip
                            have c300 : x_299.toInt = 0 := zeq cb9 rfl (by decide)
                            have n301 : 0 ≤ x_299.toInt := Int.le_trans (Int.le_refl _) (Int.le_of_eq c300.symm)
                            have n302 : x_299.toInt ≤ 0 := Int.le_trans (Int.le_of_eq c300) (Int.le_refl _)
                            refine lv_iload_n hx hb dX12_told_223 rfl (lv_at hl 3 rfl) ?_
                            refine lv_aload_n hx hb dX12_told_224 rfl (lv_at hl 0 rfl) ?_
                            refine va_get (D := g.1) (ci := 10) (v := .ref (a 7)) (C := RX12) (T := TX12) (N := 20) hx hb hts izRX12 hown hK hP 0 rfl rfl 19 (by decide) (hts _ k823) (fun _ h9 => h9) rfl dX12_told_225 ?_
                            refine lv_iload hx hb dX12_told_228 (lv_at hl 4 rfl) ?_
                            refine va_zald hx hb hK hP 8 1 rfl rfl (zinK (a := 0) (b := 255) i271.1 n279 (by decide)) dX12_told_230 ?_
                            refine zg (fun x_303 => ?_)
                            refine lv_if_eq (tgt := 238) hx hb dX12_told_231 (by decide) (fun cb9 => ?_) (fun cb9 => ?_)
                            · skip
                              have c304 : x_303.toInt = 0 := zeq cb9 rfl (by decide)
                              have n305 : 0 ≤ x_303.toInt := Int.le_trans (Int.le_refl _) (Int.le_of_eq c304.symm)
                              have n306 : x_303.toInt ≤ 0 := Int.le_trans (Int.le_of_eq c304) (Int.le_refl _)
                              refine lv_iconst (v := 0) hx hb dX12_told_238 (by decide) ?_
                              refine lv_iadd hx hb dX12_told_239 ?_
                              refine zg (fun x_307 => ?_)
                              refine lv_istore_n (lv' := [(3, .int x_307), (0, .ref o), (1, .int tp), (2, .int x_258), (4, .int x_269), (5, .int x_281)]) hx hb dX12_told_240 rfl hl (by decide) rfl (fun ls hl => ?_)
                              refine ziinc3 (n' := 1) (a' := 1) (b' := 256) (lv' := fun v9 => [(4, .int v9), (3, .int x_307), (0, .ref o), (1, .int tp), (2, .int x_258), (5, .int x_281)]) hx hb dX12_told_241 hl (k := 4) rfl (by decide) (fun _ => rfl) (zaddK (i := x_269.toInt) (j := 1) rfl (by decide) i271.1 n279 (Int.le_refl _) (Int.le_refl _) (by decide)) (fun x_308 ls hx_308 hl => ?_)
                              refine lv_goto (tgt := 123) hx hb dX12_told_244 (by decide) ?_
                              have hl := lv_sub (l' := [(0, .ref o), (1, .int tp), (2, .int x_258), (3, .int x_307), (4, .int x_308), (5, .int x_281)]) hl [2, 3, 4, 1, 0, 5] rfl
                              have hP : va_P g.1 vwCl (List.flatten [bMo g o a th hi ac 0 ba en tA fl de iD iO tU fm fk fa fc ft ff fb fi_282]) H := hP
                              have hD : va_D A (List.flatten [bMo g o a th hi ac 0 ba en tA fl de iD iO tU fm fk fa fc ft ff fb fi_282]) := hD
                              exact ih123_273 x_307 x_308 fi_282 ⟨(Int.le_trans (by decide) hx_308.2.1), hx_308.2.2⟩ H _ ls (zmK hx_308.1 (by decide) n279 (by decide) hk123_273)  hP hD hS (lv_sub hl [0, 1, 2, 3, 4] rfl)
                            · skip
                              have c309 : ¬ x_303.toInt = 0 := zne cb9 rfl (by decide)
                              refine lv_iconst (v := 1) hx hb dX12_told_234 (by decide) ?_
                              refine lv_goto (tgt := 239) hx hb dX12_told_235 (by decide) ?_
                              refine lv_iadd hx hb dX12_told_239 ?_
                              refine zg (fun x_310 => ?_)
                              refine lv_istore_n (lv' := [(3, .int x_310), (0, .ref o), (1, .int tp), (2, .int x_258), (4, .int x_269), (5, .int x_281)]) hx hb dX12_told_240 rfl hl (by decide) rfl (fun ls hl => ?_)
                              refine ziinc3 (n' := 1) (a' := 1) (b' := 256) (lv' := fun v9 => [(4, .int v9), (3, .int x_310), (0, .ref o), (1, .int tp), (2, .int x_258), (5, .int x_281)]) hx hb dX12_told_241 hl (k := 4) rfl (by decide) (fun _ => rfl) (zaddK (i := x_269.toInt) (j := 1) rfl (by decide) i271.1 n279 (Int.le_refl _) (Int.le_refl _) (by decide)) (fun x_311 ls hx_311 hl => ?_)
                              refine lv_goto (tgt := 123) hx hb dX12_told_244 (by decide) ?_
                              have hl := lv_sub (l' := [(0, .ref o), (1, .int tp), (2, .int x_258), (3, .int x_310), (4, .int x_311), (5, .int x_281)]) hl [2, 3, 4, 1, 0, 5] rfl
                              have hP : va_P g.1 vwCl (List.flatten [bMo g o a th hi ac 0 ba en tA fl de iD iO tU fm fk fa fc ft ff fb fi_282]) H := hP
                              have hD : va_D A (List.flatten [bMo g o a th hi ac 0 ba en tA fl de iD iO tU fm fk fa fc ft ff fb fi_282]) := hD
                              exact ih123_273 x_310 x_311 fi_282 ⟨(Int.le_trans (by decide) hx_311.2.1), hx_311.2.2⟩ H _ ls (zmK hx_311.1 (by decide) n279 (by decide) hk123_273)  hP hD hS (lv_sub hl [0, 1, 2, 3, 4] rfl)
                          · skip
                            have c312 : ¬ x_299.toInt = 0 := zne cb9 rfl (by decide)
                            refine lv_aload_n hx hb dX12_told_163 rfl (lv_at hl 0 rfl) ?_
                            refine va_get (D := g.1) (ci := 10) (v := .ref (a 7)) (C := RX12) (T := TX12) (N := 20) hx hb hts izRX12 hown hK hP 0 rfl rfl 19 (by decide) (hts _ k823) (fun _ h9 => h9) rfl dX12_told_164 ?_
                            refine lv_iload hx hb dX12_told_167 (lv_at hl 4 rfl) ?_
                            refine lv_iload hx hb dX12_told_169 (lv_at hl 4 rfl) ?_
                            refine lv_aload_n hx hb dX12_told_171 rfl (lv_at hl 0 rfl) ?_
                            refine va_get (D := g.1) (ci := 10) (v := .ref (a 4)) (C := RX12) (T := TX12) (N := 20) hx hb hts izRX12 hown hK hP 0 rfl rfl 7 (by decide) (hts _ k819) (fun _ h9 => h9) rfl dX12_told_172 ?_
                            refine lv_iload hx hb dX12_told_175 (lv_at hl 5 rfl) ?_
                            refine va_iald hx hb hK hP 5 0 rfl rfl (zinK (a := 0) (b := 35) i283.1 n297 (by decide)) dX12_told_177 ?_
                            refine zg (fun x_313 => ?_)
                            refine lv_aload_n hx hb dX12_told_178 rfl (lv_at hl 0 rfl) ?_
                            refine va_get (D := g.1) (ci := 10) (v := .ref (a 4)) (C := RX12) (T := TX12) (N := 20) hx hb hts izRX12 hown hK hP 0 rfl rfl 7 (by decide) (hts _ k819) (fun _ h9 => h9) rfl dX12_told_179 ?_
                            refine lv_iload hx hb dX12_told_182 (lv_at hl 5 rfl) ?_
                            refine lv_iconst (v := 1) hx hb dX12_told_184 (by decide) ?_
                            refine lv_iadd hx hb dX12_told_185 ?_
                            refine zg3 (zaddK (i := x_281.toInt) (j := 1) (a' := 1) (b' := 36) rfl (by decide) i283.1 n297 (Int.le_refl _) (Int.le_refl _) (by decide)) (fun x_314 hx_314 => ?_)
                            refine va_iald hx hb hK hP 5 0 rfl rfl (zinK (a := 1) (b := 36) hx_314.2.1 hx_314.2.2 (by decide)) dX12_told_186 ?_
                            refine zg (fun x_315 => ?_)
                            refine mcallS' (g := g) (As := [.int x_269, .int x_313, .int x_315]) (rest := [.int x_269, .ref (a 7)]) St hK hT hA hP hD hS hl.1 [] [0] rfl rfl rfl (m_says l g x_269 x_313 x_315 ) (va_cwS 3 hts (zgL (zl3 k1101 k1102 k839) k1099) rfl rfl rfl (by decide +kernel) ⟨Nat.le_of_ble_eq_true rfl, Nat.le_of_ble_eq_true rfl⟩) rfl rfl (Nat.le_of_ble_eq_true rfl) dX12_told_187 ⟨(Nat.le_of_ble_eq_true rfl), (Nat.le_of_ble_eq_true rfl)⟩ (fun q_316 H locs hq317 hP hD hS => ?_)
                            replace hq317 : (q_316 = 0 ∨ q_316 = 1) := hq317
                            have hP : va_P g.1 vwCl (List.flatten [bMo g o a th hi ac 0 ba en tA fl de iD iO tU fm fk fa fc ft ff fb fi_282]) H := hP
                            have hD : va_D A (List.flatten [bMo g o a th hi ac 0 ba en tA fl de iD iO tU fm fk fa fc ft ff fb fi_282]) := hD
                            refine W.widen (k := 0) (n := 0) (Nat.le_of_ble_eq_true rfl) (Nat.le_of_ble_eq_true rfl) ?_
                            refine W.eq (g2 := F0 m 190 ls [.int q_316, .int x_269, .ref (a 7)]) rfl ?_
                            rcases hq317 with rfl | rfl
                            · skip
                              refine lv_aload_n hx hb dX12_told_190 rfl (lv_at hl 0 rfl) ?_
                              refine va_get (D := g.1) (ci := 10) (v := .ref (a 4)) (C := RX12) (T := TX12) (N := 20) hx hb hts izRX12 hown hK hP 0 rfl rfl 7 (by decide) (hts _ k819) (fun _ h9 => h9) rfl dX12_told_191 ?_
                              refine lv_iload hx hb dX12_told_194 (lv_at hl 5 rfl) ?_
                              refine lv_iconst (v := 2) hx hb dX12_told_196 (by decide) ?_
                              refine lv_iadd hx hb dX12_told_197 ?_
                              refine zg3 (zaddK (i := x_281.toInt) (j := 2) (a' := 2) (b' := 37) rfl (by decide) i283.1 n297 (Int.le_refl _) (Int.le_refl _) (by decide)) (fun x_318 hx_318 => ?_)
                              refine va_iald hx hb hK hP 5 0 rfl rfl (zinK (a := 2) (b := 37) hx_318.2.1 hx_318.2.2 (by decide)) dX12_told_198 ?_
                              refine zg (fun x_319 => ?_)
                              refine lv_iconst (v := 1) hx hb dX12_told_199 (by decide) ?_
                              refine lv_icmp_ne (tgt := 207) hx hb dX12_told_200 (by decide) (fun cb9 => ?_) (fun cb9 => ?_)
                              · skip
                                have c320 : ¬ x_319.toInt = 1 := zne cb9 rfl (by decide)
                                refine lv_iconst (v := 0) hx hb dX12_told_207 (by decide) ?_
                                refine lv_icmp_ne (tgt := 215) hx hb dX12_told_208 (by decide) (fun c321 => absurd (by decide) c321) (fun _ => ?_)
                                refine lv_iconst (v := 1) hx hb dX12_told_211 (by decide) ?_
                                refine lv_goto (tgt := 216) hx hb dX12_told_212 (by decide) ?_
                                refine va_zast hx hb hK hP hD hS 8 1 rfl rfl (zinK (a := 0) (b := 255) i271.1 n279 (by decide)) dX12_told_216 (fun H locs hP hD hS => ?_)
                                obtain ⟨fi_322, hP, hD⟩ : ∃ fi_322 : Nat → Int32, va_P g.1 vwCl (List.flatten [bMo g o a th hi ac 0 ba en tA fl de iD iO tU fm fk fa fc ft ff fb fi_322]) H ∧ va_D A (List.flatten [bMo g o a th hi ac 0 ba en tA fl de iD iO tU fm fk fa fc ft ff fb fi_322]) := ⟨upd fi_282 x_269.toNatClampNeg (vp_nar .boolean 1), hP, hD⟩
                                refine ziinc3 (n' := 3) (a' := 3) (b' := 38) (lv' := fun v9 => [(5, .int v9), (0, .ref o), (1, .int tp), (2, .int x_258), (3, .int x_268), (4, .int x_269)]) hx hb dX12_told_217 hl (k := 5) rfl (by decide) (fun _ => rfl) (zaddK (i := x_281.toInt) (j := 3) rfl (by decide) i283.1 n297 (Int.le_refl _) (Int.le_refl _) (by decide)) (fun x_323 ls hx_323 hl => ?_)
                                refine lv_goto (tgt := 147) hx hb dX12_told_220 (by decide) ?_
                                have hl := lv_sub (l' := [(0, .ref o), (1, .int tp), (2, .int x_258), (3, .int x_268), (4, .int x_269), (5, .int x_323)]) hl [1, 2, 3, 4, 5, 0] rfl
                                have hP : va_P g.1 vwCl (List.flatten [bMo g o a th hi ac 0 ba en tA fl de iD iO tU fm fk fa fc ft ff fb fi_322]) H := hP
                                have hD : va_D A (List.flatten [bMo g o a th hi ac 0 ba en tA fl de iD iO tU fm fk fa fc ft ff fb fi_322]) := hD
                                exact ih147_285 x_323 fi_322 ⟨(Int.le_trans (by decide) hx_323.2.1), (Int.le_trans hx_323.2.2 (by decide))⟩ H _ ls (zmK hx_323.1 (by decide) n297 (by decide) hk147_285)  hP hD hS (lv_sub hl [0, 1, 2, 3, 4, 5] rfl)
                              · skip
                                have c324 : x_319.toInt = 1 := zeq cb9 rfl (by decide)
                                have n325 : 1 ≤ x_319.toInt := Int.le_trans (Int.le_refl _) (Int.le_of_eq c324.symm)
                                have n326 : x_319.toInt ≤ 1 := Int.le_trans (Int.le_of_eq c324) (Int.le_refl _)
                                refine lv_iconst (v := 1) hx hb dX12_told_203 (by decide) ?_
                                refine lv_goto (tgt := 208) hx hb dX12_told_204 (by decide) ?_
                                refine lv_icmp_ne (tgt := 215) hx hb dX12_told_208 (by decide) (fun _ => ?_) (fun c327 => absurd c327 (by decide))
                                refine lv_iconst (v := 0) hx hb dX12_told_215 (by decide) ?_
                                refine va_zast hx hb hK hP hD hS 8 1 rfl rfl (zinK (a := 0) (b := 255) i271.1 n279 (by decide)) dX12_told_216 (fun H locs hP hD hS => ?_)
                                obtain ⟨fi_328, hP, hD⟩ : ∃ fi_328 : Nat → Int32, va_P g.1 vwCl (List.flatten [bMo g o a th hi ac 0 ba en tA fl de iD iO tU fm fk fa fc ft ff fb fi_328]) H ∧ va_D A (List.flatten [bMo g o a th hi ac 0 ba en tA fl de iD iO tU fm fk fa fc ft ff fb fi_328]) := ⟨upd fi_282 x_269.toNatClampNeg (vp_nar .boolean 0), hP, hD⟩
                                refine ziinc3 (n' := 3) (a' := 3) (b' := 38) (lv' := fun v9 => [(5, .int v9), (0, .ref o), (1, .int tp), (2, .int x_258), (3, .int x_268), (4, .int x_269)]) hx hb dX12_told_217 hl (k := 5) rfl (by decide) (fun _ => rfl) (zaddK (i := x_281.toInt) (j := 3) rfl (by decide) i283.1 n297 (Int.le_refl _) (Int.le_refl _) (by decide)) (fun x_329 ls hx_329 hl => ?_)
                                refine lv_goto (tgt := 147) hx hb dX12_told_220 (by decide) ?_
                                have hl := lv_sub (l' := [(0, .ref o), (1, .int tp), (2, .int x_258), (3, .int x_268), (4, .int x_269), (5, .int x_329)]) hl [1, 2, 3, 4, 5, 0] rfl
                                have hP : va_P g.1 vwCl (List.flatten [bMo g o a th hi ac 0 ba en tA fl de iD iO tU fm fk fa fc ft ff fb fi_328]) H := hP
                                have hD : va_D A (List.flatten [bMo g o a th hi ac 0 ba en tA fl de iD iO tU fm fk fa fc ft ff fb fi_328]) := hD
                                exact ih147_285 x_329 fi_328 ⟨(Int.le_trans (by decide) hx_329.2.1), (Int.le_trans hx_329.2.2 (by decide))⟩ H _ ls (zmK hx_329.1 (by decide) n297 (by decide) hk147_285)  hP hD hS (lv_sub hl [0, 1, 2, 3, 4, 5] rfl)
                            · skip
                              refine lv_aload_n hx hb dX12_told_190 rfl (lv_at hl 0 rfl) ?_
                              refine va_get (D := g.1) (ci := 10) (v := .ref (a 4)) (C := RX12) (T := TX12) (N := 20) hx hb hts izRX12 hown hK hP 0 rfl rfl 7 (by decide) (hts _ k819) (fun _ h9 => h9) rfl dX12_told_191 ?_
                              refine lv_iload hx hb dX12_told_194 (lv_at hl 5 rfl) ?_
                              refine lv_iconst (v := 2) hx hb dX12_told_196 (by decide) ?_
                              refine lv_iadd hx hb dX12_told_197 ?_
                              refine zg3 (zaddK (i := x_281.toInt) (j := 2) (a' := 2) (b' := 37) rfl (by decide) i283.1 n297 (Int.le_refl _) (Int.le_refl _) (by decide)) (fun x_330 hx_330 => ?_)
                              refine va_iald hx hb hK hP 5 0 rfl rfl (zinK (a := 2) (b := 37) hx_330.2.1 hx_330.2.2 (by decide)) dX12_told_198 ?_
                              refine zg (fun x_331 => ?_)
                              refine lv_iconst (v := 1) hx hb dX12_told_199 (by decide) ?_
                              refine lv_icmp_ne (tgt := 207) hx hb dX12_told_200 (by decide) (fun cb9 => ?_) (fun cb9 => ?_)
                              · skip
                                have c332 : ¬ x_331.toInt = 1 := zne cb9 rfl (by decide)
                                refine lv_iconst (v := 0) hx hb dX12_told_207 (by decide) ?_
                                refine lv_icmp_ne (tgt := 215) hx hb dX12_told_208 (by decide) (fun _ => ?_) (fun c333 => absurd c333 (by decide))
                                refine lv_iconst (v := 0) hx hb dX12_told_215 (by decide) ?_
                                refine va_zast hx hb hK hP hD hS 8 1 rfl rfl (zinK (a := 0) (b := 255) i271.1 n279 (by decide)) dX12_told_216 (fun H locs hP hD hS => ?_)
                                obtain ⟨fi_334, hP, hD⟩ : ∃ fi_334 : Nat → Int32, va_P g.1 vwCl (List.flatten [bMo g o a th hi ac 0 ba en tA fl de iD iO tU fm fk fa fc ft ff fb fi_334]) H ∧ va_D A (List.flatten [bMo g o a th hi ac 0 ba en tA fl de iD iO tU fm fk fa fc ft ff fb fi_334]) := ⟨upd fi_282 x_269.toNatClampNeg (vp_nar .boolean 0), hP, hD⟩
                                refine ziinc3 (n' := 3) (a' := 3) (b' := 38) (lv' := fun v9 => [(5, .int v9), (0, .ref o), (1, .int tp), (2, .int x_258), (3, .int x_268), (4, .int x_269)]) hx hb dX12_told_217 hl (k := 5) rfl (by decide) (fun _ => rfl) (zaddK (i := x_281.toInt) (j := 3) rfl (by decide) i283.1 n297 (Int.le_refl _) (Int.le_refl _) (by decide)) (fun x_335 ls hx_335 hl => ?_)
                                refine lv_goto (tgt := 147) hx hb dX12_told_220 (by decide) ?_
                                have hl := lv_sub (l' := [(0, .ref o), (1, .int tp), (2, .int x_258), (3, .int x_268), (4, .int x_269), (5, .int x_335)]) hl [1, 2, 3, 4, 5, 0] rfl
                                have hP : va_P g.1 vwCl (List.flatten [bMo g o a th hi ac 0 ba en tA fl de iD iO tU fm fk fa fc ft ff fb fi_334]) H := hP
                                have hD : va_D A (List.flatten [bMo g o a th hi ac 0 ba en tA fl de iD iO tU fm fk fa fc ft ff fb fi_334]) := hD
                                exact ih147_285 x_335 fi_334 ⟨(Int.le_trans (by decide) hx_335.2.1), (Int.le_trans hx_335.2.2 (by decide))⟩ H _ ls (zmK hx_335.1 (by decide) n297 (by decide) hk147_285)  hP hD hS (lv_sub hl [0, 1, 2, 3, 4, 5] rfl)
                              · skip
                                have c336 : x_331.toInt = 1 := zeq cb9 rfl (by decide)
                                have n337 : 1 ≤ x_331.toInt := Int.le_trans (Int.le_refl _) (Int.le_of_eq c336.symm)
                                have n338 : x_331.toInt ≤ 1 := Int.le_trans (Int.le_of_eq c336) (Int.le_refl _)
                                refine lv_iconst (v := 1) hx hb dX12_told_203 (by decide) ?_
                                refine lv_goto (tgt := 208) hx hb dX12_told_204 (by decide) ?_
                                refine lv_icmp_ne (tgt := 215) hx hb dX12_told_208 (by decide) (fun c339 => absurd (by decide) c339) (fun _ => ?_)
                                refine lv_iconst (v := 1) hx hb dX12_told_211 (by decide) ?_
                                refine lv_goto (tgt := 216) hx hb dX12_told_212 (by decide) ?_
                                refine va_zast hx hb hK hP hD hS 8 1 rfl rfl (zinK (a := 0) (b := 255) i271.1 n279 (by decide)) dX12_told_216 (fun H locs hP hD hS => ?_)
                                obtain ⟨fi_340, hP, hD⟩ : ∃ fi_340 : Nat → Int32, va_P g.1 vwCl (List.flatten [bMo g o a th hi ac 0 ba en tA fl de iD iO tU fm fk fa fc ft ff fb fi_340]) H ∧ va_D A (List.flatten [bMo g o a th hi ac 0 ba en tA fl de iD iO tU fm fk fa fc ft ff fb fi_340]) := ⟨upd fi_282 x_269.toNatClampNeg (vp_nar .boolean 1), hP, hD⟩
                                refine ziinc3 (n' := 3) (a' := 3) (b' := 38) (lv' := fun v9 => [(5, .int v9), (0, .ref o), (1, .int tp), (2, .int x_258), (3, .int x_268), (4, .int x_269)]) hx hb dX12_told_217 hl (k := 5) rfl (by decide) (fun _ => rfl) (zaddK (i := x_281.toInt) (j := 3) rfl (by decide) i283.1 n297 (Int.le_refl _) (Int.le_refl _) (by decide)) (fun x_341 ls hx_341 hl => ?_)
                                refine lv_goto (tgt := 147) hx hb dX12_told_220 (by decide) ?_
                                have hl := lv_sub (l' := [(0, .ref o), (1, .int tp), (2, .int x_258), (3, .int x_268), (4, .int x_269), (5, .int x_341)]) hl [1, 2, 3, 4, 5, 0] rfl
                                have hP : va_P g.1 vwCl (List.flatten [bMo g o a th hi ac 0 ba en tA fl de iD iO tU fm fk fa fc ft ff fb fi_340]) H := hP
                                have hD : va_D A (List.flatten [bMo g o a th hi ac 0 ba en tA fl de iD iO tU fm fk fa fc ft ff fb fi_340]) := hD
                                exact ih147_285 x_341 fi_340 ⟨(Int.le_trans (by decide) hx_341.2.1), (Int.le_trans hx_341.2.2 (by decide))⟩ H _ ls (zmK hx_341.1 (by decide) n297 (by decide) hk147_285)  hP hD hS (lv_sub hl [0, 1, 2, 3, 4, 5] rfl)
                    have hP : va_P g.1 vwCl (List.flatten [bMo g o a th hi ac 0 ba en tA fl de iD iO tU fm fk fa fc ft ff fb fi_280]) H := hP
                    have hD : va_D A (List.flatten [bMo g o a th hi ac 0 ba en tA fl de iD iO tU fm fk fa fc ft ff fb fi_280]) := hD
                    exact LP147_284 _ 0 fi_280 (by decide) H _ ls (Nat.lt_succ_self _)  hP hD hS (lv_sub hl [0, 1, 2, 3, 4, 5] rfl)
              have hP : va_P g.1 vwCl (List.flatten [bMo g o a th hi ac 0 ba en tA fl de iD iO tU fm fk fa fc ft ff fb fi]) H := hP
              have hD : va_D A (List.flatten [bMo g o a th hi ac 0 ba en tA fl de iD iO tU fm fk fa fc ft ff fb fi]) := hD
              exact LP123_272 _ 0 0 fi (by decide) H _ ls (Nat.lt_succ_self _)  hP hD hS (lv_sub hl [0, 1, 2, 3, 4] rfl)
            · skip
              have c342 : x_258.toInt = 0 := zeq cb9 rfl (by decide)
              have n343 : x_258.toInt ≤ 0 := Int.le_trans (Int.le_of_eq c342) (Int.le_refl _)
              refine lv_iconst (v := (-1)) hx hb dX12_told_116 (by decide) ?_
              have hP : va_P g.1 vwCl (List.flatten [bMo g o a th hi ac 0 ba en tA fl de iD iO tU fm fk fa fc ft ff fb fi]) H := hP
              have hD : va_D A (List.flatten [bMo g o a th hi ac 0 ba en tA fl de iD iO tU fm fk fa fc ft ff fb fi]) := hD
              exact mret_i hx hb hr hlocks hS (Nat.le_of_ble_eq_true rfl) (Nat.le_of_ble_eq_true rfl) dX12_told_117 (fi, -1) rfl trivial hP hD
          · skip
            have c344 : x_259.toInt < tp.toInt := zlti (Int32.not_le.mp cb9) rfl rfl
            have n345 : x_259.toInt ≤ 35 := zL1 (b := 36) c344 n257 (by decide)
            have n346 : 1 ≤ tp.toInt := zL2 (a := 0) c344 i261.1 (by decide)
            refine lv_iload_n hx hb dX12_told_35 rfl (lv_at hl 2 rfl) ?_
            refine lv_if_eq (tgt := 112) hx hb dX12_told_36 (by decide) (fun cb9 => ?_) (fun cb9 => ?_)
            · skip
              have c347 : x_258.toInt = 0 := zeq cb9 rfl (by decide)
              have n348 : x_258.toInt ≤ 0 := Int.le_trans (Int.le_of_eq c347) (Int.le_refl _)
              refine lv_iload_n hx hb dX12_told_112 rfl (lv_at hl 2 rfl) ?_
              refine lv_if_ne (tgt := 118) hx hb dX12_told_113 (by decide) (fun cb9 => ?_) (fun cb9 => ?_)
              · skip
                exact absurd (show ¬ x_258.toInt = 0 from zne cb9 rfl (by decide)) (by omega)
              · skip
                have c350 : x_258.toInt = 0 := zeq cb9 rfl (by decide)
                refine lv_iconst (v := (-1)) hx hb dX12_told_116 (by decide) ?_
                have hP : va_P g.1 vwCl (List.flatten [bMo g o a th hi ac 0 ba en tA fl de iD iO tU fm fk fa fc ft ff fb fi]) H := hP
                have hD : va_D A (List.flatten [bMo g o a th hi ac 0 ba en tA fl de iD iO tU fm fk fa fc ft ff fb fi]) := hD
                exact mret_i hx hb hr hlocks hS (Nat.le_of_ble_eq_true rfl) (Nat.le_of_ble_eq_true rfl) dX12_told_117 (fi, -1) rfl trivial hP hD
            · skip
              have c351 : ¬ x_258.toInt = 0 := zne cb9 rfl (by decide)
              have n352 : 1 ≤ x_258.toInt := zN1 c351 i260.1 (by decide)
              refine lv_aload_n hx hb dX12_told_39 rfl (lv_at hl 0 rfl) ?_
              refine va_get (D := g.1) (ci := 10) (v := .ref (a 4)) (C := RX12) (T := TX12) (N := 20) hx hb hts izRX12 hown hK hP 0 rfl rfl 7 (by decide) (hts _ k819) (fun _ h9 => h9) rfl dX12_told_40 ?_
              refine lv_iload_n hx hb dX12_told_43 rfl (lv_at hl 3 rfl) ?_
              refine va_iald hx hb hK hP 5 0 rfl rfl (zinK (a := 0) (b := 35) i261.1 n345 (by decide)) dX12_told_44 ?_
              refine zg (fun x_353 => ?_)
              refine lv_aload_n hx hb dX12_told_45 rfl (lv_at hl 0 rfl) ?_
              refine va_get (D := g.1) (ci := 10) (v := .ref (a 0)) (C := RX12) (T := TX12) (N := 20) hx hb hts izRX12 hown hK hP 0 rfl rfl 1 (by decide) (hts _ k815) (fun _ h9 => h9) rfl dX12_told_46 ?_
              refine lv_iconst (v := 3) hx hb dX12_told_49 (by decide) ?_
              refine va_iald hx hb hK hP 1 0 rfl rfl (zin rfl) dX12_told_50 ?_
              refine zgq (r := fm 3) rfl (rM3 rfm) (fun x_354 hx_354 => ?_)
              refine lv_icmp_ge (tgt := 104) hx hb dX12_told_51 (by decide) (fun cb9 => ?_) (fun cb9 => ?_)
              · skip
                have c355 : x_354.toInt ≤ x_353.toInt := zle cb9 rfl rfl
                have n356 : 0 ≤ x_353.toInt := Int.le_trans hx_354.1 c355
                refine lv_iconst (v := 0) hx hb dX12_told_104 (by decide) ?_
                refine lv_istore_n (lv' := [(2, .int 0), (0, .ref o), (1, .int tp), (3, .int x_259)]) hx hb dX12_told_105 rfl hl (by decide) rfl (fun ls hl => ?_)
                refine ziinc3 (n' := 3) (a' := 3) (b' := 38) (lv' := fun v9 => [(3, .int v9), (2, .int 0), (0, .ref o), (1, .int tp)]) hx hb dX12_told_106 hl (k := 3) rfl (by decide) (fun _ => rfl) (zaddK (i := x_259.toInt) (j := 3) rfl (by decide) i261.1 n345 (Int.le_refl _) (Int.le_refl _) (by decide)) (fun x_357 ls hx_357 hl => ?_)
                refine lv_goto (tgt := 30) hx hb dX12_told_109 (by decide) ?_
                have hl := lv_sub (l' := [(0, .ref o), (1, .int tp), (2, .int 0), (3, .int x_357)]) hl [2, 3, 1, 0] rfl
                have hL0 : (0 : Int32).toInt = 0 := by decide
                have hP : va_P g.1 vwCl (List.flatten [bMo g o a th hi ac 0 ba en tA fl de iD iO tU fm fk fa fc ft ff fb fi]) H := hP
                have hD : va_D A (List.flatten [bMo g o a th hi ac 0 ba en tA fl de iD iO tU fm fk fa fc ft ff fb fi]) := hD
                exact ih30_264 0 x_357 (by decide) ⟨(Int.le_trans (by decide) hx_357.2.1), (Int.le_trans hx_357.2.2 (by decide))⟩ (by first | omega | assumption | decide) H _ ls (zmK hx_357.1 (by decide) n345 (by decide) hk30_264)  hP hD hS (lv_sub hl [0, 1, 2, 3] rfl)
              · skip
                have c358 : x_353.toInt < x_354.toInt := zlti (Int32.not_le.mp cb9) rfl rfl
                have n359 : x_353.toInt ≤ 7 := zL1 (b := 8) c358 hx_354.2.1 (by decide)
                refine lv_aload_n hx hb dX12_told_54 rfl (lv_at hl 0 rfl) ?_
                refine va_get (D := g.1) (ci := 10) (v := .ref (a 4)) (C := RX12) (T := TX12) (N := 20) hx hb hts izRX12 hown hK hP 0 rfl rfl 7 (by decide) (hts _ k819) (fun _ h9 => h9) rfl dX12_told_55 ?_
                refine lv_iload_n hx hb dX12_told_58 rfl (lv_at hl 3 rfl) ?_
                refine lv_iconst (v := 1) hx hb dX12_told_59 (by decide) ?_
                refine lv_iadd hx hb dX12_told_60 ?_
                refine zg3 (zaddK (i := x_259.toInt) (j := 1) (a' := 1) (b' := 36) rfl (by decide) i261.1 n345 (Int.le_refl _) (Int.le_refl _) (by decide)) (fun x_360 hx_360 => ?_)
                refine va_iald hx hb hK hP 5 0 rfl rfl (zinK (a := 1) (b := 36) hx_360.2.1 hx_360.2.2 (by decide)) dX12_told_61 ?_
                refine zg (fun x_361 => ?_)
                refine lv_aload_n hx hb dX12_told_62 rfl (lv_at hl 0 rfl) ?_
                refine va_get (D := g.1) (ci := 10) (v := .ref (a 0)) (C := RX12) (T := TX12) (N := 20) hx hb hts izRX12 hown hK hP 0 rfl rfl 1 (by decide) (hts _ k815) (fun _ h9 => h9) rfl dX12_told_63 ?_
                refine lv_iconst (v := 3) hx hb dX12_told_66 (by decide) ?_
                refine va_iald hx hb hK hP 1 0 rfl rfl (zin rfl) dX12_told_67 ?_
                refine zgq (r := fm 3) rfl (rM3 rfm) (fun x_362 hx_362 => ?_)
                refine lv_icmp_ge (tgt := 104) hx hb dX12_told_68 (by decide) (fun cb9 => ?_) (fun cb9 => ?_)
                · skip
                  have c363 : x_362.toInt ≤ x_361.toInt := zle cb9 rfl rfl
                  have n364 : 0 ≤ x_361.toInt := Int.le_trans hx_362.1 c363
                  refine lv_iconst (v := 0) hx hb dX12_told_104 (by decide) ?_
                  refine lv_istore_n (lv' := [(2, .int 0), (0, .ref o), (1, .int tp), (3, .int x_259)]) hx hb dX12_told_105 rfl hl (by decide) rfl (fun ls hl => ?_)
                  refine ziinc3 (n' := 3) (a' := 3) (b' := 38) (lv' := fun v9 => [(3, .int v9), (2, .int 0), (0, .ref o), (1, .int tp)]) hx hb dX12_told_106 hl (k := 3) rfl (by decide) (fun _ => rfl) (zaddK (i := x_259.toInt) (j := 3) rfl (by decide) i261.1 n345 (Int.le_refl _) (Int.le_refl _) (by decide)) (fun x_365 ls hx_365 hl => ?_)
                  refine lv_goto (tgt := 30) hx hb dX12_told_109 (by decide) ?_
                  have hl := lv_sub (l' := [(0, .ref o), (1, .int tp), (2, .int 0), (3, .int x_365)]) hl [2, 3, 1, 0] rfl
                  have hL0 : (0 : Int32).toInt = 0 := by decide
                  have hP : va_P g.1 vwCl (List.flatten [bMo g o a th hi ac 0 ba en tA fl de iD iO tU fm fk fa fc ft ff fb fi]) H := hP
                  have hD : va_D A (List.flatten [bMo g o a th hi ac 0 ba en tA fl de iD iO tU fm fk fa fc ft ff fb fi]) := hD
                  exact ih30_264 0 x_365 (by decide) ⟨(Int.le_trans (by decide) hx_365.2.1), (Int.le_trans hx_365.2.2 (by decide))⟩ (by first | omega | assumption | decide) H _ ls (zmK hx_365.1 (by decide) n345 (by decide) hk30_264)  hP hD hS (lv_sub hl [0, 1, 2, 3] rfl)
                · skip
                  have c366 : x_361.toInt < x_362.toInt := zlti (Int32.not_le.mp cb9) rfl rfl
                  have n367 : x_361.toInt ≤ 7 := zL1 (b := 8) c366 hx_362.2.1 (by decide)
                  refine lv_aload_n hx hb dX12_told_71 rfl (lv_at hl 0 rfl) ?_
                  refine va_get (D := g.1) (ci := 10) (v := .ref (a 4)) (C := RX12) (T := TX12) (N := 20) hx hb hts izRX12 hown hK hP 0 rfl rfl 7 (by decide) (hts _ k819) (fun _ h9 => h9) rfl dX12_told_72 ?_
                  refine lv_iload_n hx hb dX12_told_75 rfl (lv_at hl 3 rfl) ?_
                  refine va_iald hx hb hK hP 5 0 rfl rfl (zinK (a := 0) (b := 35) i261.1 n345 (by decide)) dX12_told_76 ?_
                  refine zg (fun x_368 => ?_)
                  refine lv_aload_n hx hb dX12_told_77 rfl (lv_at hl 0 rfl) ?_
                  refine va_get (D := g.1) (ci := 10) (v := .ref (a 4)) (C := RX12) (T := TX12) (N := 20) hx hb hts izRX12 hown hK hP 0 rfl rfl 7 (by decide) (hts _ k819) (fun _ h9 => h9) rfl dX12_told_78 ?_
                  refine lv_iload_n hx hb dX12_told_81 rfl (lv_at hl 3 rfl) ?_
                  refine lv_iconst (v := 1) hx hb dX12_told_82 (by decide) ?_
                  refine lv_iadd hx hb dX12_told_83 ?_
                  refine zg3 (zaddK (i := x_259.toInt) (j := 1) (a' := 1) (b' := 36) rfl (by decide) i261.1 n345 (Int.le_refl _) (Int.le_refl _) (by decide)) (fun x_369 hx_369 => ?_)
                  refine va_iald hx hb hK hP 5 0 rfl rfl (zinK (a := 1) (b := 36) hx_369.2.1 hx_369.2.2 (by decide)) dX12_told_84 ?_
                  refine zg (fun x_370 => ?_)
                  refine lv_icmp_eq (tgt := 104) hx hb dX12_told_85 (by decide) (fun cb9 => ?_) (fun cb9 => ?_)
                  · skip
                    have c371 : x_368.toInt = x_370.toInt := zeq cb9 rfl rfl
                    refine lv_iconst (v := 0) hx hb dX12_told_104 (by decide) ?_
                    refine lv_istore_n (lv' := [(2, .int 0), (0, .ref o), (1, .int tp), (3, .int x_259)]) hx hb dX12_told_105 rfl hl (by decide) rfl (fun ls hl => ?_)
                    refine ziinc3 (n' := 3) (a' := 3) (b' := 38) (lv' := fun v9 => [(3, .int v9), (2, .int 0), (0, .ref o), (1, .int tp)]) hx hb dX12_told_106 hl (k := 3) rfl (by decide) (fun _ => rfl) (zaddK (i := x_259.toInt) (j := 3) rfl (by decide) i261.1 n345 (Int.le_refl _) (Int.le_refl _) (by decide)) (fun x_372 ls hx_372 hl => ?_)
                    refine lv_goto (tgt := 30) hx hb dX12_told_109 (by decide) ?_
                    have hl := lv_sub (l' := [(0, .ref o), (1, .int tp), (2, .int 0), (3, .int x_372)]) hl [2, 3, 1, 0] rfl
                    have hL0 : (0 : Int32).toInt = 0 := by decide
                    have hP : va_P g.1 vwCl (List.flatten [bMo g o a th hi ac 0 ba en tA fl de iD iO tU fm fk fa fc ft ff fb fi]) H := hP
                    have hD : va_D A (List.flatten [bMo g o a th hi ac 0 ba en tA fl de iD iO tU fm fk fa fc ft ff fb fi]) := hD
                    exact ih30_264 0 x_372 (by decide) ⟨(Int.le_trans (by decide) hx_372.2.1), (Int.le_trans hx_372.2.2 (by decide))⟩ (by first | omega | assumption | decide) H _ ls (zmK hx_372.1 (by decide) n345 (by decide) hk30_264)  hP hD hS (lv_sub hl [0, 1, 2, 3] rfl)
                  · skip
                    have c373 : ¬ x_368.toInt = x_370.toInt := zne cb9 rfl rfl
                    refine lv_aload_n hx hb dX12_told_88 rfl (lv_at hl 0 rfl) ?_
                    refine va_get (D := g.1) (ci := 10) (v := .ref (a 4)) (C := RX12) (T := TX12) (N := 20) hx hb hts izRX12 hown hK hP 0 rfl rfl 7 (by decide) (hts _ k819) (fun _ h9 => h9) rfl dX12_told_89 ?_
                    refine lv_iload_n hx hb dX12_told_92 rfl (lv_at hl 3 rfl) ?_
                    refine lv_iconst (v := 2) hx hb dX12_told_93 (by decide) ?_
                    refine lv_iadd hx hb dX12_told_94 ?_
                    refine zg3 (zaddK (i := x_259.toInt) (j := 2) (a' := 2) (b' := 37) rfl (by decide) i261.1 n345 (Int.le_refl _) (Int.le_refl _) (by decide)) (fun x_374 hx_374 => ?_)
                    refine va_iald hx hb hK hP 5 0 rfl rfl (zinK (a := 2) (b := 37) hx_374.2.1 hx_374.2.2 (by decide)) dX12_told_95 ?_
                    refine zg (fun x_375 => ?_)
                    refine lv_iconst (v := 2) hx hb dX12_told_96 (by decide) ?_
                    refine lv_icmp_ge (tgt := 104) hx hb dX12_told_97 (by decide) (fun cb9 => ?_) (fun cb9 => ?_)
                    · skip
                      have c376 : 2 ≤ x_375.toInt := zle cb9 (by decide) rfl
                      have n377 : 2 ≤ x_375.toInt := Int.le_trans (Int.le_refl _) c376
                      refine lv_iconst (v := 0) hx hb dX12_told_104 (by decide) ?_
                      refine lv_istore_n (lv' := [(2, .int 0), (0, .ref o), (1, .int tp), (3, .int x_259)]) hx hb dX12_told_105 rfl hl (by decide) rfl (fun ls hl => ?_)
                      refine ziinc3 (n' := 3) (a' := 3) (b' := 38) (lv' := fun v9 => [(3, .int v9), (2, .int 0), (0, .ref o), (1, .int tp)]) hx hb dX12_told_106 hl (k := 3) rfl (by decide) (fun _ => rfl) (zaddK (i := x_259.toInt) (j := 3) rfl (by decide) i261.1 n345 (Int.le_refl _) (Int.le_refl _) (by decide)) (fun x_378 ls hx_378 hl => ?_)
                      refine lv_goto (tgt := 30) hx hb dX12_told_109 (by decide) ?_
                      have hl := lv_sub (l' := [(0, .ref o), (1, .int tp), (2, .int 0), (3, .int x_378)]) hl [2, 3, 1, 0] rfl
                      have hL0 : (0 : Int32).toInt = 0 := by decide
                      have hP : va_P g.1 vwCl (List.flatten [bMo g o a th hi ac 0 ba en tA fl de iD iO tU fm fk fa fc ft ff fb fi]) H := hP
                      have hD : va_D A (List.flatten [bMo g o a th hi ac 0 ba en tA fl de iD iO tU fm fk fa fc ft ff fb fi]) := hD
                      exact ih30_264 0 x_378 (by decide) ⟨(Int.le_trans (by decide) hx_378.2.1), (Int.le_trans hx_378.2.2 (by decide))⟩ (by first | omega | assumption | decide) H _ ls (zmK hx_378.1 (by decide) n345 (by decide) hk30_264)  hP hD hS (lv_sub hl [0, 1, 2, 3] rfl)
                    · skip
                      have c379 : x_375.toInt < 2 := zlti (Int32.not_le.mp cb9) rfl (by decide)
                      have n380 : x_375.toInt ≤ 1 := zL1 (b := 2) c379 (Int.le_refl _) (by decide)
                      refine lv_iconst (v := 1) hx hb dX12_told_100 (by decide) ?_
                      refine lv_goto (tgt := 105) hx hb dX12_told_101 (by decide) ?_
                      refine lv_istore_n (lv' := [(2, .int 1), (0, .ref o), (1, .int tp), (3, .int x_259)]) hx hb dX12_told_105 rfl hl (by decide) rfl (fun ls hl => ?_)
                      refine ziinc3 (n' := 3) (a' := 3) (b' := 38) (lv' := fun v9 => [(3, .int v9), (2, .int 1), (0, .ref o), (1, .int tp)]) hx hb dX12_told_106 hl (k := 3) rfl (by decide) (fun _ => rfl) (zaddK (i := x_259.toInt) (j := 3) rfl (by decide) i261.1 n345 (Int.le_refl _) (Int.le_refl _) (by decide)) (fun x_381 ls hx_381 hl => ?_)
                      refine lv_goto (tgt := 30) hx hb dX12_told_109 (by decide) ?_
                      have hl := lv_sub (l' := [(0, .ref o), (1, .int tp), (2, .int 1), (3, .int x_381)]) hl [2, 3, 1, 0] rfl
                      have hL1 : (1 : Int32).toInt = 1 := by decide
                      have hP : va_P g.1 vwCl (List.flatten [bMo g o a th hi ac 0 ba en tA fl de iD iO tU fm fk fa fc ft ff fb fi]) H := hP
                      have hD : va_D A (List.flatten [bMo g o a th hi ac 0 ba en tA fl de iD iO tU fm fk fa fc ft ff fb fi]) := hD
                      exact ih30_264 1 x_381 (by decide) ⟨(Int.le_trans (by decide) hx_381.2.1), (Int.le_trans hx_381.2.2 (by decide))⟩ (by first | omega | assumption | decide) H _ ls (zmK hx_381.1 (by decide) n345 (by decide) hk30_264)  hP hD hS (lv_sub hl [0, 1, 2, 3] rfl)
      have hL1 : (1 : Int32).toInt = 1 := by decide
      have hL0 : (0 : Int32).toInt = 0 := by decide
      have hP : va_P g.1 vwCl (List.flatten [bMo g o a th hi ac 0 ba en tA fl de iD iO tU fm fk fa fc ft ff fb fi]) H := hP
      have hD : va_D A (List.flatten [bMo g o a th hi ac 0 ba en tA fl de iD iO tU fm fk fa fc ft ff fb fi]) := hD
      exact LP30_263 _ 1 0 (by decide) (by decide) (by first | omega | assumption | decide) H _ ls (Nat.lt_succ_self _)  hP hD hS (lv_sub hl [0, 1, 2, 3] rfl)
set_option maxRecDepth 100000 in
set_option maxHeartbeats 4000000 in
theorem m_liars (l : Launch) (g : zG) (o : Nat) (a : Nat → Nat) (th : Int32) (hi : Int32) (ac : Int32) (tp : Int32) (ba : Int32) (en : Int32) (tA : Int32) (fl : Int32) (de : Int32) (iD : Int32) (iO : Int32) (tU : Int32) (fm : Nat → Int32) (fk : Nat → Int32) (fa : Nat → Int32) (fc : Nat → Int32) (ft : Nat → Int32) (ff : Nat → Int32) (fb : Nat → Int32) (fi : Nat → Int32) (sure : Int32) (rfm : rM fm) (htp : 0 ≤ tp.toInt ∧ tp.toInt ≤ 400) : zM' g l yX12_liars (Cond.code yX12_liars cX12_liars 5 (some .int) :: zB) ({ frames := 3, cells := 0, slots := 0, locals := 68 } : Room) [.ref o, .int sure] [bMo g o a th hi ac tp ba en tA fl de iD iO tU fm fk fa fc ft ff fb fi] (fun u : Int32 × (Nat → Int32) × Int32 => (fun (th2 : Int32) (fi2 : Nat → Int32) (q : Int32) => some (.int q)) (u.1) (u.2.1) (u.2.2)) (fun u : Int32 × (Nat → Int32) × Int32 => (fun (th2 : Int32) (fi2 : Nat → Int32) (q : Int32) => True) (u.1) (u.2.1) (u.2.2)) (fun u : Int32 × (Nat → Int32) × Int32 => (fun (th2 : Int32) (fi2 : Nat → Int32) (q : Int32) => [bMo g o a th2 hi ac 0 ba en tA fl de iD iO tU fm fk fa fc ft ff fb fi2]) (u.1) (u.2.1) (u.2.2)) := by
  refine zM'.of (cc := cX12_liars) (maxL := 5) (rt := (some .int)) (by decide) rfl (Nat.le_of_ble_eq_true rfl) ?_
  intro p e s m args below meth c A ls St hr hlocks hin hK hT hA hP hD hS hl
  obtain ⟨hx, hb, hml, hown, hts⟩ := id St
  have hl : lv_has ls 5 [(0, .ref o), (1, .int sure)] := hl
  refine lv_aload_n hx hb dX12_liars_0 rfl (lv_at hl 0 rfl) ?_
  refine mcallV' (g := g) (q0 := 0) (ci := 10) (As := []) (rest := []) St hK hT hA hP hD hS hl.1 [0] [] rfl rfl rfl (m_told l g o a th hi ac tp ba en tA fl de iD iO tU fm fk fa fc ft ff fb fi rfm htp) (cwV 0 hts (zgL (zl4 k1104 k1105 k1106 k839) k1100) rfl rfl rfl (by decide +kernel) ⟨Nat.le_of_ble_eq_true rfl, Nat.le_of_ble_eq_true rfl⟩) rfl rfl rfl rfl (Nat.le_of_ble_eq_true rfl) dX12_liars_1 ⟨(Nat.le_of_ble_eq_true rfl), (Nat.le_of_ble_eq_true rfl)⟩ (fun u_ H locs hq3 hP hD hS => ?_)
  obtain ⟨fi2_1, q_2⟩ := u_
  have hP : va_P g.1 vwCl (List.flatten [bMo g o a th hi ac 0 ba en tA fl de iD iO tU fm fk fa fc ft ff fb fi2_1]) H := hP
  have hD : va_D A (List.flatten [bMo g o a th hi ac 0 ba en tA fl de iD iO tU fm fk fa fc ft ff fb fi2_1]) := hD
  refine W.widen (k := 0) (n := 0) (Nat.le_of_ble_eq_true rfl) (Nat.le_of_ble_eq_true rfl) ?_
  refine W.eq (g2 := F0 m 4 ls [.int q_2]) rfl ?_
  refine lv_istore_n (lv' := [(2, .int q_2), (0, .ref o), (1, .int sure)]) hx hb dX12_liars_4 rfl hl (by decide) rfl (fun ls hl => ?_)
  refine lv_aload_n hx hb dX12_liars_5 rfl (lv_at hl 1 rfl) ?_
  refine lv_iload_n hx hb dX12_liars_6 rfl (lv_at hl 0 rfl) ?_
  refine lv_iconst (v := (-1)) hx hb dX12_liars_7 (by decide) ?_
  refine lv_icmp_ne (tgt := 15) hx hb dX12_liars_8 (by decide) (fun cb9 => ?_) (fun cb9 => ?_)
  · skip
    have c4 : ¬ q_2.toInt = (-1) := zne cb9 rfl (by decide)
    refine lv_iconst (v := 0) hx hb dX12_liars_15 (by decide) ?_
    refine va_put (D := g.1) (ci := 10) (v := .int 0) (ty := .int) (C := RX12) (T := TX12) (N := 20) hx hb hts izRX12 tyX12 tyX12_ok nmX12 hown hK hP hD hS 0 rfl rfl 0 (by decide) (hts _ k825) (fun _ h9 => h9) rfl (by decide +kernel) rfl rfl (Nat.le_of_ble_eq_true rfl) dX12_liars_16 (fun H locs hP hD hS => ?_)
    have hP : va_P g.1 vwCl (List.flatten [bMo g o a 0 hi ac 0 ba en tA fl de iD iO tU fm fk fa fc ft ff fb fi2_1]) H := hP
    have hD : va_D A (List.flatten [bMo g o a 0 hi ac 0 ba en tA fl de iD iO tU fm fk fa fc ft ff fb fi2_1]) := hD
    refine lv_aload_n hx hb dX12_liars_19 rfl (lv_at hl 1 rfl) ?_
    refine va_get (D := g.1) (ci := 10) (v := .int 0) (C := RX12) (T := TX12) (N := 20) hx hb hts izRX12 hown hK hP 0 rfl rfl 0 (by decide) (hts _ k825) (fun _ h9 => h9) rfl dX12_liars_20 ?_
    refine lv_if_gt (tgt := 30) hx hb dX12_liars_23 (by decide) (fun c5 => absurd c5 (by decide)) (fun _ => ?_)
    refine lv_iload_n hx hb dX12_liars_26 rfl (lv_at hl 2 rfl) ?_
    refine lv_if_ne (tgt := 43) hx hb dX12_liars_27 (by decide) (fun cb9 => ?_) (fun cb9 => ?_)
    · skip
      have c6 : ¬ sure.toInt = 0 := zne cb9 rfl (by decide)
      refine lv_iload_n hx hb dX12_liars_43 rfl (lv_at hl 0 rfl) ?_
      refine lv_if_ne (tgt := 51) hx hb dX12_liars_44 (by decide) (fun cb9 => ?_) (fun cb9 => ?_)
      · skip
        have c7 : ¬ q_2.toInt = 0 := zne cb9 rfl (by decide)
        refine lv_iconst (v := 1) hx hb dX12_liars_51 (by decide) ?_
        refine lv_aload_n hx hb dX12_liars_52 rfl (lv_at hl 1 rfl) ?_
        refine va_get (D := g.1) (ci := 10) (v := .ref (a 0)) (C := RX12) (T := TX12) (N := 20) hx hb hts izRX12 hown hK hP 0 rfl rfl 1 (by decide) (hts _ k815) (fun _ h9 => h9) rfl dX12_liars_53 ?_
        refine lv_iconst (v := 3) hx hb dX12_liars_56 (by decide) ?_
        refine va_iald hx hb hK hP 1 0 rfl rfl (zin rfl) dX12_liars_57 ?_
        refine zgq (r := fm 3) rfl (rM3 rfm) (fun x_8 hx_8 => ?_)
        refine lv_ishl hx hb dX12_liars_58 ?_
        refine zgb (zshl1 (j := x_8.toInt) rfl 8 256 (by decide) (by decide) ⟨hx_8.1, hx_8.2.1⟩) (fun x_9 hx_9 => ?_)
        refine lv_iconst (v := 1) hx hb dX12_liars_59 (by decide) ?_
        refine lv_isub hx hb dX12_liars_60 ?_
        refine zg3 (zsubK (i := x_9.toInt) (j := 1) (a' := 0) (b' := 255) rfl (by decide) hx_9.1 hx_9.2 (Int.le_refl _) (Int.le_refl _) (by decide)) (fun x_10 hx_10 => ?_)
        refine lv_istore_n (lv' := [(3, .int x_10), (2, .int q_2), (0, .ref o), (1, .int sure)]) hx hb dX12_liars_61 rfl hl (by decide) rfl (fun ls hl => ?_)
        refine lv_iconst (v := 0) hx hb dX12_liars_62 (by decide) ?_
        refine lv_istore (lv' := [(4, .int 0), (3, .int x_10), (2, .int q_2), (0, .ref o), (1, .int sure)]) hx hb dX12_liars_63 hl (by decide) rfl (fun ls hl => ?_)
        have hl := lv_sub (l' := [(0, .ref o), (1, .int sure), (2, .int q_2), (3, .int x_10), (4, .int 0)]) hl [3, 4, 2, 1, 0] rfl
        have LP65_14 : ∀ (kf : Nat) (x_11 : Int32) (x_12 : Int32), (0 ≤ x_12.toInt ∧ x_12.toInt ≤ 256) → ∀ (H : Heap) (locs : List Loc) (ls : Array Slot), ((257 - x_12.toInt).toNat) < kf → va_P g.1 vwCl (List.flatten [bMo g o a 0 hi ac 0 ba en tA fl de iD iO tU fm fk fa fc ft ff fb fi2_1]) H → va_D A (List.flatten [bMo g o a 0 hi ac 0 ba en tA fl de iD iO tU fm fk fa fc ft ff fb fi2_1]) → va_S A s.heap H locs → lv_has ls 5 [(0, .ref o), (1, .int sure), (2, .int q_2), (3, .int x_11), (4, .int x_12)] → W p l e ({ frames := 3, cells := 0, slots := 0, locals := 68 } : Room) s m args below meth c H locs (0) (0) (zF g (fun u : Int32 × (Nat → Int32) × Int32 => (fun (th2 : Int32) (fi2 : Nat → Int32) (q : Int32) => some (.int q)) (u.1) (u.2.1) (u.2.2)) (fun u : Int32 × (Nat → Int32) × Int32 => (fun (th2 : Int32) (fi2 : Nat → Int32) (q : Int32) => True) (u.1) (u.2.1) (u.2.2)) (fun u : Int32 × (Nat → Int32) × Int32 => (fun (th2 : Int32) (fi2 : Nat → Int32) (q : Int32) => [bMo g o a th2 hi ac 0 ba en tA fl de iD iO tU fm fk fa fc ft ff fb fi2]) (u.1) (u.2.1) (u.2.2)) ({ frames := 3, cells := 0, slots := 0, locals := 68 } : Room) below args s A) (F0 m 65 ls []) := by
          intro kf
          induction kf with
          | zero => intro x_11 x_12 i13 H locs ls hk; exact absurd hk (Nat.not_lt_zero _)
          | succ kf ih65_15 =>
            intro x_11 x_12 i13 H locs ls hk65_15 hP hD hS hl
            refine lv_iload hx hb dX12_liars_65 (lv_at hl 4 rfl) ?_
            refine lv_iconst (v := 1) hx hb dX12_liars_67 (by decide) ?_
            refine lv_aload_n hx hb dX12_liars_68 rfl (lv_at hl 0 rfl) ?_
            refine va_get (D := g.1) (ci := 10) (v := .ref (a 0)) (C := RX12) (T := TX12) (N := 20) hx hb hts izRX12 hown hK hP 0 rfl rfl 1 (by decide) (hts _ k815) (fun _ h9 => h9) rfl dX12_liars_69 ?_
            refine lv_iconst (v := 3) hx hb dX12_liars_72 (by decide) ?_
            refine va_iald hx hb hK hP 1 0 rfl rfl (zin rfl) dX12_liars_73 ?_
            refine zgq (r := fm 3) rfl (rM3 rfm) (fun x_16 hx_16 => ?_)
            refine lv_ishl hx hb dX12_liars_74 ?_
            refine zgb (zshl1 (j := x_16.toInt) rfl 8 256 (by decide) (by decide) ⟨hx_16.1, hx_16.2.1⟩) (fun x_17 hx_17 => ?_)
            refine lv_icmp_ge (tgt := 99) hx hb dX12_liars_75 (by decide) (fun cb9 => ?_) (fun cb9 => ?_)
            · skip
              have c18 : x_17.toInt ≤ x_12.toInt := zle cb9 rfl rfl
              have n19 : 1 ≤ x_12.toInt := Int.le_trans hx_17.1 c18
              refine lv_iload_n hx hb dX12_liars_99 rfl (lv_at hl 3 rfl) ?_
              have hP : va_P g.1 vwCl (List.flatten [bMo g o a 0 hi ac 0 ba en tA fl de iD iO tU fm fk fa fc ft ff fb fi2_1]) H := hP
              have hD : va_D A (List.flatten [bMo g o a 0 hi ac 0 ba en tA fl de iD iO tU fm fk fa fc ft ff fb fi2_1]) := hD
              exact mret_i hx hb hr hlocks hS (Nat.le_of_ble_eq_true rfl) (Nat.le_of_ble_eq_true rfl) dX12_liars_100 ((0 : Int32), fi2_1, x_11) rfl trivial hP hD
            · skip
              have c20 : x_12.toInt < x_17.toInt := zlti (Int32.not_le.mp cb9) rfl rfl
              have n21 : x_12.toInt ≤ 255 := zL1 (b := 256) c20 hx_17.2 (by decide)
              refine lv_aload_n hx hb dX12_liars_78 rfl (lv_at hl 0 rfl) ?_
              refine va_get (D := g.1) (ci := 10) (v := .ref (a 7)) (C := RX12) (T := TX12) (N := 20) hx hb hts izRX12 hown hK hP 0 rfl rfl 19 (by decide) (hts _ k823) (fun _ h9 => h9) rfl dX12_liars_79 ?_
              refine lv_iload hx hb dX12_liars_82 (lv_at hl 4 rfl) ?_
              refine va_zald hx hb hK hP 8 1 rfl rfl (zinK (a := 0) (b := 255) i13.1 n21 (by decide)) dX12_liars_84 ?_
              refine zg (fun x_22 => ?_)
              refine lv_if_eq (tgt := 93) hx hb dX12_liars_85 (by decide) (fun cb9 => ?_) (fun cb9 => ?_)
              · skip
                have c23 : x_22.toInt = 0 := zeq cb9 rfl (by decide)
                have n24 : 0 ≤ x_22.toInt := Int.le_trans (Int.le_refl _) (Int.le_of_eq c23.symm)
                have n25 : x_22.toInt ≤ 0 := Int.le_trans (Int.le_of_eq c23) (Int.le_refl _)
                refine ziinc3 (n' := 1) (a' := 1) (b' := 256) (lv' := fun v9 => [(4, .int v9), (0, .ref o), (1, .int sure), (2, .int q_2), (3, .int x_11)]) hx hb dX12_liars_93 hl (k := 4) rfl (by decide) (fun _ => rfl) (zaddK (i := x_12.toInt) (j := 1) rfl (by decide) i13.1 n21 (Int.le_refl _) (Int.le_refl _) (by decide)) (fun x_26 ls hx_26 hl => ?_)
                refine lv_goto (tgt := 65) hx hb dX12_liars_96 (by decide) ?_
                have hl := lv_sub (l' := [(0, .ref o), (1, .int sure), (2, .int q_2), (3, .int x_11), (4, .int x_26)]) hl [1, 2, 3, 4, 0] rfl
                have hP : va_P g.1 vwCl (List.flatten [bMo g o a 0 hi ac 0 ba en tA fl de iD iO tU fm fk fa fc ft ff fb fi2_1]) H := hP
                have hD : va_D A (List.flatten [bMo g o a 0 hi ac 0 ba en tA fl de iD iO tU fm fk fa fc ft ff fb fi2_1]) := hD
                exact ih65_15 x_11 x_26 ⟨(Int.le_trans (by decide) hx_26.2.1), hx_26.2.2⟩ H _ ls (zmK hx_26.1 (by decide) n21 (by decide) hk65_15)  hP hD hS (lv_sub hl [0, 1, 2, 3, 4] rfl)
              · skip
                have c27 : ¬ x_22.toInt = 0 := zne cb9 rfl (by decide)
                refine lv_iload_n hx hb dX12_liars_88 rfl (lv_at hl 3 rfl) ?_
                refine lv_iload hx hb dX12_liars_89 (lv_at hl 4 rfl) ?_
                refine lv_iand hx hb dX12_liars_91 ?_
                refine zg (fun x_28 => ?_)
                refine lv_istore_n (lv' := [(3, .int x_28), (0, .ref o), (1, .int sure), (2, .int q_2), (4, .int x_12)]) hx hb dX12_liars_92 rfl hl (by decide) rfl (fun ls hl => ?_)
                refine ziinc3 (n' := 1) (a' := 1) (b' := 256) (lv' := fun v9 => [(4, .int v9), (3, .int x_28), (0, .ref o), (1, .int sure), (2, .int q_2)]) hx hb dX12_liars_93 hl (k := 4) rfl (by decide) (fun _ => rfl) (zaddK (i := x_12.toInt) (j := 1) rfl (by decide) i13.1 n21 (Int.le_refl _) (Int.le_refl _) (by decide)) (fun x_29 ls hx_29 hl => ?_)
                refine lv_goto (tgt := 65) hx hb dX12_liars_96 (by decide) ?_
                have hl := lv_sub (l' := [(0, .ref o), (1, .int sure), (2, .int q_2), (3, .int x_28), (4, .int x_29)]) hl [2, 3, 4, 1, 0] rfl
                have hP : va_P g.1 vwCl (List.flatten [bMo g o a 0 hi ac 0 ba en tA fl de iD iO tU fm fk fa fc ft ff fb fi2_1]) H := hP
                have hD : va_D A (List.flatten [bMo g o a 0 hi ac 0 ba en tA fl de iD iO tU fm fk fa fc ft ff fb fi2_1]) := hD
                exact ih65_15 x_28 x_29 ⟨(Int.le_trans (by decide) hx_29.2.1), hx_29.2.2⟩ H _ ls (zmK hx_29.1 (by decide) n21 (by decide) hk65_15)  hP hD hS (lv_sub hl [0, 1, 2, 3, 4] rfl)
        have hP : va_P g.1 vwCl (List.flatten [bMo g o a 0 hi ac 0 ba en tA fl de iD iO tU fm fk fa fc ft ff fb fi2_1]) H := hP
        have hD : va_D A (List.flatten [bMo g o a 0 hi ac 0 ba en tA fl de iD iO tU fm fk fa fc ft ff fb fi2_1]) := hD
        exact LP65_14 _ x_10 0 (by decide) H _ ls (Nat.lt_succ_self _)  hP hD hS (lv_sub hl [0, 1, 2, 3, 4] rfl)
      · skip
        have c30 : q_2.toInt = 0 := zeq cb9 rfl (by decide)
        have n31 : 0 ≤ q_2.toInt := Int.le_trans (Int.le_refl _) (Int.le_of_eq c30.symm)
        have n32 : q_2.toInt ≤ 0 := Int.le_trans (Int.le_of_eq c30) (Int.le_refl _)
        refine lv_iconst (v := 0) hx hb dX12_liars_47 (by decide) ?_
        refine lv_goto (tgt := 61) hx hb dX12_liars_48 (by decide) ?_
        refine lv_istore_n (lv' := [(3, .int 0), (2, .int q_2), (0, .ref o), (1, .int sure)]) hx hb dX12_liars_61 rfl hl (by decide) rfl (fun ls hl => ?_)
        refine lv_iconst (v := 0) hx hb dX12_liars_62 (by decide) ?_
        refine lv_istore (lv' := [(4, .int 0), (3, .int 0), (2, .int q_2), (0, .ref o), (1, .int sure)]) hx hb dX12_liars_63 hl (by decide) rfl (fun ls hl => ?_)
        have hl := lv_sub (l' := [(0, .ref o), (1, .int sure), (2, .int q_2), (3, .int 0), (4, .int 0)]) hl [3, 4, 2, 1, 0] rfl
        have LP65_36 : ∀ (kf : Nat) (x_33 : Int32) (x_34 : Int32), (0 ≤ x_34.toInt ∧ x_34.toInt ≤ 256) → ∀ (H : Heap) (locs : List Loc) (ls : Array Slot), ((257 - x_34.toInt).toNat) < kf → va_P g.1 vwCl (List.flatten [bMo g o a 0 hi ac 0 ba en tA fl de iD iO tU fm fk fa fc ft ff fb fi2_1]) H → va_D A (List.flatten [bMo g o a 0 hi ac 0 ba en tA fl de iD iO tU fm fk fa fc ft ff fb fi2_1]) → va_S A s.heap H locs → lv_has ls 5 [(0, .ref o), (1, .int sure), (2, .int q_2), (3, .int x_33), (4, .int x_34)] → W p l e ({ frames := 3, cells := 0, slots := 0, locals := 68 } : Room) s m args below meth c H locs (0) (0) (zF g (fun u : Int32 × (Nat → Int32) × Int32 => (fun (th2 : Int32) (fi2 : Nat → Int32) (q : Int32) => some (.int q)) (u.1) (u.2.1) (u.2.2)) (fun u : Int32 × (Nat → Int32) × Int32 => (fun (th2 : Int32) (fi2 : Nat → Int32) (q : Int32) => True) (u.1) (u.2.1) (u.2.2)) (fun u : Int32 × (Nat → Int32) × Int32 => (fun (th2 : Int32) (fi2 : Nat → Int32) (q : Int32) => [bMo g o a th2 hi ac 0 ba en tA fl de iD iO tU fm fk fa fc ft ff fb fi2]) (u.1) (u.2.1) (u.2.2)) ({ frames := 3, cells := 0, slots := 0, locals := 68 } : Room) below args s A) (F0 m 65 ls []) := by
          intro kf
          induction kf with
          | zero => intro x_33 x_34 i35 H locs ls hk; exact absurd hk (Nat.not_lt_zero _)
          | succ kf ih65_37 =>
            intro x_33 x_34 i35 H locs ls hk65_37 hP hD hS hl
            refine lv_iload hx hb dX12_liars_65 (lv_at hl 4 rfl) ?_
            refine lv_iconst (v := 1) hx hb dX12_liars_67 (by decide) ?_
            refine lv_aload_n hx hb dX12_liars_68 rfl (lv_at hl 0 rfl) ?_
            refine va_get (D := g.1) (ci := 10) (v := .ref (a 0)) (C := RX12) (T := TX12) (N := 20) hx hb hts izRX12 hown hK hP 0 rfl rfl 1 (by decide) (hts _ k815) (fun _ h9 => h9) rfl dX12_liars_69 ?_
            refine lv_iconst (v := 3) hx hb dX12_liars_72 (by decide) ?_
            refine va_iald hx hb hK hP 1 0 rfl rfl (zin rfl) dX12_liars_73 ?_
            refine zgq (r := fm 3) rfl (rM3 rfm) (fun x_38 hx_38 => ?_)
            refine lv_ishl hx hb dX12_liars_74 ?_
            refine zgb (zshl1 (j := x_38.toInt) rfl 8 256 (by decide) (by decide) ⟨hx_38.1, hx_38.2.1⟩) (fun x_39 hx_39 => ?_)
            refine lv_icmp_ge (tgt := 99) hx hb dX12_liars_75 (by decide) (fun cb9 => ?_) (fun cb9 => ?_)
            · skip
              have c40 : x_39.toInt ≤ x_34.toInt := zle cb9 rfl rfl
              have n41 : 1 ≤ x_34.toInt := Int.le_trans hx_39.1 c40
              refine lv_iload_n hx hb dX12_liars_99 rfl (lv_at hl 3 rfl) ?_
              have hP : va_P g.1 vwCl (List.flatten [bMo g o a 0 hi ac 0 ba en tA fl de iD iO tU fm fk fa fc ft ff fb fi2_1]) H := hP
              have hD : va_D A (List.flatten [bMo g o a 0 hi ac 0 ba en tA fl de iD iO tU fm fk fa fc ft ff fb fi2_1]) := hD
              exact mret_i hx hb hr hlocks hS (Nat.le_of_ble_eq_true rfl) (Nat.le_of_ble_eq_true rfl) dX12_liars_100 ((0 : Int32), fi2_1, x_33) rfl trivial hP hD
            · skip
              have c42 : x_34.toInt < x_39.toInt := zlti (Int32.not_le.mp cb9) rfl rfl
              have n43 : x_34.toInt ≤ 255 := zL1 (b := 256) c42 hx_39.2 (by decide)
              refine lv_aload_n hx hb dX12_liars_78 rfl (lv_at hl 0 rfl) ?_
              refine va_get (D := g.1) (ci := 10) (v := .ref (a 7)) (C := RX12) (T := TX12) (N := 20) hx hb hts izRX12 hown hK hP 0 rfl rfl 19 (by decide) (hts _ k823) (fun _ h9 => h9) rfl dX12_liars_79 ?_
              refine lv_iload hx hb dX12_liars_82 (lv_at hl 4 rfl) ?_
              refine va_zald hx hb hK hP 8 1 rfl rfl (zinK (a := 0) (b := 255) i35.1 n43 (by decide)) dX12_liars_84 ?_
              refine zg (fun x_44 => ?_)
              refine lv_if_eq (tgt := 93) hx hb dX12_liars_85 (by decide) (fun cb9 => ?_) (fun cb9 => ?_)
              · skip
                have c45 : x_44.toInt = 0 := zeq cb9 rfl (by decide)
                have n46 : 0 ≤ x_44.toInt := Int.le_trans (Int.le_refl _) (Int.le_of_eq c45.symm)
                have n47 : x_44.toInt ≤ 0 := Int.le_trans (Int.le_of_eq c45) (Int.le_refl _)
                refine ziinc3 (n' := 1) (a' := 1) (b' := 256) (lv' := fun v9 => [(4, .int v9), (0, .ref o), (1, .int sure), (2, .int q_2), (3, .int x_33)]) hx hb dX12_liars_93 hl (k := 4) rfl (by decide) (fun _ => rfl) (zaddK (i := x_34.toInt) (j := 1) rfl (by decide) i35.1 n43 (Int.le_refl _) (Int.le_refl _) (by decide)) (fun x_48 ls hx_48 hl => ?_)
                refine lv_goto (tgt := 65) hx hb dX12_liars_96 (by decide) ?_
                have hl := lv_sub (l' := [(0, .ref o), (1, .int sure), (2, .int q_2), (3, .int x_33), (4, .int x_48)]) hl [1, 2, 3, 4, 0] rfl
                have hP : va_P g.1 vwCl (List.flatten [bMo g o a 0 hi ac 0 ba en tA fl de iD iO tU fm fk fa fc ft ff fb fi2_1]) H := hP
                have hD : va_D A (List.flatten [bMo g o a 0 hi ac 0 ba en tA fl de iD iO tU fm fk fa fc ft ff fb fi2_1]) := hD
                exact ih65_37 x_33 x_48 ⟨(Int.le_trans (by decide) hx_48.2.1), hx_48.2.2⟩ H _ ls (zmK hx_48.1 (by decide) n43 (by decide) hk65_37)  hP hD hS (lv_sub hl [0, 1, 2, 3, 4] rfl)
              · skip
                have c49 : ¬ x_44.toInt = 0 := zne cb9 rfl (by decide)
                refine lv_iload_n hx hb dX12_liars_88 rfl (lv_at hl 3 rfl) ?_
                refine lv_iload hx hb dX12_liars_89 (lv_at hl 4 rfl) ?_
                refine lv_iand hx hb dX12_liars_91 ?_
                refine zg (fun x_50 => ?_)
                refine lv_istore_n (lv' := [(3, .int x_50), (0, .ref o), (1, .int sure), (2, .int q_2), (4, .int x_34)]) hx hb dX12_liars_92 rfl hl (by decide) rfl (fun ls hl => ?_)
                refine ziinc3 (n' := 1) (a' := 1) (b' := 256) (lv' := fun v9 => [(4, .int v9), (3, .int x_50), (0, .ref o), (1, .int sure), (2, .int q_2)]) hx hb dX12_liars_93 hl (k := 4) rfl (by decide) (fun _ => rfl) (zaddK (i := x_34.toInt) (j := 1) rfl (by decide) i35.1 n43 (Int.le_refl _) (Int.le_refl _) (by decide)) (fun x_51 ls hx_51 hl => ?_)
                refine lv_goto (tgt := 65) hx hb dX12_liars_96 (by decide) ?_
                have hl := lv_sub (l' := [(0, .ref o), (1, .int sure), (2, .int q_2), (3, .int x_50), (4, .int x_51)]) hl [2, 3, 4, 1, 0] rfl
                have hP : va_P g.1 vwCl (List.flatten [bMo g o a 0 hi ac 0 ba en tA fl de iD iO tU fm fk fa fc ft ff fb fi2_1]) H := hP
                have hD : va_D A (List.flatten [bMo g o a 0 hi ac 0 ba en tA fl de iD iO tU fm fk fa fc ft ff fb fi2_1]) := hD
                exact ih65_37 x_50 x_51 ⟨(Int.le_trans (by decide) hx_51.2.1), hx_51.2.2⟩ H _ ls (zmK hx_51.1 (by decide) n43 (by decide) hk65_37)  hP hD hS (lv_sub hl [0, 1, 2, 3, 4] rfl)
        have hP : va_P g.1 vwCl (List.flatten [bMo g o a 0 hi ac 0 ba en tA fl de iD iO tU fm fk fa fc ft ff fb fi2_1]) H := hP
        have hD : va_D A (List.flatten [bMo g o a 0 hi ac 0 ba en tA fl de iD iO tU fm fk fa fc ft ff fb fi2_1]) := hD
        exact LP65_36 _ 0 0 (by decide) H _ ls (Nat.lt_succ_self _)  hP hD hS (lv_sub hl [0, 1, 2, 3, 4] rfl)
    · skip
      have c52 : sure.toInt = 0 := zeq cb9 rfl (by decide)
      have n53 : 0 ≤ sure.toInt := Int.le_trans (Int.le_refl _) (Int.le_of_eq c52.symm)
      have n54 : sure.toInt ≤ 0 := Int.le_trans (Int.le_of_eq c52) (Int.le_refl _)
      refine lv_aload_n hx hb dX12_liars_30 rfl (lv_at hl 1 rfl) ?_
      refine va_get (D := g.1) (ci := 10) (v := .int 0) (C := RX12) (T := TX12) (N := 20) hx hb hts izRX12 hown hK hP 0 rfl rfl 0 (by decide) (hts _ k825) (fun _ h9 => h9) rfl dX12_liars_31 ?_
      refine lv_if_le (tgt := 41) hx hb dX12_liars_34 (by decide) (fun _ => ?_) (fun c55 => absurd (by decide) c55)
      refine lv_iload_n hx hb dX12_liars_41 rfl (lv_at hl 0 rfl) ?_
      have hP : va_P g.1 vwCl (List.flatten [bMo g o a 0 hi ac 0 ba en tA fl de iD iO tU fm fk fa fc ft ff fb fi2_1]) H := hP
      have hD : va_D A (List.flatten [bMo g o a 0 hi ac 0 ba en tA fl de iD iO tU fm fk fa fc ft ff fb fi2_1]) := hD
      exact mret_i hx hb hr hlocks hS (Nat.le_of_ble_eq_true rfl) (Nat.le_of_ble_eq_true rfl) dX12_liars_42 ((0 : Int32), fi2_1, q_2) rfl trivial hP hD
  · skip
    have c56 : q_2.toInt = (-1) := zeq cb9 rfl (by decide)
    have n57 : (-1) ≤ q_2.toInt := Int.le_trans (Int.le_refl _) (Int.le_of_eq c56.symm)
    have n58 : q_2.toInt ≤ (-1) := Int.le_trans (Int.le_of_eq c56) (Int.le_refl _)
    refine lv_iconst (v := 1) hx hb dX12_liars_11 (by decide) ?_
    refine lv_goto (tgt := 16) hx hb dX12_liars_12 (by decide) ?_
    refine va_put (D := g.1) (ci := 10) (v := .int 1) (ty := .int) (C := RX12) (T := TX12) (N := 20) hx hb hts izRX12 tyX12 tyX12_ok nmX12 hown hK hP hD hS 0 rfl rfl 0 (by decide) (hts _ k825) (fun _ h9 => h9) rfl (by decide +kernel) rfl rfl (Nat.le_of_ble_eq_true rfl) dX12_liars_16 (fun H locs hP hD hS => ?_)
    have hP : va_P g.1 vwCl (List.flatten [bMo g o a 1 hi ac 0 ba en tA fl de iD iO tU fm fk fa fc ft ff fb fi2_1]) H := hP
    have hD : va_D A (List.flatten [bMo g o a 1 hi ac 0 ba en tA fl de iD iO tU fm fk fa fc ft ff fb fi2_1]) := hD
    refine lv_aload_n hx hb dX12_liars_19 rfl (lv_at hl 1 rfl) ?_
    refine va_get (D := g.1) (ci := 10) (v := .int 1) (C := RX12) (T := TX12) (N := 20) hx hb hts izRX12 hown hK hP 0 rfl rfl 0 (by decide) (hts _ k825) (fun _ h9 => h9) rfl dX12_liars_20 ?_
    refine lv_if_gt (tgt := 30) hx hb dX12_liars_23 (by decide) (fun _ => ?_) (fun c59 => absurd (by decide) c59)
    refine lv_aload_n hx hb dX12_liars_30 rfl (lv_at hl 1 rfl) ?_
    refine va_get (D := g.1) (ci := 10) (v := .int 1) (C := RX12) (T := TX12) (N := 20) hx hb hts izRX12 hown hK hP 0 rfl rfl 0 (by decide) (hts _ k825) (fun _ h9 => h9) rfl dX12_liars_31 ?_
    refine lv_if_le (tgt := 41) hx hb dX12_liars_34 (by decide) (fun c60 => absurd c60 (by decide)) (fun _ => ?_)
    refine lv_iconst (v := 0) hx hb dX12_liars_37 (by decide) ?_
    refine lv_goto (tgt := 42) hx hb dX12_liars_38 (by decide) ?_
    have hP : va_P g.1 vwCl (List.flatten [bMo g o a 1 hi ac 0 ba en tA fl de iD iO tU fm fk fa fc ft ff fb fi2_1]) H := hP
    have hD : va_D A (List.flatten [bMo g o a 1 hi ac 0 ba en tA fl de iD iO tU fm fk fa fc ft ff fb fi2_1]) := hD
    exact mret_i hx hb hr hlocks hS (Nat.le_of_ble_eq_true rfl) (Nat.le_of_ble_eq_true rfl) dX12_liars_42 ((1 : Int32), fi2_1, (0 : Int32)) rfl trivial hP hD
