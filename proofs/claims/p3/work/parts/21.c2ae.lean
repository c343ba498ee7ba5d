set_option maxRecDepth 100000 in
set_option maxHeartbeats 4000000 in
theorem c_t_step (l : Launch) (g : zG) (ta : Nat) (ab : Nat) (sz : Int32) (ln : Int32) (kd : Int32) (bg : Int32) (nx : Int32) (ft : Int32) (fb : Nat → Int32) (hln : 0 ≤ ln.toInt ∧ ln.toInt ≤ 400) (hnx : 0 ≤ nx.toInt ∧ nx.toInt ≤ 400) : zM' g l yX6_step (Cond.code yX6_step cX6_step 2 none :: zB) ({ frames := 0, cells := 0, slots := 0, locals := 0 } : Room) [.ref ta] [bTape g ta ab sz ln kd bg nx ft fb] (fun u : Int32 × Int32 × Int32 => (fun (kd2 : Int32) (bg2 : Int32) (nx2 : Int32) => none) (u.1) (u.2.1) (u.2.2)) (fun u : Int32 × Int32 × Int32 => (fun (kd2 : Int32) (bg2 : Int32) (nx2 : Int32) => (0 ≤ nx2.toInt ∧ nx2.toInt ≤ 400) ∧ (0 ≤ bg2.toInt ∧ bg2.toInt ≤ 400) ∧ (zKd kd2.toInt bg2.toInt nx2.toInt)) (u.1) (u.2.1) (u.2.2)) (fun u : Int32 × Int32 × Int32 => (fun (kd2 : Int32) (bg2 : Int32) (nx2 : Int32) => [bTape g ta ab sz ln kd2 bg2 nx2 ft fb]) (u.1) (u.2.1) (u.2.2)) := by
  refine zM'.of (cc := cX6_step) (maxL := 2) (rt := none) (by decide) rfl (Nat.le_of_ble_eq_true rfl) ?_
  intro p e s m args below meth c A ls St hr hlocks hin hK hT hA hP hD hS hl
  obtain ⟨hx, hb, hml, hown, hts⟩ := id St
  have hl : lv_has ls 2 [(0, .ref ta)] := hl
  have LP0_3 : ∀ (kf : Nat) (x_1 : Int32), (0 ≤ x_1.toInt ∧ x_1.toInt ≤ 400) → ∀ (H : Heap) (locs : List Loc) (ls : Array Slot), ((ln.toInt - x_1.toInt).toNat) < kf → va_P g.1 vwCl (List.flatten [bTape g ta ab sz ln kd bg x_1 ft fb]) H → va_D A (List.flatten [bTape g ta ab sz ln kd bg x_1 ft fb]) → va_S A s.heap H locs → lv_has ls 2 [(0, .ref ta)] → W p l e ({ frames := 0, cells := 0, slots := 0, locals := 0 } : Room) s m args below meth c H locs (0) (0) (zF g (fun u : Int32 × Int32 × Int32 => (fun (kd2 : Int32) (bg2 : Int32) (nx2 : Int32) => none) (u.1) (u.2.1) (u.2.2)) (fun u : Int32 × Int32 × Int32 => (fun (kd2 : Int32) (bg2 : Int32) (nx2 : Int32) => (0 ≤ nx2.toInt ∧ nx2.toInt ≤ 400) ∧ (0 ≤ bg2.toInt ∧ bg2.toInt ≤ 400) ∧ (zKd kd2.toInt bg2.toInt nx2.toInt)) (u.1) (u.2.1) (u.2.2)) (fun u : Int32 × Int32 × Int32 => (fun (kd2 : Int32) (bg2 : Int32) (nx2 : Int32) => [bTape g ta ab sz ln kd2 bg2 nx2 ft fb]) (u.1) (u.2.1) (u.2.2)) ({ frames := 0, cells := 0, slots := 0, locals := 0 } : Room) below args s A) (F0 m 0 ls []) := by
    intro kf
    induction kf with
    | zero => intro x_1 i2 H locs ls hk; exact absurd hk (Nat.not_lt_zero _)
    | succ kf ih0_4 =>
      intro x_1 i2 H locs ls hk0_4 hP hD hS hl
      refine lv_aload_n hx hb dX6_step_0 rfl (lv_at hl 0 rfl) ?_
      refine va_get (D := g.1) (ci := 6) (v := .int x_1) (C := RX6) (T := TX6) (N := 7) hx hb hts izRX6 hown hK hP 0 rfl rfl 5 (by decide) (hts _ k259) (fun _ h9 => h9) rfl dX6_step_1 ?_
      refine lv_aload_n hx hb dX6_step_4 rfl (lv_at hl 0 rfl) ?_
      refine va_get (D := g.1) (ci := 6) (v := .int ln) (C := RX6) (T := TX6) (N := 7) hx hb hts izRX6 hown hK hP 0 rfl rfl 2 (by decide) (hts _ k272) (fun _ h9 => h9) rfl dX6_step_5 ?_
      refine lv_icmp_ge (tgt := 38) hx hb dX6_step_8 (by decide) (fun cb9 => ?_) (fun cb9 => ?_)
      · skip
        have c5 : ln.toInt ≤ x_1.toInt := zle cb9 rfl rfl
        refine lv_aload_n hx hb dX6_step_38 rfl (lv_at hl 0 rfl) ?_
        refine lv_aload_n hx hb dX6_step_39 rfl (lv_at hl 0 rfl) ?_
        refine va_get (D := g.1) (ci := 6) (v := .int x_1) (C := RX6) (T := TX6) (N := 7) hx hb hts izRX6 hown hK hP 0 rfl rfl 5 (by decide) (hts _ k259) (fun _ h9 => h9) rfl dX6_step_40 ?_
        refine va_put (D := g.1) (ci := 6) (v := .int x_1) (ty := .int) (C := RX6) (T := TX6) (N := 7) hx hb hts izRX6 tyX6 tyX6_ok nmX6 hown hK hP hD hS 0 rfl rfl 4 (by decide) (hts _ k260) (fun _ h9 => h9) rfl (by decide +kernel) rfl rfl (Nat.le_of_ble_eq_true rfl) dX6_step_43 (fun H locs hP hD hS => ?_)
        have hP : va_P g.1 vwCl (List.flatten [bTape g ta ab sz ln kd x_1 x_1 ft fb]) H := hP
        have hD : va_D A (List.flatten [bTape g ta ab sz ln kd x_1 x_1 ft fb]) := hD
        refine lv_aload_n hx hb dX6_step_46 rfl (lv_at hl 0 rfl) ?_
        refine va_get (D := g.1) (ci := 6) (v := .int x_1) (C := RX6) (T := TX6) (N := 7) hx hb hts izRX6 hown hK hP 0 rfl rfl 5 (by decide) (hts _ k259) (fun _ h9 => h9) rfl dX6_step_47 ?_
        refine lv_aload_n hx hb dX6_step_50 rfl (lv_at hl 0 rfl) ?_
        refine va_get (D := g.1) (ci := 6) (v := .int ln) (C := RX6) (T := TX6) (N := 7) hx hb hts izRX6 hown hK hP 0 rfl rfl 2 (by decide) (hts _ k272) (fun _ h9 => h9) rfl dX6_step_51 ?_
        refine lv_icmp_lt (tgt := 63) hx hb dX6_step_54 (by decide) (fun cb9 => ?_) (fun cb9 => ?_)
        · skip
          have c6 : x_1.toInt < ln.toInt := zlti cb9 rfl rfl
          have n7 : x_1.toInt ≤ 399 := zL1 (b := 400) c6 hln.2 (by decide)
          have n8 : 1 ≤ ln.toInt := zL2 (a := 0) c6 i2.1 (by decide)
          refine lv_aload_n hx hb dX6_step_63 rfl (lv_at hl 0 rfl) ?_
          refine va_get (D := g.1) (ci := 6) (v := .ref ab) (C := RX6) (T := TX6) (N := 7) hx hb hts izRX6 hown hK hP 0 rfl rfl 0 (by decide) (hts _ k261) (fun _ h9 => h9) rfl dX6_step_64 ?_
          refine lv_aload_n hx hb dX6_step_67 rfl (lv_at hl 0 rfl) ?_
          refine va_get (D := g.1) (ci := 6) (v := .int x_1) (C := RX6) (T := TX6) (N := 7) hx hb hts izRX6 hown hK hP 0 rfl rfl 5 (by decide) (hts _ k259) (fun _ h9 => h9) rfl dX6_step_68 ?_
          refine va_iald hx hb hK hP 1 0 rfl rfl (zinK (a := 0) (b := 399) i2.1 n7 (by decide)) dX6_step_71 ?_
          refine zg (fun x_9 => ?_)
          refine lv_istore_n (lv' := [(1, .int x_9), (0, .ref ta)]) hx hb dX6_step_72 rfl hl (by decide) rfl (fun ls hl => ?_)
          refine lv_aload_n hx hb dX6_step_73 rfl (lv_at hl 1 rfl) ?_
          refine lv_dup hx hb dX6_step_74 rfl ?_
          refine va_get (D := g.1) (ci := 6) (v := .int x_1) (C := RX6) (T := TX6) (N := 7) hx hb hts izRX6 hown hK hP 0 rfl rfl 5 (by decide) (hts _ k259) (fun _ h9 => h9) rfl dX6_step_75 ?_
          refine lv_iconst (v := 1) hx hb dX6_step_78 (by decide) ?_
          refine lv_iadd hx hb dX6_step_79 ?_
          refine zg3 (zaddK (i := x_1.toInt) (j := 1) (a' := 1) (b' := 400) rfl (by decide) i2.1 n7 (Int.le_refl _) (Int.le_refl _) (by decide)) (fun x_10 hx_10 => ?_)
          refine va_put (D := g.1) (ci := 6) (v := .int x_10) (ty := .int) (C := RX6) (T := TX6) (N := 7) hx hb hts izRX6 tyX6 tyX6_ok nmX6 hown hK hP hD hS 0 rfl rfl 5 (by decide) (hts _ k259) (fun _ h9 => h9) rfl (by decide +kernel) rfl rfl (Nat.le_of_ble_eq_true rfl) dX6_step_80 (fun H locs hP hD hS => ?_)
          have hP : va_P g.1 vwCl (List.flatten [bTape g ta ab sz ln kd x_1 x_10 ft fb]) H := hP
          have hD : va_D A (List.flatten [bTape g ta ab sz ln kd x_1 x_10 ft fb]) := hD
          refine lv_iload_n hx hb dX6_step_83 rfl (lv_at hl 0 rfl) ?_
          refine lv_bipush (v := 97) hx hb dX6_step_84 (by decide) ?_
          refine lv_icmp_lt (tgt := 152) hx hb dX6_step_86 (by decide) (fun cb9 => ?_) (fun cb9 => ?_)
          · skip
            have c11 : x_9.toInt < 97 := zlti cb9 rfl (by decide)
            have n12 : x_9.toInt ≤ 96 := zL1 (b := 97) c11 (Int.le_refl _) (by decide)
            refine lv_iload_n hx hb dX6_step_152 rfl (lv_at hl 0 rfl) ?_
            refine lv_bipush (v := 48) hx hb dX6_step_153 (by decide) ?_
            refine lv_icmp_lt (tgt := 221) hx hb dX6_step_155 (by decide) (fun cb9 => ?_) (fun cb9 => ?_)
            · skip
              have c13 : x_9.toInt < 48 := zlti cb9 rfl (by decide)
              have n14 : x_9.toInt ≤ 47 := zL1 (b := 48) c13 (Int.le_refl _) (by decide)
              refine lv_aload_n hx hb dX6_step_221 rfl (lv_at hl 1 rfl) ?_
              refine lv_iconst (v := 3) hx hb dX6_step_222 (by decide) ?_
              refine va_put (D := g.1) (ci := 6) (v := .int 3) (ty := .int) (C := RX6) (T := TX6) (N := 7) hx hb hts izRX6 tyX6 tyX6_ok nmX6 hown hK hP hD hS 0 rfl rfl 3 (by decide) (hts _ k258) (fun _ h9 => h9) rfl (by decide +kernel) rfl rfl (Nat.le_of_ble_eq_true rfl) dX6_step_223 (fun H locs hP hD hS => ?_)
              have hP : va_P g.1 vwCl (List.flatten [bTape g ta ab sz ln 3 x_1 x_10 ft fb]) H := hP
              have hD : va_D A (List.flatten [bTape g ta ab sz ln 3 x_1 x_10 ft fb]) := hD
              have hP : va_P g.1 vwCl (List.flatten [bTape g ta ab sz ln 3 x_1 x_10 ft fb]) H := hP
              have hD : va_D A (List.flatten [bTape g ta ab sz ln 3 x_1 x_10 ft fb]) := hD
              exact mret_v hx hb hr hlocks hS (Nat.le_of_ble_eq_true rfl) (Nat.le_of_ble_eq_true rfl) dX6_step_226 ((3 : Int32), x_1, x_10) rfl (show (0 ≤ x_10.toInt ∧ x_10.toInt ≤ 400) ∧ (0 ≤ x_1.toInt ∧ x_1.toInt ≤ 400) ∧ (zKd (3 : Int32).toInt x_1.toInt x_10.toInt) from ⟨(by first | assumption | omega | decide | exact rfl | exact zb01 (by omega) | exact Or.inl (by decide) | exact Or.inr (by first | omega | decide)), i2, (by first | assumption | omega | decide | exact rfl | exact zb01 (by omega) | exact Or.inl (by decide) | exact Or.inr (by first | omega | decide))⟩) hP hD
            · skip
              have c15 : 48 ≤ x_9.toInt := zle (Int32.not_lt.mp cb9) (by decide) rfl
              have n16 : 48 ≤ x_9.toInt := Int.le_trans (Int.le_refl _) c15
              refine lv_iload_n hx hb dX6_step_158 rfl (lv_at hl 0 rfl) ?_
              refine lv_bipush (v := 57) hx hb dX6_step_159 (by decide) ?_
              refine lv_icmp_gt (tgt := 221) hx hb dX6_step_161 (by decide) (fun cb9 => ?_) (fun cb9 => ?_)
              · skip
                have c17 : 57 < x_9.toInt := zlti cb9 (by decide) rfl
                have n18 : 58 ≤ x_9.toInt := zL2 (a := 57) c17 (Int.le_refl _) (by decide)
                refine lv_aload_n hx hb dX6_step_221 rfl (lv_at hl 1 rfl) ?_
                refine lv_iconst (v := 3) hx hb dX6_step_222 (by decide) ?_
                refine va_put (D := g.1) (ci := 6) (v := .int 3) (ty := .int) (C := RX6) (T := TX6) (N := 7) hx hb hts izRX6 tyX6 tyX6_ok nmX6 hown hK hP hD hS 0 rfl rfl 3 (by decide) (hts _ k258) (fun _ h9 => h9) rfl (by decide +kernel) rfl rfl (Nat.le_of_ble_eq_true rfl) dX6_step_223 (fun H locs hP hD hS => ?_)
                have hP : va_P g.1 vwCl (List.flatten [bTape g ta ab sz ln 3 x_1 x_10 ft fb]) H := hP
                have hD : va_D A (List.flatten [bTape g ta ab sz ln 3 x_1 x_10 ft fb]) := hD
                have hP : va_P g.1 vwCl (List.flatten [bTape g ta ab sz ln 3 x_1 x_10 ft fb]) H := hP
                have hD : va_D A (List.flatten [bTape g ta ab sz ln 3 x_1 x_10 ft fb]) := hD
                exact mret_v hx hb hr hlocks hS (Nat.le_of_ble_eq_true rfl) (Nat.le_of_ble_eq_true rfl) dX6_step_226 ((3 : Int32), x_1, x_10) rfl (show (0 ≤ x_10.toInt ∧ x_10.toInt ≤ 400) ∧ (0 ≤ x_1.toInt ∧ x_1.toInt ≤ 400) ∧ (zKd (3 : Int32).toInt x_1.toInt x_10.toInt) from ⟨(by first | assumption | omega | decide | exact rfl | exact zb01 (by omega) | exact Or.inl (by decide) | exact Or.inr (by first | omega | decide)), i2, (by first | assumption | omega | decide | exact rfl | exact zb01 (by omega) | exact Or.inl (by decide) | exact Or.inr (by first | omega | decide))⟩) hP hD
              · skip
                have c19 : x_9.toInt ≤ 57 := zle (Int32.not_lt.mp cb9) rfl (by decide)
                have n20 : x_9.toInt ≤ 57 := Int.le_trans c19 (Int.le_refl _)
                refine lv_aload_n hx hb dX6_step_164 rfl (lv_at hl 1 rfl) ?_
                refine lv_iconst (v := 2) hx hb dX6_step_165 (by decide) ?_
                refine va_put (D := g.1) (ci := 6) (v := .int 2) (ty := .int) (C := RX6) (T := TX6) (N := 7) hx hb hts izRX6 tyX6 tyX6_ok nmX6 hown hK hP hD hS 0 rfl rfl 3 (by decide) (hts _ k258) (fun _ h9 => h9) rfl (by decide +kernel) rfl rfl (Nat.le_of_ble_eq_true rfl) dX6_step_166 (fun H locs hP hD hS => ?_)
                have hP : va_P g.1 vwCl (List.flatten [bTape g ta ab sz ln 2 x_1 x_10 ft fb]) H := hP
                have hD : va_D A (List.flatten [bTape g ta ab sz ln 2 x_1 x_10 ft fb]) := hD
                have hl := lv_sub (l' := [(0, .ref ta), (1, .int x_9)]) hl [1, 0] rfl
                have LP169_24 : ∀ (kf : Nat) (x_21 : Int32), (1 ≤ x_21.toInt ∧ x_21.toInt ≤ 400) → (x_1.toInt < x_21.toInt) → ∀ (H : Heap) (locs : List Loc) (ls : Array Slot), ((ln.toInt - x_21.toInt).toNat) < kf → va_P g.1 vwCl (List.flatten [bTape g ta ab sz ln 2 x_1 x_21 ft fb]) H → va_D A (List.flatten [bTape g ta ab sz ln 2 x_1 x_21 ft fb]) → va_S A s.heap H locs → lv_has ls 2 [(0, .ref ta), (1, .int x_9)] → W p l e ({ frames := 0, cells := 0, slots := 0, locals := 0 } : Room) s m args below meth c H locs (0) (0) (zF g (fun u : Int32 × Int32 × Int32 => (fun (kd2 : Int32) (bg2 : Int32) (nx2 : Int32) => none) (u.1) (u.2.1) (u.2.2)) (fun u : Int32 × Int32 × Int32 => (fun (kd2 : Int32) (bg2 : Int32) (nx2 : Int32) => (0 ≤ nx2.toInt ∧ nx2.toInt ≤ 400) ∧ (0 ≤ bg2.toInt ∧ bg2.toInt ≤ 400) ∧ (zKd kd2.toInt bg2.toInt nx2.toInt)) (u.1) (u.2.1) (u.2.2)) (fun u : Int32 × Int32 × Int32 => (fun (kd2 : Int32) (bg2 : Int32) (nx2 : Int32) => [bTape g ta ab sz ln kd2 bg2 nx2 ft fb]) (u.1) (u.2.1) (u.2.2)) ({ frames := 0, cells := 0, slots := 0, locals := 0 } : Room) below args s A) (F0 m 169 ls []) := by
                  intro kf
                  induction kf with
                  | zero => intro x_21 i22 i23 H locs ls hk; exact absurd hk (Nat.not_lt_zero _)
                  | succ kf ih169_25 =>
                    intro x_21 i22 i23 H locs ls hk169_25 hP hD hS hl
                    refine lv_aload_n hx hb dX6_step_169 rfl (lv_at hl 0 rfl) ?_
                    refine va_get (D := g.1) (ci := 6) (v := .int x_21) (C := RX6) (T := TX6) (N := 7) hx hb hts izRX6 hown hK hP 0 rfl rfl 5 (by decide) (hts _ k259) (fun _ h9 => h9) rfl dX6_step_170 ?_
                    refine lv_aload_n hx hb dX6_step_173 rfl (lv_at hl 0 rfl) ?_
                    refine va_get (D := g.1) (ci := 6) (v := .int ln) (C := RX6) (T := TX6) (N := 7) hx hb hts izRX6 hown hK hP 0 rfl rfl 2 (by decide) (hts _ k272) (fun _ h9 => h9) rfl dX6_step_174 ?_
                    refine lv_icmp_ge (tgt := 226) hx hb dX6_step_177 (by decide) (fun cb9 => ?_) (fun cb9 => ?_)
                    · skip
                      have c26 : ln.toInt ≤ x_21.toInt := zle cb9 rfl rfl
                      have hP : va_P g.1 vwCl (List.flatten [bTape g ta ab sz ln 2 x_1 x_21 ft fb]) H := hP
                      have hD : va_D A (List.flatten [bTape g ta ab sz ln 2 x_1 x_21 ft fb]) := hD
                      exact mret_v hx hb hr hlocks hS (Nat.le_of_ble_eq_true rfl) (Nat.le_of_ble_eq_true rfl) dX6_step_226 ((2 : Int32), x_1, x_21) rfl (show (0 ≤ x_21.toInt ∧ x_21.toInt ≤ 400) ∧ (0 ≤ x_1.toInt ∧ x_1.toInt ≤ 400) ∧ (zKd (2 : Int32).toInt x_1.toInt x_21.toInt) from ⟨(by first | assumption | omega | decide | exact rfl | exact zb01 (by omega) | exact Or.inl (by decide) | exact Or.inr (by first | omega | decide)), i2, (by first | assumption | omega | decide | exact rfl | exact zb01 (by omega) | exact Or.inl (by decide) | exact Or.inr (by first | omega | decide))⟩) hP hD
                    · skip
                      have c27 : x_21.toInt < ln.toInt := zlti (Int32.not_le.mp cb9) rfl rfl
                      have n28 : x_21.toInt ≤ 399 := zL1 (b := 400) c27 hln.2 (by decide)
                      have n29 : 2 ≤ ln.toInt := zL2 (a := 1) c27 i22.1 (by decide)
                      refine lv_aload_n hx hb dX6_step_180 rfl (lv_at hl 0 rfl) ?_
                      refine va_get (D := g.1) (ci := 6) (v := .ref ab) (C := RX6) (T := TX6) (N := 7) hx hb hts izRX6 hown hK hP 0 rfl rfl 0 (by decide) (hts _ k261) (fun _ h9 => h9) rfl dX6_step_181 ?_
                      refine lv_aload_n hx hb dX6_step_184 rfl (lv_at hl 0 rfl) ?_
                      refine va_get (D := g.1) (ci := 6) (v := .int x_21) (C := RX6) (T := TX6) (N := 7) hx hb hts izRX6 hown hK hP 0 rfl rfl 5 (by decide) (hts _ k259) (fun _ h9 => h9) rfl dX6_step_185 ?_
                      refine va_iald hx hb hK hP 1 0 rfl rfl (zinK (a := 1) (b := 399) i22.1 n28 (by decide)) dX6_step_188 ?_
                      refine zg (fun x_30 => ?_)
                      refine lv_bipush (v := 48) hx hb dX6_step_189 (by decide) ?_
                      refine lv_icmp_lt (tgt := 226) hx hb dX6_step_191 (by decide) (fun cb9 => ?_) (fun cb9 => ?_)
                      · skip
                        have c31 : x_30.toInt < 48 := zlti cb9 rfl (by decide)
                        have n32 : x_30.toInt ≤ 47 := zL1 (b := 48) c31 (Int.le_refl _) (by decide)
                        have hP : va_P g.1 vwCl (List.flatten [bTape g ta ab sz ln 2 x_1 x_21 ft fb]) H := hP
                        have hD : va_D A (List.flatten [bTape g ta ab sz ln 2 x_1 x_21 ft fb]) := hD
                        exact mret_v hx hb hr hlocks hS (Nat.le_of_ble_eq_true rfl) (Nat.le_of_ble_eq_true rfl) dX6_step_226 ((2 : Int32), x_1, x_21) rfl (show (0 ≤ x_21.toInt ∧ x_21.toInt ≤ 400) ∧ (0 ≤ x_1.toInt ∧ x_1.toInt ≤ 400) ∧ (zKd (2 : Int32).toInt x_1.toInt x_21.toInt) from ⟨(by first | assumption | omega | decide | exact rfl | exact zb01 (by omega) | exact Or.inl (by decide) | exact Or.inr (by first | omega | decide)), i2, (by first | assumption | omega | decide | exact rfl | exact zb01 (by omega) | exact Or.inl (by decide) | exact Or.inr (by first | omega | decide))⟩) hP hD
                      · skip
                        have c33 : 48 ≤ x_30.toInt := zle (Int32.not_lt.mp cb9) (by decide) rfl
                        have n34 : 48 ≤ x_30.toInt := Int.le_trans (Int.le_refl _) c33
                        refine lv_aload_n hx hb dX6_step_194 rfl (lv_at hl 0 rfl) ?_
                        refine va_get (D := g.1) (ci := 6) (v := .ref ab) (C := RX6) (T := TX6) (N := 7) hx hb hts izRX6 hown hK hP 0 rfl rfl 0 (by decide) (hts _ k261) (fun _ h9 => h9) rfl dX6_step_195 ?_
                        refine lv_aload_n hx hb dX6_step_198 rfl (lv_at hl 0 rfl) ?_
                        refine va_get (D := g.1) (ci := 6) (v := .int x_21) (C := RX6) (T := TX6) (N := 7) hx hb hts izRX6 hown hK hP 0 rfl rfl 5 (by decide) (hts _ k259) (fun _ h9 => h9) rfl dX6_step_199 ?_
                        refine va_iald hx hb hK hP 1 0 rfl rfl (zinK (a := 1) (b := 399) i22.1 n28 (by decide)) dX6_step_202 ?_
                        refine zg (fun x_35 => ?_)
                        refine lv_bipush (v := 57) hx hb dX6_step_203 (by decide) ?_
                        refine lv_icmp_gt (tgt := 226) hx hb dX6_step_205 (by decide) (fun cb9 => ?_) (fun cb9 => ?_)
                        · skip
                          have c36 : 57 < x_35.toInt := zlti cb9 (by decide) rfl
                          have n37 : 58 ≤ x_35.toInt := zL2 (a := 57) c36 (Int.le_refl _) (by decide)
                          have hP : va_P g.1 vwCl (List.flatten [bTape g ta ab sz ln 2 x_1 x_21 ft fb]) H := hP
                          have hD : va_D A (List.flatten [bTape g ta ab sz ln 2 x_1 x_21 ft fb]) := hD
                          exact mret_v hx hb hr hlocks hS (Nat.le_of_ble_eq_true rfl) (Nat.le_of_ble_eq_true rfl) dX6_step_226 ((2 : Int32), x_1, x_21) rfl (show (0 ≤ x_21.toInt ∧ x_21.toInt ≤ 400) ∧ (0 ≤ x_1.toInt ∧ x_1.toInt ≤ 400) ∧ (zKd (2 : Int32).toInt x_1.toInt x_21.toInt) from ⟨(by first | assumption | omega | decide | exact rfl | exact zb01 (by omega) | exact Or.inl (by decide) | exact Or.inr (by first | omega | decide)), i2, (by first | assumption | omega | decide | exact rfl | exact zb01 (by omega) | exact Or.inl (by decide) | exact Or.inr (by first | omega | decide))⟩) hP hD
                        · skip
                          have c38 : x_35.toInt ≤ 57 := zle (Int32.not_lt.mp cb9) rfl (by decide)
                          have n39 : x_35.toInt ≤ 57 := Int.le_trans c38 (Int.le_refl _)
                          refine lv_aload_n hx hb dX6_step_208 rfl (lv_at hl 0 rfl) ?_
                          refine lv_dup hx hb dX6_step_209 rfl ?_
                          refine va_get (D := g.1) (ci := 6) (v := .int x_21) (C := RX6) (T := TX6) (N := 7) hx hb hts izRX6 hown hK hP 0 rfl rfl 5 (by decide) (hts _ k259) (fun _ h9 => h9) rfl dX6_step_210 ?_
                          refine lv_iconst (v := 1) hx hb dX6_step_213 (by decide) ?_
                          refine lv_iadd hx hb dX6_step_214 ?_
                          refine zg3 (zaddK (i := x_21.toInt) (j := 1) (a' := 2) (b' := 400) rfl (by decide) i22.1 n28 (Int.le_refl _) (Int.le_refl _) (by decide)) (fun x_40 hx_40 => ?_)
                          refine va_put (D := g.1) (ci := 6) (v := .int x_40) (ty := .int) (C := RX6) (T := TX6) (N := 7) hx hb hts izRX6 tyX6 tyX6_ok nmX6 hown hK hP hD hS 0 rfl rfl 5 (by decide) (hts _ k259) (fun _ h9 => h9) rfl (by decide +kernel) rfl rfl (Nat.le_of_ble_eq_true rfl) dX6_step_215 (fun H locs hP hD hS => ?_)
                          have hP : va_P g.1 vwCl (List.flatten [bTape g ta ab sz ln 2 x_1 x_40 ft fb]) H := hP
                          have hD : va_D A (List.flatten [bTape g ta ab sz ln 2 x_1 x_40 ft fb]) := hD
                          refine lv_goto (tgt := 169) hx hb dX6_step_218 (by decide) ?_
                          have hP : va_P g.1 vwCl (List.flatten [bTape g ta ab sz ln 2 x_1 x_40 ft fb]) H := hP
                          have hD : va_D A (List.flatten [bTape g ta ab sz ln 2 x_1 x_40 ft fb]) := hD
                          exact ih169_25 x_40 ⟨(Int.le_trans (by decide) hx_40.2.1), hx_40.2.2⟩ (by first | omega | assumption | decide) H _ ls (by omega)  hP hD hS (lv_sub hl [0, 1] rfl)
                have hP : va_P g.1 vwCl (List.flatten [bTape g ta ab sz ln 2 x_1 x_10 ft fb]) H := hP
                have hD : va_D A (List.flatten [bTape g ta ab sz ln 2 x_1 x_10 ft fb]) := hD
                exact LP169_24 _ x_10 ⟨hx_10.2.1, hx_10.2.2⟩ (by first | omega | assumption | decide) H _ ls (Nat.lt_succ_self _)  hP hD hS (lv_sub hl [0, 1] rfl)
          · skip
            have c41 : 97 ≤ x_9.toInt := zle (Int32.not_lt.mp cb9) (by decide) rfl
            have n42 : 97 ≤ x_9.toInt := Int.le_trans (Int.le_refl _) c41
            refine lv_iload_n hx hb dX6_step_89 rfl (lv_at hl 0 rfl) ?_
            refine lv_bipush (v := 122) hx hb dX6_step_90 (by decide) ?_
            refine lv_icmp_gt (tgt := 152) hx hb dX6_step_92 (by decide) (fun cb9 => ?_) (fun cb9 => ?_)
            · skip
              have c43 : 122 < x_9.toInt := zlti cb9 (by decide) rfl
              have n44 : 123 ≤ x_9.toInt := zL2 (a := 122) c43 (Int.le_refl _) (by decide)
              refine lv_iload_n hx hb dX6_step_152 rfl (lv_at hl 0 rfl) ?_
              refine lv_bipush (v := 48) hx hb dX6_step_153 (by decide) ?_
              refine lv_icmp_lt (tgt := 221) hx hb dX6_step_155 (by decide) (fun cb9 => ?_) (fun cb9 => ?_)
              · skip
                exact absurd (show x_9.toInt < 48 from zlti cb9 rfl (by decide)) (zDlt (a := 123) (b := 48) n44 (Int.le_refl _) (by decide))
              · skip
                have c46 : 48 ≤ x_9.toInt := zle (Int32.not_lt.mp cb9) (by decide) rfl
                refine lv_iload_n hx hb dX6_step_158 rfl (lv_at hl 0 rfl) ?_
                refine lv_bipush (v := 57) hx hb dX6_step_159 (by decide) ?_
                refine lv_icmp_gt (tgt := 221) hx hb dX6_step_161 (by decide) (fun cb9 => ?_) (fun cb9 => ?_)
                · skip
                  have c47 : 57 < x_9.toInt := zlti cb9 (by decide) rfl
                  refine lv_aload_n hx hb dX6_step_221 rfl (lv_at hl 1 rfl) ?_
                  refine lv_iconst (v := 3) hx hb dX6_step_222 (by decide) ?_
                  refine va_put (D := g.1) (ci := 6) (v := .int 3) (ty := .int) (C := RX6) (T := TX6) (N := 7) hx hb hts izRX6 tyX6 tyX6_ok nmX6 hown hK hP hD hS 0 rfl rfl 3 (by decide) (hts _ k258) (fun _ h9 => h9) rfl (by decide +kernel) rfl rfl (Nat.le_of_ble_eq_true rfl) dX6_step_223 (fun H locs hP hD hS => ?_)
                  have hP : va_P g.1 vwCl (List.flatten [bTape g ta ab sz ln 3 x_1 x_10 ft fb]) H := hP
                  have hD : va_D A (List.flatten [bTape g ta ab sz ln 3 x_1 x_10 ft fb]) := hD
                  have hP : va_P g.1 vwCl (List.flatten [bTape g ta ab sz ln 3 x_1 x_10 ft fb]) H := hP
                  have hD : va_D A (List.flatten [bTape g ta ab sz ln 3 x_1 x_10 ft fb]) := hD
                  exact mret_v hx hb hr hlocks hS (Nat.le_of_ble_eq_true rfl) (Nat.le_of_ble_eq_true rfl) dX6_step_226 ((3 : Int32), x_1, x_10) rfl (show (0 ≤ x_10.toInt ∧ x_10.toInt ≤ 400) ∧ (0 ≤ x_1.toInt ∧ x_1.toInt ≤ 400) ∧ (zKd (3 : Int32).toInt x_1.toInt x_10.toInt) from ⟨(by first | assumption | omega | decide | exact rfl | exact zb01 (by omega) | exact Or.inl (by decide) | exact Or.inr (by first | omega | decide)), i2, (by first | assumption | omega | decide | exact rfl | exact zb01 (by omega) | exact Or.inl (by decide) | exact Or.inr (by first | omega | decide))⟩) hP hD
                · skip
                  exact absurd (show x_9.toInt ≤ 57 from zle (Int32.not_lt.mp cb9) rfl (by decide)) (zDle (a := 123) (b := 57) n44 (Int.le_refl _) (by decide))
            · skip
              have c49 : x_9.toInt ≤ 122 := zle (Int32.not_lt.mp cb9) rfl (by decide)
              have n50 : x_9.toInt ≤ 122 := Int.le_trans c49 (Int.le_refl _)
              refine lv_aload_n hx hb dX6_step_95 rfl (lv_at hl 1 rfl) ?_
              refine lv_iconst (v := 1) hx hb dX6_step_96 (by decide) ?_
              refine va_put (D := g.1) (ci := 6) (v := .int 1) (ty := .int) (C := RX6) (T := TX6) (N := 7) hx hb hts izRX6 tyX6 tyX6_ok nmX6 hown hK hP hD hS 0 rfl rfl 3 (by decide) (hts _ k258) (fun _ h9 => h9) rfl (by decide +kernel) rfl rfl (Nat.le_of_ble_eq_true rfl) dX6_step_97 (fun H locs hP hD hS => ?_)
              have hP : va_P g.1 vwCl (List.flatten [bTape g ta ab sz ln 1 x_1 x_10 ft fb]) H := hP
              have hD : va_D A (List.flatten [bTape g ta ab sz ln 1 x_1 x_10 ft fb]) := hD
              have hl := lv_sub (l' := [(0, .ref ta), (1, .int x_9)]) hl [1, 0] rfl
              have LP100_54 : ∀ (kf : Nat) (x_51 : Int32), (1 ≤ x_51.toInt ∧ x_51.toInt ≤ 400) → (x_1.toInt < x_51.toInt) → ∀ (H : Heap) (locs : List Loc) (ls : Array Slot), ((ln.toInt - x_51.toInt).toNat) < kf → va_P g.1 vwCl (List.flatten [bTape g ta ab sz ln 1 x_1 x_51 ft fb]) H → va_D A (List.flatten [bTape g ta ab sz ln 1 x_1 x_51 ft fb]) → va_S A s.heap H locs → lv_has ls 2 [(0, .ref ta), (1, .int x_9)] → W p l e ({ frames := 0, cells := 0, slots := 0, locals := 0 } : Room) s m args below meth c H locs (0) (0) (zF g (fun u : Int32 × Int32 × Int32 => (fun (kd2 : Int32) (bg2 : Int32) (nx2 : Int32) => none) (u.1) (u.2.1) (u.2.2)) (fun u : Int32 × Int32 × Int32 => (fun (kd2 : Int32) (bg2 : Int32) (nx2 : Int32) => (0 ≤ nx2.toInt ∧ nx2.toInt ≤ 400) ∧ (0 ≤ bg2.toInt ∧ bg2.toInt ≤ 400) ∧ (zKd kd2.toInt bg2.toInt nx2.toInt)) (u.1) (u.2.1) (u.2.2)) (fun u : Int32 × Int32 × Int32 => (fun (kd2 : Int32) (bg2 : Int32) (nx2 : Int32) => [bTape g ta ab sz ln kd2 bg2 nx2 ft fb]) (u.1) (u.2.1) (u.2.2)) ({ frames := 0, cells := 0, slots := 0, locals := 0 } : Room) below args s A) (F0 m 100 ls []) := by
                intro kf
                induction kf with
                | zero => intro x_51 i52 i53 H locs ls hk; exact absurd hk (Nat.not_lt_zero _)
                | succ kf ih100_55 =>
                  intro x_51 i52 i53 H locs ls hk100_55 hP hD hS hl
                  refine lv_aload_n hx hb dX6_step_100 rfl (lv_at hl 0 rfl) ?_
                  refine va_get (D := g.1) (ci := 6) (v := .int x_51) (C := RX6) (T := TX6) (N := 7) hx hb hts izRX6 hown hK hP 0 rfl rfl 5 (by decide) (hts _ k259) (fun _ h9 => h9) rfl dX6_step_101 ?_
                  refine lv_aload_n hx hb dX6_step_104 rfl (lv_at hl 0 rfl) ?_
                  refine va_get (D := g.1) (ci := 6) (v := .int ln) (C := RX6) (T := TX6) (N := 7) hx hb hts izRX6 hown hK hP 0 rfl rfl 2 (by decide) (hts _ k272) (fun _ h9 => h9) rfl dX6_step_105 ?_
                  refine lv_icmp_ge (tgt := 226) hx hb dX6_step_108 (by decide) (fun cb9 => ?_) (fun cb9 => ?_)
                  · skip
                    have c56 : ln.toInt ≤ x_51.toInt := zle cb9 rfl rfl
                    have hP : va_P g.1 vwCl (List.flatten [bTape g ta ab sz ln 1 x_1 x_51 ft fb]) H := hP
                    have hD : va_D A (List.flatten [bTape g ta ab sz ln 1 x_1 x_51 ft fb]) := hD
                    exact mret_v hx hb hr hlocks hS (Nat.le_of_ble_eq_true rfl) (Nat.le_of_ble_eq_true rfl) dX6_step_226 ((1 : Int32), x_1, x_51) rfl (show (0 ≤ x_51.toInt ∧ x_51.toInt ≤ 400) ∧ (0 ≤ x_1.toInt ∧ x_1.toInt ≤ 400) ∧ (zKd (1 : Int32).toInt x_1.toInt x_51.toInt) from ⟨(by first | assumption | omega | decide | exact rfl | exact zb01 (by omega) | exact Or.inl (by decide) | exact Or.inr (by first | omega | decide)), i2, (by first | assumption | omega | decide | exact rfl | exact zb01 (by omega) | exact Or.inl (by decide) | exact Or.inr (by first | omega | decide))⟩) hP hD
                  · skip
                    have c57 : x_51.toInt < ln.toInt := zlti (Int32.not_le.mp cb9) rfl rfl
                    have n58 : x_51.toInt ≤ 399 := zL1 (b := 400) c57 hln.2 (by decide)
                    have n59 : 2 ≤ ln.toInt := zL2 (a := 1) c57 i52.1 (by decide)
                    refine lv_aload_n hx hb dX6_step_111 rfl (lv_at hl 0 rfl) ?_
                    refine va_get (D := g.1) (ci := 6) (v := .ref ab) (C := RX6) (T := TX6) (N := 7) hx hb hts izRX6 hown hK hP 0 rfl rfl 0 (by decide) (hts _ k261) (fun _ h9 => h9) rfl dX6_step_112 ?_
                    refine lv_aload_n hx hb dX6_step_115 rfl (lv_at hl 0 rfl) ?_
                    refine va_get (D := g.1) (ci := 6) (v := .int x_51) (C := RX6) (T := TX6) (N := 7) hx hb hts izRX6 hown hK hP 0 rfl rfl 5 (by decide) (hts _ k259) (fun _ h9 => h9) rfl dX6_step_116 ?_
                    refine va_iald hx hb hK hP 1 0 rfl rfl (zinK (a := 1) (b := 399) i52.1 n58 (by decide)) dX6_step_119 ?_
                    refine zg (fun x_60 => ?_)
                    refine lv_bipush (v := 97) hx hb dX6_step_120 (by decide) ?_
                    refine lv_icmp_lt (tgt := 226) hx hb dX6_step_122 (by decide) (fun cb9 => ?_) (fun cb9 => ?_)
                    · skip
                      have c61 : x_60.toInt < 97 := zlti cb9 rfl (by decide)
                      have n62 : x_60.toInt ≤ 96 := zL1 (b := 97) c61 (Int.le_refl _) (by decide)
                      have hP : va_P g.1 vwCl (List.flatten [bTape g ta ab sz ln 1 x_1 x_51 ft fb]) H := hP
                      have hD : va_D A (List.flatten [bTape g ta ab sz ln 1 x_1 x_51 ft fb]) := hD
                      exact mret_v hx hb hr hlocks hS (Nat.le_of_ble_eq_true rfl) (Nat.le_of_ble_eq_true rfl) dX6_step_226 ((1 : Int32), x_1, x_51) rfl (show (0 ≤ x_51.toInt ∧ x_51.toInt ≤ 400) ∧ (0 ≤ x_1.toInt ∧ x_1.toInt ≤ 400) ∧ (zKd (1 : Int32).toInt x_1.toInt x_51.toInt) from ⟨(by first | assumption | omega | decide | exact rfl | exact zb01 (by omega) | exact Or.inl (by decide) | exact Or.inr (by first | omega | decide)), i2, (by first | assumption | omega | decide | exact rfl | exact zb01 (by omega) | exact Or.inl (by decide) | exact Or.inr (by first | omega | decide))⟩) hP hD
                    · skip
                      have c63 : 97 ≤ x_60.toInt := zle (Int32.not_lt.mp cb9) (by decide) rfl
                      have n64 : 97 ≤ x_60.toInt := Int.le_trans (Int.le_refl _) c63
                      refine lv_aload_n hx hb dX6_step_125 rfl (lv_at hl 0 rfl) ?_
                      refine va_get (D := g.1) (ci := 6) (v := .ref ab) (C := RX6) (T := TX6) (N := 7) hx hb hts izRX6 hown hK hP 0 rfl rfl 0 (by decide) (hts _ k261) (fun _ h9 => h9) rfl dX6_step_126 ?_
                      refine lv_aload_n hx hb dX6_step_129 rfl (lv_at hl 0 rfl) ?_
                      refine va_get (D := g.1) (ci := 6) (v := .int x_51) (C := RX6) (T := TX6) (N := 7) hx hb hts izRX6 hown hK hP 0 rfl rfl 5 (by decide) (hts _ k259) (fun _ h9 => h9) rfl dX6_step_130 ?_
                      refine va_iald hx hb hK hP 1 0 rfl rfl (zinK (a := 1) (b := 399) i52.1 n58 (by decide)) dX6_step_133 ?_
                      refine zg (fun x_65 => ?_)
                      refine lv_bipush (v := 122) hx hb dX6_step_134 (by decide) ?_
                      refine lv_icmp_gt (tgt := 226) hx hb dX6_step_136 (by decide) (fun cb9 => ?_) (fun cb9 => ?_)
                      · skip
                        have c66 : 122 < x_65.toInt := zlti cb9 (by decide) rfl
                        have n67 : 123 ≤ x_65.toInt := zL2 (a := 122) c66 (Int.le_refl _) (by decide)
                        have hP : va_P g.1 vwCl (List.flatten [bTape g ta ab sz ln 1 x_1 x_51 ft fb]) H := hP
                        have hD : va_D A (List.flatten [bTape g ta ab sz ln 1 x_1 x_51 ft fb]) := hD
                        exact mret_v hx hb hr hlocks hS (Nat.le_of_ble_eq_true rfl) (Nat.le_of_ble_eq_true rfl) dX6_step_226 ((1 : Int32), x_1, x_51) rfl (show (0 ≤ x_51.toInt ∧ x_51.toInt ≤ 400) ∧ (0 ≤ x_1.toInt ∧ x_1.toInt ≤ 400) ∧ (zKd (1 : Int32).toInt x_1.toInt x_51.toInt) from ⟨(by first | assumption | omega | decide | exact rfl | exact zb01 (by omega) | exact Or.inl (by decide) | exact Or.inr (by first | omega | decide)), i2, (by first | assumption | omega | decide | exact rfl | exact zb01 (by omega) | exact Or.inl (by decide) | exact Or.inr (by first | omega | decide))⟩) hP hD
                      · skip
                        have c68 : x_65.toInt ≤ 122 := zle (Int32.not_lt.mp cb9) rfl (by decide)
                        have n69 : x_65.toInt ≤ 122 := Int.le_trans c68 (Int.le_refl _)
                        refine lv_aload_n hx hb dX6_step_139 rfl (lv_at hl 0 rfl) ?_
                        refine lv_dup hx hb dX6_step_140 rfl ?_
                        refine va_get (D := g.1) (ci := 6) (v := .int x_51) (C := RX6) (T := TX6) (N := 7) hx hb hts izRX6 hown hK hP 0 rfl rfl 5 (by decide) (hts _ k259) (fun _ h9 => h9) rfl dX6_step_141 ?_
                        refine lv_iconst (v := 1) hx hb dX6_step_144 (by decide) ?_
                        refine lv_iadd hx hb dX6_step_145 ?_
                        refine zg3 (zaddK (i := x_51.toInt) (j := 1) (a' := 2) (b' := 400) rfl (by decide) i52.1 n58 (Int.le_refl _) (Int.le_refl _) (by decide)) (fun x_70 hx_70 => ?_)
                        refine va_put (D := g.1) (ci := 6) (v := .int x_70) (ty := .int) (C := RX6) (T := TX6) (N := 7) hx hb hts izRX6 tyX6 tyX6_ok nmX6 hown hK hP hD hS 0 rfl rfl 5 (by decide) (hts _ k259) (fun _ h9 => h9) rfl (by decide +kernel) rfl rfl (Nat.le_of_ble_eq_true rfl) dX6_step_146 (fun H locs hP hD hS => ?_)
                        have hP : va_P g.1 vwCl (List.flatten [bTape g ta ab sz ln 1 x_1 x_70 ft fb]) H := hP
                        have hD : va_D A (List.flatten [bTape g ta ab sz ln 1 x_1 x_70 ft fb]) := hD
                        refine lv_goto (tgt := 100) hx hb dX6_step_149 (by decide) ?_
                        have hP : va_P g.1 vwCl (List.flatten [bTape g ta ab sz ln 1 x_1 x_70 ft fb]) H := hP
                        have hD : va_D A (List.flatten [bTape g ta ab sz ln 1 x_1 x_70 ft fb]) := hD
                        exact ih100_55 x_70 ⟨(Int.le_trans (by decide) hx_70.2.1), hx_70.2.2⟩ (by first | omega | assumption | decide) H _ ls (by omega)  hP hD hS (lv_sub hl [0, 1] rfl)
              have hP : va_P g.1 vwCl (List.flatten [bTape g ta ab sz ln 1 x_1 x_10 ft fb]) H := hP
              have hD : va_D A (List.flatten [bTape g ta ab sz ln 1 x_1 x_10 ft fb]) := hD
              exact LP100_54 _ x_10 ⟨hx_10.2.1, hx_10.2.2⟩ (by first | omega | assumption | decide) H _ ls (Nat.lt_succ_self _)  hP hD hS (lv_sub hl [0, 1] rfl)
        · skip
          have c71 : ln.toInt ≤ x_1.toInt := zle (Int32.not_lt.mp cb9) rfl rfl
          refine lv_aload_n hx hb dX6_step_57 rfl (lv_at hl 0 rfl) ?_
          refine lv_iconst (v := 0) hx hb dX6_step_58 (by decide) ?_
          refine va_put (D := g.1) (ci := 6) (v := .int 0) (ty := .int) (C := RX6) (T := TX6) (N := 7) hx hb hts izRX6 tyX6 tyX6_ok nmX6 hown hK hP hD hS 0 rfl rfl 3 (by decide) (hts _ k258) (fun _ h9 => h9) rfl (by decide +kernel) rfl rfl (Nat.le_of_ble_eq_true rfl) dX6_step_59 (fun H locs hP hD hS => ?_)
          have hP : va_P g.1 vwCl (List.flatten [bTape g ta ab sz ln 0 x_1 x_1 ft fb]) H := hP
          have hD : va_D A (List.flatten [bTape g ta ab sz ln 0 x_1 x_1 ft fb]) := hD
          have hP : va_P g.1 vwCl (List.flatten [bTape g ta ab sz ln 0 x_1 x_1 ft fb]) H := hP
          have hD : va_D A (List.flatten [bTape g ta ab sz ln 0 x_1 x_1 ft fb]) := hD
          exact mret_v hx hb hr hlocks hS (Nat.le_of_ble_eq_true rfl) (Nat.le_of_ble_eq_true rfl) dX6_step_62 ((0 : Int32), x_1, x_1) rfl (show (0 ≤ x_1.toInt ∧ x_1.toInt ≤ 400) ∧ (0 ≤ x_1.toInt ∧ x_1.toInt ≤ 400) ∧ (zKd (0 : Int32).toInt x_1.toInt x_1.toInt) from ⟨i2, i2, (by first | assumption | omega | decide | exact rfl | exact zb01 (by omega) | exact Or.inl (by decide) | exact Or.inr (by first | omega | decide))⟩) hP hD
      · skip
        have c72 : x_1.toInt < ln.toInt := zlti (Int32.not_le.mp cb9) rfl rfl
        have n73 : x_1.toInt ≤ 399 := zL1 (b := 400) c72 hln.2 (by decide)
        have n74 : 1 ≤ ln.toInt := zL2 (a := 0) c72 i2.1 (by decide)
        refine lv_aload_n hx hb dX6_step_11 rfl (lv_at hl 0 rfl) ?_
        refine va_get (D := g.1) (ci := 6) (v := .ref ab) (C := RX6) (T := TX6) (N := 7) hx hb hts izRX6 hown hK hP 0 rfl rfl 0 (by decide) (hts _ k261) (fun _ h9 => h9) rfl dX6_step_12 ?_
        refine lv_aload_n hx hb dX6_step_15 rfl (lv_at hl 0 rfl) ?_
        refine va_get (D := g.1) (ci := 6) (v := .int x_1) (C := RX6) (T := TX6) (N := 7) hx hb hts izRX6 hown hK hP 0 rfl rfl 5 (by decide) (hts _ k259) (fun _ h9 => h9) rfl dX6_step_16 ?_
        refine va_iald hx hb hK hP 1 0 rfl rfl (zinK (a := 0) (b := 399) i2.1 n73 (by decide)) dX6_step_19 ?_
        refine zg (fun x_75 => ?_)
        refine lv_bipush (v := 32) hx hb dX6_step_20 (by decide) ?_
        refine lv_icmp_ne (tgt := 38) hx hb dX6_step_22 (by decide) (fun cb9 => ?_) (fun cb9 => ?_)
        · skip
          have c76 : ¬ x_75.toInt = 32 := zne cb9 rfl (by decide)
          refine lv_aload_n hx hb dX6_step_38 rfl (lv_at hl 0 rfl) ?_
          refine lv_aload_n hx hb dX6_step_39 rfl (lv_at hl 0 rfl) ?_
          refine va_get (D := g.1) (ci := 6) (v := .int x_1) (C := RX6) (T := TX6) (N := 7) hx hb hts izRX6 hown hK hP 0 rfl rfl 5 (by decide) (hts _ k259) (fun _ h9 => h9) rfl dX6_step_40 ?_
          refine va_put (D := g.1) (ci := 6) (v := .int x_1) (ty := .int) (C := RX6) (T := TX6) (N := 7) hx hb hts izRX6 tyX6 tyX6_ok nmX6 hown hK hP hD hS 0 rfl rfl 4 (by decide) (hts _ k260) (fun _ h9 => h9) rfl (by decide +kernel) rfl rfl (Nat.le_of_ble_eq_true rfl) dX6_step_43 (fun H locs hP hD hS => ?_)
          have hP : va_P g.1 vwCl (List.flatten [bTape g ta ab sz ln kd x_1 x_1 ft fb]) H := hP
          have hD : va_D A (List.flatten [bTape g ta ab sz ln kd x_1 x_1 ft fb]) := hD
          refine lv_aload_n hx hb dX6_step_46 rfl (lv_at hl 0 rfl) ?_
          refine va_get (D := g.1) (ci := 6) (v := .int x_1) (C := RX6) (T := TX6) (N := 7) hx hb hts izRX6 hown hK hP 0 rfl rfl 5 (by decide) (hts _ k259) (fun _ h9 => h9) rfl dX6_step_47 ?_
          refine lv_aload_n hx hb dX6_step_50 rfl (lv_at hl 0 rfl) ?_
          refine va_get (D := g.1) (ci := 6) (v := .int ln) (C := RX6) (T := TX6) (N := 7) hx hb hts izRX6 hown hK hP 0 rfl rfl 2 (by decide) (hts _ k272) (fun _ h9 => h9) rfl dX6_step_51 ?_
          refine lv_icmp_lt (tgt := 63) hx hb dX6_step_54 (by decide) (fun cb9 => ?_) (fun cb9 => ?_)
          · skip
            have c77 : x_1.toInt < ln.toInt := zlti cb9 rfl rfl
            refine lv_aload_n hx hb dX6_step_63 rfl (lv_at hl 0 rfl) ?_
            refine va_get (D := g.1) (ci := 6) (v := .ref ab) (C := RX6) (T := TX6) (N := 7) hx hb hts izRX6 hown hK hP 0 rfl rfl 0 (by decide) (hts _ k261) (fun _ h9 => h9) rfl dX6_step_64 ?_
            refine lv_aload_n hx hb dX6_step_67 rfl (lv_at hl 0 rfl) ?_
            refine va_get (D := g.1) (ci := 6) (v := .int x_1) (C := RX6) (T := TX6) (N := 7) hx hb hts izRX6 hown hK hP 0 rfl rfl 5 (by decide) (hts _ k259) (fun _ h9 => h9) rfl dX6_step_68 ?_
            refine va_iald hx hb hK hP 1 0 rfl rfl (zinK (a := 0) (b := 399) i2.1 n73 (by decide)) dX6_step_71 ?_
            refine zg (fun x_78 => ?_)
            refine lv_istore_n (lv' := [(1, .int x_78), (0, .ref ta)]) hx hb dX6_step_72 rfl hl (by decide) rfl (fun ls hl => ?_)
            refine lv_aload_n hx hb dX6_step_73 rfl (lv_at hl 1 rfl) ?_
            refine lv_dup hx hb dX6_step_74 rfl ?_
            refine va_get (D := g.1) (ci := 6) (v := .int x_1) (C := RX6) (T := TX6) (N := 7) hx hb hts izRX6 hown hK hP 0 rfl rfl 5 (by decide) (hts _ k259) (fun _ h9 => h9) rfl dX6_step_75 ?_
            refine lv_iconst (v := 1) hx hb dX6_step_78 (by decide) ?_
            refine lv_iadd hx hb dX6_step_79 ?_
            refine zg3 (zaddK (i := x_1.toInt) (j := 1) (a' := 1) (b' := 400) rfl (by decide) i2.1 n73 (Int.le_refl _) (Int.le_refl _) (by decide)) (fun x_79 hx_79 => ?_)
            refine va_put (D := g.1) (ci := 6) (v := .int x_79) (ty := .int) (C := RX6) (T := TX6) (N := 7) hx hb hts izRX6 tyX6 tyX6_ok nmX6 hown hK hP hD hS 0 rfl rfl 5 (by decide) (hts _ k259) (fun _ h9 => h9) rfl (by decide +kernel) rfl rfl (Nat.le_of_ble_eq_true rfl) dX6_step_80 (fun H locs hP hD hS => ?_)
            have hP : va_P g.1 vwCl (List.flatten [bTape g ta ab sz ln kd x_1 x_79 ft fb]) H := hP
            have hD : va_D A (List.flatten [bTape g ta ab sz ln kd x_1 x_79 ft fb]) := hD
            refine lv_iload_n hx hb dX6_step_83 rfl (lv_at hl 0 rfl) ?_
            refine lv_bipush (v := 97) hx hb dX6_step_84 (by decide) ?_
            refine lv_icmp_lt (tgt := 152) hx hb dX6_step_86 (by decide) (fun cb9 => ?_) (fun cb9 => ?_)
            · skip
              have c80 : x_78.toInt < 97 := zlti cb9 rfl (by decide)
              have n81 : x_78.toInt ≤ 96 := zL1 (b := 97) c80 (Int.le_refl _) (by decide)
              refine lv_iload_n hx hb dX6_step_152 rfl (lv_at hl 0 rfl) ?_
              refine lv_bipush (v := 48) hx hb dX6_step_153 (by decide) ?_
              refine lv_icmp_lt (tgt := 221) hx hb dX6_step_155 (by decide) (fun cb9 => ?_) (fun cb9 => ?_)
              · skip
                have c82 : x_78.toInt < 48 := zlti cb9 rfl (by decide)
                have n83 : x_78.toInt ≤ 47 := zL1 (b := 48) c82 (Int.le_refl _) (by decide)
                refine lv_aload_n hx hb dX6_step_221 rfl (lv_at hl 1 rfl) ?_
                refine lv_iconst (v := 3) hx hb dX6_step_222 (by decide) ?_
                refine va_put (D := g.1) (ci := 6) (v := .int 3) (ty := .int) (C := RX6) (T := TX6) (N := 7) hx hb hts izRX6 tyX6 tyX6_ok nmX6 hown hK hP hD hS 0 rfl rfl 3 (by decide) (hts _ k258) (fun _ h9 => h9) rfl (by decide +kernel) rfl rfl (Nat.le_of_ble_eq_true rfl) dX6_step_223 (fun H locs hP hD hS => ?_)
                have hP : va_P g.1 vwCl (List.flatten [bTape g ta ab sz ln 3 x_1 x_79 ft fb]) H := hP
                have hD : va_D A (List.flatten [bTape g ta ab sz ln 3 x_1 x_79 ft fb]) := hD
                have hP : va_P g.1 vwCl (List.flatten [bTape g ta ab sz ln 3 x_1 x_79 ft fb]) H := hP
                have hD : va_D A (List.flatten [bTape g ta ab sz ln 3 x_1 x_79 ft fb]) := hD
                exact mret_v hx hb hr hlocks hS (Nat.le_of_ble_eq_true rfl) (Nat.le_of_ble_eq_true rfl) dX6_step_226 ((3 : Int32), x_1, x_79) rfl (show (0 ≤ x_79.toInt ∧ x_79.toInt ≤ 400) ∧ (0 ≤ x_1.toInt ∧ x_1.toInt ≤ 400) ∧ (zKd (3 : Int32).toInt x_1.toInt x_79.toInt) from ⟨(by first | assumption | omega | decide | exact rfl | exact zb01 (by omega) | exact Or.inl (by decide) | exact Or.inr (by first | omega | decide)), i2, (by first | assumption | omega | decide | exact rfl | exact zb01 (by omega) | exact Or.inl (by decide) | exact Or.inr (by first | omega | decide))⟩) hP hD
              · skip
                have c84 : 48 ≤ x_78.toInt := zle (Int32.not_lt.mp cb9) (by decide) rfl
                have n85 : 48 ≤ x_78.toInt := Int.le_trans (Int.le_refl _) c84
                refine lv_iload_n hx hb dX6_step_158 rfl (lv_at hl 0 rfl) ?_
                refine lv_bipush (v := 57) hx hb dX6_step_159 (by decide) ?_
                refine lv_icmp_gt (tgt := 221) hx hb dX6_step_161 (by decide) (fun cb9 => ?_) (fun cb9 => ?_)
                · skip
                  have c86 : 57 < x_78.toInt := zlti cb9 (by decide) rfl
                  have n87 : 58 ≤ x_78.toInt := zL2 (a := 57) c86 (Int.le_refl _) (by decide)
                  refine lv_aload_n hx hb dX6_step_221 rfl (lv_at hl 1 rfl) ?_
                  refine lv_iconst (v := 3) hx hb dX6_step_222 (by decide) ?_
                  refine va_put (D := g.1) (ci := 6) (v := .int 3) (ty := .int) (C := RX6) (T := TX6) (N := 7) hx hb hts izRX6 tyX6 tyX6_ok nmX6 hown hK hP hD hS 0 rfl rfl 3 (by decide) (hts _ k258) (fun _ h9 => h9) rfl (by decide +kernel) rfl rfl (Nat.le_of_ble_eq_true rfl) dX6_step_223 (fun H locs hP hD hS => ?_)
                  have hP : va_P g.1 vwCl (List.flatten [bTape g ta ab sz ln 3 x_1 x_79 ft fb]) H := hP
                  have hD : va_D A (List.flatten [bTape g ta ab sz ln 3 x_1 x_79 ft fb]) := hD
                  have hP : va_P g.1 vwCl (List.flatten [bTape g ta ab sz ln 3 x_1 x_79 ft fb]) H := hP
                  have hD : va_D A (List.flatten [bTape g ta ab sz ln 3 x_1 x_79 ft fb]) := hD
                  exact mret_v hx hb hr hlocks hS (Nat.le_of_ble_eq_true rfl) (Nat.le_of_ble_eq_true rfl) dX6_step_226 ((3 : Int32), x_1, x_79) rfl (show (0 ≤ x_79.toInt ∧ x_79.toInt ≤ 400) ∧ (0 ≤ x_1.toInt ∧ x_1.toInt ≤ 400) ∧ (zKd (3 : Int32).toInt x_1.toInt x_79.toInt) from ⟨(by first | assumption | omega | decide | exact rfl | exact zb01 (by omega) | exact Or.inl (by decide) | exact Or.inr (by first | omega | decide)), i2, (by first | assumption | omega | decide | exact rfl | exact zb01 (by omega) | exact Or.inl (by decide) | exact Or.inr (by first | omega | decide))⟩) hP hD
                · skip
                  have c88 : x_78.toInt ≤ 57 := zle (Int32.not_lt.mp cb9) rfl (by decide)
                  have n89 : x_78.toInt ≤ 57 := Int.le_trans c88 (Int.le_refl _)
                  refine lv_aload_n hx hb dX6_step_164 rfl (lv_at hl 1 rfl) ?_
                  refine lv_iconst (v := 2) hx hb dX6_step_165 (by decide) ?_
                  refine va_put (D := g.1) (ci := 6) (v := .int 2) (ty := .int) (C := RX6) (T := TX6) (N := 7) hx hb hts izRX6 tyX6 tyX6_ok nmX6 hown hK hP hD hS 0 rfl rfl 3 (by decide) (hts _ k258) (fun _ h9 => h9) rfl (by decide +kernel) rfl rfl (Nat.le_of_ble_eq_true rfl) dX6_step_166 (fun H locs hP hD hS => ?_)
                  have hP : va_P g.1 vwCl (List.flatten [bTape g ta ab sz ln 2 x_1 x_79 ft fb]) H := hP
                  have hD : va_D A (List.flatten [bTape g ta ab sz ln 2 x_1 x_79 ft fb]) := hD
                  have hl := lv_sub (l' := [(0, .ref ta), (1, .int x_78)]) hl [1, 0] rfl
                  have LP169_93 : ∀ (kf : Nat) (x_90 : Int32), (1 ≤ x_90.toInt ∧ x_90.toInt ≤ 400) → (x_1.toInt < x_90.toInt) → ∀ (H : Heap) (locs : List Loc) (ls : Array Slot), ((ln.toInt - x_90.toInt).toNat) < kf → va_P g.1 vwCl (List.flatten [bTape g ta ab sz ln 2 x_1 x_90 ft fb]) H → va_D A (List.flatten [bTape g ta ab sz ln 2 x_1 x_90 ft fb]) → va_S A s.heap H locs → lv_has ls 2 [(0, .ref ta), (1, .int x_78)] → W p l e ({ frames := 0, cells := 0, slots := 0, locals := 0 } : Room) s m args below meth c H locs (0) (0) (zF g (fun u : Int32 × Int32 × Int32 => (fun (kd2 : Int32) (bg2 : Int32) (nx2 : Int32) => none) (u.1) (u.2.1) (u.2.2)) (fun u : Int32 × Int32 × Int32 => (fun (kd2 : Int32) (bg2 : Int32) (nx2 : Int32) => (0 ≤ nx2.toInt ∧ nx2.toInt ≤ 400) ∧ (0 ≤ bg2.toInt ∧ bg2.toInt ≤ 400) ∧ (zKd kd2.toInt bg2.toInt nx2.toInt)) (u.1) (u.2.1) (u.2.2)) (fun u : Int32 × Int32 × Int32 => (fun (kd2 : Int32) (bg2 : Int32) (nx2 : Int32) => [bTape g ta ab sz ln kd2 bg2 nx2 ft fb]) (u.1) (u.2.1) (u.2.2)) ({ frames := 0, cells := 0, slots := 0, locals := 0 } : Room) below args s A) (F0 m 169 ls []) := by
                    intro kf
                    induction kf with
                    | zero => intro x_90 i91 i92 H locs ls hk; exact absurd hk (Nat.not_lt_zero _)
                    | succ kf ih169_94 =>
                      intro x_90 i91 i92 H locs ls hk169_94 hP hD hS hl
                      refine lv_aload_n hx hb dX6_step_169 rfl (lv_at hl 0 rfl) ?_
                      refine va_get (D := g.1) (ci := 6) (v := .int x_90) (C := RX6) (T := TX6) (N := 7) hx hb hts izRX6 hown hK hP 0 rfl rfl 5 (by decide) (hts _ k259) (fun _ h9 => h9) rfl dX6_step_170 ?_
                      refine lv_aload_n hx hb dX6_step_173 rfl (lv_at hl 0 rfl) ?_
                      refine va_get (D := g.1) (ci := 6) (v := .int ln) (C := RX6) (T := TX6) (N := 7) hx hb hts izRX6 hown hK hP 0 rfl rfl 2 (by decide) (hts _ k272) (fun _ h9 => h9) rfl dX6_step_174 ?_
                      refine lv_icmp_ge (tgt := 226) hx hb dX6_step_177 (by decide) (fun cb9 => ?_) (fun cb9 => ?_)
                      · skip
                        have c95 : ln.toInt ≤ x_90.toInt := zle cb9 rfl rfl
                        have hP : va_P g.1 vwCl (List.flatten [bTape g ta ab sz ln 2 x_1 x_90 ft fb]) H := hP
                        have hD : va_D A (List.flatten [bTape g ta ab sz ln 2 x_1 x_90 ft fb]) := hD
                        exact mret_v hx hb hr hlocks hS (Nat.le_of_ble_eq_true rfl) (Nat.le_of_ble_eq_true rfl) dX6_step_226 ((2 : Int32), x_1, x_90) rfl (show (0 ≤ x_90.toInt ∧ x_90.toInt ≤ 400) ∧ (0 ≤ x_1.toInt ∧ x_1.toInt ≤ 400) ∧ (zKd (2 : Int32).toInt x_1.toInt x_90.toInt) from ⟨(by first | assumption | omega | decide | exact rfl | exact zb01 (by omega) | exact Or.inl (by decide) | exact Or.inr (by first | omega | decide)), i2, (by first | assumption | omega | decide | exact rfl | exact zb01 (by omega) | exact Or.inl (by decide) | exact Or.inr (by first | omega | decide))⟩) hP hD
                      · skip
                        have c96 : x_90.toInt < ln.toInt := zlti (Int32.not_le.mp cb9) rfl rfl
                        have n97 : x_90.toInt ≤ 399 := zL1 (b := 400) c96 hln.2 (by decide)
                        have n98 : 2 ≤ ln.toInt := zL2 (a := 1) c96 i91.1 (by decide)
                        refine lv_aload_n hx hb dX6_step_180 rfl (lv_at hl 0 rfl) ?_
                        refine va_get (D := g.1) (ci := 6) (v := .ref ab) (C := RX6) (T := TX6) (N := 7) hx hb hts izRX6 hown hK hP 0 rfl rfl 0 (by decide) (hts _ k261) (fun _ h9 => h9) rfl dX6_step_181 ?_
                        refine lv_aload_n hx hb dX6_step_184 rfl (lv_at hl 0 rfl) ?_
                        refine va_get (D := g.1) (ci := 6) (v := .int x_90) (C := RX6) (T := TX6) (N := 7) hx hb hts izRX6 hown hK hP 0 rfl rfl 5 (by decide) (hts _ k259) (fun _ h9 => h9) rfl dX6_step_185 ?_
                        refine va_iald hx hb hK hP 1 0 rfl rfl (zinK (a := 1) (b := 399) i91.1 n97 (by decide)) dX6_step_188 ?_
                        refine zg (fun x_99 => ?_)
                        refine lv_bipush (v := 48) hx hb dX6_step_189 (by decide) ?_
                        refine lv_icmp_lt (tgt := 226) hx hb dX6_step_191 (by decide) (fun cb9 => ?_) (fun cb9 => ?_)
                        · skip
                          have c100 : x_99.toInt < 48 := zlti cb9 rfl (by decide)
                          have n101 : x_99.toInt ≤ 47 := zL1 (b := 48) c100 (Int.le_refl _) (by decide)
                          have hP : va_P g.1 vwCl (List.flatten [bTape g ta ab sz ln 2 x_1 x_90 ft fb]) H := hP
                          have hD : va_D A (List.flatten [bTape g ta ab sz ln 2 x_1 x_90 ft fb]) := hD
                          exact mret_v hx hb hr hlocks hS (Nat.le_of_ble_eq_true rfl) (Nat.le_of_ble_eq_true rfl) dX6_step_226 ((2 : Int32), x_1, x_90) rfl (show (0 ≤ x_90.toInt ∧ x_90.toInt ≤ 400) ∧ (0 ≤ x_1.toInt ∧ x_1.toInt ≤ 400) ∧ (zKd (2 : Int32).toInt x_1.toInt x_90.toInt) from ⟨(by first | assumption | omega | decide | exact rfl | exact zb01 (by omega) | exact Or.inl (by decide) | exact Or.inr (by first | omega | decide)), i2, (by first | assumption | omega | decide | exact rfl | exact zb01 (by omega) | exact Or.inl (by decide) | exact Or.inr (by first | omega | decide))⟩) hP hD
                        · skip
                          have c102 : 48 ≤ x_99.toInt := zle (Int32.not_lt.mp cb9) (by decide) rfl
                          have n103 : 48 ≤ x_99.toInt := Int.le_trans (Int.le_refl _) c102
                          refine lv_aload_n hx hb dX6_step_194 rfl (lv_at hl 0 rfl) ?_
                          refine va_get (D := g.1) (ci := 6) (v := .ref ab) (C := RX6) (T := TX6) (N := 7) hx hb hts izRX6 hown hK hP 0 rfl rfl 0 (by decide) (hts _ k261) (fun _ h9 => h9) rfl dX6_step_195 ?_
                          refine lv_aload_n hx hb dX6_step_198 rfl (lv_at hl 0 rfl) ?_
                          refine va_get (D := g.1) (ci := 6) (v := .int x_90) (C := RX6) (T := TX6) (N := 7) hx hb hts izRX6 hown hK hP 0 rfl rfl 5 (by decide) (hts _ k259) (fun _ h9 => h9) rfl dX6_step_199 ?_
                          refine va_iald hx hb hK hP 1 0 rfl rfl (zinK (a := 1) (b := 399) i91.1 n97 (by decide)) dX6_step_202 ?_
                          refine zg (fun x_104 => ?_)
                          refine lv_bipush (v := 57) hx hb dX6_step_203 (by decide) ?_
                          refine lv_icmp_gt (tgt := 226) hx hb dX6_step_205 (by decide) (fun cb9 => ?_) (fun cb9 => ?_)
                          · skip
                            have c105 : 57 < x_104.toInt := zlti cb9 (by decide) rfl
                            have n106 : 58 ≤ x_104.toInt := zL2 (a := 57) c105 (Int.le_refl _) (by decide)
                            have hP : va_P g.1 vwCl (List.flatten [bTape g ta ab sz ln 2 x_1 x_90 ft fb]) H := hP
                            have hD : va_D A (List.flatten [bTape g ta ab sz ln 2 x_1 x_90 ft fb]) := hD
                            exact mret_v hx hb hr hlocks hS (Nat.le_of_ble_eq_true rfl) (Nat.le_of_ble_eq_true rfl) dX6_step_226 ((2 : Int32), x_1, x_90) rfl (show (0 ≤ x_90.toInt ∧ x_90.toInt ≤ 400) ∧ (0 ≤ x_1.toInt ∧ x_1.toInt ≤ 400) ∧ (zKd (2 : Int32).toInt x_1.toInt x_90.toInt) from ⟨(by first | assumption | omega | decide | exact rfl | exact zb01 (by omega) | exact Or.inl (by decide) | exact Or.inr (by first | omega | decide)), i2, (by first | assumption | omega | decide | exact rfl | exact zb01 (by omega) | exact Or.inl (by decide) | exact Or.inr (by first | omega | decide))⟩) hP hD
                          · skip
                            have c107 : x_104.toInt ≤ 57 := zle (Int32.not_lt.mp cb9) rfl (by decide)
                            have n108 : x_104.toInt ≤ 57 := Int.le_trans c107 (Int.le_refl _)
                            refine lv_aload_n hx hb dX6_step_208 rfl (lv_at hl 0 rfl) ?_
                            refine lv_dup hx hb dX6_step_209 rfl ?_
                            refine va_get (D := g.1) (ci := 6) (v := .int x_90) (C := RX6) (T := TX6) (N := 7) hx hb hts izRX6 hown hK hP 0 rfl rfl 5 (by decide) (hts _ k259) (fun _ h9 => h9) rfl dX6_step_210 ?_
                            refine lv_iconst (v := 1) hx hb dX6_step_213 (by decide) ?_
                            refine lv_iadd hx hb dX6_step_214 ?_
                            refine zg3 (zaddK (i := x_90.toInt) (j := 1) (a' := 2) (b' := 400) rfl (by decide) i91.1 n97 (Int.le_refl _) (Int.le_refl _) (by decide)) (fun x_109 hx_109 => ?_)
                            refine va_put (D := g.1) (ci := 6) (v := .int x_109) (ty := .int) (C := RX6) (T := TX6) (N := 7) hx hb hts izRX6 tyX6 tyX6_ok nmX6 hown hK hP hD hS 0 rfl rfl 5 (by decide) (hts _ k259) (fun _ h9 => h9) rfl (by decide +kernel) rfl rfl (Nat.le_of_ble_eq_true rfl) dX6_step_215 (fun H locs hP hD hS => ?_)
                            have hP : va_P g.1 vwCl (List.flatten [bTape g ta ab sz ln 2 x_1 x_109 ft fb]) H := hP
                            have hD : va_D A (List.flatten [bTape g ta ab sz ln 2 x_1 x_109 ft fb]) := hD
                            refine lv_goto (tgt := 169) hx hb dX6_step_218 (by decide) ?_
                            have hP : va_P g.1 vwCl (List.flatten [bTape g ta ab sz ln 2 x_1 x_109 ft fb]) H := hP
                            have hD : va_D A (List.flatten [bTape g ta ab sz ln 2 x_1 x_109 ft fb]) := hD
                            exact ih169_94 x_109 ⟨(Int.le_trans (by decide) hx_109.2.1), hx_109.2.2⟩ (by first | omega | assumption | decide) H _ ls (by omega)  hP hD hS (lv_sub hl [0, 1] rfl)
                  have hP : va_P g.1 vwCl (List.flatten [bTape g ta ab sz ln 2 x_1 x_79 ft fb]) H := hP
                  have hD : va_D A (List.flatten [bTape g ta ab sz ln 2 x_1 x_79 ft fb]) := hD
                  exact LP169_93 _ x_79 ⟨hx_79.2.1, hx_79.2.2⟩ (by first | omega | assumption | decide) H _ ls (Nat.lt_succ_self _)  hP hD hS (lv_sub hl [0, 1] rfl)
            · skip
              have c110 : 97 ≤ x_78.toInt := zle (Int32.not_lt.mp cb9) (by decide) rfl
              have n111 : 97 ≤ x_78.toInt := Int.le_trans (Int.le_refl _) c110
              refine lv_iload_n hx hb dX6_step_89 rfl (lv_at hl 0 rfl) ?_
              refine lv_bipush (v := 122) hx hb dX6_step_90 (by decide) ?_
              refine lv_icmp_gt (tgt := 152) hx hb dX6_step_92 (by decide) (fun cb9 => ?_) (fun cb9 => ?_)
              · skip
                have c112 : 122 < x_78.toInt := zlti cb9 (by decide) rfl
                have n113 : 123 ≤ x_78.toInt := zL2 (a := 122) c112 (Int.le_refl _) (by decide)
                refine lv_iload_n hx hb dX6_step_152 rfl (lv_at hl 0 rfl) ?_
                refine lv_bipush (v := 48) hx hb dX6_step_153 (by decide) ?_
                refine lv_icmp_lt (tgt := 221) hx hb dX6_step_155 (by decide) (fun cb9 => ?_) (fun cb9 => ?_)
                · skip
                  exact absurd (show x_78.toInt < 48 from zlti cb9 rfl (by decide)) (zDlt (a := 123) (b := 48) n113 (Int.le_refl _) (by decide))
                · skip
                  have c115 : 48 ≤ x_78.toInt := zle (Int32.not_lt.mp cb9) (by decide) rfl
                  refine lv_iload_n hx hb dX6_step_158 rfl (lv_at hl 0 rfl) ?_
                  refine lv_bipush (v := 57) hx hb dX6_step_159 (by decide) ?_
                  refine lv_icmp_gt (tgt := 221) hx hb dX6_step_161 (by decide) (fun cb9 => ?_) (fun cb9 => ?_)
                  · skip
                    have c116 : 57 < x_78.toInt := zlti cb9 (by decide) rfl
                    refine lv_aload_n hx hb dX6_step_221 rfl (lv_at hl 1 rfl) ?_
                    refine lv_iconst (v := 3) hx hb dX6_step_222 (by decide) ?_
                    refine va_put (D := g.1) (ci := 6) (v := .int 3) (ty := .int) (C := RX6) (T := TX6) (N := 7) hx hb hts izRX6 tyX6 tyX6_ok nmX6 hown hK hP hD hS 0 rfl rfl 3 (by decide) (hts _ k258) (fun _ h9 => h9) rfl (by decide +kernel) rfl rfl (Nat.le_of_ble_eq_true rfl) dX6_step_223 (fun H locs hP hD hS => ?_)
                    have hP : va_P g.1 vwCl (List.flatten [bTape g ta ab sz ln 3 x_1 x_79 ft fb]) H := hP
                    have hD : va_D A (List.flatten [bTape g ta ab sz ln 3 x_1 x_79 ft fb]) := hD
                    have hP : va_P g.1 vwCl (List.flatten [bTape g ta ab sz ln 3 x_1 x_79 ft fb]) H := hP
                    have hD : va_D A (List.flatten [bTape g ta ab sz ln 3 x_1 x_79 ft fb]) := hD
                    exact mret_v hx hb hr hlocks hS (Nat.le_of_ble_eq_true rfl) (Nat.le_of_ble_eq_true rfl) dX6_step_226 ((3 : Int32), x_1, x_79) rfl (show (0 ≤ x_79.toInt ∧ x_79.toInt ≤ 400) ∧ (0 ≤ x_1.toInt ∧ x_1.toInt ≤ 400) ∧ (zKd (3 : Int32).toInt x_1.toInt x_79.toInt) from ⟨(by first | assumption | omega | decide | exact rfl | exact zb01 (by omega) | exact Or.inl (by decide) | exact Or.inr (by first | omega | decide)), i2, (by first | assumption | omega | decide | exact rfl | exact zb01 (by omega) | exact Or.inl (by decide) | exact Or.inr (by first | omega | decide))⟩) hP hD
                  · skip
                    exact absurd (show x_78.toInt ≤ 57 from zle (Int32.not_lt.mp cb9) rfl (by decide)) (zDle (a := 123) (b := 57) n113 (Int.le_refl _) (by decide))
              · skip
                have c118 : x_78.toInt ≤ 122 := zle (Int32.not_lt.mp cb9) rfl (by decide)
                have n119 : x_78.toInt ≤ 122 := Int.le_trans c118 (Int.le_refl _)
                refine lv_aload_n hx hb dX6_step_95 rfl (lv_at hl 1 rfl) ?_
                refine lv_iconst (v := 1) hx hb dX6_step_96 (by decide) ?_
                refine va_put (D := g.1) (ci := 6) (v := .int 1) (ty := .int) (C := RX6) (T := TX6) (N := 7) hx hb hts izRX6 tyX6 tyX6_ok nmX6 hown hK hP hD hS 0 rfl rfl 3 (by decide) (hts _ k258) (fun _ h9 => h9) rfl (by decide +kernel) rfl rfl (Nat.le_of_ble_eq_true rfl) dX6_step_97 (fun H locs hP hD hS => ?_)
                have hP : va_P g.1 vwCl (List.flatten [bTape g ta ab sz ln 1 x_1 x_79 ft fb]) H := hP
                have hD : va_D A (List.flatten [bTape g ta ab sz ln 1 x_1 x_79 ft fb]) := hD
                have hl := lv_sub (l' := [(0, .ref ta), (1, .int x_78)]) hl [1, 0] rfl
                have LP100_123 : ∀ (kf : Nat) (x_120 : Int32), (1 ≤ x_120.toInt ∧ x_120.toInt ≤ 400) → (x_1.toInt < x_120.toInt) → ∀ (H : Heap) (locs : List Loc) (ls : Array Slot), ((ln.toInt - x_120.toInt).toNat) < kf → va_P g.1 vwCl (List.flatten [bTape g ta ab sz ln 1 x_1 x_120 ft fb]) H → va_D A (List.flatten [bTape g ta ab sz ln 1 x_1 x_120 ft fb]) → va_S A s.heap H locs → lv_has ls 2 [(0, .ref ta), (1, .int x_78)] → W p l e ({ frames := 0, cells := 0, slots := 0, locals := 0 } : Room) s m args below meth c H locs (0) (0) (zF g (fun u : Int32 × Int32 × Int32 => (fun (kd2 : Int32) (bg2 : Int32) (nx2 : Int32) => none) (u.1) (u.2.1) (u.2.2)) (fun u : Int32 × Int32 × Int32 => (fun (kd2 : Int32) (bg2 : Int32) (nx2 : Int32) => (0 ≤ nx2.toInt ∧ nx2.toInt ≤ 400) ∧ (0 ≤ bg2.toInt ∧ bg2.toInt ≤ 400) ∧ (zKd kd2.toInt bg2.toInt nx2.toInt)) (u.1) (u.2.1) (u.2.2)) (fun u : Int32 × Int32 × Int32 => (fun (kd2 : Int32) (bg2 : Int32) (nx2 : Int32) => [bTape g ta ab sz ln kd2 bg2 nx2 ft fb]) (u.1) (u.2.1) (u.2.2)) ({ frames := 0, cells := 0, slots := 0, locals := 0 } : Room) below args s A) (F0 m 100 ls []) := by
                  intro kf
                  induction kf with
                  | zero => intro x_120 i121 i122 H locs ls hk; exact absurd hk (Nat.not_lt_zero _)
                  | succ kf ih100_124 =>
                    intro x_120 i121 i122 H locs ls hk100_124 hP hD hS hl
                    refine lv_aload_n hx hb dX6_step_100 rfl (lv_at hl 0 rfl) ?_
                    refine va_get (D := g.1) (ci := 6) (v := .int x_120) (C := RX6) (T := TX6) (N := 7) hx hb hts izRX6 hown hK hP 0 rfl rfl 5 (by decide) (hts _ k259) (fun _ h9 => h9) rfl dX6_step_101 ?_
                    refine lv_aload_n hx hb dX6_step_104 rfl (lv_at hl 0 rfl) ?_
                    refine va_get (D := g.1) (ci := 6) (v := .int ln) (C := RX6) (T := TX6) (N := 7) hx hb hts izRX6 hown hK hP 0 rfl rfl 2 (by decide) (hts _ k272) (fun _ h9 => h9) rfl dX6_step_105 ?_
                    refine lv_icmp_ge (tgt := 226) hx hb dX6_step_108 (by decide) (fun cb9 => ?_) (fun cb9 => ?_)
                    · skip
                      have c125 : ln.toInt ≤ x_120.toInt := zle cb9 rfl rfl
                      have hP : va_P g.1 vwCl (List.flatten [bTape g ta ab sz ln 1 x_1 x_120 ft fb]) H := hP
                      have hD : va_D A (List.flatten [bTape g ta ab sz ln 1 x_1 x_120 ft fb]) := hD
                      exact mret_v hx hb hr hlocks hS (Nat.le_of_ble_eq_true rfl) (Nat.le_of_ble_eq_true rfl) dX6_step_226 ((1 : Int32), x_1, x_120) rfl (show (0 ≤ x_120.toInt ∧ x_120.toInt ≤ 400) ∧ (0 ≤ x_1.toInt ∧ x_1.toInt ≤ 400) ∧ (zKd (1 : Int32).toInt x_1.toInt x_120.toInt) from ⟨(by first | assumption | omega | decide | exact rfl | exact zb01 (by omega) | exact Or.inl (by decide) | exact Or.inr (by first | omega | decide)), i2, (by first | assumption | omega | decide | exact rfl | exact zb01 (by omega) | exact Or.inl (by decide) | exact Or.inr (by first | omega | decide))⟩) hP hD
                    · skip
                      have c126 : x_120.toInt < ln.toInt := zlti (Int32.not_le.mp cb9) rfl rfl
                      have n127 : x_120.toInt ≤ 399 := zL1 (b := 400) c126 hln.2 (by decide)
                      have n128 : 2 ≤ ln.toInt := zL2 (a := 1) c126 i121.1 (by decide)
                      refine lv_aload_n hx hb dX6_step_111 rfl (lv_at hl 0 rfl) ?_
                      refine va_get (D := g.1) (ci := 6) (v := .ref ab) (C := RX6) (T := TX6) (N := 7) hx hb hts izRX6 hown hK hP 0 rfl rfl 0 (by decide) (hts _ k261) (fun _ h9 => h9) rfl dX6_step_112 ?_
                      refine lv_aload_n hx hb dX6_step_115 rfl (lv_at hl 0 rfl) ?_
                      refine va_get (D := g.1) (ci := 6) (v := .int x_120) (C := RX6) (T := TX6) (N := 7) hx hb hts izRX6 hown hK hP 0 rfl rfl 5 (by decide) (hts _ k259) (fun _ h9 => h9) rfl dX6_step_116 ?_
                      refine va_iald hx hb hK hP 1 0 rfl rfl (zinK (a := 1) (b := 399) i121.1 n127 (by decide)) dX6_step_119 ?_
                      refine zg (fun x_129 => ?_)
                      refine lv_bipush (v := 97) hx hb dX6_step_120 (by decide) ?_
                      refine lv_icmp_lt (tgt := 226) hx hb dX6_step_122 (by decide) (fun cb9 => ?_) (fun cb9 => ?_)
                      · skip
                        have c130 : x_129.toInt < 97 := zlti cb9 rfl (by decide)
                        have n131 : x_129.toInt ≤ 96 := zL1 (b := 97) c130 (Int.le_refl _) (by decide)
                        have hP : va_P g.1 vwCl (List.flatten [bTape g ta ab sz ln 1 x_1 x_120 ft fb]) H := hP
                        have hD : va_D A (List.flatten [bTape g ta ab sz ln 1 x_1 x_120 ft fb]) := hD
                        exact mret_v hx hb hr hlocks hS (Nat.le_of_ble_eq_true rfl) (Nat.le_of_ble_eq_true rfl) dX6_step_226 ((1 : Int32), x_1, x_120) rfl (show (0 ≤ x_120.toInt ∧ x_120.toInt ≤ 400) ∧ (0 ≤ x_1.toInt ∧ x_1.toInt ≤ 400) ∧ (zKd (1 : Int32).toInt x_1.toInt x_120.toInt) from ⟨(by first | assumption | omega | decide | exact rfl | exact zb01 (by omega) | exact Or.inl (by decide) | exact Or.inr (by first | omega | decide)), i2, (by first | assumption | omega | decide | exact rfl | exact zb01 (by omega) | exact Or.inl (by decide) | exact Or.inr (by first | omega | decide))⟩) hP hD
                      · skip
                        have c132 : 97 ≤ x_129.toInt := zle (Int32.not_lt.mp cb9) (by decide) rfl
                        have n133 : 97 ≤ x_129.toInt := Int.le_trans (Int.le_refl _) c132
                        refine lv_aload_n hx hb dX6_step_125 rfl (lv_at hl 0 rfl) ?_
                        refine va_get (D := g.1) (ci := 6) (v := .ref ab) (C := RX6) (T := TX6) (N := 7) hx hb hts izRX6 hown hK hP 0 rfl rfl 0 (by decide) (hts _ k261) (fun _ h9 => h9) rfl dX6_step_126 ?_
                        refine lv_aload_n hx hb dX6_step_129 rfl (lv_at hl 0 rfl) ?_
                        refine va_get (D := g.1) (ci := 6) (v := .int x_120) (C := RX6) (T := TX6) (N := 7) hx hb hts izRX6 hown hK hP 0 rfl rfl 5 (by decide) (hts _ k259) (fun _ h9 => h9) rfl dX6_step_130 ?_
                        refine va_iald hx hb hK hP 1 0 rfl rfl (zinK (a := 1) (b := 399) i121.1 n127 (by decide)) dX6_step_133 ?_
                        refine zg (fun x_134 => ?_)
                        refine lv_bipush (v := 122) hx hb dX6_step_134 (by decide) ?_
                        refine lv_icmp_gt (tgt := 226) hx hb dX6_step_136 (by decide) (fun cb9 => ?_) (fun cb9 => ?_)
                        · skip
                          have c135 : 122 < x_134.toInt := zlti cb9 (by decide) rfl
                          have n136 : 123 ≤ x_134.toInt := zL2 (a := 122) c135 (Int.le_refl _) (by decide)
                          have hP : va_P g.1 vwCl (List.flatten [bTape g ta ab sz ln 1 x_1 x_120 ft fb]) H := hP
                          have hD : va_D A (List.flatten [bTape g ta ab sz ln 1 x_1 x_120 ft fb]) := hD
                          exact mret_v hx hb hr hlocks hS (Nat.le_of_ble_eq_true rfl) (Nat.le_of_ble_eq_true rfl) dX6_step_226 ((1 : Int32), x_1, x_120) rfl (show (0 ≤ x_120.toInt ∧ x_120.toInt ≤ 400) ∧ (0 ≤ x_1.toInt ∧ x_1.toInt ≤ 400) ∧ (zKd (1 : Int32).toInt x_1.toInt x_120.toInt) from ⟨(by first | assumption | omega | decide | exact rfl | exact zb01 (by omega) | exact Or.inl (by decide) | exact Or.inr (by first | omega | decide)), i2, (by first | assumption | omega | decide | exact rfl | exact zb01 (by omega) | exact Or.inl (by decide) | exact Or.inr (by first | omega | decide))⟩) hP hD
                        · skip
                          have c137 : x_134.toInt ≤ 122 := zle (Int32.not_lt.mp cb9) rfl (by decide)
                          have n138 : x_134.toInt ≤ 122 := Int.le_trans c137 (Int.le_refl _)
                          refine lv_aload_n hx hb dX6_step_139 rfl (lv_at hl 0 rfl) ?_
                          refine lv_dup hx hb dX6_step_140 rfl ?_
                          refine va_get (D := g.1) (ci := 6) (v := .int x_120) (C := RX6) (T := TX6) (N := 7) hx hb hts izRX6 hown hK hP 0 rfl rfl 5 (by decide) (hts _ k259) (fun _ h9 => h9) rfl dX6_step_141 ?_
                          refine lv_iconst (v := 1) hx hb dX6_step_144 (by decide) ?_
                          refine lv_iadd hx hb dX6_step_145 ?_
                          refine zg3 (zaddK (i := x_120.toInt) (j := 1) (a' := 2) (b' := 400) rfl (by decide) i121.1 n127 (Int.le_refl _) (Int.le_refl _) (by decide)) (fun x_139 hx_139 => ?_)
                          refine va_put (D := g.1) (ci := 6) (v := .int x_139) (ty := .int) (C := RX6) (T := TX6) (N := 7) hx hb hts izRX6 tyX6 tyX6_ok nmX6 hown hK hP hD hS 0 rfl rfl 5 (by decide) (hts _ k259) (fun _ h9 => h9) rfl (by decide +kernel) rfl rfl (Nat.le_of_ble_eq_true rfl) dX6_step_146 (fun H locs hP hD hS => ?_)
                          have hP : va_P g.1 vwCl (List.flatten [bTape g ta ab sz ln 1 x_1 x_139 ft fb]) H := hP
                          have hD : va_D A (List.flatten [bTape g ta ab sz ln 1 x_1 x_139 ft fb]) := hD
                          refine lv_goto (tgt := 100) hx hb dX6_step_149 (by decide) ?_
                          have hP : va_P g.1 vwCl (List.flatten [bTape g ta ab sz ln 1 x_1 x_139 ft fb]) H := hP
                          have hD : va_D A (List.flatten [bTape g ta ab sz ln 1 x_1 x_139 ft fb]) := hD
                          exact ih100_124 x_139 ⟨(Int.le_trans (by decide) hx_139.2.1), hx_139.2.2⟩ (by first | omega | assumption | decide) H _ ls (by omega)  hP hD hS (lv_sub hl [0, 1] rfl)
                have hP : va_P g.1 vwCl (List.flatten [bTape g ta ab sz ln 1 x_1 x_79 ft fb]) H := hP
                have hD : va_D A (List.flatten [bTape g ta ab sz ln 1 x_1 x_79 ft fb]) := hD
                exact LP100_123 _ x_79 ⟨hx_79.2.1, hx_79.2.2⟩ (by first | omega | assumption | decide) H _ ls (Nat.lt_succ_self _)  hP hD hS (lv_sub hl [0, 1] rfl)
          · skip
            have c140 : ln.toInt ≤ x_1.toInt := zle (Int32.not_lt.mp cb9) rfl rfl
            have n141 : 1 ≤ x_1.toInt := Int.le_trans n74 c140
            have n142 : ln.toInt ≤ 399 := Int.le_trans c140 n73
            refine lv_aload_n hx hb dX6_step_57 rfl (lv_at hl 0 rfl) ?_
            refine lv_iconst (v := 0) hx hb dX6_step_58 (by decide) ?_
            refine va_put (D := g.1) (ci := 6) (v := .int 0) (ty := .int) (C := RX6) (T := TX6) (N := 7) hx hb hts izRX6 tyX6 tyX6_ok nmX6 hown hK hP hD hS 0 rfl rfl 3 (by decide) (hts _ k258) (fun _ h9 => h9) rfl (by decide +kernel) rfl rfl (Nat.le_of_ble_eq_true rfl) dX6_step_59 (fun H locs hP hD hS => ?_)
            have hP : va_P g.1 vwCl (List.flatten [bTape g ta ab sz ln 0 x_1 x_1 ft fb]) H := hP
            have hD : va_D A (List.flatten [bTape g ta ab sz ln 0 x_1 x_1 ft fb]) := hD
            have hP : va_P g.1 vwCl (List.flatten [bTape g ta ab sz ln 0 x_1 x_1 ft fb]) H := hP
            have hD : va_D A (List.flatten [bTape g ta ab sz ln 0 x_1 x_1 ft fb]) := hD
            exact mret_v hx hb hr hlocks hS (Nat.le_of_ble_eq_true rfl) (Nat.le_of_ble_eq_true rfl) dX6_step_62 ((0 : Int32), x_1, x_1) rfl (show (0 ≤ x_1.toInt ∧ x_1.toInt ≤ 400) ∧ (0 ≤ x_1.toInt ∧ x_1.toInt ≤ 400) ∧ (zKd (0 : Int32).toInt x_1.toInt x_1.toInt) from ⟨i2, i2, (by first | assumption | omega | decide | exact rfl | exact zb01 (by omega) | exact Or.inl (by decide) | exact Or.inr (by first | omega | decide))⟩) hP hD
        · skip
          have c143 : x_75.toInt = 32 := zeq cb9 rfl (by decide)
          have n144 : 32 ≤ x_75.toInt := Int.le_trans (Int.le_refl _) (Int.le_of_eq c143.symm)
          have n145 : x_75.toInt ≤ 32 := Int.le_trans (Int.le_of_eq c143) (Int.le_refl _)
          refine lv_aload_n hx hb dX6_step_25 rfl (lv_at hl 0 rfl) ?_
          refine lv_dup hx hb dX6_step_26 rfl ?_
          refine va_get (D := g.1) (ci := 6) (v := .int x_1) (C := RX6) (T := TX6) (N := 7) hx hb hts izRX6 hown hK hP 0 rfl rfl 5 (by decide) (hts _ k259) (fun _ h9 => h9) rfl dX6_step_27 ?_
          refine lv_iconst (v := 1) hx hb dX6_step_30 (by decide) ?_
          refine lv_iadd hx hb dX6_step_31 ?_
          refine zg3 (zaddK (i := x_1.toInt) (j := 1) (a' := 1) (b' := 400) rfl (by decide) i2.1 n73 (Int.le_refl _) (Int.le_refl _) (by decide)) (fun x_146 hx_146 => ?_)
          refine va_put (D := g.1) (ci := 6) (v := .int x_146) (ty := .int) (C := RX6) (T := TX6) (N := 7) hx hb hts izRX6 tyX6 tyX6_ok nmX6 hown hK hP hD hS 0 rfl rfl 5 (by decide) (hts _ k259) (fun _ h9 => h9) rfl (by decide +kernel) rfl rfl (Nat.le_of_ble_eq_true rfl) dX6_step_32 (fun H locs hP hD hS => ?_)
          have hP : va_P g.1 vwCl (List.flatten [bTape g ta ab sz ln kd bg x_146 ft fb]) H := hP
          have hD : va_D A (List.flatten [bTape g ta ab sz ln kd bg x_146 ft fb]) := hD
          refine lv_goto (tgt := 0) hx hb dX6_step_35 (by decide) ?_
          have hP : va_P g.1 vwCl (List.flatten [bTape g ta ab sz ln kd bg x_146 ft fb]) H := hP
          have hD : va_D A (List.flatten [bTape g ta ab sz ln kd bg x_146 ft fb]) := hD
          exact ih0_4 x_146 ⟨(Int.le_trans (by decide) hx_146.2.1), hx_146.2.2⟩ H _ ls (by omega)  hP hD hS (lv_sub hl [0] rfl)
  have hP : va_P g.1 vwCl (List.flatten [bTape g ta ab sz ln kd bg nx ft fb]) s.heap := hP
  have hD : va_D A (List.flatten [bTape g ta ab sz ln kd bg nx ft fb]) := hD
  exact LP0_3 _ nx ⟨hnx.1, hnx.2⟩ s.heap _ ls (Nat.lt_succ_self _)  hP hD hS (lv_sub hl [0] rfl)
