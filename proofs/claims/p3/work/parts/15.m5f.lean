set_option maxRecDepth 100000 in
set_option maxHeartbeats 4000000 in
theorem m_steps (l : Launch) (g : zG) (o : Nat) (a : Nat → Nat) (th : Int32) (hi : Int32) (ac : Int32) (tp : Int32) (ba : Int32) (en : Int32) (tA : Int32) (fl : Int32) (de : Int32) (iD : Int32) (iO : Int32) (tU : Int32) (fm : Nat → Int32) (fk : Nat → Int32) (fa : Nat → Int32) (fc : Nat → Int32) (ft : Nat → Int32) (ff : Nat → Int32) (fb : Nat → Int32) (fi : Nat → Int32) (x : Int32) (o2 : Int32) (rfm : rM fm) : zM' g l yX12_steps (Cond.code yX12_steps cX12_steps 4 (some .int) :: zB) ({ frames := 2, cells := 0, slots := 0, locals := 49 } : Room) [.ref o, .int x, .int o2] [bMo g o a th hi ac tp ba en tA fl de iD iO tU fm fk fa fc ft ff fb fi] (fun u : Int32 × Int32 => (fun (th2 : Int32) (q : Int32) => some (.int q)) (u.1) (u.2)) (fun u : Int32 × Int32 => (fun (th2 : Int32) (q : Int32) => True) (u.1) (u.2)) (fun u : Int32 × Int32 => (fun (th2 : Int32) (q : Int32) => [bMo g o a th2 hi ac tp ba en tA fl de iD iO tU fm fk fa fc ft ff fb fi]) (u.1) (u.2)) := by
  refine zM'.of (cc := cX12_steps) (maxL := 4) (rt := (some .int)) (by decide) rfl (Nat.le_of_ble_eq_true rfl) ?_
  intro p e s m args below meth c A ls St hr hlocks hin hK hT hA hP hD hS hl
  obtain ⟨hx, hb, hml, hown, hts⟩ := id St
  have hl : lv_has ls 4 [(0, .ref o), (1, .int x), (2, .int o2)] := hl
  refine lv_aload_n hx hb dX12_steps_0 rfl (lv_at hl 0 rfl) ?_
  refine lv_aload_n hx hb dX12_steps_1 rfl (lv_at hl 0 rfl) ?_
  refine lv_iload_n hx hb dX12_steps_2 rfl (lv_at hl 1 rfl) ?_
  refine mcallV' (g := g) (q0 := 0) (ci := 10) (As := [.int x]) (rest := [.ref o]) St hK hT hA hP hD hS hl.1 [0] [] rfl rfl rfl (m_isPerson l g o a th hi ac tp ba en tA fl de iD iO tU fm fk fa fc ft ff fb fi x (by first | assumption | omega | decide | exact Or.inl (by decide) | exact Or.inr (by decide))) (cwV 1 hts (zgL (zl4 k1032 k1033 k1034 k837) k834) rfl rfl rfl (by decide +kernel) ⟨Nat.le_of_ble_eq_true rfl, Nat.le_of_ble_eq_true rfl⟩) rfl rfl rfl rfl (Nat.le_of_ble_eq_true rfl) dX12_steps_3 ⟨(Nat.le_of_ble_eq_true rfl), (Nat.le_of_ble_eq_true rfl)⟩ (fun q_1 H locs hq2 hP hD hS => ?_)
  replace hq2 : (q_1 = 1 ∧ 0 ≤ x.toInt ∧ x.toInt ≤ 7 ∧ x.toInt < (fm 3).toInt ∨ q_1 = 0) := hq2
  have hP : va_P g.1 vwCl (List.flatten [bMo g o a th hi ac tp ba en tA fl de iD iO tU fm fk fa fc ft ff fb fi]) H := hP
  have hD : va_D A (List.flatten [bMo g o a th hi ac tp ba en tA fl de iD iO tU fm fk fa fc ft ff fb fi]) := hD
  refine W.widen (k := 0) (n := 0) (Nat.le_of_ble_eq_true rfl) (Nat.le_of_ble_eq_true rfl) ?_
  refine W.eq (g2 := F0 m 6 ls [.int q_1, .ref o]) rfl ?_
  rcases hq2 with ⟨rfl, hq2_k⟩ | rfl
  · skip
    refine lv_if_eq (tgt := 17) hx hb dX12_steps_6 (by decide) (fun c3 => absurd c3 (by decide)) (fun _ => ?_)
    refine lv_aload_n hx hb dX12_steps_9 rfl (lv_at hl 0 rfl) ?_
    refine lv_iload_n hx hb dX12_steps_10 rfl (lv_at hl 2 rfl) ?_
    refine mcallV' (g := g) (q0 := 0) (ci := 10) (As := [.int o2]) (rest := [.ref o]) St hK hT hA hP hD hS hl.1 [0] [] rfl rfl rfl (m_isPerson l g o a th hi ac tp ba en tA fl de iD iO tU fm fk fa fc ft ff fb fi o2 (by first | assumption | omega | decide | exact Or.inl (by decide) | exact Or.inr (by decide))) (cwV 1 hts (zgL (zl4 k1032 k1033 k1034 k837) k834) rfl rfl rfl (by decide +kernel) ⟨Nat.le_of_ble_eq_true rfl, Nat.le_of_ble_eq_true rfl⟩) rfl rfl rfl rfl (Nat.le_of_ble_eq_true rfl) dX12_steps_11 ⟨(Nat.le_of_ble_eq_true rfl), (Nat.le_of_ble_eq_true rfl)⟩ (fun q_4 H locs hq5 hP hD hS => ?_)
    replace hq5 : (q_4 = 1 ∧ 0 ≤ o2.toInt ∧ o2.toInt ≤ 7 ∧ o2.toInt < (fm 3).toInt ∨ q_4 = 0) := hq5
    have hP : va_P g.1 vwCl (List.flatten [bMo g o a th hi ac tp ba en tA fl de iD iO tU fm fk fa fc ft ff fb fi]) H := hP
    have hD : va_D A (List.flatten [bMo g o a th hi ac tp ba en tA fl de iD iO tU fm fk fa fc ft ff fb fi]) := hD
    refine W.widen (k := 0) (n := 0) (Nat.le_of_ble_eq_true rfl) (Nat.le_of_ble_eq_true rfl) ?_
    refine W.eq (g2 := F0 m 14 ls [.int q_4, .ref o]) rfl ?_
    rcases hq5 with ⟨rfl, hq5_k⟩ | rfl
    · skip
      refine lv_if_ne (tgt := 21) hx hb dX12_steps_14 (by decide) (fun _ => ?_) (fun c6 => absurd c6 (by decide))
      refine lv_iload_n hx hb dX12_steps_21 rfl (lv_at hl 1 rfl) ?_
      refine lv_iload_n hx hb dX12_steps_22 rfl (lv_at hl 2 rfl) ?_
      refine lv_icmp_ne (tgt := 30) hx hb dX12_steps_23 (by decide) (fun cb9 => ?_) (fun cb9 => ?_)
      · skip
        have c7 : ¬ x.toInt = o2.toInt := zne cb9 rfl rfl
        refine lv_iconst (v := 0) hx hb dX12_steps_30 (by decide) ?_
        refine va_put (D := g.1) (ci := 10) (v := .int 0) (ty := .int) (C := RX12) (T := TX12) (N := 20) hx hb hts izRX12 tyX12 tyX12_ok nmX12 hown hK hP hD hS 0 rfl rfl 0 (by decide) (hts _ k871) (fun _ h9 => h9) rfl (by decide +kernel) rfl rfl (Nat.le_of_ble_eq_true rfl) dX12_steps_31 (fun H locs hP hD hS => ?_)
        have hP : va_P g.1 vwCl (List.flatten [bMo g o a 0 hi ac tp ba en tA fl de iD iO tU fm fk fa fc ft ff fb fi]) H := hP
        have hD : va_D A (List.flatten [bMo g o a 0 hi ac tp ba en tA fl de iD iO tU fm fk fa fc ft ff fb fi]) := hD
        refine lv_aload_n hx hb dX12_steps_34 rfl (lv_at hl 0 rfl) ?_
        refine va_get (D := g.1) (ci := 10) (v := .int 0) (C := RX12) (T := TX12) (N := 20) hx hb hts izRX12 hown hK hP 0 rfl rfl 0 (by decide) (hts _ k871) (fun _ h9 => h9) rfl dX12_steps_35 ?_
        refine lv_if_le (tgt := 43) hx hb dX12_steps_38 (by decide) (fun _ => ?_) (fun c8 => absurd (by decide) c8)
        refine lv_iconst (v := 1) hx hb dX12_steps_43 (by decide) ?_
        refine lv_istore_n (lv' := [(3, .int 1), (0, .ref o), (1, .int x), (2, .int o2)]) hx hb dX12_steps_44 rfl hl (by decide) rfl (fun ls hl => ?_)
        have hl := lv_sub (l' := [(0, .ref o), (1, .int x), (2, .int o2), (3, .int 1)]) hl [1, 2, 3, 0] rfl
        have LP45_11 : ∀ (kf : Nat) (x_9 : Int32), (1 ≤ x_9.toInt ∧ x_9.toInt ≤ 8) → ∀ (H : Heap) (locs : List Loc) (ls : Array Slot), ((9 - x_9.toInt).toNat) < kf → va_P g.1 vwCl (List.flatten [bMo g o a 0 hi ac tp ba en tA fl de iD iO tU fm fk fa fc ft ff fb fi]) H → va_D A (List.flatten [bMo g o a 0 hi ac tp ba en tA fl de iD iO tU fm fk fa fc ft ff fb fi]) → va_S A s.heap H locs → lv_has ls 4 [(0, .ref o), (1, .int x), (2, .int o2), (3, .int x_9)] → W p l e ({ frames := 2, cells := 0, slots := 0, locals := 49 } : Room) s m args below meth c H locs (0) (0) (zF g (fun u : Int32 × Int32 => (fun (th2 : Int32) (q : Int32) => some (.int q)) (u.1) (u.2)) (fun u : Int32 × Int32 => (fun (th2 : Int32) (q : Int32) => True) (u.1) (u.2)) (fun u : Int32 × Int32 => (fun (th2 : Int32) (q : Int32) => [bMo g o a th2 hi ac tp ba en tA fl de iD iO tU fm fk fa fc ft ff fb fi]) (u.1) (u.2)) ({ frames := 2, cells := 0, slots := 0, locals := 49 } : Room) below args s A) (F0 m 45 ls []) := by
          intro kf
          induction kf with
          | zero => intro x_9 i10 H locs ls hk; exact absurd hk (Nat.not_lt_zero _)
          | succ kf ih45_12 =>
            intro x_9 i10 H locs ls hk45_12 hP hD hS hl
            refine lv_iload_n hx hb dX12_steps_45 rfl (lv_at hl 3 rfl) ?_
            refine lv_bipush (v := 8) hx hb dX12_steps_46 (by decide) ?_
            refine lv_icmp_ge (tgt := 74) hx hb dX12_steps_48 (by decide) (fun cb9 => ?_) (fun cb9 => ?_)
            · skip
              have c13 : 8 ≤ x_9.toInt := zle cb9 (by decide) rfl
              have n14 : 8 ≤ x_9.toInt := Int.le_trans (Int.le_refl _) c13
              refine lv_iconst (v := (-1)) hx hb dX12_steps_74 (by decide) ?_
              have hP : va_P g.1 vwCl (List.flatten [bMo g o a 0 hi ac tp ba en tA fl de iD iO tU fm fk fa fc ft ff fb fi]) H := hP
              have hD : va_D A (List.flatten [bMo g o a 0 hi ac tp ba en tA fl de iD iO tU fm fk fa fc ft ff fb fi]) := hD
              exact mret_i hx hb hr hlocks hS (Nat.le_of_ble_eq_true rfl) (Nat.le_of_ble_eq_true rfl) dX12_steps_75 ((0 : Int32), -1) rfl trivial hP hD
            · skip
              have c15 : x_9.toInt < 8 := zlti (Int32.not_le.mp cb9) rfl (by decide)
              have n16 : x_9.toInt ≤ 7 := zL1 (b := 8) c15 (Int.le_refl _) (by decide)
              refine lv_aload_n hx hb dX12_steps_51 rfl (lv_at hl 0 rfl) ?_
              refine lv_iconst (v := 1) hx hb dX12_steps_52 (by decide) ?_
              refine lv_iload_n hx hb dX12_steps_53 rfl (lv_at hl 1 rfl) ?_
              refine lv_ishl hx hb dX12_steps_54 ?_
              refine zgb (zshl1 (j := x.toInt) rfl 7 128 (by decide) (by decide) (by omega)) (fun x_17 hx_17 => ?_)
              refine lv_iload_n hx hb dX12_steps_55 rfl (lv_at hl 3 rfl) ?_
              refine mcallV' (g := g) (q0 := 0) (ci := 10) (As := [.int x_17, .int x_9]) (rest := []) St hK hT hA hP hD hS hl.1 [0] [] rfl rfl rfl (m_passes l g o a 0 hi ac tp ba en tA fl de iD iO tU fm fk fa fc ft ff fb fi x_17 x_9 (by first | assumption | omega | decide | exact Or.inl (by decide) | exact Or.inr (by decide)) (⟨(Int.le_trans (by decide) i10.1), (Int.le_trans n16 (by decide))⟩)) (cwV 2 hts (zgL (zl4 k1110 k1111 k1112 k837) k1108) rfl rfl rfl (by decide +kernel) ⟨Nat.le_of_ble_eq_true rfl, Nat.le_of_ble_eq_true rfl⟩) rfl rfl rfl rfl (Nat.le_of_ble_eq_true rfl) dX12_steps_56 ⟨(Nat.le_of_ble_eq_true rfl), (Nat.le_of_ble_eq_true rfl)⟩ (fun q_18 H locs hq19 hP hD hS => ?_)
              have hP : va_P g.1 vwCl (List.flatten [bMo g o a 0 hi ac tp ba en tA fl de iD iO tU fm fk fa fc ft ff fb fi]) H := hP
              have hD : va_D A (List.flatten [bMo g o a 0 hi ac tp ba en tA fl de iD iO tU fm fk fa fc ft ff fb fi]) := hD
              refine W.widen (k := 0) (n := 0) (Nat.le_of_ble_eq_true rfl) (Nat.le_of_ble_eq_true rfl) ?_
              refine W.eq (g2 := F0 m 59 ls [.int q_18]) rfl ?_
              refine lv_iload_n hx hb dX12_steps_59 rfl (lv_at hl 2 rfl) ?_
              refine mcallS' (g := g) (As := [.int q_18, .int o2]) (rest := []) St hK hT hA hP hD hS hl.1 [] [0] rfl rfl rfl (m_isOf l g q_18 o2 ) (va_cwS 2 hts (zgL (zl3 k1061 k1062 k837) k827) rfl rfl rfl (by decide +kernel) ⟨Nat.le_of_ble_eq_true rfl, Nat.le_of_ble_eq_true rfl⟩) rfl rfl (Nat.le_of_ble_eq_true rfl) dX12_steps_60 ⟨(Nat.le_of_ble_eq_true rfl), (Nat.le_of_ble_eq_true rfl)⟩ (fun q_20 H locs hq21 hP hD hS => ?_)
              replace hq21 : (q_20 = 0 ∨ q_20 = 1) := hq21
              have hP : va_P g.1 vwCl (List.flatten [bMo g o a 0 hi ac tp ba en tA fl de iD iO tU fm fk fa fc ft ff fb fi]) H := hP
              have hD : va_D A (List.flatten [bMo g o a 0 hi ac tp ba en tA fl de iD iO tU fm fk fa fc ft ff fb fi]) := hD
              refine W.widen (k := 0) (n := 0) (Nat.le_of_ble_eq_true rfl) (Nat.le_of_ble_eq_true rfl) ?_
              refine W.eq (g2 := F0 m 63 ls [.int q_20]) rfl ?_
              rcases hq21 with rfl | rfl
              · skip
                refine lv_if_eq (tgt := 68) hx hb dX12_steps_63 (by decide) (fun _ => ?_) (fun c22 => absurd (by decide) c22)
                refine ziinc3 (n' := 1) (a' := 2) (b' := 8) (lv' := fun v9 => [(3, .int v9), (0, .ref o), (1, .int x), (2, .int o2)]) hx hb dX12_steps_68 hl (k := 3) rfl (by decide) (fun _ => rfl) (zaddK (i := x_9.toInt) (j := 1) rfl (by decide) i10.1 n16 (Int.le_refl _) (Int.le_refl _) (by decide)) (fun x_23 ls hx_23 hl => ?_)
                refine lv_goto (tgt := 45) hx hb dX12_steps_71 (by decide) ?_
                have hl := lv_sub (l' := [(0, .ref o), (1, .int x), (2, .int o2), (3, .int x_23)]) hl [1, 2, 3, 0] rfl
                have hP : va_P g.1 vwCl (List.flatten [bMo g o a 0 hi ac tp ba en tA fl de iD iO tU fm fk fa fc ft ff fb fi]) H := hP
                have hD : va_D A (List.flatten [bMo g o a 0 hi ac tp ba en tA fl de iD iO tU fm fk fa fc ft ff fb fi]) := hD
                exact ih45_12 x_23 ⟨(Int.le_trans (by decide) hx_23.2.1), hx_23.2.2⟩ H _ ls (zmK hx_23.1 (by decide) n16 (by decide) hk45_12)  hP hD hS (lv_sub hl [0, 1, 2, 3] rfl)
              · skip
                refine lv_if_eq (tgt := 68) hx hb dX12_steps_63 (by decide) (fun c24 => absurd c24 (by decide)) (fun _ => ?_)
                refine lv_iload_n hx hb dX12_steps_66 rfl (lv_at hl 3 rfl) ?_
                have hP : va_P g.1 vwCl (List.flatten [bMo g o a 0 hi ac tp ba en tA fl de iD iO tU fm fk fa fc ft ff fb fi]) H := hP
                have hD : va_D A (List.flatten [bMo g o a 0 hi ac tp ba en tA fl de iD iO tU fm fk fa fc ft ff fb fi]) := hD
                exact mret_i hx hb hr hlocks hS (Nat.le_of_ble_eq_true rfl) (Nat.le_of_ble_eq_true rfl) dX12_steps_67 ((0 : Int32), x_9) rfl trivial hP hD
        have hP : va_P g.1 vwCl (List.flatten [bMo g o a 0 hi ac tp ba en tA fl de iD iO tU fm fk fa fc ft ff fb fi]) H := hP
        have hD : va_D A (List.flatten [bMo g o a 0 hi ac tp ba en tA fl de iD iO tU fm fk fa fc ft ff fb fi]) := hD
        exact LP45_11 _ 1 (by decide) H _ ls (Nat.lt_succ_self _)  hP hD hS (lv_sub hl [0, 1, 2, 3] rfl)
      · skip
        have c25 : x.toInt = o2.toInt := zeq cb9 rfl rfl
        refine lv_iconst (v := 2) hx hb dX12_steps_26 (by decide) ?_
        refine lv_goto (tgt := 31) hx hb dX12_steps_27 (by decide) ?_
        refine va_put (D := g.1) (ci := 10) (v := .int 2) (ty := .int) (C := RX12) (T := TX12) (N := 20) hx hb hts izRX12 tyX12 tyX12_ok nmX12 hown hK hP hD hS 0 rfl rfl 0 (by decide) (hts _ k871) (fun _ h9 => h9) rfl (by decide +kernel) rfl rfl (Nat.le_of_ble_eq_true rfl) dX12_steps_31 (fun H locs hP hD hS => ?_)
        have hP : va_P g.1 vwCl (List.flatten [bMo g o a 2 hi ac tp ba en tA fl de iD iO tU fm fk fa fc ft ff fb fi]) H := hP
        have hD : va_D A (List.flatten [bMo g o a 2 hi ac tp ba en tA fl de iD iO tU fm fk fa fc ft ff fb fi]) := hD
        refine lv_aload_n hx hb dX12_steps_34 rfl (lv_at hl 0 rfl) ?_
        refine va_get (D := g.1) (ci := 10) (v := .int 2) (C := RX12) (T := TX12) (N := 20) hx hb hts izRX12 hown hK hP 0 rfl rfl 0 (by decide) (hts _ k871) (fun _ h9 => h9) rfl dX12_steps_35 ?_
        refine lv_if_le (tgt := 43) hx hb dX12_steps_38 (by decide) (fun c26 => absurd c26 (by decide)) (fun _ => ?_)
        refine lv_iconst (v := 0) hx hb dX12_steps_41 (by decide) ?_
        have hP : va_P g.1 vwCl (List.flatten [bMo g o a 2 hi ac tp ba en tA fl de iD iO tU fm fk fa fc ft ff fb fi]) H := hP
        have hD : va_D A (List.flatten [bMo g o a 2 hi ac tp ba en tA fl de iD iO tU fm fk fa fc ft ff fb fi]) := hD
        exact mret_i hx hb hr hlocks hS (Nat.le_of_ble_eq_true rfl) (Nat.le_of_ble_eq_true rfl) dX12_steps_42 ((2 : Int32), (0 : Int32)) rfl trivial hP hD
    · skip
      refine lv_if_ne (tgt := 21) hx hb dX12_steps_14 (by decide) (fun c27 => absurd (by decide) c27) (fun _ => ?_)
      refine lv_iconst (v := 1) hx hb dX12_steps_17 (by decide) ?_
      refine lv_goto (tgt := 31) hx hb dX12_steps_18 (by decide) ?_
      refine va_put (D := g.1) (ci := 10) (v := .int 1) (ty := .int) (C := RX12) (T := TX12) (N := 20) hx hb hts izRX12 tyX12 tyX12_ok nmX12 hown hK hP hD hS 0 rfl rfl 0 (by decide) (hts _ k871) (fun _ h9 => h9) rfl (by decide +kernel) rfl rfl (Nat.le_of_ble_eq_true rfl) dX12_steps_31 (fun H locs hP hD hS => ?_)
      have hP : va_P g.1 vwCl (List.flatten [bMo g o a 1 hi ac tp ba en tA fl de iD iO tU fm fk fa fc ft ff fb fi]) H := hP
      have hD : va_D A (List.flatten [bMo g o a 1 hi ac tp ba en tA fl de iD iO tU fm fk fa fc ft ff fb fi]) := hD
      refine lv_aload_n hx hb dX12_steps_34 rfl (lv_at hl 0 rfl) ?_
      refine va_get (D := g.1) (ci := 10) (v := .int 1) (C := RX12) (T := TX12) (N := 20) hx hb hts izRX12 hown hK hP 0 rfl rfl 0 (by decide) (hts _ k871) (fun _ h9 => h9) rfl dX12_steps_35 ?_
      refine lv_if_le (tgt := 43) hx hb dX12_steps_38 (by decide) (fun c28 => absurd c28 (by decide)) (fun _ => ?_)
      refine lv_iconst (v := 0) hx hb dX12_steps_41 (by decide) ?_
      have hP : va_P g.1 vwCl (List.flatten [bMo g o a 1 hi ac tp ba en tA fl de iD iO tU fm fk fa fc ft ff fb fi]) H := hP
      have hD : va_D A (List.flatten [bMo g o a 1 hi ac tp ba en tA fl de iD iO tU fm fk fa fc ft ff fb fi]) := hD
      exact mret_i hx hb hr hlocks hS (Nat.le_of_ble_eq_true rfl) (Nat.le_of_ble_eq_true rfl) dX12_steps_42 ((1 : Int32), (0 : Int32)) rfl trivial hP hD
  · skip
    refine lv_if_eq (tgt := 17) hx hb dX12_steps_6 (by decide) (fun _ => ?_) (fun c29 => absurd (by decide) c29)
    refine lv_iconst (v := 1) hx hb dX12_steps_17 (by decide) ?_
    refine lv_goto (tgt := 31) hx hb dX12_steps_18 (by decide) ?_
    refine va_put (D := g.1) (ci := 10) (v := .int 1) (ty := .int) (C := RX12) (T := TX12) (N := 20) hx hb hts izRX12 tyX12 tyX12_ok nmX12 hown hK hP hD hS 0 rfl rfl 0 (by decide) (hts _ k871) (fun _ h9 => h9) rfl (by decide +kernel) rfl rfl (Nat.le_of_ble_eq_true rfl) dX12_steps_31 (fun H locs hP hD hS => ?_)
    have hP : va_P g.1 vwCl (List.flatten [bMo g o a 1 hi ac tp ba en tA fl de iD iO tU fm fk fa fc ft ff fb fi]) H := hP
    have hD : va_D A (List.flatten [bMo g o a 1 hi ac tp ba en tA fl de iD iO tU fm fk fa fc ft ff fb fi]) := hD
    refine lv_aload_n hx hb dX12_steps_34 rfl (lv_at hl 0 rfl) ?_
    refine va_get (D := g.1) (ci := 10) (v := .int 1) (C := RX12) (T := TX12) (N := 20) hx hb hts izRX12 hown hK hP 0 rfl rfl 0 (by decide) (hts _ k871) (fun _ h9 => h9) rfl dX12_steps_35 ?_
    refine lv_if_le (tgt := 43) hx hb dX12_steps_38 (by decide) (fun c30 => absurd c30 (by decide)) (fun _ => ?_)
    refine lv_iconst (v := 0) hx hb dX12_steps_41 (by decide) ?_
    have hP : va_P g.1 vwCl (List.flatten [bMo g o a 1 hi ac tp ba en tA fl de iD iO tU fm fk fa fc ft ff fb fi]) H := hP
    have hD : va_D A (List.flatten [bMo g o a 1 hi ac tp ba en tA fl de iD iO tU fm fk fa fc ft ff fb fi]) := hD
    exact mret_i hx hb hr hlocks hS (Nat.le_of_ble_eq_true rfl) (Nat.le_of_ble_eq_true rfl) dX12_steps_42 ((1 : Int32), (0 : Int32)) rfl trivial hP hD
