set_option maxRecDepth 100000 in
set_option maxHeartbeats 4000000 in
theorem m_circleOf (l : Launch) (g : zG) (o : Nat) (a : Nat → Nat) (th : Int32) (hi : Int32) (ac : Int32) (tp : Int32) (ba : Int32) (en : Int32) (tA : Int32) (fl : Int32) (de : Int32) (iD : Int32) (iO : Int32) (tU : Int32) (fm : Nat → Int32) (fk : Nat → Int32) (fa : Nat → Int32) (fc : Nat → Int32) (ft : Nat → Int32) (ff : Nat → Int32) (fb : Nat → Int32) (fi : Nat → Int32) (x : Int32) (rfm : rM fm) (b_x : 0 ≤ x.toInt ∧ x.toInt ≤ 7) : zM' g l yX12_circleOf (Cond.code yX12_circleOf cX12_circleOf 5 (some .int) :: zB) ({ frames := 2, cells := 0, slots := 0, locals := 49 } : Room) [.ref o, .int x] [bMo g o a th hi ac tp ba en tA fl de iD iO tU fm fk fa fc ft ff fb fi] (fun (q : Int32) => some (.int q)) (fun (q : Int32) => True) (fun (q : Int32) => [bMo g o a th hi ac tp ba en tA fl de iD iO tU fm fk fa fc ft ff fb fi]) := by
  refine zM'.of (cc := cX12_circleOf) (maxL := 5) (rt := (some .int)) (by decide) rfl (Nat.le_of_ble_eq_true rfl) ?_
  intro p e s m args below meth c A ls St hr hlocks hin hK hT hA hP hD hS hl
  obtain ⟨hx, hb, hml, hown, hts⟩ := id St
  have hl : lv_has ls 5 [(0, .ref o), (1, .int x)] := hl
  refine lv_iconst (v := 1) hx hb dX12_circleOf_0 (by decide) ?_
  refine lv_iload_n hx hb dX12_circleOf_1 rfl (lv_at hl 1 rfl) ?_
  refine lv_ishl hx hb dX12_circleOf_2 ?_
  refine zgb (zshl1 (j := x.toInt) rfl 7 128 (by decide) (by decide) ⟨b_x.1, b_x.2⟩) (fun x_1 hx_1 => ?_)
  refine lv_istore_n (lv' := [(2, .int x_1), (0, .ref o), (1, .int x)]) hx hb dX12_circleOf_3 rfl hl (by decide) rfl (fun ls hl => ?_)
  refine lv_aload_n hx hb dX12_circleOf_4 rfl (lv_at hl 1 rfl) ?_
  refine lv_iconst (v := 1) hx hb dX12_circleOf_5 (by decide) ?_
  refine lv_iload_n hx hb dX12_circleOf_6 rfl (lv_at hl 2 rfl) ?_
  refine lv_ishl hx hb dX12_circleOf_7 ?_
  refine zgb (zshl1 (j := x.toInt) rfl 7 128 (by decide) (by decide) ⟨b_x.1, b_x.2⟩) (fun x_2 hx_2 => ?_)
  refine lv_bipush (v := 8) hx hb dX12_circleOf_8 (by decide) ?_
  have hL8 : (8 : Int32).toInt = 8 := by decide
  refine mcallV' (g := g) (q0 := 0) (ci := 10) (As := [.int x_2, .int 8]) (rest := []) St hK hT hA hP hD hS hl.1 [0] [] rfl rfl rfl (m_passes l g o a th hi ac tp ba en tA fl de iD iO tU fm fk fa fc ft ff fb fi x_2 8 (by first | assumption | omega | decide | exact Or.inl (by decide) | exact Or.inr (by decide)) (by decide)) (cwV 2 hts (zgL (zl4 k1110 k1111 k1112 k837) k1108) rfl rfl rfl (by decide +kernel) ⟨Nat.le_of_ble_eq_true rfl, Nat.le_of_ble_eq_true rfl⟩) rfl rfl rfl rfl (Nat.le_of_ble_eq_true rfl) dX12_circleOf_10 ⟨(Nat.le_of_ble_eq_true rfl), (Nat.le_of_ble_eq_true rfl)⟩ (fun q_3 H locs hq4 hP hD hS => ?_)
  have hP : va_P g.1 vwCl (List.flatten [bMo g o a th hi ac tp ba en tA fl de iD iO tU fm fk fa fc ft ff fb fi]) H := hP
  have hD : va_D A (List.flatten [bMo g o a th hi ac tp ba en tA fl de iD iO tU fm fk fa fc ft ff fb fi]) := hD
  refine W.widen (k := 0) (n := 0) (Nat.le_of_ble_eq_true rfl) (Nat.le_of_ble_eq_true rfl) ?_
  refine W.eq (g2 := F0 m 13 ls [.int q_3]) rfl ?_
  refine lv_istore_n (lv' := [(3, .int q_3), (2, .int x_1), (0, .ref o), (1, .int x)]) hx hb dX12_circleOf_13 rfl hl (by decide) rfl (fun ls hl => ?_)
  refine lv_iconst (v := 0) hx hb dX12_circleOf_14 (by decide) ?_
  refine lv_istore (lv' := [(4, .int 0), (3, .int q_3), (2, .int x_1), (0, .ref o), (1, .int x)]) hx hb dX12_circleOf_15 hl (by decide) rfl (fun ls hl => ?_)
  have hl := lv_sub (l' := [(0, .ref o), (1, .int x), (2, .int x_1), (3, .int q_3), (4, .int 0)]) hl [3, 4, 2, 1, 0] rfl
  have LP17_8 : ∀ (kf : Nat) (x_5 : Int32) (x_6 : Int32), (0 ≤ x_6.toInt ∧ x_6.toInt ≤ 8) → ∀ (H : Heap) (locs : List Loc) (ls : Array Slot), ((9 - x_6.toInt).toNat) < kf → va_P g.1 vwCl (List.flatten [bMo g o a th hi ac tp ba en tA fl de iD iO tU fm fk fa fc ft ff fb fi]) H → va_D A (List.flatten [bMo g o a th hi ac tp ba en tA fl de iD iO tU fm fk fa fc ft ff fb fi]) → va_S A s.heap H locs → lv_has ls 5 [(0, .ref o), (1, .int x), (2, .int x_5), (3, .int q_3), (4, .int x_6)] → W p l e ({ frames := 2, cells := 0, slots := 0, locals := 49 } : Room) s m args below meth c H locs (0) (0) (zF g (fun (q : Int32) => some (.int q)) (fun (q : Int32) => True) (fun (q : Int32) => [bMo g o a th hi ac tp ba en tA fl de iD iO tU fm fk fa fc ft ff fb fi]) ({ frames := 2, cells := 0, slots := 0, locals := 49 } : Room) below args s A) (F0 m 17 ls []) := by
    intro kf
    induction kf with
    | zero => intro x_5 x_6 i7 H locs ls hk; exact absurd hk (Nat.not_lt_zero _)
    | succ kf ih17_9 =>
      intro x_5 x_6 i7 H locs ls hk17_9 hP hD hS hl
      refine lv_iload hx hb dX12_circleOf_17 (lv_at hl 4 rfl) ?_
      refine lv_aload_n hx hb dX12_circleOf_19 rfl (lv_at hl 0 rfl) ?_
      refine va_get (D := g.1) (ci := 10) (v := .ref (a 0)) (C := RX12) (T := TX12) (N := 20) hx hb hts izRX12 hown hK hP 0 rfl rfl 1 (by decide) (hts _ k815) (fun _ h9 => h9) rfl dX12_circleOf_20 ?_
      refine lv_iconst (v := 3) hx hb dX12_circleOf_23 (by decide) ?_
      refine va_iald hx hb hK hP 1 0 rfl rfl (zin rfl) dX12_circleOf_24 ?_
      refine zgq (r := fm 3) rfl (rM3 rfm) (fun x_10 hx_10 => ?_)
      refine lv_icmp_ge (tgt := 67) hx hb dX12_circleOf_25 (by decide) (fun cb9 => ?_) (fun cb9 => ?_)
      · skip
        have c11 : x_10.toInt ≤ x_6.toInt := zle cb9 rfl rfl
        refine lv_iload_n hx hb dX12_circleOf_67 rfl (lv_at hl 2 rfl) ?_
        have hP : va_P g.1 vwCl (List.flatten [bMo g o a th hi ac tp ba en tA fl de iD iO tU fm fk fa fc ft ff fb fi]) H := hP
        have hD : va_D A (List.flatten [bMo g o a th hi ac tp ba en tA fl de iD iO tU fm fk fa fc ft ff fb fi]) := hD
        exact mret_i hx hb hr hlocks hS (Nat.le_of_ble_eq_true rfl) (Nat.le_of_ble_eq_true rfl) dX12_circleOf_68 (x_5) rfl trivial hP hD
      · skip
        have c12 : x_6.toInt < x_10.toInt := zlti (Int32.not_le.mp cb9) rfl rfl
        have n13 : x_6.toInt ≤ 7 := zL1 (b := 8) c12 hx_10.2.1 (by decide)
        have n14 : 1 ≤ x_10.toInt := zL2 (a := 0) c12 i7.1 (by decide)
        refine lv_iload_n hx hb dX12_circleOf_28 rfl (lv_at hl 3 rfl) ?_
        refine lv_iload hx hb dX12_circleOf_29 (lv_at hl 4 rfl) ?_
        refine mcallS' (g := g) (As := [.int q_3, .int x_6]) (rest := []) St hK hT hA hP hD hS hl.1 [] [0] rfl rfl rfl (m_isOf l g q_3 x_6 ) (va_cwS 2 hts (zgL (zl3 k1061 k1062 k837) k827) rfl rfl rfl (by decide +kernel) ⟨Nat.le_of_ble_eq_true rfl, Nat.le_of_ble_eq_true rfl⟩) rfl rfl (Nat.le_of_ble_eq_true rfl) dX12_circleOf_31 ⟨(Nat.le_of_ble_eq_true rfl), (Nat.le_of_ble_eq_true rfl)⟩ (fun q_15 H locs hq16 hP hD hS => ?_)
        replace hq16 : (q_15 = 0 ∨ q_15 = 1) := hq16
        have hP : va_P g.1 vwCl (List.flatten [bMo g o a th hi ac tp ba en tA fl de iD iO tU fm fk fa fc ft ff fb fi]) H := hP
        have hD : va_D A (List.flatten [bMo g o a th hi ac tp ba en tA fl de iD iO tU fm fk fa fc ft ff fb fi]) := hD
        refine W.widen (k := 0) (n := 0) (Nat.le_of_ble_eq_true rfl) (Nat.le_of_ble_eq_true rfl) ?_
        refine W.eq (g2 := F0 m 34 ls [.int q_15]) rfl ?_
        rcases hq16 with rfl | rfl
        · skip
          refine lv_if_eq (tgt := 61) hx hb dX12_circleOf_34 (by decide) (fun _ => ?_) (fun c17 => absurd (by decide) c17)
          refine ziinc3 (n' := 1) (a' := 1) (b' := 8) (lv' := fun v9 => [(4, .int v9), (0, .ref o), (1, .int x), (2, .int x_5), (3, .int q_3)]) hx hb dX12_circleOf_61 hl (k := 4) rfl (by decide) (fun _ => rfl) (zaddK (i := x_6.toInt) (j := 1) rfl (by decide) i7.1 n13 (Int.le_refl _) (Int.le_refl _) (by decide)) (fun x_18 ls hx_18 hl => ?_)
          refine lv_goto (tgt := 17) hx hb dX12_circleOf_64 (by decide) ?_
          have hl := lv_sub (l' := [(0, .ref o), (1, .int x), (2, .int x_5), (3, .int q_3), (4, .int x_18)]) hl [1, 2, 3, 4, 0] rfl
          have hP : va_P g.1 vwCl (List.flatten [bMo g o a th hi ac tp ba en tA fl de iD iO tU fm fk fa fc ft ff fb fi]) H := hP
          have hD : va_D A (List.flatten [bMo g o a th hi ac tp ba en tA fl de iD iO tU fm fk fa fc ft ff fb fi]) := hD
          exact ih17_9 x_5 x_18 ⟨(Int.le_trans (by decide) hx_18.2.1), hx_18.2.2⟩ H _ ls (zmK hx_18.1 (by decide) n13 (by decide) hk17_9)  hP hD hS (lv_sub hl [0, 1, 2, 3, 4] rfl)
        · skip
          refine lv_if_eq (tgt := 61) hx hb dX12_circleOf_34 (by decide) (fun c19 => absurd c19 (by decide)) (fun _ => ?_)
          refine lv_aload_n hx hb dX12_circleOf_37 rfl (lv_at hl 0 rfl) ?_
          refine lv_iconst (v := 1) hx hb dX12_circleOf_38 (by decide) ?_
          refine lv_iload hx hb dX12_circleOf_39 (lv_at hl 4 rfl) ?_
          refine lv_ishl hx hb dX12_circleOf_41 ?_
          refine zgb (zshl1 (j := x_6.toInt) rfl 7 128 (by decide) (by decide) ⟨i7.1, n13⟩) (fun x_20 hx_20 => ?_)
          refine lv_bipush (v := 8) hx hb dX12_circleOf_42 (by decide) ?_
          refine mcallV' (g := g) (q0 := 0) (ci := 10) (As := [.int x_20, .int 8]) (rest := []) St hK hT hA hP hD hS hl.1 [0] [] rfl rfl rfl (m_passes l g o a th hi ac tp ba en tA fl de iD iO tU fm fk fa fc ft ff fb fi x_20 8 (by first | assumption | omega | decide | exact Or.inl (by decide) | exact Or.inr (by decide)) (by decide)) (cwV 2 hts (zgL (zl4 k1110 k1111 k1112 k837) k1108) rfl rfl rfl (by decide +kernel) ⟨Nat.le_of_ble_eq_true rfl, Nat.le_of_ble_eq_true rfl⟩) rfl rfl rfl rfl (Nat.le_of_ble_eq_true rfl) dX12_circleOf_44 ⟨(Nat.le_of_ble_eq_true rfl), (Nat.le_of_ble_eq_true rfl)⟩ (fun q_21 H locs hq22 hP hD hS => ?_)
          have hP : va_P g.1 vwCl (List.flatten [bMo g o a th hi ac tp ba en tA fl de iD iO tU fm fk fa fc ft ff fb fi]) H := hP
          have hD : va_D A (List.flatten [bMo g o a th hi ac tp ba en tA fl de iD iO tU fm fk fa fc ft ff fb fi]) := hD
          refine W.widen (k := 0) (n := 0) (Nat.le_of_ble_eq_true rfl) (Nat.le_of_ble_eq_true rfl) ?_
          refine W.eq (g2 := F0 m 47 ls [.int q_21]) rfl ?_
          refine lv_iload_n hx hb dX12_circleOf_47 rfl (lv_at hl 1 rfl) ?_
          refine mcallS' (g := g) (As := [.int q_21, .int x]) (rest := []) St hK hT hA hP hD hS hl.1 [] [0] rfl rfl rfl (m_isOf l g q_21 x ) (va_cwS 2 hts (zgL (zl3 k1061 k1062 k837) k827) rfl rfl rfl (by decide +kernel) ⟨Nat.le_of_ble_eq_true rfl, Nat.le_of_ble_eq_true rfl⟩) rfl rfl (Nat.le_of_ble_eq_true rfl) dX12_circleOf_48 ⟨(Nat.le_of_ble_eq_true rfl), (Nat.le_of_ble_eq_true rfl)⟩ (fun q_23 H locs hq24 hP hD hS => ?_)
          replace hq24 : (q_23 = 0 ∨ q_23 = 1) := hq24
          have hP : va_P g.1 vwCl (List.flatten [bMo g o a th hi ac tp ba en tA fl de iD iO tU fm fk fa fc ft ff fb fi]) H := hP
          have hD : va_D A (List.flatten [bMo g o a th hi ac tp ba en tA fl de iD iO tU fm fk fa fc ft ff fb fi]) := hD
          refine W.widen (k := 0) (n := 0) (Nat.le_of_ble_eq_true rfl) (Nat.le_of_ble_eq_true rfl) ?_
          refine W.eq (g2 := F0 m 51 ls [.int q_23]) rfl ?_
          rcases hq24 with rfl | rfl
          · skip
            refine lv_if_eq (tgt := 61) hx hb dX12_circleOf_51 (by decide) (fun _ => ?_) (fun c25 => absurd (by decide) c25)
            refine ziinc3 (n' := 1) (a' := 1) (b' := 8) (lv' := fun v9 => [(4, .int v9), (0, .ref o), (1, .int x), (2, .int x_5), (3, .int q_3)]) hx hb dX12_circleOf_61 hl (k := 4) rfl (by decide) (fun _ => rfl) (zaddK (i := x_6.toInt) (j := 1) rfl (by decide) i7.1 n13 (Int.le_refl _) (Int.le_refl _) (by decide)) (fun x_26 ls hx_26 hl => ?_)
            refine lv_goto (tgt := 17) hx hb dX12_circleOf_64 (by decide) ?_
            have hl := lv_sub (l' := [(0, .ref o), (1, .int x), (2, .int x_5), (3, .int q_3), (4, .int x_26)]) hl [1, 2, 3, 4, 0] rfl
            have hP : va_P g.1 vwCl (List.flatten [bMo g o a th hi ac tp ba en tA fl de iD iO tU fm fk fa fc ft ff fb fi]) H := hP
            have hD : va_D A (List.flatten [bMo g o a th hi ac tp ba en tA fl de iD iO tU fm fk fa fc ft ff fb fi]) := hD
            exact ih17_9 x_5 x_26 ⟨(Int.le_trans (by decide) hx_26.2.1), hx_26.2.2⟩ H _ ls (zmK hx_26.1 (by decide) n13 (by decide) hk17_9)  hP hD hS (lv_sub hl [0, 1, 2, 3, 4] rfl)
          · skip
            refine lv_if_eq (tgt := 61) hx hb dX12_circleOf_51 (by decide) (fun c27 => absurd c27 (by decide)) (fun _ => ?_)
            refine lv_iload_n hx hb dX12_circleOf_54 rfl (lv_at hl 2 rfl) ?_
            refine lv_iconst (v := 1) hx hb dX12_circleOf_55 (by decide) ?_
            refine lv_iload hx hb dX12_circleOf_56 (lv_at hl 4 rfl) ?_
            refine lv_ishl hx hb dX12_circleOf_58 ?_
            refine zgb (zshl1 (j := x_6.toInt) rfl 7 128 (by decide) (by decide) ⟨i7.1, n13⟩) (fun x_28 hx_28 => ?_)
            refine lv_ior hx hb dX12_circleOf_59 ?_
            refine zg (fun x_29 => ?_)
            refine lv_istore_n (lv' := [(2, .int x_29), (0, .ref o), (1, .int x), (3, .int q_3), (4, .int x_6)]) hx hb dX12_circleOf_60 rfl hl (by decide) rfl (fun ls hl => ?_)
            refine ziinc3 (n' := 1) (a' := 1) (b' := 8) (lv' := fun v9 => [(4, .int v9), (2, .int x_29), (0, .ref o), (1, .int x), (3, .int q_3)]) hx hb dX12_circleOf_61 hl (k := 4) rfl (by decide) (fun _ => rfl) (zaddK (i := x_6.toInt) (j := 1) rfl (by decide) i7.1 n13 (Int.le_refl _) (Int.le_refl _) (by decide)) (fun x_30 ls hx_30 hl => ?_)
            refine lv_goto (tgt := 17) hx hb dX12_circleOf_64 (by decide) ?_
            have hl := lv_sub (l' := [(0, .ref o), (1, .int x), (2, .int x_29), (3, .int q_3), (4, .int x_30)]) hl [2, 3, 1, 4, 0] rfl
            have hP : va_P g.1 vwCl (List.flatten [bMo g o a th hi ac tp ba en tA fl de iD iO tU fm fk fa fc ft ff fb fi]) H := hP
            have hD : va_D A (List.flatten [bMo g o a th hi ac tp ba en tA fl de iD iO tU fm fk fa fc ft ff fb fi]) := hD
            exact ih17_9 x_29 x_30 ⟨(Int.le_trans (by decide) hx_30.2.1), hx_30.2.2⟩ H _ ls (zmK hx_30.1 (by decide) n13 (by decide) hk17_9)  hP hD hS (lv_sub hl [0, 1, 2, 3, 4] rfl)
  have hP : va_P g.1 vwCl (List.flatten [bMo g o a th hi ac tp ba en tA fl de iD iO tU fm fk fa fc ft ff fb fi]) H := hP
  have hD : va_D A (List.flatten [bMo g o a th hi ac tp ba en tA fl de iD iO tU fm fk fa fc ft ff fb fi]) := hD
  exact LP17_8 _ x_1 0 (by decide) H _ ls (Nat.lt_succ_self _)  hP hD hS (lv_sub hl [0, 1, 2, 3, 4] rfl)
