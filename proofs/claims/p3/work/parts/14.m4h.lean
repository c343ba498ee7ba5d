set_option maxRecDepth 100000 in
set_option maxHeartbeats 4000000 in
theorem m_returns (l : Launch) (g : zG) (o : Nat) (a : Nat → Nat) (th : Int32) (hi : Int32) (ac : Int32) (tp : Int32) (ba : Int32) (en : Int32) (tA : Int32) (fl : Int32) (de : Int32) (iD : Int32) (iO : Int32) (tU : Int32) (fm : Nat → Int32) (fk : Nat → Int32) (fa : Nat → Int32) (fc : Nat → Int32) (ft : Nat → Int32) (ff : Nat → Int32) (fb : Nat → Int32) (fi : Nat → Int32) (x : Int32) (dr : Int32) (rfm : rM fm) (b_x : 0 ≤ x.toInt ∧ x.toInt ≤ 7) : zM' g l yX12_returns (Cond.code yX12_returns cX12_returns 5 none :: zB) ({ frames := 4, cells := 0, slots := 0, locals := 88 } : Room) [.ref o, .int x, .int dr] [bMo g o a th hi ac tp ba en tA fl de iD iO tU fm fk fa fc ft ff fb fi] (fun (fm2 : Nat → Int32) => none) (fun (fm2 : Nat → Int32) => (rM fm2)) (fun (fm2 : Nat → Int32) => [bMo g o a th hi ac tp ba en tA fl de iD iO tU fm2 fk fa fc ft ff fb fi]) := by
  refine zM'.of (cc := cX12_returns) (maxL := 5) (rt := none) (by decide) rfl (Nat.le_of_ble_eq_true rfl) ?_
  intro p e s m args below meth c A ls St hr hlocks hin hK hT hA hP hD hS hl
  obtain ⟨hx, hb, hml, hown, hts⟩ := id St
  have hl : lv_has ls 5 [(0, .ref o), (1, .int x), (2, .int dr)] := hl
  refine lv_iload_n hx hb dX12_returns_0 rfl (lv_at hl 2 rfl) ?_
  refine lv_if_eq (tgt := 24) hx hb dX12_returns_1 (by decide) (fun cb9 => ?_) (fun cb9 => ?_)
  · skip
    have c1 : dr.toInt = 0 := zeq cb9 rfl (by decide)
    have n2 : 0 ≤ dr.toInt := Int.le_trans (Int.le_refl _) (Int.le_of_eq c1.symm)
    have n3 : dr.toInt ≤ 0 := Int.le_trans (Int.le_of_eq c1) (Int.le_refl _)
    refine lv_iconst (v := 0) hx hb dX12_returns_24 (by decide) ?_
    refine lv_istore_n (lv' := [(3, .int 0), (0, .ref o), (1, .int x), (2, .int dr)]) hx hb dX12_returns_25 rfl hl (by decide) rfl (fun ls hl => ?_)
    refine lv_iconst (v := 0) hx hb dX12_returns_26 (by decide) ?_
    refine lv_istore (lv' := [(4, .int 0), (3, .int 0), (0, .ref o), (1, .int x), (2, .int dr)]) hx hb dX12_returns_27 hl (by decide) rfl (fun ls hl => ?_)
    have hl := lv_sub (l' := [(0, .ref o), (1, .int x), (2, .int dr), (3, .int 0), (4, .int 0)]) hl [2, 3, 4, 1, 0] rfl
    have LP29_7 : ∀ (kf : Nat) (x_4 : Int32) (fm_5 : Nat → Int32), (0 ≤ x_4.toInt ∧ x_4.toInt ≤ 8) → (rM fm_5) → ∀ (H : Heap) (locs : List Loc) (ls : Array Slot), ((9 - x_4.toInt).toNat) < kf → va_P g.1 vwCl (List.flatten [bMo g o a th hi ac tp ba en tA fl de iD iO tU fm_5 fk fa fc ft ff fb fi]) H → va_D A (List.flatten [bMo g o a th hi ac tp ba en tA fl de iD iO tU fm_5 fk fa fc ft ff fb fi]) → va_S A s.heap H locs → lv_has ls 5 [(0, .ref o), (1, .int x), (2, .int dr), (3, .int 0), (4, .int x_4)] → W p l e ({ frames := 4, cells := 0, slots := 0, locals := 88 } : Room) s m args below meth c H locs (0) (0) (zF g (fun (fm2 : Nat → Int32) => none) (fun (fm2 : Nat → Int32) => (rM fm2)) (fun (fm2 : Nat → Int32) => [bMo g o a th hi ac tp ba en tA fl de iD iO tU fm2 fk fa fc ft ff fb fi]) ({ frames := 4, cells := 0, slots := 0, locals := 88 } : Room) below args s A) (F0 m 29 ls []) := by
      intro kf
      induction kf with
      | zero => intro x_4 fm_5 i6 rfm_5 H locs ls hk; exact absurd hk (Nat.not_lt_zero _)
      | succ kf ih29_8 =>
        intro x_4 fm_5 i6 rfm_5 H locs ls hk29_8 hP hD hS hl
        refine lv_iload hx hb dX12_returns_29 (lv_at hl 4 rfl) ?_
        refine lv_aload_n hx hb dX12_returns_31 rfl (lv_at hl 0 rfl) ?_
        refine va_get (D := g.1) (ci := 10) (v := .ref (a 0)) (C := RX12) (T := TX12) (N := 20) hx hb hts izRX12 hown hK hP 0 rfl rfl 1 (by decide) (hts _ k815) (fun _ h9 => h9) rfl dX12_returns_32 ?_
        refine lv_iconst (v := 3) hx hb dX12_returns_35 (by decide) ?_
        refine va_iald hx hb hK hP 1 0 rfl rfl (zin rfl) dX12_returns_36 ?_
        refine zgq (r := fm_5 3) rfl (rM3 rfm_5) (fun x_9 hx_9 => ?_)
        refine lv_icmp_ge (tgt := 93) hx hb dX12_returns_37 (by decide) (fun cb9 => ?_) (fun cb9 => ?_)
        · skip
          have c10 : x_9.toInt ≤ x_4.toInt := zle cb9 rfl rfl
          refine lv_aload_n hx hb dX12_returns_93 rfl (lv_at hl 0 rfl) ?_
          refine lv_iload_n hx hb dX12_returns_94 rfl (lv_at hl 1 rfl) ?_
          refine lv_iconst (v := 4) hx hb dX12_returns_95 (by decide) ?_
          refine lv_iconst (v := (-1)) hx hb dX12_returns_96 (by decide) ?_
          have hL4 : (4 : Int32).toInt = 4 := by decide
          refine mcallV' (g := g) (q0 := 0) (ci := 10) (As := [.int x, .int 4, .int (-1)]) (rest := []) St hK hT hA hP hD hS hl.1 [0] [] rfl rfl rfl (m_put l g o a th hi ac tp ba en tA fl de iD iO tU fm_5 fk fa fc ft ff fb fi x 4 (-1) (by first | assumption | omega | decide | exact Or.inl (by decide) | exact Or.inr (by decide)) (⟨b_x.1, b_x.2⟩) (by decide)) (cwV 3 hts (zgL (zl4 k908 k909 k910 k837) k830) rfl rfl rfl (by decide +kernel) ⟨Nat.le_of_ble_eq_true rfl, Nat.le_of_ble_eq_true rfl⟩) rfl rfl rfl rfl (Nat.le_of_ble_eq_true rfl) dX12_returns_97 ⟨(Nat.le_of_ble_eq_true rfl), (Nat.le_of_ble_eq_true rfl)⟩ (fun fm2_11 H locs hq12 hP hD hS => ?_)
          replace hq12 : (rM fm2_11) ∧ ((fm2_11 3).toInt = (fm_5 3).toInt ∧ (fm2_11 4).toInt = (fm_5 4).toInt) := hq12
          have hP : va_P g.1 vwCl (List.flatten [bMo g o a th hi ac tp ba en tA fl de iD iO tU fm2_11 fk fa fc ft ff fb fi]) H := hP
          have hD : va_D A (List.flatten [bMo g o a th hi ac tp ba en tA fl de iD iO tU fm2_11 fk fa fc ft ff fb fi]) := hD
          refine W.widen (k := 0) (n := 0) (Nat.le_of_ble_eq_true rfl) (Nat.le_of_ble_eq_true rfl) ?_
          refine W.eq (g2 := F0 m 100 ls []) rfl ?_
          obtain ⟨rfm2_11, hq12_1⟩ := hq12
          refine lv_iload_n hx hb dX12_returns_100 rfl (lv_at hl 2 rfl) ?_
          refine lv_if_ne (tgt := 105) hx hb dX12_returns_101 (by decide) (fun cb9 => ?_) (fun cb9 => ?_)
          · skip
            exact absurd (show ¬ dr.toInt = 0 from zne cb9 rfl (by decide)) (by omega)
          · skip
            have c14 : dr.toInt = 0 := zeq cb9 rfl (by decide)
            have hP : va_P g.1 vwCl (List.flatten [bMo g o a th hi ac tp ba en tA fl de iD iO tU fm2_11 fk fa fc ft ff fb fi]) H := hP
            have hD : va_D A (List.flatten [bMo g o a th hi ac tp ba en tA fl de iD iO tU fm2_11 fk fa fc ft ff fb fi]) := hD
            exact mret_v hx hb hr hlocks hS (Nat.le_of_ble_eq_true rfl) (Nat.le_of_ble_eq_true rfl) dX12_returns_104 (fm2_11) rfl (show (rM fm2_11) from (by first | assumption | omega | decide | exact rfl | exact zb01 (by omega) | exact Or.inl (by decide) | exact Or.inr (by first | omega | decide))) hP hD
        · skip
          have c15 : x_4.toInt < x_9.toInt := zlti (Int32.not_le.mp cb9) rfl rfl
          have n16 : x_4.toInt ≤ 7 := zL1 (b := 8) c15 hx_9.2.1 (by decide)
          have n17 : 1 ≤ x_9.toInt := zL2 (a := 0) c15 i6.1 (by decide)
          refine lv_iload_n hx hb dX12_returns_40 rfl (lv_at hl 2 rfl) ?_
          refine lv_if_eq (tgt := 93) hx hb dX12_returns_41 (by decide) (fun cb9 => ?_) (fun cb9 => ?_)
          · skip
            have c18 : dr.toInt = 0 := zeq cb9 rfl (by decide)
            refine lv_aload_n hx hb dX12_returns_93 rfl (lv_at hl 0 rfl) ?_
            refine lv_iload_n hx hb dX12_returns_94 rfl (lv_at hl 1 rfl) ?_
            refine lv_iconst (v := 4) hx hb dX12_returns_95 (by decide) ?_
            refine lv_iconst (v := (-1)) hx hb dX12_returns_96 (by decide) ?_
            have hL4 : (4 : Int32).toInt = 4 := by decide
            refine mcallV' (g := g) (q0 := 0) (ci := 10) (As := [.int x, .int 4, .int (-1)]) (rest := []) St hK hT hA hP hD hS hl.1 [0] [] rfl rfl rfl (m_put l g o a th hi ac tp ba en tA fl de iD iO tU fm_5 fk fa fc ft ff fb fi x 4 (-1) (by first | assumption | omega | decide | exact Or.inl (by decide) | exact Or.inr (by decide)) (⟨b_x.1, b_x.2⟩) (by decide)) (cwV 3 hts (zgL (zl4 k908 k909 k910 k837) k830) rfl rfl rfl (by decide +kernel) ⟨Nat.le_of_ble_eq_true rfl, Nat.le_of_ble_eq_true rfl⟩) rfl rfl rfl rfl (Nat.le_of_ble_eq_true rfl) dX12_returns_97 ⟨(Nat.le_of_ble_eq_true rfl), (Nat.le_of_ble_eq_true rfl)⟩ (fun fm2_19 H locs hq20 hP hD hS => ?_)
            replace hq20 : (rM fm2_19) ∧ ((fm2_19 3).toInt = (fm_5 3).toInt ∧ (fm2_19 4).toInt = (fm_5 4).toInt) := hq20
            have hP : va_P g.1 vwCl (List.flatten [bMo g o a th hi ac tp ba en tA fl de iD iO tU fm2_19 fk fa fc ft ff fb fi]) H := hP
            have hD : va_D A (List.flatten [bMo g o a th hi ac tp ba en tA fl de iD iO tU fm2_19 fk fa fc ft ff fb fi]) := hD
            refine W.widen (k := 0) (n := 0) (Nat.le_of_ble_eq_true rfl) (Nat.le_of_ble_eq_true rfl) ?_
            refine W.eq (g2 := F0 m 100 ls []) rfl ?_
            obtain ⟨rfm2_19, hq20_1⟩ := hq20
            refine lv_iload_n hx hb dX12_returns_100 rfl (lv_at hl 2 rfl) ?_
            refine lv_if_ne (tgt := 105) hx hb dX12_returns_101 (by decide) (fun cb9 => ?_) (fun cb9 => ?_)
            · skip
              exact absurd (show ¬ dr.toInt = 0 from zne cb9 rfl (by decide)) (by omega)
            · skip
              have c22 : dr.toInt = 0 := zeq cb9 rfl (by decide)
              have hP : va_P g.1 vwCl (List.flatten [bMo g o a th hi ac tp ba en tA fl de iD iO tU fm2_19 fk fa fc ft ff fb fi]) H := hP
              have hD : va_D A (List.flatten [bMo g o a th hi ac tp ba en tA fl de iD iO tU fm2_19 fk fa fc ft ff fb fi]) := hD
              exact mret_v hx hb hr hlocks hS (Nat.le_of_ble_eq_true rfl) (Nat.le_of_ble_eq_true rfl) dX12_returns_104 (fm2_19) rfl (show (rM fm2_19) from (by first | assumption | omega | decide | exact rfl | exact zb01 (by omega) | exact Or.inl (by decide) | exact Or.inr (by first | omega | decide))) hP hD
          · skip
            exact absurd (show ¬ dr.toInt = 0 from zne cb9 rfl (by decide)) (by omega)
    have hP : va_P g.1 vwCl (List.flatten [bMo g o a th hi ac tp ba en tA fl de iD iO tU fm fk fa fc ft ff fb fi]) s.heap := hP
    have hD : va_D A (List.flatten [bMo g o a th hi ac tp ba en tA fl de iD iO tU fm fk fa fc ft ff fb fi]) := hD
    exact LP29_7 _ 0 fm (by decide) rfm s.heap _ ls (Nat.lt_succ_self _)  hP hD hS (lv_sub hl [0, 1, 2, 3, 4] rfl)
  · skip
    have c24 : ¬ dr.toInt = 0 := zne cb9 rfl (by decide)
    refine lv_aload_n hx hb dX12_returns_4 rfl (lv_at hl 0 rfl) ?_
    refine lv_bipush (v := 100) hx hb dX12_returns_5 (by decide) ?_
    have hL100 : (100 : Int32).toInt = 100 := by decide
    refine mcallV' (g := g) (q0 := 0) (ci := 10) (As := [.int 100]) (rest := []) St hK hT hA hP hD hS hl.1 [0] [] rfl rfl rfl (m_draw l g o a th hi ac tp ba en tA fl de iD iO tU fm fk fa fc ft ff fb fi 100 (by first | assumption | omega | decide | exact Or.inl (by decide) | exact Or.inr (by decide)) (by decide)) (cwV 1 hts (zgL (zl4 k1008 k1009 k1010 k837) k996) rfl rfl rfl (by decide +kernel) ⟨Nat.le_of_ble_eq_true rfl, Nat.le_of_ble_eq_true rfl⟩) rfl rfl rfl rfl (Nat.le_of_ble_eq_true rfl) dX12_returns_7 ⟨(Nat.le_of_ble_eq_true rfl), (Nat.le_of_ble_eq_true rfl)⟩ (fun u_ H locs hq27 hP hD hS => ?_)
    obtain ⟨fm2_25, q_26⟩ := u_
    replace hq27 : (rM fm2_25) := hq27
    have hP : va_P g.1 vwCl (List.flatten [bMo g o a th hi ac tp ba en tA fl de iD iO tU fm2_25 fk fa fc ft ff fb fi]) H := hP
    have hD : va_D A (List.flatten [bMo g o a th hi ac tp ba en tA fl de iD iO tU fm2_25 fk fa fc ft ff fb fi]) := hD
    refine W.widen (k := 0) (n := 0) (Nat.le_of_ble_eq_true rfl) (Nat.le_of_ble_eq_true rfl) ?_
    refine W.eq (g2 := F0 m 10 ls [.int q_26]) rfl ?_
    have rfm2_25 := hq27; clear hq27
    refine lv_aload_n hx hb dX12_returns_10 rfl (lv_at hl 0 rfl) ?_
    refine va_get (D := g.1) (ci := 10) (v := .ref (a 0)) (C := RX12) (T := TX12) (N := 20) hx hb hts izRX12 hown hK hP 0 rfl rfl 1 (by decide) (hts _ k815) (fun _ h9 => h9) rfl dX12_returns_11 ?_
    refine lv_bipush (v := 7) hx hb dX12_returns_14 (by decide) ?_
    refine va_iald hx hb hK hP 1 0 rfl rfl (zin rfl) dX12_returns_16 ?_
    refine zg (fun x_28 => ?_)
    refine lv_icmp_ge (tgt := 24) hx hb dX12_returns_17 (by decide) (fun cb9 => ?_) (fun cb9 => ?_)
    · skip
      have c29 : x_28.toInt ≤ q_26.toInt := zle cb9 rfl rfl
      refine lv_iconst (v := 0) hx hb dX12_returns_24 (by decide) ?_
      refine lv_istore_n (lv' := [(3, .int 0), (0, .ref o), (1, .int x), (2, .int dr)]) hx hb dX12_returns_25 rfl hl (by decide) rfl (fun ls hl => ?_)
      refine lv_iconst (v := 0) hx hb dX12_returns_26 (by decide) ?_
      refine lv_istore (lv' := [(4, .int 0), (3, .int 0), (0, .ref o), (1, .int x), (2, .int dr)]) hx hb dX12_returns_27 hl (by decide) rfl (fun ls hl => ?_)
      have hl := lv_sub (l' := [(0, .ref o), (1, .int x), (2, .int dr), (3, .int 0), (4, .int 0)]) hl [2, 3, 4, 1, 0] rfl
      have LP29_33 : ∀ (kf : Nat) (x_30 : Int32) (fm_31 : Nat → Int32), (0 ≤ x_30.toInt ∧ x_30.toInt ≤ 8) → (rM fm_31) → ∀ (H : Heap) (locs : List Loc) (ls : Array Slot), ((9 - x_30.toInt).toNat) < kf → va_P g.1 vwCl (List.flatten [bMo g o a th hi ac tp ba en tA fl de iD iO tU fm_31 fk fa fc ft ff fb fi]) H → va_D A (List.flatten [bMo g o a th hi ac tp ba en tA fl de iD iO tU fm_31 fk fa fc ft ff fb fi]) → va_S A s.heap H locs → lv_has ls 5 [(0, .ref o), (1, .int x), (2, .int dr), (3, .int 0), (4, .int x_30)] → W p l e ({ frames := 4, cells := 0, slots := 0, locals := 88 } : Room) s m args below meth c H locs (0) (0) (zF g (fun (fm2 : Nat → Int32) => none) (fun (fm2 : Nat → Int32) => (rM fm2)) (fun (fm2 : Nat → Int32) => [bMo g o a th hi ac tp ba en tA fl de iD iO tU fm2 fk fa fc ft ff fb fi]) ({ frames := 4, cells := 0, slots := 0, locals := 88 } : Room) below args s A) (F0 m 29 ls []) := by
        intro kf
        induction kf with
        | zero => intro x_30 fm_31 i32 rfm_31 H locs ls hk; exact absurd hk (Nat.not_lt_zero _)
        | succ kf ih29_34 =>
          intro x_30 fm_31 i32 rfm_31 H locs ls hk29_34 hP hD hS hl
          refine lv_iload hx hb dX12_returns_29 (lv_at hl 4 rfl) ?_
          refine lv_aload_n hx hb dX12_returns_31 rfl (lv_at hl 0 rfl) ?_
          refine va_get (D := g.1) (ci := 10) (v := .ref (a 0)) (C := RX12) (T := TX12) (N := 20) hx hb hts izRX12 hown hK hP 0 rfl rfl 1 (by decide) (hts _ k815) (fun _ h9 => h9) rfl dX12_returns_32 ?_
          refine lv_iconst (v := 3) hx hb dX12_returns_35 (by decide) ?_
          refine va_iald hx hb hK hP 1 0 rfl rfl (zin rfl) dX12_returns_36 ?_
          refine zgq (r := fm_31 3) rfl (rM3 rfm_31) (fun x_35 hx_35 => ?_)
          refine lv_icmp_ge (tgt := 93) hx hb dX12_returns_37 (by decide) (fun cb9 => ?_) (fun cb9 => ?_)
          · skip
            have c36 : x_35.toInt ≤ x_30.toInt := zle cb9 rfl rfl
            refine lv_aload_n hx hb dX12_returns_93 rfl (lv_at hl 0 rfl) ?_
            refine lv_iload_n hx hb dX12_returns_94 rfl (lv_at hl 1 rfl) ?_
            refine lv_iconst (v := 4) hx hb dX12_returns_95 (by decide) ?_
            refine lv_iconst (v := (-1)) hx hb dX12_returns_96 (by decide) ?_
            have hL4 : (4 : Int32).toInt = 4 := by decide
            refine mcallV' (g := g) (q0 := 0) (ci := 10) (As := [.int x, .int 4, .int (-1)]) (rest := []) St hK hT hA hP hD hS hl.1 [0] [] rfl rfl rfl (m_put l g o a th hi ac tp ba en tA fl de iD iO tU fm_31 fk fa fc ft ff fb fi x 4 (-1) (by first | assumption | omega | decide | exact Or.inl (by decide) | exact Or.inr (by decide)) (⟨b_x.1, b_x.2⟩) (by decide)) (cwV 3 hts (zgL (zl4 k908 k909 k910 k837) k830) rfl rfl rfl (by decide +kernel) ⟨Nat.le_of_ble_eq_true rfl, Nat.le_of_ble_eq_true rfl⟩) rfl rfl rfl rfl (Nat.le_of_ble_eq_true rfl) dX12_returns_97 ⟨(Nat.le_of_ble_eq_true rfl), (Nat.le_of_ble_eq_true rfl)⟩ (fun fm2_37 H locs hq38 hP hD hS => ?_)
            replace hq38 : (rM fm2_37) ∧ ((fm2_37 3).toInt = (fm_31 3).toInt ∧ (fm2_37 4).toInt = (fm_31 4).toInt) := hq38
            have hP : va_P g.1 vwCl (List.flatten [bMo g o a th hi ac tp ba en tA fl de iD iO tU fm2_37 fk fa fc ft ff fb fi]) H := hP
            have hD : va_D A (List.flatten [bMo g o a th hi ac tp ba en tA fl de iD iO tU fm2_37 fk fa fc ft ff fb fi]) := hD
            refine W.widen (k := 0) (n := 0) (Nat.le_of_ble_eq_true rfl) (Nat.le_of_ble_eq_true rfl) ?_
            refine W.eq (g2 := F0 m 100 ls []) rfl ?_
            obtain ⟨rfm2_37, hq38_1⟩ := hq38
            refine lv_iload_n hx hb dX12_returns_100 rfl (lv_at hl 2 rfl) ?_
            refine lv_if_ne (tgt := 105) hx hb dX12_returns_101 (by decide) (fun cb9 => ?_) (fun cb9 => ?_)
            · skip
              have c39 : ¬ dr.toInt = 0 := zne cb9 rfl (by decide)
              refine lv_aload_n hx hb dX12_returns_105 rfl (lv_at hl 0 rfl) ?_
              refine lv_iload_n hx hb dX12_returns_106 rfl (lv_at hl 1 rfl) ?_
              refine lv_iconst (v := 0) hx hb dX12_returns_107 (by decide) ?_
              refine lv_iload_n hx hb dX12_returns_108 rfl (lv_at hl 3 rfl) ?_
              refine lv_if_eq (tgt := 117) hx hb dX12_returns_109 (by decide) (fun _ => ?_) (fun c40 => absurd (by decide) c40)
              refine lv_iconst (v := 0) hx hb dX12_returns_117 (by decide) ?_
              have hL0 : (0 : Int32).toInt = 0 := by decide
              refine mcallV' (g := g) (q0 := 0) (ci := 10) (As := [.int x, .int 0, .int 0]) (rest := []) St hK hT hA hP hD hS hl.1 [0] [] rfl rfl rfl (m_put l g o a th hi ac tp ba en tA fl de iD iO tU fm2_37 fk fa fc ft ff fb fi x 0 0 (by first | assumption | omega | decide | exact Or.inl (by decide) | exact Or.inr (by decide)) (⟨b_x.1, b_x.2⟩) (by decide)) (cwV 3 hts (zgL (zl4 k908 k909 k910 k837) k830) rfl rfl rfl (by decide +kernel) ⟨Nat.le_of_ble_eq_true rfl, Nat.le_of_ble_eq_true rfl⟩) rfl rfl rfl rfl (Nat.le_of_ble_eq_true rfl) dX12_returns_118 ⟨(Nat.le_of_ble_eq_true rfl), (Nat.le_of_ble_eq_true rfl)⟩ (fun fm2_41 H locs hq42 hP hD hS => ?_)
              replace hq42 : (rM fm2_41) ∧ ((fm2_41 3).toInt = (fm2_37 3).toInt ∧ (fm2_41 4).toInt = (fm2_37 4).toInt) := hq42
              have hP : va_P g.1 vwCl (List.flatten [bMo g o a th hi ac tp ba en tA fl de iD iO tU fm2_41 fk fa fc ft ff fb fi]) H := hP
              have hD : va_D A (List.flatten [bMo g o a th hi ac tp ba en tA fl de iD iO tU fm2_41 fk fa fc ft ff fb fi]) := hD
              refine W.widen (k := 0) (n := 0) (Nat.le_of_ble_eq_true rfl) (Nat.le_of_ble_eq_true rfl) ?_
              refine W.eq (g2 := F0 m 121 ls []) rfl ?_
              obtain ⟨rfm2_41, hq42_1⟩ := hq42
              refine lv_aload_n hx hb dX12_returns_121 rfl (lv_at hl 0 rfl) ?_
              refine lv_iload_n hx hb dX12_returns_122 rfl (lv_at hl 1 rfl) ?_
              refine lv_iload_n hx hb dX12_returns_123 rfl (lv_at hl 3 rfl) ?_
              refine lv_if_eq (tgt := 131) hx hb dX12_returns_124 (by decide) (fun _ => ?_) (fun c43 => absurd (by decide) c43)
              refine lv_iconst (v := 3) hx hb dX12_returns_131 (by decide) ?_
              refine mcallV' (g := g) (q0 := 0) (ci := 10) (As := [.int x, .int 3]) (rest := []) St hK hT hA hP hD hS hl.1 [0] [] rfl rfl rfl (m_logs l g o a th hi ac tp ba en tA fl de iD iO tU fm2_41 fk fa fc ft ff fb fi x 3 (by first | assumption | omega | decide | exact Or.inl (by decide) | exact Or.inr (by decide))) (cwV 2 hts (zgL (zl4 k1004 k1005 k1006 k837) k998) rfl rfl rfl (by decide +kernel) ⟨Nat.le_of_ble_eq_true rfl, Nat.le_of_ble_eq_true rfl⟩) rfl rfl rfl rfl (Nat.le_of_ble_eq_true rfl) dX12_returns_132 ⟨(Nat.le_of_ble_eq_true rfl), (Nat.le_of_ble_eq_true rfl)⟩ (fun fm2_44 H locs hq45 hP hD hS => ?_)
              replace hq45 : (rM fm2_44) := hq45
              have hP : va_P g.1 vwCl (List.flatten [bMo g o a th hi ac tp ba en tA fl de iD iO tU fm2_44 fk fa fc ft ff fb fi]) H := hP
              have hD : va_D A (List.flatten [bMo g o a th hi ac tp ba en tA fl de iD iO tU fm2_44 fk fa fc ft ff fb fi]) := hD
              refine W.widen (k := 0) (n := 0) (Nat.le_of_ble_eq_true rfl) (Nat.le_of_ble_eq_true rfl) ?_
              refine W.eq (g2 := F0 m 135 ls []) rfl ?_
              have rfm2_44 := hq45; clear hq45
              have hP : va_P g.1 vwCl (List.flatten [bMo g o a th hi ac tp ba en tA fl de iD iO tU fm2_44 fk fa fc ft ff fb fi]) H := hP
              have hD : va_D A (List.flatten [bMo g o a th hi ac tp ba en tA fl de iD iO tU fm2_44 fk fa fc ft ff fb fi]) := hD
              exact mret_v hx hb hr hlocks hS (Nat.le_of_ble_eq_true rfl) (Nat.le_of_ble_eq_true rfl) dX12_returns_135 (fm2_44) rfl (show (rM fm2_44) from (by first | assumption | omega | decide | exact rfl | exact zb01 (by omega) | exact Or.inl (by decide) | exact Or.inr (by first | omega | decide))) hP hD
            · skip
              have c46 : dr.toInt = 0 := zeq cb9 rfl (by decide)
              have n47 : 0 ≤ dr.toInt := Int.le_trans (Int.le_refl _) (Int.le_of_eq c46.symm)
              have n48 : dr.toInt ≤ 0 := Int.le_trans (Int.le_of_eq c46) (Int.le_refl _)
              have hP : va_P g.1 vwCl (List.flatten [bMo g o a th hi ac tp ba en tA fl de iD iO tU fm2_37 fk fa fc ft ff fb fi]) H := hP
              have hD : va_D A (List.flatten [bMo g o a th hi ac tp ba en tA fl de iD iO tU fm2_37 fk fa fc ft ff fb fi]) := hD
              exact mret_v hx hb hr hlocks hS (Nat.le_of_ble_eq_true rfl) (Nat.le_of_ble_eq_true rfl) dX12_returns_104 (fm2_37) rfl (show (rM fm2_37) from (by first | assumption | omega | decide | exact rfl | exact zb01 (by omega) | exact Or.inl (by decide) | exact Or.inr (by first | omega | decide))) hP hD
          · skip
            have c49 : x_30.toInt < x_35.toInt := zlti (Int32.not_le.mp cb9) rfl rfl
            have n50 : x_30.toInt ≤ 7 := zL1 (b := 8) c49 hx_35.2.1 (by decide)
            have n51 : 1 ≤ x_35.toInt := zL2 (a := 0) c49 i32.1 (by decide)
            refine lv_iload_n hx hb dX12_returns_40 rfl (lv_at hl 2 rfl) ?_
            refine lv_if_eq (tgt := 93) hx hb dX12_returns_41 (by decide) (fun cb9 => ?_) (fun cb9 => ?_)
            · skip
              have c52 : dr.toInt = 0 := zeq cb9 rfl (by decide)
              have n53 : 0 ≤ dr.toInt := Int.le_trans (Int.le_refl _) (Int.le_of_eq c52.symm)
              have n54 : dr.toInt ≤ 0 := Int.le_trans (Int.le_of_eq c52) (Int.le_refl _)
              refine lv_aload_n hx hb dX12_returns_93 rfl (lv_at hl 0 rfl) ?_
              refine lv_iload_n hx hb dX12_returns_94 rfl (lv_at hl 1 rfl) ?_
              refine lv_iconst (v := 4) hx hb dX12_returns_95 (by decide) ?_
              refine lv_iconst (v := (-1)) hx hb dX12_returns_96 (by decide) ?_
              have hL4 : (4 : Int32).toInt = 4 := by decide
              refine mcallV' (g := g) (q0 := 0) (ci := 10) (As := [.int x, .int 4, .int (-1)]) (rest := []) St hK hT hA hP hD hS hl.1 [0] [] rfl rfl rfl (m_put l g o a th hi ac tp ba en tA fl de iD iO tU fm_31 fk fa fc ft ff fb fi x 4 (-1) (by first | assumption | omega | decide | exact Or.inl (by decide) | exact Or.inr (by decide)) (⟨b_x.1, b_x.2⟩) (by decide)) (cwV 3 hts (zgL (zl4 k908 k909 k910 k837) k830) rfl rfl rfl (by decide +kernel) ⟨Nat.le_of_ble_eq_true rfl, Nat.le_of_ble_eq_true rfl⟩) rfl rfl rfl rfl (Nat.le_of_ble_eq_true rfl) dX12_returns_97 ⟨(Nat.le_of_ble_eq_true rfl), (Nat.le_of_ble_eq_true rfl)⟩ (fun fm2_55 H locs hq56 hP hD hS => ?_)
              replace hq56 : (rM fm2_55) ∧ ((fm2_55 3).toInt = (fm_31 3).toInt ∧ (fm2_55 4).toInt = (fm_31 4).toInt) := hq56
              have hP : va_P g.1 vwCl (List.flatten [bMo g o a th hi ac tp ba en tA fl de iD iO tU fm2_55 fk fa fc ft ff fb fi]) H := hP
              have hD : va_D A (List.flatten [bMo g o a th hi ac tp ba en tA fl de iD iO tU fm2_55 fk fa fc ft ff fb fi]) := hD
              refine W.widen (k := 0) (n := 0) (Nat.le_of_ble_eq_true rfl) (Nat.le_of_ble_eq_true rfl) ?_
              refine W.eq (g2 := F0 m 100 ls []) rfl ?_
              obtain ⟨rfm2_55, hq56_1⟩ := hq56
              refine lv_iload_n hx hb dX12_returns_100 rfl (lv_at hl 2 rfl) ?_
              refine lv_if_ne (tgt := 105) hx hb dX12_returns_101 (by decide) (fun cb9 => ?_) (fun cb9 => ?_)
              · skip
                exact absurd (show ¬ dr.toInt = 0 from zne cb9 rfl (by decide)) (by omega)
              · skip
                have c58 : dr.toInt = 0 := zeq cb9 rfl (by decide)
                have hP : va_P g.1 vwCl (List.flatten [bMo g o a th hi ac tp ba en tA fl de iD iO tU fm2_55 fk fa fc ft ff fb fi]) H := hP
                have hD : va_D A (List.flatten [bMo g o a th hi ac tp ba en tA fl de iD iO tU fm2_55 fk fa fc ft ff fb fi]) := hD
                exact mret_v hx hb hr hlocks hS (Nat.le_of_ble_eq_true rfl) (Nat.le_of_ble_eq_true rfl) dX12_returns_104 (fm2_55) rfl (show (rM fm2_55) from (by first | assumption | omega | decide | exact rfl | exact zb01 (by omega) | exact Or.inl (by decide) | exact Or.inr (by first | omega | decide))) hP hD
            · skip
              have c59 : ¬ dr.toInt = 0 := zne cb9 rfl (by decide)
              refine lv_iload hx hb dX12_returns_44 (lv_at hl 4 rfl) ?_
              refine lv_iload_n hx hb dX12_returns_46 rfl (lv_at hl 1 rfl) ?_
              refine lv_icmp_eq (tgt := 87) hx hb dX12_returns_47 (by decide) (fun cb9 => ?_) (fun cb9 => ?_)
              · skip
                have c60 : x_30.toInt = x.toInt := zeq cb9 rfl rfl
                refine ziinc3 (n' := 1) (a' := 1) (b' := 8) (lv' := fun v9 => [(4, .int v9), (0, .ref o), (1, .int x), (2, .int dr), (3, .int 0)]) hx hb dX12_returns_87 hl (k := 4) rfl (by decide) (fun _ => rfl) (zaddK (i := x_30.toInt) (j := 1) rfl (by decide) i32.1 n50 (Int.le_refl _) (Int.le_refl _) (by decide)) (fun x_61 ls hx_61 hl => ?_)
                refine lv_goto (tgt := 29) hx hb dX12_returns_90 (by decide) ?_
                have hl := lv_sub (l' := [(0, .ref o), (1, .int x), (2, .int dr), (3, .int 0), (4, .int x_61)]) hl [1, 2, 3, 4, 0] rfl
                have hP : va_P g.1 vwCl (List.flatten [bMo g o a th hi ac tp ba en tA fl de iD iO tU fm_31 fk fa fc ft ff fb fi]) H := hP
                have hD : va_D A (List.flatten [bMo g o a th hi ac tp ba en tA fl de iD iO tU fm_31 fk fa fc ft ff fb fi]) := hD
                exact ih29_34 x_61 fm_31 ⟨(Int.le_trans (by decide) hx_61.2.1), hx_61.2.2⟩ rfm_31 H _ ls (zmK hx_61.1 (by decide) n50 (by decide) hk29_34)  hP hD hS (lv_sub hl [0, 1, 2, 3, 4] rfl)
              · skip
                have c62 : ¬ x_30.toInt = x.toInt := zne cb9 rfl rfl
                refine lv_aload_n hx hb dX12_returns_50 rfl (lv_at hl 0 rfl) ?_
                refine lv_iload hx hb dX12_returns_51 (lv_at hl 4 rfl) ?_
                refine mcallV' (g := g) (q0 := 0) (ci := 10) (As := [.int x_30]) (rest := []) St hK hT hA hP hD hS hl.1 [0] [] rfl rfl rfl (m_isHere l g o a th hi ac tp ba en tA fl de iD iO tU fm_31 fk fa fc ft ff fb fi x_30 (⟨i32.1, n50⟩)) (cwV 1 hts (zgL (zl4 k844 k845 k846 k837) k839) rfl rfl rfl (by decide +kernel) ⟨Nat.le_of_ble_eq_true rfl, Nat.le_of_ble_eq_true rfl⟩) rfl rfl rfl rfl (Nat.le_of_ble_eq_true rfl) dX12_returns_53 ⟨(Nat.le_of_ble_eq_true rfl), (Nat.le_of_ble_eq_true rfl)⟩ (fun q_63 H locs hq64 hP hD hS => ?_)
                replace hq64 : (q_63 = 0 ∨ q_63 = 1) := hq64
                have hP : va_P g.1 vwCl (List.flatten [bMo g o a th hi ac tp ba en tA fl de iD iO tU fm_31 fk fa fc ft ff fb fi]) H := hP
                have hD : va_D A (List.flatten [bMo g o a th hi ac tp ba en tA fl de iD iO tU fm_31 fk fa fc ft ff fb fi]) := hD
                refine W.widen (k := 0) (n := 0) (Nat.le_of_ble_eq_true rfl) (Nat.le_of_ble_eq_true rfl) ?_
                refine W.eq (g2 := F0 m 56 ls [.int q_63]) rfl ?_
                rcases hq64 with rfl | rfl
                · skip
                  refine lv_if_eq (tgt := 87) hx hb dX12_returns_56 (by decide) (fun _ => ?_) (fun c65 => absurd (by decide) c65)
                  refine ziinc3 (n' := 1) (a' := 1) (b' := 8) (lv' := fun v9 => [(4, .int v9), (0, .ref o), (1, .int x), (2, .int dr), (3, .int 0)]) hx hb dX12_returns_87 hl (k := 4) rfl (by decide) (fun _ => rfl) (zaddK (i := x_30.toInt) (j := 1) rfl (by decide) i32.1 n50 (Int.le_refl _) (Int.le_refl _) (by decide)) (fun x_66 ls hx_66 hl => ?_)
                  refine lv_goto (tgt := 29) hx hb dX12_returns_90 (by decide) ?_
                  have hl := lv_sub (l' := [(0, .ref o), (1, .int x), (2, .int dr), (3, .int 0), (4, .int x_66)]) hl [1, 2, 3, 4, 0] rfl
                  have hP : va_P g.1 vwCl (List.flatten [bMo g o a th hi ac tp ba en tA fl de iD iO tU fm_31 fk fa fc ft ff fb fi]) H := hP
                  have hD : va_D A (List.flatten [bMo g o a th hi ac tp ba en tA fl de iD iO tU fm_31 fk fa fc ft ff fb fi]) := hD
                  exact ih29_34 x_66 fm_31 ⟨(Int.le_trans (by decide) hx_66.2.1), hx_66.2.2⟩ rfm_31 H _ ls (zmK hx_66.1 (by decide) n50 (by decide) hk29_34)  hP hD hS (lv_sub hl [0, 1, 2, 3, 4] rfl)
                · skip
                  refine lv_if_eq (tgt := 87) hx hb dX12_returns_56 (by decide) (fun c67 => absurd c67 (by decide)) (fun _ => ?_)
                  refine lv_aload_n hx hb dX12_returns_59 rfl (lv_at hl 0 rfl) ?_
                  refine lv_iload hx hb dX12_returns_60 (lv_at hl 4 rfl) ?_
                  refine lv_iload_n hx hb dX12_returns_62 rfl (lv_at hl 3 rfl) ?_
                  refine lv_if_eq (tgt := 76) hx hb dX12_returns_63 (by decide) (fun _ => ?_) (fun c68 => absurd (by decide) c68)
                  refine lv_aload_n hx hb dX12_returns_76 rfl (lv_at hl 0 rfl) ?_
                  refine lv_iload hx hb dX12_returns_77 (lv_at hl 4 rfl) ?_
                  refine lv_iload_n hx hb dX12_returns_79 rfl (lv_at hl 1 rfl) ?_
                  refine mcallV' (g := g) (q0 := 0) (ci := 10) (As := [.int x_30, .int x]) (rest := [.int x_30, .ref o]) St hK hT hA hP hD hS hl.1 [0] [] rfl rfl rfl (m_trustOf l g o a th hi ac tp ba en tA fl de iD iO tU fm_31 fk fa fc ft ff fb fi x_30 x (⟨i32.1, n50⟩) (⟨b_x.1, b_x.2⟩)) (cwV 2 hts (zgL (zl4 k866 k867 k868 k837) k833) rfl rfl rfl (by decide +kernel) ⟨Nat.le_of_ble_eq_true rfl, Nat.le_of_ble_eq_true rfl⟩) rfl rfl rfl rfl (Nat.le_of_ble_eq_true rfl) dX12_returns_80 ⟨(Nat.le_of_ble_eq_true rfl), (Nat.le_of_ble_eq_true rfl)⟩ (fun q_69 H locs hq70 hP hD hS => ?_)
                  have hP : va_P g.1 vwCl (List.flatten [bMo g o a th hi ac tp ba en tA fl de iD iO tU fm_31 fk fa fc ft ff fb fi]) H := hP
                  have hD : va_D A (List.flatten [bMo g o a th hi ac tp ba en tA fl de iD iO tU fm_31 fk fa fc ft ff fb fi]) := hD
                  refine W.widen (k := 0) (n := 0) (Nat.le_of_ble_eq_true rfl) (Nat.le_of_ble_eq_true rfl) ?_
                  refine W.eq (g2 := F0 m 83 ls [.int q_69, .int x_30, .ref o]) rfl ?_
                  refine lv_ineg hx hb dX12_returns_83 ?_
                  refine zg (fun x_71 => ?_)
                  refine mcallV' (g := g) (q0 := 0) (ci := 10) (As := [.int x_30, .int x_71]) (rest := []) St hK hT hA hP hD hS hl.1 [0] [] rfl rfl rfl (m_believes l g o a th hi ac tp ba en tA fl de iD iO tU fm_31 fk fa fc ft ff fb fi x_30 x_71 (by first | assumption | omega | decide | exact Or.inl (by decide) | exact Or.inr (by decide)) (⟨i32.1, n50⟩)) (cwV 2 hts (zgL (zl4 k1011 k1012 k1013 k837) k1001) rfl rfl rfl (by decide +kernel) ⟨Nat.le_of_ble_eq_true rfl, Nat.le_of_ble_eq_true rfl⟩) rfl rfl rfl rfl (Nat.le_of_ble_eq_true rfl) dX12_returns_84 ⟨(Nat.le_of_ble_eq_true rfl), (Nat.le_of_ble_eq_true rfl)⟩ (fun fm2_72 H locs hq73 hP hD hS => ?_)
                  replace hq73 : (rM fm2_72) := hq73
                  have hP : va_P g.1 vwCl (List.flatten [bMo g o a th hi ac tp ba en tA fl de iD iO tU fm2_72 fk fa fc ft ff fb fi]) H := hP
                  have hD : va_D A (List.flatten [bMo g o a th hi ac tp ba en tA fl de iD iO tU fm2_72 fk fa fc ft ff fb fi]) := hD
                  refine W.widen (k := 0) (n := 0) (Nat.le_of_ble_eq_true rfl) (Nat.le_of_ble_eq_true rfl) ?_
                  refine W.eq (g2 := F0 m 87 ls []) rfl ?_
                  have rfm2_72 := hq73; clear hq73
                  refine ziinc3 (n' := 1) (a' := 1) (b' := 8) (lv' := fun v9 => [(4, .int v9), (0, .ref o), (1, .int x), (2, .int dr), (3, .int 0)]) hx hb dX12_returns_87 hl (k := 4) rfl (by decide) (fun _ => rfl) (zaddK (i := x_30.toInt) (j := 1) rfl (by decide) i32.1 n50 (Int.le_refl _) (Int.le_refl _) (by decide)) (fun x_74 ls hx_74 hl => ?_)
                  refine lv_goto (tgt := 29) hx hb dX12_returns_90 (by decide) ?_
                  have hl := lv_sub (l' := [(0, .ref o), (1, .int x), (2, .int dr), (3, .int 0), (4, .int x_74)]) hl [1, 2, 3, 4, 0] rfl
                  have hP : va_P g.1 vwCl (List.flatten [bMo g o a th hi ac tp ba en tA fl de iD iO tU fm2_72 fk fa fc ft ff fb fi]) H := hP
                  have hD : va_D A (List.flatten [bMo g o a th hi ac tp ba en tA fl de iD iO tU fm2_72 fk fa fc ft ff fb fi]) := hD
                  exact ih29_34 x_74 fm2_72 ⟨(Int.le_trans (by decide) hx_74.2.1), hx_74.2.2⟩ rfm2_72 H _ ls (zmK hx_74.1 (by decide) n50 (by decide) hk29_34)  hP hD hS (lv_sub hl [0, 1, 2, 3, 4] rfl)
      have hP : va_P g.1 vwCl (List.flatten [bMo g o a th hi ac tp ba en tA fl de iD iO tU fm2_25 fk fa fc ft ff fb fi]) H := hP
      have hD : va_D A (List.flatten [bMo g o a th hi ac tp ba en tA fl de iD iO tU fm2_25 fk fa fc ft ff fb fi]) := hD
      exact LP29_33 _ 0 fm2_25 (by decide) rfm2_25 H _ ls (Nat.lt_succ_self _)  hP hD hS (lv_sub hl [0, 1, 2, 3, 4] rfl)
    · skip
      have c75 : q_26.toInt < x_28.toInt := zlti (Int32.not_le.mp cb9) rfl rfl
      refine lv_iconst (v := 1) hx hb dX12_returns_20 (by decide) ?_
      refine lv_goto (tgt := 25) hx hb dX12_returns_21 (by decide) ?_
      refine lv_istore_n (lv' := [(3, .int 1), (0, .ref o), (1, .int x), (2, .int dr)]) hx hb dX12_returns_25 rfl hl (by decide) rfl (fun ls hl => ?_)
      refine lv_iconst (v := 0) hx hb dX12_returns_26 (by decide) ?_
      refine lv_istore (lv' := [(4, .int 0), (3, .int 1), (0, .ref o), (1, .int x), (2, .int dr)]) hx hb dX12_returns_27 hl (by decide) rfl (fun ls hl => ?_)
      have hl := lv_sub (l' := [(0, .ref o), (1, .int x), (2, .int dr), (3, .int 1), (4, .int 0)]) hl [2, 3, 4, 1, 0] rfl
      have LP29_79 : ∀ (kf : Nat) (x_76 : Int32) (fm_77 : Nat → Int32), (0 ≤ x_76.toInt ∧ x_76.toInt ≤ 8) → (rM fm_77) → ∀ (H : Heap) (locs : List Loc) (ls : Array Slot), ((9 - x_76.toInt).toNat) < kf → va_P g.1 vwCl (List.flatten [bMo g o a th hi ac tp ba en tA fl de iD iO tU fm_77 fk fa fc ft ff fb fi]) H → va_D A (List.flatten [bMo g o a th hi ac tp ba en tA fl de iD iO tU fm_77 fk fa fc ft ff fb fi]) → va_S A s.heap H locs → lv_has ls 5 [(0, .ref o), (1, .int x), (2, .int dr), (3, .int 1), (4, .int x_76)] → W p l e ({ frames := 4, cells := 0, slots := 0, locals := 88 } : Room) s m args below meth c H locs (0) (0) (zF g (fun (fm2 : Nat → Int32) => none) (fun (fm2 : Nat → Int32) => (rM fm2)) (fun (fm2 : Nat → Int32) => [bMo g o a th hi ac tp ba en tA fl de iD iO tU fm2 fk fa fc ft ff fb fi]) ({ frames := 4, cells := 0, slots := 0, locals := 88 } : Room) below args s A) (F0 m 29 ls []) := by
        intro kf
        induction kf with
        | zero => intro x_76 fm_77 i78 rfm_77 H locs ls hk; exact absurd hk (Nat.not_lt_zero _)
        | succ kf ih29_80 =>
          intro x_76 fm_77 i78 rfm_77 H locs ls hk29_80 hP hD hS hl
          refine lv_iload hx hb dX12_returns_29 (lv_at hl 4 rfl) ?_
          refine lv_aload_n hx hb dX12_returns_31 rfl (lv_at hl 0 rfl) ?_
          refine va_get (D := g.1) (ci := 10) (v := .ref (a 0)) (C := RX12) (T := TX12) (N := 20) hx hb hts izRX12 hown hK hP 0 rfl rfl 1 (by decide) (hts _ k815) (fun _ h9 => h9) rfl dX12_returns_32 ?_
          refine lv_iconst (v := 3) hx hb dX12_returns_35 (by decide) ?_
          refine va_iald hx hb hK hP 1 0 rfl rfl (zin rfl) dX12_returns_36 ?_
          refine zgq (r := fm_77 3) rfl (rM3 rfm_77) (fun x_81 hx_81 => ?_)
          refine lv_icmp_ge (tgt := 93) hx hb dX12_returns_37 (by decide) (fun cb9 => ?_) (fun cb9 => ?_)
          · skip
            have c82 : x_81.toInt ≤ x_76.toInt := zle cb9 rfl rfl
            refine lv_aload_n hx hb dX12_returns_93 rfl (lv_at hl 0 rfl) ?_
            refine lv_iload_n hx hb dX12_returns_94 rfl (lv_at hl 1 rfl) ?_
            refine lv_iconst (v := 4) hx hb dX12_returns_95 (by decide) ?_
            refine lv_iconst (v := (-1)) hx hb dX12_returns_96 (by decide) ?_
            have hL4 : (4 : Int32).toInt = 4 := by decide
            refine mcallV' (g := g) (q0 := 0) (ci := 10) (As := [.int x, .int 4, .int (-1)]) (rest := []) St hK hT hA hP hD hS hl.1 [0] [] rfl rfl rfl (m_put l g o a th hi ac tp ba en tA fl de iD iO tU fm_77 fk fa fc ft ff fb fi x 4 (-1) (by first | assumption | omega | decide | exact Or.inl (by decide) | exact Or.inr (by decide)) (⟨b_x.1, b_x.2⟩) (by decide)) (cwV 3 hts (zgL (zl4 k908 k909 k910 k837) k830) rfl rfl rfl (by decide +kernel) ⟨Nat.le_of_ble_eq_true rfl, Nat.le_of_ble_eq_true rfl⟩) rfl rfl rfl rfl (Nat.le_of_ble_eq_true rfl) dX12_returns_97 ⟨(Nat.le_of_ble_eq_true rfl), (Nat.le_of_ble_eq_true rfl)⟩ (fun fm2_83 H locs hq84 hP hD hS => ?_)
            replace hq84 : (rM fm2_83) ∧ ((fm2_83 3).toInt = (fm_77 3).toInt ∧ (fm2_83 4).toInt = (fm_77 4).toInt) := hq84
            have hP : va_P g.1 vwCl (List.flatten [bMo g o a th hi ac tp ba en tA fl de iD iO tU fm2_83 fk fa fc ft ff fb fi]) H := hP
            have hD : va_D A (List.flatten [bMo g o a th hi ac tp ba en tA fl de iD iO tU fm2_83 fk fa fc ft ff fb fi]) := hD
            refine W.widen (k := 0) (n := 0) (Nat.le_of_ble_eq_true rfl) (Nat.le_of_ble_eq_true rfl) ?_
            refine W.eq (g2 := F0 m 100 ls []) rfl ?_
            obtain ⟨rfm2_83, hq84_1⟩ := hq84
            refine lv_iload_n hx hb dX12_returns_100 rfl (lv_at hl 2 rfl) ?_
            refine lv_if_ne (tgt := 105) hx hb dX12_returns_101 (by decide) (fun cb9 => ?_) (fun cb9 => ?_)
            · skip
              have c85 : ¬ dr.toInt = 0 := zne cb9 rfl (by decide)
              refine lv_aload_n hx hb dX12_returns_105 rfl (lv_at hl 0 rfl) ?_
              refine lv_iload_n hx hb dX12_returns_106 rfl (lv_at hl 1 rfl) ?_
              refine lv_iconst (v := 0) hx hb dX12_returns_107 (by decide) ?_
              refine lv_iload_n hx hb dX12_returns_108 rfl (lv_at hl 3 rfl) ?_
              refine lv_if_eq (tgt := 117) hx hb dX12_returns_109 (by decide) (fun c86 => absurd c86 (by decide)) (fun _ => ?_)
              refine lv_bipush (v := 99) hx hb dX12_returns_112 (by decide) ?_
              refine lv_goto (tgt := 118) hx hb dX12_returns_114 (by decide) ?_
              have hL0 : (0 : Int32).toInt = 0 := by decide
              refine mcallV' (g := g) (q0 := 0) (ci := 10) (As := [.int x, .int 0, .int 99]) (rest := []) St hK hT hA hP hD hS hl.1 [0] [] rfl rfl rfl (m_put l g o a th hi ac tp ba en tA fl de iD iO tU fm2_83 fk fa fc ft ff fb fi x 0 99 (by first | assumption | omega | decide | exact Or.inl (by decide) | exact Or.inr (by decide)) (⟨b_x.1, b_x.2⟩) (by decide)) (cwV 3 hts (zgL (zl4 k908 k909 k910 k837) k830) rfl rfl rfl (by decide +kernel) ⟨Nat.le_of_ble_eq_true rfl, Nat.le_of_ble_eq_true rfl⟩) rfl rfl rfl rfl (Nat.le_of_ble_eq_true rfl) dX12_returns_118 ⟨(Nat.le_of_ble_eq_true rfl), (Nat.le_of_ble_eq_true rfl)⟩ (fun fm2_87 H locs hq88 hP hD hS => ?_)
              replace hq88 : (rM fm2_87) ∧ ((fm2_87 3).toInt = (fm2_83 3).toInt ∧ (fm2_87 4).toInt = (fm2_83 4).toInt) := hq88
              have hP : va_P g.1 vwCl (List.flatten [bMo g o a th hi ac tp ba en tA fl de iD iO tU fm2_87 fk fa fc ft ff fb fi]) H := hP
              have hD : va_D A (List.flatten [bMo g o a th hi ac tp ba en tA fl de iD iO tU fm2_87 fk fa fc ft ff fb fi]) := hD
              refine W.widen (k := 0) (n := 0) (Nat.le_of_ble_eq_true rfl) (Nat.le_of_ble_eq_true rfl) ?_
              refine W.eq (g2 := F0 m 121 ls []) rfl ?_
              obtain ⟨rfm2_87, hq88_1⟩ := hq88
              refine lv_aload_n hx hb dX12_returns_121 rfl (lv_at hl 0 rfl) ?_
              refine lv_iload_n hx hb dX12_returns_122 rfl (lv_at hl 1 rfl) ?_
              refine lv_iload_n hx hb dX12_returns_123 rfl (lv_at hl 3 rfl) ?_
              refine lv_if_eq (tgt := 131) hx hb dX12_returns_124 (by decide) (fun c89 => absurd c89 (by decide)) (fun _ => ?_)
              refine lv_iconst (v := 2) hx hb dX12_returns_127 (by decide) ?_
              refine lv_goto (tgt := 132) hx hb dX12_returns_128 (by decide) ?_
              refine mcallV' (g := g) (q0 := 0) (ci := 10) (As := [.int x, .int 2]) (rest := []) St hK hT hA hP hD hS hl.1 [0] [] rfl rfl rfl (m_logs l g o a th hi ac tp ba en tA fl de iD iO tU fm2_87 fk fa fc ft ff fb fi x 2 (by first | assumption | omega | decide | exact Or.inl (by decide) | exact Or.inr (by decide))) (cwV 2 hts (zgL (zl4 k1004 k1005 k1006 k837) k998) rfl rfl rfl (by decide +kernel) ⟨Nat.le_of_ble_eq_true rfl, Nat.le_of_ble_eq_true rfl⟩) rfl rfl rfl rfl (Nat.le_of_ble_eq_true rfl) dX12_returns_132 ⟨(Nat.le_of_ble_eq_true rfl), (Nat.le_of_ble_eq_true rfl)⟩ (fun fm2_90 H locs hq91 hP hD hS => ?_)
              replace hq91 : (rM fm2_90) := hq91
              have hP : va_P g.1 vwCl (List.flatten [bMo g o a th hi ac tp ba en tA fl de iD iO tU fm2_90 fk fa fc ft ff fb fi]) H := hP
              have hD : va_D A (List.flatten [bMo g o a th hi ac tp ba en tA fl de iD iO tU fm2_90 fk fa fc ft ff fb fi]) := hD
              refine W.widen (k := 0) (n := 0) (Nat.le_of_ble_eq_true rfl) (Nat.le_of_ble_eq_true rfl) ?_
              refine W.eq (g2 := F0 m 135 ls []) rfl ?_
              have rfm2_90 := hq91; clear hq91
              have hP : va_P g.1 vwCl (List.flatten [bMo g o a th hi ac tp ba en tA fl de iD iO tU fm2_90 fk fa fc ft ff fb fi]) H := hP
              have hD : va_D A (List.flatten [bMo g o a th hi ac tp ba en tA fl de iD iO tU fm2_90 fk fa fc ft ff fb fi]) := hD
              exact mret_v hx hb hr hlocks hS (Nat.le_of_ble_eq_true rfl) (Nat.le_of_ble_eq_true rfl) dX12_returns_135 (fm2_90) rfl (show (rM fm2_90) from (by first | assumption | omega | decide | exact rfl | exact zb01 (by omega) | exact Or.inl (by decide) | exact Or.inr (by first | omega | decide))) hP hD
            · skip
              have c92 : dr.toInt = 0 := zeq cb9 rfl (by decide)
              have n93 : 0 ≤ dr.toInt := Int.le_trans (Int.le_refl _) (Int.le_of_eq c92.symm)
              have n94 : dr.toInt ≤ 0 := Int.le_trans (Int.le_of_eq c92) (Int.le_refl _)
              have hP : va_P g.1 vwCl (List.flatten [bMo g o a th hi ac tp ba en tA fl de iD iO tU fm2_83 fk fa fc ft ff fb fi]) H := hP
              have hD : va_D A (List.flatten [bMo g o a th hi ac tp ba en tA fl de iD iO tU fm2_83 fk fa fc ft ff fb fi]) := hD
              exact mret_v hx hb hr hlocks hS (Nat.le_of_ble_eq_true rfl) (Nat.le_of_ble_eq_true rfl) dX12_returns_104 (fm2_83) rfl (show (rM fm2_83) from (by first | assumption | omega | decide | exact rfl | exact zb01 (by omega) | exact Or.inl (by decide) | exact Or.inr (by first | omega | decide))) hP hD
          · skip
            have c95 : x_76.toInt < x_81.toInt := zlti (Int32.not_le.mp cb9) rfl rfl
            have n96 : x_76.toInt ≤ 7 := zL1 (b := 8) c95 hx_81.2.1 (by decide)
            have n97 : 1 ≤ x_81.toInt := zL2 (a := 0) c95 i78.1 (by decide)
            refine lv_iload_n hx hb dX12_returns_40 rfl (lv_at hl 2 rfl) ?_
            refine lv_if_eq (tgt := 93) hx hb dX12_returns_41 (by decide) (fun cb9 => ?_) (fun cb9 => ?_)
            · skip
              have c98 : dr.toInt = 0 := zeq cb9 rfl (by decide)
              have n99 : 0 ≤ dr.toInt := Int.le_trans (Int.le_refl _) (Int.le_of_eq c98.symm)
              have n100 : dr.toInt ≤ 0 := Int.le_trans (Int.le_of_eq c98) (Int.le_refl _)
              refine lv_aload_n hx hb dX12_returns_93 rfl (lv_at hl 0 rfl) ?_
              refine lv_iload_n hx hb dX12_returns_94 rfl (lv_at hl 1 rfl) ?_
              refine lv_iconst (v := 4) hx hb dX12_returns_95 (by decide) ?_
              refine lv_iconst (v := (-1)) hx hb dX12_returns_96 (by decide) ?_
              have hL4 : (4 : Int32).toInt = 4 := by decide
              refine mcallV' (g := g) (q0 := 0) (ci := 10) (As := [.int x, .int 4, .int (-1)]) (rest := []) St hK hT hA hP hD hS hl.1 [0] [] rfl rfl rfl (m_put l g o a th hi ac tp ba en tA fl de iD iO tU fm_77 fk fa fc ft ff fb fi x 4 (-1) (by first | assumption | omega | decide | exact Or.inl (by decide) | exact Or.inr (by decide)) (⟨b_x.1, b_x.2⟩) (by decide)) (cwV 3 hts (zgL (zl4 k908 k909 k910 k837) k830) rfl rfl rfl (by decide +kernel) ⟨Nat.le_of_ble_eq_true rfl, Nat.le_of_ble_eq_true rfl⟩) rfl rfl rfl rfl (Nat.le_of_ble_eq_true rfl) dX12_returns_97 ⟨(Nat.le_of_ble_eq_true rfl), (Nat.le_of_ble_eq_true rfl)⟩ (fun fm2_101 H locs hq102 hP hD hS => ?_)
              replace hq102 : (rM fm2_101) ∧ ((fm2_101 3).toInt = (fm_77 3).toInt ∧ (fm2_101 4).toInt = (fm_77 4).toInt) := hq102
              have hP : va_P g.1 vwCl (List.flatten [bMo g o a th hi ac tp ba en tA fl de iD iO tU fm2_101 fk fa fc ft ff fb fi]) H := hP
              have hD : va_D A (List.flatten [bMo g o a th hi ac tp ba en tA fl de iD iO tU fm2_101 fk fa fc ft ff fb fi]) := hD
              refine W.widen (k := 0) (n := 0) (Nat.le_of_ble_eq_true rfl) (Nat.le_of_ble_eq_true rfl) ?_
              refine W.eq (g2 := F0 m 100 ls []) rfl ?_
              obtain ⟨rfm2_101, hq102_1⟩ := hq102
              refine lv_iload_n hx hb dX12_returns_100 rfl (lv_at hl 2 rfl) ?_
              refine lv_if_ne (tgt := 105) hx hb dX12_returns_101 (by decide) (fun cb9 => ?_) (fun cb9 => ?_)
              · skip
                exact absurd (show ¬ dr.toInt = 0 from zne cb9 rfl (by decide)) (by omega)
              · skip
                have c104 : dr.toInt = 0 := zeq cb9 rfl (by decide)
                have hP : va_P g.1 vwCl (List.flatten [bMo g o a th hi ac tp ba en tA fl de iD iO tU fm2_101 fk fa fc ft ff fb fi]) H := hP
                have hD : va_D A (List.flatten [bMo g o a th hi ac tp ba en tA fl de iD iO tU fm2_101 fk fa fc ft ff fb fi]) := hD
                exact mret_v hx hb hr hlocks hS (Nat.le_of_ble_eq_true rfl) (Nat.le_of_ble_eq_true rfl) dX12_returns_104 (fm2_101) rfl (show (rM fm2_101) from (by first | assumption | omega | decide | exact rfl | exact zb01 (by omega) | exact Or.inl (by decide) | exact Or.inr (by first | omega | decide))) hP hD
            · skip
              have c105 : ¬ dr.toInt = 0 := zne cb9 rfl (by decide)
              refine lv_iload hx hb dX12_returns_44 (lv_at hl 4 rfl) ?_
              refine lv_iload_n hx hb dX12_returns_46 rfl (lv_at hl 1 rfl) ?_
              refine lv_icmp_eq (tgt := 87) hx hb dX12_returns_47 (by decide) (fun cb9 => ?_) (fun cb9 => ?_)
              · skip
                have c106 : x_76.toInt = x.toInt := zeq cb9 rfl rfl
                refine ziinc3 (n' := 1) (a' := 1) (b' := 8) (lv' := fun v9 => [(4, .int v9), (0, .ref o), (1, .int x), (2, .int dr), (3, .int 1)]) hx hb dX12_returns_87 hl (k := 4) rfl (by decide) (fun _ => rfl) (zaddK (i := x_76.toInt) (j := 1) rfl (by decide) i78.1 n96 (Int.le_refl _) (Int.le_refl _) (by decide)) (fun x_107 ls hx_107 hl => ?_)
                refine lv_goto (tgt := 29) hx hb dX12_returns_90 (by decide) ?_
                have hl := lv_sub (l' := [(0, .ref o), (1, .int x), (2, .int dr), (3, .int 1), (4, .int x_107)]) hl [1, 2, 3, 4, 0] rfl
                have hP : va_P g.1 vwCl (List.flatten [bMo g o a th hi ac tp ba en tA fl de iD iO tU fm_77 fk fa fc ft ff fb fi]) H := hP
                have hD : va_D A (List.flatten [bMo g o a th hi ac tp ba en tA fl de iD iO tU fm_77 fk fa fc ft ff fb fi]) := hD
                exact ih29_80 x_107 fm_77 ⟨(Int.le_trans (by decide) hx_107.2.1), hx_107.2.2⟩ rfm_77 H _ ls (zmK hx_107.1 (by decide) n96 (by decide) hk29_80)  hP hD hS (lv_sub hl [0, 1, 2, 3, 4] rfl)
              · skip
                have c108 : ¬ x_76.toInt = x.toInt := zne cb9 rfl rfl
                refine lv_aload_n hx hb dX12_returns_50 rfl (lv_at hl 0 rfl) ?_
                refine lv_iload hx hb dX12_returns_51 (lv_at hl 4 rfl) ?_
                refine mcallV' (g := g) (q0 := 0) (ci := 10) (As := [.int x_76]) (rest := []) St hK hT hA hP hD hS hl.1 [0] [] rfl rfl rfl (m_isHere l g o a th hi ac tp ba en tA fl de iD iO tU fm_77 fk fa fc ft ff fb fi x_76 (⟨i78.1, n96⟩)) (cwV 1 hts (zgL (zl4 k844 k845 k846 k837) k839) rfl rfl rfl (by decide +kernel) ⟨Nat.le_of_ble_eq_true rfl, Nat.le_of_ble_eq_true rfl⟩) rfl rfl rfl rfl (Nat.le_of_ble_eq_true rfl) dX12_returns_53 ⟨(Nat.le_of_ble_eq_true rfl), (Nat.le_of_ble_eq_true rfl)⟩ (fun q_109 H locs hq110 hP hD hS => ?_)
                replace hq110 : (q_109 = 0 ∨ q_109 = 1) := hq110
                have hP : va_P g.1 vwCl (List.flatten [bMo g o a th hi ac tp ba en tA fl de iD iO tU fm_77 fk fa fc ft ff fb fi]) H := hP
                have hD : va_D A (List.flatten [bMo g o a th hi ac tp ba en tA fl de iD iO tU fm_77 fk fa fc ft ff fb fi]) := hD
                refine W.widen (k := 0) (n := 0) (Nat.le_of_ble_eq_true rfl) (Nat.le_of_ble_eq_true rfl) ?_
                refine W.eq (g2 := F0 m 56 ls [.int q_109]) rfl ?_
                rcases hq110 with rfl | rfl
                · skip
                  refine lv_if_eq (tgt := 87) hx hb dX12_returns_56 (by decide) (fun _ => ?_) (fun c111 => absurd (by decide) c111)
                  refine ziinc3 (n' := 1) (a' := 1) (b' := 8) (lv' := fun v9 => [(4, .int v9), (0, .ref o), (1, .int x), (2, .int dr), (3, .int 1)]) hx hb dX12_returns_87 hl (k := 4) rfl (by decide) (fun _ => rfl) (zaddK (i := x_76.toInt) (j := 1) rfl (by decide) i78.1 n96 (Int.le_refl _) (Int.le_refl _) (by decide)) (fun x_112 ls hx_112 hl => ?_)
                  refine lv_goto (tgt := 29) hx hb dX12_returns_90 (by decide) ?_
                  have hl := lv_sub (l' := [(0, .ref o), (1, .int x), (2, .int dr), (3, .int 1), (4, .int x_112)]) hl [1, 2, 3, 4, 0] rfl
                  have hP : va_P g.1 vwCl (List.flatten [bMo g o a th hi ac tp ba en tA fl de iD iO tU fm_77 fk fa fc ft ff fb fi]) H := hP
                  have hD : va_D A (List.flatten [bMo g o a th hi ac tp ba en tA fl de iD iO tU fm_77 fk fa fc ft ff fb fi]) := hD
                  exact ih29_80 x_112 fm_77 ⟨(Int.le_trans (by decide) hx_112.2.1), hx_112.2.2⟩ rfm_77 H _ ls (zmK hx_112.1 (by decide) n96 (by decide) hk29_80)  hP hD hS (lv_sub hl [0, 1, 2, 3, 4] rfl)
                · skip
                  refine lv_if_eq (tgt := 87) hx hb dX12_returns_56 (by decide) (fun c113 => absurd c113 (by decide)) (fun _ => ?_)
                  refine lv_aload_n hx hb dX12_returns_59 rfl (lv_at hl 0 rfl) ?_
                  refine lv_iload hx hb dX12_returns_60 (lv_at hl 4 rfl) ?_
                  refine lv_iload_n hx hb dX12_returns_62 rfl (lv_at hl 3 rfl) ?_
                  refine lv_if_eq (tgt := 76) hx hb dX12_returns_63 (by decide) (fun c114 => absurd c114 (by decide)) (fun _ => ?_)
                  refine lv_aload_n hx hb dX12_returns_66 rfl (lv_at hl 0 rfl) ?_
                  refine lv_iload hx hb dX12_returns_67 (lv_at hl 4 rfl) ?_
                  refine lv_iload_n hx hb dX12_returns_69 rfl (lv_at hl 1 rfl) ?_
                  refine mcallV' (g := g) (q0 := 0) (ci := 10) (As := [.int x_76, .int x]) (rest := [.int x_76, .ref o]) St hK hT hA hP hD hS hl.1 [0] [] rfl rfl rfl (m_trustOf l g o a th hi ac tp ba en tA fl de iD iO tU fm_77 fk fa fc ft ff fb fi x_76 x (⟨i78.1, n96⟩) (⟨b_x.1, b_x.2⟩)) (cwV 2 hts (zgL (zl4 k866 k867 k868 k837) k833) rfl rfl rfl (by decide +kernel) ⟨Nat.le_of_ble_eq_true rfl, Nat.le_of_ble_eq_true rfl⟩) rfl rfl rfl rfl (Nat.le_of_ble_eq_true rfl) dX12_returns_70 ⟨(Nat.le_of_ble_eq_true rfl), (Nat.le_of_ble_eq_true rfl)⟩ (fun q_115 H locs hq116 hP hD hS => ?_)
                  have hP : va_P g.1 vwCl (List.flatten [bMo g o a th hi ac tp ba en tA fl de iD iO tU fm_77 fk fa fc ft ff fb fi]) H := hP
                  have hD : va_D A (List.flatten [bMo g o a th hi ac tp ba en tA fl de iD iO tU fm_77 fk fa fc ft ff fb fi]) := hD
                  refine W.widen (k := 0) (n := 0) (Nat.le_of_ble_eq_true rfl) (Nat.le_of_ble_eq_true rfl) ?_
                  refine W.eq (g2 := F0 m 73 ls [.int q_115, .int x_76, .ref o]) rfl ?_
                  refine lv_goto (tgt := 84) hx hb dX12_returns_73 (by decide) ?_
                  refine mcallV' (g := g) (q0 := 0) (ci := 10) (As := [.int x_76, .int q_115]) (rest := []) St hK hT hA hP hD hS hl.1 [0] [] rfl rfl rfl (m_believes l g o a th hi ac tp ba en tA fl de iD iO tU fm_77 fk fa fc ft ff fb fi x_76 q_115 (by first | assumption | omega | decide | exact Or.inl (by decide) | exact Or.inr (by decide)) (⟨i78.1, n96⟩)) (cwV 2 hts (zgL (zl4 k1011 k1012 k1013 k837) k1001) rfl rfl rfl (by decide +kernel) ⟨Nat.le_of_ble_eq_true rfl, Nat.le_of_ble_eq_true rfl⟩) rfl rfl rfl rfl (Nat.le_of_ble_eq_true rfl) dX12_returns_84 ⟨(Nat.le_of_ble_eq_true rfl), (Nat.le_of_ble_eq_true rfl)⟩ (fun fm2_117 H locs hq118 hP hD hS => ?_)
                  replace hq118 : (rM fm2_117) := hq118
                  have hP : va_P g.1 vwCl (List.flatten [bMo g o a th hi ac tp ba en tA fl de iD iO tU fm2_117 fk fa fc ft ff fb fi]) H := hP
                  have hD : va_D A (List.flatten [bMo g o a th hi ac tp ba en tA fl de iD iO tU fm2_117 fk fa fc ft ff fb fi]) := hD
                  refine W.widen (k := 0) (n := 0) (Nat.le_of_ble_eq_true rfl) (Nat.le_of_ble_eq_true rfl) ?_
                  refine W.eq (g2 := F0 m 87 ls []) rfl ?_
                  have rfm2_117 := hq118; clear hq118
                  refine ziinc3 (n' := 1) (a' := 1) (b' := 8) (lv' := fun v9 => [(4, .int v9), (0, .ref o), (1, .int x), (2, .int dr), (3, .int 1)]) hx hb dX12_returns_87 hl (k := 4) rfl (by decide) (fun _ => rfl) (zaddK (i := x_76.toInt) (j := 1) rfl (by decide) i78.1 n96 (Int.le_refl _) (Int.le_refl _) (by decide)) (fun x_119 ls hx_119 hl => ?_)
                  refine lv_goto (tgt := 29) hx hb dX12_returns_90 (by decide) ?_
                  have hl := lv_sub (l' := [(0, .ref o), (1, .int x), (2, .int dr), (3, .int 1), (4, .int x_119)]) hl [1, 2, 3, 4, 0] rfl
                  have hP : va_P g.1 vwCl (List.flatten [bMo g o a th hi ac tp ba en tA fl de iD iO tU fm2_117 fk fa fc ft ff fb fi]) H := hP
                  have hD : va_D A (List.flatten [bMo g o a th hi ac tp ba en tA fl de iD iO tU fm2_117 fk fa fc ft ff fb fi]) := hD
                  exact ih29_80 x_119 fm2_117 ⟨(Int.le_trans (by decide) hx_119.2.1), hx_119.2.2⟩ rfm2_117 H _ ls (zmK hx_119.1 (by decide) n96 (by decide) hk29_80)  hP hD hS (lv_sub hl [0, 1, 2, 3, 4] rfl)
      have hP : va_P g.1 vwCl (List.flatten [bMo g o a th hi ac tp ba en tA fl de iD iO tU fm2_25 fk fa fc ft ff fb fi]) H := hP
      have hD : va_D A (List.flatten [bMo g o a th hi ac tp ba en tA fl de iD iO tU fm2_25 fk fa fc ft ff fb fi]) := hD
      exact LP29_79 _ 0 fm2_25 (by decide) rfm2_25 H _ ls (Nat.lt_succ_self _)  hP hD hS (lv_sub hl [0, 1, 2, 3, 4] rfl)
