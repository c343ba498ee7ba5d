set_option maxRecDepth 100000 in
set_option maxHeartbeats 4000000 in
theorem m_figures (l : Launch) (g : zG) (o : Nat) (a : Nat → Nat) (th : Int32) (hi : Int32) (ac : Int32) (tp : Int32) (ba : Int32) (en : Int32) (tA : Int32) (fl : Int32) (de : Int32) (iD : Int32) (iO : Int32) (tU : Int32) (fm : Nat → Int32) (fk : Nat → Int32) (fa : Nat → Int32) (fc : Nat → Int32) (ft : Nat → Int32) (ff : Nat → Int32) (fb : Nat → Int32) (fi : Nat → Int32) (lw : Int32) (hg : Int32) (hba : zBa ba.toInt) (hen : 0 ≤ en.toInt ∧ en.toInt ≤ 400) (htA : 0 ≤ tA.toInt ∧ tA.toInt ≤ en.toInt + 7 - de.toInt) (hfl : -1 ≤ fl.toInt) (hde : 0 ≤ de.toInt ∧ de.toInt ≤ 6) : zM' g l yX12_figures (Cond.code yX12_figures cX12_figures 5 (some .int) :: zB) ({ frames := 3, cells := 0, slots := 0, locals := 61 } : Room) [.ref o, .int lw, .int hg] [bMo g o a th hi ac tp ba en tA fl de iD iO tU fm fk fa fc ft ff fb fi] (fun u : Int32 × Int32 × Int32 => (fun (at2 : Int32) (fl2 : Int32) (r : Int32) => some (.int r)) (u.1) (u.2.1) (u.2.2)) (fun u : Int32 × Int32 × Int32 => (fun (at2 : Int32) (fl2 : Int32) (r : Int32) => (0 ≤ at2.toInt ∧ at2.toInt ≤ en.toInt + 7 - de.toInt) ∧ (tA.toInt ≤ at2.toInt) ∧ (-1 ≤ fl2.toInt) ∧ (zImp (fl2.toInt = -1) (fl.toInt = -1 ∧ lw.toInt ≤ r.toInt ∧ r.toInt ≤ hg.toInt))) (u.1) (u.2.1) (u.2.2)) (fun u : Int32 × Int32 × Int32 => (fun (at2 : Int32) (fl2 : Int32) (r : Int32) => [bMo g o a th hi ac tp ba en at2 fl2 de iD iO tU fm fk fa fc ft ff fb fi]) (u.1) (u.2.1) (u.2.2)) := by
  refine zM'.of (cc := cX12_figures) (maxL := 5) (rt := (some .int)) (by decide) rfl (Nat.le_of_ble_eq_true rfl) ?_
  intro p e s m args below meth c A ls St hr hlocks hin hK hT hA hP hD hS hl
  obtain ⟨hx, hb, hml, hown, hts⟩ := id St
  have hl : lv_has ls 5 [(0, .ref o), (1, .int lw), (2, .int hg)] := hl
  refine lv_aload_n hx hb dX12_figures_0 rfl (lv_at hl 0 rfl) ?_
  refine va_get (D := g.1) (ci := 10) (v := .int fl) (C := RX12) (T := TX12) (N := 20) hx hb hts izRX12 hown hK hP 0 rfl rfl 12 (by decide) (hts _ k820) (fun _ h9 => h9) rfl dX12_figures_1 ?_
  refine lv_iconst (v := (-1)) hx hb dX12_figures_4 (by decide) ?_
  refine lv_icmp_eq (tgt := 10) hx hb dX12_figures_5 (by decide) (fun cb9 => ?_) (fun cb9 => ?_)
  · skip
    have c1 : fl.toInt = (-1) := zeq cb9 rfl (by decide)
    have n2 : fl.toInt ≤ (-1) := Int.le_trans (Int.le_of_eq c1) (Int.le_refl _)
    refine lv_aload_n hx hb dX12_figures_10 rfl (lv_at hl 0 rfl) ?_
    refine mcallV' (g := g) (q0 := 0) (ci := 10) (As := []) (rest := []) St hK hT hA hP hD hS hl.1 [0] [] rfl rfl rfl (m_here l g o a th hi ac tp ba en tA fl de iD iO tU fm fk fa fc ft ff fb fi (by first | assumption | omega | decide | exact Or.inl (by decide) | exact Or.inr (by decide)) (⟨hen.1, hen.2⟩) (by first | assumption | omega | decide | exact Or.inl (by decide) | exact Or.inr (by decide)) (by first | assumption | omega | decide | exact Or.inl (by decide) | exact Or.inr (by decide)) (⟨hde.1, hde.2⟩)) (cwV 0 hts (zgL (zl4 k891 k892 k893 k837) k890) rfl rfl rfl (by decide +kernel) ⟨Nat.le_of_ble_eq_true rfl, Nat.le_of_ble_eq_true rfl⟩) rfl rfl rfl rfl (Nat.le_of_ble_eq_true rfl) dX12_figures_11 ⟨(Nat.le_of_ble_eq_true rfl), (Nat.le_of_ble_eq_true rfl)⟩ (fun at2_3 H locs hq4 hP hD hS => ?_)
    replace hq4 : (0 ≤ at2_3.toInt ∧ at2_3.toInt ≤ en.toInt + 7 - de.toInt) ∧ (tA.toInt ≤ at2_3.toInt) := hq4
    have hP : va_P g.1 vwCl (List.flatten [bMo g o a th hi ac tp ba en at2_3 fl de iD iO tU fm fk fa fc ft ff fb fi]) H := hP
    have hD : va_D A (List.flatten [bMo g o a th hi ac tp ba en at2_3 fl de iD iO tU fm fk fa fc ft ff fb fi]) := hD
    refine W.widen (k := 0) (n := 0) (Nat.le_of_ble_eq_true rfl) (Nat.le_of_ble_eq_true rfl) ?_
    refine W.eq (g2 := F0 m 14 ls [.int at2_3]) rfl ?_
    obtain ⟨hq4_0, hq4_1⟩ := hq4
    refine lv_istore_n (lv' := [(3, .int at2_3), (0, .ref o), (1, .int lw), (2, .int hg)]) hx hb dX12_figures_14 rfl hl (by decide) rfl (fun ls hl => ?_)
    refine lv_iconst (v := 0) hx hb dX12_figures_15 (by decide) ?_
    refine lv_istore (lv' := [(4, .int 0), (3, .int at2_3), (0, .ref o), (1, .int lw), (2, .int hg)]) hx hb dX12_figures_16 hl (by decide) rfl (fun ls hl => ?_)
    have hl := lv_sub (l' := [(0, .ref o), (1, .int lw), (2, .int hg), (3, .int at2_3), (4, .int 0)]) hl [2, 3, 4, 1, 0] rfl
    have LP18_10 : ∀ (kf : Nat) (x_5 : Int32) (x_6 : Int32), (0 ≤ x_6.toInt ∧ x_6.toInt ≤ 407) → (tA.toInt ≤ x_6.toInt ∧ x_6.toInt ≤ en.toInt + 7 - de.toInt) → (at2_3.toInt ≤ x_6.toInt) → ∀ (H : Heap) (locs : List Loc) (ls : Array Slot), ((en.toInt - x_6.toInt).toNat) < kf → va_P g.1 vwCl (List.flatten [bMo g o a th hi ac tp ba en x_6 fl de iD iO tU fm fk fa fc ft ff fb fi]) H → va_D A (List.flatten [bMo g o a th hi ac tp ba en x_6 fl de iD iO tU fm fk fa fc ft ff fb fi]) → va_S A s.heap H locs → lv_has ls 5 [(0, .ref o), (1, .int lw), (2, .int hg), (3, .int at2_3), (4, .int x_5)] → W p l e ({ frames := 3, cells := 0, slots := 0, locals := 61 } : Room) s m args below meth c H locs (0) (0) (zF g (fun u : Int32 × Int32 × Int32 => (fun (at2 : Int32) (fl2 : Int32) (r : Int32) => some (.int r)) (u.1) (u.2.1) (u.2.2)) (fun u : Int32 × Int32 × Int32 => (fun (at2 : Int32) (fl2 : Int32) (r : Int32) => (0 ≤ at2.toInt ∧ at2.toInt ≤ en.toInt + 7 - de.toInt) ∧ (tA.toInt ≤ at2.toInt) ∧ (-1 ≤ fl2.toInt) ∧ (zImp (fl2.toInt = -1) (fl.toInt = -1 ∧ lw.toInt ≤ r.toInt ∧ r.toInt ≤ hg.toInt))) (u.1) (u.2.1) (u.2.2)) (fun u : Int32 × Int32 × Int32 => (fun (at2 : Int32) (fl2 : Int32) (r : Int32) => [bMo g o a th hi ac tp ba en at2 fl2 de iD iO tU fm fk fa fc ft ff fb fi]) (u.1) (u.2.1) (u.2.2)) ({ frames := 3, cells := 0, slots := 0, locals := 61 } : Room) below args s A) (F0 m 18 ls []) := by
      intro kf
      induction kf with
      | zero => intro x_5 x_6 i7 i8 i9 H locs ls hk; exact absurd hk (Nat.not_lt_zero _)
      | succ kf ih18_11 =>
        intro x_5 x_6 i7 i8 i9 H locs ls hk18_11 hP hD hS hl
        refine lv_aload_n hx hb dX12_figures_18 rfl (lv_at hl 0 rfl) ?_
        refine va_get (D := g.1) (ci := 10) (v := .int x_6) (C := RX12) (T := TX12) (N := 20) hx hb hts izRX12 hown hK hP 0 rfl rfl 11 (by decide) (hts _ k877) (fun _ h9 => h9) rfl dX12_figures_19 ?_
        refine lv_aload_n hx hb dX12_figures_22 rfl (lv_at hl 0 rfl) ?_
        refine va_get (D := g.1) (ci := 10) (v := .int en) (C := RX12) (T := TX12) (N := 20) hx hb hts izRX12 hown hK hP 0 rfl rfl 10 (by decide) (hts _ k878) (fun _ h9 => h9) rfl dX12_figures_23 ?_
        refine lv_icmp_ge (tgt := 89) hx hb dX12_figures_26 (by decide) (fun cb9 => ?_) (fun cb9 => ?_)
        · skip
          have c12 : en.toInt ≤ x_6.toInt := zle cb9 rfl rfl
          refine lv_aload_n hx hb dX12_figures_89 rfl (lv_at hl 0 rfl) ?_
          refine va_get (D := g.1) (ci := 10) (v := .int x_6) (C := RX12) (T := TX12) (N := 20) hx hb hts izRX12 hown hK hP 0 rfl rfl 11 (by decide) (hts _ k877) (fun _ h9 => h9) rfl dX12_figures_90 ?_
          refine lv_iload_n hx hb dX12_figures_93 rfl (lv_at hl 3 rfl) ?_
          refine lv_icmp_eq (tgt := 119) hx hb dX12_figures_94 (by decide) (fun cb9 => ?_) (fun cb9 => ?_)
          · skip
            have c13 : x_6.toInt = at2_3.toInt := zeq cb9 rfl rfl
            refine lv_aload_n hx hb dX12_figures_119 rfl (lv_at hl 0 rfl) ?_
            refine lv_iload_n hx hb dX12_figures_120 rfl (lv_at hl 3 rfl) ?_
            refine mcallV' (g := g) (q0 := 0) (ci := 10) (As := [.int at2_3]) (rest := []) St hK hT hA hP hD hS hl.1 [0] [] rfl rfl rfl (m_wrong l g o a th hi ac tp ba en x_6 fl de iD iO tU fm fk fa fc ft ff fb fi at2_3 (by first | assumption | omega | decide | exact Or.inl (by decide) | exact Or.inr (by decide)) (by first | assumption | omega | decide | exact Or.inl (by decide) | exact Or.inr (by decide))) (cwV 1 hts (zgL (zl4 k894 k895 k896 k837) k889) rfl rfl rfl (by decide +kernel) ⟨Nat.le_of_ble_eq_true rfl, Nat.le_of_ble_eq_true rfl⟩) rfl rfl rfl rfl (Nat.le_of_ble_eq_true rfl) dX12_figures_121 ⟨(Nat.le_of_ble_eq_true rfl), (Nat.le_of_ble_eq_true rfl)⟩ (fun fl2_14 H locs hq15 hP hD hS => ?_)
            replace hq15 : (0 ≤ fl2_14.toInt) := hq15
            have hP : va_P g.1 vwCl (List.flatten [bMo g o a th hi ac tp ba en x_6 fl2_14 de iD iO tU fm fk fa fc ft ff fb fi]) H := hP
            have hD : va_D A (List.flatten [bMo g o a th hi ac tp ba en x_6 fl2_14 de iD iO tU fm fk fa fc ft ff fb fi]) := hD
            refine W.widen (k := 0) (n := 0) (Nat.le_of_ble_eq_true rfl) (Nat.le_of_ble_eq_true rfl) ?_
            refine W.eq (g2 := F0 m 124 ls []) rfl ?_
            refine lv_iload hx hb dX12_figures_124 (lv_at hl 4 rfl) ?_
            have hP : va_P g.1 vwCl (List.flatten [bMo g o a th hi ac tp ba en x_6 fl2_14 de iD iO tU fm fk fa fc ft ff fb fi]) H := hP
            have hD : va_D A (List.flatten [bMo g o a th hi ac tp ba en x_6 fl2_14 de iD iO tU fm fk fa fc ft ff fb fi]) := hD
            exact mret_i hx hb hr hlocks hS (Nat.le_of_ble_eq_true rfl) (Nat.le_of_ble_eq_true rfl) dX12_figures_126 (x_6, fl2_14, x_5) rfl (show (0 ≤ x_6.toInt ∧ x_6.toInt ≤ en.toInt + 7 - de.toInt) ∧ (tA.toInt ≤ x_6.toInt) ∧ (-1 ≤ fl2_14.toInt) ∧ (zImp (fl2_14.toInt = -1) (fl.toInt = -1 ∧ lw.toInt ≤ x_5.toInt ∧ x_5.toInt ≤ hg.toInt)) from ⟨(by first | assumption | omega | decide | exact rfl | exact zb01 (by omega) | exact Or.inl (by decide) | exact Or.inr (by first | omega | decide)), (by first | assumption | omega | decide | exact rfl | exact zb01 (by omega) | exact Or.inl (by decide) | exact Or.inr (by first | omega | decide)), (by first | assumption | omega | decide | exact rfl | exact zb01 (by omega) | exact Or.inl (by decide) | exact Or.inr (by first | omega | decide)), (fun h9 => by first | omega)⟩) hP hD
          · skip
            have c16 : ¬ x_6.toInt = at2_3.toInt := zne cb9 rfl rfl
            refine lv_aload_n hx hb dX12_figures_97 rfl (lv_at hl 0 rfl) ?_
            refine va_get (D := g.1) (ci := 10) (v := .int x_6) (C := RX12) (T := TX12) (N := 20) hx hb hts izRX12 hown hK hP 0 rfl rfl 11 (by decide) (hts _ k877) (fun _ h9 => h9) rfl dX12_figures_98 ?_
            refine lv_iload_n hx hb dX12_figures_101 rfl (lv_at hl 3 rfl) ?_
            refine lv_isub hx hb dX12_figures_102 ?_
            refine zgv (zsub (i := x_6.toInt) (j := at2_3.toInt) rfl rfl (by omega)) (fun x_17 hx_17 => ?_)
            refine lv_iconst (v := 3) hx hb dX12_figures_103 (by decide) ?_
            refine lv_icmp_gt (tgt := 119) hx hb dX12_figures_104 (by decide) (fun cb9 => ?_) (fun cb9 => ?_)
            · skip
              have c18 : 3 < x_17.toInt := zlti cb9 (by decide) rfl
              have n19 : 4 ≤ x_17.toInt := zL2 (a := 3) c18 (Int.le_refl _) (by decide)
              refine lv_aload_n hx hb dX12_figures_119 rfl (lv_at hl 0 rfl) ?_
              refine lv_iload_n hx hb dX12_figures_120 rfl (lv_at hl 3 rfl) ?_
              refine mcallV' (g := g) (q0 := 0) (ci := 10) (As := [.int at2_3]) (rest := []) St hK hT hA hP hD hS hl.1 [0] [] rfl rfl rfl (m_wrong l g o a th hi ac tp ba en x_6 fl de iD iO tU fm fk fa fc ft ff fb fi at2_3 (by first | assumption | omega | decide | exact Or.inl (by decide) | exact Or.inr (by decide)) (by first | assumption | omega | decide | exact Or.inl (by decide) | exact Or.inr (by decide))) (cwV 1 hts (zgL (zl4 k894 k895 k896 k837) k889) rfl rfl rfl (by decide +kernel) ⟨Nat.le_of_ble_eq_true rfl, Nat.le_of_ble_eq_true rfl⟩) rfl rfl rfl rfl (Nat.le_of_ble_eq_true rfl) dX12_figures_121 ⟨(Nat.le_of_ble_eq_true rfl), (Nat.le_of_ble_eq_true rfl)⟩ (fun fl2_20 H locs hq21 hP hD hS => ?_)
              replace hq21 : (0 ≤ fl2_20.toInt) := hq21
              have hP : va_P g.1 vwCl (List.flatten [bMo g o a th hi ac tp ba en x_6 fl2_20 de iD iO tU fm fk fa fc ft ff fb fi]) H := hP
              have hD : va_D A (List.flatten [bMo g o a th hi ac tp ba en x_6 fl2_20 de iD iO tU fm fk fa fc ft ff fb fi]) := hD
              refine W.widen (k := 0) (n := 0) (Nat.le_of_ble_eq_true rfl) (Nat.le_of_ble_eq_true rfl) ?_
              refine W.eq (g2 := F0 m 124 ls []) rfl ?_
              refine lv_iload hx hb dX12_figures_124 (lv_at hl 4 rfl) ?_
              have hP : va_P g.1 vwCl (List.flatten [bMo g o a th hi ac tp ba en x_6 fl2_20 de iD iO tU fm fk fa fc ft ff fb fi]) H := hP
              have hD : va_D A (List.flatten [bMo g o a th hi ac tp ba en x_6 fl2_20 de iD iO tU fm fk fa fc ft ff fb fi]) := hD
              exact mret_i hx hb hr hlocks hS (Nat.le_of_ble_eq_true rfl) (Nat.le_of_ble_eq_true rfl) dX12_figures_126 (x_6, fl2_20, x_5) rfl (show (0 ≤ x_6.toInt ∧ x_6.toInt ≤ en.toInt + 7 - de.toInt) ∧ (tA.toInt ≤ x_6.toInt) ∧ (-1 ≤ fl2_20.toInt) ∧ (zImp (fl2_20.toInt = -1) (fl.toInt = -1 ∧ lw.toInt ≤ x_5.toInt ∧ x_5.toInt ≤ hg.toInt)) from ⟨(by first | assumption | omega | decide | exact rfl | exact zb01 (by omega) | exact Or.inl (by decide) | exact Or.inr (by first | omega | decide)), (by first | assumption | omega | decide | exact rfl | exact zb01 (by omega) | exact Or.inl (by decide) | exact Or.inr (by first | omega | decide)), (by first | assumption | omega | decide | exact rfl | exact zb01 (by omega) | exact Or.inl (by decide) | exact Or.inr (by first | omega | decide)), (fun h9 => by first | omega)⟩) hP hD
            · skip
              have c22 : x_17.toInt ≤ 3 := zle (Int32.not_lt.mp cb9) rfl (by decide)
              have n23 : x_17.toInt ≤ 3 := Int.le_trans c22 (Int.le_refl _)
              refine lv_iload hx hb dX12_figures_107 (lv_at hl 4 rfl) ?_
              refine lv_iload_n hx hb dX12_figures_109 rfl (lv_at hl 1 rfl) ?_
              refine lv_icmp_lt (tgt := 119) hx hb dX12_figures_110 (by decide) (fun cb9 => ?_) (fun cb9 => ?_)
              · skip
                have c24 : x_5.toInt < lw.toInt := zlti cb9 rfl rfl
                refine lv_aload_n hx hb dX12_figures_119 rfl (lv_at hl 0 rfl) ?_
                refine lv_iload_n hx hb dX12_figures_120 rfl (lv_at hl 3 rfl) ?_
                refine mcallV' (g := g) (q0 := 0) (ci := 10) (As := [.int at2_3]) (rest := []) St hK hT hA hP hD hS hl.1 [0] [] rfl rfl rfl (m_wrong l g o a th hi ac tp ba en x_6 fl de iD iO tU fm fk fa fc ft ff fb fi at2_3 (by first | assumption | omega | decide | exact Or.inl (by decide) | exact Or.inr (by decide)) (by first | assumption | omega | decide | exact Or.inl (by decide) | exact Or.inr (by decide))) (cwV 1 hts (zgL (zl4 k894 k895 k896 k837) k889) rfl rfl rfl (by decide +kernel) ⟨Nat.le_of_ble_eq_true rfl, Nat.le_of_ble_eq_true rfl⟩) rfl rfl rfl rfl (Nat.le_of_ble_eq_true rfl) dX12_figures_121 ⟨(Nat.le_of_ble_eq_true rfl), (Nat.le_of_ble_eq_true rfl)⟩ (fun fl2_25 H locs hq26 hP hD hS => ?_)
                replace hq26 : (0 ≤ fl2_25.toInt) := hq26
                have hP : va_P g.1 vwCl (List.flatten [bMo g o a th hi ac tp ba en x_6 fl2_25 de iD iO tU fm fk fa fc ft ff fb fi]) H := hP
                have hD : va_D A (List.flatten [bMo g o a th hi ac tp ba en x_6 fl2_25 de iD iO tU fm fk fa fc ft ff fb fi]) := hD
                refine W.widen (k := 0) (n := 0) (Nat.le_of_ble_eq_true rfl) (Nat.le_of_ble_eq_true rfl) ?_
                refine W.eq (g2 := F0 m 124 ls []) rfl ?_
                refine lv_iload hx hb dX12_figures_124 (lv_at hl 4 rfl) ?_
                have hP : va_P g.1 vwCl (List.flatten [bMo g o a th hi ac tp ba en x_6 fl2_25 de iD iO tU fm fk fa fc ft ff fb fi]) H := hP
                have hD : va_D A (List.flatten [bMo g o a th hi ac tp ba en x_6 fl2_25 de iD iO tU fm fk fa fc ft ff fb fi]) := hD
                exact mret_i hx hb hr hlocks hS (Nat.le_of_ble_eq_true rfl) (Nat.le_of_ble_eq_true rfl) dX12_figures_126 (x_6, fl2_25, x_5) rfl (show (0 ≤ x_6.toInt ∧ x_6.toInt ≤ en.toInt + 7 - de.toInt) ∧ (tA.toInt ≤ x_6.toInt) ∧ (-1 ≤ fl2_25.toInt) ∧ (zImp (fl2_25.toInt = -1) (fl.toInt = -1 ∧ lw.toInt ≤ x_5.toInt ∧ x_5.toInt ≤ hg.toInt)) from ⟨(by first | assumption | omega | decide | exact rfl | exact zb01 (by omega) | exact Or.inl (by decide) | exact Or.inr (by first | omega | decide)), (by first | assumption | omega | decide | exact rfl | exact zb01 (by omega) | exact Or.inl (by decide) | exact Or.inr (by first | omega | decide)), (by first | assumption | omega | decide | exact rfl | exact zb01 (by omega) | exact Or.inl (by decide) | exact Or.inr (by first | omega | decide)), (fun h9 => by first | omega)⟩) hP hD
              · skip
                have c27 : lw.toInt ≤ x_5.toInt := zle (Int32.not_lt.mp cb9) rfl rfl
                refine lv_iload hx hb dX12_figures_113 (lv_at hl 4 rfl) ?_
                refine lv_iload_n hx hb dX12_figures_115 rfl (lv_at hl 2 rfl) ?_
                refine lv_icmp_le (tgt := 124) hx hb dX12_figures_116 (by decide) (fun cb9 => ?_) (fun cb9 => ?_)
                · skip
                  have c28 : x_5.toInt ≤ hg.toInt := zle cb9 rfl rfl
                  refine lv_iload hx hb dX12_figures_124 (lv_at hl 4 rfl) ?_
                  have hP : va_P g.1 vwCl (List.flatten [bMo g o a th hi ac tp ba en x_6 fl de iD iO tU fm fk fa fc ft ff fb fi]) H := hP
                  have hD : va_D A (List.flatten [bMo g o a th hi ac tp ba en x_6 fl de iD iO tU fm fk fa fc ft ff fb fi]) := hD
                  exact mret_i hx hb hr hlocks hS (Nat.le_of_ble_eq_true rfl) (Nat.le_of_ble_eq_true rfl) dX12_figures_126 (x_6, fl, x_5) rfl (show (0 ≤ x_6.toInt ∧ x_6.toInt ≤ en.toInt + 7 - de.toInt) ∧ (tA.toInt ≤ x_6.toInt) ∧ (-1 ≤ fl.toInt) ∧ (zImp (fl.toInt = -1) (fl.toInt = -1 ∧ lw.toInt ≤ x_5.toInt ∧ x_5.toInt ≤ hg.toInt)) from ⟨(by first | assumption | omega | decide | exact rfl | exact zb01 (by omega) | exact Or.inl (by decide) | exact Or.inr (by first | omega | decide)), (by first | assumption | omega | decide | exact rfl | exact zb01 (by omega) | exact Or.inl (by decide) | exact Or.inr (by first | omega | decide)), (by first | assumption | omega | decide | exact rfl | exact zb01 (by omega) | exact Or.inl (by decide) | exact Or.inr (by first | omega | decide)), (fun h9 => by first | omega)⟩) hP hD
                · skip
                  have c29 : hg.toInt < x_5.toInt := zlti (Int32.not_le.mp cb9) rfl rfl
                  refine lv_aload_n hx hb dX12_figures_119 rfl (lv_at hl 0 rfl) ?_
                  refine lv_iload_n hx hb dX12_figures_120 rfl (lv_at hl 3 rfl) ?_
                  refine mcallV' (g := g) (q0 := 0) (ci := 10) (As := [.int at2_3]) (rest := []) St hK hT hA hP hD hS hl.1 [0] [] rfl rfl rfl (m_wrong l g o a th hi ac tp ba en x_6 fl de iD iO tU fm fk fa fc ft ff fb fi at2_3 (by first | assumption | omega | decide | exact Or.inl (by decide) | exact Or.inr (by decide)) (by first | assumption | omega | decide | exact Or.inl (by decide) | exact Or.inr (by decide))) (cwV 1 hts (zgL (zl4 k894 k895 k896 k837) k889) rfl rfl rfl (by decide +kernel) ⟨Nat.le_of_ble_eq_true rfl, Nat.le_of_ble_eq_true rfl⟩) rfl rfl rfl rfl (Nat.le_of_ble_eq_true rfl) dX12_figures_121 ⟨(Nat.le_of_ble_eq_true rfl), (Nat.le_of_ble_eq_true rfl)⟩ (fun fl2_30 H locs hq31 hP hD hS => ?_)
                  replace hq31 : (0 ≤ fl2_30.toInt) := hq31
                  have hP : va_P g.1 vwCl (List.flatten [bMo g o a th hi ac tp ba en x_6 fl2_30 de iD iO tU fm fk fa fc ft ff fb fi]) H := hP
                  have hD : va_D A (List.flatten [bMo g o a th hi ac tp ba en x_6 fl2_30 de iD iO tU fm fk fa fc ft ff fb fi]) := hD
                  refine W.widen (k := 0) (n := 0) (Nat.le_of_ble_eq_true rfl) (Nat.le_of_ble_eq_true rfl) ?_
                  refine W.eq (g2 := F0 m 124 ls []) rfl ?_
                  refine lv_iload hx hb dX12_figures_124 (lv_at hl 4 rfl) ?_
                  have hP : va_P g.1 vwCl (List.flatten [bMo g o a th hi ac tp ba en x_6 fl2_30 de iD iO tU fm fk fa fc ft ff fb fi]) H := hP
                  have hD : va_D A (List.flatten [bMo g o a th hi ac tp ba en x_6 fl2_30 de iD iO tU fm fk fa fc ft ff fb fi]) := hD
                  exact mret_i hx hb hr hlocks hS (Nat.le_of_ble_eq_true rfl) (Nat.le_of_ble_eq_true rfl) dX12_figures_126 (x_6, fl2_30, x_5) rfl (show (0 ≤ x_6.toInt ∧ x_6.toInt ≤ en.toInt + 7 - de.toInt) ∧ (tA.toInt ≤ x_6.toInt) ∧ (-1 ≤ fl2_30.toInt) ∧ (zImp (fl2_30.toInt = -1) (fl.toInt = -1 ∧ lw.toInt ≤ x_5.toInt ∧ x_5.toInt ≤ hg.toInt)) from ⟨(by first | assumption | omega | decide | exact rfl | exact zb01 (by omega) | exact Or.inl (by decide) | exact Or.inr (by first | omega | decide)), (by first | assumption | omega | decide | exact rfl | exact zb01 (by omega) | exact Or.inl (by decide) | exact Or.inr (by first | omega | decide)), (by first | assumption | omega | decide | exact rfl | exact zb01 (by omega) | exact Or.inl (by decide) | exact Or.inr (by first | omega | decide)), (fun h9 => by first | omega)⟩) hP hD
        · skip
          have c32 : x_6.toInt < en.toInt := zlti (Int32.not_le.mp cb9) rfl rfl
          have n33 : x_6.toInt ≤ 399 := zL1 (b := 400) c32 hen.2 (by decide)
          have n34 : 1 ≤ en.toInt := zL2 (a := 0) c32 i7.1 (by decide)
          refine lv_aload_n hx hb dX12_figures_29 rfl (lv_at hl 0 rfl) ?_
          refine lv_aload_n hx hb dX12_figures_30 rfl (lv_at hl 0 rfl) ?_
          refine va_get (D := g.1) (ci := 10) (v := .int x_6) (C := RX12) (T := TX12) (N := 20) hx hb hts izRX12 hown hK hP 0 rfl rfl 11 (by decide) (hts _ k877) (fun _ h9 => h9) rfl dX12_figures_31 ?_
          refine mcallV' (g := g) (q0 := 0) (ci := 10) (As := [.int x_6]) (rest := []) St hK hT hA hP hD hS hl.1 [0] [] rfl rfl rfl (m_letter l g o a th hi ac tp ba en x_6 fl de iD iO tU fm fk fa fc ft ff fb fi x_6 (⟨i7.1, n33⟩) (by first | assumption | omega | decide | exact Or.inl (by decide) | exact Or.inr (by decide))) (cwV 1 hts (zgL (zl4 k879 k880 k881 k837) k874) rfl rfl rfl (by decide +kernel) ⟨Nat.le_of_ble_eq_true rfl, Nat.le_of_ble_eq_true rfl⟩) rfl rfl rfl rfl (Nat.le_of_ble_eq_true rfl) dX12_figures_34 ⟨(Nat.le_of_ble_eq_true rfl), (Nat.le_of_ble_eq_true rfl)⟩ (fun q_35 H locs hq36 hP hD hS => ?_)
          have hP : va_P g.1 vwCl (List.flatten [bMo g o a th hi ac tp ba en x_6 fl de iD iO tU fm fk fa fc ft ff fb fi]) H := hP
          have hD : va_D A (List.flatten [bMo g o a th hi ac tp ba en x_6 fl de iD iO tU fm fk fa fc ft ff fb fi]) := hD
          refine W.widen (k := 0) (n := 0) (Nat.le_of_ble_eq_true rfl) (Nat.le_of_ble_eq_true rfl) ?_
          refine W.eq (g2 := F0 m 37 ls [.int q_35]) rfl ?_
          refine lv_bipush (v := 48) hx hb dX12_figures_37 (by decide) ?_
          refine lv_bipush (v := 57) hx hb dX12_figures_39 (by decide) ?_
          have hL48 : (48 : Int32).toInt = 48 := by decide
          have hL57 : (57 : Int32).toInt = 57 := by decide
          refine mcallS' (g := g) (As := [.int q_35, .int 48, .int 57]) (rest := []) St hK hT hA hP hD hS hl.1 [] [0] rfl rfl rfl (m_isIn l g q_35 48 57 ) (va_cwS 3 hts (zgL (zl3 k835 k836 k837) k824) rfl rfl rfl (by decide +kernel) ⟨Nat.le_of_ble_eq_true rfl, Nat.le_of_ble_eq_true rfl⟩) rfl rfl (Nat.le_of_ble_eq_true rfl) dX12_figures_41 ⟨(Nat.le_of_ble_eq_true rfl), (Nat.le_of_ble_eq_true rfl)⟩ (fun q_37 H locs hq38 hP hD hS => ?_)
          replace hq38 : (q_37 = 1 ∧ (48 : Int32).toInt ≤ q_35.toInt ∧ q_35.toInt ≤ (57 : Int32).toInt ∨ q_37 = 0 ∧ (q_35.toInt < (48 : Int32).toInt ∨ (57 : Int32).toInt < q_35.toInt)) := hq38
          have hP : va_P g.1 vwCl (List.flatten [bMo g o a th hi ac tp ba en x_6 fl de iD iO tU fm fk fa fc ft ff fb fi]) H := hP
          have hD : va_D A (List.flatten [bMo g o a th hi ac tp ba en x_6 fl de iD iO tU fm fk fa fc ft ff fb fi]) := hD
          refine W.widen (k := 0) (n := 0) (Nat.le_of_ble_eq_true rfl) (Nat.le_of_ble_eq_true rfl) ?_
          refine W.eq (g2 := F0 m 44 ls [.int q_37]) rfl ?_
          rcases hq38 with ⟨rfl, hq38_k⟩ | ⟨rfl, hq38_k⟩
          · skip
            refine lv_if_eq (tgt := 89) hx hb dX12_figures_44 (by decide) (fun c39 => absurd c39 (by decide)) (fun _ => ?_)
            refine lv_aload_n hx hb dX12_figures_47 rfl (lv_at hl 0 rfl) ?_
            refine va_get (D := g.1) (ci := 10) (v := .int x_6) (C := RX12) (T := TX12) (N := 20) hx hb hts izRX12 hown hK hP 0 rfl rfl 11 (by decide) (hts _ k877) (fun _ h9 => h9) rfl dX12_figures_48 ?_
            refine lv_iload_n hx hb dX12_figures_51 rfl (lv_at hl 3 rfl) ?_
            refine lv_isub hx hb dX12_figures_52 ?_
            refine zgv (zsub (i := x_6.toInt) (j := at2_3.toInt) rfl rfl (by omega)) (fun x_40 hx_40 => ?_)
            refine lv_iconst (v := 3) hx hb dX12_figures_53 (by decide) ?_
            refine lv_icmp_gt (tgt := 89) hx hb dX12_figures_54 (by decide) (fun cb9 => ?_) (fun cb9 => ?_)
            · skip
              have c41 : 3 < x_40.toInt := zlti cb9 (by decide) rfl
              have n42 : 4 ≤ x_40.toInt := zL2 (a := 3) c41 (Int.le_refl _) (by decide)
              refine lv_aload_n hx hb dX12_figures_89 rfl (lv_at hl 0 rfl) ?_
              refine va_get (D := g.1) (ci := 10) (v := .int x_6) (C := RX12) (T := TX12) (N := 20) hx hb hts izRX12 hown hK hP 0 rfl rfl 11 (by decide) (hts _ k877) (fun _ h9 => h9) rfl dX12_figures_90 ?_
              refine lv_iload_n hx hb dX12_figures_93 rfl (lv_at hl 3 rfl) ?_
              refine lv_icmp_eq (tgt := 119) hx hb dX12_figures_94 (by decide) (fun cb9 => ?_) (fun cb9 => ?_)
              · skip
                have c43 : x_6.toInt = at2_3.toInt := zeq cb9 rfl rfl
                have n44 : at2_3.toInt ≤ 399 := Int.le_trans (Int.le_of_eq c43.symm) n33
                refine lv_aload_n hx hb dX12_figures_119 rfl (lv_at hl 0 rfl) ?_
                refine lv_iload_n hx hb dX12_figures_120 rfl (lv_at hl 3 rfl) ?_
                refine mcallV' (g := g) (q0 := 0) (ci := 10) (As := [.int at2_3]) (rest := []) St hK hT hA hP hD hS hl.1 [0] [] rfl rfl rfl (m_wrong l g o a th hi ac tp ba en x_6 fl de iD iO tU fm fk fa fc ft ff fb fi at2_3 (by first | assumption | omega | decide | exact Or.inl (by decide) | exact Or.inr (by decide)) (by first | assumption | omega | decide | exact Or.inl (by decide) | exact Or.inr (by decide))) (cwV 1 hts (zgL (zl4 k894 k895 k896 k837) k889) rfl rfl rfl (by decide +kernel) ⟨Nat.le_of_ble_eq_true rfl, Nat.le_of_ble_eq_true rfl⟩) rfl rfl rfl rfl (Nat.le_of_ble_eq_true rfl) dX12_figures_121 ⟨(Nat.le_of_ble_eq_true rfl), (Nat.le_of_ble_eq_true rfl)⟩ (fun fl2_45 H locs hq46 hP hD hS => ?_)
                replace hq46 : (0 ≤ fl2_45.toInt) := hq46
                have hP : va_P g.1 vwCl (List.flatten [bMo g o a th hi ac tp ba en x_6 fl2_45 de iD iO tU fm fk fa fc ft ff fb fi]) H := hP
                have hD : va_D A (List.flatten [bMo g o a th hi ac tp ba en x_6 fl2_45 de iD iO tU fm fk fa fc ft ff fb fi]) := hD
                refine W.widen (k := 0) (n := 0) (Nat.le_of_ble_eq_true rfl) (Nat.le_of_ble_eq_true rfl) ?_
                refine W.eq (g2 := F0 m 124 ls []) rfl ?_
                refine lv_iload hx hb dX12_figures_124 (lv_at hl 4 rfl) ?_
                have hP : va_P g.1 vwCl (List.flatten [bMo g o a th hi ac tp ba en x_6 fl2_45 de iD iO tU fm fk fa fc ft ff fb fi]) H := hP
                have hD : va_D A (List.flatten [bMo g o a th hi ac tp ba en x_6 fl2_45 de iD iO tU fm fk fa fc ft ff fb fi]) := hD
                exact mret_i hx hb hr hlocks hS (Nat.le_of_ble_eq_true rfl) (Nat.le_of_ble_eq_true rfl) dX12_figures_126 (x_6, fl2_45, x_5) rfl (show (0 ≤ x_6.toInt ∧ x_6.toInt ≤ en.toInt + 7 - de.toInt) ∧ (tA.toInt ≤ x_6.toInt) ∧ (-1 ≤ fl2_45.toInt) ∧ (zImp (fl2_45.toInt = -1) (fl.toInt = -1 ∧ lw.toInt ≤ x_5.toInt ∧ x_5.toInt ≤ hg.toInt)) from ⟨(by first | assumption | omega | decide | exact rfl | exact zb01 (by omega) | exact Or.inl (by decide) | exact Or.inr (by first | omega | decide)), (by first | assumption | omega | decide | exact rfl | exact zb01 (by omega) | exact Or.inl (by decide) | exact Or.inr (by first | omega | decide)), (by first | assumption | omega | decide | exact rfl | exact zb01 (by omega) | exact Or.inl (by decide) | exact Or.inr (by first | omega | decide)), (fun h9 => by first | omega)⟩) hP hD
              · skip
                have c47 : ¬ x_6.toInt = at2_3.toInt := zne cb9 rfl rfl
                refine lv_aload_n hx hb dX12_figures_97 rfl (lv_at hl 0 rfl) ?_
                refine va_get (D := g.1) (ci := 10) (v := .int x_6) (C := RX12) (T := TX12) (N := 20) hx hb hts izRX12 hown hK hP 0 rfl rfl 11 (by decide) (hts _ k877) (fun _ h9 => h9) rfl dX12_figures_98 ?_
                refine lv_iload_n hx hb dX12_figures_101 rfl (lv_at hl 3 rfl) ?_
                refine lv_isub hx hb dX12_figures_102 ?_
                refine zgv (zsub (i := x_6.toInt) (j := at2_3.toInt) rfl rfl (by omega)) (fun x_48 hx_48 => ?_)
                refine lv_iconst (v := 3) hx hb dX12_figures_103 (by decide) ?_
                refine lv_icmp_gt (tgt := 119) hx hb dX12_figures_104 (by decide) (fun cb9 => ?_) (fun cb9 => ?_)
                · skip
                  have c49 : 3 < x_48.toInt := zlti cb9 (by decide) rfl
                  have n50 : 4 ≤ x_48.toInt := zL2 (a := 3) c49 (Int.le_refl _) (by decide)
                  refine lv_aload_n hx hb dX12_figures_119 rfl (lv_at hl 0 rfl) ?_
                  refine lv_iload_n hx hb dX12_figures_120 rfl (lv_at hl 3 rfl) ?_
                  refine mcallV' (g := g) (q0 := 0) (ci := 10) (As := [.int at2_3]) (rest := []) St hK hT hA hP hD hS hl.1 [0] [] rfl rfl rfl (m_wrong l g o a th hi ac tp ba en x_6 fl de iD iO tU fm fk fa fc ft ff fb fi at2_3 (by first | assumption | omega | decide | exact Or.inl (by decide) | exact Or.inr (by decide)) (by first | assumption | omega | decide | exact Or.inl (by decide) | exact Or.inr (by decide))) (cwV 1 hts (zgL (zl4 k894 k895 k896 k837) k889) rfl rfl rfl (by decide +kernel) ⟨Nat.le_of_ble_eq_true rfl, Nat.le_of_ble_eq_true rfl⟩) rfl rfl rfl rfl (Nat.le_of_ble_eq_true rfl) dX12_figures_121 ⟨(Nat.le_of_ble_eq_true rfl), (Nat.le_of_ble_eq_true rfl)⟩ (fun fl2_51 H locs hq52 hP hD hS => ?_)
                  replace hq52 : (0 ≤ fl2_51.toInt) := hq52
                  have hP : va_P g.1 vwCl (List.flatten [bMo g o a th hi ac tp ba en x_6 fl2_51 de iD iO tU fm fk fa fc ft ff fb fi]) H := hP
                  have hD : va_D A (List.flatten [bMo g o a th hi ac tp ba en x_6 fl2_51 de iD iO tU fm fk fa fc ft ff fb fi]) := hD
                  refine W.widen (k := 0) (n := 0) (Nat.le_of_ble_eq_true rfl) (Nat.le_of_ble_eq_true rfl) ?_
                  refine W.eq (g2 := F0 m 124 ls []) rfl ?_
                  refine lv_iload hx hb dX12_figures_124 (lv_at hl 4 rfl) ?_
                  have hP : va_P g.1 vwCl (List.flatten [bMo g o a th hi ac tp ba en x_6 fl2_51 de iD iO tU fm fk fa fc ft ff fb fi]) H := hP
                  have hD : va_D A (List.flatten [bMo g o a th hi ac tp ba en x_6 fl2_51 de iD iO tU fm fk fa fc ft ff fb fi]) := hD
                  exact mret_i hx hb hr hlocks hS (Nat.le_of_ble_eq_true rfl) (Nat.le_of_ble_eq_true rfl) dX12_figures_126 (x_6, fl2_51, x_5) rfl (show (0 ≤ x_6.toInt ∧ x_6.toInt ≤ en.toInt + 7 - de.toInt) ∧ (tA.toInt ≤ x_6.toInt) ∧ (-1 ≤ fl2_51.toInt) ∧ (zImp (fl2_51.toInt = -1) (fl.toInt = -1 ∧ lw.toInt ≤ x_5.toInt ∧ x_5.toInt ≤ hg.toInt)) from ⟨(by first | assumption | omega | decide | exact rfl | exact zb01 (by omega) | exact Or.inl (by decide) | exact Or.inr (by first | omega | decide)), (by first | assumption | omega | decide | exact rfl | exact zb01 (by omega) | exact Or.inl (by decide) | exact Or.inr (by first | omega | decide)), (by first | assumption | omega | decide | exact rfl | exact zb01 (by omega) | exact Or.inl (by decide) | exact Or.inr (by first | omega | decide)), (fun h9 => by first | omega)⟩) hP hD
                · skip
                  have c53 : x_48.toInt ≤ 3 := zle (Int32.not_lt.mp cb9) rfl (by decide)
                  have n54 : x_48.toInt ≤ 3 := Int.le_trans c53 (Int.le_refl _)
                  refine lv_iload hx hb dX12_figures_107 (lv_at hl 4 rfl) ?_
                  refine lv_iload_n hx hb dX12_figures_109 rfl (lv_at hl 1 rfl) ?_
                  refine lv_icmp_lt (tgt := 119) hx hb dX12_figures_110 (by decide) (fun cb9 => ?_) (fun cb9 => ?_)
                  · skip
                    have c55 : x_5.toInt < lw.toInt := zlti cb9 rfl rfl
                    refine lv_aload_n hx hb dX12_figures_119 rfl (lv_at hl 0 rfl) ?_
                    refine lv_iload_n hx hb dX12_figures_120 rfl (lv_at hl 3 rfl) ?_
                    refine mcallV' (g := g) (q0 := 0) (ci := 10) (As := [.int at2_3]) (rest := []) St hK hT hA hP hD hS hl.1 [0] [] rfl rfl rfl (m_wrong l g o a th hi ac tp ba en x_6 fl de iD iO tU fm fk fa fc ft ff fb fi at2_3 (by first | assumption | omega | decide | exact Or.inl (by decide) | exact Or.inr (by decide)) (by first | assumption | omega | decide | exact Or.inl (by decide) | exact Or.inr (by decide))) (cwV 1 hts (zgL (zl4 k894 k895 k896 k837) k889) rfl rfl rfl (by decide +kernel) ⟨Nat.le_of_ble_eq_true rfl, Nat.le_of_ble_eq_true rfl⟩) rfl rfl rfl rfl (Nat.le_of_ble_eq_true rfl) dX12_figures_121 ⟨(Nat.le_of_ble_eq_true rfl), (Nat.le_of_ble_eq_true rfl)⟩ (fun fl2_56 H locs hq57 hP hD hS => ?_)
                    replace hq57 : (0 ≤ fl2_56.toInt) := hq57
                    have hP : va_P g.1 vwCl (List.flatten [bMo g o a th hi ac tp ba en x_6 fl2_56 de iD iO tU fm fk fa fc ft ff fb fi]) H := hP
                    have hD : va_D A (List.flatten [bMo g o a th hi ac tp ba en x_6 fl2_56 de iD iO tU fm fk fa fc ft ff fb fi]) := hD
                    refine W.widen (k := 0) (n := 0) (Nat.le_of_ble_eq_true rfl) (Nat.le_of_ble_eq_true rfl) ?_
                    refine W.eq (g2 := F0 m 124 ls []) rfl ?_
                    refine lv_iload hx hb dX12_figures_124 (lv_at hl 4 rfl) ?_
                    have hP : va_P g.1 vwCl (List.flatten [bMo g o a th hi ac tp ba en x_6 fl2_56 de iD iO tU fm fk fa fc ft ff fb fi]) H := hP
                    have hD : va_D A (List.flatten [bMo g o a th hi ac tp ba en x_6 fl2_56 de iD iO tU fm fk fa fc ft ff fb fi]) := hD
                    exact mret_i hx hb hr hlocks hS (Nat.le_of_ble_eq_true rfl) (Nat.le_of_ble_eq_true rfl) dX12_figures_126 (x_6, fl2_56, x_5) rfl (show (0 ≤ x_6.toInt ∧ x_6.toInt ≤ en.toInt + 7 - de.toInt) ∧ (tA.toInt ≤ x_6.toInt) ∧ (-1 ≤ fl2_56.toInt) ∧ (zImp (fl2_56.toInt = -1) (fl.toInt = -1 ∧ lw.toInt ≤ x_5.toInt ∧ x_5.toInt ≤ hg.toInt)) from ⟨(by first | assumption | omega | decide | exact rfl | exact zb01 (by omega) | exact Or.inl (by decide) | exact Or.inr (by first | omega | decide)), (by first | assumption | omega | decide | exact rfl | exact zb01 (by omega) | exact Or.inl (by decide) | exact Or.inr (by first | omega | decide)), (by first | assumption | omega | decide | exact rfl | exact zb01 (by omega) | exact Or.inl (by decide) | exact Or.inr (by first | omega | decide)), (fun h9 => by first | omega)⟩) hP hD
                  · skip
                    have c58 : lw.toInt ≤ x_5.toInt := zle (Int32.not_lt.mp cb9) rfl rfl
                    refine lv_iload hx hb dX12_figures_113 (lv_at hl 4 rfl) ?_
                    refine lv_iload_n hx hb dX12_figures_115 rfl (lv_at hl 2 rfl) ?_
                    refine lv_icmp_le (tgt := 124) hx hb dX12_figures_116 (by decide) (fun cb9 => ?_) (fun cb9 => ?_)
                    · skip
                      have c59 : x_5.toInt ≤ hg.toInt := zle cb9 rfl rfl
                      refine lv_iload hx hb dX12_figures_124 (lv_at hl 4 rfl) ?_
                      have hP : va_P g.1 vwCl (List.flatten [bMo g o a th hi ac tp ba en x_6 fl de iD iO tU fm fk fa fc ft ff fb fi]) H := hP
                      have hD : va_D A (List.flatten [bMo g o a th hi ac tp ba en x_6 fl de iD iO tU fm fk fa fc ft ff fb fi]) := hD
                      exact mret_i hx hb hr hlocks hS (Nat.le_of_ble_eq_true rfl) (Nat.le_of_ble_eq_true rfl) dX12_figures_126 (x_6, fl, x_5) rfl (show (0 ≤ x_6.toInt ∧ x_6.toInt ≤ en.toInt + 7 - de.toInt) ∧ (tA.toInt ≤ x_6.toInt) ∧ (-1 ≤ fl.toInt) ∧ (zImp (fl.toInt = -1) (fl.toInt = -1 ∧ lw.toInt ≤ x_5.toInt ∧ x_5.toInt ≤ hg.toInt)) from ⟨(by first | assumption | omega | decide | exact rfl | exact zb01 (by omega) | exact Or.inl (by decide) | exact Or.inr (by first | omega | decide)), (by first | assumption | omega | decide | exact rfl | exact zb01 (by omega) | exact Or.inl (by decide) | exact Or.inr (by first | omega | decide)), (by first | assumption | omega | decide | exact rfl | exact zb01 (by omega) | exact Or.inl (by decide) | exact Or.inr (by first | omega | decide)), (fun h9 => by first | omega)⟩) hP hD
                    · skip
                      have c60 : hg.toInt < x_5.toInt := zlti (Int32.not_le.mp cb9) rfl rfl
                      refine lv_aload_n hx hb dX12_figures_119 rfl (lv_at hl 0 rfl) ?_
                      refine lv_iload_n hx hb dX12_figures_120 rfl (lv_at hl 3 rfl) ?_
                      refine mcallV' (g := g) (q0 := 0) (ci := 10) (As := [.int at2_3]) (rest := []) St hK hT hA hP hD hS hl.1 [0] [] rfl rfl rfl (m_wrong l g o a th hi ac tp ba en x_6 fl de iD iO tU fm fk fa fc ft ff fb fi at2_3 (by first | assumption | omega | decide | exact Or.inl (by decide) | exact Or.inr (by decide)) (by first | assumption | omega | decide | exact Or.inl (by decide) | exact Or.inr (by decide))) (cwV 1 hts (zgL (zl4 k894 k895 k896 k837) k889) rfl rfl rfl (by decide +kernel) ⟨Nat.le_of_ble_eq_true rfl, Nat.le_of_ble_eq_true rfl⟩) rfl rfl rfl rfl (Nat.le_of_ble_eq_true rfl) dX12_figures_121 ⟨(Nat.le_of_ble_eq_true rfl), (Nat.le_of_ble_eq_true rfl)⟩ (fun fl2_61 H locs hq62 hP hD hS => ?_)
                      replace hq62 : (0 ≤ fl2_61.toInt) := hq62
                      have hP : va_P g.1 vwCl (List.flatten [bMo g o a th hi ac tp ba en x_6 fl2_61 de iD iO tU fm fk fa fc ft ff fb fi]) H := hP
                      have hD : va_D A (List.flatten [bMo g o a th hi ac tp ba en x_6 fl2_61 de iD iO tU fm fk fa fc ft ff fb fi]) := hD
                      refine W.widen (k := 0) (n := 0) (Nat.le_of_ble_eq_true rfl) (Nat.le_of_ble_eq_true rfl) ?_
                      refine W.eq (g2 := F0 m 124 ls []) rfl ?_
                      refine lv_iload hx hb dX12_figures_124 (lv_at hl 4 rfl) ?_
                      have hP : va_P g.1 vwCl (List.flatten [bMo g o a th hi ac tp ba en x_6 fl2_61 de iD iO tU fm fk fa fc ft ff fb fi]) H := hP
                      have hD : va_D A (List.flatten [bMo g o a th hi ac tp ba en x_6 fl2_61 de iD iO tU fm fk fa fc ft ff fb fi]) := hD
                      exact mret_i hx hb hr hlocks hS (Nat.le_of_ble_eq_true rfl) (Nat.le_of_ble_eq_true rfl) dX12_figures_126 (x_6, fl2_61, x_5) rfl (show (0 ≤ x_6.toInt ∧ x_6.toInt ≤ en.toInt + 7 - de.toInt) ∧ (tA.toInt ≤ x_6.toInt) ∧ (-1 ≤ fl2_61.toInt) ∧ (zImp (fl2_61.toInt = -1) (fl.toInt = -1 ∧ lw.toInt ≤ x_5.toInt ∧ x_5.toInt ≤ hg.toInt)) from ⟨(by first | assumption | omega | decide | exact rfl | exact zb01 (by omega) | exact Or.inl (by decide) | exact Or.inr (by first | omega | decide)), (by first | assumption | omega | decide | exact rfl | exact zb01 (by omega) | exact Or.inl (by decide) | exact Or.inr (by first | omega | decide)), (by first | assumption | omega | decide | exact rfl | exact zb01 (by omega) | exact Or.inl (by decide) | exact Or.inr (by first | omega | decide)), (fun h9 => by first | omega)⟩) hP hD
            · skip
              have c63 : x_40.toInt ≤ 3 := zle (Int32.not_lt.mp cb9) rfl (by decide)
              have n64 : x_40.toInt ≤ 3 := Int.le_trans c63 (Int.le_refl _)
              refine lv_bipush (v := 10) hx hb dX12_figures_57 (by decide) ?_
              refine lv_iload hx hb dX12_figures_59 (lv_at hl 4 rfl) ?_
              refine lv_imul hx hb dX12_figures_61 ?_
              refine zg (fun x_65 => ?_)
              refine lv_aload_n hx hb dX12_figures_62 rfl (lv_at hl 0 rfl) ?_
              refine lv_aload_n hx hb dX12_figures_63 rfl (lv_at hl 0 rfl) ?_
              refine va_get (D := g.1) (ci := 10) (v := .int x_6) (C := RX12) (T := TX12) (N := 20) hx hb hts izRX12 hown hK hP 0 rfl rfl 11 (by decide) (hts _ k877) (fun _ h9 => h9) rfl dX12_figures_64 ?_
              refine mcallV' (g := g) (q0 := 0) (ci := 10) (As := [.int x_6]) (rest := [.int x_65]) St hK hT hA hP hD hS hl.1 [0] [] rfl rfl rfl (m_letter l g o a th hi ac tp ba en x_6 fl de iD iO tU fm fk fa fc ft ff fb fi x_6 (⟨i7.1, n33⟩) (by first | assumption | omega | decide | exact Or.inl (by decide) | exact Or.inr (by decide))) (cwV 1 hts (zgL (zl4 k879 k880 k881 k837) k874) rfl rfl rfl (by decide +kernel) ⟨Nat.le_of_ble_eq_true rfl, Nat.le_of_ble_eq_true rfl⟩) rfl rfl rfl rfl (Nat.le_of_ble_eq_true rfl) dX12_figures_67 ⟨(Nat.le_of_ble_eq_true rfl), (Nat.le_of_ble_eq_true rfl)⟩ (fun q_66 H locs hq67 hP hD hS => ?_)
              have hP : va_P g.1 vwCl (List.flatten [bMo g o a th hi ac tp ba en x_6 fl de iD iO tU fm fk fa fc ft ff fb fi]) H := hP
              have hD : va_D A (List.flatten [bMo g o a th hi ac tp ba en x_6 fl de iD iO tU fm fk fa fc ft ff fb fi]) := hD
              refine W.widen (k := 0) (n := 0) (Nat.le_of_ble_eq_true rfl) (Nat.le_of_ble_eq_true rfl) ?_
              refine W.eq (g2 := F0 m 70 ls [.int q_66, .int x_65]) rfl ?_
              refine lv_iadd hx hb dX12_figures_70 ?_
              refine zg (fun x_68 => ?_)
              refine lv_bipush (v := 48) hx hb dX12_figures_71 (by decide) ?_
              refine lv_isub hx hb dX12_figures_73 ?_
              refine zg (fun x_69 => ?_)
              refine lv_istore (lv' := [(4, .int x_69), (0, .ref o), (1, .int lw), (2, .int hg), (3, .int at2_3)]) hx hb dX12_figures_74 hl (by decide) rfl (fun ls hl => ?_)
              refine lv_aload_n hx hb dX12_figures_76 rfl (lv_at hl 1 rfl) ?_
              refine lv_dup hx hb dX12_figures_77 rfl ?_
              refine va_get (D := g.1) (ci := 10) (v := .int x_6) (C := RX12) (T := TX12) (N := 20) hx hb hts izRX12 hown hK hP 0 rfl rfl 11 (by decide) (hts _ k877) (fun _ h9 => h9) rfl dX12_figures_78 ?_
              refine lv_iconst (v := 1) hx hb dX12_figures_81 (by decide) ?_
              refine lv_iadd hx hb dX12_figures_82 ?_
              refine zg3 (zaddK (i := x_6.toInt) (j := 1) (a' := 1) (b' := 400) rfl (by decide) i7.1 n33 (Int.le_refl _) (Int.le_refl _) (by decide)) (fun x_70 hx_70 => ?_)
              refine va_put (D := g.1) (ci := 10) (v := .int x_70) (ty := .int) (C := RX12) (T := TX12) (N := 20) hx hb hts izRX12 tyX12 tyX12_ok nmX12 hown hK hP hD hS 0 rfl rfl 11 (by decide) (hts _ k877) (fun _ h9 => h9) rfl (by decide +kernel) rfl rfl (Nat.le_of_ble_eq_true rfl) dX12_figures_83 (fun H locs hP hD hS => ?_)
              have hP : va_P g.1 vwCl (List.flatten [bMo g o a th hi ac tp ba en x_70 fl de iD iO tU fm fk fa fc ft ff fb fi]) H := hP
              have hD : va_D A (List.flatten [bMo g o a th hi ac tp ba en x_70 fl de iD iO tU fm fk fa fc ft ff fb fi]) := hD
              refine lv_goto (tgt := 18) hx hb dX12_figures_86 (by decide) ?_
              have hl := lv_sub (l' := [(0, .ref o), (1, .int lw), (2, .int hg), (3, .int at2_3), (4, .int x_69)]) hl [1, 2, 3, 4, 0] rfl
              have hP : va_P g.1 vwCl (List.flatten [bMo g o a th hi ac tp ba en x_70 fl de iD iO tU fm fk fa fc ft ff fb fi]) H := hP
              have hD : va_D A (List.flatten [bMo g o a th hi ac tp ba en x_70 fl de iD iO tU fm fk fa fc ft ff fb fi]) := hD
              exact ih18_11 x_69 x_70 ⟨(Int.le_trans (by decide) hx_70.2.1), (Int.le_trans hx_70.2.2 (by decide))⟩ (by first | omega | assumption | decide) (by first | omega | assumption | decide) H _ ls (by omega)  hP hD hS (lv_sub hl [0, 1, 2, 3, 4] rfl)
          · skip
            refine lv_if_eq (tgt := 89) hx hb dX12_figures_44 (by decide) (fun _ => ?_) (fun c71 => absurd (by decide) c71)
            refine lv_aload_n hx hb dX12_figures_89 rfl (lv_at hl 0 rfl) ?_
            refine va_get (D := g.1) (ci := 10) (v := .int x_6) (C := RX12) (T := TX12) (N := 20) hx hb hts izRX12 hown hK hP 0 rfl rfl 11 (by decide) (hts _ k877) (fun _ h9 => h9) rfl dX12_figures_90 ?_
            refine lv_iload_n hx hb dX12_figures_93 rfl (lv_at hl 3 rfl) ?_
            refine lv_icmp_eq (tgt := 119) hx hb dX12_figures_94 (by decide) (fun cb9 => ?_) (fun cb9 => ?_)
            · skip
              have c72 : x_6.toInt = at2_3.toInt := zeq cb9 rfl rfl
              have n73 : at2_3.toInt ≤ 399 := Int.le_trans (Int.le_of_eq c72.symm) n33
              refine lv_aload_n hx hb dX12_figures_119 rfl (lv_at hl 0 rfl) ?_
              refine lv_iload_n hx hb dX12_figures_120 rfl (lv_at hl 3 rfl) ?_
              refine mcallV' (g := g) (q0 := 0) (ci := 10) (As := [.int at2_3]) (rest := []) St hK hT hA hP hD hS hl.1 [0] [] rfl rfl rfl (m_wrong l g o a th hi ac tp ba en x_6 fl de iD iO tU fm fk fa fc ft ff fb fi at2_3 (by first | assumption | omega | decide | exact Or.inl (by decide) | exact Or.inr (by decide)) (by first | assumption | omega | decide | exact Or.inl (by decide) | exact Or.inr (by decide))) (cwV 1 hts (zgL (zl4 k894 k895 k896 k837) k889) rfl rfl rfl (by decide +kernel) ⟨Nat.le_of_ble_eq_true rfl, Nat.le_of_ble_eq_true rfl⟩) rfl rfl rfl rfl (Nat.le_of_ble_eq_true rfl) dX12_figures_121 ⟨(Nat.le_of_ble_eq_true rfl), (Nat.le_of_ble_eq_true rfl)⟩ (fun fl2_74 H locs hq75 hP hD hS => ?_)
              replace hq75 : (0 ≤ fl2_74.toInt) := hq75
              have hP : va_P g.1 vwCl (List.flatten [bMo g o a th hi ac tp ba en x_6 fl2_74 de iD iO tU fm fk fa fc ft ff fb fi]) H := hP
              have hD : va_D A (List.flatten [bMo g o a th hi ac tp ba en x_6 fl2_74 de iD iO tU fm fk fa fc ft ff fb fi]) := hD
              refine W.widen (k := 0) (n := 0) (Nat.le_of_ble_eq_true rfl) (Nat.le_of_ble_eq_true rfl) ?_
              refine W.eq (g2 := F0 m 124 ls []) rfl ?_
              refine lv_iload hx hb dX12_figures_124 (lv_at hl 4 rfl) ?_
              have hP : va_P g.1 vwCl (List.flatten [bMo g o a th hi ac tp ba en x_6 fl2_74 de iD iO tU fm fk fa fc ft ff fb fi]) H := hP
              have hD : va_D A (List.flatten [bMo g o a th hi ac tp ba en x_6 fl2_74 de iD iO tU fm fk fa fc ft ff fb fi]) := hD
              exact mret_i hx hb hr hlocks hS (Nat.le_of_ble_eq_true rfl) (Nat.le_of_ble_eq_true rfl) dX12_figures_126 (x_6, fl2_74, x_5) rfl (show (0 ≤ x_6.toInt ∧ x_6.toInt ≤ en.toInt + 7 - de.toInt) ∧ (tA.toInt ≤ x_6.toInt) ∧ (-1 ≤ fl2_74.toInt) ∧ (zImp (fl2_74.toInt = -1) (fl.toInt = -1 ∧ lw.toInt ≤ x_5.toInt ∧ x_5.toInt ≤ hg.toInt)) from ⟨(by first | assumption | omega | decide | exact rfl | exact zb01 (by omega) | exact Or.inl (by decide) | exact Or.inr (by first | omega | decide)), (by first | assumption | omega | decide | exact rfl | exact zb01 (by omega) | exact Or.inl (by decide) | exact Or.inr (by first | omega | decide)), (by first | assumption | omega | decide | exact rfl | exact zb01 (by omega) | exact Or.inl (by decide) | exact Or.inr (by first | omega | decide)), (fun h9 => by first | omega)⟩) hP hD
            · skip
              have c76 : ¬ x_6.toInt = at2_3.toInt := zne cb9 rfl rfl
              refine lv_aload_n hx hb dX12_figures_97 rfl (lv_at hl 0 rfl) ?_
              refine va_get (D := g.1) (ci := 10) (v := .int x_6) (C := RX12) (T := TX12) (N := 20) hx hb hts izRX12 hown hK hP 0 rfl rfl 11 (by decide) (hts _ k877) (fun _ h9 => h9) rfl dX12_figures_98 ?_
              refine lv_iload_n hx hb dX12_figures_101 rfl (lv_at hl 3 rfl) ?_
              refine lv_isub hx hb dX12_figures_102 ?_
              refine zgv (zsub (i := x_6.toInt) (j := at2_3.toInt) rfl rfl (by omega)) (fun x_77 hx_77 => ?_)
              refine lv_iconst (v := 3) hx hb dX12_figures_103 (by decide) ?_
              refine lv_icmp_gt (tgt := 119) hx hb dX12_figures_104 (by decide) (fun cb9 => ?_) (fun cb9 => ?_)
              · skip
                have c78 : 3 < x_77.toInt := zlti cb9 (by decide) rfl
                have n79 : 4 ≤ x_77.toInt := zL2 (a := 3) c78 (Int.le_refl _) (by decide)
                refine lv_aload_n hx hb dX12_figures_119 rfl (lv_at hl 0 rfl) ?_
                refine lv_iload_n hx hb dX12_figures_120 rfl (lv_at hl 3 rfl) ?_
                refine mcallV' (g := g) (q0 := 0) (ci := 10) (As := [.int at2_3]) (rest := []) St hK hT hA hP hD hS hl.1 [0] [] rfl rfl rfl (m_wrong l g o a th hi ac tp ba en x_6 fl de iD iO tU fm fk fa fc ft ff fb fi at2_3 (by first | assumption | omega | decide | exact Or.inl (by decide) | exact Or.inr (by decide)) (by first | assumption | omega | decide | exact Or.inl (by decide) | exact Or.inr (by decide))) (cwV 1 hts (zgL (zl4 k894 k895 k896 k837) k889) rfl rfl rfl (by decide +kernel) ⟨Nat.le_of_ble_eq_true rfl, Nat.le_of_ble_eq_true rfl⟩) rfl rfl rfl rfl (Nat.le_of_ble_eq_true rfl) dX12_figures_121 ⟨(Nat.le_of_ble_eq_true rfl), (Nat.le_of_ble_eq_true rfl)⟩ (fun fl2_80 H locs hq81 hP hD hS => ?_)
                replace hq81 : (0 ≤ fl2_80.toInt) := hq81
                have hP : va_P g.1 vwCl (List.flatten [bMo g o a th hi ac tp ba en x_6 fl2_80 de iD iO tU fm fk fa fc ft ff fb fi]) H := hP
                have hD : va_D A (List.flatten [bMo g o a th hi ac tp ba en x_6 fl2_80 de iD iO tU fm fk fa fc ft ff fb fi]) := hD
                refine W.widen (k := 0) (n := 0) (Nat.le_of_ble_eq_true rfl) (Nat.le_of_ble_eq_true rfl) ?_
                refine W.eq (g2 := F0 m 124 ls []) rfl ?_
                refine lv_iload hx hb dX12_figures_124 (lv_at hl 4 rfl) ?_
                have hP : va_P g.1 vwCl (List.flatten [bMo g o a th hi ac tp ba en x_6 fl2_80 de iD iO tU fm fk fa fc ft ff fb fi]) H := hP
                have hD : va_D A (List.flatten [bMo g o a th hi ac tp ba en x_6 fl2_80 de iD iO tU fm fk fa fc ft ff fb fi]) := hD
                exact mret_i hx hb hr hlocks hS (Nat.le_of_ble_eq_true rfl) (Nat.le_of_ble_eq_true rfl) dX12_figures_126 (x_6, fl2_80, x_5) rfl (show (0 ≤ x_6.toInt ∧ x_6.toInt ≤ en.toInt + 7 - de.toInt) ∧ (tA.toInt ≤ x_6.toInt) ∧ (-1 ≤ fl2_80.toInt) ∧ (zImp (fl2_80.toInt = -1) (fl.toInt = -1 ∧ lw.toInt ≤ x_5.toInt ∧ x_5.toInt ≤ hg.toInt)) from ⟨(by first | assumption | omega | decide | exact rfl | exact zb01 (by omega) | exact Or.inl (by decide) | exact Or.inr (by first | omega | decide)), (by first | assumption | omega | decide | exact rfl | exact zb01 (by omega) | exact Or.inl (by decide) | exact Or.inr (by first | omega | decide)), (by first | assumption | omega | decide | exact rfl | exact zb01 (by omega) | exact Or.inl (by decide) | exact Or.inr (by first | omega | decide)), (fun h9 => by first | omega)⟩) hP hD
              · skip
                have c82 : x_77.toInt ≤ 3 := zle (Int32.not_lt.mp cb9) rfl (by decide)
                have n83 : x_77.toInt ≤ 3 := Int.le_trans c82 (Int.le_refl _)
                refine lv_iload hx hb dX12_figures_107 (lv_at hl 4 rfl) ?_
                refine lv_iload_n hx hb dX12_figures_109 rfl (lv_at hl 1 rfl) ?_
                refine lv_icmp_lt (tgt := 119) hx hb dX12_figures_110 (by decide) (fun cb9 => ?_) (fun cb9 => ?_)
                · skip
                  have c84 : x_5.toInt < lw.toInt := zlti cb9 rfl rfl
                  refine lv_aload_n hx hb dX12_figures_119 rfl (lv_at hl 0 rfl) ?_
                  refine lv_iload_n hx hb dX12_figures_120 rfl (lv_at hl 3 rfl) ?_
                  refine mcallV' (g := g) (q0 := 0) (ci := 10) (As := [.int at2_3]) (rest := []) St hK hT hA hP hD hS hl.1 [0] [] rfl rfl rfl (m_wrong l g o a th hi ac tp ba en x_6 fl de iD iO tU fm fk fa fc ft ff fb fi at2_3 (by first | assumption | omega | decide | exact Or.inl (by decide) | exact Or.inr (by decide)) (by first | assumption | omega | decide | exact Or.inl (by decide) | exact Or.inr (by decide))) (cwV 1 hts (zgL (zl4 k894 k895 k896 k837) k889) rfl rfl rfl (by decide +kernel) ⟨Nat.le_of_ble_eq_true rfl, Nat.le_of_ble_eq_true rfl⟩) rfl rfl rfl rfl (Nat.le_of_ble_eq_true rfl) dX12_figures_121 ⟨(Nat.le_of_ble_eq_true rfl), (Nat.le_of_ble_eq_true rfl)⟩ (fun fl2_85 H locs hq86 hP hD hS => ?_)
                  replace hq86 : (0 ≤ fl2_85.toInt) := hq86
                  have hP : va_P g.1 vwCl (List.flatten [bMo g o a th hi ac tp ba en x_6 fl2_85 de iD iO tU fm fk fa fc ft ff fb fi]) H := hP
                  have hD : va_D A (List.flatten [bMo g o a th hi ac tp ba en x_6 fl2_85 de iD iO tU fm fk fa fc ft ff fb fi]) := hD
                  refine W.widen (k := 0) (n := 0) (Nat.le_of_ble_eq_true rfl) (Nat.le_of_ble_eq_true rfl) ?_
                  refine W.eq (g2 := F0 m 124 ls []) rfl ?_
                  refine lv_iload hx hb dX12_figures_124 (lv_at hl 4 rfl) ?_
                  have hP : va_P g.1 vwCl (List.flatten [bMo g o a th hi ac tp ba en x_6 fl2_85 de iD iO tU fm fk fa fc ft ff fb fi]) H := hP
                  have hD : va_D A (List.flatten [bMo g o a th hi ac tp ba en x_6 fl2_85 de iD iO tU fm fk fa fc ft ff fb fi]) := hD
                  exact mret_i hx hb hr hlocks hS (Nat.le_of_ble_eq_true rfl) (Nat.le_of_ble_eq_true rfl) dX12_figures_126 (x_6, fl2_85, x_5) rfl (show (0 ≤ x_6.toInt ∧ x_6.toInt ≤ en.toInt + 7 - de.toInt) ∧ (tA.toInt ≤ x_6.toInt) ∧ (-1 ≤ fl2_85.toInt) ∧ (zImp (fl2_85.toInt = -1) (fl.toInt = -1 ∧ lw.toInt ≤ x_5.toInt ∧ x_5.toInt ≤ hg.toInt)) from ⟨(by first | assumption | omega | decide | exact rfl | exact zb01 (by omega) | exact Or.inl (by decide) | exact Or.inr (by first | omega | decide)), (by first | assumption | omega | decide | exact rfl | exact zb01 (by omega) | exact Or.inl (by decide) | exact Or.inr (by first | omega | decide)), (by first | assumption | omega | decide | exact rfl | exact zb01 (by omega) | exact Or.inl (by decide) | exact Or.inr (by first | omega | decide)), (fun h9 => by first | omega)⟩) hP hD
                · skip
                  have c87 : lw.toInt ≤ x_5.toInt := zle (Int32.not_lt.mp cb9) rfl rfl
                  refine lv_iload hx hb dX12_figures_113 (lv_at hl 4 rfl) ?_
                  refine lv_iload_n hx hb dX12_figures_115 rfl (lv_at hl 2 rfl) ?_
                  refine lv_icmp_le (tgt := 124) hx hb dX12_figures_116 (by decide) (fun cb9 => ?_) (fun cb9 => ?_)
                  · skip
                    have c88 : x_5.toInt ≤ hg.toInt := zle cb9 rfl rfl
                    refine lv_iload hx hb dX12_figures_124 (lv_at hl 4 rfl) ?_
                    have hP : va_P g.1 vwCl (List.flatten [bMo g o a th hi ac tp ba en x_6 fl de iD iO tU fm fk fa fc ft ff fb fi]) H := hP
                    have hD : va_D A (List.flatten [bMo g o a th hi ac tp ba en x_6 fl de iD iO tU fm fk fa fc ft ff fb fi]) := hD
                    exact mret_i hx hb hr hlocks hS (Nat.le_of_ble_eq_true rfl) (Nat.le_of_ble_eq_true rfl) dX12_figures_126 (x_6, fl, x_5) rfl (show (0 ≤ x_6.toInt ∧ x_6.toInt ≤ en.toInt + 7 - de.toInt) ∧ (tA.toInt ≤ x_6.toInt) ∧ (-1 ≤ fl.toInt) ∧ (zImp (fl.toInt = -1) (fl.toInt = -1 ∧ lw.toInt ≤ x_5.toInt ∧ x_5.toInt ≤ hg.toInt)) from ⟨(by first | assumption | omega | decide | exact rfl | exact zb01 (by omega) | exact Or.inl (by decide) | exact Or.inr (by first | omega | decide)), (by first | assumption | omega | decide | exact rfl | exact zb01 (by omega) | exact Or.inl (by decide) | exact Or.inr (by first | omega | decide)), (by first | assumption | omega | decide | exact rfl | exact zb01 (by omega) | exact Or.inl (by decide) | exact Or.inr (by first | omega | decide)), (fun h9 => by first | omega)⟩) hP hD
                  · skip
                    have c89 : hg.toInt < x_5.toInt := zlti (Int32.not_le.mp cb9) rfl rfl
                    refine lv_aload_n hx hb dX12_figures_119 rfl (lv_at hl 0 rfl) ?_
                    refine lv_iload_n hx hb dX12_figures_120 rfl (lv_at hl 3 rfl) ?_
                    refine mcallV' (g := g) (q0 := 0) (ci := 10) (As := [.int at2_3]) (rest := []) St hK hT hA hP hD hS hl.1 [0] [] rfl rfl rfl (m_wrong l g o a th hi ac tp ba en x_6 fl de iD iO tU fm fk fa fc ft ff fb fi at2_3 (by first | assumption | omega | decide | exact Or.inl (by decide) | exact Or.inr (by decide)) (by first | assumption | omega | decide | exact Or.inl (by decide) | exact Or.inr (by decide))) (cwV 1 hts (zgL (zl4 k894 k895 k896 k837) k889) rfl rfl rfl (by decide +kernel) ⟨Nat.le_of_ble_eq_true rfl, Nat.le_of_ble_eq_true rfl⟩) rfl rfl rfl rfl (Nat.le_of_ble_eq_true rfl) dX12_figures_121 ⟨(Nat.le_of_ble_eq_true rfl), (Nat.le_of_ble_eq_true rfl)⟩ (fun fl2_90 H locs hq91 hP hD hS => ?_)
                    replace hq91 : (0 ≤ fl2_90.toInt) := hq91
                    have hP : va_P g.1 vwCl (List.flatten [bMo g o a th hi ac tp ba en x_6 fl2_90 de iD iO tU fm fk fa fc ft ff fb fi]) H := hP
                    have hD : va_D A (List.flatten [bMo g o a th hi ac tp ba en x_6 fl2_90 de iD iO tU fm fk fa fc ft ff fb fi]) := hD
                    refine W.widen (k := 0) (n := 0) (Nat.le_of_ble_eq_true rfl) (Nat.le_of_ble_eq_true rfl) ?_
                    refine W.eq (g2 := F0 m 124 ls []) rfl ?_
                    refine lv_iload hx hb dX12_figures_124 (lv_at hl 4 rfl) ?_
                    have hP : va_P g.1 vwCl (List.flatten [bMo g o a th hi ac tp ba en x_6 fl2_90 de iD iO tU fm fk fa fc ft ff fb fi]) H := hP
                    have hD : va_D A (List.flatten [bMo g o a th hi ac tp ba en x_6 fl2_90 de iD iO tU fm fk fa fc ft ff fb fi]) := hD
                    exact mret_i hx hb hr hlocks hS (Nat.le_of_ble_eq_true rfl) (Nat.le_of_ble_eq_true rfl) dX12_figures_126 (x_6, fl2_90, x_5) rfl (show (0 ≤ x_6.toInt ∧ x_6.toInt ≤ en.toInt + 7 - de.toInt) ∧ (tA.toInt ≤ x_6.toInt) ∧ (-1 ≤ fl2_90.toInt) ∧ (zImp (fl2_90.toInt = -1) (fl.toInt = -1 ∧ lw.toInt ≤ x_5.toInt ∧ x_5.toInt ≤ hg.toInt)) from ⟨(by first | assumption | omega | decide | exact rfl | exact zb01 (by omega) | exact Or.inl (by decide) | exact Or.inr (by first | omega | decide)), (by first | assumption | omega | decide | exact rfl | exact zb01 (by omega) | exact Or.inl (by decide) | exact Or.inr (by first | omega | decide)), (by first | assumption | omega | decide | exact rfl | exact zb01 (by omega) | exact Or.inl (by decide) | exact Or.inr (by first | omega | decide)), (fun h9 => by first | omega)⟩) hP hD
    have hP : va_P g.1 vwCl (List.flatten [bMo g o a th hi ac tp ba en at2_3 fl de iD iO tU fm fk fa fc ft ff fb fi]) H := hP
    have hD : va_D A (List.flatten [bMo g o a th hi ac tp ba en at2_3 fl de iD iO tU fm fk fa fc ft ff fb fi]) := hD
    exact LP18_10 _ 0 at2_3 (by first | omega | assumption | decide) (by first | omega | assumption | decide) (by first | omega | assumption | decide) H _ ls (Nat.lt_succ_self _)  hP hD hS (lv_sub hl [0, 1, 2, 3, 4] rfl)
  · skip
    have c92 : ¬ fl.toInt = (-1) := zne cb9 rfl (by decide)
    refine lv_iconst (v := 0) hx hb dX12_figures_8 (by decide) ?_
    have hP : va_P g.1 vwCl (List.flatten [bMo g o a th hi ac tp ba en tA fl de iD iO tU fm fk fa fc ft ff fb fi]) s.heap := hP
    have hD : va_D A (List.flatten [bMo g o a th hi ac tp ba en tA fl de iD iO tU fm fk fa fc ft ff fb fi]) := hD
    exact mret_i hx hb hr hlocks hS (Nat.le_of_ble_eq_true rfl) (Nat.le_of_ble_eq_true rfl) dX12_figures_9 (tA, fl, (0 : Int32)) rfl (show (0 ≤ tA.toInt ∧ tA.toInt ≤ en.toInt + 7 - de.toInt) ∧ (tA.toInt ≤ tA.toInt) ∧ (-1 ≤ fl.toInt) ∧ (zImp (fl.toInt = -1) (fl.toInt = -1 ∧ lw.toInt ≤ (0 : Int32).toInt ∧ (0 : Int32).toInt ≤ hg.toInt)) from ⟨(by first | assumption | omega | decide | exact rfl | exact zb01 (by omega) | exact Or.inl (by decide) | exact Or.inr (by first | omega | decide)), (by first | assumption | omega | decide | exact rfl | exact zb01 (by omega) | exact Or.inl (by decide) | exact Or.inr (by first | omega | decide)), (by first | assumption | omega | decide | exact rfl | exact zb01 (by omega) | exact Or.inl (by decide) | exact Or.inr (by first | omega | decide)), (fun h9 => by first | omega)⟩) hP hD
