set_option maxRecDepth 100000 in
set_option maxHeartbeats 4000000 in
theorem m_has (l : Launch) (g : zG) (o : Nat) (a : Nat → Nat) (th : Int32) (hi : Int32) (ac : Int32) (tp : Int32) (ba : Int32) (en : Int32) (tA : Int32) (fl : Int32) (de : Int32) (iD : Int32) (iO : Int32) (tU : Int32) (fm : Nat → Int32) (fk : Nat → Int32) (fa : Nat → Int32) (fc : Nat → Int32) (ft : Nat → Int32) (ff : Nat → Int32) (fb : Nat → Int32) (fi : Nat → Int32) (k : Nat) (j : Nat) (q : String × Nat × String × List Int32) (hba : zBa ba.toInt) (hen : 0 ≤ en.toInt ∧ en.toInt ≤ 400) (htA : 0 ≤ tA.toInt ∧ tA.toInt ≤ en.toInt + 7 - de.toInt) (hfl : -1 ≤ fl.toInt) (hde : 0 ≤ de.toInt ∧ de.toInt ≤ 6) (hk9 : k = g.2 (10 + 2 * j)) (hj9 : zLit[j]? = some q) (hql : 1 ≤ q.2.2.2.length ∧ q.2.2.2.length ≤ 7) : zM' g l yX12_has (Cond.code yX12_has cX12_has 4 (some .boolean) :: zB) ({ frames := 4, cells := 0, slots := 0, locals := 85 } : Room) [.ref o, .ref k] [bMo g o a th hi ac tp ba en tA fl de iD iO tU fm fk fa fc ft ff fb fi] (fun u : Int32 × Int32 => (fun (at2 : Int32) (r : Int32) => some (.int r)) (u.1) (u.2)) (fun u : Int32 × Int32 => (fun (at2 : Int32) (r : Int32) => (0 ≤ at2.toInt ∧ at2.toInt ≤ en.toInt + 7 - de.toInt) ∧ (tA.toInt ≤ at2.toInt) ∧ (r = 1 ∧ tA.toInt < at2.toInt ∧ at2.toInt ≤ en.toInt ∨ r = 0)) (u.1) (u.2)) (fun u : Int32 × Int32 => (fun (at2 : Int32) (r : Int32) => [bMo g o a th hi ac tp ba en at2 fl de iD iO tU fm fk fa fc ft ff fb fi]) (u.1) (u.2)) := by
  refine zM'.of (cc := cX12_has) (maxL := 4) (rt := (some .boolean)) (by decide) rfl (Nat.le_of_ble_eq_true rfl) ?_
  intro p e s m args below meth c A ls St hr hlocks hin hK hT hA hP hD hS hl
  obtain ⟨hx, hb, hml, hown, hts⟩ := id St
  have hl : lv_has ls 4 [(0, .ref o), (1, .ref k)] := hl
  obtain ⟨-, hSt⟩ := hT.2.1.2.2 j q hj9
  refine lv_aload_n hx hb dX12_has_0 rfl (lv_at hl 0 rfl) ?_
  refine mcallV' (g := g) (q0 := 0) (ci := 10) (As := []) (rest := []) St hK hT hA hP hD hS hl.1 [0] [] rfl rfl rfl (m_skip l g o a th hi ac tp ba en tA fl de iD iO tU fm fk fa fc ft ff fb fi (by first | assumption | omega | decide | exact Or.inl (by decide) | exact Or.inr (by decide)) (⟨hen.1, hen.2⟩) (by first | assumption | omega | decide | exact Or.inl (by decide) | exact Or.inr (by decide)) (by first | assumption | omega | decide | exact Or.inl (by decide) | exact Or.inr (by decide)) (⟨hde.1, hde.2⟩)) (cwV 0 hts (zgL (zl4 k883 k884 k885 k837) k876) rfl rfl rfl (by decide +kernel) ⟨Nat.le_of_ble_eq_true rfl, Nat.le_of_ble_eq_true rfl⟩) rfl rfl rfl rfl (Nat.le_of_ble_eq_true rfl) dX12_has_1 ⟨(Nat.le_of_ble_eq_true rfl), (Nat.le_of_ble_eq_true rfl)⟩ (fun at2_1 H locs hq2 hP hD hS => ?_)
  replace hq2 : (0 ≤ at2_1.toInt ∧ at2_1.toInt ≤ en.toInt + 7 - de.toInt) ∧ (tA.toInt ≤ at2_1.toInt) := hq2
  have hP : va_P g.1 vwCl (List.flatten [bMo g o a th hi ac tp ba en at2_1 fl de iD iO tU fm fk fa fc ft ff fb fi]) H := hP
  have hD : va_D A (List.flatten [bMo g o a th hi ac tp ba en at2_1 fl de iD iO tU fm fk fa fc ft ff fb fi]) := hD
  refine W.widen (k := 0) (n := 0) (Nat.le_of_ble_eq_true rfl) (Nat.le_of_ble_eq_true rfl) ?_
  refine W.eq (g2 := F0 m 4 ls []) rfl ?_
  obtain ⟨hq2_0, hq2_1⟩ := hq2
  refine lv_aload_n hx hb dX12_has_4 rfl (lv_at hl 0 rfl) ?_
  refine va_get (D := g.1) (ci := 10) (v := .int at2_1) (C := RX12) (T := TX12) (N := 20) hx hb hts izRX12 hown hK hP 0 rfl rfl 11 (by decide) (hts _ k877) (fun _ h9 => h9) rfl dX12_has_5 ?_
  refine lv_istore_n (lv' := [(2, .int at2_1), (0, .ref o), (1, .ref k)]) hx hb dX12_has_8 rfl hl (by decide) rfl (fun ls hl => ?_)
  have hl := lv_sub (l' := [(0, .ref o), (1, .ref k), (2, .int at2_1)]) hl [1, 2, 0] rfl
  have LP9_7 : ∀ (kf : Nat) (x_3 : Int32), (0 ≤ x_3.toInt ∧ x_3.toInt ≤ 407) → (at2_1.toInt ≤ x_3.toInt) → (x_3.toInt = at2_1.toInt ∨ x_3.toInt ≤ en.toInt) → ∀ (H : Heap) (locs : List Loc) (ls : Array Slot), ((en.toInt - x_3.toInt).toNat) < kf → va_P g.1 vwCl (List.flatten [bMo g o a th hi ac tp ba en at2_1 fl de iD iO tU fm fk fa fc ft ff fb fi]) H → va_D A (List.flatten [bMo g o a th hi ac tp ba en at2_1 fl de iD iO tU fm fk fa fc ft ff fb fi]) → va_S A s.heap H locs → lv_has ls 4 [(0, .ref o), (1, .ref k), (2, .int x_3)] → W p l e ({ frames := 4, cells := 0, slots := 0, locals := 85 } : Room) s m args below meth c H locs (0) (0) (zF g (fun u : Int32 × Int32 => (fun (at2 : Int32) (r : Int32) => some (.int r)) (u.1) (u.2)) (fun u : Int32 × Int32 => (fun (at2 : Int32) (r : Int32) => (0 ≤ at2.toInt ∧ at2.toInt ≤ en.toInt + 7 - de.toInt) ∧ (tA.toInt ≤ at2.toInt) ∧ (r = 1 ∧ tA.toInt < at2.toInt ∧ at2.toInt ≤ en.toInt ∨ r = 0)) (u.1) (u.2)) (fun u : Int32 × Int32 => (fun (at2 : Int32) (r : Int32) => [bMo g o a th hi ac tp ba en at2 fl de iD iO tU fm fk fa fc ft ff fb fi]) (u.1) (u.2)) ({ frames := 4, cells := 0, slots := 0, locals := 85 } : Room) below args s A) (F0 m 9 ls []) := by
    intro kf
    induction kf with
    | zero => intro x_3 i4 i5 i6 H locs ls hk; exact absurd hk (Nat.not_lt_zero _)
    | succ kf ih9_8 =>
      intro x_3 i4 i5 i6 H locs ls hk9_8 hP hD hS hl
      refine lv_iload_n hx hb dX12_has_9 rfl (lv_at hl 2 rfl) ?_
      refine lv_aload_n hx hb dX12_has_10 rfl (lv_at hl 0 rfl) ?_
      refine va_get (D := g.1) (ci := 10) (v := .int en) (C := RX12) (T := TX12) (N := 20) hx hb hts izRX12 hown hK hP 0 rfl rfl 10 (by decide) (hts _ k878) (fun _ h9 => h9) rfl dX12_has_11 ?_
      refine lv_icmp_ge (tgt := 38) hx hb dX12_has_14 (by decide) (fun cb9 => ?_) (fun cb9 => ?_)
      · skip
        have c9 : en.toInt ≤ x_3.toInt := zle cb9 rfl rfl
        refine lv_iload_n hx hb dX12_has_38 rfl (lv_at hl 2 rfl) ?_
        refine lv_aload_n hx hb dX12_has_39 rfl (lv_at hl 0 rfl) ?_
        refine va_get (D := g.1) (ci := 10) (v := .int at2_1) (C := RX12) (T := TX12) (N := 20) hx hb hts izRX12 hown hK hP 0 rfl rfl 11 (by decide) (hts _ k877) (fun _ h9 => h9) rfl dX12_has_40 ?_
        refine lv_isub hx hb dX12_has_43 ?_
        refine zgv (zsub (i := x_3.toInt) (j := at2_1.toInt) rfl rfl (by omega)) (fun x_10 hx_10 => ?_)
        refine lv_aload_n hx hb dX12_has_44 rfl (lv_at hl 1 rfl) ?_
        refine mcallL' (g := g) (As := []) (rest := [.int x_10]) St hK hT hA hP hD hS hl.1 [] [0] rfl rfl rfl (s_length l g k j q (by first | assumption | omega | decide | exact Or.inl (by decide) | exact Or.inr (by decide)) (by first | assumption | omega | decide | exact Or.inl (by decide) | exact Or.inr (by decide)) (by first | assumption | omega | decide | exact Or.inl (by decide) | exact Or.inr (by decide))) (cwV 0 hts (zgL (zl4 k886 k263 k264 k223) k218) rfl rfl rfl (by decide +kernel) ⟨Nat.le_of_ble_eq_true rfl, Nat.le_of_ble_eq_true rfl⟩) (by rw [hk9]; exact zSt_recv hSt hS) rfl rfl (Nat.le_of_ble_eq_true rfl) dX12_has_45 ⟨(Nat.le_of_ble_eq_true rfl), (Nat.le_of_ble_eq_true rfl)⟩ (fun r_11 H locs hq12 hP hD hS => ?_)
        replace hq12 : (r_11.toInt = (q.2.2.2.length : Int)) := hq12
        have hP : va_P g.1 vwCl (List.flatten [bMo g o a th hi ac tp ba en at2_1 fl de iD iO tU fm fk fa fc ft ff fb fi]) H := hP
        have hD : va_D A (List.flatten [bMo g o a th hi ac tp ba en at2_1 fl de iD iO tU fm fk fa fc ft ff fb fi]) := hD
        refine W.widen (k := 0) (n := 0) (Nat.le_of_ble_eq_true rfl) (Nat.le_of_ble_eq_true rfl) ?_
        refine W.eq (g2 := F0 m 48 ls [.int r_11, .int x_10]) rfl ?_
        refine lv_icmp_eq (tgt := 53) hx hb dX12_has_48 (by decide) (fun cb9 => ?_) (fun cb9 => ?_)
        · skip
          have c13 : x_10.toInt = r_11.toInt := zeq cb9 rfl rfl
          refine lv_iconst (v := 0) hx hb dX12_has_53 (by decide) ?_
          refine lv_istore_n (lv' := [(3, .int 0), (0, .ref o), (1, .ref k), (2, .int x_3)]) hx hb dX12_has_54 rfl hl (by decide) rfl (fun ls hl => ?_)
          have hl := lv_sub (l' := [(0, .ref o), (1, .ref k), (2, .int x_3), (3, .int 0)]) hl [1, 2, 3, 0] rfl
          have LP55_16 : ∀ (kf : Nat) (x_14 : Int32), (0 ≤ x_14.toInt ∧ x_14.toInt ≤ 7) → ∀ (H : Heap) (locs : List Loc) (ls : Array Slot), ((8 - x_14.toInt).toNat) < kf → va_P g.1 vwCl (List.flatten [bMo g o a th hi ac tp ba en at2_1 fl de iD iO tU fm fk fa fc ft ff fb fi]) H → va_D A (List.flatten [bMo g o a th hi ac tp ba en at2_1 fl de iD iO tU fm fk fa fc ft ff fb fi]) → va_S A s.heap H locs → lv_has ls 4 [(0, .ref o), (1, .ref k), (2, .int x_3), (3, .int x_14)] → W p l e ({ frames := 4, cells := 0, slots := 0, locals := 85 } : Room) s m args below meth c H locs (0) (0) (zF g (fun u : Int32 × Int32 => (fun (at2 : Int32) (r : Int32) => some (.int r)) (u.1) (u.2)) (fun u : Int32 × Int32 => (fun (at2 : Int32) (r : Int32) => (0 ≤ at2.toInt ∧ at2.toInt ≤ en.toInt + 7 - de.toInt) ∧ (tA.toInt ≤ at2.toInt) ∧ (r = 1 ∧ tA.toInt < at2.toInt ∧ at2.toInt ≤ en.toInt ∨ r = 0)) (u.1) (u.2)) (fun u : Int32 × Int32 => (fun (at2 : Int32) (r : Int32) => [bMo g o a th hi ac tp ba en at2 fl de iD iO tU fm fk fa fc ft ff fb fi]) (u.1) (u.2)) ({ frames := 4, cells := 0, slots := 0, locals := 85 } : Room) below args s A) (F0 m 55 ls []) := by
            intro kf
            induction kf with
            | zero => intro x_14 i15 H locs ls hk; exact absurd hk (Nat.not_lt_zero _)
            | succ kf ih55_17 =>
              intro x_14 i15 H locs ls hk55_17 hP hD hS hl
              refine lv_iload_n hx hb dX12_has_55 rfl (lv_at hl 3 rfl) ?_
              refine lv_aload_n hx hb dX12_has_56 rfl (lv_at hl 1 rfl) ?_
              refine mcallL' (g := g) (As := []) (rest := [.int x_14]) St hK hT hA hP hD hS hl.1 [] [0] rfl rfl rfl (s_length l g k j q (by first | assumption | omega | decide | exact Or.inl (by decide) | exact Or.inr (by decide)) (by first | assumption | omega | decide | exact Or.inl (by decide) | exact Or.inr (by decide)) (by first | assumption | omega | decide | exact Or.inl (by decide) | exact Or.inr (by decide))) (cwV 0 hts (zgL (zl4 k886 k263 k264 k223) k218) rfl rfl rfl (by decide +kernel) ⟨Nat.le_of_ble_eq_true rfl, Nat.le_of_ble_eq_true rfl⟩) (by rw [hk9]; exact zSt_recv hSt hS) rfl rfl (Nat.le_of_ble_eq_true rfl) dX12_has_57 ⟨(Nat.le_of_ble_eq_true rfl), (Nat.le_of_ble_eq_true rfl)⟩ (fun r_18 H locs hq19 hP hD hS => ?_)
              replace hq19 : (r_18.toInt = (q.2.2.2.length : Int)) := hq19
              have hP : va_P g.1 vwCl (List.flatten [bMo g o a th hi ac tp ba en at2_1 fl de iD iO tU fm fk fa fc ft ff fb fi]) H := hP
              have hD : va_D A (List.flatten [bMo g o a th hi ac tp ba en at2_1 fl de iD iO tU fm fk fa fc ft ff fb fi]) := hD
              refine W.widen (k := 0) (n := 0) (Nat.le_of_ble_eq_true rfl) (Nat.le_of_ble_eq_true rfl) ?_
              refine W.eq (g2 := F0 m 60 ls [.int r_18, .int x_14]) rfl ?_
              refine lv_icmp_ge (tgt := 89) hx hb dX12_has_60 (by decide) (fun cb9 => ?_) (fun cb9 => ?_)
              · skip
                have c20 : r_18.toInt ≤ x_14.toInt := zle cb9 rfl rfl
                refine lv_aload_n hx hb dX12_has_89 rfl (lv_at hl 0 rfl) ?_
                refine lv_iload_n hx hb dX12_has_90 rfl (lv_at hl 2 rfl) ?_
                refine va_put (D := g.1) (ci := 10) (v := .int x_3) (ty := .int) (C := RX12) (T := TX12) (N := 20) hx hb hts izRX12 tyX12 tyX12_ok nmX12 hown hK hP hD hS 0 rfl rfl 11 (by decide) (hts _ k877) (fun _ h9 => h9) rfl (by decide +kernel) rfl rfl (Nat.le_of_ble_eq_true rfl) dX12_has_91 (fun H locs hP hD hS => ?_)
                have hP : va_P g.1 vwCl (List.flatten [bMo g o a th hi ac tp ba en x_3 fl de iD iO tU fm fk fa fc ft ff fb fi]) H := hP
                have hD : va_D A (List.flatten [bMo g o a th hi ac tp ba en x_3 fl de iD iO tU fm fk fa fc ft ff fb fi]) := hD
                refine lv_iconst (v := 1) hx hb dX12_has_94 (by decide) ?_
                have hP : va_P g.1 vwCl (List.flatten [bMo g o a th hi ac tp ba en x_3 fl de iD iO tU fm fk fa fc ft ff fb fi]) H := hP
                have hD : va_D A (List.flatten [bMo g o a th hi ac tp ba en x_3 fl de iD iO tU fm fk fa fc ft ff fb fi]) := hD
                exact mret_z hx hb hr hlocks hS (Nat.le_of_ble_eq_true rfl) (Nat.le_of_ble_eq_true rfl) dX12_has_95 (x_3, (1 : Int32)) rfl (by decide) (show (0 ≤ x_3.toInt ∧ x_3.toInt ≤ en.toInt + 7 - de.toInt) ∧ (tA.toInt ≤ x_3.toInt) ∧ (1 = 1 ∧ tA.toInt < x_3.toInt ∧ x_3.toInt ≤ en.toInt ∨ 1 = 0) from ⟨(by first | assumption | omega), (by first | assumption | omega), by first | exact Or.inl ⟨rfl, by omega⟩ | exact Or.inr rfl⟩) hP hD
              · skip
                have c21 : x_14.toInt < r_18.toInt := zlti (Int32.not_le.mp cb9) rfl rfl
                refine lv_aload_n hx hb dX12_has_63 rfl (lv_at hl 0 rfl) ?_
                refine lv_aload_n hx hb dX12_has_64 rfl (lv_at hl 0 rfl) ?_
                refine va_get (D := g.1) (ci := 10) (v := .int at2_1) (C := RX12) (T := TX12) (N := 20) hx hb hts izRX12 hown hK hP 0 rfl rfl 11 (by decide) (hts _ k877) (fun _ h9 => h9) rfl dX12_has_65 ?_
                refine lv_iload_n hx hb dX12_has_68 rfl (lv_at hl 3 rfl) ?_
                refine lv_iadd hx hb dX12_has_69 ?_
                refine zgv (zadd (i := at2_1.toInt) (j := x_14.toInt) rfl rfl (by omega)) (fun x_22 hx_22 => ?_)
                refine mcallV' (g := g) (q0 := 0) (ci := 10) (As := [.int x_22]) (rest := []) St hK hT hA hP hD hS hl.1 [0] [] rfl rfl rfl (m_letter l g o a th hi ac tp ba en at2_1 fl de iD iO tU fm fk fa fc ft ff fb fi x_22 (by first | assumption | omega | decide | exact Or.inl (by decide) | exact Or.inr (by decide)) (by first | assumption | omega | decide | exact Or.inl (by decide) | exact Or.inr (by decide))) (cwV 1 hts (zgL (zl4 k879 k880 k881 k837) k874) rfl rfl rfl (by decide +kernel) ⟨Nat.le_of_ble_eq_true rfl, Nat.le_of_ble_eq_true rfl⟩) rfl rfl rfl rfl (Nat.le_of_ble_eq_true rfl) dX12_has_70 ⟨(Nat.le_of_ble_eq_true rfl), (Nat.le_of_ble_eq_true rfl)⟩ (fun q_23 H locs hq24 hP hD hS => ?_)
                have hP : va_P g.1 vwCl (List.flatten [bMo g o a th hi ac tp ba en at2_1 fl de iD iO tU fm fk fa fc ft ff fb fi]) H := hP
                have hD : va_D A (List.flatten [bMo g o a th hi ac tp ba en at2_1 fl de iD iO tU fm fk fa fc ft ff fb fi]) := hD
                refine W.widen (k := 0) (n := 0) (Nat.le_of_ble_eq_true rfl) (Nat.le_of_ble_eq_true rfl) ?_
                refine W.eq (g2 := F0 m 73 ls [.int q_23]) rfl ?_
                refine lv_aload_n hx hb dX12_has_73 rfl (lv_at hl 1 rfl) ?_
                refine lv_iload_n hx hb dX12_has_74 rfl (lv_at hl 3 rfl) ?_
                refine mcallL' (g := g) (As := [.int x_14]) (rest := [.int q_23]) St hK hT hA hP hD hS hl.1 [] [0] rfl rfl rfl (s_char l g k j q x_14 (by first | assumption | omega | decide | exact Or.inl (by decide) | exact Or.inr (by decide)) (by first | assumption | omega | decide | exact Or.inl (by decide) | exact Or.inr (by decide)) (by first | assumption | omega | decide | exact Or.inl (by decide) | exact Or.inr (by decide)) (by first | assumption | omega | decide | exact Or.inl (by decide) | exact Or.inr (by decide))) (cwV 1 hts (zgL (zl4 k887 k266 k267 k223) k257) rfl rfl rfl (by decide +kernel) ⟨Nat.le_of_ble_eq_true rfl, Nat.le_of_ble_eq_true rfl⟩) (by rw [hk9]; exact zSt_recv hSt hS) rfl rfl (Nat.le_of_ble_eq_true rfl) dX12_has_75 ⟨(Nat.le_of_ble_eq_true rfl), (Nat.le_of_ble_eq_true rfl)⟩ (fun r_25 H locs hq26 hP hD hS => ?_)
                replace hq26 : (narrow .char (.int r_25) = .int r_25) := hq26
                have hP : va_P g.1 vwCl (List.flatten [bMo g o a th hi ac tp ba en at2_1 fl de iD iO tU fm fk fa fc ft ff fb fi]) H := hP
                have hD : va_D A (List.flatten [bMo g o a th hi ac tp ba en at2_1 fl de iD iO tU fm fk fa fc ft ff fb fi]) := hD
                refine W.widen (k := 0) (n := 0) (Nat.le_of_ble_eq_true rfl) (Nat.le_of_ble_eq_true rfl) ?_
                refine W.eq (g2 := F0 m 78 ls [.int r_25, .int q_23]) rfl ?_
                refine lv_icmp_eq (tgt := 83) hx hb dX12_has_78 (by decide) (fun cb9 => ?_) (fun cb9 => ?_)
                · skip
                  have c27 : q_23.toInt = r_25.toInt := zeq cb9 rfl rfl
                  refine ziinc (j := x_14.toInt + 1) (lv' := fun v9 => [(3, .int v9), (0, .ref o), (1, .ref k), (2, .int x_3)]) hx hb dX12_has_83 hl (k := 3) rfl (by decide) (fun _ => rfl) (zadd (i := x_14.toInt) (j := 1) rfl (by decide) (by omega)) (fun x_28 ls hx_28 hl => ?_)
                  refine lv_goto (tgt := 55) hx hb dX12_has_86 (by decide) ?_
                  have hl := lv_sub (l' := [(0, .ref o), (1, .ref k), (2, .int x_3), (3, .int x_28)]) hl [1, 2, 3, 0] rfl
                  have hP : va_P g.1 vwCl (List.flatten [bMo g o a th hi ac tp ba en at2_1 fl de iD iO tU fm fk fa fc ft ff fb fi]) H := hP
                  have hD : va_D A (List.flatten [bMo g o a th hi ac tp ba en at2_1 fl de iD iO tU fm fk fa fc ft ff fb fi]) := hD
                  exact ih55_17 x_28 (by first | omega | assumption | decide) H _ ls (by omega)  hP hD hS (lv_sub hl [0, 1, 2, 3] rfl)
                · skip
                  have c29 : ¬ q_23.toInt = r_25.toInt := zne cb9 rfl rfl
                  refine lv_iconst (v := 0) hx hb dX12_has_81 (by decide) ?_
                  have hP : va_P g.1 vwCl (List.flatten [bMo g o a th hi ac tp ba en at2_1 fl de iD iO tU fm fk fa fc ft ff fb fi]) H := hP
                  have hD : va_D A (List.flatten [bMo g o a th hi ac tp ba en at2_1 fl de iD iO tU fm fk fa fc ft ff fb fi]) := hD
                  exact mret_z hx hb hr hlocks hS (Nat.le_of_ble_eq_true rfl) (Nat.le_of_ble_eq_true rfl) dX12_has_82 (at2_1, (0 : Int32)) rfl (by decide) (show (0 ≤ at2_1.toInt ∧ at2_1.toInt ≤ en.toInt + 7 - de.toInt) ∧ (tA.toInt ≤ at2_1.toInt) ∧ (0 = 1 ∧ tA.toInt < at2_1.toInt ∧ at2_1.toInt ≤ en.toInt ∨ 0 = 0) from ⟨(by first | assumption | omega), (by first | assumption | omega), by first | exact Or.inl ⟨rfl, by omega⟩ | exact Or.inr rfl⟩) hP hD
          have hP : va_P g.1 vwCl (List.flatten [bMo g o a th hi ac tp ba en at2_1 fl de iD iO tU fm fk fa fc ft ff fb fi]) H := hP
          have hD : va_D A (List.flatten [bMo g o a th hi ac tp ba en at2_1 fl de iD iO tU fm fk fa fc ft ff fb fi]) := hD
          exact LP55_16 _ 0 (by decide) H _ ls (Nat.lt_succ_self _)  hP hD hS (lv_sub hl [0, 1, 2, 3] rfl)
        · skip
          have c30 : ¬ x_10.toInt = r_11.toInt := zne cb9 rfl rfl
          refine lv_iconst (v := 0) hx hb dX12_has_51 (by decide) ?_
          have hP : va_P g.1 vwCl (List.flatten [bMo g o a th hi ac tp ba en at2_1 fl de iD iO tU fm fk fa fc ft ff fb fi]) H := hP
          have hD : va_D A (List.flatten [bMo g o a th hi ac tp ba en at2_1 fl de iD iO tU fm fk fa fc ft ff fb fi]) := hD
          exact mret_z hx hb hr hlocks hS (Nat.le_of_ble_eq_true rfl) (Nat.le_of_ble_eq_true rfl) dX12_has_52 (at2_1, (0 : Int32)) rfl (by decide) (show (0 ≤ at2_1.toInt ∧ at2_1.toInt ≤ en.toInt + 7 - de.toInt) ∧ (tA.toInt ≤ at2_1.toInt) ∧ (0 = 1 ∧ tA.toInt < at2_1.toInt ∧ at2_1.toInt ≤ en.toInt ∨ 0 = 0) from ⟨(by first | assumption | omega), (by first | assumption | omega), by first | exact Or.inl ⟨rfl, by omega⟩ | exact Or.inr rfl⟩) hP hD
      · skip
        have c31 : x_3.toInt < en.toInt := zlti (Int32.not_le.mp cb9) rfl rfl
        have n32 : x_3.toInt ≤ 399 := zL1 (b := 400) c31 hen.2 (by decide)
        have n33 : 1 ≤ en.toInt := zL2 (a := 0) c31 i4.1 (by decide)
        refine lv_aload_n hx hb dX12_has_17 rfl (lv_at hl 0 rfl) ?_
        refine lv_iload_n hx hb dX12_has_18 rfl (lv_at hl 2 rfl) ?_
        refine mcallV' (g := g) (q0 := 0) (ci := 10) (As := [.int x_3]) (rest := []) St hK hT hA hP hD hS hl.1 [0] [] rfl rfl rfl (m_letter l g o a th hi ac tp ba en at2_1 fl de iD iO tU fm fk fa fc ft ff fb fi x_3 (⟨i4.1, n32⟩) (by first | assumption | omega | decide | exact Or.inl (by decide) | exact Or.inr (by decide))) (cwV 1 hts (zgL (zl4 k879 k880 k881 k837) k874) rfl rfl rfl (by decide +kernel) ⟨Nat.le_of_ble_eq_true rfl, Nat.le_of_ble_eq_true rfl⟩) rfl rfl rfl rfl (Nat.le_of_ble_eq_true rfl) dX12_has_19 ⟨(Nat.le_of_ble_eq_true rfl), (Nat.le_of_ble_eq_true rfl)⟩ (fun q_34 H locs hq35 hP hD hS => ?_)
        have hP : va_P g.1 vwCl (List.flatten [bMo g o a th hi ac tp ba en at2_1 fl de iD iO tU fm fk fa fc ft ff fb fi]) H := hP
        have hD : va_D A (List.flatten [bMo g o a th hi ac tp ba en at2_1 fl de iD iO tU fm fk fa fc ft ff fb fi]) := hD
        refine W.widen (k := 0) (n := 0) (Nat.le_of_ble_eq_true rfl) (Nat.le_of_ble_eq_true rfl) ?_
        refine W.eq (g2 := F0 m 22 ls [.int q_34]) rfl ?_
        refine lv_bipush (v := 97) hx hb dX12_has_22 (by decide) ?_
        refine lv_bipush (v := 122) hx hb dX12_has_24 (by decide) ?_
        have hL97 : (97 : Int32).toInt = 97 := by decide
        have hL122 : (122 : Int32).toInt = 122 := by decide
        refine mcallS' (g := g) (As := [.int q_34, .int 97, .int 122]) (rest := []) St hK hT hA hP hD hS hl.1 [] [0] rfl rfl rfl (m_isIn l g q_34 97 122 ) (va_cwS 3 hts (zgL (zl3 k835 k836 k837) k824) rfl rfl rfl (by decide +kernel) ⟨Nat.le_of_ble_eq_true rfl, Nat.le_of_ble_eq_true rfl⟩) rfl rfl (Nat.le_of_ble_eq_true rfl) dX12_has_26 ⟨(Nat.le_of_ble_eq_true rfl), (Nat.le_of_ble_eq_true rfl)⟩ (fun q_36 H locs hq37 hP hD hS => ?_)
        replace hq37 : (q_36 = 1 ∧ (97 : Int32).toInt ≤ q_34.toInt ∧ q_34.toInt ≤ (122 : Int32).toInt ∨ q_36 = 0 ∧ (q_34.toInt < (97 : Int32).toInt ∨ (122 : Int32).toInt < q_34.toInt)) := hq37
        have hP : va_P g.1 vwCl (List.flatten [bMo g o a th hi ac tp ba en at2_1 fl de iD iO tU fm fk fa fc ft ff fb fi]) H := hP
        have hD : va_D A (List.flatten [bMo g o a th hi ac tp ba en at2_1 fl de iD iO tU fm fk fa fc ft ff fb fi]) := hD
        refine W.widen (k := 0) (n := 0) (Nat.le_of_ble_eq_true rfl) (Nat.le_of_ble_eq_true rfl) ?_
        refine W.eq (g2 := F0 m 29 ls [.int q_36]) rfl ?_
        rcases hq37 with ⟨rfl, hq37_k⟩ | ⟨rfl, hq37_k⟩
        · skip
          refine lv_if_eq (tgt := 38) hx hb dX12_has_29 (by decide) (fun c38 => absurd c38 (by decide)) (fun _ => ?_)
          refine ziinc3 (n' := 1) (a' := 1) (b' := 400) (lv' := fun v9 => [(2, .int v9), (0, .ref o), (1, .ref k)]) hx hb dX12_has_32 hl (k := 2) rfl (by decide) (fun _ => rfl) (zaddK (i := x_3.toInt) (j := 1) rfl (by decide) i4.1 n32 (Int.le_refl _) (Int.le_refl _) (by decide)) (fun x_39 ls hx_39 hl => ?_)
          refine lv_goto (tgt := 9) hx hb dX12_has_35 (by decide) ?_
          have hl := lv_sub (l' := [(0, .ref o), (1, .ref k), (2, .int x_39)]) hl [1, 2, 0] rfl
          have hP : va_P g.1 vwCl (List.flatten [bMo g o a th hi ac tp ba en at2_1 fl de iD iO tU fm fk fa fc ft ff fb fi]) H := hP
          have hD : va_D A (List.flatten [bMo g o a th hi ac tp ba en at2_1 fl de iD iO tU fm fk fa fc ft ff fb fi]) := hD
          exact ih9_8 x_39 ⟨(Int.le_trans (by decide) hx_39.2.1), (Int.le_trans hx_39.2.2 (by decide))⟩ (by first | omega | assumption | decide) (by first | omega | assumption | decide) H _ ls (by omega)  hP hD hS (lv_sub hl [0, 1, 2] rfl)
        · skip
          refine lv_if_eq (tgt := 38) hx hb dX12_has_29 (by decide) (fun _ => ?_) (fun c40 => absurd (by decide) c40)
          refine lv_iload_n hx hb dX12_has_38 rfl (lv_at hl 2 rfl) ?_
          refine lv_aload_n hx hb dX12_has_39 rfl (lv_at hl 0 rfl) ?_
          refine va_get (D := g.1) (ci := 10) (v := .int at2_1) (C := RX12) (T := TX12) (N := 20) hx hb hts izRX12 hown hK hP 0 rfl rfl 11 (by decide) (hts _ k877) (fun _ h9 => h9) rfl dX12_has_40 ?_
          refine lv_isub hx hb dX12_has_43 ?_
          refine zgv (zsub (i := x_3.toInt) (j := at2_1.toInt) rfl rfl (by omega)) (fun x_41 hx_41 => ?_)
          refine lv_aload_n hx hb dX12_has_44 rfl (lv_at hl 1 rfl) ?_
          refine mcallL' (g := g) (As := []) (rest := [.int x_41]) St hK hT hA hP hD hS hl.1 [] [0] rfl rfl rfl (s_length l g k j q (by first | assumption | omega | decide | exact Or.inl (by decide) | exact Or.inr (by decide)) (by first | assumption | omega | decide | exact Or.inl (by decide) | exact Or.inr (by decide)) (by first | assumption | omega | decide | exact Or.inl (by decide) | exact Or.inr (by decide))) (cwV 0 hts (zgL (zl4 k886 k263 k264 k223) k218) rfl rfl rfl (by decide +kernel) ⟨Nat.le_of_ble_eq_true rfl, Nat.le_of_ble_eq_true rfl⟩) (by rw [hk9]; exact zSt_recv hSt hS) rfl rfl (Nat.le_of_ble_eq_true rfl) dX12_has_45 ⟨(Nat.le_of_ble_eq_true rfl), (Nat.le_of_ble_eq_true rfl)⟩ (fun r_42 H locs hq43 hP hD hS => ?_)
          replace hq43 : (r_42.toInt = (q.2.2.2.length : Int)) := hq43
          have hP : va_P g.1 vwCl (List.flatten [bMo g o a th hi ac tp ba en at2_1 fl de iD iO tU fm fk fa fc ft ff fb fi]) H := hP
          have hD : va_D A (List.flatten [bMo g o a th hi ac tp ba en at2_1 fl de iD iO tU fm fk fa fc ft ff fb fi]) := hD
          refine W.widen (k := 0) (n := 0) (Nat.le_of_ble_eq_true rfl) (Nat.le_of_ble_eq_true rfl) ?_
          refine W.eq (g2 := F0 m 48 ls [.int r_42, .int x_41]) rfl ?_
          refine lv_icmp_eq (tgt := 53) hx hb dX12_has_48 (by decide) (fun cb9 => ?_) (fun cb9 => ?_)
          · skip
            have c44 : x_41.toInt = r_42.toInt := zeq cb9 rfl rfl
            refine lv_iconst (v := 0) hx hb dX12_has_53 (by decide) ?_
            refine lv_istore_n (lv' := [(3, .int 0), (0, .ref o), (1, .ref k), (2, .int x_3)]) hx hb dX12_has_54 rfl hl (by decide) rfl (fun ls hl => ?_)
            have hl := lv_sub (l' := [(0, .ref o), (1, .ref k), (2, .int x_3), (3, .int 0)]) hl [1, 2, 3, 0] rfl
            have LP55_47 : ∀ (kf : Nat) (x_45 : Int32), (0 ≤ x_45.toInt ∧ x_45.toInt ≤ 7) → ∀ (H : Heap) (locs : List Loc) (ls : Array Slot), ((8 - x_45.toInt).toNat) < kf → va_P g.1 vwCl (List.flatten [bMo g o a th hi ac tp ba en at2_1 fl de iD iO tU fm fk fa fc ft ff fb fi]) H → va_D A (List.flatten [bMo g o a th hi ac tp ba en at2_1 fl de iD iO tU fm fk fa fc ft ff fb fi]) → va_S A s.heap H locs → lv_has ls 4 [(0, .ref o), (1, .ref k), (2, .int x_3), (3, .int x_45)] → W p l e ({ frames := 4, cells := 0, slots := 0, locals := 85 } : Room) s m args below meth c H locs (0) (0) (zF g (fun u : Int32 × Int32 => (fun (at2 : Int32) (r : Int32) => some (.int r)) (u.1) (u.2)) (fun u : Int32 × Int32 => (fun (at2 : Int32) (r : Int32) => (0 ≤ at2.toInt ∧ at2.toInt ≤ en.toInt + 7 - de.toInt) ∧ (tA.toInt ≤ at2.toInt) ∧ (r = 1 ∧ tA.toInt < at2.toInt ∧ at2.toInt ≤ en.toInt ∨ r = 0)) (u.1) (u.2)) (fun u : Int32 × Int32 => (fun (at2 : Int32) (r : Int32) => [bMo g o a th hi ac tp ba en at2 fl de iD iO tU fm fk fa fc ft ff fb fi]) (u.1) (u.2)) ({ frames := 4, cells := 0, slots := 0, locals := 85 } : Room) below args s A) (F0 m 55 ls []) := by
              intro kf
              induction kf with
              | zero => intro x_45 i46 H locs ls hk; exact absurd hk (Nat.not_lt_zero _)
              | succ kf ih55_48 =>
                intro x_45 i46 H locs ls hk55_48 hP hD hS hl
                refine lv_iload_n hx hb dX12_has_55 rfl (lv_at hl 3 rfl) ?_
                refine lv_aload_n hx hb dX12_has_56 rfl (lv_at hl 1 rfl) ?_
                refine mcallL' (g := g) (As := []) (rest := [.int x_45]) St hK hT hA hP hD hS hl.1 [] [0] rfl rfl rfl (s_length l g k j q (by first | assumption | omega | decide | exact Or.inl (by decide) | exact Or.inr (by decide)) (by first | assumption | omega | decide | exact Or.inl (by decide) | exact Or.inr (by decide)) (by first | assumption | omega | decide | exact Or.inl (by decide) | exact Or.inr (by decide))) (cwV 0 hts (zgL (zl4 k886 k263 k264 k223) k218) rfl rfl rfl (by decide +kernel) ⟨Nat.le_of_ble_eq_true rfl, Nat.le_of_ble_eq_true rfl⟩) (by rw [hk9]; exact zSt_recv hSt hS) rfl rfl (Nat.le_of_ble_eq_true rfl) dX12_has_57 ⟨(Nat.le_of_ble_eq_true rfl), (Nat.le_of_ble_eq_true rfl)⟩ (fun r_49 H locs hq50 hP hD hS => ?_)
                replace hq50 : (r_49.toInt = (q.2.2.2.length : Int)) := hq50
                have hP : va_P g.1 vwCl (List.flatten [bMo g o a th hi ac tp ba en at2_1 fl de iD iO tU fm fk fa fc ft ff fb fi]) H := hP
                have hD : va_D A (List.flatten [bMo g o a th hi ac tp ba en at2_1 fl de iD iO tU fm fk fa fc ft ff fb fi]) := hD
                refine W.widen (k := 0) (n := 0) (Nat.le_of_ble_eq_true rfl) (Nat.le_of_ble_eq_true rfl) ?_
                refine W.eq (g2 := F0 m 60 ls [.int r_49, .int x_45]) rfl ?_
                refine lv_icmp_ge (tgt := 89) hx hb dX12_has_60 (by decide) (fun cb9 => ?_) (fun cb9 => ?_)
                · skip
                  have c51 : r_49.toInt ≤ x_45.toInt := zle cb9 rfl rfl
                  refine lv_aload_n hx hb dX12_has_89 rfl (lv_at hl 0 rfl) ?_
                  refine lv_iload_n hx hb dX12_has_90 rfl (lv_at hl 2 rfl) ?_
                  refine va_put (D := g.1) (ci := 10) (v := .int x_3) (ty := .int) (C := RX12) (T := TX12) (N := 20) hx hb hts izRX12 tyX12 tyX12_ok nmX12 hown hK hP hD hS 0 rfl rfl 11 (by decide) (hts _ k877) (fun _ h9 => h9) rfl (by decide +kernel) rfl rfl (Nat.le_of_ble_eq_true rfl) dX12_has_91 (fun H locs hP hD hS => ?_)
                  have hP : va_P g.1 vwCl (List.flatten [bMo g o a th hi ac tp ba en x_3 fl de iD iO tU fm fk fa fc ft ff fb fi]) H := hP
                  have hD : va_D A (List.flatten [bMo g o a th hi ac tp ba en x_3 fl de iD iO tU fm fk fa fc ft ff fb fi]) := hD
                  refine lv_iconst (v := 1) hx hb dX12_has_94 (by decide) ?_
                  have hP : va_P g.1 vwCl (List.flatten [bMo g o a th hi ac tp ba en x_3 fl de iD iO tU fm fk fa fc ft ff fb fi]) H := hP
                  have hD : va_D A (List.flatten [bMo g o a th hi ac tp ba en x_3 fl de iD iO tU fm fk fa fc ft ff fb fi]) := hD
                  exact mret_z hx hb hr hlocks hS (Nat.le_of_ble_eq_true rfl) (Nat.le_of_ble_eq_true rfl) dX12_has_95 (x_3, (1 : Int32)) rfl (by decide) (show (0 ≤ x_3.toInt ∧ x_3.toInt ≤ en.toInt + 7 - de.toInt) ∧ (tA.toInt ≤ x_3.toInt) ∧ (1 = 1 ∧ tA.toInt < x_3.toInt ∧ x_3.toInt ≤ en.toInt ∨ 1 = 0) from ⟨(by first | assumption | omega), (by first | assumption | omega), by first | exact Or.inl ⟨rfl, by omega⟩ | exact Or.inr rfl⟩) hP hD
                · skip
                  have c52 : x_45.toInt < r_49.toInt := zlti (Int32.not_le.mp cb9) rfl rfl
                  refine lv_aload_n hx hb dX12_has_63 rfl (lv_at hl 0 rfl) ?_
                  refine lv_aload_n hx hb dX12_has_64 rfl (lv_at hl 0 rfl) ?_
                  refine va_get (D := g.1) (ci := 10) (v := .int at2_1) (C := RX12) (T := TX12) (N := 20) hx hb hts izRX12 hown hK hP 0 rfl rfl 11 (by decide) (hts _ k877) (fun _ h9 => h9) rfl dX12_has_65 ?_
                  refine lv_iload_n hx hb dX12_has_68 rfl (lv_at hl 3 rfl) ?_
                  refine lv_iadd hx hb dX12_has_69 ?_
                  refine zgv (zadd (i := at2_1.toInt) (j := x_45.toInt) rfl rfl (by omega)) (fun x_53 hx_53 => ?_)
                  refine mcallV' (g := g) (q0 := 0) (ci := 10) (As := [.int x_53]) (rest := []) St hK hT hA hP hD hS hl.1 [0] [] rfl rfl rfl (m_letter l g o a th hi ac tp ba en at2_1 fl de iD iO tU fm fk fa fc ft ff fb fi x_53 (by first | assumption | omega | decide | exact Or.inl (by decide) | exact Or.inr (by decide)) (by first | assumption | omega | decide | exact Or.inl (by decide) | exact Or.inr (by decide))) (cwV 1 hts (zgL (zl4 k879 k880 k881 k837) k874) rfl rfl rfl (by decide +kernel) ⟨Nat.le_of_ble_eq_true rfl, Nat.le_of_ble_eq_true rfl⟩) rfl rfl rfl rfl (Nat.le_of_ble_eq_true rfl) dX12_has_70 ⟨(Nat.le_of_ble_eq_true rfl), (Nat.le_of_ble_eq_true rfl)⟩ (fun q_54 H locs hq55 hP hD hS => ?_)
                  have hP : va_P g.1 vwCl (List.flatten [bMo g o a th hi ac tp ba en at2_1 fl de iD iO tU fm fk fa fc ft ff fb fi]) H := hP
                  have hD : va_D A (List.flatten [bMo g o a th hi ac tp ba en at2_1 fl de iD iO tU fm fk fa fc ft ff fb fi]) := hD
                  refine W.widen (k := 0) (n := 0) (Nat.le_of_ble_eq_true rfl) (Nat.le_of_ble_eq_true rfl) ?_
                  refine W.eq (g2 := F0 m 73 ls [.int q_54]) rfl ?_
                  refine lv_aload_n hx hb dX12_has_73 rfl (lv_at hl 1 rfl) ?_
                  refine lv_iload_n hx hb dX12_has_74 rfl (lv_at hl 3 rfl) ?_
                  refine mcallL' (g := g) (As := [.int x_45]) (rest := [.int q_54]) St hK hT hA hP hD hS hl.1 [] [0] rfl rfl rfl (s_char l g k j q x_45 (by first | assumption | omega | decide | exact Or.inl (by decide) | exact Or.inr (by decide)) (by first | assumption | omega | decide | exact Or.inl (by decide) | exact Or.inr (by decide)) (by first | assumption | omega | decide | exact Or.inl (by decide) | exact Or.inr (by decide)) (by first | assumption | omega | decide | exact Or.inl (by decide) | exact Or.inr (by decide))) (cwV 1 hts (zgL (zl4 k887 k266 k267 k223) k257) rfl rfl rfl (by decide +kernel) ⟨Nat.le_of_ble_eq_true rfl, Nat.le_of_ble_eq_true rfl⟩) (by rw [hk9]; exact zSt_recv hSt hS) rfl rfl (Nat.le_of_ble_eq_true rfl) dX12_has_75 ⟨(Nat.le_of_ble_eq_true rfl), (Nat.le_of_ble_eq_true rfl)⟩ (fun r_56 H locs hq57 hP hD hS => ?_)
                  replace hq57 : (narrow .char (.int r_56) = .int r_56) := hq57
                  have hP : va_P g.1 vwCl (List.flatten [bMo g o a th hi ac tp ba en at2_1 fl de iD iO tU fm fk fa fc ft ff fb fi]) H := hP
                  have hD : va_D A (List.flatten [bMo g o a th hi ac tp ba en at2_1 fl de iD iO tU fm fk fa fc ft ff fb fi]) := hD
                  refine W.widen (k := 0) (n := 0) (Nat.le_of_ble_eq_true rfl) (Nat.le_of_ble_eq_true rfl) ?_
                  refine W.eq (g2 := F0 m 78 ls [.int r_56, .int q_54]) rfl ?_
                  refine lv_icmp_eq (tgt := 83) hx hb dX12_has_78 (by decide) (fun cb9 => ?_) (fun cb9 => ?_)
                  · skip
                    have c58 : q_54.toInt = r_56.toInt := zeq cb9 rfl rfl
                    refine ziinc (j := x_45.toInt + 1) (lv' := fun v9 => [(3, .int v9), (0, .ref o), (1, .ref k), (2, .int x_3)]) hx hb dX12_has_83 hl (k := 3) rfl (by decide) (fun _ => rfl) (zadd (i := x_45.toInt) (j := 1) rfl (by decide) (by omega)) (fun x_59 ls hx_59 hl => ?_)
                    refine lv_goto (tgt := 55) hx hb dX12_has_86 (by decide) ?_
                    have hl := lv_sub (l' := [(0, .ref o), (1, .ref k), (2, .int x_3), (3, .int x_59)]) hl [1, 2, 3, 0] rfl
                    have hP : va_P g.1 vwCl (List.flatten [bMo g o a th hi ac tp ba en at2_1 fl de iD iO tU fm fk fa fc ft ff fb fi]) H := hP
                    have hD : va_D A (List.flatten [bMo g o a th hi ac tp ba en at2_1 fl de iD iO tU fm fk fa fc ft ff fb fi]) := hD
                    exact ih55_48 x_59 (by first | omega | assumption | decide) H _ ls (by omega)  hP hD hS (lv_sub hl [0, 1, 2, 3] rfl)
                  · skip
                    have c60 : ¬ q_54.toInt = r_56.toInt := zne cb9 rfl rfl
                    refine lv_iconst (v := 0) hx hb dX12_has_81 (by decide) ?_
                    have hP : va_P g.1 vwCl (List.flatten [bMo g o a th hi ac tp ba en at2_1 fl de iD iO tU fm fk fa fc ft ff fb fi]) H := hP
                    have hD : va_D A (List.flatten [bMo g o a th hi ac tp ba en at2_1 fl de iD iO tU fm fk fa fc ft ff fb fi]) := hD
                    exact mret_z hx hb hr hlocks hS (Nat.le_of_ble_eq_true rfl) (Nat.le_of_ble_eq_true rfl) dX12_has_82 (at2_1, (0 : Int32)) rfl (by decide) (show (0 ≤ at2_1.toInt ∧ at2_1.toInt ≤ en.toInt + 7 - de.toInt) ∧ (tA.toInt ≤ at2_1.toInt) ∧ (0 = 1 ∧ tA.toInt < at2_1.toInt ∧ at2_1.toInt ≤ en.toInt ∨ 0 = 0) from ⟨(by first | assumption | omega), (by first | assumption | omega), by first | exact Or.inl ⟨rfl, by omega⟩ | exact Or.inr rfl⟩) hP hD
            have hP : va_P g.1 vwCl (List.flatten [bMo g o a th hi ac tp ba en at2_1 fl de iD iO tU fm fk fa fc ft ff fb fi]) H := hP
            have hD : va_D A (List.flatten [bMo g o a th hi ac tp ba en at2_1 fl de iD iO tU fm fk fa fc ft ff fb fi]) := hD
            exact LP55_47 _ 0 (by decide) H _ ls (Nat.lt_succ_self _)  hP hD hS (lv_sub hl [0, 1, 2, 3] rfl)
          · skip
            have c61 : ¬ x_41.toInt = r_42.toInt := zne cb9 rfl rfl
            refine lv_iconst (v := 0) hx hb dX12_has_51 (by decide) ?_
            have hP : va_P g.1 vwCl (List.flatten [bMo g o a th hi ac tp ba en at2_1 fl de iD iO tU fm fk fa fc ft ff fb fi]) H := hP
            have hD : va_D A (List.flatten [bMo g o a th hi ac tp ba en at2_1 fl de iD iO tU fm fk fa fc ft ff fb fi]) := hD
            exact mret_z hx hb hr hlocks hS (Nat.le_of_ble_eq_true rfl) (Nat.le_of_ble_eq_true rfl) dX12_has_52 (at2_1, (0 : Int32)) rfl (by decide) (show (0 ≤ at2_1.toInt ∧ at2_1.toInt ≤ en.toInt + 7 - de.toInt) ∧ (tA.toInt ≤ at2_1.toInt) ∧ (0 = 1 ∧ tA.toInt < at2_1.toInt ∧ at2_1.toInt ≤ en.toInt ∨ 0 = 0) from ⟨(by first | assumption | omega), (by first | assumption | omega), by first | exact Or.inl ⟨rfl, by omega⟩ | exact Or.inr rfl⟩) hP hD
  have hP : va_P g.1 vwCl (List.flatten [bMo g o a th hi ac tp ba en at2_1 fl de iD iO tU fm fk fa fc ft ff fb fi]) H := hP
  have hD : va_D A (List.flatten [bMo g o a th hi ac tp ba en at2_1 fl de iD iO tU fm fk fa fc ft ff fb fi]) := hD
  exact LP9_7 _ at2_1 (by first | omega | assumption | decide) (by first | omega | assumption | decide) (by first | omega | assumption | decide) H _ ls (Nat.lt_succ_self _)  hP hD hS (lv_sub hl [0, 1, 2] rfl)
