set_option maxRecDepth 100000 in
set_option maxHeartbeats 4000000 in
theorem m_remembers (l : Launch) (g : zG) (o : Nat) (a : Nat → Nat) (th : Int32) (hi : Int32) (ac : Int32) (tp : Int32) (ba : Int32) (en : Int32) (tA : Int32) (fl : Int32) (de : Int32) (iD : Int32) (iO : Int32) (tU : Int32) (fm : Nat → Int32) (fk : Nat → Int32) (fa : Nat → Int32) (fc : Nat → Int32) (ft : Nat → Int32) (ff : Nat → Int32) (fb : Nat → Int32) (fi : Nat → Int32) (rfm : rM fm) (rfc : rC fc) (hac : 0 ≤ ac.toInt ∧ ac.toInt ≤ 12) : zM' g l yX12_remembers (Cond.code yX12_remembers cX12_remembers 2 none :: zB) ({ frames := 0, cells := 0, slots := 0, locals := 0 } : Room) [.ref o] [bMo g o a th hi ac tp ba en tA fl de iD iO tU fm fk fa fc ft ff fb fi] (fun u : Int32 × (Nat → Int32) => (fun (ac2 : Int32) (fc2 : Nat → Int32) => none) (u.1) (u.2)) (fun u : Int32 × (Nat → Int32) => (fun (ac2 : Int32) (fc2 : Nat → Int32) => (rC fc2) ∧ (0 ≤ ac2.toInt ∧ ac2.toInt ≤ 12)) (u.1) (u.2)) (fun u : Int32 × (Nat → Int32) => (fun (ac2 : Int32) (fc2 : Nat → Int32) => [bMo g o a th hi ac2 tp ba en tA fl de iD iO tU fm fk fa fc2 ft ff fb fi]) (u.1) (u.2)) := by
  refine zM'.of (cc := cX12_remembers) (maxL := 2) (rt := none) (by decide) rfl (Nat.le_of_ble_eq_true rfl) ?_
  intro p e s m args below meth c A ls St hr hlocks hin hK hT hA hP hD hS hl
  obtain ⟨hx, hb, hml, hown, hts⟩ := id St
  have hl : lv_has ls 2 [(0, .ref o)] := hl
  refine lv_aload_n hx hb dX12_remembers_0 rfl (lv_at hl 0 rfl) ?_
  refine va_get (D := g.1) (ci := 10) (v := .int ac) (C := RX12) (T := TX12) (N := 20) hx hb hts izRX12 hown hK hP 0 rfl rfl 6 (by decide) (hts _ k973) (fun _ h9 => h9) rfl dX12_remembers_1 ?_
  refine lv_bipush (v := 12) hx hb dX12_remembers_4 (by decide) ?_
  refine lv_icmp_ne (tgt := 50) hx hb dX12_remembers_6 (by decide) (fun cb9 => ?_) (fun cb9 => ?_)
  · skip
    have c1 : ¬ ac.toInt = 12 := zne cb9 rfl (by decide)
    have n2 : ac.toInt ≤ 11 := zN2 c1 hac.2 (by decide)
    refine lv_iconst (v := 0) hx hb dX12_remembers_50 (by decide) ?_
    refine lv_istore_n (lv' := [(1, .int 0), (0, .ref o)]) hx hb dX12_remembers_51 rfl hl (by decide) rfl (fun ls hl => ?_)
    have hl := lv_sub (l' := [(0, .ref o), (1, .int 0)]) hl [1, 0] rfl
    have LP52_6 : ∀ (kf : Nat) (x_3 : Int32) (fc_4 : Nat → Int32), (0 ≤ x_3.toInt ∧ x_3.toInt ≤ 379) → (rC fc_4) → ∀ (H : Heap) (locs : List Loc) (ls : Array Slot), ((380 - x_3.toInt).toNat) < kf → va_P g.1 vwCl (List.flatten [bMo g o a th hi ac tp ba en tA fl de iD iO tU fm fk fa fc_4 ft ff fb fi]) H → va_D A (List.flatten [bMo g o a th hi ac tp ba en tA fl de iD iO tU fm fk fa fc_4 ft ff fb fi]) → va_S A s.heap H locs → lv_has ls 2 [(0, .ref o), (1, .int x_3)] → W p l e ({ frames := 0, cells := 0, slots := 0, locals := 0 } : Room) s m args below meth c H locs (0) (0) (zF g (fun u : Int32 × (Nat → Int32) => (fun (ac2 : Int32) (fc2 : Nat → Int32) => none) (u.1) (u.2)) (fun u : Int32 × (Nat → Int32) => (fun (ac2 : Int32) (fc2 : Nat → Int32) => (rC fc2) ∧ (0 ≤ ac2.toInt ∧ ac2.toInt ≤ 12)) (u.1) (u.2)) (fun u : Int32 × (Nat → Int32) => (fun (ac2 : Int32) (fc2 : Nat → Int32) => [bMo g o a th hi ac2 tp ba en tA fl de iD iO tU fm fk fa fc2 ft ff fb fi]) (u.1) (u.2)) ({ frames := 0, cells := 0, slots := 0, locals := 0 } : Room) below args s A) (F0 m 52 ls []) := by
      intro kf
      induction kf with
      | zero => intro x_3 fc_4 i5 rfc_4 H locs ls hk; exact absurd hk (Nat.not_lt_zero _)
      | succ kf ih52_7 =>
        intro x_3 fc_4 i5 rfc_4 H locs ls hk52_7 hP hD hS hl
        refine lv_iload_n hx hb dX12_remembers_52 rfl (lv_at hl 1 rfl) ?_
        refine lv_sipush (v := 379) hx hb dX12_remembers_53 (by decide) ?_
        refine lv_icmp_ge (tgt := 86) hx hb dX12_remembers_56 (by decide) (fun cb9 => ?_) (fun cb9 => ?_)
        · skip
          have c8 : 379 ≤ x_3.toInt := zle cb9 (by decide) rfl
          have n9 : 379 ≤ x_3.toInt := Int.le_trans (Int.le_refl _) c8
          refine lv_aload_n hx hb dX12_remembers_86 rfl (lv_at hl 0 rfl) ?_
          refine lv_dup hx hb dX12_remembers_87 rfl ?_
          refine va_get (D := g.1) (ci := 10) (v := .int ac) (C := RX12) (T := TX12) (N := 20) hx hb hts izRX12 hown hK hP 0 rfl rfl 6 (by decide) (hts _ k973) (fun _ h9 => h9) rfl dX12_remembers_88 ?_
          refine lv_iconst (v := 1) hx hb dX12_remembers_91 (by decide) ?_
          refine lv_iadd hx hb dX12_remembers_92 ?_
          refine zg3 (zaddK (i := ac.toInt) (j := 1) (a' := 1) (b' := 12) rfl (by decide) hac.1 n2 (Int.le_refl _) (Int.le_refl _) (by decide)) (fun x_10 hx_10 => ?_)
          refine va_put (D := g.1) (ci := 10) (v := .int x_10) (ty := .int) (C := RX12) (T := TX12) (N := 20) hx hb hts izRX12 tyX12 tyX12_ok nmX12 hown hK hP hD hS 0 rfl rfl 6 (by decide) (hts _ k973) (fun _ h9 => h9) rfl (by decide +kernel) rfl rfl (Nat.le_of_ble_eq_true rfl) dX12_remembers_93 (fun H locs hP hD hS => ?_)
          have hP : va_P g.1 vwCl (List.flatten [bMo g o a th hi x_10 tp ba en tA fl de iD iO tU fm fk fa fc_4 ft ff fb fi]) H := hP
          have hD : va_D A (List.flatten [bMo g o a th hi x_10 tp ba en tA fl de iD iO tU fm fk fa fc_4 ft ff fb fi]) := hD
          have hP : va_P g.1 vwCl (List.flatten [bMo g o a th hi x_10 tp ba en tA fl de iD iO tU fm fk fa fc_4 ft ff fb fi]) H := hP
          have hD : va_D A (List.flatten [bMo g o a th hi x_10 tp ba en tA fl de iD iO tU fm fk fa fc_4 ft ff fb fi]) := hD
          exact mret_v hx hb hr hlocks hS (Nat.le_of_ble_eq_true rfl) (Nat.le_of_ble_eq_true rfl) dX12_remembers_96 (x_10, fc_4) rfl (show (rC fc_4) ∧ (0 ≤ x_10.toInt ∧ x_10.toInt ≤ 12) from ⟨(by first | assumption | omega | decide | exact rfl | exact zb01 (by omega) | exact Or.inl (by decide) | exact Or.inr (by first | omega | decide)), (by first | assumption | omega | decide | exact rfl | exact zb01 (by omega) | exact Or.inl (by decide) | exact Or.inr (by first | omega | decide))⟩) hP hD
        · skip
          have c11 : x_3.toInt < 379 := zlti (Int32.not_le.mp cb9) rfl (by decide)
          have n12 : x_3.toInt ≤ 378 := zL1 (b := 379) c11 (Int.le_refl _) (by decide)
          refine lv_aload_n hx hb dX12_remembers_59 rfl (lv_at hl 0 rfl) ?_
          refine va_get (D := g.1) (ci := 10) (v := .ref (a 3)) (C := RX12) (T := TX12) (N := 20) hx hb hts izRX12 hown hK hP 0 rfl rfl 5 (by decide) (hts _ k818) (fun _ h9 => h9) rfl dX12_remembers_60 ?_
          refine lv_sipush (v := 379) hx hb dX12_remembers_63 (by decide) ?_
          refine lv_aload_n hx hb dX12_remembers_66 rfl (lv_at hl 0 rfl) ?_
          refine va_get (D := g.1) (ci := 10) (v := .int ac) (C := RX12) (T := TX12) (N := 20) hx hb hts izRX12 hown hK hP 0 rfl rfl 6 (by decide) (hts _ k973) (fun _ h9 => h9) rfl dX12_remembers_67 ?_
          refine lv_imul hx hb dX12_remembers_70 ?_
          refine zg3 (zmulKL (i := ac.toInt) (n := 379) (a' := 0) (b' := 4169) rfl (by decide) hac.1 n2 (by decide) (by decide)) (fun x_13 hx_13 => ?_)
          refine lv_iload_n hx hb dX12_remembers_71 rfl (lv_at hl 1 rfl) ?_
          refine lv_iadd hx hb dX12_remembers_72 ?_
          refine zg3 (zaddK (i := x_13.toInt) (j := x_3.toInt) (a' := 0) (b' := 4547) rfl rfl hx_13.2.1 hx_13.2.2 i5.1 n12 (by decide)) (fun x_14 hx_14 => ?_)
          refine lv_aload_n hx hb dX12_remembers_73 rfl (lv_at hl 0 rfl) ?_
          refine va_get (D := g.1) (ci := 10) (v := .ref (a 0)) (C := RX12) (T := TX12) (N := 20) hx hb hts izRX12 hown hK hP 0 rfl rfl 1 (by decide) (hts _ k815) (fun _ h9 => h9) rfl dX12_remembers_74 ?_
          refine lv_iload_n hx hb dX12_remembers_77 rfl (lv_at hl 1 rfl) ?_
          refine va_iald hx hb hK hP 1 0 rfl rfl (zinK (a := 0) (b := 378) i5.1 n12 (by decide)) dX12_remembers_78 ?_
          refine va_iast hx hb hK hP hD hS 4 0 rfl rfl (zinK (a := 0) (b := 4547) hx_14.2.1 hx_14.2.2 (by decide)) dX12_remembers_79 (fun H locs hP hD hS => ?_)
          obtain ⟨fc_15, rfc_15, hP, hD⟩ : ∃ fc_15 : Nat → Int32, rC fc_15 ∧ va_P g.1 vwCl (List.flatten [bMo g o a th hi ac tp ba en tA fl de iD iO tU fm fk fa fc_15 ft ff fb fi]) H ∧ va_D A (List.flatten [bMo g o a th hi ac tp ba en tA fl de iD iO tU fm fk fa fc_15 ft ff fb fi]) := ⟨upd fc_4 x_14.toNatClampNeg (fm x_3.toNatClampNeg), (rC_st (a := ac) rfc_4 rfm (by omega) (by omega) (by omega)), hP, hD⟩
          refine ziinc3 (n' := 1) (a' := 1) (b' := 379) (lv' := fun v9 => [(1, .int v9), (0, .ref o)]) hx hb dX12_remembers_80 hl (k := 1) rfl (by decide) (fun _ => rfl) (zaddK (i := x_3.toInt) (j := 1) rfl (by decide) i5.1 n12 (Int.le_refl _) (Int.le_refl _) (by decide)) (fun x_16 ls hx_16 hl => ?_)
          refine lv_goto (tgt := 52) hx hb dX12_remembers_83 (by decide) ?_
          have hl := lv_sub (l' := [(0, .ref o), (1, .int x_16)]) hl [1, 0] rfl
          have hP : va_P g.1 vwCl (List.flatten [bMo g o a th hi ac tp ba en tA fl de iD iO tU fm fk fa fc_15 ft ff fb fi]) H := hP
          have hD : va_D A (List.flatten [bMo g o a th hi ac tp ba en tA fl de iD iO tU fm fk fa fc_15 ft ff fb fi]) := hD
          exact ih52_7 x_16 fc_15 ⟨(Int.le_trans (by decide) hx_16.2.1), hx_16.2.2⟩ rfc_15 H _ ls (zmK hx_16.1 (by decide) n12 (by decide) hk52_7)  hP hD hS (lv_sub hl [0, 1] rfl)
    have hP : va_P g.1 vwCl (List.flatten [bMo g o a th hi ac tp ba en tA fl de iD iO tU fm fk fa fc ft ff fb fi]) s.heap := hP
    have hD : va_D A (List.flatten [bMo g o a th hi ac tp ba en tA fl de iD iO tU fm fk fa fc ft ff fb fi]) := hD
    exact LP52_6 _ 0 fc (by decide) rfc s.heap _ ls (Nat.lt_succ_self _)  hP hD hS (lv_sub hl [0, 1] rfl)
  · skip
    have c17 : ac.toInt = 12 := zeq cb9 rfl (by decide)
    have n18 : 12 ≤ ac.toInt := Int.le_trans (Int.le_refl _) (Int.le_of_eq c17.symm)
    refine lv_iconst (v := 0) hx hb dX12_remembers_9 (by decide) ?_
    refine lv_istore_n (lv' := [(1, .int 0), (0, .ref o)]) hx hb dX12_remembers_10 rfl hl (by decide) rfl (fun ls hl => ?_)
    have hl := lv_sub (l' := [(0, .ref o), (1, .int 0)]) hl [1, 0] rfl
    have LP11_22 : ∀ (kf : Nat) (x_19 : Int32) (fc_20 : Nat → Int32), (0 ≤ x_19.toInt ∧ x_19.toInt ≤ 4169) → (rC fc_20) → ∀ (H : Heap) (locs : List Loc) (ls : Array Slot), ((4170 - x_19.toInt).toNat) < kf → va_P g.1 vwCl (List.flatten [bMo g o a th hi ac tp ba en tA fl de iD iO tU fm fk fa fc_20 ft ff fb fi]) H → va_D A (List.flatten [bMo g o a th hi ac tp ba en tA fl de iD iO tU fm fk fa fc_20 ft ff fb fi]) → va_S A s.heap H locs → lv_has ls 2 [(0, .ref o), (1, .int x_19)] → W p l e ({ frames := 0, cells := 0, slots := 0, locals := 0 } : Room) s m args below meth c H locs (0) (0) (zF g (fun u : Int32 × (Nat → Int32) => (fun (ac2 : Int32) (fc2 : Nat → Int32) => none) (u.1) (u.2)) (fun u : Int32 × (Nat → Int32) => (fun (ac2 : Int32) (fc2 : Nat → Int32) => (rC fc2) ∧ (0 ≤ ac2.toInt ∧ ac2.toInt ≤ 12)) (u.1) (u.2)) (fun u : Int32 × (Nat → Int32) => (fun (ac2 : Int32) (fc2 : Nat → Int32) => [bMo g o a th hi ac2 tp ba en tA fl de iD iO tU fm fk fa fc2 ft ff fb fi]) (u.1) (u.2)) ({ frames := 0, cells := 0, slots := 0, locals := 0 } : Room) below args s A) (F0 m 11 ls []) := by
      intro kf
      induction kf with
      | zero => intro x_19 fc_20 i21 rfc_20 H locs ls hk; exact absurd hk (Nat.not_lt_zero _)
      | succ kf ih11_23 =>
        intro x_19 fc_20 i21 rfc_20 H locs ls hk11_23 hP hD hS hl
        refine lv_iload_n hx hb dX12_remembers_11 rfl (lv_at hl 1 rfl) ?_
        refine lv_sipush (v := 4169) hx hb dX12_remembers_12 (by decide) ?_
        refine lv_icmp_ge (tgt := 40) hx hb dX12_remembers_15 (by decide) (fun cb9 => ?_) (fun cb9 => ?_)
        · skip
          have c24 : 4169 ≤ x_19.toInt := zle cb9 (by decide) rfl
          have n25 : 4169 ≤ x_19.toInt := Int.le_trans (Int.le_refl _) c24
          refine lv_aload_n hx hb dX12_remembers_40 rfl (lv_at hl 0 rfl) ?_
          refine lv_dup hx hb dX12_remembers_41 rfl ?_
          refine va_get (D := g.1) (ci := 10) (v := .int ac) (C := RX12) (T := TX12) (N := 20) hx hb hts izRX12 hown hK hP 0 rfl rfl 6 (by decide) (hts _ k973) (fun _ h9 => h9) rfl dX12_remembers_42 ?_
          refine lv_iconst (v := 1) hx hb dX12_remembers_45 (by decide) ?_
          refine lv_isub hx hb dX12_remembers_46 ?_
          refine zg3 (zsubK (i := ac.toInt) (j := 1) (a' := 11) (b' := 11) rfl (by decide) n18 hac.2 (Int.le_refl _) (Int.le_refl _) (by decide)) (fun x_26 hx_26 => ?_)
          refine va_put (D := g.1) (ci := 10) (v := .int x_26) (ty := .int) (C := RX12) (T := TX12) (N := 20) hx hb hts izRX12 tyX12 tyX12_ok nmX12 hown hK hP hD hS 0 rfl rfl 6 (by decide) (hts _ k973) (fun _ h9 => h9) rfl (by decide +kernel) rfl rfl (Nat.le_of_ble_eq_true rfl) dX12_remembers_47 (fun H locs hP hD hS => ?_)
          have hP : va_P g.1 vwCl (List.flatten [bMo g o a th hi x_26 tp ba en tA fl de iD iO tU fm fk fa fc_20 ft ff fb fi]) H := hP
          have hD : va_D A (List.flatten [bMo g o a th hi x_26 tp ba en tA fl de iD iO tU fm fk fa fc_20 ft ff fb fi]) := hD
          refine lv_iconst (v := 0) hx hb dX12_remembers_50 (by decide) ?_
          refine lv_istore_n (lv' := [(1, .int 0), (0, .ref o)]) hx hb dX12_remembers_51 rfl hl (by decide) rfl (fun ls hl => ?_)
          have hl := lv_sub (l' := [(0, .ref o), (1, .int 0)]) hl [1, 0] rfl
          have LP52_30 : ∀ (kf : Nat) (x_27 : Int32) (fc_28 : Nat → Int32), (0 ≤ x_27.toInt ∧ x_27.toInt ≤ 379) → (rC fc_28) → ∀ (H : Heap) (locs : List Loc) (ls : Array Slot), ((380 - x_27.toInt).toNat) < kf → va_P g.1 vwCl (List.flatten [bMo g o a th hi x_26 tp ba en tA fl de iD iO tU fm fk fa fc_28 ft ff fb fi]) H → va_D A (List.flatten [bMo g o a th hi x_26 tp ba en tA fl de iD iO tU fm fk fa fc_28 ft ff fb fi]) → va_S A s.heap H locs → lv_has ls 2 [(0, .ref o), (1, .int x_27)] → W p l e ({ frames := 0, cells := 0, slots := 0, locals := 0 } : Room) s m args below meth c H locs (0) (0) (zF g (fun u : Int32 × (Nat → Int32) => (fun (ac2 : Int32) (fc2 : Nat → Int32) => none) (u.1) (u.2)) (fun u : Int32 × (Nat → Int32) => (fun (ac2 : Int32) (fc2 : Nat → Int32) => (rC fc2) ∧ (0 ≤ ac2.toInt ∧ ac2.toInt ≤ 12)) (u.1) (u.2)) (fun u : Int32 × (Nat → Int32) => (fun (ac2 : Int32) (fc2 : Nat → Int32) => [bMo g o a th hi ac2 tp ba en tA fl de iD iO tU fm fk fa fc2 ft ff fb fi]) (u.1) (u.2)) ({ frames := 0, cells := 0, slots := 0, locals := 0 } : Room) below args s A) (F0 m 52 ls []) := by
            intro kf
            induction kf with
            | zero => intro x_27 fc_28 i29 rfc_28 H locs ls hk; exact absurd hk (Nat.not_lt_zero _)
            | succ kf ih52_31 =>
              intro x_27 fc_28 i29 rfc_28 H locs ls hk52_31 hP hD hS hl
              refine lv_iload_n hx hb dX12_remembers_52 rfl (lv_at hl 1 rfl) ?_
              refine lv_sipush (v := 379) hx hb dX12_remembers_53 (by decide) ?_
              refine lv_icmp_ge (tgt := 86) hx hb dX12_remembers_56 (by decide) (fun cb9 => ?_) (fun cb9 => ?_)
              · skip
                have c32 : 379 ≤ x_27.toInt := zle cb9 (by decide) rfl
                have n33 : 379 ≤ x_27.toInt := Int.le_trans (Int.le_refl _) c32
                refine lv_aload_n hx hb dX12_remembers_86 rfl (lv_at hl 0 rfl) ?_
                refine lv_dup hx hb dX12_remembers_87 rfl ?_
                refine va_get (D := g.1) (ci := 10) (v := .int x_26) (C := RX12) (T := TX12) (N := 20) hx hb hts izRX12 hown hK hP 0 rfl rfl 6 (by decide) (hts _ k973) (fun _ h9 => h9) rfl dX12_remembers_88 ?_
                refine lv_iconst (v := 1) hx hb dX12_remembers_91 (by decide) ?_
                refine lv_iadd hx hb dX12_remembers_92 ?_
                refine zg3 (zaddK (i := x_26.toInt) (j := 1) (a' := 12) (b' := 12) rfl (by decide) hx_26.2.1 hx_26.2.2 (Int.le_refl _) (Int.le_refl _) (by decide)) (fun x_34 hx_34 => ?_)
                refine va_put (D := g.1) (ci := 10) (v := .int x_34) (ty := .int) (C := RX12) (T := TX12) (N := 20) hx hb hts izRX12 tyX12 tyX12_ok nmX12 hown hK hP hD hS 0 rfl rfl 6 (by decide) (hts _ k973) (fun _ h9 => h9) rfl (by decide +kernel) rfl rfl (Nat.le_of_ble_eq_true rfl) dX12_remembers_93 (fun H locs hP hD hS => ?_)
                have hP : va_P g.1 vwCl (List.flatten [bMo g o a th hi x_34 tp ba en tA fl de iD iO tU fm fk fa fc_28 ft ff fb fi]) H := hP
                have hD : va_D A (List.flatten [bMo g o a th hi x_34 tp ba en tA fl de iD iO tU fm fk fa fc_28 ft ff fb fi]) := hD
                have hP : va_P g.1 vwCl (List.flatten [bMo g o a th hi x_34 tp ba en tA fl de iD iO tU fm fk fa fc_28 ft ff fb fi]) H := hP
                have hD : va_D A (List.flatten [bMo g o a th hi x_34 tp ba en tA fl de iD iO tU fm fk fa fc_28 ft ff fb fi]) := hD
                exact mret_v hx hb hr hlocks hS (Nat.le_of_ble_eq_true rfl) (Nat.le_of_ble_eq_true rfl) dX12_remembers_96 (x_34, fc_28) rfl (show (rC fc_28) ∧ (0 ≤ x_34.toInt ∧ x_34.toInt ≤ 12) from ⟨(by first | assumption | omega | decide | exact rfl | exact zb01 (by omega) | exact Or.inl (by decide) | exact Or.inr (by first | omega | decide)), (by first | assumption | omega | decide | exact rfl | exact zb01 (by omega) | exact Or.inl (by decide) | exact Or.inr (by first | omega | decide))⟩) hP hD
              · skip
                have c35 : x_27.toInt < 379 := zlti (Int32.not_le.mp cb9) rfl (by decide)
                have n36 : x_27.toInt ≤ 378 := zL1 (b := 379) c35 (Int.le_refl _) (by decide)
                refine lv_aload_n hx hb dX12_remembers_59 rfl (lv_at hl 0 rfl) ?_
                refine va_get (D := g.1) (ci := 10) (v := .ref (a 3)) (C := RX12) (T := TX12) (N := 20) hx hb hts izRX12 hown hK hP 0 rfl rfl 5 (by decide) (hts _ k818) (fun _ h9 => h9) rfl dX12_remembers_60 ?_
                refine lv_sipush (v := 379) hx hb dX12_remembers_63 (by decide) ?_
                refine lv_aload_n hx hb dX12_remembers_66 rfl (lv_at hl 0 rfl) ?_
                refine va_get (D := g.1) (ci := 10) (v := .int x_26) (C := RX12) (T := TX12) (N := 20) hx hb hts izRX12 hown hK hP 0 rfl rfl 6 (by decide) (hts _ k973) (fun _ h9 => h9) rfl dX12_remembers_67 ?_
                refine lv_imul hx hb dX12_remembers_70 ?_
                refine zg3 (zmulKL (i := x_26.toInt) (n := 379) (a' := 4169) (b' := 4169) rfl (by decide) hx_26.2.1 hx_26.2.2 (by decide) (by decide)) (fun x_37 hx_37 => ?_)
                refine lv_iload_n hx hb dX12_remembers_71 rfl (lv_at hl 1 rfl) ?_
                refine lv_iadd hx hb dX12_remembers_72 ?_
                refine zg3 (zaddK (i := x_37.toInt) (j := x_27.toInt) (a' := 4169) (b' := 4547) rfl rfl hx_37.2.1 hx_37.2.2 i29.1 n36 (by decide)) (fun x_38 hx_38 => ?_)
                refine lv_aload_n hx hb dX12_remembers_73 rfl (lv_at hl 0 rfl) ?_
                refine va_get (D := g.1) (ci := 10) (v := .ref (a 0)) (C := RX12) (T := TX12) (N := 20) hx hb hts izRX12 hown hK hP 0 rfl rfl 1 (by decide) (hts _ k815) (fun _ h9 => h9) rfl dX12_remembers_74 ?_
                refine lv_iload_n hx hb dX12_remembers_77 rfl (lv_at hl 1 rfl) ?_
                refine va_iald hx hb hK hP 1 0 rfl rfl (zinK (a := 0) (b := 378) i29.1 n36 (by decide)) dX12_remembers_78 ?_
                refine va_iast hx hb hK hP hD hS 4 0 rfl rfl (zinK (a := 4169) (b := 4547) hx_38.2.1 hx_38.2.2 (by decide)) dX12_remembers_79 (fun H locs hP hD hS => ?_)
                obtain ⟨fc_39, rfc_39, hP, hD⟩ : ∃ fc_39 : Nat → Int32, rC fc_39 ∧ va_P g.1 vwCl (List.flatten [bMo g o a th hi x_26 tp ba en tA fl de iD iO tU fm fk fa fc_39 ft ff fb fi]) H ∧ va_D A (List.flatten [bMo g o a th hi x_26 tp ba en tA fl de iD iO tU fm fk fa fc_39 ft ff fb fi]) := ⟨upd fc_28 x_38.toNatClampNeg (fm x_27.toNatClampNeg), (rC_st (a := x_26) rfc_28 rfm (by omega) (by omega) (by omega)), hP, hD⟩
                refine ziinc3 (n' := 1) (a' := 1) (b' := 379) (lv' := fun v9 => [(1, .int v9), (0, .ref o)]) hx hb dX12_remembers_80 hl (k := 1) rfl (by decide) (fun _ => rfl) (zaddK (i := x_27.toInt) (j := 1) rfl (by decide) i29.1 n36 (Int.le_refl _) (Int.le_refl _) (by decide)) (fun x_40 ls hx_40 hl => ?_)
                refine lv_goto (tgt := 52) hx hb dX12_remembers_83 (by decide) ?_
                have hl := lv_sub (l' := [(0, .ref o), (1, .int x_40)]) hl [1, 0] rfl
                have hP : va_P g.1 vwCl (List.flatten [bMo g o a th hi x_26 tp ba en tA fl de iD iO tU fm fk fa fc_39 ft ff fb fi]) H := hP
                have hD : va_D A (List.flatten [bMo g o a th hi x_26 tp ba en tA fl de iD iO tU fm fk fa fc_39 ft ff fb fi]) := hD
                exact ih52_31 x_40 fc_39 ⟨(Int.le_trans (by decide) hx_40.2.1), hx_40.2.2⟩ rfc_39 H _ ls (zmK hx_40.1 (by decide) n36 (by decide) hk52_31)  hP hD hS (lv_sub hl [0, 1] rfl)
          have hP : va_P g.1 vwCl (List.flatten [bMo g o a th hi x_26 tp ba en tA fl de iD iO tU fm fk fa fc_20 ft ff fb fi]) H := hP
          have hD : va_D A (List.flatten [bMo g o a th hi x_26 tp ba en tA fl de iD iO tU fm fk fa fc_20 ft ff fb fi]) := hD
          exact LP52_30 _ 0 fc_20 (by decide) rfc_20 H _ ls (Nat.lt_succ_self _)  hP hD hS (lv_sub hl [0, 1] rfl)
        · skip
          have c41 : x_19.toInt < 4169 := zlti (Int32.not_le.mp cb9) rfl (by decide)
          have n42 : x_19.toInt ≤ 4168 := zL1 (b := 4169) c41 (Int.le_refl _) (by decide)
          refine lv_aload_n hx hb dX12_remembers_18 rfl (lv_at hl 0 rfl) ?_
          refine va_get (D := g.1) (ci := 10) (v := .ref (a 3)) (C := RX12) (T := TX12) (N := 20) hx hb hts izRX12 hown hK hP 0 rfl rfl 5 (by decide) (hts _ k818) (fun _ h9 => h9) rfl dX12_remembers_19 ?_
          refine lv_iload_n hx hb dX12_remembers_22 rfl (lv_at hl 1 rfl) ?_
          refine lv_aload_n hx hb dX12_remembers_23 rfl (lv_at hl 0 rfl) ?_
          refine va_get (D := g.1) (ci := 10) (v := .ref (a 3)) (C := RX12) (T := TX12) (N := 20) hx hb hts izRX12 hown hK hP 0 rfl rfl 5 (by decide) (hts _ k818) (fun _ h9 => h9) rfl dX12_remembers_24 ?_
          refine lv_iload_n hx hb dX12_remembers_27 rfl (lv_at hl 1 rfl) ?_
          refine lv_sipush (v := 379) hx hb dX12_remembers_28 (by decide) ?_
          refine lv_iadd hx hb dX12_remembers_31 ?_
          refine zg3 (zaddK (i := x_19.toInt) (j := 379) (a' := 379) (b' := 4547) rfl (by decide) i21.1 n42 (Int.le_refl _) (Int.le_refl _) (by decide)) (fun x_43 hx_43 => ?_)
          refine va_iald hx hb hK hP 4 0 rfl rfl (zinK (a := 379) (b := 4547) hx_43.2.1 hx_43.2.2 (by decide)) dX12_remembers_32 ?_
          refine va_iast hx hb hK hP hD hS 4 0 rfl rfl (zinK (a := 0) (b := 4168) i21.1 n42 (by decide)) dX12_remembers_33 (fun H locs hP hD hS => ?_)
          obtain ⟨fc_44, rfc_44, hP, hD⟩ : ∃ fc_44 : Nat → Int32, rC fc_44 ∧ va_P g.1 vwCl (List.flatten [bMo g o a th hi ac tp ba en tA fl de iD iO tU fm fk fa fc_44 ft ff fb fi]) H ∧ va_D A (List.flatten [bMo g o a th hi ac tp ba en tA fl de iD iO tU fm fk fa fc_44 ft ff fb fi]) := ⟨upd fc_20 x_19.toNatClampNeg (fc_20 x_43.toNatClampNeg), (rC_sh (x2 := x_43) rfc_20 (by omega) (by omega) (by omega)), hP, hD⟩
          refine ziinc3 (n' := 1) (a' := 1) (b' := 4169) (lv' := fun v9 => [(1, .int v9), (0, .ref o)]) hx hb dX12_remembers_34 hl (k := 1) rfl (by decide) (fun _ => rfl) (zaddK (i := x_19.toInt) (j := 1) rfl (by decide) i21.1 n42 (Int.le_refl _) (Int.le_refl _) (by decide)) (fun x_45 ls hx_45 hl => ?_)
          refine lv_goto (tgt := 11) hx hb dX12_remembers_37 (by decide) ?_
          have hl := lv_sub (l' := [(0, .ref o), (1, .int x_45)]) hl [1, 0] rfl
          have hP : va_P g.1 vwCl (List.flatten [bMo g o a th hi ac tp ba en tA fl de iD iO tU fm fk fa fc_44 ft ff fb fi]) H := hP
          have hD : va_D A (List.flatten [bMo g o a th hi ac tp ba en tA fl de iD iO tU fm fk fa fc_44 ft ff fb fi]) := hD
          exact ih11_23 x_45 fc_44 ⟨(Int.le_trans (by decide) hx_45.2.1), hx_45.2.2⟩ rfc_44 H _ ls (zmK hx_45.1 (by decide) n42 (by decide) hk11_23)  hP hD hS (lv_sub hl [0, 1] rfl)
    have hP : va_P g.1 vwCl (List.flatten [bMo g o a th hi ac tp ba en tA fl de iD iO tU fm fk fa fc ft ff fb fi]) s.heap := hP
    have hD : va_D A (List.flatten [bMo g o a th hi ac tp ba en tA fl de iD iO tU fm fk fa fc ft ff fb fi]) := hD
    exact LP11_22 _ 0 fc (by decide) rfc s.heap _ ls (Nat.lt_succ_self _)  hP hD hS (lv_sub hl [0, 1] rfl)
