set_option maxRecDepth 100000 in
set_option maxHeartbeats 4000000 in
theorem m_seed (l : Launch) (g : zG) (o : Nat) (a : Nat → Nat) (th : Int32) (hi : Int32) (ac : Int32) (tp : Int32) (ba : Int32) (en : Int32) (tA : Int32) (fl : Int32) (de : Int32) (iD : Int32) (iO : Int32) (tU : Int32) (fm : Nat → Int32) (fk : Nat → Int32) (fa : Nat → Int32) (fc : Nat → Int32) (ft : Nat → Int32) (ff : Nat → Int32) (fb : Nat → Int32) (fi : Nat → Int32) (n : Int32) (rfm : rM fm) : zM' g l yX12_seed (Cond.code yX12_seed cX12_seed 3 (some .int) :: zB) ({ frames := 0, cells := 0, slots := 0, locals := 0 } : Room) [.ref o, .int n] [bMo g o a th hi ac tp ba en tA fl de iD iO tU fm fk fa fc ft ff fb fi] (fun u : Int32 × (Nat → Int32) × Int32 => (fun (th2 : Int32) (fm2 : Nat → Int32) (q : Int32) => some (.int q)) (u.1) (u.2.1) (u.2.2)) (fun u : Int32 × (Nat → Int32) × Int32 => (fun (th2 : Int32) (fm2 : Nat → Int32) (q : Int32) => (rM fm2)) (u.1) (u.2.1) (u.2.2)) (fun u : Int32 × (Nat → Int32) × Int32 => (fun (th2 : Int32) (fm2 : Nat → Int32) (q : Int32) => [bMo g o a th2 hi ac tp ba en tA fl de iD iO tU fm2 fk fa fc ft ff fb fi]) (u.1) (u.2.1) (u.2.2)) := by
  refine zM'.of (cc := cX12_seed) (maxL := 3) (rt := (some .int)) (by decide) rfl (Nat.le_of_ble_eq_true rfl) ?_
  intro p e s m args below meth c A ls St hr hlocks hin hK hT hA hP hD hS hl
  obtain ⟨hx, hb, hml, hown, hts⟩ := id St
  have hl : lv_has ls 3 [(0, .ref o), (1, .int n)] := hl
  refine lv_aload_n hx hb dX12_seed_0 rfl (lv_at hl 0 rfl) ?_
  refine lv_iconst (v := 0) hx hb dX12_seed_1 (by decide) ?_
  refine va_put (D := g.1) (ci := 10) (v := .int 0) (ty := .int) (C := RX12) (T := TX12) (N := 20) hx hb hts izRX12 tyX12 tyX12_ok nmX12 hown hK hP hD hS 0 rfl rfl 0 (by decide) (hts _ k871) (fun _ h9 => h9) rfl (by decide +kernel) rfl rfl (Nat.le_of_ble_eq_true rfl) dX12_seed_2 (fun H locs hP hD hS => ?_)
  have hP : va_P g.1 vwCl (List.flatten [bMo g o a 0 hi ac tp ba en tA fl de iD iO tU fm fk fa fc ft ff fb fi]) H := hP
  have hD : va_D A (List.flatten [bMo g o a 0 hi ac tp ba en tA fl de iD iO tU fm fk fa fc ft ff fb fi]) := hD
  refine lv_aload_n hx hb dX12_seed_5 rfl (lv_at hl 0 rfl) ?_
  refine va_get (D := g.1) (ci := 10) (v := .ref (a 0)) (C := RX12) (T := TX12) (N := 20) hx hb hts izRX12 hown hK hP 0 rfl rfl 1 (by decide) (hts _ k815) (fun _ h9 => h9) rfl dX12_seed_6 ?_
  refine lv_bipush (v := 10) hx hb dX12_seed_9 (by decide) ?_
  refine va_iald hx hb hK hP 1 0 rfl rfl (zin rfl) dX12_seed_11 ?_
  refine zg (fun x_1 => ?_)
  refine lv_istore_n (lv' := [(2, .int x_1), (0, .ref o), (1, .int n)]) hx hb dX12_seed_12 rfl hl (by decide) rfl (fun ls hl => ?_)
  refine lv_aload_n hx hb dX12_seed_13 rfl (lv_at hl 1 rfl) ?_
  refine va_get (D := g.1) (ci := 10) (v := .ref (a 0)) (C := RX12) (T := TX12) (N := 20) hx hb hts izRX12 hown hK hP 0 rfl rfl 1 (by decide) (hts _ k815) (fun _ h9 => h9) rfl dX12_seed_14 ?_
  refine lv_bipush (v := 10) hx hb dX12_seed_17 (by decide) ?_
  refine lv_iload_n hx hb dX12_seed_19 rfl (lv_at hl 2 rfl) ?_
  refine va_iast hx hb hK hP hD hS 1 0 rfl rfl (zin rfl) dX12_seed_20 (fun H locs hP hD hS => ?_)
  obtain ⟨fm_2, rfm_2, hP, hD⟩ : ∃ fm_2 : Nat → Int32, rM fm_2 ∧ va_P g.1 vwCl (List.flatten [bMo g o a 0 hi ac tp ba en tA fl de iD iO tU fm_2 fk fa fc ft ff fb fi]) H ∧ va_D A (List.flatten [bMo g o a 0 hi ac tp ba en tA fl de iD iO tU fm_2 fk fa fc ft ff fb fi]) := ⟨upd fm 10 n, (rM_stL rfm (by decide)), hP, hD⟩
  refine lv_iload_n hx hb dX12_seed_21 rfl (lv_at hl 0 rfl) ?_
  have hP : va_P g.1 vwCl (List.flatten [bMo g o a 0 hi ac tp ba en tA fl de iD iO tU fm_2 fk fa fc ft ff fb fi]) H := hP
  have hD : va_D A (List.flatten [bMo g o a 0 hi ac tp ba en tA fl de iD iO tU fm_2 fk fa fc ft ff fb fi]) := hD
  exact mret_i hx hb hr hlocks hS (Nat.le_of_ble_eq_true rfl) (Nat.le_of_ble_eq_true rfl) dX12_seed_22 ((0 : Int32), fm_2, x_1) rfl (show (rM fm_2) from (by first | assumption | omega | decide | exact rfl | exact zb01 (by omega) | exact Or.inl (by decide) | exact Or.inr (by first | omega | decide))) hP hD
set_option maxRecDepth 100000 in
set_option maxHeartbeats 4000000 in
theorem m_undo (l : Launch) (g : zG) (o : Nat) (a : Nat → Nat) (th : Int32) (hi : Int32) (ac : Int32) (tp : Int32) (ba : Int32) (en : Int32) (tA : Int32) (fl : Int32) (de : Int32) (iD : Int32) (iO : Int32) (tU : Int32) (fm : Nat → Int32) (fk : Nat → Int32) (fa : Nat → Int32) (fc : Nat → Int32) (ft : Nat → Int32) (ff : Nat → Int32) (fb : Nat → Int32) (fi : Nat → Int32) (rfm : rM fm) (rfc : rC fc) (hac : 0 ≤ ac.toInt ∧ ac.toInt ≤ 12) : zM' g l yX12_undo (Cond.code yX12_undo cX12_undo 2 (some .boolean) :: zB) ({ frames := 0, cells := 0, slots := 0, locals := 0 } : Room) [.ref o] [bMo g o a th hi ac tp ba en tA fl de iD iO tU fm fk fa fc ft ff fb fi] (fun u : Int32 × Int32 × (Nat → Int32) × Int32 => (fun (th2 : Int32) (ac2 : Int32) (fm2 : Nat → Int32) (q : Int32) => some (.int q)) (u.1) (u.2.1) (u.2.2.1) (u.2.2.2)) (fun u : Int32 × Int32 × (Nat → Int32) × Int32 => (fun (th2 : Int32) (ac2 : Int32) (fm2 : Nat → Int32) (q : Int32) => (rM fm2) ∧ (0 ≤ ac2.toInt ∧ ac2.toInt ≤ 12) ∧ (q = 0 ∨ q = 1)) (u.1) (u.2.1) (u.2.2.1) (u.2.2.2)) (fun u : Int32 × Int32 × (Nat → Int32) × Int32 => (fun (th2 : Int32) (ac2 : Int32) (fm2 : Nat → Int32) (q : Int32) => [bMo g o a th2 hi ac2 tp ba en tA fl de iD iO tU fm2 fk fa fc ft ff fb fi]) (u.1) (u.2.1) (u.2.2.1) (u.2.2.2)) := by
  refine zM'.of (cc := cX12_undo) (maxL := 2) (rt := (some .boolean)) (by decide) rfl (Nat.le_of_ble_eq_true rfl) ?_
  intro p e s m args below meth c A ls St hr hlocks hin hK hT hA hP hD hS hl
  obtain ⟨hx, hb, hml, hown, hts⟩ := id St
  have hl : lv_has ls 2 [(0, .ref o)] := hl
  refine lv_aload_n hx hb dX12_undo_0 rfl (lv_at hl 0 rfl) ?_
  refine lv_iconst (v := 0) hx hb dX12_undo_1 (by decide) ?_
  refine va_put (D := g.1) (ci := 10) (v := .int 0) (ty := .int) (C := RX12) (T := TX12) (N := 20) hx hb hts izRX12 tyX12 tyX12_ok nmX12 hown hK hP hD hS 0 rfl rfl 0 (by decide) (hts _ k871) (fun _ h9 => h9) rfl (by decide +kernel) rfl rfl (Nat.le_of_ble_eq_true rfl) dX12_undo_2 (fun H locs hP hD hS => ?_)
  have hP : va_P g.1 vwCl (List.flatten [bMo g o a 0 hi ac tp ba en tA fl de iD iO tU fm fk fa fc ft ff fb fi]) H := hP
  have hD : va_D A (List.flatten [bMo g o a 0 hi ac tp ba en tA fl de iD iO tU fm fk fa fc ft ff fb fi]) := hD
  refine lv_aload_n hx hb dX12_undo_5 rfl (lv_at hl 0 rfl) ?_
  refine va_get (D := g.1) (ci := 10) (v := .int ac) (C := RX12) (T := TX12) (N := 20) hx hb hts izRX12 hown hK hP 0 rfl rfl 6 (by decide) (hts _ k973) (fun _ h9 => h9) rfl dX12_undo_6 ?_
  refine lv_if_ne (tgt := 14) hx hb dX12_undo_9 (by decide) (fun cb9 => ?_) (fun cb9 => ?_)
  · skip
    have c1 : ¬ ac.toInt = 0 := zne cb9 rfl (by decide)
    have n2 : 1 ≤ ac.toInt := zN1 c1 hac.1 (by decide)
    refine lv_aload_n hx hb dX12_undo_14 rfl (lv_at hl 0 rfl) ?_
    refine lv_dup hx hb dX12_undo_15 rfl ?_
    refine va_get (D := g.1) (ci := 10) (v := .int ac) (C := RX12) (T := TX12) (N := 20) hx hb hts izRX12 hown hK hP 0 rfl rfl 6 (by decide) (hts _ k973) (fun _ h9 => h9) rfl dX12_undo_16 ?_
    refine lv_iconst (v := 1) hx hb dX12_undo_19 (by decide) ?_
    refine lv_isub hx hb dX12_undo_20 ?_
    refine zg3 (zsubK (i := ac.toInt) (j := 1) (a' := 0) (b' := 11) rfl (by decide) n2 hac.2 (Int.le_refl _) (Int.le_refl _) (by decide)) (fun x_3 hx_3 => ?_)
    refine va_put (D := g.1) (ci := 10) (v := .int x_3) (ty := .int) (C := RX12) (T := TX12) (N := 20) hx hb hts izRX12 tyX12 tyX12_ok nmX12 hown hK hP hD hS 0 rfl rfl 6 (by decide) (hts _ k973) (fun _ h9 => h9) rfl (by decide +kernel) rfl rfl (Nat.le_of_ble_eq_true rfl) dX12_undo_21 (fun H locs hP hD hS => ?_)
    have hP : va_P g.1 vwCl (List.flatten [bMo g o a 0 hi x_3 tp ba en tA fl de iD iO tU fm fk fa fc ft ff fb fi]) H := hP
    have hD : va_D A (List.flatten [bMo g o a 0 hi x_3 tp ba en tA fl de iD iO tU fm fk fa fc ft ff fb fi]) := hD
    refine lv_iconst (v := 0) hx hb dX12_undo_24 (by decide) ?_
    refine lv_istore_n (lv' := [(1, .int 0), (0, .ref o)]) hx hb dX12_undo_25 rfl hl (by decide) rfl (fun ls hl => ?_)
    have hl := lv_sub (l' := [(0, .ref o), (1, .int 0)]) hl [1, 0] rfl
    have LP26_7 : ∀ (kf : Nat) (x_4 : Int32) (fm_5 : Nat → Int32), (0 ≤ x_4.toInt ∧ x_4.toInt ≤ 379) → (rM fm_5) → ∀ (H : Heap) (locs : List Loc) (ls : Array Slot), ((380 - x_4.toInt).toNat) < kf → va_P g.1 vwCl (List.flatten [bMo g o a 0 hi x_3 tp ba en tA fl de iD iO tU fm_5 fk fa fc ft ff fb fi]) H → va_D A (List.flatten [bMo g o a 0 hi x_3 tp ba en tA fl de iD iO tU fm_5 fk fa fc ft ff fb fi]) → va_S A s.heap H locs → lv_has ls 2 [(0, .ref o), (1, .int x_4)] → W p l e ({ frames := 0, cells := 0, slots := 0, locals := 0 } : Room) s m args below meth c H locs (0) (0) (zF g (fun u : Int32 × Int32 × (Nat → Int32) × Int32 => (fun (th2 : Int32) (ac2 : Int32) (fm2 : Nat → Int32) (q : Int32) => some (.int q)) (u.1) (u.2.1) (u.2.2.1) (u.2.2.2)) (fun u : Int32 × Int32 × (Nat → Int32) × Int32 => (fun (th2 : Int32) (ac2 : Int32) (fm2 : Nat → Int32) (q : Int32) => (rM fm2) ∧ (0 ≤ ac2.toInt ∧ ac2.toInt ≤ 12) ∧ (q = 0 ∨ q = 1)) (u.1) (u.2.1) (u.2.2.1) (u.2.2.2)) (fun u : Int32 × Int32 × (Nat → Int32) × Int32 => (fun (th2 : Int32) (ac2 : Int32) (fm2 : Nat → Int32) (q : Int32) => [bMo g o a th2 hi ac2 tp ba en tA fl de iD iO tU fm2 fk fa fc ft ff fb fi]) (u.1) (u.2.1) (u.2.2.1) (u.2.2.2)) ({ frames := 0, cells := 0, slots := 0, locals := 0 } : Room) below args s A) (F0 m 26 ls []) := by
      intro kf
      induction kf with
      | zero => intro x_4 fm_5 i6 rfm_5 H locs ls hk; exact absurd hk (Nat.not_lt_zero _)
      | succ kf ih26_8 =>
        intro x_4 fm_5 i6 rfm_5 H locs ls hk26_8 hP hD hS hl
        refine lv_iload_n hx hb dX12_undo_26 rfl (lv_at hl 1 rfl) ?_
        refine lv_sipush (v := 379) hx hb dX12_undo_27 (by decide) ?_
        refine lv_icmp_ge (tgt := 60) hx hb dX12_undo_30 (by decide) (fun cb9 => ?_) (fun cb9 => ?_)
        · skip
          have c9 : 379 ≤ x_4.toInt := zle cb9 (by decide) rfl
          have n10 : 379 ≤ x_4.toInt := Int.le_trans (Int.le_refl _) c9
          refine lv_iconst (v := 1) hx hb dX12_undo_60 (by decide) ?_
          have hP : va_P g.1 vwCl (List.flatten [bMo g o a 0 hi x_3 tp ba en tA fl de iD iO tU fm_5 fk fa fc ft ff fb fi]) H := hP
          have hD : va_D A (List.flatten [bMo g o a 0 hi x_3 tp ba en tA fl de iD iO tU fm_5 fk fa fc ft ff fb fi]) := hD
          exact mret_z hx hb hr hlocks hS (Nat.le_of_ble_eq_true rfl) (Nat.le_of_ble_eq_true rfl) dX12_undo_61 ((0 : Int32), x_3, fm_5, (1 : Int32)) rfl (by decide) (show (rM fm_5) ∧ (0 ≤ x_3.toInt ∧ x_3.toInt ≤ 12) ∧ (1 = 0 ∨ 1 = 1) from ⟨(by first | assumption | omega | decide | exact rfl | exact zb01 (by omega) | exact Or.inl (by decide) | exact Or.inr (by first | omega | decide)), (by first | assumption | omega | decide | exact rfl | exact zb01 (by omega) | exact Or.inl (by decide) | exact Or.inr (by first | omega | decide)), (by first | assumption | omega | decide | exact rfl | exact zb01 (by omega) | exact Or.inl (by decide) | exact Or.inr (by first | omega | decide))⟩) hP hD
        · skip
          have c11 : x_4.toInt < 379 := zlti (Int32.not_le.mp cb9) rfl (by decide)
          have n12 : x_4.toInt ≤ 378 := zL1 (b := 379) c11 (Int.le_refl _) (by decide)
          refine lv_aload_n hx hb dX12_undo_33 rfl (lv_at hl 0 rfl) ?_
          refine va_get (D := g.1) (ci := 10) (v := .ref (a 0)) (C := RX12) (T := TX12) (N := 20) hx hb hts izRX12 hown hK hP 0 rfl rfl 1 (by decide) (hts _ k815) (fun _ h9 => h9) rfl dX12_undo_34 ?_
          refine lv_iload_n hx hb dX12_undo_37 rfl (lv_at hl 1 rfl) ?_
          refine lv_aload_n hx hb dX12_undo_38 rfl (lv_at hl 0 rfl) ?_
          refine va_get (D := g.1) (ci := 10) (v := .ref (a 3)) (C := RX12) (T := TX12) (N := 20) hx hb hts izRX12 hown hK hP 0 rfl rfl 5 (by decide) (hts _ k818) (fun _ h9 => h9) rfl dX12_undo_39 ?_
          refine lv_sipush (v := 379) hx hb dX12_undo_42 (by decide) ?_
          refine lv_aload_n hx hb dX12_undo_45 rfl (lv_at hl 0 rfl) ?_
          refine va_get (D := g.1) (ci := 10) (v := .int x_3) (C := RX12) (T := TX12) (N := 20) hx hb hts izRX12 hown hK hP 0 rfl rfl 6 (by decide) (hts _ k973) (fun _ h9 => h9) rfl dX12_undo_46 ?_
          refine lv_imul hx hb dX12_undo_49 ?_
          refine zg3 (zmulKL (i := x_3.toInt) (n := 379) (a' := 0) (b' := 4169) rfl (by decide) hx_3.2.1 hx_3.2.2 (by decide) (by decide)) (fun x_13 hx_13 => ?_)
          refine lv_iload_n hx hb dX12_undo_50 rfl (lv_at hl 1 rfl) ?_
          refine lv_iadd hx hb dX12_undo_51 ?_
          refine zg3 (zaddK (i := x_13.toInt) (j := x_4.toInt) (a' := 0) (b' := 4547) rfl rfl hx_13.2.1 hx_13.2.2 i6.1 n12 (by decide)) (fun x_14 hx_14 => ?_)
          refine va_iald hx hb hK hP 4 0 rfl rfl (zinK (a := 0) (b := 4547) hx_14.2.1 hx_14.2.2 (by decide)) dX12_undo_52 ?_
          refine va_iast hx hb hK hP hD hS 1 0 rfl rfl (zinK (a := 0) (b := 378) i6.1 n12 (by decide)) dX12_undo_53 (fun H locs hP hD hS => ?_)
          obtain ⟨fm_15, rfm_15, hP, hD⟩ : ∃ fm_15 : Nat → Int32, rM fm_15 ∧ va_P g.1 vwCl (List.flatten [bMo g o a 0 hi x_3 tp ba en tA fl de iD iO tU fm_15 fk fa fc ft ff fb fi]) H ∧ va_D A (List.flatten [bMo g o a 0 hi x_3 tp ba en tA fl de iD iO tU fm_15 fk fa fc ft ff fb fi]) := ⟨upd fm_5 x_4.toNatClampNeg (fc x_14.toNatClampNeg), (rM_cq (a := x_3) rfm_5 rfc (by omega) (by omega) (by omega)), hP, hD⟩
          refine ziinc3 (n' := 1) (a' := 1) (b' := 379) (lv' := fun v9 => [(1, .int v9), (0, .ref o)]) hx hb dX12_undo_54 hl (k := 1) rfl (by decide) (fun _ => rfl) (zaddK (i := x_4.toInt) (j := 1) rfl (by decide) i6.1 n12 (Int.le_refl _) (Int.le_refl _) (by decide)) (fun x_16 ls hx_16 hl => ?_)
          refine lv_goto (tgt := 26) hx hb dX12_undo_57 (by decide) ?_
          have hl := lv_sub (l' := [(0, .ref o), (1, .int x_16)]) hl [1, 0] rfl
          have hP : va_P g.1 vwCl (List.flatten [bMo g o a 0 hi x_3 tp ba en tA fl de iD iO tU fm_15 fk fa fc ft ff fb fi]) H := hP
          have hD : va_D A (List.flatten [bMo g o a 0 hi x_3 tp ba en tA fl de iD iO tU fm_15 fk fa fc ft ff fb fi]) := hD
          exact ih26_8 x_16 fm_15 ⟨(Int.le_trans (by decide) hx_16.2.1), hx_16.2.2⟩ rfm_15 H _ ls (zmK hx_16.1 (by decide) n12 (by decide) hk26_8)  hP hD hS (lv_sub hl [0, 1] rfl)
    have hP : va_P g.1 vwCl (List.flatten [bMo g o a 0 hi x_3 tp ba en tA fl de iD iO tU fm fk fa fc ft ff fb fi]) H := hP
    have hD : va_D A (List.flatten [bMo g o a 0 hi x_3 tp ba en tA fl de iD iO tU fm fk fa fc ft ff fb fi]) := hD
    exact LP26_7 _ 0 fm (by decide) rfm H _ ls (Nat.lt_succ_self _)  hP hD hS (lv_sub hl [0, 1] rfl)
  · skip
    have c17 : ac.toInt = 0 := zeq cb9 rfl (by decide)
    have n18 : ac.toInt ≤ 0 := Int.le_trans (Int.le_of_eq c17) (Int.le_refl _)
    refine lv_iconst (v := 0) hx hb dX12_undo_12 (by decide) ?_
    have hP : va_P g.1 vwCl (List.flatten [bMo g o a 0 hi ac tp ba en tA fl de iD iO tU fm fk fa fc ft ff fb fi]) H := hP
    have hD : va_D A (List.flatten [bMo g o a 0 hi ac tp ba en tA fl de iD iO tU fm fk fa fc ft ff fb fi]) := hD
    exact mret_z hx hb hr hlocks hS (Nat.le_of_ble_eq_true rfl) (Nat.le_of_ble_eq_true rfl) dX12_undo_13 ((0 : Int32), ac, fm, (0 : Int32)) rfl (by decide) (show (rM fm) ∧ (0 ≤ ac.toInt ∧ ac.toInt ≤ 12) ∧ (0 = 0 ∨ 0 = 1) from ⟨(by first | assumption | omega | decide | exact rfl | exact zb01 (by omega) | exact Or.inl (by decide) | exact Or.inr (by first | omega | decide)), (by first | assumption | omega | decide | exact rfl | exact zb01 (by omega) | exact Or.inl (by decide) | exact Or.inr (by first | omega | decide)), (by first | assumption | omega | decide | exact rfl | exact zb01 (by omega) | exact Or.inl (by decide) | exact Or.inr (by first | omega | decide))⟩) hP hD
