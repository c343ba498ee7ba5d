set_option maxRecDepth 100000 in
set_option maxHeartbeats 4000000 in
theorem m_heard (l : Launch) (g : zG) (o : Nat) (a : Nat → Nat) (th : Int32) (hi : Int32) (ac : Int32) (tp : Int32) (ba : Int32) (en : Int32) (tA : Int32) (fl : Int32) (de : Int32) (iD : Int32) (iO : Int32) (tU : Int32) (fm : Nat → Int32) (fk : Nat → Int32) (fa : Nat → Int32) (fc : Nat → Int32) (ft : Nat → Int32) (ff : Nat → Int32) (fb : Nat → Int32) (fi : Nat → Int32) (htp : 0 ≤ tp.toInt ∧ tp.toInt ≤ 400) : zM' g l yX12_heard (Cond.code yX12_heard cX12_heard 5 (some .int) :: zB) ({ frames := 0, cells := 0, slots := 0, locals := 0 } : Room) [.ref o] [bMo g o a th hi ac tp ba en tA fl de iD iO tU fm fk fa fc ft ff fb fi] (fun (q : Int32) => some (.int q)) (fun (q : Int32) => ((-12 ≤ q.toInt ∧ q.toInt ≤ 12) ∨ q.toInt = 100)) (fun (q : Int32) => [bMo g o a th hi ac 0 ba en tA fl de iD iO tU fm fk fa fc ft ff fb fi]) := by
  refine zM'.of (cc := cX12_heard) (maxL := 5) (rt := (some .int)) (by decide) rfl (Nat.le_of_ble_eq_true rfl) ?_
  intro p e s m args below meth c A ls St hr hlocks hin hK hT hA hP hD hS hl
  obtain ⟨hx, hb, hml, hown, hts⟩ := id St
  have hl : lv_has ls 5 [(0, .ref o)] := hl
  refine lv_aload_n hx hb dX12_heard_0 rfl (lv_at hl 0 rfl) ?_
  refine va_get (D := g.1) (ci := 10) (v := .int tp) (C := RX12) (T := TX12) (N := 20) hx hb hts izRX12 hown hK hP 0 rfl rfl 8 (by decide) (hts _ k872) (fun _ h9 => h9) rfl dX12_heard_1 ?_
  refine lv_istore_n (lv' := [(1, .int tp), (0, .ref o)]) hx hb dX12_heard_4 rfl hl (by decide) rfl (fun ls hl => ?_)
  refine lv_aload_n hx hb dX12_heard_5 rfl (lv_at hl 1 rfl) ?_
  refine lv_iconst (v := 0) hx hb dX12_heard_6 (by decide) ?_
  refine va_put (D := g.1) (ci := 10) (v := .int 0) (ty := .int) (C := RX12) (T := TX12) (N := 20) hx hb hts izRX12 tyX12 tyX12_ok nmX12 hown hK hP hD hS 0 rfl rfl 8 (by decide) (hts _ k872) (fun _ h9 => h9) rfl (by decide +kernel) rfl rfl (Nat.le_of_ble_eq_true rfl) dX12_heard_7 (fun H locs hP hD hS => ?_)
  have hP : va_P g.1 vwCl (List.flatten [bMo g o a th hi ac 0 ba en tA fl de iD iO tU fm fk fa fc ft ff fb fi]) H := hP
  have hD : va_D A (List.flatten [bMo g o a th hi ac 0 ba en tA fl de iD iO tU fm fk fa fc ft ff fb fi]) := hD
  refine lv_iconst (v := 0) hx hb dX12_heard_10 (by decide) ?_
  refine lv_istore_n (lv' := [(2, .int 0), (1, .int tp), (0, .ref o)]) hx hb dX12_heard_11 rfl hl (by decide) rfl (fun ls hl => ?_)
  refine lv_iload_n hx hb dX12_heard_12 rfl (lv_at hl 1 rfl) ?_
  refine lv_bipush (v := 12) hx hb dX12_heard_13 (by decide) ?_
  refine lv_icmp_gt (tgt := 22) hx hb dX12_heard_15 (by decide) (fun cb9 => ?_) (fun cb9 => ?_)
  · skip
    have c1 : 12 < tp.toInt := zlti cb9 (by decide) rfl
    have n2 : 13 ≤ tp.toInt := zL2 (a := 12) c1 (Int.le_refl _) (by decide)
    refine lv_iconst (v := 0) hx hb dX12_heard_22 (by decide) ?_
    refine lv_istore_n (lv' := [(3, .int 0), (2, .int 0), (1, .int tp), (0, .ref o)]) hx hb dX12_heard_23 rfl hl (by decide) rfl (fun ls hl => ?_)
    refine lv_iconst (v := 0) hx hb dX12_heard_24 (by decide) ?_
    refine lv_istore (lv' := [(4, .int 0), (3, .int 0), (2, .int 0), (1, .int tp), (0, .ref o)]) hx hb dX12_heard_25 hl (by decide) rfl (fun ls hl => ?_)
    have hl := lv_sub (l' := [(0, .ref o), (1, .int tp), (2, .int 0), (3, .int 0), (4, .int 0)]) hl [4, 3, 2, 1, 0] rfl
    have LP27_12 : ∀ (kf : Nat) (x_3 : Int32) (x_4 : Int32) (x_5 : Int32), ((-400) ≤ x_3.toInt ∧ x_3.toInt ≤ 400) → (0 ≤ x_4.toInt ∧ x_4.toInt ≤ 1) → (0 ≤ x_5.toInt ∧ x_5.toInt ≤ 400) → ((-(x_5.toInt) ≤ x_3.toInt ∧ x_3.toInt ≤ x_5.toInt)) → (x_4.toInt = 0 ∨ tp.toInt ≤ 12) → (x_5.toInt ≤ tp.toInt) → ∀ (H : Heap) (locs : List Loc) (ls : Array Slot), ((401 - x_5.toInt).toNat) < kf → va_P g.1 vwCl (List.flatten [bMo g o a th hi ac 0 ba en tA fl de iD iO tU fm fk fa fc ft ff fb fi]) H → va_D A (List.flatten [bMo g o a th hi ac 0 ba en tA fl de iD iO tU fm fk fa fc ft ff fb fi]) → va_S A s.heap H locs → lv_has ls 5 [(0, .ref o), (1, .int tp), (2, .int x_3), (3, .int x_4), (4, .int x_5)] → W p l e ({ frames := 0, cells := 0, slots := 0, locals := 0 } : Room) s m args below meth c H locs (0) (0) (zF g (fun (q : Int32) => some (.int q)) (fun (q : Int32) => ((-12 ≤ q.toInt ∧ q.toInt ≤ 12) ∨ q.toInt = 100)) (fun (q : Int32) => [bMo g o a th hi ac 0 ba en tA fl de iD iO tU fm fk fa fc ft ff fb fi]) ({ frames := 0, cells := 0, slots := 0, locals := 0 } : Room) below args s A) (F0 m 27 ls []) := by
      intro kf
      induction kf with
      | zero => intro x_3 x_4 x_5 i6 i7 i8 i9 i10 i11 H locs ls hk; exact absurd hk (Nat.not_lt_zero _)
      | succ kf ih27_13 =>
        intro x_3 x_4 x_5 i6 i7 i8 i9 i10 i11 H locs ls hk27_13 hP hD hS hl
        refine lv_iload hx hb dX12_heard_27 (lv_at hl 4 rfl) ?_
        refine lv_iload_n hx hb dX12_heard_29 rfl (lv_at hl 1 rfl) ?_
        refine lv_icmp_ge (tgt := 79) hx hb dX12_heard_30 (by decide) (fun cb9 => ?_) (fun cb9 => ?_)
        · skip
          have c14 : tp.toInt ≤ x_5.toInt := zle cb9 rfl rfl
          have n15 : 13 ≤ x_5.toInt := Int.le_trans n2 c14
          refine lv_iload_n hx hb dX12_heard_79 rfl (lv_at hl 3 rfl) ?_
          refine lv_if_eq (tgt := 87) hx hb dX12_heard_80 (by decide) (fun cb9 => ?_) (fun cb9 => ?_)
          · skip
            have c16 : x_4.toInt = 0 := zeq cb9 rfl (by decide)
            have n17 : x_4.toInt ≤ 0 := Int.le_trans (Int.le_of_eq c16) (Int.le_refl _)
            refine lv_bipush (v := 100) hx hb dX12_heard_87 (by decide) ?_
            have hL100 : (100 : Int32).toInt = 100 := by decide
            have hP : va_P g.1 vwCl (List.flatten [bMo g o a th hi ac 0 ba en tA fl de iD iO tU fm fk fa fc ft ff fb fi]) H := hP
            have hD : va_D A (List.flatten [bMo g o a th hi ac 0 ba en tA fl de iD iO tU fm fk fa fc ft ff fb fi]) := hD
            exact mret_i hx hb hr hlocks hS (Nat.le_of_ble_eq_true rfl) (Nat.le_of_ble_eq_true rfl) dX12_heard_89 ((100 : Int32)) rfl (show ((-12 ≤ (100 : Int32).toInt ∧ (100 : Int32).toInt ≤ 12) ∨ (100 : Int32).toInt = 100) from (by first | assumption | omega | decide | exact rfl | exact zb01 (by omega) | exact Or.inl (by decide) | exact Or.inr (by first | omega | decide))) hP hD
          · skip
            have c18 : ¬ x_4.toInt = 0 := zne cb9 rfl (by decide)
            have n19 : 1 ≤ x_4.toInt := zN1 c18 i7.1 (by decide)
            refine lv_iload_n hx hb dX12_heard_83 rfl (lv_at hl 2 rfl) ?_
            refine lv_goto (tgt := 89) hx hb dX12_heard_84 (by decide) ?_
            have hP : va_P g.1 vwCl (List.flatten [bMo g o a th hi ac 0 ba en tA fl de iD iO tU fm fk fa fc ft ff fb fi]) H := hP
            have hD : va_D A (List.flatten [bMo g o a th hi ac 0 ba en tA fl de iD iO tU fm fk fa fc ft ff fb fi]) := hD
            exact mret_i hx hb hr hlocks hS (Nat.le_of_ble_eq_true rfl) (Nat.le_of_ble_eq_true rfl) dX12_heard_89 (x_3) rfl (show ((-12 ≤ x_3.toInt ∧ x_3.toInt ≤ 12) ∨ x_3.toInt = 100) from (by first | assumption | omega | decide | exact rfl | exact zb01 (by omega) | exact Or.inl (by decide) | exact Or.inr (by first | omega | decide))) hP hD
        · skip
          have c20 : x_5.toInt < tp.toInt := zlti (Int32.not_le.mp cb9) rfl rfl
          have n21 : x_5.toInt ≤ 399 := zL1 (b := 400) c20 htp.2 (by decide)
          refine lv_iload_n hx hb dX12_heard_33 rfl (lv_at hl 3 rfl) ?_
          refine lv_if_eq (tgt := 79) hx hb dX12_heard_34 (by decide) (fun cb9 => ?_) (fun cb9 => ?_)
          · skip
            have c22 : x_4.toInt = 0 := zeq cb9 rfl (by decide)
            have n23 : x_4.toInt ≤ 0 := Int.le_trans (Int.le_of_eq c22) (Int.le_refl _)
            refine lv_iload_n hx hb dX12_heard_79 rfl (lv_at hl 3 rfl) ?_
            refine lv_if_eq (tgt := 87) hx hb dX12_heard_80 (by decide) (fun cb9 => ?_) (fun cb9 => ?_)
            · skip
              have c24 : x_4.toInt = 0 := zeq cb9 rfl (by decide)
              refine lv_bipush (v := 100) hx hb dX12_heard_87 (by decide) ?_
              have hL100 : (100 : Int32).toInt = 100 := by decide
              have hP : va_P g.1 vwCl (List.flatten [bMo g o a th hi ac 0 ba en tA fl de iD iO tU fm fk fa fc ft ff fb fi]) H := hP
              have hD : va_D A (List.flatten [bMo g o a th hi ac 0 ba en tA fl de iD iO tU fm fk fa fc ft ff fb fi]) := hD
              exact mret_i hx hb hr hlocks hS (Nat.le_of_ble_eq_true rfl) (Nat.le_of_ble_eq_true rfl) dX12_heard_89 ((100 : Int32)) rfl (show ((-12 ≤ (100 : Int32).toInt ∧ (100 : Int32).toInt ≤ 12) ∨ (100 : Int32).toInt = 100) from (by first | assumption | omega | decide | exact rfl | exact zb01 (by omega) | exact Or.inl (by decide) | exact Or.inr (by first | omega | decide))) hP hD
            · skip
              exact absurd (show ¬ x_4.toInt = 0 from zne cb9 rfl (by decide)) (by omega)
          · skip
            have c26 : ¬ x_4.toInt = 0 := zne cb9 rfl (by decide)
            have n27 : 1 ≤ x_4.toInt := zN1 c26 i7.1 (by decide)
            refine lv_aload_n hx hb dX12_heard_37 rfl (lv_at hl 0 rfl) ?_
            refine va_get (D := g.1) (ci := 10) (v := .ref (a 4)) (C := RX12) (T := TX12) (N := 20) hx hb hts izRX12 hown hK hP 0 rfl rfl 7 (by decide) (hts _ k819) (fun _ h9 => h9) rfl dX12_heard_38 ?_
            refine lv_iload hx hb dX12_heard_41 (lv_at hl 4 rfl) ?_
            refine va_iald hx hb hK hP 5 0 rfl rfl (zinK (a := 0) (b := 399) i8.1 n21 (by decide)) dX12_heard_43 ?_
            refine zg (fun x_28 => ?_)
            refine lv_iconst (v := 2) hx hb dX12_heard_44 (by decide) ?_
            refine lv_icmp_ge (tgt := 52) hx hb dX12_heard_45 (by decide) (fun cb9 => ?_) (fun cb9 => ?_)
            · skip
              have c29 : 2 ≤ x_28.toInt := zle cb9 (by decide) rfl
              have n30 : 2 ≤ x_28.toInt := Int.le_trans (Int.le_refl _) c29
              refine lv_iconst (v := 0) hx hb dX12_heard_52 (by decide) ?_
              refine lv_istore_n (lv' := [(3, .int 0), (0, .ref o), (1, .int tp), (2, .int x_3), (4, .int x_5)]) hx hb dX12_heard_53 rfl hl (by decide) rfl (fun ls hl => ?_)
              refine lv_iload_n hx hb dX12_heard_54 rfl (lv_at hl 3 rfl) ?_
              refine lv_aload_n hx hb dX12_heard_55 rfl (lv_at hl 1 rfl) ?_
              refine va_get (D := g.1) (ci := 10) (v := .ref (a 4)) (C := RX12) (T := TX12) (N := 20) hx hb hts izRX12 hown hK hP 0 rfl rfl 7 (by decide) (hts _ k819) (fun _ h9 => h9) rfl dX12_heard_56 ?_
              refine lv_iload hx hb dX12_heard_59 (lv_at hl 4 rfl) ?_
              refine va_iald hx hb hK hP 5 0 rfl rfl (zinK (a := 0) (b := 399) i8.1 n21 (by decide)) dX12_heard_61 ?_
              refine zg (fun x_31 => ?_)
              refine lv_iconst (v := 1) hx hb dX12_heard_62 (by decide) ?_
              refine lv_icmp_ne (tgt := 70) hx hb dX12_heard_63 (by decide) (fun cb9 => ?_) (fun cb9 => ?_)
              · skip
                have c32 : ¬ x_31.toInt = 1 := zne cb9 rfl (by decide)
                refine lv_iconst (v := (-1)) hx hb dX12_heard_70 (by decide) ?_
                refine lv_iadd hx hb dX12_heard_71 ?_
                refine zg3 (zaddK (i := x_3.toInt) (j := (-1)) (a' := (-401)) (b' := 399) rfl (by decide) i6.1 i6.2 (Int.le_refl _) (Int.le_refl _) (by decide)) (fun x_33 hx_33 => ?_)
                refine lv_istore_n (lv' := [(2, .int x_33), (3, .int 0), (0, .ref o), (1, .int tp), (4, .int x_5)]) hx hb dX12_heard_72 rfl hl (by decide) rfl (fun ls hl => ?_)
                refine ziinc3 (n' := 1) (a' := 1) (b' := 400) (lv' := fun v9 => [(4, .int v9), (2, .int x_33), (3, .int 0), (0, .ref o), (1, .int tp)]) hx hb dX12_heard_73 hl (k := 4) rfl (by decide) (fun _ => rfl) (zaddK (i := x_5.toInt) (j := 1) rfl (by decide) i8.1 n21 (Int.le_refl _) (Int.le_refl _) (by decide)) (fun x_34 ls hx_34 hl => ?_)
                refine lv_goto (tgt := 27) hx hb dX12_heard_76 (by decide) ?_
                have hl := lv_sub (l' := [(0, .ref o), (1, .int tp), (2, .int x_33), (3, .int 0), (4, .int x_34)]) hl [3, 4, 1, 2, 0] rfl
                have hL0 : (0 : Int32).toInt = 0 := by decide
                have hP : va_P g.1 vwCl (List.flatten [bMo g o a th hi ac 0 ba en tA fl de iD iO tU fm fk fa fc ft ff fb fi]) H := hP
                have hD : va_D A (List.flatten [bMo g o a th hi ac 0 ba en tA fl de iD iO tU fm fk fa fc ft ff fb fi]) := hD
                exact ih27_13 x_33 0 x_34 (by first | omega | assumption | decide) (by decide) ⟨(Int.le_trans (by decide) hx_34.2.1), hx_34.2.2⟩ (by first | omega | assumption | decide) (by first | omega | assumption | decide) (by first | omega | assumption | decide) H _ ls (zmK hx_34.1 (by decide) n21 (by decide) hk27_13)  hP hD hS (lv_sub hl [0, 1, 2, 3, 4] rfl)
              · skip
                have c35 : x_31.toInt = 1 := zeq cb9 rfl (by decide)
                have n36 : 1 ≤ x_31.toInt := Int.le_trans (Int.le_refl _) (Int.le_of_eq c35.symm)
                have n37 : x_31.toInt ≤ 1 := Int.le_trans (Int.le_of_eq c35) (Int.le_refl _)
                refine lv_iconst (v := 1) hx hb dX12_heard_66 (by decide) ?_
                refine lv_goto (tgt := 71) hx hb dX12_heard_67 (by decide) ?_
                refine lv_iadd hx hb dX12_heard_71 ?_
                refine zg3 (zaddK (i := x_3.toInt) (j := 1) (a' := (-399)) (b' := 401) rfl (by decide) i6.1 i6.2 (Int.le_refl _) (Int.le_refl _) (by decide)) (fun x_38 hx_38 => ?_)
                refine lv_istore_n (lv' := [(2, .int x_38), (3, .int 0), (0, .ref o), (1, .int tp), (4, .int x_5)]) hx hb dX12_heard_72 rfl hl (by decide) rfl (fun ls hl => ?_)
                refine ziinc3 (n' := 1) (a' := 1) (b' := 400) (lv' := fun v9 => [(4, .int v9), (2, .int x_38), (3, .int 0), (0, .ref o), (1, .int tp)]) hx hb dX12_heard_73 hl (k := 4) rfl (by decide) (fun _ => rfl) (zaddK (i := x_5.toInt) (j := 1) rfl (by decide) i8.1 n21 (Int.le_refl _) (Int.le_refl _) (by decide)) (fun x_39 ls hx_39 hl => ?_)
                refine lv_goto (tgt := 27) hx hb dX12_heard_76 (by decide) ?_
                have hl := lv_sub (l' := [(0, .ref o), (1, .int tp), (2, .int x_38), (3, .int 0), (4, .int x_39)]) hl [3, 4, 1, 2, 0] rfl
                have hL0 : (0 : Int32).toInt = 0 := by decide
                have hP : va_P g.1 vwCl (List.flatten [bMo g o a th hi ac 0 ba en tA fl de iD iO tU fm fk fa fc ft ff fb fi]) H := hP
                have hD : va_D A (List.flatten [bMo g o a th hi ac 0 ba en tA fl de iD iO tU fm fk fa fc ft ff fb fi]) := hD
                exact ih27_13 x_38 0 x_39 (by first | omega | assumption | decide) (by decide) ⟨(Int.le_trans (by decide) hx_39.2.1), hx_39.2.2⟩ (by first | omega | assumption | decide) (by first | omega | assumption | decide) (by first | omega | assumption | decide) H _ ls (zmK hx_39.1 (by decide) n21 (by decide) hk27_13)  hP hD hS (lv_sub hl [0, 1, 2, 3, 4] rfl)
            · skip
              have c40 : x_28.toInt < 2 := zlti (Int32.not_le.mp cb9) rfl (by decide)
              have n41 : x_28.toInt ≤ 1 := zL1 (b := 2) c40 (Int.le_refl _) (by decide)
              refine lv_iconst (v := 1) hx hb dX12_heard_48 (by decide) ?_
              refine lv_goto (tgt := 53) hx hb dX12_heard_49 (by decide) ?_
              refine lv_istore_n (lv' := [(3, .int 1), (0, .ref o), (1, .int tp), (2, .int x_3), (4, .int x_5)]) hx hb dX12_heard_53 rfl hl (by decide) rfl (fun ls hl => ?_)
              refine lv_iload_n hx hb dX12_heard_54 rfl (lv_at hl 3 rfl) ?_
              refine lv_aload_n hx hb dX12_heard_55 rfl (lv_at hl 1 rfl) ?_
              refine va_get (D := g.1) (ci := 10) (v := .ref (a 4)) (C := RX12) (T := TX12) (N := 20) hx hb hts izRX12 hown hK hP 0 rfl rfl 7 (by decide) (hts _ k819) (fun _ h9 => h9) rfl dX12_heard_56 ?_
              refine lv_iload hx hb dX12_heard_59 (lv_at hl 4 rfl) ?_
              refine va_iald hx hb hK hP 5 0 rfl rfl (zinK (a := 0) (b := 399) i8.1 n21 (by decide)) dX12_heard_61 ?_
              refine zg (fun x_42 => ?_)
              refine lv_iconst (v := 1) hx hb dX12_heard_62 (by decide) ?_
              refine lv_icmp_ne (tgt := 70) hx hb dX12_heard_63 (by decide) (fun cb9 => ?_) (fun cb9 => ?_)
              · skip
                have c43 : ¬ x_42.toInt = 1 := zne cb9 rfl (by decide)
                refine lv_iconst (v := (-1)) hx hb dX12_heard_70 (by decide) ?_
                refine lv_iadd hx hb dX12_heard_71 ?_
                refine zg3 (zaddK (i := x_3.toInt) (j := (-1)) (a' := (-401)) (b' := 399) rfl (by decide) i6.1 i6.2 (Int.le_refl _) (Int.le_refl _) (by decide)) (fun x_44 hx_44 => ?_)
                refine lv_istore_n (lv' := [(2, .int x_44), (3, .int 1), (0, .ref o), (1, .int tp), (4, .int x_5)]) hx hb dX12_heard_72 rfl hl (by decide) rfl (fun ls hl => ?_)
                refine ziinc3 (n' := 1) (a' := 1) (b' := 400) (lv' := fun v9 => [(4, .int v9), (2, .int x_44), (3, .int 1), (0, .ref o), (1, .int tp)]) hx hb dX12_heard_73 hl (k := 4) rfl (by decide) (fun _ => rfl) (zaddK (i := x_5.toInt) (j := 1) rfl (by decide) i8.1 n21 (Int.le_refl _) (Int.le_refl _) (by decide)) (fun x_45 ls hx_45 hl => ?_)
                refine lv_goto (tgt := 27) hx hb dX12_heard_76 (by decide) ?_
                have hl := lv_sub (l' := [(0, .ref o), (1, .int tp), (2, .int x_44), (3, .int 1), (4, .int x_45)]) hl [3, 4, 1, 2, 0] rfl
                have hL1 : (1 : Int32).toInt = 1 := by decide
                have hP : va_P g.1 vwCl (List.flatten [bMo g o a th hi ac 0 ba en tA fl de iD iO tU fm fk fa fc ft ff fb fi]) H := hP
                have hD : va_D A (List.flatten [bMo g o a th hi ac 0 ba en tA fl de iD iO tU fm fk fa fc ft ff fb fi]) := hD
                exact ih27_13 x_44 1 x_45 (by first | omega | assumption | decide) (by decide) ⟨(Int.le_trans (by decide) hx_45.2.1), hx_45.2.2⟩ (by first | omega | assumption | decide) (by first | omega | assumption | decide) (by first | omega | assumption | decide) H _ ls (zmK hx_45.1 (by decide) n21 (by decide) hk27_13)  hP hD hS (lv_sub hl [0, 1, 2, 3, 4] rfl)
              · skip
                have c46 : x_42.toInt = 1 := zeq cb9 rfl (by decide)
                have n47 : 1 ≤ x_42.toInt := Int.le_trans (Int.le_refl _) (Int.le_of_eq c46.symm)
                have n48 : x_42.toInt ≤ 1 := Int.le_trans (Int.le_of_eq c46) (Int.le_refl _)
                refine lv_iconst (v := 1) hx hb dX12_heard_66 (by decide) ?_
                refine lv_goto (tgt := 71) hx hb dX12_heard_67 (by decide) ?_
                refine lv_iadd hx hb dX12_heard_71 ?_
                refine zg3 (zaddK (i := x_3.toInt) (j := 1) (a' := (-399)) (b' := 401) rfl (by decide) i6.1 i6.2 (Int.le_refl _) (Int.le_refl _) (by decide)) (fun x_49 hx_49 => ?_)
                refine lv_istore_n (lv' := [(2, .int x_49), (3, .int 1), (0, .ref o), (1, .int tp), (4, .int x_5)]) hx hb dX12_heard_72 rfl hl (by decide) rfl (fun ls hl => ?_)
                refine ziinc3 (n' := 1) (a' := 1) (b' := 400) (lv' := fun v9 => [(4, .int v9), (2, .int x_49), (3, .int 1), (0, .ref o), (1, .int tp)]) hx hb dX12_heard_73 hl (k := 4) rfl (by decide) (fun _ => rfl) (zaddK (i := x_5.toInt) (j := 1) rfl (by decide) i8.1 n21 (Int.le_refl _) (Int.le_refl _) (by decide)) (fun x_50 ls hx_50 hl => ?_)
                refine lv_goto (tgt := 27) hx hb dX12_heard_76 (by decide) ?_
                have hl := lv_sub (l' := [(0, .ref o), (1, .int tp), (2, .int x_49), (3, .int 1), (4, .int x_50)]) hl [3, 4, 1, 2, 0] rfl
                have hL1 : (1 : Int32).toInt = 1 := by decide
                have hP : va_P g.1 vwCl (List.flatten [bMo g o a th hi ac 0 ba en tA fl de iD iO tU fm fk fa fc ft ff fb fi]) H := hP
                have hD : va_D A (List.flatten [bMo g o a th hi ac 0 ba en tA fl de iD iO tU fm fk fa fc ft ff fb fi]) := hD
                exact ih27_13 x_49 1 x_50 (by first | omega | assumption | decide) (by decide) ⟨(Int.le_trans (by decide) hx_50.2.1), hx_50.2.2⟩ (by first | omega | assumption | decide) (by first | omega | assumption | decide) (by first | omega | assumption | decide) H _ ls (zmK hx_50.1 (by decide) n21 (by decide) hk27_13)  hP hD hS (lv_sub hl [0, 1, 2, 3, 4] rfl)
    have hL0 : (0 : Int32).toInt = 0 := by decide
    have hP : va_P g.1 vwCl (List.flatten [bMo g o a th hi ac 0 ba en tA fl de iD iO tU fm fk fa fc ft ff fb fi]) H := hP
    have hD : va_D A (List.flatten [bMo g o a th hi ac 0 ba en tA fl de iD iO tU fm fk fa fc ft ff fb fi]) := hD
    exact LP27_12 _ 0 0 0 (by decide) (by decide) (by decide) (by first | omega | assumption | decide) (by first | omega | assumption | decide) (by first | omega | assumption | decide) H _ ls (Nat.lt_succ_self _)  hP hD hS (lv_sub hl [0, 1, 2, 3, 4] rfl)
  · skip
    have c51 : tp.toInt ≤ 12 := zle (Int32.not_lt.mp cb9) rfl (by decide)
    have n52 : tp.toInt ≤ 12 := Int.le_trans c51 (Int.le_refl _)
    refine lv_iconst (v := 1) hx hb dX12_heard_18 (by decide) ?_
    refine lv_goto (tgt := 23) hx hb dX12_heard_19 (by decide) ?_
    refine lv_istore_n (lv' := [(3, .int 1), (2, .int 0), (1, .int tp), (0, .ref o)]) hx hb dX12_heard_23 rfl hl (by decide) rfl (fun ls hl => ?_)
    refine lv_iconst (v := 0) hx hb dX12_heard_24 (by decide) ?_
    refine lv_istore (lv' := [(4, .int 0), (3, .int 1), (2, .int 0), (1, .int tp), (0, .ref o)]) hx hb dX12_heard_25 hl (by decide) rfl (fun ls hl => ?_)
    have hl := lv_sub (l' := [(0, .ref o), (1, .int tp), (2, .int 0), (3, .int 1), (4, .int 0)]) hl [4, 3, 2, 1, 0] rfl
    have LP27_62 : ∀ (kf : Nat) (x_53 : Int32) (x_54 : Int32) (x_55 : Int32), ((-400) ≤ x_53.toInt ∧ x_53.toInt ≤ 400) → (0 ≤ x_54.toInt ∧ x_54.toInt ≤ 1) → (0 ≤ x_55.toInt ∧ x_55.toInt ≤ 400) → ((-(x_55.toInt) ≤ x_53.toInt ∧ x_53.toInt ≤ x_55.toInt)) → (x_54.toInt = 0 ∨ tp.toInt ≤ 12) → (x_55.toInt ≤ tp.toInt) → ∀ (H : Heap) (locs : List Loc) (ls : Array Slot), ((401 - x_55.toInt).toNat) < kf → va_P g.1 vwCl (List.flatten [bMo g o a th hi ac 0 ba en tA fl de iD iO tU fm fk fa fc ft ff fb fi]) H → va_D A (List.flatten [bMo g o a th hi ac 0 ba en tA fl de iD iO tU fm fk fa fc ft ff fb fi]) → va_S A s.heap H locs → lv_has ls 5 [(0, .ref o), (1, .int tp), (2, .int x_53), (3, .int x_54), (4, .int x_55)] → W p l e ({ frames := 0, cells := 0, slots := 0, locals := 0 } : Room) s m args below meth c H locs (0) (0) (zF g (fun (q : Int32) => some (.int q)) (fun (q : Int32) => ((-12 ≤ q.toInt ∧ q.toInt ≤ 12) ∨ q.toInt = 100)) (fun (q : Int32) => [bMo g o a th hi ac 0 ba en tA fl de iD iO tU fm fk fa fc ft ff fb fi]) ({ frames := 0, cells := 0, slots := 0, locals := 0 } : Room) below args s A) (F0 m 27 ls []) := by
      intro kf
      induction kf with
      | zero => intro x_53 x_54 x_55 i56 i57 i58 i59 i60 i61 H locs ls hk; exact absurd hk (Nat.not_lt_zero _)
      | succ kf ih27_63 =>
        intro x_53 x_54 x_55 i56 i57 i58 i59 i60 i61 H locs ls hk27_63 hP hD hS hl
        refine lv_iload hx hb dX12_heard_27 (lv_at hl 4 rfl) ?_
        refine lv_iload_n hx hb dX12_heard_29 rfl (lv_at hl 1 rfl) ?_
        refine lv_icmp_ge (tgt := 79) hx hb dX12_heard_30 (by decide) (fun cb9 => ?_) (fun cb9 => ?_)
        · skip
          have c64 : tp.toInt ≤ x_55.toInt := zle cb9 rfl rfl
          refine lv_iload_n hx hb dX12_heard_79 rfl (lv_at hl 3 rfl) ?_
          refine lv_if_eq (tgt := 87) hx hb dX12_heard_80 (by decide) (fun cb9 => ?_) (fun cb9 => ?_)
          · skip
            have c65 : x_54.toInt = 0 := zeq cb9 rfl (by decide)
            have n66 : x_54.toInt ≤ 0 := Int.le_trans (Int.le_of_eq c65) (Int.le_refl _)
            refine lv_bipush (v := 100) hx hb dX12_heard_87 (by decide) ?_
            have hL100 : (100 : Int32).toInt = 100 := by decide
            have hP : va_P g.1 vwCl (List.flatten [bMo g o a th hi ac 0 ba en tA fl de iD iO tU fm fk fa fc ft ff fb fi]) H := hP
            have hD : va_D A (List.flatten [bMo g o a th hi ac 0 ba en tA fl de iD iO tU fm fk fa fc ft ff fb fi]) := hD
            exact mret_i hx hb hr hlocks hS (Nat.le_of_ble_eq_true rfl) (Nat.le_of_ble_eq_true rfl) dX12_heard_89 ((100 : Int32)) rfl (show ((-12 ≤ (100 : Int32).toInt ∧ (100 : Int32).toInt ≤ 12) ∨ (100 : Int32).toInt = 100) from (by first | assumption | omega | decide | exact rfl | exact zb01 (by omega) | exact Or.inl (by decide) | exact Or.inr (by first | omega | decide))) hP hD
          · skip
            have c67 : ¬ x_54.toInt = 0 := zne cb9 rfl (by decide)
            have n68 : 1 ≤ x_54.toInt := zN1 c67 i57.1 (by decide)
            refine lv_iload_n hx hb dX12_heard_83 rfl (lv_at hl 2 rfl) ?_
            refine lv_goto (tgt := 89) hx hb dX12_heard_84 (by decide) ?_
            have hP : va_P g.1 vwCl (List.flatten [bMo g o a th hi ac 0 ba en tA fl de iD iO tU fm fk fa fc ft ff fb fi]) H := hP
            have hD : va_D A (List.flatten [bMo g o a th hi ac 0 ba en tA fl de iD iO tU fm fk fa fc ft ff fb fi]) := hD
            exact mret_i hx hb hr hlocks hS (Nat.le_of_ble_eq_true rfl) (Nat.le_of_ble_eq_true rfl) dX12_heard_89 (x_53) rfl (show ((-12 ≤ x_53.toInt ∧ x_53.toInt ≤ 12) ∨ x_53.toInt = 100) from (by first | assumption | omega | decide | exact rfl | exact zb01 (by omega) | exact Or.inl (by decide) | exact Or.inr (by first | omega | decide))) hP hD
        · skip
          have c69 : x_55.toInt < tp.toInt := zlti (Int32.not_le.mp cb9) rfl rfl
          have n70 : x_55.toInt ≤ 11 := zL1 (b := 12) c69 n52 (by decide)
          have n71 : 1 ≤ tp.toInt := zL2 (a := 0) c69 i58.1 (by decide)
          refine lv_iload_n hx hb dX12_heard_33 rfl (lv_at hl 3 rfl) ?_
          refine lv_if_eq (tgt := 79) hx hb dX12_heard_34 (by decide) (fun cb9 => ?_) (fun cb9 => ?_)
          · skip
            have c72 : x_54.toInt = 0 := zeq cb9 rfl (by decide)
            have n73 : x_54.toInt ≤ 0 := Int.le_trans (Int.le_of_eq c72) (Int.le_refl _)
            refine lv_iload_n hx hb dX12_heard_79 rfl (lv_at hl 3 rfl) ?_
            refine lv_if_eq (tgt := 87) hx hb dX12_heard_80 (by decide) (fun cb9 => ?_) (fun cb9 => ?_)
            · skip
              have c74 : x_54.toInt = 0 := zeq cb9 rfl (by decide)
              refine lv_bipush (v := 100) hx hb dX12_heard_87 (by decide) ?_
              have hL100 : (100 : Int32).toInt = 100 := by decide
              have hP : va_P g.1 vwCl (List.flatten [bMo g o a th hi ac 0 ba en tA fl de iD iO tU fm fk fa fc ft ff fb fi]) H := hP
              have hD : va_D A (List.flatten [bMo g o a th hi ac 0 ba en tA fl de iD iO tU fm fk fa fc ft ff fb fi]) := hD
              exact mret_i hx hb hr hlocks hS (Nat.le_of_ble_eq_true rfl) (Nat.le_of_ble_eq_true rfl) dX12_heard_89 ((100 : Int32)) rfl (show ((-12 ≤ (100 : Int32).toInt ∧ (100 : Int32).toInt ≤ 12) ∨ (100 : Int32).toInt = 100) from (by first | assumption | omega | decide | exact rfl | exact zb01 (by omega) | exact Or.inl (by decide) | exact Or.inr (by first | omega | decide))) hP hD
            · skip
              exact absurd (show ¬ x_54.toInt = 0 from zne cb9 rfl (by decide)) (by omega)
          · skip
            have c76 : ¬ x_54.toInt = 0 := zne cb9 rfl (by decide)
            have n77 : 1 ≤ x_54.toInt := zN1 c76 i57.1 (by decide)
            refine lv_aload_n hx hb dX12_heard_37 rfl (lv_at hl 0 rfl) ?_
            refine va_get (D := g.1) (ci := 10) (v := .ref (a 4)) (C := RX12) (T := TX12) (N := 20) hx hb hts izRX12 hown hK hP 0 rfl rfl 7 (by decide) (hts _ k819) (fun _ h9 => h9) rfl dX12_heard_38 ?_
            refine lv_iload hx hb dX12_heard_41 (lv_at hl 4 rfl) ?_
            refine va_iald hx hb hK hP 5 0 rfl rfl (zinK (a := 0) (b := 11) i58.1 n70 (by decide)) dX12_heard_43 ?_
            refine zg (fun x_78 => ?_)
            refine lv_iconst (v := 2) hx hb dX12_heard_44 (by decide) ?_
            refine lv_icmp_ge (tgt := 52) hx hb dX12_heard_45 (by decide) (fun cb9 => ?_) (fun cb9 => ?_)
            · skip
              have c79 : 2 ≤ x_78.toInt := zle cb9 (by decide) rfl
              have n80 : 2 ≤ x_78.toInt := Int.le_trans (Int.le_refl _) c79
              refine lv_iconst (v := 0) hx hb dX12_heard_52 (by decide) ?_
              refine lv_istore_n (lv' := [(3, .int 0), (0, .ref o), (1, .int tp), (2, .int x_53), (4, .int x_55)]) hx hb dX12_heard_53 rfl hl (by decide) rfl (fun ls hl => ?_)
              refine lv_iload_n hx hb dX12_heard_54 rfl (lv_at hl 3 rfl) ?_
              refine lv_aload_n hx hb dX12_heard_55 rfl (lv_at hl 1 rfl) ?_
              refine va_get (D := g.1) (ci := 10) (v := .ref (a 4)) (C := RX12) (T := TX12) (N := 20) hx hb hts izRX12 hown hK hP 0 rfl rfl 7 (by decide) (hts _ k819) (fun _ h9 => h9) rfl dX12_heard_56 ?_
              refine lv_iload hx hb dX12_heard_59 (lv_at hl 4 rfl) ?_
              refine va_iald hx hb hK hP 5 0 rfl rfl (zinK (a := 0) (b := 11) i58.1 n70 (by decide)) dX12_heard_61 ?_
              refine zg (fun x_81 => ?_)
              refine lv_iconst (v := 1) hx hb dX12_heard_62 (by decide) ?_
              refine lv_icmp_ne (tgt := 70) hx hb dX12_heard_63 (by decide) (fun cb9 => ?_) (fun cb9 => ?_)
              · skip
                have c82 : ¬ x_81.toInt = 1 := zne cb9 rfl (by decide)
                refine lv_iconst (v := (-1)) hx hb dX12_heard_70 (by decide) ?_
                refine lv_iadd hx hb dX12_heard_71 ?_
                refine zg3 (zaddK (i := x_53.toInt) (j := (-1)) (a' := (-401)) (b' := 399) rfl (by decide) i56.1 i56.2 (Int.le_refl _) (Int.le_refl _) (by decide)) (fun x_83 hx_83 => ?_)
                refine lv_istore_n (lv' := [(2, .int x_83), (3, .int 0), (0, .ref o), (1, .int tp), (4, .int x_55)]) hx hb dX12_heard_72 rfl hl (by decide) rfl (fun ls hl => ?_)
                refine ziinc3 (n' := 1) (a' := 1) (b' := 12) (lv' := fun v9 => [(4, .int v9), (2, .int x_83), (3, .int 0), (0, .ref o), (1, .int tp)]) hx hb dX12_heard_73 hl (k := 4) rfl (by decide) (fun _ => rfl) (zaddK (i := x_55.toInt) (j := 1) rfl (by decide) i58.1 n70 (Int.le_refl _) (Int.le_refl _) (by decide)) (fun x_84 ls hx_84 hl => ?_)
                refine lv_goto (tgt := 27) hx hb dX12_heard_76 (by decide) ?_
                have hl := lv_sub (l' := [(0, .ref o), (1, .int tp), (2, .int x_83), (3, .int 0), (4, .int x_84)]) hl [3, 4, 1, 2, 0] rfl
                have hL0 : (0 : Int32).toInt = 0 := by decide
                have hP : va_P g.1 vwCl (List.flatten [bMo g o a th hi ac 0 ba en tA fl de iD iO tU fm fk fa fc ft ff fb fi]) H := hP
                have hD : va_D A (List.flatten [bMo g o a th hi ac 0 ba en tA fl de iD iO tU fm fk fa fc ft ff fb fi]) := hD
                exact ih27_63 x_83 0 x_84 (by first | omega | assumption | decide) (by decide) ⟨(Int.le_trans (by decide) hx_84.2.1), (Int.le_trans hx_84.2.2 (by decide))⟩ (by first | omega | assumption | decide) (by first | omega | assumption | decide) (by first | omega | assumption | decide) H _ ls (zmK hx_84.1 (by decide) n70 (by decide) hk27_63)  hP hD hS (lv_sub hl [0, 1, 2, 3, 4] rfl)
              · skip
                have c85 : x_81.toInt = 1 := zeq cb9 rfl (by decide)
                have n86 : 1 ≤ x_81.toInt := Int.le_trans (Int.le_refl _) (Int.le_of_eq c85.symm)
                have n87 : x_81.toInt ≤ 1 := Int.le_trans (Int.le_of_eq c85) (Int.le_refl _)
                refine lv_iconst (v := 1) hx hb dX12_heard_66 (by decide) ?_
                refine lv_goto (tgt := 71) hx hb dX12_heard_67 (by decide) ?_
                refine lv_iadd hx hb dX12_heard_71 ?_
                refine zg3 (zaddK (i := x_53.toInt) (j := 1) (a' := (-399)) (b' := 401) rfl (by decide) i56.1 i56.2 (Int.le_refl _) (Int.le_refl _) (by decide)) (fun x_88 hx_88 => ?_)
                refine lv_istore_n (lv' := [(2, .int x_88), (3, .int 0), (0, .ref o), (1, .int tp), (4, .int x_55)]) hx hb dX12_heard_72 rfl hl (by decide) rfl (fun ls hl => ?_)
                refine ziinc3 (n' := 1) (a' := 1) (b' := 12) (lv' := fun v9 => [(4, .int v9), (2, .int x_88), (3, .int 0), (0, .ref o), (1, .int tp)]) hx hb dX12_heard_73 hl (k := 4) rfl (by decide) (fun _ => rfl) (zaddK (i := x_55.toInt) (j := 1) rfl (by decide) i58.1 n70 (Int.le_refl _) (Int.le_refl _) (by decide)) (fun x_89 ls hx_89 hl => ?_)
                refine lv_goto (tgt := 27) hx hb dX12_heard_76 (by decide) ?_
                have hl := lv_sub (l' := [(0, .ref o), (1, .int tp), (2, .int x_88), (3, .int 0), (4, .int x_89)]) hl [3, 4, 1, 2, 0] rfl
                have hL0 : (0 : Int32).toInt = 0 := by decide
                have hP : va_P g.1 vwCl (List.flatten [bMo g o a th hi ac 0 ba en tA fl de iD iO tU fm fk fa fc ft ff fb fi]) H := hP
                have hD : va_D A (List.flatten [bMo g o a th hi ac 0 ba en tA fl de iD iO tU fm fk fa fc ft ff fb fi]) := hD
                exact ih27_63 x_88 0 x_89 (by first | omega | assumption | decide) (by decide) ⟨(Int.le_trans (by decide) hx_89.2.1), (Int.le_trans hx_89.2.2 (by decide))⟩ (by first | omega | assumption | decide) (by first | omega | assumption | decide) (by first | omega | assumption | decide) H _ ls (zmK hx_89.1 (by decide) n70 (by decide) hk27_63)  hP hD hS (lv_sub hl [0, 1, 2, 3, 4] rfl)
            · skip
              have c90 : x_78.toInt < 2 := zlti (Int32.not_le.mp cb9) rfl (by decide)
              have n91 : x_78.toInt ≤ 1 := zL1 (b := 2) c90 (Int.le_refl _) (by decide)
              refine lv_iconst (v := 1) hx hb dX12_heard_48 (by decide) ?_
              refine lv_goto (tgt := 53) hx hb dX12_heard_49 (by decide) ?_
              refine lv_istore_n (lv' := [(3, .int 1), (0, .ref o), (1, .int tp), (2, .int x_53), (4, .int x_55)]) hx hb dX12_heard_53 rfl hl (by decide) rfl (fun ls hl => ?_)
              refine lv_iload_n hx hb dX12_heard_54 rfl (lv_at hl 3 rfl) ?_
              refine lv_aload_n hx hb dX12_heard_55 rfl (lv_at hl 1 rfl) ?_
              refine va_get (D := g.1) (ci := 10) (v := .ref (a 4)) (C := RX12) (T := TX12) (N := 20) hx hb hts izRX12 hown hK hP 0 rfl rfl 7 (by decide) (hts _ k819) (fun _ h9 => h9) rfl dX12_heard_56 ?_
              refine lv_iload hx hb dX12_heard_59 (lv_at hl 4 rfl) ?_
              refine va_iald hx hb hK hP 5 0 rfl rfl (zinK (a := 0) (b := 11) i58.1 n70 (by decide)) dX12_heard_61 ?_
              refine zg (fun x_92 => ?_)
              refine lv_iconst (v := 1) hx hb dX12_heard_62 (by decide) ?_
              refine lv_icmp_ne (tgt := 70) hx hb dX12_heard_63 (by decide) (fun cb9 => ?_) (fun cb9 => ?_)
              · skip
                have c93 : ¬ x_92.toInt = 1 := zne cb9 rfl (by decide)
                refine lv_iconst (v := (-1)) hx hb dX12_heard_70 (by decide) ?_
                refine lv_iadd hx hb dX12_heard_71 ?_
                refine zg3 (zaddK (i := x_53.toInt) (j := (-1)) (a' := (-401)) (b' := 399) rfl (by decide) i56.1 i56.2 (Int.le_refl _) (Int.le_refl _) (by decide)) (fun x_94 hx_94 => ?_)
                refine lv_istore_n (lv' := [(2, .int x_94), (3, .int 1), (0, .ref o), (1, .int tp), (4, .int x_55)]) hx hb dX12_heard_72 rfl hl (by decide) rfl (fun ls hl => ?_)
                refine ziinc3 (n' := 1) (a' := 1) (b' := 12) (lv' := fun v9 => [(4, .int v9), (2, .int x_94), (3, .int 1), (0, .ref o), (1, .int tp)]) hx hb dX12_heard_73 hl (k := 4) rfl (by decide) (fun _ => rfl) (zaddK (i := x_55.toInt) (j := 1) rfl (by decide) i58.1 n70 (Int.le_refl _) (Int.le_refl _) (by decide)) (fun x_95 ls hx_95 hl => ?_)
                refine lv_goto (tgt := 27) hx hb dX12_heard_76 (by decide) ?_
                have hl := lv_sub (l' := [(0, .ref o), (1, .int tp), (2, .int x_94), (3, .int 1), (4, .int x_95)]) hl [3, 4, 1, 2, 0] rfl
                have hL1 : (1 : Int32).toInt = 1 := by decide
                have hP : va_P g.1 vwCl (List.flatten [bMo g o a th hi ac 0 ba en tA fl de iD iO tU fm fk fa fc ft ff fb fi]) H := hP
                have hD : va_D A (List.flatten [bMo g o a th hi ac 0 ba en tA fl de iD iO tU fm fk fa fc ft ff fb fi]) := hD
                exact ih27_63 x_94 1 x_95 (by first | omega | assumption | decide) (by decide) ⟨(Int.le_trans (by decide) hx_95.2.1), (Int.le_trans hx_95.2.2 (by decide))⟩ (by first | omega | assumption | decide) (by first | omega | assumption | decide) (by first | omega | assumption | decide) H _ ls (zmK hx_95.1 (by decide) n70 (by decide) hk27_63)  hP hD hS (lv_sub hl [0, 1, 2, 3, 4] rfl)
              · skip
                have c96 : x_92.toInt = 1 := zeq cb9 rfl (by decide)
                have n97 : 1 ≤ x_92.toInt := Int.le_trans (Int.le_refl _) (Int.le_of_eq c96.symm)
                have n98 : x_92.toInt ≤ 1 := Int.le_trans (Int.le_of_eq c96) (Int.le_refl _)
                refine lv_iconst (v := 1) hx hb dX12_heard_66 (by decide) ?_
                refine lv_goto (tgt := 71) hx hb dX12_heard_67 (by decide) ?_
                refine lv_iadd hx hb dX12_heard_71 ?_
                refine zg3 (zaddK (i := x_53.toInt) (j := 1) (a' := (-399)) (b' := 401) rfl (by decide) i56.1 i56.2 (Int.le_refl _) (Int.le_refl _) (by decide)) (fun x_99 hx_99 => ?_)
                refine lv_istore_n (lv' := [(2, .int x_99), (3, .int 1), (0, .ref o), (1, .int tp), (4, .int x_55)]) hx hb dX12_heard_72 rfl hl (by decide) rfl (fun ls hl => ?_)
                refine ziinc3 (n' := 1) (a' := 1) (b' := 12) (lv' := fun v9 => [(4, .int v9), (2, .int x_99), (3, .int 1), (0, .ref o), (1, .int tp)]) hx hb dX12_heard_73 hl (k := 4) rfl (by decide) (fun _ => rfl) (zaddK (i := x_55.toInt) (j := 1) rfl (by decide) i58.1 n70 (Int.le_refl _) (Int.le_refl _) (by decide)) (fun x_100 ls hx_100 hl => ?_)
                refine lv_goto (tgt := 27) hx hb dX12_heard_76 (by decide) ?_
                have hl := lv_sub (l' := [(0, .ref o), (1, .int tp), (2, .int x_99), (3, .int 1), (4, .int x_100)]) hl [3, 4, 1, 2, 0] rfl
                have hL1 : (1 : Int32).toInt = 1 := by decide
                have hP : va_P g.1 vwCl (List.flatten [bMo g o a th hi ac 0 ba en tA fl de iD iO tU fm fk fa fc ft ff fb fi]) H := hP
                have hD : va_D A (List.flatten [bMo g o a th hi ac 0 ba en tA fl de iD iO tU fm fk fa fc ft ff fb fi]) := hD
                exact ih27_63 x_99 1 x_100 (by first | omega | assumption | decide) (by decide) ⟨(Int.le_trans (by decide) hx_100.2.1), (Int.le_trans hx_100.2.2 (by decide))⟩ (by first | omega | assumption | decide) (by first | omega | assumption | decide) (by first | omega | assumption | decide) H _ ls (zmK hx_100.1 (by decide) n70 (by decide) hk27_63)  hP hD hS (lv_sub hl [0, 1, 2, 3, 4] rfl)
    have hL0 : (0 : Int32).toInt = 0 := by decide
    have hL1 : (1 : Int32).toInt = 1 := by decide
    have hP : va_P g.1 vwCl (List.flatten [bMo g o a th hi ac 0 ba en tA fl de iD iO tU fm fk fa fc ft ff fb fi]) H := hP
    have hD : va_D A (List.flatten [bMo g o a th hi ac 0 ba en tA fl de iD iO tU fm fk fa fc ft ff fb fi]) := hD
    exact LP27_62 _ 0 1 0 (by decide) (by decide) (by decide) (by first | omega | assumption | decide) (by first | omega | assumption | decide) (by first | omega | assumption | decide) H _ ls (Nat.lt_succ_self _)  hP hD hS (lv_sub hl [0, 1, 2, 3, 4] rfl)
