set_option maxRecDepth 100000 in
set_option maxHeartbeats 4000000 in
theorem c_keepWorksNF (l : Launch) (g : zG) (o : Nat) (a : Nat → Nat) (pe : Int32) (wo : Int32) (tx : Int32) (ch : Int32) (jo : Int32) (tr : Int32) (dy : Int32) (sd : Int32) (f : Nat → Nat → Int32) (b_pe : 0 ≤ pe.toInt ∧ pe.toInt ≤ 8) (b_wo : 0 ≤ wo.toInt ∧ wo.toInt ≤ 6) (rf : zZ4 f) : zM' g l yX9_keepWorks (Cond.code yX9_keepWorks cX9_keepWorks 5 (some .int) :: zB) ({ frames := 2, cells := 0, slots := 0, locals := 43 } : Room) [.ref o, .null] [bTown g o a pe wo tx ch jo tr dy sd f] (fun u : Int32 × (Nat → Nat → Int32) × Int32 => (fun (ch2 : Int32) (f2 : Nat → Nat → Int32) (q : Int32) => some (.int q)) (u.1) (u.2.1) (u.2.2)) (fun u : Int32 × (Nat → Nat → Int32) × Int32 => (fun (ch2 : Int32) (f2 : Nat → Nat → Int32) (q : Int32) => (zZ4 f2) ∧ ((ch2, f2, q) = zIt (zKW1 (zBel f pe.toInt.toNat)) (ch, f, 0) wo.toInt.toNat)) (u.1) (u.2.1) (u.2.2)) (fun u : Int32 × (Nat → Nat → Int32) × Int32 => (fun (ch2 : Int32) (f2 : Nat → Nat → Int32) (q : Int32) => [bTown g o a pe wo tx ch2 jo tr dy sd f2]) (u.1) (u.2.1) (u.2.2)) := by
  refine zM'.of (cc := cX9_keepWorks) (maxL := 5) (rt := (some .int)) (by decide) rfl (Nat.le_of_ble_eq_true rfl) ?_
  intro p e s m args below meth c A ls St hr hlocks hin hK hT hA hP hD hS hl
  obtain ⟨hx, hb, hml, hown, hts⟩ := id St
  have hl : lv_has ls 5 [(0, .ref o), (1, .null)] := hl
  refine lv_aload_n hx hb dX9_keepWorks_0 rfl (lv_at hl 0 rfl) ?_
  refine mcallV' (g := g) (q0 := 0) (ci := 7) (As := []) (rest := []) St hK hT hA hP hD hS hl.1 [0] [] rfl rfl rfl (c_believedF l g o a pe wo tx ch jo tr dy sd f b_pe b_wo rf) (cwV 0 hts (zgL (zl4 k68 k69 k70 k24) k60) rfl rfl rfl (by decide +kernel) ⟨Nat.le_of_ble_eq_true rfl, Nat.le_of_ble_eq_true rfl⟩) rfl rfl rfl rfl (Nat.le_of_ble_eq_true rfl) dX9_keepWorks_1 ⟨(Nat.le_of_ble_eq_true rfl), (Nat.le_of_ble_eq_true rfl)⟩ (fun _u H locs hq1 hP hD hS => ?_)
  have hP : va_P g.1 vwCl (List.flatten [bTown g o a pe wo tx ch jo tr dy sd f]) H := hP
  have hD : va_D A (List.flatten [bTown g o a pe wo tx ch jo tr dy sd f]) := hD
  refine W.widen (k := 0) (n := 0) (Nat.le_of_ble_eq_true rfl) (Nat.le_of_ble_eq_true rfl) ?_
  refine W.eq (g2 := F0 m 4 ls [.int (zBel f pe.toInt.toNat)]) rfl ?_
  refine lv_istore_n (lv' := [(2, .int (zBel f pe.toInt.toNat)), (0, .ref o), (1, .null)]) hx hb dX9_keepWorks_4 rfl hl (by decide) rfl (fun ls hl => ?_)
  refine lv_iconst (v := 0) hx hb dX9_keepWorks_5 (by decide) ?_
  refine lv_istore_n (lv' := [(3, .int 0), (2, .int (zBel f pe.toInt.toNat)), (0, .ref o), (1, .null)]) hx hb dX9_keepWorks_6 rfl hl (by decide) rfl (fun ls hl => ?_)
  refine lv_iconst (v := 0) hx hb dX9_keepWorks_7 (by decide) ?_
  refine lv_istore (lv' := [(4, .int 0), (3, .int 0), (2, .int (zBel f pe.toInt.toNat)), (0, .ref o), (1, .null)]) hx hb dX9_keepWorks_8 hl (by decide) rfl (fun ls hl => ?_)
  have hl := lv_sub (l' := [(0, .ref o), (1, .null), (2, .int (zBel f pe.toInt.toNat)), (3, .int 0), (4, .int 0)]) hl [3, 4, 2, 1, 0] rfl
  have LP10_9 : ∀ (kf : Nat) (x_2 : Int32) (x_3 : Int32) (x_4 : Int32) (f_5 : Nat → Nat → Int32), (0 ≤ x_3.toInt ∧ x_3.toInt ≤ 6) → (zZ4 f_5) → ((x_4, f_5, x_2) = zIt (zKW1 (zBel f pe.toInt.toNat)) (ch, f, 0) x_3.toInt.toNat) → (x_3.toInt ≤ wo.toInt) → ∀ (H : Heap) (locs : List Loc) (ls : Array Slot), ((7 - x_3.toInt).toNat) < kf → va_P g.1 vwCl (List.flatten [bTown g o a pe wo tx x_4 jo tr dy sd f_5]) H → va_D A (List.flatten [bTown g o a pe wo tx x_4 jo tr dy sd f_5]) → va_S A s.heap H locs → lv_has ls 5 [(0, .ref o), (1, .null), (2, .int (zBel f pe.toInt.toNat)), (3, .int x_2), (4, .int x_3)] → W p l e ({ frames := 2, cells := 0, slots := 0, locals := 43 } : Room) s m args below meth c H locs (0) (0) (zF g (fun u : Int32 × (Nat → Nat → Int32) × Int32 => (fun (ch2 : Int32) (f2 : Nat → Nat → Int32) (q : Int32) => some (.int q)) (u.1) (u.2.1) (u.2.2)) (fun u : Int32 × (Nat → Nat → Int32) × Int32 => (fun (ch2 : Int32) (f2 : Nat → Nat → Int32) (q : Int32) => (zZ4 f2) ∧ ((ch2, f2, q) = zIt (zKW1 (zBel f pe.toInt.toNat)) (ch, f, 0) wo.toInt.toNat)) (u.1) (u.2.1) (u.2.2)) (fun u : Int32 × (Nat → Nat → Int32) × Int32 => (fun (ch2 : Int32) (f2 : Nat → Nat → Int32) (q : Int32) => [bTown g o a pe wo tx ch2 jo tr dy sd f2]) (u.1) (u.2.1) (u.2.2)) ({ frames := 2, cells := 0, slots := 0, locals := 43 } : Room) below args s A) (F0 m 10 ls []) := by
    intro kf
    induction kf with
    | zero => intro x_2 x_3 x_4 f_5 i6 rf_5 i7 i8 H locs ls hk; exact absurd hk (Nat.not_lt_zero _)
    | succ kf ih10_10 =>
      intro x_2 x_3 x_4 f_5 i6 rf_5 i7 i8 H locs ls hk10_10 hP hD hS hl
      refine lv_iload hx hb dX9_keepWorks_10 (lv_at hl 4 rfl) ?_
      refine lv_aload_n hx hb dX9_keepWorks_12 rfl (lv_at hl 0 rfl) ?_
      refine va_get (D := g.1) (ci := 7) (v := .int wo) (C := RX9) (T := TX9) (N := 19) hx hb hts izRX9 hown hK hP 0 rfl rfl 1 (by decide) (hts _ k32) (fun _ h9 => h9) rfl dX9_keepWorks_13 ?_
      refine lv_icmp_ge (tgt := 172) hx hb dX9_keepWorks_16 (by decide) (fun cb9 => ?_) (fun cb9 => ?_)
      · skip
        have c11 : wo.toInt ≤ x_3.toInt := zle cb9 rfl rfl
        refine lv_iload_n hx hb dX9_keepWorks_172 rfl (lv_at hl 3 rfl) ?_
        have hP : va_P g.1 vwCl (List.flatten [bTown g o a pe wo tx x_4 jo tr dy sd f_5]) H := hP
        have hD : va_D A (List.flatten [bTown g o a pe wo tx x_4 jo tr dy sd f_5]) := hD
        exact mret_i hx hb hr hlocks hS (Nat.le_of_ble_eq_true rfl) (Nat.le_of_ble_eq_true rfl) dX9_keepWorks_173 (x_4, f_5, x_2) rfl (show (zZ4 f_5) ∧ ((x_4, f_5, x_2) = zIt (zKW1 (zBel f pe.toInt.toNat)) (ch, f, 0) wo.toInt.toNat) from ⟨(by first | assumption | omega), (zIt_x i7 (by omega))⟩) hP hD
      · skip
        have c12 : x_3.toInt < wo.toInt := zlti (Int32.not_le.mp cb9) rfl rfl
        have n13 : x_3.toInt ≤ 5 := zL1 (b := 6) c12 b_wo.2 (by decide)
        have n14 : 1 ≤ wo.toInt := zL2 (a := 0) c12 i6.1 (by decide)
        refine lv_aload_n hx hb dX9_keepWorks_19 rfl (lv_at hl 0 rfl) ?_
        refine va_get (D := g.1) (ci := 7) (v := .ref (a 9)) (C := RX9) (T := TX9) (N := 19) hx hb hts izRX9 hown hK hP 0 rfl rfl 17 (by decide) (hts _ k19) (fun _ h9 => h9) rfl dX9_keepWorks_20 ?_
        refine lv_iload hx hb dX9_keepWorks_23 (lv_at hl 4 rfl) ?_
        refine va_iald hx hb hK hP 10 0 rfl rfl (zinK (a := 0) (b := 5) i6.1 n13 (by decide)) dX9_keepWorks_25 ?_
        refine ztop (r := (f_5 9 x_3.toInt.toNat)) rfl ?_
        refine lv_if_ne (tgt := 89) hx hb dX9_keepWorks_26 (by decide) (fun cb9 => ?_) (fun cb9 => ?_)
        · skip
          have c15 : ¬ (f_5 9 x_3.toInt.toNat).toInt = 0 := zne cb9 rfl (by decide)
          refine lv_aload_n hx hb dX9_keepWorks_89 rfl (lv_at hl 0 rfl) ?_
          refine va_get (D := g.1) (ci := 7) (v := .ref (a 9)) (C := RX9) (T := TX9) (N := 19) hx hb hts izRX9 hown hK hP 0 rfl rfl 17 (by decide) (hts _ k19) (fun _ h9 => h9) rfl dX9_keepWorks_90 ?_
          refine lv_iload hx hb dX9_keepWorks_93 (lv_at hl 4 rfl) ?_
          refine va_iald hx hb hK hP 10 0 rfl rfl (zinK (a := 0) (b := 5) i6.1 n13 (by decide)) dX9_keepWorks_95 ?_
          refine ztop (r := (f_5 9 x_3.toInt.toNat)) rfl ?_
          refine lv_iconst (v := 1) hx hb dX9_keepWorks_96 (by decide) ?_
          refine lv_icmp_ne (tgt := 133) hx hb dX9_keepWorks_97 (by decide) (fun cb9 => ?_) (fun cb9 => ?_)
          · skip
            have c16 : ¬ (f_5 9 x_3.toInt.toNat).toInt = 1 := zne cb9 rfl (by decide)
            refine lv_aload_n hx hb dX9_keepWorks_133 rfl (lv_at hl 0 rfl) ?_
            refine va_get (D := g.1) (ci := 7) (v := .ref (a 9)) (C := RX9) (T := TX9) (N := 19) hx hb hts izRX9 hown hK hP 0 rfl rfl 17 (by decide) (hts _ k19) (fun _ h9 => h9) rfl dX9_keepWorks_134 ?_
            refine lv_iload hx hb dX9_keepWorks_137 (lv_at hl 4 rfl) ?_
            refine va_iald hx hb hK hP 10 0 rfl rfl (zinK (a := 0) (b := 5) i6.1 n13 (by decide)) dX9_keepWorks_139 ?_
            refine ztop (r := (f_5 9 x_3.toInt.toNat)) rfl ?_
            refine lv_iconst (v := 1) hx hb dX9_keepWorks_140 (by decide) ?_
            refine lv_icmp_ne (tgt := 166) hx hb dX9_keepWorks_141 (by decide) (fun cb9 => ?_) (fun cb9 => ?_)
            · skip
              have c17 : ¬ (f_5 9 x_3.toInt.toNat).toInt = 1 := zne cb9 rfl (by decide)
              refine ziinc3 (n' := 1) (a' := 1) (b' := 6) (lv' := fun v9 => [(4, .int v9), (0, .ref o), (1, .null), (2, .int (zBel f pe.toInt.toNat)), (3, .int x_2)]) hx hb dX9_keepWorks_166 hl (k := 4) rfl (by decide) (fun _ => rfl) (zaddK (i := x_3.toInt) (j := 1) rfl (by decide) i6.1 n13 (Int.le_refl _) (Int.le_refl _) (by decide)) (fun x_18 ls hx_18 hl => ?_)
              refine lv_goto (tgt := 10) hx hb dX9_keepWorks_169 (by decide) ?_
              have hl := lv_sub (l' := [(0, .ref o), (1, .null), (2, .int (zBel f pe.toInt.toNat)), (3, .int x_2), (4, .int x_18)]) hl [1, 2, 3, 4, 0] rfl
              have hP : va_P g.1 vwCl (List.flatten [bTown g o a pe wo tx x_4 jo tr dy sd f_5]) H := hP
              have hD : va_D A (List.flatten [bTown g o a pe wo tx x_4 jo tr dy sd f_5]) := hD
              exact ih10_10 x_2 x_18 x_4 f_5 ⟨(Int.le_trans (by decide) hx_18.2.1), hx_18.2.2⟩ rf_5 (zIt_s i7 hx_18.1 (by omega) (zKn (by omega) (by omega))) (by first | omega | assumption | decide) H _ ls (zmK hx_18.1 (by decide) n13 (by decide) hk10_10)  hP hD hS (lv_sub hl [0, 1, 2, 3, 4] rfl)
            · skip
              have c19 : (f_5 9 x_3.toInt.toNat).toInt = 1 := zeq cb9 rfl (by decide)
              have n20 : 1 ≤ (f_5 9 x_3.toInt.toNat).toInt := Int.le_trans (Int.le_refl _) (Int.le_of_eq c19.symm)
              have n21 : (f_5 9 x_3.toInt.toNat).toInt ≤ 1 := Int.le_trans (Int.le_of_eq c19) (Int.le_refl _)
              refine lv_aload_n hx hb dX9_keepWorks_144 rfl (lv_at hl 0 rfl) ?_
              refine lv_sipush (v := 9999) hx hb dX9_keepWorks_145 (by decide) ?_
              refine lv_aload_n hx hb dX9_keepWorks_148 rfl (lv_at hl 0 rfl) ?_
              refine va_get (D := g.1) (ci := 7) (v := .int x_4) (C := RX9) (T := TX9) (N := 19) hx hb hts izRX9 hown hK hP 0 rfl rfl 3 (by decide) (hts _ k4) (fun _ h9 => h9) rfl dX9_keepWorks_149 ?_
              refine lv_aload_n hx hb dX9_keepWorks_152 rfl (lv_at hl 0 rfl) ?_
              refine va_get (D := g.1) (ci := 7) (v := .ref (a 8)) (C := RX9) (T := TX9) (N := 19) hx hb hts izRX9 hown hK hP 0 rfl rfl 16 (by decide) (hts _ k18) (fun _ h9 => h9) rfl dX9_keepWorks_153 ?_
              refine lv_iload hx hb dX9_keepWorks_156 (lv_at hl 4 rfl) ?_
              refine va_iald hx hb hK hP 9 0 rfl rfl (zinK (a := 0) (b := 5) i6.1 n13 (by decide)) dX9_keepWorks_158 ?_
              refine ztop (r := (f_5 8 x_3.toInt.toNat)) rfl ?_
              refine lv_iadd hx hb dX9_keepWorks_159 ?_
              refine va_mmin hx hb (by rw [hml]; exact hl.1.symm) hown (hts _ k40) (hts _ k41) (hts _ k42) (hts _ k43) (Nat.le_of_ble_eq_true rfl) (Nat.le_of_ble_eq_true rfl) (Nat.le_of_ble_eq_true rfl) (Nat.le_of_ble_eq_true rfl) dX9_keepWorks_160 ?_
              refine ztop (r := (zCap (x_4 + (f_5 8 x_3.toInt.toNat)))) (zCap_m _) ?_
              refine va_put (D := g.1) (ci := 7) (v := .int (zCap (x_4 + (f_5 8 x_3.toInt.toNat)))) (ty := .int) (C := RX9) (T := TX9) (N := 19) hx hb hts izRX9 tyX9 tyX9_ok nmX9 hown hK hP hD hS 0 rfl rfl 3 (by decide) (hts _ k4) (fun _ h9 => h9) rfl (by decide +kernel) rfl rfl (Nat.le_of_ble_eq_true rfl) dX9_keepWorks_163 (fun H locs hP hD hS => ?_)
              have hP : va_P g.1 vwCl (List.flatten [bTown g o a pe wo tx (zCap (x_4 + (f_5 8 x_3.toInt.toNat))) jo tr dy sd f_5]) H := hP
              have hD : va_D A (List.flatten [bTown g o a pe wo tx (zCap (x_4 + (f_5 8 x_3.toInt.toNat))) jo tr dy sd f_5]) := hD
              refine ziinc3 (n' := 1) (a' := 1) (b' := 6) (lv' := fun v9 => [(4, .int v9), (0, .ref o), (1, .null), (2, .int (zBel f pe.toInt.toNat)), (3, .int x_2)]) hx hb dX9_keepWorks_166 hl (k := 4) rfl (by decide) (fun _ => rfl) (zaddK (i := x_3.toInt) (j := 1) rfl (by decide) i6.1 n13 (Int.le_refl _) (Int.le_refl _) (by decide)) (fun x_22 ls hx_22 hl => ?_)
              refine lv_goto (tgt := 10) hx hb dX9_keepWorks_169 (by decide) ?_
              have hl := lv_sub (l' := [(0, .ref o), (1, .null), (2, .int (zBel f pe.toInt.toNat)), (3, .int x_2), (4, .int x_22)]) hl [1, 2, 3, 4, 0] rfl
              have hP : va_P g.1 vwCl (List.flatten [bTown g o a pe wo tx (zCap (x_4 + (f_5 8 x_3.toInt.toNat))) jo tr dy sd f_5]) H := hP
              have hD : va_D A (List.flatten [bTown g o a pe wo tx (zCap (x_4 + (f_5 8 x_3.toInt.toNat))) jo tr dy sd f_5]) := hD
              exact ih10_10 x_2 x_22 (zCap (x_4 + (f_5 8 x_3.toInt.toNat))) f_5 ⟨(Int.le_trans (by decide) hx_22.2.1), hx_22.2.2⟩ rf_5 (zIt_s i7 hx_22.1 (by omega) (zKc (by omega) (by omega))) (by first | omega | assumption | decide) H _ ls (zmK hx_22.1 (by decide) n13 (by decide) hk10_10)  hP hD hS (lv_sub hl [0, 1, 2, 3, 4] rfl)
          · skip
            have c23 : (f_5 9 x_3.toInt.toNat).toInt = 1 := zeq cb9 rfl (by decide)
            have n24 : 1 ≤ (f_5 9 x_3.toInt.toNat).toInt := Int.le_trans (Int.le_refl _) (Int.le_of_eq c23.symm)
            have n25 : (f_5 9 x_3.toInt.toNat).toInt ≤ 1 := Int.le_trans (Int.le_of_eq c23) (Int.le_refl _)
            refine lv_iload_n hx hb dX9_keepWorks_100 rfl (lv_at hl 2 rfl) ?_
            refine lv_aload_n hx hb dX9_keepWorks_101 rfl (lv_at hl 0 rfl) ?_
            refine va_get (D := g.1) (ci := 7) (v := .ref (a 7)) (C := RX9) (T := TX9) (N := 19) hx hb hts izRX9 hown hK hP 0 rfl rfl 15 (by decide) (hts _ k17) (fun _ h9 => h9) rfl dX9_keepWorks_102 ?_
            refine lv_iload hx hb dX9_keepWorks_105 (lv_at hl 4 rfl) ?_
            refine va_iald hx hb hK hP 8 0 rfl rfl (zinK (a := 0) (b := 5) i6.1 n13 (by decide)) dX9_keepWorks_107 ?_
            refine ztop (r := (f_5 7 x_3.toInt.toNat)) rfl ?_
            refine lv_icmp_ge (tgt := 133) hx hb dX9_keepWorks_108 (by decide) (fun cb9 => ?_) (fun cb9 => ?_)
            · skip
              have c26 : (f_5 7 x_3.toInt.toNat).toInt ≤ (zBel f pe.toInt.toNat).toInt := zle cb9 rfl rfl
              refine lv_aload_n hx hb dX9_keepWorks_133 rfl (lv_at hl 0 rfl) ?_
              refine va_get (D := g.1) (ci := 7) (v := .ref (a 9)) (C := RX9) (T := TX9) (N := 19) hx hb hts izRX9 hown hK hP 0 rfl rfl 17 (by decide) (hts _ k19) (fun _ h9 => h9) rfl dX9_keepWorks_134 ?_
              refine lv_iload hx hb dX9_keepWorks_137 (lv_at hl 4 rfl) ?_
              refine va_iald hx hb hK hP 10 0 rfl rfl (zinK (a := 0) (b := 5) i6.1 n13 (by decide)) dX9_keepWorks_139 ?_
              refine ztop (r := (f_5 9 x_3.toInt.toNat)) rfl ?_
              refine lv_iconst (v := 1) hx hb dX9_keepWorks_140 (by decide) ?_
              refine lv_icmp_ne (tgt := 166) hx hb dX9_keepWorks_141 (by decide) (fun cb9 => ?_) (fun cb9 => ?_)
              · skip
                exact absurd (show ¬ (f_5 9 x_3.toInt.toNat).toInt = 1 from zne cb9 rfl (by decide)) (by omega)
              · skip
                have c28 : (f_5 9 x_3.toInt.toNat).toInt = 1 := zeq cb9 rfl (by decide)
                refine lv_aload_n hx hb dX9_keepWorks_144 rfl (lv_at hl 0 rfl) ?_
                refine lv_sipush (v := 9999) hx hb dX9_keepWorks_145 (by decide) ?_
                refine lv_aload_n hx hb dX9_keepWorks_148 rfl (lv_at hl 0 rfl) ?_
                refine va_get (D := g.1) (ci := 7) (v := .int x_4) (C := RX9) (T := TX9) (N := 19) hx hb hts izRX9 hown hK hP 0 rfl rfl 3 (by decide) (hts _ k4) (fun _ h9 => h9) rfl dX9_keepWorks_149 ?_
                refine lv_aload_n hx hb dX9_keepWorks_152 rfl (lv_at hl 0 rfl) ?_
                refine va_get (D := g.1) (ci := 7) (v := .ref (a 8)) (C := RX9) (T := TX9) (N := 19) hx hb hts izRX9 hown hK hP 0 rfl rfl 16 (by decide) (hts _ k18) (fun _ h9 => h9) rfl dX9_keepWorks_153 ?_
                refine lv_iload hx hb dX9_keepWorks_156 (lv_at hl 4 rfl) ?_
                refine va_iald hx hb hK hP 9 0 rfl rfl (zinK (a := 0) (b := 5) i6.1 n13 (by decide)) dX9_keepWorks_158 ?_
                refine ztop (r := (f_5 8 x_3.toInt.toNat)) rfl ?_
                refine lv_iadd hx hb dX9_keepWorks_159 ?_
                refine va_mmin hx hb (by rw [hml]; exact hl.1.symm) hown (hts _ k40) (hts _ k41) (hts _ k42) (hts _ k43) (Nat.le_of_ble_eq_true rfl) (Nat.le_of_ble_eq_true rfl) (Nat.le_of_ble_eq_true rfl) (Nat.le_of_ble_eq_true rfl) dX9_keepWorks_160 ?_
                refine ztop (r := (zCap (x_4 + (f_5 8 x_3.toInt.toNat)))) (zCap_m _) ?_
                refine va_put (D := g.1) (ci := 7) (v := .int (zCap (x_4 + (f_5 8 x_3.toInt.toNat)))) (ty := .int) (C := RX9) (T := TX9) (N := 19) hx hb hts izRX9 tyX9 tyX9_ok nmX9 hown hK hP hD hS 0 rfl rfl 3 (by decide) (hts _ k4) (fun _ h9 => h9) rfl (by decide +kernel) rfl rfl (Nat.le_of_ble_eq_true rfl) dX9_keepWorks_163 (fun H locs hP hD hS => ?_)
                have hP : va_P g.1 vwCl (List.flatten [bTown g o a pe wo tx (zCap (x_4 + (f_5 8 x_3.toInt.toNat))) jo tr dy sd f_5]) H := hP
                have hD : va_D A (List.flatten [bTown g o a pe wo tx (zCap (x_4 + (f_5 8 x_3.toInt.toNat))) jo tr dy sd f_5]) := hD
                refine ziinc3 (n' := 1) (a' := 1) (b' := 6) (lv' := fun v9 => [(4, .int v9), (0, .ref o), (1, .null), (2, .int (zBel f pe.toInt.toNat)), (3, .int x_2)]) hx hb dX9_keepWorks_166 hl (k := 4) rfl (by decide) (fun _ => rfl) (zaddK (i := x_3.toInt) (j := 1) rfl (by decide) i6.1 n13 (Int.le_refl _) (Int.le_refl _) (by decide)) (fun x_29 ls hx_29 hl => ?_)
                refine lv_goto (tgt := 10) hx hb dX9_keepWorks_169 (by decide) ?_
                have hl := lv_sub (l' := [(0, .ref o), (1, .null), (2, .int (zBel f pe.toInt.toNat)), (3, .int x_2), (4, .int x_29)]) hl [1, 2, 3, 4, 0] rfl
                have hP : va_P g.1 vwCl (List.flatten [bTown g o a pe wo tx (zCap (x_4 + (f_5 8 x_3.toInt.toNat))) jo tr dy sd f_5]) H := hP
                have hD : va_D A (List.flatten [bTown g o a pe wo tx (zCap (x_4 + (f_5 8 x_3.toInt.toNat))) jo tr dy sd f_5]) := hD
                exact ih10_10 x_2 x_29 (zCap (x_4 + (f_5 8 x_3.toInt.toNat))) f_5 ⟨(Int.le_trans (by decide) hx_29.2.1), hx_29.2.2⟩ rf_5 (zIt_s i7 hx_29.1 (by omega) (zKc (by omega) (by omega))) (by first | omega | assumption | decide) H _ ls (zmK hx_29.1 (by decide) n13 (by decide) hk10_10)  hP hD hS (lv_sub hl [0, 1, 2, 3, 4] rfl)
            · skip
              have c30 : (zBel f pe.toInt.toNat).toInt < (f_5 7 x_3.toInt.toNat).toInt := zlti (Int32.not_le.mp cb9) rfl rfl
              refine lv_aload_n hx hb dX9_keepWorks_111 rfl (lv_at hl 0 rfl) ?_
              refine va_get (D := g.1) (ci := 7) (v := .ref (a 9)) (C := RX9) (T := TX9) (N := 19) hx hb hts izRX9 hown hK hP 0 rfl rfl 17 (by decide) (hts _ k19) (fun _ h9 => h9) rfl dX9_keepWorks_112 ?_
              refine lv_iload hx hb dX9_keepWorks_115 (lv_at hl 4 rfl) ?_
              refine lv_iconst (v := 2) hx hb dX9_keepWorks_117 (by decide) ?_
              refine va_iast hx hb hK hP hD hS 10 0 rfl rfl (zinK (a := 0) (b := 5) i6.1 n13 (by decide)) dX9_keepWorks_118 (fun H locs hP hD hS => ?_)
              obtain ⟨f31, rf31, ef31, hP, hD⟩ : ∃ f31 : Nat → Nat → Int32, zZ4 f31 ∧ f31 = zSet f_5 9 x_3.toInt.toNat 2 ∧ va_P g.1 vwCl (List.flatten [bTown g o a pe wo tx x_4 jo tr dy sd f31]) H ∧ va_D A (List.flatten [bTown g o a pe wo tx x_4 jo tr dy sd f31]) := ⟨zu f_5 9 (upd (f_5 9) x_3.toNatClampNeg 2), (zZ4_u rf_5 (by decide)), rfl, hP, hD⟩
              refine lv_iinc (v := x_2 + 1) (lv' := [(3, .int (x_2 + 1)), (0, .ref o), (1, .null), (2, .int (zBel f pe.toInt.toNat)), (4, .int x_3)]) hx hb dX9_keepWorks_119 hl (k := 3) rfl rfl (by decide) rfl (fun ls hl => ?_)
              refine lv_aload_n hx hb dX9_keepWorks_122 rfl (lv_at hl 1 rfl) ?_
              refine lv_aload_nN hx hb dX9_keepWorks_123 rfl (lv_at hl 2 rfl) ?_
              refine lv_iload hx hb dX9_keepWorks_124 (lv_at hl 4 rfl) ?_
              refine lv_iconst (v := 1) hx hb dX9_keepWorks_126 (by decide) ?_
              refine mcallV' (g := g) (q0 := 0) (ci := 7) (As := [.null, .int x_3, .int 1]) (rest := []) St hK hT hA hP hD hS hl.1 [0] [] rfl rfl rfl (c_writeN l g o a pe wo tx x_4 jo tr dy sd f31 x_3 1 b_pe b_wo rf31) (cwV 3 hts (zgL (zl4 k125 k126 k127 k24) k124) rfl rfl rfl (by decide +kernel) ⟨Nat.le_of_ble_eq_true rfl, Nat.le_of_ble_eq_true rfl⟩) rfl rfl rfl rfl (Nat.le_of_ble_eq_true rfl) dX9_keepWorks_127 ⟨(Nat.le_of_ble_eq_true rfl), (Nat.le_of_ble_eq_true rfl)⟩ (fun _u H locs hq32 hP hD hS => ?_)
              have hP : va_P g.1 vwCl (List.flatten [bTown g o a pe wo tx x_4 jo tr dy sd f31]) H := hP
              have hD : va_D A (List.flatten [bTown g o a pe wo tx x_4 jo tr dy sd f31]) := hD
              refine W.widen (k := 0) (n := 0) (Nat.le_of_ble_eq_true rfl) (Nat.le_of_ble_eq_true rfl) ?_
              refine W.eq (g2 := F0 m 130 ls []) rfl ?_
              refine lv_goto (tgt := 166) hx hb dX9_keepWorks_130 (by decide) ?_
              refine ziinc3 (n' := 1) (a' := 1) (b' := 6) (lv' := fun v9 => [(4, .int v9), (3, .int (x_2 + 1)), (0, .ref o), (1, .null), (2, .int (zBel f pe.toInt.toNat))]) hx hb dX9_keepWorks_166 hl (k := 4) rfl (by decide) (fun _ => rfl) (zaddK (i := x_3.toInt) (j := 1) rfl (by decide) i6.1 n13 (Int.le_refl _) (Int.le_refl _) (by decide)) (fun x_33 ls hx_33 hl => ?_)
              refine lv_goto (tgt := 10) hx hb dX9_keepWorks_169 (by decide) ?_
              have hl := lv_sub (l' := [(0, .ref o), (1, .null), (2, .int (zBel f pe.toInt.toNat)), (3, .int (x_2 + 1)), (4, .int x_33)]) hl [2, 3, 4, 1, 0] rfl
              have hP : va_P g.1 vwCl (List.flatten [bTown g o a pe wo tx x_4 jo tr dy sd f31]) H := hP
              have hD : va_D A (List.flatten [bTown g o a pe wo tx x_4 jo tr dy sd f31]) := hD
              exact ih10_10 (x_2 + 1) x_33 x_4 f31 ⟨(Int.le_trans (by decide) hx_33.2.1), hx_33.2.2⟩ rf31 (zIt_s i7 hx_33.1 (by omega) (zKb (by omega) (by omega) ef31)) (by first | omega | assumption | decide) H _ ls (zmK hx_33.1 (by decide) n13 (by decide) hk10_10)  hP hD hS (lv_sub hl [0, 1, 2, 3, 4] rfl)
        · skip
          have c34 : (f_5 9 x_3.toInt.toNat).toInt = 0 := zeq cb9 rfl (by decide)
          have n35 : 0 ≤ (f_5 9 x_3.toInt.toNat).toInt := Int.le_trans (Int.le_refl _) (Int.le_of_eq c34.symm)
          have n36 : (f_5 9 x_3.toInt.toNat).toInt ≤ 0 := Int.le_trans (Int.le_of_eq c34) (Int.le_refl _)
          refine lv_iload_n hx hb dX9_keepWorks_29 rfl (lv_at hl 2 rfl) ?_
          refine lv_aload_n hx hb dX9_keepWorks_30 rfl (lv_at hl 0 rfl) ?_
          refine va_get (D := g.1) (ci := 7) (v := .ref (a 7)) (C := RX9) (T := TX9) (N := 19) hx hb hts izRX9 hown hK hP 0 rfl rfl 15 (by decide) (hts _ k17) (fun _ h9 => h9) rfl dX9_keepWorks_31 ?_
          refine lv_iload hx hb dX9_keepWorks_34 (lv_at hl 4 rfl) ?_
          refine va_iald hx hb hK hP 8 0 rfl rfl (zinK (a := 0) (b := 5) i6.1 n13 (by decide)) dX9_keepWorks_36 ?_
          refine ztop (r := (f_5 7 x_3.toInt.toNat)) rfl ?_
          refine lv_icmp_lt (tgt := 89) hx hb dX9_keepWorks_37 (by decide) (fun cb9 => ?_) (fun cb9 => ?_)
          · skip
            have c37 : (zBel f pe.toInt.toNat).toInt < (f_5 7 x_3.toInt.toNat).toInt := zlti cb9 rfl rfl
            refine lv_aload_n hx hb dX9_keepWorks_89 rfl (lv_at hl 0 rfl) ?_
            refine va_get (D := g.1) (ci := 7) (v := .ref (a 9)) (C := RX9) (T := TX9) (N := 19) hx hb hts izRX9 hown hK hP 0 rfl rfl 17 (by decide) (hts _ k19) (fun _ h9 => h9) rfl dX9_keepWorks_90 ?_
            refine lv_iload hx hb dX9_keepWorks_93 (lv_at hl 4 rfl) ?_
            refine va_iald hx hb hK hP 10 0 rfl rfl (zinK (a := 0) (b := 5) i6.1 n13 (by decide)) dX9_keepWorks_95 ?_
            refine ztop (r := (f_5 9 x_3.toInt.toNat)) rfl ?_
            refine lv_iconst (v := 1) hx hb dX9_keepWorks_96 (by decide) ?_
            refine lv_icmp_ne (tgt := 133) hx hb dX9_keepWorks_97 (by decide) (fun cb9 => ?_) (fun cb9 => ?_)
            · skip
              have c38 : ¬ (f_5 9 x_3.toInt.toNat).toInt = 1 := zne cb9 rfl (by decide)
              refine lv_aload_n hx hb dX9_keepWorks_133 rfl (lv_at hl 0 rfl) ?_
              refine va_get (D := g.1) (ci := 7) (v := .ref (a 9)) (C := RX9) (T := TX9) (N := 19) hx hb hts izRX9 hown hK hP 0 rfl rfl 17 (by decide) (hts _ k19) (fun _ h9 => h9) rfl dX9_keepWorks_134 ?_
              refine lv_iload hx hb dX9_keepWorks_137 (lv_at hl 4 rfl) ?_
              refine va_iald hx hb hK hP 10 0 rfl rfl (zinK (a := 0) (b := 5) i6.1 n13 (by decide)) dX9_keepWorks_139 ?_
              refine ztop (r := (f_5 9 x_3.toInt.toNat)) rfl ?_
              refine lv_iconst (v := 1) hx hb dX9_keepWorks_140 (by decide) ?_
              refine lv_icmp_ne (tgt := 166) hx hb dX9_keepWorks_141 (by decide) (fun cb9 => ?_) (fun cb9 => ?_)
              · skip
                have c39 : ¬ (f_5 9 x_3.toInt.toNat).toInt = 1 := zne cb9 rfl (by decide)
                refine ziinc3 (n' := 1) (a' := 1) (b' := 6) (lv' := fun v9 => [(4, .int v9), (0, .ref o), (1, .null), (2, .int (zBel f pe.toInt.toNat)), (3, .int x_2)]) hx hb dX9_keepWorks_166 hl (k := 4) rfl (by decide) (fun _ => rfl) (zaddK (i := x_3.toInt) (j := 1) rfl (by decide) i6.1 n13 (Int.le_refl _) (Int.le_refl _) (by decide)) (fun x_40 ls hx_40 hl => ?_)
                refine lv_goto (tgt := 10) hx hb dX9_keepWorks_169 (by decide) ?_
                have hl := lv_sub (l' := [(0, .ref o), (1, .null), (2, .int (zBel f pe.toInt.toNat)), (3, .int x_2), (4, .int x_40)]) hl [1, 2, 3, 4, 0] rfl
                have hP : va_P g.1 vwCl (List.flatten [bTown g o a pe wo tx x_4 jo tr dy sd f_5]) H := hP
                have hD : va_D A (List.flatten [bTown g o a pe wo tx x_4 jo tr dy sd f_5]) := hD
                exact ih10_10 x_2 x_40 x_4 f_5 ⟨(Int.le_trans (by decide) hx_40.2.1), hx_40.2.2⟩ rf_5 (zIt_s i7 hx_40.1 (by omega) (zKn (by omega) (by omega))) (by first | omega | assumption | decide) H _ ls (zmK hx_40.1 (by decide) n13 (by decide) hk10_10)  hP hD hS (lv_sub hl [0, 1, 2, 3, 4] rfl)
              · skip
                exact absurd (show (f_5 9 x_3.toInt.toNat).toInt = 1 from zeq cb9 rfl (by decide)) (zDeq1 (a := 0) (b := 1) n36 (Int.le_refl _) (by decide))
            · skip
              exact absurd (show (f_5 9 x_3.toInt.toNat).toInt = 1 from zeq cb9 rfl (by decide)) (zDeq1 (a := 0) (b := 1) n36 (Int.le_refl _) (by decide))
          · skip
            have c43 : (f_5 7 x_3.toInt.toNat).toInt ≤ (zBel f pe.toInt.toNat).toInt := zle (Int32.not_lt.mp cb9) rfl rfl
            refine lv_aload_n hx hb dX9_keepWorks_40 rfl (lv_at hl 0 rfl) ?_
            refine va_get (D := g.1) (ci := 7) (v := .int x_4) (C := RX9) (T := TX9) (N := 19) hx hb hts izRX9 hown hK hP 0 rfl rfl 3 (by decide) (hts _ k4) (fun _ h9 => h9) rfl dX9_keepWorks_41 ?_
            refine lv_aload_n hx hb dX9_keepWorks_44 rfl (lv_at hl 0 rfl) ?_
            refine va_get (D := g.1) (ci := 7) (v := .ref (a 6)) (C := RX9) (T := TX9) (N := 19) hx hb hts izRX9 hown hK hP 0 rfl rfl 14 (by decide) (hts _ k16) (fun _ h9 => h9) rfl dX9_keepWorks_45 ?_
            refine lv_iload hx hb dX9_keepWorks_48 (lv_at hl 4 rfl) ?_
            refine va_iald hx hb hK hP 7 0 rfl rfl (zinK (a := 0) (b := 5) i6.1 n13 (by decide)) dX9_keepWorks_50 ?_
            refine ztop (r := (f_5 6 x_3.toInt.toNat)) rfl ?_
            refine lv_icmp_lt (tgt := 89) hx hb dX9_keepWorks_51 (by decide) (fun cb9 => ?_) (fun cb9 => ?_)
            · skip
              have c44 : x_4.toInt < (f_5 6 x_3.toInt.toNat).toInt := zlti cb9 rfl rfl
              refine lv_aload_n hx hb dX9_keepWorks_89 rfl (lv_at hl 0 rfl) ?_
              refine va_get (D := g.1) (ci := 7) (v := .ref (a 9)) (C := RX9) (T := TX9) (N := 19) hx hb hts izRX9 hown hK hP 0 rfl rfl 17 (by decide) (hts _ k19) (fun _ h9 => h9) rfl dX9_keepWorks_90 ?_
              refine lv_iload hx hb dX9_keepWorks_93 (lv_at hl 4 rfl) ?_
              refine va_iald hx hb hK hP 10 0 rfl rfl (zinK (a := 0) (b := 5) i6.1 n13 (by decide)) dX9_keepWorks_95 ?_
              refine ztop (r := (f_5 9 x_3.toInt.toNat)) rfl ?_
              refine lv_iconst (v := 1) hx hb dX9_keepWorks_96 (by decide) ?_
              refine lv_icmp_ne (tgt := 133) hx hb dX9_keepWorks_97 (by decide) (fun cb9 => ?_) (fun cb9 => ?_)
              · skip
                have c45 : ¬ (f_5 9 x_3.toInt.toNat).toInt = 1 := zne cb9 rfl (by decide)
                refine lv_aload_n hx hb dX9_keepWorks_133 rfl (lv_at hl 0 rfl) ?_
                refine va_get (D := g.1) (ci := 7) (v := .ref (a 9)) (C := RX9) (T := TX9) (N := 19) hx hb hts izRX9 hown hK hP 0 rfl rfl 17 (by decide) (hts _ k19) (fun _ h9 => h9) rfl dX9_keepWorks_134 ?_
                refine lv_iload hx hb dX9_keepWorks_137 (lv_at hl 4 rfl) ?_
                refine va_iald hx hb hK hP 10 0 rfl rfl (zinK (a := 0) (b := 5) i6.1 n13 (by decide)) dX9_keepWorks_139 ?_
                refine ztop (r := (f_5 9 x_3.toInt.toNat)) rfl ?_
                refine lv_iconst (v := 1) hx hb dX9_keepWorks_140 (by decide) ?_
                refine lv_icmp_ne (tgt := 166) hx hb dX9_keepWorks_141 (by decide) (fun cb9 => ?_) (fun cb9 => ?_)
                · skip
                  have c46 : ¬ (f_5 9 x_3.toInt.toNat).toInt = 1 := zne cb9 rfl (by decide)
                  refine ziinc3 (n' := 1) (a' := 1) (b' := 6) (lv' := fun v9 => [(4, .int v9), (0, .ref o), (1, .null), (2, .int (zBel f pe.toInt.toNat)), (3, .int x_2)]) hx hb dX9_keepWorks_166 hl (k := 4) rfl (by decide) (fun _ => rfl) (zaddK (i := x_3.toInt) (j := 1) rfl (by decide) i6.1 n13 (Int.le_refl _) (Int.le_refl _) (by decide)) (fun x_47 ls hx_47 hl => ?_)
                  refine lv_goto (tgt := 10) hx hb dX9_keepWorks_169 (by decide) ?_
                  have hl := lv_sub (l' := [(0, .ref o), (1, .null), (2, .int (zBel f pe.toInt.toNat)), (3, .int x_2), (4, .int x_47)]) hl [1, 2, 3, 4, 0] rfl
                  have hP : va_P g.1 vwCl (List.flatten [bTown g o a pe wo tx x_4 jo tr dy sd f_5]) H := hP
                  have hD : va_D A (List.flatten [bTown g o a pe wo tx x_4 jo tr dy sd f_5]) := hD
                  exact ih10_10 x_2 x_47 x_4 f_5 ⟨(Int.le_trans (by decide) hx_47.2.1), hx_47.2.2⟩ rf_5 (zIt_s i7 hx_47.1 (by omega) (zKn (by omega) (by omega))) (by first | omega | assumption | decide) H _ ls (zmK hx_47.1 (by decide) n13 (by decide) hk10_10)  hP hD hS (lv_sub hl [0, 1, 2, 3, 4] rfl)
                · skip
                  exact absurd (show (f_5 9 x_3.toInt.toNat).toInt = 1 from zeq cb9 rfl (by decide)) (zDeq1 (a := 0) (b := 1) n36 (Int.le_refl _) (by decide))
              · skip
                exact absurd (show (f_5 9 x_3.toInt.toNat).toInt = 1 from zeq cb9 rfl (by decide)) (zDeq1 (a := 0) (b := 1) n36 (Int.le_refl _) (by decide))
            · skip
              have c50 : (f_5 6 x_3.toInt.toNat).toInt ≤ x_4.toInt := zle (Int32.not_lt.mp cb9) rfl rfl
              refine lv_aload_n hx hb dX9_keepWorks_54 rfl (lv_at hl 0 rfl) ?_
              refine va_get (D := g.1) (ci := 7) (v := .ref (a 9)) (C := RX9) (T := TX9) (N := 19) hx hb hts izRX9 hown hK hP 0 rfl rfl 17 (by decide) (hts _ k19) (fun _ h9 => h9) rfl dX9_keepWorks_55 ?_
              refine lv_iload hx hb dX9_keepWorks_58 (lv_at hl 4 rfl) ?_
              refine lv_iconst (v := 1) hx hb dX9_keepWorks_60 (by decide) ?_
              refine va_iast hx hb hK hP hD hS 10 0 rfl rfl (zinK (a := 0) (b := 5) i6.1 n13 (by decide)) dX9_keepWorks_61 (fun H locs hP hD hS => ?_)
              obtain ⟨f51, rf51, ef51, hP, hD⟩ : ∃ f51 : Nat → Nat → Int32, zZ4 f51 ∧ f51 = zSet f_5 9 x_3.toInt.toNat 1 ∧ va_P g.1 vwCl (List.flatten [bTown g o a pe wo tx x_4 jo tr dy sd f51]) H ∧ va_D A (List.flatten [bTown g o a pe wo tx x_4 jo tr dy sd f51]) := ⟨zu f_5 9 (upd (f_5 9) x_3.toNatClampNeg 1), (zZ4_u rf_5 (by decide)), rfl, hP, hD⟩
              refine lv_aload_n hx hb dX9_keepWorks_62 rfl (lv_at hl 0 rfl) ?_
              refine lv_dup hx hb dX9_keepWorks_63 rfl ?_
              refine va_get (D := g.1) (ci := 7) (v := .int x_4) (C := RX9) (T := TX9) (N := 19) hx hb hts izRX9 hown hK hP 0 rfl rfl 3 (by decide) (hts _ k4) (fun _ h9 => h9) rfl dX9_keepWorks_64 ?_
              refine lv_aload_n hx hb dX9_keepWorks_67 rfl (lv_at hl 0 rfl) ?_
              refine va_get (D := g.1) (ci := 7) (v := .ref (a 6)) (C := RX9) (T := TX9) (N := 19) hx hb hts izRX9 hown hK hP 0 rfl rfl 14 (by decide) (hts _ k16) (fun _ h9 => h9) rfl dX9_keepWorks_68 ?_
              refine lv_iload hx hb dX9_keepWorks_71 (lv_at hl 4 rfl) ?_
              refine va_iald hx hb hK hP 7 0 rfl rfl (zinK (a := 0) (b := 5) i6.1 n13 (by decide)) dX9_keepWorks_73 ?_
              refine ztop (r := (f_5 6 x_3.toInt.toNat)) (by rw [ef51, zSet_r _ _ _ _ (by decide)]; exact rfl) ?_
              refine lv_isub hx hb dX9_keepWorks_74 ?_
              refine va_put (D := g.1) (ci := 7) (v := .int (x_4 - (f_5 6 x_3.toInt.toNat))) (ty := .int) (C := RX9) (T := TX9) (N := 19) hx hb hts izRX9 tyX9 tyX9_ok nmX9 hown hK hP hD hS 0 rfl rfl 3 (by decide) (hts _ k4) (fun _ h9 => h9) rfl (by decide +kernel) rfl rfl (Nat.le_of_ble_eq_true rfl) dX9_keepWorks_75 (fun H locs hP hD hS => ?_)
              have hP : va_P g.1 vwCl (List.flatten [bTown g o a pe wo tx (x_4 - (f_5 6 x_3.toInt.toNat)) jo tr dy sd f51]) H := hP
              have hD : va_D A (List.flatten [bTown g o a pe wo tx (x_4 - (f_5 6 x_3.toInt.toNat)) jo tr dy sd f51]) := hD
              refine lv_aload_n hx hb dX9_keepWorks_78 rfl (lv_at hl 0 rfl) ?_
              refine lv_aload_nN hx hb dX9_keepWorks_79 rfl (lv_at hl 1 rfl) ?_
              refine lv_iload hx hb dX9_keepWorks_80 (lv_at hl 4 rfl) ?_
              refine lv_iconst (v := 0) hx hb dX9_keepWorks_82 (by decide) ?_
              refine mcallV' (g := g) (q0 := 0) (ci := 7) (As := [.null, .int x_3, .int 0]) (rest := []) St hK hT hA hP hD hS hl.1 [0] [] rfl rfl rfl (c_writeN l g o a pe wo tx (x_4 - (f_5 6 x_3.toInt.toNat)) jo tr dy sd f51 x_3 0 b_pe b_wo rf51) (cwV 3 hts (zgL (zl4 k125 k126 k127 k24) k124) rfl rfl rfl (by decide +kernel) ⟨Nat.le_of_ble_eq_true rfl, Nat.le_of_ble_eq_true rfl⟩) rfl rfl rfl rfl (Nat.le_of_ble_eq_true rfl) dX9_keepWorks_83 ⟨(Nat.le_of_ble_eq_true rfl), (Nat.le_of_ble_eq_true rfl)⟩ (fun _u H locs hq52 hP hD hS => ?_)
              have hP : va_P g.1 vwCl (List.flatten [bTown g o a pe wo tx (x_4 - (f_5 6 x_3.toInt.toNat)) jo tr dy sd f51]) H := hP
              have hD : va_D A (List.flatten [bTown g o a pe wo tx (x_4 - (f_5 6 x_3.toInt.toNat)) jo tr dy sd f51]) := hD
              refine W.widen (k := 0) (n := 0) (Nat.le_of_ble_eq_true rfl) (Nat.le_of_ble_eq_true rfl) ?_
              refine W.eq (g2 := F0 m 86 ls []) rfl ?_
              refine lv_goto (tgt := 166) hx hb dX9_keepWorks_86 (by decide) ?_
              refine ziinc3 (n' := 1) (a' := 1) (b' := 6) (lv' := fun v9 => [(4, .int v9), (0, .ref o), (1, .null), (2, .int (zBel f pe.toInt.toNat)), (3, .int x_2)]) hx hb dX9_keepWorks_166 hl (k := 4) rfl (by decide) (fun _ => rfl) (zaddK (i := x_3.toInt) (j := 1) rfl (by decide) i6.1 n13 (Int.le_refl _) (Int.le_refl _) (by decide)) (fun x_53 ls hx_53 hl => ?_)
              refine lv_goto (tgt := 10) hx hb dX9_keepWorks_169 (by decide) ?_
              have hl := lv_sub (l' := [(0, .ref o), (1, .null), (2, .int (zBel f pe.toInt.toNat)), (3, .int x_2), (4, .int x_53)]) hl [1, 2, 3, 4, 0] rfl
              have hP : va_P g.1 vwCl (List.flatten [bTown g o a pe wo tx (x_4 - (f_5 6 x_3.toInt.toNat)) jo tr dy sd f51]) H := hP
              have hD : va_D A (List.flatten [bTown g o a pe wo tx (x_4 - (f_5 6 x_3.toInt.toNat)) jo tr dy sd f51]) := hD
              exact ih10_10 x_2 x_53 (x_4 - (f_5 6 x_3.toInt.toNat)) f51 ⟨(Int.le_trans (by decide) hx_53.2.1), hx_53.2.2⟩ rf51 (zIt_s i7 hx_53.1 (by omega) (zKa (by omega) (by omega) (by omega) ef51)) (by first | omega | assumption | decide) H _ ls (zmK hx_53.1 (by decide) n13 (by decide) hk10_10)  hP hD hS (lv_sub hl [0, 1, 2, 3, 4] rfl)
  have hL0 : (0 : Int32).toInt = 0 := by decide
  have hP : va_P g.1 vwCl (List.flatten [bTown g o a pe wo tx ch jo tr dy sd f]) H := hP
  have hD : va_D A (List.flatten [bTown g o a pe wo tx ch jo tr dy sd f]) := hD
  exact LP10_9 _ 0 0 ch f (by decide) rf (zIt_0 (by decide) rfl) (by first | omega | assumption | decide) H _ ls (Nat.lt_succ_self _)  hP hD hS (lv_sub hl [0, 1, 2, 3, 4] rfl)
set_option maxRecDepth 100000 in
set_option maxHeartbeats 4000000 in
theorem c_drawF (l : Launch) (g : zG) (o : Nat) (a : Nat → Nat) (pe : Int32) (wo : Int32) (tx : Int32) (ch : Int32) (jo : Int32) (tr : Int32) (dy : Int32) (sd : Int32) (f : Nat → Nat → Int32)  : zM' g l yX9_draw (Cond.code yX9_draw cX9_draw 1 (some .int) :: zB) ({ frames := 0, cells := 0, slots := 0, locals := 0 } : Room) [.ref o] [bTown g o a pe wo tx ch jo tr dy sd f] (fun _ : Unit => some (.int (zDw sd))) (fun _ : Unit => True) (fun _ : Unit => [bTown g o a pe wo tx ch jo tr dy (zDr sd) f]) := by
  refine zM'.of (cc := cX9_draw) (maxL := 1) (rt := (some .int)) (by decide) rfl (Nat.le_of_ble_eq_true rfl) ?_
  intro p e s m args below meth c A ls St hr hlocks hin hK hT hA hP hD hS hl
  obtain ⟨hx, hb, hml, hown, hts⟩ := id St
  have hl : lv_has ls 1 [(0, .ref o)] := hl
  refine lv_aload_n hx hb dX9_draw_0 rfl (lv_at hl 0 rfl) ?_
  refine lv_ldc (v := 1103515245) hx hb hown (hts _ k130) dX9_draw_1 ?_
  refine lv_aload_n hx hb dX9_draw_3 rfl (lv_at hl 0 rfl) ?_
  refine va_get (D := g.1) (ci := 7) (v := .int sd) (C := RX9) (T := TX9) (N := 19) hx hb hts izRX9 hown hK hP 0 rfl rfl 7 (by decide) (hts _ k7) (fun _ h9 => h9) rfl dX9_draw_4 ?_
  refine lv_imul hx hb dX9_draw_7 ?_
  refine lv_sipush (v := 12345) hx hb dX9_draw_8 (by decide) ?_
  refine lv_iadd hx hb dX9_draw_11 ?_
  refine ztop (r := (zDr sd)) rfl ?_
  refine va_put (D := g.1) (ci := 7) (v := .int (zDr sd)) (ty := .int) (C := RX9) (T := TX9) (N := 19) hx hb hts izRX9 tyX9 tyX9_ok nmX9 hown hK hP hD hS 0 rfl rfl 7 (by decide) (hts _ k7) (fun _ h9 => h9) rfl (by decide +kernel) rfl rfl (Nat.le_of_ble_eq_true rfl) dX9_draw_12 (fun H locs hP hD hS => ?_)
  have hP : va_P g.1 vwCl (List.flatten [bTown g o a pe wo tx ch jo tr dy (zDr sd) f]) H := hP
  have hD : va_D A (List.flatten [bTown g o a pe wo tx ch jo tr dy (zDr sd) f]) := hD
  refine lv_aload_n hx hb dX9_draw_15 rfl (lv_at hl 0 rfl) ?_
  refine va_get (D := g.1) (ci := 7) (v := .int (zDr sd)) (C := RX9) (T := TX9) (N := 19) hx hb hts izRX9 hown hK hP 0 rfl rfl 7 (by decide) (hts _ k7) (fun _ h9 => h9) rfl dX9_draw_16 ?_
  refine lv_bipush (v := 16) hx hb dX9_draw_19 (by decide) ?_
  refine lv_ishr hx hb dX9_draw_21 ?_
  refine lv_sipush (v := 32767) hx hb dX9_draw_22 (by decide) ?_
  refine lv_iand hx hb dX9_draw_25 ?_
  refine ztop (r := (zDw sd)) rfl ?_
  have hP : va_P g.1 vwCl (List.flatten [bTown g o a pe wo tx ch jo tr dy (zDr sd) f]) H := hP
  have hD : va_D A (List.flatten [bTown g o a pe wo tx ch jo tr dy (zDr sd) f]) := hD
  exact mret_i hx hb hr hlocks hS (Nat.le_of_ble_eq_true rfl) (Nat.le_of_ble_eq_true rfl) dX9_draw_26 () rfl trivial hP hD
set_option maxRecDepth 100000 in
set_option maxHeartbeats 4000000 in
theorem c_spread1F (l : Launch) (g : zG) (o : Nat) (a : Nat → Nat) (pe : Int32) (wo : Int32) (tx : Int32) (ch : Int32) (jo : Int32) (tr : Int32) (dy : Int32) (sd : Int32) (f : Nat → Nat → Int32) (x1 : Int32) (b_pe : 0 ≤ pe.toInt ∧ pe.toInt ≤ 8) (b_wo : 0 ≤ wo.toInt ∧ wo.toInt ≤ 6) (rf : zZ4 f) (b_x1 : 0 ≤ x1.toInt ∧ x1.toInt ≤ 7) : zM' g l yX9_spread (Cond.code yX9_spread cX9_spread 4 none :: zB) ({ frames := 3, cells := 0, slots := 0, locals := 57 } : Room) [.ref o, .int x1, .int 1] [bTown g o a pe wo tx ch jo tr dy sd f] (fun (f2 : Nat → Nat → Int32) => none) (fun (f2 : Nat → Nat → Int32) => (zZ4 f2) ∧ (f2 = zSpr pe.toInt.toNat x1.toInt.toNat true f)) (fun (f2 : Nat → Nat → Int32) => [bTown g o a pe wo tx ch jo tr dy sd f2]) := by
  refine zM'.of (cc := cX9_spread) (maxL := 4) (rt := none) (by decide) rfl (Nat.le_of_ble_eq_true rfl) ?_
  intro p e s m args below meth c A ls St hr hlocks hin hK hT hA hP hD hS hl
  obtain ⟨hx, hb, hml, hown, hts⟩ := id St
  have hl : lv_has ls 4 [(0, .ref o), (1, .int x1), (2, .int 1)] := hl
  refine lv_iconst (v := 0) hx hb dX9_spread_0 (by decide) ?_
  refine lv_istore_n (lv' := [(3, .int 0), (0, .ref o), (1, .int x1), (2, .int 1)]) hx hb dX9_spread_1 rfl hl (by decide) rfl (fun ls hl => ?_)
  have hl := lv_sub (l' := [(0, .ref o), (1, .int x1), (2, .int 1), (3, .int 0)]) hl [1, 2, 3, 0] rfl
  have LP2_6 : ∀ (kf : Nat) (x_1 : Int32) (f_2 : Nat → Nat → Int32), (0 ≤ x_1.toInt ∧ x_1.toInt ≤ 8) → (zZ4 f_2) → (f_2 = zIt (zSp1 x1.toInt.toNat true) f x_1.toInt.toNat) → (x_1.toInt ≤ pe.toInt) → ∀ (H : Heap) (locs : List Loc) (ls : Array Slot), ((9 - x_1.toInt).toNat) < kf → va_P g.1 vwCl (List.flatten [bTown g o a pe wo tx ch jo tr dy sd f_2]) H → va_D A (List.flatten [bTown g o a pe wo tx ch jo tr dy sd f_2]) → va_S A s.heap H locs → lv_has ls 4 [(0, .ref o), (1, .int x1), (2, .int 1), (3, .int x_1)] → W p l e ({ frames := 3, cells := 0, slots := 0, locals := 57 } : Room) s m args below meth c H locs (0) (0) (zF g (fun (f2 : Nat → Nat → Int32) => none) (fun (f2 : Nat → Nat → Int32) => (zZ4 f2) ∧ (f2 = zSpr pe.toInt.toNat x1.toInt.toNat true f)) (fun (f2 : Nat → Nat → Int32) => [bTown g o a pe wo tx ch jo tr dy sd f2]) ({ frames := 3, cells := 0, slots := 0, locals := 57 } : Room) below args s A) (F0 m 2 ls []) := by
    intro kf
    induction kf with
    | zero => intro x_1 f_2 i3 rf_2 i4 i5 H locs ls hk; exact absurd hk (Nat.not_lt_zero _)
    | succ kf ih2_7 =>
      intro x_1 f_2 i3 rf_2 i4 i5 H locs ls hk2_7 hP hD hS hl
      refine lv_iload_n hx hb dX9_spread_2 rfl (lv_at hl 3 rfl) ?_
      refine lv_aload_n hx hb dX9_spread_3 rfl (lv_at hl 0 rfl) ?_
      refine va_get (D := g.1) (ci := 7) (v := .int pe) (C := RX9) (T := TX9) (N := 19) hx hb hts izRX9 hown hK hP 0 rfl rfl 0 (by decide) (hts _ k31) (fun _ h9 => h9) rfl dX9_spread_4 ?_
      refine lv_icmp_ge (tgt := 54) hx hb dX9_spread_7 (by decide) (fun cb9 => ?_) (fun cb9 => ?_)
      · skip
        have c8 : pe.toInt ≤ x_1.toInt := zle cb9 rfl rfl
        refine lv_aload_n hx hb dX9_spread_54 rfl (lv_at hl 0 rfl) ?_
        refine va_get (D := g.1) (ci := 7) (v := .ref (a 0)) (C := RX9) (T := TX9) (N := 19) hx hb hts izRX9 hown hK hP 0 rfl rfl 8 (by decide) (hts _ k9) (fun _ h9 => h9) rfl dX9_spread_55 ?_
        refine lv_iload_n hx hb dX9_spread_58 rfl (lv_at hl 1 rfl) ?_
        refine lv_iload_n hx hb dX9_spread_59 rfl (lv_at hl 2 rfl) ?_
        refine lv_if_eq (tgt := 68) hx hb dX9_spread_60 (by decide) (fun c9 => absurd c9 (by decide)) (fun _ => ?_)
        refine lv_bipush (v := 99) hx hb dX9_spread_63 (by decide) ?_
        refine lv_goto (tgt := 69) hx hb dX9_spread_65 (by decide) ?_
        refine va_iast hx hb hK hP hD hS 1 0 rfl rfl (zinK (a := 0) (b := 7) b_x1.1 b_x1.2 (by decide)) dX9_spread_69 (fun H locs hP hD hS => ?_)
        obtain ⟨f10, rf10, ef10, hP, hD⟩ : ∃ f10 : Nat → Nat → Int32, zZ4 f10 ∧ f10 = zSet f_2 0 x1.toInt.toNat 99 ∧ va_P g.1 vwCl (List.flatten [bTown g o a pe wo tx ch jo tr dy sd f10]) H ∧ va_D A (List.flatten [bTown g o a pe wo tx ch jo tr dy sd f10]) := ⟨zu f_2 0 (upd (f_2 0) x1.toNatClampNeg 99), (zZ4_u rf_2 (by decide)), rfl, hP, hD⟩
        have hP : va_P g.1 vwCl (List.flatten [bTown g o a pe wo tx ch jo tr dy sd f10]) H := hP
        have hD : va_D A (List.flatten [bTown g o a pe wo tx ch jo tr dy sd f10]) := hD
        exact mret_v hx hb hr hlocks hS (Nat.le_of_ble_eq_true rfl) (Nat.le_of_ble_eq_true rfl) dX9_spread_70 (f10) rfl (show (zZ4 f10) ∧ (f10 = zSpr pe.toInt.toNat x1.toInt.toNat true f) from ⟨(by assumption), (by rw [ef10, zIt_x (b := pe) i4 (by omega)]; rfl)⟩) hP hD
      · skip
        have c11 : x_1.toInt < pe.toInt := zlti (Int32.not_le.mp cb9) rfl rfl
        have n12 : x_1.toInt ≤ 7 := zL1 (b := 8) c11 b_pe.2 (by decide)
        have n13 : 1 ≤ pe.toInt := zL2 (a := 0) c11 i3.1 (by decide)
        refine lv_iload_n hx hb dX9_spread_10 rfl (lv_at hl 3 rfl) ?_
        refine lv_iload_n hx hb dX9_spread_11 rfl (lv_at hl 1 rfl) ?_
        refine lv_icmp_eq (tgt := 48) hx hb dX9_spread_12 (by decide) (fun cb9 => ?_) (fun cb9 => ?_)
        · skip
          have c14 : x_1.toInt = x1.toInt := zeq cb9 rfl rfl
          refine ziinc3 (n' := 1) (a' := 1) (b' := 8) (lv' := fun v9 => [(3, .int v9), (0, .ref o), (1, .int x1), (2, .int 1)]) hx hb dX9_spread_48 hl (k := 3) rfl (by decide) (fun _ => rfl) (zaddK (i := x_1.toInt) (j := 1) rfl (by decide) i3.1 n12 (Int.le_refl _) (Int.le_refl _) (by decide)) (fun x_15 ls hx_15 hl => ?_)
          refine lv_goto (tgt := 2) hx hb dX9_spread_51 (by decide) ?_
          have hl := lv_sub (l' := [(0, .ref o), (1, .int x1), (2, .int 1), (3, .int x_15)]) hl [1, 2, 3, 0] rfl
          have hP : va_P g.1 vwCl (List.flatten [bTown g o a pe wo tx ch jo tr dy sd f_2]) H := hP
          have hD : va_D A (List.flatten [bTown g o a pe wo tx ch jo tr dy sd f_2]) := hD
          exact ih2_7 x_15 f_2 ⟨(Int.le_trans (by decide) hx_15.2.1), hx_15.2.2⟩ rf_2 (zIt_s i4 hx_15.1 (by omega) (zSp_s (by omega))) (by first | omega | assumption | decide) H _ ls (zmK hx_15.1 (by decide) n12 (by decide) hk2_7)  hP hD hS (lv_sub hl [0, 1, 2, 3] rfl)
        · skip
          have c16 : ¬ x_1.toInt = x1.toInt := zne cb9 rfl rfl
          refine lv_aload_n hx hb dX9_spread_15 rfl (lv_at hl 0 rfl) ?_
          refine lv_iload_n hx hb dX9_spread_16 rfl (lv_at hl 3 rfl) ?_
          refine mcallV' (g := g) (q0 := 0) (ci := 7) (As := [.int x_1]) (rest := []) St hK hT hA hP hD hS hl.1 [0] [] rfl rfl rfl (c_isHereF l g o a pe wo tx ch jo tr dy sd f_2 x_1 (⟨i3.1, n12⟩)) (cwV 1 hts (zgL (zl4 k53 k54 k55 k24) k51) rfl rfl rfl (by decide +kernel) ⟨Nat.le_of_ble_eq_true rfl, Nat.le_of_ble_eq_true rfl⟩) rfl rfl rfl rfl (Nat.le_of_ble_eq_true rfl) dX9_spread_17 ⟨(Nat.le_of_ble_eq_true rfl), (Nat.le_of_ble_eq_true rfl)⟩ (fun q_17 H locs hq18 hP hD hS => ?_)
          replace hq18 : (q_17 = 1 ∧ (f_2 3 x_1.toInt.toNat).toInt = -1 ∨ q_17 = 0 ∧ ¬ (f_2 3 x_1.toInt.toNat).toInt = -1) := hq18
          have hP : va_P g.1 vwCl (List.flatten [bTown g o a pe wo tx ch jo tr dy sd f_2]) H := hP
          have hD : va_D A (List.flatten [bTown g o a pe wo tx ch jo tr dy sd f_2]) := hD
          refine W.widen (k := 0) (n := 0) (Nat.le_of_ble_eq_true rfl) (Nat.le_of_ble_eq_true rfl) ?_
          refine W.eq (g2 := F0 m 20 ls [.int q_17]) rfl ?_
          rcases hq18 with ⟨rfl, hq18_k⟩ | ⟨rfl, hq18_k⟩
          · skip
            refine lv_if_eq (tgt := 48) hx hb dX9_spread_20 (by decide) (fun c19 => absurd c19 (by decide)) (fun _ => ?_)
            refine lv_aload_n hx hb dX9_spread_23 rfl (lv_at hl 0 rfl) ?_
            refine lv_iload_n hx hb dX9_spread_24 rfl (lv_at hl 3 rfl) ?_
            refine lv_iload_n hx hb dX9_spread_25 rfl (lv_at hl 2 rfl) ?_
            refine lv_if_eq (tgt := 38) hx hb dX9_spread_26 (by decide) (fun c20 => absurd c20 (by decide)) (fun _ => ?_)
            refine lv_aload_n hx hb dX9_spread_29 rfl (lv_at hl 0 rfl) ?_
            refine lv_iload_n hx hb dX9_spread_30 rfl (lv_at hl 3 rfl) ?_
            refine lv_iload_n hx hb dX9_spread_31 rfl (lv_at hl 1 rfl) ?_
            refine mcallV' (g := g) (q0 := 0) (ci := 7) (As := [.int x_1, .int x1]) (rest := [.int x_1, .ref o]) St hK hT hA hP hD hS hl.1 [0] [] rfl rfl rfl (c_trustOfF l g o a pe wo tx ch jo tr dy sd f_2 x_1 x1 (⟨i3.1, n12⟩) b_x1) (cwV 2 hts (zgL (zl4 k89 k90 k91 k24) k87) rfl rfl rfl (by decide +kernel) ⟨Nat.le_of_ble_eq_true rfl, Nat.le_of_ble_eq_true rfl⟩) rfl rfl rfl rfl (Nat.le_of_ble_eq_true rfl) dX9_spread_32 ⟨(Nat.le_of_ble_eq_true rfl), (Nat.le_of_ble_eq_true rfl)⟩ (fun _u H locs hq21 hP hD hS => ?_)
            have hP : va_P g.1 vwCl (List.flatten [bTown g o a pe wo tx ch jo tr dy sd f_2]) H := hP
            have hD : va_D A (List.flatten [bTown g o a pe wo tx ch jo tr dy sd f_2]) := hD
            refine W.widen (k := 0) (n := 0) (Nat.le_of_ble_eq_true rfl) (Nat.le_of_ble_eq_true rfl) ?_
            refine W.eq (g2 := F0 m 35 ls [.int (f_2 5 (8 * x_1.toInt.toNat + x1.toInt.toNat)), .int x_1, .ref o]) rfl ?_
            refine lv_goto (tgt := 45) hx hb dX9_spread_35 (by decide) ?_
            refine mcallV' (g := g) (q0 := 0) (ci := 7) (As := [.int x_1, .int (f_2 5 (8 * x_1.toInt.toNat + x1.toInt.toNat))]) (rest := []) St hK hT hA hP hD hS hl.1 [0] [] rfl rfl rfl (c_raiseF l g o a pe wo tx ch jo tr dy sd f_2 x_1 (f_2 5 (8 * x_1.toInt.toNat + x1.toInt.toNat)) rf_2 (⟨i3.1, n12⟩)) (cwV 2 hts (zgL (zl4 k131 k132 k133 k24) k47) rfl rfl rfl (by decide +kernel) ⟨Nat.le_of_ble_eq_true rfl, Nat.le_of_ble_eq_true rfl⟩) rfl rfl rfl rfl (Nat.le_of_ble_eq_true rfl) dX9_spread_45 ⟨(Nat.le_of_ble_eq_true rfl), (Nat.le_of_ble_eq_true rfl)⟩ (fun f2_22 H locs hq23 hP hD hS => ?_)
            replace hq23 : (zZ4 f2_22) ∧ (f2_22 = zSet f_2 0 (x_1.toInt.toNat) (zCl (f_2 0 x_1.toInt.toNat + (f_2 5 (8 * x_1.toInt.toNat + x1.toInt.toNat))))) := hq23
            have hP : va_P g.1 vwCl (List.flatten [bTown g o a pe wo tx ch jo tr dy sd f2_22]) H := hP
            have hD : va_D A (List.flatten [bTown g o a pe wo tx ch jo tr dy sd f2_22]) := hD
            refine W.widen (k := 0) (n := 0) (Nat.le_of_ble_eq_true rfl) (Nat.le_of_ble_eq_true rfl) ?_
            refine W.eq (g2 := F0 m 48 ls []) rfl ?_
            obtain ⟨rf2_22, hq23_1⟩ := hq23
            refine ziinc3 (n' := 1) (a' := 1) (b' := 8) (lv' := fun v9 => [(3, .int v9), (0, .ref o), (1, .int x1), (2, .int 1)]) hx hb dX9_spread_48 hl (k := 3) rfl (by decide) (fun _ => rfl) (zaddK (i := x_1.toInt) (j := 1) rfl (by decide) i3.1 n12 (Int.le_refl _) (Int.le_refl _) (by decide)) (fun x_24 ls hx_24 hl => ?_)
            refine lv_goto (tgt := 2) hx hb dX9_spread_51 (by decide) ?_
            have hl := lv_sub (l' := [(0, .ref o), (1, .int x1), (2, .int 1), (3, .int x_24)]) hl [1, 2, 3, 0] rfl
            have hP : va_P g.1 vwCl (List.flatten [bTown g o a pe wo tx ch jo tr dy sd f2_22]) H := hP
            have hD : va_D A (List.flatten [bTown g o a pe wo tx ch jo tr dy sd f2_22]) := hD
            exact ih2_7 x_24 f2_22 ⟨(Int.le_trans (by decide) hx_24.2.1), hx_24.2.2⟩ rf2_22 (zIt_s i4 hx_24.1 (by omega) (zSp_t (by omega) hq18_k hq23_1)) (by first | omega | assumption | decide) H _ ls (zmK hx_24.1 (by decide) n12 (by decide) hk2_7)  hP hD hS (lv_sub hl [0, 1, 2, 3] rfl)
          · skip
            refine lv_if_eq (tgt := 48) hx hb dX9_spread_20 (by decide) (fun _ => ?_) (fun c25 => absurd (by decide) c25)
            refine ziinc3 (n' := 1) (a' := 1) (b' := 8) (lv' := fun v9 => [(3, .int v9), (0, .ref o), (1, .int x1), (2, .int 1)]) hx hb dX9_spread_48 hl (k := 3) rfl (by decide) (fun _ => rfl) (zaddK (i := x_1.toInt) (j := 1) rfl (by decide) i3.1 n12 (Int.le_refl _) (Int.le_refl _) (by decide)) (fun x_26 ls hx_26 hl => ?_)
            refine lv_goto (tgt := 2) hx hb dX9_spread_51 (by decide) ?_
            have hl := lv_sub (l' := [(0, .ref o), (1, .int x1), (2, .int 1), (3, .int x_26)]) hl [1, 2, 3, 0] rfl
            have hP : va_P g.1 vwCl (List.flatten [bTown g o a pe wo tx ch jo tr dy sd f_2]) H := hP
            have hD : va_D A (List.flatten [bTown g o a pe wo tx ch jo tr dy sd f_2]) := hD
            exact ih2_7 x_26 f_2 ⟨(Int.le_trans (by decide) hx_26.2.1), hx_26.2.2⟩ rf_2 (zIt_s i4 hx_26.1 (by omega) (zSp_a (by omega) hq18_k)) (by first | omega | assumption | decide) H _ ls (zmK hx_26.1 (by decide) n12 (by decide) hk2_7)  hP hD hS (lv_sub hl [0, 1, 2, 3] rfl)
  have hL0 : (0 : Int32).toInt = 0 := by decide
  have hP : va_P g.1 vwCl (List.flatten [bTown g o a pe wo tx ch jo tr dy sd f]) s.heap := hP
  have hD : va_D A (List.flatten [bTown g o a pe wo tx ch jo tr dy sd f]) := hD
  exact LP2_6 _ 0 f (by decide) rf (zIt_0 (by decide) rfl) (by first | omega | assumption | decide) s.heap _ ls (Nat.lt_succ_self _)  hP hD hS (lv_sub hl [0, 1, 2, 3] rfl)
set_option maxRecDepth 100000 in
set_option maxHeartbeats 4000000 in
theorem c_spread0F (l : Launch) (g : zG) (o : Nat) (a : Nat → Nat) (pe : Int32) (wo : Int32) (tx : Int32) (ch : Int32) (jo : Int32) (tr : Int32) (dy : Int32) (sd : Int32) (f : Nat → Nat → Int32) (x1 : Int32) (b_pe : 0 ≤ pe.toInt ∧ pe.toInt ≤ 8) (b_wo : 0 ≤ wo.toInt ∧ wo.toInt ≤ 6) (rf : zZ4 f) (b_x1 : 0 ≤ x1.toInt ∧ x1.toInt ≤ 7) : zM' g l yX9_spread (Cond.code yX9_spread cX9_spread 4 none :: zB) ({ frames := 3, cells := 0, slots := 0, locals := 57 } : Room) [.ref o, .int x1, .int 0] [bTown g o a pe wo tx ch jo tr dy sd f] (fun (f2 : Nat → Nat → Int32) => none) (fun (f2 : Nat → Nat → Int32) => (zZ4 f2) ∧ (f2 = zSpr pe.toInt.toNat x1.toInt.toNat false f)) (fun (f2 : Nat → Nat → Int32) => [bTown g o a pe wo tx ch jo tr dy sd f2]) := by
  refine zM'.of (cc := cX9_spread) (maxL := 4) (rt := none) (by decide) rfl (Nat.le_of_ble_eq_true rfl) ?_
  intro p e s m args below meth c A ls St hr hlocks hin hK hT hA hP hD hS hl
  obtain ⟨hx, hb, hml, hown, hts⟩ := id St
  have hl : lv_has ls 4 [(0, .ref o), (1, .int x1), (2, .int 0)] := hl
  refine lv_iconst (v := 0) hx hb dX9_spread_0 (by decide) ?_
  refine lv_istore_n (lv' := [(3, .int 0), (0, .ref o), (1, .int x1), (2, .int 0)]) hx hb dX9_spread_1 rfl hl (by decide) rfl (fun ls hl => ?_)
  have hl := lv_sub (l' := [(0, .ref o), (1, .int x1), (2, .int 0), (3, .int 0)]) hl [1, 2, 3, 0] rfl
  have LP2_6 : ∀ (kf : Nat) (x_1 : Int32) (f_2 : Nat → Nat → Int32), (0 ≤ x_1.toInt ∧ x_1.toInt ≤ 8) → (zZ4 f_2) → (f_2 = zIt (zSp1 x1.toInt.toNat false) f x_1.toInt.toNat) → (x_1.toInt ≤ pe.toInt) → ∀ (H : Heap) (locs : List Loc) (ls : Array Slot), ((9 - x_1.toInt).toNat) < kf → va_P g.1 vwCl (List.flatten [bTown g o a pe wo tx ch jo tr dy sd f_2]) H → va_D A (List.flatten [bTown g o a pe wo tx ch jo tr dy sd f_2]) → va_S A s.heap H locs → lv_has ls 4 [(0, .ref o), (1, .int x1), (2, .int 0), (3, .int x_1)] → W p l e ({ frames := 3, cells := 0, slots := 0, locals := 57 } : Room) s m args below meth c H locs (0) (0) (zF g (fun (f2 : Nat → Nat → Int32) => none) (fun (f2 : Nat → Nat → Int32) => (zZ4 f2) ∧ (f2 = zSpr pe.toInt.toNat x1.toInt.toNat false f)) (fun (f2 : Nat → Nat → Int32) => [bTown g o a pe wo tx ch jo tr dy sd f2]) ({ frames := 3, cells := 0, slots := 0, locals := 57 } : Room) below args s A) (F0 m 2 ls []) := by
    intro kf
    induction kf with
    | zero => intro x_1 f_2 i3 rf_2 i4 i5 H locs ls hk; exact absurd hk (Nat.not_lt_zero _)
    | succ kf ih2_7 =>
      intro x_1 f_2 i3 rf_2 i4 i5 H locs ls hk2_7 hP hD hS hl
      refine lv_iload_n hx hb dX9_spread_2 rfl (lv_at hl 3 rfl) ?_
      refine lv_aload_n hx hb dX9_spread_3 rfl (lv_at hl 0 rfl) ?_
      refine va_get (D := g.1) (ci := 7) (v := .int pe) (C := RX9) (T := TX9) (N := 19) hx hb hts izRX9 hown hK hP 0 rfl rfl 0 (by decide) (hts _ k31) (fun _ h9 => h9) rfl dX9_spread_4 ?_
      refine lv_icmp_ge (tgt := 54) hx hb dX9_spread_7 (by decide) (fun cb9 => ?_) (fun cb9 => ?_)
      · skip
        have c8 : pe.toInt ≤ x_1.toInt := zle cb9 rfl rfl
        refine lv_aload_n hx hb dX9_spread_54 rfl (lv_at hl 0 rfl) ?_
        refine va_get (D := g.1) (ci := 7) (v := .ref (a 0)) (C := RX9) (T := TX9) (N := 19) hx hb hts izRX9 hown hK hP 0 rfl rfl 8 (by decide) (hts _ k9) (fun _ h9 => h9) rfl dX9_spread_55 ?_
        refine lv_iload_n hx hb dX9_spread_58 rfl (lv_at hl 1 rfl) ?_
        refine lv_iload_n hx hb dX9_spread_59 rfl (lv_at hl 2 rfl) ?_
        refine lv_if_eq (tgt := 68) hx hb dX9_spread_60 (by decide) (fun _ => ?_) (fun c9 => absurd (by decide) c9)
        refine lv_iconst (v := 0) hx hb dX9_spread_68 (by decide) ?_
        refine va_iast hx hb hK hP hD hS 1 0 rfl rfl (zinK (a := 0) (b := 7) b_x1.1 b_x1.2 (by decide)) dX9_spread_69 (fun H locs hP hD hS => ?_)
        obtain ⟨f10, rf10, ef10, hP, hD⟩ : ∃ f10 : Nat → Nat → Int32, zZ4 f10 ∧ f10 = zSet f_2 0 x1.toInt.toNat 0 ∧ va_P g.1 vwCl (List.flatten [bTown g o a pe wo tx ch jo tr dy sd f10]) H ∧ va_D A (List.flatten [bTown g o a pe wo tx ch jo tr dy sd f10]) := ⟨zu f_2 0 (upd (f_2 0) x1.toNatClampNeg 0), (zZ4_u rf_2 (by decide)), rfl, hP, hD⟩
        have hP : va_P g.1 vwCl (List.flatten [bTown g o a pe wo tx ch jo tr dy sd f10]) H := hP
        have hD : va_D A (List.flatten [bTown g o a pe wo tx ch jo tr dy sd f10]) := hD
        exact mret_v hx hb hr hlocks hS (Nat.le_of_ble_eq_true rfl) (Nat.le_of_ble_eq_true rfl) dX9_spread_70 (f10) rfl (show (zZ4 f10) ∧ (f10 = zSpr pe.toInt.toNat x1.toInt.toNat false f) from ⟨(by assumption), (by rw [ef10, zIt_x (b := pe) i4 (by omega)]; rfl)⟩) hP hD
      · skip
        have c11 : x_1.toInt < pe.toInt := zlti (Int32.not_le.mp cb9) rfl rfl
        have n12 : x_1.toInt ≤ 7 := zL1 (b := 8) c11 b_pe.2 (by decide)
        have n13 : 1 ≤ pe.toInt := zL2 (a := 0) c11 i3.1 (by decide)
        refine lv_iload_n hx hb dX9_spread_10 rfl (lv_at hl 3 rfl) ?_
        refine lv_iload_n hx hb dX9_spread_11 rfl (lv_at hl 1 rfl) ?_
        refine lv_icmp_eq (tgt := 48) hx hb dX9_spread_12 (by decide) (fun cb9 => ?_) (fun cb9 => ?_)
        · skip
          have c14 : x_1.toInt = x1.toInt := zeq cb9 rfl rfl
          refine ziinc3 (n' := 1) (a' := 1) (b' := 8) (lv' := fun v9 => [(3, .int v9), (0, .ref o), (1, .int x1), (2, .int 0)]) hx hb dX9_spread_48 hl (k := 3) rfl (by decide) (fun _ => rfl) (zaddK (i := x_1.toInt) (j := 1) rfl (by decide) i3.1 n12 (Int.le_refl _) (Int.le_refl _) (by decide)) (fun x_15 ls hx_15 hl => ?_)
          refine lv_goto (tgt := 2) hx hb dX9_spread_51 (by decide) ?_
          have hl := lv_sub (l' := [(0, .ref o), (1, .int x1), (2, .int 0), (3, .int x_15)]) hl [1, 2, 3, 0] rfl
          have hP : va_P g.1 vwCl (List.flatten [bTown g o a pe wo tx ch jo tr dy sd f_2]) H := hP
          have hD : va_D A (List.flatten [bTown g o a pe wo tx ch jo tr dy sd f_2]) := hD
          exact ih2_7 x_15 f_2 ⟨(Int.le_trans (by decide) hx_15.2.1), hx_15.2.2⟩ rf_2 (zIt_s i4 hx_15.1 (by omega) (zSp_s (by omega))) (by first | omega | assumption | decide) H _ ls (zmK hx_15.1 (by decide) n12 (by decide) hk2_7)  hP hD hS (lv_sub hl [0, 1, 2, 3] rfl)
        · skip
          have c16 : ¬ x_1.toInt = x1.toInt := zne cb9 rfl rfl
          refine lv_aload_n hx hb dX9_spread_15 rfl (lv_at hl 0 rfl) ?_
          refine lv_iload_n hx hb dX9_spread_16 rfl (lv_at hl 3 rfl) ?_
          refine mcallV' (g := g) (q0 := 0) (ci := 7) (As := [.int x_1]) (rest := []) St hK hT hA hP hD hS hl.1 [0] [] rfl rfl rfl (c_isHereF l g o a pe wo tx ch jo tr dy sd f_2 x_1 (⟨i3.1, n12⟩)) (cwV 1 hts (zgL (zl4 k53 k54 k55 k24) k51) rfl rfl rfl (by decide +kernel) ⟨Nat.le_of_ble_eq_true rfl, Nat.le_of_ble_eq_true rfl⟩) rfl rfl rfl rfl (Nat.le_of_ble_eq_true rfl) dX9_spread_17 ⟨(Nat.le_of_ble_eq_true rfl), (Nat.le_of_ble_eq_true rfl)⟩ (fun q_17 H locs hq18 hP hD hS => ?_)
          replace hq18 : (q_17 = 1 ∧ (f_2 3 x_1.toInt.toNat).toInt = -1 ∨ q_17 = 0 ∧ ¬ (f_2 3 x_1.toInt.toNat).toInt = -1) := hq18
          have hP : va_P g.1 vwCl (List.flatten [bTown g o a pe wo tx ch jo tr dy sd f_2]) H := hP
          have hD : va_D A (List.flatten [bTown g o a pe wo tx ch jo tr dy sd f_2]) := hD
          refine W.widen (k := 0) (n := 0) (Nat.le_of_ble_eq_true rfl) (Nat.le_of_ble_eq_true rfl) ?_
          refine W.eq (g2 := F0 m 20 ls [.int q_17]) rfl ?_
          rcases hq18 with ⟨rfl, hq18_k⟩ | ⟨rfl, hq18_k⟩
          · skip
            refine lv_if_eq (tgt := 48) hx hb dX9_spread_20 (by decide) (fun c19 => absurd c19 (by decide)) (fun _ => ?_)
            refine lv_aload_n hx hb dX9_spread_23 rfl (lv_at hl 0 rfl) ?_
            refine lv_iload_n hx hb dX9_spread_24 rfl (lv_at hl 3 rfl) ?_
            refine lv_iload_n hx hb dX9_spread_25 rfl (lv_at hl 2 rfl) ?_
            refine lv_if_eq (tgt := 38) hx hb dX9_spread_26 (by decide) (fun _ => ?_) (fun c20 => absurd (by decide) c20)
            refine lv_aload_n hx hb dX9_spread_38 rfl (lv_at hl 0 rfl) ?_
            refine lv_iload_n hx hb dX9_spread_39 rfl (lv_at hl 3 rfl) ?_
            refine lv_iload_n hx hb dX9_spread_40 rfl (lv_at hl 1 rfl) ?_
            refine mcallV' (g := g) (q0 := 0) (ci := 7) (As := [.int x_1, .int x1]) (rest := [.int x_1, .ref o]) St hK hT hA hP hD hS hl.1 [0] [] rfl rfl rfl (c_trustOfF l g o a pe wo tx ch jo tr dy sd f_2 x_1 x1 (⟨i3.1, n12⟩) b_x1) (cwV 2 hts (zgL (zl4 k89 k90 k91 k24) k87) rfl rfl rfl (by decide +kernel) ⟨Nat.le_of_ble_eq_true rfl, Nat.le_of_ble_eq_true rfl⟩) rfl rfl rfl rfl (Nat.le_of_ble_eq_true rfl) dX9_spread_41 ⟨(Nat.le_of_ble_eq_true rfl), (Nat.le_of_ble_eq_true rfl)⟩ (fun _u H locs hq21 hP hD hS => ?_)
            have hP : va_P g.1 vwCl (List.flatten [bTown g o a pe wo tx ch jo tr dy sd f_2]) H := hP
            have hD : va_D A (List.flatten [bTown g o a pe wo tx ch jo tr dy sd f_2]) := hD
            refine W.widen (k := 0) (n := 0) (Nat.le_of_ble_eq_true rfl) (Nat.le_of_ble_eq_true rfl) ?_
            refine W.eq (g2 := F0 m 44 ls [.int (f_2 5 (8 * x_1.toInt.toNat + x1.toInt.toNat)), .int x_1, .ref o]) rfl ?_
            refine lv_ineg hx hb dX9_spread_44 ?_
            refine mcallV' (g := g) (q0 := 0) (ci := 7) (As := [.int x_1, .int (-(f_2 5 (8 * x_1.toInt.toNat + x1.toInt.toNat)))]) (rest := []) St hK hT hA hP hD hS hl.1 [0] [] rfl rfl rfl (c_raiseF l g o a pe wo tx ch jo tr dy sd f_2 x_1 (-(f_2 5 (8 * x_1.toInt.toNat + x1.toInt.toNat))) rf_2 (⟨i3.1, n12⟩)) (cwV 2 hts (zgL (zl4 k131 k132 k133 k24) k47) rfl rfl rfl (by decide +kernel) ⟨Nat.le_of_ble_eq_true rfl, Nat.le_of_ble_eq_true rfl⟩) rfl rfl rfl rfl (Nat.le_of_ble_eq_true rfl) dX9_spread_45 ⟨(Nat.le_of_ble_eq_true rfl), (Nat.le_of_ble_eq_true rfl)⟩ (fun f2_22 H locs hq23 hP hD hS => ?_)
            replace hq23 : (zZ4 f2_22) ∧ (f2_22 = zSet f_2 0 (x_1.toInt.toNat) (zCl (f_2 0 x_1.toInt.toNat + (-(f_2 5 (8 * x_1.toInt.toNat + x1.toInt.toNat)))))) := hq23
            have hP : va_P g.1 vwCl (List.flatten [bTown g o a pe wo tx ch jo tr dy sd f2_22]) H := hP
            have hD : va_D A (List.flatten [bTown g o a pe wo tx ch jo tr dy sd f2_22]) := hD
            refine W.widen (k := 0) (n := 0) (Nat.le_of_ble_eq_true rfl) (Nat.le_of_ble_eq_true rfl) ?_
            refine W.eq (g2 := F0 m 48 ls []) rfl ?_
            obtain ⟨rf2_22, hq23_1⟩ := hq23
            refine ziinc3 (n' := 1) (a' := 1) (b' := 8) (lv' := fun v9 => [(3, .int v9), (0, .ref o), (1, .int x1), (2, .int 0)]) hx hb dX9_spread_48 hl (k := 3) rfl (by decide) (fun _ => rfl) (zaddK (i := x_1.toInt) (j := 1) rfl (by decide) i3.1 n12 (Int.le_refl _) (Int.le_refl _) (by decide)) (fun x_24 ls hx_24 hl => ?_)
            refine lv_goto (tgt := 2) hx hb dX9_spread_51 (by decide) ?_
            have hl := lv_sub (l' := [(0, .ref o), (1, .int x1), (2, .int 0), (3, .int x_24)]) hl [1, 2, 3, 0] rfl
            have hP : va_P g.1 vwCl (List.flatten [bTown g o a pe wo tx ch jo tr dy sd f2_22]) H := hP
            have hD : va_D A (List.flatten [bTown g o a pe wo tx ch jo tr dy sd f2_22]) := hD
            exact ih2_7 x_24 f2_22 ⟨(Int.le_trans (by decide) hx_24.2.1), hx_24.2.2⟩ rf2_22 (zIt_s i4 hx_24.1 (by omega) (zSp_f (by omega) hq18_k hq23_1)) (by first | omega | assumption | decide) H _ ls (zmK hx_24.1 (by decide) n12 (by decide) hk2_7)  hP hD hS (lv_sub hl [0, 1, 2, 3] rfl)
          · skip
            refine lv_if_eq (tgt := 48) hx hb dX9_spread_20 (by decide) (fun _ => ?_) (fun c25 => absurd (by decide) c25)
            refine ziinc3 (n' := 1) (a' := 1) (b' := 8) (lv' := fun v9 => [(3, .int v9), (0, .ref o), (1, .int x1), (2, .int 0)]) hx hb dX9_spread_48 hl (k := 3) rfl (by decide) (fun _ => rfl) (zaddK (i := x_1.toInt) (j := 1) rfl (by decide) i3.1 n12 (Int.le_refl _) (Int.le_refl _) (by decide)) (fun x_26 ls hx_26 hl => ?_)
            refine lv_goto (tgt := 2) hx hb dX9_spread_51 (by decide) ?_
            have hl := lv_sub (l' := [(0, .ref o), (1, .int x1), (2, .int 0), (3, .int x_26)]) hl [1, 2, 3, 0] rfl
            have hP : va_P g.1 vwCl (List.flatten [bTown g o a pe wo tx ch jo tr dy sd f_2]) H := hP
            have hD : va_D A (List.flatten [bTown g o a pe wo tx ch jo tr dy sd f_2]) := hD
            exact ih2_7 x_26 f_2 ⟨(Int.le_trans (by decide) hx_26.2.1), hx_26.2.2⟩ rf_2 (zIt_s i4 hx_26.1 (by omega) (zSp_a (by omega) hq18_k)) (by first | omega | assumption | decide) H _ ls (zmK hx_26.1 (by decide) n12 (by decide) hk2_7)  hP hD hS (lv_sub hl [0, 1, 2, 3] rfl)
  have hL0 : (0 : Int32).toInt = 0 := by decide
  have hP : va_P g.1 vwCl (List.flatten [bTown g o a pe wo tx ch jo tr dy sd f]) s.heap := hP
  have hD : va_D A (List.flatten [bTown g o a pe wo tx ch jo tr dy sd f]) := hD
  exact LP2_6 _ 0 f (by decide) rf (zIt_0 (by decide) rfl) (by first | omega | assumption | decide) s.heap _ ls (Nat.lt_succ_self _)  hP hD hS (lv_sub hl [0, 1, 2, 3] rfl)
set_option maxRecDepth 100000 in
set_option maxHeartbeats 4000000 in
theorem c_comeBackF (l : Launch) (g : zG) (o : Nat) (a : Nat → Nat) (pe : Int32) (wo : Int32) (tx : Int32) (ch : Int32) (jo : Int32) (tr : Int32) (dy : Int32) (sd : Int32) (f : Nat → Nat → Int32) (go : Nat) (gr : Nat) (gz : Int32) (gn : Int32) (fr : Nat → Int32) (tl : Int32) (b_pe : 0 ≤ pe.toInt ∧ pe.toInt ≤ 8) (b_wo : 0 ≤ wo.toInt ∧ wo.toInt ≤ 6) (rf : zZ4 f) (b_gz : 0 ≤ gz.toInt ∧ gz.toInt ≤ 60) (b_gn : 0 ≤ gn.toInt ∧ gn.toInt ≤ 59) : zM' g l yX9_comeBack (Cond.code yX9_comeBack cX9_comeBack 5 none :: zB) ({ frames := 4, cells := 0, slots := 0, locals := 80 } : Room) [.ref o, .int tl, .ref go] [bTown g o a pe wo tx ch jo tr dy sd f, bLog g go gr gz gn fr] (fun u : Int32 × (Nat → Nat → Int32) × Int32 × Int32 × (Nat → Int32) => (fun (sd2 : Int32) (f2 : Nat → Nat → Int32) (gz2 : Int32) (gn2 : Int32) (fr2 : Nat → Int32) => none) (u.1) (u.2.1) (u.2.2.1) (u.2.2.2.1) (u.2.2.2.2)) (fun u : Int32 × (Nat → Nat → Int32) × Int32 × Int32 × (Nat → Int32) => (fun (sd2 : Int32) (f2 : Nat → Nat → Int32) (gz2 : Int32) (gn2 : Int32) (fr2 : Nat → Int32) => (zZ4 f2) ∧ (0 ≤ gz2.toInt ∧ gz2.toInt ≤ 60) ∧ (0 ≤ gn2.toInt ∧ gn2.toInt ≤ 59) ∧ ((f2, sd2) = zIt (zCB1 pe.toInt.toNat dy tr tl) (f, sd) pe.toInt.toNat)) (u.1) (u.2.1) (u.2.2.1) (u.2.2.2.1) (u.2.2.2.2)) (fun u : Int32 × (Nat → Nat → Int32) × Int32 × Int32 × (Nat → Int32) => (fun (sd2 : Int32) (f2 : Nat → Nat → Int32) (gz2 : Int32) (gn2 : Int32) (fr2 : Nat → Int32) => [bTown g o a pe wo tx ch jo tr dy sd2 f2, bLog g go gr gz2 gn2 fr2]) (u.1) (u.2.1) (u.2.2.1) (u.2.2.2.1) (u.2.2.2.2)) := by
  refine zM'.of (cc := cX9_comeBack) (maxL := 5) (rt := none) (by decide) rfl (Nat.le_of_ble_eq_true rfl) ?_
  intro p e s m args below meth c A ls St hr hlocks hin hK hT hA hP hD hS hl
  obtain ⟨hx, hb, hml, hown, hts⟩ := id St
  have hl : lv_has ls 5 [(0, .ref o), (1, .int tl), (2, .ref go)] := hl
  refine lv_iconst (v := 0) hx hb dX9_comeBack_0 (by decide) ?_
  refine lv_istore_n (lv' := [(3, .int 0), (0, .ref o), (1, .int tl), (2, .ref go)]) hx hb dX9_comeBack_1 rfl hl (by decide) rfl (fun ls hl => ?_)
  have hl := lv_sub (l' := [(0, .ref o), (1, .int tl), (2, .ref go), (3, .int 0)]) hl [1, 2, 3, 0] rfl
  have LP2_12 : ∀ (kf : Nat) (x_1 : Int32) (x_2 : Int32) (f_3 : Nat → Nat → Int32) (x_4 : Int32) (x_5 : Int32) (fr_6 : Nat → Int32), (0 ≤ x_1.toInt ∧ x_1.toInt ≤ 8) → (zZ4 f_3) → (0 ≤ x_4.toInt ∧ x_4.toInt ≤ 60) → (0 ≤ x_5.toInt ∧ x_5.toInt ≤ 59) → ((f_3, x_2) = zIt (zCB1 pe.toInt.toNat dy tr tl) (f, sd) x_1.toInt.toNat) → (x_1.toInt ≤ pe.toInt) → ∀ (H : Heap) (locs : List Loc) (ls : Array Slot), ((9 - x_1.toInt).toNat) < kf → va_P g.1 vwCl (List.flatten [bTown g o a pe wo tx ch jo tr dy x_2 f_3, bLog g go gr x_4 x_5 fr_6]) H → va_D A (List.flatten [bTown g o a pe wo tx ch jo tr dy x_2 f_3, bLog g go gr x_4 x_5 fr_6]) → va_S A s.heap H locs → lv_has ls 5 [(0, .ref o), (1, .int tl), (2, .ref go), (3, .int x_1)] → W p l e ({ frames := 4, cells := 0, slots := 0, locals := 80 } : Room) s m args below meth c H locs (0) (0) (zF g (fun u : Int32 × (Nat → Nat → Int32) × Int32 × Int32 × (Nat → Int32) => (fun (sd2 : Int32) (f2 : Nat → Nat → Int32) (gz2 : Int32) (gn2 : Int32) (fr2 : Nat → Int32) => none) (u.1) (u.2.1) (u.2.2.1) (u.2.2.2.1) (u.2.2.2.2)) (fun u : Int32 × (Nat → Nat → Int32) × Int32 × Int32 × (Nat → Int32) => (fun (sd2 : Int32) (f2 : Nat → Nat → Int32) (gz2 : Int32) (gn2 : Int32) (fr2 : Nat → Int32) => (zZ4 f2) ∧ (0 ≤ gz2.toInt ∧ gz2.toInt ≤ 60) ∧ (0 ≤ gn2.toInt ∧ gn2.toInt ≤ 59) ∧ ((f2, sd2) = zIt (zCB1 pe.toInt.toNat dy tr tl) (f, sd) pe.toInt.toNat)) (u.1) (u.2.1) (u.2.2.1) (u.2.2.2.1) (u.2.2.2.2)) (fun u : Int32 × (Nat → Nat → Int32) × Int32 × Int32 × (Nat → Int32) => (fun (sd2 : Int32) (f2 : Nat → Nat → Int32) (gz2 : Int32) (gn2 : Int32) (fr2 : Nat → Int32) => [bTown g o a pe wo tx ch jo tr dy sd2 f2, bLog g go gr gz2 gn2 fr2]) (u.1) (u.2.1) (u.2.2.1) (u.2.2.2.1) (u.2.2.2.2)) ({ frames := 4, cells := 0, slots := 0, locals := 80 } : Room) below args s A) (F0 m 2 ls []) := by
    intro kf
    induction kf with
    | zero => intro x_1 x_2 f_3 x_4 x_5 fr_6 i7 rf_3 i8 i9 i10 i11 H locs ls hk; exact absurd hk (Nat.not_lt_zero _)
    | succ kf ih2_13 =>
      intro x_1 x_2 f_3 x_4 x_5 fr_6 i7 rf_3 i8 i9 i10 i11 H locs ls hk2_13 hP hD hS hl
      refine lv_iload_n hx hb dX9_comeBack_2 rfl (lv_at hl 3 rfl) ?_
      refine lv_aload_n hx hb dX9_comeBack_3 rfl (lv_at hl 0 rfl) ?_
      refine va_get (D := g.1) (ci := 7) (v := .int pe) (C := RX9) (T := TX9) (N := 19) hx hb hts izRX9 hown hK hP 0 rfl rfl 0 (by decide) (hts _ k31) (fun _ h9 => h9) rfl dX9_comeBack_4 ?_
      refine lv_icmp_ge (tgt := 92) hx hb dX9_comeBack_7 (by decide) (fun cb9 => ?_) (fun cb9 => ?_)
      · skip
        have c14 : pe.toInt ≤ x_1.toInt := zle cb9 rfl rfl
        have hP : va_P g.1 vwCl (List.flatten [bTown g o a pe wo tx ch jo tr dy x_2 f_3, bLog g go gr x_4 x_5 fr_6]) H := hP
        have hD : va_D A (List.flatten [bTown g o a pe wo tx ch jo tr dy x_2 f_3, bLog g go gr x_4 x_5 fr_6]) := hD
        exact mret_v hx hb hr hlocks hS (Nat.le_of_ble_eq_true rfl) (Nat.le_of_ble_eq_true rfl) dX9_comeBack_92 (x_2, f_3, x_4, x_5, fr_6) rfl (show (zZ4 f_3) ∧ (0 ≤ x_4.toInt ∧ x_4.toInt ≤ 60) ∧ (0 ≤ x_5.toInt ∧ x_5.toInt ≤ 59) ∧ ((f_3, x_2) = zIt (zCB1 pe.toInt.toNat dy tr tl) (f, sd) pe.toInt.toNat) from ⟨(by first | assumption | omega), (by first | assumption | omega), (by first | assumption | omega), (zIt_x i10 (by omega))⟩) hP hD
      · skip
        have c15 : x_1.toInt < pe.toInt := zlti (Int32.not_le.mp cb9) rfl rfl
        have n16 : x_1.toInt ≤ 7 := zL1 (b := 8) c15 b_pe.2 (by decide)
        have n17 : 1 ≤ pe.toInt := zL2 (a := 0) c15 i7.1 (by decide)
        refine lv_aload_n hx hb dX9_comeBack_10 rfl (lv_at hl 0 rfl) ?_
        refine lv_iload_n hx hb dX9_comeBack_11 rfl (lv_at hl 3 rfl) ?_
        refine mcallV' (g := g) (q0 := 0) (ci := 7) (As := [.int x_1]) (rest := []) St hK hT hA hP hD hS hl.1 [0] [1] rfl rfl rfl (c_isHereF l g o a pe wo tx ch jo tr dy x_2 f_3 x_1 (⟨i7.1, n16⟩)) (cwV 1 hts (zgL (zl4 k53 k54 k55 k24) k51) rfl rfl rfl (by decide +kernel) ⟨Nat.le_of_ble_eq_true rfl, Nat.le_of_ble_eq_true rfl⟩) rfl rfl rfl rfl (Nat.le_of_ble_eq_true rfl) dX9_comeBack_12 ⟨(Nat.le_of_ble_eq_true rfl), (Nat.le_of_ble_eq_true rfl)⟩ (fun q_18 H locs hq19 hP hD hS => ?_)
        replace hq19 : (q_18 = 1 ∧ (f_3 3 x_1.toInt.toNat).toInt = -1 ∨ q_18 = 0 ∧ ¬ (f_3 3 x_1.toInt.toNat).toInt = -1) := hq19
        have hP : va_P g.1 vwCl (List.flatten [bLog g go gr x_4 x_5 fr_6, bTown g o a pe wo tx ch jo tr dy x_2 f_3]) H := hP
        have hD : va_D A (List.flatten [bLog g go gr x_4 x_5 fr_6, bTown g o a pe wo tx ch jo tr dy x_2 f_3]) := hD
        refine W.widen (k := 0) (n := 0) (Nat.le_of_ble_eq_true rfl) (Nat.le_of_ble_eq_true rfl) ?_
        refine W.eq (g2 := F0 m 15 ls [.int q_18]) rfl ?_
        rcases hq19 with ⟨rfl, hq19_k⟩ | ⟨rfl, hq19_k⟩
        · skip
          refine lv_if_ne (tgt := 86) hx hb dX9_comeBack_15 (by decide) (fun _ => ?_) (fun c20 => absurd c20 (by decide))
          refine ziinc3 (n' := 1) (a' := 1) (b' := 8) (lv' := fun v9 => [(3, .int v9), (0, .ref o), (1, .int tl), (2, .ref go)]) hx hb dX9_comeBack_86 hl (k := 3) rfl (by decide) (fun _ => rfl) (zaddK (i := x_1.toInt) (j := 1) rfl (by decide) i7.1 n16 (Int.le_refl _) (Int.le_refl _) (by decide)) (fun x_21 ls hx_21 hl => ?_)
          refine lv_goto (tgt := 2) hx hb dX9_comeBack_89 (by decide) ?_
          have hl := lv_sub (l' := [(0, .ref o), (1, .int tl), (2, .ref go), (3, .int x_21)]) hl [1, 2, 3, 0] rfl
          have hP : va_P g.1 vwCl (List.flatten [bLog g go gr x_4 x_5 fr_6, bTown g o a pe wo tx ch jo tr dy x_2 f_3]) H := hP
          have hD : va_D A (List.flatten [bLog g go gr x_4 x_5 fr_6, bTown g o a pe wo tx ch jo tr dy x_2 f_3]) := hD
          obtain ⟨hP, hD⟩ := zord (g := g) (Bs' := [bTown g o a pe wo tx ch jo tr dy x_2 f_3, bLog g go gr x_4 x_5 fr_6]) [1, 0] rfl rfl hP hD
          have hP : va_P g.1 vwCl (List.flatten [bTown g o a pe wo tx ch jo tr dy x_2 f_3, bLog g go gr x_4 x_5 fr_6]) H := hP
          have hD : va_D A (List.flatten [bTown g o a pe wo tx ch jo tr dy x_2 f_3, bLog g go gr x_4 x_5 fr_6]) := hD
          exact ih2_13 x_21 x_2 f_3 x_4 x_5 fr_6 ⟨(Int.le_trans (by decide) hx_21.2.1), hx_21.2.2⟩ rf_3 ⟨i8.1, i8.2⟩ ⟨i9.1, i9.2⟩ (zIt_s i10 hx_21.1 (by omega) (zCBa hq19_k)) (by first | omega | assumption | decide) H _ ls (zmK hx_21.1 (by decide) n16 (by decide) hk2_13)  hP hD hS (lv_sub hl [0, 1, 2, 3] rfl)
        · skip
          refine lv_if_ne (tgt := 86) hx hb dX9_comeBack_15 (by decide) (fun c22 => absurd (by decide) c22) (fun _ => ?_)
          refine lv_aload_n hx hb dX9_comeBack_18 rfl (lv_at hl 0 rfl) ?_
          refine va_get (D := g.1) (ci := 7) (v := .ref (a 3)) (C := RX9) (T := TX9) (N := 19) hx hb hts izRX9 hown hK hP 2 rfl rfl 11 (by decide) (hts _ k12) (fun _ h9 => h9) rfl dX9_comeBack_19 ?_
          refine lv_iload_n hx hb dX9_comeBack_22 rfl (lv_at hl 3 rfl) ?_
          refine va_iald hx hb hK hP 6 0 rfl rfl (zinK (a := 0) (b := 7) i7.1 n16 (by decide)) dX9_comeBack_23 ?_
          refine ztop (r := (f_3 3 x_1.toInt.toNat)) rfl ?_
          refine lv_aload_n hx hb dX9_comeBack_24 rfl (lv_at hl 0 rfl) ?_
          refine va_get (D := g.1) (ci := 7) (v := .int dy) (C := RX9) (T := TX9) (N := 19) hx hb hts izRX9 hown hK hP 2 rfl rfl 6 (by decide) (hts _ k34) (fun _ h9 => h9) rfl dX9_comeBack_25 ?_
          refine lv_icmp_gt (tgt := 86) hx hb dX9_comeBack_28 (by decide) (fun cb9 => ?_) (fun cb9 => ?_)
          · skip
            have c23 : dy.toInt < (f_3 3 x_1.toInt.toNat).toInt := zlti cb9 rfl rfl
            refine ziinc3 (n' := 1) (a' := 1) (b' := 8) (lv' := fun v9 => [(3, .int v9), (0, .ref o), (1, .int tl), (2, .ref go)]) hx hb dX9_comeBack_86 hl (k := 3) rfl (by decide) (fun _ => rfl) (zaddK (i := x_1.toInt) (j := 1) rfl (by decide) i7.1 n16 (Int.le_refl _) (Int.le_refl _) (by decide)) (fun x_24 ls hx_24 hl => ?_)
            refine lv_goto (tgt := 2) hx hb dX9_comeBack_89 (by decide) ?_
            have hl := lv_sub (l' := [(0, .ref o), (1, .int tl), (2, .ref go), (3, .int x_24)]) hl [1, 2, 3, 0] rfl
            have hP : va_P g.1 vwCl (List.flatten [bLog g go gr x_4 x_5 fr_6, bTown g o a pe wo tx ch jo tr dy x_2 f_3]) H := hP
            have hD : va_D A (List.flatten [bLog g go gr x_4 x_5 fr_6, bTown g o a pe wo tx ch jo tr dy x_2 f_3]) := hD
            obtain ⟨hP, hD⟩ := zord (g := g) (Bs' := [bTown g o a pe wo tx ch jo tr dy x_2 f_3, bLog g go gr x_4 x_5 fr_6]) [1, 0] rfl rfl hP hD
            have hP : va_P g.1 vwCl (List.flatten [bTown g o a pe wo tx ch jo tr dy x_2 f_3, bLog g go gr x_4 x_5 fr_6]) H := hP
            have hD : va_D A (List.flatten [bTown g o a pe wo tx ch jo tr dy x_2 f_3, bLog g go gr x_4 x_5 fr_6]) := hD
            exact ih2_13 x_24 x_2 f_3 x_4 x_5 fr_6 ⟨(Int.le_trans (by decide) hx_24.2.1), hx_24.2.2⟩ rf_3 ⟨i8.1, i8.2⟩ ⟨i9.1, i9.2⟩ (zIt_s i10 hx_24.1 (by omega) (zCBb hq19_k (by omega))) (by first | omega | assumption | decide) H _ ls (zmK hx_24.1 (by decide) n16 (by decide) hk2_13)  hP hD hS (lv_sub hl [0, 1, 2, 3] rfl)
          · skip
            have c25 : (f_3 3 x_1.toInt.toNat).toInt ≤ dy.toInt := zle (Int32.not_lt.mp cb9) rfl rfl
            refine lv_aload_n hx hb dX9_comeBack_31 rfl (lv_at hl 0 rfl) ?_
            refine va_get (D := g.1) (ci := 7) (v := .ref (a 3)) (C := RX9) (T := TX9) (N := 19) hx hb hts izRX9 hown hK hP 2 rfl rfl 11 (by decide) (hts _ k12) (fun _ h9 => h9) rfl dX9_comeBack_32 ?_
            refine lv_iload_n hx hb dX9_comeBack_35 rfl (lv_at hl 3 rfl) ?_
            refine lv_iconst (v := (-1)) hx hb dX9_comeBack_36 (by decide) ?_
            refine va_iast hx hb hK hP hD hS 6 0 rfl rfl (zinK (a := 0) (b := 7) i7.1 n16 (by decide)) dX9_comeBack_37 (fun H locs hP hD hS => ?_)
            obtain ⟨f26, rf26, ef26, hP, hD⟩ : ∃ f26 : Nat → Nat → Int32, zZ4 f26 ∧ f26 = zSet f_3 3 x_1.toInt.toNat (-1) ∧ va_P g.1 vwCl (List.flatten [bLog g go gr x_4 x_5 fr_6, bTown g o a pe wo tx ch jo tr dy x_2 f26]) H ∧ va_D A (List.flatten [bLog g go gr x_4 x_5 fr_6, bTown g o a pe wo tx ch jo tr dy x_2 f26]) := ⟨zu f_3 3 (upd (f_3 3) x_1.toNatClampNeg (-1)), (zZ4_u rf_3 (by decide)), rfl, hP, hD⟩
            refine lv_iload_n hx hb dX9_comeBack_38 rfl (lv_at hl 1 rfl) ?_
            refine lv_if_eq (tgt := 86) hx hb dX9_comeBack_39 (by decide) (fun cb9 => ?_) (fun cb9 => ?_)
            · skip
              have c27 : tl.toInt = 0 := zeq cb9 rfl (by decide)
              have n28 : 0 ≤ tl.toInt := Int.le_trans (Int.le_refl _) (Int.le_of_eq c27.symm)
              have n29 : tl.toInt ≤ 0 := Int.le_trans (Int.le_of_eq c27) (Int.le_refl _)
              refine ziinc3 (n' := 1) (a' := 1) (b' := 8) (lv' := fun v9 => [(3, .int v9), (0, .ref o), (1, .int tl), (2, .ref go)]) hx hb dX9_comeBack_86 hl (k := 3) rfl (by decide) (fun _ => rfl) (zaddK (i := x_1.toInt) (j := 1) rfl (by decide) i7.1 n16 (Int.le_refl _) (Int.le_refl _) (by decide)) (fun x_30 ls hx_30 hl => ?_)
              refine lv_goto (tgt := 2) hx hb dX9_comeBack_89 (by decide) ?_
              have hl := lv_sub (l' := [(0, .ref o), (1, .int tl), (2, .ref go), (3, .int x_30)]) hl [1, 2, 3, 0] rfl
              have hP : va_P g.1 vwCl (List.flatten [bLog g go gr x_4 x_5 fr_6, bTown g o a pe wo tx ch jo tr dy x_2 f26]) H := hP
              have hD : va_D A (List.flatten [bLog g go gr x_4 x_5 fr_6, bTown g o a pe wo tx ch jo tr dy x_2 f26]) := hD
              obtain ⟨hP, hD⟩ := zord (g := g) (Bs' := [bTown g o a pe wo tx ch jo tr dy x_2 f26, bLog g go gr x_4 x_5 fr_6]) [1, 0] rfl rfl hP hD
              have hP : va_P g.1 vwCl (List.flatten [bTown g o a pe wo tx ch jo tr dy x_2 f26, bLog g go gr x_4 x_5 fr_6]) H := hP
              have hD : va_D A (List.flatten [bTown g o a pe wo tx ch jo tr dy x_2 f26, bLog g go gr x_4 x_5 fr_6]) := hD
              exact ih2_13 x_30 x_2 f26 x_4 x_5 fr_6 ⟨(Int.le_trans (by decide) hx_30.2.1), hx_30.2.2⟩ rf26 ⟨i8.1, i8.2⟩ ⟨i9.1, i9.2⟩ (zIt_s i10 hx_30.1 (by omega) (zCBc hq19_k (by omega) (by omega) ef26)) (by first | omega | assumption | decide) H _ ls (zmK hx_30.1 (by decide) n16 (by decide) hk2_13)  hP hD hS (lv_sub hl [0, 1, 2, 3] rfl)
            · skip
              have c31 : ¬ tl.toInt = 0 := zne cb9 rfl (by decide)
              refine lv_aload_n hx hb dX9_comeBack_42 rfl (lv_at hl 0 rfl) ?_
              refine mcallV' (g := g) (q0 := 0) (ci := 7) (As := []) (rest := []) St hK hT hA hP hD hS hl.1 [1] [0] rfl rfl rfl (c_drawF l g o a pe wo tx ch jo tr dy x_2 f26 ) (cwV 0 hts (zgL (zl4 k135 k136 k137 k24) k129) rfl rfl rfl (by decide +kernel) ⟨Nat.le_of_ble_eq_true rfl, Nat.le_of_ble_eq_true rfl⟩) rfl rfl rfl rfl (Nat.le_of_ble_eq_true rfl) dX9_comeBack_43 ⟨(Nat.le_of_ble_eq_true rfl), (Nat.le_of_ble_eq_true rfl)⟩ (fun _u H locs hq32 hP hD hS => ?_)
              have hP : va_P g.1 vwCl (List.flatten [bLog g go gr x_4 x_5 fr_6, bTown g o a pe wo tx ch jo tr dy (zDr x_2) f26]) H := hP
              have hD : va_D A (List.flatten [bLog g go gr x_4 x_5 fr_6, bTown g o a pe wo tx ch jo tr dy (zDr x_2) f26]) := hD
              refine W.widen (k := 0) (n := 0) (Nat.le_of_ble_eq_true rfl) (Nat.le_of_ble_eq_true rfl) ?_
              refine W.eq (g2 := F0 m 46 ls [.int (zDw x_2)]) rfl ?_
              refine lv_bipush (v := 100) hx hb dX9_comeBack_46 (by decide) ?_
              refine lv_irem hx hb dX9_comeBack_48 (by decide) ?_
              refine lv_aload_n hx hb dX9_comeBack_49 rfl (lv_at hl 0 rfl) ?_
              refine va_get (D := g.1) (ci := 7) (v := .int tr) (C := RX9) (T := TX9) (N := 19) hx hb hts izRX9 hown hK hP 2 rfl rfl 5 (by decide) (hts _ k6) (fun _ h9 => h9) rfl dX9_comeBack_50 ?_
              refine lv_icmp_ge (tgt := 60) hx hb dX9_comeBack_53 (by decide) (fun cb9 => ?_) (fun cb9 => ?_)
              · skip
                have c33 : tr.toInt ≤ ((zDw x_2) - (zDw x_2) / 100 * 100).toInt := zle cb9 rfl rfl
                refine lv_iconst (v := 0) hx hb dX9_comeBack_60 (by decide) ?_
                refine lv_istore (lv' := [(4, .int 0), (0, .ref o), (1, .int tl), (2, .ref go), (3, .int x_1)]) hx hb dX9_comeBack_61 hl (by decide) rfl (fun ls hl => ?_)
                refine lv_aload_n hx hb dX9_comeBack_63 rfl (lv_at hl 1 rfl) ?_
                refine lv_iload_n hx hb dX9_comeBack_64 rfl (lv_at hl 4 rfl) ?_
                refine lv_iload hx hb dX9_comeBack_65 (lv_at hl 0 rfl) ?_
                refine mcallV' (g := g) (q0 := 0) (ci := 7) (As := [.int x_1, .int 0]) (rest := []) St hK hT hA hP hD hS hl.1 [1] [0] rfl rfl rfl (c_spread0F l g o a pe wo tx ch jo tr dy (zDr x_2) f26 x_1 b_pe b_wo rf26 (⟨i7.1, n16⟩)) (cwV 2 hts (zgL (zl4 k138 k139 k140 k24) k134) rfl rfl rfl (by decide +kernel) ⟨Nat.le_of_ble_eq_true rfl, Nat.le_of_ble_eq_true rfl⟩) rfl rfl rfl rfl (Nat.le_of_ble_eq_true rfl) dX9_comeBack_67 ⟨(Nat.le_of_ble_eq_true rfl), (Nat.le_of_ble_eq_true rfl)⟩ (fun f2_34 H locs hq35 hP hD hS => ?_)
                replace hq35 : (zZ4 f2_34) ∧ (f2_34 = zSpr pe.toInt.toNat x_1.toInt.toNat false f26) := hq35
                have hP : va_P g.1 vwCl (List.flatten [bLog g go gr x_4 x_5 fr_6, bTown g o a pe wo tx ch jo tr dy (zDr x_2) f2_34]) H := hP
                have hD : va_D A (List.flatten [bLog g go gr x_4 x_5 fr_6, bTown g o a pe wo tx ch jo tr dy (zDr x_2) f2_34]) := hD
                refine W.widen (k := 0) (n := 0) (Nat.le_of_ble_eq_true rfl) (Nat.le_of_ble_eq_true rfl) ?_
                refine W.eq (g2 := F0 m 70 ls []) rfl ?_
                obtain ⟨rf2_34, hq35_1⟩ := hq35
                refine lv_aload_n hx hb dX9_comeBack_70 rfl (lv_at hl 1 rfl) ?_
                refine lv_aload_n hx hb dX9_comeBack_71 rfl (lv_at hl 3 rfl) ?_
                refine lv_iload_n hx hb dX9_comeBack_72 rfl (lv_at hl 4 rfl) ?_
                refine lv_iload hx hb dX9_comeBack_73 (lv_at hl 0 rfl) ?_
                refine lv_if_eq (tgt := 82) hx hb dX9_comeBack_75 (by decide) (fun _ => ?_) (fun c36 => absurd (by decide) c36)
                refine lv_iconst (v := 3) hx hb dX9_comeBack_82 (by decide) ?_
                refine mcallV' (g := g) (q0 := 0) (ci := 7) (As := [.ref go, .int x_1, .int 3]) (rest := []) St hK hT hA hP hD hS hl.1 [1, 0] [] rfl rfl rfl (c_write l g o a pe wo tx ch jo tr dy (zDr x_2) f2_34 go gr x_4 x_5 fr_6 x_1 3 b_pe b_wo rf2_34 i8 i9) (cwV 3 hts (zgL (zl4 k125 k126 k127 k24) k124) rfl rfl rfl (by decide +kernel) ⟨Nat.le_of_ble_eq_true rfl, Nat.le_of_ble_eq_true rfl⟩) rfl rfl rfl rfl (Nat.le_of_ble_eq_true rfl) dX9_comeBack_83 ⟨(Nat.le_of_ble_eq_true rfl), (Nat.le_of_ble_eq_true rfl)⟩ (fun u_ H locs hq40 hP hD hS => ?_)
                obtain ⟨gz2_37, gn2_38, fr2_39⟩ := u_
                replace hq40 : (0 ≤ gz2_37.toInt ∧ gz2_37.toInt ≤ 60) ∧ (0 ≤ gn2_38.toInt ∧ gn2_38.toInt ≤ 59) := hq40
                have hP : va_P g.1 vwCl (List.flatten [bTown g o a pe wo tx ch jo tr dy (zDr x_2) f2_34, bLog g go gr gz2_37 gn2_38 fr2_39]) H := hP
                have hD : va_D A (List.flatten [bTown g o a pe wo tx ch jo tr dy (zDr x_2) f2_34, bLog g go gr gz2_37 gn2_38 fr2_39]) := hD
                refine W.widen (k := 0) (n := 0) (Nat.le_of_ble_eq_true rfl) (Nat.le_of_ble_eq_true rfl) ?_
                refine W.eq (g2 := F0 m 86 ls []) rfl ?_
                obtain ⟨hq40_0, hq40_1⟩ := hq40
                refine ziinc3 (n' := 1) (a' := 1) (b' := 8) (lv' := fun v9 => [(3, .int v9), (4, .int 0), (0, .ref o), (1, .int tl), (2, .ref go)]) hx hb dX9_comeBack_86 hl (k := 4) rfl (by decide) (fun _ => rfl) (zaddK (i := x_1.toInt) (j := 1) rfl (by decide) i7.1 n16 (Int.le_refl _) (Int.le_refl _) (by decide)) (fun x_41 ls hx_41 hl => ?_)
                refine lv_goto (tgt := 2) hx hb dX9_comeBack_89 (by decide) ?_
                have hl := lv_sub (l' := [(0, .ref o), (1, .int tl), (2, .ref go), (3, .int x_41), (4, .int 0)]) hl [2, 3, 4, 0, 1] rfl
                have hP : va_P g.1 vwCl (List.flatten [bTown g o a pe wo tx ch jo tr dy (zDr x_2) f2_34, bLog g go gr gz2_37 gn2_38 fr2_39]) H := hP
                have hD : va_D A (List.flatten [bTown g o a pe wo tx ch jo tr dy (zDr x_2) f2_34, bLog g go gr gz2_37 gn2_38 fr2_39]) := hD
                exact ih2_13 x_41 (zDr x_2) f2_34 gz2_37 gn2_38 fr2_39 ⟨(Int.le_trans (by decide) hx_41.2.1), hx_41.2.2⟩ rf2_34 ⟨hq40_0.1, hq40_0.2⟩ ⟨hq40_1.1, hq40_1.2⟩ (zIt_s i10 hx_41.1 (by omega) (zCBd hq19_k (by omega) (by omega) ef26 (zWa_f (by omega)) hq35_1)) (by first | omega | assumption | decide) H _ ls (zmK hx_41.1 (by decide) n16 (by decide) hk2_13)  hP hD hS (lv_sub hl [0, 1, 2, 3] rfl)
              · skip
                have c42 : ((zDw x_2) - (zDw x_2) / 100 * 100).toInt < tr.toInt := zlti (Int32.not_le.mp cb9) rfl rfl
                refine lv_iconst (v := 1) hx hb dX9_comeBack_56 (by decide) ?_
                refine lv_goto (tgt := 61) hx hb dX9_comeBack_57 (by decide) ?_
                refine lv_istore (lv' := [(4, .int 1), (0, .ref o), (1, .int tl), (2, .ref go), (3, .int x_1)]) hx hb dX9_comeBack_61 hl (by decide) rfl (fun ls hl => ?_)
                refine lv_aload_n hx hb dX9_comeBack_63 rfl (lv_at hl 1 rfl) ?_
                refine lv_iload_n hx hb dX9_comeBack_64 rfl (lv_at hl 4 rfl) ?_
                refine lv_iload hx hb dX9_comeBack_65 (lv_at hl 0 rfl) ?_
                have hL1 : (1 : Int32).toInt = 1 := by decide
                refine mcallV' (g := g) (q0 := 0) (ci := 7) (As := [.int x_1, .int 1]) (rest := []) St hK hT hA hP hD hS hl.1 [1] [0] rfl rfl rfl (c_spread1F l g o a pe wo tx ch jo tr dy (zDr x_2) f26 x_1 b_pe b_wo rf26 (⟨i7.1, n16⟩)) (cwV 2 hts (zgL (zl4 k138 k139 k140 k24) k134) rfl rfl rfl (by decide +kernel) ⟨Nat.le_of_ble_eq_true rfl, Nat.le_of_ble_eq_true rfl⟩) rfl rfl rfl rfl (Nat.le_of_ble_eq_true rfl) dX9_comeBack_67 ⟨(Nat.le_of_ble_eq_true rfl), (Nat.le_of_ble_eq_true rfl)⟩ (fun f2_43 H locs hq44 hP hD hS => ?_)
                replace hq44 : (zZ4 f2_43) ∧ (f2_43 = zSpr pe.toInt.toNat x_1.toInt.toNat true f26) := hq44
                have hP : va_P g.1 vwCl (List.flatten [bLog g go gr x_4 x_5 fr_6, bTown g o a pe wo tx ch jo tr dy (zDr x_2) f2_43]) H := hP
                have hD : va_D A (List.flatten [bLog g go gr x_4 x_5 fr_6, bTown g o a pe wo tx ch jo tr dy (zDr x_2) f2_43]) := hD
                refine W.widen (k := 0) (n := 0) (Nat.le_of_ble_eq_true rfl) (Nat.le_of_ble_eq_true rfl) ?_
                refine W.eq (g2 := F0 m 70 ls []) rfl ?_
                obtain ⟨rf2_43, hq44_1⟩ := hq44
                refine lv_aload_n hx hb dX9_comeBack_70 rfl (lv_at hl 1 rfl) ?_
                refine lv_aload_n hx hb dX9_comeBack_71 rfl (lv_at hl 3 rfl) ?_
                refine lv_iload_n hx hb dX9_comeBack_72 rfl (lv_at hl 4 rfl) ?_
                refine lv_iload hx hb dX9_comeBack_73 (lv_at hl 0 rfl) ?_
                refine lv_if_eq (tgt := 82) hx hb dX9_comeBack_75 (by decide) (fun c45 => absurd c45 (by decide)) (fun _ => ?_)
                refine lv_iconst (v := 2) hx hb dX9_comeBack_78 (by decide) ?_
                refine lv_goto (tgt := 83) hx hb dX9_comeBack_79 (by decide) ?_
                refine mcallV' (g := g) (q0 := 0) (ci := 7) (As := [.ref go, .int x_1, .int 2]) (rest := []) St hK hT hA hP hD hS hl.1 [1, 0] [] rfl rfl rfl (c_write l g o a pe wo tx ch jo tr dy (zDr x_2) f2_43 go gr x_4 x_5 fr_6 x_1 2 b_pe b_wo rf2_43 i8 i9) (cwV 3 hts (zgL (zl4 k125 k126 k127 k24) k124) rfl rfl rfl (by decide +kernel) ⟨Nat.le_of_ble_eq_true rfl, Nat.le_of_ble_eq_true rfl⟩) rfl rfl rfl rfl (Nat.le_of_ble_eq_true rfl) dX9_comeBack_83 ⟨(Nat.le_of_ble_eq_true rfl), (Nat.le_of_ble_eq_true rfl)⟩ (fun u_ H locs hq49 hP hD hS => ?_)
                obtain ⟨gz2_46, gn2_47, fr2_48⟩ := u_
                replace hq49 : (0 ≤ gz2_46.toInt ∧ gz2_46.toInt ≤ 60) ∧ (0 ≤ gn2_47.toInt ∧ gn2_47.toInt ≤ 59) := hq49
                have hP : va_P g.1 vwCl (List.flatten [bTown g o a pe wo tx ch jo tr dy (zDr x_2) f2_43, bLog g go gr gz2_46 gn2_47 fr2_48]) H := hP
                have hD : va_D A (List.flatten [bTown g o a pe wo tx ch jo tr dy (zDr x_2) f2_43, bLog g go gr gz2_46 gn2_47 fr2_48]) := hD
                refine W.widen (k := 0) (n := 0) (Nat.le_of_ble_eq_true rfl) (Nat.le_of_ble_eq_true rfl) ?_
                refine W.eq (g2 := F0 m 86 ls []) rfl ?_
                obtain ⟨hq49_0, hq49_1⟩ := hq49
                refine ziinc3 (n' := 1) (a' := 1) (b' := 8) (lv' := fun v9 => [(3, .int v9), (4, .int 1), (0, .ref o), (1, .int tl), (2, .ref go)]) hx hb dX9_comeBack_86 hl (k := 4) rfl (by decide) (fun _ => rfl) (zaddK (i := x_1.toInt) (j := 1) rfl (by decide) i7.1 n16 (Int.le_refl _) (Int.le_refl _) (by decide)) (fun x_50 ls hx_50 hl => ?_)
                refine lv_goto (tgt := 2) hx hb dX9_comeBack_89 (by decide) ?_
                have hl := lv_sub (l' := [(0, .ref o), (1, .int tl), (2, .ref go), (3, .int x_50), (4, .int 1)]) hl [2, 3, 4, 0, 1] rfl
                have hP : va_P g.1 vwCl (List.flatten [bTown g o a pe wo tx ch jo tr dy (zDr x_2) f2_43, bLog g go gr gz2_46 gn2_47 fr2_48]) H := hP
                have hD : va_D A (List.flatten [bTown g o a pe wo tx ch jo tr dy (zDr x_2) f2_43, bLog g go gr gz2_46 gn2_47 fr2_48]) := hD
                exact ih2_13 x_50 (zDr x_2) f2_43 gz2_46 gn2_47 fr2_48 ⟨(Int.le_trans (by decide) hx_50.2.1), hx_50.2.2⟩ rf2_43 ⟨hq49_0.1, hq49_0.2⟩ ⟨hq49_1.1, hq49_1.2⟩ (zIt_s i10 hx_50.1 (by omega) (zCBd hq19_k (by omega) (by omega) ef26 (zWa_t (by omega)) hq44_1)) (by first | omega | assumption | decide) H _ ls (zmK hx_50.1 (by decide) n16 (by decide) hk2_13)  hP hD hS (lv_sub hl [0, 1, 2, 3] rfl)
  have hL0 : (0 : Int32).toInt = 0 := by decide
  have hP : va_P g.1 vwCl (List.flatten [bTown g o a pe wo tx ch jo tr dy sd f, bLog g go gr gz gn fr]) s.heap := hP
  have hD : va_D A (List.flatten [bTown g o a pe wo tx ch jo tr dy sd f, bLog g go gr gz gn fr]) := hD
  exact LP2_12 _ 0 sd f gz gn fr (by decide) rf ⟨b_gz.1, b_gz.2⟩ ⟨b_gn.1, b_gn.2⟩ (zIt_0 (by decide) rfl) (by first | omega | assumption | decide) s.heap _ ls (Nat.lt_succ_self _)  hP hD hS (lv_sub hl [0, 1, 2, 3] rfl)
set_option maxRecDepth 100000 in
set_option maxHeartbeats 4000000 in
theorem c_comeBackNF (l : Launch) (g : zG) (o : Nat) (a : Nat → Nat) (pe : Int32) (wo : Int32) (tx : Int32) (ch : Int32) (jo : Int32) (tr : Int32) (dy : Int32) (sd : Int32) (f : Nat → Nat → Int32) (tl : Int32) (b_pe : 0 ≤ pe.toInt ∧ pe.toInt ≤ 8) (b_wo : 0 ≤ wo.toInt ∧ wo.toInt ≤ 6) (rf : zZ4 f) : zM' g l yX9_comeBack (Cond.code yX9_comeBack cX9_comeBack 5 none :: zB) ({ frames := 4, cells := 0, slots := 0, locals := 80 } : Room) [.ref o, .int tl, .null] [bTown g o a pe wo tx ch jo tr dy sd f] (fun u : Int32 × (Nat → Nat → Int32) => (fun (sd2 : Int32) (f2 : Nat → Nat → Int32) => none) (u.1) (u.2)) (fun u : Int32 × (Nat → Nat → Int32) => (fun (sd2 : Int32) (f2 : Nat → Nat → Int32) => (zZ4 f2) ∧ ((f2, sd2) = zIt (zCB1 pe.toInt.toNat dy tr tl) (f, sd) pe.toInt.toNat)) (u.1) (u.2)) (fun u : Int32 × (Nat → Nat → Int32) => (fun (sd2 : Int32) (f2 : Nat → Nat → Int32) => [bTown g o a pe wo tx ch jo tr dy sd2 f2]) (u.1) (u.2)) := by
  refine zM'.of (cc := cX9_comeBack) (maxL := 5) (rt := none) (by decide) rfl (Nat.le_of_ble_eq_true rfl) ?_
  intro p e s m args below meth c A ls St hr hlocks hin hK hT hA hP hD hS hl
  obtain ⟨hx, hb, hml, hown, hts⟩ := id St
  have hl : lv_has ls 5 [(0, .ref o), (1, .int tl), (2, .null)] := hl
  refine lv_iconst (v := 0) hx hb dX9_comeBack_0 (by decide) ?_
  refine lv_istore_n (lv' := [(3, .int 0), (0, .ref o), (1, .int tl), (2, .null)]) hx hb dX9_comeBack_1 rfl hl (by decide) rfl (fun ls hl => ?_)
  have hl := lv_sub (l' := [(0, .ref o), (1, .int tl), (2, .null), (3, .int 0)]) hl [1, 2, 3, 0] rfl
  have LP2_7 : ∀ (kf : Nat) (x_1 : Int32) (x_2 : Int32) (f_3 : Nat → Nat → Int32), (0 ≤ x_1.toInt ∧ x_1.toInt ≤ 8) → (zZ4 f_3) → ((f_3, x_2) = zIt (zCB1 pe.toInt.toNat dy tr tl) (f, sd) x_1.toInt.toNat) → (x_1.toInt ≤ pe.toInt) → ∀ (H : Heap) (locs : List Loc) (ls : Array Slot), ((9 - x_1.toInt).toNat) < kf → va_P g.1 vwCl (List.flatten [bTown g o a pe wo tx ch jo tr dy x_2 f_3]) H → va_D A (List.flatten [bTown g o a pe wo tx ch jo tr dy x_2 f_3]) → va_S A s.heap H locs → lv_has ls 5 [(0, .ref o), (1, .int tl), (2, .null), (3, .int x_1)] → W p l e ({ frames := 4, cells := 0, slots := 0, locals := 80 } : Room) s m args below meth c H locs (0) (0) (zF g (fun u : Int32 × (Nat → Nat → Int32) => (fun (sd2 : Int32) (f2 : Nat → Nat → Int32) => none) (u.1) (u.2)) (fun u : Int32 × (Nat → Nat → Int32) => (fun (sd2 : Int32) (f2 : Nat → Nat → Int32) => (zZ4 f2) ∧ ((f2, sd2) = zIt (zCB1 pe.toInt.toNat dy tr tl) (f, sd) pe.toInt.toNat)) (u.1) (u.2)) (fun u : Int32 × (Nat → Nat → Int32) => (fun (sd2 : Int32) (f2 : Nat → Nat → Int32) => [bTown g o a pe wo tx ch jo tr dy sd2 f2]) (u.1) (u.2)) ({ frames := 4, cells := 0, slots := 0, locals := 80 } : Room) below args s A) (F0 m 2 ls []) := by
    intro kf
    induction kf with
    | zero => intro x_1 x_2 f_3 i4 rf_3 i5 i6 H locs ls hk; exact absurd hk (Nat.not_lt_zero _)
    | succ kf ih2_8 =>
      intro x_1 x_2 f_3 i4 rf_3 i5 i6 H locs ls hk2_8 hP hD hS hl
      refine lv_iload_n hx hb dX9_comeBack_2 rfl (lv_at hl 3 rfl) ?_
      refine lv_aload_n hx hb dX9_comeBack_3 rfl (lv_at hl 0 rfl) ?_
      refine va_get (D := g.1) (ci := 7) (v := .int pe) (C := RX9) (T := TX9) (N := 19) hx hb hts izRX9 hown hK hP 0 rfl rfl 0 (by decide) (hts _ k31) (fun _ h9 => h9) rfl dX9_comeBack_4 ?_
      refine lv_icmp_ge (tgt := 92) hx hb dX9_comeBack_7 (by decide) (fun cb9 => ?_) (fun cb9 => ?_)
      · skip
        have c9 : pe.toInt ≤ x_1.toInt := zle cb9 rfl rfl
        have hP : va_P g.1 vwCl (List.flatten [bTown g o a pe wo tx ch jo tr dy x_2 f_3]) H := hP
        have hD : va_D A (List.flatten [bTown g o a pe wo tx ch jo tr dy x_2 f_3]) := hD
        exact mret_v hx hb hr hlocks hS (Nat.le_of_ble_eq_true rfl) (Nat.le_of_ble_eq_true rfl) dX9_comeBack_92 (x_2, f_3) rfl (show (zZ4 f_3) ∧ ((f_3, x_2) = zIt (zCB1 pe.toInt.toNat dy tr tl) (f, sd) pe.toInt.toNat) from ⟨(by first | assumption | omega), (zIt_x i5 (by omega))⟩) hP hD
      · skip
        have c10 : x_1.toInt < pe.toInt := zlti (Int32.not_le.mp cb9) rfl rfl
        have n11 : x_1.toInt ≤ 7 := zL1 (b := 8) c10 b_pe.2 (by decide)
        have n12 : 1 ≤ pe.toInt := zL2 (a := 0) c10 i4.1 (by decide)
        refine lv_aload_n hx hb dX9_comeBack_10 rfl (lv_at hl 0 rfl) ?_
        refine lv_iload_n hx hb dX9_comeBack_11 rfl (lv_at hl 3 rfl) ?_
        refine mcallV' (g := g) (q0 := 0) (ci := 7) (As := [.int x_1]) (rest := []) St hK hT hA hP hD hS hl.1 [0] [] rfl rfl rfl (c_isHereF l g o a pe wo tx ch jo tr dy x_2 f_3 x_1 (⟨i4.1, n11⟩)) (cwV 1 hts (zgL (zl4 k53 k54 k55 k24) k51) rfl rfl rfl (by decide +kernel) ⟨Nat.le_of_ble_eq_true rfl, Nat.le_of_ble_eq_true rfl⟩) rfl rfl rfl rfl (Nat.le_of_ble_eq_true rfl) dX9_comeBack_12 ⟨(Nat.le_of_ble_eq_true rfl), (Nat.le_of_ble_eq_true rfl)⟩ (fun q_13 H locs hq14 hP hD hS => ?_)
        replace hq14 : (q_13 = 1 ∧ (f_3 3 x_1.toInt.toNat).toInt = -1 ∨ q_13 = 0 ∧ ¬ (f_3 3 x_1.toInt.toNat).toInt = -1) := hq14
        have hP : va_P g.1 vwCl (List.flatten [bTown g o a pe wo tx ch jo tr dy x_2 f_3]) H := hP
        have hD : va_D A (List.flatten [bTown g o a pe wo tx ch jo tr dy x_2 f_3]) := hD
        refine W.widen (k := 0) (n := 0) (Nat.le_of_ble_eq_true rfl) (Nat.le_of_ble_eq_true rfl) ?_
        refine W.eq (g2 := F0 m 15 ls [.int q_13]) rfl ?_
        rcases hq14 with ⟨rfl, hq14_k⟩ | ⟨rfl, hq14_k⟩
        · skip
          refine lv_if_ne (tgt := 86) hx hb dX9_comeBack_15 (by decide) (fun _ => ?_) (fun c15 => absurd c15 (by decide))
          refine ziinc3 (n' := 1) (a' := 1) (b' := 8) (lv' := fun v9 => [(3, .int v9), (0, .ref o), (1, .int tl), (2, .null)]) hx hb dX9_comeBack_86 hl (k := 3) rfl (by decide) (fun _ => rfl) (zaddK (i := x_1.toInt) (j := 1) rfl (by decide) i4.1 n11 (Int.le_refl _) (Int.le_refl _) (by decide)) (fun x_16 ls hx_16 hl => ?_)
          refine lv_goto (tgt := 2) hx hb dX9_comeBack_89 (by decide) ?_
          have hl := lv_sub (l' := [(0, .ref o), (1, .int tl), (2, .null), (3, .int x_16)]) hl [1, 2, 3, 0] rfl
          have hP : va_P g.1 vwCl (List.flatten [bTown g o a pe wo tx ch jo tr dy x_2 f_3]) H := hP
          have hD : va_D A (List.flatten [bTown g o a pe wo tx ch jo tr dy x_2 f_3]) := hD
          exact ih2_8 x_16 x_2 f_3 ⟨(Int.le_trans (by decide) hx_16.2.1), hx_16.2.2⟩ rf_3 (zIt_s i5 hx_16.1 (by omega) (zCBa hq14_k)) (by first | omega | assumption | decide) H _ ls (zmK hx_16.1 (by decide) n11 (by decide) hk2_8)  hP hD hS (lv_sub hl [0, 1, 2, 3] rfl)
        · skip
          refine lv_if_ne (tgt := 86) hx hb dX9_comeBack_15 (by decide) (fun c17 => absurd (by decide) c17) (fun _ => ?_)
          refine lv_aload_n hx hb dX9_comeBack_18 rfl (lv_at hl 0 rfl) ?_
          refine va_get (D := g.1) (ci := 7) (v := .ref (a 3)) (C := RX9) (T := TX9) (N := 19) hx hb hts izRX9 hown hK hP 0 rfl rfl 11 (by decide) (hts _ k12) (fun _ h9 => h9) rfl dX9_comeBack_19 ?_
          refine lv_iload_n hx hb dX9_comeBack_22 rfl (lv_at hl 3 rfl) ?_
          refine va_iald hx hb hK hP 4 0 rfl rfl (zinK (a := 0) (b := 7) i4.1 n11 (by decide)) dX9_comeBack_23 ?_
          refine ztop (r := (f_3 3 x_1.toInt.toNat)) rfl ?_
          refine lv_aload_n hx hb dX9_comeBack_24 rfl (lv_at hl 0 rfl) ?_
          refine va_get (D := g.1) (ci := 7) (v := .int dy) (C := RX9) (T := TX9) (N := 19) hx hb hts izRX9 hown hK hP 0 rfl rfl 6 (by decide) (hts _ k34) (fun _ h9 => h9) rfl dX9_comeBack_25 ?_
          refine lv_icmp_gt (tgt := 86) hx hb dX9_comeBack_28 (by decide) (fun cb9 => ?_) (fun cb9 => ?_)
          · skip
            have c18 : dy.toInt < (f_3 3 x_1.toInt.toNat).toInt := zlti cb9 rfl rfl
            refine ziinc3 (n' := 1) (a' := 1) (b' := 8) (lv' := fun v9 => [(3, .int v9), (0, .ref o), (1, .int tl), (2, .null)]) hx hb dX9_comeBack_86 hl (k := 3) rfl (by decide) (fun _ => rfl) (zaddK (i := x_1.toInt) (j := 1) rfl (by decide) i4.1 n11 (Int.le_refl _) (Int.le_refl _) (by decide)) (fun x_19 ls hx_19 hl => ?_)
            refine lv_goto (tgt := 2) hx hb dX9_comeBack_89 (by decide) ?_
            have hl := lv_sub (l' := [(0, .ref o), (1, .int tl), (2, .null), (3, .int x_19)]) hl [1, 2, 3, 0] rfl
            have hP : va_P g.1 vwCl (List.flatten [bTown g o a pe wo tx ch jo tr dy x_2 f_3]) H := hP
            have hD : va_D A (List.flatten [bTown g o a pe wo tx ch jo tr dy x_2 f_3]) := hD
            exact ih2_8 x_19 x_2 f_3 ⟨(Int.le_trans (by decide) hx_19.2.1), hx_19.2.2⟩ rf_3 (zIt_s i5 hx_19.1 (by omega) (zCBb hq14_k (by omega))) (by first | omega | assumption | decide) H _ ls (zmK hx_19.1 (by decide) n11 (by decide) hk2_8)  hP hD hS (lv_sub hl [0, 1, 2, 3] rfl)
          · skip
            have c20 : (f_3 3 x_1.toInt.toNat).toInt ≤ dy.toInt := zle (Int32.not_lt.mp cb9) rfl rfl
            refine lv_aload_n hx hb dX9_comeBack_31 rfl (lv_at hl 0 rfl) ?_
            refine va_get (D := g.1) (ci := 7) (v := .ref (a 3)) (C := RX9) (T := TX9) (N := 19) hx hb hts izRX9 hown hK hP 0 rfl rfl 11 (by decide) (hts _ k12) (fun _ h9 => h9) rfl dX9_comeBack_32 ?_
            refine lv_iload_n hx hb dX9_comeBack_35 rfl (lv_at hl 3 rfl) ?_
            refine lv_iconst (v := (-1)) hx hb dX9_comeBack_36 (by decide) ?_
            refine va_iast hx hb hK hP hD hS 4 0 rfl rfl (zinK (a := 0) (b := 7) i4.1 n11 (by decide)) dX9_comeBack_37 (fun H locs hP hD hS => ?_)
            obtain ⟨f21, rf21, ef21, hP, hD⟩ : ∃ f21 : Nat → Nat → Int32, zZ4 f21 ∧ f21 = zSet f_3 3 x_1.toInt.toNat (-1) ∧ va_P g.1 vwCl (List.flatten [bTown g o a pe wo tx ch jo tr dy x_2 f21]) H ∧ va_D A (List.flatten [bTown g o a pe wo tx ch jo tr dy x_2 f21]) := ⟨zu f_3 3 (upd (f_3 3) x_1.toNatClampNeg (-1)), (zZ4_u rf_3 (by decide)), rfl, hP, hD⟩
            refine lv_iload_n hx hb dX9_comeBack_38 rfl (lv_at hl 1 rfl) ?_
            refine lv_if_eq (tgt := 86) hx hb dX9_comeBack_39 (by decide) (fun cb9 => ?_) (fun cb9 => ?_)
            · skip
              have c22 : tl.toInt = 0 := zeq cb9 rfl (by decide)
              have n23 : 0 ≤ tl.toInt := Int.le_trans (Int.le_refl _) (Int.le_of_eq c22.symm)
              have n24 : tl.toInt ≤ 0 := Int.le_trans (Int.le_of_eq c22) (Int.le_refl _)
              refine ziinc3 (n' := 1) (a' := 1) (b' := 8) (lv' := fun v9 => [(3, .int v9), (0, .ref o), (1, .int tl), (2, .null)]) hx hb dX9_comeBack_86 hl (k := 3) rfl (by decide) (fun _ => rfl) (zaddK (i := x_1.toInt) (j := 1) rfl (by decide) i4.1 n11 (Int.le_refl _) (Int.le_refl _) (by decide)) (fun x_25 ls hx_25 hl => ?_)
              refine lv_goto (tgt := 2) hx hb dX9_comeBack_89 (by decide) ?_
              have hl := lv_sub (l' := [(0, .ref o), (1, .int tl), (2, .null), (3, .int x_25)]) hl [1, 2, 3, 0] rfl
              have hP : va_P g.1 vwCl (List.flatten [bTown g o a pe wo tx ch jo tr dy x_2 f21]) H := hP
              have hD : va_D A (List.flatten [bTown g o a pe wo tx ch jo tr dy x_2 f21]) := hD
              exact ih2_8 x_25 x_2 f21 ⟨(Int.le_trans (by decide) hx_25.2.1), hx_25.2.2⟩ rf21 (zIt_s i5 hx_25.1 (by omega) (zCBc hq14_k (by omega) (by omega) ef21)) (by first | omega | assumption | decide) H _ ls (zmK hx_25.1 (by decide) n11 (by decide) hk2_8)  hP hD hS (lv_sub hl [0, 1, 2, 3] rfl)
            · skip
              have c26 : ¬ tl.toInt = 0 := zne cb9 rfl (by decide)
              refine lv_aload_n hx hb dX9_comeBack_42 rfl (lv_at hl 0 rfl) ?_
              refine mcallV' (g := g) (q0 := 0) (ci := 7) (As := []) (rest := []) St hK hT hA hP hD hS hl.1 [0] [] rfl rfl rfl (c_drawF l g o a pe wo tx ch jo tr dy x_2 f21 ) (cwV 0 hts (zgL (zl4 k135 k136 k137 k24) k129) rfl rfl rfl (by decide +kernel) ⟨Nat.le_of_ble_eq_true rfl, Nat.le_of_ble_eq_true rfl⟩) rfl rfl rfl rfl (Nat.le_of_ble_eq_true rfl) dX9_comeBack_43 ⟨(Nat.le_of_ble_eq_true rfl), (Nat.le_of_ble_eq_true rfl)⟩ (fun _u H locs hq27 hP hD hS => ?_)
              have hP : va_P g.1 vwCl (List.flatten [bTown g o a pe wo tx ch jo tr dy (zDr x_2) f21]) H := hP
              have hD : va_D A (List.flatten [bTown g o a pe wo tx ch jo tr dy (zDr x_2) f21]) := hD
              refine W.widen (k := 0) (n := 0) (Nat.le_of_ble_eq_true rfl) (Nat.le_of_ble_eq_true rfl) ?_
              refine W.eq (g2 := F0 m 46 ls [.int (zDw x_2)]) rfl ?_
              refine lv_bipush (v := 100) hx hb dX9_comeBack_46 (by decide) ?_
              refine lv_irem hx hb dX9_comeBack_48 (by decide) ?_
              refine lv_aload_n hx hb dX9_comeBack_49 rfl (lv_at hl 0 rfl) ?_
              refine va_get (D := g.1) (ci := 7) (v := .int tr) (C := RX9) (T := TX9) (N := 19) hx hb hts izRX9 hown hK hP 0 rfl rfl 5 (by decide) (hts _ k6) (fun _ h9 => h9) rfl dX9_comeBack_50 ?_
              refine lv_icmp_ge (tgt := 60) hx hb dX9_comeBack_53 (by decide) (fun cb9 => ?_) (fun cb9 => ?_)
              · skip
                have c28 : tr.toInt ≤ ((zDw x_2) - (zDw x_2) / 100 * 100).toInt := zle cb9 rfl rfl
                refine lv_iconst (v := 0) hx hb dX9_comeBack_60 (by decide) ?_
                refine lv_istore (lv' := [(4, .int 0), (0, .ref o), (1, .int tl), (2, .null), (3, .int x_1)]) hx hb dX9_comeBack_61 hl (by decide) rfl (fun ls hl => ?_)
                refine lv_aload_n hx hb dX9_comeBack_63 rfl (lv_at hl 1 rfl) ?_
                refine lv_iload_n hx hb dX9_comeBack_64 rfl (lv_at hl 4 rfl) ?_
                refine lv_iload hx hb dX9_comeBack_65 (lv_at hl 0 rfl) ?_
                refine mcallV' (g := g) (q0 := 0) (ci := 7) (As := [.int x_1, .int 0]) (rest := []) St hK hT hA hP hD hS hl.1 [0] [] rfl rfl rfl (c_spread0F l g o a pe wo tx ch jo tr dy (zDr x_2) f21 x_1 b_pe b_wo rf21 (⟨i4.1, n11⟩)) (cwV 2 hts (zgL (zl4 k138 k139 k140 k24) k134) rfl rfl rfl (by decide +kernel) ⟨Nat.le_of_ble_eq_true rfl, Nat.le_of_ble_eq_true rfl⟩) rfl rfl rfl rfl (Nat.le_of_ble_eq_true rfl) dX9_comeBack_67 ⟨(Nat.le_of_ble_eq_true rfl), (Nat.le_of_ble_eq_true rfl)⟩ (fun f2_29 H locs hq30 hP hD hS => ?_)
                replace hq30 : (zZ4 f2_29) ∧ (f2_29 = zSpr pe.toInt.toNat x_1.toInt.toNat false f21) := hq30
                have hP : va_P g.1 vwCl (List.flatten [bTown g o a pe wo tx ch jo tr dy (zDr x_2) f2_29]) H := hP
                have hD : va_D A (List.flatten [bTown g o a pe wo tx ch jo tr dy (zDr x_2) f2_29]) := hD
                refine W.widen (k := 0) (n := 0) (Nat.le_of_ble_eq_true rfl) (Nat.le_of_ble_eq_true rfl) ?_
                refine W.eq (g2 := F0 m 70 ls []) rfl ?_
                obtain ⟨rf2_29, hq30_1⟩ := hq30
                refine lv_aload_n hx hb dX9_comeBack_70 rfl (lv_at hl 1 rfl) ?_
                refine lv_aload_nN hx hb dX9_comeBack_71 rfl (lv_at hl 3 rfl) ?_
                refine lv_iload_n hx hb dX9_comeBack_72 rfl (lv_at hl 4 rfl) ?_
                refine lv_iload hx hb dX9_comeBack_73 (lv_at hl 0 rfl) ?_
                refine lv_if_eq (tgt := 82) hx hb dX9_comeBack_75 (by decide) (fun _ => ?_) (fun c31 => absurd (by decide) c31)
                refine lv_iconst (v := 3) hx hb dX9_comeBack_82 (by decide) ?_
                refine mcallV' (g := g) (q0 := 0) (ci := 7) (As := [.null, .int x_1, .int 3]) (rest := []) St hK hT hA hP hD hS hl.1 [0] [] rfl rfl rfl (c_writeN l g o a pe wo tx ch jo tr dy (zDr x_2) f2_29 x_1 3 b_pe b_wo rf2_29) (cwV 3 hts (zgL (zl4 k125 k126 k127 k24) k124) rfl rfl rfl (by decide +kernel) ⟨Nat.le_of_ble_eq_true rfl, Nat.le_of_ble_eq_true rfl⟩) rfl rfl rfl rfl (Nat.le_of_ble_eq_true rfl) dX9_comeBack_83 ⟨(Nat.le_of_ble_eq_true rfl), (Nat.le_of_ble_eq_true rfl)⟩ (fun _u H locs hq32 hP hD hS => ?_)
                have hP : va_P g.1 vwCl (List.flatten [bTown g o a pe wo tx ch jo tr dy (zDr x_2) f2_29]) H := hP
                have hD : va_D A (List.flatten [bTown g o a pe wo tx ch jo tr dy (zDr x_2) f2_29]) := hD
                refine W.widen (k := 0) (n := 0) (Nat.le_of_ble_eq_true rfl) (Nat.le_of_ble_eq_true rfl) ?_
                refine W.eq (g2 := F0 m 86 ls []) rfl ?_
                refine ziinc3 (n' := 1) (a' := 1) (b' := 8) (lv' := fun v9 => [(3, .int v9), (4, .int 0), (0, .ref o), (1, .int tl), (2, .null)]) hx hb dX9_comeBack_86 hl (k := 4) rfl (by decide) (fun _ => rfl) (zaddK (i := x_1.toInt) (j := 1) rfl (by decide) i4.1 n11 (Int.le_refl _) (Int.le_refl _) (by decide)) (fun x_33 ls hx_33 hl => ?_)
                refine lv_goto (tgt := 2) hx hb dX9_comeBack_89 (by decide) ?_
                have hl := lv_sub (l' := [(0, .ref o), (1, .int tl), (2, .null), (3, .int x_33), (4, .int 0)]) hl [2, 3, 4, 0, 1] rfl
                have hP : va_P g.1 vwCl (List.flatten [bTown g o a pe wo tx ch jo tr dy (zDr x_2) f2_29]) H := hP
                have hD : va_D A (List.flatten [bTown g o a pe wo tx ch jo tr dy (zDr x_2) f2_29]) := hD
                exact ih2_8 x_33 (zDr x_2) f2_29 ⟨(Int.le_trans (by decide) hx_33.2.1), hx_33.2.2⟩ rf2_29 (zIt_s i5 hx_33.1 (by omega) (zCBd hq14_k (by omega) (by omega) ef21 (zWa_f (by omega)) hq30_1)) (by first | omega | assumption | decide) H _ ls (zmK hx_33.1 (by decide) n11 (by decide) hk2_8)  hP hD hS (lv_sub hl [0, 1, 2, 3] rfl)
              · skip
                have c34 : ((zDw x_2) - (zDw x_2) / 100 * 100).toInt < tr.toInt := zlti (Int32.not_le.mp cb9) rfl rfl
                refine lv_iconst (v := 1) hx hb dX9_comeBack_56 (by decide) ?_
                refine lv_goto (tgt := 61) hx hb dX9_comeBack_57 (by decide) ?_
                refine lv_istore (lv' := [(4, .int 1), (0, .ref o), (1, .int tl), (2, .null), (3, .int x_1)]) hx hb dX9_comeBack_61 hl (by decide) rfl (fun ls hl => ?_)
                refine lv_aload_n hx hb dX9_comeBack_63 rfl (lv_at hl 1 rfl) ?_
                refine lv_iload_n hx hb dX9_comeBack_64 rfl (lv_at hl 4 rfl) ?_
                refine lv_iload hx hb dX9_comeBack_65 (lv_at hl 0 rfl) ?_
                have hL1 : (1 : Int32).toInt = 1 := by decide
                refine mcallV' (g := g) (q0 := 0) (ci := 7) (As := [.int x_1, .int 1]) (rest := []) St hK hT hA hP hD hS hl.1 [0] [] rfl rfl rfl (c_spread1F l g o a pe wo tx ch jo tr dy (zDr x_2) f21 x_1 b_pe b_wo rf21 (⟨i4.1, n11⟩)) (cwV 2 hts (zgL (zl4 k138 k139 k140 k24) k134) rfl rfl rfl (by decide +kernel) ⟨Nat.le_of_ble_eq_true rfl, Nat.le_of_ble_eq_true rfl⟩) rfl rfl rfl rfl (Nat.le_of_ble_eq_true rfl) dX9_comeBack_67 ⟨(Nat.le_of_ble_eq_true rfl), (Nat.le_of_ble_eq_true rfl)⟩ (fun f2_35 H locs hq36 hP hD hS => ?_)
                replace hq36 : (zZ4 f2_35) ∧ (f2_35 = zSpr pe.toInt.toNat x_1.toInt.toNat true f21) := hq36
                have hP : va_P g.1 vwCl (List.flatten [bTown g o a pe wo tx ch jo tr dy (zDr x_2) f2_35]) H := hP
                have hD : va_D A (List.flatten [bTown g o a pe wo tx ch jo tr dy (zDr x_2) f2_35]) := hD
                refine W.widen (k := 0) (n := 0) (Nat.le_of_ble_eq_true rfl) (Nat.le_of_ble_eq_true rfl) ?_
                refine W.eq (g2 := F0 m 70 ls []) rfl ?_
                obtain ⟨rf2_35, hq36_1⟩ := hq36
                refine lv_aload_n hx hb dX9_comeBack_70 rfl (lv_at hl 1 rfl) ?_
                refine lv_aload_nN hx hb dX9_comeBack_71 rfl (lv_at hl 3 rfl) ?_
                refine lv_iload_n hx hb dX9_comeBack_72 rfl (lv_at hl 4 rfl) ?_
                refine lv_iload hx hb dX9_comeBack_73 (lv_at hl 0 rfl) ?_
                refine lv_if_eq (tgt := 82) hx hb dX9_comeBack_75 (by decide) (fun c37 => absurd c37 (by decide)) (fun _ => ?_)
                refine lv_iconst (v := 2) hx hb dX9_comeBack_78 (by decide) ?_
                refine lv_goto (tgt := 83) hx hb dX9_comeBack_79 (by decide) ?_
                refine mcallV' (g := g) (q0 := 0) (ci := 7) (As := [.null, .int x_1, .int 2]) (rest := []) St hK hT hA hP hD hS hl.1 [0] [] rfl rfl rfl (c_writeN l g o a pe wo tx ch jo tr dy (zDr x_2) f2_35 x_1 2 b_pe b_wo rf2_35) (cwV 3 hts (zgL (zl4 k125 k126 k127 k24) k124) rfl rfl rfl (by decide +kernel) ⟨Nat.le_of_ble_eq_true rfl, Nat.le_of_ble_eq_true rfl⟩) rfl rfl rfl rfl (Nat.le_of_ble_eq_true rfl) dX9_comeBack_83 ⟨(Nat.le_of_ble_eq_true rfl), (Nat.le_of_ble_eq_true rfl)⟩ (fun _u H locs hq38 hP hD hS => ?_)
                have hP : va_P g.1 vwCl (List.flatten [bTown g o a pe wo tx ch jo tr dy (zDr x_2) f2_35]) H := hP
                have hD : va_D A (List.flatten [bTown g o a pe wo tx ch jo tr dy (zDr x_2) f2_35]) := hD
                refine W.widen (k := 0) (n := 0) (Nat.le_of_ble_eq_true rfl) (Nat.le_of_ble_eq_true rfl) ?_
                refine W.eq (g2 := F0 m 86 ls []) rfl ?_
                refine ziinc3 (n' := 1) (a' := 1) (b' := 8) (lv' := fun v9 => [(3, .int v9), (4, .int 1), (0, .ref o), (1, .int tl), (2, .null)]) hx hb dX9_comeBack_86 hl (k := 4) rfl (by decide) (fun _ => rfl) (zaddK (i := x_1.toInt) (j := 1) rfl (by decide) i4.1 n11 (Int.le_refl _) (Int.le_refl _) (by decide)) (fun x_39 ls hx_39 hl => ?_)
                refine lv_goto (tgt := 2) hx hb dX9_comeBack_89 (by decide) ?_
                have hl := lv_sub (l' := [(0, .ref o), (1, .int tl), (2, .null), (3, .int x_39), (4, .int 1)]) hl [2, 3, 4, 0, 1] rfl
                have hP : va_P g.1 vwCl (List.flatten [bTown g o a pe wo tx ch jo tr dy (zDr x_2) f2_35]) H := hP
                have hD : va_D A (List.flatten [bTown g o a pe wo tx ch jo tr dy (zDr x_2) f2_35]) := hD
                exact ih2_8 x_39 (zDr x_2) f2_35 ⟨(Int.le_trans (by decide) hx_39.2.1), hx_39.2.2⟩ rf2_35 (zIt_s i5 hx_39.1 (by omega) (zCBd hq14_k (by omega) (by omega) ef21 (zWa_t (by omega)) hq36_1)) (by first | omega | assumption | decide) H _ ls (zmK hx_39.1 (by decide) n11 (by decide) hk2_8)  hP hD hS (lv_sub hl [0, 1, 2, 3] rfl)
  have hL0 : (0 : Int32).toInt = 0 := by decide
  have hP : va_P g.1 vwCl (List.flatten [bTown g o a pe wo tx ch jo tr dy sd f]) s.heap := hP
  have hD : va_D A (List.flatten [bTown g o a pe wo tx ch jo tr dy sd f]) := hD
  exact LP2_7 _ 0 sd f (by decide) rf (zIt_0 (by decide) rfl) (by first | omega | assumption | decide) s.heap _ ls (Nat.lt_succ_self _)  hP hD hS (lv_sub hl [0, 1, 2, 3] rfl)
set_option maxRecDepth 100000 in
set_option maxHeartbeats 4000000 in
theorem c_passDayF (l : Launch) (g : zG) (o : Nat) (a : Nat → Nat) (pe : Int32) (wo : Int32) (tx : Int32) (ch : Int32) (jo : Int32) (tr : Int32) (dy : Int32) (sd : Int32) (f : Nat → Nat → Int32) (lo : Nat) (lc : Nat) (lz : Int32) (ll : Int32) (lm : Int32) (lg : Int32) (ld : Int32) (fc : Nat → Int32) (go : Nat) (gr : Nat) (gz : Int32) (gn : Int32) (fr : Nat → Int32) (tl : Int32) (b_pe : 0 ≤ pe.toInt ∧ pe.toInt ≤ 8) (b_wo : 0 ≤ wo.toInt ∧ wo.toInt ≤ 6) (rf : zZ4 f) (b_lz : 0 ≤ lz.toInt ∧ lz.toInt ≤ 400) (b_gz : 0 ≤ gz.toInt ∧ gz.toInt ≤ 60) (b_gn : 0 ≤ gn.toInt ∧ gn.toInt ≤ 59) : zM' g l yX9_passDay (Cond.code yX9_passDay cX9_passDay 5 (some .int) :: zB) ({ frames := 5, cells := 0, slots := 0, locals := 104 } : Room) [.ref o, .ref lo, .int tl, .ref go] [bTown g o a pe wo tx ch jo tr dy sd f, bLaw g lo lc lz ll lm lg ld fc, bLog g go gr gz gn fr] (fun u : Int32 × Int32 × Int32 × (Nat → Nat → Int32) × Int32 × Int32 × (Nat → Int32) × Int32 => (fun (ch2 : Int32) (dy2 : Int32) (sd2 : Int32) (f2 : Nat → Nat → Int32) (gz2 : Int32) (gn2 : Int32) (fr2 : Nat → Int32) (q : Int32) => some (.int q)) (u.1) (u.2.1) (u.2.2.1) (u.2.2.2.1) (u.2.2.2.2.1) (u.2.2.2.2.2.1) (u.2.2.2.2.2.2.1) (u.2.2.2.2.2.2.2)) (fun u : Int32 × Int32 × Int32 × (Nat → Nat → Int32) × Int32 × Int32 × (Nat → Int32) × Int32 => (fun (ch2 : Int32) (dy2 : Int32) (sd2 : Int32) (f2 : Nat → Nat → Int32) (gz2 : Int32) (gn2 : Int32) (fr2 : Nat → Int32) (q : Int32) => (zZ4 f2) ∧ (0 ≤ gz2.toInt ∧ gz2.toInt ≤ 60) ∧ (0 ≤ gn2.toInt ∧ gn2.toInt ≤ 59) ∧ (zDR (ch2, dy2, sd2, f2) (zDay (zLwR fc lz ll) pe.toInt.toNat wo.toInt.toNat tr tl (ch, dy, sd, f)) ∧ q = (zDk (zLwR fc lz ll) pe.toInt.toNat wo.toInt.toNat (ch, dy, sd, f)).2.2)) (u.1) (u.2.1) (u.2.2.1) (u.2.2.2.1) (u.2.2.2.2.1) (u.2.2.2.2.2.1) (u.2.2.2.2.2.2.1) (u.2.2.2.2.2.2.2)) (fun u : Int32 × Int32 × Int32 × (Nat → Nat → Int32) × Int32 × Int32 × (Nat → Int32) × Int32 => (fun (ch2 : Int32) (dy2 : Int32) (sd2 : Int32) (f2 : Nat → Nat → Int32) (gz2 : Int32) (gn2 : Int32) (fr2 : Nat → Int32) (q : Int32) => [bTown g o a pe wo tx ch2 jo tr dy2 sd2 f2, bLaw g lo lc lz ll (zMean f pe.toInt.toNat) (zPop (zWks f wo.toInt.toNat 1)) dy fc, bLog g go gr gz2 gn2 fr2]) (u.1) (u.2.1) (u.2.2.1) (u.2.2.2.1) (u.2.2.2.2.1) (u.2.2.2.2.2.1) (u.2.2.2.2.2.2.1) (u.2.2.2.2.2.2.2)) := by
  refine zM'.of (cc := cX9_passDay) (maxL := 5) (rt := (some .int)) (by decide) rfl (Nat.le_of_ble_eq_true rfl) ?_
  intro p e s m args below meth c A ls St hr hlocks hin hK hT hA hP hD hS hl
  obtain ⟨hx, hb, hml, hown, hts⟩ := id St
  have hl : lv_has ls 5 [(0, .ref o), (1, .ref lo), (2, .int tl), (3, .ref go)] := hl
  refine lv_aload_n hx hb dX9_passDay_0 rfl (lv_at hl 0 rfl) ?_
  refine lv_aload_n hx hb dX9_passDay_1 rfl (lv_at hl 1 rfl) ?_
  refine mcallV' (g := g) (q0 := 0) (ci := 7) (As := [.ref lo]) (rest := []) St hK hT hA hP hD hS hl.1 [0, 1] [2] rfl rfl rfl (c_showToF l g o a pe wo tx ch jo tr dy sd f lo lc lz ll lm lg ld fc b_pe b_wo rf) (cwV 1 hts (zgL (zl4 k142 k143 k144 k24) k86) rfl rfl rfl (by decide +kernel) ⟨Nat.le_of_ble_eq_true rfl, Nat.le_of_ble_eq_true rfl⟩) rfl rfl rfl rfl (Nat.le_of_ble_eq_true rfl) dX9_passDay_2 ⟨(Nat.le_of_ble_eq_true rfl), (Nat.le_of_ble_eq_true rfl)⟩ (fun _u H locs hq1 hP hD hS => ?_)
  have hP : va_P g.1 vwCl (List.flatten [bLog g go gr gz gn fr, bTown g o a pe wo tx ch jo tr dy sd f, bLaw g lo lc lz ll (zMean f pe.toInt.toNat) (zPop (zWks f wo.toInt.toNat 1)) dy fc]) H := hP
  have hD : va_D A (List.flatten [bLog g go gr gz gn fr, bTown g o a pe wo tx ch jo tr dy sd f, bLaw g lo lc lz ll (zMean f pe.toInt.toNat) (zPop (zWks f wo.toInt.toNat 1)) dy fc]) := hD
  refine W.widen (k := 0) (n := 0) (Nat.le_of_ble_eq_true rfl) (Nat.le_of_ble_eq_true rfl) ?_
  refine W.eq (g2 := F0 m 5 ls []) rfl ?_
  refine lv_aload_n hx hb dX9_passDay_5 rfl (lv_at hl 0 rfl) ?_
  refine lv_aload_n hx hb dX9_passDay_6 rfl (lv_at hl 1 rfl) ?_
  refine mcallV' (g := g) (q0 := 0) (ci := 7) (As := [.ref lo]) (rest := []) St hK hT hA hP hD hS hl.1 [1, 2] [0] rfl rfl rfl (c_turnBeliefsF l g o a pe wo tx ch jo tr dy sd f lo lc lz ll fc b_pe b_wo rf b_lz) (cwV 1 hts (zgL (zl4 k145 k146 k147 k24) k114) rfl rfl rfl (by decide +kernel) ⟨Nat.le_of_ble_eq_true rfl, Nat.le_of_ble_eq_true rfl⟩) rfl rfl rfl rfl (Nat.le_of_ble_eq_true rfl) dX9_passDay_7 ⟨(Nat.le_of_ble_eq_true rfl), (Nat.le_of_ble_eq_true rfl)⟩ (fun f2_2 H locs hq3 hP hD hS => ?_)
  replace hq3 : (zZ4 f2_2) ∧ (zEq f2_2 (zTB (zLwR fc lz ll) f pe.toInt.toNat wo.toInt.toNat dy)) := hq3
  have hP : va_P g.1 vwCl (List.flatten [bLog g go gr gz gn fr, bTown g o a pe wo tx ch jo tr dy sd f2_2, bLaw g lo lc lz ll (zMean f pe.toInt.toNat) (zPop (zWks f wo.toInt.toNat 1)) dy fc]) H := hP
  have hD : va_D A (List.flatten [bLog g go gr gz gn fr, bTown g o a pe wo tx ch jo tr dy sd f2_2, bLaw g lo lc lz ll (zMean f pe.toInt.toNat) (zPop (zWks f wo.toInt.toNat 1)) dy fc]) := hD
  refine W.widen (k := 0) (n := 0) (Nat.le_of_ble_eq_true rfl) (Nat.le_of_ble_eq_true rfl) ?_
  refine W.eq (g2 := F0 m 10 ls []) rfl ?_
  obtain ⟨rf2_2, hq3_1⟩ := hq3
  refine lv_aload_n hx hb dX9_passDay_10 rfl (lv_at hl 0 rfl) ?_
  refine lv_aload_n hx hb dX9_passDay_11 rfl (lv_at hl 3 rfl) ?_
  refine mcallV' (g := g) (q0 := 0) (ci := 7) (As := [.ref go]) (rest := []) St hK hT hA hP hD hS hl.1 [1, 0] [2] rfl rfl rfl (c_keepWorksF l g o a pe wo tx ch jo tr dy sd f2_2 go gr gz gn fr b_pe b_wo rf2_2 b_gz b_gn) (cwV 1 hts (zgL (zl4 k148 k149 k150 k24) k128) rfl rfl rfl (by decide +kernel) ⟨Nat.le_of_ble_eq_true rfl, Nat.le_of_ble_eq_true rfl⟩) rfl rfl rfl rfl (Nat.le_of_ble_eq_true rfl) dX9_passDay_12 ⟨(Nat.le_of_ble_eq_true rfl), (Nat.le_of_ble_eq_true rfl)⟩ (fun u_ H locs hq10 hP hD hS => ?_)
  obtain ⟨ch2_4, f2_5, gz2_6, gn2_7, fr2_8, q_9⟩ := u_
  replace hq10 : (zZ4 f2_5) ∧ (0 ≤ gz2_6.toInt ∧ gz2_6.toInt ≤ 60) ∧ (0 ≤ gn2_7.toInt ∧ gn2_7.toInt ≤ 59) ∧ ((ch2_4, f2_5, q_9) = zIt (zKW1 (zBel f2_2 pe.toInt.toNat)) (ch, f2_2, 0) wo.toInt.toNat) := hq10
  have hP : va_P g.1 vwCl (List.flatten [bLaw g lo lc lz ll (zMean f pe.toInt.toNat) (zPop (zWks f wo.toInt.toNat 1)) dy fc, bTown g o a pe wo tx ch2_4 jo tr dy sd f2_5, bLog g go gr gz2_6 gn2_7 fr2_8]) H := hP
  have hD : va_D A (List.flatten [bLaw g lo lc lz ll (zMean f pe.toInt.toNat) (zPop (zWks f wo.toInt.toNat 1)) dy fc, bTown g o a pe wo tx ch2_4 jo tr dy sd f2_5, bLog g go gr gz2_6 gn2_7 fr2_8]) := hD
  refine W.widen (k := 0) (n := 0) (Nat.le_of_ble_eq_true rfl) (Nat.le_of_ble_eq_true rfl) ?_
  refine W.eq (g2 := F0 m 15 ls [.int q_9]) rfl ?_
  obtain ⟨rf2_5, hq10_1, hq10_2, hq10_3⟩ := hq10
  refine lv_istore (lv' := [(4, .int q_9), (0, .ref o), (1, .ref lo), (2, .int tl), (3, .ref go)]) hx hb dX9_passDay_15 hl (by decide) rfl (fun ls hl => ?_)
  refine lv_aload_n hx hb dX9_passDay_17 rfl (lv_at hl 1 rfl) ?_
  refine lv_iload_n hx hb dX9_passDay_18 rfl (lv_at hl 3 rfl) ?_
  refine lv_aload_n hx hb dX9_passDay_19 rfl (lv_at hl 4 rfl) ?_
  refine mcallV' (g := g) (q0 := 0) (ci := 7) (As := [.int tl, .ref go]) (rest := []) St hK hT hA hP hD hS hl.1 [1, 2] [0] rfl rfl rfl (c_comeBackF l g o a pe wo tx ch2_4 jo tr dy sd f2_5 go gr gz2_6 gn2_7 fr2_8 tl b_pe b_wo rf2_5 hq10_1 hq10_2) (cwV 2 hts (zgL (zl4 k151 k152 k153 k24) k141) rfl rfl rfl (by decide +kernel) ⟨Nat.le_of_ble_eq_true rfl, Nat.le_of_ble_eq_true rfl⟩) rfl rfl rfl rfl (Nat.le_of_ble_eq_true rfl) dX9_passDay_20 ⟨(Nat.le_of_ble_eq_true rfl), (Nat.le_of_ble_eq_true rfl)⟩ (fun u_ H locs hq16 hP hD hS => ?_)
  obtain ⟨sd2_11, f2_12, gz2_13, gn2_14, fr2_15⟩ := u_
  replace hq16 : (zZ4 f2_12) ∧ (0 ≤ gz2_13.toInt ∧ gz2_13.toInt ≤ 60) ∧ (0 ≤ gn2_14.toInt ∧ gn2_14.toInt ≤ 59) ∧ ((f2_12, sd2_11) = zIt (zCB1 pe.toInt.toNat dy tr tl) (f2_5, sd) pe.toInt.toNat) := hq16
  have hP : va_P g.1 vwCl (List.flatten [bLaw g lo lc lz ll (zMean f pe.toInt.toNat) (zPop (zWks f wo.toInt.toNat 1)) dy fc, bTown g o a pe wo tx ch2_4 jo tr dy sd2_11 f2_12, bLog g go gr gz2_13 gn2_14 fr2_15]) H := hP
  have hD : va_D A (List.flatten [bLaw g lo lc lz ll (zMean f pe.toInt.toNat) (zPop (zWks f wo.toInt.toNat 1)) dy fc, bTown g o a pe wo tx ch2_4 jo tr dy sd2_11 f2_12, bLog g go gr gz2_13 gn2_14 fr2_15]) := hD
  refine W.widen (k := 0) (n := 0) (Nat.le_of_ble_eq_true rfl) (Nat.le_of_ble_eq_true rfl) ?_
  refine W.eq (g2 := F0 m 23 ls []) rfl ?_
  obtain ⟨rf2_12, hq16_1, hq16_2, hq16_3⟩ := hq16
  refine lv_aload_n hx hb dX9_passDay_23 rfl (lv_at hl 1 rfl) ?_
  refine lv_sipush (v := 9999) hx hb dX9_passDay_24 (by decide) ?_
  refine lv_aload_n hx hb dX9_passDay_27 rfl (lv_at hl 1 rfl) ?_
  refine va_get (D := g.1) (ci := 7) (v := .int dy) (C := RX9) (T := TX9) (N := 19) hx hb hts izRX9 hown hK hP 2 rfl rfl 6 (by decide) (hts _ k34) (fun _ h9 => h9) rfl dX9_passDay_28 ?_
  refine lv_iconst (v := 1) hx hb dX9_passDay_31 (by decide) ?_
  refine lv_iadd hx hb dX9_passDay_32 ?_
  refine va_mmin hx hb (by rw [hml]; exact hl.1.symm) hown (hts _ k40) (hts _ k41) (hts _ k42) (hts _ k43) (Nat.le_of_ble_eq_true rfl) (Nat.le_of_ble_eq_true rfl) (Nat.le_of_ble_eq_true rfl) (Nat.le_of_ble_eq_true rfl) dX9_passDay_33 ?_
  refine ztop (r := (zCap (dy + 1))) (zCap_m _) ?_
  refine va_put (D := g.1) (ci := 7) (v := .int (zCap (dy + 1))) (ty := .int) (C := RX9) (T := TX9) (N := 19) hx hb hts izRX9 tyX9 tyX9_ok nmX9 hown hK hP hD hS 2 rfl rfl 6 (by decide) (hts _ k34) (fun _ h9 => h9) rfl (by decide +kernel) rfl rfl (Nat.le_of_ble_eq_true rfl) dX9_passDay_36 (fun H locs hP hD hS => ?_)
  have hP : va_P g.1 vwCl (List.flatten [bLaw g lo lc lz ll (zMean f pe.toInt.toNat) (zPop (zWks f wo.toInt.toNat 1)) dy fc, bTown g o a pe wo tx ch2_4 jo tr (zCap (dy + 1)) sd2_11 f2_12, bLog g go gr gz2_13 gn2_14 fr2_15]) H := hP
  have hD : va_D A (List.flatten [bLaw g lo lc lz ll (zMean f pe.toInt.toNat) (zPop (zWks f wo.toInt.toNat 1)) dy fc, bTown g o a pe wo tx ch2_4 jo tr (zCap (dy + 1)) sd2_11 f2_12, bLog g go gr gz2_13 gn2_14 fr2_15]) := hD
  refine lv_iload hx hb dX9_passDay_39 (lv_at hl 0 rfl) ?_
  have hP : va_P g.1 vwCl (List.flatten [bLaw g lo lc lz ll (zMean f pe.toInt.toNat) (zPop (zWks f wo.toInt.toNat 1)) dy fc, bTown g o a pe wo tx ch2_4 jo tr (zCap (dy + 1)) sd2_11 f2_12, bLog g go gr gz2_13 gn2_14 fr2_15]) H := hP
  have hD : va_D A (List.flatten [bLaw g lo lc lz ll (zMean f pe.toInt.toNat) (zPop (zWks f wo.toInt.toNat 1)) dy fc, bTown g o a pe wo tx ch2_4 jo tr (zCap (dy + 1)) sd2_11 f2_12, bLog g go gr gz2_13 gn2_14 fr2_15]) := hD
  obtain ⟨hP, hD⟩ := zord (g := g) (Bs' := [bTown g o a pe wo tx ch2_4 jo tr (zCap (dy + 1)) sd2_11 f2_12, bLaw g lo lc lz ll (zMean f pe.toInt.toNat) (zPop (zWks f wo.toInt.toNat 1)) dy fc, bLog g go gr gz2_13 gn2_14 fr2_15]) [1, 0, 2] rfl rfl hP hD
  exact mret_i hx hb hr hlocks hS (Nat.le_of_ble_eq_true rfl) (Nat.le_of_ble_eq_true rfl) dX9_passDay_41 (ch2_4, zCap (dy + 1), sd2_11, f2_12, gz2_13, gn2_14, fr2_15, q_9) rfl (show (zZ4 f2_12) ∧ (0 ≤ gz2_13.toInt ∧ gz2_13.toInt ≤ 60) ∧ (0 ≤ gn2_14.toInt ∧ gn2_14.toInt ≤ 59) ∧ (zDR (ch2_4, (zCap (dy + 1)), sd2_11, f2_12) (zDay (zLwR fc lz ll) pe.toInt.toNat wo.toInt.toNat tr tl (ch, dy, sd, f)) ∧ q_9 = (zDk (zLwR fc lz ll) pe.toInt.toNat wo.toInt.toNat (ch, dy, sd, f)).2.2) from ⟨(by first | assumption | omega), (by first | assumption | omega), (by first | assumption | omega), zPd_mk (by omega) (by omega) hq3_1 hq10_3 hq16_3⟩) hP hD
set_option maxRecDepth 100000 in
set_option maxHeartbeats 4000000 in
theorem c_passDayNF (l : Launch) (g : zG) (o : Nat) (a : Nat → Nat) (pe : Int32) (wo : Int32) (tx : Int32) (ch : Int32) (jo : Int32) (tr : Int32) (dy : Int32) (sd : Int32) (f : Nat → Nat → Int32) (lo : Nat) (lc : Nat) (lz : Int32) (ll : Int32) (lm : Int32) (lg : Int32) (ld : Int32) (fc : Nat → Int32) (tl : Int32) (b_pe : 0 ≤ pe.toInt ∧ pe.toInt ≤ 8) (b_wo : 0 ≤ wo.toInt ∧ wo.toInt ≤ 6) (rf : zZ4 f) (b_lz : 0 ≤ lz.toInt ∧ lz.toInt ≤ 400) : zM' g l yX9_passDay (Cond.code yX9_passDay cX9_passDay 5 (some .int) :: zB) ({ frames := 5, cells := 0, slots := 0, locals := 104 } : Room) [.ref o, .ref lo, .int tl, .null] [bTown g o a pe wo tx ch jo tr dy sd f, bLaw g lo lc lz ll lm lg ld fc] (fun u : Int32 × Int32 × Int32 × (Nat → Nat → Int32) × Int32 => (fun (ch2 : Int32) (dy2 : Int32) (sd2 : Int32) (f2 : Nat → Nat → Int32) (q : Int32) => some (.int q)) (u.1) (u.2.1) (u.2.2.1) (u.2.2.2.1) (u.2.2.2.2)) (fun u : Int32 × Int32 × Int32 × (Nat → Nat → Int32) × Int32 => (fun (ch2 : Int32) (dy2 : Int32) (sd2 : Int32) (f2 : Nat → Nat → Int32) (q : Int32) => (zZ4 f2) ∧ (zDR (ch2, dy2, sd2, f2) (zDay (zLwR fc lz ll) pe.toInt.toNat wo.toInt.toNat tr tl (ch, dy, sd, f)) ∧ q = (zDk (zLwR fc lz ll) pe.toInt.toNat wo.toInt.toNat (ch, dy, sd, f)).2.2)) (u.1) (u.2.1) (u.2.2.1) (u.2.2.2.1) (u.2.2.2.2)) (fun u : Int32 × Int32 × Int32 × (Nat → Nat → Int32) × Int32 => (fun (ch2 : Int32) (dy2 : Int32) (sd2 : Int32) (f2 : Nat → Nat → Int32) (q : Int32) => [bTown g o a pe wo tx ch2 jo tr dy2 sd2 f2, bLaw g lo lc lz ll (zMean f pe.toInt.toNat) (zPop (zWks f wo.toInt.toNat 1)) dy fc]) (u.1) (u.2.1) (u.2.2.1) (u.2.2.2.1) (u.2.2.2.2)) := by
  refine zM'.of (cc := cX9_passDay) (maxL := 5) (rt := (some .int)) (by decide) rfl (Nat.le_of_ble_eq_true rfl) ?_
  intro p e s m args below meth c A ls St hr hlocks hin hK hT hA hP hD hS hl
  obtain ⟨hx, hb, hml, hown, hts⟩ := id St
  have hl : lv_has ls 5 [(0, .ref o), (1, .ref lo), (2, .int tl), (3, .null)] := hl
  refine lv_aload_n hx hb dX9_passDay_0 rfl (lv_at hl 0 rfl) ?_
  refine lv_aload_n hx hb dX9_passDay_1 rfl (lv_at hl 1 rfl) ?_
  refine mcallV' (g := g) (q0 := 0) (ci := 7) (As := [.ref lo]) (rest := []) St hK hT hA hP hD hS hl.1 [0, 1] [] rfl rfl rfl (c_showToF l g o a pe wo tx ch jo tr dy sd f lo lc lz ll lm lg ld fc b_pe b_wo rf) (cwV 1 hts (zgL (zl4 k142 k143 k144 k24) k86) rfl rfl rfl (by decide +kernel) ⟨Nat.le_of_ble_eq_true rfl, Nat.le_of_ble_eq_true rfl⟩) rfl rfl rfl rfl (Nat.le_of_ble_eq_true rfl) dX9_passDay_2 ⟨(Nat.le_of_ble_eq_true rfl), (Nat.le_of_ble_eq_true rfl)⟩ (fun _u H locs hq1 hP hD hS => ?_)
  have hP : va_P g.1 vwCl (List.flatten [bTown g o a pe wo tx ch jo tr dy sd f, bLaw g lo lc lz ll (zMean f pe.toInt.toNat) (zPop (zWks f wo.toInt.toNat 1)) dy fc]) H := hP
  have hD : va_D A (List.flatten [bTown g o a pe wo tx ch jo tr dy sd f, bLaw g lo lc lz ll (zMean f pe.toInt.toNat) (zPop (zWks f wo.toInt.toNat 1)) dy fc]) := hD
  refine W.widen (k := 0) (n := 0) (Nat.le_of_ble_eq_true rfl) (Nat.le_of_ble_eq_true rfl) ?_
  refine W.eq (g2 := F0 m 5 ls []) rfl ?_
  refine lv_aload_n hx hb dX9_passDay_5 rfl (lv_at hl 0 rfl) ?_
  refine lv_aload_n hx hb dX9_passDay_6 rfl (lv_at hl 1 rfl) ?_
  refine mcallV' (g := g) (q0 := 0) (ci := 7) (As := [.ref lo]) (rest := []) St hK hT hA hP hD hS hl.1 [0, 1] [] rfl rfl rfl (c_turnBeliefsF l g o a pe wo tx ch jo tr dy sd f lo lc lz ll fc b_pe b_wo rf b_lz) (cwV 1 hts (zgL (zl4 k145 k146 k147 k24) k114) rfl rfl rfl (by decide +kernel) ⟨Nat.le_of_ble_eq_true rfl, Nat.le_of_ble_eq_true rfl⟩) rfl rfl rfl rfl (Nat.le_of_ble_eq_true rfl) dX9_passDay_7 ⟨(Nat.le_of_ble_eq_true rfl), (Nat.le_of_ble_eq_true rfl)⟩ (fun f2_2 H locs hq3 hP hD hS => ?_)
  replace hq3 : (zZ4 f2_2) ∧ (zEq f2_2 (zTB (zLwR fc lz ll) f pe.toInt.toNat wo.toInt.toNat dy)) := hq3
  have hP : va_P g.1 vwCl (List.flatten [bTown g o a pe wo tx ch jo tr dy sd f2_2, bLaw g lo lc lz ll (zMean f pe.toInt.toNat) (zPop (zWks f wo.toInt.toNat 1)) dy fc]) H := hP
  have hD : va_D A (List.flatten [bTown g o a pe wo tx ch jo tr dy sd f2_2, bLaw g lo lc lz ll (zMean f pe.toInt.toNat) (zPop (zWks f wo.toInt.toNat 1)) dy fc]) := hD
  refine W.widen (k := 0) (n := 0) (Nat.le_of_ble_eq_true rfl) (Nat.le_of_ble_eq_true rfl) ?_
  refine W.eq (g2 := F0 m 10 ls []) rfl ?_
  obtain ⟨rf2_2, hq3_1⟩ := hq3
  refine lv_aload_n hx hb dX9_passDay_10 rfl (lv_at hl 0 rfl) ?_
  refine lv_aload_nN hx hb dX9_passDay_11 rfl (lv_at hl 3 rfl) ?_
  refine mcallV' (g := g) (q0 := 0) (ci := 7) (As := [.null]) (rest := []) St hK hT hA hP hD hS hl.1 [0] [1] rfl rfl rfl (c_keepWorksNF l g o a pe wo tx ch jo tr dy sd f2_2 b_pe b_wo rf2_2) (cwV 1 hts (zgL (zl4 k148 k149 k150 k24) k128) rfl rfl rfl (by decide +kernel) ⟨Nat.le_of_ble_eq_true rfl, Nat.le_of_ble_eq_true rfl⟩) rfl rfl rfl rfl (Nat.le_of_ble_eq_true rfl) dX9_passDay_12 ⟨(Nat.le_of_ble_eq_true rfl), (Nat.le_of_ble_eq_true rfl)⟩ (fun u_ H locs hq7 hP hD hS => ?_)
  obtain ⟨ch2_4, f2_5, q_6⟩ := u_
  replace hq7 : (zZ4 f2_5) ∧ ((ch2_4, f2_5, q_6) = zIt (zKW1 (zBel f2_2 pe.toInt.toNat)) (ch, f2_2, 0) wo.toInt.toNat) := hq7
  have hP : va_P g.1 vwCl (List.flatten [bLaw g lo lc lz ll (zMean f pe.toInt.toNat) (zPop (zWks f wo.toInt.toNat 1)) dy fc, bTown g o a pe wo tx ch2_4 jo tr dy sd f2_5]) H := hP
  have hD : va_D A (List.flatten [bLaw g lo lc lz ll (zMean f pe.toInt.toNat) (zPop (zWks f wo.toInt.toNat 1)) dy fc, bTown g o a pe wo tx ch2_4 jo tr dy sd f2_5]) := hD
  refine W.widen (k := 0) (n := 0) (Nat.le_of_ble_eq_true rfl) (Nat.le_of_ble_eq_true rfl) ?_
  refine W.eq (g2 := F0 m 15 ls [.int q_6]) rfl ?_
  obtain ⟨rf2_5, hq7_1⟩ := hq7
  refine lv_istore (lv' := [(4, .int q_6), (0, .ref o), (1, .ref lo), (2, .int tl), (3, .null)]) hx hb dX9_passDay_15 hl (by decide) rfl (fun ls hl => ?_)
  refine lv_aload_n hx hb dX9_passDay_17 rfl (lv_at hl 1 rfl) ?_
  refine lv_iload_n hx hb dX9_passDay_18 rfl (lv_at hl 3 rfl) ?_
  refine lv_aload_nN hx hb dX9_passDay_19 rfl (lv_at hl 4 rfl) ?_
  refine mcallV' (g := g) (q0 := 0) (ci := 7) (As := [.int tl, .null]) (rest := []) St hK hT hA hP hD hS hl.1 [1] [0] rfl rfl rfl (c_comeBackNF l g o a pe wo tx ch2_4 jo tr dy sd f2_5 tl b_pe b_wo rf2_5) (cwV 2 hts (zgL (zl4 k151 k152 k153 k24) k141) rfl rfl rfl (by decide +kernel) ⟨Nat.le_of_ble_eq_true rfl, Nat.le_of_ble_eq_true rfl⟩) rfl rfl rfl rfl (Nat.le_of_ble_eq_true rfl) dX9_passDay_20 ⟨(Nat.le_of_ble_eq_true rfl), (Nat.le_of_ble_eq_true rfl)⟩ (fun u_ H locs hq10 hP hD hS => ?_)
  obtain ⟨sd2_8, f2_9⟩ := u_
  replace hq10 : (zZ4 f2_9) ∧ ((f2_9, sd2_8) = zIt (zCB1 pe.toInt.toNat dy tr tl) (f2_5, sd) pe.toInt.toNat) := hq10
  have hP : va_P g.1 vwCl (List.flatten [bLaw g lo lc lz ll (zMean f pe.toInt.toNat) (zPop (zWks f wo.toInt.toNat 1)) dy fc, bTown g o a pe wo tx ch2_4 jo tr dy sd2_8 f2_9]) H := hP
  have hD : va_D A (List.flatten [bLaw g lo lc lz ll (zMean f pe.toInt.toNat) (zPop (zWks f wo.toInt.toNat 1)) dy fc, bTown g o a pe wo tx ch2_4 jo tr dy sd2_8 f2_9]) := hD
  refine W.widen (k := 0) (n := 0) (Nat.le_of_ble_eq_true rfl) (Nat.le_of_ble_eq_true rfl) ?_
  refine W.eq (g2 := F0 m 23 ls []) rfl ?_
  obtain ⟨rf2_9, hq10_1⟩ := hq10
  refine lv_aload_n hx hb dX9_passDay_23 rfl (lv_at hl 1 rfl) ?_
  refine lv_sipush (v := 9999) hx hb dX9_passDay_24 (by decide) ?_
  refine lv_aload_n hx hb dX9_passDay_27 rfl (lv_at hl 1 rfl) ?_
  refine va_get (D := g.1) (ci := 7) (v := .int dy) (C := RX9) (T := TX9) (N := 19) hx hb hts izRX9 hown hK hP 2 rfl rfl 6 (by decide) (hts _ k34) (fun _ h9 => h9) rfl dX9_passDay_28 ?_
  refine lv_iconst (v := 1) hx hb dX9_passDay_31 (by decide) ?_
  refine lv_iadd hx hb dX9_passDay_32 ?_
  refine va_mmin hx hb (by rw [hml]; exact hl.1.symm) hown (hts _ k40) (hts _ k41) (hts _ k42) (hts _ k43) (Nat.le_of_ble_eq_true rfl) (Nat.le_of_ble_eq_true rfl) (Nat.le_of_ble_eq_true rfl) (Nat.le_of_ble_eq_true rfl) dX9_passDay_33 ?_
  refine ztop (r := (zCap (dy + 1))) (zCap_m _) ?_
  refine va_put (D := g.1) (ci := 7) (v := .int (zCap (dy + 1))) (ty := .int) (C := RX9) (T := TX9) (N := 19) hx hb hts izRX9 tyX9 tyX9_ok nmX9 hown hK hP hD hS 2 rfl rfl 6 (by decide) (hts _ k34) (fun _ h9 => h9) rfl (by decide +kernel) rfl rfl (Nat.le_of_ble_eq_true rfl) dX9_passDay_36 (fun H locs hP hD hS => ?_)
  have hP : va_P g.1 vwCl (List.flatten [bLaw g lo lc lz ll (zMean f pe.toInt.toNat) (zPop (zWks f wo.toInt.toNat 1)) dy fc, bTown g o a pe wo tx ch2_4 jo tr (zCap (dy + 1)) sd2_8 f2_9]) H := hP
  have hD : va_D A (List.flatten [bLaw g lo lc lz ll (zMean f pe.toInt.toNat) (zPop (zWks f wo.toInt.toNat 1)) dy fc, bTown g o a pe wo tx ch2_4 jo tr (zCap (dy + 1)) sd2_8 f2_9]) := hD
  refine lv_iload hx hb dX9_passDay_39 (lv_at hl 0 rfl) ?_
  have hP : va_P g.1 vwCl (List.flatten [bLaw g lo lc lz ll (zMean f pe.toInt.toNat) (zPop (zWks f wo.toInt.toNat 1)) dy fc, bTown g o a pe wo tx ch2_4 jo tr (zCap (dy + 1)) sd2_8 f2_9]) H := hP
  have hD : va_D A (List.flatten [bLaw g lo lc lz ll (zMean f pe.toInt.toNat) (zPop (zWks f wo.toInt.toNat 1)) dy fc, bTown g o a pe wo tx ch2_4 jo tr (zCap (dy + 1)) sd2_8 f2_9]) := hD
  obtain ⟨hP, hD⟩ := zord (g := g) (Bs' := [bTown g o a pe wo tx ch2_4 jo tr (zCap (dy + 1)) sd2_8 f2_9, bLaw g lo lc lz ll (zMean f pe.toInt.toNat) (zPop (zWks f wo.toInt.toNat 1)) dy fc]) [1, 0] rfl rfl hP hD
  exact mret_i hx hb hr hlocks hS (Nat.le_of_ble_eq_true rfl) (Nat.le_of_ble_eq_true rfl) dX9_passDay_41 (ch2_4, zCap (dy + 1), sd2_8, f2_9, q_6) rfl (show (zZ4 f2_9) ∧ (zDR (ch2_4, (zCap (dy + 1)), sd2_8, f2_9) (zDay (zLwR fc lz ll) pe.toInt.toNat wo.toInt.toNat tr tl (ch, dy, sd, f)) ∧ q_6 = (zDk (zLwR fc lz ll) pe.toInt.toNat wo.toInt.toNat (ch, dy, sd, f)).2.2) from ⟨(by first | assumption | omega), zPd_mk (by omega) (by omega) hq3_1 hq7_1 hq10_1⟩) hP hD
