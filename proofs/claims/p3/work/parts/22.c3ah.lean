set_option maxRecDepth 100000 in
set_option maxHeartbeats 4000000 in
theorem c_keepWorks (l : Launch) (g : zG) (o : Nat) (a : Nat → Nat) (pe : Int32) (wo : Int32) (tx : Int32) (ch : Int32) (jo : Int32) (tr : Int32) (dy : Int32) (sd : Int32) (f : Nat → Nat → Int32) (go : Nat) (gr : Nat) (gz : Int32) (gn : Int32) (fr : Nat → Int32) (b_pe : 0 ≤ pe.toInt ∧ pe.toInt ≤ 8) (b_wo : 0 ≤ wo.toInt ∧ wo.toInt ≤ 6) (rf : zZ4 f) (b_gz : 0 ≤ gz.toInt ∧ gz.toInt ≤ 60) (b_gn : 0 ≤ gn.toInt ∧ gn.toInt ≤ 59) : zM' g l yX9_keepWorks (Cond.code yX9_keepWorks cX9_keepWorks 5 (some .int) :: zB) ({ frames := 3, cells := 0, slots := 0, locals := 66 } : Room) [.ref o, .ref go] [bTown g o a pe wo tx ch jo tr dy sd f, bLog g go gr gz gn fr] (fun u : Int32 × (Nat → Nat → Int32) × Int32 × Int32 × (Nat → Int32) × Int32 => (fun (ch2 : Int32) (f2 : Nat → Nat → Int32) (gz2 : Int32) (gn2 : Int32) (fr2 : Nat → Int32) (q : Int32) => some (.int q)) (u.1) (u.2.1) (u.2.2.1) (u.2.2.2.1) (u.2.2.2.2.1) (u.2.2.2.2.2)) (fun u : Int32 × (Nat → Nat → Int32) × Int32 × Int32 × (Nat → Int32) × Int32 => (fun (ch2 : Int32) (f2 : Nat → Nat → Int32) (gz2 : Int32) (gn2 : Int32) (fr2 : Nat → Int32) (q : Int32) => (zZ4 f2) ∧ (0 ≤ gz2.toInt ∧ gz2.toInt ≤ 60) ∧ (0 ≤ gn2.toInt ∧ gn2.toInt ≤ 59)) (u.1) (u.2.1) (u.2.2.1) (u.2.2.2.1) (u.2.2.2.2.1) (u.2.2.2.2.2)) (fun u : Int32 × (Nat → Nat → Int32) × Int32 × Int32 × (Nat → Int32) × Int32 => (fun (ch2 : Int32) (f2 : Nat → Nat → Int32) (gz2 : Int32) (gn2 : Int32) (fr2 : Nat → Int32) (q : Int32) => [bTown g o a pe wo tx ch2 jo tr dy sd f2, bLog g go gr gz2 gn2 fr2]) (u.1) (u.2.1) (u.2.2.1) (u.2.2.2.1) (u.2.2.2.2.1) (u.2.2.2.2.2)) := by
  refine zM'.of (cc := cX9_keepWorks) (maxL := 5) (rt := (some .int)) (by decide) rfl (Nat.le_of_ble_eq_true rfl) ?_
  intro p e s m args below meth c A ls St hr hlocks hin hK hT hA hP hD hS hl
  obtain ⟨hx, hb, hml, hown, hts⟩ := id St
  have hl : lv_has ls 5 [(0, .ref o), (1, .ref go)] := hl
  refine lv_aload_n hx hb dX9_keepWorks_0 rfl (lv_at hl 0 rfl) ?_
  refine mcallV' (g := g) (q0 := 0) (ci := 7) (As := []) (rest := []) St hK hT hA hP hD hS hl.1 [0] [1] rfl rfl rfl (c_believed l g o a pe wo tx ch jo tr dy sd f b_pe b_wo rf) (cwV 0 hts (zgL (zl4 k68 k69 k70 k24) k60) rfl rfl rfl (by decide +kernel) ⟨Nat.le_of_ble_eq_true rfl, Nat.le_of_ble_eq_true rfl⟩) rfl rfl rfl rfl (Nat.le_of_ble_eq_true rfl) dX9_keepWorks_1 ⟨(Nat.le_of_ble_eq_true rfl), (Nat.le_of_ble_eq_true rfl)⟩ (fun q_1 H locs hq2 hP hD hS => ?_)
  have hP : va_P g.1 vwCl (List.flatten [bLog g go gr gz gn fr, bTown g o a pe wo tx ch jo tr dy sd f]) H := hP
  have hD : va_D A (List.flatten [bLog g go gr gz gn fr, bTown g o a pe wo tx ch jo tr dy sd f]) := hD
  refine W.widen (k := 0) (n := 0) (Nat.le_of_ble_eq_true rfl) (Nat.le_of_ble_eq_true rfl) ?_
  refine W.eq (g2 := F0 m 4 ls [.int q_1]) rfl ?_
  refine lv_istore_n (lv' := [(2, .int q_1), (0, .ref o), (1, .ref go)]) hx hb dX9_keepWorks_4 rfl hl (by decide) rfl (fun ls hl => ?_)
  refine lv_iconst (v := 0) hx hb dX9_keepWorks_5 (by decide) ?_
  refine lv_istore_n (lv' := [(3, .int 0), (2, .int q_1), (0, .ref o), (1, .ref go)]) hx hb dX9_keepWorks_6 rfl hl (by decide) rfl (fun ls hl => ?_)
  refine lv_iconst (v := 0) hx hb dX9_keepWorks_7 (by decide) ?_
  refine lv_istore (lv' := [(4, .int 0), (3, .int 0), (2, .int q_1), (0, .ref o), (1, .ref go)]) hx hb dX9_keepWorks_8 hl (by decide) rfl (fun ls hl => ?_)
  have hl := lv_sub (l' := [(0, .ref o), (1, .ref go), (2, .int q_1), (3, .int 0), (4, .int 0)]) hl [3, 4, 2, 1, 0] rfl
  have LP10_13 : ∀ (kf : Nat) (x_3 : Int32) (x_4 : Int32) (x_5 : Int32) (x_6 : Int32) (fr_7 : Nat → Int32) (x_8 : Int32) (f_9 : Nat → Nat → Int32), (0 ≤ x_4.toInt ∧ x_4.toInt ≤ 6) → (0 ≤ x_5.toInt ∧ x_5.toInt ≤ 60) → (0 ≤ x_6.toInt ∧ x_6.toInt ≤ 59) → (zZ4 f_9) → ∀ (H : Heap) (locs : List Loc) (ls : Array Slot), ((7 - x_4.toInt).toNat) < kf → va_P g.1 vwCl (List.flatten [bLog g go gr x_5 x_6 fr_7, bTown g o a pe wo tx x_8 jo tr dy sd f_9]) H → va_D A (List.flatten [bLog g go gr x_5 x_6 fr_7, bTown g o a pe wo tx x_8 jo tr dy sd f_9]) → va_S A s.heap H locs → lv_has ls 5 [(0, .ref o), (1, .ref go), (2, .int q_1), (3, .int x_3), (4, .int x_4)] → W p l e ({ frames := 3, cells := 0, slots := 0, locals := 66 } : Room) s m args below meth c H locs (0) (0) (zF g (fun u : Int32 × (Nat → Nat → Int32) × Int32 × Int32 × (Nat → Int32) × Int32 => (fun (ch2 : Int32) (f2 : Nat → Nat → Int32) (gz2 : Int32) (gn2 : Int32) (fr2 : Nat → Int32) (q : Int32) => some (.int q)) (u.1) (u.2.1) (u.2.2.1) (u.2.2.2.1) (u.2.2.2.2.1) (u.2.2.2.2.2)) (fun u : Int32 × (Nat → Nat → Int32) × Int32 × Int32 × (Nat → Int32) × Int32 => (fun (ch2 : Int32) (f2 : Nat → Nat → Int32) (gz2 : Int32) (gn2 : Int32) (fr2 : Nat → Int32) (q : Int32) => (zZ4 f2) ∧ (0 ≤ gz2.toInt ∧ gz2.toInt ≤ 60) ∧ (0 ≤ gn2.toInt ∧ gn2.toInt ≤ 59)) (u.1) (u.2.1) (u.2.2.1) (u.2.2.2.1) (u.2.2.2.2.1) (u.2.2.2.2.2)) (fun u : Int32 × (Nat → Nat → Int32) × Int32 × Int32 × (Nat → Int32) × Int32 => (fun (ch2 : Int32) (f2 : Nat → Nat → Int32) (gz2 : Int32) (gn2 : Int32) (fr2 : Nat → Int32) (q : Int32) => [bTown g o a pe wo tx ch2 jo tr dy sd f2, bLog g go gr gz2 gn2 fr2]) (u.1) (u.2.1) (u.2.2.1) (u.2.2.2.1) (u.2.2.2.2.1) (u.2.2.2.2.2)) ({ frames := 3, cells := 0, slots := 0, locals := 66 } : Room) below args s A) (F0 m 10 ls []) := by
    intro kf
    induction kf with
    | zero => intro x_3 x_4 x_5 x_6 fr_7 x_8 f_9 i10 i11 i12 rf_9 H locs ls hk; exact absurd hk (Nat.not_lt_zero _)
    | succ kf ih10_14 =>
      intro x_3 x_4 x_5 x_6 fr_7 x_8 f_9 i10 i11 i12 rf_9 H locs ls hk10_14 hP hD hS hl
      refine lv_iload hx hb dX9_keepWorks_10 (lv_at hl 4 rfl) ?_
      refine lv_aload_n hx hb dX9_keepWorks_12 rfl (lv_at hl 0 rfl) ?_
      refine va_get (D := g.1) (ci := 7) (v := .int wo) (C := RX9) (T := TX9) (N := 19) hx hb hts izRX9 hown hK hP 2 rfl rfl 1 (by decide) (hts _ k32) (fun _ h9 => h9) rfl dX9_keepWorks_13 ?_
      refine lv_icmp_ge (tgt := 172) hx hb dX9_keepWorks_16 (by decide) (fun cb9 => ?_) (fun cb9 => ?_)
      · skip
        have c15 : wo.toInt ≤ x_4.toInt := zle cb9 rfl rfl
        refine lv_iload_n hx hb dX9_keepWorks_172 rfl (lv_at hl 3 rfl) ?_
        have hP : va_P g.1 vwCl (List.flatten [bLog g go gr x_5 x_6 fr_7, bTown g o a pe wo tx x_8 jo tr dy sd f_9]) H := hP
        have hD : va_D A (List.flatten [bLog g go gr x_5 x_6 fr_7, bTown g o a pe wo tx x_8 jo tr dy sd f_9]) := hD
        obtain ⟨hP, hD⟩ := zord (g := g) (Bs' := [bTown g o a pe wo tx x_8 jo tr dy sd f_9, bLog g go gr x_5 x_6 fr_7]) [1, 0] rfl rfl hP hD
        exact mret_i hx hb hr hlocks hS (Nat.le_of_ble_eq_true rfl) (Nat.le_of_ble_eq_true rfl) dX9_keepWorks_173 (x_8, f_9, x_5, x_6, fr_7, x_3) rfl (show (zZ4 f_9) ∧ (0 ≤ x_5.toInt ∧ x_5.toInt ≤ 60) ∧ (0 ≤ x_6.toInt ∧ x_6.toInt ≤ 59) from ⟨rf_9, i11, i12⟩) hP hD
      · skip
        have c16 : x_4.toInt < wo.toInt := zlti (Int32.not_le.mp cb9) rfl rfl
        have n17 : x_4.toInt ≤ 5 := zL1 (b := 6) c16 b_wo.2 (by decide)
        have n18 : 1 ≤ wo.toInt := zL2 (a := 0) c16 i10.1 (by decide)
        refine lv_aload_n hx hb dX9_keepWorks_19 rfl (lv_at hl 0 rfl) ?_
        refine va_get (D := g.1) (ci := 7) (v := .ref (a 9)) (C := RX9) (T := TX9) (N := 19) hx hb hts izRX9 hown hK hP 2 rfl rfl 17 (by decide) (hts _ k19) (fun _ h9 => h9) rfl dX9_keepWorks_20 ?_
        refine lv_iload hx hb dX9_keepWorks_23 (lv_at hl 4 rfl) ?_
        refine va_iald hx hb hK hP 12 0 rfl rfl (zinK (a := 0) (b := 5) i10.1 n17 (by decide)) dX9_keepWorks_25 ?_
        refine zg (fun x_19 => ?_)
        refine lv_if_ne (tgt := 89) hx hb dX9_keepWorks_26 (by decide) (fun cb9 => ?_) (fun cb9 => ?_)
        · skip
          have c20 : ¬ x_19.toInt = 0 := zne cb9 rfl (by decide)
          refine lv_aload_n hx hb dX9_keepWorks_89 rfl (lv_at hl 0 rfl) ?_
          refine va_get (D := g.1) (ci := 7) (v := .ref (a 9)) (C := RX9) (T := TX9) (N := 19) hx hb hts izRX9 hown hK hP 2 rfl rfl 17 (by decide) (hts _ k19) (fun _ h9 => h9) rfl dX9_keepWorks_90 ?_
          refine lv_iload hx hb dX9_keepWorks_93 (lv_at hl 4 rfl) ?_
          refine va_iald hx hb hK hP 12 0 rfl rfl (zinK (a := 0) (b := 5) i10.1 n17 (by decide)) dX9_keepWorks_95 ?_
          refine zg (fun x_21 => ?_)
          refine lv_iconst (v := 1) hx hb dX9_keepWorks_96 (by decide) ?_
          refine lv_icmp_ne (tgt := 133) hx hb dX9_keepWorks_97 (by decide) (fun cb9 => ?_) (fun cb9 => ?_)
          · skip
            have c22 : ¬ x_21.toInt = 1 := zne cb9 rfl (by decide)
            refine lv_aload_n hx hb dX9_keepWorks_133 rfl (lv_at hl 0 rfl) ?_
            refine va_get (D := g.1) (ci := 7) (v := .ref (a 9)) (C := RX9) (T := TX9) (N := 19) hx hb hts izRX9 hown hK hP 2 rfl rfl 17 (by decide) (hts _ k19) (fun _ h9 => h9) rfl dX9_keepWorks_134 ?_
            refine lv_iload hx hb dX9_keepWorks_137 (lv_at hl 4 rfl) ?_
            refine va_iald hx hb hK hP 12 0 rfl rfl (zinK (a := 0) (b := 5) i10.1 n17 (by decide)) dX9_keepWorks_139 ?_
            refine zg (fun x_23 => ?_)
            refine lv_iconst (v := 1) hx hb dX9_keepWorks_140 (by decide) ?_
            refine lv_icmp_ne (tgt := 166) hx hb dX9_keepWorks_141 (by decide) (fun cb9 => ?_) (fun cb9 => ?_)
            · skip
              have c24 : ¬ x_23.toInt = 1 := zne cb9 rfl (by decide)
              refine ziinc3 (n' := 1) (a' := 1) (b' := 6) (lv' := fun v9 => [(4, .int v9), (0, .ref o), (1, .ref go), (2, .int q_1), (3, .int x_3)]) hx hb dX9_keepWorks_166 hl (k := 4) rfl (by decide) (fun _ => rfl) (zaddK (i := x_4.toInt) (j := 1) rfl (by decide) i10.1 n17 (Int.le_refl _) (Int.le_refl _) (by decide)) (fun x_25 ls hx_25 hl => ?_)
              refine lv_goto (tgt := 10) hx hb dX9_keepWorks_169 (by decide) ?_
              have hl := lv_sub (l' := [(0, .ref o), (1, .ref go), (2, .int q_1), (3, .int x_3), (4, .int x_25)]) hl [1, 2, 3, 4, 0] rfl
              have hP : va_P g.1 vwCl (List.flatten [bLog g go gr x_5 x_6 fr_7, bTown g o a pe wo tx x_8 jo tr dy sd f_9]) H := hP
              have hD : va_D A (List.flatten [bLog g go gr x_5 x_6 fr_7, bTown g o a pe wo tx x_8 jo tr dy sd f_9]) := hD
              exact ih10_14 x_3 x_25 x_5 x_6 fr_7 x_8 f_9 ⟨(Int.le_trans (by decide) hx_25.2.1), hx_25.2.2⟩ ⟨i11.1, i11.2⟩ ⟨i12.1, i12.2⟩ rf_9 H _ ls (zmK hx_25.1 (by decide) n17 (by decide) hk10_14)  hP hD hS (lv_sub hl [0, 1, 2, 3, 4] rfl)
            · skip
              have c26 : x_23.toInt = 1 := zeq cb9 rfl (by decide)
              have n27 : 1 ≤ x_23.toInt := Int.le_trans (Int.le_refl _) (Int.le_of_eq c26.symm)
              have n28 : x_23.toInt ≤ 1 := Int.le_trans (Int.le_of_eq c26) (Int.le_refl _)
              refine lv_aload_n hx hb dX9_keepWorks_144 rfl (lv_at hl 0 rfl) ?_
              refine lv_sipush (v := 9999) hx hb dX9_keepWorks_145 (by decide) ?_
              refine lv_aload_n hx hb dX9_keepWorks_148 rfl (lv_at hl 0 rfl) ?_
              refine va_get (D := g.1) (ci := 7) (v := .int x_8) (C := RX9) (T := TX9) (N := 19) hx hb hts izRX9 hown hK hP 2 rfl rfl 3 (by decide) (hts _ k4) (fun _ h9 => h9) rfl dX9_keepWorks_149 ?_
              refine lv_aload_n hx hb dX9_keepWorks_152 rfl (lv_at hl 0 rfl) ?_
              refine va_get (D := g.1) (ci := 7) (v := .ref (a 8)) (C := RX9) (T := TX9) (N := 19) hx hb hts izRX9 hown hK hP 2 rfl rfl 16 (by decide) (hts _ k18) (fun _ h9 => h9) rfl dX9_keepWorks_153 ?_
              refine lv_iload hx hb dX9_keepWorks_156 (lv_at hl 4 rfl) ?_
              refine va_iald hx hb hK hP 11 0 rfl rfl (zinK (a := 0) (b := 5) i10.1 n17 (by decide)) dX9_keepWorks_158 ?_
              refine zg (fun x_29 => ?_)
              refine lv_iadd hx hb dX9_keepWorks_159 ?_
              refine zg (fun x_30 => ?_)
              refine va_mmin hx hb (by rw [hml]; exact hl.1.symm) hown (hts _ k40) (hts _ k41) (hts _ k42) (hts _ k43) (Nat.le_of_ble_eq_true rfl) (Nat.le_of_ble_eq_true rfl) (Nat.le_of_ble_eq_true rfl) (Nat.le_of_ble_eq_true rfl) dX9_keepWorks_160 ?_
              refine zgmn (i := 9999) (j := x_30.toInt) (by decide) rfl (fun x_31 hx_31 => ?_)
              refine va_put (D := g.1) (ci := 7) (v := .int x_31) (ty := .int) (C := RX9) (T := TX9) (N := 19) hx hb hts izRX9 tyX9 tyX9_ok nmX9 hown hK hP hD hS 2 rfl rfl 3 (by decide) (hts _ k4) (fun _ h9 => h9) rfl (by decide +kernel) rfl rfl (Nat.le_of_ble_eq_true rfl) dX9_keepWorks_163 (fun H locs hP hD hS => ?_)
              have hP : va_P g.1 vwCl (List.flatten [bLog g go gr x_5 x_6 fr_7, bTown g o a pe wo tx x_31 jo tr dy sd f_9]) H := hP
              have hD : va_D A (List.flatten [bLog g go gr x_5 x_6 fr_7, bTown g o a pe wo tx x_31 jo tr dy sd f_9]) := hD
              refine ziinc3 (n' := 1) (a' := 1) (b' := 6) (lv' := fun v9 => [(4, .int v9), (0, .ref o), (1, .ref go), (2, .int q_1), (3, .int x_3)]) hx hb dX9_keepWorks_166 hl (k := 4) rfl (by decide) (fun _ => rfl) (zaddK (i := x_4.toInt) (j := 1) rfl (by decide) i10.1 n17 (Int.le_refl _) (Int.le_refl _) (by decide)) (fun x_32 ls hx_32 hl => ?_)
              refine lv_goto (tgt := 10) hx hb dX9_keepWorks_169 (by decide) ?_
              have hl := lv_sub (l' := [(0, .ref o), (1, .ref go), (2, .int q_1), (3, .int x_3), (4, .int x_32)]) hl [1, 2, 3, 4, 0] rfl
              have hP : va_P g.1 vwCl (List.flatten [bLog g go gr x_5 x_6 fr_7, bTown g o a pe wo tx x_31 jo tr dy sd f_9]) H := hP
              have hD : va_D A (List.flatten [bLog g go gr x_5 x_6 fr_7, bTown g o a pe wo tx x_31 jo tr dy sd f_9]) := hD
              exact ih10_14 x_3 x_32 x_5 x_6 fr_7 x_31 f_9 ⟨(Int.le_trans (by decide) hx_32.2.1), hx_32.2.2⟩ ⟨i11.1, i11.2⟩ ⟨i12.1, i12.2⟩ rf_9 H _ ls (zmK hx_32.1 (by decide) n17 (by decide) hk10_14)  hP hD hS (lv_sub hl [0, 1, 2, 3, 4] rfl)
          · skip
            have c33 : x_21.toInt = 1 := zeq cb9 rfl (by decide)
            have n34 : 1 ≤ x_21.toInt := Int.le_trans (Int.le_refl _) (Int.le_of_eq c33.symm)
            have n35 : x_21.toInt ≤ 1 := Int.le_trans (Int.le_of_eq c33) (Int.le_refl _)
            refine lv_iload_n hx hb dX9_keepWorks_100 rfl (lv_at hl 2 rfl) ?_
            refine lv_aload_n hx hb dX9_keepWorks_101 rfl (lv_at hl 0 rfl) ?_
            refine va_get (D := g.1) (ci := 7) (v := .ref (a 7)) (C := RX9) (T := TX9) (N := 19) hx hb hts izRX9 hown hK hP 2 rfl rfl 15 (by decide) (hts _ k17) (fun _ h9 => h9) rfl dX9_keepWorks_102 ?_
            refine lv_iload hx hb dX9_keepWorks_105 (lv_at hl 4 rfl) ?_
            refine va_iald hx hb hK hP 10 0 rfl rfl (zinK (a := 0) (b := 5) i10.1 n17 (by decide)) dX9_keepWorks_107 ?_
            refine zg (fun x_36 => ?_)
            refine lv_icmp_ge (tgt := 133) hx hb dX9_keepWorks_108 (by decide) (fun cb9 => ?_) (fun cb9 => ?_)
            · skip
              have c37 : x_36.toInt ≤ q_1.toInt := zle cb9 rfl rfl
              refine lv_aload_n hx hb dX9_keepWorks_133 rfl (lv_at hl 0 rfl) ?_
              refine va_get (D := g.1) (ci := 7) (v := .ref (a 9)) (C := RX9) (T := TX9) (N := 19) hx hb hts izRX9 hown hK hP 2 rfl rfl 17 (by decide) (hts _ k19) (fun _ h9 => h9) rfl dX9_keepWorks_134 ?_
              refine lv_iload hx hb dX9_keepWorks_137 (lv_at hl 4 rfl) ?_
              refine va_iald hx hb hK hP 12 0 rfl rfl (zinK (a := 0) (b := 5) i10.1 n17 (by decide)) dX9_keepWorks_139 ?_
              refine zg (fun x_38 => ?_)
              refine lv_iconst (v := 1) hx hb dX9_keepWorks_140 (by decide) ?_
              refine lv_icmp_ne (tgt := 166) hx hb dX9_keepWorks_141 (by decide) (fun cb9 => ?_) (fun cb9 => ?_)
              · skip
                have c39 : ¬ x_38.toInt = 1 := zne cb9 rfl (by decide)
                refine ziinc3 (n' := 1) (a' := 1) (b' := 6) (lv' := fun v9 => [(4, .int v9), (0, .ref o), (1, .ref go), (2, .int q_1), (3, .int x_3)]) hx hb dX9_keepWorks_166 hl (k := 4) rfl (by decide) (fun _ => rfl) (zaddK (i := x_4.toInt) (j := 1) rfl (by decide) i10.1 n17 (Int.le_refl _) (Int.le_refl _) (by decide)) (fun x_40 ls hx_40 hl => ?_)
                refine lv_goto (tgt := 10) hx hb dX9_keepWorks_169 (by decide) ?_
                have hl := lv_sub (l' := [(0, .ref o), (1, .ref go), (2, .int q_1), (3, .int x_3), (4, .int x_40)]) hl [1, 2, 3, 4, 0] rfl
                have hP : va_P g.1 vwCl (List.flatten [bLog g go gr x_5 x_6 fr_7, bTown g o a pe wo tx x_8 jo tr dy sd f_9]) H := hP
                have hD : va_D A (List.flatten [bLog g go gr x_5 x_6 fr_7, bTown g o a pe wo tx x_8 jo tr dy sd f_9]) := hD
                exact ih10_14 x_3 x_40 x_5 x_6 fr_7 x_8 f_9 ⟨(Int.le_trans (by decide) hx_40.2.1), hx_40.2.2⟩ ⟨i11.1, i11.2⟩ ⟨i12.1, i12.2⟩ rf_9 H _ ls (zmK hx_40.1 (by decide) n17 (by decide) hk10_14)  hP hD hS (lv_sub hl [0, 1, 2, 3, 4] rfl)
              · skip
                have c41 : x_38.toInt = 1 := zeq cb9 rfl (by decide)
                have n42 : 1 ≤ x_38.toInt := Int.le_trans (Int.le_refl _) (Int.le_of_eq c41.symm)
                have n43 : x_38.toInt ≤ 1 := Int.le_trans (Int.le_of_eq c41) (Int.le_refl _)
                refine lv_aload_n hx hb dX9_keepWorks_144 rfl (lv_at hl 0 rfl) ?_
                refine lv_sipush (v := 9999) hx hb dX9_keepWorks_145 (by decide) ?_
                refine lv_aload_n hx hb dX9_keepWorks_148 rfl (lv_at hl 0 rfl) ?_
                refine va_get (D := g.1) (ci := 7) (v := .int x_8) (C := RX9) (T := TX9) (N := 19) hx hb hts izRX9 hown hK hP 2 rfl rfl 3 (by decide) (hts _ k4) (fun _ h9 => h9) rfl dX9_keepWorks_149 ?_
                refine lv_aload_n hx hb dX9_keepWorks_152 rfl (lv_at hl 0 rfl) ?_
                refine va_get (D := g.1) (ci := 7) (v := .ref (a 8)) (C := RX9) (T := TX9) (N := 19) hx hb hts izRX9 hown hK hP 2 rfl rfl 16 (by decide) (hts _ k18) (fun _ h9 => h9) rfl dX9_keepWorks_153 ?_
                refine lv_iload hx hb dX9_keepWorks_156 (lv_at hl 4 rfl) ?_
                refine va_iald hx hb hK hP 11 0 rfl rfl (zinK (a := 0) (b := 5) i10.1 n17 (by decide)) dX9_keepWorks_158 ?_
                refine zg (fun x_44 => ?_)
                refine lv_iadd hx hb dX9_keepWorks_159 ?_
                refine zg (fun x_45 => ?_)
                refine va_mmin hx hb (by rw [hml]; exact hl.1.symm) hown (hts _ k40) (hts _ k41) (hts _ k42) (hts _ k43) (Nat.le_of_ble_eq_true rfl) (Nat.le_of_ble_eq_true rfl) (Nat.le_of_ble_eq_true rfl) (Nat.le_of_ble_eq_true rfl) dX9_keepWorks_160 ?_
                refine zgmn (i := 9999) (j := x_45.toInt) (by decide) rfl (fun x_46 hx_46 => ?_)
                refine va_put (D := g.1) (ci := 7) (v := .int x_46) (ty := .int) (C := RX9) (T := TX9) (N := 19) hx hb hts izRX9 tyX9 tyX9_ok nmX9 hown hK hP hD hS 2 rfl rfl 3 (by decide) (hts _ k4) (fun _ h9 => h9) rfl (by decide +kernel) rfl rfl (Nat.le_of_ble_eq_true rfl) dX9_keepWorks_163 (fun H locs hP hD hS => ?_)
                have hP : va_P g.1 vwCl (List.flatten [bLog g go gr x_5 x_6 fr_7, bTown g o a pe wo tx x_46 jo tr dy sd f_9]) H := hP
                have hD : va_D A (List.flatten [bLog g go gr x_5 x_6 fr_7, bTown g o a pe wo tx x_46 jo tr dy sd f_9]) := hD
                refine ziinc3 (n' := 1) (a' := 1) (b' := 6) (lv' := fun v9 => [(4, .int v9), (0, .ref o), (1, .ref go), (2, .int q_1), (3, .int x_3)]) hx hb dX9_keepWorks_166 hl (k := 4) rfl (by decide) (fun _ => rfl) (zaddK (i := x_4.toInt) (j := 1) rfl (by decide) i10.1 n17 (Int.le_refl _) (Int.le_refl _) (by decide)) (fun x_47 ls hx_47 hl => ?_)
                refine lv_goto (tgt := 10) hx hb dX9_keepWorks_169 (by decide) ?_
                have hl := lv_sub (l' := [(0, .ref o), (1, .ref go), (2, .int q_1), (3, .int x_3), (4, .int x_47)]) hl [1, 2, 3, 4, 0] rfl
                have hP : va_P g.1 vwCl (List.flatten [bLog g go gr x_5 x_6 fr_7, bTown g o a pe wo tx x_46 jo tr dy sd f_9]) H := hP
                have hD : va_D A (List.flatten [bLog g go gr x_5 x_6 fr_7, bTown g o a pe wo tx x_46 jo tr dy sd f_9]) := hD
                exact ih10_14 x_3 x_47 x_5 x_6 fr_7 x_46 f_9 ⟨(Int.le_trans (by decide) hx_47.2.1), hx_47.2.2⟩ ⟨i11.1, i11.2⟩ ⟨i12.1, i12.2⟩ rf_9 H _ ls (zmK hx_47.1 (by decide) n17 (by decide) hk10_14)  hP hD hS (lv_sub hl [0, 1, 2, 3, 4] rfl)
            · skip
              have c48 : q_1.toInt < x_36.toInt := zlti (Int32.not_le.mp cb9) rfl rfl
              refine lv_aload_n hx hb dX9_keepWorks_111 rfl (lv_at hl 0 rfl) ?_
              refine va_get (D := g.1) (ci := 7) (v := .ref (a 9)) (C := RX9) (T := TX9) (N := 19) hx hb hts izRX9 hown hK hP 2 rfl rfl 17 (by decide) (hts _ k19) (fun _ h9 => h9) rfl dX9_keepWorks_112 ?_
              refine lv_iload hx hb dX9_keepWorks_115 (lv_at hl 4 rfl) ?_
              refine lv_iconst (v := 2) hx hb dX9_keepWorks_117 (by decide) ?_
              refine va_iast hx hb hK hP hD hS 12 0 rfl rfl (zinK (a := 0) (b := 5) i10.1 n17 (by decide)) dX9_keepWorks_118 (fun H locs hP hD hS => ?_)
              obtain ⟨f49, rf49, hP, hD⟩ : ∃ f49 : Nat → Nat → Int32, zZ4 f49 ∧ va_P g.1 vwCl (List.flatten [bLog g go gr x_5 x_6 fr_7, bTown g o a pe wo tx x_8 jo tr dy sd f49]) H ∧ va_D A (List.flatten [bLog g go gr x_5 x_6 fr_7, bTown g o a pe wo tx x_8 jo tr dy sd f49]) := ⟨zu f_9 9 (upd (f_9 9) x_4.toNatClampNeg 2), (zZ4_u rf_9 (by decide)), hP, hD⟩
              refine ziincG (lv' := fun v9 => [(3, .int v9), (0, .ref o), (1, .ref go), (2, .int q_1), (4, .int x_4)]) hx hb dX9_keepWorks_119 hl (k := 3) rfl (by decide) (fun _ => rfl) (fun x_50 ls hl => ?_)
              refine lv_aload_n hx hb dX9_keepWorks_122 rfl (lv_at hl 1 rfl) ?_
              refine lv_aload_n hx hb dX9_keepWorks_123 rfl (lv_at hl 2 rfl) ?_
              refine lv_iload hx hb dX9_keepWorks_124 (lv_at hl 4 rfl) ?_
              refine lv_iconst (v := 1) hx hb dX9_keepWorks_126 (by decide) ?_
              refine mcallV' (g := g) (q0 := 0) (ci := 7) (As := [.ref go, .int x_4, .int 1]) (rest := []) St hK hT hA hP hD hS hl.1 [1, 0] [] rfl rfl rfl (c_write l g o a pe wo tx x_8 jo tr dy sd f49 go gr x_5 x_6 fr_7 x_4 1 b_pe b_wo rf49 i11 i12) (cwV 3 hts (zgL (zl4 k125 k126 k127 k24) k124) rfl rfl rfl (by decide +kernel) ⟨Nat.le_of_ble_eq_true rfl, Nat.le_of_ble_eq_true rfl⟩) rfl rfl rfl rfl (Nat.le_of_ble_eq_true rfl) dX9_keepWorks_127 ⟨(Nat.le_of_ble_eq_true rfl), (Nat.le_of_ble_eq_true rfl)⟩ (fun u_ H locs hq54 hP hD hS => ?_)
              obtain ⟨gz2_51, gn2_52, fr2_53⟩ := u_
              replace hq54 : (0 ≤ gz2_51.toInt ∧ gz2_51.toInt ≤ 60) ∧ (0 ≤ gn2_52.toInt ∧ gn2_52.toInt ≤ 59) := hq54
              have hP : va_P g.1 vwCl (List.flatten [bTown g o a pe wo tx x_8 jo tr dy sd f49, bLog g go gr gz2_51 gn2_52 fr2_53]) H := hP
              have hD : va_D A (List.flatten [bTown g o a pe wo tx x_8 jo tr dy sd f49, bLog g go gr gz2_51 gn2_52 fr2_53]) := hD
              refine W.widen (k := 0) (n := 0) (Nat.le_of_ble_eq_true rfl) (Nat.le_of_ble_eq_true rfl) ?_
              refine W.eq (g2 := F0 m 130 ls []) rfl ?_
              obtain ⟨hq54_0, hq54_1⟩ := hq54
              refine lv_goto (tgt := 166) hx hb dX9_keepWorks_130 (by decide) ?_
              refine ziinc3 (n' := 1) (a' := 1) (b' := 6) (lv' := fun v9 => [(4, .int v9), (3, .int x_50), (0, .ref o), (1, .ref go), (2, .int q_1)]) hx hb dX9_keepWorks_166 hl (k := 4) rfl (by decide) (fun _ => rfl) (zaddK (i := x_4.toInt) (j := 1) rfl (by decide) i10.1 n17 (Int.le_refl _) (Int.le_refl _) (by decide)) (fun x_55 ls hx_55 hl => ?_)
              refine lv_goto (tgt := 10) hx hb dX9_keepWorks_169 (by decide) ?_
              have hl := lv_sub (l' := [(0, .ref o), (1, .ref go), (2, .int q_1), (3, .int x_50), (4, .int x_55)]) hl [2, 3, 4, 1, 0] rfl
              have hP : va_P g.1 vwCl (List.flatten [bTown g o a pe wo tx x_8 jo tr dy sd f49, bLog g go gr gz2_51 gn2_52 fr2_53]) H := hP
              have hD : va_D A (List.flatten [bTown g o a pe wo tx x_8 jo tr dy sd f49, bLog g go gr gz2_51 gn2_52 fr2_53]) := hD
              obtain ⟨hP, hD⟩ := zord (g := g) (Bs' := [bLog g go gr gz2_51 gn2_52 fr2_53, bTown g o a pe wo tx x_8 jo tr dy sd f49]) [1, 0] rfl rfl hP hD
              have hP : va_P g.1 vwCl (List.flatten [bLog g go gr gz2_51 gn2_52 fr2_53, bTown g o a pe wo tx x_8 jo tr dy sd f49]) H := hP
              have hD : va_D A (List.flatten [bLog g go gr gz2_51 gn2_52 fr2_53, bTown g o a pe wo tx x_8 jo tr dy sd f49]) := hD
              exact ih10_14 x_50 x_55 gz2_51 gn2_52 fr2_53 x_8 f49 ⟨(Int.le_trans (by decide) hx_55.2.1), hx_55.2.2⟩ ⟨hq54_0.1, hq54_0.2⟩ ⟨hq54_1.1, hq54_1.2⟩ rf49 H _ ls (zmK hx_55.1 (by decide) n17 (by decide) hk10_14)  hP hD hS (lv_sub hl [0, 1, 2, 3, 4] rfl)
        · skip
          have c56 : x_19.toInt = 0 := zeq cb9 rfl (by decide)
          have n57 : 0 ≤ x_19.toInt := Int.le_trans (Int.le_refl _) (Int.le_of_eq c56.symm)
          have n58 : x_19.toInt ≤ 0 := Int.le_trans (Int.le_of_eq c56) (Int.le_refl _)
          refine lv_iload_n hx hb dX9_keepWorks_29 rfl (lv_at hl 2 rfl) ?_
          refine lv_aload_n hx hb dX9_keepWorks_30 rfl (lv_at hl 0 rfl) ?_
          refine va_get (D := g.1) (ci := 7) (v := .ref (a 7)) (C := RX9) (T := TX9) (N := 19) hx hb hts izRX9 hown hK hP 2 rfl rfl 15 (by decide) (hts _ k17) (fun _ h9 => h9) rfl dX9_keepWorks_31 ?_
          refine lv_iload hx hb dX9_keepWorks_34 (lv_at hl 4 rfl) ?_
          refine va_iald hx hb hK hP 10 0 rfl rfl (zinK (a := 0) (b := 5) i10.1 n17 (by decide)) dX9_keepWorks_36 ?_
          refine zg (fun x_59 => ?_)
          refine lv_icmp_lt (tgt := 89) hx hb dX9_keepWorks_37 (by decide) (fun cb9 => ?_) (fun cb9 => ?_)
          · skip
            have c60 : q_1.toInt < x_59.toInt := zlti cb9 rfl rfl
            refine lv_aload_n hx hb dX9_keepWorks_89 rfl (lv_at hl 0 rfl) ?_
            refine va_get (D := g.1) (ci := 7) (v := .ref (a 9)) (C := RX9) (T := TX9) (N := 19) hx hb hts izRX9 hown hK hP 2 rfl rfl 17 (by decide) (hts _ k19) (fun _ h9 => h9) rfl dX9_keepWorks_90 ?_
            refine lv_iload hx hb dX9_keepWorks_93 (lv_at hl 4 rfl) ?_
            refine va_iald hx hb hK hP 12 0 rfl rfl (zinK (a := 0) (b := 5) i10.1 n17 (by decide)) dX9_keepWorks_95 ?_
            refine zg (fun x_61 => ?_)
            refine lv_iconst (v := 1) hx hb dX9_keepWorks_96 (by decide) ?_
            refine lv_icmp_ne (tgt := 133) hx hb dX9_keepWorks_97 (by decide) (fun cb9 => ?_) (fun cb9 => ?_)
            · skip
              have c62 : ¬ x_61.toInt = 1 := zne cb9 rfl (by decide)
              refine lv_aload_n hx hb dX9_keepWorks_133 rfl (lv_at hl 0 rfl) ?_
              refine va_get (D := g.1) (ci := 7) (v := .ref (a 9)) (C := RX9) (T := TX9) (N := 19) hx hb hts izRX9 hown hK hP 2 rfl rfl 17 (by decide) (hts _ k19) (fun _ h9 => h9) rfl dX9_keepWorks_134 ?_
              refine lv_iload hx hb dX9_keepWorks_137 (lv_at hl 4 rfl) ?_
              refine va_iald hx hb hK hP 12 0 rfl rfl (zinK (a := 0) (b := 5) i10.1 n17 (by decide)) dX9_keepWorks_139 ?_
              refine zg (fun x_63 => ?_)
              refine lv_iconst (v := 1) hx hb dX9_keepWorks_140 (by decide) ?_
              refine lv_icmp_ne (tgt := 166) hx hb dX9_keepWorks_141 (by decide) (fun cb9 => ?_) (fun cb9 => ?_)
              · skip
                have c64 : ¬ x_63.toInt = 1 := zne cb9 rfl (by decide)
                refine ziinc3 (n' := 1) (a' := 1) (b' := 6) (lv' := fun v9 => [(4, .int v9), (0, .ref o), (1, .ref go), (2, .int q_1), (3, .int x_3)]) hx hb dX9_keepWorks_166 hl (k := 4) rfl (by decide) (fun _ => rfl) (zaddK (i := x_4.toInt) (j := 1) rfl (by decide) i10.1 n17 (Int.le_refl _) (Int.le_refl _) (by decide)) (fun x_65 ls hx_65 hl => ?_)
                refine lv_goto (tgt := 10) hx hb dX9_keepWorks_169 (by decide) ?_
                have hl := lv_sub (l' := [(0, .ref o), (1, .ref go), (2, .int q_1), (3, .int x_3), (4, .int x_65)]) hl [1, 2, 3, 4, 0] rfl
                have hP : va_P g.1 vwCl (List.flatten [bLog g go gr x_5 x_6 fr_7, bTown g o a pe wo tx x_8 jo tr dy sd f_9]) H := hP
                have hD : va_D A (List.flatten [bLog g go gr x_5 x_6 fr_7, bTown g o a pe wo tx x_8 jo tr dy sd f_9]) := hD
                exact ih10_14 x_3 x_65 x_5 x_6 fr_7 x_8 f_9 ⟨(Int.le_trans (by decide) hx_65.2.1), hx_65.2.2⟩ ⟨i11.1, i11.2⟩ ⟨i12.1, i12.2⟩ rf_9 H _ ls (zmK hx_65.1 (by decide) n17 (by decide) hk10_14)  hP hD hS (lv_sub hl [0, 1, 2, 3, 4] rfl)
              · skip
                have c66 : x_63.toInt = 1 := zeq cb9 rfl (by decide)
                have n67 : 1 ≤ x_63.toInt := Int.le_trans (Int.le_refl _) (Int.le_of_eq c66.symm)
                have n68 : x_63.toInt ≤ 1 := Int.le_trans (Int.le_of_eq c66) (Int.le_refl _)
                refine lv_aload_n hx hb dX9_keepWorks_144 rfl (lv_at hl 0 rfl) ?_
                refine lv_sipush (v := 9999) hx hb dX9_keepWorks_145 (by decide) ?_
                refine lv_aload_n hx hb dX9_keepWorks_148 rfl (lv_at hl 0 rfl) ?_
                refine va_get (D := g.1) (ci := 7) (v := .int x_8) (C := RX9) (T := TX9) (N := 19) hx hb hts izRX9 hown hK hP 2 rfl rfl 3 (by decide) (hts _ k4) (fun _ h9 => h9) rfl dX9_keepWorks_149 ?_
                refine lv_aload_n hx hb dX9_keepWorks_152 rfl (lv_at hl 0 rfl) ?_
                refine va_get (D := g.1) (ci := 7) (v := .ref (a 8)) (C := RX9) (T := TX9) (N := 19) hx hb hts izRX9 hown hK hP 2 rfl rfl 16 (by decide) (hts _ k18) (fun _ h9 => h9) rfl dX9_keepWorks_153 ?_
                refine lv_iload hx hb dX9_keepWorks_156 (lv_at hl 4 rfl) ?_
                refine va_iald hx hb hK hP 11 0 rfl rfl (zinK (a := 0) (b := 5) i10.1 n17 (by decide)) dX9_keepWorks_158 ?_
                refine zg (fun x_69 => ?_)
                refine lv_iadd hx hb dX9_keepWorks_159 ?_
                refine zg (fun x_70 => ?_)
                refine va_mmin hx hb (by rw [hml]; exact hl.1.symm) hown (hts _ k40) (hts _ k41) (hts _ k42) (hts _ k43) (Nat.le_of_ble_eq_true rfl) (Nat.le_of_ble_eq_true rfl) (Nat.le_of_ble_eq_true rfl) (Nat.le_of_ble_eq_true rfl) dX9_keepWorks_160 ?_
                refine zgmn (i := 9999) (j := x_70.toInt) (by decide) rfl (fun x_71 hx_71 => ?_)
                refine va_put (D := g.1) (ci := 7) (v := .int x_71) (ty := .int) (C := RX9) (T := TX9) (N := 19) hx hb hts izRX9 tyX9 tyX9_ok nmX9 hown hK hP hD hS 2 rfl rfl 3 (by decide) (hts _ k4) (fun _ h9 => h9) rfl (by decide +kernel) rfl rfl (Nat.le_of_ble_eq_true rfl) dX9_keepWorks_163 (fun H locs hP hD hS => ?_)
                have hP : va_P g.1 vwCl (List.flatten [bLog g go gr x_5 x_6 fr_7, bTown g o a pe wo tx x_71 jo tr dy sd f_9]) H := hP
                have hD : va_D A (List.flatten [bLog g go gr x_5 x_6 fr_7, bTown g o a pe wo tx x_71 jo tr dy sd f_9]) := hD
                refine ziinc3 (n' := 1) (a' := 1) (b' := 6) (lv' := fun v9 => [(4, .int v9), (0, .ref o), (1, .ref go), (2, .int q_1), (3, .int x_3)]) hx hb dX9_keepWorks_166 hl (k := 4) rfl (by decide) (fun _ => rfl) (zaddK (i := x_4.toInt) (j := 1) rfl (by decide) i10.1 n17 (Int.le_refl _) (Int.le_refl _) (by decide)) (fun x_72 ls hx_72 hl => ?_)
                refine lv_goto (tgt := 10) hx hb dX9_keepWorks_169 (by decide) ?_
                have hl := lv_sub (l' := [(0, .ref o), (1, .ref go), (2, .int q_1), (3, .int x_3), (4, .int x_72)]) hl [1, 2, 3, 4, 0] rfl
                have hP : va_P g.1 vwCl (List.flatten [bLog g go gr x_5 x_6 fr_7, bTown g o a pe wo tx x_71 jo tr dy sd f_9]) H := hP
                have hD : va_D A (List.flatten [bLog g go gr x_5 x_6 fr_7, bTown g o a pe wo tx x_71 jo tr dy sd f_9]) := hD
                exact ih10_14 x_3 x_72 x_5 x_6 fr_7 x_71 f_9 ⟨(Int.le_trans (by decide) hx_72.2.1), hx_72.2.2⟩ ⟨i11.1, i11.2⟩ ⟨i12.1, i12.2⟩ rf_9 H _ ls (zmK hx_72.1 (by decide) n17 (by decide) hk10_14)  hP hD hS (lv_sub hl [0, 1, 2, 3, 4] rfl)
            · skip
              have c73 : x_61.toInt = 1 := zeq cb9 rfl (by decide)
              have n74 : 1 ≤ x_61.toInt := Int.le_trans (Int.le_refl _) (Int.le_of_eq c73.symm)
              have n75 : x_61.toInt ≤ 1 := Int.le_trans (Int.le_of_eq c73) (Int.le_refl _)
              refine lv_iload_n hx hb dX9_keepWorks_100 rfl (lv_at hl 2 rfl) ?_
              refine lv_aload_n hx hb dX9_keepWorks_101 rfl (lv_at hl 0 rfl) ?_
              refine va_get (D := g.1) (ci := 7) (v := .ref (a 7)) (C := RX9) (T := TX9) (N := 19) hx hb hts izRX9 hown hK hP 2 rfl rfl 15 (by decide) (hts _ k17) (fun _ h9 => h9) rfl dX9_keepWorks_102 ?_
              refine lv_iload hx hb dX9_keepWorks_105 (lv_at hl 4 rfl) ?_
              refine va_iald hx hb hK hP 10 0 rfl rfl (zinK (a := 0) (b := 5) i10.1 n17 (by decide)) dX9_keepWorks_107 ?_
              refine zg (fun x_76 => ?_)
              refine lv_icmp_ge (tgt := 133) hx hb dX9_keepWorks_108 (by decide) (fun cb9 => ?_) (fun cb9 => ?_)
              · skip
                have c77 : x_76.toInt ≤ q_1.toInt := zle cb9 rfl rfl
                refine lv_aload_n hx hb dX9_keepWorks_133 rfl (lv_at hl 0 rfl) ?_
                refine va_get (D := g.1) (ci := 7) (v := .ref (a 9)) (C := RX9) (T := TX9) (N := 19) hx hb hts izRX9 hown hK hP 2 rfl rfl 17 (by decide) (hts _ k19) (fun _ h9 => h9) rfl dX9_keepWorks_134 ?_
                refine lv_iload hx hb dX9_keepWorks_137 (lv_at hl 4 rfl) ?_
                refine va_iald hx hb hK hP 12 0 rfl rfl (zinK (a := 0) (b := 5) i10.1 n17 (by decide)) dX9_keepWorks_139 ?_
                refine zg (fun x_78 => ?_)
                refine lv_iconst (v := 1) hx hb dX9_keepWorks_140 (by decide) ?_
                refine lv_icmp_ne (tgt := 166) hx hb dX9_keepWorks_141 (by decide) (fun cb9 => ?_) (fun cb9 => ?_)
                · skip
                  have c79 : ¬ x_78.toInt = 1 := zne cb9 rfl (by decide)
                  refine ziinc3 (n' := 1) (a' := 1) (b' := 6) (lv' := fun v9 => [(4, .int v9), (0, .ref o), (1, .ref go), (2, .int q_1), (3, .int x_3)]) hx hb dX9_keepWorks_166 hl (k := 4) rfl (by decide) (fun _ => rfl) (zaddK (i := x_4.toInt) (j := 1) rfl (by decide) i10.1 n17 (Int.le_refl _) (Int.le_refl _) (by decide)) (fun x_80 ls hx_80 hl => ?_)
                  refine lv_goto (tgt := 10) hx hb dX9_keepWorks_169 (by decide) ?_
                  have hl := lv_sub (l' := [(0, .ref o), (1, .ref go), (2, .int q_1), (3, .int x_3), (4, .int x_80)]) hl [1, 2, 3, 4, 0] rfl
                  have hP : va_P g.1 vwCl (List.flatten [bLog g go gr x_5 x_6 fr_7, bTown g o a pe wo tx x_8 jo tr dy sd f_9]) H := hP
                  have hD : va_D A (List.flatten [bLog g go gr x_5 x_6 fr_7, bTown g o a pe wo tx x_8 jo tr dy sd f_9]) := hD
                  exact ih10_14 x_3 x_80 x_5 x_6 fr_7 x_8 f_9 ⟨(Int.le_trans (by decide) hx_80.2.1), hx_80.2.2⟩ ⟨i11.1, i11.2⟩ ⟨i12.1, i12.2⟩ rf_9 H _ ls (zmK hx_80.1 (by decide) n17 (by decide) hk10_14)  hP hD hS (lv_sub hl [0, 1, 2, 3, 4] rfl)
                · skip
                  have c81 : x_78.toInt = 1 := zeq cb9 rfl (by decide)
                  have n82 : 1 ≤ x_78.toInt := Int.le_trans (Int.le_refl _) (Int.le_of_eq c81.symm)
                  have n83 : x_78.toInt ≤ 1 := Int.le_trans (Int.le_of_eq c81) (Int.le_refl _)
                  refine lv_aload_n hx hb dX9_keepWorks_144 rfl (lv_at hl 0 rfl) ?_
                  refine lv_sipush (v := 9999) hx hb dX9_keepWorks_145 (by decide) ?_
                  refine lv_aload_n hx hb dX9_keepWorks_148 rfl (lv_at hl 0 rfl) ?_
                  refine va_get (D := g.1) (ci := 7) (v := .int x_8) (C := RX9) (T := TX9) (N := 19) hx hb hts izRX9 hown hK hP 2 rfl rfl 3 (by decide) (hts _ k4) (fun _ h9 => h9) rfl dX9_keepWorks_149 ?_
                  refine lv_aload_n hx hb dX9_keepWorks_152 rfl (lv_at hl 0 rfl) ?_
                  refine va_get (D := g.1) (ci := 7) (v := .ref (a 8)) (C := RX9) (T := TX9) (N := 19) hx hb hts izRX9 hown hK hP 2 rfl rfl 16 (by decide) (hts _ k18) (fun _ h9 => h9) rfl dX9_keepWorks_153 ?_
                  refine lv_iload hx hb dX9_keepWorks_156 (lv_at hl 4 rfl) ?_
                  refine va_iald hx hb hK hP 11 0 rfl rfl (zinK (a := 0) (b := 5) i10.1 n17 (by decide)) dX9_keepWorks_158 ?_
                  refine zg (fun x_84 => ?_)
                  refine lv_iadd hx hb dX9_keepWorks_159 ?_
                  refine zg (fun x_85 => ?_)
                  refine va_mmin hx hb (by rw [hml]; exact hl.1.symm) hown (hts _ k40) (hts _ k41) (hts _ k42) (hts _ k43) (Nat.le_of_ble_eq_true rfl) (Nat.le_of_ble_eq_true rfl) (Nat.le_of_ble_eq_true rfl) (Nat.le_of_ble_eq_true rfl) dX9_keepWorks_160 ?_
                  refine zgmn (i := 9999) (j := x_85.toInt) (by decide) rfl (fun x_86 hx_86 => ?_)
                  refine va_put (D := g.1) (ci := 7) (v := .int x_86) (ty := .int) (C := RX9) (T := TX9) (N := 19) hx hb hts izRX9 tyX9 tyX9_ok nmX9 hown hK hP hD hS 2 rfl rfl 3 (by decide) (hts _ k4) (fun _ h9 => h9) rfl (by decide +kernel) rfl rfl (Nat.le_of_ble_eq_true rfl) dX9_keepWorks_163 (fun H locs hP hD hS => ?_)
                  have hP : va_P g.1 vwCl (List.flatten [bLog g go gr x_5 x_6 fr_7, bTown g o a pe wo tx x_86 jo tr dy sd f_9]) H := hP
                  have hD : va_D A (List.flatten [bLog g go gr x_5 x_6 fr_7, bTown g o a pe wo tx x_86 jo tr dy sd f_9]) := hD
                  refine ziinc3 (n' := 1) (a' := 1) (b' := 6) (lv' := fun v9 => [(4, .int v9), (0, .ref o), (1, .ref go), (2, .int q_1), (3, .int x_3)]) hx hb dX9_keepWorks_166 hl (k := 4) rfl (by decide) (fun _ => rfl) (zaddK (i := x_4.toInt) (j := 1) rfl (by decide) i10.1 n17 (Int.le_refl _) (Int.le_refl _) (by decide)) (fun x_87 ls hx_87 hl => ?_)
                  refine lv_goto (tgt := 10) hx hb dX9_keepWorks_169 (by decide) ?_
                  have hl := lv_sub (l' := [(0, .ref o), (1, .ref go), (2, .int q_1), (3, .int x_3), (4, .int x_87)]) hl [1, 2, 3, 4, 0] rfl
                  have hP : va_P g.1 vwCl (List.flatten [bLog g go gr x_5 x_6 fr_7, bTown g o a pe wo tx x_86 jo tr dy sd f_9]) H := hP
                  have hD : va_D A (List.flatten [bLog g go gr x_5 x_6 fr_7, bTown g o a pe wo tx x_86 jo tr dy sd f_9]) := hD
                  exact ih10_14 x_3 x_87 x_5 x_6 fr_7 x_86 f_9 ⟨(Int.le_trans (by decide) hx_87.2.1), hx_87.2.2⟩ ⟨i11.1, i11.2⟩ ⟨i12.1, i12.2⟩ rf_9 H _ ls (zmK hx_87.1 (by decide) n17 (by decide) hk10_14)  hP hD hS (lv_sub hl [0, 1, 2, 3, 4] rfl)
              · skip
                have c88 : q_1.toInt < x_76.toInt := zlti (Int32.not_le.mp cb9) rfl rfl
                refine lv_aload_n hx hb dX9_keepWorks_111 rfl (lv_at hl 0 rfl) ?_
                refine va_get (D := g.1) (ci := 7) (v := .ref (a 9)) (C := RX9) (T := TX9) (N := 19) hx hb hts izRX9 hown hK hP 2 rfl rfl 17 (by decide) (hts _ k19) (fun _ h9 => h9) rfl dX9_keepWorks_112 ?_
                refine lv_iload hx hb dX9_keepWorks_115 (lv_at hl 4 rfl) ?_
                refine lv_iconst (v := 2) hx hb dX9_keepWorks_117 (by decide) ?_
                refine va_iast hx hb hK hP hD hS 12 0 rfl rfl (zinK (a := 0) (b := 5) i10.1 n17 (by decide)) dX9_keepWorks_118 (fun H locs hP hD hS => ?_)
                obtain ⟨f89, rf89, hP, hD⟩ : ∃ f89 : Nat → Nat → Int32, zZ4 f89 ∧ va_P g.1 vwCl (List.flatten [bLog g go gr x_5 x_6 fr_7, bTown g o a pe wo tx x_8 jo tr dy sd f89]) H ∧ va_D A (List.flatten [bLog g go gr x_5 x_6 fr_7, bTown g o a pe wo tx x_8 jo tr dy sd f89]) := ⟨zu f_9 9 (upd (f_9 9) x_4.toNatClampNeg 2), (zZ4_u rf_9 (by decide)), hP, hD⟩
                refine ziincG (lv' := fun v9 => [(3, .int v9), (0, .ref o), (1, .ref go), (2, .int q_1), (4, .int x_4)]) hx hb dX9_keepWorks_119 hl (k := 3) rfl (by decide) (fun _ => rfl) (fun x_90 ls hl => ?_)
                refine lv_aload_n hx hb dX9_keepWorks_122 rfl (lv_at hl 1 rfl) ?_
                refine lv_aload_n hx hb dX9_keepWorks_123 rfl (lv_at hl 2 rfl) ?_
                refine lv_iload hx hb dX9_keepWorks_124 (lv_at hl 4 rfl) ?_
                refine lv_iconst (v := 1) hx hb dX9_keepWorks_126 (by decide) ?_
                refine mcallV' (g := g) (q0 := 0) (ci := 7) (As := [.ref go, .int x_4, .int 1]) (rest := []) St hK hT hA hP hD hS hl.1 [1, 0] [] rfl rfl rfl (c_write l g o a pe wo tx x_8 jo tr dy sd f89 go gr x_5 x_6 fr_7 x_4 1 b_pe b_wo rf89 i11 i12) (cwV 3 hts (zgL (zl4 k125 k126 k127 k24) k124) rfl rfl rfl (by decide +kernel) ⟨Nat.le_of_ble_eq_true rfl, Nat.le_of_ble_eq_true rfl⟩) rfl rfl rfl rfl (Nat.le_of_ble_eq_true rfl) dX9_keepWorks_127 ⟨(Nat.le_of_ble_eq_true rfl), (Nat.le_of_ble_eq_true rfl)⟩ (fun u_ H locs hq94 hP hD hS => ?_)
                obtain ⟨gz2_91, gn2_92, fr2_93⟩ := u_
                replace hq94 : (0 ≤ gz2_91.toInt ∧ gz2_91.toInt ≤ 60) ∧ (0 ≤ gn2_92.toInt ∧ gn2_92.toInt ≤ 59) := hq94
                have hP : va_P g.1 vwCl (List.flatten [bTown g o a pe wo tx x_8 jo tr dy sd f89, bLog g go gr gz2_91 gn2_92 fr2_93]) H := hP
                have hD : va_D A (List.flatten [bTown g o a pe wo tx x_8 jo tr dy sd f89, bLog g go gr gz2_91 gn2_92 fr2_93]) := hD
                refine W.widen (k := 0) (n := 0) (Nat.le_of_ble_eq_true rfl) (Nat.le_of_ble_eq_true rfl) ?_
                refine W.eq (g2 := F0 m 130 ls []) rfl ?_
                obtain ⟨hq94_0, hq94_1⟩ := hq94
                refine lv_goto (tgt := 166) hx hb dX9_keepWorks_130 (by decide) ?_
                refine ziinc3 (n' := 1) (a' := 1) (b' := 6) (lv' := fun v9 => [(4, .int v9), (3, .int x_90), (0, .ref o), (1, .ref go), (2, .int q_1)]) hx hb dX9_keepWorks_166 hl (k := 4) rfl (by decide) (fun _ => rfl) (zaddK (i := x_4.toInt) (j := 1) rfl (by decide) i10.1 n17 (Int.le_refl _) (Int.le_refl _) (by decide)) (fun x_95 ls hx_95 hl => ?_)
                refine lv_goto (tgt := 10) hx hb dX9_keepWorks_169 (by decide) ?_
                have hl := lv_sub (l' := [(0, .ref o), (1, .ref go), (2, .int q_1), (3, .int x_90), (4, .int x_95)]) hl [2, 3, 4, 1, 0] rfl
                have hP : va_P g.1 vwCl (List.flatten [bTown g o a pe wo tx x_8 jo tr dy sd f89, bLog g go gr gz2_91 gn2_92 fr2_93]) H := hP
                have hD : va_D A (List.flatten [bTown g o a pe wo tx x_8 jo tr dy sd f89, bLog g go gr gz2_91 gn2_92 fr2_93]) := hD
                obtain ⟨hP, hD⟩ := zord (g := g) (Bs' := [bLog g go gr gz2_91 gn2_92 fr2_93, bTown g o a pe wo tx x_8 jo tr dy sd f89]) [1, 0] rfl rfl hP hD
                have hP : va_P g.1 vwCl (List.flatten [bLog g go gr gz2_91 gn2_92 fr2_93, bTown g o a pe wo tx x_8 jo tr dy sd f89]) H := hP
                have hD : va_D A (List.flatten [bLog g go gr gz2_91 gn2_92 fr2_93, bTown g o a pe wo tx x_8 jo tr dy sd f89]) := hD
                exact ih10_14 x_90 x_95 gz2_91 gn2_92 fr2_93 x_8 f89 ⟨(Int.le_trans (by decide) hx_95.2.1), hx_95.2.2⟩ ⟨hq94_0.1, hq94_0.2⟩ ⟨hq94_1.1, hq94_1.2⟩ rf89 H _ ls (zmK hx_95.1 (by decide) n17 (by decide) hk10_14)  hP hD hS (lv_sub hl [0, 1, 2, 3, 4] rfl)
          · skip
            have c96 : x_59.toInt ≤ q_1.toInt := zle (Int32.not_lt.mp cb9) rfl rfl
            refine lv_aload_n hx hb dX9_keepWorks_40 rfl (lv_at hl 0 rfl) ?_
            refine va_get (D := g.1) (ci := 7) (v := .int x_8) (C := RX9) (T := TX9) (N := 19) hx hb hts izRX9 hown hK hP 2 rfl rfl 3 (by decide) (hts _ k4) (fun _ h9 => h9) rfl dX9_keepWorks_41 ?_
            refine lv_aload_n hx hb dX9_keepWorks_44 rfl (lv_at hl 0 rfl) ?_
            refine va_get (D := g.1) (ci := 7) (v := .ref (a 6)) (C := RX9) (T := TX9) (N := 19) hx hb hts izRX9 hown hK hP 2 rfl rfl 14 (by decide) (hts _ k16) (fun _ h9 => h9) rfl dX9_keepWorks_45 ?_
            refine lv_iload hx hb dX9_keepWorks_48 (lv_at hl 4 rfl) ?_
            refine va_iald hx hb hK hP 9 0 rfl rfl (zinK (a := 0) (b := 5) i10.1 n17 (by decide)) dX9_keepWorks_50 ?_
            refine zg (fun x_97 => ?_)
            refine lv_icmp_lt (tgt := 89) hx hb dX9_keepWorks_51 (by decide) (fun cb9 => ?_) (fun cb9 => ?_)
            · skip
              have c98 : x_8.toInt < x_97.toInt := zlti cb9 rfl rfl
              refine lv_aload_n hx hb dX9_keepWorks_89 rfl (lv_at hl 0 rfl) ?_
              refine va_get (D := g.1) (ci := 7) (v := .ref (a 9)) (C := RX9) (T := TX9) (N := 19) hx hb hts izRX9 hown hK hP 2 rfl rfl 17 (by decide) (hts _ k19) (fun _ h9 => h9) rfl dX9_keepWorks_90 ?_
              refine lv_iload hx hb dX9_keepWorks_93 (lv_at hl 4 rfl) ?_
              refine va_iald hx hb hK hP 12 0 rfl rfl (zinK (a := 0) (b := 5) i10.1 n17 (by decide)) dX9_keepWorks_95 ?_
              refine zg (fun x_99 => ?_)
              refine lv_iconst (v := 1) hx hb dX9_keepWorks_96 (by decide) ?_
              refine lv_icmp_ne (tgt := 133) hx hb dX9_keepWorks_97 (by decide) (fun cb9 => ?_) (fun cb9 => ?_)
              · skip
                have c100 : ¬ x_99.toInt = 1 := zne cb9 rfl (by decide)
                refine lv_aload_n hx hb dX9_keepWorks_133 rfl (lv_at hl 0 rfl) ?_
                refine va_get (D := g.1) (ci := 7) (v := .ref (a 9)) (C := RX9) (T := TX9) (N := 19) hx hb hts izRX9 hown hK hP 2 rfl rfl 17 (by decide) (hts _ k19) (fun _ h9 => h9) rfl dX9_keepWorks_134 ?_
                refine lv_iload hx hb dX9_keepWorks_137 (lv_at hl 4 rfl) ?_
                refine va_iald hx hb hK hP 12 0 rfl rfl (zinK (a := 0) (b := 5) i10.1 n17 (by decide)) dX9_keepWorks_139 ?_
                refine zg (fun x_101 => ?_)
                refine lv_iconst (v := 1) hx hb dX9_keepWorks_140 (by decide) ?_
                refine lv_icmp_ne (tgt := 166) hx hb dX9_keepWorks_141 (by decide) (fun cb9 => ?_) (fun cb9 => ?_)
                · skip
                  have c102 : ¬ x_101.toInt = 1 := zne cb9 rfl (by decide)
                  refine ziinc3 (n' := 1) (a' := 1) (b' := 6) (lv' := fun v9 => [(4, .int v9), (0, .ref o), (1, .ref go), (2, .int q_1), (3, .int x_3)]) hx hb dX9_keepWorks_166 hl (k := 4) rfl (by decide) (fun _ => rfl) (zaddK (i := x_4.toInt) (j := 1) rfl (by decide) i10.1 n17 (Int.le_refl _) (Int.le_refl _) (by decide)) (fun x_103 ls hx_103 hl => ?_)
                  refine lv_goto (tgt := 10) hx hb dX9_keepWorks_169 (by decide) ?_
                  have hl := lv_sub (l' := [(0, .ref o), (1, .ref go), (2, .int q_1), (3, .int x_3), (4, .int x_103)]) hl [1, 2, 3, 4, 0] rfl
                  have hP : va_P g.1 vwCl (List.flatten [bLog g go gr x_5 x_6 fr_7, bTown g o a pe wo tx x_8 jo tr dy sd f_9]) H := hP
                  have hD : va_D A (List.flatten [bLog g go gr x_5 x_6 fr_7, bTown g o a pe wo tx x_8 jo tr dy sd f_9]) := hD
                  exact ih10_14 x_3 x_103 x_5 x_6 fr_7 x_8 f_9 ⟨(Int.le_trans (by decide) hx_103.2.1), hx_103.2.2⟩ ⟨i11.1, i11.2⟩ ⟨i12.1, i12.2⟩ rf_9 H _ ls (zmK hx_103.1 (by decide) n17 (by decide) hk10_14)  hP hD hS (lv_sub hl [0, 1, 2, 3, 4] rfl)
                · skip
                  have c104 : x_101.toInt = 1 := zeq cb9 rfl (by decide)
                  have n105 : 1 ≤ x_101.toInt := Int.le_trans (Int.le_refl _) (Int.le_of_eq c104.symm)
                  have n106 : x_101.toInt ≤ 1 := Int.le_trans (Int.le_of_eq c104) (Int.le_refl _)
                  refine lv_aload_n hx hb dX9_keepWorks_144 rfl (lv_at hl 0 rfl) ?_
                  refine lv_sipush (v := 9999) hx hb dX9_keepWorks_145 (by decide) ?_
                  refine lv_aload_n hx hb dX9_keepWorks_148 rfl (lv_at hl 0 rfl) ?_
                  refine va_get (D := g.1) (ci := 7) (v := .int x_8) (C := RX9) (T := TX9) (N := 19) hx hb hts izRX9 hown hK hP 2 rfl rfl 3 (by decide) (hts _ k4) (fun _ h9 => h9) rfl dX9_keepWorks_149 ?_
                  refine lv_aload_n hx hb dX9_keepWorks_152 rfl (lv_at hl 0 rfl) ?_
                  refine va_get (D := g.1) (ci := 7) (v := .ref (a 8)) (C := RX9) (T := TX9) (N := 19) hx hb hts izRX9 hown hK hP 2 rfl rfl 16 (by decide) (hts _ k18) (fun _ h9 => h9) rfl dX9_keepWorks_153 ?_
                  refine lv_iload hx hb dX9_keepWorks_156 (lv_at hl 4 rfl) ?_
                  refine va_iald hx hb hK hP 11 0 rfl rfl (zinK (a := 0) (b := 5) i10.1 n17 (by decide)) dX9_keepWorks_158 ?_
                  refine zg (fun x_107 => ?_)
                  refine lv_iadd hx hb dX9_keepWorks_159 ?_
                  refine zg (fun x_108 => ?_)
                  refine va_mmin hx hb (by rw [hml]; exact hl.1.symm) hown (hts _ k40) (hts _ k41) (hts _ k42) (hts _ k43) (Nat.le_of_ble_eq_true rfl) (Nat.le_of_ble_eq_true rfl) (Nat.le_of_ble_eq_true rfl) (Nat.le_of_ble_eq_true rfl) dX9_keepWorks_160 ?_
                  refine zgmn (i := 9999) (j := x_108.toInt) (by decide) rfl (fun x_109 hx_109 => ?_)
                  refine va_put (D := g.1) (ci := 7) (v := .int x_109) (ty := .int) (C := RX9) (T := TX9) (N := 19) hx hb hts izRX9 tyX9 tyX9_ok nmX9 hown hK hP hD hS 2 rfl rfl 3 (by decide) (hts _ k4) (fun _ h9 => h9) rfl (by decide +kernel) rfl rfl (Nat.le_of_ble_eq_true rfl) dX9_keepWorks_163 (fun H locs hP hD hS => ?_)
                  have hP : va_P g.1 vwCl (List.flatten [bLog g go gr x_5 x_6 fr_7, bTown g o a pe wo tx x_109 jo tr dy sd f_9]) H := hP
                  have hD : va_D A (List.flatten [bLog g go gr x_5 x_6 fr_7, bTown g o a pe wo tx x_109 jo tr dy sd f_9]) := hD
                  refine ziinc3 (n' := 1) (a' := 1) (b' := 6) (lv' := fun v9 => [(4, .int v9), (0, .ref o), (1, .ref go), (2, .int q_1), (3, .int x_3)]) hx hb dX9_keepWorks_166 hl (k := 4) rfl (by decide) (fun _ => rfl) (zaddK (i := x_4.toInt) (j := 1) rfl (by decide) i10.1 n17 (Int.le_refl _) (Int.le_refl _) (by decide)) (fun x_110 ls hx_110 hl => ?_)
                  refine lv_goto (tgt := 10) hx hb dX9_keepWorks_169 (by decide) ?_
                  have hl := lv_sub (l' := [(0, .ref o), (1, .ref go), (2, .int q_1), (3, .int x_3), (4, .int x_110)]) hl [1, 2, 3, 4, 0] rfl
                  have hP : va_P g.1 vwCl (List.flatten [bLog g go gr x_5 x_6 fr_7, bTown g o a pe wo tx x_109 jo tr dy sd f_9]) H := hP
                  have hD : va_D A (List.flatten [bLog g go gr x_5 x_6 fr_7, bTown g o a pe wo tx x_109 jo tr dy sd f_9]) := hD
                  exact ih10_14 x_3 x_110 x_5 x_6 fr_7 x_109 f_9 ⟨(Int.le_trans (by decide) hx_110.2.1), hx_110.2.2⟩ ⟨i11.1, i11.2⟩ ⟨i12.1, i12.2⟩ rf_9 H _ ls (zmK hx_110.1 (by decide) n17 (by decide) hk10_14)  hP hD hS (lv_sub hl [0, 1, 2, 3, 4] rfl)
              · skip
                have c111 : x_99.toInt = 1 := zeq cb9 rfl (by decide)
                have n112 : 1 ≤ x_99.toInt := Int.le_trans (Int.le_refl _) (Int.le_of_eq c111.symm)
                have n113 : x_99.toInt ≤ 1 := Int.le_trans (Int.le_of_eq c111) (Int.le_refl _)
                refine lv_iload_n hx hb dX9_keepWorks_100 rfl (lv_at hl 2 rfl) ?_
                refine lv_aload_n hx hb dX9_keepWorks_101 rfl (lv_at hl 0 rfl) ?_
                refine va_get (D := g.1) (ci := 7) (v := .ref (a 7)) (C := RX9) (T := TX9) (N := 19) hx hb hts izRX9 hown hK hP 2 rfl rfl 15 (by decide) (hts _ k17) (fun _ h9 => h9) rfl dX9_keepWorks_102 ?_
                refine lv_iload hx hb dX9_keepWorks_105 (lv_at hl 4 rfl) ?_
                refine va_iald hx hb hK hP 10 0 rfl rfl (zinK (a := 0) (b := 5) i10.1 n17 (by decide)) dX9_keepWorks_107 ?_
                refine zg (fun x_114 => ?_)
                refine lv_icmp_ge (tgt := 133) hx hb dX9_keepWorks_108 (by decide) (fun cb9 => ?_) (fun cb9 => ?_)
                · skip
                  have c115 : x_114.toInt ≤ q_1.toInt := zle cb9 rfl rfl
                  refine lv_aload_n hx hb dX9_keepWorks_133 rfl (lv_at hl 0 rfl) ?_
                  refine va_get (D := g.1) (ci := 7) (v := .ref (a 9)) (C := RX9) (T := TX9) (N := 19) hx hb hts izRX9 hown hK hP 2 rfl rfl 17 (by decide) (hts _ k19) (fun _ h9 => h9) rfl dX9_keepWorks_134 ?_
                  refine lv_iload hx hb dX9_keepWorks_137 (lv_at hl 4 rfl) ?_
                  refine va_iald hx hb hK hP 12 0 rfl rfl (zinK (a := 0) (b := 5) i10.1 n17 (by decide)) dX9_keepWorks_139 ?_
                  refine zg (fun x_116 => ?_)
                  refine lv_iconst (v := 1) hx hb dX9_keepWorks_140 (by decide) ?_
                  refine lv_icmp_ne (tgt := 166) hx hb dX9_keepWorks_141 (by decide) (fun cb9 => ?_) (fun cb9 => ?_)
                  · skip
                    have c117 : ¬ x_116.toInt = 1 := zne cb9 rfl (by decide)
                    refine ziinc3 (n' := 1) (a' := 1) (b' := 6) (lv' := fun v9 => [(4, .int v9), (0, .ref o), (1, .ref go), (2, .int q_1), (3, .int x_3)]) hx hb dX9_keepWorks_166 hl (k := 4) rfl (by decide) (fun _ => rfl) (zaddK (i := x_4.toInt) (j := 1) rfl (by decide) i10.1 n17 (Int.le_refl _) (Int.le_refl _) (by decide)) (fun x_118 ls hx_118 hl => ?_)
                    refine lv_goto (tgt := 10) hx hb dX9_keepWorks_169 (by decide) ?_
                    have hl := lv_sub (l' := [(0, .ref o), (1, .ref go), (2, .int q_1), (3, .int x_3), (4, .int x_118)]) hl [1, 2, 3, 4, 0] rfl
                    have hP : va_P g.1 vwCl (List.flatten [bLog g go gr x_5 x_6 fr_7, bTown g o a pe wo tx x_8 jo tr dy sd f_9]) H := hP
                    have hD : va_D A (List.flatten [bLog g go gr x_5 x_6 fr_7, bTown g o a pe wo tx x_8 jo tr dy sd f_9]) := hD
                    exact ih10_14 x_3 x_118 x_5 x_6 fr_7 x_8 f_9 ⟨(Int.le_trans (by decide) hx_118.2.1), hx_118.2.2⟩ ⟨i11.1, i11.2⟩ ⟨i12.1, i12.2⟩ rf_9 H _ ls (zmK hx_118.1 (by decide) n17 (by decide) hk10_14)  hP hD hS (lv_sub hl [0, 1, 2, 3, 4] rfl)
                  · skip
                    have c119 : x_116.toInt = 1 := zeq cb9 rfl (by decide)
                    have n120 : 1 ≤ x_116.toInt := Int.le_trans (Int.le_refl _) (Int.le_of_eq c119.symm)
                    have n121 : x_116.toInt ≤ 1 := Int.le_trans (Int.le_of_eq c119) (Int.le_refl _)
                    refine lv_aload_n hx hb dX9_keepWorks_144 rfl (lv_at hl 0 rfl) ?_
                    refine lv_sipush (v := 9999) hx hb dX9_keepWorks_145 (by decide) ?_
                    refine lv_aload_n hx hb dX9_keepWorks_148 rfl (lv_at hl 0 rfl) ?_
                    refine va_get (D := g.1) (ci := 7) (v := .int x_8) (C := RX9) (T := TX9) (N := 19) hx hb hts izRX9 hown hK hP 2 rfl rfl 3 (by decide) (hts _ k4) (fun _ h9 => h9) rfl dX9_keepWorks_149 ?_
                    refine lv_aload_n hx hb dX9_keepWorks_152 rfl (lv_at hl 0 rfl) ?_
                    refine va_get (D := g.1) (ci := 7) (v := .ref (a 8)) (C := RX9) (T := TX9) (N := 19) hx hb hts izRX9 hown hK hP 2 rfl rfl 16 (by decide) (hts _ k18) (fun _ h9 => h9) rfl dX9_keepWorks_153 ?_
                    refine lv_iload hx hb dX9_keepWorks_156 (lv_at hl 4 rfl) ?_
                    refine va_iald hx hb hK hP 11 0 rfl rfl (zinK (a := 0) (b := 5) i10.1 n17 (by decide)) dX9_keepWorks_158 ?_
                    refine zg (fun x_122 => ?_)
                    refine lv_iadd hx hb dX9_keepWorks_159 ?_
                    refine zg (fun x_123 => ?_)
                    refine va_mmin hx hb (by rw [hml]; exact hl.1.symm) hown (hts _ k40) (hts _ k41) (hts _ k42) (hts _ k43) (Nat.le_of_ble_eq_true rfl) (Nat.le_of_ble_eq_true rfl) (Nat.le_of_ble_eq_true rfl) (Nat.le_of_ble_eq_true rfl) dX9_keepWorks_160 ?_
                    refine zgmn (i := 9999) (j := x_123.toInt) (by decide) rfl (fun x_124 hx_124 => ?_)
                    refine va_put (D := g.1) (ci := 7) (v := .int x_124) (ty := .int) (C := RX9) (T := TX9) (N := 19) hx hb hts izRX9 tyX9 tyX9_ok nmX9 hown hK hP hD hS 2 rfl rfl 3 (by decide) (hts _ k4) (fun _ h9 => h9) rfl (by decide +kernel) rfl rfl (Nat.le_of_ble_eq_true rfl) dX9_keepWorks_163 (fun H locs hP hD hS => ?_)
                    have hP : va_P g.1 vwCl (List.flatten [bLog g go gr x_5 x_6 fr_7, bTown g o a pe wo tx x_124 jo tr dy sd f_9]) H := hP
                    have hD : va_D A (List.flatten [bLog g go gr x_5 x_6 fr_7, bTown g o a pe wo tx x_124 jo tr dy sd f_9]) := hD
                    refine ziinc3 (n' := 1) (a' := 1) (b' := 6) (lv' := fun v9 => [(4, .int v9), (0, .ref o), (1, .ref go), (2, .int q_1), (3, .int x_3)]) hx hb dX9_keepWorks_166 hl (k := 4) rfl (by decide) (fun _ => rfl) (zaddK (i := x_4.toInt) (j := 1) rfl (by decide) i10.1 n17 (Int.le_refl _) (Int.le_refl _) (by decide)) (fun x_125 ls hx_125 hl => ?_)
                    refine lv_goto (tgt := 10) hx hb dX9_keepWorks_169 (by decide) ?_
                    have hl := lv_sub (l' := [(0, .ref o), (1, .ref go), (2, .int q_1), (3, .int x_3), (4, .int x_125)]) hl [1, 2, 3, 4, 0] rfl
                    have hP : va_P g.1 vwCl (List.flatten [bLog g go gr x_5 x_6 fr_7, bTown g o a pe wo tx x_124 jo tr dy sd f_9]) H := hP
                    have hD : va_D A (List.flatten [bLog g go gr x_5 x_6 fr_7, bTown g o a pe wo tx x_124 jo tr dy sd f_9]) := hD
                    exact ih10_14 x_3 x_125 x_5 x_6 fr_7 x_124 f_9 ⟨(Int.le_trans (by decide) hx_125.2.1), hx_125.2.2⟩ ⟨i11.1, i11.2⟩ ⟨i12.1, i12.2⟩ rf_9 H _ ls (zmK hx_125.1 (by decide) n17 (by decide) hk10_14)  hP hD hS (lv_sub hl [0, 1, 2, 3, 4] rfl)
                · skip
                  have c126 : q_1.toInt < x_114.toInt := zlti (Int32.not_le.mp cb9) rfl rfl
                  refine lv_aload_n hx hb dX9_keepWorks_111 rfl (lv_at hl 0 rfl) ?_
                  refine va_get (D := g.1) (ci := 7) (v := .ref (a 9)) (C := RX9) (T := TX9) (N := 19) hx hb hts izRX9 hown hK hP 2 rfl rfl 17 (by decide) (hts _ k19) (fun _ h9 => h9) rfl dX9_keepWorks_112 ?_
                  refine lv_iload hx hb dX9_keepWorks_115 (lv_at hl 4 rfl) ?_
                  refine lv_iconst (v := 2) hx hb dX9_keepWorks_117 (by decide) ?_
                  refine va_iast hx hb hK hP hD hS 12 0 rfl rfl (zinK (a := 0) (b := 5) i10.1 n17 (by decide)) dX9_keepWorks_118 (fun H locs hP hD hS => ?_)
                  obtain ⟨f127, rf127, hP, hD⟩ : ∃ f127 : Nat → Nat → Int32, zZ4 f127 ∧ va_P g.1 vwCl (List.flatten [bLog g go gr x_5 x_6 fr_7, bTown g o a pe wo tx x_8 jo tr dy sd f127]) H ∧ va_D A (List.flatten [bLog g go gr x_5 x_6 fr_7, bTown g o a pe wo tx x_8 jo tr dy sd f127]) := ⟨zu f_9 9 (upd (f_9 9) x_4.toNatClampNeg 2), (zZ4_u rf_9 (by decide)), hP, hD⟩
                  refine ziincG (lv' := fun v9 => [(3, .int v9), (0, .ref o), (1, .ref go), (2, .int q_1), (4, .int x_4)]) hx hb dX9_keepWorks_119 hl (k := 3) rfl (by decide) (fun _ => rfl) (fun x_128 ls hl => ?_)
                  refine lv_aload_n hx hb dX9_keepWorks_122 rfl (lv_at hl 1 rfl) ?_
                  refine lv_aload_n hx hb dX9_keepWorks_123 rfl (lv_at hl 2 rfl) ?_
                  refine lv_iload hx hb dX9_keepWorks_124 (lv_at hl 4 rfl) ?_
                  refine lv_iconst (v := 1) hx hb dX9_keepWorks_126 (by decide) ?_
                  refine mcallV' (g := g) (q0 := 0) (ci := 7) (As := [.ref go, .int x_4, .int 1]) (rest := []) St hK hT hA hP hD hS hl.1 [1, 0] [] rfl rfl rfl (c_write l g o a pe wo tx x_8 jo tr dy sd f127 go gr x_5 x_6 fr_7 x_4 1 b_pe b_wo rf127 i11 i12) (cwV 3 hts (zgL (zl4 k125 k126 k127 k24) k124) rfl rfl rfl (by decide +kernel) ⟨Nat.le_of_ble_eq_true rfl, Nat.le_of_ble_eq_true rfl⟩) rfl rfl rfl rfl (Nat.le_of_ble_eq_true rfl) dX9_keepWorks_127 ⟨(Nat.le_of_ble_eq_true rfl), (Nat.le_of_ble_eq_true rfl)⟩ (fun u_ H locs hq132 hP hD hS => ?_)
                  obtain ⟨gz2_129, gn2_130, fr2_131⟩ := u_
                  replace hq132 : (0 ≤ gz2_129.toInt ∧ gz2_129.toInt ≤ 60) ∧ (0 ≤ gn2_130.toInt ∧ gn2_130.toInt ≤ 59) := hq132
                  have hP : va_P g.1 vwCl (List.flatten [bTown g o a pe wo tx x_8 jo tr dy sd f127, bLog g go gr gz2_129 gn2_130 fr2_131]) H := hP
                  have hD : va_D A (List.flatten [bTown g o a pe wo tx x_8 jo tr dy sd f127, bLog g go gr gz2_129 gn2_130 fr2_131]) := hD
                  refine W.widen (k := 0) (n := 0) (Nat.le_of_ble_eq_true rfl) (Nat.le_of_ble_eq_true rfl) ?_
                  refine W.eq (g2 := F0 m 130 ls []) rfl ?_
                  obtain ⟨hq132_0, hq132_1⟩ := hq132
                  refine lv_goto (tgt := 166) hx hb dX9_keepWorks_130 (by decide) ?_
                  refine ziinc3 (n' := 1) (a' := 1) (b' := 6) (lv' := fun v9 => [(4, .int v9), (3, .int x_128), (0, .ref o), (1, .ref go), (2, .int q_1)]) hx hb dX9_keepWorks_166 hl (k := 4) rfl (by decide) (fun _ => rfl) (zaddK (i := x_4.toInt) (j := 1) rfl (by decide) i10.1 n17 (Int.le_refl _) (Int.le_refl _) (by decide)) (fun x_133 ls hx_133 hl => ?_)
                  refine lv_goto (tgt := 10) hx hb dX9_keepWorks_169 (by decide) ?_
                  have hl := lv_sub (l' := [(0, .ref o), (1, .ref go), (2, .int q_1), (3, .int x_128), (4, .int x_133)]) hl [2, 3, 4, 1, 0] rfl
                  have hP : va_P g.1 vwCl (List.flatten [bTown g o a pe wo tx x_8 jo tr dy sd f127, bLog g go gr gz2_129 gn2_130 fr2_131]) H := hP
                  have hD : va_D A (List.flatten [bTown g o a pe wo tx x_8 jo tr dy sd f127, bLog g go gr gz2_129 gn2_130 fr2_131]) := hD
                  obtain ⟨hP, hD⟩ := zord (g := g) (Bs' := [bLog g go gr gz2_129 gn2_130 fr2_131, bTown g o a pe wo tx x_8 jo tr dy sd f127]) [1, 0] rfl rfl hP hD
                  have hP : va_P g.1 vwCl (List.flatten [bLog g go gr gz2_129 gn2_130 fr2_131, bTown g o a pe wo tx x_8 jo tr dy sd f127]) H := hP
                  have hD : va_D A (List.flatten [bLog g go gr gz2_129 gn2_130 fr2_131, bTown g o a pe wo tx x_8 jo tr dy sd f127]) := hD
                  exact ih10_14 x_128 x_133 gz2_129 gn2_130 fr2_131 x_8 f127 ⟨(Int.le_trans (by decide) hx_133.2.1), hx_133.2.2⟩ ⟨hq132_0.1, hq132_0.2⟩ ⟨hq132_1.1, hq132_1.2⟩ rf127 H _ ls (zmK hx_133.1 (by decide) n17 (by decide) hk10_14)  hP hD hS (lv_sub hl [0, 1, 2, 3, 4] rfl)
            · skip
              have c134 : x_97.toInt ≤ x_8.toInt := zle (Int32.not_lt.mp cb9) rfl rfl
              refine lv_aload_n hx hb dX9_keepWorks_54 rfl (lv_at hl 0 rfl) ?_
              refine va_get (D := g.1) (ci := 7) (v := .ref (a 9)) (C := RX9) (T := TX9) (N := 19) hx hb hts izRX9 hown hK hP 2 rfl rfl 17 (by decide) (hts _ k19) (fun _ h9 => h9) rfl dX9_keepWorks_55 ?_
              refine lv_iload hx hb dX9_keepWorks_58 (lv_at hl 4 rfl) ?_
              refine lv_iconst (v := 1) hx hb dX9_keepWorks_60 (by decide) ?_
              refine va_iast hx hb hK hP hD hS 12 0 rfl rfl (zinK (a := 0) (b := 5) i10.1 n17 (by decide)) dX9_keepWorks_61 (fun H locs hP hD hS => ?_)
              obtain ⟨f135, rf135, hP, hD⟩ : ∃ f135 : Nat → Nat → Int32, zZ4 f135 ∧ va_P g.1 vwCl (List.flatten [bLog g go gr x_5 x_6 fr_7, bTown g o a pe wo tx x_8 jo tr dy sd f135]) H ∧ va_D A (List.flatten [bLog g go gr x_5 x_6 fr_7, bTown g o a pe wo tx x_8 jo tr dy sd f135]) := ⟨zu f_9 9 (upd (f_9 9) x_4.toNatClampNeg 1), (zZ4_u rf_9 (by decide)), hP, hD⟩
              refine lv_aload_n hx hb dX9_keepWorks_62 rfl (lv_at hl 0 rfl) ?_
              refine lv_dup hx hb dX9_keepWorks_63 rfl ?_
              refine va_get (D := g.1) (ci := 7) (v := .int x_8) (C := RX9) (T := TX9) (N := 19) hx hb hts izRX9 hown hK hP 2 rfl rfl 3 (by decide) (hts _ k4) (fun _ h9 => h9) rfl dX9_keepWorks_64 ?_
              refine lv_aload_n hx hb dX9_keepWorks_67 rfl (lv_at hl 0 rfl) ?_
              refine va_get (D := g.1) (ci := 7) (v := .ref (a 6)) (C := RX9) (T := TX9) (N := 19) hx hb hts izRX9 hown hK hP 2 rfl rfl 14 (by decide) (hts _ k16) (fun _ h9 => h9) rfl dX9_keepWorks_68 ?_
              refine lv_iload hx hb dX9_keepWorks_71 (lv_at hl 4 rfl) ?_
              refine va_iald hx hb hK hP 9 0 rfl rfl (zinK (a := 0) (b := 5) i10.1 n17 (by decide)) dX9_keepWorks_73 ?_
              refine zg (fun x_136 => ?_)
              refine lv_isub hx hb dX9_keepWorks_74 ?_
              refine zg (fun x_137 => ?_)
              refine va_put (D := g.1) (ci := 7) (v := .int x_137) (ty := .int) (C := RX9) (T := TX9) (N := 19) hx hb hts izRX9 tyX9 tyX9_ok nmX9 hown hK hP hD hS 2 rfl rfl 3 (by decide) (hts _ k4) (fun _ h9 => h9) rfl (by decide +kernel) rfl rfl (Nat.le_of_ble_eq_true rfl) dX9_keepWorks_75 (fun H locs hP hD hS => ?_)
              have hP : va_P g.1 vwCl (List.flatten [bLog g go gr x_5 x_6 fr_7, bTown g o a pe wo tx x_137 jo tr dy sd f135]) H := hP
              have hD : va_D A (List.flatten [bLog g go gr x_5 x_6 fr_7, bTown g o a pe wo tx x_137 jo tr dy sd f135]) := hD
              refine lv_aload_n hx hb dX9_keepWorks_78 rfl (lv_at hl 0 rfl) ?_
              refine lv_aload_n hx hb dX9_keepWorks_79 rfl (lv_at hl 1 rfl) ?_
              refine lv_iload hx hb dX9_keepWorks_80 (lv_at hl 4 rfl) ?_
              refine lv_iconst (v := 0) hx hb dX9_keepWorks_82 (by decide) ?_
              refine mcallV' (g := g) (q0 := 0) (ci := 7) (As := [.ref go, .int x_4, .int 0]) (rest := []) St hK hT hA hP hD hS hl.1 [1, 0] [] rfl rfl rfl (c_write l g o a pe wo tx x_137 jo tr dy sd f135 go gr x_5 x_6 fr_7 x_4 0 b_pe b_wo rf135 i11 i12) (cwV 3 hts (zgL (zl4 k125 k126 k127 k24) k124) rfl rfl rfl (by decide +kernel) ⟨Nat.le_of_ble_eq_true rfl, Nat.le_of_ble_eq_true rfl⟩) rfl rfl rfl rfl (Nat.le_of_ble_eq_true rfl) dX9_keepWorks_83 ⟨(Nat.le_of_ble_eq_true rfl), (Nat.le_of_ble_eq_true rfl)⟩ (fun u_ H locs hq141 hP hD hS => ?_)
              obtain ⟨gz2_138, gn2_139, fr2_140⟩ := u_
              replace hq141 : (0 ≤ gz2_138.toInt ∧ gz2_138.toInt ≤ 60) ∧ (0 ≤ gn2_139.toInt ∧ gn2_139.toInt ≤ 59) := hq141
              have hP : va_P g.1 vwCl (List.flatten [bTown g o a pe wo tx x_137 jo tr dy sd f135, bLog g go gr gz2_138 gn2_139 fr2_140]) H := hP
              have hD : va_D A (List.flatten [bTown g o a pe wo tx x_137 jo tr dy sd f135, bLog g go gr gz2_138 gn2_139 fr2_140]) := hD
              refine W.widen (k := 0) (n := 0) (Nat.le_of_ble_eq_true rfl) (Nat.le_of_ble_eq_true rfl) ?_
              refine W.eq (g2 := F0 m 86 ls []) rfl ?_
              obtain ⟨hq141_0, hq141_1⟩ := hq141
              refine lv_goto (tgt := 166) hx hb dX9_keepWorks_86 (by decide) ?_
              refine ziinc3 (n' := 1) (a' := 1) (b' := 6) (lv' := fun v9 => [(4, .int v9), (0, .ref o), (1, .ref go), (2, .int q_1), (3, .int x_3)]) hx hb dX9_keepWorks_166 hl (k := 4) rfl (by decide) (fun _ => rfl) (zaddK (i := x_4.toInt) (j := 1) rfl (by decide) i10.1 n17 (Int.le_refl _) (Int.le_refl _) (by decide)) (fun x_142 ls hx_142 hl => ?_)
              refine lv_goto (tgt := 10) hx hb dX9_keepWorks_169 (by decide) ?_
              have hl := lv_sub (l' := [(0, .ref o), (1, .ref go), (2, .int q_1), (3, .int x_3), (4, .int x_142)]) hl [1, 2, 3, 4, 0] rfl
              have hP : va_P g.1 vwCl (List.flatten [bTown g o a pe wo tx x_137 jo tr dy sd f135, bLog g go gr gz2_138 gn2_139 fr2_140]) H := hP
              have hD : va_D A (List.flatten [bTown g o a pe wo tx x_137 jo tr dy sd f135, bLog g go gr gz2_138 gn2_139 fr2_140]) := hD
              obtain ⟨hP, hD⟩ := zord (g := g) (Bs' := [bLog g go gr gz2_138 gn2_139 fr2_140, bTown g o a pe wo tx x_137 jo tr dy sd f135]) [1, 0] rfl rfl hP hD
              have hP : va_P g.1 vwCl (List.flatten [bLog g go gr gz2_138 gn2_139 fr2_140, bTown g o a pe wo tx x_137 jo tr dy sd f135]) H := hP
              have hD : va_D A (List.flatten [bLog g go gr gz2_138 gn2_139 fr2_140, bTown g o a pe wo tx x_137 jo tr dy sd f135]) := hD
              exact ih10_14 x_3 x_142 gz2_138 gn2_139 fr2_140 x_137 f135 ⟨(Int.le_trans (by decide) hx_142.2.1), hx_142.2.2⟩ ⟨hq141_0.1, hq141_0.2⟩ ⟨hq141_1.1, hq141_1.2⟩ rf135 H _ ls (zmK hx_142.1 (by decide) n17 (by decide) hk10_14)  hP hD hS (lv_sub hl [0, 1, 2, 3, 4] rfl)
  have hP : va_P g.1 vwCl (List.flatten [bLog g go gr gz gn fr, bTown g o a pe wo tx ch jo tr dy sd f]) H := hP
  have hD : va_D A (List.flatten [bLog g go gr gz gn fr, bTown g o a pe wo tx ch jo tr dy sd f]) := hD
  exact LP10_13 _ 0 0 gz gn fr ch f (by decide) ⟨b_gz.1, b_gz.2⟩ ⟨b_gn.1, b_gn.2⟩ rf H _ ls (Nat.lt_succ_self _)  hP hD hS (lv_sub hl [0, 1, 2, 3, 4] rfl)
