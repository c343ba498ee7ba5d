set_option maxRecDepth 100000 in
set_option maxHeartbeats 4000000 in
theorem c_g_add (l : Launch) (g : zG) (go : Nat) (gr : Nat) (gz : Int32) (gn : Int32) (fr : Nat → Int32) (x1 : Int32) (y1 : Int32) (z1 : Int32) (w1 : Int32) (b_gz : 0 ≤ gz.toInt ∧ gz.toInt ≤ 60) (b_gn : 0 ≤ gn.toInt ∧ gn.toInt ≤ 59) : zM' g l yX3_add (Cond.code yX3_add cX3_add 6 none :: zB) ({ frames := 1, cells := 0, slots := 0, locals := 14 } : Room) [.ref go, .int x1, .int y1, .int z1, .int w1] [bLog g go gr gz gn fr] (fun u : Int32 × Int32 × (Nat → Int32) => (fun (gz3 : Int32) (gn3 : Int32) (fr3 : Nat → Int32) => none) (u.1) (u.2.1) (u.2.2)) (fun u : Int32 × Int32 × (Nat → Int32) => (fun (gz3 : Int32) (gn3 : Int32) (fr3 : Nat → Int32) => (0 ≤ gz3.toInt ∧ gz3.toInt ≤ 60) ∧ (0 ≤ gn3.toInt ∧ gn3.toInt ≤ 59)) (u.1) (u.2.1) (u.2.2)) (fun u : Int32 × Int32 × (Nat → Int32) => (fun (gz3 : Int32) (gn3 : Int32) (fr3 : Nat → Int32) => [bLog g go gr gz3 gn3 fr3]) (u.1) (u.2.1) (u.2.2)) := by
  refine zM'.of (cc := cX3_add) (maxL := 6) (rt := none) (by decide) rfl (Nat.le_of_ble_eq_true rfl) ?_
  intro p e s m args below meth c A ls St hr hlocks hin hK hT hA hP hD hS hl
  obtain ⟨hx, hb, hml, hown, hts⟩ := id St
  have hl : lv_has ls 6 [(0, .ref go), (1, .int x1), (2, .int y1), (3, .int z1), (4, .int w1)] := hl
  refine lv_aload_n hx hb dX3_add_0 rfl (lv_at hl 0 rfl) ?_
  refine va_get (D := g.1) (ci := 3) (v := .int gn) (C := RX3) (T := TX3) (N := 3) hx hb hts izRX3 hown hK hP 0 rfl rfl 2 (by decide) (hts _ k116) (fun _ h9 => h9) rfl dX3_add_1 ?_
  refine lv_iconst (v := 4) hx hb dX3_add_4 (by decide) ?_
  refine lv_imul hx hb dX3_add_5 ?_
  refine zg3 (zmulKR (i := gn.toInt) (n := 4) (a' := 0) (b' := 236) rfl (by decide) b_gn.1 b_gn.2 (by decide) (by decide)) (fun x_1 hx_1 => ?_)
  refine lv_istore (lv' := [(5, .int x_1), (0, .ref go), (1, .int x1), (2, .int y1), (3, .int z1), (4, .int w1)]) hx hb dX3_add_6 hl (by decide) rfl (fun ls hl => ?_)
  refine lv_aload_n hx hb dX3_add_8 rfl (lv_at hl 1 rfl) ?_
  refine va_get (D := g.1) (ci := 3) (v := .ref gr) (C := RX3) (T := TX3) (N := 3) hx hb hts izRX3 hown hK hP 0 rfl rfl 0 (by decide) (hts _ k117) (fun _ h9 => h9) rfl dX3_add_9 ?_
  refine lv_iload hx hb dX3_add_12 (lv_at hl 0 rfl) ?_
  refine lv_iload_n hx hb dX3_add_14 rfl (lv_at hl 2 rfl) ?_
  refine va_iast hx hb hK hP hD hS 1 0 rfl rfl (zinK (a := 0) (b := 236) hx_1.2.1 hx_1.2.2 (by decide)) dX3_add_15 (fun H locs hP hD hS => ?_)
  obtain ⟨fr_2, hP, hD⟩ : ∃ fr_2 : Nat → Int32, va_P g.1 vwCl (List.flatten [bLog g go gr gz gn fr_2]) H ∧ va_D A (List.flatten [bLog g go gr gz gn fr_2]) := ⟨upd fr x_1.toNatClampNeg x1, hP, hD⟩
  refine lv_aload_n hx hb dX3_add_16 rfl (lv_at hl 1 rfl) ?_
  refine va_get (D := g.1) (ci := 3) (v := .ref gr) (C := RX3) (T := TX3) (N := 3) hx hb hts izRX3 hown hK hP 0 rfl rfl 0 (by decide) (hts _ k117) (fun _ h9 => h9) rfl dX3_add_17 ?_
  refine lv_iload hx hb dX3_add_20 (lv_at hl 0 rfl) ?_
  refine lv_iconst (v := 1) hx hb dX3_add_22 (by decide) ?_
  refine lv_iadd hx hb dX3_add_23 ?_
  refine zg3 (zaddK (i := x_1.toInt) (j := 1) (a' := 1) (b' := 237) rfl (by decide) hx_1.2.1 hx_1.2.2 (Int.le_refl _) (Int.le_refl _) (by decide)) (fun x_3 hx_3 => ?_)
  refine lv_iload_n hx hb dX3_add_24 rfl (lv_at hl 3 rfl) ?_
  refine va_iast hx hb hK hP hD hS 1 0 rfl rfl (zinK (a := 1) (b := 237) hx_3.2.1 hx_3.2.2 (by decide)) dX3_add_25 (fun H locs hP hD hS => ?_)
  obtain ⟨fr_4, hP, hD⟩ : ∃ fr_4 : Nat → Int32, va_P g.1 vwCl (List.flatten [bLog g go gr gz gn fr_4]) H ∧ va_D A (List.flatten [bLog g go gr gz gn fr_4]) := ⟨upd fr_2 x_3.toNatClampNeg y1, hP, hD⟩
  refine lv_aload_n hx hb dX3_add_26 rfl (lv_at hl 1 rfl) ?_
  refine va_get (D := g.1) (ci := 3) (v := .ref gr) (C := RX3) (T := TX3) (N := 3) hx hb hts izRX3 hown hK hP 0 rfl rfl 0 (by decide) (hts _ k117) (fun _ h9 => h9) rfl dX3_add_27 ?_
  refine lv_iload hx hb dX3_add_30 (lv_at hl 0 rfl) ?_
  refine lv_iconst (v := 2) hx hb dX3_add_32 (by decide) ?_
  refine lv_iadd hx hb dX3_add_33 ?_
  refine zg3 (zaddK (i := x_1.toInt) (j := 2) (a' := 2) (b' := 238) rfl (by decide) hx_1.2.1 hx_1.2.2 (Int.le_refl _) (Int.le_refl _) (by decide)) (fun x_5 hx_5 => ?_)
  refine lv_iload_n hx hb dX3_add_34 rfl (lv_at hl 4 rfl) ?_
  refine va_iast hx hb hK hP hD hS 1 0 rfl rfl (zinK (a := 2) (b := 238) hx_5.2.1 hx_5.2.2 (by decide)) dX3_add_35 (fun H locs hP hD hS => ?_)
  obtain ⟨fr_6, hP, hD⟩ : ∃ fr_6 : Nat → Int32, va_P g.1 vwCl (List.flatten [bLog g go gr gz gn fr_6]) H ∧ va_D A (List.flatten [bLog g go gr gz gn fr_6]) := ⟨upd fr_4 x_5.toNatClampNeg z1, hP, hD⟩
  refine lv_aload_n hx hb dX3_add_36 rfl (lv_at hl 1 rfl) ?_
  refine va_get (D := g.1) (ci := 3) (v := .ref gr) (C := RX3) (T := TX3) (N := 3) hx hb hts izRX3 hown hK hP 0 rfl rfl 0 (by decide) (hts _ k117) (fun _ h9 => h9) rfl dX3_add_37 ?_
  refine lv_iload hx hb dX3_add_40 (lv_at hl 0 rfl) ?_
  refine lv_iconst (v := 3) hx hb dX3_add_42 (by decide) ?_
  refine lv_iadd hx hb dX3_add_43 ?_
  refine zg3 (zaddK (i := x_1.toInt) (j := 3) (a' := 3) (b' := 239) rfl (by decide) hx_1.2.1 hx_1.2.2 (Int.le_refl _) (Int.le_refl _) (by decide)) (fun x_7 hx_7 => ?_)
  refine lv_iload hx hb dX3_add_44 (lv_at hl 5 rfl) ?_
  refine va_iast hx hb hK hP hD hS 1 0 rfl rfl (zinK (a := 3) (b := 239) hx_7.2.1 hx_7.2.2 (by decide)) dX3_add_46 (fun H locs hP hD hS => ?_)
  obtain ⟨fr_8, hP, hD⟩ : ∃ fr_8 : Nat → Int32, va_P g.1 vwCl (List.flatten [bLog g go gr gz gn fr_8]) H ∧ va_D A (List.flatten [bLog g go gr gz gn fr_8]) := ⟨upd fr_6 x_7.toNatClampNeg w1, hP, hD⟩
  refine lv_aload_n hx hb dX3_add_47 rfl (lv_at hl 1 rfl) ?_
  refine lv_aload_n hx hb dX3_add_48 rfl (lv_at hl 1 rfl) ?_
  refine va_get (D := g.1) (ci := 3) (v := .int gn) (C := RX3) (T := TX3) (N := 3) hx hb hts izRX3 hown hK hP 0 rfl rfl 2 (by decide) (hts _ k116) (fun _ h9 => h9) rfl dX3_add_49 ?_
  refine lv_iconst (v := 1) hx hb dX3_add_52 (by decide) ?_
  refine lv_iadd hx hb dX3_add_53 ?_
  refine zg3 (zaddK (i := gn.toInt) (j := 1) (a' := 1) (b' := 60) rfl (by decide) b_gn.1 b_gn.2 (Int.le_refl _) (Int.le_refl _) (by decide)) (fun x_9 hx_9 => ?_)
  refine lv_bipush (v := 60) hx hb dX3_add_54 (by decide) ?_
  refine lv_irem hx hb dX3_add_56 (by decide) ?_
  refine zgb (zrem (j := x_9.toInt) (d := 60) rfl (by decide) (Int.le_trans (by decide) hx_9.2.1) (by decide)) (fun x_10 hx_10 => ?_)
  refine va_put (D := g.1) (ci := 3) (v := .int x_10) (ty := .int) (C := RX3) (T := TX3) (N := 3) hx hb hts izRX3 tyX3 tyX3_ok nmX3 hown hK hP hD hS 0 rfl rfl 2 (by decide) (hts _ k116) (fun _ h9 => h9) rfl (by decide +kernel) rfl rfl (Nat.le_of_ble_eq_true rfl) dX3_add_57 (fun H locs hP hD hS => ?_)
  have hP : va_P g.1 vwCl (List.flatten [bLog g go gr gz x_10 fr_8]) H := hP
  have hD : va_D A (List.flatten [bLog g go gr gz x_10 fr_8]) := hD
  refine lv_aload_n hx hb dX3_add_60 rfl (lv_at hl 1 rfl) ?_
  refine lv_bipush (v := 60) hx hb dX3_add_61 (by decide) ?_
  refine lv_aload_n hx hb dX3_add_63 rfl (lv_at hl 1 rfl) ?_
  refine va_get (D := g.1) (ci := 3) (v := .int gz) (C := RX3) (T := TX3) (N := 3) hx hb hts izRX3 hown hK hP 0 rfl rfl 1 (by decide) (hts _ k118) (fun _ h9 => h9) rfl dX3_add_64 ?_
  refine lv_iconst (v := 1) hx hb dX3_add_67 (by decide) ?_
  refine lv_iadd hx hb dX3_add_68 ?_
  refine zg3 (zaddK (i := gz.toInt) (j := 1) (a' := 1) (b' := 61) rfl (by decide) b_gz.1 b_gz.2 (Int.le_refl _) (Int.le_refl _) (by decide)) (fun x_11 hx_11 => ?_)
  refine va_mmin hx hb (by rw [hml]; exact hl.1.symm) hown (hts _ k119) (hts _ k41) (hts _ k42) (hts _ k43) (Nat.le_of_ble_eq_true rfl) (Nat.le_of_ble_eq_true rfl) (Nat.le_of_ble_eq_true rfl) (Nat.le_of_ble_eq_true rfl) dX3_add_69 ?_
  refine zgmn (i := 60) (j := x_11.toInt) (by decide) rfl (fun x_12 hx_12 => ?_)
  refine va_put (D := g.1) (ci := 3) (v := .int x_12) (ty := .int) (C := RX3) (T := TX3) (N := 3) hx hb hts izRX3 tyX3 tyX3_ok nmX3 hown hK hP hD hS 0 rfl rfl 1 (by decide) (hts _ k118) (fun _ h9 => h9) rfl (by decide +kernel) rfl rfl (Nat.le_of_ble_eq_true rfl) dX3_add_72 (fun H locs hP hD hS => ?_)
  have hP : va_P g.1 vwCl (List.flatten [bLog g go gr x_12 x_10 fr_8]) H := hP
  have hD : va_D A (List.flatten [bLog g go gr x_12 x_10 fr_8]) := hD
  have hP : va_P g.1 vwCl (List.flatten [bLog g go gr x_12 x_10 fr_8]) H := hP
  have hD : va_D A (List.flatten [bLog g go gr x_12 x_10 fr_8]) := hD
  exact mret_v hx hb hr hlocks hS (Nat.le_of_ble_eq_true rfl) (Nat.le_of_ble_eq_true rfl) dX3_add_75 (x_12, x_10, fr_8) rfl (show (0 ≤ x_12.toInt ∧ x_12.toInt ≤ 60) ∧ (0 ≤ x_10.toInt ∧ x_10.toInt ≤ 59) from ⟨(by first | assumption | omega | decide | exact rfl | exact zb01 (by omega) | exact Or.inl (by decide) | exact Or.inr (by first | omega | decide)), (by first | assumption | omega | decide | exact rfl | exact zb01 (by omega) | exact Or.inl (by decide) | exact Or.inr (by first | omega | decide))⟩) hP hD
