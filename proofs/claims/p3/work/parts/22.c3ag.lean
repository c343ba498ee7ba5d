set_option maxRecDepth 100000 in
set_option maxHeartbeats 4000000 in
theorem c_write (l : Launch) (g : zG) (o : Nat) (a : Nat → Nat) (pe : Int32) (wo : Int32) (tx : Int32) (ch : Int32) (jo : Int32) (tr : Int32) (dy : Int32) (sd : Int32) (f : Nat → Nat → Int32) (go : Nat) (gr : Nat) (gz : Int32) (gn : Int32) (fr : Nat → Int32) (wh : Int32) (kn : Int32) (b_pe : 0 ≤ pe.toInt ∧ pe.toInt ≤ 8) (b_wo : 0 ≤ wo.toInt ∧ wo.toInt ≤ 6) (rf : zZ4 f) (b_gz : 0 ≤ gz.toInt ∧ gz.toInt ≤ 60) (b_gn : 0 ≤ gn.toInt ∧ gn.toInt ≤ 59) : zM' g l yX9_write (Cond.code yX9_write cX9_write 4 none :: zB) ({ frames := 2, cells := 0, slots := 0, locals := 43 } : Room) [.ref o, .ref go, .int wh, .int kn] [bTown g o a pe wo tx ch jo tr dy sd f, bLog g go gr gz gn fr] (fun u : Int32 × Int32 × (Nat → Int32) => (fun (gz2 : Int32) (gn2 : Int32) (fr2 : Nat → Int32) => none) (u.1) (u.2.1) (u.2.2)) (fun u : Int32 × Int32 × (Nat → Int32) => (fun (gz2 : Int32) (gn2 : Int32) (fr2 : Nat → Int32) => (0 ≤ gz2.toInt ∧ gz2.toInt ≤ 60) ∧ (0 ≤ gn2.toInt ∧ gn2.toInt ≤ 59)) (u.1) (u.2.1) (u.2.2)) (fun u : Int32 × Int32 × (Nat → Int32) => (fun (gz2 : Int32) (gn2 : Int32) (fr2 : Nat → Int32) => [bTown g o a pe wo tx ch jo tr dy sd f, bLog g go gr gz2 gn2 fr2]) (u.1) (u.2.1) (u.2.2)) := by
  refine zM'.of (cc := cX9_write) (maxL := 4) (rt := none) (by decide) rfl (Nat.le_of_ble_eq_true rfl) ?_
  intro p e s m args below meth c A ls St hr hlocks hin hK hT hA hP hD hS hl
  obtain ⟨hx, hb, hml, hown, hts⟩ := id St
  have hl : lv_has ls 4 [(0, .ref o), (1, .ref go), (2, .int wh), (3, .int kn)] := hl
  refine lv_aload_n hx hb dX9_write_0 rfl (lv_at hl 1 rfl) ?_
  refine lv_ifnull hx hb dX9_write_1 ?_
  refine lv_aload_n hx hb dX9_write_4 rfl (lv_at hl 1 rfl) ?_
  refine lv_aload_n hx hb dX9_write_5 rfl (lv_at hl 0 rfl) ?_
  refine va_get (D := g.1) (ci := 7) (v := .int dy) (C := RX9) (T := TX9) (N := 19) hx hb hts izRX9 hown hK hP 0 rfl rfl 6 (by decide) (hts _ k34) (fun _ h9 => h9) rfl dX9_write_6 ?_
  refine lv_iload_n hx hb dX9_write_9 rfl (lv_at hl 2 rfl) ?_
  refine lv_iload_n hx hb dX9_write_10 rfl (lv_at hl 3 rfl) ?_
  refine lv_aload_n hx hb dX9_write_11 rfl (lv_at hl 0 rfl) ?_
  refine mcallV' (g := g) (q0 := 0) (ci := 7) (As := []) (rest := [.int kn, .int wh, .int dy, .ref go]) St hK hT hA hP hD hS hl.1 [0] [1] rfl rfl rfl (c_believed l g o a pe wo tx ch jo tr dy sd f b_pe b_wo rf) (cwV 0 hts (zgL (zl4 k68 k69 k70 k24) k60) rfl rfl rfl (by decide +kernel) ⟨Nat.le_of_ble_eq_true rfl, Nat.le_of_ble_eq_true rfl⟩) rfl rfl rfl rfl (Nat.le_of_ble_eq_true rfl) dX9_write_12 ⟨(Nat.le_of_ble_eq_true rfl), (Nat.le_of_ble_eq_true rfl)⟩ (fun q_1 H locs hq2 hP hD hS => ?_)
  have hP : va_P g.1 vwCl (List.flatten [bLog g go gr gz gn fr, bTown g o a pe wo tx ch jo tr dy sd f]) H := hP
  have hD : va_D A (List.flatten [bLog g go gr gz gn fr, bTown g o a pe wo tx ch jo tr dy sd f]) := hD
  refine W.widen (k := 0) (n := 0) (Nat.le_of_ble_eq_true rfl) (Nat.le_of_ble_eq_true rfl) ?_
  refine W.eq (g2 := F0 m 15 ls [.int q_1, .int kn, .int wh, .int dy, .ref go]) rfl ?_
  refine mcallV' (g := g) (q0 := 0) (ci := 3) (As := [.int dy, .int wh, .int kn, .int q_1]) (rest := []) St hK hT hA hP hD hS hl.1 [0] [1] rfl rfl rfl (c_g_add l g go gr gz gn fr dy wh kn q_1 b_gz b_gn) (cwV 4 hts (zgL (zl4 k120 k121 k122 k123) k115) rfl rfl rfl (by decide +kernel) ⟨Nat.le_of_ble_eq_true rfl, Nat.le_of_ble_eq_true rfl⟩) rfl rfl rfl rfl (Nat.le_of_ble_eq_true rfl) dX9_write_15 ⟨(Nat.le_of_ble_eq_true rfl), (Nat.le_of_ble_eq_true rfl)⟩ (fun u_ H locs hq6 hP hD hS => ?_)
  obtain ⟨gz3_3, gn3_4, fr3_5⟩ := u_
  replace hq6 : (0 ≤ gz3_3.toInt ∧ gz3_3.toInt ≤ 60) ∧ (0 ≤ gn3_4.toInt ∧ gn3_4.toInt ≤ 59) := hq6
  have hP : va_P g.1 vwCl (List.flatten [bTown g o a pe wo tx ch jo tr dy sd f, bLog g go gr gz3_3 gn3_4 fr3_5]) H := hP
  have hD : va_D A (List.flatten [bTown g o a pe wo tx ch jo tr dy sd f, bLog g go gr gz3_3 gn3_4 fr3_5]) := hD
  refine W.widen (k := 0) (n := 0) (Nat.le_of_ble_eq_true rfl) (Nat.le_of_ble_eq_true rfl) ?_
  refine W.eq (g2 := F0 m 18 ls []) rfl ?_
  obtain ⟨hq6_0, hq6_1⟩ := hq6
  have hP : va_P g.1 vwCl (List.flatten [bTown g o a pe wo tx ch jo tr dy sd f, bLog g go gr gz3_3 gn3_4 fr3_5]) H := hP
  have hD : va_D A (List.flatten [bTown g o a pe wo tx ch jo tr dy sd f, bLog g go gr gz3_3 gn3_4 fr3_5]) := hD
  exact mret_v hx hb hr hlocks hS (Nat.le_of_ble_eq_true rfl) (Nat.le_of_ble_eq_true rfl) dX9_write_18 (gz3_3, gn3_4, fr3_5) rfl (show (0 ≤ gz3_3.toInt ∧ gz3_3.toInt ≤ 60) ∧ (0 ≤ gn3_4.toInt ∧ gn3_4.toInt ≤ 59) from ⟨hq6_0, hq6_1⟩) hP hD
