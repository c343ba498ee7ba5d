set_option maxRecDepth 100000 in
set_option maxHeartbeats 4000000 in
theorem c_r_dryManHas (l : Launch) (g : zG) (x1 : Int32) (y1 : Int32) (z1 : Int32)  : zM' g l yX5_dryManHas (Cond.code yX5_dryManHas cX5_dryManHas 3 (some .int) :: zB) ({ frames := 1, cells := 0, slots := 0, locals := 21 } : Room) [.int x1, .int y1, .int z1] [] (fun (q : Int32) => some (.int q)) (fun (q : Int32) => True) (fun (q : Int32) => []) := by
  refine zM'.of (cc := cX5_dryManHas) (maxL := 3) (rt := (some .int)) (by decide) rfl (Nat.le_of_ble_eq_true rfl) ?_
  intro p e s m args below meth c A ls St hr hlocks hin hK hT hA hP hD hS hl
  obtain ⟨hx, hb, hml, hown, hts⟩ := id St
  have hl : lv_has ls 3 [(0, .int x1), (1, .int y1), (2, .int z1)] := hl
  refine lv_iload_n hx hb dX5_dryManHas_0 rfl (lv_at hl 0 rfl) ?_
  refine lv_iload_n hx hb dX5_dryManHas_1 rfl (lv_at hl 1 rfl) ?_
  refine mcallS' (g := g) (As := [.int x1, .int y1]) (rest := []) St hK hT hA hP hD hS hl.1 [] [] rfl rfl rfl (c_r_risesBy l g x1 y1 ) (va_cwS 2 hts (zgL (zl3 k412 k413 k389) k410) rfl rfl rfl (by decide +kernel) ⟨Nat.le_of_ble_eq_true rfl, Nat.le_of_ble_eq_true rfl⟩) rfl rfl (Nat.le_of_ble_eq_true rfl) dX5_dryManHas_2 ⟨(Nat.le_of_ble_eq_true rfl), (Nat.le_of_ble_eq_true rfl)⟩ (fun q_1 H locs hq2 hP hD hS => ?_)
  have hP : va_P g.1 vwCl (List.flatten []) H := hP
  have hD : va_D A (List.flatten []) := hD
  refine W.widen (k := 0) (n := 0) (Nat.le_of_ble_eq_true rfl) (Nat.le_of_ble_eq_true rfl) ?_
  refine W.eq (g2 := F0 m 5 ls [.int q_1]) rfl ?_
  refine lv_ineg hx hb dX5_dryManHas_5 ?_
  refine zg (fun x_3 => ?_)
  refine lv_iload_n hx hb dX5_dryManHas_6 rfl (lv_at hl 1 rfl) ?_
  refine lv_if_ne (tgt := 14) hx hb dX5_dryManHas_7 (by decide) (fun cb9 => ?_) (fun cb9 => ?_)
  · skip
    have c4 : ¬ y1.toInt = 0 := zne cb9 rfl (by decide)
    refine lv_iconst (v := 0) hx hb dX5_dryManHas_14 (by decide) ?_
    refine lv_isub hx hb dX5_dryManHas_15 ?_
    refine zg (fun x_5 => ?_)
    have hP : va_P g.1 vwCl (List.flatten []) H := hP
    have hD : va_D A (List.flatten []) := hD
    exact mret_i hx hb hr hlocks hS (Nat.le_of_ble_eq_true rfl) (Nat.le_of_ble_eq_true rfl) dX5_dryManHas_16 (x_5) rfl trivial hP hD
  · skip
    have c6 : y1.toInt = 0 := zeq cb9 rfl (by decide)
    have n7 : 0 ≤ y1.toInt := Int.le_trans (Int.le_refl _) (Int.le_of_eq c6.symm)
    have n8 : y1.toInt ≤ 0 := Int.le_trans (Int.le_of_eq c6) (Int.le_refl _)
    refine lv_iload_n hx hb dX5_dryManHas_10 rfl (lv_at hl 2 rfl) ?_
    refine lv_goto (tgt := 15) hx hb dX5_dryManHas_11 (by decide) ?_
    refine lv_isub hx hb dX5_dryManHas_15 ?_
    refine zg (fun x_9 => ?_)
    have hP : va_P g.1 vwCl (List.flatten []) H := hP
    have hD : va_D A (List.flatten []) := hD
    exact mret_i hx hb hr hlocks hS (Nat.le_of_ble_eq_true rfl) (Nat.le_of_ble_eq_true rfl) dX5_dryManHas_16 (x_9) rfl trivial hP hD
