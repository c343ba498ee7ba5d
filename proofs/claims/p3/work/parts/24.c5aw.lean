set_option maxRecDepth 100000 in
set_option maxHeartbeats 4000000 in
theorem c_r_tellerHas (l : Launch) (g : zG) (x1 : Int32) (y1 : Int32)  : zM' g l yX5_tellerHas (Cond.code yX5_tellerHas cX5_tellerHas 2 (some .int) :: zB) ({ frames := 1, cells := 0, slots := 0, locals := 21 } : Room) [.int x1, .int y1] [] (fun (q : Int32) => some (.int q)) (fun (q : Int32) => True) (fun (q : Int32) => []) := by
  refine zM'.of (cc := cX5_tellerHas) (maxL := 2) (rt := (some .int)) (by decide) rfl (Nat.le_of_ble_eq_true rfl) ?_
  intro p e s m args below meth c A ls St hr hlocks hin hK hT hA hP hD hS hl
  obtain ⟨hx, hb, hml, hown, hts⟩ := id St
  have hl : lv_has ls 2 [(0, .int x1), (1, .int y1)] := hl
  refine lv_iload_n hx hb dX5_tellerHas_0 rfl (lv_at hl 0 rfl) ?_
  refine lv_iload_n hx hb dX5_tellerHas_1 rfl (lv_at hl 1 rfl) ?_
  refine mcallS' (g := g) (As := [.int x1, .int y1]) (rest := []) St hK hT hA hP hD hS hl.1 [] [] rfl rfl rfl (c_r_risesBy l g x1 y1 ) (va_cwS 2 hts (zgL (zl3 k412 k413 k389) k410) rfl rfl rfl (by decide +kernel) ⟨Nat.le_of_ble_eq_true rfl, Nat.le_of_ble_eq_true rfl⟩) rfl rfl (Nat.le_of_ble_eq_true rfl) dX5_tellerHas_2 ⟨(Nat.le_of_ble_eq_true rfl), (Nat.le_of_ble_eq_true rfl)⟩ (fun q_1 H locs hq2 hP hD hS => ?_)
  have hP : va_P g.1 vwCl (List.flatten []) H := hP
  have hD : va_D A (List.flatten []) := hD
  refine W.widen (k := 0) (n := 0) (Nat.le_of_ble_eq_true rfl) (Nat.le_of_ble_eq_true rfl) ?_
  refine W.eq (g2 := F0 m 5 ls [.int q_1]) rfl ?_
  refine lv_iload_n hx hb dX5_tellerHas_5 rfl (lv_at hl 0 rfl) ?_
  refine lv_if_ne (tgt := 13) hx hb dX5_tellerHas_6 (by decide) (fun cb9 => ?_) (fun cb9 => ?_)
  · skip
    have c3 : ¬ x1.toInt = 0 := zne cb9 rfl (by decide)
    refine lv_iconst (v := 0) hx hb dX5_tellerHas_13 (by decide) ?_
    refine lv_isub hx hb dX5_tellerHas_14 ?_
    refine zg (fun x_4 => ?_)
    have hP : va_P g.1 vwCl (List.flatten []) H := hP
    have hD : va_D A (List.flatten []) := hD
    exact mret_i hx hb hr hlocks hS (Nat.le_of_ble_eq_true rfl) (Nat.le_of_ble_eq_true rfl) dX5_tellerHas_15 (x_4) rfl trivial hP hD
  · skip
    have c5 : x1.toInt = 0 := zeq cb9 rfl (by decide)
    have n6 : 0 ≤ x1.toInt := Int.le_trans (Int.le_refl _) (Int.le_of_eq c5.symm)
    have n7 : x1.toInt ≤ 0 := Int.le_trans (Int.le_of_eq c5) (Int.le_refl _)
    refine lv_iconst (v := 4) hx hb dX5_tellerHas_9 (by decide) ?_
    refine lv_goto (tgt := 14) hx hb dX5_tellerHas_10 (by decide) ?_
    refine lv_isub hx hb dX5_tellerHas_14 ?_
    refine zg (fun x_8 => ?_)
    have hP : va_P g.1 vwCl (List.flatten []) H := hP
    have hD : va_D A (List.flatten []) := hD
    exact mret_i hx hb hr hlocks hS (Nat.le_of_ble_eq_true rfl) (Nat.le_of_ble_eq_true rfl) dX5_tellerHas_15 (x_8) rfl trivial hP hD
