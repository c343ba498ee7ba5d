set_option maxRecDepth 100000 in
set_option maxHeartbeats 4000000 in
theorem c_r_risesBy (l : Launch) (g : zG) (x1 : Int32) (y1 : Int32)  : zM' g l yX5_risesBy (Cond.code yX5_risesBy cX5_risesBy 2 (some .int) :: zB) ({ frames := 0, cells := 0, slots := 0, locals := 0 } : Room) [.int x1, .int y1] [] (fun (q : Int32) => some (.int q)) (fun (q : Int32) => True) (fun (q : Int32) => []) := by
  refine zM'.of (cc := cX5_risesBy) (maxL := 2) (rt := (some .int)) (by decide) rfl (Nat.le_of_ble_eq_true rfl) ?_
  intro p e s m args below meth c A ls St hr hlocks hin hK hT hA hP hD hS hl
  obtain ⟨hx, hb, hml, hown, hts⟩ := id St
  have hl : lv_has ls 2 [(0, .int x1), (1, .int y1)] := hl
  refine lv_iload_n hx hb dX5_risesBy_0 rfl (lv_at hl 0 rfl) ?_
  refine lv_if_ne (tgt := 15) hx hb dX5_risesBy_1 (by decide) (fun cb9 => ?_) (fun cb9 => ?_)
  · skip
    have c1 : ¬ x1.toInt = 0 := zne cb9 rfl (by decide)
    refine lv_iload_n hx hb dX5_risesBy_15 rfl (lv_at hl 1 rfl) ?_
    refine lv_if_ne (tgt := 24) hx hb dX5_risesBy_16 (by decide) (fun cb9 => ?_) (fun cb9 => ?_)
    · skip
      have c2 : ¬ y1.toInt = 0 := zne cb9 rfl (by decide)
      refine lv_iconst (v := 0) hx hb dX5_risesBy_24 (by decide) ?_
      have hP : va_P g.1 vwCl (List.flatten []) s.heap := hP
      have hD : va_D A (List.flatten []) := hD
      exact mret_i hx hb hr hlocks hS (Nat.le_of_ble_eq_true rfl) (Nat.le_of_ble_eq_true rfl) dX5_risesBy_25 ((0 : Int32)) rfl trivial hP hD
    · skip
      have c3 : y1.toInt = 0 := zeq cb9 rfl (by decide)
      have n4 : 0 ≤ y1.toInt := Int.le_trans (Int.le_refl _) (Int.le_of_eq c3.symm)
      have n5 : y1.toInt ≤ 0 := Int.le_trans (Int.le_of_eq c3) (Int.le_refl _)
      refine lv_bipush (v := (-10)) hx hb dX5_risesBy_19 (by decide) ?_
      refine lv_goto (tgt := 25) hx hb dX5_risesBy_21 (by decide) ?_
      have hP : va_P g.1 vwCl (List.flatten []) s.heap := hP
      have hD : va_D A (List.flatten []) := hD
      exact mret_i hx hb hr hlocks hS (Nat.le_of_ble_eq_true rfl) (Nat.le_of_ble_eq_true rfl) dX5_risesBy_25 (-10) rfl trivial hP hD
  · skip
    have c6 : x1.toInt = 0 := zeq cb9 rfl (by decide)
    have n7 : 0 ≤ x1.toInt := Int.le_trans (Int.le_refl _) (Int.le_of_eq c6.symm)
    have n8 : x1.toInt ≤ 0 := Int.le_trans (Int.le_of_eq c6) (Int.le_refl _)
    refine lv_iload_n hx hb dX5_risesBy_4 rfl (lv_at hl 1 rfl) ?_
    refine lv_if_ne (tgt := 12) hx hb dX5_risesBy_5 (by decide) (fun cb9 => ?_) (fun cb9 => ?_)
    · skip
      have c9 : ¬ y1.toInt = 0 := zne cb9 rfl (by decide)
      refine lv_bipush (v := 20) hx hb dX5_risesBy_12 (by decide) ?_
      have hP : va_P g.1 vwCl (List.flatten []) s.heap := hP
      have hD : va_D A (List.flatten []) := hD
      exact mret_i hx hb hr hlocks hS (Nat.le_of_ble_eq_true rfl) (Nat.le_of_ble_eq_true rfl) dX5_risesBy_14 ((20 : Int32)) rfl trivial hP hD
    · skip
      have c10 : y1.toInt = 0 := zeq cb9 rfl (by decide)
      have n11 : 0 ≤ y1.toInt := Int.le_trans (Int.le_refl _) (Int.le_of_eq c10.symm)
      have n12 : y1.toInt ≤ 0 := Int.le_trans (Int.le_of_eq c10) (Int.le_refl _)
      refine lv_iconst (v := 5) hx hb dX5_risesBy_8 (by decide) ?_
      refine lv_goto (tgt := 14) hx hb dX5_risesBy_9 (by decide) ?_
      have hP : va_P g.1 vwCl (List.flatten []) s.heap := hP
      have hD : va_D A (List.flatten []) := hD
      exact mret_i hx hb hr hlocks hS (Nat.le_of_ble_eq_true rfl) (Nat.le_of_ble_eq_true rfl) dX5_risesBy_14 ((5 : Int32)) rfl trivial hP hD
