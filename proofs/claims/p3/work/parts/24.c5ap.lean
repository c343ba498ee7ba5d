set_option maxRecDepth 100000 in
set_option maxHeartbeats 4000000 in
theorem c_r_answers (l : Launch) (g : zG) (ro : Nat) (rw : Nat) (ri : Int32) (rt : Int32) (rb : Nat → Int32) (st0 : Int32) (x1 : Int32) (x2 : Int32)  : zM' g l yX5_answers (Cond.code yX5_answers cX5_answers 4 (some .boolean) :: zB) ({ frames := 0, cells := 0, slots := 0, locals := 0 } : Room) [.ref ro, .int st0, .int x1, .int x2] [bRi g ro rw ri rt rb] (fun (q : Int32) => some (.int q)) (fun (q : Int32) => (q = 0 ∨ q = 1)) (fun (q : Int32) => [bRi g ro rw ri rt rb]) := by
  refine zM'.of (cc := cX5_answers) (maxL := 4) (rt := (some .boolean)) (by decide) rfl (Nat.le_of_ble_eq_true rfl) ?_
  intro p e s m args below meth c A ls St hr hlocks hin hK hT hA hP hD hS hl
  obtain ⟨hx, hb, hml, hown, hts⟩ := id St
  have hl : lv_has ls 4 [(0, .ref ro), (1, .int st0), (2, .int x1), (3, .int x2)] := hl
  refine lv_iload_n hx hb dX5_answers_0 rfl (lv_at hl 1 rfl) ?_
  refine lv_iload_n hx hb dX5_answers_1 rfl (lv_at hl 2 rfl) ?_
  refine lv_ishr hx hb dX5_answers_2 ?_
  refine zg (fun x_1 => ?_)
  refine lv_iconst (v := 1) hx hb dX5_answers_3 (by decide) ?_
  refine lv_iand hx hb dX5_answers_4 ?_
  refine zgb (zand1 _) (fun x_2 hx_2 => ?_)
  refine lv_iload_n hx hb dX5_answers_5 rfl (lv_at hl 1 rfl) ?_
  refine lv_iload_n hx hb dX5_answers_6 rfl (lv_at hl 3 rfl) ?_
  refine lv_ishr hx hb dX5_answers_7 ?_
  refine zg (fun x_3 => ?_)
  refine lv_iconst (v := 1) hx hb dX5_answers_8 (by decide) ?_
  refine lv_iand hx hb dX5_answers_9 ?_
  refine zgb (zand1 _) (fun x_4 hx_4 => ?_)
  refine lv_icmp_ne (tgt := 17) hx hb dX5_answers_10 (by decide) (fun cb9 => ?_) (fun cb9 => ?_)
  · skip
    have c5 : ¬ x_2.toInt = x_4.toInt := zne cb9 rfl rfl
    refine lv_iconst (v := 0) hx hb dX5_answers_17 (by decide) ?_
    have hP : va_P g.1 vwCl (List.flatten [bRi g ro rw ri rt rb]) s.heap := hP
    have hD : va_D A (List.flatten [bRi g ro rw ri rt rb]) := hD
    exact mret_z hx hb hr hlocks hS (Nat.le_of_ble_eq_true rfl) (Nat.le_of_ble_eq_true rfl) dX5_answers_18 ((0 : Int32)) rfl (by decide) (show (0 = 0 ∨ 0 = 1) from (by decide)) hP hD
  · skip
    have c6 : x_2.toInt = x_4.toInt := zeq cb9 rfl rfl
    refine lv_iconst (v := 1) hx hb dX5_answers_13 (by decide) ?_
    refine lv_goto (tgt := 18) hx hb dX5_answers_14 (by decide) ?_
    have hP : va_P g.1 vwCl (List.flatten [bRi g ro rw ri rt rb]) s.heap := hP
    have hD : va_D A (List.flatten [bRi g ro rw ri rt rb]) := hD
    exact mret_z hx hb hr hlocks hS (Nat.le_of_ble_eq_true rfl) (Nat.le_of_ble_eq_true rfl) dX5_answers_18 ((1 : Int32)) rfl (by decide) (show (1 = 0 ∨ 1 = 1) from (by decide)) hP hD
