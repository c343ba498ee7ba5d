set_option maxRecDepth 100000 in
set_option maxHeartbeats 4000000 in
theorem m_lesser (l : Launch) (g : zG) (x1 : Int32) (x2 : Int32)  : zM' g l yX12_lesser (Cond.code yX12_lesser cX12_lesser 2 (some .int) :: zB) ({ frames := 0, cells := 0, slots := 0, locals := 0 } : Room) [.int x1, .int x2] [] (fun (q : Int32) => some (.int q)) (fun (q : Int32) => (q.toInt ≤ x1.toInt ∧ q.toInt ≤ x2.toInt ∧ (q.toInt = x1.toInt ∨ q.toInt = x2.toInt))) (fun (q : Int32) => []) := by
  refine zM'.of (cc := cX12_lesser) (maxL := 2) (rt := (some .int)) (by decide) rfl (Nat.le_of_ble_eq_true rfl) ?_
  intro p e s m args below meth c A ls St hr hlocks hin hK hT hA hP hD hS hl
  obtain ⟨hx, hb, hml, hown, hts⟩ := id St
  have hl : lv_has ls 2 [(0, .int x1), (1, .int x2)] := hl
  refine lv_iload_n hx hb dX12_lesser_0 rfl (lv_at hl 0 rfl) ?_
  refine lv_iload_n hx hb dX12_lesser_1 rfl (lv_at hl 1 rfl) ?_
  refine lv_icmp_ge (tgt := 9) hx hb dX12_lesser_2 (by decide) (fun cb9 => ?_) (fun cb9 => ?_)
  · skip
    have c1 : x2.toInt ≤ x1.toInt := zle cb9 rfl rfl
    refine lv_iload_n hx hb dX12_lesser_9 rfl (lv_at hl 1 rfl) ?_
    have hP : va_P g.1 vwCl (List.flatten []) s.heap := hP
    have hD : va_D A (List.flatten []) := hD
    exact mret_i hx hb hr hlocks hS (Nat.le_of_ble_eq_true rfl) (Nat.le_of_ble_eq_true rfl) dX12_lesser_10 (x2) rfl (show (x2.toInt ≤ x1.toInt ∧ x2.toInt ≤ x2.toInt ∧ (x2.toInt = x1.toInt ∨ x2.toInt = x2.toInt)) from (by first | assumption | omega | decide | exact rfl | exact zb01 (by omega) | exact Or.inl (by decide) | exact Or.inr (by first | omega | decide))) hP hD
  · skip
    have c2 : x1.toInt < x2.toInt := zlti (Int32.not_le.mp cb9) rfl rfl
    refine lv_iload_n hx hb dX12_lesser_5 rfl (lv_at hl 0 rfl) ?_
    refine lv_goto (tgt := 10) hx hb dX12_lesser_6 (by decide) ?_
    have hP : va_P g.1 vwCl (List.flatten []) s.heap := hP
    have hD : va_D A (List.flatten []) := hD
    exact mret_i hx hb hr hlocks hS (Nat.le_of_ble_eq_true rfl) (Nat.le_of_ble_eq_true rfl) dX12_lesser_10 (x1) rfl (show (x1.toInt ≤ x1.toInt ∧ x1.toInt ≤ x2.toInt ∧ (x1.toInt = x1.toInt ∨ x1.toInt = x2.toInt)) from (by first | assumption | omega | decide | exact rfl | exact zb01 (by omega) | exact Or.inl (by decide) | exact Or.inr (by first | omega | decide))) hP hD
set_option maxRecDepth 100000 in
set_option maxHeartbeats 4000000 in
theorem m_greater (l : Launch) (g : zG) (x1 : Int32) (x2 : Int32)  : zM' g l yX12_greater (Cond.code yX12_greater cX12_greater 2 (some .int) :: zB) ({ frames := 0, cells := 0, slots := 0, locals := 0 } : Room) [.int x1, .int x2] [] (fun (q : Int32) => some (.int q)) (fun (q : Int32) => (x1.toInt ≤ q.toInt ∧ x2.toInt ≤ q.toInt ∧ (q.toInt = x1.toInt ∨ q.toInt = x2.toInt))) (fun (q : Int32) => []) := by
  refine zM'.of (cc := cX12_greater) (maxL := 2) (rt := (some .int)) (by decide) rfl (Nat.le_of_ble_eq_true rfl) ?_
  intro p e s m args below meth c A ls St hr hlocks hin hK hT hA hP hD hS hl
  obtain ⟨hx, hb, hml, hown, hts⟩ := id St
  have hl : lv_has ls 2 [(0, .int x1), (1, .int x2)] := hl
  refine lv_iload_n hx hb dX12_greater_0 rfl (lv_at hl 0 rfl) ?_
  refine lv_iload_n hx hb dX12_greater_1 rfl (lv_at hl 1 rfl) ?_
  refine lv_icmp_le (tgt := 9) hx hb dX12_greater_2 (by decide) (fun cb9 => ?_) (fun cb9 => ?_)
  · skip
    have c1 : x1.toInt ≤ x2.toInt := zle cb9 rfl rfl
    refine lv_iload_n hx hb dX12_greater_9 rfl (lv_at hl 1 rfl) ?_
    have hP : va_P g.1 vwCl (List.flatten []) s.heap := hP
    have hD : va_D A (List.flatten []) := hD
    exact mret_i hx hb hr hlocks hS (Nat.le_of_ble_eq_true rfl) (Nat.le_of_ble_eq_true rfl) dX12_greater_10 (x2) rfl (show (x1.toInt ≤ x2.toInt ∧ x2.toInt ≤ x2.toInt ∧ (x2.toInt = x1.toInt ∨ x2.toInt = x2.toInt)) from (by first | assumption | omega | decide | exact rfl | exact zb01 (by omega) | exact Or.inl (by decide) | exact Or.inr (by first | omega | decide))) hP hD
  · skip
    have c2 : x2.toInt < x1.toInt := zlti (Int32.not_le.mp cb9) rfl rfl
    refine lv_iload_n hx hb dX12_greater_5 rfl (lv_at hl 0 rfl) ?_
    refine lv_goto (tgt := 10) hx hb dX12_greater_6 (by decide) ?_
    have hP : va_P g.1 vwCl (List.flatten []) s.heap := hP
    have hD : va_D A (List.flatten []) := hD
    exact mret_i hx hb hr hlocks hS (Nat.le_of_ble_eq_true rfl) (Nat.le_of_ble_eq_true rfl) dX12_greater_10 (x1) rfl (show (x1.toInt ≤ x1.toInt ∧ x2.toInt ≤ x1.toInt ∧ (x1.toInt = x1.toInt ∨ x1.toInt = x2.toInt)) from (by first | assumption | omega | decide | exact rfl | exact zb01 (by omega) | exact Or.inl (by decide) | exact Or.inr (by first | omega | decide))) hP hD
