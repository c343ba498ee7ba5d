def bMo (g : zG) (o : Nat) (a : Nat → Nat) (th : Int32) (hi : Int32) (ac : Int32) (tp : Int32) (ba : Int32) (en : Int32) (tA : Int32) (fl : Int32) (de : Int32) (iD : Int32) (iO : Int32) (tU : Int32) (fm : Nat → Int32) (fk : Nat → Int32) (fa : Nat → Int32) (fc : Nat → Int32) (ft : Nat → Int32) (ff : Nat → Int32) (fb : Nat → Int32) (fi : Nat → Int32) : va_W := [(o, .inr (10, [.int th, .ref (a 0), .ref (a 1), .int hi, .ref (a 2), .ref (a 3), .int ac, .ref (a 4), .int tp, .int ba, .int en, .int tA, .int fl, .int de, .ref (a 5), .int iD, .int iO, .int tU, .ref (a 6), .ref (a 7)])), (a 0, .inl (g.2 0, 779, .inl fm)), (a 1, .inl (g.2 0, 779, .inl fk)), (a 2, .inl (g.2 0, 379, .inl fa)), (a 3, .inl (g.2 0, 4548, .inl fc)), (a 4, .inl (g.2 0, 400, .inl ft)), (a 5, .inl (g.2 0, 6, .inl ff)), (a 6, .inl (g.2 0, 8, .inl fb)), (a 7, .inl (g.2 1, 256, .inl fi))]
set_option maxRecDepth 100000 in
set_option maxHeartbeats 4000000 in
theorem m_isIn (l : Launch) (g : zG) (v : Int32) (lw : Int32) (hg : Int32)  : zM' g l yX12_isIn (Cond.code yX12_isIn cX12_isIn 3 (some .boolean) :: zB) ({ frames := 0, cells := 0, slots := 0, locals := 0 } : Room) [.int v, .int lw, .int hg] [] (fun (q : Int32) => some (.int q)) (fun (q : Int32) => (q = 1 ∧ lw.toInt ≤ v.toInt ∧ v.toInt ≤ hg.toInt ∨ q = 0 ∧ (v.toInt < lw.toInt ∨ hg.toInt < v.toInt))) (fun (q : Int32) => []) := by
  refine zM'.of (cc := cX12_isIn) (maxL := 3) (rt := (some .boolean)) (by decide) rfl (Nat.le_of_ble_eq_true rfl) ?_
  intro p e s m args below meth c A ls St hr hlocks hin hK hT hA hP hD hS hl
  obtain ⟨hx, hb, hml, hown, hts⟩ := id St
  have hl : lv_has ls 3 [(0, .int v), (1, .int lw), (2, .int hg)] := hl
  refine lv_iload_n hx hb dX12_isIn_0 rfl (lv_at hl 0 rfl) ?_
  refine lv_iload_n hx hb dX12_isIn_1 rfl (lv_at hl 1 rfl) ?_
  refine lv_icmp_lt (tgt := 14) hx hb dX12_isIn_2 (by decide) (fun cb9 => ?_) (fun cb9 => ?_)
  · skip
    have c1 : v.toInt < lw.toInt := zlti cb9 rfl rfl
    refine lv_iconst (v := 0) hx hb dX12_isIn_14 (by decide) ?_
    have hP : va_P g.1 vwCl (List.flatten []) s.heap := hP
    have hD : va_D A (List.flatten []) := hD
    exact mret_z hx hb hr hlocks hS (Nat.le_of_ble_eq_true rfl) (Nat.le_of_ble_eq_true rfl) dX12_isIn_15 ((0 : Int32)) rfl (by decide) (show (0 = 1 ∧ lw.toInt ≤ v.toInt ∧ v.toInt ≤ hg.toInt ∨ 0 = 0 ∧ (v.toInt < lw.toInt ∨ hg.toInt < v.toInt)) from (by first | exact Or.inl ⟨rfl, by omega⟩ | exact Or.inr ⟨rfl, by omega⟩)) hP hD
  · skip
    have c2 : lw.toInt ≤ v.toInt := zle (Int32.not_lt.mp cb9) rfl rfl
    refine lv_iload_n hx hb dX12_isIn_5 rfl (lv_at hl 0 rfl) ?_
    refine lv_iload_n hx hb dX12_isIn_6 rfl (lv_at hl 2 rfl) ?_
    refine lv_icmp_gt (tgt := 14) hx hb dX12_isIn_7 (by decide) (fun cb9 => ?_) (fun cb9 => ?_)
    · skip
      have c3 : hg.toInt < v.toInt := zlti cb9 rfl rfl
      refine lv_iconst (v := 0) hx hb dX12_isIn_14 (by decide) ?_
      have hP : va_P g.1 vwCl (List.flatten []) s.heap := hP
      have hD : va_D A (List.flatten []) := hD
      exact mret_z hx hb hr hlocks hS (Nat.le_of_ble_eq_true rfl) (Nat.le_of_ble_eq_true rfl) dX12_isIn_15 ((0 : Int32)) rfl (by decide) (show (0 = 1 ∧ lw.toInt ≤ v.toInt ∧ v.toInt ≤ hg.toInt ∨ 0 = 0 ∧ (v.toInt < lw.toInt ∨ hg.toInt < v.toInt)) from (by first | exact Or.inl ⟨rfl, by omega⟩ | exact Or.inr ⟨rfl, by omega⟩)) hP hD
    · skip
      have c4 : v.toInt ≤ hg.toInt := zle (Int32.not_lt.mp cb9) rfl rfl
      refine lv_iconst (v := 1) hx hb dX12_isIn_10 (by decide) ?_
      refine lv_goto (tgt := 15) hx hb dX12_isIn_11 (by decide) ?_
      have hP : va_P g.1 vwCl (List.flatten []) s.heap := hP
      have hD : va_D A (List.flatten []) := hD
      exact mret_z hx hb hr hlocks hS (Nat.le_of_ble_eq_true rfl) (Nat.le_of_ble_eq_true rfl) dX12_isIn_15 ((1 : Int32)) rfl (by decide) (show (1 = 1 ∧ lw.toInt ≤ v.toInt ∧ v.toInt ≤ hg.toInt ∨ 1 = 0 ∧ (v.toInt < lw.toInt ∨ hg.toInt < v.toInt)) from (by first | exact Or.inl ⟨rfl, by omega⟩ | exact Or.inr ⟨rfl, by omega⟩)) hP hD
