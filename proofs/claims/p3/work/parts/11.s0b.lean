set_option maxRecDepth 100000 in
set_option maxHeartbeats 4000000 in
theorem s_isLatin1 (l : Launch) (g : zG) (k : Nat) (j : Nat) (q : String × Nat × String × List Int32) (hk9 : k = g.2 (10 + 2 * j)) (hj9 : zLit[j]? = some q) (hql : 1 ≤ q.2.2.2.length ∧ q.2.2.2.length ≤ 7) : zM' g l yJ0_isLatin1_aae02 (Cond.code yJ0_isLatin1_aae02 cJ0_isLatin1_aae02 1 (some .boolean) :: zB) ({ frames := 0, cells := 0, slots := 0, locals := 0 } : Room) [.ref k] [] (fun _ : Unit => some (.int 1)) (fun _ : Unit => True) (fun _ : Unit => []) := by
  refine zM'.of (cc := cJ0_isLatin1_aae02) (maxL := 1) (rt := (some .boolean)) (by decide) rfl (Nat.le_of_ble_eq_true rfl) ?_
  intro p e s m args below meth c A ls St hr hlocks hin hK hT hA hP hD hS hl
  obtain ⟨hx, hb, hml, hown, hts⟩ := id St
  have hl : lv_has ls 1 [(0, .ref k)] := hl
  obtain ⟨-, hSt⟩ := hT.2.1.2.2 j q hj9
  have hcod : va_OF "java/lang/String" "coder" "B" (.int 0) k A s s.heap := by rw [hk9]; exact (hSt.1 0 Nat.one_pos).2.1
  have hval : va_OF "java/lang/String" "value" "[B" (.ref (g.2 (11 + 2 * j))) k A s s.heap := by rw [hk9]; exact (hSt.1 0 Nat.one_pos).2.2.1
  refine va_gets (v := .int 1) hx hb hT.2.1.1 hS hown (hts _ k216) (fun _ h9 => h9) dJ0_isLatin1_aae02_0 ?_
  refine lv_if_eq (tgt := 17) hx hb dJ0_isLatin1_aae02_3 (by decide) (fun c1 => absurd c1 (by decide)) (fun _ => ?_)
  refine lv_aload_n hx hb dJ0_isLatin1_aae02_6 rfl (lv_at hl 0 rfl) ?_
  refine vk_getf (o := "java/lang/String") (n := "coder") (d := "B") (v := .int 0) hx hb hcod hS hown (hts _ k217) (fun _ h9 => h9) dJ0_isLatin1_aae02_7 ?_
  refine lv_if_ne (tgt := 17) hx hb dJ0_isLatin1_aae02_10 (by decide) (fun c2 => absurd (by decide) c2) (fun _ => ?_)
  refine lv_iconst (v := 1) hx hb dJ0_isLatin1_aae02_13 (by decide) ?_
  refine lv_goto (tgt := 18) hx hb dJ0_isLatin1_aae02_14 (by decide) ?_
  have hP : va_P g.1 vwCl (List.flatten []) s.heap := hP
  have hD : va_D A (List.flatten []) := hD
  exact mret_z hx hb hr hlocks hS (Nat.le_of_ble_eq_true rfl) (Nat.le_of_ble_eq_true rfl) dJ0_isLatin1_aae02_18 () rfl (by decide) trivial hP hD
set_option maxRecDepth 100000 in
set_option maxHeartbeats 4000000 in
theorem s_ck3 (l : Launch) (g : zG) (i : Int32) (n : Int32) (tz : Nat) (hi : 0 ≤ i.toInt ∧ i.toInt < n.toInt) : zM' g l yJ3_checkIndex_8e157 (Cond.code yJ3_checkIndex_8e157 cJ3_checkIndex_8e157 3 (some .int) :: zB) ({ frames := 0, cells := 0, slots := 0, locals := 0 } : Room) [.int i, .int n, .ref tz] [] (fun (r : Int32) => some (.int r)) (fun (r : Int32) => True) (fun (r : Int32) => []) := by
  refine zM'.of (cc := cJ3_checkIndex_8e157) (maxL := 3) (rt := (some .int)) (by decide) rfl (Nat.le_of_ble_eq_true rfl) ?_
  intro p e s m args below meth c A ls St hr hlocks hin hK hT hA hP hD hS hl
  obtain ⟨hx, hb, hml, hown, hts⟩ := id St
  have hl : lv_has ls 3 [(0, .int i), (1, .int n), (2, .ref tz)] := hl
  refine lv_iload_n hx hb dJ3_checkIndex_8e157_0 rfl (lv_at hl 0 rfl) ?_
  refine lv_if_lt (tgt := 9) hx hb dJ3_checkIndex_8e157_1 (by decide) (fun cb9 => ?_) (fun cb9 => ?_)
  · skip
    exact absurd (show i.toInt < 0 from zlti cb9 rfl (by decide)) (by omega)
  · skip
    have c2 : 0 ≤ i.toInt := zle (Int32.not_lt.mp cb9) (by decide) rfl
    refine lv_iload_n hx hb dJ3_checkIndex_8e157_4 rfl (lv_at hl 0 rfl) ?_
    refine lv_iload_n hx hb dJ3_checkIndex_8e157_5 rfl (lv_at hl 1 rfl) ?_
    refine lv_icmp_lt (tgt := 16) hx hb dJ3_checkIndex_8e157_6 (by decide) (fun cb9 => ?_) (fun cb9 => ?_)
    · skip
      have c3 : i.toInt < n.toInt := zlti cb9 rfl rfl
      refine lv_iload_n hx hb dJ3_checkIndex_8e157_16 rfl (lv_at hl 0 rfl) ?_
      have hP : va_P g.1 vwCl (List.flatten []) s.heap := hP
      have hD : va_D A (List.flatten []) := hD
      exact mret_i hx hb hr hlocks hS (Nat.le_of_ble_eq_true rfl) (Nat.le_of_ble_eq_true rfl) dJ3_checkIndex_8e157_17 (i) rfl trivial hP hD
    · skip
      exact absurd (show n.toInt ≤ i.toInt from zle (Int32.not_lt.mp cb9) rfl rfl) (by omega)
