set_option maxRecDepth 100000 in
set_option maxHeartbeats 4000000 in
theorem s_coder (l : Launch) (g : zG) (k : Nat) (j : Nat) (q : String × Nat × String × List Int32) (hk9 : k = g.2 (10 + 2 * j)) (hj9 : zLit[j]? = some q) (hql : 1 ≤ q.2.2.2.length ∧ q.2.2.2.length ≤ 7) : zM' g l yJ0_coder_7d493 (Cond.code yJ0_coder_7d493 cJ0_coder_7d493 1 (some .byte) :: zB) ({ frames := 0, cells := 0, slots := 0, locals := 0 } : Room) [.ref k] [] (fun _ : Unit => some (.int 0)) (fun _ : Unit => True) (fun _ : Unit => []) := by
  refine zM'.of (cc := cJ0_coder_7d493) (maxL := 1) (rt := (some .byte)) (by decide) rfl (Nat.le_of_ble_eq_true rfl) ?_
  intro p e s m args below meth c A ls St hr hlocks hin hK hT hA hP hD hS hl
  obtain ⟨hx, hb, hml, hown, hts⟩ := id St
  have hl : lv_has ls 1 [(0, .ref k)] := hl
  obtain ⟨-, hSt⟩ := hT.2.1.2.2 j q hj9
  have hcod : va_OF "java/lang/String" "coder" "B" (.int 0) k A s s.heap := by rw [hk9]; exact (hSt.1 0 Nat.one_pos).2.1
  have hval : va_OF "java/lang/String" "value" "[B" (.ref (g.2 (11 + 2 * j))) k A s s.heap := by rw [hk9]; exact (hSt.1 0 Nat.one_pos).2.2.1
  refine va_gets (v := .int 1) hx hb hT.2.1.1 hS hown (hts _ k216) (fun _ h9 => h9) dJ0_coder_7d493_0 ?_
  refine lv_if_eq (tgt := 13) hx hb dJ0_coder_7d493_3 (by decide) (fun c1 => absurd c1 (by decide)) (fun _ => ?_)
  refine lv_aload_n hx hb dJ0_coder_7d493_6 rfl (lv_at hl 0 rfl) ?_
  refine vk_getf (o := "java/lang/String") (n := "coder") (d := "B") (v := .int 0) hx hb hcod hS hown (hts _ k217) (fun _ h9 => h9) dJ0_coder_7d493_7 ?_
  refine lv_goto (tgt := 14) hx hb dJ0_coder_7d493_10 (by decide) ?_
  have hP : va_P g.1 vwCl (List.flatten []) s.heap := hP
  have hD : va_D A (List.flatten []) := hD
  exact mret_n hx hb hr hlocks hS (Nat.le_of_ble_eq_true rfl) (Nat.le_of_ble_eq_true rfl) dJ0_coder_7d493_14 () rfl rfl trivial hP hD
set_option maxRecDepth 100000 in
set_option maxHeartbeats 4000000 in
theorem s_length (l : Launch) (g : zG) (k : Nat) (j : Nat) (q : String × Nat × String × List Int32) (hk9 : k = g.2 (10 + 2 * j)) (hj9 : zLit[j]? = some q) (hql : 1 ≤ q.2.2.2.length ∧ q.2.2.2.length ≤ 7) : zM' g l yJ0_length_8abf5 (Cond.code yJ0_length_8abf5 cJ0_length_8abf5 1 (some .int) :: zB) ({ frames := 1, cells := 0, slots := 0, locals := 20 } : Room) [.ref k] [] (fun (r : Int32) => some (.int r)) (fun (r : Int32) => (r.toInt = (q.2.2.2.length : Int))) (fun (r : Int32) => []) := by
  refine zM'.of (cc := cJ0_length_8abf5) (maxL := 1) (rt := (some .int)) (by decide) rfl (Nat.le_of_ble_eq_true rfl) ?_
  intro p e s m args below meth c A ls St hr hlocks hin hK hT hA hP hD hS hl
  obtain ⟨hx, hb, hml, hown, hts⟩ := id St
  have hl : lv_has ls 1 [(0, .ref k)] := hl
  obtain ⟨-, hSt⟩ := hT.2.1.2.2 j q hj9
  have hcod : va_OF "java/lang/String" "coder" "B" (.int 0) k A s s.heap := by rw [hk9]; exact (hSt.1 0 Nat.one_pos).2.1
  have hval : va_OF "java/lang/String" "value" "[B" (.ref (g.2 (11 + 2 * j))) k A s s.heap := by rw [hk9]; exact (hSt.1 0 Nat.one_pos).2.2.1
  have harr : va_T .byte (g.2 (11 + 2 * j)) q.2.2.2.length (fun i => .int (q.2.2.2.getD i 0)) A s s.heap := (hSt.1 0 Nat.one_pos).2.2.2
  refine lv_aload_n hx hb dJ0_length_8abf5_0 rfl (lv_at hl 0 rfl) ?_
  refine vk_getf (o := "java/lang/String") (n := "value") (d := "[B") (v := .ref (g.2 (11 + 2 * j))) hx hb hval hS hown (hts _ k219) (fun _ h9 => h9) dJ0_length_8abf5_1 ?_
  refine va_tlen hx hb harr hS rfl dJ0_length_8abf5_4 ?_
  refine zgv (i := (q.2.2.2.length : Int)) (nI_toInt (by show q.2.2.2.length < 2 ^ 31; omega)) (fun x_1 hx_1 => ?_)
  refine lv_aload_n hx hb dJ0_length_8abf5_5 rfl (lv_at hl 0 rfl) ?_
  refine mcallL' (g := g) (As := []) (rest := [.int x_1]) St hK hT hA hP hD hS hl.1 [] [] rfl rfl rfl (s_coder l g k j q (by first | assumption | omega | decide | exact Or.inl (by decide) | exact Or.inr (by decide)) (by first | assumption | omega | decide | exact Or.inl (by decide) | exact Or.inr (by decide)) (by first | assumption | omega | decide | exact Or.inl (by decide) | exact Or.inr (by decide))) (cwV 0 hts (zgL (zl4 k220 k221 k222 k223) k215) rfl rfl rfl (by decide +kernel) ⟨Nat.le_of_ble_eq_true rfl, Nat.le_of_ble_eq_true rfl⟩) (by rw [hk9]; exact zSt_recv hSt hS) rfl rfl (Nat.le_of_ble_eq_true rfl) dJ0_length_8abf5_6 ⟨(Nat.le_of_ble_eq_true rfl), (Nat.le_of_ble_eq_true rfl)⟩ (fun _u H locs hq2 hP hD hS => ?_)
  have hP : va_P g.1 vwCl (List.flatten []) H := hP
  have hD : va_D A (List.flatten []) := hD
  refine W.widen (k := 0) (n := 0) (Nat.le_of_ble_eq_true rfl) (Nat.le_of_ble_eq_true rfl) ?_
  refine W.eq (g2 := F0 m 9 ls [.int 0, .int x_1]) rfl ?_
  refine lv_ishr hx hb dJ0_length_8abf5_9 ?_
  refine zgv (zsh0 (i := x_1.toInt) rfl) (fun x_3 hx_3 => ?_)
  have hP : va_P g.1 vwCl (List.flatten []) H := hP
  have hD : va_D A (List.flatten []) := hD
  exact mret_i hx hb hr hlocks hS (Nat.le_of_ble_eq_true rfl) (Nat.le_of_ble_eq_true rfl) dJ0_length_8abf5_10 (x_3) rfl (show (x_3.toInt = (q.2.2.2.length : Int)) from (by first | assumption | omega | decide | exact rfl | exact zb01 (by omega) | exact Or.inl (by decide) | exact Or.inr (by first | omega | decide))) hP hD
