set_option maxRecDepth 100000 in
set_option maxHeartbeats 4000000 in
theorem s_char (l : Launch) (g : zG) (k : Nat) (j : Nat) (q : String × Nat × String × List Int32) (i : Int32) (hk9 : k = g.2 (10 + 2 * j)) (hj9 : zLit[j]? = some q) (hql : 1 ≤ q.2.2.2.length ∧ q.2.2.2.length ≤ 7) (hi : 0 ≤ i.toInt ∧ i.toInt < (q.2.2.2.length : Int)) : zM' g l yJ0_charAt_5068e (Cond.code yJ0_charAt_5068e cJ0_charAt_5068e 2 (some .char) :: zB) ({ frames := 3, cells := 0, slots := 0, locals := 64 } : Room) [.ref k, .int i] [] (fun (r : Int32) => some (.int r)) (fun (r : Int32) => (narrow .char (.int r) = .int r)) (fun (r : Int32) => []) := by
  refine zM'.of (cc := cJ0_charAt_5068e) (maxL := 2) (rt := (some .char)) (by decide) rfl (Nat.le_of_ble_eq_true rfl) ?_
  intro p e s m args below meth c A ls St hr hlocks hin hK hT hA hP hD hS hl
  obtain ⟨hx, hb, hml, hown, hts⟩ := id St
  have hl : lv_has ls 2 [(0, .ref k), (1, .int i)] := hl
  obtain ⟨-, hSt⟩ := hT.2.1.2.2 j q hj9
  have hcod : va_OF "java/lang/String" "coder" "B" (.int 0) k A s s.heap := by rw [hk9]; exact (hSt.1 0 Nat.one_pos).2.1
  have hval : va_OF "java/lang/String" "value" "[B" (.ref (g.2 (11 + 2 * j))) k A s s.heap := by rw [hk9]; exact (hSt.1 0 Nat.one_pos).2.2.1
  refine lv_aload_n hx hb dJ0_charAt_5068e_0 rfl (lv_at hl 0 rfl) ?_
  refine mcallL' (g := g) (As := []) (rest := []) St hK hT hA hP hD hS hl.1 [] [] rfl rfl rfl (s_isLatin1 l g k j q (by first | assumption | omega | decide | exact Or.inl (by decide) | exact Or.inr (by decide)) (by first | assumption | omega | decide | exact Or.inl (by decide) | exact Or.inr (by decide)) (by first | assumption | omega | decide | exact Or.inl (by decide) | exact Or.inr (by decide))) (cwV 0 hts (zgL (zl4 k249 k250 k251 k223) k224) rfl rfl rfl (by decide +kernel) ⟨Nat.le_of_ble_eq_true rfl, Nat.le_of_ble_eq_true rfl⟩) (by rw [hk9]; exact zSt_recv hSt hS) rfl rfl (Nat.le_of_ble_eq_true rfl) dJ0_charAt_5068e_1 ⟨(Nat.le_of_ble_eq_true rfl), (Nat.le_of_ble_eq_true rfl)⟩ (fun _u H locs hq1 hP hD hS => ?_)
  have hP : va_P g.1 vwCl (List.flatten []) H := hP
  have hD : va_D A (List.flatten []) := hD
  refine W.widen (k := 0) (n := 0) (Nat.le_of_ble_eq_true rfl) (Nat.le_of_ble_eq_true rfl) ?_
  refine W.eq (g2 := F0 m 4 ls [.int 1]) rfl ?_
  refine lv_if_eq (tgt := 16) hx hb dJ0_charAt_5068e_4 (by decide) (fun c2 => absurd c2 (by decide)) (fun _ => ?_)
  refine lv_aload_n hx hb dJ0_charAt_5068e_7 rfl (lv_at hl 0 rfl) ?_
  refine vk_getf (o := "java/lang/String") (n := "value") (d := "[B") (v := .ref (g.2 (11 + 2 * j))) hx hb hval hS hown (hts _ k219) (fun _ h9 => h9) dJ0_charAt_5068e_8 ?_
  refine lv_iload_n hx hb dJ0_charAt_5068e_11 rfl (lv_at hl 1 rfl) ?_
  refine mcallS' (g := g) (As := [.ref (g.2 (11 + 2 * j)), .int i]) (rest := []) St hK hT hA hP hD hS hl.1 [] [] rfl rfl rfl (s_char1 l g (g.2 (11 + 2 * j)) j q i (by first | assumption | omega | decide | exact Or.inl (by decide) | exact Or.inr (by decide)) (by first | assumption | omega | decide | exact Or.inl (by decide) | exact Or.inr (by decide)) (by first | assumption | omega | decide | exact Or.inl (by decide) | exact Or.inr (by decide)) (by first | assumption | omega | decide | exact Or.inl (by decide) | exact Or.inr (by decide))) (va_cwS 2 hts (zgL (zl3 k252 k253 k254) k231) rfl rfl rfl (by decide +kernel) ⟨Nat.le_of_ble_eq_true rfl, Nat.le_of_ble_eq_true rfl⟩) rfl rfl (Nat.le_of_ble_eq_true rfl) dJ0_charAt_5068e_12 ⟨(Nat.le_of_ble_eq_true rfl), (Nat.le_of_ble_eq_true rfl)⟩ (fun r_3 H locs hq4 hP hD hS => ?_)
  replace hq4 : (narrow .char (.int r_3) = .int r_3) := hq4
  have hP : va_P g.1 vwCl (List.flatten []) H := hP
  have hD : va_D A (List.flatten []) := hD
  refine W.widen (k := 0) (n := 0) (Nat.le_of_ble_eq_true rfl) (Nat.le_of_ble_eq_true rfl) ?_
  refine W.eq (g2 := F0 m 15 ls [.int r_3]) rfl ?_
  have hP : va_P g.1 vwCl (List.flatten []) H := hP
  have hD : va_D A (List.flatten []) := hD
  exact mret_n hx hb hr hlocks hS (Nat.le_of_ble_eq_true rfl) (Nat.le_of_ble_eq_true rfl) dJ0_charAt_5068e_15 (r_3) rfl (by first | assumption | exact zb01 (by omega)) (show (narrow .char (.int r_3) = .int r_3) from (by first | assumption | omega | decide | exact rfl | exact zb01 (by omega) | exact Or.inl rfl | exact Or.inr (by first | omega | decide))) hP hD
