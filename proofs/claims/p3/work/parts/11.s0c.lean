set_option maxRecDepth 100000 in
set_option maxHeartbeats 4000000 in
theorem s_ck3N (l : Launch) (g : zG) (i : Int32) (n : Int32) (hi : 0 ≤ i.toInt ∧ i.toInt < n.toInt) : zM' g l yJ3_checkIndex_8e157 (Cond.code yJ3_checkIndex_8e157 cJ3_checkIndex_8e157 3 (some .int) :: zB) ({ frames := 0, cells := 0, slots := 0, locals := 0 } : Room) [.int i, .int n, .null] [] (fun (r : Int32) => some (.int r)) (fun (r : Int32) => True) (fun (r : Int32) => []) := by
  refine zM'.of (cc := cJ3_checkIndex_8e157) (maxL := 3) (rt := (some .int)) (by decide) rfl (Nat.le_of_ble_eq_true rfl) ?_
  intro p e s m args below meth c A ls St hr hlocks hin hK hT hA hP hD hS hl
  obtain ⟨hx, hb, hml, hown, hts⟩ := id St
  have hl : lv_has ls 3 [(0, .int i), (1, .int n), (2, .null)] := hl
  refine lv_iload_n hx hb dJ3_checkIndex_8e157_0 rfl (lv_at hl 0 rfl) ?_
  refine lv_if_lt (tgt := 9) hx hb dJ3_checkIndex_8e157_1 (by decide) (fun cb9 => ?_) (fun cb9 => ?_)
  · skip
    exact absurd (show i.toInt < 0 from zlti cb9 rfl (by decide)) (by omega)
  · skip
    have c2 : 0 ≤ i.toInt := zle (Int32.not_lt.mp cb9) (by decide) rfl
    refine lv_iload_n hx hb dJ3_checkIndex_8e157_4 rfl (lv_at hl 0 rfl) ?_
    refine lv_iload_n hx hb dJ3_checkIndex_8e157_5 rfl (lv_at hl 1 rfl) ?_
    refine lv_icmp_lt (tgt := 16) hx hb dJ3_checkIndex_8e157_6 (by decide) (fun cb9 => ?_) (fun cb9 => ?_)
    · skip
      have c3 : i.toInt < n.toInt := zlti cb9 rfl rfl
      refine lv_iload_n hx hb dJ3_checkIndex_8e157_16 rfl (lv_at hl 0 rfl) ?_
      have hP : va_P g.1 vwCl (List.flatten []) s.heap := hP
      have hD : va_D A (List.flatten []) := hD
      exact mret_i hx hb hr hlocks hS (Nat.le_of_ble_eq_true rfl) (Nat.le_of_ble_eq_true rfl) dJ3_checkIndex_8e157_17 (i) rfl trivial hP hD
    · skip
      exact absurd (show n.toInt ≤ i.toInt from zle (Int32.not_lt.mp cb9) rfl rfl) (by omega)
set_option maxRecDepth 100000 in
set_option maxHeartbeats 4000000 in
theorem s_ck (l : Launch) (g : zG) (i : Int32) (n : Int32) (hi : 0 ≤ i.toInt ∧ i.toInt < n.toInt) : zM' g l yJ0_checkIndex_df160 (Cond.code yJ0_checkIndex_df160 cJ0_checkIndex_df160 2 none :: zB) ({ frames := 1, cells := 0, slots := 0, locals := 22 } : Room) [.int i, .int n] [] (fun _ : Unit => none) (fun _ : Unit => True) (fun _ : Unit => []) := by
  refine zM'.of (cc := cJ0_checkIndex_df160) (maxL := 2) (rt := none) (by decide) rfl (Nat.le_of_ble_eq_true rfl) ?_
  intro p e s m args below meth c A ls St hr hlocks hin hK hT hA hP hD hS hl
  obtain ⟨hx, hb, hml, hown, hts⟩ := id St
  have hl : lv_has ls 2 [(0, .int i), (1, .int n)] := hl
  refine lv_iload_n hx hb dJ0_checkIndex_df160_0 rfl (lv_at hl 0 rfl) ?_
  refine lv_iload_n hx hb dJ0_checkIndex_df160_1 rfl (lv_at hl 1 rfl) ?_
  rcases hT.2.1.2.1 with hZf | ⟨tz, hZf⟩
  · skip
    refine va_gets (v := .null) hx hb hZf hS hown (hts _ k227) (fun _ h9 => h9) dJ0_checkIndex_df160_2 ?_
    refine mcallS' (g := g) (As := [.int i, .int n, .null]) (rest := []) St hK hT hA hP hD hS hl.1 [] [] rfl rfl rfl (s_ck3N l g i n (by first | assumption | omega | decide | exact Or.inl (by decide) | exact Or.inr (by decide))) (va_cwS 3 hts (zgL (zl3 k228 k229 k230) k225) rfl rfl rfl (by decide +kernel) ⟨Nat.le_of_ble_eq_true rfl, Nat.le_of_ble_eq_true rfl⟩) rfl rfl (Nat.le_of_ble_eq_true rfl) dJ0_checkIndex_df160_5 ⟨(Nat.le_of_ble_eq_true rfl), (Nat.le_of_ble_eq_true rfl)⟩ (fun r_1 H locs hq2 hP hD hS => ?_)
    have hP : va_P g.1 vwCl (List.flatten []) H := hP
    have hD : va_D A (List.flatten []) := hD
    refine W.widen (k := 0) (n := 0) (Nat.le_of_ble_eq_true rfl) (Nat.le_of_ble_eq_true rfl) ?_
    refine W.eq (g2 := F0 m 8 ls [.int r_1]) rfl ?_
    refine lv_pop hx hb dJ0_checkIndex_df160_8 rfl ?_
    have hP : va_P g.1 vwCl (List.flatten []) H := hP
    have hD : va_D A (List.flatten []) := hD
    exact mret_v hx hb hr hlocks hS (Nat.le_of_ble_eq_true rfl) (Nat.le_of_ble_eq_true rfl) dJ0_checkIndex_df160_9 () rfl trivial hP hD
  · skip
    refine va_gets (v := .ref tz) hx hb hZf hS hown (hts _ k227) (fun _ h9 => h9) dJ0_checkIndex_df160_2 ?_
    refine mcallS' (g := g) (As := [.int i, .int n, .ref tz]) (rest := []) St hK hT hA hP hD hS hl.1 [] [] rfl rfl rfl (s_ck3 l g i n tz (by first | assumption | omega | decide | exact Or.inl (by decide) | exact Or.inr (by decide))) (va_cwS 3 hts (zgL (zl3 k228 k229 k230) k225) rfl rfl rfl (by decide +kernel) ⟨Nat.le_of_ble_eq_true rfl, Nat.le_of_ble_eq_true rfl⟩) rfl rfl (Nat.le_of_ble_eq_true rfl) dJ0_checkIndex_df160_5 ⟨(Nat.le_of_ble_eq_true rfl), (Nat.le_of_ble_eq_true rfl)⟩ (fun r_3 H locs hq4 hP hD hS => ?_)
    have hP : va_P g.1 vwCl (List.flatten []) H := hP
    have hD : va_D A (List.flatten []) := hD
    refine W.widen (k := 0) (n := 0) (Nat.le_of_ble_eq_true rfl) (Nat.le_of_ble_eq_true rfl) ?_
    refine W.eq (g2 := F0 m 8 ls [.int r_3]) rfl ?_
    refine lv_pop hx hb dJ0_checkIndex_df160_8 rfl ?_
    have hP : va_P g.1 vwCl (List.flatten []) H := hP
    have hD : va_D A (List.flatten []) := hD
    exact mret_v hx hb hr hlocks hS (Nat.le_of_ble_eq_true rfl) (Nat.le_of_ble_eq_true rfl) dJ0_checkIndex_df160_9 () rfl trivial hP hD
