set_option maxRecDepth 100000 in
set_option maxHeartbeats 4000000 in
theorem s_coder (l : Launch) (g : zG) (k : Nat) (j : Nat) (q : String × Nat × String × List Int32) (hk9 : k = g.2 (10 + 2 * j)) (hj9 : zLit[j]? = some q) (hql : 1 ≤ q.2.2.2.length ∧ q.2.2.2.length ≤ 7) : zM' g l yJ0_coder_7d493 (Cond.code yJ0_coder_7d493 cJ0_coder_7d493 1 (some .byte) :: zB) ({ frames := 0, cells := 0, slots := 0, locals := 0 } : Room) [.ref k] [] (fun _ : Unit => some (.int 0)) (fun _ : Unit => True) (fun _ : Unit => []) := by
  refine zM'.of (cc := cJ0_coder_7d493) (maxL := 1) (rt := (some .byte)) (by decide) rfl (Nat.le_of_ble_eq_true rfl) ?_
  intro p e s m args below meth c A ls St hr hlocks hin hK hT hA hP hD hS hl
  obtain ⟨hx, hb, hml, hown, hts⟩ := id St
  have hl : lv_has ls 1 [(0, .ref k)] := hl
  obtain ⟨-, hSt⟩ := hT.2.1.2.2 j q hj9
  have hcod : va_OF "java/lang/String" "coder" "B" (.int 0) k A s s.heap := by rw [hk9]; exact (hSt.1 0 Nat.one_pos).2.1
  have hval : va_OF "java/lang/String" "value" "[B" (.ref (g.2 (11 + 2 * j))) k A s s.heap := by rw [hk9]; exact (hSt.1 0 Nat.one_pos).2.2.1
  refine va_gets (v := .int 1) hx hb hT.2.1.1 hS hown (hts _ k216) (fun _ h9 => h9) dJ0_coder_7d493_0 ?_
  refine lv_if_eq (tgt := 13) hx hb dJ0_coder_7d493_3 (by decide) (fun c1 => absurd c1 (by decide)) (fun _ => ?_)
  refine lv_aload_n hx hb dJ0_coder_7d493_6 rfl (lv_at hl 0 rfl) ?_
  refine vk_getf (o := "java/lang/String") (n := "coder") (d := "B") (v := .int 0) hx hb hcod hS hown (hts _ k217) (fun _ h9 => h9) dJ0_coder_7d493_7 ?_
  refine lv_goto (tgt := 14) hx hb dJ0_coder_7d493_10 (by decide) ?_
  have hP : va_P g.1 vwCl (List.flatten []) s.heap := hP
  have hD : va_D A (List.flatten []) := hD
  exact mret_n hx hb hr hlocks hS (Nat.le_of_ble_eq_true rfl) (Nat.le_of_ble_eq_true rfl) dJ0_coder_7d493_14 () rfl rfl trivial hP hD
set_option maxRecDepth 100000 in
set_option maxHeartbeats 4000000 in
theorem s_length (l : Launch) (g : zG) (k : Nat) (j : Nat) (q : String × Nat × String × List Int32) (hk9 : k = g.2 (10 + 2 * j)) (hj9 : zLit[j]? = some q) (hql : 1 ≤ q.2.2.2.length ∧ q.2.2.2.length ≤ 7) : zM' g l yJ0_length_8abf5 (Cond.code yJ0_length_8abf5 cJ0_length_8abf5 1 (some .int) :: zB) ({ frames := 1, cells := 0, slots := 0, locals := 20 } : Room) [.ref k] [] (fun (r : Int32) => some (.int r)) (fun (r : Int32) => (r.toInt = (q.2.2.2.length : Int))) (fun (r : Int32) => []) := by
  refine zM'.of (cc := cJ0_length_8abf5) (maxL := 1) (rt := (some .int)) (by decide) rfl (Nat.le_of_ble_eq_true rfl) ?_
  intro p e s m args below meth c A ls St hr hlocks hin hK hT hA hP hD hS hl
  obtain ⟨hx, hb, hml, hown, hts⟩ := id St
  have hl : lv_has ls 1 [(0, .ref k)] := hl
  obtain ⟨-, hSt⟩ := hT.2.1.2.2 j q hj9
  have hcod : va_OF "java/lang/String" "coder" "B" (.int 0) k A s s.heap := by rw [hk9]; exact (hSt.1 0 Nat.one_pos).2.1
  have hval : va_OF "java/lang/String" "value" "[B" (.ref (g.2 (11 + 2 * j))) k A s s.heap := by rw [hk9]; exact (hSt.1 0 Nat.one_pos).2.2.1
  have harr : va_T .byte (g.2 (11 + 2 * j)) q.2.2.2.length (fun i => .int (q.2.2.2.getD i 0)) A s s.heap := (hSt.1 0 Nat.one_pos).2.2.2
  refine lv_aload_n hx hb dJ0_length_8abf5_0 rfl (lv_at hl 0 rfl) ?_
  refine vk_getf (o := "java/lang/String") (n := "value") (d := "[B") (v := .ref (g.2 (11 + 2 * j))) hx hb hval hS hown (hts _ k219) (fun _ h9 => h9) dJ0_length_8abf5_1 ?_
  refine va_tlen hx hb harr hS rfl dJ0_length_8abf5_4 ?_
  refine zgv (i := (q.2.2.2.length : Int)) (nI_toInt (by show q.2.2.2.length < 2 ^ 31; omega)) (fun x_1 hx_1 => ?_)
  refine lv_aload_n hx hb dJ0_length_8abf5_5 rfl (lv_at hl 0 rfl) ?_
  refine mcallL' (g := g) (As := []) (rest := [.int x_1]) St hK hT hA hP hD hS hl.1 [] [] rfl rfl rfl (s_coder l g k j q hk9 hj9 hql) (cwV 0 hts (zgL (zl4 k220 k221 k222 k223) k215) rfl rfl rfl (by decide +kernel) ⟨Nat.le_of_ble_eq_true rfl, Nat.le_of_ble_eq_true rfl⟩) (by rw [hk9]; exact zSt_recv hSt hS) rfl rfl (Nat.le_of_ble_eq_true rfl) dJ0_length_8abf5_6 ⟨(Nat.le_of_ble_eq_true rfl), (Nat.le_of_ble_eq_true rfl)⟩ (fun _u H locs hq2 hP hD hS => ?_)
  have hP : va_P g.1 vwCl (List.flatten []) H := hP
  have hD : va_D A (List.flatten []) := hD
  refine W.widen (k := 0) (n := 0) (Nat.le_of_ble_eq_true rfl) (Nat.le_of_ble_eq_true rfl) ?_
  refine W.eq (g2 := F0 m 9 ls [.int 0, .int x_1]) rfl ?_
  refine lv_ishr hx hb dJ0_length_8abf5_9 ?_
  refine zgv (zsh0 (i := x_1.toInt) rfl) (fun x_3 hx_3 => ?_)
  have hP : va_P g.1 vwCl (List.flatten []) H := hP
  have hD : va_D A (List.flatten []) := hD
  exact mret_i hx hb hr hlocks hS (Nat.le_of_ble_eq_true rfl) (Nat.le_of_ble_eq_true rfl) dJ0_length_8abf5_10 (x_3) rfl (show (x_3.toInt = (q.2.2.2.length : Int)) from (by first | assumption | omega | decide | exact rfl | exact zb01 (by omega) | exact Or.inl (by decide) | exact Or.inr (by first | omega | decide))) hP hD
set_option maxRecDepth 100000 in
set_option maxHeartbeats 4000000 in
theorem s_isLatin1 (l : Launch) (g : zG) (k : Nat) (j : Nat) (q : String × Nat × String × List Int32) (hk9 : k = g.2 (10 + 2 * j)) (hj9 : zLit[j]? = some q) (hql : 1 ≤ q.2.2.2.length ∧ q.2.2.2.length ≤ 7) : zM' g l yJ0_isLatin1_aae02 (Cond.code yJ0_isLatin1_aae02 cJ0_isLatin1_aae02 1 (some .boolean) :: zB) ({ frames := 0, cells := 0, slots := 0, locals := 0 } : Room) [.ref k] [] (fun _ : Unit => some (.int 1)) (fun _ : Unit => True) (fun _ : Unit => []) := by
  refine zM'.of (cc := cJ0_isLatin1_aae02) (maxL := 1) (rt := (some .boolean)) (by decide) rfl (Nat.le_of_ble_eq_true rfl) ?_
  intro p e s m args below meth c A ls St hr hlocks hin hK hT hA hP hD hS hl
  obtain ⟨hx, hb, hml, hown, hts⟩ := id St
  have hl : lv_has ls 1 [(0, .ref k)] := hl
  obtain ⟨-, hSt⟩ := hT.2.1.2.2 j q hj9
  have hcod : va_OF "java/lang/String" "coder" "B" (.int 0) k A s s.heap := by rw [hk9]; exact (hSt.1 0 Nat.one_pos).2.1
  have hval : va_OF "java/lang/String" "value" "[B" (.ref (g.2 (11 + 2 * j))) k A s s.heap := by rw [hk9]; exact (hSt.1 0 Nat.one_pos).2.2.1
  refine va_gets (v := .int 1) hx hb hT.2.1.1 hS hown (hts _ k216) (fun _ h9 => h9) dJ0_isLatin1_aae02_0 ?_
  refine lv_if_eq (tgt := 17) hx hb dJ0_isLatin1_aae02_3 (by decide) (fun c1 => absurd c1 (by decide)) (fun _ => ?_)
  refine lv_aload_n hx hb dJ0_isLatin1_aae02_6 rfl (lv_at hl 0 rfl) ?_
  refine vk_getf (o := "java/lang/String") (n := "coder") (d := "B") (v := .int 0) hx hb hcod hS hown (hts _ k217) (fun _ h9 => h9) dJ0_isLatin1_aae02_7 ?_
  refine lv_if_ne (tgt := 17) hx hb dJ0_isLatin1_aae02_10 (by decide) (fun c2 => absurd (by decide) c2) (fun _ => ?_)
  refine lv_iconst (v := 1) hx hb dJ0_isLatin1_aae02_13 (by decide) ?_
  refine lv_goto (tgt := 18) hx hb dJ0_isLatin1_aae02_14 (by decide) ?_
  have hP : va_P g.1 vwCl (List.flatten []) s.heap := hP
  have hD : va_D A (List.flatten []) := hD
  exact mret_z hx hb hr hlocks hS (Nat.le_of_ble_eq_true rfl) (Nat.le_of_ble_eq_true rfl) dJ0_isLatin1_aae02_18 () rfl (by decide) trivial hP hD
set_option maxRecDepth 100000 in
set_option maxHeartbeats 4000000 in
theorem s_ck3 (l : Launch) (g : zG) (i : Int32) (n : Int32) (tz : Nat) (hi : 0 ≤ i.toInt ∧ i.toInt < n.toInt) : zM' g l yJ3_checkIndex_8e157 (Cond.code yJ3_checkIndex_8e157 cJ3_checkIndex_8e157 3 (some .int) :: zB) ({ frames := 0, cells := 0, slots := 0, locals := 0 } : Room) [.int i, .int n, .ref tz] [] (fun (r : Int32) => some (.int r)) (fun (r : Int32) => True) (fun (r : Int32) => []) := by
  refine zM'.of (cc := cJ3_checkIndex_8e157) (maxL := 3) (rt := (some .int)) (by decide) rfl (Nat.le_of_ble_eq_true rfl) ?_
  intro p e s m args below meth c A ls St hr hlocks hin hK hT hA hP hD hS hl
  obtain ⟨hx, hb, hml, hown, hts⟩ := id St
  have hl : lv_has ls 3 [(0, .int i), (1, .int n), (2, .ref tz)] := hl
  refine lv_iload_n hx hb dJ3_checkIndex_8e157_0 rfl (lv_at hl 0 rfl) ?_
  refine lv_if_lt (tgt := 9) hx hb dJ3_checkIndex_8e157_1 (by decide) (fun cb9 => ?_) (fun cb9 => ?_)
  · skip
    exact absurd (show i.toInt < 0 from zlti cb9 rfl (by decide)) (by omega)
  · skip
    have c2 : 0 ≤ i.toInt := zle (Int32.not_lt.mp cb9) (by decide) rfl
    refine lv_iload_n hx hb dJ3_checkIndex_8e157_4 rfl (lv_at hl 0 rfl) ?_
    refine lv_iload_n hx hb dJ3_checkIndex_8e157_5 rfl (lv_at hl 1 rfl) ?_
    refine lv_icmp_lt (tgt := 16) hx hb dJ3_checkIndex_8e157_6 (by decide) (fun cb9 => ?_) (fun cb9 => ?_)
    · skip
      have c3 : i.toInt < n.toInt := zlti cb9 rfl rfl
      refine lv_iload_n hx hb dJ3_checkIndex_8e157_16 rfl (lv_at hl 0 rfl) ?_
      have hP : va_P g.1 vwCl (List.flatten []) s.heap := hP
      have hD : va_D A (List.flatten []) := hD
      exact mret_i hx hb hr hlocks hS (Nat.le_of_ble_eq_true rfl) (Nat.le_of_ble_eq_true rfl) dJ3_checkIndex_8e157_17 (i) rfl trivial hP hD
    · skip
      exact absurd (show n.toInt ≤ i.toInt from zle (Int32.not_lt.mp cb9) rfl rfl) (by omega)
set_option maxRecDepth 100000 in
set_option maxHeartbeats 4000000 in
theorem s_ck3N (l : Launch) (g : zG) (i : Int32) (n : Int32) (hi : 0 ≤ i.toInt ∧ i.toInt < n.toInt) : zM' g l yJ3_checkIndex_8e157 (Cond.code yJ3_checkIndex_8e157 cJ3_checkIndex_8e157 3 (some .int) :: zB) ({ frames := 0, cells := 0, slots := 0, locals := 0 } : Room) [.int i, .int n, .null] [] (fun (r : Int32) => some (.int r)) (fun (r : Int32) => True) (fun (r : Int32) => []) := by
  refine zM'.of (cc := cJ3_checkIndex_8e157) (maxL := 3) (rt := (some .int)) (by decide) rfl (Nat.le_of_ble_eq_true rfl) ?_
  intro p e s m args below meth c A ls St hr hlocks hin hK hT hA hP hD hS hl
  obtain ⟨hx, hb, hml, hown, hts⟩ := id St
  have hl : lv_has ls 3 [(0, .int i), (1, .int n), (2, .null)] := hl
  refine lv_iload_n hx hb dJ3_checkIndex_8e157_0 rfl (lv_at hl 0 rfl) ?_
  refine lv_if_lt (tgt := 9) hx hb dJ3_checkIndex_8e157_1 (by decide) (fun cb9 => ?_) (fun cb9 => ?_)
  · skip
    exact absurd (show i.toInt < 0 from zlti cb9 rfl (by decide)) (by omega)
  · skip
    have c2 : 0 ≤ i.toInt := zle (Int32.not_lt.mp cb9) (by decide) rfl
    refine lv_iload_n hx hb dJ3_checkIndex_8e157_4 rfl (lv_at hl 0 rfl) ?_
    refine lv_iload_n hx hb dJ3_checkIndex_8e157_5 rfl (lv_at hl 1 rfl) ?_
    refine lv_icmp_lt (tgt := 16) hx hb dJ3_checkIndex_8e157_6 (by decide) (fun cb9 => ?_) (fun cb9 => ?_)
    · skip
      have c3 : i.toInt < n.toInt := zlti cb9 rfl rfl
      refine lv_iload_n hx hb dJ3_checkIndex_8e157_16 rfl (lv_at hl 0 rfl) ?_
      have hP : va_P g.1 vwCl (List.flatten []) s.heap := hP
      have hD : va_D A (List.flatten []) := hD
      exact mret_i hx hb hr hlocks hS (Nat.le_of_ble_eq_true rfl) (Nat.le_of_ble_eq_true rfl) dJ3_checkIndex_8e157_17 (i) rfl trivial hP hD
    · skip
      exact absurd (show n.toInt ≤ i.toInt from zle (Int32.not_lt.mp cb9) rfl rfl) (by omega)
set_option maxRecDepth 100000 in
set_option maxHeartbeats 4000000 in
theorem s_ck (l : Launch) (g : zG) (i : Int32) (n : Int32) (hi : 0 ≤ i.toInt ∧ i.toInt < n.toInt) : zM' g l yJ0_checkIndex_df160 (Cond.code yJ0_checkIndex_df160 cJ0_checkIndex_df160 2 none :: zB) ({ frames := 1, cells := 0, slots := 0, locals := 22 } : Room) [.int i, .int n] [] (fun _ : Unit => none) (fun _ : Unit => True) (fun _ : Unit => []) := by
  refine zM'.of (cc := cJ0_checkIndex_df160) (maxL := 2) (rt := none) (by decide) rfl (Nat.le_of_ble_eq_true rfl) ?_
  intro p e s m args below meth c A ls St hr hlocks hin hK hT hA hP hD hS hl
  obtain ⟨hx, hb, hml, hown, hts⟩ := id St
  have hl : lv_has ls 2 [(0, .int i), (1, .int n)] := hl
  refine lv_iload_n hx hb dJ0_checkIndex_df160_0 rfl (lv_at hl 0 rfl) ?_
  refine lv_iload_n hx hb dJ0_checkIndex_df160_1 rfl (lv_at hl 1 rfl) ?_
  rcases hT.2.1.2.1 with hZf | ⟨tz, hZf⟩
  · skip
    refine va_gets (v := .null) hx hb hZf hS hown (hts _ k227) (fun _ h9 => h9) dJ0_checkIndex_df160_2 ?_
    refine mcallS' (g := g) (As := [.int i, .int n, .null]) (rest := []) St hK hT hA hP hD hS hl.1 [] [] rfl rfl rfl (s_ck3N l g i n hi) (va_cwS 3 hts (zgL (zl3 k228 k229 k230) k225) rfl rfl rfl (by decide +kernel) ⟨Nat.le_of_ble_eq_true rfl, Nat.le_of_ble_eq_true rfl⟩) rfl rfl (Nat.le_of_ble_eq_true rfl) dJ0_checkIndex_df160_5 ⟨(Nat.le_of_ble_eq_true rfl), (Nat.le_of_ble_eq_true rfl)⟩ (fun r_1 H locs hq2 hP hD hS => ?_)
    have hP : va_P g.1 vwCl (List.flatten []) H := hP
    have hD : va_D A (List.flatten []) := hD
    refine W.widen (k := 0) (n := 0) (Nat.le_of_ble_eq_true rfl) (Nat.le_of_ble_eq_true rfl) ?_
    refine W.eq (g2 := F0 m 8 ls [.int r_1]) rfl ?_
    refine lv_pop hx hb dJ0_checkIndex_df160_8 rfl ?_
    have hP : va_P g.1 vwCl (List.flatten []) H := hP
    have hD : va_D A (List.flatten []) := hD
    exact mret_v hx hb hr hlocks hS (Nat.le_of_ble_eq_true rfl) (Nat.le_of_ble_eq_true rfl) dJ0_checkIndex_df160_9 () rfl trivial hP hD
  · skip
    refine va_gets (v := .ref tz) hx hb hZf hS hown (hts _ k227) (fun _ h9 => h9) dJ0_checkIndex_df160_2 ?_
    refine mcallS' (g := g) (As := [.int i, .int n, .ref tz]) (rest := []) St hK hT hA hP hD hS hl.1 [] [] rfl rfl rfl (s_ck3 l g i n tz hi) (va_cwS 3 hts (zgL (zl3 k228 k229 k230) k225) rfl rfl rfl (by decide +kernel) ⟨Nat.le_of_ble_eq_true rfl, Nat.le_of_ble_eq_true rfl⟩) rfl rfl (Nat.le_of_ble_eq_true rfl) dJ0_checkIndex_df160_5 ⟨(Nat.le_of_ble_eq_true rfl), (Nat.le_of_ble_eq_true rfl)⟩ (fun r_3 H locs hq4 hP hD hS => ?_)
    have hP : va_P g.1 vwCl (List.flatten []) H := hP
    have hD : va_D A (List.flatten []) := hD
    refine W.widen (k := 0) (n := 0) (Nat.le_of_ble_eq_true rfl) (Nat.le_of_ble_eq_true rfl) ?_
    refine W.eq (g2 := F0 m 8 ls [.int r_3]) rfl ?_
    refine lv_pop hx hb dJ0_checkIndex_df160_8 rfl ?_
    have hP : va_P g.1 vwCl (List.flatten []) H := hP
    have hD : va_D A (List.flatten []) := hD
    exact mret_v hx hb hr hlocks hS (Nat.le_of_ble_eq_true rfl) (Nat.le_of_ble_eq_true rfl) dJ0_checkIndex_df160_9 () rfl trivial hP hD
set_option maxRecDepth 100000 in
set_option maxHeartbeats 4000000 in
theorem s_char1 (l : Launch) (g : zG) (k : Nat) (j : Nat) (q : String × Nat × String × List Int32) (i : Int32) (hk9 : k = g.2 (11 + 2 * j)) (hj9 : zLit[j]? = some q) (hql : 1 ≤ q.2.2.2.length ∧ q.2.2.2.length ≤ 7) (hi : 0 ≤ i.toInt ∧ i.toInt < (q.2.2.2.length : Int)) : zM' g l yJ1_charAt_3b067 (Cond.code yJ1_charAt_3b067 cJ1_charAt_3b067 2 (some .char) :: zB) ({ frames := 2, cells := 0, slots := 0, locals := 43 } : Room) [.ref k, .int i] [] (fun (r : Int32) => some (.int r)) (fun (r : Int32) => (narrow .char (.int r) = .int r)) (fun (r : Int32) => []) := by
  refine zM'.of (cc := cJ1_charAt_3b067) (maxL := 2) (rt := (some .char)) (by decide) rfl (Nat.le_of_ble_eq_true rfl) ?_
  intro p e s m args below meth c A ls St hr hlocks hin hK hT hA hP hD hS hl
  obtain ⟨hx, hb, hml, hown, hts⟩ := id St
  have hl : lv_has ls 2 [(0, .ref k), (1, .int i)] := hl
  subst hk9
  obtain ⟨-, hSt⟩ := hT.2.1.2.2 j q hj9
  have harr : va_T .byte (g.2 (11 + 2 * j)) q.2.2.2.length (fun i => .int (q.2.2.2.getD i 0)) A s s.heap := (hSt.1 0 Nat.one_pos).2.2.2
  refine lv_iload_n hx hb dJ1_charAt_3b067_0 rfl (lv_at hl 1 rfl) ?_
  refine lv_aload_n hx hb dJ1_charAt_3b067_1 rfl (lv_at hl 0 rfl) ?_
  refine va_tlen hx hb harr hS rfl dJ1_charAt_3b067_2 ?_
  refine zgv (i := (q.2.2.2.length : Int)) (nI_toInt (by show q.2.2.2.length < 2 ^ 31; omega)) (fun x_1 hx_1 => ?_)
  refine mcallS' (g := g) (As := [.int i, .int x_1]) (rest := []) St hK hT hA hP hD hS hl.1 [] [] rfl rfl rfl (s_ck l g i x_1 (by first | assumption | omega | decide | exact Or.inl (by decide) | exact Or.inr (by decide))) (va_cwS 2 hts (zgL (zl3 k232 k233 k223) k226) rfl rfl rfl (by decide +kernel) ⟨Nat.le_of_ble_eq_true rfl, Nat.le_of_ble_eq_true rfl⟩) rfl rfl (Nat.le_of_ble_eq_true rfl) dJ1_charAt_3b067_3 ⟨(Nat.le_of_ble_eq_true rfl), (Nat.le_of_ble_eq_true rfl)⟩ (fun _u H locs hq2 hP hD hS => ?_)
  have hP : va_P g.1 vwCl (List.flatten []) H := hP
  have hD : va_D A (List.flatten []) := hD
  refine W.widen (k := 0) (n := 0) (Nat.le_of_ble_eq_true rfl) (Nat.le_of_ble_eq_true rfl) ?_
  refine W.eq (g2 := F0 m 6 ls []) rfl ?_
  refine lv_aload_n hx hb dJ1_charAt_3b067_6 rfl (lv_at hl 0 rfl) ?_
  refine lv_iload_n hx hb dJ1_charAt_3b067_7 rfl (lv_at hl 1 rfl) ?_
  refine va_tb hx hb harr hS (zinI (by omega) (by show _ < ((q.2.2.2.length : Nat) : Int); omega)) rfl dJ1_charAt_3b067_8 ?_
  refine zg (fun x_3 => ?_)
  refine lv_sipush (v := 255) hx hb dJ1_charAt_3b067_9 (by decide) ?_
  refine lv_iand hx hb dJ1_charAt_3b067_12 ?_
  refine zgb (zand255 _) (fun x_4 hx_4 => ?_)
  refine lv_i2c hx hb dJ1_charAt_3b067_13 rfl ?_
  refine zgn (ty := .char) (pk_nc _) (fun x_5 hx_5 => ?_)
  have hP : va_P g.1 vwCl (List.flatten []) H := hP
  have hD : va_D A (List.flatten []) := hD
  exact mret_n hx hb hr hlocks hS (Nat.le_of_ble_eq_true rfl) (Nat.le_of_ble_eq_true rfl) dJ1_charAt_3b067_14 (x_5) rfl hx_5 (show (narrow .char (.int x_5) = .int x_5) from (by first | assumption | omega | decide | exact rfl | exact zb01 (by omega) | exact Or.inl rfl | exact Or.inr (by first | omega | decide))) hP hD
set_option maxRecDepth 100000 in
set_option maxHeartbeats 4000000 in
theorem s_char (l : Launch) (g : zG) (k : Nat) (j : Nat) (q : String × Nat × String × List Int32) (i : Int32) (hk9 : k = g.2 (10 + 2 * j)) (hj9 : zLit[j]? = some q) (hql : 1 ≤ q.2.2.2.length ∧ q.2.2.2.length ≤ 7) (hi : 0 ≤ i.toInt ∧ i.toInt < (q.2.2.2.length : Int)) : zM' g l yJ0_charAt_5068e (Cond.code yJ0_charAt_5068e cJ0_charAt_5068e 2 (some .char) :: zB) ({ frames := 3, cells := 0, slots := 0, locals := 64 } : Room) [.ref k, .int i] [] (fun (r : Int32) => some (.int r)) (fun (r : Int32) => (narrow .char (.int r) = .int r)) (fun (r : Int32) => []) := by
  refine zM'.of (cc := cJ0_charAt_5068e) (maxL := 2) (rt := (some .char)) (by decide) rfl (Nat.le_of_ble_eq_true rfl) ?_
  intro p e s m args below meth c A ls St hr hlocks hin hK hT hA hP hD hS hl
  obtain ⟨hx, hb, hml, hown, hts⟩ := id St
  have hl : lv_has ls 2 [(0, .ref k), (1, .int i)] := hl
  obtain ⟨-, hSt⟩ := hT.2.1.2.2 j q hj9
  have hcod : va_OF "java/lang/String" "coder" "B" (.int 0) k A s s.heap := by rw [hk9]; exact (hSt.1 0 Nat.one_pos).2.1
  have hval : va_OF "java/lang/String" "value" "[B" (.ref (g.2 (11 + 2 * j))) k A s s.heap := by rw [hk9]; exact (hSt.1 0 Nat.one_pos).2.2.1
  refine lv_aload_n hx hb dJ0_charAt_5068e_0 rfl (lv_at hl 0 rfl) ?_
  refine mcallL' (g := g) (As := []) (rest := []) St hK hT hA hP hD hS hl.1 [] [] rfl rfl rfl (s_isLatin1 l g k j q hk9 hj9 hql) (cwV 0 hts (zgL (zl4 k249 k250 k251 k223) k224) rfl rfl rfl (by decide +kernel) ⟨Nat.le_of_ble_eq_true rfl, Nat.le_of_ble_eq_true rfl⟩) (by rw [hk9]; exact zSt_recv hSt hS) rfl rfl (Nat.le_of_ble_eq_true rfl) dJ0_charAt_5068e_1 ⟨(Nat.le_of_ble_eq_true rfl), (Nat.le_of_ble_eq_true rfl)⟩ (fun _u H locs hq1 hP hD hS => ?_)
  have hP : va_P g.1 vwCl (List.flatten []) H := hP
  have hD : va_D A (List.flatten []) := hD
  refine W.widen (k := 0) (n := 0) (Nat.le_of_ble_eq_true rfl) (Nat.le_of_ble_eq_true rfl) ?_
  refine W.eq (g2 := F0 m 4 ls [.int 1]) rfl ?_
  refine lv_if_eq (tgt := 16) hx hb dJ0_charAt_5068e_4 (by decide) (fun c2 => absurd c2 (by decide)) (fun _ => ?_)
  refine lv_aload_n hx hb dJ0_charAt_5068e_7 rfl (lv_at hl 0 rfl) ?_
  refine vk_getf (o := "java/lang/String") (n := "value") (d := "[B") (v := .ref (g.2 (11 + 2 * j))) hx hb hval hS hown (hts _ k219) (fun _ h9 => h9) dJ0_charAt_5068e_8 ?_
  refine lv_iload_n hx hb dJ0_charAt_5068e_11 rfl (lv_at hl 1 rfl) ?_
  refine mcallS' (g := g) (As := [.ref (g.2 (11 + 2 * j)), .int i]) (rest := []) St hK hT hA hP hD hS hl.1 [] [] rfl rfl rfl (s_char1 l g (g.2 (11 + 2 * j)) j q i (by first | assumption | omega | decide | exact Or.inl (by decide) | exact Or.inr (by decide)) hj9 hql hi) (va_cwS 2 hts (zgL (zl3 k252 k253 k254) k231) rfl rfl rfl (by decide +kernel) ⟨Nat.le_of_ble_eq_true rfl, Nat.le_of_ble_eq_true rfl⟩) rfl rfl (Nat.le_of_ble_eq_true rfl) dJ0_charAt_5068e_12 ⟨(Nat.le_of_ble_eq_true rfl), (Nat.le_of_ble_eq_true rfl)⟩ (fun r_3 H locs hq4 hP hD hS => ?_)
  replace hq4 : (narrow .char (.int r_3) = .int r_3) := hq4
  have hP : va_P g.1 vwCl (List.flatten []) H := hP
  have hD : va_D A (List.flatten []) := hD
  refine W.widen (k := 0) (n := 0) (Nat.le_of_ble_eq_true rfl) (Nat.le_of_ble_eq_true rfl) ?_
  refine W.eq (g2 := F0 m 15 ls [.int r_3]) rfl ?_
  have hP : va_P g.1 vwCl (List.flatten []) H := hP
  have hD : va_D A (List.flatten []) := hD
  exact mret_n hx hb hr hlocks hS (Nat.le_of_ble_eq_true rfl) (Nat.le_of_ble_eq_true rfl) dJ0_charAt_5068e_15 (r_3) rfl (by first | assumption | exact zb01 (by omega)) (show (narrow .char (.int r_3) = .int r_3) from hq4) hP hD
