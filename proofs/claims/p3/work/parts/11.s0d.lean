set_option maxRecDepth 100000 in
set_option maxHeartbeats 4000000 in
theorem s_char1 (l : Launch) (g : zG) (k : Nat) (j : Nat) (q : String × Nat × String × List Int32) (i : Int32) (hk9 : k = g.2 (11 + 2 * j)) (hj9 : zLit[j]? = some q) (hql : 1 ≤ q.2.2.2.length ∧ q.2.2.2.length ≤ 7) (hi : 0 ≤ i.toInt ∧ i.toInt < (q.2.2.2.length : Int)) : zM' g l yJ1_charAt_3b067 (Cond.code yJ1_charAt_3b067 cJ1_charAt_3b067 2 (some .char) :: zB) ({ frames := 2, cells := 0, slots := 0, locals := 43 } : Room) [.ref k, .int i] [] (fun (r : Int32) => some (.int r)) (fun (r : Int32) => (narrow .char (.int r) = .int r)) (fun (r : Int32) => []) := by
  refine zM'.of (cc := cJ1_charAt_3b067) (maxL := 2) (rt := (some .char)) (by decide) rfl (Nat.le_of_ble_eq_true rfl) ?_
  intro p e s m args below meth c A ls St hr hlocks hin hK hT hA hP hD hS hl
  obtain ⟨hx, hb, hml, hown, hts⟩ := id St
  have hl : lv_has ls 2 [(0, .ref k), (1, .int i)] := hl
  subst hk9
  obtain ⟨-, hSt⟩ := hT.2.1.2.2 j q hj9
  have harr : va_T .byte (g.2 (11 + 2 * j)) q.2.2.2.length (fun i => .int (q.2.2.2.getD i 0)) A s s.heap := (hSt.1 0 Nat.one_pos).2.2.2
  refine lv_iload_n hx hb dJ1_charAt_3b067_0 rfl (lv_at hl 1 rfl) ?_
  refine lv_aload_n hx hb dJ1_charAt_3b067_1 rfl (lv_at hl 0 rfl) ?_
  refine va_tlen hx hb harr hS rfl dJ1_charAt_3b067_2 ?_
  refine zgv (i := (q.2.2.2.length : Int)) (nI_toInt (by show q.2.2.2.length < 2 ^ 31; omega)) (fun x_1 hx_1 => ?_)
  refine mcallS' (g := g) (As := [.int i, .int x_1]) (rest := []) St hK hT hA hP hD hS hl.1 [] [] rfl rfl rfl (s_ck l g i x_1 (by first | assumption | omega | decide | exact Or.inl (by decide) | exact Or.inr (by decide))) (va_cwS 2 hts (zgL (zl3 k232 k233 k223) k226) rfl rfl rfl (by decide +kernel) ⟨Nat.le_of_ble_eq_true rfl, Nat.le_of_ble_eq_true rfl⟩) rfl rfl (Nat.le_of_ble_eq_true rfl) dJ1_charAt_3b067_3 ⟨(Nat.le_of_ble_eq_true rfl), (Nat.le_of_ble_eq_true rfl)⟩ (fun _u H locs hq2 hP hD hS => ?_)
  have hP : va_P g.1 vwCl (List.flatten []) H := hP
  have hD : va_D A (List.flatten []) := hD
  refine W.widen (k := 0) (n := 0) (Nat.le_of_ble_eq_true rfl) (Nat.le_of_ble_eq_true rfl) ?_
  refine W.eq (g2 := F0 m 6 ls []) rfl ?_
  refine lv_aload_n hx hb dJ1_charAt_3b067_6 rfl (lv_at hl 0 rfl) ?_
  refine lv_iload_n hx hb dJ1_charAt_3b067_7 rfl (lv_at hl 1 rfl) ?_
  refine va_tb hx hb harr hS (zinI (by omega) (by show _ < ((q.2.2.2.length : Nat) : Int); omega)) rfl dJ1_charAt_3b067_8 ?_
  refine zg (fun x_3 => ?_)
  refine lv_sipush (v := 255) hx hb dJ1_charAt_3b067_9 (by decide) ?_
  refine lv_iand hx hb dJ1_charAt_3b067_12 ?_
  refine zgb (zand255 _) (fun x_4 hx_4 => ?_)
  refine lv_i2c hx hb dJ1_charAt_3b067_13 rfl ?_
  refine zgn (ty := .char) (pk_nc _) (fun x_5 hx_5 => ?_)
  have hP : va_P g.1 vwCl (List.flatten []) H := hP
  have hD : va_D A (List.flatten []) := hD
  exact mret_n hx hb hr hlocks hS (Nat.le_of_ble_eq_true rfl) (Nat.le_of_ble_eq_true rfl) dJ1_charAt_3b067_14 (x_5) rfl hx_5 (show (narrow .char (.int x_5) = .int x_5) from (by first | assumption | omega | decide | exact rfl | exact zb01 (by omega) | exact Or.inl rfl | exact Or.inr (by first | omega | decide))) hP hD
