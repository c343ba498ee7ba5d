set_option maxRecDepth 100000 in
set_option maxHeartbeats 4000000 in
theorem m_says (l : Launch) (g : zG) (st0 : Int32) (who : Int32) (wm : Int32)  : zM' g l yX12_says (Cond.code yX12_says cX12_says 3 (some .boolean) :: zB) ({ frames := 1, cells := 0, slots := 0, locals := 21 } : Room) [.int st0, .int who, .int wm] [] (fun (q : Int32) => some (.int q)) (fun (q : Int32) => (q = 0 ∨ q = 1)) (fun (q : Int32) => []) := by
  refine zM'.of (cc := cX12_says) (maxL := 3) (rt := (some .boolean)) (by decide) rfl (Nat.le_of_ble_eq_true rfl) ?_
  intro p e s m args below meth c A ls St hr hlocks hin hK hT hA hP hD hS hl
  obtain ⟨hx, hb, hml, hown, hts⟩ := id St
  have hl : lv_has ls 3 [(0, .int st0), (1, .int who), (2, .int wm)] := hl
  refine lv_iload_n hx hb dX12_says_0 rfl (lv_at hl 0 rfl) ?_
  refine lv_iload_n hx hb dX12_says_1 rfl (lv_at hl 1 rfl) ?_
  refine mcallS' (g := g) (As := [.int st0, .int who]) (rest := []) St hK hT hA hP hD hS hl.1 [] [] rfl rfl rfl (m_isOf l g st0 who ) (va_cwS 2 hts (zgL (zl3 k1061 k1062 k837) k827) rfl rfl rfl (by decide +kernel) ⟨Nat.le_of_ble_eq_true rfl, Nat.le_of_ble_eq_true rfl⟩) rfl rfl (Nat.le_of_ble_eq_true rfl) dX12_says_2 ⟨(Nat.le_of_ble_eq_true rfl), (Nat.le_of_ble_eq_true rfl)⟩ (fun q_1 H locs hq2 hP hD hS => ?_)
  replace hq2 : (q_1 = 0 ∨ q_1 = 1) := hq2
  have hP : va_P g.1 vwCl (List.flatten []) H := hP
  have hD : va_D A (List.flatten []) := hD
  refine W.widen (k := 0) (n := 0) (Nat.le_of_ble_eq_true rfl) (Nat.le_of_ble_eq_true rfl) ?_
  refine W.eq (g2 := F0 m 5 ls [.int q_1]) rfl ?_
  rcases hq2 with rfl | rfl
  · skip
    refine lv_iload_n hx hb dX12_says_5 rfl (lv_at hl 0 rfl) ?_
    refine lv_iload_n hx hb dX12_says_6 rfl (lv_at hl 2 rfl) ?_
    refine mcallS' (g := g) (As := [.int st0, .int wm]) (rest := [.int 0]) St hK hT hA hP hD hS hl.1 [] [] rfl rfl rfl (m_isOf l g st0 wm ) (va_cwS 2 hts (zgL (zl3 k1061 k1062 k837) k827) rfl rfl rfl (by decide +kernel) ⟨Nat.le_of_ble_eq_true rfl, Nat.le_of_ble_eq_true rfl⟩) rfl rfl (Nat.le_of_ble_eq_true rfl) dX12_says_7 ⟨(Nat.le_of_ble_eq_true rfl), (Nat.le_of_ble_eq_true rfl)⟩ (fun q_3 H locs hq4 hP hD hS => ?_)
    replace hq4 : (q_3 = 0 ∨ q_3 = 1) := hq4
    have hP : va_P g.1 vwCl (List.flatten []) H := hP
    have hD : va_D A (List.flatten []) := hD
    refine W.widen (k := 0) (n := 0) (Nat.le_of_ble_eq_true rfl) (Nat.le_of_ble_eq_true rfl) ?_
    refine W.eq (g2 := F0 m 10 ls [.int q_3, .int 0]) rfl ?_
    rcases hq4 with rfl | rfl
    · skip
      refine lv_icmp_ne (tgt := 17) hx hb dX12_says_10 (by decide) (fun c5 => absurd (by decide) c5) (fun _ => ?_)
      refine lv_iconst (v := 1) hx hb dX12_says_13 (by decide) ?_
      refine lv_goto (tgt := 18) hx hb dX12_says_14 (by decide) ?_
      have hP : va_P g.1 vwCl (List.flatten []) H := hP
      have hD : va_D A (List.flatten []) := hD
      exact mret_z hx hb hr hlocks hS (Nat.le_of_ble_eq_true rfl) (Nat.le_of_ble_eq_true rfl) dX12_says_18 ((1 : Int32)) rfl (by decide) (show (1 = 0 ∨ 1 = 1) from (by first | assumption | omega | decide | exact rfl | exact zb01 (by omega) | exact Or.inl (by decide) | exact Or.inr (by first | omega | decide))) hP hD
    · skip
      refine lv_icmp_ne (tgt := 17) hx hb dX12_says_10 (by decide) (fun _ => ?_) (fun c6 => absurd c6 (by decide))
      refine lv_iconst (v := 0) hx hb dX12_says_17 (by decide) ?_
      have hP : va_P g.1 vwCl (List.flatten []) H := hP
      have hD : va_D A (List.flatten []) := hD
      exact mret_z hx hb hr hlocks hS (Nat.le_of_ble_eq_true rfl) (Nat.le_of_ble_eq_true rfl) dX12_says_18 ((0 : Int32)) rfl (by decide) (show (0 = 0 ∨ 0 = 1) from (by first | assumption | omega | decide | exact rfl | exact zb01 (by omega) | exact Or.inl (by decide) | exact Or.inr (by first | omega | decide))) hP hD
  · skip
    refine lv_iload_n hx hb dX12_says_5 rfl (lv_at hl 0 rfl) ?_
    refine lv_iload_n hx hb dX12_says_6 rfl (lv_at hl 2 rfl) ?_
    refine mcallS' (g := g) (As := [.int st0, .int wm]) (rest := [.int 1]) St hK hT hA hP hD hS hl.1 [] [] rfl rfl rfl (m_isOf l g st0 wm ) (va_cwS 2 hts (zgL (zl3 k1061 k1062 k837) k827) rfl rfl rfl (by decide +kernel) ⟨Nat.le_of_ble_eq_true rfl, Nat.le_of_ble_eq_true rfl⟩) rfl rfl (Nat.le_of_ble_eq_true rfl) dX12_says_7 ⟨(Nat.le_of_ble_eq_true rfl), (Nat.le_of_ble_eq_true rfl)⟩ (fun q_7 H locs hq8 hP hD hS => ?_)
    replace hq8 : (q_7 = 0 ∨ q_7 = 1) := hq8
    have hP : va_P g.1 vwCl (List.flatten []) H := hP
    have hD : va_D A (List.flatten []) := hD
    refine W.widen (k := 0) (n := 0) (Nat.le_of_ble_eq_true rfl) (Nat.le_of_ble_eq_true rfl) ?_
    refine W.eq (g2 := F0 m 10 ls [.int q_7, .int 1]) rfl ?_
    rcases hq8 with rfl | rfl
    · skip
      refine lv_icmp_ne (tgt := 17) hx hb dX12_says_10 (by decide) (fun _ => ?_) (fun c9 => absurd c9 (by decide))
      refine lv_iconst (v := 0) hx hb dX12_says_17 (by decide) ?_
      have hP : va_P g.1 vwCl (List.flatten []) H := hP
      have hD : va_D A (List.flatten []) := hD
      exact mret_z hx hb hr hlocks hS (Nat.le_of_ble_eq_true rfl) (Nat.le_of_ble_eq_true rfl) dX12_says_18 ((0 : Int32)) rfl (by decide) (show (0 = 0 ∨ 0 = 1) from (by first | assumption | omega | decide | exact rfl | exact zb01 (by omega) | exact Or.inl (by decide) | exact Or.inr (by first | omega | decide))) hP hD
    · skip
      refine lv_icmp_ne (tgt := 17) hx hb dX12_says_10 (by decide) (fun c10 => absurd (by decide) c10) (fun _ => ?_)
      refine lv_iconst (v := 1) hx hb dX12_says_13 (by decide) ?_
      refine lv_goto (tgt := 18) hx hb dX12_says_14 (by decide) ?_
      have hP : va_P g.1 vwCl (List.flatten []) H := hP
      have hD : va_D A (List.flatten []) := hD
      exact mret_z hx hb hr hlocks hS (Nat.le_of_ble_eq_true rfl) (Nat.le_of_ble_eq_true rfl) dX12_says_18 ((1 : Int32)) rfl (by decide) (show (1 = 0 ∨ 1 = 1) from (by first | assumption | omega | decide | exact rfl | exact zb01 (by omega) | exact Or.inl (by decide) | exact Or.inr (by first | omega | decide))) hP hD
