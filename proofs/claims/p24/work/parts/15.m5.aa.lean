/-- an act: remembered, or nothing happened -/
def zMa (fc fc2 : Nat → Int32) (a a2 : Int) (fm : Nat → Int32) : Prop := (a2 = a ∧ fc2 = fc) ∨ zRem fc fc2 a a2 fm
theorem zMa_0 {fc : Nat → Int32} {a : Int} {fm : Nat → Int32} : zMa fc fc a a fm := Or.inl ⟨rfl, rfl⟩
/-- what is remembered is all of so many texts, people, works -/
def zAcK (fc : Nat → Int32) (a T P W : Int) : Prop := ∀ j : Nat, (j : Int) < a → (fc (379 * j)).toInt = T ∧ (fc (379 * j + 3)).toInt = P ∧ (fc (379 * j + 4)).toInt = W
theorem zAcK_0 {fc : Nat → Int32} {a T P W : Int} (e : a = 0) : zAcK fc a T P W := fun j h => absurd h (by omega)
theorem zAcK_ma {fc fc2 fm : Nat → Int32} {a a2 T P W : Int} (ha : 0 ≤ a ∧ a ≤ 12) (h : zAcK fc a T P W) (hT : (fm 0).toInt = T) (hP : (fm 3).toInt = P) (hW : (fm 4).toInt = W) (r : zMa fc fc2 a a2 fm) : zAcK fc2 a2 T P W := by
  rcases r with ⟨e1, e2⟩ | ⟨l, e1, c⟩ | ⟨l, e1, f9, s, c⟩
  · subst e1; subst e2; exact h
  · intro j hj
    by_cases q : (j : Int) < a
    · rw [c.2.2 (379 * j) (Or.inl (by omega)), c.2.2 (379 * j + 3) (Or.inl (by omega)), c.2.2 (379 * j + 4) (Or.inl (by omega))]; exact h j q
    · have e : j = a.toNat := by omega
      subst e
      have c0 : fc2 (379 * a.toNat) = fm 0 := c.2.1 0 (by omega)
      have c3 : fc2 (379 * a.toNat + 3) = fm 3 := c.2.1 3 (by omega)
      have c4 : fc2 (379 * a.toNat + 4) = fm 4 := c.2.1 4 (by omega)
      rw [c0, c3, c4]; exact ⟨hT, hP, hW⟩
  · intro j hj
    by_cases q : j < 11
    · rw [c.2.2 (379 * j) (Or.inl (by omega)), c.2.2 (379 * j + 3) (Or.inl (by omega)), c.2.2 (379 * j + 4) (Or.inl (by omega)), s.2.1 (379 * j) (by omega), s.2.1 (379 * j + 3) (by omega), s.2.1 (379 * j + 4) (by omega)]
      have := h (j + 1) (by omega)
      rw [show 379 * j + 379 = 379 * (j + 1) by omega, show 379 * j + 3 + 379 = 379 * (j + 1) + 3 by omega, show 379 * j + 4 + 379 = 379 * (j + 1) + 4 by omega]; exact this
    · have e : j = 11 := by omega
      subst e
      have c0 : fc2 (379 * 11) = fm 0 := c.2.1 0 (by omega)
      have c3 : fc2 (379 * 11 + 3) = fm 3 := c.2.1 3 (by omega)
      have c4 : fc2 (379 * 11 + 4) = fm 4 := c.2.1 4 (by omega)
      rw [c0, c3, c4]; exact ⟨hT, hP, hW⟩
theorem zAcK_un {fc fm fm2 : Nat → Int32} {a a2 T P W : Int} (ha : 0 ≤ a) (h : zAcK fc a T P W) (h0 : ¬ a = 0) (e : a2 = a - 1) (c : zCy fm fm2 0 fc (379 * a2.toNat) 379) : ((fm2 0).toInt = T ∧ (fm2 3).toInt = P ∧ (fm2 4).toInt = W) ∧ zAcK fc a2 T P W := by
  have b := h a2.toNat (by omega)
  have c0 : fm2 0 = fc (379 * a2.toNat) := c.2.1 0 (by omega)
  have c3 : fm2 3 = fc (379 * a2.toNat + 3) := c.2.1 3 (by omega)
  have c4 : fm2 4 = fc (379 * a2.toNat + 4) := c.2.1 4 (by omega)
  rw [c0, c3, c4]
  exact ⟨b, fun j hj => h j (by omega)⟩
set_option maxRecDepth 100000 in
set_option maxHeartbeats 4000000 in
theorem m_fault (l : Launch) (g : zG) (o : Nat) (a : Nat → Nat) (th : Int32) (hi : Int32) (ac : Int32) (tp : Int32) (ba : Int32) (en : Int32) (tA : Int32) (fl : Int32) (de : Int32) (iD : Int32) (iO : Int32) (tU : Int32) (fm : Nat → Int32) (fk : Nat → Int32) (fa : Nat → Int32) (fc : Nat → Int32) (ft : Nat → Int32) (ff : Nat → Int32) (fb : Nat → Int32) (fi : Nat → Int32)  : zM' g l yX12_fault (Cond.code yX12_fault cX12_fault 1 (some .int) :: zB) ({ frames := 0, cells := 0, slots := 0, locals := 0 } : Room) [.ref o] [bMo g o a th hi ac tp ba en tA fl de iD iO tU fm fk fa fc ft ff fb fi] (fun _ : Unit => some (.int fl)) (fun _ : Unit => True) (fun _ : Unit => [bMo g o a 0 hi ac tp ba en tA fl de iD iO tU fm fk fa fc ft ff fb fi]) := by
  refine zM'.of (cc := cX12_fault) (maxL := 1) (rt := (some .int)) (by decide) rfl (Nat.le_of_ble_eq_true rfl) ?_
  intro p e s m args below meth c A ls St hr hlocks hin hK hT hA hP hD hS hl
  obtain ⟨hx, hb, hml, hown, hts⟩ := id St
  have hl : lv_has ls 1 [(0, .ref o)] := hl
  refine lv_aload_n hx hb dX12_fault_0 rfl (lv_at hl 0 rfl) ?_
  refine lv_iconst (v := 0) hx hb dX12_fault_1 (by decide) ?_
  refine va_put (D := g.1) (ci := 10) (v := .int 0) (ty := .int) (C := RX12) (T := TX12) (N := 20) hx hb hts izRX12 tyX12 tyX12_ok nmX12 hown hK hP hD hS 0 rfl rfl 0 (by decide) (hts _ k825) (fun _ h9 => h9) rfl (by decide +kernel) rfl rfl (Nat.le_of_ble_eq_true rfl) dX12_fault_2 (fun H locs hP hD hS => ?_)
  have hP : va_P g.1 vwCl (List.flatten [bMo g o a 0 hi ac tp ba en tA fl de iD iO tU fm fk fa fc ft ff fb fi]) H := hP
  have hD : va_D A (List.flatten [bMo g o a 0 hi ac tp ba en tA fl de iD iO tU fm fk fa fc ft ff fb fi]) := hD
  refine lv_aload_n hx hb dX12_fault_5 rfl (lv_at hl 0 rfl) ?_
  refine va_get (D := g.1) (ci := 10) (v := .int fl) (C := RX12) (T := TX12) (N := 20) hx hb hts izRX12 hown hK hP 0 rfl rfl 12 (by decide) (hts _ k820) (fun _ h9 => h9) rfl dX12_fault_6 ?_
  have hP : va_P g.1 vwCl (List.flatten [bMo g o a 0 hi ac tp ba en tA fl de iD iO tU fm fk fa fc ft ff fb fi]) H := hP
  have hD : va_D A (List.flatten [bMo g o a 0 hi ac tp ba en tA fl de iD iO tU fm fk fa fc ft ff fb fi]) := hD
  exact mret_i hx hb hr hlocks hS (Nat.le_of_ble_eq_true rfl) (Nat.le_of_ble_eq_true rfl) dX12_fault_9 () rfl trivial hP hD
set_option maxRecDepth 100000 in
set_option maxHeartbeats 4000000 in
theorem m_doubts (l : Launch) (g : zG) (o : Nat) (a : Nat → Nat) (th : Int32) (hi : Int32) (ac : Int32) (tp : Int32) (ba : Int32) (en : Int32) (tA : Int32) (fl : Int32) (de : Int32) (iD : Int32) (iO : Int32) (tU : Int32) (fm : Nat → Int32) (fk : Nat → Int32) (fa : Nat → Int32) (fc : Nat → Int32) (ft : Nat → Int32) (ff : Nat → Int32) (fb : Nat → Int32) (fi : Nat → Int32) (rfm : rM fm) : zM' g l yX12_doubts (Cond.code yX12_doubts cX12_doubts 1 (some .int) :: zB) ({ frames := 3, cells := 0, slots := 0, locals := 65 } : Room) [.ref o] [bMo g o a th hi ac tp ba en tA fl de iD iO tU fm fk fa fc ft ff fb fi] (fun (q : Int32) => some (.int q)) (fun (q : Int32) => True) (fun (q : Int32) => [bMo g o a 0 hi ac tp ba en tA fl de iD iO tU fm fk fa fc ft ff fb fi]) := by
  refine zM'.of (cc := cX12_doubts) (maxL := 1) (rt := (some .int)) (by decide) rfl (Nat.le_of_ble_eq_true rfl) ?_
  intro p e s m args below meth c A ls St hr hlocks hin hK hT hA hP hD hS hl
  obtain ⟨hx, hb, hml, hown, hts⟩ := id St
  have hl : lv_has ls 1 [(0, .ref o)] := hl
  refine lv_aload_n hx hb dX12_doubts_0 rfl (lv_at hl 0 rfl) ?_
  refine lv_iconst (v := 0) hx hb dX12_doubts_1 (by decide) ?_
  refine va_put (D := g.1) (ci := 10) (v := .int 0) (ty := .int) (C := RX12) (T := TX12) (N := 20) hx hb hts izRX12 tyX12 tyX12_ok nmX12 hown hK hP hD hS 0 rfl rfl 0 (by decide) (hts _ k825) (fun _ h9 => h9) rfl (by decide +kernel) rfl rfl (Nat.le_of_ble_eq_true rfl) dX12_doubts_2 (fun H locs hP hD hS => ?_)
  have hP : va_P g.1 vwCl (List.flatten [bMo g o a 0 hi ac tp ba en tA fl de iD iO tU fm fk fa fc ft ff fb fi]) H := hP
  have hD : va_D A (List.flatten [bMo g o a 0 hi ac tp ba en tA fl de iD iO tU fm fk fa fc ft ff fb fi]) := hD
  refine lv_aload_n hx hb dX12_doubts_5 rfl (lv_at hl 0 rfl) ?_
  refine mcallV' (g := g) (q0 := 0) (ci := 10) (As := []) (rest := []) St hK hT hA hP hD hS hl.1 [0] [] rfl rfl rfl (m_doubtsNow l g o a 0 hi ac tp ba en tA fl de iD iO tU fm fk fa fc ft ff fb fi rfm) (cwV 0 hts (zgL (zl4 k1075 k1076 k1077 k839) k1073) rfl rfl rfl (by decide +kernel) ⟨Nat.le_of_ble_eq_true rfl, Nat.le_of_ble_eq_true rfl⟩) rfl rfl rfl rfl (Nat.le_of_ble_eq_true rfl) dX12_doubts_6 ⟨(Nat.le_of_ble_eq_true rfl), (Nat.le_of_ble_eq_true rfl)⟩ (fun q_1 H locs hq2 hP hD hS => ?_)
  have hP : va_P g.1 vwCl (List.flatten [bMo g o a 0 hi ac tp ba en tA fl de iD iO tU fm fk fa fc ft ff fb fi]) H := hP
  have hD : va_D A (List.flatten [bMo g o a 0 hi ac tp ba en tA fl de iD iO tU fm fk fa fc ft ff fb fi]) := hD
  refine W.widen (k := 0) (n := 0) (Nat.le_of_ble_eq_true rfl) (Nat.le_of_ble_eq_true rfl) ?_
  refine W.eq (g2 := F0 m 9 ls [.int q_1]) rfl ?_
  have hP : va_P g.1 vwCl (List.flatten [bMo g o a 0 hi ac tp ba en tA fl de iD iO tU fm fk fa fc ft ff fb fi]) H := hP
  have hD : va_D A (List.flatten [bMo g o a 0 hi ac tp ba en tA fl de iD iO tU fm fk fa fc ft ff fb fi]) := hD
  exact mret_i hx hb hr hlocks hS (Nat.le_of_ble_eq_true rfl) (Nat.le_of_ble_eq_true rfl) dX12_doubts_9 (q_1) rfl trivial hP hD
set_option maxRecDepth 100000 in
set_option maxHeartbeats 4000000 in
theorem m_trust (l : Launch) (g : zG) (o : Nat) (a : Nat → Nat) (th : Int32) (hi : Int32) (ac : Int32) (tp : Int32) (ba : Int32) (en : Int32) (tA : Int32) (fl : Int32) (de : Int32) (iD : Int32) (iO : Int32) (tU : Int32) (fm : Nat → Int32) (fk : Nat → Int32) (fa : Nat → Int32) (fc : Nat → Int32) (ft : Nat → Int32) (ff : Nat → Int32) (fb : Nat → Int32) (fi : Nat → Int32) (x : Int32) (o2 : Int32) (rfm : rM fm) : zM' g l yX12_trust (Cond.code yX12_trust cX12_trust 3 (some .int) :: zB) ({ frames := 2, cells := 0, slots := 0, locals := 43 } : Room) [.ref o, .int x, .int o2] [bMo g o a th hi ac tp ba en tA fl de iD iO tU fm fk fa fc ft ff fb fi] (fun u : Int32 × Int32 => (fun (th2 : Int32) (q : Int32) => some (.int q)) (u.1) (u.2)) (fun u : Int32 × Int32 => (fun (th2 : Int32) (q : Int32) => True) (u.1) (u.2)) (fun u : Int32 × Int32 => (fun (th2 : Int32) (q : Int32) => [bMo g o a th2 hi ac tp ba en tA fl de iD iO tU fm fk fa fc ft ff fb fi]) (u.1) (u.2)) := by
  refine zM'.of (cc := cX12_trust) (maxL := 3) (rt := (some .int)) (by decide) rfl (Nat.le_of_ble_eq_true rfl) ?_
  intro p e s m args below meth c A ls St hr hlocks hin hK hT hA hP hD hS hl
  obtain ⟨hx, hb, hml, hown, hts⟩ := id St
  have hl : lv_has ls 3 [(0, .ref o), (1, .int x), (2, .int o2)] := hl
  refine lv_aload_n hx hb dX12_trust_0 rfl (lv_at hl 0 rfl) ?_
  refine lv_aload_n hx hb dX12_trust_1 rfl (lv_at hl 0 rfl) ?_
  refine lv_iload_n hx hb dX12_trust_2 rfl (lv_at hl 1 rfl) ?_
  refine mcallV' (g := g) (q0 := 0) (ci := 10) (As := [.int x]) (rest := [.ref o]) St hK hT hA hP hD hS hl.1 [0] [] rfl rfl rfl (m_isPerson l g o a th hi ac tp ba en tA fl de iD iO tU fm fk fa fc ft ff fb fi x rfm) (cwV 1 hts (zgL (zl4 k1033 k1034 k1035 k839) k836) rfl rfl rfl (by decide +kernel) ⟨Nat.le_of_ble_eq_true rfl, Nat.le_of_ble_eq_true rfl⟩) rfl rfl rfl rfl (Nat.le_of_ble_eq_true rfl) dX12_trust_3 ⟨(Nat.le_of_ble_eq_true rfl), (Nat.le_of_ble_eq_true rfl)⟩ (fun q_1 H locs hq2 hP hD hS => ?_)
  replace hq2 : (q_1 = 1 ∧ 0 ≤ x.toInt ∧ x.toInt ≤ 7 ∧ x.toInt < (fm 3).toInt ∨ q_1 = 0) := hq2
  have hP : va_P g.1 vwCl (List.flatten [bMo g o a th hi ac tp ba en tA fl de iD iO tU fm fk fa fc ft ff fb fi]) H := hP
  have hD : va_D A (List.flatten [bMo g o a th hi ac tp ba en tA fl de iD iO tU fm fk fa fc ft ff fb fi]) := hD
  refine W.widen (k := 0) (n := 0) (Nat.le_of_ble_eq_true rfl) (Nat.le_of_ble_eq_true rfl) ?_
  refine W.eq (g2 := F0 m 6 ls [.int q_1, .ref o]) rfl ?_
  rcases hq2 with ⟨rfl, hq2_k⟩ | rfl
  · skip
    refine lv_if_eq (tgt := 17) hx hb dX12_trust_6 (by decide) (fun c3 => absurd c3 (by decide)) (fun _ => ?_)
    refine lv_aload_n hx hb dX12_trust_9 rfl (lv_at hl 0 rfl) ?_
    refine lv_iload_n hx hb dX12_trust_10 rfl (lv_at hl 2 rfl) ?_
    refine mcallV' (g := g) (q0 := 0) (ci := 10) (As := [.int o2]) (rest := [.ref o]) St hK hT hA hP hD hS hl.1 [0] [] rfl rfl rfl (m_isPerson l g o a th hi ac tp ba en tA fl de iD iO tU fm fk fa fc ft ff fb fi o2 rfm) (cwV 1 hts (zgL (zl4 k1033 k1034 k1035 k839) k836) rfl rfl rfl (by decide +kernel) ⟨Nat.le_of_ble_eq_true rfl, Nat.le_of_ble_eq_true rfl⟩) rfl rfl rfl rfl (Nat.le_of_ble_eq_true rfl) dX12_trust_11 ⟨(Nat.le_of_ble_eq_true rfl), (Nat.le_of_ble_eq_true rfl)⟩ (fun q_4 H locs hq5 hP hD hS => ?_)
    replace hq5 : (q_4 = 1 ∧ 0 ≤ o2.toInt ∧ o2.toInt ≤ 7 ∧ o2.toInt < (fm 3).toInt ∨ q_4 = 0) := hq5
    have hP : va_P g.1 vwCl (List.flatten [bMo g o a th hi ac tp ba en tA fl de iD iO tU fm fk fa fc ft ff fb fi]) H := hP
    have hD : va_D A (List.flatten [bMo g o a th hi ac tp ba en tA fl de iD iO tU fm fk fa fc ft ff fb fi]) := hD
    refine W.widen (k := 0) (n := 0) (Nat.le_of_ble_eq_true rfl) (Nat.le_of_ble_eq_true rfl) ?_
    refine W.eq (g2 := F0 m 14 ls [.int q_4, .ref o]) rfl ?_
    rcases hq5 with ⟨rfl, hq5_k⟩ | rfl
    · skip
      refine lv_if_ne (tgt := 21) hx hb dX12_trust_14 (by decide) (fun _ => ?_) (fun c6 => absurd c6 (by decide))
      refine lv_iload_n hx hb dX12_trust_21 rfl (lv_at hl 1 rfl) ?_
      refine lv_iload_n hx hb dX12_trust_22 rfl (lv_at hl 2 rfl) ?_
      refine lv_icmp_ne (tgt := 30) hx hb dX12_trust_23 (by decide) (fun cb9 => ?_) (fun cb9 => ?_)
      · skip
        have c7 : ¬ x.toInt = o2.toInt := zne cb9 rfl rfl
        refine lv_iconst (v := 0) hx hb dX12_trust_30 (by decide) ?_
        refine va_put (D := g.1) (ci := 10) (v := .int 0) (ty := .int) (C := RX12) (T := TX12) (N := 20) hx hb hts izRX12 tyX12 tyX12_ok nmX12 hown hK hP hD hS 0 rfl rfl 0 (by decide) (hts _ k825) (fun _ h9 => h9) rfl (by decide +kernel) rfl rfl (Nat.le_of_ble_eq_true rfl) dX12_trust_31 (fun H locs hP hD hS => ?_)
        have hP : va_P g.1 vwCl (List.flatten [bMo g o a 0 hi ac tp ba en tA fl de iD iO tU fm fk fa fc ft ff fb fi]) H := hP
        have hD : va_D A (List.flatten [bMo g o a 0 hi ac tp ba en tA fl de iD iO tU fm fk fa fc ft ff fb fi]) := hD
        refine lv_aload_n hx hb dX12_trust_34 rfl (lv_at hl 0 rfl) ?_
        refine va_get (D := g.1) (ci := 10) (v := .int 0) (C := RX12) (T := TX12) (N := 20) hx hb hts izRX12 hown hK hP 0 rfl rfl 0 (by decide) (hts _ k825) (fun _ h9 => h9) rfl dX12_trust_35 ?_
        refine lv_if_le (tgt := 45) hx hb dX12_trust_38 (by decide) (fun _ => ?_) (fun c8 => absurd (by decide) c8)
        refine lv_aload_n hx hb dX12_trust_45 rfl (lv_at hl 0 rfl) ?_
        refine lv_iload_n hx hb dX12_trust_46 rfl (lv_at hl 1 rfl) ?_
        refine lv_iload_n hx hb dX12_trust_47 rfl (lv_at hl 2 rfl) ?_
        refine mcallV' (g := g) (q0 := 0) (ci := 10) (As := [.int x, .int o2]) (rest := []) St hK hT hA hP hD hS hl.1 [0] [] rfl rfl rfl (m_trustOf l g o a 0 hi ac tp ba en tA fl de iD iO tU fm fk fa fc ft ff fb fi x o2 (by first | assumption | omega | decide | exact Or.inl (by decide) | exact Or.inr (by decide)) (by first | assumption | omega | decide | exact Or.inl (by decide) | exact Or.inr (by decide))) (cwV 2 hts (zgL (zl4 k868 k869 k870 k839) k835) rfl rfl rfl (by decide +kernel) ⟨Nat.le_of_ble_eq_true rfl, Nat.le_of_ble_eq_true rfl⟩) rfl rfl rfl rfl (Nat.le_of_ble_eq_true rfl) dX12_trust_48 ⟨(Nat.le_of_ble_eq_true rfl), (Nat.le_of_ble_eq_true rfl)⟩ (fun q_9 H locs hq10 hP hD hS => ?_)
        have hP : va_P g.1 vwCl (List.flatten [bMo g o a 0 hi ac tp ba en tA fl de iD iO tU fm fk fa fc ft ff fb fi]) H := hP
        have hD : va_D A (List.flatten [bMo g o a 0 hi ac tp ba en tA fl de iD iO tU fm fk fa fc ft ff fb fi]) := hD
        refine W.widen (k := 0) (n := 0) (Nat.le_of_ble_eq_true rfl) (Nat.le_of_ble_eq_true rfl) ?_
        refine W.eq (g2 := F0 m 51 ls [.int q_9]) rfl ?_
        have hP : va_P g.1 vwCl (List.flatten [bMo g o a 0 hi ac tp ba en tA fl de iD iO tU fm fk fa fc ft ff fb fi]) H := hP
        have hD : va_D A (List.flatten [bMo g o a 0 hi ac tp ba en tA fl de iD iO tU fm fk fa fc ft ff fb fi]) := hD
        exact mret_i hx hb hr hlocks hS (Nat.le_of_ble_eq_true rfl) (Nat.le_of_ble_eq_true rfl) dX12_trust_51 ((0 : Int32), q_9) rfl trivial hP hD
      · skip
        have c11 : x.toInt = o2.toInt := zeq cb9 rfl rfl
        refine lv_iconst (v := 2) hx hb dX12_trust_26 (by decide) ?_
        refine lv_goto (tgt := 31) hx hb dX12_trust_27 (by decide) ?_
        refine va_put (D := g.1) (ci := 10) (v := .int 2) (ty := .int) (C := RX12) (T := TX12) (N := 20) hx hb hts izRX12 tyX12 tyX12_ok nmX12 hown hK hP hD hS 0 rfl rfl 0 (by decide) (hts _ k825) (fun _ h9 => h9) rfl (by decide +kernel) rfl rfl (Nat.le_of_ble_eq_true rfl) dX12_trust_31 (fun H locs hP hD hS => ?_)
        have hP : va_P g.1 vwCl (List.flatten [bMo g o a 2 hi ac tp ba en tA fl de iD iO tU fm fk fa fc ft ff fb fi]) H := hP
        have hD : va_D A (List.flatten [bMo g o a 2 hi ac tp ba en tA fl de iD iO tU fm fk fa fc ft ff fb fi]) := hD
        refine lv_aload_n hx hb dX12_trust_34 rfl (lv_at hl 0 rfl) ?_
        refine va_get (D := g.1) (ci := 10) (v := .int 2) (C := RX12) (T := TX12) (N := 20) hx hb hts izRX12 hown hK hP 0 rfl rfl 0 (by decide) (hts _ k825) (fun _ h9 => h9) rfl dX12_trust_35 ?_
        refine lv_if_le (tgt := 45) hx hb dX12_trust_38 (by decide) (fun c12 => absurd c12 (by decide)) (fun _ => ?_)
        refine lv_iconst (v := 0) hx hb dX12_trust_41 (by decide) ?_
        refine lv_goto (tgt := 51) hx hb dX12_trust_42 (by decide) ?_
        have hP : va_P g.1 vwCl (List.flatten [bMo g o a 2 hi ac tp ba en tA fl de iD iO tU fm fk fa fc ft ff fb fi]) H := hP
        have hD : va_D A (List.flatten [bMo g o a 2 hi ac tp ba en tA fl de iD iO tU fm fk fa fc ft ff fb fi]) := hD
        exact mret_i hx hb hr hlocks hS (Nat.le_of_ble_eq_true rfl) (Nat.le_of_ble_eq_true rfl) dX12_trust_51 ((2 : Int32), (0 : Int32)) rfl trivial hP hD
    · skip
      refine lv_if_ne (tgt := 21) hx hb dX12_trust_14 (by decide) (fun c13 => absurd (by decide) c13) (fun _ => ?_)
      refine lv_iconst (v := 1) hx hb dX12_trust_17 (by decide) ?_
      refine lv_goto (tgt := 31) hx hb dX12_trust_18 (by decide) ?_
      refine va_put (D := g.1) (ci := 10) (v := .int 1) (ty := .int) (C := RX12) (T := TX12) (N := 20) hx hb hts izRX12 tyX12 tyX12_ok nmX12 hown hK hP hD hS 0 rfl rfl 0 (by decide) (hts _ k825) (fun _ h9 => h9) rfl (by decide +kernel) rfl rfl (Nat.le_of_ble_eq_true rfl) dX12_trust_31 (fun H locs hP hD hS => ?_)
      have hP : va_P g.1 vwCl (List.flatten [bMo g o a 1 hi ac tp ba en tA fl de iD iO tU fm fk fa fc ft ff fb fi]) H := hP
      have hD : va_D A (List.flatten [bMo g o a 1 hi ac tp ba en tA fl de iD iO tU fm fk fa fc ft ff fb fi]) := hD
      refine lv_aload_n hx hb dX12_trust_34 rfl (lv_at hl 0 rfl) ?_
      refine va_get (D := g.1) (ci := 10) (v := .int 1) (C := RX12) (T := TX12) (N := 20) hx hb hts izRX12 hown hK hP 0 rfl rfl 0 (by decide) (hts _ k825) (fun _ h9 => h9) rfl dX12_trust_35 ?_
      refine lv_if_le (tgt := 45) hx hb dX12_trust_38 (by decide) (fun c14 => absurd c14 (by decide)) (fun _ => ?_)
      refine lv_iconst (v := 0) hx hb dX12_trust_41 (by decide) ?_
      refine lv_goto (tgt := 51) hx hb dX12_trust_42 (by decide) ?_
      have hP : va_P g.1 vwCl (List.flatten [bMo g o a 1 hi ac tp ba en tA fl de iD iO tU fm fk fa fc ft ff fb fi]) H := hP
      have hD : va_D A (List.flatten [bMo g o a 1 hi ac tp ba en tA fl de iD iO tU fm fk fa fc ft ff fb fi]) := hD
      exact mret_i hx hb hr hlocks hS (Nat.le_of_ble_eq_true rfl) (Nat.le_of_ble_eq_true rfl) dX12_trust_51 ((1 : Int32), (0 : Int32)) rfl trivial hP hD
  · skip
    refine lv_if_eq (tgt := 17) hx hb dX12_trust_6 (by decide) (fun _ => ?_) (fun c15 => absurd (by decide) c15)
    refine lv_iconst (v := 1) hx hb dX12_trust_17 (by decide) ?_
    refine lv_goto (tgt := 31) hx hb dX12_trust_18 (by decide) ?_
    refine va_put (D := g.1) (ci := 10) (v := .int 1) (ty := .int) (C := RX12) (T := TX12) (N := 20) hx hb hts izRX12 tyX12 tyX12_ok nmX12 hown hK hP hD hS 0 rfl rfl 0 (by decide) (hts _ k825) (fun _ h9 => h9) rfl (by decide +kernel) rfl rfl (Nat.le_of_ble_eq_true rfl) dX12_trust_31 (fun H locs hP hD hS => ?_)
    have hP : va_P g.1 vwCl (List.flatten [bMo g o a 1 hi ac tp ba en tA fl de iD iO tU fm fk fa fc ft ff fb fi]) H := hP
    have hD : va_D A (List.flatten [bMo g o a 1 hi ac tp ba en tA fl de iD iO tU fm fk fa fc ft ff fb fi]) := hD
    refine lv_aload_n hx hb dX12_trust_34 rfl (lv_at hl 0 rfl) ?_
    refine va_get (D := g.1) (ci := 10) (v := .int 1) (C := RX12) (T := TX12) (N := 20) hx hb hts izRX12 hown hK hP 0 rfl rfl 0 (by decide) (hts _ k825) (fun _ h9 => h9) rfl dX12_trust_35 ?_
    refine lv_if_le (tgt := 45) hx hb dX12_trust_38 (by decide) (fun c16 => absurd c16 (by decide)) (fun _ => ?_)
    refine lv_iconst (v := 0) hx hb dX12_trust_41 (by decide) ?_
    refine lv_goto (tgt := 51) hx hb dX12_trust_42 (by decide) ?_
    have hP : va_P g.1 vwCl (List.flatten [bMo g o a 1 hi ac tp ba en tA fl de iD iO tU fm fk fa fc ft ff fb fi]) H := hP
    have hD : va_D A (List.flatten [bMo g o a 1 hi ac tp ba en tA fl de iD iO tU fm fk fa fc ft ff fb fi]) := hD
    exact mret_i hx hb hr hlocks hS (Nat.le_of_ble_eq_true rfl) (Nat.le_of_ble_eq_true rfl) dX12_trust_51 ((1 : Int32), (0 : Int32)) rfl trivial hP hD
set_option maxRecDepth 100000 in
set_option maxHeartbeats 4000000 in
theorem m_work (l : Launch) (g : zG) (o : Nat) (a : Nat → Nat) (th : Int32) (hi : Int32) (ac : Int32) (tp : Int32) (ba : Int32) (en : Int32) (tA : Int32) (fl : Int32) (de : Int32) (iD : Int32) (iO : Int32) (tU : Int32) (fm : Nat → Int32) (fk : Nat → Int32) (fa : Nat → Int32) (fc : Nat → Int32) (ft : Nat → Int32) (ff : Nat → Int32) (fb : Nat → Int32) (fi : Nat → Int32) (w : Int32) (what : Int32) (rfm : rM fm) : zM' g l yX12_work (Cond.code yX12_work cX12_work 3 (some .int) :: zB) ({ frames := 2, cells := 0, slots := 0, locals := 43 } : Room) [.ref o, .int w, .int what] [bMo g o a th hi ac tp ba en tA fl de iD iO tU fm fk fa fc ft ff fb fi] (fun u : Int32 × Int32 => (fun (th2 : Int32) (q : Int32) => some (.int q)) (u.1) (u.2)) (fun u : Int32 × Int32 => (fun (th2 : Int32) (q : Int32) => True) (u.1) (u.2)) (fun u : Int32 × Int32 => (fun (th2 : Int32) (q : Int32) => [bMo g o a th2 hi ac tp ba en tA fl de iD iO tU fm fk fa fc ft ff fb fi]) (u.1) (u.2)) := by
  refine zM'.of (cc := cX12_work) (maxL := 3) (rt := (some .int)) (by decide) rfl (Nat.le_of_ble_eq_true rfl) ?_
  intro p e s m args below meth c A ls St hr hlocks hin hK hT hA hP hD hS hl
  obtain ⟨hx, hb, hml, hown, hts⟩ := id St
  have hl : lv_has ls 3 [(0, .ref o), (1, .int w), (2, .int what)] := hl
  refine lv_aload_n hx hb dX12_work_0 rfl (lv_at hl 0 rfl) ?_
  refine lv_aload_n hx hb dX12_work_1 rfl (lv_at hl 0 rfl) ?_
  refine lv_iload_n hx hb dX12_work_2 rfl (lv_at hl 1 rfl) ?_
  refine mcallV' (g := g) (q0 := 0) (ci := 10) (As := [.int w]) (rest := [.ref o]) St hK hT hA hP hD hS hl.1 [0] [] rfl rfl rfl (m_isWork l g o a th hi ac tp ba en tA fl de iD iO tU fm fk fa fc ft ff fb fi w rfm) (cwV 1 hts (zgL (zl4 k1042 k1043 k1044 k839) k840) rfl rfl rfl (by decide +kernel) ⟨Nat.le_of_ble_eq_true rfl, Nat.le_of_ble_eq_true rfl⟩) rfl rfl rfl rfl (Nat.le_of_ble_eq_true rfl) dX12_work_3 ⟨(Nat.le_of_ble_eq_true rfl), (Nat.le_of_ble_eq_true rfl)⟩ (fun q_1 H locs hq2 hP hD hS => ?_)
  replace hq2 : (q_1 = 1 ∧ 0 ≤ w.toInt ∧ w.toInt ≤ 5 ∧ w.toInt < (fm 4).toInt ∨ q_1 = 0) := hq2
  have hP : va_P g.1 vwCl (List.flatten [bMo g o a th hi ac tp ba en tA fl de iD iO tU fm fk fa fc ft ff fb fi]) H := hP
  have hD : va_D A (List.flatten [bMo g o a th hi ac tp ba en tA fl de iD iO tU fm fk fa fc ft ff fb fi]) := hD
  refine W.widen (k := 0) (n := 0) (Nat.le_of_ble_eq_true rfl) (Nat.le_of_ble_eq_true rfl) ?_
  refine W.eq (g2 := F0 m 6 ls [.int q_1, .ref o]) rfl ?_
  rcases hq2 with ⟨rfl, hq2_k⟩ | rfl
  · skip
    refine lv_if_ne (tgt := 13) hx hb dX12_work_6 (by decide) (fun _ => ?_) (fun c3 => absurd c3 (by decide))
    refine lv_iload_n hx hb dX12_work_13 rfl (lv_at hl 2 rfl) ?_
    refine lv_iconst (v := 0) hx hb dX12_work_14 (by decide) ?_
    refine lv_iconst (v := 3) hx hb dX12_work_15 (by decide) ?_
    have hL0 : (0 : Int32).toInt = 0 := by decide
    have hL3 : (3 : Int32).toInt = 3 := by decide
    refine mcallS' (g := g) (As := [.int what, .int 0, .int 3]) (rest := [.ref o]) St hK hT hA hP hD hS hl.1 [] [0] rfl rfl rfl (m_isIn l g what 0 3 ) (va_cwS 3 hts (zgL (zl3 k837 k838 k839) k826) rfl rfl rfl (by decide +kernel) ⟨Nat.le_of_ble_eq_true rfl, Nat.le_of_ble_eq_true rfl⟩) rfl rfl (Nat.le_of_ble_eq_true rfl) dX12_work_16 ⟨(Nat.le_of_ble_eq_true rfl), (Nat.le_of_ble_eq_true rfl)⟩ (fun q_4 H locs hq5 hP hD hS => ?_)
    replace hq5 : (q_4 = 1 ∧ (0 : Int32).toInt ≤ what.toInt ∧ what.toInt ≤ (3 : Int32).toInt ∨ q_4 = 0 ∧ (what.toInt < (0 : Int32).toInt ∨ (3 : Int32).toInt < what.toInt)) := hq5
    have hP : va_P g.1 vwCl (List.flatten [bMo g o a th hi ac tp ba en tA fl de iD iO tU fm fk fa fc ft ff fb fi]) H := hP
    have hD : va_D A (List.flatten [bMo g o a th hi ac tp ba en tA fl de iD iO tU fm fk fa fc ft ff fb fi]) := hD
    refine W.widen (k := 0) (n := 0) (Nat.le_of_ble_eq_true rfl) (Nat.le_of_ble_eq_true rfl) ?_
    refine W.eq (g2 := F0 m 19 ls [.int q_4, .ref o]) rfl ?_
    rcases hq5 with ⟨rfl, hq5_k⟩ | ⟨rfl, hq5_k⟩
    · skip
      refine lv_if_ne (tgt := 26) hx hb dX12_work_19 (by decide) (fun _ => ?_) (fun c6 => absurd c6 (by decide))
      refine lv_iconst (v := 0) hx hb dX12_work_26 (by decide) ?_
      refine va_put (D := g.1) (ci := 10) (v := .int 0) (ty := .int) (C := RX12) (T := TX12) (N := 20) hx hb hts izRX12 tyX12 tyX12_ok nmX12 hown hK hP hD hS 0 rfl rfl 0 (by decide) (hts _ k825) (fun _ h9 => h9) rfl (by decide +kernel) rfl rfl (Nat.le_of_ble_eq_true rfl) dX12_work_27 (fun H locs hP hD hS => ?_)
      have hP : va_P g.1 vwCl (List.flatten [bMo g o a 0 hi ac tp ba en tA fl de iD iO tU fm fk fa fc ft ff fb fi]) H := hP
      have hD : va_D A (List.flatten [bMo g o a 0 hi ac tp ba en tA fl de iD iO tU fm fk fa fc ft ff fb fi]) := hD
      refine lv_aload_n hx hb dX12_work_30 rfl (lv_at hl 0 rfl) ?_
      refine va_get (D := g.1) (ci := 10) (v := .int 0) (C := RX12) (T := TX12) (N := 20) hx hb hts izRX12 hown hK hP 0 rfl rfl 0 (by decide) (hts _ k825) (fun _ h9 => h9) rfl dX12_work_31 ?_
      refine lv_if_le (tgt := 41) hx hb dX12_work_34 (by decide) (fun _ => ?_) (fun c7 => absurd (by decide) c7)
      refine lv_aload_n hx hb dX12_work_41 rfl (lv_at hl 0 rfl) ?_
      refine lv_iload_n hx hb dX12_work_42 rfl (lv_at hl 1 rfl) ?_
      refine lv_iload_n hx hb dX12_work_43 rfl (lv_at hl 2 rfl) ?_
      refine mcallV' (g := g) (q0 := 0) (ci := 10) (As := [.int w, .int what]) (rest := []) St hK hT hA hP hD hS hl.1 [0] [] rfl rfl rfl (m_ofWork l g o a 0 hi ac tp ba en tA fl de iD iO tU fm fk fa fc ft ff fb fi w what (by first | assumption | omega | decide | exact Or.inl (by decide) | exact Or.inr (by decide)) (by first | assumption | omega | decide | exact Or.inl (by decide) | exact Or.inr (by decide))) (cwV 2 hts (zgL (zl4 k864 k865 k866 k839) k833) rfl rfl rfl (by decide +kernel) ⟨Nat.le_of_ble_eq_true rfl, Nat.le_of_ble_eq_true rfl⟩) rfl rfl rfl rfl (Nat.le_of_ble_eq_true rfl) dX12_work_44 ⟨(Nat.le_of_ble_eq_true rfl), (Nat.le_of_ble_eq_true rfl)⟩ (fun q_8 H locs hq9 hP hD hS => ?_)
      have hP : va_P g.1 vwCl (List.flatten [bMo g o a 0 hi ac tp ba en tA fl de iD iO tU fm fk fa fc ft ff fb fi]) H := hP
      have hD : va_D A (List.flatten [bMo g o a 0 hi ac tp ba en tA fl de iD iO tU fm fk fa fc ft ff fb fi]) := hD
      refine W.widen (k := 0) (n := 0) (Nat.le_of_ble_eq_true rfl) (Nat.le_of_ble_eq_true rfl) ?_
      refine W.eq (g2 := F0 m 47 ls [.int q_8]) rfl ?_
      have hP : va_P g.1 vwCl (List.flatten [bMo g o a 0 hi ac tp ba en tA fl de iD iO tU fm fk fa fc ft ff fb fi]) H := hP
      have hD : va_D A (List.flatten [bMo g o a 0 hi ac tp ba en tA fl de iD iO tU fm fk fa fc ft ff fb fi]) := hD
      exact mret_i hx hb hr hlocks hS (Nat.le_of_ble_eq_true rfl) (Nat.le_of_ble_eq_true rfl) dX12_work_47 ((0 : Int32), q_8) rfl trivial hP hD
    · skip
      refine lv_if_ne (tgt := 26) hx hb dX12_work_19 (by decide) (fun c10 => absurd (by decide) c10) (fun _ => ?_)
      refine lv_iconst (v := 2) hx hb dX12_work_22 (by decide) ?_
      refine lv_goto (tgt := 27) hx hb dX12_work_23 (by decide) ?_
      refine va_put (D := g.1) (ci := 10) (v := .int 2) (ty := .int) (C := RX12) (T := TX12) (N := 20) hx hb hts izRX12 tyX12 tyX12_ok nmX12 hown hK hP hD hS 0 rfl rfl 0 (by decide) (hts _ k825) (fun _ h9 => h9) rfl (by decide +kernel) rfl rfl (Nat.le_of_ble_eq_true rfl) dX12_work_27 (fun H locs hP hD hS => ?_)
      have hP : va_P g.1 vwCl (List.flatten [bMo g o a 2 hi ac tp ba en tA fl de iD iO tU fm fk fa fc ft ff fb fi]) H := hP
      have hD : va_D A (List.flatten [bMo g o a 2 hi ac tp ba en tA fl de iD iO tU fm fk fa fc ft ff fb fi]) := hD
      refine lv_aload_n hx hb dX12_work_30 rfl (lv_at hl 0 rfl) ?_
      refine va_get (D := g.1) (ci := 10) (v := .int 2) (C := RX12) (T := TX12) (N := 20) hx hb hts izRX12 hown hK hP 0 rfl rfl 0 (by decide) (hts _ k825) (fun _ h9 => h9) rfl dX12_work_31 ?_
      refine lv_if_le (tgt := 41) hx hb dX12_work_34 (by decide) (fun c11 => absurd c11 (by decide)) (fun _ => ?_)
      refine lv_iconst (v := 0) hx hb dX12_work_37 (by decide) ?_
      refine lv_goto (tgt := 47) hx hb dX12_work_38 (by decide) ?_
      have hP : va_P g.1 vwCl (List.flatten [bMo g o a 2 hi ac tp ba en tA fl de iD iO tU fm fk fa fc ft ff fb fi]) H := hP
      have hD : va_D A (List.flatten [bMo g o a 2 hi ac tp ba en tA fl de iD iO tU fm fk fa fc ft ff fb fi]) := hD
      exact mret_i hx hb hr hlocks hS (Nat.le_of_ble_eq_true rfl) (Nat.le_of_ble_eq_true rfl) dX12_work_47 ((2 : Int32), (0 : Int32)) rfl trivial hP hD
  · skip
    refine lv_if_ne (tgt := 13) hx hb dX12_work_6 (by decide) (fun c12 => absurd (by decide) c12) (fun _ => ?_)
    refine lv_iconst (v := 1) hx hb dX12_work_9 (by decide) ?_
    refine lv_goto (tgt := 27) hx hb dX12_work_10 (by decide) ?_
    refine va_put (D := g.1) (ci := 10) (v := .int 1) (ty := .int) (C := RX12) (T := TX12) (N := 20) hx hb hts izRX12 tyX12 tyX12_ok nmX12 hown hK hP hD hS 0 rfl rfl 0 (by decide) (hts _ k825) (fun _ h9 => h9) rfl (by decide +kernel) rfl rfl (Nat.le_of_ble_eq_true rfl) dX12_work_27 (fun H locs hP hD hS => ?_)
    have hP : va_P g.1 vwCl (List.flatten [bMo g o a 1 hi ac tp ba en tA fl de iD iO tU fm fk fa fc ft ff fb fi]) H := hP
    have hD : va_D A (List.flatten [bMo g o a 1 hi ac tp ba en tA fl de iD iO tU fm fk fa fc ft ff fb fi]) := hD
    refine lv_aload_n hx hb dX12_work_30 rfl (lv_at hl 0 rfl) ?_
    refine va_get (D := g.1) (ci := 10) (v := .int 1) (C := RX12) (T := TX12) (N := 20) hx hb hts izRX12 hown hK hP 0 rfl rfl 0 (by decide) (hts _ k825) (fun _ h9 => h9) rfl dX12_work_31 ?_
    refine lv_if_le (tgt := 41) hx hb dX12_work_34 (by decide) (fun c13 => absurd c13 (by decide)) (fun _ => ?_)
    refine lv_iconst (v := 0) hx hb dX12_work_37 (by decide) ?_
    refine lv_goto (tgt := 47) hx hb dX12_work_38 (by decide) ?_
    have hP : va_P g.1 vwCl (List.flatten [bMo g o a 1 hi ac tp ba en tA fl de iD iO tU fm fk fa fc ft ff fb fi]) H := hP
    have hD : va_D A (List.flatten [bMo g o a 1 hi ac tp ba en tA fl de iD iO tU fm fk fa fc ft ff fb fi]) := hD
    exact mret_i hx hb hr hlocks hS (Nat.le_of_ble_eq_true rfl) (Nat.le_of_ble_eq_true rfl) dX12_work_47 ((1 : Int32), (0 : Int32)) rfl trivial hP hD
set_option maxRecDepth 100000 in
set_option maxHeartbeats 4000000 in
theorem m_chosen (l : Launch) (g : zG) (o : Nat) (a : Nat → Nat) (th : Int32) (hi : Int32) (ac : Int32) (tp : Int32) (ba : Int32) (en : Int32) (tA : Int32) (fl : Int32) (de : Int32) (iD : Int32) (iO : Int32) (tU : Int32) (fm : Nat → Int32) (fk : Nat → Int32) (fa : Nat → Int32) (fc : Nat → Int32) (ft : Nat → Int32) (ff : Nat → Int32) (fb : Nat → Int32) (fi : Nat → Int32) (much : Int32) (rfm : rM fm) : zM' g l yX12_chosen (Cond.code yX12_chosen cX12_chosen 5 (some .int) :: zB) ({ frames := 3, cells := 0, slots := 0, locals := 65 } : Room) [.ref o, .int much] [bMo g o a th hi ac tp ba en tA fl de iD iO tU fm fk fa fc ft ff fb fi] (fun u : Int32 × Int32 => (fun (th2 : Int32) (q : Int32) => some (.int q)) (u.1) (u.2)) (fun u : Int32 × Int32 => (fun (th2 : Int32) (q : Int32) => True) (u.1) (u.2)) (fun u : Int32 × Int32 => (fun (th2 : Int32) (q : Int32) => [bMo g o a th2 hi ac tp ba en tA fl de iD iO tU fm fk fa fc ft ff fb fi]) (u.1) (u.2)) := by
  refine zM'.of (cc := cX12_chosen) (maxL := 5) (rt := (some .int)) (by decide) rfl (Nat.le_of_ble_eq_true rfl) ?_
  intro p e s m args below meth c A ls St hr hlocks hin hK hT hA hP hD hS hl
  obtain ⟨hx, hb, hml, hown, hts⟩ := id St
  have hl : lv_has ls 5 [(0, .ref o), (1, .int much)] := hl
  refine lv_aload_n hx hb dX12_chosen_0 rfl (lv_at hl 0 rfl) ?_
  refine lv_iconst (v := 0) hx hb dX12_chosen_1 (by decide) ?_
  refine va_put (D := g.1) (ci := 10) (v := .int 0) (ty := .int) (C := RX12) (T := TX12) (N := 20) hx hb hts izRX12 tyX12 tyX12_ok nmX12 hown hK hP hD hS 0 rfl rfl 0 (by decide) (hts _ k825) (fun _ h9 => h9) rfl (by decide +kernel) rfl rfl (Nat.le_of_ble_eq_true rfl) dX12_chosen_2 (fun H locs hP hD hS => ?_)
  have hP : va_P g.1 vwCl (List.flatten [bMo g o a 0 hi ac tp ba en tA fl de iD iO tU fm fk fa fc ft ff fb fi]) H := hP
  have hD : va_D A (List.flatten [bMo g o a 0 hi ac tp ba en tA fl de iD iO tU fm fk fa fc ft ff fb fi]) := hD
  refine lv_iconst (v := 0) hx hb dX12_chosen_5 (by decide) ?_
  refine lv_istore_n (lv' := [(2, .int 0), (0, .ref o), (1, .int much)]) hx hb dX12_chosen_6 rfl hl (by decide) rfl (fun ls hl => ?_)
  refine lv_iconst (v := 0) hx hb dX12_chosen_7 (by decide) ?_
  refine lv_istore_n (lv' := [(3, .int 0), (2, .int 0), (0, .ref o), (1, .int much)]) hx hb dX12_chosen_8 rfl hl (by decide) rfl (fun ls hl => ?_)
  have hl := lv_sub (l' := [(0, .ref o), (1, .int much), (2, .int 0), (3, .int 0)]) hl [2, 3, 1, 0] rfl
  have LP9_4 : ∀ (kf : Nat) (x_1 : Int32) (x_2 : Int32), (0 ≤ x_2.toInt ∧ x_2.toInt ≤ 6) → ∀ (H : Heap) (locs : List Loc) (ls : Array Slot), ((7 - x_2.toInt).toNat) < kf → va_P g.1 vwCl (List.flatten [bMo g o a 0 hi ac tp ba en tA fl de iD iO tU fm fk fa fc ft ff fb fi]) H → va_D A (List.flatten [bMo g o a 0 hi ac tp ba en tA fl de iD iO tU fm fk fa fc ft ff fb fi]) → va_S A s.heap H locs → lv_has ls 5 [(0, .ref o), (1, .int much), (2, .int x_1), (3, .int x_2)] → W p l e ({ frames := 3, cells := 0, slots := 0, locals := 65 } : Room) s m args below meth c H locs (0) (0) (zF g (fun u : Int32 × Int32 => (fun (th2 : Int32) (q : Int32) => some (.int q)) (u.1) (u.2)) (fun u : Int32 × Int32 => (fun (th2 : Int32) (q : Int32) => True) (u.1) (u.2)) (fun u : Int32 × Int32 => (fun (th2 : Int32) (q : Int32) => [bMo g o a th2 hi ac tp ba en tA fl de iD iO tU fm fk fa fc ft ff fb fi]) (u.1) (u.2)) ({ frames := 3, cells := 0, slots := 0, locals := 65 } : Room) below args s A) (F0 m 9 ls []) := by
    intro kf
    induction kf with
    | zero => intro x_1 x_2 i3 H locs ls hk; exact absurd hk (Nat.not_lt_zero _)
    | succ kf ih9_5 =>
      intro x_1 x_2 i3 H locs ls hk9_5 hP hD hS hl
      refine lv_iload_n hx hb dX12_chosen_9 rfl (lv_at hl 3 rfl) ?_
      refine lv_aload_n hx hb dX12_chosen_10 rfl (lv_at hl 0 rfl) ?_
      refine va_get (D := g.1) (ci := 10) (v := .ref (a 0)) (C := RX12) (T := TX12) (N := 20) hx hb hts izRX12 hown hK hP 0 rfl rfl 1 (by decide) (hts _ k815) (fun _ h9 => h9) rfl dX12_chosen_11 ?_
      refine lv_iconst (v := 4) hx hb dX12_chosen_14 (by decide) ?_
      refine va_iald hx hb hK hP 1 0 rfl rfl (zin rfl) dX12_chosen_15 ?_
      refine zgq (r := fm 4) rfl (rM4 rfm) (fun x_6 hx_6 => ?_)
      refine lv_icmp_ge (tgt := 57) hx hb dX12_chosen_16 (by decide) (fun cb9 => ?_) (fun cb9 => ?_)
      · skip
        have c7 : x_6.toInt ≤ x_2.toInt := zle cb9 rfl rfl
        refine lv_iconst (v := 0) hx hb dX12_chosen_57 (by decide) ?_
        refine lv_istore_n (lv' := [(3, .int 0), (0, .ref o), (1, .int much), (2, .int x_1)]) hx hb dX12_chosen_58 rfl hl (by decide) rfl (fun ls hl => ?_)
        refine lv_iconst (v := 0) hx hb dX12_chosen_59 (by decide) ?_
        refine lv_istore (lv' := [(4, .int 0), (3, .int 0), (0, .ref o), (1, .int much), (2, .int x_1)]) hx hb dX12_chosen_60 hl (by decide) rfl (fun ls hl => ?_)
        have hl := lv_sub (l' := [(0, .ref o), (1, .int much), (2, .int x_1), (3, .int 0), (4, .int 0)]) hl [2, 3, 4, 1, 0] rfl
        have LP62_12 : ∀ (kf : Nat) (x_8 : Int32) (x_9 : Int32), (0 ≤ x_8.toInt ∧ x_8.toInt ≤ 63) → (0 ≤ x_9.toInt ∧ x_9.toInt ≤ 64) → ∀ (H : Heap) (locs : List Loc) (ls : Array Slot), ((65 - x_9.toInt).toNat) < kf → va_P g.1 vwCl (List.flatten [bMo g o a 0 hi ac tp ba en tA fl de iD iO tU fm fk fa fc ft ff fb fi]) H → va_D A (List.flatten [bMo g o a 0 hi ac tp ba en tA fl de iD iO tU fm fk fa fc ft ff fb fi]) → va_S A s.heap H locs → lv_has ls 5 [(0, .ref o), (1, .int much), (2, .int x_1), (3, .int x_8), (4, .int x_9)] → W p l e ({ frames := 3, cells := 0, slots := 0, locals := 65 } : Room) s m args below meth c H locs (0) (0) (zF g (fun u : Int32 × Int32 => (fun (th2 : Int32) (q : Int32) => some (.int q)) (u.1) (u.2)) (fun u : Int32 × Int32 => (fun (th2 : Int32) (q : Int32) => True) (u.1) (u.2)) (fun u : Int32 × Int32 => (fun (th2 : Int32) (q : Int32) => [bMo g o a th2 hi ac tp ba en tA fl de iD iO tU fm fk fa fc ft ff fb fi]) (u.1) (u.2)) ({ frames := 3, cells := 0, slots := 0, locals := 65 } : Room) below args s A) (F0 m 62 ls []) := by
          intro kf
          induction kf with
          | zero => intro x_8 x_9 i10 i11 H locs ls hk; exact absurd hk (Nat.not_lt_zero _)
          | succ kf ih62_13 =>
            intro x_8 x_9 i10 i11 H locs ls hk62_13 hP hD hS hl
            refine lv_iload hx hb dX12_chosen_62 (lv_at hl 4 rfl) ?_
            refine lv_iconst (v := 1) hx hb dX12_chosen_64 (by decide) ?_
            refine lv_aload_n hx hb dX12_chosen_65 rfl (lv_at hl 0 rfl) ?_
            refine va_get (D := g.1) (ci := 10) (v := .ref (a 0)) (C := RX12) (T := TX12) (N := 20) hx hb hts izRX12 hown hK hP 0 rfl rfl 1 (by decide) (hts _ k815) (fun _ h9 => h9) rfl dX12_chosen_66 ?_
            refine lv_iconst (v := 4) hx hb dX12_chosen_69 (by decide) ?_
            refine va_iald hx hb hK hP 1 0 rfl rfl (zin rfl) dX12_chosen_70 ?_
            refine zgq (r := fm 4) rfl (rM4 rfm) (fun x_14 hx_14 => ?_)
            refine lv_ishl hx hb dX12_chosen_71 ?_
            refine zgb (zshl1 (j := x_14.toInt) rfl 6 64 (by decide) (by decide) ⟨hx_14.1, hx_14.2.1⟩) (fun x_15 hx_15 => ?_)
            refine lv_icmp_ge (tgt := 125) hx hb dX12_chosen_72 (by decide) (fun cb9 => ?_) (fun cb9 => ?_)
            · skip
              have c16 : x_15.toInt ≤ x_9.toInt := zle cb9 rfl rfl
              have n17 : 1 ≤ x_9.toInt := Int.le_trans hx_15.1 c16
              refine lv_iload_n hx hb dX12_chosen_125 rfl (lv_at hl 1 rfl) ?_
              refine lv_if_eq (tgt := 138) hx hb dX12_chosen_126 (by decide) (fun cb9 => ?_) (fun cb9 => ?_)
              · skip
                have c18 : much.toInt = 0 := zeq cb9 rfl (by decide)
                have n19 : 0 ≤ much.toInt := Int.le_trans (Int.le_refl _) (Int.le_of_eq c18.symm)
                have n20 : much.toInt ≤ 0 := Int.le_trans (Int.le_of_eq c18) (Int.le_refl _)
                refine lv_iload_n hx hb dX12_chosen_138 rfl (lv_at hl 3 rfl) ?_
                have hP : va_P g.1 vwCl (List.flatten [bMo g o a 0 hi ac tp ba en tA fl de iD iO tU fm fk fa fc ft ff fb fi]) H := hP
                have hD : va_D A (List.flatten [bMo g o a 0 hi ac tp ba en tA fl de iD iO tU fm fk fa fc ft ff fb fi]) := hD
                exact mret_i hx hb hr hlocks hS (Nat.le_of_ble_eq_true rfl) (Nat.le_of_ble_eq_true rfl) dX12_chosen_139 ((0 : Int32), x_8) rfl trivial hP hD
              · skip
                have c21 : ¬ much.toInt = 0 := zne cb9 rfl (by decide)
                refine lv_aload_n hx hb dX12_chosen_129 rfl (lv_at hl 0 rfl) ?_
                refine lv_iload_n hx hb dX12_chosen_130 rfl (lv_at hl 3 rfl) ?_
                refine lv_iconst (v := 2) hx hb dX12_chosen_131 (by decide) ?_
                have hL2 : (2 : Int32).toInt = 2 := by decide
                refine mcallV' (g := g) (q0 := 0) (ci := 10) (As := [.int x_8, .int 2]) (rest := []) St hK hT hA hP hD hS hl.1 [0] [] rfl rfl rfl (m_sumOf l g o a 0 hi ac tp ba en tA fl de iD iO tU fm fk fa fc ft ff fb fi x_8 2 rfm (by decide)) (cwV 2 hts (zgL (zl4 k1083 k1084 k1085 k839) k1082) rfl rfl rfl (by decide +kernel) ⟨Nat.le_of_ble_eq_true rfl, Nat.le_of_ble_eq_true rfl⟩) rfl rfl rfl rfl (Nat.le_of_ble_eq_true rfl) dX12_chosen_132 ⟨(Nat.le_of_ble_eq_true rfl), (Nat.le_of_ble_eq_true rfl)⟩ (fun q_22 H locs hq23 hP hD hS => ?_)
                have hP : va_P g.1 vwCl (List.flatten [bMo g o a 0 hi ac tp ba en tA fl de iD iO tU fm fk fa fc ft ff fb fi]) H := hP
                have hD : va_D A (List.flatten [bMo g o a 0 hi ac tp ba en tA fl de iD iO tU fm fk fa fc ft ff fb fi]) := hD
                refine W.widen (k := 0) (n := 0) (Nat.le_of_ble_eq_true rfl) (Nat.le_of_ble_eq_true rfl) ?_
                refine W.eq (g2 := F0 m 135 ls [.int q_22]) rfl ?_
                refine lv_goto (tgt := 139) hx hb dX12_chosen_135 (by decide) ?_
                have hP : va_P g.1 vwCl (List.flatten [bMo g o a 0 hi ac tp ba en tA fl de iD iO tU fm fk fa fc ft ff fb fi]) H := hP
                have hD : va_D A (List.flatten [bMo g o a 0 hi ac tp ba en tA fl de iD iO tU fm fk fa fc ft ff fb fi]) := hD
                exact mret_i hx hb hr hlocks hS (Nat.le_of_ble_eq_true rfl) (Nat.le_of_ble_eq_true rfl) dX12_chosen_139 ((0 : Int32), q_22) rfl trivial hP hD
            · skip
              have c24 : x_9.toInt < x_15.toInt := zlti (Int32.not_le.mp cb9) rfl rfl
              have n25 : x_9.toInt ≤ 63 := zL1 (b := 64) c24 hx_15.2 (by decide)
              refine lv_iload hx hb dX12_chosen_75 (lv_at hl 4 rfl) ?_
              refine lv_iload_n hx hb dX12_chosen_77 rfl (lv_at hl 2 rfl) ?_
              refine lv_iconst (v := (-1)) hx hb dX12_chosen_78 (by decide) ?_
              refine lv_ixor hx hb dX12_chosen_79 ?_
              refine zg (fun x_26 => ?_)
              refine lv_iand hx hb dX12_chosen_80 ?_
              refine zg (fun x_27 => ?_)
              refine lv_if_ne (tgt := 119) hx hb dX12_chosen_81 (by decide) (fun cb9 => ?_) (fun cb9 => ?_)
              · skip
                have c28 : ¬ x_27.toInt = 0 := zne cb9 rfl (by decide)
                refine ziinc3 (n' := 1) (a' := 1) (b' := 64) (lv' := fun v9 => [(4, .int v9), (0, .ref o), (1, .int much), (2, .int x_1), (3, .int x_8)]) hx hb dX12_chosen_119 hl (k := 4) rfl (by decide) (fun _ => rfl) (zaddK (i := x_9.toInt) (j := 1) rfl (by decide) i11.1 n25 (Int.le_refl _) (Int.le_refl _) (by decide)) (fun x_29 ls hx_29 hl => ?_)
                refine lv_goto (tgt := 62) hx hb dX12_chosen_122 (by decide) ?_
                have hl := lv_sub (l' := [(0, .ref o), (1, .int much), (2, .int x_1), (3, .int x_8), (4, .int x_29)]) hl [1, 2, 3, 4, 0] rfl
                have hP : va_P g.1 vwCl (List.flatten [bMo g o a 0 hi ac tp ba en tA fl de iD iO tU fm fk fa fc ft ff fb fi]) H := hP
                have hD : va_D A (List.flatten [bMo g o a 0 hi ac tp ba en tA fl de iD iO tU fm fk fa fc ft ff fb fi]) := hD
                exact ih62_13 x_8 x_29 ⟨i10.1, i10.2⟩ ⟨(Int.le_trans (by decide) hx_29.2.1), hx_29.2.2⟩ H _ ls (zmK hx_29.1 (by decide) n25 (by decide) hk62_13)  hP hD hS (lv_sub hl [0, 1, 2, 3, 4] rfl)
              · skip
                have c30 : x_27.toInt = 0 := zeq cb9 rfl (by decide)
                have n31 : 0 ≤ x_27.toInt := Int.le_trans (Int.le_refl _) (Int.le_of_eq c30.symm)
                have n32 : x_27.toInt ≤ 0 := Int.le_trans (Int.le_of_eq c30) (Int.le_refl _)
                refine lv_aload_n hx hb dX12_chosen_84 rfl (lv_at hl 0 rfl) ?_
                refine lv_iload hx hb dX12_chosen_85 (lv_at hl 4 rfl) ?_
                refine lv_iconst (v := 0) hx hb dX12_chosen_87 (by decide) ?_
                have hL0 : (0 : Int32).toInt = 0 := by decide
                refine mcallV' (g := g) (q0 := 0) (ci := 10) (As := [.int x_9, .int 0]) (rest := []) St hK hT hA hP hD hS hl.1 [0] [] rfl rfl rfl (m_sumOf l g o a 0 hi ac tp ba en tA fl de iD iO tU fm fk fa fc ft ff fb fi x_9 0 rfm (by decide)) (cwV 2 hts (zgL (zl4 k1083 k1084 k1085 k839) k1082) rfl rfl rfl (by decide +kernel) ⟨Nat.le_of_ble_eq_true rfl, Nat.le_of_ble_eq_true rfl⟩) rfl rfl rfl rfl (Nat.le_of_ble_eq_true rfl) dX12_chosen_88 ⟨(Nat.le_of_ble_eq_true rfl), (Nat.le_of_ble_eq_true rfl)⟩ (fun q_33 H locs hq34 hP hD hS => ?_)
                have hP : va_P g.1 vwCl (List.flatten [bMo g o a 0 hi ac tp ba en tA fl de iD iO tU fm fk fa fc ft ff fb fi]) H := hP
                have hD : va_D A (List.flatten [bMo g o a 0 hi ac tp ba en tA fl de iD iO tU fm fk fa fc ft ff fb fi]) := hD
                refine W.widen (k := 0) (n := 0) (Nat.le_of_ble_eq_true rfl) (Nat.le_of_ble_eq_true rfl) ?_
                refine W.eq (g2 := F0 m 91 ls [.int q_33]) rfl ?_
                refine lv_aload_n hx hb dX12_chosen_91 rfl (lv_at hl 0 rfl) ?_
                refine va_get (D := g.1) (ci := 10) (v := .ref (a 0)) (C := RX12) (T := TX12) (N := 20) hx hb hts izRX12 hown hK hP 0 rfl rfl 1 (by decide) (hts _ k815) (fun _ h9 => h9) rfl dX12_chosen_92 ?_
                refine lv_iconst (v := 5) hx hb dX12_chosen_95 (by decide) ?_
                refine va_iald hx hb hK hP 1 0 rfl rfl (zin rfl) dX12_chosen_96 ?_
                refine zg (fun x_35 => ?_)
                refine lv_icmp_gt (tgt := 119) hx hb dX12_chosen_97 (by decide) (fun cb9 => ?_) (fun cb9 => ?_)
                · skip
                  have c36 : x_35.toInt < q_33.toInt := zlti cb9 rfl rfl
                  refine ziinc3 (n' := 1) (a' := 1) (b' := 64) (lv' := fun v9 => [(4, .int v9), (0, .ref o), (1, .int much), (2, .int x_1), (3, .int x_8)]) hx hb dX12_chosen_119 hl (k := 4) rfl (by decide) (fun _ => rfl) (zaddK (i := x_9.toInt) (j := 1) rfl (by decide) i11.1 n25 (Int.le_refl _) (Int.le_refl _) (by decide)) (fun x_37 ls hx_37 hl => ?_)
                  refine lv_goto (tgt := 62) hx hb dX12_chosen_122 (by decide) ?_
                  have hl := lv_sub (l' := [(0, .ref o), (1, .int much), (2, .int x_1), (3, .int x_8), (4, .int x_37)]) hl [1, 2, 3, 4, 0] rfl
                  have hP : va_P g.1 vwCl (List.flatten [bMo g o a 0 hi ac tp ba en tA fl de iD iO tU fm fk fa fc ft ff fb fi]) H := hP
                  have hD : va_D A (List.flatten [bMo g o a 0 hi ac tp ba en tA fl de iD iO tU fm fk fa fc ft ff fb fi]) := hD
                  exact ih62_13 x_8 x_37 ⟨i10.1, i10.2⟩ ⟨(Int.le_trans (by decide) hx_37.2.1), hx_37.2.2⟩ H _ ls (zmK hx_37.1 (by decide) n25 (by decide) hk62_13)  hP hD hS (lv_sub hl [0, 1, 2, 3, 4] rfl)
                · skip
                  have c38 : q_33.toInt ≤ x_35.toInt := zle (Int32.not_lt.mp cb9) rfl rfl
                  refine lv_aload_n hx hb dX12_chosen_100 rfl (lv_at hl 0 rfl) ?_
                  refine lv_iload hx hb dX12_chosen_101 (lv_at hl 4 rfl) ?_
                  refine lv_iconst (v := 2) hx hb dX12_chosen_103 (by decide) ?_
                  have hL2 : (2 : Int32).toInt = 2 := by decide
                  refine mcallV' (g := g) (q0 := 0) (ci := 10) (As := [.int x_9, .int 2]) (rest := []) St hK hT hA hP hD hS hl.1 [0] [] rfl rfl rfl (m_sumOf l g o a 0 hi ac tp ba en tA fl de iD iO tU fm fk fa fc ft ff fb fi x_9 2 rfm (by decide)) (cwV 2 hts (zgL (zl4 k1083 k1084 k1085 k839) k1082) rfl rfl rfl (by decide +kernel) ⟨Nat.le_of_ble_eq_true rfl, Nat.le_of_ble_eq_true rfl⟩) rfl rfl rfl rfl (Nat.le_of_ble_eq_true rfl) dX12_chosen_104 ⟨(Nat.le_of_ble_eq_true rfl), (Nat.le_of_ble_eq_true rfl)⟩ (fun q_39 H locs hq40 hP hD hS => ?_)
                  have hP : va_P g.1 vwCl (List.flatten [bMo g o a 0 hi ac tp ba en tA fl de iD iO tU fm fk fa fc ft ff fb fi]) H := hP
                  have hD : va_D A (List.flatten [bMo g o a 0 hi ac tp ba en tA fl de iD iO tU fm fk fa fc ft ff fb fi]) := hD
                  refine W.widen (k := 0) (n := 0) (Nat.le_of_ble_eq_true rfl) (Nat.le_of_ble_eq_true rfl) ?_
                  refine W.eq (g2 := F0 m 107 ls [.int q_39]) rfl ?_
                  refine lv_aload_n hx hb dX12_chosen_107 rfl (lv_at hl 0 rfl) ?_
                  refine lv_iload_n hx hb dX12_chosen_108 rfl (lv_at hl 3 rfl) ?_
                  refine lv_iconst (v := 2) hx hb dX12_chosen_109 (by decide) ?_
                  refine mcallV' (g := g) (q0 := 0) (ci := 10) (As := [.int x_8, .int 2]) (rest := [.int q_39]) St hK hT hA hP hD hS hl.1 [0] [] rfl rfl rfl (m_sumOf l g o a 0 hi ac tp ba en tA fl de iD iO tU fm fk fa fc ft ff fb fi x_8 2 rfm (by decide)) (cwV 2 hts (zgL (zl4 k1083 k1084 k1085 k839) k1082) rfl rfl rfl (by decide +kernel) ⟨Nat.le_of_ble_eq_true rfl, Nat.le_of_ble_eq_true rfl⟩) rfl rfl rfl rfl (Nat.le_of_ble_eq_true rfl) dX12_chosen_110 ⟨(Nat.le_of_ble_eq_true rfl), (Nat.le_of_ble_eq_true rfl)⟩ (fun q_41 H locs hq42 hP hD hS => ?_)
                  have hP : va_P g.1 vwCl (List.flatten [bMo g o a 0 hi ac tp ba en tA fl de iD iO tU fm fk fa fc ft ff fb fi]) H := hP
                  have hD : va_D A (List.flatten [bMo g o a 0 hi ac tp ba en tA fl de iD iO tU fm fk fa fc ft ff fb fi]) := hD
                  refine W.widen (k := 0) (n := 0) (Nat.le_of_ble_eq_true rfl) (Nat.le_of_ble_eq_true rfl) ?_
                  refine W.eq (g2 := F0 m 113 ls [.int q_41, .int q_39]) rfl ?_
                  refine lv_icmp_le (tgt := 119) hx hb dX12_chosen_113 (by decide) (fun cb9 => ?_) (fun cb9 => ?_)
                  · skip
                    have c43 : q_39.toInt ≤ q_41.toInt := zle cb9 rfl rfl
                    refine ziinc3 (n' := 1) (a' := 1) (b' := 64) (lv' := fun v9 => [(4, .int v9), (0, .ref o), (1, .int much), (2, .int x_1), (3, .int x_8)]) hx hb dX12_chosen_119 hl (k := 4) rfl (by decide) (fun _ => rfl) (zaddK (i := x_9.toInt) (j := 1) rfl (by decide) i11.1 n25 (Int.le_refl _) (Int.le_refl _) (by decide)) (fun x_44 ls hx_44 hl => ?_)
                    refine lv_goto (tgt := 62) hx hb dX12_chosen_122 (by decide) ?_
                    have hl := lv_sub (l' := [(0, .ref o), (1, .int much), (2, .int x_1), (3, .int x_8), (4, .int x_44)]) hl [1, 2, 3, 4, 0] rfl
                    have hP : va_P g.1 vwCl (List.flatten [bMo g o a 0 hi ac tp ba en tA fl de iD iO tU fm fk fa fc ft ff fb fi]) H := hP
                    have hD : va_D A (List.flatten [bMo g o a 0 hi ac tp ba en tA fl de iD iO tU fm fk fa fc ft ff fb fi]) := hD
                    exact ih62_13 x_8 x_44 ⟨i10.1, i10.2⟩ ⟨(Int.le_trans (by decide) hx_44.2.1), hx_44.2.2⟩ H _ ls (zmK hx_44.1 (by decide) n25 (by decide) hk62_13)  hP hD hS (lv_sub hl [0, 1, 2, 3, 4] rfl)
                  · skip
                    have c45 : q_41.toInt < q_39.toInt := zlti (Int32.not_le.mp cb9) rfl rfl
                    refine lv_iload hx hb dX12_chosen_116 (lv_at hl 4 rfl) ?_
                    refine lv_istore_n (lv' := [(3, .int x_9), (0, .ref o), (1, .int much), (2, .int x_1), (4, .int x_9)]) hx hb dX12_chosen_118 rfl hl (by decide) rfl (fun ls hl => ?_)
                    refine ziinc3 (n' := 1) (a' := 1) (b' := 64) (lv' := fun v9 => [(4, .int v9), (3, .int x_9), (0, .ref o), (1, .int much), (2, .int x_1)]) hx hb dX12_chosen_119 hl (k := 4) rfl (by decide) (fun _ => rfl) (zaddK (i := x_9.toInt) (j := 1) rfl (by decide) i11.1 n25 (Int.le_refl _) (Int.le_refl _) (by decide)) (fun x_46 ls hx_46 hl => ?_)
                    refine lv_goto (tgt := 62) hx hb dX12_chosen_122 (by decide) ?_
                    have hl := lv_sub (l' := [(0, .ref o), (1, .int much), (2, .int x_1), (3, .int x_9), (4, .int x_46)]) hl [2, 3, 4, 1, 0] rfl
                    have hP : va_P g.1 vwCl (List.flatten [bMo g o a 0 hi ac tp ba en tA fl de iD iO tU fm fk fa fc ft ff fb fi]) H := hP
                    have hD : va_D A (List.flatten [bMo g o a 0 hi ac tp ba en tA fl de iD iO tU fm fk fa fc ft ff fb fi]) := hD
                    exact ih62_13 x_9 x_46 ⟨i11.1, n25⟩ ⟨(Int.le_trans (by decide) hx_46.2.1), hx_46.2.2⟩ H _ ls (zmK hx_46.1 (by decide) n25 (by decide) hk62_13)  hP hD hS (lv_sub hl [0, 1, 2, 3, 4] rfl)
        have hP : va_P g.1 vwCl (List.flatten [bMo g o a 0 hi ac tp ba en tA fl de iD iO tU fm fk fa fc ft ff fb fi]) H := hP
        have hD : va_D A (List.flatten [bMo g o a 0 hi ac tp ba en tA fl de iD iO tU fm fk fa fc ft ff fb fi]) := hD
        exact LP62_12 _ 0 0 (by decide) (by decide) H _ ls (Nat.lt_succ_self _)  hP hD hS (lv_sub hl [0, 1, 2, 3, 4] rfl)
      · skip
        have c47 : x_2.toInt < x_6.toInt := zlti (Int32.not_le.mp cb9) rfl rfl
        have n48 : x_2.toInt ≤ 5 := zL1 (b := 6) c47 hx_6.2.1 (by decide)
        have n49 : 1 ≤ x_6.toInt := zL2 (a := 0) c47 i3.1 (by decide)
        refine lv_iload_n hx hb dX12_chosen_19 rfl (lv_at hl 2 rfl) ?_
        refine lv_aload_n hx hb dX12_chosen_20 rfl (lv_at hl 0 rfl) ?_
        refine lv_iload_n hx hb dX12_chosen_21 rfl (lv_at hl 3 rfl) ?_
        refine lv_iconst (v := 3) hx hb dX12_chosen_22 (by decide) ?_
        have hL3 : (3 : Int32).toInt = 3 := by decide
        refine mcallV' (g := g) (q0 := 0) (ci := 10) (As := [.int x_2, .int 3]) (rest := [.int x_1]) St hK hT hA hP hD hS hl.1 [0] [] rfl rfl rfl (m_ofWork l g o a 0 hi ac tp ba en tA fl de iD iO tU fm fk fa fc ft ff fb fi x_2 3 (⟨i3.1, n48⟩) (by decide)) (cwV 2 hts (zgL (zl4 k864 k865 k866 k839) k833) rfl rfl rfl (by decide +kernel) ⟨Nat.le_of_ble_eq_true rfl, Nat.le_of_ble_eq_true rfl⟩) rfl rfl rfl rfl (Nat.le_of_ble_eq_true rfl) dX12_chosen_23 ⟨(Nat.le_of_ble_eq_true rfl), (Nat.le_of_ble_eq_true rfl)⟩ (fun q_50 H locs hq51 hP hD hS => ?_)
        have hP : va_P g.1 vwCl (List.flatten [bMo g o a 0 hi ac tp ba en tA fl de iD iO tU fm fk fa fc ft ff fb fi]) H := hP
        have hD : va_D A (List.flatten [bMo g o a 0 hi ac tp ba en tA fl de iD iO tU fm fk fa fc ft ff fb fi]) := hD
        refine W.widen (k := 0) (n := 0) (Nat.le_of_ble_eq_true rfl) (Nat.le_of_ble_eq_true rfl) ?_
        refine W.eq (g2 := F0 m 26 ls [.int q_50, .int x_1]) rfl ?_
        refine lv_if_ne (tgt := 48) hx hb dX12_chosen_26 (by decide) (fun cb9 => ?_) (fun cb9 => ?_)
        · skip
          have c52 : ¬ q_50.toInt = 0 := zne cb9 rfl (by decide)
          refine lv_iconst (v := 0) hx hb dX12_chosen_48 (by decide) ?_
          refine lv_ior hx hb dX12_chosen_49 ?_
          refine zg (fun x_53 => ?_)
          refine lv_istore_n (lv' := [(2, .int x_53), (0, .ref o), (1, .int much), (3, .int x_2)]) hx hb dX12_chosen_50 rfl hl (by decide) rfl (fun ls hl => ?_)
          refine ziinc3 (n' := 1) (a' := 1) (b' := 6) (lv' := fun v9 => [(3, .int v9), (2, .int x_53), (0, .ref o), (1, .int much)]) hx hb dX12_chosen_51 hl (k := 3) rfl (by decide) (fun _ => rfl) (zaddK (i := x_2.toInt) (j := 1) rfl (by decide) i3.1 n48 (Int.le_refl _) (Int.le_refl _) (by decide)) (fun x_54 ls hx_54 hl => ?_)
          refine lv_goto (tgt := 9) hx hb dX12_chosen_54 (by decide) ?_
          have hl := lv_sub (l' := [(0, .ref o), (1, .int much), (2, .int x_53), (3, .int x_54)]) hl [2, 3, 1, 0] rfl
          have hP : va_P g.1 vwCl (List.flatten [bMo g o a 0 hi ac tp ba en tA fl de iD iO tU fm fk fa fc ft ff fb fi]) H := hP
          have hD : va_D A (List.flatten [bMo g o a 0 hi ac tp ba en tA fl de iD iO tU fm fk fa fc ft ff fb fi]) := hD
          exact ih9_5 x_53 x_54 ⟨(Int.le_trans (by decide) hx_54.2.1), hx_54.2.2⟩ H _ ls (zmK hx_54.1 (by decide) n48 (by decide) hk9_5)  hP hD hS (lv_sub hl [0, 1, 2, 3] rfl)
        · skip
          have c55 : q_50.toInt = 0 := zeq cb9 rfl (by decide)
          have n56 : 0 ≤ q_50.toInt := Int.le_trans (Int.le_refl _) (Int.le_of_eq c55.symm)
          have n57 : q_50.toInt ≤ 0 := Int.le_trans (Int.le_of_eq c55) (Int.le_refl _)
          refine lv_aload_n hx hb dX12_chosen_29 rfl (lv_at hl 0 rfl) ?_
          refine lv_iload_n hx hb dX12_chosen_30 rfl (lv_at hl 3 rfl) ?_
          refine lv_iconst (v := 1) hx hb dX12_chosen_31 (by decide) ?_
          have hL1 : (1 : Int32).toInt = 1 := by decide
          refine mcallV' (g := g) (q0 := 0) (ci := 10) (As := [.int x_2, .int 1]) (rest := [.int x_1]) St hK hT hA hP hD hS hl.1 [0] [] rfl rfl rfl (m_ofWork l g o a 0 hi ac tp ba en tA fl de iD iO tU fm fk fa fc ft ff fb fi x_2 1 (⟨i3.1, n48⟩) (by decide)) (cwV 2 hts (zgL (zl4 k864 k865 k866 k839) k833) rfl rfl rfl (by decide +kernel) ⟨Nat.le_of_ble_eq_true rfl, Nat.le_of_ble_eq_true rfl⟩) rfl rfl rfl rfl (Nat.le_of_ble_eq_true rfl) dX12_chosen_32 ⟨(Nat.le_of_ble_eq_true rfl), (Nat.le_of_ble_eq_true rfl)⟩ (fun q_58 H locs hq59 hP hD hS => ?_)
          have hP : va_P g.1 vwCl (List.flatten [bMo g o a 0 hi ac tp ba en tA fl de iD iO tU fm fk fa fc ft ff fb fi]) H := hP
          have hD : va_D A (List.flatten [bMo g o a 0 hi ac tp ba en tA fl de iD iO tU fm fk fa fc ft ff fb fi]) := hD
          refine W.widen (k := 0) (n := 0) (Nat.le_of_ble_eq_true rfl) (Nat.le_of_ble_eq_true rfl) ?_
          refine W.eq (g2 := F0 m 35 ls [.int q_58, .int x_1]) rfl ?_
          refine lv_aload_n hx hb dX12_chosen_35 rfl (lv_at hl 0 rfl) ?_
          refine mcallV' (g := g) (q0 := 0) (ci := 10) (As := []) (rest := [.int q_58, .int x_1]) St hK hT hA hP hD hS hl.1 [0] [] rfl rfl rfl (m_believed l g o a 0 hi ac tp ba en tA fl de iD iO tU fm fk fa fc ft ff fb fi rfm) (cwV 0 hts (zgL (zl4 k856 k857 k858 k839) k849) rfl rfl rfl (by decide +kernel) ⟨Nat.le_of_ble_eq_true rfl, Nat.le_of_ble_eq_true rfl⟩) rfl rfl rfl rfl (Nat.le_of_ble_eq_true rfl) dX12_chosen_36 ⟨(Nat.le_of_ble_eq_true rfl), (Nat.le_of_ble_eq_true rfl)⟩ (fun q_60 H locs hq61 hP hD hS => ?_)
          have hP : va_P g.1 vwCl (List.flatten [bMo g o a 0 hi ac tp ba en tA fl de iD iO tU fm fk fa fc ft ff fb fi]) H := hP
          have hD : va_D A (List.flatten [bMo g o a 0 hi ac tp ba en tA fl de iD iO tU fm fk fa fc ft ff fb fi]) := hD
          refine W.widen (k := 0) (n := 0) (Nat.le_of_ble_eq_true rfl) (Nat.le_of_ble_eq_true rfl) ?_
          refine W.eq (g2 := F0 m 39 ls [.int q_60, .int q_58, .int x_1]) rfl ?_
          refine lv_icmp_gt (tgt := 48) hx hb dX12_chosen_39 (by decide) (fun cb9 => ?_) (fun cb9 => ?_)
          · skip
            have c62 : q_60.toInt < q_58.toInt := zlti cb9 rfl rfl
            refine lv_iconst (v := 0) hx hb dX12_chosen_48 (by decide) ?_
            refine lv_ior hx hb dX12_chosen_49 ?_
            refine zg (fun x_63 => ?_)
            refine lv_istore_n (lv' := [(2, .int x_63), (0, .ref o), (1, .int much), (3, .int x_2)]) hx hb dX12_chosen_50 rfl hl (by decide) rfl (fun ls hl => ?_)
            refine ziinc3 (n' := 1) (a' := 1) (b' := 6) (lv' := fun v9 => [(3, .int v9), (2, .int x_63), (0, .ref o), (1, .int much)]) hx hb dX12_chosen_51 hl (k := 3) rfl (by decide) (fun _ => rfl) (zaddK (i := x_2.toInt) (j := 1) rfl (by decide) i3.1 n48 (Int.le_refl _) (Int.le_refl _) (by decide)) (fun x_64 ls hx_64 hl => ?_)
            refine lv_goto (tgt := 9) hx hb dX12_chosen_54 (by decide) ?_
            have hl := lv_sub (l' := [(0, .ref o), (1, .int much), (2, .int x_63), (3, .int x_64)]) hl [2, 3, 1, 0] rfl
            have hP : va_P g.1 vwCl (List.flatten [bMo g o a 0 hi ac tp ba en tA fl de iD iO tU fm fk fa fc ft ff fb fi]) H := hP
            have hD : va_D A (List.flatten [bMo g o a 0 hi ac tp ba en tA fl de iD iO tU fm fk fa fc ft ff fb fi]) := hD
            exact ih9_5 x_63 x_64 ⟨(Int.le_trans (by decide) hx_64.2.1), hx_64.2.2⟩ H _ ls (zmK hx_64.1 (by decide) n48 (by decide) hk9_5)  hP hD hS (lv_sub hl [0, 1, 2, 3] rfl)
          · skip
            have c65 : q_58.toInt ≤ q_60.toInt := zle (Int32.not_lt.mp cb9) rfl rfl
            refine lv_iconst (v := 1) hx hb dX12_chosen_42 (by decide) ?_
            refine lv_iload_n hx hb dX12_chosen_43 rfl (lv_at hl 3 rfl) ?_
            refine lv_ishl hx hb dX12_chosen_44 ?_
            refine zgb (zshl1 (j := x_2.toInt) rfl 5 32 (by decide) (by decide) ⟨i3.1, n48⟩) (fun x_66 hx_66 => ?_)
            refine lv_goto (tgt := 49) hx hb dX12_chosen_45 (by decide) ?_
            refine lv_ior hx hb dX12_chosen_49 ?_
            refine zg (fun x_67 => ?_)
            refine lv_istore_n (lv' := [(2, .int x_67), (0, .ref o), (1, .int much), (3, .int x_2)]) hx hb dX12_chosen_50 rfl hl (by decide) rfl (fun ls hl => ?_)
            refine ziinc3 (n' := 1) (a' := 1) (b' := 6) (lv' := fun v9 => [(3, .int v9), (2, .int x_67), (0, .ref o), (1, .int much)]) hx hb dX12_chosen_51 hl (k := 3) rfl (by decide) (fun _ => rfl) (zaddK (i := x_2.toInt) (j := 1) rfl (by decide) i3.1 n48 (Int.le_refl _) (Int.le_refl _) (by decide)) (fun x_68 ls hx_68 hl => ?_)
            refine lv_goto (tgt := 9) hx hb dX12_chosen_54 (by decide) ?_
            have hl := lv_sub (l' := [(0, .ref o), (1, .int much), (2, .int x_67), (3, .int x_68)]) hl [2, 3, 1, 0] rfl
            have hP : va_P g.1 vwCl (List.flatten [bMo g o a 0 hi ac tp ba en tA fl de iD iO tU fm fk fa fc ft ff fb fi]) H := hP
            have hD : va_D A (List.flatten [bMo g o a 0 hi ac tp ba en tA fl de iD iO tU fm fk fa fc ft ff fb fi]) := hD
            exact ih9_5 x_67 x_68 ⟨(Int.le_trans (by decide) hx_68.2.1), hx_68.2.2⟩ H _ ls (zmK hx_68.1 (by decide) n48 (by decide) hk9_5)  hP hD hS (lv_sub hl [0, 1, 2, 3] rfl)
  have hP : va_P g.1 vwCl (List.flatten [bMo g o a 0 hi ac tp ba en tA fl de iD iO tU fm fk fa fc ft ff fb fi]) H := hP
  have hD : va_D A (List.flatten [bMo g o a 0 hi ac tp ba en tA fl de iD iO tU fm fk fa fc ft ff fb fi]) := hD
  exact LP9_4 _ 0 0 (by decide) H _ ls (Nat.lt_succ_self _)  hP hD hS (lv_sub hl [0, 1, 2, 3] rfl)
set_option maxRecDepth 100000 in
set_option maxHeartbeats 4000000 in
theorem m_word (l : Launch) (g : zG) (o : Nat) (a : Nat → Nat) (th : Int32) (hi : Int32) (ac : Int32) (tp : Int32) (ba : Int32) (en : Int32) (tA : Int32) (fl : Int32) (de : Int32) (iD : Int32) (iO : Int32) (tU : Int32) (fm : Nat → Int32) (fk : Nat → Int32) (fa : Nat → Int32) (fc : Nat → Int32) (ft : Nat → Int32) (ff : Nat → Int32) (fb : Nat → Int32) (fi : Nat → Int32) (x : Int32) (rfm : rM fm) : zM' g l yX12_word (Cond.code yX12_word cX12_word 2 (some .int) :: zB) ({ frames := 2, cells := 0, slots := 0, locals := 49 } : Room) [.ref o, .int x] [bMo g o a th hi ac tp ba en tA fl de iD iO tU fm fk fa fc ft ff fb fi] (fun u : Int32 × Int32 => (fun (th2 : Int32) (q : Int32) => some (.int q)) (u.1) (u.2)) (fun u : Int32 × Int32 => (fun (th2 : Int32) (q : Int32) => True) (u.1) (u.2)) (fun u : Int32 × Int32 => (fun (th2 : Int32) (q : Int32) => [bMo g o a th2 hi ac tp ba en tA fl de iD iO tU fm fk fa fc ft ff fb fi]) (u.1) (u.2)) := by
  refine zM'.of (cc := cX12_word) (maxL := 2) (rt := (some .int)) (by decide) rfl (Nat.le_of_ble_eq_true rfl) ?_
  intro p e s m args below meth c A ls St hr hlocks hin hK hT hA hP hD hS hl
  obtain ⟨hx, hb, hml, hown, hts⟩ := id St
  have hl : lv_has ls 2 [(0, .ref o), (1, .int x)] := hl
  refine lv_aload_n hx hb dX12_word_0 rfl (lv_at hl 0 rfl) ?_
  refine lv_aload_n hx hb dX12_word_1 rfl (lv_at hl 0 rfl) ?_
  refine lv_iload_n hx hb dX12_word_2 rfl (lv_at hl 1 rfl) ?_
  refine mcallV' (g := g) (q0 := 0) (ci := 10) (As := [.int x]) (rest := [.ref o]) St hK hT hA hP hD hS hl.1 [0] [] rfl rfl rfl (m_isPerson l g o a th hi ac tp ba en tA fl de iD iO tU fm fk fa fc ft ff fb fi x rfm) (cwV 1 hts (zgL (zl4 k1033 k1034 k1035 k839) k836) rfl rfl rfl (by decide +kernel) ⟨Nat.le_of_ble_eq_true rfl, Nat.le_of_ble_eq_true rfl⟩) rfl rfl rfl rfl (Nat.le_of_ble_eq_true rfl) dX12_word_3 ⟨(Nat.le_of_ble_eq_true rfl), (Nat.le_of_ble_eq_true rfl)⟩ (fun q_1 H locs hq2 hP hD hS => ?_)
  replace hq2 : (q_1 = 1 ∧ 0 ≤ x.toInt ∧ x.toInt ≤ 7 ∧ x.toInt < (fm 3).toInt ∨ q_1 = 0) := hq2
  have hP : va_P g.1 vwCl (List.flatten [bMo g o a th hi ac tp ba en tA fl de iD iO tU fm fk fa fc ft ff fb fi]) H := hP
  have hD : va_D A (List.flatten [bMo g o a th hi ac tp ba en tA fl de iD iO tU fm fk fa fc ft ff fb fi]) := hD
  refine W.widen (k := 0) (n := 0) (Nat.le_of_ble_eq_true rfl) (Nat.le_of_ble_eq_true rfl) ?_
  refine W.eq (g2 := F0 m 6 ls [.int q_1, .ref o]) rfl ?_
  rcases hq2 with ⟨rfl, hq2_k⟩ | rfl
  · skip
    refine lv_if_ne (tgt := 13) hx hb dX12_word_6 (by decide) (fun _ => ?_) (fun c3 => absurd c3 (by decide))
    refine lv_iconst (v := 0) hx hb dX12_word_13 (by decide) ?_
    refine va_put (D := g.1) (ci := 10) (v := .int 0) (ty := .int) (C := RX12) (T := TX12) (N := 20) hx hb hts izRX12 tyX12 tyX12_ok nmX12 hown hK hP hD hS 0 rfl rfl 0 (by decide) (hts _ k825) (fun _ h9 => h9) rfl (by decide +kernel) rfl rfl (Nat.le_of_ble_eq_true rfl) dX12_word_14 (fun H locs hP hD hS => ?_)
    have hP : va_P g.1 vwCl (List.flatten [bMo g o a 0 hi ac tp ba en tA fl de iD iO tU fm fk fa fc ft ff fb fi]) H := hP
    have hD : va_D A (List.flatten [bMo g o a 0 hi ac tp ba en tA fl de iD iO tU fm fk fa fc ft ff fb fi]) := hD
    refine lv_aload_n hx hb dX12_word_17 rfl (lv_at hl 0 rfl) ?_
    refine va_get (D := g.1) (ci := 10) (v := .int 0) (C := RX12) (T := TX12) (N := 20) hx hb hts izRX12 hown hK hP 0 rfl rfl 0 (by decide) (hts _ k825) (fun _ h9 => h9) rfl dX12_word_18 ?_
    refine lv_if_le (tgt := 28) hx hb dX12_word_21 (by decide) (fun _ => ?_) (fun c4 => absurd (by decide) c4)
    refine lv_aload_n hx hb dX12_word_28 rfl (lv_at hl 0 rfl) ?_
    refine lv_iconst (v := 1) hx hb dX12_word_29 (by decide) ?_
    refine lv_iload_n hx hb dX12_word_30 rfl (lv_at hl 1 rfl) ?_
    refine lv_ishl hx hb dX12_word_31 ?_
    refine zgb (zshl1 (j := x.toInt) rfl 7 128 (by decide) (by decide) (by omega)) (fun x_5 hx_5 => ?_)
    refine lv_bipush (v := 8) hx hb dX12_word_32 (by decide) ?_
    have hL8 : (8 : Int32).toInt = 8 := by decide
    refine mcallV' (g := g) (q0 := 0) (ci := 10) (As := [.int x_5, .int 8]) (rest := []) St hK hT hA hP hD hS hl.1 [0] [] rfl rfl rfl (m_passes l g o a 0 hi ac tp ba en tA fl de iD iO tU fm fk fa fc ft ff fb fi x_5 8 rfm (by decide)) (cwV 2 hts (zgL (zl4 k1111 k1112 k1113 k839) k1109) rfl rfl rfl (by decide +kernel) ⟨Nat.le_of_ble_eq_true rfl, Nat.le_of_ble_eq_true rfl⟩) rfl rfl rfl rfl (Nat.le_of_ble_eq_true rfl) dX12_word_34 ⟨(Nat.le_of_ble_eq_true rfl), (Nat.le_of_ble_eq_true rfl)⟩ (fun q_6 H locs hq7 hP hD hS => ?_)
    have hP : va_P g.1 vwCl (List.flatten [bMo g o a 0 hi ac tp ba en tA fl de iD iO tU fm fk fa fc ft ff fb fi]) H := hP
    have hD : va_D A (List.flatten [bMo g o a 0 hi ac tp ba en tA fl de iD iO tU fm fk fa fc ft ff fb fi]) := hD
    refine W.widen (k := 0) (n := 0) (Nat.le_of_ble_eq_true rfl) (Nat.le_of_ble_eq_true rfl) ?_
    refine W.eq (g2 := F0 m 37 ls [.int q_6]) rfl ?_
    refine lv_iconst (v := 1) hx hb dX12_word_37 (by decide) ?_
    refine lv_iload_n hx hb dX12_word_38 rfl (lv_at hl 1 rfl) ?_
    refine lv_ishl hx hb dX12_word_39 ?_
    refine zgb (zshl1 (j := x.toInt) rfl 7 128 (by decide) (by decide) (by omega)) (fun x_8 hx_8 => ?_)
    refine lv_iconst (v := (-1)) hx hb dX12_word_40 (by decide) ?_
    refine lv_ixor hx hb dX12_word_41 ?_
    refine zg (fun x_9 => ?_)
    refine lv_iand hx hb dX12_word_42 ?_
    refine zg (fun x_10 => ?_)
    have hP : va_P g.1 vwCl (List.flatten [bMo g o a 0 hi ac tp ba en tA fl de iD iO tU fm fk fa fc ft ff fb fi]) H := hP
    have hD : va_D A (List.flatten [bMo g o a 0 hi ac tp ba en tA fl de iD iO tU fm fk fa fc ft ff fb fi]) := hD
    exact mret_i hx hb hr hlocks hS (Nat.le_of_ble_eq_true rfl) (Nat.le_of_ble_eq_true rfl) dX12_word_43 ((0 : Int32), x_10) rfl trivial hP hD
  · skip
    refine lv_if_ne (tgt := 13) hx hb dX12_word_6 (by decide) (fun c11 => absurd (by decide) c11) (fun _ => ?_)
    refine lv_iconst (v := 1) hx hb dX12_word_9 (by decide) ?_
    refine lv_goto (tgt := 14) hx hb dX12_word_10 (by decide) ?_
    refine va_put (D := g.1) (ci := 10) (v := .int 1) (ty := .int) (C := RX12) (T := TX12) (N := 20) hx hb hts izRX12 tyX12 tyX12_ok nmX12 hown hK hP hD hS 0 rfl rfl 0 (by decide) (hts _ k825) (fun _ h9 => h9) rfl (by decide +kernel) rfl rfl (Nat.le_of_ble_eq_true rfl) dX12_word_14 (fun H locs hP hD hS => ?_)
    have hP : va_P g.1 vwCl (List.flatten [bMo g o a 1 hi ac tp ba en tA fl de iD iO tU fm fk fa fc ft ff fb fi]) H := hP
    have hD : va_D A (List.flatten [bMo g o a 1 hi ac tp ba en tA fl de iD iO tU fm fk fa fc ft ff fb fi]) := hD
    refine lv_aload_n hx hb dX12_word_17 rfl (lv_at hl 0 rfl) ?_
    refine va_get (D := g.1) (ci := 10) (v := .int 1) (C := RX12) (T := TX12) (N := 20) hx hb hts izRX12 hown hK hP 0 rfl rfl 0 (by decide) (hts _ k825) (fun _ h9 => h9) rfl dX12_word_18 ?_
    refine lv_if_le (tgt := 28) hx hb dX12_word_21 (by decide) (fun c12 => absurd c12 (by decide)) (fun _ => ?_)
    refine lv_iconst (v := 0) hx hb dX12_word_24 (by decide) ?_
    refine lv_goto (tgt := 43) hx hb dX12_word_25 (by decide) ?_
    have hP : va_P g.1 vwCl (List.flatten [bMo g o a 1 hi ac tp ba en tA fl de iD iO tU fm fk fa fc ft ff fb fi]) H := hP
    have hD : va_D A (List.flatten [bMo g o a 1 hi ac tp ba en tA fl de iD iO tU fm fk fa fc ft ff fb fi]) := hD
    exact mret_i hx hb hr hlocks hS (Nat.le_of_ble_eq_true rfl) (Nat.le_of_ble_eq_true rfl) dX12_word_43 ((1 : Int32), (0 : Int32)) rfl trivial hP hD
set_option maxRecDepth 100000 in
set_option maxHeartbeats 4000000 in
theorem m_steps (l : Launch) (g : zG) (o : Nat) (a : Nat → Nat) (th : Int32) (hi : Int32) (ac : Int32) (tp : Int32) (ba : Int32) (en : Int32) (tA : Int32) (fl : Int32) (de : Int32) (iD : Int32) (iO : Int32) (tU : Int32) (fm : Nat → Int32) (fk : Nat → Int32) (fa : Nat → Int32) (fc : Nat → Int32) (ft : Nat → Int32) (ff : Nat → Int32) (fb : Nat → Int32) (fi : Nat → Int32) (x : Int32) (o2 : Int32) (rfm : rM fm) : zM' g l yX12_steps (Cond.code yX12_steps cX12_steps 4 (some .int) :: zB) ({ frames := 2, cells := 0, slots := 0, locals := 49 } : Room) [.ref o, .int x, .int o2] [bMo g o a th hi ac tp ba en tA fl de iD iO tU fm fk fa fc ft ff fb fi] (fun u : Int32 × Int32 => (fun (th2 : Int32) (q : Int32) => some (.int q)) (u.1) (u.2)) (fun u : Int32 × Int32 => (fun (th2 : Int32) (q : Int32) => True) (u.1) (u.2)) (fun u : Int32 × Int32 => (fun (th2 : Int32) (q : Int32) => [bMo g o a th2 hi ac tp ba en tA fl de iD iO tU fm fk fa fc ft ff fb fi]) (u.1) (u.2)) := by
  refine zM'.of (cc := cX12_steps) (maxL := 4) (rt := (some .int)) (by decide) rfl (Nat.le_of_ble_eq_true rfl) ?_
  intro p e s m args below meth c A ls St hr hlocks hin hK hT hA hP hD hS hl
  obtain ⟨hx, hb, hml, hown, hts⟩ := id St
  have hl : lv_has ls 4 [(0, .ref o), (1, .int x), (2, .int o2)] := hl
  refine lv_aload_n hx hb dX12_steps_0 rfl (lv_at hl 0 rfl) ?_
  refine lv_aload_n hx hb dX12_steps_1 rfl (lv_at hl 0 rfl) ?_
  refine lv_iload_n hx hb dX12_steps_2 rfl (lv_at hl 1 rfl) ?_
  refine mcallV' (g := g) (q0 := 0) (ci := 10) (As := [.int x]) (rest := [.ref o]) St hK hT hA hP hD hS hl.1 [0] [] rfl rfl rfl (m_isPerson l g o a th hi ac tp ba en tA fl de iD iO tU fm fk fa fc ft ff fb fi x rfm) (cwV 1 hts (zgL (zl4 k1033 k1034 k1035 k839) k836) rfl rfl rfl (by decide +kernel) ⟨Nat.le_of_ble_eq_true rfl, Nat.le_of_ble_eq_true rfl⟩) rfl rfl rfl rfl (Nat.le_of_ble_eq_true rfl) dX12_steps_3 ⟨(Nat.le_of_ble_eq_true rfl), (Nat.le_of_ble_eq_true rfl)⟩ (fun q_1 H locs hq2 hP hD hS => ?_)
  replace hq2 : (q_1 = 1 ∧ 0 ≤ x.toInt ∧ x.toInt ≤ 7 ∧ x.toInt < (fm 3).toInt ∨ q_1 = 0) := hq2
  have hP : va_P g.1 vwCl (List.flatten [bMo g o a th hi ac tp ba en tA fl de iD iO tU fm fk fa fc ft ff fb fi]) H := hP
  have hD : va_D A (List.flatten [bMo g o a th hi ac tp ba en tA fl de iD iO tU fm fk fa fc ft ff fb fi]) := hD
  refine W.widen (k := 0) (n := 0) (Nat.le_of_ble_eq_true rfl) (Nat.le_of_ble_eq_true rfl) ?_
  refine W.eq (g2 := F0 m 6 ls [.int q_1, .ref o]) rfl ?_
  rcases hq2 with ⟨rfl, hq2_k⟩ | rfl
  · skip
    refine lv_if_eq (tgt := 17) hx hb dX12_steps_6 (by decide) (fun c3 => absurd c3 (by decide)) (fun _ => ?_)
    refine lv_aload_n hx hb dX12_steps_9 rfl (lv_at hl 0 rfl) ?_
    refine lv_iload_n hx hb dX12_steps_10 rfl (lv_at hl 2 rfl) ?_
    refine mcallV' (g := g) (q0 := 0) (ci := 10) (As := [.int o2]) (rest := [.ref o]) St hK hT hA hP hD hS hl.1 [0] [] rfl rfl rfl (m_isPerson l g o a th hi ac tp ba en tA fl de iD iO tU fm fk fa fc ft ff fb fi o2 rfm) (cwV 1 hts (zgL (zl4 k1033 k1034 k1035 k839) k836) rfl rfl rfl (by decide +kernel) ⟨Nat.le_of_ble_eq_true rfl, Nat.le_of_ble_eq_true rfl⟩) rfl rfl rfl rfl (Nat.le_of_ble_eq_true rfl) dX12_steps_11 ⟨(Nat.le_of_ble_eq_true rfl), (Nat.le_of_ble_eq_true rfl)⟩ (fun q_4 H locs hq5 hP hD hS => ?_)
    replace hq5 : (q_4 = 1 ∧ 0 ≤ o2.toInt ∧ o2.toInt ≤ 7 ∧ o2.toInt < (fm 3).toInt ∨ q_4 = 0) := hq5
    have hP : va_P g.1 vwCl (List.flatten [bMo g o a th hi ac tp ba en tA fl de iD iO tU fm fk fa fc ft ff fb fi]) H := hP
    have hD : va_D A (List.flatten [bMo g o a th hi ac tp ba en tA fl de iD iO tU fm fk fa fc ft ff fb fi]) := hD
    refine W.widen (k := 0) (n := 0) (Nat.le_of_ble_eq_true rfl) (Nat.le_of_ble_eq_true rfl) ?_
    refine W.eq (g2 := F0 m 14 ls [.int q_4, .ref o]) rfl ?_
    rcases hq5 with ⟨rfl, hq5_k⟩ | rfl
    · skip
      refine lv_if_ne (tgt := 21) hx hb dX12_steps_14 (by decide) (fun _ => ?_) (fun c6 => absurd c6 (by decide))
      refine lv_iload_n hx hb dX12_steps_21 rfl (lv_at hl 1 rfl) ?_
      refine lv_iload_n hx hb dX12_steps_22 rfl (lv_at hl 2 rfl) ?_
      refine lv_icmp_ne (tgt := 30) hx hb dX12_steps_23 (by decide) (fun cb9 => ?_) (fun cb9 => ?_)
      · skip
        have c7 : ¬ x.toInt = o2.toInt := zne cb9 rfl rfl
        refine lv_iconst (v := 0) hx hb dX12_steps_30 (by decide) ?_
        refine va_put (D := g.1) (ci := 10) (v := .int 0) (ty := .int) (C := RX12) (T := TX12) (N := 20) hx hb hts izRX12 tyX12 tyX12_ok nmX12 hown hK hP hD hS 0 rfl rfl 0 (by decide) (hts _ k825) (fun _ h9 => h9) rfl (by decide +kernel) rfl rfl (Nat.le_of_ble_eq_true rfl) dX12_steps_31 (fun H locs hP hD hS => ?_)
        have hP : va_P g.1 vwCl (List.flatten [bMo g o a 0 hi ac tp ba en tA fl de iD iO tU fm fk fa fc ft ff fb fi]) H := hP
        have hD : va_D A (List.flatten [bMo g o a 0 hi ac tp ba en tA fl de iD iO tU fm fk fa fc ft ff fb fi]) := hD
        refine lv_aload_n hx hb dX12_steps_34 rfl (lv_at hl 0 rfl) ?_
        refine va_get (D := g.1) (ci := 10) (v := .int 0) (C := RX12) (T := TX12) (N := 20) hx hb hts izRX12 hown hK hP 0 rfl rfl 0 (by decide) (hts _ k825) (fun _ h9 => h9) rfl dX12_steps_35 ?_
        refine lv_if_le (tgt := 43) hx hb dX12_steps_38 (by decide) (fun _ => ?_) (fun c8 => absurd (by decide) c8)
        refine lv_iconst (v := 1) hx hb dX12_steps_43 (by decide) ?_
        refine lv_istore_n (lv' := [(3, .int 1), (0, .ref o), (1, .int x), (2, .int o2)]) hx hb dX12_steps_44 rfl hl (by decide) rfl (fun ls hl => ?_)
        have hl := lv_sub (l' := [(0, .ref o), (1, .int x), (2, .int o2), (3, .int 1)]) hl [1, 2, 3, 0] rfl
        have LP45_11 : ∀ (kf : Nat) (x_9 : Int32), (1 ≤ x_9.toInt ∧ x_9.toInt ≤ 8) → ∀ (H : Heap) (locs : List Loc) (ls : Array Slot), ((9 - x_9.toInt).toNat) < kf → va_P g.1 vwCl (List.flatten [bMo g o a 0 hi ac tp ba en tA fl de iD iO tU fm fk fa fc ft ff fb fi]) H → va_D A (List.flatten [bMo g o a 0 hi ac tp ba en tA fl de iD iO tU fm fk fa fc ft ff fb fi]) → va_S A s.heap H locs → lv_has ls 4 [(0, .ref o), (1, .int x), (2, .int o2), (3, .int x_9)] → W p l e ({ frames := 2, cells := 0, slots := 0, locals := 49 } : Room) s m args below meth c H locs (0) (0) (zF g (fun u : Int32 × Int32 => (fun (th2 : Int32) (q : Int32) => some (.int q)) (u.1) (u.2)) (fun u : Int32 × Int32 => (fun (th2 : Int32) (q : Int32) => True) (u.1) (u.2)) (fun u : Int32 × Int32 => (fun (th2 : Int32) (q : Int32) => [bMo g o a th2 hi ac tp ba en tA fl de iD iO tU fm fk fa fc ft ff fb fi]) (u.1) (u.2)) ({ frames := 2, cells := 0, slots := 0, locals := 49 } : Room) below args s A) (F0 m 45 ls []) := by
          intro kf
          induction kf with
          | zero => intro x_9 i10 H locs ls hk; exact absurd hk (Nat.not_lt_zero _)
          | succ kf ih45_12 =>
            intro x_9 i10 H locs ls hk45_12 hP hD hS hl
            refine lv_iload_n hx hb dX12_steps_45 rfl (lv_at hl 3 rfl) ?_
            refine lv_bipush (v := 8) hx hb dX12_steps_46 (by decide) ?_
            refine lv_icmp_ge (tgt := 74) hx hb dX12_steps_48 (by decide) (fun cb9 => ?_) (fun cb9 => ?_)
            · skip
              have c13 : 8 ≤ x_9.toInt := zle cb9 (by decide) rfl
              have n14 : 8 ≤ x_9.toInt := Int.le_trans (Int.le_refl _) c13
              refine lv_iconst (v := (-1)) hx hb dX12_steps_74 (by decide) ?_
              have hP : va_P g.1 vwCl (List.flatten [bMo g o a 0 hi ac tp ba en tA fl de iD iO tU fm fk fa fc ft ff fb fi]) H := hP
              have hD : va_D A (List.flatten [bMo g o a 0 hi ac tp ba en tA fl de iD iO tU fm fk fa fc ft ff fb fi]) := hD
              exact mret_i hx hb hr hlocks hS (Nat.le_of_ble_eq_true rfl) (Nat.le_of_ble_eq_true rfl) dX12_steps_75 ((0 : Int32), -1) rfl trivial hP hD
            · skip
              have c15 : x_9.toInt < 8 := zlti (Int32.not_le.mp cb9) rfl (by decide)
              have n16 : x_9.toInt ≤ 7 := zL1 (b := 8) c15 (Int.le_refl _) (by decide)
              refine lv_aload_n hx hb dX12_steps_51 rfl (lv_at hl 0 rfl) ?_
              refine lv_iconst (v := 1) hx hb dX12_steps_52 (by decide) ?_
              refine lv_iload_n hx hb dX12_steps_53 rfl (lv_at hl 1 rfl) ?_
              refine lv_ishl hx hb dX12_steps_54 ?_
              refine zgb (zshl1 (j := x.toInt) rfl 7 128 (by decide) (by decide) (by omega)) (fun x_17 hx_17 => ?_)
              refine lv_iload_n hx hb dX12_steps_55 rfl (lv_at hl 3 rfl) ?_
              refine mcallV' (g := g) (q0 := 0) (ci := 10) (As := [.int x_17, .int x_9]) (rest := []) St hK hT hA hP hD hS hl.1 [0] [] rfl rfl rfl (m_passes l g o a 0 hi ac tp ba en tA fl de iD iO tU fm fk fa fc ft ff fb fi x_17 x_9 rfm (⟨(Int.le_trans (by decide) i10.1), (Int.le_trans n16 (by decide))⟩)) (cwV 2 hts (zgL (zl4 k1111 k1112 k1113 k839) k1109) rfl rfl rfl (by decide +kernel) ⟨Nat.le_of_ble_eq_true rfl, Nat.le_of_ble_eq_true rfl⟩) rfl rfl rfl rfl (Nat.le_of_ble_eq_true rfl) dX12_steps_56 ⟨(Nat.le_of_ble_eq_true rfl), (Nat.le_of_ble_eq_true rfl)⟩ (fun q_18 H locs hq19 hP hD hS => ?_)
              have hP : va_P g.1 vwCl (List.flatten [bMo g o a 0 hi ac tp ba en tA fl de iD iO tU fm fk fa fc ft ff fb fi]) H := hP
              have hD : va_D A (List.flatten [bMo g o a 0 hi ac tp ba en tA fl de iD iO tU fm fk fa fc ft ff fb fi]) := hD
              refine W.widen (k := 0) (n := 0) (Nat.le_of_ble_eq_true rfl) (Nat.le_of_ble_eq_true rfl) ?_
              refine W.eq (g2 := F0 m 59 ls [.int q_18]) rfl ?_
              refine lv_iload_n hx hb dX12_steps_59 rfl (lv_at hl 2 rfl) ?_
              refine mcallS' (g := g) (As := [.int q_18, .int o2]) (rest := []) St hK hT hA hP hD hS hl.1 [] [0] rfl rfl rfl (m_isOf l g q_18 o2 ) (va_cwS 2 hts (zgL (zl3 k1062 k1063 k839) k829) rfl rfl rfl (by decide +kernel) ⟨Nat.le_of_ble_eq_true rfl, Nat.le_of_ble_eq_true rfl⟩) rfl rfl (Nat.le_of_ble_eq_true rfl) dX12_steps_60 ⟨(Nat.le_of_ble_eq_true rfl), (Nat.le_of_ble_eq_true rfl)⟩ (fun q_20 H locs hq21 hP hD hS => ?_)
              replace hq21 : (q_20 = 0 ∨ q_20 = 1) := hq21
              have hP : va_P g.1 vwCl (List.flatten [bMo g o a 0 hi ac tp ba en tA fl de iD iO tU fm fk fa fc ft ff fb fi]) H := hP
              have hD : va_D A (List.flatten [bMo g o a 0 hi ac tp ba en tA fl de iD iO tU fm fk fa fc ft ff fb fi]) := hD
              refine W.widen (k := 0) (n := 0) (Nat.le_of_ble_eq_true rfl) (Nat.le_of_ble_eq_true rfl) ?_
              refine W.eq (g2 := F0 m 63 ls [.int q_20]) rfl ?_
              rcases hq21 with rfl | rfl
              · skip
                refine lv_if_eq (tgt := 68) hx hb dX12_steps_63 (by decide) (fun _ => ?_) (fun c22 => absurd (by decide) c22)
                refine ziinc3 (n' := 1) (a' := 2) (b' := 8) (lv' := fun v9 => [(3, .int v9), (0, .ref o), (1, .int x), (2, .int o2)]) hx hb dX12_steps_68 hl (k := 3) rfl (by decide) (fun _ => rfl) (zaddK (i := x_9.toInt) (j := 1) rfl (by decide) i10.1 n16 (Int.le_refl _) (Int.le_refl _) (by decide)) (fun x_23 ls hx_23 hl => ?_)
                refine lv_goto (tgt := 45) hx hb dX12_steps_71 (by decide) ?_
                have hl := lv_sub (l' := [(0, .ref o), (1, .int x), (2, .int o2), (3, .int x_23)]) hl [1, 2, 3, 0] rfl
                have hP : va_P g.1 vwCl (List.flatten [bMo g o a 0 hi ac tp ba en tA fl de iD iO tU fm fk fa fc ft ff fb fi]) H := hP
                have hD : va_D A (List.flatten [bMo g o a 0 hi ac tp ba en tA fl de iD iO tU fm fk fa fc ft ff fb fi]) := hD
                exact ih45_12 x_23 ⟨(Int.le_trans (by decide) hx_23.2.1), hx_23.2.2⟩ H _ ls (zmK hx_23.1 (by decide) n16 (by decide) hk45_12)  hP hD hS (lv_sub hl [0, 1, 2, 3] rfl)
              · skip
                refine lv_if_eq (tgt := 68) hx hb dX12_steps_63 (by decide) (fun c24 => absurd c24 (by decide)) (fun _ => ?_)
                refine lv_iload_n hx hb dX12_steps_66 rfl (lv_at hl 3 rfl) ?_
                have hP : va_P g.1 vwCl (List.flatten [bMo g o a 0 hi ac tp ba en tA fl de iD iO tU fm fk fa fc ft ff fb fi]) H := hP
                have hD : va_D A (List.flatten [bMo g o a 0 hi ac tp ba en tA fl de iD iO tU fm fk fa fc ft ff fb fi]) := hD
                exact mret_i hx hb hr hlocks hS (Nat.le_of_ble_eq_true rfl) (Nat.le_of_ble_eq_true rfl) dX12_steps_67 ((0 : Int32), x_9) rfl trivial hP hD
        have hP : va_P g.1 vwCl (List.flatten [bMo g o a 0 hi ac tp ba en tA fl de iD iO tU fm fk fa fc ft ff fb fi]) H := hP
        have hD : va_D A (List.flatten [bMo g o a 0 hi ac tp ba en tA fl de iD iO tU fm fk fa fc ft ff fb fi]) := hD
        exact LP45_11 _ 1 (by decide) H _ ls (Nat.lt_succ_self _)  hP hD hS (lv_sub hl [0, 1, 2, 3] rfl)
      · skip
        have c25 : x.toInt = o2.toInt := zeq cb9 rfl rfl
        refine lv_iconst (v := 2) hx hb dX12_steps_26 (by decide) ?_
        refine lv_goto (tgt := 31) hx hb dX12_steps_27 (by decide) ?_
        refine va_put (D := g.1) (ci := 10) (v := .int 2) (ty := .int) (C := RX12) (T := TX12) (N := 20) hx hb hts izRX12 tyX12 tyX12_ok nmX12 hown hK hP hD hS 0 rfl rfl 0 (by decide) (hts _ k825) (fun _ h9 => h9) rfl (by decide +kernel) rfl rfl (Nat.le_of_ble_eq_true rfl) dX12_steps_31 (fun H locs hP hD hS => ?_)
        have hP : va_P g.1 vwCl (List.flatten [bMo g o a 2 hi ac tp ba en tA fl de iD iO tU fm fk fa fc ft ff fb fi]) H := hP
        have hD : va_D A (List.flatten [bMo g o a 2 hi ac tp ba en tA fl de iD iO tU fm fk fa fc ft ff fb fi]) := hD
        refine lv_aload_n hx hb dX12_steps_34 rfl (lv_at hl 0 rfl) ?_
        refine va_get (D := g.1) (ci := 10) (v := .int 2) (C := RX12) (T := TX12) (N := 20) hx hb hts izRX12 hown hK hP 0 rfl rfl 0 (by decide) (hts _ k825) (fun _ h9 => h9) rfl dX12_steps_35 ?_
        refine lv_if_le (tgt := 43) hx hb dX12_steps_38 (by decide) (fun c26 => absurd c26 (by decide)) (fun _ => ?_)
        refine lv_iconst (v := 0) hx hb dX12_steps_41 (by decide) ?_
        have hP : va_P g.1 vwCl (List.flatten [bMo g o a 2 hi ac tp ba en tA fl de iD iO tU fm fk fa fc ft ff fb fi]) H := hP
        have hD : va_D A (List.flatten [bMo g o a 2 hi ac tp ba en tA fl de iD iO tU fm fk fa fc ft ff fb fi]) := hD
        exact mret_i hx hb hr hlocks hS (Nat.le_of_ble_eq_true rfl) (Nat.le_of_ble_eq_true rfl) dX12_steps_42 ((2 : Int32), (0 : Int32)) rfl trivial hP hD
    · skip
      refine lv_if_ne (tgt := 21) hx hb dX12_steps_14 (by decide) (fun c27 => absurd (by decide) c27) (fun _ => ?_)
      refine lv_iconst (v := 1) hx hb dX12_steps_17 (by decide) ?_
      refine lv_goto (tgt := 31) hx hb dX12_steps_18 (by decide) ?_
      refine va_put (D := g.1) (ci := 10) (v := .int 1) (ty := .int) (C := RX12) (T := TX12) (N := 20) hx hb hts izRX12 tyX12 tyX12_ok nmX12 hown hK hP hD hS 0 rfl rfl 0 (by decide) (hts _ k825) (fun _ h9 => h9) rfl (by decide +kernel) rfl rfl (Nat.le_of_ble_eq_true rfl) dX12_steps_31 (fun H locs hP hD hS => ?_)
      have hP : va_P g.1 vwCl (List.flatten [bMo g o a 1 hi ac tp ba en tA fl de iD iO tU fm fk fa fc ft ff fb fi]) H := hP
      have hD : va_D A (List.flatten [bMo g o a 1 hi ac tp ba en tA fl de iD iO tU fm fk fa fc ft ff fb fi]) := hD
      refine lv_aload_n hx hb dX12_steps_34 rfl (lv_at hl 0 rfl) ?_
      refine va_get (D := g.1) (ci := 10) (v := .int 1) (C := RX12) (T := TX12) (N := 20) hx hb hts izRX12 hown hK hP 0 rfl rfl 0 (by decide) (hts _ k825) (fun _ h9 => h9) rfl dX12_steps_35 ?_
      refine lv_if_le (tgt := 43) hx hb dX12_steps_38 (by decide) (fun c28 => absurd c28 (by decide)) (fun _ => ?_)
      refine lv_iconst (v := 0) hx hb dX12_steps_41 (by decide) ?_
      have hP : va_P g.1 vwCl (List.flatten [bMo g o a 1 hi ac tp ba en tA fl de iD iO tU fm fk fa fc ft ff fb fi]) H := hP
      have hD : va_D A (List.flatten [bMo g o a 1 hi ac tp ba en tA fl de iD iO tU fm fk fa fc ft ff fb fi]) := hD
      exact mret_i hx hb hr hlocks hS (Nat.le_of_ble_eq_true rfl) (Nat.le_of_ble_eq_true rfl) dX12_steps_42 ((1 : Int32), (0 : Int32)) rfl trivial hP hD
  · skip
    refine lv_if_eq (tgt := 17) hx hb dX12_steps_6 (by decide) (fun _ => ?_) (fun c29 => absurd (by decide) c29)
    refine lv_iconst (v := 1) hx hb dX12_steps_17 (by decide) ?_
    refine lv_goto (tgt := 31) hx hb dX12_steps_18 (by decide) ?_
    refine va_put (D := g.1) (ci := 10) (v := .int 1) (ty := .int) (C := RX12) (T := TX12) (N := 20) hx hb hts izRX12 tyX12 tyX12_ok nmX12 hown hK hP hD hS 0 rfl rfl 0 (by decide) (hts _ k825) (fun _ h9 => h9) rfl (by decide +kernel) rfl rfl (Nat.le_of_ble_eq_true rfl) dX12_steps_31 (fun H locs hP hD hS => ?_)
    have hP : va_P g.1 vwCl (List.flatten [bMo g o a 1 hi ac tp ba en tA fl de iD iO tU fm fk fa fc ft ff fb fi]) H := hP
    have hD : va_D A (List.flatten [bMo g o a 1 hi ac tp ba en tA fl de iD iO tU fm fk fa fc ft ff fb fi]) := hD
    refine lv_aload_n hx hb dX12_steps_34 rfl (lv_at hl 0 rfl) ?_
    refine va_get (D := g.1) (ci := 10) (v := .int 1) (C := RX12) (T := TX12) (N := 20) hx hb hts izRX12 hown hK hP 0 rfl rfl 0 (by decide) (hts _ k825) (fun _ h9 => h9) rfl dX12_steps_35 ?_
    refine lv_if_le (tgt := 43) hx hb dX12_steps_38 (by decide) (fun c30 => absurd c30 (by decide)) (fun _ => ?_)
    refine lv_iconst (v := 0) hx hb dX12_steps_41 (by decide) ?_
    have hP : va_P g.1 vwCl (List.flatten [bMo g o a 1 hi ac tp ba en tA fl de iD iO tU fm fk fa fc ft ff fb fi]) H := hP
    have hD : va_D A (List.flatten [bMo g o a 1 hi ac tp ba en tA fl de iD iO tU fm fk fa fc ft ff fb fi]) := hD
    exact mret_i hx hb hr hlocks hS (Nat.le_of_ble_eq_true rfl) (Nat.le_of_ble_eq_true rfl) dX12_steps_42 ((1 : Int32), (0 : Int32)) rfl trivial hP hD
set_option maxRecDepth 100000 in
set_option maxHeartbeats 4000000 in
theorem m_circles (l : Launch) (g : zG) (o : Nat) (a : Nat → Nat) (th : Int32) (hi : Int32) (ac : Int32) (tp : Int32) (ba : Int32) (en : Int32) (tA : Int32) (fl : Int32) (de : Int32) (iD : Int32) (iO : Int32) (tU : Int32) (fm : Nat → Int32) (fk : Nat → Int32) (fa : Nat → Int32) (fc : Nat → Int32) (ft : Nat → Int32) (ff : Nat → Int32) (fb : Nat → Int32) (fi : Nat → Int32) (rfm : rM fm) : zM' g l yX12_circles (Cond.code yX12_circles cX12_circles 4 (some .int) :: zB) ({ frames := 3, cells := 0, slots := 0, locals := 73 } : Room) [.ref o] [bMo g o a th hi ac tp ba en tA fl de iD iO tU fm fk fa fc ft ff fb fi] (fun u : Int32 × Int32 => (fun (th2 : Int32) (q : Int32) => some (.int q)) (u.1) (u.2)) (fun u : Int32 × Int32 => (fun (th2 : Int32) (q : Int32) => True) (u.1) (u.2)) (fun u : Int32 × Int32 => (fun (th2 : Int32) (q : Int32) => [bMo g o a th2 hi ac tp ba en tA fl de iD iO tU fm fk fa fc ft ff fb fi]) (u.1) (u.2)) := by
  refine zM'.of (cc := cX12_circles) (maxL := 4) (rt := (some .int)) (by decide) rfl (Nat.le_of_ble_eq_true rfl) ?_
  intro p e s m args below meth c A ls St hr hlocks hin hK hT hA hP hD hS hl
  obtain ⟨hx, hb, hml, hown, hts⟩ := id St
  have hl : lv_has ls 4 [(0, .ref o)] := hl
  refine lv_aload_n hx hb dX12_circles_0 rfl (lv_at hl 0 rfl) ?_
  refine lv_iconst (v := 0) hx hb dX12_circles_1 (by decide) ?_
  refine va_put (D := g.1) (ci := 10) (v := .int 0) (ty := .int) (C := RX12) (T := TX12) (N := 20) hx hb hts izRX12 tyX12 tyX12_ok nmX12 hown hK hP hD hS 0 rfl rfl 0 (by decide) (hts _ k825) (fun _ h9 => h9) rfl (by decide +kernel) rfl rfl (Nat.le_of_ble_eq_true rfl) dX12_circles_2 (fun H locs hP hD hS => ?_)
  have hP : va_P g.1 vwCl (List.flatten [bMo g o a 0 hi ac tp ba en tA fl de iD iO tU fm fk fa fc ft ff fb fi]) H := hP
  have hD : va_D A (List.flatten [bMo g o a 0 hi ac tp ba en tA fl de iD iO tU fm fk fa fc ft ff fb fi]) := hD
  refine lv_iconst (v := 0) hx hb dX12_circles_5 (by decide) ?_
  refine lv_istore_n (lv' := [(1, .int 0), (0, .ref o)]) hx hb dX12_circles_6 rfl hl (by decide) rfl (fun ls hl => ?_)
  refine lv_iconst (v := 0) hx hb dX12_circles_7 (by decide) ?_
  refine lv_istore_n (lv' := [(2, .int 0), (1, .int 0), (0, .ref o)]) hx hb dX12_circles_8 rfl hl (by decide) rfl (fun ls hl => ?_)
  have hl := lv_sub (l' := [(0, .ref o), (1, .int 0), (2, .int 0)]) hl [2, 1, 0] rfl
  have LP9_4 : ∀ (kf : Nat) (x_1 : Int32) (x_2 : Int32), (0 ≤ x_2.toInt ∧ x_2.toInt ≤ 8) → ∀ (H : Heap) (locs : List Loc) (ls : Array Slot), ((9 - x_2.toInt).toNat) < kf → va_P g.1 vwCl (List.flatten [bMo g o a 0 hi ac tp ba en tA fl de iD iO tU fm fk fa fc ft ff fb fi]) H → va_D A (List.flatten [bMo g o a 0 hi ac tp ba en tA fl de iD iO tU fm fk fa fc ft ff fb fi]) → va_S A s.heap H locs → lv_has ls 4 [(0, .ref o), (1, .int x_1), (2, .int x_2)] → W p l e ({ frames := 3, cells := 0, slots := 0, locals := 73 } : Room) s m args below meth c H locs (0) (0) (zF g (fun u : Int32 × Int32 => (fun (th2 : Int32) (q : Int32) => some (.int q)) (u.1) (u.2)) (fun u : Int32 × Int32 => (fun (th2 : Int32) (q : Int32) => True) (u.1) (u.2)) (fun u : Int32 × Int32 => (fun (th2 : Int32) (q : Int32) => [bMo g o a th2 hi ac tp ba en tA fl de iD iO tU fm fk fa fc ft ff fb fi]) (u.1) (u.2)) ({ frames := 3, cells := 0, slots := 0, locals := 73 } : Room) below args s A) (F0 m 9 ls []) := by
    intro kf
    induction kf with
    | zero => intro x_1 x_2 i3 H locs ls hk; exact absurd hk (Nat.not_lt_zero _)
    | succ kf ih9_5 =>
      intro x_1 x_2 i3 H locs ls hk9_5 hP hD hS hl
      refine lv_iload_n hx hb dX12_circles_9 rfl (lv_at hl 2 rfl) ?_
      refine lv_aload_n hx hb dX12_circles_10 rfl (lv_at hl 0 rfl) ?_
      refine va_get (D := g.1) (ci := 10) (v := .ref (a 0)) (C := RX12) (T := TX12) (N := 20) hx hb hts izRX12 hown hK hP 0 rfl rfl 1 (by decide) (hts _ k815) (fun _ h9 => h9) rfl dX12_circles_11 ?_
      refine lv_iconst (v := 3) hx hb dX12_circles_14 (by decide) ?_
      refine va_iald hx hb hK hP 1 0 rfl rfl (zin rfl) dX12_circles_15 ?_
      refine zgq (r := fm 3) rfl (rM3 rfm) (fun x_6 hx_6 => ?_)
      refine lv_icmp_ge (tgt := 57) hx hb dX12_circles_16 (by decide) (fun cb9 => ?_) (fun cb9 => ?_)
      · skip
        have c7 : x_6.toInt ≤ x_2.toInt := zle cb9 rfl rfl
        refine lv_iload_n hx hb dX12_circles_57 rfl (lv_at hl 1 rfl) ?_
        have hP : va_P g.1 vwCl (List.flatten [bMo g o a 0 hi ac tp ba en tA fl de iD iO tU fm fk fa fc ft ff fb fi]) H := hP
        have hD : va_D A (List.flatten [bMo g o a 0 hi ac tp ba en tA fl de iD iO tU fm fk fa fc ft ff fb fi]) := hD
        exact mret_i hx hb hr hlocks hS (Nat.le_of_ble_eq_true rfl) (Nat.le_of_ble_eq_true rfl) dX12_circles_58 ((0 : Int32), x_1) rfl trivial hP hD
      · skip
        have c8 : x_2.toInt < x_6.toInt := zlti (Int32.not_le.mp cb9) rfl rfl
        have n9 : x_2.toInt ≤ 7 := zL1 (b := 8) c8 hx_6.2.1 (by decide)
        have n10 : 1 ≤ x_6.toInt := zL2 (a := 0) c8 i3.1 (by decide)
        refine lv_aload_n hx hb dX12_circles_19 rfl (lv_at hl 0 rfl) ?_
        refine lv_iload_n hx hb dX12_circles_20 rfl (lv_at hl 2 rfl) ?_
        refine mcallV' (g := g) (q0 := 0) (ci := 10) (As := [.int x_2]) (rest := []) St hK hT hA hP hD hS hl.1 [0] [] rfl rfl rfl (m_circleOf l g o a 0 hi ac tp ba en tA fl de iD iO tU fm fk fa fc ft ff fb fi x_2 rfm (⟨i3.1, n9⟩)) (cwV 1 hts (zgL (zl4 k1117 k1118 k1119 k839) k1115) rfl rfl rfl (by decide +kernel) ⟨Nat.le_of_ble_eq_true rfl, Nat.le_of_ble_eq_true rfl⟩) rfl rfl rfl rfl (Nat.le_of_ble_eq_true rfl) dX12_circles_21 ⟨(Nat.le_of_ble_eq_true rfl), (Nat.le_of_ble_eq_true rfl)⟩ (fun q_11 H locs hq12 hP hD hS => ?_)
        have hP : va_P g.1 vwCl (List.flatten [bMo g o a 0 hi ac tp ba en tA fl de iD iO tU fm fk fa fc ft ff fb fi]) H := hP
        have hD : va_D A (List.flatten [bMo g o a 0 hi ac tp ba en tA fl de iD iO tU fm fk fa fc ft ff fb fi]) := hD
        refine W.widen (k := 0) (n := 0) (Nat.le_of_ble_eq_true rfl) (Nat.le_of_ble_eq_true rfl) ?_
        refine W.eq (g2 := F0 m 24 ls [.int q_11]) rfl ?_
        refine lv_istore_n (lv' := [(3, .int q_11), (0, .ref o), (1, .int x_1), (2, .int x_2)]) hx hb dX12_circles_24 rfl hl (by decide) rfl (fun ls hl => ?_)
        refine lv_iload_n hx hb dX12_circles_25 rfl (lv_at hl 2 rfl) ?_
        refine lv_iload_n hx hb dX12_circles_26 rfl (lv_at hl 0 rfl) ?_
        refine mcallS' (g := g) (As := [.int q_11]) (rest := [.int x_1]) St hK hT hA hP hD hS hl.1 [] [0] rfl rfl rfl (m_bits l g q_11 ) (va_cwS 1 hts (zgL (zl3 k854 k855 k839) k830) rfl rfl rfl (by decide +kernel) ⟨Nat.le_of_ble_eq_true rfl, Nat.le_of_ble_eq_true rfl⟩) rfl rfl (Nat.le_of_ble_eq_true rfl) dX12_circles_27 ⟨(Nat.le_of_ble_eq_true rfl), (Nat.le_of_ble_eq_true rfl)⟩ (fun q_13 H locs hq14 hP hD hS => ?_)
        have hP : va_P g.1 vwCl (List.flatten [bMo g o a 0 hi ac tp ba en tA fl de iD iO tU fm fk fa fc ft ff fb fi]) H := hP
        have hD : va_D A (List.flatten [bMo g o a 0 hi ac tp ba en tA fl de iD iO tU fm fk fa fc ft ff fb fi]) := hD
        refine W.widen (k := 0) (n := 0) (Nat.le_of_ble_eq_true rfl) (Nat.le_of_ble_eq_true rfl) ?_
        refine W.eq (g2 := F0 m 30 ls [.int q_13, .int x_1]) rfl ?_
        refine lv_iconst (v := 1) hx hb dX12_circles_30 (by decide) ?_
        refine lv_icmp_le (tgt := 48) hx hb dX12_circles_31 (by decide) (fun cb9 => ?_) (fun cb9 => ?_)
        · skip
          have c15 : q_13.toInt ≤ 1 := zle cb9 rfl (by decide)
          have n16 : q_13.toInt ≤ 1 := Int.le_trans c15 (Int.le_refl _)
          refine lv_iconst (v := 0) hx hb dX12_circles_48 (by decide) ?_
          refine lv_iadd hx hb dX12_circles_49 ?_
          refine zg (fun x_17 => ?_)
          refine lv_istore_n (lv' := [(1, .int x_17), (3, .int q_11), (0, .ref o), (2, .int x_2)]) hx hb dX12_circles_50 rfl hl (by decide) rfl (fun ls hl => ?_)
          refine ziinc3 (n' := 1) (a' := 1) (b' := 8) (lv' := fun v9 => [(2, .int v9), (1, .int x_17), (3, .int q_11), (0, .ref o)]) hx hb dX12_circles_51 hl (k := 3) rfl (by decide) (fun _ => rfl) (zaddK (i := x_2.toInt) (j := 1) rfl (by decide) i3.1 n9 (Int.le_refl _) (Int.le_refl _) (by decide)) (fun x_18 ls hx_18 hl => ?_)
          refine lv_goto (tgt := 9) hx hb dX12_circles_54 (by decide) ?_
          have hl := lv_sub (l' := [(0, .ref o), (1, .int x_17), (2, .int x_18), (3, .int q_11)]) hl [3, 1, 0, 2] rfl
          have hP : va_P g.1 vwCl (List.flatten [bMo g o a 0 hi ac tp ba en tA fl de iD iO tU fm fk fa fc ft ff fb fi]) H := hP
          have hD : va_D A (List.flatten [bMo g o a 0 hi ac tp ba en tA fl de iD iO tU fm fk fa fc ft ff fb fi]) := hD
          exact ih9_5 x_17 x_18 ⟨(Int.le_trans (by decide) hx_18.2.1), hx_18.2.2⟩ H _ ls (zmK hx_18.1 (by decide) n9 (by decide) hk9_5)  hP hD hS (lv_sub hl [0, 1, 2] rfl)
        · skip
          have c19 : 1 < q_13.toInt := zlti (Int32.not_le.mp cb9) (by decide) rfl
          have n20 : 2 ≤ q_13.toInt := zL2 (a := 1) c19 (Int.le_refl _) (by decide)
          refine lv_iload_n hx hb dX12_circles_34 rfl (lv_at hl 0 rfl) ?_
          refine lv_iconst (v := 1) hx hb dX12_circles_35 (by decide) ?_
          refine lv_iload_n hx hb dX12_circles_36 rfl (lv_at hl 3 rfl) ?_
          refine lv_ishl hx hb dX12_circles_37 ?_
          refine zgb (zshl1 (j := x_2.toInt) rfl 7 128 (by decide) (by decide) ⟨i3.1, n9⟩) (fun x_21 hx_21 => ?_)
          refine lv_iconst (v := 1) hx hb dX12_circles_38 (by decide) ?_
          refine lv_isub hx hb dX12_circles_39 ?_
          refine zg3 (zsubK (i := x_21.toInt) (j := 1) (a' := 0) (b' := 127) rfl (by decide) hx_21.1 hx_21.2 (Int.le_refl _) (Int.le_refl _) (by decide)) (fun x_22 hx_22 => ?_)
          refine lv_iand hx hb dX12_circles_40 ?_
          refine zg (fun x_23 => ?_)
          refine lv_if_ne (tgt := 48) hx hb dX12_circles_41 (by decide) (fun cb9 => ?_) (fun cb9 => ?_)
          · skip
            have c24 : ¬ x_23.toInt = 0 := zne cb9 rfl (by decide)
            refine lv_iconst (v := 0) hx hb dX12_circles_48 (by decide) ?_
            refine lv_iadd hx hb dX12_circles_49 ?_
            refine zg (fun x_25 => ?_)
            refine lv_istore_n (lv' := [(1, .int x_25), (3, .int q_11), (0, .ref o), (2, .int x_2)]) hx hb dX12_circles_50 rfl hl (by decide) rfl (fun ls hl => ?_)
            refine ziinc3 (n' := 1) (a' := 1) (b' := 8) (lv' := fun v9 => [(2, .int v9), (1, .int x_25), (3, .int q_11), (0, .ref o)]) hx hb dX12_circles_51 hl (k := 3) rfl (by decide) (fun _ => rfl) (zaddK (i := x_2.toInt) (j := 1) rfl (by decide) i3.1 n9 (Int.le_refl _) (Int.le_refl _) (by decide)) (fun x_26 ls hx_26 hl => ?_)
            refine lv_goto (tgt := 9) hx hb dX12_circles_54 (by decide) ?_
            have hl := lv_sub (l' := [(0, .ref o), (1, .int x_25), (2, .int x_26), (3, .int q_11)]) hl [3, 1, 0, 2] rfl
            have hP : va_P g.1 vwCl (List.flatten [bMo g o a 0 hi ac tp ba en tA fl de iD iO tU fm fk fa fc ft ff fb fi]) H := hP
            have hD : va_D A (List.flatten [bMo g o a 0 hi ac tp ba en tA fl de iD iO tU fm fk fa fc ft ff fb fi]) := hD
            exact ih9_5 x_25 x_26 ⟨(Int.le_trans (by decide) hx_26.2.1), hx_26.2.2⟩ H _ ls (zmK hx_26.1 (by decide) n9 (by decide) hk9_5)  hP hD hS (lv_sub hl [0, 1, 2] rfl)
          · skip
            have c27 : x_23.toInt = 0 := zeq cb9 rfl (by decide)
            have n28 : 0 ≤ x_23.toInt := Int.le_trans (Int.le_refl _) (Int.le_of_eq c27.symm)
            have n29 : x_23.toInt ≤ 0 := Int.le_trans (Int.le_of_eq c27) (Int.le_refl _)
            refine lv_iconst (v := 1) hx hb dX12_circles_44 (by decide) ?_
            refine lv_goto (tgt := 49) hx hb dX12_circles_45 (by decide) ?_
            refine lv_iadd hx hb dX12_circles_49 ?_
            refine zg (fun x_30 => ?_)
            refine lv_istore_n (lv' := [(1, .int x_30), (3, .int q_11), (0, .ref o), (2, .int x_2)]) hx hb dX12_circles_50 rfl hl (by decide) rfl (fun ls hl => ?_)
            refine ziinc3 (n' := 1) (a' := 1) (b' := 8) (lv' := fun v9 => [(2, .int v9), (1, .int x_30), (3, .int q_11), (0, .ref o)]) hx hb dX12_circles_51 hl (k := 3) rfl (by decide) (fun _ => rfl) (zaddK (i := x_2.toInt) (j := 1) rfl (by decide) i3.1 n9 (Int.le_refl _) (Int.le_refl _) (by decide)) (fun x_31 ls hx_31 hl => ?_)
            refine lv_goto (tgt := 9) hx hb dX12_circles_54 (by decide) ?_
            have hl := lv_sub (l' := [(0, .ref o), (1, .int x_30), (2, .int x_31), (3, .int q_11)]) hl [3, 1, 0, 2] rfl
            have hP : va_P g.1 vwCl (List.flatten [bMo g o a 0 hi ac tp ba en tA fl de iD iO tU fm fk fa fc ft ff fb fi]) H := hP
            have hD : va_D A (List.flatten [bMo g o a 0 hi ac tp ba en tA fl de iD iO tU fm fk fa fc ft ff fb fi]) := hD
            exact ih9_5 x_30 x_31 ⟨(Int.le_trans (by decide) hx_31.2.1), hx_31.2.2⟩ H _ ls (zmK hx_31.1 (by decide) n9 (by decide) hk9_5)  hP hD hS (lv_sub hl [0, 1, 2] rfl)
  have hP : va_P g.1 vwCl (List.flatten [bMo g o a 0 hi ac tp ba en tA fl de iD iO tU fm fk fa fc ft ff fb fi]) H := hP
  have hD : va_D A (List.flatten [bMo g o a 0 hi ac tp ba en tA fl de iD iO tU fm fk fa fc ft ff fb fi]) := hD
  exact LP9_4 _ 0 0 (by decide) H _ ls (Nat.lt_succ_self _)  hP hD hS (lv_sub hl [0, 1, 2] rfl)
set_option maxRecDepth 100000 in
set_option maxHeartbeats 4000000 in
theorem m_hermits (l : Launch) (g : zG) (o : Nat) (a : Nat → Nat) (th : Int32) (hi : Int32) (ac : Int32) (tp : Int32) (ba : Int32) (en : Int32) (tA : Int32) (fl : Int32) (de : Int32) (iD : Int32) (iO : Int32) (tU : Int32) (fm : Nat → Int32) (fk : Nat → Int32) (fa : Nat → Int32) (fc : Nat → Int32) (ft : Nat → Int32) (ff : Nat → Int32) (fb : Nat → Int32) (fi : Nat → Int32) (rfm : rM fm) : zM' g l yX12_hermits (Cond.code yX12_hermits cX12_hermits 5 (some .int) :: zB) ({ frames := 2, cells := 0, slots := 0, locals := 45 } : Room) [.ref o] [bMo g o a th hi ac tp ba en tA fl de iD iO tU fm fk fa fc ft ff fb fi] (fun u : Int32 × Int32 => (fun (th2 : Int32) (q : Int32) => some (.int q)) (u.1) (u.2)) (fun u : Int32 × Int32 => (fun (th2 : Int32) (q : Int32) => True) (u.1) (u.2)) (fun u : Int32 × Int32 => (fun (th2 : Int32) (q : Int32) => [bMo g o a th2 hi ac tp ba en tA fl de iD iO tU fm fk fa fc ft ff fb fi]) (u.1) (u.2)) := by
  refine zM'.of (cc := cX12_hermits) (maxL := 5) (rt := (some .int)) (by decide) rfl (Nat.le_of_ble_eq_true rfl) ?_
  intro p e s m args below meth c A ls St hr hlocks hin hK hT hA hP hD hS hl
  obtain ⟨hx, hb, hml, hown, hts⟩ := id St
  have hl : lv_has ls 5 [(0, .ref o)] := hl
  refine lv_aload_n hx hb dX12_hermits_0 rfl (lv_at hl 0 rfl) ?_
  refine lv_iconst (v := 0) hx hb dX12_hermits_1 (by decide) ?_
  refine va_put (D := g.1) (ci := 10) (v := .int 0) (ty := .int) (C := RX12) (T := TX12) (N := 20) hx hb hts izRX12 tyX12 tyX12_ok nmX12 hown hK hP hD hS 0 rfl rfl 0 (by decide) (hts _ k825) (fun _ h9 => h9) rfl (by decide +kernel) rfl rfl (Nat.le_of_ble_eq_true rfl) dX12_hermits_2 (fun H locs hP hD hS => ?_)
  have hP : va_P g.1 vwCl (List.flatten [bMo g o a 0 hi ac tp ba en tA fl de iD iO tU fm fk fa fc ft ff fb fi]) H := hP
  have hD : va_D A (List.flatten [bMo g o a 0 hi ac tp ba en tA fl de iD iO tU fm fk fa fc ft ff fb fi]) := hD
  refine lv_iconst (v := 0) hx hb dX12_hermits_5 (by decide) ?_
  refine lv_istore_n (lv' := [(1, .int 0), (0, .ref o)]) hx hb dX12_hermits_6 rfl hl (by decide) rfl (fun ls hl => ?_)
  refine lv_iconst (v := 0) hx hb dX12_hermits_7 (by decide) ?_
  refine lv_istore_n (lv' := [(2, .int 0), (1, .int 0), (0, .ref o)]) hx hb dX12_hermits_8 rfl hl (by decide) rfl (fun ls hl => ?_)
  have hl := lv_sub (l' := [(0, .ref o), (1, .int 0), (2, .int 0)]) hl [2, 1, 0] rfl
  have LP9_4 : ∀ (kf : Nat) (x_1 : Int32) (x_2 : Int32), (0 ≤ x_2.toInt ∧ x_2.toInt ≤ 8) → ∀ (H : Heap) (locs : List Loc) (ls : Array Slot), ((9 - x_2.toInt).toNat) < kf → va_P g.1 vwCl (List.flatten [bMo g o a 0 hi ac tp ba en tA fl de iD iO tU fm fk fa fc ft ff fb fi]) H → va_D A (List.flatten [bMo g o a 0 hi ac tp ba en tA fl de iD iO tU fm fk fa fc ft ff fb fi]) → va_S A s.heap H locs → lv_has ls 5 [(0, .ref o), (1, .int x_1), (2, .int x_2)] → W p l e ({ frames := 2, cells := 0, slots := 0, locals := 45 } : Room) s m args below meth c H locs (0) (0) (zF g (fun u : Int32 × Int32 => (fun (th2 : Int32) (q : Int32) => some (.int q)) (u.1) (u.2)) (fun u : Int32 × Int32 => (fun (th2 : Int32) (q : Int32) => True) (u.1) (u.2)) (fun u : Int32 × Int32 => (fun (th2 : Int32) (q : Int32) => [bMo g o a th2 hi ac tp ba en tA fl de iD iO tU fm fk fa fc ft ff fb fi]) (u.1) (u.2)) ({ frames := 2, cells := 0, slots := 0, locals := 45 } : Room) below args s A) (F0 m 9 ls []) := by
    intro kf
    induction kf with
    | zero => intro x_1 x_2 i3 H locs ls hk; exact absurd hk (Nat.not_lt_zero _)
    | succ kf ih9_5 =>
      intro x_1 x_2 i3 H locs ls hk9_5 hP hD hS hl
      refine lv_iload_n hx hb dX12_hermits_9 rfl (lv_at hl 2 rfl) ?_
      refine lv_aload_n hx hb dX12_hermits_10 rfl (lv_at hl 0 rfl) ?_
      refine va_get (D := g.1) (ci := 10) (v := .ref (a 0)) (C := RX12) (T := TX12) (N := 20) hx hb hts izRX12 hown hK hP 0 rfl rfl 1 (by decide) (hts _ k815) (fun _ h9 => h9) rfl dX12_hermits_11 ?_
      refine lv_iconst (v := 3) hx hb dX12_hermits_14 (by decide) ?_
      refine va_iald hx hb hK hP 1 0 rfl rfl (zin rfl) dX12_hermits_15 ?_
      refine zgq (r := fm 3) rfl (rM3 rfm) (fun x_6 hx_6 => ?_)
      refine lv_icmp_ge (tgt := 99) hx hb dX12_hermits_16 (by decide) (fun cb9 => ?_) (fun cb9 => ?_)
      · skip
        have c7 : x_6.toInt ≤ x_2.toInt := zle cb9 rfl rfl
        refine lv_iload_n hx hb dX12_hermits_99 rfl (lv_at hl 1 rfl) ?_
        have hP : va_P g.1 vwCl (List.flatten [bMo g o a 0 hi ac tp ba en tA fl de iD iO tU fm fk fa fc ft ff fb fi]) H := hP
        have hD : va_D A (List.flatten [bMo g o a 0 hi ac tp ba en tA fl de iD iO tU fm fk fa fc ft ff fb fi]) := hD
        exact mret_i hx hb hr hlocks hS (Nat.le_of_ble_eq_true rfl) (Nat.le_of_ble_eq_true rfl) dX12_hermits_100 ((0 : Int32), x_1) rfl trivial hP hD
      · skip
        have c8 : x_2.toInt < x_6.toInt := zlti (Int32.not_le.mp cb9) rfl rfl
        have n9 : x_2.toInt ≤ 7 := zL1 (b := 8) c8 hx_6.2.1 (by decide)
        have n10 : 1 ≤ x_6.toInt := zL2 (a := 0) c8 i3.1 (by decide)
        refine lv_aload_n hx hb dX12_hermits_19 rfl (lv_at hl 0 rfl) ?_
        refine lv_iload_n hx hb dX12_hermits_20 rfl (lv_at hl 2 rfl) ?_
        refine mcallV' (g := g) (q0 := 0) (ci := 10) (As := [.int x_2]) (rest := []) St hK hT hA hP hD hS hl.1 [0] [] rfl rfl rfl (m_ties l g o a 0 hi ac tp ba en tA fl de iD iO tU fm fk fa fc ft ff fb fi x_2 rfm (⟨i3.1, n9⟩)) (cwV 1 hts (zgL (zl4 k993 k994 k995 k839) k867) rfl rfl rfl (by decide +kernel) ⟨Nat.le_of_ble_eq_true rfl, Nat.le_of_ble_eq_true rfl⟩) rfl rfl rfl rfl (Nat.le_of_ble_eq_true rfl) dX12_hermits_21 ⟨(Nat.le_of_ble_eq_true rfl), (Nat.le_of_ble_eq_true rfl)⟩ (fun q_11 H locs hq12 hP hD hS => ?_)
        have hP : va_P g.1 vwCl (List.flatten [bMo g o a 0 hi ac tp ba en tA fl de iD iO tU fm fk fa fc ft ff fb fi]) H := hP
        have hD : va_D A (List.flatten [bMo g o a 0 hi ac tp ba en tA fl de iD iO tU fm fk fa fc ft ff fb fi]) := hD
        refine W.widen (k := 0) (n := 0) (Nat.le_of_ble_eq_true rfl) (Nat.le_of_ble_eq_true rfl) ?_
        refine W.eq (g2 := F0 m 24 ls [.int q_11]) rfl ?_
        refine lv_if_ne (tgt := 31) hx hb dX12_hermits_24 (by decide) (fun cb9 => ?_) (fun cb9 => ?_)
        · skip
          have c13 : ¬ q_11.toInt = 0 := zne cb9 rfl (by decide)
          refine lv_iconst (v := 0) hx hb dX12_hermits_31 (by decide) ?_
          refine lv_istore_n (lv' := [(3, .int 0), (0, .ref o), (1, .int x_1), (2, .int x_2)]) hx hb dX12_hermits_32 rfl hl (by decide) rfl (fun ls hl => ?_)
          refine lv_iconst (v := 0) hx hb dX12_hermits_33 (by decide) ?_
          refine lv_istore (lv' := [(4, .int 0), (3, .int 0), (0, .ref o), (1, .int x_1), (2, .int x_2)]) hx hb dX12_hermits_34 hl (by decide) rfl (fun ls hl => ?_)
          have hl := lv_sub (l' := [(0, .ref o), (1, .int x_1), (2, .int x_2), (3, .int 0), (4, .int 0)]) hl [2, 3, 4, 1, 0] rfl
          have LP36_18 : ∀ (kf : Nat) (x_14 : Int32) (x_15 : Int32), (0 ≤ x_14.toInt ∧ x_14.toInt ≤ 1) → (0 ≤ x_15.toInt ∧ x_15.toInt ≤ 8) → ∀ (H : Heap) (locs : List Loc) (ls : Array Slot), ((9 - x_15.toInt).toNat) < kf → va_P g.1 vwCl (List.flatten [bMo g o a 0 hi ac tp ba en tA fl de iD iO tU fm fk fa fc ft ff fb fi]) H → va_D A (List.flatten [bMo g o a 0 hi ac tp ba en tA fl de iD iO tU fm fk fa fc ft ff fb fi]) → va_S A s.heap H locs → lv_has ls 5 [(0, .ref o), (1, .int x_1), (2, .int x_2), (3, .int x_14), (4, .int x_15)] → W p l e ({ frames := 2, cells := 0, slots := 0, locals := 45 } : Room) s m args below meth c H locs (0) (0) (zF g (fun u : Int32 × Int32 => (fun (th2 : Int32) (q : Int32) => some (.int q)) (u.1) (u.2)) (fun u : Int32 × Int32 => (fun (th2 : Int32) (q : Int32) => True) (u.1) (u.2)) (fun u : Int32 × Int32 => (fun (th2 : Int32) (q : Int32) => [bMo g o a th2 hi ac tp ba en tA fl de iD iO tU fm fk fa fc ft ff fb fi]) (u.1) (u.2)) ({ frames := 2, cells := 0, slots := 0, locals := 45 } : Room) below args s A) (F0 m 36 ls []) := by
            intro kf
            induction kf with
            | zero => intro x_14 x_15 i16 i17 H locs ls hk; exact absurd hk (Nat.not_lt_zero _)
            | succ kf ih36_19 =>
              intro x_14 x_15 i16 i17 H locs ls hk36_19 hP hD hS hl
              refine lv_iload hx hb dX12_hermits_36 (lv_at hl 4 rfl) ?_
              refine lv_aload_n hx hb dX12_hermits_38 rfl (lv_at hl 0 rfl) ?_
              refine va_get (D := g.1) (ci := 10) (v := .ref (a 0)) (C := RX12) (T := TX12) (N := 20) hx hb hts izRX12 hown hK hP 0 rfl rfl 1 (by decide) (hts _ k815) (fun _ h9 => h9) rfl dX12_hermits_39 ?_
              refine lv_iconst (v := 3) hx hb dX12_hermits_42 (by decide) ?_
              refine va_iald hx hb hK hP 1 0 rfl rfl (zin rfl) dX12_hermits_43 ?_
              refine zgq (r := fm 3) rfl (rM3 rfm) (fun x_20 hx_20 => ?_)
              refine lv_icmp_ge (tgt := 79) hx hb dX12_hermits_44 (by decide) (fun cb9 => ?_) (fun cb9 => ?_)
              · skip
                have c21 : x_20.toInt ≤ x_15.toInt := zle cb9 rfl rfl
                refine lv_iload_n hx hb dX12_hermits_79 rfl (lv_at hl 1 rfl) ?_
                refine lv_iload_n hx hb dX12_hermits_80 rfl (lv_at hl 3 rfl) ?_
                refine lv_if_eq (tgt := 90) hx hb dX12_hermits_81 (by decide) (fun cb9 => ?_) (fun cb9 => ?_)
                · skip
                  have c22 : x_14.toInt = 0 := zeq cb9 rfl (by decide)
                  have n23 : x_14.toInt ≤ 0 := Int.le_trans (Int.le_of_eq c22) (Int.le_refl _)
                  refine lv_iconst (v := 0) hx hb dX12_hermits_90 (by decide) ?_
                  refine lv_ior hx hb dX12_hermits_91 ?_
                  refine zg (fun x_24 => ?_)
                  refine lv_istore_n (lv' := [(1, .int x_24), (0, .ref o), (2, .int x_2), (3, .int x_14), (4, .int x_15)]) hx hb dX12_hermits_92 rfl hl (by decide) rfl (fun ls hl => ?_)
                  refine ziinc3 (n' := 1) (a' := 1) (b' := 8) (lv' := fun v9 => [(2, .int v9), (1, .int x_24), (0, .ref o), (3, .int x_14), (4, .int x_15)]) hx hb dX12_hermits_93 hl (k := 2) rfl (by decide) (fun _ => rfl) (zaddK (i := x_2.toInt) (j := 1) rfl (by decide) i3.1 n9 (Int.le_refl _) (Int.le_refl _) (by decide)) (fun x_25 ls hx_25 hl => ?_)
                  refine lv_goto (tgt := 9) hx hb dX12_hermits_96 (by decide) ?_
                  have hl := lv_sub (l' := [(0, .ref o), (1, .int x_24), (2, .int x_25), (3, .int x_14), (4, .int x_15)]) hl [2, 1, 0, 3, 4] rfl
                  have hP : va_P g.1 vwCl (List.flatten [bMo g o a 0 hi ac tp ba en tA fl de iD iO tU fm fk fa fc ft ff fb fi]) H := hP
                  have hD : va_D A (List.flatten [bMo g o a 0 hi ac tp ba en tA fl de iD iO tU fm fk fa fc ft ff fb fi]) := hD
                  exact ih9_5 x_24 x_25 ⟨(Int.le_trans (by decide) hx_25.2.1), hx_25.2.2⟩ H _ ls (zmK hx_25.1 (by decide) n9 (by decide) hk9_5)  hP hD hS (lv_sub hl [0, 1, 2] rfl)
                · skip
                  have c26 : ¬ x_14.toInt = 0 := zne cb9 rfl (by decide)
                  have n27 : 1 ≤ x_14.toInt := zN1 c26 i16.1 (by decide)
                  refine lv_iconst (v := 1) hx hb dX12_hermits_84 (by decide) ?_
                  refine lv_iload_n hx hb dX12_hermits_85 rfl (lv_at hl 2 rfl) ?_
                  refine lv_ishl hx hb dX12_hermits_86 ?_
                  refine zgb (zshl1 (j := x_2.toInt) rfl 7 128 (by decide) (by decide) ⟨i3.1, n9⟩) (fun x_28 hx_28 => ?_)
                  refine lv_goto (tgt := 91) hx hb dX12_hermits_87 (by decide) ?_
                  refine lv_ior hx hb dX12_hermits_91 ?_
                  refine zg (fun x_29 => ?_)
                  refine lv_istore_n (lv' := [(1, .int x_29), (0, .ref o), (2, .int x_2), (3, .int x_14), (4, .int x_15)]) hx hb dX12_hermits_92 rfl hl (by decide) rfl (fun ls hl => ?_)
                  refine ziinc3 (n' := 1) (a' := 1) (b' := 8) (lv' := fun v9 => [(2, .int v9), (1, .int x_29), (0, .ref o), (3, .int x_14), (4, .int x_15)]) hx hb dX12_hermits_93 hl (k := 2) rfl (by decide) (fun _ => rfl) (zaddK (i := x_2.toInt) (j := 1) rfl (by decide) i3.1 n9 (Int.le_refl _) (Int.le_refl _) (by decide)) (fun x_30 ls hx_30 hl => ?_)
                  refine lv_goto (tgt := 9) hx hb dX12_hermits_96 (by decide) ?_
                  have hl := lv_sub (l' := [(0, .ref o), (1, .int x_29), (2, .int x_30), (3, .int x_14), (4, .int x_15)]) hl [2, 1, 0, 3, 4] rfl
                  have hP : va_P g.1 vwCl (List.flatten [bMo g o a 0 hi ac tp ba en tA fl de iD iO tU fm fk fa fc ft ff fb fi]) H := hP
                  have hD : va_D A (List.flatten [bMo g o a 0 hi ac tp ba en tA fl de iD iO tU fm fk fa fc ft ff fb fi]) := hD
                  exact ih9_5 x_29 x_30 ⟨(Int.le_trans (by decide) hx_30.2.1), hx_30.2.2⟩ H _ ls (zmK hx_30.1 (by decide) n9 (by decide) hk9_5)  hP hD hS (lv_sub hl [0, 1, 2] rfl)
              · skip
                have c31 : x_15.toInt < x_20.toInt := zlti (Int32.not_le.mp cb9) rfl rfl
                have n32 : x_15.toInt ≤ 7 := zL1 (b := 8) c31 hx_20.2.1 (by decide)
                have n33 : 1 ≤ x_20.toInt := zL2 (a := 0) c31 i17.1 (by decide)
                refine lv_iload_n hx hb dX12_hermits_47 rfl (lv_at hl 3 rfl) ?_
                refine lv_if_eq (tgt := 79) hx hb dX12_hermits_48 (by decide) (fun cb9 => ?_) (fun cb9 => ?_)
                · skip
                  have c34 : x_14.toInt = 0 := zeq cb9 rfl (by decide)
                  have n35 : x_14.toInt ≤ 0 := Int.le_trans (Int.le_of_eq c34) (Int.le_refl _)
                  refine lv_iload_n hx hb dX12_hermits_79 rfl (lv_at hl 1 rfl) ?_
                  refine lv_iload_n hx hb dX12_hermits_80 rfl (lv_at hl 3 rfl) ?_
                  refine lv_if_eq (tgt := 90) hx hb dX12_hermits_81 (by decide) (fun cb9 => ?_) (fun cb9 => ?_)
                  · skip
                    have c36 : x_14.toInt = 0 := zeq cb9 rfl (by decide)
                    refine lv_iconst (v := 0) hx hb dX12_hermits_90 (by decide) ?_
                    refine lv_ior hx hb dX12_hermits_91 ?_
                    refine zg (fun x_37 => ?_)
                    refine lv_istore_n (lv' := [(1, .int x_37), (0, .ref o), (2, .int x_2), (3, .int x_14), (4, .int x_15)]) hx hb dX12_hermits_92 rfl hl (by decide) rfl (fun ls hl => ?_)
                    refine ziinc3 (n' := 1) (a' := 1) (b' := 8) (lv' := fun v9 => [(2, .int v9), (1, .int x_37), (0, .ref o), (3, .int x_14), (4, .int x_15)]) hx hb dX12_hermits_93 hl (k := 2) rfl (by decide) (fun _ => rfl) (zaddK (i := x_2.toInt) (j := 1) rfl (by decide) i3.1 n9 (Int.le_refl _) (Int.le_refl _) (by decide)) (fun x_38 ls hx_38 hl => ?_)
                    refine lv_goto (tgt := 9) hx hb dX12_hermits_96 (by decide) ?_
                    have hl := lv_sub (l' := [(0, .ref o), (1, .int x_37), (2, .int x_38), (3, .int x_14), (4, .int x_15)]) hl [2, 1, 0, 3, 4] rfl
                    have hP : va_P g.1 vwCl (List.flatten [bMo g o a 0 hi ac tp ba en tA fl de iD iO tU fm fk fa fc ft ff fb fi]) H := hP
                    have hD : va_D A (List.flatten [bMo g o a 0 hi ac tp ba en tA fl de iD iO tU fm fk fa fc ft ff fb fi]) := hD
                    exact ih9_5 x_37 x_38 ⟨(Int.le_trans (by decide) hx_38.2.1), hx_38.2.2⟩ H _ ls (zmK hx_38.1 (by decide) n9 (by decide) hk9_5)  hP hD hS (lv_sub hl [0, 1, 2] rfl)
                  · skip
                    exact absurd (show ¬ x_14.toInt = 0 from zne cb9 rfl (by decide)) (by omega)
                · skip
                  have c40 : ¬ x_14.toInt = 0 := zne cb9 rfl (by decide)
                  have n41 : 1 ≤ x_14.toInt := zN1 c40 i16.1 (by decide)
                  refine lv_iload hx hb dX12_hermits_51 (lv_at hl 4 rfl) ?_
                  refine lv_iload_n hx hb dX12_hermits_53 rfl (lv_at hl 2 rfl) ?_
                  refine lv_icmp_eq (tgt := 67) hx hb dX12_hermits_54 (by decide) (fun cb9 => ?_) (fun cb9 => ?_)
                  · skip
                    have c42 : x_15.toInt = x_2.toInt := zeq cb9 rfl rfl
                    refine lv_iconst (v := 1) hx hb dX12_hermits_67 (by decide) ?_
                    refine lv_goto (tgt := 72) hx hb dX12_hermits_68 (by decide) ?_
                    refine lv_istore_n (lv' := [(3, .int 1), (0, .ref o), (1, .int x_1), (2, .int x_2), (4, .int x_15)]) hx hb dX12_hermits_72 rfl hl (by decide) rfl (fun ls hl => ?_)
                    refine ziinc3 (n' := 1) (a' := 1) (b' := 8) (lv' := fun v9 => [(4, .int v9), (3, .int 1), (0, .ref o), (1, .int x_1), (2, .int x_2)]) hx hb dX12_hermits_73 hl (k := 4) rfl (by decide) (fun _ => rfl) (zaddK (i := x_15.toInt) (j := 1) rfl (by decide) i17.1 n32 (Int.le_refl _) (Int.le_refl _) (by decide)) (fun x_43 ls hx_43 hl => ?_)
                    refine lv_goto (tgt := 36) hx hb dX12_hermits_76 (by decide) ?_
                    have hl := lv_sub (l' := [(0, .ref o), (1, .int x_1), (2, .int x_2), (3, .int 1), (4, .int x_43)]) hl [2, 3, 4, 1, 0] rfl
                    have hP : va_P g.1 vwCl (List.flatten [bMo g o a 0 hi ac tp ba en tA fl de iD iO tU fm fk fa fc ft ff fb fi]) H := hP
                    have hD : va_D A (List.flatten [bMo g o a 0 hi ac tp ba en tA fl de iD iO tU fm fk fa fc ft ff fb fi]) := hD
                    exact ih36_19 1 x_43 (by decide) ⟨(Int.le_trans (by decide) hx_43.2.1), hx_43.2.2⟩ H _ ls (zmK hx_43.1 (by decide) n32 (by decide) hk36_19)  hP hD hS (lv_sub hl [0, 1, 2, 3, 4] rfl)
                  · skip
                    have c44 : ¬ x_15.toInt = x_2.toInt := zne cb9 rfl rfl
                    refine lv_aload_n hx hb dX12_hermits_57 rfl (lv_at hl 0 rfl) ?_
                    refine lv_iload hx hb dX12_hermits_58 (lv_at hl 4 rfl) ?_
                    refine lv_iload_n hx hb dX12_hermits_60 rfl (lv_at hl 2 rfl) ?_
                    refine mcallV' (g := g) (q0 := 0) (ci := 10) (As := [.int x_15, .int x_2]) (rest := []) St hK hT hA hP hD hS hl.1 [0] [] rfl rfl rfl (m_trustOf l g o a 0 hi ac tp ba en tA fl de iD iO tU fm fk fa fc ft ff fb fi x_15 x_2 (⟨i17.1, n32⟩) (⟨i3.1, n9⟩)) (cwV 2 hts (zgL (zl4 k868 k869 k870 k839) k835) rfl rfl rfl (by decide +kernel) ⟨Nat.le_of_ble_eq_true rfl, Nat.le_of_ble_eq_true rfl⟩) rfl rfl rfl rfl (Nat.le_of_ble_eq_true rfl) dX12_hermits_61 ⟨(Nat.le_of_ble_eq_true rfl), (Nat.le_of_ble_eq_true rfl)⟩ (fun q_45 H locs hq46 hP hD hS => ?_)
                    have hP : va_P g.1 vwCl (List.flatten [bMo g o a 0 hi ac tp ba en tA fl de iD iO tU fm fk fa fc ft ff fb fi]) H := hP
                    have hD : va_D A (List.flatten [bMo g o a 0 hi ac tp ba en tA fl de iD iO tU fm fk fa fc ft ff fb fi]) := hD
                    refine W.widen (k := 0) (n := 0) (Nat.le_of_ble_eq_true rfl) (Nat.le_of_ble_eq_true rfl) ?_
                    refine W.eq (g2 := F0 m 64 ls [.int q_45]) rfl ?_
                    refine lv_if_ne (tgt := 71) hx hb dX12_hermits_64 (by decide) (fun cb9 => ?_) (fun cb9 => ?_)
                    · skip
                      have c47 : ¬ q_45.toInt = 0 := zne cb9 rfl (by decide)
                      refine lv_iconst (v := 0) hx hb dX12_hermits_71 (by decide) ?_
                      refine lv_istore_n (lv' := [(3, .int 0), (0, .ref o), (1, .int x_1), (2, .int x_2), (4, .int x_15)]) hx hb dX12_hermits_72 rfl hl (by decide) rfl (fun ls hl => ?_)
                      refine ziinc3 (n' := 1) (a' := 1) (b' := 8) (lv' := fun v9 => [(4, .int v9), (3, .int 0), (0, .ref o), (1, .int x_1), (2, .int x_2)]) hx hb dX12_hermits_73 hl (k := 4) rfl (by decide) (fun _ => rfl) (zaddK (i := x_15.toInt) (j := 1) rfl (by decide) i17.1 n32 (Int.le_refl _) (Int.le_refl _) (by decide)) (fun x_48 ls hx_48 hl => ?_)
                      refine lv_goto (tgt := 36) hx hb dX12_hermits_76 (by decide) ?_
                      have hl := lv_sub (l' := [(0, .ref o), (1, .int x_1), (2, .int x_2), (3, .int 0), (4, .int x_48)]) hl [2, 3, 4, 1, 0] rfl
                      have hP : va_P g.1 vwCl (List.flatten [bMo g o a 0 hi ac tp ba en tA fl de iD iO tU fm fk fa fc ft ff fb fi]) H := hP
                      have hD : va_D A (List.flatten [bMo g o a 0 hi ac tp ba en tA fl de iD iO tU fm fk fa fc ft ff fb fi]) := hD
                      exact ih36_19 0 x_48 (by decide) ⟨(Int.le_trans (by decide) hx_48.2.1), hx_48.2.2⟩ H _ ls (zmK hx_48.1 (by decide) n32 (by decide) hk36_19)  hP hD hS (lv_sub hl [0, 1, 2, 3, 4] rfl)
                    · skip
                      have c49 : q_45.toInt = 0 := zeq cb9 rfl (by decide)
                      have n50 : 0 ≤ q_45.toInt := Int.le_trans (Int.le_refl _) (Int.le_of_eq c49.symm)
                      have n51 : q_45.toInt ≤ 0 := Int.le_trans (Int.le_of_eq c49) (Int.le_refl _)
                      refine lv_iconst (v := 1) hx hb dX12_hermits_67 (by decide) ?_
                      refine lv_goto (tgt := 72) hx hb dX12_hermits_68 (by decide) ?_
                      refine lv_istore_n (lv' := [(3, .int 1), (0, .ref o), (1, .int x_1), (2, .int x_2), (4, .int x_15)]) hx hb dX12_hermits_72 rfl hl (by decide) rfl (fun ls hl => ?_)
                      refine ziinc3 (n' := 1) (a' := 1) (b' := 8) (lv' := fun v9 => [(4, .int v9), (3, .int 1), (0, .ref o), (1, .int x_1), (2, .int x_2)]) hx hb dX12_hermits_73 hl (k := 4) rfl (by decide) (fun _ => rfl) (zaddK (i := x_15.toInt) (j := 1) rfl (by decide) i17.1 n32 (Int.le_refl _) (Int.le_refl _) (by decide)) (fun x_52 ls hx_52 hl => ?_)
                      refine lv_goto (tgt := 36) hx hb dX12_hermits_76 (by decide) ?_
                      have hl := lv_sub (l' := [(0, .ref o), (1, .int x_1), (2, .int x_2), (3, .int 1), (4, .int x_52)]) hl [2, 3, 4, 1, 0] rfl
                      have hP : va_P g.1 vwCl (List.flatten [bMo g o a 0 hi ac tp ba en tA fl de iD iO tU fm fk fa fc ft ff fb fi]) H := hP
                      have hD : va_D A (List.flatten [bMo g o a 0 hi ac tp ba en tA fl de iD iO tU fm fk fa fc ft ff fb fi]) := hD
                      exact ih36_19 1 x_52 (by decide) ⟨(Int.le_trans (by decide) hx_52.2.1), hx_52.2.2⟩ H _ ls (zmK hx_52.1 (by decide) n32 (by decide) hk36_19)  hP hD hS (lv_sub hl [0, 1, 2, 3, 4] rfl)
          have hP : va_P g.1 vwCl (List.flatten [bMo g o a 0 hi ac tp ba en tA fl de iD iO tU fm fk fa fc ft ff fb fi]) H := hP
          have hD : va_D A (List.flatten [bMo g o a 0 hi ac tp ba en tA fl de iD iO tU fm fk fa fc ft ff fb fi]) := hD
          exact LP36_18 _ 0 0 (by decide) (by decide) H _ ls (Nat.lt_succ_self _)  hP hD hS (lv_sub hl [0, 1, 2, 3, 4] rfl)
        · skip
          have c53 : q_11.toInt = 0 := zeq cb9 rfl (by decide)
          have n54 : 0 ≤ q_11.toInt := Int.le_trans (Int.le_refl _) (Int.le_of_eq c53.symm)
          have n55 : q_11.toInt ≤ 0 := Int.le_trans (Int.le_of_eq c53) (Int.le_refl _)
          refine lv_iconst (v := 1) hx hb dX12_hermits_27 (by decide) ?_
          refine lv_goto (tgt := 32) hx hb dX12_hermits_28 (by decide) ?_
          refine lv_istore_n (lv' := [(3, .int 1), (0, .ref o), (1, .int x_1), (2, .int x_2)]) hx hb dX12_hermits_32 rfl hl (by decide) rfl (fun ls hl => ?_)
          refine lv_iconst (v := 0) hx hb dX12_hermits_33 (by decide) ?_
          refine lv_istore (lv' := [(4, .int 0), (3, .int 1), (0, .ref o), (1, .int x_1), (2, .int x_2)]) hx hb dX12_hermits_34 hl (by decide) rfl (fun ls hl => ?_)
          have hl := lv_sub (l' := [(0, .ref o), (1, .int x_1), (2, .int x_2), (3, .int 1), (4, .int 0)]) hl [2, 3, 4, 1, 0] rfl
          have LP36_60 : ∀ (kf : Nat) (x_56 : Int32) (x_57 : Int32), (0 ≤ x_56.toInt ∧ x_56.toInt ≤ 1) → (0 ≤ x_57.toInt ∧ x_57.toInt ≤ 8) → ∀ (H : Heap) (locs : List Loc) (ls : Array Slot), ((9 - x_57.toInt).toNat) < kf → va_P g.1 vwCl (List.flatten [bMo g o a 0 hi ac tp ba en tA fl de iD iO tU fm fk fa fc ft ff fb fi]) H → va_D A (List.flatten [bMo g o a 0 hi ac tp ba en tA fl de iD iO tU fm fk fa fc ft ff fb fi]) → va_S A s.heap H locs → lv_has ls 5 [(0, .ref o), (1, .int x_1), (2, .int x_2), (3, .int x_56), (4, .int x_57)] → W p l e ({ frames := 2, cells := 0, slots := 0, locals := 45 } : Room) s m args below meth c H locs (0) (0) (zF g (fun u : Int32 × Int32 => (fun (th2 : Int32) (q : Int32) => some (.int q)) (u.1) (u.2)) (fun u : Int32 × Int32 => (fun (th2 : Int32) (q : Int32) => True) (u.1) (u.2)) (fun u : Int32 × Int32 => (fun (th2 : Int32) (q : Int32) => [bMo g o a th2 hi ac tp ba en tA fl de iD iO tU fm fk fa fc ft ff fb fi]) (u.1) (u.2)) ({ frames := 2, cells := 0, slots := 0, locals := 45 } : Room) below args s A) (F0 m 36 ls []) := by
            intro kf
            induction kf with
            | zero => intro x_56 x_57 i58 i59 H locs ls hk; exact absurd hk (Nat.not_lt_zero _)
            | succ kf ih36_61 =>
              intro x_56 x_57 i58 i59 H locs ls hk36_61 hP hD hS hl
              refine lv_iload hx hb dX12_hermits_36 (lv_at hl 4 rfl) ?_
              refine lv_aload_n hx hb dX12_hermits_38 rfl (lv_at hl 0 rfl) ?_
              refine va_get (D := g.1) (ci := 10) (v := .ref (a 0)) (C := RX12) (T := TX12) (N := 20) hx hb hts izRX12 hown hK hP 0 rfl rfl 1 (by decide) (hts _ k815) (fun _ h9 => h9) rfl dX12_hermits_39 ?_
              refine lv_iconst (v := 3) hx hb dX12_hermits_42 (by decide) ?_
              refine va_iald hx hb hK hP 1 0 rfl rfl (zin rfl) dX12_hermits_43 ?_
              refine zgq (r := fm 3) rfl (rM3 rfm) (fun x_62 hx_62 => ?_)
              refine lv_icmp_ge (tgt := 79) hx hb dX12_hermits_44 (by decide) (fun cb9 => ?_) (fun cb9 => ?_)
              · skip
                have c63 : x_62.toInt ≤ x_57.toInt := zle cb9 rfl rfl
                refine lv_iload_n hx hb dX12_hermits_79 rfl (lv_at hl 1 rfl) ?_
                refine lv_iload_n hx hb dX12_hermits_80 rfl (lv_at hl 3 rfl) ?_
                refine lv_if_eq (tgt := 90) hx hb dX12_hermits_81 (by decide) (fun cb9 => ?_) (fun cb9 => ?_)
                · skip
                  have c64 : x_56.toInt = 0 := zeq cb9 rfl (by decide)
                  have n65 : x_56.toInt ≤ 0 := Int.le_trans (Int.le_of_eq c64) (Int.le_refl _)
                  refine lv_iconst (v := 0) hx hb dX12_hermits_90 (by decide) ?_
                  refine lv_ior hx hb dX12_hermits_91 ?_
                  refine zg (fun x_66 => ?_)
                  refine lv_istore_n (lv' := [(1, .int x_66), (0, .ref o), (2, .int x_2), (3, .int x_56), (4, .int x_57)]) hx hb dX12_hermits_92 rfl hl (by decide) rfl (fun ls hl => ?_)
                  refine ziinc3 (n' := 1) (a' := 1) (b' := 8) (lv' := fun v9 => [(2, .int v9), (1, .int x_66), (0, .ref o), (3, .int x_56), (4, .int x_57)]) hx hb dX12_hermits_93 hl (k := 2) rfl (by decide) (fun _ => rfl) (zaddK (i := x_2.toInt) (j := 1) rfl (by decide) i3.1 n9 (Int.le_refl _) (Int.le_refl _) (by decide)) (fun x_67 ls hx_67 hl => ?_)
                  refine lv_goto (tgt := 9) hx hb dX12_hermits_96 (by decide) ?_
                  have hl := lv_sub (l' := [(0, .ref o), (1, .int x_66), (2, .int x_67), (3, .int x_56), (4, .int x_57)]) hl [2, 1, 0, 3, 4] rfl
                  have hP : va_P g.1 vwCl (List.flatten [bMo g o a 0 hi ac tp ba en tA fl de iD iO tU fm fk fa fc ft ff fb fi]) H := hP
                  have hD : va_D A (List.flatten [bMo g o a 0 hi ac tp ba en tA fl de iD iO tU fm fk fa fc ft ff fb fi]) := hD
                  exact ih9_5 x_66 x_67 ⟨(Int.le_trans (by decide) hx_67.2.1), hx_67.2.2⟩ H _ ls (zmK hx_67.1 (by decide) n9 (by decide) hk9_5)  hP hD hS (lv_sub hl [0, 1, 2] rfl)
                · skip
                  have c68 : ¬ x_56.toInt = 0 := zne cb9 rfl (by decide)
                  have n69 : 1 ≤ x_56.toInt := zN1 c68 i58.1 (by decide)
                  refine lv_iconst (v := 1) hx hb dX12_hermits_84 (by decide) ?_
                  refine lv_iload_n hx hb dX12_hermits_85 rfl (lv_at hl 2 rfl) ?_
                  refine lv_ishl hx hb dX12_hermits_86 ?_
                  refine zgb (zshl1 (j := x_2.toInt) rfl 7 128 (by decide) (by decide) ⟨i3.1, n9⟩) (fun x_70 hx_70 => ?_)
                  refine lv_goto (tgt := 91) hx hb dX12_hermits_87 (by decide) ?_
                  refine lv_ior hx hb dX12_hermits_91 ?_
                  refine zg (fun x_71 => ?_)
                  refine lv_istore_n (lv' := [(1, .int x_71), (0, .ref o), (2, .int x_2), (3, .int x_56), (4, .int x_57)]) hx hb dX12_hermits_92 rfl hl (by decide) rfl (fun ls hl => ?_)
                  refine ziinc3 (n' := 1) (a' := 1) (b' := 8) (lv' := fun v9 => [(2, .int v9), (1, .int x_71), (0, .ref o), (3, .int x_56), (4, .int x_57)]) hx hb dX12_hermits_93 hl (k := 2) rfl (by decide) (fun _ => rfl) (zaddK (i := x_2.toInt) (j := 1) rfl (by decide) i3.1 n9 (Int.le_refl _) (Int.le_refl _) (by decide)) (fun x_72 ls hx_72 hl => ?_)
                  refine lv_goto (tgt := 9) hx hb dX12_hermits_96 (by decide) ?_
                  have hl := lv_sub (l' := [(0, .ref o), (1, .int x_71), (2, .int x_72), (3, .int x_56), (4, .int x_57)]) hl [2, 1, 0, 3, 4] rfl
                  have hP : va_P g.1 vwCl (List.flatten [bMo g o a 0 hi ac tp ba en tA fl de iD iO tU fm fk fa fc ft ff fb fi]) H := hP
                  have hD : va_D A (List.flatten [bMo g o a 0 hi ac tp ba en tA fl de iD iO tU fm fk fa fc ft ff fb fi]) := hD
                  exact ih9_5 x_71 x_72 ⟨(Int.le_trans (by decide) hx_72.2.1), hx_72.2.2⟩ H _ ls (zmK hx_72.1 (by decide) n9 (by decide) hk9_5)  hP hD hS (lv_sub hl [0, 1, 2] rfl)
              · skip
                have c73 : x_57.toInt < x_62.toInt := zlti (Int32.not_le.mp cb9) rfl rfl
                have n74 : x_57.toInt ≤ 7 := zL1 (b := 8) c73 hx_62.2.1 (by decide)
                have n75 : 1 ≤ x_62.toInt := zL2 (a := 0) c73 i59.1 (by decide)
                refine lv_iload_n hx hb dX12_hermits_47 rfl (lv_at hl 3 rfl) ?_
                refine lv_if_eq (tgt := 79) hx hb dX12_hermits_48 (by decide) (fun cb9 => ?_) (fun cb9 => ?_)
                · skip
                  have c76 : x_56.toInt = 0 := zeq cb9 rfl (by decide)
                  have n77 : x_56.toInt ≤ 0 := Int.le_trans (Int.le_of_eq c76) (Int.le_refl _)
                  refine lv_iload_n hx hb dX12_hermits_79 rfl (lv_at hl 1 rfl) ?_
                  refine lv_iload_n hx hb dX12_hermits_80 rfl (lv_at hl 3 rfl) ?_
                  refine lv_if_eq (tgt := 90) hx hb dX12_hermits_81 (by decide) (fun cb9 => ?_) (fun cb9 => ?_)
                  · skip
                    have c78 : x_56.toInt = 0 := zeq cb9 rfl (by decide)
                    refine lv_iconst (v := 0) hx hb dX12_hermits_90 (by decide) ?_
                    refine lv_ior hx hb dX12_hermits_91 ?_
                    refine zg (fun x_79 => ?_)
                    refine lv_istore_n (lv' := [(1, .int x_79), (0, .ref o), (2, .int x_2), (3, .int x_56), (4, .int x_57)]) hx hb dX12_hermits_92 rfl hl (by decide) rfl (fun ls hl => ?_)
                    refine ziinc3 (n' := 1) (a' := 1) (b' := 8) (lv' := fun v9 => [(2, .int v9), (1, .int x_79), (0, .ref o), (3, .int x_56), (4, .int x_57)]) hx hb dX12_hermits_93 hl (k := 2) rfl (by decide) (fun _ => rfl) (zaddK (i := x_2.toInt) (j := 1) rfl (by decide) i3.1 n9 (Int.le_refl _) (Int.le_refl _) (by decide)) (fun x_80 ls hx_80 hl => ?_)
                    refine lv_goto (tgt := 9) hx hb dX12_hermits_96 (by decide) ?_
                    have hl := lv_sub (l' := [(0, .ref o), (1, .int x_79), (2, .int x_80), (3, .int x_56), (4, .int x_57)]) hl [2, 1, 0, 3, 4] rfl
                    have hP : va_P g.1 vwCl (List.flatten [bMo g o a 0 hi ac tp ba en tA fl de iD iO tU fm fk fa fc ft ff fb fi]) H := hP
                    have hD : va_D A (List.flatten [bMo g o a 0 hi ac tp ba en tA fl de iD iO tU fm fk fa fc ft ff fb fi]) := hD
                    exact ih9_5 x_79 x_80 ⟨(Int.le_trans (by decide) hx_80.2.1), hx_80.2.2⟩ H _ ls (zmK hx_80.1 (by decide) n9 (by decide) hk9_5)  hP hD hS (lv_sub hl [0, 1, 2] rfl)
                  · skip
                    exact absurd (show ¬ x_56.toInt = 0 from zne cb9 rfl (by decide)) (by omega)
                · skip
                  have c82 : ¬ x_56.toInt = 0 := zne cb9 rfl (by decide)
                  have n83 : 1 ≤ x_56.toInt := zN1 c82 i58.1 (by decide)
                  refine lv_iload hx hb dX12_hermits_51 (lv_at hl 4 rfl) ?_
                  refine lv_iload_n hx hb dX12_hermits_53 rfl (lv_at hl 2 rfl) ?_
                  refine lv_icmp_eq (tgt := 67) hx hb dX12_hermits_54 (by decide) (fun cb9 => ?_) (fun cb9 => ?_)
                  · skip
                    have c84 : x_57.toInt = x_2.toInt := zeq cb9 rfl rfl
                    refine lv_iconst (v := 1) hx hb dX12_hermits_67 (by decide) ?_
                    refine lv_goto (tgt := 72) hx hb dX12_hermits_68 (by decide) ?_
                    refine lv_istore_n (lv' := [(3, .int 1), (0, .ref o), (1, .int x_1), (2, .int x_2), (4, .int x_57)]) hx hb dX12_hermits_72 rfl hl (by decide) rfl (fun ls hl => ?_)
                    refine ziinc3 (n' := 1) (a' := 1) (b' := 8) (lv' := fun v9 => [(4, .int v9), (3, .int 1), (0, .ref o), (1, .int x_1), (2, .int x_2)]) hx hb dX12_hermits_73 hl (k := 4) rfl (by decide) (fun _ => rfl) (zaddK (i := x_57.toInt) (j := 1) rfl (by decide) i59.1 n74 (Int.le_refl _) (Int.le_refl _) (by decide)) (fun x_85 ls hx_85 hl => ?_)
                    refine lv_goto (tgt := 36) hx hb dX12_hermits_76 (by decide) ?_
                    have hl := lv_sub (l' := [(0, .ref o), (1, .int x_1), (2, .int x_2), (3, .int 1), (4, .int x_85)]) hl [2, 3, 4, 1, 0] rfl
                    have hP : va_P g.1 vwCl (List.flatten [bMo g o a 0 hi ac tp ba en tA fl de iD iO tU fm fk fa fc ft ff fb fi]) H := hP
                    have hD : va_D A (List.flatten [bMo g o a 0 hi ac tp ba en tA fl de iD iO tU fm fk fa fc ft ff fb fi]) := hD
                    exact ih36_61 1 x_85 (by decide) ⟨(Int.le_trans (by decide) hx_85.2.1), hx_85.2.2⟩ H _ ls (zmK hx_85.1 (by decide) n74 (by decide) hk36_61)  hP hD hS (lv_sub hl [0, 1, 2, 3, 4] rfl)
                  · skip
                    have c86 : ¬ x_57.toInt = x_2.toInt := zne cb9 rfl rfl
                    refine lv_aload_n hx hb dX12_hermits_57 rfl (lv_at hl 0 rfl) ?_
                    refine lv_iload hx hb dX12_hermits_58 (lv_at hl 4 rfl) ?_
                    refine lv_iload_n hx hb dX12_hermits_60 rfl (lv_at hl 2 rfl) ?_
                    refine mcallV' (g := g) (q0 := 0) (ci := 10) (As := [.int x_57, .int x_2]) (rest := []) St hK hT hA hP hD hS hl.1 [0] [] rfl rfl rfl (m_trustOf l g o a 0 hi ac tp ba en tA fl de iD iO tU fm fk fa fc ft ff fb fi x_57 x_2 (⟨i59.1, n74⟩) (⟨i3.1, n9⟩)) (cwV 2 hts (zgL (zl4 k868 k869 k870 k839) k835) rfl rfl rfl (by decide +kernel) ⟨Nat.le_of_ble_eq_true rfl, Nat.le_of_ble_eq_true rfl⟩) rfl rfl rfl rfl (Nat.le_of_ble_eq_true rfl) dX12_hermits_61 ⟨(Nat.le_of_ble_eq_true rfl), (Nat.le_of_ble_eq_true rfl)⟩ (fun q_87 H locs hq88 hP hD hS => ?_)
                    have hP : va_P g.1 vwCl (List.flatten [bMo g o a 0 hi ac tp ba en tA fl de iD iO tU fm fk fa fc ft ff fb fi]) H := hP
                    have hD : va_D A (List.flatten [bMo g o a 0 hi ac tp ba en tA fl de iD iO tU fm fk fa fc ft ff fb fi]) := hD
                    refine W.widen (k := 0) (n := 0) (Nat.le_of_ble_eq_true rfl) (Nat.le_of_ble_eq_true rfl) ?_
                    refine W.eq (g2 := F0 m 64 ls [.int q_87]) rfl ?_
                    refine lv_if_ne (tgt := 71) hx hb dX12_hermits_64 (by decide) (fun cb9 => ?_) (fun cb9 => ?_)
                    · skip
                      have c89 : ¬ q_87.toInt = 0 := zne cb9 rfl (by decide)
                      refine lv_iconst (v := 0) hx hb dX12_hermits_71 (by decide) ?_
                      refine lv_istore_n (lv' := [(3, .int 0), (0, .ref o), (1, .int x_1), (2, .int x_2), (4, .int x_57)]) hx hb dX12_hermits_72 rfl hl (by decide) rfl (fun ls hl => ?_)
                      refine ziinc3 (n' := 1) (a' := 1) (b' := 8) (lv' := fun v9 => [(4, .int v9), (3, .int 0), (0, .ref o), (1, .int x_1), (2, .int x_2)]) hx hb dX12_hermits_73 hl (k := 4) rfl (by decide) (fun _ => rfl) (zaddK (i := x_57.toInt) (j := 1) rfl (by decide) i59.1 n74 (Int.le_refl _) (Int.le_refl _) (by decide)) (fun x_90 ls hx_90 hl => ?_)
                      refine lv_goto (tgt := 36) hx hb dX12_hermits_76 (by decide) ?_
                      have hl := lv_sub (l' := [(0, .ref o), (1, .int x_1), (2, .int x_2), (3, .int 0), (4, .int x_90)]) hl [2, 3, 4, 1, 0] rfl
                      have hP : va_P g.1 vwCl (List.flatten [bMo g o a 0 hi ac tp ba en tA fl de iD iO tU fm fk fa fc ft ff fb fi]) H := hP
                      have hD : va_D A (List.flatten [bMo g o a 0 hi ac tp ba en tA fl de iD iO tU fm fk fa fc ft ff fb fi]) := hD
                      exact ih36_61 0 x_90 (by decide) ⟨(Int.le_trans (by decide) hx_90.2.1), hx_90.2.2⟩ H _ ls (zmK hx_90.1 (by decide) n74 (by decide) hk36_61)  hP hD hS (lv_sub hl [0, 1, 2, 3, 4] rfl)
                    · skip
                      have c91 : q_87.toInt = 0 := zeq cb9 rfl (by decide)
                      have n92 : 0 ≤ q_87.toInt := Int.le_trans (Int.le_refl _) (Int.le_of_eq c91.symm)
                      have n93 : q_87.toInt ≤ 0 := Int.le_trans (Int.le_of_eq c91) (Int.le_refl _)
                      refine lv_iconst (v := 1) hx hb dX12_hermits_67 (by decide) ?_
                      refine lv_goto (tgt := 72) hx hb dX12_hermits_68 (by decide) ?_
                      refine lv_istore_n (lv' := [(3, .int 1), (0, .ref o), (1, .int x_1), (2, .int x_2), (4, .int x_57)]) hx hb dX12_hermits_72 rfl hl (by decide) rfl (fun ls hl => ?_)
                      refine ziinc3 (n' := 1) (a' := 1) (b' := 8) (lv' := fun v9 => [(4, .int v9), (3, .int 1), (0, .ref o), (1, .int x_1), (2, .int x_2)]) hx hb dX12_hermits_73 hl (k := 4) rfl (by decide) (fun _ => rfl) (zaddK (i := x_57.toInt) (j := 1) rfl (by decide) i59.1 n74 (Int.le_refl _) (Int.le_refl _) (by decide)) (fun x_94 ls hx_94 hl => ?_)
                      refine lv_goto (tgt := 36) hx hb dX12_hermits_76 (by decide) ?_
                      have hl := lv_sub (l' := [(0, .ref o), (1, .int x_1), (2, .int x_2), (3, .int 1), (4, .int x_94)]) hl [2, 3, 4, 1, 0] rfl
                      have hP : va_P g.1 vwCl (List.flatten [bMo g o a 0 hi ac tp ba en tA fl de iD iO tU fm fk fa fc ft ff fb fi]) H := hP
                      have hD : va_D A (List.flatten [bMo g o a 0 hi ac tp ba en tA fl de iD iO tU fm fk fa fc ft ff fb fi]) := hD
                      exact ih36_61 1 x_94 (by decide) ⟨(Int.le_trans (by decide) hx_94.2.1), hx_94.2.2⟩ H _ ls (zmK hx_94.1 (by decide) n74 (by decide) hk36_61)  hP hD hS (lv_sub hl [0, 1, 2, 3, 4] rfl)
          have hP : va_P g.1 vwCl (List.flatten [bMo g o a 0 hi ac tp ba en tA fl de iD iO tU fm fk fa fc ft ff fb fi]) H := hP
          have hD : va_D A (List.flatten [bMo g o a 0 hi ac tp ba en tA fl de iD iO tU fm fk fa fc ft ff fb fi]) := hD
          exact LP36_60 _ 1 0 (by decide) (by decide) H _ ls (Nat.lt_succ_self _)  hP hD hS (lv_sub hl [0, 1, 2, 3, 4] rfl)
  have hP : va_P g.1 vwCl (List.flatten [bMo g o a 0 hi ac tp ba en tA fl de iD iO tU fm fk fa fc ft ff fb fi]) H := hP
  have hD : va_D A (List.flatten [bMo g o a 0 hi ac tp ba en tA fl de iD iO tU fm fk fa fc ft ff fb fi]) := hD
  exact LP9_4 _ 0 0 (by decide) H _ ls (Nat.lt_succ_self _)  hP hD hS (lv_sub hl [0, 1, 2] rfl)
set_option maxRecDepth 100000 in
set_option maxHeartbeats 4000000 in
theorem m_rests (l : Launch) (g : zG) (o : Nat) (a : Nat → Nat) (th : Int32) (hi : Int32) (ac : Int32) (tp : Int32) (ba : Int32) (en : Int32) (tA : Int32) (fl : Int32) (de : Int32) (iD : Int32) (iO : Int32) (tU : Int32) (fm : Nat → Int32) (fk : Nat → Int32) (fa : Nat → Int32) (fc : Nat → Int32) (ft : Nat → Int32) (ff : Nat → Int32) (fb : Nat → Int32) (fi : Nat → Int32) (x : Int32) (o2 : Int32) (rfm : rM fm) : zM' g l yX12_rests (Cond.code yX12_rests cX12_rests 7 (some .int) :: zB) ({ frames := 2, cells := 0, slots := 0, locals := 46 } : Room) [.ref o, .int x, .int o2] [bMo g o a th hi ac tp ba en tA fl de iD iO tU fm fk fa fc ft ff fb fi] (fun u : Int32 × Int32 => (fun (th2 : Int32) (q : Int32) => some (.int q)) (u.1) (u.2)) (fun u : Int32 × Int32 => (fun (th2 : Int32) (q : Int32) => True) (u.1) (u.2)) (fun u : Int32 × Int32 => (fun (th2 : Int32) (q : Int32) => [bMo g o a th2 hi ac tp ba en tA fl de iD iO tU fm fk fa fc ft ff fb fi]) (u.1) (u.2)) := by
  refine zM'.of (cc := cX12_rests) (maxL := 7) (rt := (some .int)) (by decide) rfl (Nat.le_of_ble_eq_true rfl) ?_
  intro p e s m args below meth c A ls St hr hlocks hin hK hT hA hP hD hS hl
  obtain ⟨hx, hb, hml, hown, hts⟩ := id St
  have hl : lv_has ls 7 [(0, .ref o), (1, .int x), (2, .int o2)] := hl
  refine lv_aload_n hx hb dX12_rests_0 rfl (lv_at hl 0 rfl) ?_
  refine lv_aload_n hx hb dX12_rests_1 rfl (lv_at hl 0 rfl) ?_
  refine lv_iload_n hx hb dX12_rests_2 rfl (lv_at hl 1 rfl) ?_
  refine mcallV' (g := g) (q0 := 0) (ci := 10) (As := [.int x]) (rest := [.ref o]) St hK hT hA hP hD hS hl.1 [0] [] rfl rfl rfl (m_isPerson l g o a th hi ac tp ba en tA fl de iD iO tU fm fk fa fc ft ff fb fi x rfm) (cwV 1 hts (zgL (zl4 k1033 k1034 k1035 k839) k836) rfl rfl rfl (by decide +kernel) ⟨Nat.le_of_ble_eq_true rfl, Nat.le_of_ble_eq_true rfl⟩) rfl rfl rfl rfl (Nat.le_of_ble_eq_true rfl) dX12_rests_3 ⟨(Nat.le_of_ble_eq_true rfl), (Nat.le_of_ble_eq_true rfl)⟩ (fun q_1 H locs hq2 hP hD hS => ?_)
  replace hq2 : (q_1 = 1 ∧ 0 ≤ x.toInt ∧ x.toInt ≤ 7 ∧ x.toInt < (fm 3).toInt ∨ q_1 = 0) := hq2
  have hP : va_P g.1 vwCl (List.flatten [bMo g o a th hi ac tp ba en tA fl de iD iO tU fm fk fa fc ft ff fb fi]) H := hP
  have hD : va_D A (List.flatten [bMo g o a th hi ac tp ba en tA fl de iD iO tU fm fk fa fc ft ff fb fi]) := hD
  refine W.widen (k := 0) (n := 0) (Nat.le_of_ble_eq_true rfl) (Nat.le_of_ble_eq_true rfl) ?_
  refine W.eq (g2 := F0 m 6 ls [.int q_1, .ref o]) rfl ?_
  rcases hq2 with ⟨rfl, hq2_k⟩ | rfl
  · skip
    refine lv_if_eq (tgt := 17) hx hb dX12_rests_6 (by decide) (fun c3 => absurd c3 (by decide)) (fun _ => ?_)
    refine lv_aload_n hx hb dX12_rests_9 rfl (lv_at hl 0 rfl) ?_
    refine lv_iload_n hx hb dX12_rests_10 rfl (lv_at hl 2 rfl) ?_
    refine mcallV' (g := g) (q0 := 0) (ci := 10) (As := [.int o2]) (rest := [.ref o]) St hK hT hA hP hD hS hl.1 [0] [] rfl rfl rfl (m_isPerson l g o a th hi ac tp ba en tA fl de iD iO tU fm fk fa fc ft ff fb fi o2 rfm) (cwV 1 hts (zgL (zl4 k1033 k1034 k1035 k839) k836) rfl rfl rfl (by decide +kernel) ⟨Nat.le_of_ble_eq_true rfl, Nat.le_of_ble_eq_true rfl⟩) rfl rfl rfl rfl (Nat.le_of_ble_eq_true rfl) dX12_rests_11 ⟨(Nat.le_of_ble_eq_true rfl), (Nat.le_of_ble_eq_true rfl)⟩ (fun q_4 H locs hq5 hP hD hS => ?_)
    replace hq5 : (q_4 = 1 ∧ 0 ≤ o2.toInt ∧ o2.toInt ≤ 7 ∧ o2.toInt < (fm 3).toInt ∨ q_4 = 0) := hq5
    have hP : va_P g.1 vwCl (List.flatten [bMo g o a th hi ac tp ba en tA fl de iD iO tU fm fk fa fc ft ff fb fi]) H := hP
    have hD : va_D A (List.flatten [bMo g o a th hi ac tp ba en tA fl de iD iO tU fm fk fa fc ft ff fb fi]) := hD
    refine W.widen (k := 0) (n := 0) (Nat.le_of_ble_eq_true rfl) (Nat.le_of_ble_eq_true rfl) ?_
    refine W.eq (g2 := F0 m 14 ls [.int q_4, .ref o]) rfl ?_
    rcases hq5 with ⟨rfl, hq5_k⟩ | rfl
    · skip
      refine lv_if_ne (tgt := 21) hx hb dX12_rests_14 (by decide) (fun _ => ?_) (fun c6 => absurd c6 (by decide))
      refine lv_iload_n hx hb dX12_rests_21 rfl (lv_at hl 1 rfl) ?_
      refine lv_iload_n hx hb dX12_rests_22 rfl (lv_at hl 2 rfl) ?_
      refine lv_icmp_ne (tgt := 30) hx hb dX12_rests_23 (by decide) (fun cb9 => ?_) (fun cb9 => ?_)
      · skip
        have c7 : ¬ x.toInt = o2.toInt := zne cb9 rfl rfl
        refine lv_iconst (v := 0) hx hb dX12_rests_30 (by decide) ?_
        refine va_put (D := g.1) (ci := 10) (v := .int 0) (ty := .int) (C := RX12) (T := TX12) (N := 20) hx hb hts izRX12 tyX12 tyX12_ok nmX12 hown hK hP hD hS 0 rfl rfl 0 (by decide) (hts _ k825) (fun _ h9 => h9) rfl (by decide +kernel) rfl rfl (Nat.le_of_ble_eq_true rfl) dX12_rests_31 (fun H locs hP hD hS => ?_)
        have hP : va_P g.1 vwCl (List.flatten [bMo g o a 0 hi ac tp ba en tA fl de iD iO tU fm fk fa fc ft ff fb fi]) H := hP
        have hD : va_D A (List.flatten [bMo g o a 0 hi ac tp ba en tA fl de iD iO tU fm fk fa fc ft ff fb fi]) := hD
        refine lv_aload_n hx hb dX12_rests_34 rfl (lv_at hl 0 rfl) ?_
        refine va_get (D := g.1) (ci := 10) (v := .int 0) (C := RX12) (T := TX12) (N := 20) hx hb hts izRX12 hown hK hP 0 rfl rfl 0 (by decide) (hts _ k825) (fun _ h9 => h9) rfl dX12_rests_35 ?_
        refine lv_if_le (tgt := 43) hx hb dX12_rests_38 (by decide) (fun _ => ?_) (fun c8 => absurd (by decide) c8)
        refine lv_iconst (v := 0) hx hb dX12_rests_43 (by decide) ?_
        refine lv_istore_n (lv' := [(3, .int 0), (0, .ref o), (1, .int x), (2, .int o2)]) hx hb dX12_rests_44 rfl hl (by decide) rfl (fun ls hl => ?_)
        refine lv_iconst (v := 0) hx hb dX12_rests_45 (by decide) ?_
        refine lv_istore (lv' := [(4, .int 0), (3, .int 0), (0, .ref o), (1, .int x), (2, .int o2)]) hx hb dX12_rests_46 hl (by decide) rfl (fun ls hl => ?_)
        have hl := lv_sub (l' := [(0, .ref o), (1, .int x), (2, .int o2), (3, .int 0), (4, .int 0)]) hl [2, 3, 4, 1, 0] rfl
        have LP48_12 : ∀ (kf : Nat) (x_9 : Int32) (x_10 : Int32), (0 ≤ x_10.toInt ∧ x_10.toInt ≤ 4) → ∀ (H : Heap) (locs : List Loc) (ls : Array Slot), ((5 - x_10.toInt).toNat) < kf → va_P g.1 vwCl (List.flatten [bMo g o a 0 hi ac tp ba en tA fl de iD iO tU fm fk fa fc ft ff fb fi]) H → va_D A (List.flatten [bMo g o a 0 hi ac tp ba en tA fl de iD iO tU fm fk fa fc ft ff fb fi]) → va_S A s.heap H locs → lv_has ls 7 [(0, .ref o), (1, .int x), (2, .int o2), (3, .int x_9), (4, .int x_10)] → W p l e ({ frames := 2, cells := 0, slots := 0, locals := 46 } : Room) s m args below meth c H locs (0) (0) (zF g (fun u : Int32 × Int32 => (fun (th2 : Int32) (q : Int32) => some (.int q)) (u.1) (u.2)) (fun u : Int32 × Int32 => (fun (th2 : Int32) (q : Int32) => True) (u.1) (u.2)) (fun u : Int32 × Int32 => (fun (th2 : Int32) (q : Int32) => [bMo g o a th2 hi ac tp ba en tA fl de iD iO tU fm fk fa fc ft ff fb fi]) (u.1) (u.2)) ({ frames := 2, cells := 0, slots := 0, locals := 46 } : Room) below args s A) (F0 m 48 ls []) := by
          intro kf
          induction kf with
          | zero => intro x_9 x_10 i11 H locs ls hk; exact absurd hk (Nat.not_lt_zero _)
          | succ kf ih48_13 =>
            intro x_9 x_10 i11 H locs ls hk48_13 hP hD hS hl
            refine lv_iload hx hb dX12_rests_48 (lv_at hl 4 rfl) ?_
            refine lv_iconst (v := 4) hx hb dX12_rests_50 (by decide) ?_
            refine lv_icmp_ge (tgt := 123) hx hb dX12_rests_51 (by decide) (fun cb9 => ?_) (fun cb9 => ?_)
            · skip
              have c14 : 4 ≤ x_10.toInt := zle cb9 (by decide) rfl
              have n15 : 4 ≤ x_10.toInt := Int.le_trans (Int.le_refl _) c14
              refine lv_iload_n hx hb dX12_rests_123 rfl (lv_at hl 3 rfl) ?_
              have hP : va_P g.1 vwCl (List.flatten [bMo g o a 0 hi ac tp ba en tA fl de iD iO tU fm fk fa fc ft ff fb fi]) H := hP
              have hD : va_D A (List.flatten [bMo g o a 0 hi ac tp ba en tA fl de iD iO tU fm fk fa fc ft ff fb fi]) := hD
              exact mret_i hx hb hr hlocks hS (Nat.le_of_ble_eq_true rfl) (Nat.le_of_ble_eq_true rfl) dX12_rests_124 ((0 : Int32), x_9) rfl trivial hP hD
            · skip
              have c16 : x_10.toInt < 4 := zlti (Int32.not_le.mp cb9) rfl (by decide)
              have n17 : x_10.toInt ≤ 3 := zL1 (b := 4) c16 (Int.le_refl _) (by decide)
              refine lv_iload hx hb dX12_rests_54 (lv_at hl 4 rfl) ?_
              refine lv_iconst (v := 2) hx hb dX12_rests_56 (by decide) ?_
              refine lv_idiv hx hb dX12_rests_57 (by decide) ?_
              refine zgb (zdiv (j := x_10.toInt) (d := 2) rfl (by decide) i11.1 (by decide)) (fun x_18 hx_18 => ?_)
              refine lv_istore (lv' := [(5, .int x_18), (0, .ref o), (1, .int x), (2, .int o2), (3, .int x_9), (4, .int x_10)]) hx hb dX12_rests_58 hl (by decide) rfl (fun ls hl => ?_)
              refine lv_iload hx hb dX12_rests_60 (lv_at hl 5 rfl) ?_
              refine lv_iconst (v := 2) hx hb dX12_rests_62 (by decide) ?_
              refine lv_irem hx hb dX12_rests_63 (by decide) ?_
              refine zgb (zrem (j := x_10.toInt) (d := 2) rfl (by decide) i11.1 (by decide)) (fun x_19 hx_19 => ?_)
              refine lv_istore (lv' := [(6, .int x_19), (5, .int x_18), (0, .ref o), (1, .int x), (2, .int o2), (3, .int x_9), (4, .int x_10)]) hx hb dX12_rests_64 hl (by decide) rfl (fun ls hl => ?_)
              refine lv_iconst (v := 1) hx hb dX12_rests_66 (by decide) ?_
              refine lv_iload hx hb dX12_rests_67 (lv_at hl 1 rfl) ?_
              refine lv_isub hx hb dX12_rests_69 ?_
              refine zgv (zsub (i := 1) (j := x_18.toInt) (by decide) rfl (by omega)) (fun x_20 hx_20 => ?_)
              refine lv_iload hx hb dX12_rests_70 (lv_at hl 0 rfl) ?_
              refine mcallS' (g := g) (As := [.int x_20, .int x_19]) (rest := []) St hK hT hA hP hD hS hl.1 [] [0] rfl rfl rfl (m_tellerHas l g x_20 x_19 ) (va_cwS 2 hts (zgL (zl3 k1127 k1128 k839) k1122) rfl rfl rfl (by decide +kernel) ⟨Nat.le_of_ble_eq_true rfl, Nat.le_of_ble_eq_true rfl⟩) rfl rfl (Nat.le_of_ble_eq_true rfl) dX12_rests_72 ⟨(Nat.le_of_ble_eq_true rfl), (Nat.le_of_ble_eq_true rfl)⟩ (fun q_21 H locs hq22 hP hD hS => ?_)
              have hP : va_P g.1 vwCl (List.flatten [bMo g o a 0 hi ac tp ba en tA fl de iD iO tU fm fk fa fc ft ff fb fi]) H := hP
              have hD : va_D A (List.flatten [bMo g o a 0 hi ac tp ba en tA fl de iD iO tU fm fk fa fc ft ff fb fi]) := hD
              refine W.widen (k := 0) (n := 0) (Nat.le_of_ble_eq_true rfl) (Nat.le_of_ble_eq_true rfl) ?_
              refine W.eq (g2 := F0 m 75 ls [.int q_21]) rfl ?_
              refine lv_iload hx hb dX12_rests_75 (lv_at hl 1 rfl) ?_
              refine lv_iload hx hb dX12_rests_77 (lv_at hl 0 rfl) ?_
              refine mcallS' (g := g) (As := [.int x_18, .int x_19]) (rest := [.int q_21]) St hK hT hA hP hD hS hl.1 [] [0] rfl rfl rfl (m_tellerHas l g x_18 x_19 ) (va_cwS 2 hts (zgL (zl3 k1127 k1128 k839) k1122) rfl rfl rfl (by decide +kernel) ⟨Nat.le_of_ble_eq_true rfl, Nat.le_of_ble_eq_true rfl⟩) rfl rfl (Nat.le_of_ble_eq_true rfl) dX12_rests_79 ⟨(Nat.le_of_ble_eq_true rfl), (Nat.le_of_ble_eq_true rfl)⟩ (fun q_23 H locs hq24 hP hD hS => ?_)
              have hP : va_P g.1 vwCl (List.flatten [bMo g o a 0 hi ac tp ba en tA fl de iD iO tU fm fk fa fc ft ff fb fi]) H := hP
              have hD : va_D A (List.flatten [bMo g o a 0 hi ac tp ba en tA fl de iD iO tU fm fk fa fc ft ff fb fi]) := hD
              refine W.widen (k := 0) (n := 0) (Nat.le_of_ble_eq_true rfl) (Nat.le_of_ble_eq_true rfl) ?_
              refine W.eq (g2 := F0 m 82 ls [.int q_23, .int q_21]) rfl ?_
              refine lv_icmp_gt (tgt := 117) hx hb dX12_rests_82 (by decide) (fun cb9 => ?_) (fun cb9 => ?_)
              · skip
                have c25 : q_23.toInt < q_21.toInt := zlti cb9 rfl rfl
                refine ziinc3 (n' := 1) (a' := 1) (b' := 4) (lv' := fun v9 => [(4, .int v9), (6, .int x_19), (5, .int x_18), (0, .ref o), (1, .int x), (2, .int o2), (3, .int x_9)]) hx hb dX12_rests_117 hl (k := 6) rfl (by decide) (fun _ => rfl) (zaddK (i := x_10.toInt) (j := 1) rfl (by decide) i11.1 n17 (Int.le_refl _) (Int.le_refl _) (by decide)) (fun x_26 ls hx_26 hl => ?_)
                refine lv_goto (tgt := 48) hx hb dX12_rests_120 (by decide) ?_
                have hl := lv_sub (l' := [(0, .ref o), (1, .int x), (2, .int o2), (3, .int x_9), (4, .int x_26), (5, .int x_18), (6, .int x_19)]) hl [3, 4, 5, 6, 0, 2, 1] rfl
                have hP : va_P g.1 vwCl (List.flatten [bMo g o a 0 hi ac tp ba en tA fl de iD iO tU fm fk fa fc ft ff fb fi]) H := hP
                have hD : va_D A (List.flatten [bMo g o a 0 hi ac tp ba en tA fl de iD iO tU fm fk fa fc ft ff fb fi]) := hD
                exact ih48_13 x_9 x_26 ⟨(Int.le_trans (by decide) hx_26.2.1), hx_26.2.2⟩ H _ ls (zmK hx_26.1 (by decide) n17 (by decide) hk48_13)  hP hD hS (lv_sub hl [0, 1, 2, 3, 4] rfl)
              · skip
                have c27 : q_21.toInt ≤ q_23.toInt := zle (Int32.not_lt.mp cb9) rfl rfl
                refine lv_aload_n hx hb dX12_rests_85 rfl (lv_at hl 2 rfl) ?_
                refine lv_iload_n hx hb dX12_rests_86 rfl (lv_at hl 3 rfl) ?_
                refine lv_iload_n hx hb dX12_rests_87 rfl (lv_at hl 4 rfl) ?_
                refine lv_iload hx hb dX12_rests_88 (lv_at hl 1 rfl) ?_
                refine lv_iconst (v := 1) hx hb dX12_rests_90 (by decide) ?_
                refine lv_iload hx hb dX12_rests_91 (lv_at hl 0 rfl) ?_
                refine lv_isub hx hb dX12_rests_93 ?_
                refine zg3 (zsubK (i := 1) (j := x_19.toInt) (a' := 0) (b' := 1) (by decide) rfl (Int.le_refl _) (Int.le_refl _) hx_19.1 hx_19.2 (by decide)) (fun x_28 hx_28 => ?_)
                refine mcallV' (g := g) (q0 := 0) (ci := 10) (As := [.int x, .int o2, .int x_18, .int x_28]) (rest := []) St hK hT hA hP hD hS hl.1 [0] [] rfl rfl rfl (m_dryHas l g o a 0 hi ac tp ba en tA fl de iD iO tU fm fk fa fc ft ff fb fi x o2 x_18 x_28 (by first | assumption | omega | decide | exact Or.inl (by decide) | exact Or.inr (by decide)) (by first | assumption | omega | decide | exact Or.inl (by decide) | exact Or.inr (by decide))) (cwV 4 hts (zgL (zl4 k1129 k1130 k1131 k839) k1125) rfl rfl rfl (by decide +kernel) ⟨Nat.le_of_ble_eq_true rfl, Nat.le_of_ble_eq_true rfl⟩) rfl rfl rfl rfl (Nat.le_of_ble_eq_true rfl) dX12_rests_94 ⟨(Nat.le_of_ble_eq_true rfl), (Nat.le_of_ble_eq_true rfl)⟩ (fun q_29 H locs hq30 hP hD hS => ?_)
                have hP : va_P g.1 vwCl (List.flatten [bMo g o a 0 hi ac tp ba en tA fl de iD iO tU fm fk fa fc ft ff fb fi]) H := hP
                have hD : va_D A (List.flatten [bMo g o a 0 hi ac tp ba en tA fl de iD iO tU fm fk fa fc ft ff fb fi]) := hD
                refine W.widen (k := 0) (n := 0) (Nat.le_of_ble_eq_true rfl) (Nat.le_of_ble_eq_true rfl) ?_
                refine W.eq (g2 := F0 m 97 ls [.int q_29]) rfl ?_
                refine lv_aload_n hx hb dX12_rests_97 rfl (lv_at hl 2 rfl) ?_
                refine lv_iload_n hx hb dX12_rests_98 rfl (lv_at hl 3 rfl) ?_
                refine lv_iload_n hx hb dX12_rests_99 rfl (lv_at hl 4 rfl) ?_
                refine lv_iload hx hb dX12_rests_100 (lv_at hl 1 rfl) ?_
                refine lv_iload hx hb dX12_rests_102 (lv_at hl 0 rfl) ?_
                refine mcallV' (g := g) (q0 := 0) (ci := 10) (As := [.int x, .int o2, .int x_18, .int x_19]) (rest := [.int q_29]) St hK hT hA hP hD hS hl.1 [0] [] rfl rfl rfl (m_dryHas l g o a 0 hi ac tp ba en tA fl de iD iO tU fm fk fa fc ft ff fb fi x o2 x_18 x_19 (by first | assumption | omega | decide | exact Or.inl (by decide) | exact Or.inr (by decide)) (by first | assumption | omega | decide | exact Or.inl (by decide) | exact Or.inr (by decide))) (cwV 4 hts (zgL (zl4 k1129 k1130 k1131 k839) k1125) rfl rfl rfl (by decide +kernel) ⟨Nat.le_of_ble_eq_true rfl, Nat.le_of_ble_eq_true rfl⟩) rfl rfl rfl rfl (Nat.le_of_ble_eq_true rfl) dX12_rests_104 ⟨(Nat.le_of_ble_eq_true rfl), (Nat.le_of_ble_eq_true rfl)⟩ (fun q_31 H locs hq32 hP hD hS => ?_)
                have hP : va_P g.1 vwCl (List.flatten [bMo g o a 0 hi ac tp ba en tA fl de iD iO tU fm fk fa fc ft ff fb fi]) H := hP
                have hD : va_D A (List.flatten [bMo g o a 0 hi ac tp ba en tA fl de iD iO tU fm fk fa fc ft ff fb fi]) := hD
                refine W.widen (k := 0) (n := 0) (Nat.le_of_ble_eq_true rfl) (Nat.le_of_ble_eq_true rfl) ?_
                refine W.eq (g2 := F0 m 107 ls [.int q_31, .int q_29]) rfl ?_
                refine lv_icmp_gt (tgt := 117) hx hb dX12_rests_107 (by decide) (fun cb9 => ?_) (fun cb9 => ?_)
                · skip
                  have c33 : q_31.toInt < q_29.toInt := zlti cb9 rfl rfl
                  refine ziinc3 (n' := 1) (a' := 1) (b' := 4) (lv' := fun v9 => [(4, .int v9), (6, .int x_19), (5, .int x_18), (0, .ref o), (1, .int x), (2, .int o2), (3, .int x_9)]) hx hb dX12_rests_117 hl (k := 6) rfl (by decide) (fun _ => rfl) (zaddK (i := x_10.toInt) (j := 1) rfl (by decide) i11.1 n17 (Int.le_refl _) (Int.le_refl _) (by decide)) (fun x_34 ls hx_34 hl => ?_)
                  refine lv_goto (tgt := 48) hx hb dX12_rests_120 (by decide) ?_
                  have hl := lv_sub (l' := [(0, .ref o), (1, .int x), (2, .int o2), (3, .int x_9), (4, .int x_34), (5, .int x_18), (6, .int x_19)]) hl [3, 4, 5, 6, 0, 2, 1] rfl
                  have hP : va_P g.1 vwCl (List.flatten [bMo g o a 0 hi ac tp ba en tA fl de iD iO tU fm fk fa fc ft ff fb fi]) H := hP
                  have hD : va_D A (List.flatten [bMo g o a 0 hi ac tp ba en tA fl de iD iO tU fm fk fa fc ft ff fb fi]) := hD
                  exact ih48_13 x_9 x_34 ⟨(Int.le_trans (by decide) hx_34.2.1), hx_34.2.2⟩ H _ ls (zmK hx_34.1 (by decide) n17 (by decide) hk48_13)  hP hD hS (lv_sub hl [0, 1, 2, 3, 4] rfl)
                · skip
                  have c35 : q_29.toInt ≤ q_31.toInt := zle (Int32.not_lt.mp cb9) rfl rfl
                  refine lv_iload_n hx hb dX12_rests_110 rfl (lv_at hl 5 rfl) ?_
                  refine lv_iconst (v := 1) hx hb dX12_rests_111 (by decide) ?_
                  refine lv_iload hx hb dX12_rests_112 (lv_at hl 6 rfl) ?_
                  refine lv_ishl hx hb dX12_rests_114 ?_
                  refine zgb (zshl1 (j := x_10.toInt) rfl 3 8 (by decide) (by decide) ⟨i11.1, n17⟩) (fun x_36 hx_36 => ?_)
                  refine lv_ior hx hb dX12_rests_115 ?_
                  refine zg (fun x_37 => ?_)
                  refine lv_istore_n (lv' := [(3, .int x_37), (6, .int x_19), (5, .int x_18), (0, .ref o), (1, .int x), (2, .int o2), (4, .int x_10)]) hx hb dX12_rests_116 rfl hl (by decide) rfl (fun ls hl => ?_)
                  refine ziinc3 (n' := 1) (a' := 1) (b' := 4) (lv' := fun v9 => [(4, .int v9), (3, .int x_37), (6, .int x_19), (5, .int x_18), (0, .ref o), (1, .int x), (2, .int o2)]) hx hb dX12_rests_117 hl (k := 6) rfl (by decide) (fun _ => rfl) (zaddK (i := x_10.toInt) (j := 1) rfl (by decide) i11.1 n17 (Int.le_refl _) (Int.le_refl _) (by decide)) (fun x_38 ls hx_38 hl => ?_)
                  refine lv_goto (tgt := 48) hx hb dX12_rests_120 (by decide) ?_
                  have hl := lv_sub (l' := [(0, .ref o), (1, .int x), (2, .int o2), (3, .int x_37), (4, .int x_38), (5, .int x_18), (6, .int x_19)]) hl [4, 5, 6, 1, 0, 3, 2] rfl
                  have hP : va_P g.1 vwCl (List.flatten [bMo g o a 0 hi ac tp ba en tA fl de iD iO tU fm fk fa fc ft ff fb fi]) H := hP
                  have hD : va_D A (List.flatten [bMo g o a 0 hi ac tp ba en tA fl de iD iO tU fm fk fa fc ft ff fb fi]) := hD
                  exact ih48_13 x_37 x_38 ⟨(Int.le_trans (by decide) hx_38.2.1), hx_38.2.2⟩ H _ ls (zmK hx_38.1 (by decide) n17 (by decide) hk48_13)  hP hD hS (lv_sub hl [0, 1, 2, 3, 4] rfl)
        have hP : va_P g.1 vwCl (List.flatten [bMo g o a 0 hi ac tp ba en tA fl de iD iO tU fm fk fa fc ft ff fb fi]) H := hP
        have hD : va_D A (List.flatten [bMo g o a 0 hi ac tp ba en tA fl de iD iO tU fm fk fa fc ft ff fb fi]) := hD
        exact LP48_12 _ 0 0 (by decide) H _ ls (Nat.lt_succ_self _)  hP hD hS (lv_sub hl [0, 1, 2, 3, 4] rfl)
      · skip
        have c39 : x.toInt = o2.toInt := zeq cb9 rfl rfl
        refine lv_iconst (v := 2) hx hb dX12_rests_26 (by decide) ?_
        refine lv_goto (tgt := 31) hx hb dX12_rests_27 (by decide) ?_
        refine va_put (D := g.1) (ci := 10) (v := .int 2) (ty := .int) (C := RX12) (T := TX12) (N := 20) hx hb hts izRX12 tyX12 tyX12_ok nmX12 hown hK hP hD hS 0 rfl rfl 0 (by decide) (hts _ k825) (fun _ h9 => h9) rfl (by decide +kernel) rfl rfl (Nat.le_of_ble_eq_true rfl) dX12_rests_31 (fun H locs hP hD hS => ?_)
        have hP : va_P g.1 vwCl (List.flatten [bMo g o a 2 hi ac tp ba en tA fl de iD iO tU fm fk fa fc ft ff fb fi]) H := hP
        have hD : va_D A (List.flatten [bMo g o a 2 hi ac tp ba en tA fl de iD iO tU fm fk fa fc ft ff fb fi]) := hD
        refine lv_aload_n hx hb dX12_rests_34 rfl (lv_at hl 0 rfl) ?_
        refine va_get (D := g.1) (ci := 10) (v := .int 2) (C := RX12) (T := TX12) (N := 20) hx hb hts izRX12 hown hK hP 0 rfl rfl 0 (by decide) (hts _ k825) (fun _ h9 => h9) rfl dX12_rests_35 ?_
        refine lv_if_le (tgt := 43) hx hb dX12_rests_38 (by decide) (fun c40 => absurd c40 (by decide)) (fun _ => ?_)
        refine lv_iconst (v := 0) hx hb dX12_rests_41 (by decide) ?_
        have hP : va_P g.1 vwCl (List.flatten [bMo g o a 2 hi ac tp ba en tA fl de iD iO tU fm fk fa fc ft ff fb fi]) H := hP
        have hD : va_D A (List.flatten [bMo g o a 2 hi ac tp ba en tA fl de iD iO tU fm fk fa fc ft ff fb fi]) := hD
        exact mret_i hx hb hr hlocks hS (Nat.le_of_ble_eq_true rfl) (Nat.le_of_ble_eq_true rfl) dX12_rests_42 ((2 : Int32), (0 : Int32)) rfl trivial hP hD
    · skip
      refine lv_if_ne (tgt := 21) hx hb dX12_rests_14 (by decide) (fun c41 => absurd (by decide) c41) (fun _ => ?_)
      refine lv_iconst (v := 1) hx hb dX12_rests_17 (by decide) ?_
      refine lv_goto (tgt := 31) hx hb dX12_rests_18 (by decide) ?_
      refine va_put (D := g.1) (ci := 10) (v := .int 1) (ty := .int) (C := RX12) (T := TX12) (N := 20) hx hb hts izRX12 tyX12 tyX12_ok nmX12 hown hK hP hD hS 0 rfl rfl 0 (by decide) (hts _ k825) (fun _ h9 => h9) rfl (by decide +kernel) rfl rfl (Nat.le_of_ble_eq_true rfl) dX12_rests_31 (fun H locs hP hD hS => ?_)
      have hP : va_P g.1 vwCl (List.flatten [bMo g o a 1 hi ac tp ba en tA fl de iD iO tU fm fk fa fc ft ff fb fi]) H := hP
      have hD : va_D A (List.flatten [bMo g o a 1 hi ac tp ba en tA fl de iD iO tU fm fk fa fc ft ff fb fi]) := hD
      refine lv_aload_n hx hb dX12_rests_34 rfl (lv_at hl 0 rfl) ?_
      refine va_get (D := g.1) (ci := 10) (v := .int 1) (C := RX12) (T := TX12) (N := 20) hx hb hts izRX12 hown hK hP 0 rfl rfl 0 (by decide) (hts _ k825) (fun _ h9 => h9) rfl dX12_rests_35 ?_
      refine lv_if_le (tgt := 43) hx hb dX12_rests_38 (by decide) (fun c42 => absurd c42 (by decide)) (fun _ => ?_)
      refine lv_iconst (v := 0) hx hb dX12_rests_41 (by decide) ?_
      have hP : va_P g.1 vwCl (List.flatten [bMo g o a 1 hi ac tp ba en tA fl de iD iO tU fm fk fa fc ft ff fb fi]) H := hP
      have hD : va_D A (List.flatten [bMo g o a 1 hi ac tp ba en tA fl de iD iO tU fm fk fa fc ft ff fb fi]) := hD
      exact mret_i hx hb hr hlocks hS (Nat.le_of_ble_eq_true rfl) (Nat.le_of_ble_eq_true rfl) dX12_rests_42 ((1 : Int32), (0 : Int32)) rfl trivial hP hD
  · skip
    refine lv_if_eq (tgt := 17) hx hb dX12_rests_6 (by decide) (fun _ => ?_) (fun c43 => absurd (by decide) c43)
    refine lv_iconst (v := 1) hx hb dX12_rests_17 (by decide) ?_
    refine lv_goto (tgt := 31) hx hb dX12_rests_18 (by decide) ?_
    refine va_put (D := g.1) (ci := 10) (v := .int 1) (ty := .int) (C := RX12) (T := TX12) (N := 20) hx hb hts izRX12 tyX12 tyX12_ok nmX12 hown hK hP hD hS 0 rfl rfl 0 (by decide) (hts _ k825) (fun _ h9 => h9) rfl (by decide +kernel) rfl rfl (Nat.le_of_ble_eq_true rfl) dX12_rests_31 (fun H locs hP hD hS => ?_)
    have hP : va_P g.1 vwCl (List.flatten [bMo g o a 1 hi ac tp ba en tA fl de iD iO tU fm fk fa fc ft ff fb fi]) H := hP
    have hD : va_D A (List.flatten [bMo g o a 1 hi ac tp ba en tA fl de iD iO tU fm fk fa fc ft ff fb fi]) := hD
    refine lv_aload_n hx hb dX12_rests_34 rfl (lv_at hl 0 rfl) ?_
    refine va_get (D := g.1) (ci := 10) (v := .int 1) (C := RX12) (T := TX12) (N := 20) hx hb hts izRX12 hown hK hP 0 rfl rfl 0 (by decide) (hts _ k825) (fun _ h9 => h9) rfl dX12_rests_35 ?_
    refine lv_if_le (tgt := 43) hx hb dX12_rests_38 (by decide) (fun c44 => absurd c44 (by decide)) (fun _ => ?_)
    refine lv_iconst (v := 0) hx hb dX12_rests_41 (by decide) ?_
    have hP : va_P g.1 vwCl (List.flatten [bMo g o a 1 hi ac tp ba en tA fl de iD iO tU fm fk fa fc ft ff fb fi]) H := hP
    have hD : va_D A (List.flatten [bMo g o a 1 hi ac tp ba en tA fl de iD iO tU fm fk fa fc ft ff fb fi]) := hD
    exact mret_i hx hb hr hlocks hS (Nat.le_of_ble_eq_true rfl) (Nat.le_of_ble_eq_true rfl) dX12_rests_42 ((1 : Int32), (0 : Int32)) rfl trivial hP hD
