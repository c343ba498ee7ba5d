set_option maxRecDepth 100000 in
set_option maxHeartbeats 4000000 in
theorem m_nines (l : Launch) (g : zG) (n : Int32) (t : Nat) (ht : t ≤ 20) (hld : n = nI t) : zM' g l yX12_nines (Cond.code yX12_nines cX12_nines 4 (some .long) :: zB) ({ frames := 0, cells := 0, slots := 0, locals := 0 } : Room) [.int n] [] (fun _ : Unit => some (.long (lN (9 ^ t)))) (fun _ : Unit => True) (fun _ : Unit => []) := by
  refine zM'.of (cc := cX12_nines) (maxL := 4) (rt := (some .long)) (by decide) rfl (Nat.le_of_ble_eq_true rfl) ?_
  intro p e s m args below meth c A ls St hr hlocks hin hK hT hA hP hD hS hl
  obtain ⟨hx, hb, hml, hown, hts⟩ := id St
  have hl : lv_has ls 4 [(0, .int n)] := hl
  refine lv_lconst (v := 1) hx hb dX12_nines_0 (by decide) ?_
  refine lv_lstore_n (lv' := [(1, .long 1), (0, .int n)]) hx hb dX12_nines_1 rfl hl (by decide) rfl (fun ls hl => ?_)
  refine lv_iconst (v := 0) hx hb dX12_nines_2 (by decide) ?_
  refine lv_istore_n (lv' := [(3, .int 0), (1, .long 1), (0, .int n)]) hx hb dX12_nines_3 rfl hl (by decide) rfl (fun ls hl => ?_)
  have hP : va_P g.1 vwCl (List.flatten []) s.heap := hP
  have hD : va_D A (List.flatten []) := hD
  have LP4 : ∀ (k : Nat) (j : Nat) (H : Heap) (locs : List Loc) (ls : Array Slot),(j ≤ t) → (t - j) < k → va_P g.1 vwCl (List.flatten []) H → va_D A (List.flatten []) → va_S A s.heap H locs → lv_has ls 4 [(0, .int n), (1, .long (lN (9 ^ j))), (3, .int (nI j))] → W p l e ({ frames := 0, cells := 0, slots := 0, locals := 0 } : Room) s m args below meth c H locs (0) (0) (zF g (fun _ : Unit => some (.long (lN (9 ^ t)))) (fun _ : Unit => True) (fun _ : Unit => []) ({ frames := 0, cells := 0, slots := 0, locals := 0 } : Room) below args s A) (F0 m 4 ls []) := by
    intro k
    induction k with
    | zero => intro j H locs ls hj hk; exact absurd hk (Nat.not_lt_zero _)
    | succ k ih4 =>
      intro j H locs ls hj hk hP hD hS hl
      refine lv_iload_n hx hb dX12_nines_4 rfl (lv_at hl 2 rfl) ?_
      refine lv_iload_n hx hb dX12_nines_5 rfl (lv_at hl 0 rfl) ?_
      refine lv_icmp_ge (tgt := 21) hx hb dX12_nines_6 (by decide) (fun cA => ?_) (fun cA => ?_)
      · skip
        have hjt : t = j := by have := zjge hld (by omega) cA; omega
        subst hjt
        refine lv_lload_n hx hb dX12_nines_21 rfl (lv_at hl 1 rfl) ?_
        have hP : va_P g.1 vwCl (List.flatten []) H := hP
        have hD : va_D A (List.flatten []) := hD
        exact mret_l hx hb hr hlocks hS (Nat.le_of_ble_eq_true rfl) (Nat.le_of_ble_eq_true rfl) dX12_nines_22 () rfl trivial hP hD
      · skip
        have hlt : j < t := zjl hld (by omega) cA
        refine lv_lload_n hx hb dX12_nines_9 rfl (lv_at hl 1 rfl) ?_
        refine lv_ldc2 (v := 9) hx hb hown (hts _ k1088) dX12_nines_10 ?_
        refine lv_lmul hx hb dX12_nines_13 ?_
        refine ztopl (r := lN (9 ^ (j + 1))) (zninS j) ?_
        refine lv_lstore_n (lv' := [(1, .long (lN (9 ^ (j + 1)))), (0, .int n), (3, .int (nI j))]) hx hb dX12_nines_14 rfl hl (by decide) rfl (fun ls hl => ?_)
        refine lv_iinc (v := nI (j + 1)) (lv' := [(3, .int (nI (j + 1))), (1, .long (lN (9 ^ (j + 1)))), (0, .int n)]) hx hb dX12_nines_15 hl (k := 2) rfl (nI_1 j) (by decide) rfl (fun ls hl => ?_)
        refine lv_goto (tgt := 4) hx hb dX12_nines_18 (by decide) ?_
        have hP : va_P g.1 vwCl (List.flatten []) H := hP
        have hD : va_D A (List.flatten []) := hD
        exact ih4 (j + 1) H locs ls (by omega) (by omega) hP hD hS (lv_sub hl [2, 1, 0] rfl)
  exact LP4 (t + 1) 0 s.heap _ ls (by omega) (by omega) hP hD hS (lv_sub hl [2, 1, 0] rfl)
