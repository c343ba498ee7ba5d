set_option maxRecDepth 100000 in
set_option maxHeartbeats 4000000 in
theorem c_x_end (l : Launch) (g : zG) (x : Nat) (ta : Nat) (o : Nat) (lo : Nat) (go : Nat) (tt : Nat) (lt : Nat) (mo : Nat) (fo : Nat) (ro : Nat) (fl9 : Int32) (ab : Nat) (sz : Int32) (ln : Int32) (kd : Int32) (bg : Int32) (nx : Int32) (ft : Int32) (fb : Nat → Int32) (n : Int32) (b_sz : 0 ≤ sz.toInt ∧ sz.toInt ≤ 400) : zM' g l yX11_end (Cond.code yX11_end cX11_end 2 (some .boolean) :: zB) ({ frames := 0, cells := 0, slots := 0, locals := 0 } : Room) [.ref x, .int n] [bDR g x ta o lo go tt lt mo fo ro fl9, bTape g ta ab sz ln kd bg nx ft fb] (fun u : Int32 × Int32 => (fun (sz2 : Int32) (q : Int32) => some (.int q)) (u.1) (u.2)) (fun u : Int32 × Int32 => (fun (sz2 : Int32) (q : Int32) => (0 ≤ sz2.toInt ∧ sz2.toInt ≤ 400) ∧ (q = 1 ∧ (0 ≤ n.toInt ∧ n.toInt ≤ sz.toInt ∧ sz2.toInt = n.toInt) ∨ q = 0 ∧ ((n.toInt < 0 ∨ sz.toInt < n.toInt) ∧ sz2.toInt = sz.toInt))) (u.1) (u.2)) (fun u : Int32 × Int32 => (fun (sz2 : Int32) (q : Int32) => [bDR g x ta o lo go tt lt mo fo ro fl9, bTape g ta ab sz2 ln kd bg nx ft fb]) (u.1) (u.2)) := by
  refine zM'.of (cc := cX11_end) (maxL := 2) (rt := (some .boolean)) (by decide) rfl (Nat.le_of_ble_eq_true rfl) ?_
  intro p e s m args below meth c A ls St hr hlocks hin hK hT hA hP hD hS hl
  obtain ⟨hx, hb, hml, hown, hts⟩ := id St
  have hl : lv_has ls 2 [(0, .ref x), (1, .int n)] := hl
  refine lv_iload_n hx hb dX11_end_0 rfl (lv_at hl 1 rfl) ?_
  refine lv_if_lt (tgt := 15) hx hb dX11_end_1 (by decide) (fun cb9 => ?_) (fun cb9 => ?_)
  · skip
    have c1 : n.toInt < 0 := zlti cb9 rfl (by decide)
    have n2 : n.toInt ≤ (-1) := zL1 (b := 0) c1 (Int.le_refl _) (by decide)
    refine lv_iconst (v := 0) hx hb dX11_end_15 (by decide) ?_
    have hP : va_P g.1 vwCl (List.flatten [bDR g x ta o lo go tt lt mo fo ro fl9, bTape g ta ab sz ln kd bg nx ft fb]) s.heap := hP
    have hD : va_D A (List.flatten [bDR g x ta o lo go tt lt mo fo ro fl9, bTape g ta ab sz ln kd bg nx ft fb]) := hD
    exact mret_z hx hb hr hlocks hS (Nat.le_of_ble_eq_true rfl) (Nat.le_of_ble_eq_true rfl) dX11_end_16 (sz, (0 : Int32)) rfl (by decide) (show (0 ≤ sz.toInt ∧ sz.toInt ≤ 400) ∧ (0 = 1 ∧ (0 ≤ n.toInt ∧ n.toInt ≤ sz.toInt ∧ sz.toInt = n.toInt) ∨ 0 = 0 ∧ ((n.toInt < 0 ∨ sz.toInt < n.toInt) ∧ sz.toInt = sz.toInt)) from ⟨(by omega), (by first | exact Or.inl ⟨rfl, by omega⟩ | exact Or.inr ⟨rfl, by omega⟩)⟩) hP hD
  · skip
    have c3 : 0 ≤ n.toInt := zle (Int32.not_lt.mp cb9) (by decide) rfl
    have n4 : 0 ≤ n.toInt := Int.le_trans (Int.le_refl _) c3
    refine lv_iload_n hx hb dX11_end_4 rfl (lv_at hl 1 rfl) ?_
    refine lv_aload_n hx hb dX11_end_5 rfl (lv_at hl 0 rfl) ?_
    refine va_get (D := g.1) (ci := 9) (v := .ref ta) (C := RX11) (T := TX11) (N := 10) hx hb hts izRX11 hown hK hP 0 rfl rfl 0 (by decide) (hts _ k536) (fun _ h9 => h9) rfl dX11_end_6 ?_
    refine va_get (D := g.1) (ci := 6) (v := .int sz) (C := RX6) (T := TX6) (N := 7) hx hb hts izRX6 hown hK hP 1 rfl rfl 1 (by decide) (hts _ k571) (fun _ h9 => h9) rfl dX11_end_9 ?_
    refine lv_icmp_le (tgt := 17) hx hb dX11_end_12 (by decide) (fun cb9 => ?_) (fun cb9 => ?_)
    · skip
      have c5 : n.toInt ≤ sz.toInt := zle cb9 rfl rfl
      have n6 : n.toInt ≤ 400 := Int.le_trans c5 b_sz.2
      refine lv_aload_n hx hb dX11_end_17 rfl (lv_at hl 0 rfl) ?_
      refine va_get (D := g.1) (ci := 9) (v := .ref ta) (C := RX11) (T := TX11) (N := 10) hx hb hts izRX11 hown hK hP 0 rfl rfl 0 (by decide) (hts _ k536) (fun _ h9 => h9) rfl dX11_end_18 ?_
      refine lv_iload_n hx hb dX11_end_21 rfl (lv_at hl 1 rfl) ?_
      refine va_put (D := g.1) (ci := 6) (v := .int n) (ty := .int) (C := RX6) (T := TX6) (N := 7) hx hb hts izRX6 tyX6 tyX6_ok nmX6 hown hK hP hD hS 1 rfl rfl 1 (by decide) (hts _ k571) (fun _ h9 => h9) rfl (by decide +kernel) rfl rfl (Nat.le_of_ble_eq_true rfl) dX11_end_22 (fun H locs hP hD hS => ?_)
      have hP : va_P g.1 vwCl (List.flatten [bDR g x ta o lo go tt lt mo fo ro fl9, bTape g ta ab n ln kd bg nx ft fb]) H := hP
      have hD : va_D A (List.flatten [bDR g x ta o lo go tt lt mo fo ro fl9, bTape g ta ab n ln kd bg nx ft fb]) := hD
      refine lv_iconst (v := 1) hx hb dX11_end_25 (by decide) ?_
      have hP : va_P g.1 vwCl (List.flatten [bDR g x ta o lo go tt lt mo fo ro fl9, bTape g ta ab n ln kd bg nx ft fb]) H := hP
      have hD : va_D A (List.flatten [bDR g x ta o lo go tt lt mo fo ro fl9, bTape g ta ab n ln kd bg nx ft fb]) := hD
      exact mret_z hx hb hr hlocks hS (Nat.le_of_ble_eq_true rfl) (Nat.le_of_ble_eq_true rfl) dX11_end_26 (n, (1 : Int32)) rfl (by decide) (show (0 ≤ n.toInt ∧ n.toInt ≤ 400) ∧ (1 = 1 ∧ (0 ≤ n.toInt ∧ n.toInt ≤ sz.toInt ∧ n.toInt = n.toInt) ∨ 1 = 0 ∧ ((n.toInt < 0 ∨ sz.toInt < n.toInt) ∧ n.toInt = sz.toInt)) from ⟨(by omega), (by first | exact Or.inl ⟨rfl, by omega⟩ | exact Or.inr ⟨rfl, by omega⟩)⟩) hP hD
    · skip
      have c7 : sz.toInt < n.toInt := zlti (Int32.not_le.mp cb9) rfl rfl
      have n8 : 1 ≤ n.toInt := zL2 (a := 0) c7 b_sz.1 (by decide)
      refine lv_iconst (v := 0) hx hb dX11_end_15 (by decide) ?_
      have hP : va_P g.1 vwCl (List.flatten [bDR g x ta o lo go tt lt mo fo ro fl9, bTape g ta ab sz ln kd bg nx ft fb]) s.heap := hP
      have hD : va_D A (List.flatten [bDR g x ta o lo go tt lt mo fo ro fl9, bTape g ta ab sz ln kd bg nx ft fb]) := hD
      exact mret_z hx hb hr hlocks hS (Nat.le_of_ble_eq_true rfl) (Nat.le_of_ble_eq_true rfl) dX11_end_16 (sz, (0 : Int32)) rfl (by decide) (show (0 ≤ sz.toInt ∧ sz.toInt ≤ 400) ∧ (0 = 1 ∧ (0 ≤ n.toInt ∧ n.toInt ≤ sz.toInt ∧ sz.toInt = n.toInt) ∨ 0 = 0 ∧ ((n.toInt < 0 ∨ sz.toInt < n.toInt) ∧ sz.toInt = sz.toInt)) from ⟨(by omega), (by first | exact Or.inl ⟨rfl, by omega⟩ | exact Or.inr ⟨rfl, by omega⟩)⟩) hP hD
