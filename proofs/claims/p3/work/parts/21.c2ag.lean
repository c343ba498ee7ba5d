set_option maxRecDepth 100000 in
set_option maxHeartbeats 4000000 in
theorem c_t_refuse (l : Launch) (g : zG) (ta : Nat) (ab : Nat) (sz : Int32) (ln : Int32) (kd : Int32) (bg : Int32) (nx : Int32) (ft : Int32) (fb : Nat → Int32) (hln : 0 ≤ ln.toInt ∧ ln.toInt ≤ 400) (hnx : 0 ≤ nx.toInt ∧ nx.toInt ≤ 400) (hbg : 0 ≤ bg.toInt ∧ bg.toInt ≤ 400) (hkd : zKd kd.toInt bg.toInt nx.toInt) (hft : -1 ≤ ft.toInt) : zM' g l yX6_refuse (Cond.code yX6_refuse cX6_refuse 1 (some .boolean) :: zB) ({ frames := 0, cells := 0, slots := 0, locals := 0 } : Room) [.ref ta] [bTape g ta ab sz ln kd bg nx ft fb] (fun (ft2 : Int32) => some (.int 0)) (fun (ft2 : Int32) => (-1 ≤ ft2.toInt)) (fun (ft2 : Int32) => [bTape g ta ab sz ln kd bg nx ft2 fb]) := by
  refine zM'.of (cc := cX6_refuse) (maxL := 1) (rt := (some .boolean)) (by decide) rfl (Nat.le_of_ble_eq_true rfl) ?_
  intro p e s m args below meth c A ls St hr hlocks hin hK hT hA hP hD hS hl
  obtain ⟨hx, hb, hml, hown, hts⟩ := id St
  have hl : lv_has ls 1 [(0, .ref ta)] := hl
  refine lv_aload_n hx hb dX6_refuse_0 rfl (lv_at hl 0 rfl) ?_
  refine va_get (D := g.1) (ci := 6) (v := .int ft) (C := RX6) (T := TX6) (N := 7) hx hb hts izRX6 hown hK hP 0 rfl rfl 6 (by decide) (hts _ k270) (fun _ h9 => h9) rfl dX6_refuse_1 ?_
  refine lv_iconst (v := (-1)) hx hb dX6_refuse_4 (by decide) ?_
  refine lv_icmp_ne (tgt := 16) hx hb dX6_refuse_5 (by decide) (fun cb9 => ?_) (fun cb9 => ?_)
  · skip
    have c1 : ¬ ft.toInt = (-1) := zne cb9 rfl (by decide)
    refine lv_iconst (v := 0) hx hb dX6_refuse_16 (by decide) ?_
    have hP : va_P g.1 vwCl (List.flatten [bTape g ta ab sz ln kd bg nx ft fb]) s.heap := hP
    have hD : va_D A (List.flatten [bTape g ta ab sz ln kd bg nx ft fb]) := hD
    exact mret_z hx hb hr hlocks hS (Nat.le_of_ble_eq_true rfl) (Nat.le_of_ble_eq_true rfl) dX6_refuse_17 (ft) rfl (by decide) (show (-1 ≤ ft.toInt) from hft) hP hD
  · skip
    have c2 : ft.toInt = (-1) := zeq cb9 rfl (by decide)
    have n3 : ft.toInt ≤ (-1) := Int.le_trans (Int.le_of_eq c2) (Int.le_refl _)
    refine lv_aload_n hx hb dX6_refuse_8 rfl (lv_at hl 0 rfl) ?_
    refine lv_aload_n hx hb dX6_refuse_9 rfl (lv_at hl 0 rfl) ?_
    refine va_get (D := g.1) (ci := 6) (v := .int bg) (C := RX6) (T := TX6) (N := 7) hx hb hts izRX6 hown hK hP 0 rfl rfl 4 (by decide) (hts _ k260) (fun _ h9 => h9) rfl dX6_refuse_10 ?_
    refine va_put (D := g.1) (ci := 6) (v := .int bg) (ty := .int) (C := RX6) (T := TX6) (N := 7) hx hb hts izRX6 tyX6 tyX6_ok nmX6 hown hK hP hD hS 0 rfl rfl 6 (by decide) (hts _ k270) (fun _ h9 => h9) rfl (by decide +kernel) rfl rfl (Nat.le_of_ble_eq_true rfl) dX6_refuse_13 (fun H locs hP hD hS => ?_)
    have hP : va_P g.1 vwCl (List.flatten [bTape g ta ab sz ln kd bg nx bg fb]) H := hP
    have hD : va_D A (List.flatten [bTape g ta ab sz ln kd bg nx bg fb]) := hD
    refine lv_iconst (v := 0) hx hb dX6_refuse_16 (by decide) ?_
    have hP : va_P g.1 vwCl (List.flatten [bTape g ta ab sz ln kd bg nx bg fb]) H := hP
    have hD : va_D A (List.flatten [bTape g ta ab sz ln kd bg nx bg fb]) := hD
    exact mret_z hx hb hr hlocks hS (Nat.le_of_ble_eq_true rfl) (Nat.le_of_ble_eq_true rfl) dX6_refuse_17 (bg) rfl (by decide) (show (-1 ≤ bg.toInt) from (by first | assumption | omega | decide | exact rfl | exact zb01 (by omega) | exact Or.inl (by decide) | exact Or.inr (by first | omega | decide))) hP hD
set_option maxRecDepth 100000 in
set_option maxHeartbeats 4000000 in
theorem c_t_isWord (l : Launch) (g : zG) (ta : Nat) (ab : Nat) (sz : Int32) (ln : Int32) (kd : Int32) (bg : Int32) (nx : Int32) (ft : Int32) (fb : Nat → Int32) (k : Nat) (j : Nat) (q : String × Nat × String × List Int32) (hln : 0 ≤ ln.toInt ∧ ln.toInt ≤ 400) (hnx : 0 ≤ nx.toInt ∧ nx.toInt ≤ 400) (hbg : 0 ≤ bg.toInt ∧ bg.toInt ≤ 400) (hkd : zKd kd.toInt bg.toInt nx.toInt) (hft : -1 ≤ ft.toInt) (hk9 : k = g.2 (10 + 2 * j)) (hj9 : zLit[j]? = some q) (hql : 1 ≤ q.2.2.2.length ∧ q.2.2.2.length ≤ 7) : zM' g l yX6_isWord (Cond.code yX6_isWord cX6_isWord 3 (some .boolean) :: zB) ({ frames := 4, cells := 0, slots := 0, locals := 85 } : Room) [.ref ta, .ref k] [bTape g ta ab sz ln kd bg nx ft fb] (fun (r : Int32) => some (.int r)) (fun (r : Int32) => (r = 0 ∨ r = 1)) (fun (r : Int32) => [bTape g ta ab sz ln kd bg nx ft fb]) := by
  refine zM'.of (cc := cX6_isWord) (maxL := 3) (rt := (some .boolean)) (by decide) rfl (Nat.le_of_ble_eq_true rfl) ?_
  intro p e s m args below meth c A ls St hr hlocks hin hK hT hA hP hD hS hl
  obtain ⟨hx, hb, hml, hown, hts⟩ := id St
  have hl : lv_has ls 3 [(0, .ref ta), (1, .ref k)] := hl
  obtain ⟨-, hSt⟩ := hT.2.1.2.2 j q hj9
  have hkd9 : kd.toInt = 0 ∨ bg.toInt < nx.toInt := hkd
  refine lv_aload_n hx hb dX6_isWord_0 rfl (lv_at hl 0 rfl) ?_
  refine va_get (D := g.1) (ci := 6) (v := .int kd) (C := RX6) (T := TX6) (N := 7) hx hb hts izRX6 hown hK hP 0 rfl rfl 3 (by decide) (hts _ k258) (fun _ h9 => h9) rfl dX6_isWord_1 ?_
  refine lv_iconst (v := 1) hx hb dX6_isWord_4 (by decide) ?_
  refine lv_icmp_ne (tgt := 24) hx hb dX6_isWord_5 (by decide) (fun cb9 => ?_) (fun cb9 => ?_)
  · skip
    have c1 : ¬ kd.toInt = 1 := zne cb9 rfl (by decide)
    refine lv_iconst (v := 0) hx hb dX6_isWord_24 (by decide) ?_
    have hP : va_P g.1 vwCl (List.flatten [bTape g ta ab sz ln kd bg nx ft fb]) s.heap := hP
    have hD : va_D A (List.flatten [bTape g ta ab sz ln kd bg nx ft fb]) := hD
    exact mret_z hx hb hr hlocks hS (Nat.le_of_ble_eq_true rfl) (Nat.le_of_ble_eq_true rfl) dX6_isWord_25 ((0 : Int32)) rfl (by decide) (show (0 = 0 ∨ 0 = 1) from (by decide)) hP hD
  · skip
    have c2 : kd.toInt = 1 := zeq cb9 rfl (by decide)
    have n3 : 1 ≤ kd.toInt := Int.le_trans (Int.le_refl _) (Int.le_of_eq c2.symm)
    have n4 : kd.toInt ≤ 1 := Int.le_trans (Int.le_of_eq c2) (Int.le_refl _)
    refine lv_aload_n hx hb dX6_isWord_8 rfl (lv_at hl 1 rfl) ?_
    refine mcallL' (g := g) (As := []) (rest := []) St hK hT hA hP hD hS hl.1 [] [0] rfl rfl rfl (s_length l g k j q hk9 hj9 hql) (cwV 0 hts (zgL (zl4 k262 k263 k264 k223) k218) rfl rfl rfl (by decide +kernel) ⟨Nat.le_of_ble_eq_true rfl, Nat.le_of_ble_eq_true rfl⟩) (by rw [hk9]; exact zSt_recv hSt hS) rfl rfl (Nat.le_of_ble_eq_true rfl) dX6_isWord_9 ⟨(Nat.le_of_ble_eq_true rfl), (Nat.le_of_ble_eq_true rfl)⟩ (fun r_5 H locs hq6 hP hD hS => ?_)
    replace hq6 : (r_5.toInt = (q.2.2.2.length : Int)) := hq6
    have hP : va_P g.1 vwCl (List.flatten [bTape g ta ab sz ln kd bg nx ft fb]) H := hP
    have hD : va_D A (List.flatten [bTape g ta ab sz ln kd bg nx ft fb]) := hD
    refine W.widen (k := 0) (n := 0) (Nat.le_of_ble_eq_true rfl) (Nat.le_of_ble_eq_true rfl) ?_
    refine W.eq (g2 := F0 m 12 ls [.int r_5]) rfl ?_
    refine lv_aload_n hx hb dX6_isWord_12 rfl (lv_at hl 0 rfl) ?_
    refine va_get (D := g.1) (ci := 6) (v := .int nx) (C := RX6) (T := TX6) (N := 7) hx hb hts izRX6 hown hK hP 0 rfl rfl 5 (by decide) (hts _ k259) (fun _ h9 => h9) rfl dX6_isWord_13 ?_
    refine lv_aload_n hx hb dX6_isWord_16 rfl (lv_at hl 0 rfl) ?_
    refine va_get (D := g.1) (ci := 6) (v := .int bg) (C := RX6) (T := TX6) (N := 7) hx hb hts izRX6 hown hK hP 0 rfl rfl 4 (by decide) (hts _ k260) (fun _ h9 => h9) rfl dX6_isWord_17 ?_
    refine lv_isub hx hb dX6_isWord_20 ?_
    refine zg3 (zsubK (i := nx.toInt) (j := bg.toInt) (a' := (-400)) (b' := 400) rfl rfl hnx.1 hnx.2 hbg.1 hbg.2 (by decide)) (fun x_7 hx_7 => ?_)
    refine lv_icmp_eq (tgt := 26) hx hb dX6_isWord_21 (by decide) (fun cb9 => ?_) (fun cb9 => ?_)
    · skip
      have c8 : r_5.toInt = x_7.toInt := zeq cb9 rfl rfl
      refine lv_iconst (v := 0) hx hb dX6_isWord_26 (by decide) ?_
      refine lv_istore_n (lv' := [(2, .int 0), (0, .ref ta), (1, .ref k)]) hx hb dX6_isWord_27 rfl hl (by decide) rfl (fun ls hl => ?_)
      have hl := lv_sub (l' := [(0, .ref ta), (1, .ref k), (2, .int 0)]) hl [1, 2, 0] rfl
      have LP28_11 : ∀ (kf : Nat) (x_9 : Int32), (0 ≤ x_9.toInt ∧ x_9.toInt ≤ 7) → ∀ (H : Heap) (locs : List Loc) (ls : Array Slot), ((8 - x_9.toInt).toNat) < kf → va_P g.1 vwCl (List.flatten [bTape g ta ab sz ln kd bg nx ft fb]) H → va_D A (List.flatten [bTape g ta ab sz ln kd bg nx ft fb]) → va_S A s.heap H locs → lv_has ls 3 [(0, .ref ta), (1, .ref k), (2, .int x_9)] → W p l e ({ frames := 4, cells := 0, slots := 0, locals := 85 } : Room) s m args below meth c H locs (0) (0) (zF g (fun (r : Int32) => some (.int r)) (fun (r : Int32) => (r = 0 ∨ r = 1)) (fun (r : Int32) => [bTape g ta ab sz ln kd bg nx ft fb]) ({ frames := 4, cells := 0, slots := 0, locals := 85 } : Room) below args s A) (F0 m 28 ls []) := by
        intro kf
        induction kf with
        | zero => intro x_9 i10 H locs ls hk; exact absurd hk (Nat.not_lt_zero _)
        | succ kf ih28_12 =>
          intro x_9 i10 H locs ls hk28_12 hP hD hS hl
          refine lv_iload_n hx hb dX6_isWord_28 rfl (lv_at hl 2 rfl) ?_
          refine lv_aload_n hx hb dX6_isWord_29 rfl (lv_at hl 1 rfl) ?_
          refine mcallL' (g := g) (As := []) (rest := [.int x_9]) St hK hT hA hP hD hS hl.1 [] [0] rfl rfl rfl (s_length l g k j q hk9 hj9 hql) (cwV 0 hts (zgL (zl4 k262 k263 k264 k223) k218) rfl rfl rfl (by decide +kernel) ⟨Nat.le_of_ble_eq_true rfl, Nat.le_of_ble_eq_true rfl⟩) (by rw [hk9]; exact zSt_recv hSt hS) rfl rfl (Nat.le_of_ble_eq_true rfl) dX6_isWord_30 ⟨(Nat.le_of_ble_eq_true rfl), (Nat.le_of_ble_eq_true rfl)⟩ (fun r_13 H locs hq14 hP hD hS => ?_)
          replace hq14 : (r_13.toInt = (q.2.2.2.length : Int)) := hq14
          have hP : va_P g.1 vwCl (List.flatten [bTape g ta ab sz ln kd bg nx ft fb]) H := hP
          have hD : va_D A (List.flatten [bTape g ta ab sz ln kd bg nx ft fb]) := hD
          refine W.widen (k := 0) (n := 0) (Nat.le_of_ble_eq_true rfl) (Nat.le_of_ble_eq_true rfl) ?_
          refine W.eq (g2 := F0 m 33 ls [.int r_13, .int x_9]) rfl ?_
          refine lv_icmp_ge (tgt := 63) hx hb dX6_isWord_33 (by decide) (fun cb9 => ?_) (fun cb9 => ?_)
          · skip
            have c15 : r_13.toInt ≤ x_9.toInt := zle cb9 rfl rfl
            refine lv_iconst (v := 1) hx hb dX6_isWord_63 (by decide) ?_
            have hP : va_P g.1 vwCl (List.flatten [bTape g ta ab sz ln kd bg nx ft fb]) H := hP
            have hD : va_D A (List.flatten [bTape g ta ab sz ln kd bg nx ft fb]) := hD
            exact mret_z hx hb hr hlocks hS (Nat.le_of_ble_eq_true rfl) (Nat.le_of_ble_eq_true rfl) dX6_isWord_64 ((1 : Int32)) rfl (by decide) (show (1 = 0 ∨ 1 = 1) from (by decide)) hP hD
          · skip
            have c16 : x_9.toInt < r_13.toInt := zlti (Int32.not_le.mp cb9) rfl rfl
            refine lv_aload_n hx hb dX6_isWord_36 rfl (lv_at hl 0 rfl) ?_
            refine va_get (D := g.1) (ci := 6) (v := .ref ab) (C := RX6) (T := TX6) (N := 7) hx hb hts izRX6 hown hK hP 0 rfl rfl 0 (by decide) (hts _ k261) (fun _ h9 => h9) rfl dX6_isWord_37 ?_
            refine lv_aload_n hx hb dX6_isWord_40 rfl (lv_at hl 0 rfl) ?_
            refine va_get (D := g.1) (ci := 6) (v := .int bg) (C := RX6) (T := TX6) (N := 7) hx hb hts izRX6 hown hK hP 0 rfl rfl 4 (by decide) (hts _ k260) (fun _ h9 => h9) rfl dX6_isWord_41 ?_
            refine lv_iload_n hx hb dX6_isWord_44 rfl (lv_at hl 2 rfl) ?_
            refine lv_iadd hx hb dX6_isWord_45 ?_
            refine zgv (zadd (i := bg.toInt) (j := x_9.toInt) rfl rfl (by omega)) (fun x_17 hx_17 => ?_)
            refine va_iald hx hb hK hP 1 0 rfl rfl (zinI (by omega) (by omega)) dX6_isWord_46 ?_
            refine zg (fun x_18 => ?_)
            refine lv_aload_n hx hb dX6_isWord_47 rfl (lv_at hl 1 rfl) ?_
            refine lv_iload_n hx hb dX6_isWord_48 rfl (lv_at hl 2 rfl) ?_
            refine mcallL' (g := g) (As := [.int x_9]) (rest := [.int x_18]) St hK hT hA hP hD hS hl.1 [] [0] rfl rfl rfl (s_char l g k j q x_9 hk9 hj9 hql (by first | assumption | omega | decide | exact Or.inl (by decide) | exact Or.inr (by decide))) (cwV 1 hts (zgL (zl4 k265 k266 k267 k223) k257) rfl rfl rfl (by decide +kernel) ⟨Nat.le_of_ble_eq_true rfl, Nat.le_of_ble_eq_true rfl⟩) (by rw [hk9]; exact zSt_recv hSt hS) rfl rfl (Nat.le_of_ble_eq_true rfl) dX6_isWord_49 ⟨(Nat.le_of_ble_eq_true rfl), (Nat.le_of_ble_eq_true rfl)⟩ (fun r_19 H locs hq20 hP hD hS => ?_)
            replace hq20 : (narrow .char (.int r_19) = .int r_19) := hq20
            have hP : va_P g.1 vwCl (List.flatten [bTape g ta ab sz ln kd bg nx ft fb]) H := hP
            have hD : va_D A (List.flatten [bTape g ta ab sz ln kd bg nx ft fb]) := hD
            refine W.widen (k := 0) (n := 0) (Nat.le_of_ble_eq_true rfl) (Nat.le_of_ble_eq_true rfl) ?_
            refine W.eq (g2 := F0 m 52 ls [.int r_19, .int x_18]) rfl ?_
            refine lv_icmp_eq (tgt := 57) hx hb dX6_isWord_52 (by decide) (fun cb9 => ?_) (fun cb9 => ?_)
            · skip
              have c21 : x_18.toInt = r_19.toInt := zeq cb9 rfl rfl
              refine ziinc (j := x_9.toInt + 1) (lv' := fun v9 => [(2, .int v9), (0, .ref ta), (1, .ref k)]) hx hb dX6_isWord_57 hl (k := 2) rfl (by decide) (fun _ => rfl) (zadd (i := x_9.toInt) (j := 1) rfl (by decide) (by omega)) (fun x_22 ls hx_22 hl => ?_)
              refine lv_goto (tgt := 28) hx hb dX6_isWord_60 (by decide) ?_
              have hl := lv_sub (l' := [(0, .ref ta), (1, .ref k), (2, .int x_22)]) hl [1, 2, 0] rfl
              have hP : va_P g.1 vwCl (List.flatten [bTape g ta ab sz ln kd bg nx ft fb]) H := hP
              have hD : va_D A (List.flatten [bTape g ta ab sz ln kd bg nx ft fb]) := hD
              exact ih28_12 x_22 (by first | omega | assumption | decide) H _ ls (by omega)  hP hD hS (lv_sub hl [0, 1, 2] rfl)
            · skip
              have c23 : ¬ x_18.toInt = r_19.toInt := zne cb9 rfl rfl
              refine lv_iconst (v := 0) hx hb dX6_isWord_55 (by decide) ?_
              have hP : va_P g.1 vwCl (List.flatten [bTape g ta ab sz ln kd bg nx ft fb]) H := hP
              have hD : va_D A (List.flatten [bTape g ta ab sz ln kd bg nx ft fb]) := hD
              exact mret_z hx hb hr hlocks hS (Nat.le_of_ble_eq_true rfl) (Nat.le_of_ble_eq_true rfl) dX6_isWord_56 ((0 : Int32)) rfl (by decide) (show (0 = 0 ∨ 0 = 1) from (by decide)) hP hD
      have hP : va_P g.1 vwCl (List.flatten [bTape g ta ab sz ln kd bg nx ft fb]) H := hP
      have hD : va_D A (List.flatten [bTape g ta ab sz ln kd bg nx ft fb]) := hD
      exact LP28_11 _ 0 (by decide) H _ ls (Nat.lt_succ_self _)  hP hD hS (lv_sub hl [0, 1, 2] rfl)
    · skip
      have c24 : ¬ r_5.toInt = x_7.toInt := zne cb9 rfl rfl
      refine lv_iconst (v := 0) hx hb dX6_isWord_24 (by decide) ?_
      have hP : va_P g.1 vwCl (List.flatten [bTape g ta ab sz ln kd bg nx ft fb]) H := hP
      have hD : va_D A (List.flatten [bTape g ta ab sz ln kd bg nx ft fb]) := hD
      exact mret_z hx hb hr hlocks hS (Nat.le_of_ble_eq_true rfl) (Nat.le_of_ble_eq_true rfl) dX6_isWord_25 ((0 : Int32)) rfl (by decide) (show (0 = 0 ∨ 0 = 1) from (by decide)) hP hD
