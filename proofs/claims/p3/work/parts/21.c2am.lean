set_option maxRecDepth 100000 in
set_option maxHeartbeats 4000000 in
theorem c_t_number (l : Launch) (g : zG) (ta : Nat) (ab : Nat) (sz : Int32) (ln : Int32) (kd : Int32) (bg : Int32) (nx : Int32) (ft : Int32) (fb : Nat → Int32) (lw : Int32) (hg : Int32) (hln : 0 ≤ ln.toInt ∧ ln.toInt ≤ 400) (hnx : 0 ≤ nx.toInt ∧ nx.toInt ≤ 400) (hbg : 0 ≤ bg.toInt ∧ bg.toInt ≤ 400) (hkd : zKd kd.toInt bg.toInt nx.toInt) (hft : -1 ≤ ft.toInt) : zM' g l yX6_number (Cond.code yX6_number cX6_number 5 (some .int) :: zB) ({ frames := 1, cells := 0, slots := 0, locals := 21 } : Room) [.ref ta, .int lw, .int hg] [bTape g ta ab sz ln kd bg nx ft fb] (fun u : Int32 × Int32 × Int32 × Int32 × Int32 => (fun (kd2 : Int32) (bg2 : Int32) (nx2 : Int32) (ft2 : Int32) (q : Int32) => some (.int q)) (u.1) (u.2.1) (u.2.2.1) (u.2.2.2.1) (u.2.2.2.2)) (fun u : Int32 × Int32 × Int32 × Int32 × Int32 => (fun (kd2 : Int32) (bg2 : Int32) (nx2 : Int32) (ft2 : Int32) (q : Int32) => (0 ≤ nx2.toInt ∧ nx2.toInt ≤ 400) ∧ (0 ≤ bg2.toInt ∧ bg2.toInt ≤ 400) ∧ (zKd kd2.toInt bg2.toInt nx2.toInt) ∧ (-1 ≤ ft2.toInt) ∧ (zImp (¬ q.toInt = -1) (lw.toInt ≤ q.toInt ∧ q.toInt ≤ hg.toInt))) (u.1) (u.2.1) (u.2.2.1) (u.2.2.2.1) (u.2.2.2.2)) (fun u : Int32 × Int32 × Int32 × Int32 × Int32 => (fun (kd2 : Int32) (bg2 : Int32) (nx2 : Int32) (ft2 : Int32) (q : Int32) => [bTape g ta ab sz ln kd2 bg2 nx2 ft2 fb]) (u.1) (u.2.1) (u.2.2.1) (u.2.2.2.1) (u.2.2.2.2)) := by
  refine zM'.of (cc := cX6_number) (maxL := 5) (rt := (some .int)) (by decide) rfl (Nat.le_of_ble_eq_true rfl) ?_
  intro p e s m args below meth c A ls St hr hlocks hin hK hT hA hP hD hS hl
  obtain ⟨hx, hb, hml, hown, hts⟩ := id St
  have hl : lv_has ls 5 [(0, .ref ta), (1, .int lw), (2, .int hg)] := hl
  refine lv_iconst (v := 0) hx hb dX6_number_0 (by decide) ?_
  refine lv_istore_n (lv' := [(3, .int 0), (0, .ref ta), (1, .int lw), (2, .int hg)]) hx hb dX6_number_1 rfl hl (by decide) rfl (fun ls hl => ?_)
  refine lv_aload_n hx hb dX6_number_2 rfl (lv_at hl 1 rfl) ?_
  refine va_get (D := g.1) (ci := 6) (v := .int kd) (C := RX6) (T := TX6) (N := 7) hx hb hts izRX6 hown hK hP 0 rfl rfl 3 (by decide) (hts _ k258) (fun _ h9 => h9) rfl dX6_number_3 ?_
  refine lv_iconst (v := 2) hx hb dX6_number_6 (by decide) ?_
  refine lv_icmp_ne (tgt := 76) hx hb dX6_number_7 (by decide) (fun cb9 => ?_) (fun cb9 => ?_)
  · skip
    have c1 : ¬ kd.toInt = 2 := zne cb9 rfl (by decide)
    refine lv_aload_n hx hb dX6_number_76 rfl (lv_at hl 1 rfl) ?_
    refine mcallV' (g := g) (q0 := 0) (ci := 6) (As := []) (rest := []) St hK hT hA hP hD hS hl.1 [0] [] rfl rfl rfl (c_t_refuse l g ta ab sz ln kd bg nx ft fb hln hnx hbg hkd hft) (cwV 0 hts (zgL (zl4 k278 k279 k280 k277) k269) rfl rfl rfl (by decide +kernel) ⟨Nat.le_of_ble_eq_true rfl, Nat.le_of_ble_eq_true rfl⟩) rfl rfl rfl rfl (Nat.le_of_ble_eq_true rfl) dX6_number_77 ⟨(Nat.le_of_ble_eq_true rfl), (Nat.le_of_ble_eq_true rfl)⟩ (fun ft2_2 H locs hq3 hP hD hS => ?_)
    replace hq3 : (-1 ≤ ft2_2.toInt) := hq3
    have hP : va_P g.1 vwCl (List.flatten [bTape g ta ab sz ln kd bg nx ft2_2 fb]) H := hP
    have hD : va_D A (List.flatten [bTape g ta ab sz ln kd bg nx ft2_2 fb]) := hD
    refine W.widen (k := 0) (n := 0) (Nat.le_of_ble_eq_true rfl) (Nat.le_of_ble_eq_true rfl) ?_
    refine W.eq (g2 := F0 m 80 ls [.int 0]) rfl ?_
    refine lv_pop hx hb dX6_number_80 rfl ?_
    refine lv_iconst (v := (-1)) hx hb dX6_number_81 (by decide) ?_
    have hLn1 : ((-1) : Int32).toInt = (-1) := by decide
    have hP : va_P g.1 vwCl (List.flatten [bTape g ta ab sz ln kd bg nx ft2_2 fb]) H := hP
    have hD : va_D A (List.flatten [bTape g ta ab sz ln kd bg nx ft2_2 fb]) := hD
    exact mret_i hx hb hr hlocks hS (Nat.le_of_ble_eq_true rfl) (Nat.le_of_ble_eq_true rfl) dX6_number_82 (kd, bg, nx, ft2_2, -1) rfl (show (0 ≤ nx.toInt ∧ nx.toInt ≤ 400) ∧ (0 ≤ bg.toInt ∧ bg.toInt ≤ 400) ∧ (zKd kd.toInt bg.toInt nx.toInt) ∧ (-1 ≤ ft2_2.toInt) ∧ (zImp (¬ ((-1) : Int32).toInt = -1) (lw.toInt ≤ ((-1) : Int32).toInt ∧ ((-1) : Int32).toInt ≤ hg.toInt)) from ⟨hnx, hbg, hkd, hq3, (fun h9 => by first | omega)⟩) hP hD
  · skip
    have c4 : kd.toInt = 2 := zeq cb9 rfl (by decide)
    have n5 : 2 ≤ kd.toInt := Int.le_trans (Int.le_refl _) (Int.le_of_eq c4.symm)
    have n6 : kd.toInt ≤ 2 := Int.le_trans (Int.le_of_eq c4) (Int.le_refl _)
    refine lv_aload_n hx hb dX6_number_10 rfl (lv_at hl 1 rfl) ?_
    refine va_get (D := g.1) (ci := 6) (v := .int nx) (C := RX6) (T := TX6) (N := 7) hx hb hts izRX6 hown hK hP 0 rfl rfl 5 (by decide) (hts _ k259) (fun _ h9 => h9) rfl dX6_number_11 ?_
    refine lv_aload_n hx hb dX6_number_14 rfl (lv_at hl 1 rfl) ?_
    refine va_get (D := g.1) (ci := 6) (v := .int bg) (C := RX6) (T := TX6) (N := 7) hx hb hts izRX6 hown hK hP 0 rfl rfl 4 (by decide) (hts _ k260) (fun _ h9 => h9) rfl dX6_number_15 ?_
    refine lv_isub hx hb dX6_number_18 ?_
    refine zg3 (zsubK (i := nx.toInt) (j := bg.toInt) (a' := (-400)) (b' := 400) rfl rfl hnx.1 hnx.2 hbg.1 hbg.2 (by decide)) (fun x_7 hx_7 => ?_)
    refine lv_iconst (v := 3) hx hb dX6_number_19 (by decide) ?_
    refine lv_icmp_gt (tgt := 76) hx hb dX6_number_20 (by decide) (fun cb9 => ?_) (fun cb9 => ?_)
    · skip
      have c8 : 3 < x_7.toInt := zlti cb9 (by decide) rfl
      have n9 : 4 ≤ x_7.toInt := zL2 (a := 3) c8 (Int.le_refl _) (by decide)
      refine lv_aload_n hx hb dX6_number_76 rfl (lv_at hl 1 rfl) ?_
      refine mcallV' (g := g) (q0 := 0) (ci := 6) (As := []) (rest := []) St hK hT hA hP hD hS hl.1 [0] [] rfl rfl rfl (c_t_refuse l g ta ab sz ln kd bg nx ft fb hln hnx hbg hkd hft) (cwV 0 hts (zgL (zl4 k278 k279 k280 k277) k269) rfl rfl rfl (by decide +kernel) ⟨Nat.le_of_ble_eq_true rfl, Nat.le_of_ble_eq_true rfl⟩) rfl rfl rfl rfl (Nat.le_of_ble_eq_true rfl) dX6_number_77 ⟨(Nat.le_of_ble_eq_true rfl), (Nat.le_of_ble_eq_true rfl)⟩ (fun ft2_10 H locs hq11 hP hD hS => ?_)
      replace hq11 : (-1 ≤ ft2_10.toInt) := hq11
      have hP : va_P g.1 vwCl (List.flatten [bTape g ta ab sz ln kd bg nx ft2_10 fb]) H := hP
      have hD : va_D A (List.flatten [bTape g ta ab sz ln kd bg nx ft2_10 fb]) := hD
      refine W.widen (k := 0) (n := 0) (Nat.le_of_ble_eq_true rfl) (Nat.le_of_ble_eq_true rfl) ?_
      refine W.eq (g2 := F0 m 80 ls [.int 0]) rfl ?_
      refine lv_pop hx hb dX6_number_80 rfl ?_
      refine lv_iconst (v := (-1)) hx hb dX6_number_81 (by decide) ?_
      have hLn1 : ((-1) : Int32).toInt = (-1) := by decide
      have hP : va_P g.1 vwCl (List.flatten [bTape g ta ab sz ln kd bg nx ft2_10 fb]) H := hP
      have hD : va_D A (List.flatten [bTape g ta ab sz ln kd bg nx ft2_10 fb]) := hD
      exact mret_i hx hb hr hlocks hS (Nat.le_of_ble_eq_true rfl) (Nat.le_of_ble_eq_true rfl) dX6_number_82 (kd, bg, nx, ft2_10, -1) rfl (show (0 ≤ nx.toInt ∧ nx.toInt ≤ 400) ∧ (0 ≤ bg.toInt ∧ bg.toInt ≤ 400) ∧ (zKd kd.toInt bg.toInt nx.toInt) ∧ (-1 ≤ ft2_10.toInt) ∧ (zImp (¬ ((-1) : Int32).toInt = -1) (lw.toInt ≤ ((-1) : Int32).toInt ∧ ((-1) : Int32).toInt ≤ hg.toInt)) from ⟨hnx, hbg, hkd, hq11, (fun h9 => by first | omega)⟩) hP hD
    · skip
      have c12 : x_7.toInt ≤ 3 := zle (Int32.not_lt.mp cb9) rfl (by decide)
      have n13 : x_7.toInt ≤ 3 := Int.le_trans c12 (Int.le_refl _)
      refine lv_aload_n hx hb dX6_number_23 rfl (lv_at hl 1 rfl) ?_
      refine va_get (D := g.1) (ci := 6) (v := .int bg) (C := RX6) (T := TX6) (N := 7) hx hb hts izRX6 hown hK hP 0 rfl rfl 4 (by decide) (hts _ k260) (fun _ h9 => h9) rfl dX6_number_24 ?_
      refine lv_istore (lv' := [(4, .int bg), (3, .int 0), (0, .ref ta), (1, .int lw), (2, .int hg)]) hx hb dX6_number_27 hl (by decide) rfl (fun ls hl => ?_)
      have hl := lv_sub (l' := [(0, .ref ta), (1, .int lw), (2, .int hg), (3, .int 0), (4, .int bg)]) hl [2, 3, 4, 1, 0] rfl
      have LP29_17 : ∀ (kf : Nat) (x_14 : Int32) (x_15 : Int32), (0 ≤ x_15.toInt ∧ x_15.toInt ≤ 400) → ∀ (H : Heap) (locs : List Loc) (ls : Array Slot), ((401 - x_15.toInt).toNat) < kf → va_P g.1 vwCl (List.flatten [bTape g ta ab sz ln kd bg nx ft fb]) H → va_D A (List.flatten [bTape g ta ab sz ln kd bg nx ft fb]) → va_S A s.heap H locs → lv_has ls 5 [(0, .ref ta), (1, .int lw), (2, .int hg), (3, .int x_14), (4, .int x_15)] → W p l e ({ frames := 1, cells := 0, slots := 0, locals := 21 } : Room) s m args below meth c H locs (0) (0) (zF g (fun u : Int32 × Int32 × Int32 × Int32 × Int32 => (fun (kd2 : Int32) (bg2 : Int32) (nx2 : Int32) (ft2 : Int32) (q : Int32) => some (.int q)) (u.1) (u.2.1) (u.2.2.1) (u.2.2.2.1) (u.2.2.2.2)) (fun u : Int32 × Int32 × Int32 × Int32 × Int32 => (fun (kd2 : Int32) (bg2 : Int32) (nx2 : Int32) (ft2 : Int32) (q : Int32) => (0 ≤ nx2.toInt ∧ nx2.toInt ≤ 400) ∧ (0 ≤ bg2.toInt ∧ bg2.toInt ≤ 400) ∧ (zKd kd2.toInt bg2.toInt nx2.toInt) ∧ (-1 ≤ ft2.toInt) ∧ (zImp (¬ q.toInt = -1) (lw.toInt ≤ q.toInt ∧ q.toInt ≤ hg.toInt))) (u.1) (u.2.1) (u.2.2.1) (u.2.2.2.1) (u.2.2.2.2)) (fun u : Int32 × Int32 × Int32 × Int32 × Int32 => (fun (kd2 : Int32) (bg2 : Int32) (nx2 : Int32) (ft2 : Int32) (q : Int32) => [bTape g ta ab sz ln kd2 bg2 nx2 ft2 fb]) (u.1) (u.2.1) (u.2.2.1) (u.2.2.2.1) (u.2.2.2.2)) ({ frames := 1, cells := 0, slots := 0, locals := 21 } : Room) below args s A) (F0 m 29 ls []) := by
        intro kf
        induction kf with
        | zero => intro x_14 x_15 i16 H locs ls hk; exact absurd hk (Nat.not_lt_zero _)
        | succ kf ih29_18 =>
          intro x_14 x_15 i16 H locs ls hk29_18 hP hD hS hl
          refine lv_iload hx hb dX6_number_29 (lv_at hl 4 rfl) ?_
          refine lv_aload_n hx hb dX6_number_31 rfl (lv_at hl 0 rfl) ?_
          refine va_get (D := g.1) (ci := 6) (v := .int nx) (C := RX6) (T := TX6) (N := 7) hx hb hts izRX6 hown hK hP 0 rfl rfl 5 (by decide) (hts _ k259) (fun _ h9 => h9) rfl dX6_number_32 ?_
          refine lv_icmp_ge (tgt := 60) hx hb dX6_number_35 (by decide) (fun cb9 => ?_) (fun cb9 => ?_)
          · skip
            have c19 : nx.toInt ≤ x_15.toInt := zle cb9 rfl rfl
            refine lv_iload_n hx hb dX6_number_60 rfl (lv_at hl 3 rfl) ?_
            refine lv_iload_n hx hb dX6_number_61 rfl (lv_at hl 1 rfl) ?_
            refine lv_icmp_lt (tgt := 76) hx hb dX6_number_62 (by decide) (fun cb9 => ?_) (fun cb9 => ?_)
            · skip
              have c20 : x_14.toInt < lw.toInt := zlti cb9 rfl rfl
              refine lv_aload_n hx hb dX6_number_76 rfl (lv_at hl 0 rfl) ?_
              refine mcallV' (g := g) (q0 := 0) (ci := 6) (As := []) (rest := []) St hK hT hA hP hD hS hl.1 [0] [] rfl rfl rfl (c_t_refuse l g ta ab sz ln kd bg nx ft fb hln hnx hbg hkd hft) (cwV 0 hts (zgL (zl4 k278 k279 k280 k277) k269) rfl rfl rfl (by decide +kernel) ⟨Nat.le_of_ble_eq_true rfl, Nat.le_of_ble_eq_true rfl⟩) rfl rfl rfl rfl (Nat.le_of_ble_eq_true rfl) dX6_number_77 ⟨(Nat.le_of_ble_eq_true rfl), (Nat.le_of_ble_eq_true rfl)⟩ (fun ft2_21 H locs hq22 hP hD hS => ?_)
              replace hq22 : (-1 ≤ ft2_21.toInt) := hq22
              have hP : va_P g.1 vwCl (List.flatten [bTape g ta ab sz ln kd bg nx ft2_21 fb]) H := hP
              have hD : va_D A (List.flatten [bTape g ta ab sz ln kd bg nx ft2_21 fb]) := hD
              refine W.widen (k := 0) (n := 0) (Nat.le_of_ble_eq_true rfl) (Nat.le_of_ble_eq_true rfl) ?_
              refine W.eq (g2 := F0 m 80 ls [.int 0]) rfl ?_
              refine lv_pop hx hb dX6_number_80 rfl ?_
              refine lv_iconst (v := (-1)) hx hb dX6_number_81 (by decide) ?_
              have hLn1 : ((-1) : Int32).toInt = (-1) := by decide
              have hP : va_P g.1 vwCl (List.flatten [bTape g ta ab sz ln kd bg nx ft2_21 fb]) H := hP
              have hD : va_D A (List.flatten [bTape g ta ab sz ln kd bg nx ft2_21 fb]) := hD
              exact mret_i hx hb hr hlocks hS (Nat.le_of_ble_eq_true rfl) (Nat.le_of_ble_eq_true rfl) dX6_number_82 (kd, bg, nx, ft2_21, -1) rfl (show (0 ≤ nx.toInt ∧ nx.toInt ≤ 400) ∧ (0 ≤ bg.toInt ∧ bg.toInt ≤ 400) ∧ (zKd kd.toInt bg.toInt nx.toInt) ∧ (-1 ≤ ft2_21.toInt) ∧ (zImp (¬ ((-1) : Int32).toInt = -1) (lw.toInt ≤ ((-1) : Int32).toInt ∧ ((-1) : Int32).toInt ≤ hg.toInt)) from ⟨hnx, hbg, hkd, hq22, (fun h9 => by first | omega)⟩) hP hD
            · skip
              have c23 : lw.toInt ≤ x_14.toInt := zle (Int32.not_lt.mp cb9) rfl rfl
              refine lv_iload_n hx hb dX6_number_65 rfl (lv_at hl 3 rfl) ?_
              refine lv_iload_n hx hb dX6_number_66 rfl (lv_at hl 2 rfl) ?_
              refine lv_icmp_gt (tgt := 76) hx hb dX6_number_67 (by decide) (fun cb9 => ?_) (fun cb9 => ?_)
              · skip
                have c24 : hg.toInt < x_14.toInt := zlti cb9 rfl rfl
                refine lv_aload_n hx hb dX6_number_76 rfl (lv_at hl 0 rfl) ?_
                refine mcallV' (g := g) (q0 := 0) (ci := 6) (As := []) (rest := []) St hK hT hA hP hD hS hl.1 [0] [] rfl rfl rfl (c_t_refuse l g ta ab sz ln kd bg nx ft fb hln hnx hbg hkd hft) (cwV 0 hts (zgL (zl4 k278 k279 k280 k277) k269) rfl rfl rfl (by decide +kernel) ⟨Nat.le_of_ble_eq_true rfl, Nat.le_of_ble_eq_true rfl⟩) rfl rfl rfl rfl (Nat.le_of_ble_eq_true rfl) dX6_number_77 ⟨(Nat.le_of_ble_eq_true rfl), (Nat.le_of_ble_eq_true rfl)⟩ (fun ft2_25 H locs hq26 hP hD hS => ?_)
                replace hq26 : (-1 ≤ ft2_25.toInt) := hq26
                have hP : va_P g.1 vwCl (List.flatten [bTape g ta ab sz ln kd bg nx ft2_25 fb]) H := hP
                have hD : va_D A (List.flatten [bTape g ta ab sz ln kd bg nx ft2_25 fb]) := hD
                refine W.widen (k := 0) (n := 0) (Nat.le_of_ble_eq_true rfl) (Nat.le_of_ble_eq_true rfl) ?_
                refine W.eq (g2 := F0 m 80 ls [.int 0]) rfl ?_
                refine lv_pop hx hb dX6_number_80 rfl ?_
                refine lv_iconst (v := (-1)) hx hb dX6_number_81 (by decide) ?_
                have hLn1 : ((-1) : Int32).toInt = (-1) := by decide
                have hP : va_P g.1 vwCl (List.flatten [bTape g ta ab sz ln kd bg nx ft2_25 fb]) H := hP
                have hD : va_D A (List.flatten [bTape g ta ab sz ln kd bg nx ft2_25 fb]) := hD
                exact mret_i hx hb hr hlocks hS (Nat.le_of_ble_eq_true rfl) (Nat.le_of_ble_eq_true rfl) dX6_number_82 (kd, bg, nx, ft2_25, -1) rfl (show (0 ≤ nx.toInt ∧ nx.toInt ≤ 400) ∧ (0 ≤ bg.toInt ∧ bg.toInt ≤ 400) ∧ (zKd kd.toInt bg.toInt nx.toInt) ∧ (-1 ≤ ft2_25.toInt) ∧ (zImp (¬ ((-1) : Int32).toInt = -1) (lw.toInt ≤ ((-1) : Int32).toInt ∧ ((-1) : Int32).toInt ≤ hg.toInt)) from ⟨hnx, hbg, hkd, hq26, (fun h9 => by first | omega)⟩) hP hD
              · skip
                have c27 : x_14.toInt ≤ hg.toInt := zle (Int32.not_lt.mp cb9) rfl rfl
                refine lv_aload_n hx hb dX6_number_70 rfl (lv_at hl 0 rfl) ?_
                refine mcallV' (g := g) (q0 := 0) (ci := 6) (As := []) (rest := []) St hK hT hA hP hD hS hl.1 [0] [] rfl rfl rfl (c_t_step l g ta ab sz ln kd bg nx ft fb hln hnx) (cwV 0 hts (zgL (zl4 k274 k275 k276 k277) k271) rfl rfl rfl (by decide +kernel) ⟨Nat.le_of_ble_eq_true rfl, Nat.le_of_ble_eq_true rfl⟩) rfl rfl rfl rfl (Nat.le_of_ble_eq_true rfl) dX6_number_71 ⟨(Nat.le_of_ble_eq_true rfl), (Nat.le_of_ble_eq_true rfl)⟩ (fun u_ H locs hq31 hP hD hS => ?_)
                obtain ⟨kd2_28, bg2_29, nx2_30⟩ := u_
                replace hq31 : (0 ≤ nx2_30.toInt ∧ nx2_30.toInt ≤ 400) ∧ (0 ≤ bg2_29.toInt ∧ bg2_29.toInt ≤ 400) ∧ (zKd kd2_28.toInt bg2_29.toInt nx2_30.toInt) := hq31
                have hP : va_P g.1 vwCl (List.flatten [bTape g ta ab sz ln kd2_28 bg2_29 nx2_30 ft fb]) H := hP
                have hD : va_D A (List.flatten [bTape g ta ab sz ln kd2_28 bg2_29 nx2_30 ft fb]) := hD
                refine W.widen (k := 0) (n := 0) (Nat.le_of_ble_eq_true rfl) (Nat.le_of_ble_eq_true rfl) ?_
                refine W.eq (g2 := F0 m 74 ls []) rfl ?_
                obtain ⟨hq31_0, hq31_1, hq31_2⟩ := hq31
                refine lv_iload_n hx hb dX6_number_74 rfl (lv_at hl 3 rfl) ?_
                have hP : va_P g.1 vwCl (List.flatten [bTape g ta ab sz ln kd2_28 bg2_29 nx2_30 ft fb]) H := hP
                have hD : va_D A (List.flatten [bTape g ta ab sz ln kd2_28 bg2_29 nx2_30 ft fb]) := hD
                exact mret_i hx hb hr hlocks hS (Nat.le_of_ble_eq_true rfl) (Nat.le_of_ble_eq_true rfl) dX6_number_75 (kd2_28, bg2_29, nx2_30, ft, x_14) rfl (show (0 ≤ nx2_30.toInt ∧ nx2_30.toInt ≤ 400) ∧ (0 ≤ bg2_29.toInt ∧ bg2_29.toInt ≤ 400) ∧ (zKd kd2_28.toInt bg2_29.toInt nx2_30.toInt) ∧ (-1 ≤ ft.toInt) ∧ (zImp (¬ x_14.toInt = -1) (lw.toInt ≤ x_14.toInt ∧ x_14.toInt ≤ hg.toInt)) from ⟨hq31_0, hq31_1, hq31_2, hft, (fun h9 => by first | omega)⟩) hP hD
          · skip
            have c32 : x_15.toInt < nx.toInt := zlti (Int32.not_le.mp cb9) rfl rfl
            have n33 : x_15.toInt ≤ 399 := zL1 (b := 400) c32 hnx.2 (by decide)
            have n34 : 1 ≤ nx.toInt := zL2 (a := 0) c32 i16.1 (by decide)
            refine lv_iload_n hx hb dX6_number_38 rfl (lv_at hl 3 rfl) ?_
            refine lv_bipush (v := 10) hx hb dX6_number_39 (by decide) ?_
            refine lv_imul hx hb dX6_number_41 ?_
            refine zg (fun x_35 => ?_)
            refine lv_aload_n hx hb dX6_number_42 rfl (lv_at hl 0 rfl) ?_
            refine va_get (D := g.1) (ci := 6) (v := .ref ab) (C := RX6) (T := TX6) (N := 7) hx hb hts izRX6 hown hK hP 0 rfl rfl 0 (by decide) (hts _ k261) (fun _ h9 => h9) rfl dX6_number_43 ?_
            refine lv_iload hx hb dX6_number_46 (lv_at hl 4 rfl) ?_
            refine va_iald hx hb hK hP 1 0 rfl rfl (zinK (a := 0) (b := 399) i16.1 n33 (by decide)) dX6_number_48 ?_
            refine zg (fun x_36 => ?_)
            refine lv_iadd hx hb dX6_number_49 ?_
            refine zg (fun x_37 => ?_)
            refine lv_bipush (v := 48) hx hb dX6_number_50 (by decide) ?_
            refine lv_isub hx hb dX6_number_52 ?_
            refine zg (fun x_38 => ?_)
            refine lv_istore_n (lv' := [(3, .int x_38), (0, .ref ta), (1, .int lw), (2, .int hg), (4, .int x_15)]) hx hb dX6_number_53 rfl hl (by decide) rfl (fun ls hl => ?_)
            refine ziinc3 (n' := 1) (a' := 1) (b' := 400) (lv' := fun v9 => [(4, .int v9), (3, .int x_38), (0, .ref ta), (1, .int lw), (2, .int hg)]) hx hb dX6_number_54 hl (k := 4) rfl (by decide) (fun _ => rfl) (zaddK (i := x_15.toInt) (j := 1) rfl (by decide) i16.1 n33 (Int.le_refl _) (Int.le_refl _) (by decide)) (fun x_39 ls hx_39 hl => ?_)
            refine lv_goto (tgt := 29) hx hb dX6_number_57 (by decide) ?_
            have hl := lv_sub (l' := [(0, .ref ta), (1, .int lw), (2, .int hg), (3, .int x_38), (4, .int x_39)]) hl [2, 3, 4, 1, 0] rfl
            have hP : va_P g.1 vwCl (List.flatten [bTape g ta ab sz ln kd bg nx ft fb]) H := hP
            have hD : va_D A (List.flatten [bTape g ta ab sz ln kd bg nx ft fb]) := hD
            exact ih29_18 x_38 x_39 ⟨(Int.le_trans (by decide) hx_39.2.1), hx_39.2.2⟩ H _ ls (zmK hx_39.1 (by decide) n33 (by decide) hk29_18)  hP hD hS (lv_sub hl [0, 1, 2, 3, 4] rfl)
      have hP : va_P g.1 vwCl (List.flatten [bTape g ta ab sz ln kd bg nx ft fb]) s.heap := hP
      have hD : va_D A (List.flatten [bTape g ta ab sz ln kd bg nx ft fb]) := hD
      exact LP29_17 _ 0 bg ⟨hbg.1, hbg.2⟩ s.heap _ ls (Nat.lt_succ_self _)  hP hD hS (lv_sub hl [0, 1, 2, 3, 4] rfl)
