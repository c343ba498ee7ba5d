set_option maxRecDepth 100000 in
set_option maxHeartbeats 4000000 in
theorem m_believesG (l : Launch) (g : zG) (o : Nat) (a : Nat → Nat) (th : Int32) (hi : Int32) (ac : Int32) (tp : Int32) (ba : Int32) (en : Int32) (tA : Int32) (fl : Int32) (de : Int32) (iD : Int32) (iO : Int32) (tU : Int32) (fm : Nat → Int32) (fk : Nat → Int32) (fa : Nat → Int32) (fc : Nat → Int32) (ft : Nat → Int32) (ff : Nat → Int32) (fb : Nat → Int32) (fi : Nat → Int32) (x : Int32) (b : Int32) (rfm : rM fm) (b_x : 0 ≤ x.toInt ∧ x.toInt ≤ 7) : zM' g l yX12_believes (Cond.code yX12_believes cX12_believes 3 none :: zB) ({ frames := 1, cells := 0, slots := 0, locals := 23 } : Room) [.ref o, .int x, .int b] [bMo g o a th hi ac tp ba en tA fl de iD iO tU fm fk fa fc ft ff fb fi] (fun (fm2 : Nat → Int32) => none) (fun (fm2 : Nat → Int32) => (rM fm2) ∧ (fm2 = upd fm (11 + 5 * x.toInt.toNat) (zCl (zV fm 0 x.toInt.toNat + b)))) (fun (fm2 : Nat → Int32) => [bMo g o a th hi ac tp ba en tA fl de iD iO tU fm2 fk fa fc ft ff fb fi]) := by
  refine zM'.of (cc := cX12_believes) (maxL := 3) (rt := none) (by decide) rfl (Nat.le_of_ble_eq_true rfl) ?_
  intro p e s m args below meth c A ls St hr hlocks hin hK hT hA hP hD hS hl
  obtain ⟨hx, hb, hml, hown, hts⟩ := id St
  have hl : lv_has ls 3 [(0, .ref o), (1, .int x), (2, .int b)] := hl
  have hrm3 := rM3 rfm
  have hrm4 := rM4 rfm
  refine lv_aload_n hx hb dX12_believes_0 rfl (lv_at hl 0 rfl) ?_
  refine lv_iload_n hx hb dX12_believes_1 rfl (lv_at hl 1 rfl) ?_
  refine lv_iconst (v := 0) hx hb dX12_believes_2 (by decide) ?_
  refine lv_iconst (v := 0) hx hb dX12_believes_3 (by decide) ?_
  refine lv_bipush (v := 99) hx hb dX12_believes_4 (by decide) ?_
  refine lv_aload_n hx hb dX12_believes_6 rfl (lv_at hl 0 rfl) ?_
  refine lv_iload_n hx hb dX12_believes_7 rfl (lv_at hl 1 rfl) ?_
  refine lv_iconst (v := 0) hx hb dX12_believes_8 (by decide) ?_
  refine mcallV' (g := g) (q0 := 0) (ci := 10) (As := [.int x, .int 0]) (rest := [.int 99, .int 0, .int 0, .int x, .ref o]) St hK hT hA hP hD hS hl.1 [0] [] rfl rfl rfl (m_of0F l g o a th hi ac tp ba en tA fl de iD iO tU fm fk fa fc ft ff fb fi x b_x) (cwV 2 hts (zgL (zl4 k842 k843 k844 k839) k831) rfl rfl rfl (by decide +kernel) ⟨Nat.le_of_ble_eq_true rfl, Nat.le_of_ble_eq_true rfl⟩) rfl rfl rfl rfl (Nat.le_of_ble_eq_true rfl) dX12_believes_9 ⟨(Nat.le_of_ble_eq_true rfl), (Nat.le_of_ble_eq_true rfl)⟩ (fun _u H locs hq1 hP hD hS => ?_)
  have hP : va_P g.1 vwCl (List.flatten [bMo g o a th hi ac tp ba en tA fl de iD iO tU fm fk fa fc ft ff fb fi]) H := hP
  have hD : va_D A (List.flatten [bMo g o a th hi ac tp ba en tA fl de iD iO tU fm fk fa fc ft ff fb fi]) := hD
  refine W.widen (k := 0) (n := 0) (Nat.le_of_ble_eq_true rfl) (Nat.le_of_ble_eq_true rfl) ?_
  refine W.eq (g2 := F0 m 12 ls [.int (zV fm 0 x.toInt.toNat), .int 99, .int 0, .int 0, .int x, .ref o]) rfl ?_
  refine lv_iload_n hx hb dX12_believes_12 rfl (lv_at hl 2 rfl) ?_
  refine lv_iadd hx hb dX12_believes_13 ?_
  have hL99 : (99 : Int32).toInt = 99 := by decide
  refine mcallS' (g := g) (As := [.int 99, .int ((zV fm 0 x.toInt.toNat) + b)]) (rest := [.int 0, .int 0, .int x, .ref o]) St hK hT hA hP hD hS hl.1 [] [0] rfl rfl rfl (m_lesser l g 99 ((zV fm 0 x.toInt.toNat) + b) ) (va_cwS 2 hts (zgL (zl3 k1000 k1001 k839) k827) rfl rfl rfl (by decide +kernel) ⟨Nat.le_of_ble_eq_true rfl, Nat.le_of_ble_eq_true rfl⟩) rfl rfl (Nat.le_of_ble_eq_true rfl) dX12_believes_14 ⟨(Nat.le_of_ble_eq_true rfl), (Nat.le_of_ble_eq_true rfl)⟩ (fun q_2 H locs hq3 hP hD hS => ?_)
  replace hq3 : (q_2.toInt ≤ (99 : Int32).toInt ∧ q_2.toInt ≤ ((zV fm 0 x.toInt.toNat) + b).toInt ∧ (q_2.toInt = (99 : Int32).toInt ∨ q_2.toInt = ((zV fm 0 x.toInt.toNat) + b).toInt)) := hq3
  have hP : va_P g.1 vwCl (List.flatten [bMo g o a th hi ac tp ba en tA fl de iD iO tU fm fk fa fc ft ff fb fi]) H := hP
  have hD : va_D A (List.flatten [bMo g o a th hi ac tp ba en tA fl de iD iO tU fm fk fa fc ft ff fb fi]) := hD
  refine W.widen (k := 0) (n := 0) (Nat.le_of_ble_eq_true rfl) (Nat.le_of_ble_eq_true rfl) ?_
  refine W.eq (g2 := F0 m 17 ls [.int q_2, .int 0, .int 0, .int x, .ref o]) rfl ?_
  have hL0 : (0 : Int32).toInt = 0 := by decide
  refine mcallS' (g := g) (As := [.int 0, .int q_2]) (rest := [.int 0, .int x, .ref o]) St hK hT hA hP hD hS hl.1 [] [0] rfl rfl rfl (m_greater l g 0 q_2 ) (va_cwS 2 hts (zgL (zl3 k1003 k1004 k839) k828) rfl rfl rfl (by decide +kernel) ⟨Nat.le_of_ble_eq_true rfl, Nat.le_of_ble_eq_true rfl⟩) rfl rfl (Nat.le_of_ble_eq_true rfl) dX12_believes_17 ⟨(Nat.le_of_ble_eq_true rfl), (Nat.le_of_ble_eq_true rfl)⟩ (fun q_4 H locs hq5 hP hD hS => ?_)
  replace hq5 : ((0 : Int32).toInt ≤ q_4.toInt ∧ q_2.toInt ≤ q_4.toInt ∧ (q_4.toInt = (0 : Int32).toInt ∨ q_4.toInt = q_2.toInt)) := hq5
  have hP : va_P g.1 vwCl (List.flatten [bMo g o a th hi ac tp ba en tA fl de iD iO tU fm fk fa fc ft ff fb fi]) H := hP
  have hD : va_D A (List.flatten [bMo g o a th hi ac tp ba en tA fl de iD iO tU fm fk fa fc ft ff fb fi]) := hD
  refine W.widen (k := 0) (n := 0) (Nat.le_of_ble_eq_true rfl) (Nat.le_of_ble_eq_true rfl) ?_
  refine W.eq (g2 := F0 m 20 ls [.int q_4, .int 0, .int x, .ref o]) rfl ?_
  refine ztop (r := (zCl ((zV fm 0 x.toInt.toNat) + b))) (zCl_of (by omega)) ?_
  refine mcallV' (g := g) (q0 := 0) (ci := 10) (As := [.int x, .int 0, .int (zCl ((zV fm 0 x.toInt.toNat) + b))]) (rest := []) St hK hT hA hP hD hS hl.1 [0] [] rfl rfl rfl (m_put0F l g o a th hi ac tp ba en tA fl de iD iO tU fm fk fa fc ft ff fb fi x (zCl ((zV fm 0 x.toInt.toNat) + b)) rfm b_x) (cwV 3 hts (zgL (zl4 k909 k910 k911 k839) k832) rfl rfl rfl (by decide +kernel) ⟨Nat.le_of_ble_eq_true rfl, Nat.le_of_ble_eq_true rfl⟩) rfl rfl rfl rfl (Nat.le_of_ble_eq_true rfl) dX12_believes_20 ⟨(Nat.le_of_ble_eq_true rfl), (Nat.le_of_ble_eq_true rfl)⟩ (fun fm2_6 H locs hq7 hP hD hS => ?_)
  replace hq7 : (rM fm2_6) ∧ (fm2_6 = upd fm (11 + 5 * x.toInt.toNat) (zCl ((zV fm 0 x.toInt.toNat) + b))) := hq7
  have hP : va_P g.1 vwCl (List.flatten [bMo g o a th hi ac tp ba en tA fl de iD iO tU fm2_6 fk fa fc ft ff fb fi]) H := hP
  have hD : va_D A (List.flatten [bMo g o a th hi ac tp ba en tA fl de iD iO tU fm2_6 fk fa fc ft ff fb fi]) := hD
  refine W.widen (k := 0) (n := 0) (Nat.le_of_ble_eq_true rfl) (Nat.le_of_ble_eq_true rfl) ?_
  refine W.eq (g2 := F0 m 23 ls []) rfl ?_
  obtain ⟨rfm2_6, hq7_1⟩ := hq7
  have hP : va_P g.1 vwCl (List.flatten [bMo g o a th hi ac tp ba en tA fl de iD iO tU fm2_6 fk fa fc ft ff fb fi]) H := hP
  have hD : va_D A (List.flatten [bMo g o a th hi ac tp ba en tA fl de iD iO tU fm2_6 fk fa fc ft ff fb fi]) := hD
  exact mret_v hx hb hr hlocks hS (Nat.le_of_ble_eq_true rfl) (Nat.le_of_ble_eq_true rfl) dX12_believes_23 (fm2_6) rfl (show (rM fm2_6) ∧ (fm2_6 = upd fm (11 + 5 * x.toInt.toNat) (zCl (zV fm 0 x.toInt.toNat + b))) from ⟨(by assumption), (by rw [hq7_1])⟩) hP hD
set_option maxRecDepth 100000 in
set_option maxHeartbeats 4000000 in
theorem m_drawG (l : Launch) (g : zG) (o : Nat) (a : Nat → Nat) (th : Int32) (hi : Int32) (ac : Int32) (tp : Int32) (ba : Int32) (en : Int32) (tA : Int32) (fl : Int32) (de : Int32) (iD : Int32) (iO : Int32) (tU : Int32) (fm : Nat → Int32) (fk : Nat → Int32) (fa : Nat → Int32) (fc : Nat → Int32) (ft : Nat → Int32) (ff : Nat → Int32) (fb : Nat → Int32) (fi : Nat → Int32) (rfm : rM fm) : zM' g l yX12_draw (Cond.code yX12_draw cX12_draw 2 (some .int) :: zB) ({ frames := 0, cells := 0, slots := 0, locals := 0 } : Room) [.ref o, .int 100] [bMo g o a th hi ac tp ba en tA fl de iD iO tU fm fk fa fc ft ff fb fi] (fun (fm2 : Nat → Int32) => some (.int (zDw (fm 10) - zDw (fm 10) / 100 * 100))) (fun (fm2 : Nat → Int32) => (rM fm2) ∧ (fm2 = upd fm 10 (zDr (fm 10)))) (fun (fm2 : Nat → Int32) => [bMo g o a th hi ac tp ba en tA fl de iD iO tU fm2 fk fa fc ft ff fb fi]) := by
  refine zM'.of (cc := cX12_draw) (maxL := 2) (rt := (some .int)) (by decide) rfl (Nat.le_of_ble_eq_true rfl) ?_
  intro p e s m args below meth c A ls St hr hlocks hin hK hT hA hP hD hS hl
  obtain ⟨hx, hb, hml, hown, hts⟩ := id St
  have hl : lv_has ls 2 [(0, .ref o), (1, .int 100)] := hl
  have hrm3 := rM3 rfm
  have hrm4 := rM4 rfm
  refine lv_aload_n hx hb dX12_draw_0 rfl (lv_at hl 0 rfl) ?_
  refine va_get (D := g.1) (ci := 10) (v := .ref (a 0)) (C := RX12) (T := TX12) (N := 20) hx hb hts izRX12 hown hK hP 0 rfl rfl 1 (by decide) (hts _ k815) (fun _ h9 => h9) rfl dX12_draw_1 ?_
  refine lv_bipush (v := 10) hx hb dX12_draw_4 (by decide) ?_
  refine lv_ldc (v := 1103515245) hx hb hown (hts _ k998) dX12_draw_6 ?_
  refine lv_aload_n hx hb dX12_draw_8 rfl (lv_at hl 0 rfl) ?_
  refine va_get (D := g.1) (ci := 10) (v := .ref (a 0)) (C := RX12) (T := TX12) (N := 20) hx hb hts izRX12 hown hK hP 0 rfl rfl 1 (by decide) (hts _ k815) (fun _ h9 => h9) rfl dX12_draw_9 ?_
  refine lv_bipush (v := 10) hx hb dX12_draw_12 (by decide) ?_
  refine va_iald hx hb hK hP 1 0 rfl rfl (zin rfl) dX12_draw_14 ?_
  refine ztop (r := (fm 10)) rfl ?_
  refine lv_imul hx hb dX12_draw_15 ?_
  refine lv_sipush (v := 12345) hx hb dX12_draw_16 (by decide) ?_
  refine lv_iadd hx hb dX12_draw_19 ?_
  refine ztop (r := (zDr (fm 10))) rfl ?_
  refine va_iast hx hb hK hP hD hS 1 0 rfl rfl (zin rfl) dX12_draw_20 (fun H locs hP hD hS => ?_)
  obtain ⟨fm_1, rfm_1, efm_1, hP, hD⟩ : ∃ fm_1 : Nat → Int32, rM fm_1 ∧ fm_1 = upd fm 10 (zDr (fm 10)) ∧ va_P g.1 vwCl (List.flatten [bMo g o a th hi ac tp ba en tA fl de iD iO tU fm_1 fk fa fc ft ff fb fi]) H ∧ va_D A (List.flatten [bMo g o a th hi ac tp ba en tA fl de iD iO tU fm_1 fk fa fc ft ff fb fi]) := ⟨upd fm 10 (zDr (fm 10)), (rM_stL rfm (by decide)), rfl, hP, hD⟩
  refine lv_aload_n hx hb dX12_draw_21 rfl (lv_at hl 0 rfl) ?_
  refine va_get (D := g.1) (ci := 10) (v := .ref (a 0)) (C := RX12) (T := TX12) (N := 20) hx hb hts izRX12 hown hK hP 0 rfl rfl 1 (by decide) (hts _ k815) (fun _ h9 => h9) rfl dX12_draw_22 ?_
  refine lv_bipush (v := 10) hx hb dX12_draw_25 (by decide) ?_
  refine va_iald hx hb hK hP 1 0 rfl rfl (zin rfl) dX12_draw_27 ?_
  refine ztop (r := (fm_1 10)) rfl ?_
  refine lv_bipush (v := 16) hx hb dX12_draw_28 (by decide) ?_
  refine lv_iushr (v := (((fm_1 10) : Int32).toUInt32 >>> ((16 : Int32).toUInt32 &&& Int32.toUInt32 31)).toInt32) hx hb dX12_draw_30 rfl ?_
  refine lv_sipush (v := 32767) hx hb dX12_draw_31 (by decide) ?_
  refine lv_iand hx hb dX12_draw_34 ?_
  refine lv_iload_n hx hb dX12_draw_35 rfl (lv_at hl 1 rfl) ?_
  refine lv_irem hx hb dX12_draw_36 (by decide) ?_
  refine ztop (r := (zDw (fm 10) - zDw (fm 10) / 100 * 100)) (by rw [efm_1, pk_us, zDw_u]) ?_
  have hP : va_P g.1 vwCl (List.flatten [bMo g o a th hi ac tp ba en tA fl de iD iO tU fm_1 fk fa fc ft ff fb fi]) H := hP
  have hD : va_D A (List.flatten [bMo g o a th hi ac tp ba en tA fl de iD iO tU fm_1 fk fa fc ft ff fb fi]) := hD
  exact mret_i hx hb hr hlocks hS (Nat.le_of_ble_eq_true rfl) (Nat.le_of_ble_eq_true rfl) dX12_draw_37 (fm_1) rfl (show (rM fm_1) ∧ (fm_1 = upd fm 10 (zDr (fm 10))) from ⟨(by assumption), (by rw [efm_1])⟩) hP hD
set_option maxRecDepth 100000 in
set_option maxHeartbeats 4000000 in
theorem m_logsG (l : Launch) (g : zG) (o : Nat) (a : Nat → Nat) (th : Int32) (hi : Int32) (ac : Int32) (tp : Int32) (ba : Int32) (en : Int32) (tA : Int32) (fl : Int32) (de : Int32) (iD : Int32) (iO : Int32) (tU : Int32) (fm : Nat → Int32) (fk : Nat → Int32) (fa : Nat → Int32) (fc : Nat → Int32) (ft : Nat → Int32) (ff : Nat → Int32) (fb : Nat → Int32) (fi : Nat → Int32) (wh : Int32) (what : Int32) (rfm : rM fm) : zM' g l yX12_logs (Cond.code yX12_logs cX12_logs 4 none :: zB) ({ frames := 3, cells := 0, slots := 0, locals := 65 } : Room) [.ref o, .int wh, .int what] [bMo g o a th hi ac tp ba en tA fl de iD iO tU fm fk fa fc ft ff fb fi] (fun (fm2 : Nat → Int32) => none) (fun (fm2 : Nat → Int32) => (rM fm2) ∧ (zLo fm fm2)) (fun (fm2 : Nat → Int32) => [bMo g o a th hi ac tp ba en tA fl de iD iO tU fm2 fk fa fc ft ff fb fi]) := by
  refine zM'.of (cc := cX12_logs) (maxL := 4) (rt := none) (by decide) rfl (Nat.le_of_ble_eq_true rfl) ?_
  intro p e s m args below meth c A ls St hr hlocks hin hK hT hA hP hD hS hl
  obtain ⟨hx, hb, hml, hown, hts⟩ := id St
  have hl : lv_has ls 4 [(0, .ref o), (1, .int wh), (2, .int what)] := hl
  have hrm3 := rM3 rfm
  have hrm4 := rM4 rfm
  refine lv_sipush (v := 239) hx hb dX12_logs_0 (by decide) ?_
  refine lv_istore_n (lv' := [(3, .int 239), (0, .ref o), (1, .int wh), (2, .int what)]) hx hb dX12_logs_3 rfl hl (by decide) rfl (fun ls hl => ?_)
  have hl := lv_sub (l' := [(0, .ref o), (1, .int wh), (2, .int what), (3, .int 239)]) hl [1, 2, 3, 0] rfl
  have LP4_5 : ∀ (kf : Nat) (x_1 : Int32) (fm_2 : Nat → Int32), (3 ≤ x_1.toInt ∧ x_1.toInt ≤ 239) → (rM fm_2) → (zLo fm fm_2) → ∀ (H : Heap) (locs : List Loc) (ls : Array Slot), ((x_1.toInt - 3 + 1).toNat) < kf → va_P g.1 vwCl (List.flatten [bMo g o a th hi ac tp ba en tA fl de iD iO tU fm_2 fk fa fc ft ff fb fi]) H → va_D A (List.flatten [bMo g o a th hi ac tp ba en tA fl de iD iO tU fm_2 fk fa fc ft ff fb fi]) → va_S A s.heap H locs → lv_has ls 4 [(0, .ref o), (1, .int wh), (2, .int what), (3, .int x_1)] → W p l e ({ frames := 3, cells := 0, slots := 0, locals := 65 } : Room) s m args below meth c H locs (0) (0) (zF g (fun (fm2 : Nat → Int32) => none) (fun (fm2 : Nat → Int32) => (rM fm2) ∧ (zLo fm fm2)) (fun (fm2 : Nat → Int32) => [bMo g o a th hi ac tp ba en tA fl de iD iO tU fm2 fk fa fc ft ff fb fi]) ({ frames := 3, cells := 0, slots := 0, locals := 65 } : Room) below args s A) (F0 m 4 ls []) := by
    intro kf
    induction kf with
    | zero => intro x_1 fm_2 i3 rfm_2 i4 H locs ls hk; exact absurd hk (Nat.not_lt_zero _)
    | succ kf ih4_6 =>
      intro x_1 fm_2 i3 rfm_2 i4 H locs ls hk4_6 hP hD hS hl
      refine lv_iload_n hx hb dX12_logs_4 rfl (lv_at hl 3 rfl) ?_
      refine lv_iconst (v := 4) hx hb dX12_logs_5 (by decide) ?_
      refine lv_icmp_lt (tgt := 37) hx hb dX12_logs_6 (by decide) (fun cb9 => ?_) (fun cb9 => ?_)
      · skip
        have c7 : x_1.toInt < 4 := zlti cb9 rfl (by decide)
        have n8 : x_1.toInt ≤ 3 := zL1 (b := 4) c7 (Int.le_refl _) (by decide)
        refine lv_aload_n hx hb dX12_logs_37 rfl (lv_at hl 0 rfl) ?_
        refine va_get (D := g.1) (ci := 10) (v := .ref (a 0)) (C := RX12) (T := TX12) (N := 20) hx hb hts izRX12 hown hK hP 0 rfl rfl 1 (by decide) (hts _ k815) (fun _ h9 => h9) rfl dX12_logs_38 ?_
        refine lv_sipush (v := 139) hx hb dX12_logs_41 (by decide) ?_
        refine lv_aload_n hx hb dX12_logs_44 rfl (lv_at hl 0 rfl) ?_
        refine va_get (D := g.1) (ci := 10) (v := .ref (a 0)) (C := RX12) (T := TX12) (N := 20) hx hb hts izRX12 hown hK hP 0 rfl rfl 1 (by decide) (hts _ k815) (fun _ h9 => h9) rfl dX12_logs_45 ?_
        refine lv_bipush (v := 8) hx hb dX12_logs_48 (by decide) ?_
        refine va_iald hx hb hK hP 1 0 rfl rfl (zin rfl) dX12_logs_50 ?_
        refine ztop (r := (fm_2 8)) rfl ?_
        refine va_iast hx hb hK hP hD hS 1 0 rfl rfl (zin rfl) dX12_logs_51 (fun H locs hP hD hS => ?_)
        obtain ⟨fm_9, rfm_9, efm_9, hP, hD⟩ : ∃ fm_9 : Nat → Int32, rM fm_9 ∧ fm_9 = upd fm_2 139 (fm_2 8) ∧ va_P g.1 vwCl (List.flatten [bMo g o a th hi ac tp ba en tA fl de iD iO tU fm_9 fk fa fc ft ff fb fi]) H ∧ va_D A (List.flatten [bMo g o a th hi ac tp ba en tA fl de iD iO tU fm_9 fk fa fc ft ff fb fi]) := ⟨upd fm_2 (Int32.toNatClampNeg 139) (fm_2 8), (rM_stB rfm_2 (by decide)), (zUpI (i := 139) (by decide)), hP, hD⟩
        refine lv_aload_n hx hb dX12_logs_52 rfl (lv_at hl 0 rfl) ?_
        refine va_get (D := g.1) (ci := 10) (v := .ref (a 0)) (C := RX12) (T := TX12) (N := 20) hx hb hts izRX12 hown hK hP 0 rfl rfl 1 (by decide) (hts _ k815) (fun _ h9 => h9) rfl dX12_logs_53 ?_
        refine lv_sipush (v := 140) hx hb dX12_logs_56 (by decide) ?_
        refine lv_iload_n hx hb dX12_logs_59 rfl (lv_at hl 1 rfl) ?_
        refine va_iast hx hb hK hP hD hS 1 0 rfl rfl (zin rfl) dX12_logs_60 (fun H locs hP hD hS => ?_)
        obtain ⟨fm_10, rfm_10, efm_10, hP, hD⟩ : ∃ fm_10 : Nat → Int32, rM fm_10 ∧ fm_10 = upd fm_9 140 wh ∧ va_P g.1 vwCl (List.flatten [bMo g o a th hi ac tp ba en tA fl de iD iO tU fm_10 fk fa fc ft ff fb fi]) H ∧ va_D A (List.flatten [bMo g o a th hi ac tp ba en tA fl de iD iO tU fm_10 fk fa fc ft ff fb fi]) := ⟨upd fm_9 (Int32.toNatClampNeg 140) wh, (rM_stB rfm_9 (by decide)), (zUpI (i := 140) (by decide)), hP, hD⟩
        refine lv_aload_n hx hb dX12_logs_61 rfl (lv_at hl 0 rfl) ?_
        refine va_get (D := g.1) (ci := 10) (v := .ref (a 0)) (C := RX12) (T := TX12) (N := 20) hx hb hts izRX12 hown hK hP 0 rfl rfl 1 (by decide) (hts _ k815) (fun _ h9 => h9) rfl dX12_logs_62 ?_
        refine lv_sipush (v := 141) hx hb dX12_logs_65 (by decide) ?_
        refine lv_iload_n hx hb dX12_logs_68 rfl (lv_at hl 2 rfl) ?_
        refine va_iast hx hb hK hP hD hS 1 0 rfl rfl (zin rfl) dX12_logs_69 (fun H locs hP hD hS => ?_)
        obtain ⟨fm_11, rfm_11, efm_11, hP, hD⟩ : ∃ fm_11 : Nat → Int32, rM fm_11 ∧ fm_11 = upd fm_10 141 what ∧ va_P g.1 vwCl (List.flatten [bMo g o a th hi ac tp ba en tA fl de iD iO tU fm_11 fk fa fc ft ff fb fi]) H ∧ va_D A (List.flatten [bMo g o a th hi ac tp ba en tA fl de iD iO tU fm_11 fk fa fc ft ff fb fi]) := ⟨upd fm_10 (Int32.toNatClampNeg 141) what, (rM_stB rfm_10 (by decide)), (zUpI (i := 141) (by decide)), hP, hD⟩
        refine lv_aload_n hx hb dX12_logs_70 rfl (lv_at hl 0 rfl) ?_
        refine va_get (D := g.1) (ci := 10) (v := .ref (a 0)) (C := RX12) (T := TX12) (N := 20) hx hb hts izRX12 hown hK hP 0 rfl rfl 1 (by decide) (hts _ k815) (fun _ h9 => h9) rfl dX12_logs_71 ?_
        refine lv_sipush (v := 142) hx hb dX12_logs_74 (by decide) ?_
        refine lv_aload_n hx hb dX12_logs_77 rfl (lv_at hl 0 rfl) ?_
        refine mcallV' (g := g) (q0 := 0) (ci := 10) (As := []) (rest := [.int 142, .ref (a 0)]) St hK hT hA hP hD hS hl.1 [0] [] rfl rfl rfl (m_believedG l g o a th hi ac tp ba en tA fl de iD iO tU fm_11 fk fa fc ft ff fb fi rfm_11) (cwV 0 hts (zgL (zl4 k856 k857 k858 k839) k849) rfl rfl rfl (by decide +kernel) ⟨Nat.le_of_ble_eq_true rfl, Nat.le_of_ble_eq_true rfl⟩) rfl rfl rfl rfl (Nat.le_of_ble_eq_true rfl) dX12_logs_78 ⟨(Nat.le_of_ble_eq_true rfl), (Nat.le_of_ble_eq_true rfl)⟩ (fun _u H locs hq12 hP hD hS => ?_)
        have hP : va_P g.1 vwCl (List.flatten [bMo g o a th hi ac tp ba en tA fl de iD iO tU fm_11 fk fa fc ft ff fb fi]) H := hP
        have hD : va_D A (List.flatten [bMo g o a th hi ac tp ba en tA fl de iD iO tU fm_11 fk fa fc ft ff fb fi]) := hD
        refine W.widen (k := 0) (n := 0) (Nat.le_of_ble_eq_true rfl) (Nat.le_of_ble_eq_true rfl) ?_
        refine W.eq (g2 := F0 m 81 ls [.int (zBel (zV fm_11) (fm_11 3).toInt.toNat), .int 142, .ref (a 0)]) rfl ?_
        refine va_iast hx hb hK hP hD hS 1 0 rfl rfl (zin rfl) dX12_logs_81 (fun H locs hP hD hS => ?_)
        obtain ⟨fm_13, rfm_13, efm_13, hP, hD⟩ : ∃ fm_13 : Nat → Int32, rM fm_13 ∧ fm_13 = upd fm_11 142 (zBel (zV fm_11) (fm_11 3).toInt.toNat) ∧ va_P g.1 vwCl (List.flatten [bMo g o a th hi ac tp ba en tA fl de iD iO tU fm_13 fk fa fc ft ff fb fi]) H ∧ va_D A (List.flatten [bMo g o a th hi ac tp ba en tA fl de iD iO tU fm_13 fk fa fc ft ff fb fi]) := ⟨upd fm_11 (Int32.toNatClampNeg 142) (zBel (zV fm_11) (fm_11 3).toInt.toNat), (rM_stB rfm_11 (by decide)), (zUpI (i := 142) (by decide)), hP, hD⟩
        refine lv_aload_n hx hb dX12_logs_82 rfl (lv_at hl 0 rfl) ?_
        refine va_get (D := g.1) (ci := 10) (v := .ref (a 0)) (C := RX12) (T := TX12) (N := 20) hx hb hts izRX12 hown hK hP 0 rfl rfl 1 (by decide) (hts _ k815) (fun _ h9 => h9) rfl dX12_logs_83 ?_
        refine lv_bipush (v := 9) hx hb dX12_logs_86 (by decide) ?_
        refine lv_bipush (v := 60) hx hb dX12_logs_88 (by decide) ?_
        refine lv_aload_n hx hb dX12_logs_90 rfl (lv_at hl 0 rfl) ?_
        refine va_get (D := g.1) (ci := 10) (v := .ref (a 0)) (C := RX12) (T := TX12) (N := 20) hx hb hts izRX12 hown hK hP 0 rfl rfl 1 (by decide) (hts _ k815) (fun _ h9 => h9) rfl dX12_logs_91 ?_
        refine lv_bipush (v := 9) hx hb dX12_logs_94 (by decide) ?_
        refine va_iald hx hb hK hP 1 0 rfl rfl (zin rfl) dX12_logs_96 ?_
        refine ztop (r := (fm_2 9)) (by show fm_13 9 = (fm_2 9); rw [efm_13]; refine Eq.trans (pk_un (by omega)) ?_; rw [efm_11]; refine Eq.trans (pk_un (by omega)) ?_; rw [efm_10]; refine Eq.trans (pk_un (by omega)) ?_; rw [efm_9]; refine Eq.trans (pk_un (by omega)) ?_; exact rfl) ?_
        refine lv_iconst (v := 1) hx hb dX12_logs_97 (by decide) ?_
        refine lv_iadd hx hb dX12_logs_98 ?_
        refine zg3 (zaddK (i := (fm_2 9).toInt) (j := 1) (a' := 1) (b' := 61) rfl (by decide) (rM9 rfm_2).1 (rM9 rfm_2).2 (Int.le_refl _) (Int.le_refl _) (by decide)) (fun x_14 hx_14 => ?_)
        have hL60 : (60 : Int32).toInt = 60 := by decide
        refine mcallS' (g := g) (As := [.int 60, .int x_14]) (rest := [.int 9, .ref (a 0)]) St hK hT hA hP hD hS hl.1 [] [0] rfl rfl rfl (m_lesser l g 60 x_14 ) (va_cwS 2 hts (zgL (zl3 k1000 k1001 k839) k827) rfl rfl rfl (by decide +kernel) ⟨Nat.le_of_ble_eq_true rfl, Nat.le_of_ble_eq_true rfl⟩) rfl rfl (Nat.le_of_ble_eq_true rfl) dX12_logs_99 ⟨(Nat.le_of_ble_eq_true rfl), (Nat.le_of_ble_eq_true rfl)⟩ (fun q_15 H locs hq16 hP hD hS => ?_)
        replace hq16 : (q_15.toInt ≤ (60 : Int32).toInt ∧ q_15.toInt ≤ x_14.toInt ∧ (q_15.toInt = (60 : Int32).toInt ∨ q_15.toInt = x_14.toInt)) := hq16
        have hP : va_P g.1 vwCl (List.flatten [bMo g o a th hi ac tp ba en tA fl de iD iO tU fm_13 fk fa fc ft ff fb fi]) H := hP
        have hD : va_D A (List.flatten [bMo g o a th hi ac tp ba en tA fl de iD iO tU fm_13 fk fa fc ft ff fb fi]) := hD
        refine W.widen (k := 0) (n := 0) (Nat.le_of_ble_eq_true rfl) (Nat.le_of_ble_eq_true rfl) ?_
        refine W.eq (g2 := F0 m 102 ls [.int q_15, .int 9, .ref (a 0)]) rfl ?_
        refine va_iast hx hb hK hP hD hS 1 0 rfl rfl (zin rfl) dX12_logs_102 (fun H locs hP hD hS => ?_)
        obtain ⟨fm_17, rfm_17, efm_17, hP, hD⟩ : ∃ fm_17 : Nat → Int32, rM fm_17 ∧ fm_17 = upd fm_13 9 q_15 ∧ va_P g.1 vwCl (List.flatten [bMo g o a th hi ac tp ba en tA fl de iD iO tU fm_17 fk fa fc ft ff fb fi]) H ∧ va_D A (List.flatten [bMo g o a th hi ac tp ba en tA fl de iD iO tU fm_17 fk fa fc ft ff fb fi]) := ⟨upd fm_13 9 q_15, (rM_s9 rfm_13 (show 0 ≤ q_15.toInt ∧ q_15.toInt ≤ 60 from (by omega))), rfl, hP, hD⟩
        have hP : va_P g.1 vwCl (List.flatten [bMo g o a th hi ac tp ba en tA fl de iD iO tU fm_17 fk fa fc ft ff fb fi]) H := hP
        have hD : va_D A (List.flatten [bMo g o a th hi ac tp ba en tA fl de iD iO tU fm_17 fk fa fc ft ff fb fi]) := hD
        exact mret_v hx hb hr hlocks hS (Nat.le_of_ble_eq_true rfl) (Nat.le_of_ble_eq_true rfl) dX12_logs_103 (fm_17) rfl (show (rM fm_17) ∧ (zLo fm fm_17) from ⟨(by assumption), (zLo_u (zLo_u (zLo_u (zLo_u (zLo_u i4 efm_9 (by first | exact Or.inl rfl | exact Or.inr (by decide))) efm_10 (by first | exact Or.inl rfl | exact Or.inr (by decide))) efm_11 (by first | exact Or.inl rfl | exact Or.inr (by decide))) efm_13 (by first | exact Or.inl rfl | exact Or.inr (by decide))) efm_17 (by first | exact Or.inl rfl | exact Or.inr (by decide)))⟩) hP hD
      · skip
        have c18 : 4 ≤ x_1.toInt := zle (Int32.not_lt.mp cb9) (by decide) rfl
        have n19 : 4 ≤ x_1.toInt := Int.le_trans (Int.le_refl _) c18
        refine lv_aload_n hx hb dX12_logs_9 rfl (lv_at hl 0 rfl) ?_
        refine va_get (D := g.1) (ci := 10) (v := .ref (a 0)) (C := RX12) (T := TX12) (N := 20) hx hb hts izRX12 hown hK hP 0 rfl rfl 1 (by decide) (hts _ k815) (fun _ h9 => h9) rfl dX12_logs_10 ?_
        refine lv_sipush (v := 139) hx hb dX12_logs_13 (by decide) ?_
        refine lv_iload_n hx hb dX12_logs_16 rfl (lv_at hl 3 rfl) ?_
        refine lv_iadd hx hb dX12_logs_17 ?_
        refine zg3 (zaddK (i := 139) (j := x_1.toInt) (a' := 143) (b' := 378) (by decide) rfl (Int.le_refl _) (Int.le_refl _) n19 i3.2 (by decide)) (fun x_20 hx_20 => ?_)
        refine lv_aload_n hx hb dX12_logs_18 rfl (lv_at hl 0 rfl) ?_
        refine va_get (D := g.1) (ci := 10) (v := .ref (a 0)) (C := RX12) (T := TX12) (N := 20) hx hb hts izRX12 hown hK hP 0 rfl rfl 1 (by decide) (hts _ k815) (fun _ h9 => h9) rfl dX12_logs_19 ?_
        refine lv_sipush (v := 139) hx hb dX12_logs_22 (by decide) ?_
        refine lv_iload_n hx hb dX12_logs_25 rfl (lv_at hl 3 rfl) ?_
        refine lv_iadd hx hb dX12_logs_26 ?_
        refine zg3 (zaddK (i := 139) (j := x_1.toInt) (a' := 143) (b' := 378) (by decide) rfl (Int.le_refl _) (Int.le_refl _) n19 i3.2 (by decide)) (fun x_21 hx_21 => ?_)
        refine lv_iconst (v := 4) hx hb dX12_logs_27 (by decide) ?_
        refine lv_isub hx hb dX12_logs_28 ?_
        refine zg3 (zsubK (i := x_21.toInt) (j := 4) (a' := 139) (b' := 374) rfl (by decide) hx_21.2.1 hx_21.2.2 (Int.le_refl _) (Int.le_refl _) (by decide)) (fun x_22 hx_22 => ?_)
        refine va_iald hx hb hK hP 1 0 rfl rfl (zinK (a := 139) (b := 374) hx_22.2.1 hx_22.2.2 (by decide)) dX12_logs_29 ?_
        refine ztop (r := (fm_2 x_22.toInt.toNat)) rfl ?_
        refine va_iast hx hb hK hP hD hS 1 0 rfl rfl (zinK (a := 143) (b := 378) hx_20.2.1 hx_20.2.2 (by decide)) dX12_logs_30 (fun H locs hP hD hS => ?_)
        obtain ⟨fm_23, rfm_23, efm_23, hP, hD⟩ : ∃ fm_23 : Nat → Int32, rM fm_23 ∧ fm_23 = upd fm_2 x_20.toInt.toNat (fm_2 x_22.toInt.toNat) ∧ va_P g.1 vwCl (List.flatten [bMo g o a th hi ac tp ba en tA fl de iD iO tU fm_23 fk fa fc ft ff fb fi]) H ∧ va_D A (List.flatten [bMo g o a th hi ac tp ba en tA fl de iD iO tU fm_23 fk fa fc ft ff fb fi]) := ⟨upd fm_2 x_20.toNatClampNeg (fm_2 x_22.toInt.toNat), (rM_stB rfm_2 (Int.le_trans (by decide) hx_20.2.1)), rfl, hP, hD⟩
        refine ziinc3 (n' := (-1)) (a' := 3) (b' := 238) (lv' := fun v9 => [(3, .int v9), (0, .ref o), (1, .int wh), (2, .int what)]) hx hb dX12_logs_31 hl (k := 3) rfl (by decide) (fun _ => rfl) (zaddK (i := x_1.toInt) (j := (-1)) rfl (by decide) n19 i3.2 (Int.le_refl _) (Int.le_refl _) (by decide)) (fun x_24 ls hx_24 hl => ?_)
        refine lv_goto (tgt := 4) hx hb dX12_logs_34 (by decide) ?_
        have hl := lv_sub (l' := [(0, .ref o), (1, .int wh), (2, .int what), (3, .int x_24)]) hl [1, 2, 3, 0] rfl
        have hP : va_P g.1 vwCl (List.flatten [bMo g o a th hi ac tp ba en tA fl de iD iO tU fm_23 fk fa fc ft ff fb fi]) H := hP
        have hD : va_D A (List.flatten [bMo g o a th hi ac tp ba en tA fl de iD iO tU fm_23 fk fa fc ft ff fb fi]) := hD
        exact ih4_6 x_24 fm_23 ⟨hx_24.2.1, (Int.le_trans hx_24.2.2 (by decide))⟩ rfm_23 (zLo_u i4 efm_23 (Or.inr (by omega))) H _ ls (zmKd hx_24.1 (by decide) n19 (by decide) hk4_6)  hP hD hS (lv_sub hl [0, 1, 2, 3] rfl)
  have hL239 : (239 : Int32).toInt = 239 := by decide
  have hP : va_P g.1 vwCl (List.flatten [bMo g o a th hi ac tp ba en tA fl de iD iO tU fm fk fa fc ft ff fb fi]) s.heap := hP
  have hD : va_D A (List.flatten [bMo g o a th hi ac tp ba en tA fl de iD iO tU fm fk fa fc ft ff fb fi]) := hD
  exact LP4_5 _ 239 fm (by decide) rfm (zLo_r _) s.heap _ ls (Nat.lt_succ_self _)  hP hD hS (lv_sub hl [0, 1, 2, 3] rfl)
set_option maxRecDepth 100000 in
set_option maxHeartbeats 4000000 in
theorem m_buildG (l : Launch) (g : zG) (o : Nat) (a : Nat → Nat) (th : Int32) (hi : Int32) (ac : Int32) (tp : Int32) (ba : Int32) (en : Int32) (tA : Int32) (fl : Int32) (de : Int32) (iD : Int32) (iO : Int32) (tU : Int32) (fm : Nat → Int32) (fk : Nat → Int32) (fa : Nat → Int32) (fc : Nat → Int32) (ft : Nat → Int32) (ff : Nat → Int32) (fb : Nat → Int32) (fi : Nat → Int32) (rfm : rM fm) : zM' g l yX12_build (Cond.code yX12_build cX12_build 4 (some .int) :: zB) ({ frames := 4, cells := 0, slots := 0, locals := 88 } : Room) [.ref o] [bMo g o a th hi ac tp ba en tA fl de iD iO tU fm fk fa fc ft ff fb fi] (fun u : (Nat → Int32) × Int32 => (fun (fm2 : Nat → Int32) (q : Int32) => some (.int q)) (u.1) (u.2)) (fun u : (Nat → Int32) × Int32 => (fun (fm2 : Nat → Int32) (q : Int32) => (rM fm2) ∧ (zKR (fm2 5, zV fm2, q) (zIt (zKW1 (zBel (zV fm) (fm 3).toInt.toNat)) (fm 5, zV fm, 0) (fm 4).toInt.toNat)) ∧ (zBk fm fm2)) (u.1) (u.2)) (fun u : (Nat → Int32) × Int32 => (fun (fm2 : Nat → Int32) (q : Int32) => [bMo g o a th hi ac tp ba en tA fl de iD iO tU fm2 fk fa fc ft ff fb fi]) (u.1) (u.2)) := by
  refine zM'.of (cc := cX12_build) (maxL := 4) (rt := (some .int)) (by decide) rfl (Nat.le_of_ble_eq_true rfl) ?_
  intro p e s m args below meth c A ls St hr hlocks hin hK hT hA hP hD hS hl
  obtain ⟨hx, hb, hml, hown, hts⟩ := id St
  have hl : lv_has ls 4 [(0, .ref o)] := hl
  have hrm3 := rM3 rfm
  have hrm4 := rM4 rfm
  refine lv_iconst (v := 0) hx hb dX12_build_0 (by decide) ?_
  refine lv_istore_n (lv' := [(1, .int 0), (0, .ref o)]) hx hb dX12_build_1 rfl hl (by decide) rfl (fun ls hl => ?_)
  refine lv_iconst (v := 0) hx hb dX12_build_2 (by decide) ?_
  refine lv_istore_n (lv' := [(2, .int 0), (1, .int 0), (0, .ref o)]) hx hb dX12_build_3 rfl hl (by decide) rfl (fun ls hl => ?_)
  have hl := lv_sub (l' := [(0, .ref o), (1, .int 0), (2, .int 0)]) hl [2, 1, 0] rfl
  have LP4_8 : ∀ (kf : Nat) (x_1 : Int32) (x_2 : Int32) (fm_3 : Nat → Int32), (0 ≤ x_2.toInt ∧ x_2.toInt ≤ 6) → (rM fm_3) → (zKR (fm_3 5, zV fm_3, x_1) (zIt (zKW1 (zBel (zV fm) (fm 3).toInt.toNat)) (fm 5, zV fm, 0) x_2.toInt.toNat)) → (zBk fm fm_3) → (x_2.toInt ≤ (fm 4).toInt) → ∀ (H : Heap) (locs : List Loc) (ls : Array Slot), ((7 - x_2.toInt).toNat) < kf → va_P g.1 vwCl (List.flatten [bMo g o a th hi ac tp ba en tA fl de iD iO tU fm_3 fk fa fc ft ff fb fi]) H → va_D A (List.flatten [bMo g o a th hi ac tp ba en tA fl de iD iO tU fm_3 fk fa fc ft ff fb fi]) → va_S A s.heap H locs → lv_has ls 4 [(0, .ref o), (1, .int x_1), (2, .int x_2)] → W p l e ({ frames := 4, cells := 0, slots := 0, locals := 88 } : Room) s m args below meth c H locs (0) (0) (zF g (fun u : (Nat → Int32) × Int32 => (fun (fm2 : Nat → Int32) (q : Int32) => some (.int q)) (u.1) (u.2)) (fun u : (Nat → Int32) × Int32 => (fun (fm2 : Nat → Int32) (q : Int32) => (rM fm2) ∧ (zKR (fm2 5, zV fm2, q) (zIt (zKW1 (zBel (zV fm) (fm 3).toInt.toNat)) (fm 5, zV fm, 0) (fm 4).toInt.toNat)) ∧ (zBk fm fm2)) (u.1) (u.2)) (fun u : (Nat → Int32) × Int32 => (fun (fm2 : Nat → Int32) (q : Int32) => [bMo g o a th hi ac tp ba en tA fl de iD iO tU fm2 fk fa fc ft ff fb fi]) (u.1) (u.2)) ({ frames := 4, cells := 0, slots := 0, locals := 88 } : Room) below args s A) (F0 m 4 ls []) := by
    intro kf
    induction kf with
    | zero => intro x_1 x_2 fm_3 i4 rfm_3 i5 i6 i7 H locs ls hk; exact absurd hk (Nat.not_lt_zero _)
    | succ kf ih4_9 =>
      intro x_1 x_2 fm_3 i4 rfm_3 i5 i6 i7 H locs ls hk4_9 hP hD hS hl
      have w10 : (fm_3 4).toInt = (fm 4).toInt := congrArg Int32.toInt (i6 4 (by decide) (by decide) (by decide))
      refine lv_iload_n hx hb dX12_build_4 rfl (lv_at hl 2 rfl) ?_
      refine lv_aload_n hx hb dX12_build_5 rfl (lv_at hl 0 rfl) ?_
      refine va_get (D := g.1) (ci := 10) (v := .ref (a 0)) (C := RX12) (T := TX12) (N := 20) hx hb hts izRX12 hown hK hP 0 rfl rfl 1 (by decide) (hts _ k815) (fun _ h9 => h9) rfl dX12_build_6 ?_
      refine lv_iconst (v := 4) hx hb dX12_build_9 (by decide) ?_
      refine va_iald hx hb hK hP 1 0 rfl rfl (zin rfl) dX12_build_10 ?_
      refine ztop (r := (fm_3 4)) rfl ?_
      refine lv_icmp_ge (tgt := 156) hx hb dX12_build_11 (by decide) (fun cb9 => ?_) (fun cb9 => ?_)
      · skip
        have c11 : (fm_3 4).toInt ≤ x_2.toInt := zle cb9 rfl rfl
        refine lv_iload_n hx hb dX12_build_156 rfl (lv_at hl 1 rfl) ?_
        have hP : va_P g.1 vwCl (List.flatten [bMo g o a th hi ac tp ba en tA fl de iD iO tU fm_3 fk fa fc ft ff fb fi]) H := hP
        have hD : va_D A (List.flatten [bMo g o a th hi ac tp ba en tA fl de iD iO tU fm_3 fk fa fc ft ff fb fi]) := hD
        exact mret_i hx hb hr hlocks hS (Nat.le_of_ble_eq_true rfl) (Nat.le_of_ble_eq_true rfl) dX12_build_157 (fm_3, x_1) rfl (show (rM fm_3) ∧ (zKR (fm_3 5, zV fm_3, x_1) (zIt (zKW1 (zBel (zV fm) (fm 3).toInt.toNat)) (fm 5, zV fm, 0) (fm 4).toInt.toNat)) ∧ (zBk fm fm_3) from ⟨(by assumption), (zItR_x (R := zKR) i5 (by omega)), i6⟩) hP hD
      · skip
        have c12 : x_2.toInt < (fm_3 4).toInt := zlti (Int32.not_le.mp cb9) rfl rfl
        have n13 : x_2.toInt ≤ 5 := zL1 (b := 6) c12 (rM4 rfm_3).2 (by decide)
        have n14 : 1 ≤ (fm_3 4).toInt := zL2 (a := 0) c12 i4.1 (by decide)
        refine lv_aload_n hx hb dX12_build_14 rfl (lv_at hl 0 rfl) ?_
        refine mcallV' (g := g) (q0 := 0) (ci := 10) (As := []) (rest := []) St hK hT hA hP hD hS hl.1 [0] [] rfl rfl rfl (m_believedG l g o a th hi ac tp ba en tA fl de iD iO tU fm_3 fk fa fc ft ff fb fi rfm_3) (cwV 0 hts (zgL (zl4 k856 k857 k858 k839) k849) rfl rfl rfl (by decide +kernel) ⟨Nat.le_of_ble_eq_true rfl, Nat.le_of_ble_eq_true rfl⟩) rfl rfl rfl rfl (Nat.le_of_ble_eq_true rfl) dX12_build_15 ⟨(Nat.le_of_ble_eq_true rfl), (Nat.le_of_ble_eq_true rfl)⟩ (fun _u H locs hq15 hP hD hS => ?_)
        have hP : va_P g.1 vwCl (List.flatten [bMo g o a th hi ac tp ba en tA fl de iD iO tU fm_3 fk fa fc ft ff fb fi]) H := hP
        have hD : va_D A (List.flatten [bMo g o a th hi ac tp ba en tA fl de iD iO tU fm_3 fk fa fc ft ff fb fi]) := hD
        refine W.widen (k := 0) (n := 0) (Nat.le_of_ble_eq_true rfl) (Nat.le_of_ble_eq_true rfl) ?_
        refine W.eq (g2 := F0 m 18 ls [.int (zBel (zV fm_3) (fm_3 3).toInt.toNat)]) rfl ?_
        refine ztop (r := (zBel (zV fm) (fm 3).toInt.toNat)) (by rw [zBk_bel i6 (by rw [i6 3 (by decide) (by decide) (by decide)]; omega), i6 3 (by decide) (by decide) (by decide)]) ?_
        refine lv_aload_n hx hb dX12_build_18 rfl (lv_at hl 0 rfl) ?_
        refine lv_iload_n hx hb dX12_build_19 rfl (lv_at hl 2 rfl) ?_
        refine lv_iconst (v := 1) hx hb dX12_build_20 (by decide) ?_
        refine mcallV' (g := g) (q0 := 0) (ci := 10) (As := [.int x_2, .int 1]) (rest := [.int (zBel (zV fm) (fm 3).toInt.toNat)]) St hK hT hA hP hD hS hl.1 [0] [] rfl rfl rfl (m_ofW1F l g o a th hi ac tp ba en tA fl de iD iO tU fm_3 fk fa fc ft ff fb fi x_2 (⟨i4.1, n13⟩)) (cwV 2 hts (zgL (zl4 k864 k865 k866 k839) k833) rfl rfl rfl (by decide +kernel) ⟨Nat.le_of_ble_eq_true rfl, Nat.le_of_ble_eq_true rfl⟩) rfl rfl rfl rfl (Nat.le_of_ble_eq_true rfl) dX12_build_21 ⟨(Nat.le_of_ble_eq_true rfl), (Nat.le_of_ble_eq_true rfl)⟩ (fun _u H locs hq16 hP hD hS => ?_)
        have hP : va_P g.1 vwCl (List.flatten [bMo g o a th hi ac tp ba en tA fl de iD iO tU fm_3 fk fa fc ft ff fb fi]) H := hP
        have hD : va_D A (List.flatten [bMo g o a th hi ac tp ba en tA fl de iD iO tU fm_3 fk fa fc ft ff fb fi]) := hD
        refine W.widen (k := 0) (n := 0) (Nat.le_of_ble_eq_true rfl) (Nat.le_of_ble_eq_true rfl) ?_
        refine W.eq (g2 := F0 m 24 ls [.int (zV fm_3 7 x_2.toInt.toNat), .int (zBel (zV fm) (fm 3).toInt.toNat)]) rfl ?_
        refine lv_icmp_lt (tgt := 31) hx hb dX12_build_24 (by decide) (fun cb9 => ?_) (fun cb9 => ?_)
        · skip
          have c17 : (zBel (zV fm) (fm 3).toInt.toNat).toInt < (zV fm_3 7 x_2.toInt.toNat).toInt := zlti cb9 rfl rfl
          refine lv_iconst (v := 0) hx hb dX12_build_31 (by decide) ?_
          refine lv_istore_n (lv' := [(3, .int 0), (0, .ref o), (1, .int x_1), (2, .int x_2)]) hx hb dX12_build_32 rfl hl (by decide) rfl (fun ls hl => ?_)
          refine lv_aload_n hx hb dX12_build_33 rfl (lv_at hl 1 rfl) ?_
          refine lv_iload_n hx hb dX12_build_34 rfl (lv_at hl 3 rfl) ?_
          refine lv_iconst (v := 3) hx hb dX12_build_35 (by decide) ?_
          refine mcallV' (g := g) (q0 := 0) (ci := 10) (As := [.int x_2, .int 3]) (rest := []) St hK hT hA hP hD hS hl.1 [0] [] rfl rfl rfl (m_ofW3F l g o a th hi ac tp ba en tA fl de iD iO tU fm_3 fk fa fc ft ff fb fi x_2 (⟨i4.1, n13⟩)) (cwV 2 hts (zgL (zl4 k864 k865 k866 k839) k833) rfl rfl rfl (by decide +kernel) ⟨Nat.le_of_ble_eq_true rfl, Nat.le_of_ble_eq_true rfl⟩) rfl rfl rfl rfl (Nat.le_of_ble_eq_true rfl) dX12_build_36 ⟨(Nat.le_of_ble_eq_true rfl), (Nat.le_of_ble_eq_true rfl)⟩ (fun _u H locs hq18 hP hD hS => ?_)
          have hP : va_P g.1 vwCl (List.flatten [bMo g o a th hi ac tp ba en tA fl de iD iO tU fm_3 fk fa fc ft ff fb fi]) H := hP
          have hD : va_D A (List.flatten [bMo g o a th hi ac tp ba en tA fl de iD iO tU fm_3 fk fa fc ft ff fb fi]) := hD
          refine W.widen (k := 0) (n := 0) (Nat.le_of_ble_eq_true rfl) (Nat.le_of_ble_eq_true rfl) ?_
          refine W.eq (g2 := F0 m 39 ls [.int (zV fm_3 9 x_2.toInt.toNat)]) rfl ?_
          refine lv_iconst (v := 1) hx hb dX12_build_39 (by decide) ?_
          refine lv_icmp_ne (tgt := 94) hx hb dX12_build_40 (by decide) (fun cb9 => ?_) (fun cb9 => ?_)
          · skip
            have c19 : ¬ (zV fm_3 9 x_2.toInt.toNat).toInt = 1 := zne cb9 rfl (by decide)
            refine lv_aload_n hx hb dX12_build_94 rfl (lv_at hl 1 rfl) ?_
            refine lv_iload_n hx hb dX12_build_95 rfl (lv_at hl 3 rfl) ?_
            refine lv_iconst (v := 3) hx hb dX12_build_96 (by decide) ?_
            refine mcallV' (g := g) (q0 := 0) (ci := 10) (As := [.int x_2, .int 3]) (rest := []) St hK hT hA hP hD hS hl.1 [0] [] rfl rfl rfl (m_ofW3F l g o a th hi ac tp ba en tA fl de iD iO tU fm_3 fk fa fc ft ff fb fi x_2 (⟨i4.1, n13⟩)) (cwV 2 hts (zgL (zl4 k864 k865 k866 k839) k833) rfl rfl rfl (by decide +kernel) ⟨Nat.le_of_ble_eq_true rfl, Nat.le_of_ble_eq_true rfl⟩) rfl rfl rfl rfl (Nat.le_of_ble_eq_true rfl) dX12_build_97 ⟨(Nat.le_of_ble_eq_true rfl), (Nat.le_of_ble_eq_true rfl)⟩ (fun _u H locs hq20 hP hD hS => ?_)
            have hP : va_P g.1 vwCl (List.flatten [bMo g o a th hi ac tp ba en tA fl de iD iO tU fm_3 fk fa fc ft ff fb fi]) H := hP
            have hD : va_D A (List.flatten [bMo g o a th hi ac tp ba en tA fl de iD iO tU fm_3 fk fa fc ft ff fb fi]) := hD
            refine W.widen (k := 0) (n := 0) (Nat.le_of_ble_eq_true rfl) (Nat.le_of_ble_eq_true rfl) ?_
            refine W.eq (g2 := F0 m 100 ls [.int (zV fm_3 9 x_2.toInt.toNat)]) rfl ?_
            refine lv_if_ne (tgt := 150) hx hb dX12_build_100 (by decide) (fun cb9 => ?_) (fun cb9 => ?_)
            · skip
              have c21 : ¬ (zV fm_3 9 x_2.toInt.toNat).toInt = 0 := zne cb9 rfl (by decide)
              refine ziinc3 (n' := 1) (a' := 1) (b' := 6) (lv' := fun v9 => [(2, .int v9), (3, .int 0), (0, .ref o), (1, .int x_1)]) hx hb dX12_build_150 hl (k := 3) rfl (by decide) (fun _ => rfl) (zaddK (i := x_2.toInt) (j := 1) rfl (by decide) i4.1 n13 (Int.le_refl _) (Int.le_refl _) (by decide)) (fun x_22 ls hx_22 hl => ?_)
              refine lv_goto (tgt := 4) hx hb dX12_build_153 (by decide) ?_
              have hl := lv_sub (l' := [(0, .ref o), (1, .int x_1), (2, .int x_22), (3, .int 0)]) hl [2, 3, 0, 1] rfl
              have hP : va_P g.1 vwCl (List.flatten [bMo g o a th hi ac tp ba en tA fl de iD iO tU fm_3 fk fa fc ft ff fb fi]) H := hP
              have hD : va_D A (List.flatten [bMo g o a th hi ac tp ba en tA fl de iD iO tU fm_3 fk fa fc ft ff fb fi]) := hD
              exact ih4_9 x_1 x_22 fm_3 ⟨(Int.le_trans (by decide) hx_22.2.1), hx_22.2.2⟩ rfm_3 (zKR_s i5 hx_22.1 (by omega) (by omega) (zMn1 (by omega) (by omega))) i6 (by first | omega | assumption | decide) H _ ls (zmK hx_22.1 (by decide) n13 (by decide) hk4_9)  hP hD hS (lv_sub hl [0, 1, 2] rfl)
            · skip
              have c23 : (zV fm_3 9 x_2.toInt.toNat).toInt = 0 := zeq cb9 rfl (by decide)
              have n24 : 0 ≤ (zV fm_3 9 x_2.toInt.toNat).toInt := Int.le_trans (Int.le_refl _) (Int.le_of_eq c23.symm)
              have n25 : (zV fm_3 9 x_2.toInt.toNat).toInt ≤ 0 := Int.le_trans (Int.le_of_eq c23) (Int.le_refl _)
              refine lv_iload_n hx hb dX12_build_103 rfl (lv_at hl 0 rfl) ?_
              refine lv_if_eq (tgt := 150) hx hb dX12_build_104 (by decide) (fun _ => ?_) (fun c26 => absurd (by decide) c26)
              refine ziinc3 (n' := 1) (a' := 1) (b' := 6) (lv' := fun v9 => [(2, .int v9), (3, .int 0), (0, .ref o), (1, .int x_1)]) hx hb dX12_build_150 hl (k := 3) rfl (by decide) (fun _ => rfl) (zaddK (i := x_2.toInt) (j := 1) rfl (by decide) i4.1 n13 (Int.le_refl _) (Int.le_refl _) (by decide)) (fun x_27 ls hx_27 hl => ?_)
              refine lv_goto (tgt := 4) hx hb dX12_build_153 (by decide) ?_
              have hl := lv_sub (l' := [(0, .ref o), (1, .int x_1), (2, .int x_27), (3, .int 0)]) hl [2, 3, 0, 1] rfl
              have hP : va_P g.1 vwCl (List.flatten [bMo g o a th hi ac tp ba en tA fl de iD iO tU fm_3 fk fa fc ft ff fb fi]) H := hP
              have hD : va_D A (List.flatten [bMo g o a th hi ac tp ba en tA fl de iD iO tU fm_3 fk fa fc ft ff fb fi]) := hD
              exact ih4_9 x_1 x_27 fm_3 ⟨(Int.le_trans (by decide) hx_27.2.1), hx_27.2.2⟩ rfm_3 (zKR_s i5 hx_27.1 (by omega) (by omega) (zMn1 (by omega) (by omega))) i6 (by first | omega | assumption | decide) H _ ls (zmK hx_27.1 (by decide) n13 (by decide) hk4_9)  hP hD hS (lv_sub hl [0, 1, 2] rfl)
          · skip
            have c28 : (zV fm_3 9 x_2.toInt.toNat).toInt = 1 := zeq cb9 rfl (by decide)
            have n29 : 1 ≤ (zV fm_3 9 x_2.toInt.toNat).toInt := Int.le_trans (Int.le_refl _) (Int.le_of_eq c28.symm)
            have n30 : (zV fm_3 9 x_2.toInt.toNat).toInt ≤ 1 := Int.le_trans (Int.le_of_eq c28) (Int.le_refl _)
            refine lv_iload_n hx hb dX12_build_43 rfl (lv_at hl 0 rfl) ?_
            refine lv_if_eq (tgt := 75) hx hb dX12_build_44 (by decide) (fun _ => ?_) (fun c31 => absurd (by decide) c31)
            refine lv_aload_n hx hb dX12_build_75 rfl (lv_at hl 1 rfl) ?_
            refine lv_iload_n hx hb dX12_build_76 rfl (lv_at hl 3 rfl) ?_
            refine lv_iconst (v := 3) hx hb dX12_build_77 (by decide) ?_
            refine lv_iconst (v := 2) hx hb dX12_build_78 (by decide) ?_
            refine mcallV' (g := g) (q0 := 0) (ci := 10) (As := [.int x_2, .int 3, .int 2]) (rest := []) St hK hT hA hP hD hS hl.1 [0] [] rfl rfl rfl (m_putW3F l g o a th hi ac tp ba en tA fl de iD iO tU fm_3 fk fa fc ft ff fb fi x_2 2 rfm_3 (⟨i4.1, n13⟩)) (cwV 3 hts (zgL (zl4 k914 k915 k916 k839) k834) rfl rfl rfl (by decide +kernel) ⟨Nat.le_of_ble_eq_true rfl, Nat.le_of_ble_eq_true rfl⟩) rfl rfl rfl rfl (Nat.le_of_ble_eq_true rfl) dX12_build_79 ⟨(Nat.le_of_ble_eq_true rfl), (Nat.le_of_ble_eq_true rfl)⟩ (fun fm2_32 H locs hq33 hP hD hS => ?_)
            replace hq33 : (rM fm2_32) ∧ (fm2_32 = upd fm_3 (118 + 4 * x_2.toInt.toNat) 2) := hq33
            have hP : va_P g.1 vwCl (List.flatten [bMo g o a th hi ac tp ba en tA fl de iD iO tU fm2_32 fk fa fc ft ff fb fi]) H := hP
            have hD : va_D A (List.flatten [bMo g o a th hi ac tp ba en tA fl de iD iO tU fm2_32 fk fa fc ft ff fb fi]) := hD
            refine W.widen (k := 0) (n := 0) (Nat.le_of_ble_eq_true rfl) (Nat.le_of_ble_eq_true rfl) ?_
            refine W.eq (g2 := F0 m 82 ls []) rfl ?_
            obtain ⟨rfm2_32, hq33_1⟩ := hq33
            refine lv_aload_n hx hb dX12_build_82 rfl (lv_at hl 1 rfl) ?_
            refine lv_iload_n hx hb dX12_build_83 rfl (lv_at hl 3 rfl) ?_
            refine lv_iconst (v := 1) hx hb dX12_build_84 (by decide) ?_
            refine mcallV' (g := g) (q0 := 0) (ci := 10) (As := [.int x_2, .int 1]) (rest := []) St hK hT hA hP hD hS hl.1 [0] [] rfl rfl rfl (m_logsG l g o a th hi ac tp ba en tA fl de iD iO tU fm2_32 fk fa fc ft ff fb fi x_2 1 rfm2_32) (cwV 2 hts (zgL (zl4 k1005 k1006 k1007 k839) k999) rfl rfl rfl (by decide +kernel) ⟨Nat.le_of_ble_eq_true rfl, Nat.le_of_ble_eq_true rfl⟩) rfl rfl rfl rfl (Nat.le_of_ble_eq_true rfl) dX12_build_85 ⟨(Nat.le_of_ble_eq_true rfl), (Nat.le_of_ble_eq_true rfl)⟩ (fun fm2_34 H locs hq35 hP hD hS => ?_)
            replace hq35 : (rM fm2_34) ∧ (zLo fm2_32 fm2_34) := hq35
            have hP : va_P g.1 vwCl (List.flatten [bMo g o a th hi ac tp ba en tA fl de iD iO tU fm2_34 fk fa fc ft ff fb fi]) H := hP
            have hD : va_D A (List.flatten [bMo g o a th hi ac tp ba en tA fl de iD iO tU fm2_34 fk fa fc ft ff fb fi]) := hD
            refine W.widen (k := 0) (n := 0) (Nat.le_of_ble_eq_true rfl) (Nat.le_of_ble_eq_true rfl) ?_
            refine W.eq (g2 := F0 m 88 ls []) rfl ?_
            obtain ⟨rfm2_34, hq35_1⟩ := hq35
            refine lv_iinc (v := x_1 + 1) (lv' := [(1, .int (x_1 + 1)), (3, .int 0), (0, .ref o), (2, .int x_2)]) hx hb dX12_build_88 hl (k := 2) rfl rfl (by decide) rfl (fun ls hl => ?_)
            refine lv_goto (tgt := 150) hx hb dX12_build_91 (by decide) ?_
            refine ziinc3 (n' := 1) (a' := 1) (b' := 6) (lv' := fun v9 => [(2, .int v9), (1, .int (x_1 + 1)), (3, .int 0), (0, .ref o)]) hx hb dX12_build_150 hl (k := 3) rfl (by decide) (fun _ => rfl) (zaddK (i := x_2.toInt) (j := 1) rfl (by decide) i4.1 n13 (Int.le_refl _) (Int.le_refl _) (by decide)) (fun x_36 ls hx_36 hl => ?_)
            refine lv_goto (tgt := 4) hx hb dX12_build_153 (by decide) ?_
            have hl := lv_sub (l' := [(0, .ref o), (1, .int (x_1 + 1)), (2, .int x_36), (3, .int 0)]) hl [3, 1, 0, 2] rfl
            have hP : va_P g.1 vwCl (List.flatten [bMo g o a th hi ac tp ba en tA fl de iD iO tU fm2_34 fk fa fc ft ff fb fi]) H := hP
            have hD : va_D A (List.flatten [bMo g o a th hi ac tp ba en tA fl de iD iO tU fm2_34 fk fa fc ft ff fb fi]) := hD
            exact ih4_9 (x_1 + 1) x_36 fm2_34 ⟨(Int.le_trans (by decide) hx_36.2.1), hx_36.2.2⟩ rfm2_34 (zKR_s i5 hx_36.1 (by omega) (by omega) (zMb1 (by omega) (by omega) (by omega) hq33_1 hq35_1)) (zBk_l (zBk_u i6 hq33_1 (by omega)) hq35_1) (by first | omega | assumption | decide) H _ ls (zmK hx_36.1 (by decide) n13 (by decide) hk4_9)  hP hD hS (lv_sub hl [0, 1, 2] rfl)
        · skip
          have c37 : (zV fm_3 7 x_2.toInt.toNat).toInt ≤ (zBel (zV fm) (fm 3).toInt.toNat).toInt := zle (Int32.not_lt.mp cb9) rfl rfl
          refine lv_iconst (v := 1) hx hb dX12_build_27 (by decide) ?_
          refine lv_goto (tgt := 32) hx hb dX12_build_28 (by decide) ?_
          refine lv_istore_n (lv' := [(3, .int 1), (0, .ref o), (1, .int x_1), (2, .int x_2)]) hx hb dX12_build_32 rfl hl (by decide) rfl (fun ls hl => ?_)
          refine lv_aload_n hx hb dX12_build_33 rfl (lv_at hl 1 rfl) ?_
          refine lv_iload_n hx hb dX12_build_34 rfl (lv_at hl 3 rfl) ?_
          refine lv_iconst (v := 3) hx hb dX12_build_35 (by decide) ?_
          refine mcallV' (g := g) (q0 := 0) (ci := 10) (As := [.int x_2, .int 3]) (rest := []) St hK hT hA hP hD hS hl.1 [0] [] rfl rfl rfl (m_ofW3F l g o a th hi ac tp ba en tA fl de iD iO tU fm_3 fk fa fc ft ff fb fi x_2 (⟨i4.1, n13⟩)) (cwV 2 hts (zgL (zl4 k864 k865 k866 k839) k833) rfl rfl rfl (by decide +kernel) ⟨Nat.le_of_ble_eq_true rfl, Nat.le_of_ble_eq_true rfl⟩) rfl rfl rfl rfl (Nat.le_of_ble_eq_true rfl) dX12_build_36 ⟨(Nat.le_of_ble_eq_true rfl), (Nat.le_of_ble_eq_true rfl)⟩ (fun _u H locs hq38 hP hD hS => ?_)
          have hP : va_P g.1 vwCl (List.flatten [bMo g o a th hi ac tp ba en tA fl de iD iO tU fm_3 fk fa fc ft ff fb fi]) H := hP
          have hD : va_D A (List.flatten [bMo g o a th hi ac tp ba en tA fl de iD iO tU fm_3 fk fa fc ft ff fb fi]) := hD
          refine W.widen (k := 0) (n := 0) (Nat.le_of_ble_eq_true rfl) (Nat.le_of_ble_eq_true rfl) ?_
          refine W.eq (g2 := F0 m 39 ls [.int (zV fm_3 9 x_2.toInt.toNat)]) rfl ?_
          refine lv_iconst (v := 1) hx hb dX12_build_39 (by decide) ?_
          refine lv_icmp_ne (tgt := 94) hx hb dX12_build_40 (by decide) (fun cb9 => ?_) (fun cb9 => ?_)
          · skip
            have c39 : ¬ (zV fm_3 9 x_2.toInt.toNat).toInt = 1 := zne cb9 rfl (by decide)
            refine lv_aload_n hx hb dX12_build_94 rfl (lv_at hl 1 rfl) ?_
            refine lv_iload_n hx hb dX12_build_95 rfl (lv_at hl 3 rfl) ?_
            refine lv_iconst (v := 3) hx hb dX12_build_96 (by decide) ?_
            refine mcallV' (g := g) (q0 := 0) (ci := 10) (As := [.int x_2, .int 3]) (rest := []) St hK hT hA hP hD hS hl.1 [0] [] rfl rfl rfl (m_ofW3F l g o a th hi ac tp ba en tA fl de iD iO tU fm_3 fk fa fc ft ff fb fi x_2 (⟨i4.1, n13⟩)) (cwV 2 hts (zgL (zl4 k864 k865 k866 k839) k833) rfl rfl rfl (by decide +kernel) ⟨Nat.le_of_ble_eq_true rfl, Nat.le_of_ble_eq_true rfl⟩) rfl rfl rfl rfl (Nat.le_of_ble_eq_true rfl) dX12_build_97 ⟨(Nat.le_of_ble_eq_true rfl), (Nat.le_of_ble_eq_true rfl)⟩ (fun _u H locs hq40 hP hD hS => ?_)
            have hP : va_P g.1 vwCl (List.flatten [bMo g o a th hi ac tp ba en tA fl de iD iO tU fm_3 fk fa fc ft ff fb fi]) H := hP
            have hD : va_D A (List.flatten [bMo g o a th hi ac tp ba en tA fl de iD iO tU fm_3 fk fa fc ft ff fb fi]) := hD
            refine W.widen (k := 0) (n := 0) (Nat.le_of_ble_eq_true rfl) (Nat.le_of_ble_eq_true rfl) ?_
            refine W.eq (g2 := F0 m 100 ls [.int (zV fm_3 9 x_2.toInt.toNat)]) rfl ?_
            refine lv_if_ne (tgt := 150) hx hb dX12_build_100 (by decide) (fun cb9 => ?_) (fun cb9 => ?_)
            · skip
              have c41 : ¬ (zV fm_3 9 x_2.toInt.toNat).toInt = 0 := zne cb9 rfl (by decide)
              refine ziinc3 (n' := 1) (a' := 1) (b' := 6) (lv' := fun v9 => [(2, .int v9), (3, .int 1), (0, .ref o), (1, .int x_1)]) hx hb dX12_build_150 hl (k := 3) rfl (by decide) (fun _ => rfl) (zaddK (i := x_2.toInt) (j := 1) rfl (by decide) i4.1 n13 (Int.le_refl _) (Int.le_refl _) (by decide)) (fun x_42 ls hx_42 hl => ?_)
              refine lv_goto (tgt := 4) hx hb dX12_build_153 (by decide) ?_
              have hl := lv_sub (l' := [(0, .ref o), (1, .int x_1), (2, .int x_42), (3, .int 1)]) hl [2, 3, 0, 1] rfl
              have hP : va_P g.1 vwCl (List.flatten [bMo g o a th hi ac tp ba en tA fl de iD iO tU fm_3 fk fa fc ft ff fb fi]) H := hP
              have hD : va_D A (List.flatten [bMo g o a th hi ac tp ba en tA fl de iD iO tU fm_3 fk fa fc ft ff fb fi]) := hD
              exact ih4_9 x_1 x_42 fm_3 ⟨(Int.le_trans (by decide) hx_42.2.1), hx_42.2.2⟩ rfm_3 (zKR_s i5 hx_42.1 (by omega) (by omega) (zMn1 (by omega) (by omega))) i6 (by first | omega | assumption | decide) H _ ls (zmK hx_42.1 (by decide) n13 (by decide) hk4_9)  hP hD hS (lv_sub hl [0, 1, 2] rfl)
            · skip
              have c43 : (zV fm_3 9 x_2.toInt.toNat).toInt = 0 := zeq cb9 rfl (by decide)
              have n44 : 0 ≤ (zV fm_3 9 x_2.toInt.toNat).toInt := Int.le_trans (Int.le_refl _) (Int.le_of_eq c43.symm)
              have n45 : (zV fm_3 9 x_2.toInt.toNat).toInt ≤ 0 := Int.le_trans (Int.le_of_eq c43) (Int.le_refl _)
              refine lv_iload_n hx hb dX12_build_103 rfl (lv_at hl 0 rfl) ?_
              refine lv_if_eq (tgt := 150) hx hb dX12_build_104 (by decide) (fun c46 => absurd c46 (by decide)) (fun _ => ?_)
              refine lv_aload_n hx hb dX12_build_107 rfl (lv_at hl 1 rfl) ?_
              refine va_get (D := g.1) (ci := 10) (v := .ref (a 0)) (C := RX12) (T := TX12) (N := 20) hx hb hts izRX12 hown hK hP 0 rfl rfl 1 (by decide) (hts _ k815) (fun _ h9 => h9) rfl dX12_build_108 ?_
              refine lv_iconst (v := 5) hx hb dX12_build_111 (by decide) ?_
              refine va_iald hx hb hK hP 1 0 rfl rfl (zin rfl) dX12_build_112 ?_
              refine ztop (r := (fm_3 5)) rfl ?_
              refine lv_aload_n hx hb dX12_build_113 rfl (lv_at hl 1 rfl) ?_
              refine lv_iload_n hx hb dX12_build_114 rfl (lv_at hl 3 rfl) ?_
              refine lv_iconst (v := 0) hx hb dX12_build_115 (by decide) ?_
              refine mcallV' (g := g) (q0 := 0) (ci := 10) (As := [.int x_2, .int 0]) (rest := [.int (fm_3 5)]) St hK hT hA hP hD hS hl.1 [0] [] rfl rfl rfl (m_ofW0F l g o a th hi ac tp ba en tA fl de iD iO tU fm_3 fk fa fc ft ff fb fi x_2 (⟨i4.1, n13⟩)) (cwV 2 hts (zgL (zl4 k864 k865 k866 k839) k833) rfl rfl rfl (by decide +kernel) ⟨Nat.le_of_ble_eq_true rfl, Nat.le_of_ble_eq_true rfl⟩) rfl rfl rfl rfl (Nat.le_of_ble_eq_true rfl) dX12_build_116 ⟨(Nat.le_of_ble_eq_true rfl), (Nat.le_of_ble_eq_true rfl)⟩ (fun _u H locs hq47 hP hD hS => ?_)
              have hP : va_P g.1 vwCl (List.flatten [bMo g o a th hi ac tp ba en tA fl de iD iO tU fm_3 fk fa fc ft ff fb fi]) H := hP
              have hD : va_D A (List.flatten [bMo g o a th hi ac tp ba en tA fl de iD iO tU fm_3 fk fa fc ft ff fb fi]) := hD
              refine W.widen (k := 0) (n := 0) (Nat.le_of_ble_eq_true rfl) (Nat.le_of_ble_eq_true rfl) ?_
              refine W.eq (g2 := F0 m 119 ls [.int (zV fm_3 6 x_2.toInt.toNat), .int (fm_3 5)]) rfl ?_
              refine lv_icmp_lt (tgt := 150) hx hb dX12_build_119 (by decide) (fun cb9 => ?_) (fun cb9 => ?_)
              · skip
                have c48 : (fm_3 5).toInt < (zV fm_3 6 x_2.toInt.toNat).toInt := zlti cb9 rfl rfl
                refine ziinc3 (n' := 1) (a' := 1) (b' := 6) (lv' := fun v9 => [(2, .int v9), (3, .int 1), (0, .ref o), (1, .int x_1)]) hx hb dX12_build_150 hl (k := 3) rfl (by decide) (fun _ => rfl) (zaddK (i := x_2.toInt) (j := 1) rfl (by decide) i4.1 n13 (Int.le_refl _) (Int.le_refl _) (by decide)) (fun x_49 ls hx_49 hl => ?_)
                refine lv_goto (tgt := 4) hx hb dX12_build_153 (by decide) ?_
                have hl := lv_sub (l' := [(0, .ref o), (1, .int x_1), (2, .int x_49), (3, .int 1)]) hl [2, 3, 0, 1] rfl
                have hP : va_P g.1 vwCl (List.flatten [bMo g o a th hi ac tp ba en tA fl de iD iO tU fm_3 fk fa fc ft ff fb fi]) H := hP
                have hD : va_D A (List.flatten [bMo g o a th hi ac tp ba en tA fl de iD iO tU fm_3 fk fa fc ft ff fb fi]) := hD
                exact ih4_9 x_1 x_49 fm_3 ⟨(Int.le_trans (by decide) hx_49.2.1), hx_49.2.2⟩ rfm_3 (zKR_s i5 hx_49.1 (by omega) (by omega) (zMn1 (by omega) (by omega))) i6 (by first | omega | assumption | decide) H _ ls (zmK hx_49.1 (by decide) n13 (by decide) hk4_9)  hP hD hS (lv_sub hl [0, 1, 2] rfl)
              · skip
                have c50 : (zV fm_3 6 x_2.toInt.toNat).toInt ≤ (fm_3 5).toInt := zle (Int32.not_lt.mp cb9) rfl rfl
                refine lv_aload_n hx hb dX12_build_122 rfl (lv_at hl 1 rfl) ?_
                refine va_get (D := g.1) (ci := 10) (v := .ref (a 0)) (C := RX12) (T := TX12) (N := 20) hx hb hts izRX12 hown hK hP 0 rfl rfl 1 (by decide) (hts _ k815) (fun _ h9 => h9) rfl dX12_build_123 ?_
                refine lv_iconst (v := 5) hx hb dX12_build_126 (by decide) ?_
                refine lv_dup2_11 hx hb dX12_build_127 rfl rfl ?_
                refine va_iald hx hb hK hP 1 0 rfl rfl (zin rfl) dX12_build_128 ?_
                refine ztop (r := (fm_3 5)) rfl ?_
                refine lv_aload_n hx hb dX12_build_129 rfl (lv_at hl 1 rfl) ?_
                refine lv_iload_n hx hb dX12_build_130 rfl (lv_at hl 3 rfl) ?_
                refine lv_iconst (v := 0) hx hb dX12_build_131 (by decide) ?_
                refine mcallV' (g := g) (q0 := 0) (ci := 10) (As := [.int x_2, .int 0]) (rest := [.int (fm_3 5), .int 5, .ref (a 0)]) St hK hT hA hP hD hS hl.1 [0] [] rfl rfl rfl (m_ofW0F l g o a th hi ac tp ba en tA fl de iD iO tU fm_3 fk fa fc ft ff fb fi x_2 (⟨i4.1, n13⟩)) (cwV 2 hts (zgL (zl4 k864 k865 k866 k839) k833) rfl rfl rfl (by decide +kernel) ⟨Nat.le_of_ble_eq_true rfl, Nat.le_of_ble_eq_true rfl⟩) rfl rfl rfl rfl (Nat.le_of_ble_eq_true rfl) dX12_build_132 ⟨(Nat.le_of_ble_eq_true rfl), (Nat.le_of_ble_eq_true rfl)⟩ (fun _u H locs hq51 hP hD hS => ?_)
                have hP : va_P g.1 vwCl (List.flatten [bMo g o a th hi ac tp ba en tA fl de iD iO tU fm_3 fk fa fc ft ff fb fi]) H := hP
                have hD : va_D A (List.flatten [bMo g o a th hi ac tp ba en tA fl de iD iO tU fm_3 fk fa fc ft ff fb fi]) := hD
                refine W.widen (k := 0) (n := 0) (Nat.le_of_ble_eq_true rfl) (Nat.le_of_ble_eq_true rfl) ?_
                refine W.eq (g2 := F0 m 135 ls [.int (zV fm_3 6 x_2.toInt.toNat), .int (fm_3 5), .int 5, .ref (a 0)]) rfl ?_
                refine lv_isub hx hb dX12_build_135 ?_
                refine va_iast hx hb hK hP hD hS 1 0 rfl rfl (zin rfl) dX12_build_136 (fun H locs hP hD hS => ?_)
                obtain ⟨fm_52, rfm_52, efm_52, hP, hD⟩ : ∃ fm_52 : Nat → Int32, rM fm_52 ∧ fm_52 = upd fm_3 5 ((fm_3 5) - (zV fm_3 6 x_2.toInt.toNat)) ∧ va_P g.1 vwCl (List.flatten [bMo g o a th hi ac tp ba en tA fl de iD iO tU fm_52 fk fa fc ft ff fb fi]) H ∧ va_D A (List.flatten [bMo g o a th hi ac tp ba en tA fl de iD iO tU fm_52 fk fa fc ft ff fb fi]) := ⟨upd fm_3 5 ((fm_3 5) - (zV fm_3 6 x_2.toInt.toNat)), (rM_stL rfm_3 (by decide)), rfl, hP, hD⟩
                refine lv_aload_n hx hb dX12_build_137 rfl (lv_at hl 1 rfl) ?_
                refine lv_iload_n hx hb dX12_build_138 rfl (lv_at hl 3 rfl) ?_
                refine lv_iconst (v := 3) hx hb dX12_build_139 (by decide) ?_
                refine lv_iconst (v := 1) hx hb dX12_build_140 (by decide) ?_
                refine mcallV' (g := g) (q0 := 0) (ci := 10) (As := [.int x_2, .int 3, .int 1]) (rest := []) St hK hT hA hP hD hS hl.1 [0] [] rfl rfl rfl (m_putW3F l g o a th hi ac tp ba en tA fl de iD iO tU fm_52 fk fa fc ft ff fb fi x_2 1 rfm_52 (⟨i4.1, n13⟩)) (cwV 3 hts (zgL (zl4 k914 k915 k916 k839) k834) rfl rfl rfl (by decide +kernel) ⟨Nat.le_of_ble_eq_true rfl, Nat.le_of_ble_eq_true rfl⟩) rfl rfl rfl rfl (Nat.le_of_ble_eq_true rfl) dX12_build_141 ⟨(Nat.le_of_ble_eq_true rfl), (Nat.le_of_ble_eq_true rfl)⟩ (fun fm2_53 H locs hq54 hP hD hS => ?_)
                replace hq54 : (rM fm2_53) ∧ (fm2_53 = upd fm_52 (118 + 4 * x_2.toInt.toNat) 1) := hq54
                have hP : va_P g.1 vwCl (List.flatten [bMo g o a th hi ac tp ba en tA fl de iD iO tU fm2_53 fk fa fc ft ff fb fi]) H := hP
                have hD : va_D A (List.flatten [bMo g o a th hi ac tp ba en tA fl de iD iO tU fm2_53 fk fa fc ft ff fb fi]) := hD
                refine W.widen (k := 0) (n := 0) (Nat.le_of_ble_eq_true rfl) (Nat.le_of_ble_eq_true rfl) ?_
                refine W.eq (g2 := F0 m 144 ls []) rfl ?_
                obtain ⟨rfm2_53, hq54_1⟩ := hq54
                refine lv_aload_n hx hb dX12_build_144 rfl (lv_at hl 1 rfl) ?_
                refine lv_iload_n hx hb dX12_build_145 rfl (lv_at hl 3 rfl) ?_
                refine lv_iconst (v := 0) hx hb dX12_build_146 (by decide) ?_
                refine mcallV' (g := g) (q0 := 0) (ci := 10) (As := [.int x_2, .int 0]) (rest := []) St hK hT hA hP hD hS hl.1 [0] [] rfl rfl rfl (m_logsG l g o a th hi ac tp ba en tA fl de iD iO tU fm2_53 fk fa fc ft ff fb fi x_2 0 rfm2_53) (cwV 2 hts (zgL (zl4 k1005 k1006 k1007 k839) k999) rfl rfl rfl (by decide +kernel) ⟨Nat.le_of_ble_eq_true rfl, Nat.le_of_ble_eq_true rfl⟩) rfl rfl rfl rfl (Nat.le_of_ble_eq_true rfl) dX12_build_147 ⟨(Nat.le_of_ble_eq_true rfl), (Nat.le_of_ble_eq_true rfl)⟩ (fun fm2_55 H locs hq56 hP hD hS => ?_)
                replace hq56 : (rM fm2_55) ∧ (zLo fm2_53 fm2_55) := hq56
                have hP : va_P g.1 vwCl (List.flatten [bMo g o a th hi ac tp ba en tA fl de iD iO tU fm2_55 fk fa fc ft ff fb fi]) H := hP
                have hD : va_D A (List.flatten [bMo g o a th hi ac tp ba en tA fl de iD iO tU fm2_55 fk fa fc ft ff fb fi]) := hD
                refine W.widen (k := 0) (n := 0) (Nat.le_of_ble_eq_true rfl) (Nat.le_of_ble_eq_true rfl) ?_
                refine W.eq (g2 := F0 m 150 ls []) rfl ?_
                obtain ⟨rfm2_55, hq56_1⟩ := hq56
                refine ziinc3 (n' := 1) (a' := 1) (b' := 6) (lv' := fun v9 => [(2, .int v9), (3, .int 1), (0, .ref o), (1, .int x_1)]) hx hb dX12_build_150 hl (k := 3) rfl (by decide) (fun _ => rfl) (zaddK (i := x_2.toInt) (j := 1) rfl (by decide) i4.1 n13 (Int.le_refl _) (Int.le_refl _) (by decide)) (fun x_57 ls hx_57 hl => ?_)
                refine lv_goto (tgt := 4) hx hb dX12_build_153 (by decide) ?_
                have hl := lv_sub (l' := [(0, .ref o), (1, .int x_1), (2, .int x_57), (3, .int 1)]) hl [2, 3, 0, 1] rfl
                have hP : va_P g.1 vwCl (List.flatten [bMo g o a th hi ac tp ba en tA fl de iD iO tU fm2_55 fk fa fc ft ff fb fi]) H := hP
                have hD : va_D A (List.flatten [bMo g o a th hi ac tp ba en tA fl de iD iO tU fm2_55 fk fa fc ft ff fb fi]) := hD
                exact ih4_9 x_1 x_57 fm2_55 ⟨(Int.le_trans (by decide) hx_57.2.1), hx_57.2.2⟩ rfm2_55 (zKR_s i5 hx_57.1 (by omega) (by omega) (zMa1 (by omega) (by omega) (by omega) (by omega) efm_52 hq54_1 hq56_1)) (zBk_l (zBk_u (zBk_u i6 efm_52 (by omega)) hq54_1 (by omega)) hq56_1) (by first | omega | assumption | decide) H _ ls (zmK hx_57.1 (by decide) n13 (by decide) hk4_9)  hP hD hS (lv_sub hl [0, 1, 2] rfl)
          · skip
            have c58 : (zV fm_3 9 x_2.toInt.toNat).toInt = 1 := zeq cb9 rfl (by decide)
            have n59 : 1 ≤ (zV fm_3 9 x_2.toInt.toNat).toInt := Int.le_trans (Int.le_refl _) (Int.le_of_eq c58.symm)
            have n60 : (zV fm_3 9 x_2.toInt.toNat).toInt ≤ 1 := Int.le_trans (Int.le_of_eq c58) (Int.le_refl _)
            refine lv_iload_n hx hb dX12_build_43 rfl (lv_at hl 0 rfl) ?_
            refine lv_if_eq (tgt := 75) hx hb dX12_build_44 (by decide) (fun c61 => absurd c61 (by decide)) (fun _ => ?_)
            refine lv_aload_n hx hb dX12_build_47 rfl (lv_at hl 1 rfl) ?_
            refine va_get (D := g.1) (ci := 10) (v := .ref (a 0)) (C := RX12) (T := TX12) (N := 20) hx hb hts izRX12 hown hK hP 0 rfl rfl 1 (by decide) (hts _ k815) (fun _ h9 => h9) rfl dX12_build_48 ?_
            refine lv_iconst (v := 5) hx hb dX12_build_51 (by decide) ?_
            refine lv_sipush (v := 9999) hx hb dX12_build_52 (by decide) ?_
            refine lv_aload_n hx hb dX12_build_55 rfl (lv_at hl 1 rfl) ?_
            refine va_get (D := g.1) (ci := 10) (v := .ref (a 0)) (C := RX12) (T := TX12) (N := 20) hx hb hts izRX12 hown hK hP 0 rfl rfl 1 (by decide) (hts _ k815) (fun _ h9 => h9) rfl dX12_build_56 ?_
            refine lv_iconst (v := 5) hx hb dX12_build_59 (by decide) ?_
            refine va_iald hx hb hK hP 1 0 rfl rfl (zin rfl) dX12_build_60 ?_
            refine ztop (r := (fm_3 5)) rfl ?_
            refine lv_aload_n hx hb dX12_build_61 rfl (lv_at hl 1 rfl) ?_
            refine lv_iload_n hx hb dX12_build_62 rfl (lv_at hl 3 rfl) ?_
            refine lv_iconst (v := 2) hx hb dX12_build_63 (by decide) ?_
            refine mcallV' (g := g) (q0 := 0) (ci := 10) (As := [.int x_2, .int 2]) (rest := [.int (fm_3 5), .int 9999, .int 5, .ref (a 0)]) St hK hT hA hP hD hS hl.1 [0] [] rfl rfl rfl (m_ofW2F l g o a th hi ac tp ba en tA fl de iD iO tU fm_3 fk fa fc ft ff fb fi x_2 (⟨i4.1, n13⟩)) (cwV 2 hts (zgL (zl4 k864 k865 k866 k839) k833) rfl rfl rfl (by decide +kernel) ⟨Nat.le_of_ble_eq_true rfl, Nat.le_of_ble_eq_true rfl⟩) rfl rfl rfl rfl (Nat.le_of_ble_eq_true rfl) dX12_build_64 ⟨(Nat.le_of_ble_eq_true rfl), (Nat.le_of_ble_eq_true rfl)⟩ (fun _u H locs hq62 hP hD hS => ?_)
            have hP : va_P g.1 vwCl (List.flatten [bMo g o a th hi ac tp ba en tA fl de iD iO tU fm_3 fk fa fc ft ff fb fi]) H := hP
            have hD : va_D A (List.flatten [bMo g o a th hi ac tp ba en tA fl de iD iO tU fm_3 fk fa fc ft ff fb fi]) := hD
            refine W.widen (k := 0) (n := 0) (Nat.le_of_ble_eq_true rfl) (Nat.le_of_ble_eq_true rfl) ?_
            refine W.eq (g2 := F0 m 67 ls [.int (zV fm_3 8 x_2.toInt.toNat), .int (fm_3 5), .int 9999, .int 5, .ref (a 0)]) rfl ?_
            refine lv_iadd hx hb dX12_build_67 ?_
            refine mcallS' (g := g) (As := [.int 9999, .int ((fm_3 5) + (zV fm_3 8 x_2.toInt.toNat))]) (rest := [.int 5, .ref (a 0)]) St hK hT hA hP hD hS hl.1 [] [0] rfl rfl rfl (m_lesser9 l g ((fm_3 5) + (zV fm_3 8 x_2.toInt.toNat)) ) (va_cwS 2 hts (zgL (zl3 k1000 k1001 k839) k827) rfl rfl rfl (by decide +kernel) ⟨Nat.le_of_ble_eq_true rfl, Nat.le_of_ble_eq_true rfl⟩) rfl rfl (Nat.le_of_ble_eq_true rfl) dX12_build_68 ⟨(Nat.le_of_ble_eq_true rfl), (Nat.le_of_ble_eq_true rfl)⟩ (fun _u H locs hq63 hP hD hS => ?_)
            have hP : va_P g.1 vwCl (List.flatten [bMo g o a th hi ac tp ba en tA fl de iD iO tU fm_3 fk fa fc ft ff fb fi]) H := hP
            have hD : va_D A (List.flatten [bMo g o a th hi ac tp ba en tA fl de iD iO tU fm_3 fk fa fc ft ff fb fi]) := hD
            refine W.widen (k := 0) (n := 0) (Nat.le_of_ble_eq_true rfl) (Nat.le_of_ble_eq_true rfl) ?_
            refine W.eq (g2 := F0 m 71 ls [.int (zCap ((fm_3 5) + (zV fm_3 8 x_2.toInt.toNat))), .int 5, .ref (a 0)]) rfl ?_
            refine va_iast hx hb hK hP hD hS 1 0 rfl rfl (zin rfl) dX12_build_71 (fun H locs hP hD hS => ?_)
            obtain ⟨fm_64, rfm_64, efm_64, hP, hD⟩ : ∃ fm_64 : Nat → Int32, rM fm_64 ∧ fm_64 = upd fm_3 5 (zCap ((fm_3 5) + (zV fm_3 8 x_2.toInt.toNat))) ∧ va_P g.1 vwCl (List.flatten [bMo g o a th hi ac tp ba en tA fl de iD iO tU fm_64 fk fa fc ft ff fb fi]) H ∧ va_D A (List.flatten [bMo g o a th hi ac tp ba en tA fl de iD iO tU fm_64 fk fa fc ft ff fb fi]) := ⟨upd fm_3 5 (zCap ((fm_3 5) + (zV fm_3 8 x_2.toInt.toNat))), (rM_stL rfm_3 (by decide)), rfl, hP, hD⟩
            refine lv_goto (tgt := 150) hx hb dX12_build_72 (by decide) ?_
            refine ziinc3 (n' := 1) (a' := 1) (b' := 6) (lv' := fun v9 => [(2, .int v9), (3, .int 1), (0, .ref o), (1, .int x_1)]) hx hb dX12_build_150 hl (k := 3) rfl (by decide) (fun _ => rfl) (zaddK (i := x_2.toInt) (j := 1) rfl (by decide) i4.1 n13 (Int.le_refl _) (Int.le_refl _) (by decide)) (fun x_65 ls hx_65 hl => ?_)
            refine lv_goto (tgt := 4) hx hb dX12_build_153 (by decide) ?_
            have hl := lv_sub (l' := [(0, .ref o), (1, .int x_1), (2, .int x_65), (3, .int 1)]) hl [2, 3, 0, 1] rfl
            have hP : va_P g.1 vwCl (List.flatten [bMo g o a th hi ac tp ba en tA fl de iD iO tU fm_64 fk fa fc ft ff fb fi]) H := hP
            have hD : va_D A (List.flatten [bMo g o a th hi ac tp ba en tA fl de iD iO tU fm_64 fk fa fc ft ff fb fi]) := hD
            exact ih4_9 x_1 x_65 fm_64 ⟨(Int.le_trans (by decide) hx_65.2.1), hx_65.2.2⟩ rfm_64 (zKR_s i5 hx_65.1 (by omega) (by omega) (zMc1 (by omega) (by omega) efm_64)) (zBk_u i6 efm_64 (Or.inl rfl)) (by first | omega | assumption | decide) H _ ls (zmK hx_65.1 (by decide) n13 (by decide) hk4_9)  hP hD hS (lv_sub hl [0, 1, 2] rfl)
  have hL0 : (0 : Int32).toInt = 0 := by decide
  have hP : va_P g.1 vwCl (List.flatten [bMo g o a th hi ac tp ba en tA fl de iD iO tU fm fk fa fc ft ff fb fi]) s.heap := hP
  have hD : va_D A (List.flatten [bMo g o a th hi ac tp ba en tA fl de iD iO tU fm fk fa fc ft ff fb fi]) := hD
  exact LP4_8 _ 0 0 fm (by decide) rfm (zItR_0 (R := zKR) (by decide) ⟨rfl, zEq_r _, rfl⟩) (zBk_r _) (by first | omega | assumption | decide) s.heap _ ls (Nat.lt_succ_self _)  hP hD hS (lv_sub hl [0, 1, 2] rfl)
set_option maxRecDepth 100000 in
set_option maxHeartbeats 4000000 in
theorem m_returns0G (l : Launch) (g : zG) (o : Nat) (a : Nat → Nat) (th : Int32) (hi : Int32) (ac : Int32) (tp : Int32) (ba : Int32) (en : Int32) (tA : Int32) (fl : Int32) (de : Int32) (iD : Int32) (iO : Int32) (tU : Int32) (fm : Nat → Int32) (fk : Nat → Int32) (fa : Nat → Int32) (fc : Nat → Int32) (ft : Nat → Int32) (ff : Nat → Int32) (fb : Nat → Int32) (fi : Nat → Int32) (x : Int32) (rfm : rM fm) (b_x : 0 ≤ x.toInt ∧ x.toInt ≤ 7) (h3 : ¬ (zV fm 3 x.toInt.toNat).toInt = -1) (hd9 : (zV fm 3 x.toInt.toNat).toInt ≤ (fm 8).toInt) : zM' g l yX12_returns (Cond.code yX12_returns cX12_returns 5 none :: zB) ({ frames := 1, cells := 0, slots := 0, locals := 23 } : Room) [.ref o, .int x, .int 0] [bMo g o a th hi ac tp ba en tA fl de iD iO tU fm fk fa fc ft ff fb fi] (fun (fm2 : Nat → Int32) => none) (fun (fm2 : Nat → Int32) => (rM fm2) ∧ (zCR (zV fm2, fm2 10) (zCB1 (fm 3).toInt.toNat (fm 8) (fm 7) 0 x.toInt.toNat (zV fm, fm 10))) ∧ (zQk fm fm2)) (fun (fm2 : Nat → Int32) => [bMo g o a th hi ac tp ba en tA fl de iD iO tU fm2 fk fa fc ft ff fb fi]) := by
  refine zM'.of (cc := cX12_returns) (maxL := 5) (rt := none) (by decide) rfl (Nat.le_of_ble_eq_true rfl) ?_
  intro p e s m args below meth c A ls St hr hlocks hin hK hT hA hP hD hS hl
  obtain ⟨hx, hb, hml, hown, hts⟩ := id St
  have hl : lv_has ls 5 [(0, .ref o), (1, .int x), (2, .int 0)] := hl
  have hrm3 := rM3 rfm
  have hrm4 := rM4 rfm
  refine lv_iload_n hx hb dX12_returns_0 rfl (lv_at hl 2 rfl) ?_
  refine lv_if_eq (tgt := 24) hx hb dX12_returns_1 (by decide) (fun _ => ?_) (fun c1 => absurd (by decide) c1)
  refine lv_iconst (v := 0) hx hb dX12_returns_24 (by decide) ?_
  refine lv_istore_n (lv' := [(3, .int 0), (0, .ref o), (1, .int x), (2, .int 0)]) hx hb dX12_returns_25 rfl hl (by decide) rfl (fun ls hl => ?_)
  refine lv_iconst (v := 0) hx hb dX12_returns_26 (by decide) ?_
  refine lv_istore (lv' := [(4, .int 0), (3, .int 0), (0, .ref o), (1, .int x), (2, .int 0)]) hx hb dX12_returns_27 hl (by decide) rfl (fun ls hl => ?_)
  have hl := lv_sub (l' := [(0, .ref o), (1, .int x), (2, .int 0), (3, .int 0), (4, .int 0)]) hl [2, 3, 4, 1, 0] rfl
  have LP29_5 : ∀ (kf : Nat) (x_2 : Int32), (0 ≤ x_2.toInt ∧ x_2.toInt ≤ 8) → (x_2.toInt ≤ (fm 3).toInt) → ∀ (H : Heap) (locs : List Loc) (ls : Array Slot), ((9 - x_2.toInt).toNat) < kf → va_P g.1 vwCl (List.flatten [bMo g o a th hi ac tp ba en tA fl de iD iO tU fm fk fa fc ft ff fb fi]) H → va_D A (List.flatten [bMo g o a th hi ac tp ba en tA fl de iD iO tU fm fk fa fc ft ff fb fi]) → va_S A s.heap H locs → lv_has ls 5 [(0, .ref o), (1, .int x), (2, .int 0), (3, .int 0), (4, .int x_2)] → W p l e ({ frames := 1, cells := 0, slots := 0, locals := 23 } : Room) s m args below meth c H locs (0) (0) (zF g (fun (fm2 : Nat → Int32) => none) (fun (fm2 : Nat → Int32) => (rM fm2) ∧ (zCR (zV fm2, fm2 10) (zCB1 (fm 3).toInt.toNat (fm 8) (fm 7) 0 x.toInt.toNat (zV fm, fm 10))) ∧ (zQk fm fm2)) (fun (fm2 : Nat → Int32) => [bMo g o a th hi ac tp ba en tA fl de iD iO tU fm2 fk fa fc ft ff fb fi]) ({ frames := 1, cells := 0, slots := 0, locals := 23 } : Room) below args s A) (F0 m 29 ls []) := by
    intro kf
    induction kf with
    | zero => intro x_2 i3 i4 H locs ls hk; exact absurd hk (Nat.not_lt_zero _)
    | succ kf ih29_6 =>
      intro x_2 i3 i4 H locs ls hk29_6 hP hD hS hl
      refine lv_iload hx hb dX12_returns_29 (lv_at hl 4 rfl) ?_
      refine lv_aload_n hx hb dX12_returns_31 rfl (lv_at hl 0 rfl) ?_
      refine va_get (D := g.1) (ci := 10) (v := .ref (a 0)) (C := RX12) (T := TX12) (N := 20) hx hb hts izRX12 hown hK hP 0 rfl rfl 1 (by decide) (hts _ k815) (fun _ h9 => h9) rfl dX12_returns_32 ?_
      refine lv_iconst (v := 3) hx hb dX12_returns_35 (by decide) ?_
      refine va_iald hx hb hK hP 1 0 rfl rfl (zin rfl) dX12_returns_36 ?_
      refine ztop (r := (fm 3)) rfl ?_
      refine lv_icmp_ge (tgt := 93) hx hb dX12_returns_37 (by decide) (fun cb9 => ?_) (fun cb9 => ?_)
      · skip
        have c7 : (fm 3).toInt ≤ x_2.toInt := zle cb9 rfl rfl
        refine lv_aload_n hx hb dX12_returns_93 rfl (lv_at hl 0 rfl) ?_
        refine lv_iload_n hx hb dX12_returns_94 rfl (lv_at hl 1 rfl) ?_
        refine lv_iconst (v := 4) hx hb dX12_returns_95 (by decide) ?_
        refine lv_iconst (v := (-1)) hx hb dX12_returns_96 (by decide) ?_
        refine mcallV' (g := g) (q0 := 0) (ci := 10) (As := [.int x, .int 4, .int (-1)]) (rest := []) St hK hT hA hP hD hS hl.1 [0] [] rfl rfl rfl (m_put3F l g o a th hi ac tp ba en tA fl de iD iO tU fm fk fa fc ft ff fb fi x (-1) rfm b_x) (cwV 3 hts (zgL (zl4 k909 k910 k911 k839) k832) rfl rfl rfl (by decide +kernel) ⟨Nat.le_of_ble_eq_true rfl, Nat.le_of_ble_eq_true rfl⟩) rfl rfl rfl rfl (Nat.le_of_ble_eq_true rfl) dX12_returns_97 ⟨(Nat.le_of_ble_eq_true rfl), (Nat.le_of_ble_eq_true rfl)⟩ (fun fm2_8 H locs hq9 hP hD hS => ?_)
        replace hq9 : (rM fm2_8) ∧ (fm2_8 = upd fm (15 + 5 * x.toInt.toNat) (-1)) := hq9
        have hP : va_P g.1 vwCl (List.flatten [bMo g o a th hi ac tp ba en tA fl de iD iO tU fm2_8 fk fa fc ft ff fb fi]) H := hP
        have hD : va_D A (List.flatten [bMo g o a th hi ac tp ba en tA fl de iD iO tU fm2_8 fk fa fc ft ff fb fi]) := hD
        refine W.widen (k := 0) (n := 0) (Nat.le_of_ble_eq_true rfl) (Nat.le_of_ble_eq_true rfl) ?_
        refine W.eq (g2 := F0 m 100 ls []) rfl ?_
        obtain ⟨rfm2_8, hq9_1⟩ := hq9
        refine lv_iload_n hx hb dX12_returns_100 rfl (lv_at hl 2 rfl) ?_
        refine lv_if_ne (tgt := 105) hx hb dX12_returns_101 (by decide) (fun c10 => absurd (by decide) c10) (fun _ => ?_)
        have hP : va_P g.1 vwCl (List.flatten [bMo g o a th hi ac tp ba en tA fl de iD iO tU fm2_8 fk fa fc ft ff fb fi]) H := hP
        have hD : va_D A (List.flatten [bMo g o a th hi ac tp ba en tA fl de iD iO tU fm2_8 fk fa fc ft ff fb fi]) := hD
        exact mret_v hx hb hr hlocks hS (Nat.le_of_ble_eq_true rfl) (Nat.le_of_ble_eq_true rfl) dX12_returns_104 (fm2_8) rfl (show (rM fm2_8) ∧ (zCR (zV fm2_8, fm2_8 10) (zCB1 (fm 3).toInt.toNat (fm 8) (fm 7) 0 x.toInt.toNat (zV fm, fm 10))) ∧ (zQk fm fm2_8) from ⟨(by first | assumption | omega), (zRe0 (by omega) h3 hd9 (by decide) hq9_1), (zQk_u (zQk_r _) hq9_1 (by omega))⟩) hP hD
      · skip
        have c11 : x_2.toInt < (fm 3).toInt := zlti (Int32.not_le.mp cb9) rfl rfl
        have n12 : x_2.toInt ≤ 7 := zL1 (b := 8) c11 (rM3 rfm).2 (by decide)
        have n13 : 1 ≤ (fm 3).toInt := zL2 (a := 0) c11 i3.1 (by decide)
        refine lv_iload_n hx hb dX12_returns_40 rfl (lv_at hl 2 rfl) ?_
        refine lv_if_eq (tgt := 93) hx hb dX12_returns_41 (by decide) (fun _ => ?_) (fun c14 => absurd (by decide) c14)
        refine lv_aload_n hx hb dX12_returns_93 rfl (lv_at hl 0 rfl) ?_
        refine lv_iload_n hx hb dX12_returns_94 rfl (lv_at hl 1 rfl) ?_
        refine lv_iconst (v := 4) hx hb dX12_returns_95 (by decide) ?_
        refine lv_iconst (v := (-1)) hx hb dX12_returns_96 (by decide) ?_
        refine mcallV' (g := g) (q0 := 0) (ci := 10) (As := [.int x, .int 4, .int (-1)]) (rest := []) St hK hT hA hP hD hS hl.1 [0] [] rfl rfl rfl (m_put3F l g o a th hi ac tp ba en tA fl de iD iO tU fm fk fa fc ft ff fb fi x (-1) rfm b_x) (cwV 3 hts (zgL (zl4 k909 k910 k911 k839) k832) rfl rfl rfl (by decide +kernel) ⟨Nat.le_of_ble_eq_true rfl, Nat.le_of_ble_eq_true rfl⟩) rfl rfl rfl rfl (Nat.le_of_ble_eq_true rfl) dX12_returns_97 ⟨(Nat.le_of_ble_eq_true rfl), (Nat.le_of_ble_eq_true rfl)⟩ (fun fm2_15 H locs hq16 hP hD hS => ?_)
        replace hq16 : (rM fm2_15) ∧ (fm2_15 = upd fm (15 + 5 * x.toInt.toNat) (-1)) := hq16
        have hP : va_P g.1 vwCl (List.flatten [bMo g o a th hi ac tp ba en tA fl de iD iO tU fm2_15 fk fa fc ft ff fb fi]) H := hP
        have hD : va_D A (List.flatten [bMo g o a th hi ac tp ba en tA fl de iD iO tU fm2_15 fk fa fc ft ff fb fi]) := hD
        refine W.widen (k := 0) (n := 0) (Nat.le_of_ble_eq_true rfl) (Nat.le_of_ble_eq_true rfl) ?_
        refine W.eq (g2 := F0 m 100 ls []) rfl ?_
        obtain ⟨rfm2_15, hq16_1⟩ := hq16
        refine lv_iload_n hx hb dX12_returns_100 rfl (lv_at hl 2 rfl) ?_
        refine lv_if_ne (tgt := 105) hx hb dX12_returns_101 (by decide) (fun c17 => absurd (by decide) c17) (fun _ => ?_)
        have hP : va_P g.1 vwCl (List.flatten [bMo g o a th hi ac tp ba en tA fl de iD iO tU fm2_15 fk fa fc ft ff fb fi]) H := hP
        have hD : va_D A (List.flatten [bMo g o a th hi ac tp ba en tA fl de iD iO tU fm2_15 fk fa fc ft ff fb fi]) := hD
        exact mret_v hx hb hr hlocks hS (Nat.le_of_ble_eq_true rfl) (Nat.le_of_ble_eq_true rfl) dX12_returns_104 (fm2_15) rfl (show (rM fm2_15) ∧ (zCR (zV fm2_15, fm2_15 10) (zCB1 (fm 3).toInt.toNat (fm 8) (fm 7) 0 x.toInt.toNat (zV fm, fm 10))) ∧ (zQk fm fm2_15) from ⟨(by first | assumption | omega), (zRe0 (by omega) h3 hd9 (by decide) hq16_1), (zQk_u (zQk_r _) hq16_1 (by omega))⟩) hP hD
  have hL0 : (0 : Int32).toInt = 0 := by decide
  have hP : va_P g.1 vwCl (List.flatten [bMo g o a th hi ac tp ba en tA fl de iD iO tU fm fk fa fc ft ff fb fi]) s.heap := hP
  have hD : va_D A (List.flatten [bMo g o a th hi ac tp ba en tA fl de iD iO tU fm fk fa fc ft ff fb fi]) := hD
  exact LP29_5 _ 0 (by decide) (by first | omega | assumption | decide) s.heap _ ls (Nat.lt_succ_self _)  hP hD hS (lv_sub hl [0, 1, 2, 3, 4] rfl)
set_option maxRecDepth 100000 in
set_option maxHeartbeats 4000000 in
theorem m_returns1G (l : Launch) (g : zG) (o : Nat) (a : Nat → Nat) (th : Int32) (hi : Int32) (ac : Int32) (tp : Int32) (ba : Int32) (en : Int32) (tA : Int32) (fl : Int32) (de : Int32) (iD : Int32) (iO : Int32) (tU : Int32) (fm : Nat → Int32) (fk : Nat → Int32) (fa : Nat → Int32) (fc : Nat → Int32) (ft : Nat → Int32) (ff : Nat → Int32) (fb : Nat → Int32) (fi : Nat → Int32) (x : Int32) (dr : Int32) (rfm : rM fm) (b_x : 0 ≤ x.toInt ∧ x.toInt ≤ 7) (h3 : ¬ (zV fm 3 x.toInt.toNat).toInt = -1) (hd9 : (zV fm 3 x.toInt.toNat).toInt ≤ (fm 8).toInt) (hdr : ¬ dr.toInt = 0) : zM' g l yX12_returns (Cond.code yX12_returns cX12_returns 5 none :: zB) ({ frames := 4, cells := 0, slots := 0, locals := 88 } : Room) [.ref o, .int x, .int dr] [bMo g o a th hi ac tp ba en tA fl de iD iO tU fm fk fa fc ft ff fb fi] (fun (fm2 : Nat → Int32) => none) (fun (fm2 : Nat → Int32) => (rM fm2) ∧ (zCR (zV fm2, fm2 10) (zCB1 (fm 3).toInt.toNat (fm 8) (fm 7) dr x.toInt.toNat (zV fm, fm 10))) ∧ (zQk fm fm2)) (fun (fm2 : Nat → Int32) => [bMo g o a th hi ac tp ba en tA fl de iD iO tU fm2 fk fa fc ft ff fb fi]) := by
  refine zM'.of (cc := cX12_returns) (maxL := 5) (rt := none) (by decide) rfl (Nat.le_of_ble_eq_true rfl) ?_
  intro p e s m args below meth c A ls St hr hlocks hin hK hT hA hP hD hS hl
  obtain ⟨hx, hb, hml, hown, hts⟩ := id St
  have hl : lv_has ls 5 [(0, .ref o), (1, .int x), (2, .int dr)] := hl
  have hrm3 := rM3 rfm
  have hrm4 := rM4 rfm
  refine lv_iload_n hx hb dX12_returns_0 rfl (lv_at hl 2 rfl) ?_
  refine lv_if_eq (tgt := 24) hx hb dX12_returns_1 (by decide) (fun cb9 => ?_) (fun cb9 => ?_)
  · skip
    exact absurd (show dr.toInt = 0 from zeq cb9 rfl (by decide)) (by omega)
  · skip
    have c2 : ¬ dr.toInt = 0 := zne cb9 rfl (by decide)
    refine lv_aload_n hx hb dX12_returns_4 rfl (lv_at hl 0 rfl) ?_
    refine lv_bipush (v := 100) hx hb dX12_returns_5 (by decide) ?_
    refine mcallV' (g := g) (q0 := 0) (ci := 10) (As := [.int 100]) (rest := []) St hK hT hA hP hD hS hl.1 [0] [] rfl rfl rfl (m_drawG l g o a th hi ac tp ba en tA fl de iD iO tU fm fk fa fc ft ff fb fi rfm) (cwV 1 hts (zgL (zl4 k1009 k1010 k1011 k839) k997) rfl rfl rfl (by decide +kernel) ⟨Nat.le_of_ble_eq_true rfl, Nat.le_of_ble_eq_true rfl⟩) rfl rfl rfl rfl (Nat.le_of_ble_eq_true rfl) dX12_returns_7 ⟨(Nat.le_of_ble_eq_true rfl), (Nat.le_of_ble_eq_true rfl)⟩ (fun fm2_3 H locs hq4 hP hD hS => ?_)
    replace hq4 : (rM fm2_3) ∧ (fm2_3 = upd fm 10 (zDr (fm 10))) := hq4
    have hP : va_P g.1 vwCl (List.flatten [bMo g o a th hi ac tp ba en tA fl de iD iO tU fm2_3 fk fa fc ft ff fb fi]) H := hP
    have hD : va_D A (List.flatten [bMo g o a th hi ac tp ba en tA fl de iD iO tU fm2_3 fk fa fc ft ff fb fi]) := hD
    refine W.widen (k := 0) (n := 0) (Nat.le_of_ble_eq_true rfl) (Nat.le_of_ble_eq_true rfl) ?_
    refine W.eq (g2 := F0 m 10 ls [.int (zDw (fm 10) - zDw (fm 10) / 100 * 100)]) rfl ?_
    obtain ⟨rfm2_3, hq4_1⟩ := hq4
    refine lv_aload_n hx hb dX12_returns_10 rfl (lv_at hl 0 rfl) ?_
    refine va_get (D := g.1) (ci := 10) (v := .ref (a 0)) (C := RX12) (T := TX12) (N := 20) hx hb hts izRX12 hown hK hP 0 rfl rfl 1 (by decide) (hts _ k815) (fun _ h9 => h9) rfl dX12_returns_11 ?_
    refine lv_bipush (v := 7) hx hb dX12_returns_14 (by decide) ?_
    refine va_iald hx hb hK hP 1 0 rfl rfl (zin rfl) dX12_returns_16 ?_
    refine ztop (r := (fm 7)) (by show fm2_3 7 = (fm 7); rw [hq4_1]; refine Eq.trans (pk_un (by omega)) ?_; exact rfl) ?_
    refine lv_icmp_ge (tgt := 24) hx hb dX12_returns_17 (by decide) (fun cb9 => ?_) (fun cb9 => ?_)
    · skip
      have c5 : (fm 7).toInt ≤ (zDw (fm 10) - zDw (fm 10) / 100 * 100).toInt := zle cb9 rfl rfl
      refine lv_iconst (v := 0) hx hb dX12_returns_24 (by decide) ?_
      refine lv_istore_n (lv' := [(3, .int 0), (0, .ref o), (1, .int x), (2, .int dr)]) hx hb dX12_returns_25 rfl hl (by decide) rfl (fun ls hl => ?_)
      refine lv_iconst (v := 0) hx hb dX12_returns_26 (by decide) ?_
      refine lv_istore (lv' := [(4, .int 0), (3, .int 0), (0, .ref o), (1, .int x), (2, .int dr)]) hx hb dX12_returns_27 hl (by decide) rfl (fun ls hl => ?_)
      have hl := lv_sub (l' := [(0, .ref o), (1, .int x), (2, .int dr), (3, .int 0), (4, .int 0)]) hl [2, 3, 4, 1, 0] rfl
      have LP29_13 : ∀ (kf : Nat) (x_6 : Int32) (fm_7 : Nat → Int32), (0 ≤ x_6.toInt ∧ x_6.toInt ≤ 8) → (rM fm_7) → (zEq (zV fm_7) (zIt (zSp1 x.toInt.toNat false) (zV fm2_3) x_6.toInt.toNat)) → (zQk fm2_3 fm_7) → (fm_7 10 = fm2_3 10) → (x_6.toInt ≤ (fm 3).toInt) → ∀ (H : Heap) (locs : List Loc) (ls : Array Slot), ((9 - x_6.toInt).toNat) < kf → va_P g.1 vwCl (List.flatten [bMo g o a th hi ac tp ba en tA fl de iD iO tU fm_7 fk fa fc ft ff fb fi]) H → va_D A (List.flatten [bMo g o a th hi ac tp ba en tA fl de iD iO tU fm_7 fk fa fc ft ff fb fi]) → va_S A s.heap H locs → lv_has ls 5 [(0, .ref o), (1, .int x), (2, .int dr), (3, .int 0), (4, .int x_6)] → W p l e ({ frames := 4, cells := 0, slots := 0, locals := 88 } : Room) s m args below meth c H locs (0) (0) (zF g (fun (fm2 : Nat → Int32) => none) (fun (fm2 : Nat → Int32) => (rM fm2) ∧ (zCR (zV fm2, fm2 10) (zCB1 (fm 3).toInt.toNat (fm 8) (fm 7) dr x.toInt.toNat (zV fm, fm 10))) ∧ (zQk fm fm2)) (fun (fm2 : Nat → Int32) => [bMo g o a th hi ac tp ba en tA fl de iD iO tU fm2 fk fa fc ft ff fb fi]) ({ frames := 4, cells := 0, slots := 0, locals := 88 } : Room) below args s A) (F0 m 29 ls []) := by
        intro kf
        induction kf with
        | zero => intro x_6 fm_7 i8 rfm_7 i9 i10 i11 i12 H locs ls hk; exact absurd hk (Nat.not_lt_zero _)
        | succ kf ih29_14 =>
          intro x_6 fm_7 i8 rfm_7 i9 i10 i11 i12 H locs ls hk29_14 hP hD hS hl
          have w15 : (fm_7 3).toInt = (fm 3).toInt := congrArg Int32.toInt ((i10 3 (by omega)).trans (by rw [hq4_1]; exact pk_un (by decide)))
          refine lv_iload hx hb dX12_returns_29 (lv_at hl 4 rfl) ?_
          refine lv_aload_n hx hb dX12_returns_31 rfl (lv_at hl 0 rfl) ?_
          refine va_get (D := g.1) (ci := 10) (v := .ref (a 0)) (C := RX12) (T := TX12) (N := 20) hx hb hts izRX12 hown hK hP 0 rfl rfl 1 (by decide) (hts _ k815) (fun _ h9 => h9) rfl dX12_returns_32 ?_
          refine lv_iconst (v := 3) hx hb dX12_returns_35 (by decide) ?_
          refine va_iald hx hb hK hP 1 0 rfl rfl (zin rfl) dX12_returns_36 ?_
          refine ztop (r := (fm_7 3)) rfl ?_
          refine lv_icmp_ge (tgt := 93) hx hb dX12_returns_37 (by decide) (fun cb9 => ?_) (fun cb9 => ?_)
          · skip
            have c16 : (fm_7 3).toInt ≤ x_6.toInt := zle cb9 rfl rfl
            refine lv_aload_n hx hb dX12_returns_93 rfl (lv_at hl 0 rfl) ?_
            refine lv_iload_n hx hb dX12_returns_94 rfl (lv_at hl 1 rfl) ?_
            refine lv_iconst (v := 4) hx hb dX12_returns_95 (by decide) ?_
            refine lv_iconst (v := (-1)) hx hb dX12_returns_96 (by decide) ?_
            refine mcallV' (g := g) (q0 := 0) (ci := 10) (As := [.int x, .int 4, .int (-1)]) (rest := []) St hK hT hA hP hD hS hl.1 [0] [] rfl rfl rfl (m_put3F l g o a th hi ac tp ba en tA fl de iD iO tU fm_7 fk fa fc ft ff fb fi x (-1) rfm_7 b_x) (cwV 3 hts (zgL (zl4 k909 k910 k911 k839) k832) rfl rfl rfl (by decide +kernel) ⟨Nat.le_of_ble_eq_true rfl, Nat.le_of_ble_eq_true rfl⟩) rfl rfl rfl rfl (Nat.le_of_ble_eq_true rfl) dX12_returns_97 ⟨(Nat.le_of_ble_eq_true rfl), (Nat.le_of_ble_eq_true rfl)⟩ (fun fm2_17 H locs hq18 hP hD hS => ?_)
            replace hq18 : (rM fm2_17) ∧ (fm2_17 = upd fm_7 (15 + 5 * x.toInt.toNat) (-1)) := hq18
            have hP : va_P g.1 vwCl (List.flatten [bMo g o a th hi ac tp ba en tA fl de iD iO tU fm2_17 fk fa fc ft ff fb fi]) H := hP
            have hD : va_D A (List.flatten [bMo g o a th hi ac tp ba en tA fl de iD iO tU fm2_17 fk fa fc ft ff fb fi]) := hD
            refine W.widen (k := 0) (n := 0) (Nat.le_of_ble_eq_true rfl) (Nat.le_of_ble_eq_true rfl) ?_
            refine W.eq (g2 := F0 m 100 ls []) rfl ?_
            obtain ⟨rfm2_17, hq18_1⟩ := hq18
            refine lv_iload_n hx hb dX12_returns_100 rfl (lv_at hl 2 rfl) ?_
            refine lv_if_ne (tgt := 105) hx hb dX12_returns_101 (by decide) (fun cb9 => ?_) (fun cb9 => ?_)
            · skip
              have c19 : ¬ dr.toInt = 0 := zne cb9 rfl (by decide)
              refine lv_aload_n hx hb dX12_returns_105 rfl (lv_at hl 0 rfl) ?_
              refine lv_iload_n hx hb dX12_returns_106 rfl (lv_at hl 1 rfl) ?_
              refine lv_iconst (v := 0) hx hb dX12_returns_107 (by decide) ?_
              refine lv_iload_n hx hb dX12_returns_108 rfl (lv_at hl 3 rfl) ?_
              refine lv_if_eq (tgt := 117) hx hb dX12_returns_109 (by decide) (fun _ => ?_) (fun c20 => absurd (by decide) c20)
              refine lv_iconst (v := 0) hx hb dX12_returns_117 (by decide) ?_
              refine mcallV' (g := g) (q0 := 0) (ci := 10) (As := [.int x, .int 0, .int 0]) (rest := []) St hK hT hA hP hD hS hl.1 [0] [] rfl rfl rfl (m_put0F l g o a th hi ac tp ba en tA fl de iD iO tU fm2_17 fk fa fc ft ff fb fi x 0 rfm2_17 b_x) (cwV 3 hts (zgL (zl4 k909 k910 k911 k839) k832) rfl rfl rfl (by decide +kernel) ⟨Nat.le_of_ble_eq_true rfl, Nat.le_of_ble_eq_true rfl⟩) rfl rfl rfl rfl (Nat.le_of_ble_eq_true rfl) dX12_returns_118 ⟨(Nat.le_of_ble_eq_true rfl), (Nat.le_of_ble_eq_true rfl)⟩ (fun fm2_21 H locs hq22 hP hD hS => ?_)
              replace hq22 : (rM fm2_21) ∧ (fm2_21 = upd fm2_17 (11 + 5 * x.toInt.toNat) 0) := hq22
              have hP : va_P g.1 vwCl (List.flatten [bMo g o a th hi ac tp ba en tA fl de iD iO tU fm2_21 fk fa fc ft ff fb fi]) H := hP
              have hD : va_D A (List.flatten [bMo g o a th hi ac tp ba en tA fl de iD iO tU fm2_21 fk fa fc ft ff fb fi]) := hD
              refine W.widen (k := 0) (n := 0) (Nat.le_of_ble_eq_true rfl) (Nat.le_of_ble_eq_true rfl) ?_
              refine W.eq (g2 := F0 m 121 ls []) rfl ?_
              obtain ⟨rfm2_21, hq22_1⟩ := hq22
              refine lv_aload_n hx hb dX12_returns_121 rfl (lv_at hl 0 rfl) ?_
              refine lv_iload_n hx hb dX12_returns_122 rfl (lv_at hl 1 rfl) ?_
              refine lv_iload_n hx hb dX12_returns_123 rfl (lv_at hl 3 rfl) ?_
              refine lv_if_eq (tgt := 131) hx hb dX12_returns_124 (by decide) (fun _ => ?_) (fun c23 => absurd (by decide) c23)
              refine lv_iconst (v := 3) hx hb dX12_returns_131 (by decide) ?_
              refine mcallV' (g := g) (q0 := 0) (ci := 10) (As := [.int x, .int 3]) (rest := []) St hK hT hA hP hD hS hl.1 [0] [] rfl rfl rfl (m_logsG l g o a th hi ac tp ba en tA fl de iD iO tU fm2_21 fk fa fc ft ff fb fi x 3 rfm2_21) (cwV 2 hts (zgL (zl4 k1005 k1006 k1007 k839) k999) rfl rfl rfl (by decide +kernel) ⟨Nat.le_of_ble_eq_true rfl, Nat.le_of_ble_eq_true rfl⟩) rfl rfl rfl rfl (Nat.le_of_ble_eq_true rfl) dX12_returns_132 ⟨(Nat.le_of_ble_eq_true rfl), (Nat.le_of_ble_eq_true rfl)⟩ (fun fm2_24 H locs hq25 hP hD hS => ?_)
              replace hq25 : (rM fm2_24) ∧ (zLo fm2_21 fm2_24) := hq25
              have hP : va_P g.1 vwCl (List.flatten [bMo g o a th hi ac tp ba en tA fl de iD iO tU fm2_24 fk fa fc ft ff fb fi]) H := hP
              have hD : va_D A (List.flatten [bMo g o a th hi ac tp ba en tA fl de iD iO tU fm2_24 fk fa fc ft ff fb fi]) := hD
              refine W.widen (k := 0) (n := 0) (Nat.le_of_ble_eq_true rfl) (Nat.le_of_ble_eq_true rfl) ?_
              refine W.eq (g2 := F0 m 135 ls []) rfl ?_
              obtain ⟨rfm2_24, hq25_1⟩ := hq25
              have hP : va_P g.1 vwCl (List.flatten [bMo g o a th hi ac tp ba en tA fl de iD iO tU fm2_24 fk fa fc ft ff fb fi]) H := hP
              have hD : va_D A (List.flatten [bMo g o a th hi ac tp ba en tA fl de iD iO tU fm2_24 fk fa fc ft ff fb fi]) := hD
              exact mret_v hx hb hr hlocks hS (Nat.le_of_ble_eq_true rfl) (Nat.le_of_ble_eq_true rfl) dX12_returns_135 (fm2_24) rfl (show (rM fm2_24) ∧ (zCR (zV fm2_24, fm2_24 10) (zCB1 (fm 3).toInt.toNat (fm 8) (fm 7) dr x.toInt.toNat (zV fm, fm 10))) ∧ (zQk fm fm2_24) from ⟨(by first | assumption | omega), (zRe1 (by omega) (by omega) h3 hd9 (by omega) hq4_1 (zWa_f (by omega)) (zItR_x (R := zEq) i9 (by omega)) i11 hq18_1 hq22_1 (by first | rfl | exact (if_neg (by decide)).symm) hq25_1), (zQk_l (zQk_u (zQk_u (zQk_t (zQk_u (zQk_r _) hq4_1 (by omega)) i10) hq18_1 (by omega)) hq22_1 (by omega)) hq25_1)⟩) hP hD
            · skip
              exact absurd (show dr.toInt = 0 from zeq cb9 rfl (by decide)) (by omega)
          · skip
            have c27 : x_6.toInt < (fm_7 3).toInt := zlti (Int32.not_le.mp cb9) rfl rfl
            have n28 : x_6.toInt ≤ 7 := zL1 (b := 8) c27 (rM3 rfm_7).2 (by decide)
            have n29 : 1 ≤ (fm_7 3).toInt := zL2 (a := 0) c27 i8.1 (by decide)
            refine lv_iload_n hx hb dX12_returns_40 rfl (lv_at hl 2 rfl) ?_
            refine lv_if_eq (tgt := 93) hx hb dX12_returns_41 (by decide) (fun cb9 => ?_) (fun cb9 => ?_)
            · skip
              exact absurd (show dr.toInt = 0 from zeq cb9 rfl (by decide)) (by omega)
            · skip
              have c31 : ¬ dr.toInt = 0 := zne cb9 rfl (by decide)
              refine lv_iload hx hb dX12_returns_44 (lv_at hl 4 rfl) ?_
              refine lv_iload_n hx hb dX12_returns_46 rfl (lv_at hl 1 rfl) ?_
              refine lv_icmp_eq (tgt := 87) hx hb dX12_returns_47 (by decide) (fun cb9 => ?_) (fun cb9 => ?_)
              · skip
                have c32 : x_6.toInt = x.toInt := zeq cb9 rfl rfl
                refine ziinc3 (n' := 1) (a' := 1) (b' := 8) (lv' := fun v9 => [(4, .int v9), (0, .ref o), (1, .int x), (2, .int dr), (3, .int 0)]) hx hb dX12_returns_87 hl (k := 4) rfl (by decide) (fun _ => rfl) (zaddK (i := x_6.toInt) (j := 1) rfl (by decide) i8.1 n28 (Int.le_refl _) (Int.le_refl _) (by decide)) (fun x_33 ls hx_33 hl => ?_)
                refine lv_goto (tgt := 29) hx hb dX12_returns_90 (by decide) ?_
                have hl := lv_sub (l' := [(0, .ref o), (1, .int x), (2, .int dr), (3, .int 0), (4, .int x_33)]) hl [1, 2, 3, 4, 0] rfl
                have hP : va_P g.1 vwCl (List.flatten [bMo g o a th hi ac tp ba en tA fl de iD iO tU fm_7 fk fa fc ft ff fb fi]) H := hP
                have hD : va_D A (List.flatten [bMo g o a th hi ac tp ba en tA fl de iD iO tU fm_7 fk fa fc ft ff fb fi]) := hD
                exact ih29_14 x_33 fm_7 ⟨(Int.le_trans (by decide) hx_33.2.1), hx_33.2.2⟩ rfm_7 (zSpM_s (by omega) i9 hx_33.1 (by omega) (by omega) (show zEq (zV fm_7) (zSp1 x.toInt.toNat false x_6.toInt.toNat (zV fm_7)) from by rw [← zSp_s (by omega)]; exact zEq_r _)) i10 i11 (by first | omega | assumption | decide) H _ ls (zmK hx_33.1 (by decide) n28 (by decide) hk29_14)  hP hD hS (lv_sub hl [0, 1, 2, 3, 4] rfl)
              · skip
                have c34 : ¬ x_6.toInt = x.toInt := zne cb9 rfl rfl
                refine lv_aload_n hx hb dX12_returns_50 rfl (lv_at hl 0 rfl) ?_
                refine lv_iload hx hb dX12_returns_51 (lv_at hl 4 rfl) ?_
                refine mcallV' (g := g) (q0 := 0) (ci := 10) (As := [.int x_6]) (rest := []) St hK hT hA hP hD hS hl.1 [0] [] rfl rfl rfl (m_isHereG l g o a th hi ac tp ba en tA fl de iD iO tU fm_7 fk fa fc ft ff fb fi x_6 (⟨i8.1, n28⟩)) (cwV 1 hts (zgL (zl4 k846 k847 k848 k839) k841) rfl rfl rfl (by decide +kernel) ⟨Nat.le_of_ble_eq_true rfl, Nat.le_of_ble_eq_true rfl⟩) rfl rfl rfl rfl (Nat.le_of_ble_eq_true rfl) dX12_returns_53 ⟨(Nat.le_of_ble_eq_true rfl), (Nat.le_of_ble_eq_true rfl)⟩ (fun q_35 H locs hq36 hP hD hS => ?_)
                replace hq36 : (q_35 = 1 ∧ (zV fm_7 3 x_6.toInt.toNat).toInt = -1 ∨ q_35 = 0 ∧ ¬ (zV fm_7 3 x_6.toInt.toNat).toInt = -1) := hq36
                have hP : va_P g.1 vwCl (List.flatten [bMo g o a th hi ac tp ba en tA fl de iD iO tU fm_7 fk fa fc ft ff fb fi]) H := hP
                have hD : va_D A (List.flatten [bMo g o a th hi ac tp ba en tA fl de iD iO tU fm_7 fk fa fc ft ff fb fi]) := hD
                refine W.widen (k := 0) (n := 0) (Nat.le_of_ble_eq_true rfl) (Nat.le_of_ble_eq_true rfl) ?_
                refine W.eq (g2 := F0 m 56 ls [.int q_35]) rfl ?_
                rcases hq36 with ⟨rfl, hq36_k⟩ | ⟨rfl, hq36_k⟩
                · skip
                  refine lv_if_eq (tgt := 87) hx hb dX12_returns_56 (by decide) (fun c37 => absurd c37 (by decide)) (fun _ => ?_)
                  refine lv_aload_n hx hb dX12_returns_59 rfl (lv_at hl 0 rfl) ?_
                  refine lv_iload hx hb dX12_returns_60 (lv_at hl 4 rfl) ?_
                  refine lv_iload_n hx hb dX12_returns_62 rfl (lv_at hl 3 rfl) ?_
                  refine lv_if_eq (tgt := 76) hx hb dX12_returns_63 (by decide) (fun _ => ?_) (fun c38 => absurd (by decide) c38)
                  refine lv_aload_n hx hb dX12_returns_76 rfl (lv_at hl 0 rfl) ?_
                  refine lv_iload hx hb dX12_returns_77 (lv_at hl 4 rfl) ?_
                  refine lv_iload_n hx hb dX12_returns_79 rfl (lv_at hl 1 rfl) ?_
                  refine mcallV' (g := g) (q0 := 0) (ci := 10) (As := [.int x_6, .int x]) (rest := [.int x_6, .ref o]) St hK hT hA hP hD hS hl.1 [0] [] rfl rfl rfl (m_trustOfF l g o a th hi ac tp ba en tA fl de iD iO tU fm_7 fk fa fc ft ff fb fi x_6 x (⟨i8.1, n28⟩) b_x) (cwV 2 hts (zgL (zl4 k868 k869 k870 k839) k835) rfl rfl rfl (by decide +kernel) ⟨Nat.le_of_ble_eq_true rfl, Nat.le_of_ble_eq_true rfl⟩) rfl rfl rfl rfl (Nat.le_of_ble_eq_true rfl) dX12_returns_80 ⟨(Nat.le_of_ble_eq_true rfl), (Nat.le_of_ble_eq_true rfl)⟩ (fun _u H locs hq39 hP hD hS => ?_)
                  have hP : va_P g.1 vwCl (List.flatten [bMo g o a th hi ac tp ba en tA fl de iD iO tU fm_7 fk fa fc ft ff fb fi]) H := hP
                  have hD : va_D A (List.flatten [bMo g o a th hi ac tp ba en tA fl de iD iO tU fm_7 fk fa fc ft ff fb fi]) := hD
                  refine W.widen (k := 0) (n := 0) (Nat.le_of_ble_eq_true rfl) (Nat.le_of_ble_eq_true rfl) ?_
                  refine W.eq (g2 := F0 m 83 ls [.int (zV fm_7 5 (8 * x_6.toInt.toNat + x.toInt.toNat)), .int x_6, .ref o]) rfl ?_
                  refine lv_ineg hx hb dX12_returns_83 ?_
                  refine mcallV' (g := g) (q0 := 0) (ci := 10) (As := [.int x_6, .int (-(zV fm_7 5 (8 * x_6.toInt.toNat + x.toInt.toNat)))]) (rest := []) St hK hT hA hP hD hS hl.1 [0] [] rfl rfl rfl (m_believesG l g o a th hi ac tp ba en tA fl de iD iO tU fm_7 fk fa fc ft ff fb fi x_6 (-(zV fm_7 5 (8 * x_6.toInt.toNat + x.toInt.toNat))) rfm_7 (⟨i8.1, n28⟩)) (cwV 2 hts (zgL (zl4 k1012 k1013 k1014 k839) k1002) rfl rfl rfl (by decide +kernel) ⟨Nat.le_of_ble_eq_true rfl, Nat.le_of_ble_eq_true rfl⟩) rfl rfl rfl rfl (Nat.le_of_ble_eq_true rfl) dX12_returns_84 ⟨(Nat.le_of_ble_eq_true rfl), (Nat.le_of_ble_eq_true rfl)⟩ (fun fm2_40 H locs hq41 hP hD hS => ?_)
                  replace hq41 : (rM fm2_40) ∧ (fm2_40 = upd fm_7 (11 + 5 * x_6.toInt.toNat) (zCl (zV fm_7 0 x_6.toInt.toNat + (-(zV fm_7 5 (8 * x_6.toInt.toNat + x.toInt.toNat)))))) := hq41
                  have hP : va_P g.1 vwCl (List.flatten [bMo g o a th hi ac tp ba en tA fl de iD iO tU fm2_40 fk fa fc ft ff fb fi]) H := hP
                  have hD : va_D A (List.flatten [bMo g o a th hi ac tp ba en tA fl de iD iO tU fm2_40 fk fa fc ft ff fb fi]) := hD
                  refine W.widen (k := 0) (n := 0) (Nat.le_of_ble_eq_true rfl) (Nat.le_of_ble_eq_true rfl) ?_
                  refine W.eq (g2 := F0 m 87 ls []) rfl ?_
                  obtain ⟨rfm2_40, hq41_1⟩ := hq41
                  refine ziinc3 (n' := 1) (a' := 1) (b' := 8) (lv' := fun v9 => [(4, .int v9), (0, .ref o), (1, .int x), (2, .int dr), (3, .int 0)]) hx hb dX12_returns_87 hl (k := 4) rfl (by decide) (fun _ => rfl) (zaddK (i := x_6.toInt) (j := 1) rfl (by decide) i8.1 n28 (Int.le_refl _) (Int.le_refl _) (by decide)) (fun x_42 ls hx_42 hl => ?_)
                  refine lv_goto (tgt := 29) hx hb dX12_returns_90 (by decide) ?_
                  have hl := lv_sub (l' := [(0, .ref o), (1, .int x), (2, .int dr), (3, .int 0), (4, .int x_42)]) hl [1, 2, 3, 4, 0] rfl
                  have hP : va_P g.1 vwCl (List.flatten [bMo g o a th hi ac tp ba en tA fl de iD iO tU fm2_40 fk fa fc ft ff fb fi]) H := hP
                  have hD : va_D A (List.flatten [bMo g o a th hi ac tp ba en tA fl de iD iO tU fm2_40 fk fa fc ft ff fb fi]) := hD
                  exact ih29_14 x_42 fm2_40 ⟨(Int.le_trans (by decide) hx_42.2.1), hx_42.2.2⟩ rfm2_40 (zSpM_s (by omega) i9 hx_42.1 (by omega) (by omega) (zSpM (by omega) (by omega) (by omega) hq36_k hq41_1 (by first | rfl | exact (if_neg (by decide)).symm))) (zQk_u i10 hq41_1 (by omega)) (by rw [hq41_1, pk_un (by omega)]; exact i11) (by first | omega | assumption | decide) H _ ls (zmK hx_42.1 (by decide) n28 (by decide) hk29_14)  hP hD hS (lv_sub hl [0, 1, 2, 3, 4] rfl)
                · skip
                  refine lv_if_eq (tgt := 87) hx hb dX12_returns_56 (by decide) (fun _ => ?_) (fun c43 => absurd (by decide) c43)
                  refine ziinc3 (n' := 1) (a' := 1) (b' := 8) (lv' := fun v9 => [(4, .int v9), (0, .ref o), (1, .int x), (2, .int dr), (3, .int 0)]) hx hb dX12_returns_87 hl (k := 4) rfl (by decide) (fun _ => rfl) (zaddK (i := x_6.toInt) (j := 1) rfl (by decide) i8.1 n28 (Int.le_refl _) (Int.le_refl _) (by decide)) (fun x_44 ls hx_44 hl => ?_)
                  refine lv_goto (tgt := 29) hx hb dX12_returns_90 (by decide) ?_
                  have hl := lv_sub (l' := [(0, .ref o), (1, .int x), (2, .int dr), (3, .int 0), (4, .int x_44)]) hl [1, 2, 3, 4, 0] rfl
                  have hP : va_P g.1 vwCl (List.flatten [bMo g o a th hi ac tp ba en tA fl de iD iO tU fm_7 fk fa fc ft ff fb fi]) H := hP
                  have hD : va_D A (List.flatten [bMo g o a th hi ac tp ba en tA fl de iD iO tU fm_7 fk fa fc ft ff fb fi]) := hD
                  exact ih29_14 x_44 fm_7 ⟨(Int.le_trans (by decide) hx_44.2.1), hx_44.2.2⟩ rfm_7 (zSpM_s (by omega) i9 hx_44.1 (by omega) (by omega) (show zEq (zV fm_7) (zSp1 x.toInt.toNat false x_6.toInt.toNat (zV fm_7)) from by rw [← zSp_a (by omega) hq36_k]; exact zEq_r _)) i10 i11 (by first | omega | assumption | decide) H _ ls (zmK hx_44.1 (by decide) n28 (by decide) hk29_14)  hP hD hS (lv_sub hl [0, 1, 2, 3, 4] rfl)
      have hL0 : (0 : Int32).toInt = 0 := by decide
      have hP : va_P g.1 vwCl (List.flatten [bMo g o a th hi ac tp ba en tA fl de iD iO tU fm2_3 fk fa fc ft ff fb fi]) H := hP
      have hD : va_D A (List.flatten [bMo g o a th hi ac tp ba en tA fl de iD iO tU fm2_3 fk fa fc ft ff fb fi]) := hD
      exact LP29_13 _ 0 fm2_3 (by decide) rfm2_3 (zItR_0 (R := zEq) (F := zSp1 x.toInt.toNat false) (by decide) (zEq_r _)) (zQk_r _) rfl (by first | omega | assumption | decide) H _ ls (Nat.lt_succ_self _)  hP hD hS (lv_sub hl [0, 1, 2, 3, 4] rfl)
    · skip
      have c45 : (zDw (fm 10) - zDw (fm 10) / 100 * 100).toInt < (fm 7).toInt := zlti (Int32.not_le.mp cb9) rfl rfl
      refine lv_iconst (v := 1) hx hb dX12_returns_20 (by decide) ?_
      refine lv_goto (tgt := 25) hx hb dX12_returns_21 (by decide) ?_
      refine lv_istore_n (lv' := [(3, .int 1), (0, .ref o), (1, .int x), (2, .int dr)]) hx hb dX12_returns_25 rfl hl (by decide) rfl (fun ls hl => ?_)
      refine lv_iconst (v := 0) hx hb dX12_returns_26 (by decide) ?_
      refine lv_istore (lv' := [(4, .int 0), (3, .int 1), (0, .ref o), (1, .int x), (2, .int dr)]) hx hb dX12_returns_27 hl (by decide) rfl (fun ls hl => ?_)
      have hl := lv_sub (l' := [(0, .ref o), (1, .int x), (2, .int dr), (3, .int 1), (4, .int 0)]) hl [2, 3, 4, 1, 0] rfl
      have LP29_53 : ∀ (kf : Nat) (x_46 : Int32) (fm_47 : Nat → Int32), (0 ≤ x_46.toInt ∧ x_46.toInt ≤ 8) → (rM fm_47) → (zEq (zV fm_47) (zIt (zSp1 x.toInt.toNat true) (zV fm2_3) x_46.toInt.toNat)) → (zQk fm2_3 fm_47) → (fm_47 10 = fm2_3 10) → (x_46.toInt ≤ (fm 3).toInt) → ∀ (H : Heap) (locs : List Loc) (ls : Array Slot), ((9 - x_46.toInt).toNat) < kf → va_P g.1 vwCl (List.flatten [bMo g o a th hi ac tp ba en tA fl de iD iO tU fm_47 fk fa fc ft ff fb fi]) H → va_D A (List.flatten [bMo g o a th hi ac tp ba en tA fl de iD iO tU fm_47 fk fa fc ft ff fb fi]) → va_S A s.heap H locs → lv_has ls 5 [(0, .ref o), (1, .int x), (2, .int dr), (3, .int 1), (4, .int x_46)] → W p l e ({ frames := 4, cells := 0, slots := 0, locals := 88 } : Room) s m args below meth c H locs (0) (0) (zF g (fun (fm2 : Nat → Int32) => none) (fun (fm2 : Nat → Int32) => (rM fm2) ∧ (zCR (zV fm2, fm2 10) (zCB1 (fm 3).toInt.toNat (fm 8) (fm 7) dr x.toInt.toNat (zV fm, fm 10))) ∧ (zQk fm fm2)) (fun (fm2 : Nat → Int32) => [bMo g o a th hi ac tp ba en tA fl de iD iO tU fm2 fk fa fc ft ff fb fi]) ({ frames := 4, cells := 0, slots := 0, locals := 88 } : Room) below args s A) (F0 m 29 ls []) := by
        intro kf
        induction kf with
        | zero => intro x_46 fm_47 i48 rfm_47 i49 i50 i51 i52 H locs ls hk; exact absurd hk (Nat.not_lt_zero _)
        | succ kf ih29_54 =>
          intro x_46 fm_47 i48 rfm_47 i49 i50 i51 i52 H locs ls hk29_54 hP hD hS hl
          have w55 : (fm_47 3).toInt = (fm 3).toInt := congrArg Int32.toInt ((i50 3 (by omega)).trans (by rw [hq4_1]; exact pk_un (by decide)))
          refine lv_iload hx hb dX12_returns_29 (lv_at hl 4 rfl) ?_
          refine lv_aload_n hx hb dX12_returns_31 rfl (lv_at hl 0 rfl) ?_
          refine va_get (D := g.1) (ci := 10) (v := .ref (a 0)) (C := RX12) (T := TX12) (N := 20) hx hb hts izRX12 hown hK hP 0 rfl rfl 1 (by decide) (hts _ k815) (fun _ h9 => h9) rfl dX12_returns_32 ?_
          refine lv_iconst (v := 3) hx hb dX12_returns_35 (by decide) ?_
          refine va_iald hx hb hK hP 1 0 rfl rfl (zin rfl) dX12_returns_36 ?_
          refine ztop (r := (fm_47 3)) rfl ?_
          refine lv_icmp_ge (tgt := 93) hx hb dX12_returns_37 (by decide) (fun cb9 => ?_) (fun cb9 => ?_)
          · skip
            have c56 : (fm_47 3).toInt ≤ x_46.toInt := zle cb9 rfl rfl
            refine lv_aload_n hx hb dX12_returns_93 rfl (lv_at hl 0 rfl) ?_
            refine lv_iload_n hx hb dX12_returns_94 rfl (lv_at hl 1 rfl) ?_
            refine lv_iconst (v := 4) hx hb dX12_returns_95 (by decide) ?_
            refine lv_iconst (v := (-1)) hx hb dX12_returns_96 (by decide) ?_
            refine mcallV' (g := g) (q0 := 0) (ci := 10) (As := [.int x, .int 4, .int (-1)]) (rest := []) St hK hT hA hP hD hS hl.1 [0] [] rfl rfl rfl (m_put3F l g o a th hi ac tp ba en tA fl de iD iO tU fm_47 fk fa fc ft ff fb fi x (-1) rfm_47 b_x) (cwV 3 hts (zgL (zl4 k909 k910 k911 k839) k832) rfl rfl rfl (by decide +kernel) ⟨Nat.le_of_ble_eq_true rfl, Nat.le_of_ble_eq_true rfl⟩) rfl rfl rfl rfl (Nat.le_of_ble_eq_true rfl) dX12_returns_97 ⟨(Nat.le_of_ble_eq_true rfl), (Nat.le_of_ble_eq_true rfl)⟩ (fun fm2_57 H locs hq58 hP hD hS => ?_)
            replace hq58 : (rM fm2_57) ∧ (fm2_57 = upd fm_47 (15 + 5 * x.toInt.toNat) (-1)) := hq58
            have hP : va_P g.1 vwCl (List.flatten [bMo g o a th hi ac tp ba en tA fl de iD iO tU fm2_57 fk fa fc ft ff fb fi]) H := hP
            have hD : va_D A (List.flatten [bMo g o a th hi ac tp ba en tA fl de iD iO tU fm2_57 fk fa fc ft ff fb fi]) := hD
            refine W.widen (k := 0) (n := 0) (Nat.le_of_ble_eq_true rfl) (Nat.le_of_ble_eq_true rfl) ?_
            refine W.eq (g2 := F0 m 100 ls []) rfl ?_
            obtain ⟨rfm2_57, hq58_1⟩ := hq58
            refine lv_iload_n hx hb dX12_returns_100 rfl (lv_at hl 2 rfl) ?_
            refine lv_if_ne (tgt := 105) hx hb dX12_returns_101 (by decide) (fun cb9 => ?_) (fun cb9 => ?_)
            · skip
              have c59 : ¬ dr.toInt = 0 := zne cb9 rfl (by decide)
              refine lv_aload_n hx hb dX12_returns_105 rfl (lv_at hl 0 rfl) ?_
              refine lv_iload_n hx hb dX12_returns_106 rfl (lv_at hl 1 rfl) ?_
              refine lv_iconst (v := 0) hx hb dX12_returns_107 (by decide) ?_
              refine lv_iload_n hx hb dX12_returns_108 rfl (lv_at hl 3 rfl) ?_
              refine lv_if_eq (tgt := 117) hx hb dX12_returns_109 (by decide) (fun c60 => absurd c60 (by decide)) (fun _ => ?_)
              refine lv_bipush (v := 99) hx hb dX12_returns_112 (by decide) ?_
              refine lv_goto (tgt := 118) hx hb dX12_returns_114 (by decide) ?_
              refine mcallV' (g := g) (q0 := 0) (ci := 10) (As := [.int x, .int 0, .int 99]) (rest := []) St hK hT hA hP hD hS hl.1 [0] [] rfl rfl rfl (m_put0F l g o a th hi ac tp ba en tA fl de iD iO tU fm2_57 fk fa fc ft ff fb fi x 99 rfm2_57 b_x) (cwV 3 hts (zgL (zl4 k909 k910 k911 k839) k832) rfl rfl rfl (by decide +kernel) ⟨Nat.le_of_ble_eq_true rfl, Nat.le_of_ble_eq_true rfl⟩) rfl rfl rfl rfl (Nat.le_of_ble_eq_true rfl) dX12_returns_118 ⟨(Nat.le_of_ble_eq_true rfl), (Nat.le_of_ble_eq_true rfl)⟩ (fun fm2_61 H locs hq62 hP hD hS => ?_)
              replace hq62 : (rM fm2_61) ∧ (fm2_61 = upd fm2_57 (11 + 5 * x.toInt.toNat) 99) := hq62
              have hP : va_P g.1 vwCl (List.flatten [bMo g o a th hi ac tp ba en tA fl de iD iO tU fm2_61 fk fa fc ft ff fb fi]) H := hP
              have hD : va_D A (List.flatten [bMo g o a th hi ac tp ba en tA fl de iD iO tU fm2_61 fk fa fc ft ff fb fi]) := hD
              refine W.widen (k := 0) (n := 0) (Nat.le_of_ble_eq_true rfl) (Nat.le_of_ble_eq_true rfl) ?_
              refine W.eq (g2 := F0 m 121 ls []) rfl ?_
              obtain ⟨rfm2_61, hq62_1⟩ := hq62
              refine lv_aload_n hx hb dX12_returns_121 rfl (lv_at hl 0 rfl) ?_
              refine lv_iload_n hx hb dX12_returns_122 rfl (lv_at hl 1 rfl) ?_
              refine lv_iload_n hx hb dX12_returns_123 rfl (lv_at hl 3 rfl) ?_
              refine lv_if_eq (tgt := 131) hx hb dX12_returns_124 (by decide) (fun c63 => absurd c63 (by decide)) (fun _ => ?_)
              refine lv_iconst (v := 2) hx hb dX12_returns_127 (by decide) ?_
              refine lv_goto (tgt := 132) hx hb dX12_returns_128 (by decide) ?_
              refine mcallV' (g := g) (q0 := 0) (ci := 10) (As := [.int x, .int 2]) (rest := []) St hK hT hA hP hD hS hl.1 [0] [] rfl rfl rfl (m_logsG l g o a th hi ac tp ba en tA fl de iD iO tU fm2_61 fk fa fc ft ff fb fi x 2 rfm2_61) (cwV 2 hts (zgL (zl4 k1005 k1006 k1007 k839) k999) rfl rfl rfl (by decide +kernel) ⟨Nat.le_of_ble_eq_true rfl, Nat.le_of_ble_eq_true rfl⟩) rfl rfl rfl rfl (Nat.le_of_ble_eq_true rfl) dX12_returns_132 ⟨(Nat.le_of_ble_eq_true rfl), (Nat.le_of_ble_eq_true rfl)⟩ (fun fm2_64 H locs hq65 hP hD hS => ?_)
              replace hq65 : (rM fm2_64) ∧ (zLo fm2_61 fm2_64) := hq65
              have hP : va_P g.1 vwCl (List.flatten [bMo g o a th hi ac tp ba en tA fl de iD iO tU fm2_64 fk fa fc ft ff fb fi]) H := hP
              have hD : va_D A (List.flatten [bMo g o a th hi ac tp ba en tA fl de iD iO tU fm2_64 fk fa fc ft ff fb fi]) := hD
              refine W.widen (k := 0) (n := 0) (Nat.le_of_ble_eq_true rfl) (Nat.le_of_ble_eq_true rfl) ?_
              refine W.eq (g2 := F0 m 135 ls []) rfl ?_
              obtain ⟨rfm2_64, hq65_1⟩ := hq65
              have hP : va_P g.1 vwCl (List.flatten [bMo g o a th hi ac tp ba en tA fl de iD iO tU fm2_64 fk fa fc ft ff fb fi]) H := hP
              have hD : va_D A (List.flatten [bMo g o a th hi ac tp ba en tA fl de iD iO tU fm2_64 fk fa fc ft ff fb fi]) := hD
              exact mret_v hx hb hr hlocks hS (Nat.le_of_ble_eq_true rfl) (Nat.le_of_ble_eq_true rfl) dX12_returns_135 (fm2_64) rfl (show (rM fm2_64) ∧ (zCR (zV fm2_64, fm2_64 10) (zCB1 (fm 3).toInt.toNat (fm 8) (fm 7) dr x.toInt.toNat (zV fm, fm 10))) ∧ (zQk fm fm2_64) from ⟨(by first | assumption | omega), (zRe1 (by omega) (by omega) h3 hd9 (by omega) hq4_1 (zWa_t (by omega)) (zItR_x (R := zEq) i49 (by omega)) i51 hq58_1 hq62_1 (by first | rfl | exact (if_neg (by decide)).symm) hq65_1), (zQk_l (zQk_u (zQk_u (zQk_t (zQk_u (zQk_r _) hq4_1 (by omega)) i50) hq58_1 (by omega)) hq62_1 (by omega)) hq65_1)⟩) hP hD
            · skip
              exact absurd (show dr.toInt = 0 from zeq cb9 rfl (by decide)) (by omega)
          · skip
            have c67 : x_46.toInt < (fm_47 3).toInt := zlti (Int32.not_le.mp cb9) rfl rfl
            have n68 : x_46.toInt ≤ 7 := zL1 (b := 8) c67 (rM3 rfm_47).2 (by decide)
            have n69 : 1 ≤ (fm_47 3).toInt := zL2 (a := 0) c67 i48.1 (by decide)
            refine lv_iload_n hx hb dX12_returns_40 rfl (lv_at hl 2 rfl) ?_
            refine lv_if_eq (tgt := 93) hx hb dX12_returns_41 (by decide) (fun cb9 => ?_) (fun cb9 => ?_)
            · skip
              exact absurd (show dr.toInt = 0 from zeq cb9 rfl (by decide)) (by omega)
            · skip
              have c71 : ¬ dr.toInt = 0 := zne cb9 rfl (by decide)
              refine lv_iload hx hb dX12_returns_44 (lv_at hl 4 rfl) ?_
              refine lv_iload_n hx hb dX12_returns_46 rfl (lv_at hl 1 rfl) ?_
              refine lv_icmp_eq (tgt := 87) hx hb dX12_returns_47 (by decide) (fun cb9 => ?_) (fun cb9 => ?_)
              · skip
                have c72 : x_46.toInt = x.toInt := zeq cb9 rfl rfl
                refine ziinc3 (n' := 1) (a' := 1) (b' := 8) (lv' := fun v9 => [(4, .int v9), (0, .ref o), (1, .int x), (2, .int dr), (3, .int 1)]) hx hb dX12_returns_87 hl (k := 4) rfl (by decide) (fun _ => rfl) (zaddK (i := x_46.toInt) (j := 1) rfl (by decide) i48.1 n68 (Int.le_refl _) (Int.le_refl _) (by decide)) (fun x_73 ls hx_73 hl => ?_)
                refine lv_goto (tgt := 29) hx hb dX12_returns_90 (by decide) ?_
                have hl := lv_sub (l' := [(0, .ref o), (1, .int x), (2, .int dr), (3, .int 1), (4, .int x_73)]) hl [1, 2, 3, 4, 0] rfl
                have hP : va_P g.1 vwCl (List.flatten [bMo g o a th hi ac tp ba en tA fl de iD iO tU fm_47 fk fa fc ft ff fb fi]) H := hP
                have hD : va_D A (List.flatten [bMo g o a th hi ac tp ba en tA fl de iD iO tU fm_47 fk fa fc ft ff fb fi]) := hD
                exact ih29_54 x_73 fm_47 ⟨(Int.le_trans (by decide) hx_73.2.1), hx_73.2.2⟩ rfm_47 (zSpM_s (by omega) i49 hx_73.1 (by omega) (by omega) (show zEq (zV fm_47) (zSp1 x.toInt.toNat true x_46.toInt.toNat (zV fm_47)) from by rw [← zSp_s (by omega)]; exact zEq_r _)) i50 i51 (by first | omega | assumption | decide) H _ ls (zmK hx_73.1 (by decide) n68 (by decide) hk29_54)  hP hD hS (lv_sub hl [0, 1, 2, 3, 4] rfl)
              · skip
                have c74 : ¬ x_46.toInt = x.toInt := zne cb9 rfl rfl
                refine lv_aload_n hx hb dX12_returns_50 rfl (lv_at hl 0 rfl) ?_
                refine lv_iload hx hb dX12_returns_51 (lv_at hl 4 rfl) ?_
                refine mcallV' (g := g) (q0 := 0) (ci := 10) (As := [.int x_46]) (rest := []) St hK hT hA hP hD hS hl.1 [0] [] rfl rfl rfl (m_isHereG l g o a th hi ac tp ba en tA fl de iD iO tU fm_47 fk fa fc ft ff fb fi x_46 (⟨i48.1, n68⟩)) (cwV 1 hts (zgL (zl4 k846 k847 k848 k839) k841) rfl rfl rfl (by decide +kernel) ⟨Nat.le_of_ble_eq_true rfl, Nat.le_of_ble_eq_true rfl⟩) rfl rfl rfl rfl (Nat.le_of_ble_eq_true rfl) dX12_returns_53 ⟨(Nat.le_of_ble_eq_true rfl), (Nat.le_of_ble_eq_true rfl)⟩ (fun q_75 H locs hq76 hP hD hS => ?_)
                replace hq76 : (q_75 = 1 ∧ (zV fm_47 3 x_46.toInt.toNat).toInt = -1 ∨ q_75 = 0 ∧ ¬ (zV fm_47 3 x_46.toInt.toNat).toInt = -1) := hq76
                have hP : va_P g.1 vwCl (List.flatten [bMo g o a th hi ac tp ba en tA fl de iD iO tU fm_47 fk fa fc ft ff fb fi]) H := hP
                have hD : va_D A (List.flatten [bMo g o a th hi ac tp ba en tA fl de iD iO tU fm_47 fk fa fc ft ff fb fi]) := hD
                refine W.widen (k := 0) (n := 0) (Nat.le_of_ble_eq_true rfl) (Nat.le_of_ble_eq_true rfl) ?_
                refine W.eq (g2 := F0 m 56 ls [.int q_75]) rfl ?_
                rcases hq76 with ⟨rfl, hq76_k⟩ | ⟨rfl, hq76_k⟩
                · skip
                  refine lv_if_eq (tgt := 87) hx hb dX12_returns_56 (by decide) (fun c77 => absurd c77 (by decide)) (fun _ => ?_)
                  refine lv_aload_n hx hb dX12_returns_59 rfl (lv_at hl 0 rfl) ?_
                  refine lv_iload hx hb dX12_returns_60 (lv_at hl 4 rfl) ?_
                  refine lv_iload_n hx hb dX12_returns_62 rfl (lv_at hl 3 rfl) ?_
                  refine lv_if_eq (tgt := 76) hx hb dX12_returns_63 (by decide) (fun c78 => absurd c78 (by decide)) (fun _ => ?_)
                  refine lv_aload_n hx hb dX12_returns_66 rfl (lv_at hl 0 rfl) ?_
                  refine lv_iload hx hb dX12_returns_67 (lv_at hl 4 rfl) ?_
                  refine lv_iload_n hx hb dX12_returns_69 rfl (lv_at hl 1 rfl) ?_
                  refine mcallV' (g := g) (q0 := 0) (ci := 10) (As := [.int x_46, .int x]) (rest := [.int x_46, .ref o]) St hK hT hA hP hD hS hl.1 [0] [] rfl rfl rfl (m_trustOfF l g o a th hi ac tp ba en tA fl de iD iO tU fm_47 fk fa fc ft ff fb fi x_46 x (⟨i48.1, n68⟩) b_x) (cwV 2 hts (zgL (zl4 k868 k869 k870 k839) k835) rfl rfl rfl (by decide +kernel) ⟨Nat.le_of_ble_eq_true rfl, Nat.le_of_ble_eq_true rfl⟩) rfl rfl rfl rfl (Nat.le_of_ble_eq_true rfl) dX12_returns_70 ⟨(Nat.le_of_ble_eq_true rfl), (Nat.le_of_ble_eq_true rfl)⟩ (fun _u H locs hq79 hP hD hS => ?_)
                  have hP : va_P g.1 vwCl (List.flatten [bMo g o a th hi ac tp ba en tA fl de iD iO tU fm_47 fk fa fc ft ff fb fi]) H := hP
                  have hD : va_D A (List.flatten [bMo g o a th hi ac tp ba en tA fl de iD iO tU fm_47 fk fa fc ft ff fb fi]) := hD
                  refine W.widen (k := 0) (n := 0) (Nat.le_of_ble_eq_true rfl) (Nat.le_of_ble_eq_true rfl) ?_
                  refine W.eq (g2 := F0 m 73 ls [.int (zV fm_47 5 (8 * x_46.toInt.toNat + x.toInt.toNat)), .int x_46, .ref o]) rfl ?_
                  refine lv_goto (tgt := 84) hx hb dX12_returns_73 (by decide) ?_
                  refine mcallV' (g := g) (q0 := 0) (ci := 10) (As := [.int x_46, .int (zV fm_47 5 (8 * x_46.toInt.toNat + x.toInt.toNat))]) (rest := []) St hK hT hA hP hD hS hl.1 [0] [] rfl rfl rfl (m_believesG l g o a th hi ac tp ba en tA fl de iD iO tU fm_47 fk fa fc ft ff fb fi x_46 (zV fm_47 5 (8 * x_46.toInt.toNat + x.toInt.toNat)) rfm_47 (⟨i48.1, n68⟩)) (cwV 2 hts (zgL (zl4 k1012 k1013 k1014 k839) k1002) rfl rfl rfl (by decide +kernel) ⟨Nat.le_of_ble_eq_true rfl, Nat.le_of_ble_eq_true rfl⟩) rfl rfl rfl rfl (Nat.le_of_ble_eq_true rfl) dX12_returns_84 ⟨(Nat.le_of_ble_eq_true rfl), (Nat.le_of_ble_eq_true rfl)⟩ (fun fm2_80 H locs hq81 hP hD hS => ?_)
                  replace hq81 : (rM fm2_80) ∧ (fm2_80 = upd fm_47 (11 + 5 * x_46.toInt.toNat) (zCl (zV fm_47 0 x_46.toInt.toNat + (zV fm_47 5 (8 * x_46.toInt.toNat + x.toInt.toNat))))) := hq81
                  have hP : va_P g.1 vwCl (List.flatten [bMo g o a th hi ac tp ba en tA fl de iD iO tU fm2_80 fk fa fc ft ff fb fi]) H := hP
                  have hD : va_D A (List.flatten [bMo g o a th hi ac tp ba en tA fl de iD iO tU fm2_80 fk fa fc ft ff fb fi]) := hD
                  refine W.widen (k := 0) (n := 0) (Nat.le_of_ble_eq_true rfl) (Nat.le_of_ble_eq_true rfl) ?_
                  refine W.eq (g2 := F0 m 87 ls []) rfl ?_
                  obtain ⟨rfm2_80, hq81_1⟩ := hq81
                  refine ziinc3 (n' := 1) (a' := 1) (b' := 8) (lv' := fun v9 => [(4, .int v9), (0, .ref o), (1, .int x), (2, .int dr), (3, .int 1)]) hx hb dX12_returns_87 hl (k := 4) rfl (by decide) (fun _ => rfl) (zaddK (i := x_46.toInt) (j := 1) rfl (by decide) i48.1 n68 (Int.le_refl _) (Int.le_refl _) (by decide)) (fun x_82 ls hx_82 hl => ?_)
                  refine lv_goto (tgt := 29) hx hb dX12_returns_90 (by decide) ?_
                  have hl := lv_sub (l' := [(0, .ref o), (1, .int x), (2, .int dr), (3, .int 1), (4, .int x_82)]) hl [1, 2, 3, 4, 0] rfl
                  have hP : va_P g.1 vwCl (List.flatten [bMo g o a th hi ac tp ba en tA fl de iD iO tU fm2_80 fk fa fc ft ff fb fi]) H := hP
                  have hD : va_D A (List.flatten [bMo g o a th hi ac tp ba en tA fl de iD iO tU fm2_80 fk fa fc ft ff fb fi]) := hD
                  exact ih29_54 x_82 fm2_80 ⟨(Int.le_trans (by decide) hx_82.2.1), hx_82.2.2⟩ rfm2_80 (zSpM_s (by omega) i49 hx_82.1 (by omega) (by omega) (zSpM (by omega) (by omega) (by omega) hq76_k hq81_1 (by first | rfl | exact (if_neg (by decide)).symm))) (zQk_u i50 hq81_1 (by omega)) (by rw [hq81_1, pk_un (by omega)]; exact i51) (by first | omega | assumption | decide) H _ ls (zmK hx_82.1 (by decide) n68 (by decide) hk29_54)  hP hD hS (lv_sub hl [0, 1, 2, 3, 4] rfl)
                · skip
                  refine lv_if_eq (tgt := 87) hx hb dX12_returns_56 (by decide) (fun _ => ?_) (fun c83 => absurd (by decide) c83)
                  refine ziinc3 (n' := 1) (a' := 1) (b' := 8) (lv' := fun v9 => [(4, .int v9), (0, .ref o), (1, .int x), (2, .int dr), (3, .int 1)]) hx hb dX12_returns_87 hl (k := 4) rfl (by decide) (fun _ => rfl) (zaddK (i := x_46.toInt) (j := 1) rfl (by decide) i48.1 n68 (Int.le_refl _) (Int.le_refl _) (by decide)) (fun x_84 ls hx_84 hl => ?_)
                  refine lv_goto (tgt := 29) hx hb dX12_returns_90 (by decide) ?_
                  have hl := lv_sub (l' := [(0, .ref o), (1, .int x), (2, .int dr), (3, .int 1), (4, .int x_84)]) hl [1, 2, 3, 4, 0] rfl
                  have hP : va_P g.1 vwCl (List.flatten [bMo g o a th hi ac tp ba en tA fl de iD iO tU fm_47 fk fa fc ft ff fb fi]) H := hP
                  have hD : va_D A (List.flatten [bMo g o a th hi ac tp ba en tA fl de iD iO tU fm_47 fk fa fc ft ff fb fi]) := hD
                  exact ih29_54 x_84 fm_47 ⟨(Int.le_trans (by decide) hx_84.2.1), hx_84.2.2⟩ rfm_47 (zSpM_s (by omega) i49 hx_84.1 (by omega) (by omega) (show zEq (zV fm_47) (zSp1 x.toInt.toNat true x_46.toInt.toNat (zV fm_47)) from by rw [← zSp_a (by omega) hq76_k]; exact zEq_r _)) i50 i51 (by first | omega | assumption | decide) H _ ls (zmK hx_84.1 (by decide) n68 (by decide) hk29_54)  hP hD hS (lv_sub hl [0, 1, 2, 3, 4] rfl)
      have hL0 : (0 : Int32).toInt = 0 := by decide
      have hP : va_P g.1 vwCl (List.flatten [bMo g o a th hi ac tp ba en tA fl de iD iO tU fm2_3 fk fa fc ft ff fb fi]) H := hP
      have hD : va_D A (List.flatten [bMo g o a th hi ac tp ba en tA fl de iD iO tU fm2_3 fk fa fc ft ff fb fi]) := hD
      exact LP29_53 _ 0 fm2_3 (by decide) rfm2_3 (zItR_0 (R := zEq) (F := zSp1 x.toInt.toNat true) (by decide) (zEq_r _)) (zQk_r _) rfl (by first | omega | assumption | decide) H _ ls (Nat.lt_succ_self _)  hP hD hS (lv_sub hl [0, 1, 2, 3, 4] rfl)
