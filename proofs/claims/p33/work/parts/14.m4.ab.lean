set_option maxRecDepth 100000 in
set_option maxHeartbeats 4000000 in
theorem m_goes (l : Launch) (g : zG) (o : Nat) (a : Nat → Nat) (th : Int32) (hi : Int32) (ac : Int32) (tp : Int32) (ba : Int32) (en : Int32) (tA : Int32) (fl : Int32) (de : Int32) (iD : Int32) (iO : Int32) (tU : Int32) (fm : Nat → Int32) (fk : Nat → Int32) (fa : Nat → Int32) (fc : Nat → Int32) (ft : Nat → Int32) (ff : Nat → Int32) (fb : Nat → Int32) (fi : Nat → Int32) (n : Int32) (dr : Int32) (rfm : rM fm) (hiD : 0 ≤ iD.toInt ∧ iD.toInt ≤ 1) (hiO : 0 ≤ iO.toInt ∧ iO.toInt ≤ 1) (b_n : 0 ≤ n.toInt ∧ n.toInt ≤ 100) : zM' g l yX12_goes (Cond.code yX12_goes cX12_goes 6 (some .int) :: zB) ({ frames := 32, cells := 0, slots := 0, locals := 711 } : Room) [.ref o, .int n, .int dr] [bMo g o a th hi ac tp ba en tA fl de iD iO tU fm fk fa fc ft ff fb fi] (fun u : Int32 × Int32 × Int32 × Int32 × Int32 × Int32 × Int32 × (Nat → Int32) × (Nat → Int32) × (Nat → Int32) × Int32 => (fun (ba2 : Int32) (en2 : Int32) (at2 : Int32) (de2 : Int32) (iD2 : Int32) (iO2 : Int32) (tU2 : Int32) (ff2 : Nat → Int32) (fm2 : Nat → Int32) (fb2 : Nat → Int32) (q : Int32) => some (.int q)) (u.1) (u.2.1) (u.2.2.1) (u.2.2.2.1) (u.2.2.2.2.1) (u.2.2.2.2.2.1) (u.2.2.2.2.2.2.1) (u.2.2.2.2.2.2.2.1) (u.2.2.2.2.2.2.2.2.1) (u.2.2.2.2.2.2.2.2.2.1) (u.2.2.2.2.2.2.2.2.2.2)) (fun u : Int32 × Int32 × Int32 × Int32 × Int32 × Int32 × Int32 × (Nat → Int32) × (Nat → Int32) × (Nat → Int32) × Int32 => (fun (ba2 : Int32) (en2 : Int32) (at2 : Int32) (de2 : Int32) (iD2 : Int32) (iO2 : Int32) (tU2 : Int32) (ff2 : Nat → Int32) (fm2 : Nat → Int32) (fb2 : Nat → Int32) (q : Int32) => ((fm2 0).toInt = (fm 0).toInt ∧ (fm2 3).toInt = (fm 3).toInt ∧ (fm2 4).toInt = (fm 4).toInt) ∧ (rM fm2) ∧ (0 ≤ iO2.toInt ∧ iO2.toInt ≤ 1) ∧ (0 ≤ iD2.toInt ∧ iD2.toInt ≤ 1)) (u.1) (u.2.1) (u.2.2.1) (u.2.2.2.1) (u.2.2.2.2.1) (u.2.2.2.2.2.1) (u.2.2.2.2.2.2.1) (u.2.2.2.2.2.2.2.1) (u.2.2.2.2.2.2.2.2.1) (u.2.2.2.2.2.2.2.2.2.1) (u.2.2.2.2.2.2.2.2.2.2)) (fun u : Int32 × Int32 × Int32 × Int32 × Int32 × Int32 × Int32 × (Nat → Int32) × (Nat → Int32) × (Nat → Int32) × Int32 => (fun (ba2 : Int32) (en2 : Int32) (at2 : Int32) (de2 : Int32) (iD2 : Int32) (iO2 : Int32) (tU2 : Int32) (ff2 : Nat → Int32) (fm2 : Nat → Int32) (fb2 : Nat → Int32) (q : Int32) => [bMo g o a th hi ac tp ba2 en2 at2 fl de2 iD2 iO2 tU2 fm2 fk fa fc ft ff2 fb2 fi]) (u.1) (u.2.1) (u.2.2.1) (u.2.2.2.1) (u.2.2.2.2.1) (u.2.2.2.2.2.1) (u.2.2.2.2.2.2.1) (u.2.2.2.2.2.2.2.1) (u.2.2.2.2.2.2.2.2.1) (u.2.2.2.2.2.2.2.2.2.1) (u.2.2.2.2.2.2.2.2.2.2)) := by
  refine zM'.of (cc := cX12_goes) (maxL := 6) (rt := (some .int)) (by decide) rfl (Nat.le_of_ble_eq_true rfl) ?_
  intro p e s m args below meth c A ls St hr hlocks hin hK hT hA hP hD hS hl
  obtain ⟨hx, hb, hml, hown, hts⟩ := id St
  have hl : lv_has ls 6 [(0, .ref o), (1, .int n), (2, .int dr)] := hl
  refine lv_iconst (v := 0) hx hb dX12_goes_0 (by decide) ?_
  refine lv_istore_n (lv' := [(3, .int 0), (0, .ref o), (1, .int n), (2, .int dr)]) hx hb dX12_goes_1 rfl hl (by decide) rfl (fun ls hl => ?_)
  refine lv_iconst (v := 0) hx hb dX12_goes_2 (by decide) ?_
  refine lv_istore (lv' := [(4, .int 0), (3, .int 0), (0, .ref o), (1, .int n), (2, .int dr)]) hx hb dX12_goes_3 hl (by decide) rfl (fun ls hl => ?_)
  have hl := lv_sub (l' := [(0, .ref o), (1, .int n), (2, .int dr), (3, .int 0), (4, .int 0)]) hl [2, 3, 4, 1, 0] rfl
  have LP5_17 : ∀ (kf : Nat) (x_1 : Int32) (x_2 : Int32) (x_3 : Int32) (x_4 : Int32) (x_5 : Int32) (x_6 : Int32) (x_7 : Int32) (x_8 : Int32) (x_9 : Int32) (fm_10 : Nat → Int32) (ff_11 : Nat → Int32) (fb_12 : Nat → Int32), (0 ≤ x_2.toInt ∧ x_2.toInt ≤ 100) → (0 ≤ x_7.toInt ∧ x_7.toInt ≤ 1) → (0 ≤ x_8.toInt ∧ x_8.toInt ≤ 1) → (rM fm_10) → ((fm_10 0).toInt = (fm 0).toInt ∧ (fm_10 3).toInt = (fm 3).toInt ∧ (fm_10 4).toInt = (fm 4).toInt) → ∀ (H : Heap) (locs : List Loc) (ls : Array Slot), ((101 - x_2.toInt).toNat) < kf → va_P g.1 vwCl (List.flatten [bMo g o a th hi ac tp x_3 x_4 x_5 fl x_6 x_7 x_8 x_9 fm_10 fk fa fc ft ff_11 fb_12 fi]) H → va_D A (List.flatten [bMo g o a th hi ac tp x_3 x_4 x_5 fl x_6 x_7 x_8 x_9 fm_10 fk fa fc ft ff_11 fb_12 fi]) → va_S A s.heap H locs → lv_has ls 6 [(0, .ref o), (1, .int n), (2, .int dr), (3, .int x_1), (4, .int x_2)] → W p l e ({ frames := 32, cells := 0, slots := 0, locals := 711 } : Room) s m args below meth c H locs (0) (0) (zF g (fun u : Int32 × Int32 × Int32 × Int32 × Int32 × Int32 × Int32 × (Nat → Int32) × (Nat → Int32) × (Nat → Int32) × Int32 => (fun (ba2 : Int32) (en2 : Int32) (at2 : Int32) (de2 : Int32) (iD2 : Int32) (iO2 : Int32) (tU2 : Int32) (ff2 : Nat → Int32) (fm2 : Nat → Int32) (fb2 : Nat → Int32) (q : Int32) => some (.int q)) (u.1) (u.2.1) (u.2.2.1) (u.2.2.2.1) (u.2.2.2.2.1) (u.2.2.2.2.2.1) (u.2.2.2.2.2.2.1) (u.2.2.2.2.2.2.2.1) (u.2.2.2.2.2.2.2.2.1) (u.2.2.2.2.2.2.2.2.2.1) (u.2.2.2.2.2.2.2.2.2.2)) (fun u : Int32 × Int32 × Int32 × Int32 × Int32 × Int32 × Int32 × (Nat → Int32) × (Nat → Int32) × (Nat → Int32) × Int32 => (fun (ba2 : Int32) (en2 : Int32) (at2 : Int32) (de2 : Int32) (iD2 : Int32) (iO2 : Int32) (tU2 : Int32) (ff2 : Nat → Int32) (fm2 : Nat → Int32) (fb2 : Nat → Int32) (q : Int32) => ((fm2 0).toInt = (fm 0).toInt ∧ (fm2 3).toInt = (fm 3).toInt ∧ (fm2 4).toInt = (fm 4).toInt) ∧ (rM fm2) ∧ (0 ≤ iO2.toInt ∧ iO2.toInt ≤ 1) ∧ (0 ≤ iD2.toInt ∧ iD2.toInt ≤ 1)) (u.1) (u.2.1) (u.2.2.1) (u.2.2.2.1) (u.2.2.2.2.1) (u.2.2.2.2.2.1) (u.2.2.2.2.2.2.1) (u.2.2.2.2.2.2.2.1) (u.2.2.2.2.2.2.2.2.1) (u.2.2.2.2.2.2.2.2.2.1) (u.2.2.2.2.2.2.2.2.2.2)) (fun u : Int32 × Int32 × Int32 × Int32 × Int32 × Int32 × Int32 × (Nat → Int32) × (Nat → Int32) × (Nat → Int32) × Int32 => (fun (ba2 : Int32) (en2 : Int32) (at2 : Int32) (de2 : Int32) (iD2 : Int32) (iO2 : Int32) (tU2 : Int32) (ff2 : Nat → Int32) (fm2 : Nat → Int32) (fb2 : Nat → Int32) (q : Int32) => [bMo g o a th hi ac tp ba2 en2 at2 fl de2 iD2 iO2 tU2 fm2 fk fa fc ft ff2 fb2 fi]) (u.1) (u.2.1) (u.2.2.1) (u.2.2.2.1) (u.2.2.2.2.1) (u.2.2.2.2.2.1) (u.2.2.2.2.2.2.1) (u.2.2.2.2.2.2.2.1) (u.2.2.2.2.2.2.2.2.1) (u.2.2.2.2.2.2.2.2.2.1) (u.2.2.2.2.2.2.2.2.2.2)) ({ frames := 32, cells := 0, slots := 0, locals := 711 } : Room) below args s A) (F0 m 5 ls []) := by
    intro kf
    induction kf with
    | zero => intro x_1 x_2 x_3 x_4 x_5 x_6 x_7 x_8 x_9 fm_10 ff_11 fb_12 i13 i14 i15 rfm_10 i16 H locs ls hk; exact absurd hk (Nat.not_lt_zero _)
    | succ kf ih5_18 =>
      intro x_1 x_2 x_3 x_4 x_5 x_6 x_7 x_8 x_9 fm_10 ff_11 fb_12 i13 i14 i15 rfm_10 i16 H locs ls hk5_18 hP hD hS hl
      refine lv_iload hx hb dX12_goes_5 (lv_at hl 4 rfl) ?_
      refine lv_iload_n hx hb dX12_goes_7 rfl (lv_at hl 1 rfl) ?_
      refine lv_icmp_ge (tgt := 194) hx hb dX12_goes_8 (by decide) (fun cb9 => ?_) (fun cb9 => ?_)
      · skip
        have c19 : n.toInt ≤ x_2.toInt := zle cb9 rfl rfl
        refine lv_iload_n hx hb dX12_goes_194 rfl (lv_at hl 3 rfl) ?_
        have hP : va_P g.1 vwCl (List.flatten [bMo g o a th hi ac tp x_3 x_4 x_5 fl x_6 x_7 x_8 x_9 fm_10 fk fa fc ft ff_11 fb_12 fi]) H := hP
        have hD : va_D A (List.flatten [bMo g o a th hi ac tp x_3 x_4 x_5 fl x_6 x_7 x_8 x_9 fm_10 fk fa fc ft ff_11 fb_12 fi]) := hD
        exact mret_i hx hb hr hlocks hS (Nat.le_of_ble_eq_true rfl) (Nat.le_of_ble_eq_true rfl) dX12_goes_195 (x_3, x_4, x_5, x_6, x_7, x_8, x_9, ff_11, fm_10, fb_12, x_1) rfl (show ((fm_10 0).toInt = (fm 0).toInt ∧ (fm_10 3).toInt = (fm 3).toInt ∧ (fm_10 4).toInt = (fm 4).toInt) ∧ (rM fm_10) ∧ (0 ≤ x_8.toInt ∧ x_8.toInt ≤ 1) ∧ (0 ≤ x_7.toInt ∧ x_7.toInt ≤ 1) from ⟨i16, rfm_10, i15, i14⟩) hP hD
      · skip
        have c20 : x_2.toInt < n.toInt := zlti (Int32.not_le.mp cb9) rfl rfl
        have n21 : x_2.toInt ≤ 99 := zL1 (b := 100) c20 b_n.2 (by decide)
        have n22 : 1 ≤ n.toInt := zL2 (a := 0) c20 i13.1 (by decide)
        refine lv_iconst (v := 0) hx hb dX12_goes_11 (by decide) ?_
        refine lv_istore (lv' := [(5, .int 0), (0, .ref o), (1, .int n), (2, .int dr), (3, .int x_1), (4, .int x_2)]) hx hb dX12_goes_12 hl (by decide) rfl (fun ls hl => ?_)
        have hl := lv_sub (l' := [(0, .ref o), (1, .int n), (2, .int dr), (3, .int x_1), (4, .int x_2), (5, .int 0)]) hl [1, 2, 3, 4, 5, 0] rfl
        have LP14_36 : ∀ (kf : Nat) (x_23 : Int32) (x_24 : Int32) (x_25 : Int32) (x_26 : Int32) (x_27 : Int32) (x_28 : Int32) (x_29 : Int32) (x_30 : Int32) (ff_31 : Nat → Int32) (fb_32 : Nat → Int32), (0 ≤ x_23.toInt ∧ x_23.toInt ≤ 8) → (0 ≤ x_28.toInt ∧ x_28.toInt ≤ 1) → (0 ≤ x_29.toInt ∧ x_29.toInt ≤ 1) → ∀ (H : Heap) (locs : List Loc) (ls : Array Slot), ((9 - x_23.toInt).toNat) < kf → va_P g.1 vwCl (List.flatten [bMo g o a th hi ac tp x_24 x_25 x_26 fl x_27 x_28 x_29 x_30 fm_10 fk fa fc ft ff_31 fb_32 fi]) H → va_D A (List.flatten [bMo g o a th hi ac tp x_24 x_25 x_26 fl x_27 x_28 x_29 x_30 fm_10 fk fa fc ft ff_31 fb_32 fi]) → va_S A s.heap H locs → lv_has ls 6 [(0, .ref o), (1, .int n), (2, .int dr), (3, .int x_1), (4, .int x_2), (5, .int x_23)] → W p l e ({ frames := 32, cells := 0, slots := 0, locals := 711 } : Room) s m args below meth c H locs (0) (0) (zF g (fun u : Int32 × Int32 × Int32 × Int32 × Int32 × Int32 × Int32 × (Nat → Int32) × (Nat → Int32) × (Nat → Int32) × Int32 => (fun (ba2 : Int32) (en2 : Int32) (at2 : Int32) (de2 : Int32) (iD2 : Int32) (iO2 : Int32) (tU2 : Int32) (ff2 : Nat → Int32) (fm2 : Nat → Int32) (fb2 : Nat → Int32) (q : Int32) => some (.int q)) (u.1) (u.2.1) (u.2.2.1) (u.2.2.2.1) (u.2.2.2.2.1) (u.2.2.2.2.2.1) (u.2.2.2.2.2.2.1) (u.2.2.2.2.2.2.2.1) (u.2.2.2.2.2.2.2.2.1) (u.2.2.2.2.2.2.2.2.2.1) (u.2.2.2.2.2.2.2.2.2.2)) (fun u : Int32 × Int32 × Int32 × Int32 × Int32 × Int32 × Int32 × (Nat → Int32) × (Nat → Int32) × (Nat → Int32) × Int32 => (fun (ba2 : Int32) (en2 : Int32) (at2 : Int32) (de2 : Int32) (iD2 : Int32) (iO2 : Int32) (tU2 : Int32) (ff2 : Nat → Int32) (fm2 : Nat → Int32) (fb2 : Nat → Int32) (q : Int32) => ((fm2 0).toInt = (fm 0).toInt ∧ (fm2 3).toInt = (fm 3).toInt ∧ (fm2 4).toInt = (fm 4).toInt) ∧ (rM fm2) ∧ (0 ≤ iO2.toInt ∧ iO2.toInt ≤ 1) ∧ (0 ≤ iD2.toInt ∧ iD2.toInt ≤ 1)) (u.1) (u.2.1) (u.2.2.1) (u.2.2.2.1) (u.2.2.2.2.1) (u.2.2.2.2.2.1) (u.2.2.2.2.2.2.1) (u.2.2.2.2.2.2.2.1) (u.2.2.2.2.2.2.2.2.1) (u.2.2.2.2.2.2.2.2.2.1) (u.2.2.2.2.2.2.2.2.2.2)) (fun u : Int32 × Int32 × Int32 × Int32 × Int32 × Int32 × Int32 × (Nat → Int32) × (Nat → Int32) × (Nat → Int32) × Int32 => (fun (ba2 : Int32) (en2 : Int32) (at2 : Int32) (de2 : Int32) (iD2 : Int32) (iO2 : Int32) (tU2 : Int32) (ff2 : Nat → Int32) (fm2 : Nat → Int32) (fb2 : Nat → Int32) (q : Int32) => [bMo g o a th hi ac tp ba2 en2 at2 fl de2 iD2 iO2 tU2 fm2 fk fa fc ft ff2 fb2 fi]) (u.1) (u.2.1) (u.2.2.1) (u.2.2.2.1) (u.2.2.2.2.1) (u.2.2.2.2.2.1) (u.2.2.2.2.2.2.1) (u.2.2.2.2.2.2.2.1) (u.2.2.2.2.2.2.2.2.1) (u.2.2.2.2.2.2.2.2.2.1) (u.2.2.2.2.2.2.2.2.2.2)) ({ frames := 32, cells := 0, slots := 0, locals := 711 } : Room) below args s A) (F0 m 14 ls []) := by
          intro kf
          induction kf with
          | zero => intro x_23 x_24 x_25 x_26 x_27 x_28 x_29 x_30 ff_31 fb_32 i33 i34 i35 H locs ls hk; exact absurd hk (Nat.not_lt_zero _)
          | succ kf ih14_37 =>
            intro x_23 x_24 x_25 x_26 x_27 x_28 x_29 x_30 ff_31 fb_32 i33 i34 i35 H locs ls hk14_37 hP hD hS hl
            refine lv_iload hx hb dX12_goes_14 (lv_at hl 5 rfl) ?_
            refine lv_aload_n hx hb dX12_goes_16 rfl (lv_at hl 0 rfl) ?_
            refine va_get (D := g.1) (ci := 10) (v := .ref (a 0)) (C := RX12) (T := TX12) (N := 20) hx hb hts izRX12 hown hK hP 0 rfl rfl 1 (by decide) (hts _ k815) (fun _ h9 => h9) rfl dX12_goes_17 ?_
            refine lv_iconst (v := 3) hx hb dX12_goes_20 (by decide) ?_
            refine va_iald hx hb hK hP 1 0 rfl rfl (zin rfl) dX12_goes_21 ?_
            refine zgq (r := fm_10 3) rfl (rM3 rfm_10) (fun x_38 hx_38 => ?_)
            refine lv_icmp_ge (tgt := 64) hx hb dX12_goes_22 (by decide) (fun cb9 => ?_) (fun cb9 => ?_)
            · skip
              have c39 : x_38.toInt ≤ x_23.toInt := zle cb9 rfl rfl
              refine lv_iconst (v := 0) hx hb dX12_goes_64 (by decide) ?_
              refine lv_istore (lv' := [(5, .int 0), (0, .ref o), (1, .int n), (2, .int dr), (3, .int x_1), (4, .int x_2)]) hx hb dX12_goes_65 hl (by decide) rfl (fun ls hl => ?_)
              have hl := lv_sub (l' := [(0, .ref o), (1, .int n), (2, .int dr), (3, .int x_1), (4, .int x_2), (5, .int 0)]) hl [1, 2, 3, 4, 5, 0] rfl
              have LP67_44 : ∀ (kf : Nat) (x_40 : Int32) (fm_41 : Nat → Int32), (0 ≤ x_40.toInt ∧ x_40.toInt ≤ 8) → (rM fm_41) → ((fm_41 0).toInt = (fm 0).toInt ∧ (fm_41 3).toInt = (fm 3).toInt ∧ (fm_41 4).toInt = (fm 4).toInt) → ∀ (H : Heap) (locs : List Loc) (ls : Array Slot), ((9 - x_40.toInt).toNat) < kf → va_P g.1 vwCl (List.flatten [bMo g o a th hi ac tp x_24 x_25 x_26 fl x_27 x_28 x_29 x_30 fm_41 fk fa fc ft ff_31 fb_32 fi]) H → va_D A (List.flatten [bMo g o a th hi ac tp x_24 x_25 x_26 fl x_27 x_28 x_29 x_30 fm_41 fk fa fc ft ff_31 fb_32 fi]) → va_S A s.heap H locs → lv_has ls 6 [(0, .ref o), (1, .int n), (2, .int dr), (3, .int x_1), (4, .int x_2), (5, .int x_40)] → W p l e ({ frames := 32, cells := 0, slots := 0, locals := 711 } : Room) s m args below meth c H locs (0) (0) (zF g (fun u : Int32 × Int32 × Int32 × Int32 × Int32 × Int32 × Int32 × (Nat → Int32) × (Nat → Int32) × (Nat → Int32) × Int32 => (fun (ba2 : Int32) (en2 : Int32) (at2 : Int32) (de2 : Int32) (iD2 : Int32) (iO2 : Int32) (tU2 : Int32) (ff2 : Nat → Int32) (fm2 : Nat → Int32) (fb2 : Nat → Int32) (q : Int32) => some (.int q)) (u.1) (u.2.1) (u.2.2.1) (u.2.2.2.1) (u.2.2.2.2.1) (u.2.2.2.2.2.1) (u.2.2.2.2.2.2.1) (u.2.2.2.2.2.2.2.1) (u.2.2.2.2.2.2.2.2.1) (u.2.2.2.2.2.2.2.2.2.1) (u.2.2.2.2.2.2.2.2.2.2)) (fun u : Int32 × Int32 × Int32 × Int32 × Int32 × Int32 × Int32 × (Nat → Int32) × (Nat → Int32) × (Nat → Int32) × Int32 => (fun (ba2 : Int32) (en2 : Int32) (at2 : Int32) (de2 : Int32) (iD2 : Int32) (iO2 : Int32) (tU2 : Int32) (ff2 : Nat → Int32) (fm2 : Nat → Int32) (fb2 : Nat → Int32) (q : Int32) => ((fm2 0).toInt = (fm 0).toInt ∧ (fm2 3).toInt = (fm 3).toInt ∧ (fm2 4).toInt = (fm 4).toInt) ∧ (rM fm2) ∧ (0 ≤ iO2.toInt ∧ iO2.toInt ≤ 1) ∧ (0 ≤ iD2.toInt ∧ iD2.toInt ≤ 1)) (u.1) (u.2.1) (u.2.2.1) (u.2.2.2.1) (u.2.2.2.2.1) (u.2.2.2.2.2.1) (u.2.2.2.2.2.2.1) (u.2.2.2.2.2.2.2.1) (u.2.2.2.2.2.2.2.2.1) (u.2.2.2.2.2.2.2.2.2.1) (u.2.2.2.2.2.2.2.2.2.2)) (fun u : Int32 × Int32 × Int32 × Int32 × Int32 × Int32 × Int32 × (Nat → Int32) × (Nat → Int32) × (Nat → Int32) × Int32 => (fun (ba2 : Int32) (en2 : Int32) (at2 : Int32) (de2 : Int32) (iD2 : Int32) (iO2 : Int32) (tU2 : Int32) (ff2 : Nat → Int32) (fm2 : Nat → Int32) (fb2 : Nat → Int32) (q : Int32) => [bMo g o a th hi ac tp ba2 en2 at2 fl de2 iD2 iO2 tU2 fm2 fk fa fc ft ff2 fb2 fi]) (u.1) (u.2.1) (u.2.2.1) (u.2.2.2.1) (u.2.2.2.2.1) (u.2.2.2.2.2.1) (u.2.2.2.2.2.2.1) (u.2.2.2.2.2.2.2.1) (u.2.2.2.2.2.2.2.2.1) (u.2.2.2.2.2.2.2.2.2.1) (u.2.2.2.2.2.2.2.2.2.2)) ({ frames := 32, cells := 0, slots := 0, locals := 711 } : Room) below args s A) (F0 m 67 ls []) := by
                intro kf
                induction kf with
                | zero => intro x_40 fm_41 i42 rfm_41 i43 H locs ls hk; exact absurd hk (Nat.not_lt_zero _)
                | succ kf ih67_45 =>
                  intro x_40 fm_41 i42 rfm_41 i43 H locs ls hk67_45 hP hD hS hl
                  refine lv_iload hx hb dX12_goes_67 (lv_at hl 5 rfl) ?_
                  refine lv_aload_n hx hb dX12_goes_69 rfl (lv_at hl 0 rfl) ?_
                  refine va_get (D := g.1) (ci := 10) (v := .ref (a 0)) (C := RX12) (T := TX12) (N := 20) hx hb hts izRX12 hown hK hP 0 rfl rfl 1 (by decide) (hts _ k815) (fun _ h9 => h9) rfl dX12_goes_70 ?_
                  refine lv_iconst (v := 3) hx hb dX12_goes_73 (by decide) ?_
                  refine va_iald hx hb hK hP 1 0 rfl rfl (zin rfl) dX12_goes_74 ?_
                  refine zgq (r := fm_41 3) rfl (rM3 rfm_41) (fun x_46 hx_46 => ?_)
                  refine lv_icmp_ge (tgt := 106) hx hb dX12_goes_75 (by decide) (fun cb9 => ?_) (fun cb9 => ?_)
                  · skip
                    have c47 : x_46.toInt ≤ x_40.toInt := zle cb9 rfl rfl
                    refine lv_iload_n hx hb dX12_goes_106 rfl (lv_at hl 3 rfl) ?_
                    refine lv_aload_n hx hb dX12_goes_107 rfl (lv_at hl 0 rfl) ?_
                    refine mcallV' (g := g) (q0 := 0) (ci := 10) (As := []) (rest := [.int x_1]) St hK hT hA hP hD hS hl.1 [0] [] rfl rfl rfl (m_build l g o a th hi ac tp x_24 x_25 x_26 fl x_27 x_28 x_29 x_30 fm_41 fk fa fc ft ff_31 fb_32 fi rfm_41) (cwV 0 hts (zgL (zl4 k1022 k1023 k1024 k839) k1008) rfl rfl rfl (by decide +kernel) ⟨Nat.le_of_ble_eq_true rfl, Nat.le_of_ble_eq_true rfl⟩) rfl rfl rfl rfl (Nat.le_of_ble_eq_true rfl) dX12_goes_108 ⟨(Nat.le_of_ble_eq_true rfl), (Nat.le_of_ble_eq_true rfl)⟩ (fun u_ H locs hq50 hP hD hS => ?_)
                    obtain ⟨fm2_48, q_49⟩ := u_
                    replace hq50 : ((fm2_48 0).toInt = (fm_41 0).toInt ∧ (fm2_48 3).toInt = (fm_41 3).toInt ∧ (fm2_48 4).toInt = (fm_41 4).toInt) ∧ (rM fm2_48) := hq50
                    have hP : va_P g.1 vwCl (List.flatten [bMo g o a th hi ac tp x_24 x_25 x_26 fl x_27 x_28 x_29 x_30 fm2_48 fk fa fc ft ff_31 fb_32 fi]) H := hP
                    have hD : va_D A (List.flatten [bMo g o a th hi ac tp x_24 x_25 x_26 fl x_27 x_28 x_29 x_30 fm2_48 fk fa fc ft ff_31 fb_32 fi]) := hD
                    refine W.widen (k := 0) (n := 0) (Nat.le_of_ble_eq_true rfl) (Nat.le_of_ble_eq_true rfl) ?_
                    refine W.eq (g2 := F0 m 111 ls [.int q_49, .int x_1]) rfl ?_
                    obtain ⟨hq50_0, rfm2_48⟩ := hq50
                    refine lv_iadd hx hb dX12_goes_111 ?_
                    refine zg (fun x_51 => ?_)
                    refine lv_istore_n (lv' := [(3, .int x_51), (0, .ref o), (1, .int n), (2, .int dr), (4, .int x_2), (5, .int x_40)]) hx hb dX12_goes_112 rfl hl (by decide) rfl (fun ls hl => ?_)
                    refine lv_iconst (v := 0) hx hb dX12_goes_113 (by decide) ?_
                    refine lv_istore (lv' := [(5, .int 0), (3, .int x_51), (0, .ref o), (1, .int n), (2, .int dr), (4, .int x_2)]) hx hb dX12_goes_114 hl (by decide) rfl (fun ls hl => ?_)
                    have hl := lv_sub (l' := [(0, .ref o), (1, .int n), (2, .int dr), (3, .int x_51), (4, .int x_2), (5, .int 0)]) hl [2, 3, 4, 1, 5, 0] rfl
                    have LP116_56 : ∀ (kf : Nat) (x_52 : Int32) (fm_53 : Nat → Int32), (0 ≤ x_52.toInt ∧ x_52.toInt ≤ 8) → (rM fm_53) → ((fm_53 0).toInt = (fm 0).toInt ∧ (fm_53 3).toInt = (fm 3).toInt ∧ (fm_53 4).toInt = (fm 4).toInt) → ∀ (H : Heap) (locs : List Loc) (ls : Array Slot), ((9 - x_52.toInt).toNat) < kf → va_P g.1 vwCl (List.flatten [bMo g o a th hi ac tp x_24 x_25 x_26 fl x_27 x_28 x_29 x_30 fm_53 fk fa fc ft ff_31 fb_32 fi]) H → va_D A (List.flatten [bMo g o a th hi ac tp x_24 x_25 x_26 fl x_27 x_28 x_29 x_30 fm_53 fk fa fc ft ff_31 fb_32 fi]) → va_S A s.heap H locs → lv_has ls 6 [(0, .ref o), (1, .int n), (2, .int dr), (3, .int x_51), (4, .int x_2), (5, .int x_52)] → W p l e ({ frames := 32, cells := 0, slots := 0, locals := 711 } : Room) s m args below meth c H locs (0) (0) (zF g (fun u : Int32 × Int32 × Int32 × Int32 × Int32 × Int32 × Int32 × (Nat → Int32) × (Nat → Int32) × (Nat → Int32) × Int32 => (fun (ba2 : Int32) (en2 : Int32) (at2 : Int32) (de2 : Int32) (iD2 : Int32) (iO2 : Int32) (tU2 : Int32) (ff2 : Nat → Int32) (fm2 : Nat → Int32) (fb2 : Nat → Int32) (q : Int32) => some (.int q)) (u.1) (u.2.1) (u.2.2.1) (u.2.2.2.1) (u.2.2.2.2.1) (u.2.2.2.2.2.1) (u.2.2.2.2.2.2.1) (u.2.2.2.2.2.2.2.1) (u.2.2.2.2.2.2.2.2.1) (u.2.2.2.2.2.2.2.2.2.1) (u.2.2.2.2.2.2.2.2.2.2)) (fun u : Int32 × Int32 × Int32 × Int32 × Int32 × Int32 × Int32 × (Nat → Int32) × (Nat → Int32) × (Nat → Int32) × Int32 => (fun (ba2 : Int32) (en2 : Int32) (at2 : Int32) (de2 : Int32) (iD2 : Int32) (iO2 : Int32) (tU2 : Int32) (ff2 : Nat → Int32) (fm2 : Nat → Int32) (fb2 : Nat → Int32) (q : Int32) => ((fm2 0).toInt = (fm 0).toInt ∧ (fm2 3).toInt = (fm 3).toInt ∧ (fm2 4).toInt = (fm 4).toInt) ∧ (rM fm2) ∧ (0 ≤ iO2.toInt ∧ iO2.toInt ≤ 1) ∧ (0 ≤ iD2.toInt ∧ iD2.toInt ≤ 1)) (u.1) (u.2.1) (u.2.2.1) (u.2.2.2.1) (u.2.2.2.2.1) (u.2.2.2.2.2.1) (u.2.2.2.2.2.2.1) (u.2.2.2.2.2.2.2.1) (u.2.2.2.2.2.2.2.2.1) (u.2.2.2.2.2.2.2.2.2.1) (u.2.2.2.2.2.2.2.2.2.2)) (fun u : Int32 × Int32 × Int32 × Int32 × Int32 × Int32 × Int32 × (Nat → Int32) × (Nat → Int32) × (Nat → Int32) × Int32 => (fun (ba2 : Int32) (en2 : Int32) (at2 : Int32) (de2 : Int32) (iD2 : Int32) (iO2 : Int32) (tU2 : Int32) (ff2 : Nat → Int32) (fm2 : Nat → Int32) (fb2 : Nat → Int32) (q : Int32) => [bMo g o a th hi ac tp ba2 en2 at2 fl de2 iD2 iO2 tU2 fm2 fk fa fc ft ff2 fb2 fi]) (u.1) (u.2.1) (u.2.2.1) (u.2.2.2.1) (u.2.2.2.2.1) (u.2.2.2.2.2.1) (u.2.2.2.2.2.2.1) (u.2.2.2.2.2.2.2.1) (u.2.2.2.2.2.2.2.2.1) (u.2.2.2.2.2.2.2.2.2.1) (u.2.2.2.2.2.2.2.2.2.2)) ({ frames := 32, cells := 0, slots := 0, locals := 711 } : Room) below args s A) (F0 m 116 ls []) := by
                      intro kf
                      induction kf with
                      | zero => intro x_52 fm_53 i54 rfm_53 i55 H locs ls hk; exact absurd hk (Nat.not_lt_zero _)
                      | succ kf ih116_57 =>
                        intro x_52 fm_53 i54 rfm_53 i55 H locs ls hk116_57 hP hD hS hl
                        refine lv_iload hx hb dX12_goes_116 (lv_at hl 5 rfl) ?_
                        refine lv_aload_n hx hb dX12_goes_118 rfl (lv_at hl 0 rfl) ?_
                        refine va_get (D := g.1) (ci := 10) (v := .ref (a 0)) (C := RX12) (T := TX12) (N := 20) hx hb hts izRX12 hown hK hP 0 rfl rfl 1 (by decide) (hts _ k815) (fun _ h9 => h9) rfl dX12_goes_119 ?_
                        refine lv_iconst (v := 3) hx hb dX12_goes_122 (by decide) ?_
                        refine va_iald hx hb hK hP 1 0 rfl rfl (zin rfl) dX12_goes_123 ?_
                        refine zgq (r := fm_53 3) rfl (rM3 rfm_53) (fun x_58 hx_58 => ?_)
                        refine lv_icmp_ge (tgt := 166) hx hb dX12_goes_124 (by decide) (fun cb9 => ?_) (fun cb9 => ?_)
                        · skip
                          have c59 : x_58.toInt ≤ x_52.toInt := zle cb9 rfl rfl
                          refine lv_aload_n hx hb dX12_goes_166 rfl (lv_at hl 0 rfl) ?_
                          refine va_get (D := g.1) (ci := 10) (v := .ref (a 0)) (C := RX12) (T := TX12) (N := 20) hx hb hts izRX12 hown hK hP 0 rfl rfl 1 (by decide) (hts _ k815) (fun _ h9 => h9) rfl dX12_goes_167 ?_
                          refine lv_bipush (v := 8) hx hb dX12_goes_170 (by decide) ?_
                          refine lv_sipush (v := 9999) hx hb dX12_goes_172 (by decide) ?_
                          refine lv_aload_n hx hb dX12_goes_175 rfl (lv_at hl 0 rfl) ?_
                          refine va_get (D := g.1) (ci := 10) (v := .ref (a 0)) (C := RX12) (T := TX12) (N := 20) hx hb hts izRX12 hown hK hP 0 rfl rfl 1 (by decide) (hts _ k815) (fun _ h9 => h9) rfl dX12_goes_176 ?_
                          refine lv_bipush (v := 8) hx hb dX12_goes_179 (by decide) ?_
                          refine va_iald hx hb hK hP 1 0 rfl rfl (zin rfl) dX12_goes_181 ?_
                          refine zg (fun x_60 => ?_)
                          refine lv_iconst (v := 1) hx hb dX12_goes_182 (by decide) ?_
                          refine lv_iadd hx hb dX12_goes_183 ?_
                          refine zg (fun x_61 => ?_)
                          have hL9999 : (9999 : Int32).toInt = 9999 := by decide
                          refine mcallS' (g := g) (As := [.int 9999, .int x_61]) (rest := [.int 8, .ref (a 0)]) St hK hT hA hP hD hS hl.1 [] [0] rfl rfl rfl (m_lesser l g 9999 x_61 ) (va_cwS 2 hts (zgL (zl3 k1000 k1001 k839) k827) rfl rfl rfl (by decide +kernel) ⟨Nat.le_of_ble_eq_true rfl, Nat.le_of_ble_eq_true rfl⟩) rfl rfl (Nat.le_of_ble_eq_true rfl) dX12_goes_184 ⟨(Nat.le_of_ble_eq_true rfl), (Nat.le_of_ble_eq_true rfl)⟩ (fun q_62 H locs hq63 hP hD hS => ?_)
                          replace hq63 : (q_62.toInt ≤ (9999 : Int32).toInt ∧ q_62.toInt ≤ x_61.toInt ∧ (q_62.toInt = (9999 : Int32).toInt ∨ q_62.toInt = x_61.toInt)) := hq63
                          have hP : va_P g.1 vwCl (List.flatten [bMo g o a th hi ac tp x_24 x_25 x_26 fl x_27 x_28 x_29 x_30 fm_53 fk fa fc ft ff_31 fb_32 fi]) H := hP
                          have hD : va_D A (List.flatten [bMo g o a th hi ac tp x_24 x_25 x_26 fl x_27 x_28 x_29 x_30 fm_53 fk fa fc ft ff_31 fb_32 fi]) := hD
                          refine W.widen (k := 0) (n := 0) (Nat.le_of_ble_eq_true rfl) (Nat.le_of_ble_eq_true rfl) ?_
                          refine W.eq (g2 := F0 m 187 ls [.int q_62, .int 8, .ref (a 0)]) rfl ?_
                          refine va_iast hx hb hK hP hD hS 1 0 rfl rfl (zin rfl) dX12_goes_187 (fun H locs hP hD hS => ?_)
                          obtain ⟨fm_64, rfm_64, hkfm_64, hP, hD⟩ : ∃ fm_64 : Nat → Int32, rM fm_64 ∧ ((fm_64 0).toInt = (fm_53 0).toInt ∧ (fm_64 3).toInt = (fm_53 3).toInt ∧ (fm_64 4).toInt = (fm_53 4).toInt) ∧ va_P g.1 vwCl (List.flatten [bMo g o a th hi ac tp x_24 x_25 x_26 fl x_27 x_28 x_29 x_30 fm_64 fk fa fc ft ff_31 fb_32 fi]) H ∧ va_D A (List.flatten [bMo g o a th hi ac tp x_24 x_25 x_26 fl x_27 x_28 x_29 x_30 fm_64 fk fa fc ft ff_31 fb_32 fi]) := ⟨upd fm_53 8 q_62, (rM_stL rfm_53 (by decide)), ⟨rfl, rfl, rfl⟩, hP, hD⟩
                          refine ziinc3 (n' := 1) (a' := 1) (b' := 100) (lv' := fun v9 => [(4, .int v9), (0, .ref o), (1, .int n), (2, .int dr), (3, .int x_51), (5, .int x_52)]) hx hb dX12_goes_188 hl (k := 4) rfl (by decide) (fun _ => rfl) (zaddK (i := x_2.toInt) (j := 1) rfl (by decide) i13.1 n21 (Int.le_refl _) (Int.le_refl _) (by decide)) (fun x_65 ls hx_65 hl => ?_)
                          refine lv_goto (tgt := 5) hx hb dX12_goes_191 (by decide) ?_
                          have hl := lv_sub (l' := [(0, .ref o), (1, .int n), (2, .int dr), (3, .int x_51), (4, .int x_65), (5, .int x_52)]) hl [1, 2, 3, 4, 0, 5] rfl
                          have hP : va_P g.1 vwCl (List.flatten [bMo g o a th hi ac tp x_24 x_25 x_26 fl x_27 x_28 x_29 x_30 fm_64 fk fa fc ft ff_31 fb_32 fi]) H := hP
                          have hD : va_D A (List.flatten [bMo g o a th hi ac tp x_24 x_25 x_26 fl x_27 x_28 x_29 x_30 fm_64 fk fa fc ft ff_31 fb_32 fi]) := hD
                          exact ih5_18 x_51 x_65 x_24 x_25 x_26 x_27 x_28 x_29 x_30 fm_64 ff_31 fb_32 ⟨(Int.le_trans (by decide) hx_65.2.1), hx_65.2.2⟩ ⟨i34.1, i34.2⟩ ⟨i35.1, i35.2⟩ rfm_64 (by first | omega | assumption | decide) H _ ls (zmK hx_65.1 (by decide) n21 (by decide) hk5_18)  hP hD hS (lv_sub hl [0, 1, 2, 3, 4] rfl)
                        · skip
                          have c66 : x_52.toInt < x_58.toInt := zlti (Int32.not_le.mp cb9) rfl rfl
                          have n67 : x_52.toInt ≤ 7 := zL1 (b := 8) c66 hx_58.2.1 (by decide)
                          have n68 : 1 ≤ x_58.toInt := zL2 (a := 0) c66 i54.1 (by decide)
                          refine lv_aload_n hx hb dX12_goes_127 rfl (lv_at hl 0 rfl) ?_
                          refine lv_iload hx hb dX12_goes_128 (lv_at hl 5 rfl) ?_
                          refine mcallV' (g := g) (q0 := 0) (ci := 10) (As := [.int x_52]) (rest := []) St hK hT hA hP hD hS hl.1 [0] [] rfl rfl rfl (m_isHere l g o a th hi ac tp x_24 x_25 x_26 fl x_27 x_28 x_29 x_30 fm_53 fk fa fc ft ff_31 fb_32 fi x_52 (⟨i54.1, n67⟩)) (cwV 1 hts (zgL (zl4 k846 k847 k848 k839) k841) rfl rfl rfl (by decide +kernel) ⟨Nat.le_of_ble_eq_true rfl, Nat.le_of_ble_eq_true rfl⟩) rfl rfl rfl rfl (Nat.le_of_ble_eq_true rfl) dX12_goes_130 ⟨(Nat.le_of_ble_eq_true rfl), (Nat.le_of_ble_eq_true rfl)⟩ (fun q_69 H locs hq70 hP hD hS => ?_)
                          replace hq70 : (q_69 = 0 ∨ q_69 = 1) := hq70
                          have hP : va_P g.1 vwCl (List.flatten [bMo g o a th hi ac tp x_24 x_25 x_26 fl x_27 x_28 x_29 x_30 fm_53 fk fa fc ft ff_31 fb_32 fi]) H := hP
                          have hD : va_D A (List.flatten [bMo g o a th hi ac tp x_24 x_25 x_26 fl x_27 x_28 x_29 x_30 fm_53 fk fa fc ft ff_31 fb_32 fi]) := hD
                          refine W.widen (k := 0) (n := 0) (Nat.le_of_ble_eq_true rfl) (Nat.le_of_ble_eq_true rfl) ?_
                          refine W.eq (g2 := F0 m 133 ls [.int q_69]) rfl ?_
                          rcases hq70 with rfl | rfl
                          · skip
                            refine lv_if_ne (tgt := 160) hx hb dX12_goes_133 (by decide) (fun c71 => absurd (by decide) c71) (fun _ => ?_)
                            refine lv_aload_n hx hb dX12_goes_136 rfl (lv_at hl 0 rfl) ?_
                            refine lv_iload hx hb dX12_goes_137 (lv_at hl 5 rfl) ?_
                            refine lv_iconst (v := 4) hx hb dX12_goes_139 (by decide) ?_
                            have hL4 : (4 : Int32).toInt = 4 := by decide
                            refine mcallV' (g := g) (q0 := 0) (ci := 10) (As := [.int x_52, .int 4]) (rest := []) St hK hT hA hP hD hS hl.1 [0] [] rfl rfl rfl (m_of l g o a th hi ac tp x_24 x_25 x_26 fl x_27 x_28 x_29 x_30 fm_53 fk fa fc ft ff_31 fb_32 fi x_52 4 (⟨i54.1, n67⟩) (by decide)) (cwV 2 hts (zgL (zl4 k842 k843 k844 k839) k831) rfl rfl rfl (by decide +kernel) ⟨Nat.le_of_ble_eq_true rfl, Nat.le_of_ble_eq_true rfl⟩) rfl rfl rfl rfl (Nat.le_of_ble_eq_true rfl) dX12_goes_140 ⟨(Nat.le_of_ble_eq_true rfl), (Nat.le_of_ble_eq_true rfl)⟩ (fun q_72 H locs hq73 hP hD hS => ?_)
                            have hP : va_P g.1 vwCl (List.flatten [bMo g o a th hi ac tp x_24 x_25 x_26 fl x_27 x_28 x_29 x_30 fm_53 fk fa fc ft ff_31 fb_32 fi]) H := hP
                            have hD : va_D A (List.flatten [bMo g o a th hi ac tp x_24 x_25 x_26 fl x_27 x_28 x_29 x_30 fm_53 fk fa fc ft ff_31 fb_32 fi]) := hD
                            refine W.widen (k := 0) (n := 0) (Nat.le_of_ble_eq_true rfl) (Nat.le_of_ble_eq_true rfl) ?_
                            refine W.eq (g2 := F0 m 143 ls [.int q_72]) rfl ?_
                            refine lv_aload_n hx hb dX12_goes_143 rfl (lv_at hl 0 rfl) ?_
                            refine va_get (D := g.1) (ci := 10) (v := .ref (a 0)) (C := RX12) (T := TX12) (N := 20) hx hb hts izRX12 hown hK hP 0 rfl rfl 1 (by decide) (hts _ k815) (fun _ h9 => h9) rfl dX12_goes_144 ?_
                            refine lv_bipush (v := 8) hx hb dX12_goes_147 (by decide) ?_
                            refine va_iald hx hb hK hP 1 0 rfl rfl (zin rfl) dX12_goes_149 ?_
                            refine zg (fun x_74 => ?_)
                            refine lv_icmp_gt (tgt := 160) hx hb dX12_goes_150 (by decide) (fun cb9 => ?_) (fun cb9 => ?_)
                            · skip
                              have c75 : x_74.toInt < q_72.toInt := zlti cb9 rfl rfl
                              refine ziinc3 (n' := 1) (a' := 1) (b' := 8) (lv' := fun v9 => [(5, .int v9), (0, .ref o), (1, .int n), (2, .int dr), (3, .int x_51), (4, .int x_2)]) hx hb dX12_goes_160 hl (k := 5) rfl (by decide) (fun _ => rfl) (zaddK (i := x_52.toInt) (j := 1) rfl (by decide) i54.1 n67 (Int.le_refl _) (Int.le_refl _) (by decide)) (fun x_76 ls hx_76 hl => ?_)
                              refine lv_goto (tgt := 116) hx hb dX12_goes_163 (by decide) ?_
                              have hl := lv_sub (l' := [(0, .ref o), (1, .int n), (2, .int dr), (3, .int x_51), (4, .int x_2), (5, .int x_76)]) hl [1, 2, 3, 4, 5, 0] rfl
                              have hP : va_P g.1 vwCl (List.flatten [bMo g o a th hi ac tp x_24 x_25 x_26 fl x_27 x_28 x_29 x_30 fm_53 fk fa fc ft ff_31 fb_32 fi]) H := hP
                              have hD : va_D A (List.flatten [bMo g o a th hi ac tp x_24 x_25 x_26 fl x_27 x_28 x_29 x_30 fm_53 fk fa fc ft ff_31 fb_32 fi]) := hD
                              exact ih116_57 x_76 fm_53 ⟨(Int.le_trans (by decide) hx_76.2.1), hx_76.2.2⟩ rfm_53 i55 H _ ls (zmK hx_76.1 (by decide) n67 (by decide) hk116_57)  hP hD hS (lv_sub hl [0, 1, 2, 3, 4, 5] rfl)
                            · skip
                              have c77 : q_72.toInt ≤ x_74.toInt := zle (Int32.not_lt.mp cb9) rfl rfl
                              refine lv_aload_n hx hb dX12_goes_153 rfl (lv_at hl 0 rfl) ?_
                              refine lv_iload hx hb dX12_goes_154 (lv_at hl 5 rfl) ?_
                              refine lv_iload_n hx hb dX12_goes_156 rfl (lv_at hl 2 rfl) ?_
                              refine mcallV' (g := g) (q0 := 0) (ci := 10) (As := [.int x_52, .int dr]) (rest := []) St hK hT hA hP hD hS hl.1 [0] [] rfl rfl rfl (m_returns l g o a th hi ac tp x_24 x_25 x_26 fl x_27 x_28 x_29 x_30 fm_53 fk fa fc ft ff_31 fb_32 fi x_52 dr rfm_53 (⟨i54.1, n67⟩)) (cwV 2 hts (zgL (zl4 k1025 k1026 k1027 k839) k1015) rfl rfl rfl (by decide +kernel) ⟨Nat.le_of_ble_eq_true rfl, Nat.le_of_ble_eq_true rfl⟩) rfl rfl rfl rfl (Nat.le_of_ble_eq_true rfl) dX12_goes_157 ⟨(Nat.le_of_ble_eq_true rfl), (Nat.le_of_ble_eq_true rfl)⟩ (fun fm2_78 H locs hq79 hP hD hS => ?_)
                              replace hq79 : ((fm2_78 0).toInt = (fm_53 0).toInt ∧ (fm2_78 3).toInt = (fm_53 3).toInt ∧ (fm2_78 4).toInt = (fm_53 4).toInt) ∧ (rM fm2_78) := hq79
                              have hP : va_P g.1 vwCl (List.flatten [bMo g o a th hi ac tp x_24 x_25 x_26 fl x_27 x_28 x_29 x_30 fm2_78 fk fa fc ft ff_31 fb_32 fi]) H := hP
                              have hD : va_D A (List.flatten [bMo g o a th hi ac tp x_24 x_25 x_26 fl x_27 x_28 x_29 x_30 fm2_78 fk fa fc ft ff_31 fb_32 fi]) := hD
                              refine W.widen (k := 0) (n := 0) (Nat.le_of_ble_eq_true rfl) (Nat.le_of_ble_eq_true rfl) ?_
                              refine W.eq (g2 := F0 m 160 ls []) rfl ?_
                              obtain ⟨hq79_0, rfm2_78⟩ := hq79
                              refine ziinc3 (n' := 1) (a' := 1) (b' := 8) (lv' := fun v9 => [(5, .int v9), (0, .ref o), (1, .int n), (2, .int dr), (3, .int x_51), (4, .int x_2)]) hx hb dX12_goes_160 hl (k := 5) rfl (by decide) (fun _ => rfl) (zaddK (i := x_52.toInt) (j := 1) rfl (by decide) i54.1 n67 (Int.le_refl _) (Int.le_refl _) (by decide)) (fun x_80 ls hx_80 hl => ?_)
                              refine lv_goto (tgt := 116) hx hb dX12_goes_163 (by decide) ?_
                              have hl := lv_sub (l' := [(0, .ref o), (1, .int n), (2, .int dr), (3, .int x_51), (4, .int x_2), (5, .int x_80)]) hl [1, 2, 3, 4, 5, 0] rfl
                              have hP : va_P g.1 vwCl (List.flatten [bMo g o a th hi ac tp x_24 x_25 x_26 fl x_27 x_28 x_29 x_30 fm2_78 fk fa fc ft ff_31 fb_32 fi]) H := hP
                              have hD : va_D A (List.flatten [bMo g o a th hi ac tp x_24 x_25 x_26 fl x_27 x_28 x_29 x_30 fm2_78 fk fa fc ft ff_31 fb_32 fi]) := hD
                              exact ih116_57 x_80 fm2_78 ⟨(Int.le_trans (by decide) hx_80.2.1), hx_80.2.2⟩ rfm2_78 (by first | omega | assumption | decide) H _ ls (zmK hx_80.1 (by decide) n67 (by decide) hk116_57)  hP hD hS (lv_sub hl [0, 1, 2, 3, 4, 5] rfl)
                          · skip
                            refine lv_if_ne (tgt := 160) hx hb dX12_goes_133 (by decide) (fun _ => ?_) (fun c81 => absurd c81 (by decide))
                            refine ziinc3 (n' := 1) (a' := 1) (b' := 8) (lv' := fun v9 => [(5, .int v9), (0, .ref o), (1, .int n), (2, .int dr), (3, .int x_51), (4, .int x_2)]) hx hb dX12_goes_160 hl (k := 5) rfl (by decide) (fun _ => rfl) (zaddK (i := x_52.toInt) (j := 1) rfl (by decide) i54.1 n67 (Int.le_refl _) (Int.le_refl _) (by decide)) (fun x_82 ls hx_82 hl => ?_)
                            refine lv_goto (tgt := 116) hx hb dX12_goes_163 (by decide) ?_
                            have hl := lv_sub (l' := [(0, .ref o), (1, .int n), (2, .int dr), (3, .int x_51), (4, .int x_2), (5, .int x_82)]) hl [1, 2, 3, 4, 5, 0] rfl
                            have hP : va_P g.1 vwCl (List.flatten [bMo g o a th hi ac tp x_24 x_25 x_26 fl x_27 x_28 x_29 x_30 fm_53 fk fa fc ft ff_31 fb_32 fi]) H := hP
                            have hD : va_D A (List.flatten [bMo g o a th hi ac tp x_24 x_25 x_26 fl x_27 x_28 x_29 x_30 fm_53 fk fa fc ft ff_31 fb_32 fi]) := hD
                            exact ih116_57 x_82 fm_53 ⟨(Int.le_trans (by decide) hx_82.2.1), hx_82.2.2⟩ rfm_53 i55 H _ ls (zmK hx_82.1 (by decide) n67 (by decide) hk116_57)  hP hD hS (lv_sub hl [0, 1, 2, 3, 4, 5] rfl)
                    have hL0 : (0 : Int32).toInt = 0 := by decide
                    have hP : va_P g.1 vwCl (List.flatten [bMo g o a th hi ac tp x_24 x_25 x_26 fl x_27 x_28 x_29 x_30 fm2_48 fk fa fc ft ff_31 fb_32 fi]) H := hP
                    have hD : va_D A (List.flatten [bMo g o a th hi ac tp x_24 x_25 x_26 fl x_27 x_28 x_29 x_30 fm2_48 fk fa fc ft ff_31 fb_32 fi]) := hD
                    exact LP116_56 _ 0 fm2_48 (by decide) rfm2_48 (by first | omega | assumption | decide) H _ ls (Nat.lt_succ_self _)  hP hD hS (lv_sub hl [0, 1, 2, 3, 4, 5] rfl)
                  · skip
                    have c83 : x_40.toInt < x_46.toInt := zlti (Int32.not_le.mp cb9) rfl rfl
                    have n84 : x_40.toInt ≤ 7 := zL1 (b := 8) c83 hx_46.2.1 (by decide)
                    have n85 : 1 ≤ x_46.toInt := zL2 (a := 0) c83 i42.1 (by decide)
                    refine lv_aload_n hx hb dX12_goes_78 rfl (lv_at hl 0 rfl) ?_
                    refine lv_iload hx hb dX12_goes_79 (lv_at hl 5 rfl) ?_
                    refine mcallV' (g := g) (q0 := 0) (ci := 10) (As := [.int x_40]) (rest := []) St hK hT hA hP hD hS hl.1 [0] [] rfl rfl rfl (m_isHere l g o a th hi ac tp x_24 x_25 x_26 fl x_27 x_28 x_29 x_30 fm_41 fk fa fc ft ff_31 fb_32 fi x_40 (⟨i42.1, n84⟩)) (cwV 1 hts (zgL (zl4 k846 k847 k848 k839) k841) rfl rfl rfl (by decide +kernel) ⟨Nat.le_of_ble_eq_true rfl, Nat.le_of_ble_eq_true rfl⟩) rfl rfl rfl rfl (Nat.le_of_ble_eq_true rfl) dX12_goes_81 ⟨(Nat.le_of_ble_eq_true rfl), (Nat.le_of_ble_eq_true rfl)⟩ (fun q_86 H locs hq87 hP hD hS => ?_)
                    replace hq87 : (q_86 = 0 ∨ q_86 = 1) := hq87
                    have hP : va_P g.1 vwCl (List.flatten [bMo g o a th hi ac tp x_24 x_25 x_26 fl x_27 x_28 x_29 x_30 fm_41 fk fa fc ft ff_31 fb_32 fi]) H := hP
                    have hD : va_D A (List.flatten [bMo g o a th hi ac tp x_24 x_25 x_26 fl x_27 x_28 x_29 x_30 fm_41 fk fa fc ft ff_31 fb_32 fi]) := hD
                    refine W.widen (k := 0) (n := 0) (Nat.le_of_ble_eq_true rfl) (Nat.le_of_ble_eq_true rfl) ?_
                    refine W.eq (g2 := F0 m 84 ls [.int q_86]) rfl ?_
                    rcases hq87 with rfl | rfl
                    · skip
                      refine lv_if_eq (tgt := 100) hx hb dX12_goes_84 (by decide) (fun _ => ?_) (fun c88 => absurd (by decide) c88)
                      refine ziinc3 (n' := 1) (a' := 1) (b' := 8) (lv' := fun v9 => [(5, .int v9), (0, .ref o), (1, .int n), (2, .int dr), (3, .int x_1), (4, .int x_2)]) hx hb dX12_goes_100 hl (k := 5) rfl (by decide) (fun _ => rfl) (zaddK (i := x_40.toInt) (j := 1) rfl (by decide) i42.1 n84 (Int.le_refl _) (Int.le_refl _) (by decide)) (fun x_89 ls hx_89 hl => ?_)
                      refine lv_goto (tgt := 67) hx hb dX12_goes_103 (by decide) ?_
                      have hl := lv_sub (l' := [(0, .ref o), (1, .int n), (2, .int dr), (3, .int x_1), (4, .int x_2), (5, .int x_89)]) hl [1, 2, 3, 4, 5, 0] rfl
                      have hP : va_P g.1 vwCl (List.flatten [bMo g o a th hi ac tp x_24 x_25 x_26 fl x_27 x_28 x_29 x_30 fm_41 fk fa fc ft ff_31 fb_32 fi]) H := hP
                      have hD : va_D A (List.flatten [bMo g o a th hi ac tp x_24 x_25 x_26 fl x_27 x_28 x_29 x_30 fm_41 fk fa fc ft ff_31 fb_32 fi]) := hD
                      exact ih67_45 x_89 fm_41 ⟨(Int.le_trans (by decide) hx_89.2.1), hx_89.2.2⟩ rfm_41 i43 H _ ls (zmK hx_89.1 (by decide) n84 (by decide) hk67_45)  hP hD hS (lv_sub hl [0, 1, 2, 3, 4, 5] rfl)
                    · skip
                      refine lv_if_eq (tgt := 100) hx hb dX12_goes_84 (by decide) (fun c90 => absurd c90 (by decide)) (fun _ => ?_)
                      refine lv_aload_n hx hb dX12_goes_87 rfl (lv_at hl 0 rfl) ?_
                      refine lv_iload hx hb dX12_goes_88 (lv_at hl 5 rfl) ?_
                      refine lv_aload_n hx hb dX12_goes_90 rfl (lv_at hl 0 rfl) ?_
                      refine va_get (D := g.1) (ci := 10) (v := .ref (a 6)) (C := RX12) (T := TX12) (N := 20) hx hb hts izRX12 hown hK hP 0 rfl rfl 18 (by decide) (hts _ k822) (fun _ h9 => h9) rfl dX12_goes_91 ?_
                      refine lv_iload hx hb dX12_goes_94 (lv_at hl 5 rfl) ?_
                      refine va_iald hx hb hK hP 7 0 rfl rfl (zinK (a := 0) (b := 7) i42.1 n84 (by decide)) dX12_goes_96 ?_
                      refine zg (fun x_91 => ?_)
                      refine mcallV' (g := g) (q0 := 0) (ci := 10) (As := [.int x_40, .int x_91]) (rest := []) St hK hT hA hP hD hS hl.1 [0] [] rfl rfl rfl (m_believes l g o a th hi ac tp x_24 x_25 x_26 fl x_27 x_28 x_29 x_30 fm_41 fk fa fc ft ff_31 fb_32 fi x_40 x_91 rfm_41 (⟨i42.1, n84⟩)) (cwV 2 hts (zgL (zl4 k1012 k1013 k1014 k839) k1002) rfl rfl rfl (by decide +kernel) ⟨Nat.le_of_ble_eq_true rfl, Nat.le_of_ble_eq_true rfl⟩) rfl rfl rfl rfl (Nat.le_of_ble_eq_true rfl) dX12_goes_97 ⟨(Nat.le_of_ble_eq_true rfl), (Nat.le_of_ble_eq_true rfl)⟩ (fun fm2_92 H locs hq93 hP hD hS => ?_)
                      replace hq93 : ((fm2_92 0).toInt = (fm_41 0).toInt ∧ (fm2_92 3).toInt = (fm_41 3).toInt ∧ (fm2_92 4).toInt = (fm_41 4).toInt) ∧ (rM fm2_92) := hq93
                      have hP : va_P g.1 vwCl (List.flatten [bMo g o a th hi ac tp x_24 x_25 x_26 fl x_27 x_28 x_29 x_30 fm2_92 fk fa fc ft ff_31 fb_32 fi]) H := hP
                      have hD : va_D A (List.flatten [bMo g o a th hi ac tp x_24 x_25 x_26 fl x_27 x_28 x_29 x_30 fm2_92 fk fa fc ft ff_31 fb_32 fi]) := hD
                      refine W.widen (k := 0) (n := 0) (Nat.le_of_ble_eq_true rfl) (Nat.le_of_ble_eq_true rfl) ?_
                      refine W.eq (g2 := F0 m 100 ls []) rfl ?_
                      obtain ⟨hq93_0, rfm2_92⟩ := hq93
                      refine ziinc3 (n' := 1) (a' := 1) (b' := 8) (lv' := fun v9 => [(5, .int v9), (0, .ref o), (1, .int n), (2, .int dr), (3, .int x_1), (4, .int x_2)]) hx hb dX12_goes_100 hl (k := 5) rfl (by decide) (fun _ => rfl) (zaddK (i := x_40.toInt) (j := 1) rfl (by decide) i42.1 n84 (Int.le_refl _) (Int.le_refl _) (by decide)) (fun x_94 ls hx_94 hl => ?_)
                      refine lv_goto (tgt := 67) hx hb dX12_goes_103 (by decide) ?_
                      have hl := lv_sub (l' := [(0, .ref o), (1, .int n), (2, .int dr), (3, .int x_1), (4, .int x_2), (5, .int x_94)]) hl [1, 2, 3, 4, 5, 0] rfl
                      have hP : va_P g.1 vwCl (List.flatten [bMo g o a th hi ac tp x_24 x_25 x_26 fl x_27 x_28 x_29 x_30 fm2_92 fk fa fc ft ff_31 fb_32 fi]) H := hP
                      have hD : va_D A (List.flatten [bMo g o a th hi ac tp x_24 x_25 x_26 fl x_27 x_28 x_29 x_30 fm2_92 fk fa fc ft ff_31 fb_32 fi]) := hD
                      exact ih67_45 x_94 fm2_92 ⟨(Int.le_trans (by decide) hx_94.2.1), hx_94.2.2⟩ rfm2_92 (by first | omega | assumption | decide) H _ ls (zmK hx_94.1 (by decide) n84 (by decide) hk67_45)  hP hD hS (lv_sub hl [0, 1, 2, 3, 4, 5] rfl)
              have hL0 : (0 : Int32).toInt = 0 := by decide
              have hP : va_P g.1 vwCl (List.flatten [bMo g o a th hi ac tp x_24 x_25 x_26 fl x_27 x_28 x_29 x_30 fm_10 fk fa fc ft ff_31 fb_32 fi]) H := hP
              have hD : va_D A (List.flatten [bMo g o a th hi ac tp x_24 x_25 x_26 fl x_27 x_28 x_29 x_30 fm_10 fk fa fc ft ff_31 fb_32 fi]) := hD
              exact LP67_44 _ 0 fm_10 (by decide) rfm_10 i16 H _ ls (Nat.lt_succ_self _)  hP hD hS (lv_sub hl [0, 1, 2, 3, 4, 5] rfl)
            · skip
              have c95 : x_23.toInt < x_38.toInt := zlti (Int32.not_le.mp cb9) rfl rfl
              have n96 : x_23.toInt ≤ 7 := zL1 (b := 8) c95 hx_38.2.1 (by decide)
              have n97 : 1 ≤ x_38.toInt := zL2 (a := 0) c95 i33.1 (by decide)
              refine lv_aload_n hx hb dX12_goes_25 rfl (lv_at hl 0 rfl) ?_
              refine va_get (D := g.1) (ci := 10) (v := .ref (a 6)) (C := RX12) (T := TX12) (N := 20) hx hb hts izRX12 hown hK hP 0 rfl rfl 18 (by decide) (hts _ k822) (fun _ h9 => h9) rfl dX12_goes_26 ?_
              refine lv_iload hx hb dX12_goes_29 (lv_at hl 5 rfl) ?_
              refine lv_aload_n hx hb dX12_goes_31 rfl (lv_at hl 0 rfl) ?_
              refine lv_iload hx hb dX12_goes_32 (lv_at hl 5 rfl) ?_
              refine mcallV' (g := g) (q0 := 0) (ci := 10) (As := [.int x_23]) (rest := [.int x_23, .ref (a 6)]) St hK hT hA hP hD hS hl.1 [0] [] rfl rfl rfl (m_isHere l g o a th hi ac tp x_24 x_25 x_26 fl x_27 x_28 x_29 x_30 fm_10 fk fa fc ft ff_31 fb_32 fi x_23 (⟨i33.1, n96⟩)) (cwV 1 hts (zgL (zl4 k846 k847 k848 k839) k841) rfl rfl rfl (by decide +kernel) ⟨Nat.le_of_ble_eq_true rfl, Nat.le_of_ble_eq_true rfl⟩) rfl rfl rfl rfl (Nat.le_of_ble_eq_true rfl) dX12_goes_34 ⟨(Nat.le_of_ble_eq_true rfl), (Nat.le_of_ble_eq_true rfl)⟩ (fun q_98 H locs hq99 hP hD hS => ?_)
              replace hq99 : (q_98 = 0 ∨ q_98 = 1) := hq99
              have hP : va_P g.1 vwCl (List.flatten [bMo g o a th hi ac tp x_24 x_25 x_26 fl x_27 x_28 x_29 x_30 fm_10 fk fa fc ft ff_31 fb_32 fi]) H := hP
              have hD : va_D A (List.flatten [bMo g o a th hi ac tp x_24 x_25 x_26 fl x_27 x_28 x_29 x_30 fm_10 fk fa fc ft ff_31 fb_32 fi]) := hD
              refine W.widen (k := 0) (n := 0) (Nat.le_of_ble_eq_true rfl) (Nat.le_of_ble_eq_true rfl) ?_
              refine W.eq (g2 := F0 m 37 ls [.int q_98, .int x_23, .ref (a 6)]) rfl ?_
              rcases hq99 with rfl | rfl
              · skip
                refine lv_if_eq (tgt := 56) hx hb dX12_goes_37 (by decide) (fun _ => ?_) (fun c100 => absurd (by decide) c100)
                refine lv_iconst (v := 0) hx hb dX12_goes_56 (by decide) ?_
                refine va_iast hx hb hK hP hD hS 7 0 rfl rfl (zinK (a := 0) (b := 7) i33.1 n96 (by decide)) dX12_goes_57 (fun H locs hP hD hS => ?_)
                obtain ⟨fb_101, hP, hD⟩ : ∃ fb_101 : Nat → Int32, va_P g.1 vwCl (List.flatten [bMo g o a th hi ac tp x_24 x_25 x_26 fl x_27 x_28 x_29 x_30 fm_10 fk fa fc ft ff_31 fb_101 fi]) H ∧ va_D A (List.flatten [bMo g o a th hi ac tp x_24 x_25 x_26 fl x_27 x_28 x_29 x_30 fm_10 fk fa fc ft ff_31 fb_101 fi]) := ⟨upd fb_32 x_23.toNatClampNeg 0, hP, hD⟩
                refine ziinc3 (n' := 1) (a' := 1) (b' := 8) (lv' := fun v9 => [(5, .int v9), (0, .ref o), (1, .int n), (2, .int dr), (3, .int x_1), (4, .int x_2)]) hx hb dX12_goes_58 hl (k := 5) rfl (by decide) (fun _ => rfl) (zaddK (i := x_23.toInt) (j := 1) rfl (by decide) i33.1 n96 (Int.le_refl _) (Int.le_refl _) (by decide)) (fun x_102 ls hx_102 hl => ?_)
                refine lv_goto (tgt := 14) hx hb dX12_goes_61 (by decide) ?_
                have hl := lv_sub (l' := [(0, .ref o), (1, .int n), (2, .int dr), (3, .int x_1), (4, .int x_2), (5, .int x_102)]) hl [1, 2, 3, 4, 5, 0] rfl
                have hP : va_P g.1 vwCl (List.flatten [bMo g o a th hi ac tp x_24 x_25 x_26 fl x_27 x_28 x_29 x_30 fm_10 fk fa fc ft ff_31 fb_101 fi]) H := hP
                have hD : va_D A (List.flatten [bMo g o a th hi ac tp x_24 x_25 x_26 fl x_27 x_28 x_29 x_30 fm_10 fk fa fc ft ff_31 fb_101 fi]) := hD
                exact ih14_37 x_102 x_24 x_25 x_26 x_27 x_28 x_29 x_30 ff_31 fb_101 ⟨(Int.le_trans (by decide) hx_102.2.1), hx_102.2.2⟩ ⟨i34.1, i34.2⟩ ⟨i35.1, i35.2⟩ H _ ls (zmK hx_102.1 (by decide) n96 (by decide) hk14_37)  hP hD hS (lv_sub hl [0, 1, 2, 3, 4, 5] rfl)
              · skip
                refine lv_if_eq (tgt := 56) hx hb dX12_goes_37 (by decide) (fun c103 => absurd c103 (by decide)) (fun _ => ?_)
                refine lv_aload_n hx hb dX12_goes_40 rfl (lv_at hl 0 rfl) ?_
                refine lv_iload hx hb dX12_goes_41 (lv_at hl 5 rfl) ?_
                refine mcallV' (g := g) (q0 := 0) (ci := 10) (As := [.int x_23]) (rest := [.int x_23, .ref (a 6)]) St hK hT hA hP hD hS hl.1 [0] [] rfl rfl rfl (m_pull l g o a th hi ac tp x_24 x_25 x_26 fl x_27 x_28 x_29 x_30 fm_10 fk fa fc ft ff_31 fb_32 fi x_23 rfm_10 (⟨i33.1, n96⟩)) (cwV 1 hts (zgL (zl4 k1016 k1017 k1018 k839) k871) rfl rfl rfl (by decide +kernel) ⟨Nat.le_of_ble_eq_true rfl, Nat.le_of_ble_eq_true rfl⟩) rfl rfl rfl rfl (Nat.le_of_ble_eq_true rfl) dX12_goes_43 ⟨(Nat.le_of_ble_eq_true rfl), (Nat.le_of_ble_eq_true rfl)⟩ (fun q_104 H locs hq105 hP hD hS => ?_)
                have hP : va_P g.1 vwCl (List.flatten [bMo g o a th hi ac tp x_24 x_25 x_26 fl x_27 x_28 x_29 x_30 fm_10 fk fa fc ft ff_31 fb_32 fi]) H := hP
                have hD : va_D A (List.flatten [bMo g o a th hi ac tp x_24 x_25 x_26 fl x_27 x_28 x_29 x_30 fm_10 fk fa fc ft ff_31 fb_32 fi]) := hD
                refine W.widen (k := 0) (n := 0) (Nat.le_of_ble_eq_true rfl) (Nat.le_of_ble_eq_true rfl) ?_
                refine W.eq (g2 := F0 m 46 ls [.int q_104, .int x_23, .ref (a 6)]) rfl ?_
                refine lv_aload_n hx hb dX12_goes_46 rfl (lv_at hl 0 rfl) ?_
                refine lv_iload hx hb dX12_goes_47 (lv_at hl 5 rfl) ?_
                refine mcallV' (g := g) (q0 := 0) (ci := 10) (As := [.int x_23]) (rest := [.int q_104, .int x_23, .ref (a 6)]) St hK hT hA hP hD hS hl.1 [0] [] rfl rfl rfl (m_turnsBy l g o a th hi ac tp x_24 x_25 x_26 fl x_27 x_28 x_29 x_30 fm_10 fk fa fc ft ff_31 fb_32 fi x_23 rfm_10 i34 i35 (⟨i33.1, n96⟩)) (cwV 1 hts (zgL (zl4 k1019 k1020 k1021 k839) k996) rfl rfl rfl (by decide +kernel) ⟨Nat.le_of_ble_eq_true rfl, Nat.le_of_ble_eq_true rfl⟩) rfl rfl rfl rfl (Nat.le_of_ble_eq_true rfl) dX12_goes_49 ⟨(Nat.le_of_ble_eq_true rfl), (Nat.le_of_ble_eq_true rfl)⟩ (fun u_ H locs hq115 hP hD hS => ?_)
                obtain ⟨ba2_106, en2_107, at2_108, de2_109, iD2_110, iO2_111, tU2_112, ff2_113, q_114⟩ := u_
                replace hq115 : (0 ≤ iO2_111.toInt ∧ iO2_111.toInt ≤ 1) ∧ (0 ≤ iD2_110.toInt ∧ iD2_110.toInt ≤ 1) := hq115
                have hP : va_P g.1 vwCl (List.flatten [bMo g o a th hi ac tp ba2_106 en2_107 at2_108 fl de2_109 iD2_110 iO2_111 tU2_112 fm_10 fk fa fc ft ff2_113 fb_32 fi]) H := hP
                have hD : va_D A (List.flatten [bMo g o a th hi ac tp ba2_106 en2_107 at2_108 fl de2_109 iD2_110 iO2_111 tU2_112 fm_10 fk fa fc ft ff2_113 fb_32 fi]) := hD
                refine W.widen (k := 0) (n := 0) (Nat.le_of_ble_eq_true rfl) (Nat.le_of_ble_eq_true rfl) ?_
                refine W.eq (g2 := F0 m 52 ls [.int q_114, .int q_104, .int x_23, .ref (a 6)]) rfl ?_
                obtain ⟨hq115_0, hq115_1⟩ := hq115
                refine lv_iadd hx hb dX12_goes_52 ?_
                refine zg (fun x_116 => ?_)
                refine lv_goto (tgt := 57) hx hb dX12_goes_53 (by decide) ?_
                refine va_iast hx hb hK hP hD hS 7 0 rfl rfl (zinK (a := 0) (b := 7) i33.1 n96 (by decide)) dX12_goes_57 (fun H locs hP hD hS => ?_)
                obtain ⟨fb_117, hP, hD⟩ : ∃ fb_117 : Nat → Int32, va_P g.1 vwCl (List.flatten [bMo g o a th hi ac tp ba2_106 en2_107 at2_108 fl de2_109 iD2_110 iO2_111 tU2_112 fm_10 fk fa fc ft ff2_113 fb_117 fi]) H ∧ va_D A (List.flatten [bMo g o a th hi ac tp ba2_106 en2_107 at2_108 fl de2_109 iD2_110 iO2_111 tU2_112 fm_10 fk fa fc ft ff2_113 fb_117 fi]) := ⟨upd fb_32 x_23.toNatClampNeg x_116, hP, hD⟩
                refine ziinc3 (n' := 1) (a' := 1) (b' := 8) (lv' := fun v9 => [(5, .int v9), (0, .ref o), (1, .int n), (2, .int dr), (3, .int x_1), (4, .int x_2)]) hx hb dX12_goes_58 hl (k := 5) rfl (by decide) (fun _ => rfl) (zaddK (i := x_23.toInt) (j := 1) rfl (by decide) i33.1 n96 (Int.le_refl _) (Int.le_refl _) (by decide)) (fun x_118 ls hx_118 hl => ?_)
                refine lv_goto (tgt := 14) hx hb dX12_goes_61 (by decide) ?_
                have hl := lv_sub (l' := [(0, .ref o), (1, .int n), (2, .int dr), (3, .int x_1), (4, .int x_2), (5, .int x_118)]) hl [1, 2, 3, 4, 5, 0] rfl
                have hP : va_P g.1 vwCl (List.flatten [bMo g o a th hi ac tp ba2_106 en2_107 at2_108 fl de2_109 iD2_110 iO2_111 tU2_112 fm_10 fk fa fc ft ff2_113 fb_117 fi]) H := hP
                have hD : va_D A (List.flatten [bMo g o a th hi ac tp ba2_106 en2_107 at2_108 fl de2_109 iD2_110 iO2_111 tU2_112 fm_10 fk fa fc ft ff2_113 fb_117 fi]) := hD
                exact ih14_37 x_118 ba2_106 en2_107 at2_108 de2_109 iD2_110 iO2_111 tU2_112 ff2_113 fb_117 ⟨(Int.le_trans (by decide) hx_118.2.1), hx_118.2.2⟩ ⟨hq115_1.1, hq115_1.2⟩ ⟨hq115_0.1, hq115_0.2⟩ H _ ls (zmK hx_118.1 (by decide) n96 (by decide) hk14_37)  hP hD hS (lv_sub hl [0, 1, 2, 3, 4, 5] rfl)
        have hP : va_P g.1 vwCl (List.flatten [bMo g o a th hi ac tp x_3 x_4 x_5 fl x_6 x_7 x_8 x_9 fm_10 fk fa fc ft ff_11 fb_12 fi]) H := hP
        have hD : va_D A (List.flatten [bMo g o a th hi ac tp x_3 x_4 x_5 fl x_6 x_7 x_8 x_9 fm_10 fk fa fc ft ff_11 fb_12 fi]) := hD
        exact LP14_36 _ 0 x_3 x_4 x_5 x_6 x_7 x_8 x_9 ff_11 fb_12 (by decide) ⟨i14.1, i14.2⟩ ⟨i15.1, i15.2⟩ H _ ls (Nat.lt_succ_self _)  hP hD hS (lv_sub hl [0, 1, 2, 3, 4, 5] rfl)
  have hL0 : (0 : Int32).toInt = 0 := by decide
  have hP : va_P g.1 vwCl (List.flatten [bMo g o a th hi ac tp ba en tA fl de iD iO tU fm fk fa fc ft ff fb fi]) s.heap := hP
  have hD : va_D A (List.flatten [bMo g o a th hi ac tp ba en tA fl de iD iO tU fm fk fa fc ft ff fb fi]) := hD
  exact LP5_17 _ 0 0 ba en tA de iD iO tU fm ff fb (by decide) ⟨hiD.1, hiD.2⟩ ⟨hiO.1, hiO.2⟩ rfm (by first | omega | assumption | decide) s.heap _ ls (Nat.lt_succ_self _)  hP hD hS (lv_sub hl [0, 1, 2, 3, 4] rfl)
set_option maxRecDepth 100000 in
set_option maxHeartbeats 4000000 in
theorem m_remembers (l : Launch) (g : zG) (o : Nat) (a : Nat → Nat) (th : Int32) (hi : Int32) (ac : Int32) (tp : Int32) (ba : Int32) (en : Int32) (tA : Int32) (fl : Int32) (de : Int32) (iD : Int32) (iO : Int32) (tU : Int32) (fm : Nat → Int32) (fk : Nat → Int32) (fa : Nat → Int32) (fc : Nat → Int32) (ft : Nat → Int32) (ff : Nat → Int32) (fb : Nat → Int32) (fi : Nat → Int32) (rfm : rM fm) (rfc : rC fc) (hac : 0 ≤ ac.toInt ∧ ac.toInt ≤ 12) : zM' g l yX12_remembers (Cond.code yX12_remembers cX12_remembers 2 none :: zB) ({ frames := 0, cells := 0, slots := 0, locals := 0 } : Room) [.ref o] [bMo g o a th hi ac tp ba en tA fl de iD iO tU fm fk fa fc ft ff fb fi] (fun u : Int32 × (Nat → Int32) => (fun (ac2 : Int32) (fc2 : Nat → Int32) => none) (u.1) (u.2)) (fun u : Int32 × (Nat → Int32) => (fun (ac2 : Int32) (fc2 : Nat → Int32) => (rC fc2) ∧ (0 ≤ ac2.toInt ∧ ac2.toInt ≤ 12) ∧ (zRem fc fc2 ac.toInt ac2.toInt fm)) (u.1) (u.2)) (fun u : Int32 × (Nat → Int32) => (fun (ac2 : Int32) (fc2 : Nat → Int32) => [bMo g o a th hi ac2 tp ba en tA fl de iD iO tU fm fk fa fc2 ft ff fb fi]) (u.1) (u.2)) := by
  refine zM'.of (cc := cX12_remembers) (maxL := 2) (rt := none) (by decide) rfl (Nat.le_of_ble_eq_true rfl) ?_
  intro p e s m args below meth c A ls St hr hlocks hin hK hT hA hP hD hS hl
  obtain ⟨hx, hb, hml, hown, hts⟩ := id St
  have hl : lv_has ls 2 [(0, .ref o)] := hl
  refine lv_aload_n hx hb dX12_remembers_0 rfl (lv_at hl 0 rfl) ?_
  refine va_get (D := g.1) (ci := 10) (v := .int ac) (C := RX12) (T := TX12) (N := 20) hx hb hts izRX12 hown hK hP 0 rfl rfl 6 (by decide) (hts _ k974) (fun _ h9 => h9) rfl dX12_remembers_1 ?_
  refine lv_bipush (v := 12) hx hb dX12_remembers_4 (by decide) ?_
  refine lv_icmp_ne (tgt := 50) hx hb dX12_remembers_6 (by decide) (fun cb9 => ?_) (fun cb9 => ?_)
  · skip
    have c1 : ¬ ac.toInt = 12 := zne cb9 rfl (by decide)
    have n2 : ac.toInt ≤ 11 := zN2 c1 hac.2 (by decide)
    refine lv_iconst (v := 0) hx hb dX12_remembers_50 (by decide) ?_
    refine lv_istore_n (lv' := [(1, .int 0), (0, .ref o)]) hx hb dX12_remembers_51 rfl hl (by decide) rfl (fun ls hl => ?_)
    have hl := lv_sub (l' := [(0, .ref o), (1, .int 0)]) hl [1, 0] rfl
    have LP52_7 : ∀ (kf : Nat) (x_3 : Int32) (fc_4 : Nat → Int32), (0 ≤ x_3.toInt ∧ x_3.toInt ≤ 379) → (rC fc_4) → (zCy fc fc_4 (379 * ac.toInt.toNat) fm 0 x_3.toInt) → ∀ (H : Heap) (locs : List Loc) (ls : Array Slot), ((380 - x_3.toInt).toNat) < kf → va_P g.1 vwCl (List.flatten [bMo g o a th hi ac tp ba en tA fl de iD iO tU fm fk fa fc_4 ft ff fb fi]) H → va_D A (List.flatten [bMo g o a th hi ac tp ba en tA fl de iD iO tU fm fk fa fc_4 ft ff fb fi]) → va_S A s.heap H locs → lv_has ls 2 [(0, .ref o), (1, .int x_3)] → W p l e ({ frames := 0, cells := 0, slots := 0, locals := 0 } : Room) s m args below meth c H locs (0) (0) (zF g (fun u : Int32 × (Nat → Int32) => (fun (ac2 : Int32) (fc2 : Nat → Int32) => none) (u.1) (u.2)) (fun u : Int32 × (Nat → Int32) => (fun (ac2 : Int32) (fc2 : Nat → Int32) => (rC fc2) ∧ (0 ≤ ac2.toInt ∧ ac2.toInt ≤ 12) ∧ (zRem fc fc2 ac.toInt ac2.toInt fm)) (u.1) (u.2)) (fun u : Int32 × (Nat → Int32) => (fun (ac2 : Int32) (fc2 : Nat → Int32) => [bMo g o a th hi ac2 tp ba en tA fl de iD iO tU fm fk fa fc2 ft ff fb fi]) (u.1) (u.2)) ({ frames := 0, cells := 0, slots := 0, locals := 0 } : Room) below args s A) (F0 m 52 ls []) := by
      intro kf
      induction kf with
      | zero => intro x_3 fc_4 i5 rfc_4 i6 H locs ls hk; exact absurd hk (Nat.not_lt_zero _)
      | succ kf ih52_8 =>
        intro x_3 fc_4 i5 rfc_4 i6 H locs ls hk52_8 hP hD hS hl
        refine lv_iload_n hx hb dX12_remembers_52 rfl (lv_at hl 1 rfl) ?_
        refine lv_sipush (v := 379) hx hb dX12_remembers_53 (by decide) ?_
        refine lv_icmp_ge (tgt := 86) hx hb dX12_remembers_56 (by decide) (fun cb9 => ?_) (fun cb9 => ?_)
        · skip
          have c9 : 379 ≤ x_3.toInt := zle cb9 (by decide) rfl
          have n10 : 379 ≤ x_3.toInt := Int.le_trans (Int.le_refl _) c9
          refine lv_aload_n hx hb dX12_remembers_86 rfl (lv_at hl 0 rfl) ?_
          refine lv_dup hx hb dX12_remembers_87 rfl ?_
          refine va_get (D := g.1) (ci := 10) (v := .int ac) (C := RX12) (T := TX12) (N := 20) hx hb hts izRX12 hown hK hP 0 rfl rfl 6 (by decide) (hts _ k974) (fun _ h9 => h9) rfl dX12_remembers_88 ?_
          refine lv_iconst (v := 1) hx hb dX12_remembers_91 (by decide) ?_
          refine lv_iadd hx hb dX12_remembers_92 ?_
          refine zg3 (zaddK (i := ac.toInt) (j := 1) (a' := 1) (b' := 12) rfl (by decide) hac.1 n2 (Int.le_refl _) (Int.le_refl _) (by decide)) (fun x_11 hx_11 => ?_)
          refine va_put (D := g.1) (ci := 10) (v := .int x_11) (ty := .int) (C := RX12) (T := TX12) (N := 20) hx hb hts izRX12 tyX12 tyX12_ok nmX12 hown hK hP hD hS 0 rfl rfl 6 (by decide) (hts _ k974) (fun _ h9 => h9) rfl (by decide +kernel) rfl rfl (Nat.le_of_ble_eq_true rfl) dX12_remembers_93 (fun H locs hP hD hS => ?_)
          have hP : va_P g.1 vwCl (List.flatten [bMo g o a th hi x_11 tp ba en tA fl de iD iO tU fm fk fa fc_4 ft ff fb fi]) H := hP
          have hD : va_D A (List.flatten [bMo g o a th hi x_11 tp ba en tA fl de iD iO tU fm fk fa fc_4 ft ff fb fi]) := hD
          have hP : va_P g.1 vwCl (List.flatten [bMo g o a th hi x_11 tp ba en tA fl de iD iO tU fm fk fa fc_4 ft ff fb fi]) H := hP
          have hD : va_D A (List.flatten [bMo g o a th hi x_11 tp ba en tA fl de iD iO tU fm fk fa fc_4 ft ff fb fi]) := hD
          exact mret_v hx hb hr hlocks hS (Nat.le_of_ble_eq_true rfl) (Nat.le_of_ble_eq_true rfl) dX12_remembers_96 (x_11, fc_4) rfl (show (rC fc_4) ∧ (0 ≤ x_11.toInt ∧ x_11.toInt ≤ 12) ∧ (zRem fc fc_4 ac.toInt x_11.toInt fm) from ⟨(by first | assumption | omega), (by first | assumption | omega), (Or.inl ⟨(by omega), (by omega), (zCy_e i6 (by omega))⟩)⟩) hP hD
        · skip
          have c12 : x_3.toInt < 379 := zlti (Int32.not_le.mp cb9) rfl (by decide)
          have n13 : x_3.toInt ≤ 378 := zL1 (b := 379) c12 (Int.le_refl _) (by decide)
          refine lv_aload_n hx hb dX12_remembers_59 rfl (lv_at hl 0 rfl) ?_
          refine va_get (D := g.1) (ci := 10) (v := .ref (a 3)) (C := RX12) (T := TX12) (N := 20) hx hb hts izRX12 hown hK hP 0 rfl rfl 5 (by decide) (hts _ k818) (fun _ h9 => h9) rfl dX12_remembers_60 ?_
          refine lv_sipush (v := 379) hx hb dX12_remembers_63 (by decide) ?_
          refine lv_aload_n hx hb dX12_remembers_66 rfl (lv_at hl 0 rfl) ?_
          refine va_get (D := g.1) (ci := 10) (v := .int ac) (C := RX12) (T := TX12) (N := 20) hx hb hts izRX12 hown hK hP 0 rfl rfl 6 (by decide) (hts _ k974) (fun _ h9 => h9) rfl dX12_remembers_67 ?_
          refine lv_imul hx hb dX12_remembers_70 ?_
          refine zg3 (zmulKL (i := ac.toInt) (n := 379) (a' := 0) (b' := 4169) rfl (by decide) hac.1 n2 (by decide) (by decide)) (fun x_14 hx_14 => ?_)
          refine lv_iload_n hx hb dX12_remembers_71 rfl (lv_at hl 1 rfl) ?_
          refine lv_iadd hx hb dX12_remembers_72 ?_
          refine zg3 (zaddK (i := x_14.toInt) (j := x_3.toInt) (a' := 0) (b' := 4547) rfl rfl hx_14.2.1 hx_14.2.2 i5.1 n13 (by decide)) (fun x_15 hx_15 => ?_)
          refine lv_aload_n hx hb dX12_remembers_73 rfl (lv_at hl 0 rfl) ?_
          refine va_get (D := g.1) (ci := 10) (v := .ref (a 0)) (C := RX12) (T := TX12) (N := 20) hx hb hts izRX12 hown hK hP 0 rfl rfl 1 (by decide) (hts _ k815) (fun _ h9 => h9) rfl dX12_remembers_74 ?_
          refine lv_iload_n hx hb dX12_remembers_77 rfl (lv_at hl 1 rfl) ?_
          refine va_iald hx hb hK hP 1 0 rfl rfl (zinK (a := 0) (b := 378) i5.1 n13 (by decide)) dX12_remembers_78 ?_
          refine va_iast hx hb hK hP hD hS 4 0 rfl rfl (zinK (a := 0) (b := 4547) hx_15.2.1 hx_15.2.2 (by decide)) dX12_remembers_79 (fun H locs hP hD hS => ?_)
          obtain ⟨fc_16, ⟨rfc_16, hcfc_16⟩, hP, hD⟩ : ∃ fc_16 : Nat → Int32, (rC fc_16 ∧ zCy fc fc_16 (379 * ac.toInt.toNat) fm 0 (x_3.toInt + 1)) ∧ va_P g.1 vwCl (List.flatten [bMo g o a th hi ac tp ba en tA fl de iD iO tU fm fk fa fc_16 ft ff fb fi]) H ∧ va_D A (List.flatten [bMo g o a th hi ac tp ba en tA fl de iD iO tU fm fk fa fc_16 ft ff fb fi]) := ⟨upd fc_4 x_15.toNatClampNeg (fm x_3.toNatClampNeg), ⟨(rC_st (a := ac) rfc_4 rfm (by omega) (by omega) (by omega)), (zCy_s i6 (by omega) (congrArg fm (by rw [zcl]; omega)) rfl)⟩, hP, hD⟩
          refine ziinc3 (n' := 1) (a' := 1) (b' := 379) (lv' := fun v9 => [(1, .int v9), (0, .ref o)]) hx hb dX12_remembers_80 hl (k := 1) rfl (by decide) (fun _ => rfl) (zaddK (i := x_3.toInt) (j := 1) rfl (by decide) i5.1 n13 (Int.le_refl _) (Int.le_refl _) (by decide)) (fun x_17 ls hx_17 hl => ?_)
          refine lv_goto (tgt := 52) hx hb dX12_remembers_83 (by decide) ?_
          have hl := lv_sub (l' := [(0, .ref o), (1, .int x_17)]) hl [1, 0] rfl
          have hP : va_P g.1 vwCl (List.flatten [bMo g o a th hi ac tp ba en tA fl de iD iO tU fm fk fa fc_16 ft ff fb fi]) H := hP
          have hD : va_D A (List.flatten [bMo g o a th hi ac tp ba en tA fl de iD iO tU fm fk fa fc_16 ft ff fb fi]) := hD
          exact ih52_8 x_17 fc_16 ⟨(Int.le_trans (by decide) hx_17.2.1), hx_17.2.2⟩ rfc_16 (zCy_e hcfc_16 (by omega)) H _ ls (zmK hx_17.1 (by decide) n13 (by decide) hk52_8)  hP hD hS (lv_sub hl [0, 1] rfl)
    have hL0 : (0 : Int32).toInt = 0 := by decide
    have hP : va_P g.1 vwCl (List.flatten [bMo g o a th hi ac tp ba en tA fl de iD iO tU fm fk fa fc ft ff fb fi]) s.heap := hP
    have hD : va_D A (List.flatten [bMo g o a th hi ac tp ba en tA fl de iD iO tU fm fk fa fc ft ff fb fi]) := hD
    exact LP52_7 _ 0 fc (by decide) rfc (zCy_0 (by decide)) s.heap _ ls (Nat.lt_succ_self _)  hP hD hS (lv_sub hl [0, 1] rfl)
  · skip
    have c18 : ac.toInt = 12 := zeq cb9 rfl (by decide)
    have n19 : 12 ≤ ac.toInt := Int.le_trans (Int.le_refl _) (Int.le_of_eq c18.symm)
    refine lv_iconst (v := 0) hx hb dX12_remembers_9 (by decide) ?_
    refine lv_istore_n (lv' := [(1, .int 0), (0, .ref o)]) hx hb dX12_remembers_10 rfl hl (by decide) rfl (fun ls hl => ?_)
    have hl := lv_sub (l' := [(0, .ref o), (1, .int 0)]) hl [1, 0] rfl
    have LP11_24 : ∀ (kf : Nat) (x_20 : Int32) (fc_21 : Nat → Int32), (0 ≤ x_20.toInt ∧ x_20.toInt ≤ 4169) → (rC fc_21) → (zSh fc fc_21 x_20.toInt) → ∀ (H : Heap) (locs : List Loc) (ls : Array Slot), ((4170 - x_20.toInt).toNat) < kf → va_P g.1 vwCl (List.flatten [bMo g o a th hi ac tp ba en tA fl de iD iO tU fm fk fa fc_21 ft ff fb fi]) H → va_D A (List.flatten [bMo g o a th hi ac tp ba en tA fl de iD iO tU fm fk fa fc_21 ft ff fb fi]) → va_S A s.heap H locs → lv_has ls 2 [(0, .ref o), (1, .int x_20)] → W p l e ({ frames := 0, cells := 0, slots := 0, locals := 0 } : Room) s m args below meth c H locs (0) (0) (zF g (fun u : Int32 × (Nat → Int32) => (fun (ac2 : Int32) (fc2 : Nat → Int32) => none) (u.1) (u.2)) (fun u : Int32 × (Nat → Int32) => (fun (ac2 : Int32) (fc2 : Nat → Int32) => (rC fc2) ∧ (0 ≤ ac2.toInt ∧ ac2.toInt ≤ 12) ∧ (zRem fc fc2 ac.toInt ac2.toInt fm)) (u.1) (u.2)) (fun u : Int32 × (Nat → Int32) => (fun (ac2 : Int32) (fc2 : Nat → Int32) => [bMo g o a th hi ac2 tp ba en tA fl de iD iO tU fm fk fa fc2 ft ff fb fi]) (u.1) (u.2)) ({ frames := 0, cells := 0, slots := 0, locals := 0 } : Room) below args s A) (F0 m 11 ls []) := by
      intro kf
      induction kf with
      | zero => intro x_20 fc_21 i22 rfc_21 i23 H locs ls hk; exact absurd hk (Nat.not_lt_zero _)
      | succ kf ih11_25 =>
        intro x_20 fc_21 i22 rfc_21 i23 H locs ls hk11_25 hP hD hS hl
        refine lv_iload_n hx hb dX12_remembers_11 rfl (lv_at hl 1 rfl) ?_
        refine lv_sipush (v := 4169) hx hb dX12_remembers_12 (by decide) ?_
        refine lv_icmp_ge (tgt := 40) hx hb dX12_remembers_15 (by decide) (fun cb9 => ?_) (fun cb9 => ?_)
        · skip
          have c26 : 4169 ≤ x_20.toInt := zle cb9 (by decide) rfl
          have n27 : 4169 ≤ x_20.toInt := Int.le_trans (Int.le_refl _) c26
          have w28 : zSh fc fc_21 4169 := zSh_e i23 (by omega)
          refine lv_aload_n hx hb dX12_remembers_40 rfl (lv_at hl 0 rfl) ?_
          refine lv_dup hx hb dX12_remembers_41 rfl ?_
          refine va_get (D := g.1) (ci := 10) (v := .int ac) (C := RX12) (T := TX12) (N := 20) hx hb hts izRX12 hown hK hP 0 rfl rfl 6 (by decide) (hts _ k974) (fun _ h9 => h9) rfl dX12_remembers_42 ?_
          refine lv_iconst (v := 1) hx hb dX12_remembers_45 (by decide) ?_
          refine lv_isub hx hb dX12_remembers_46 ?_
          refine zg3 (zsubK (i := ac.toInt) (j := 1) (a' := 11) (b' := 11) rfl (by decide) n19 hac.2 (Int.le_refl _) (Int.le_refl _) (by decide)) (fun x_29 hx_29 => ?_)
          refine va_put (D := g.1) (ci := 10) (v := .int x_29) (ty := .int) (C := RX12) (T := TX12) (N := 20) hx hb hts izRX12 tyX12 tyX12_ok nmX12 hown hK hP hD hS 0 rfl rfl 6 (by decide) (hts _ k974) (fun _ h9 => h9) rfl (by decide +kernel) rfl rfl (Nat.le_of_ble_eq_true rfl) dX12_remembers_47 (fun H locs hP hD hS => ?_)
          have hP : va_P g.1 vwCl (List.flatten [bMo g o a th hi x_29 tp ba en tA fl de iD iO tU fm fk fa fc_21 ft ff fb fi]) H := hP
          have hD : va_D A (List.flatten [bMo g o a th hi x_29 tp ba en tA fl de iD iO tU fm fk fa fc_21 ft ff fb fi]) := hD
          refine lv_iconst (v := 0) hx hb dX12_remembers_50 (by decide) ?_
          refine lv_istore_n (lv' := [(1, .int 0), (0, .ref o)]) hx hb dX12_remembers_51 rfl hl (by decide) rfl (fun ls hl => ?_)
          have hl := lv_sub (l' := [(0, .ref o), (1, .int 0)]) hl [1, 0] rfl
          have LP52_34 : ∀ (kf : Nat) (x_30 : Int32) (fc_31 : Nat → Int32), (0 ≤ x_30.toInt ∧ x_30.toInt ≤ 379) → (rC fc_31) → (zCy fc_21 fc_31 (379 * x_29.toInt.toNat) fm 0 x_30.toInt) → ∀ (H : Heap) (locs : List Loc) (ls : Array Slot), ((380 - x_30.toInt).toNat) < kf → va_P g.1 vwCl (List.flatten [bMo g o a th hi x_29 tp ba en tA fl de iD iO tU fm fk fa fc_31 ft ff fb fi]) H → va_D A (List.flatten [bMo g o a th hi x_29 tp ba en tA fl de iD iO tU fm fk fa fc_31 ft ff fb fi]) → va_S A s.heap H locs → lv_has ls 2 [(0, .ref o), (1, .int x_30)] → W p l e ({ frames := 0, cells := 0, slots := 0, locals := 0 } : Room) s m args below meth c H locs (0) (0) (zF g (fun u : Int32 × (Nat → Int32) => (fun (ac2 : Int32) (fc2 : Nat → Int32) => none) (u.1) (u.2)) (fun u : Int32 × (Nat → Int32) => (fun (ac2 : Int32) (fc2 : Nat → Int32) => (rC fc2) ∧ (0 ≤ ac2.toInt ∧ ac2.toInt ≤ 12) ∧ (zRem fc fc2 ac.toInt ac2.toInt fm)) (u.1) (u.2)) (fun u : Int32 × (Nat → Int32) => (fun (ac2 : Int32) (fc2 : Nat → Int32) => [bMo g o a th hi ac2 tp ba en tA fl de iD iO tU fm fk fa fc2 ft ff fb fi]) (u.1) (u.2)) ({ frames := 0, cells := 0, slots := 0, locals := 0 } : Room) below args s A) (F0 m 52 ls []) := by
            intro kf
            induction kf with
            | zero => intro x_30 fc_31 i32 rfc_31 i33 H locs ls hk; exact absurd hk (Nat.not_lt_zero _)
            | succ kf ih52_35 =>
              intro x_30 fc_31 i32 rfc_31 i33 H locs ls hk52_35 hP hD hS hl
              refine lv_iload_n hx hb dX12_remembers_52 rfl (lv_at hl 1 rfl) ?_
              refine lv_sipush (v := 379) hx hb dX12_remembers_53 (by decide) ?_
              refine lv_icmp_ge (tgt := 86) hx hb dX12_remembers_56 (by decide) (fun cb9 => ?_) (fun cb9 => ?_)
              · skip
                have c36 : 379 ≤ x_30.toInt := zle cb9 (by decide) rfl
                have n37 : 379 ≤ x_30.toInt := Int.le_trans (Int.le_refl _) c36
                refine lv_aload_n hx hb dX12_remembers_86 rfl (lv_at hl 0 rfl) ?_
                refine lv_dup hx hb dX12_remembers_87 rfl ?_
                refine va_get (D := g.1) (ci := 10) (v := .int x_29) (C := RX12) (T := TX12) (N := 20) hx hb hts izRX12 hown hK hP 0 rfl rfl 6 (by decide) (hts _ k974) (fun _ h9 => h9) rfl dX12_remembers_88 ?_
                refine lv_iconst (v := 1) hx hb dX12_remembers_91 (by decide) ?_
                refine lv_iadd hx hb dX12_remembers_92 ?_
                refine zg3 (zaddK (i := x_29.toInt) (j := 1) (a' := 12) (b' := 12) rfl (by decide) hx_29.2.1 hx_29.2.2 (Int.le_refl _) (Int.le_refl _) (by decide)) (fun x_38 hx_38 => ?_)
                refine va_put (D := g.1) (ci := 10) (v := .int x_38) (ty := .int) (C := RX12) (T := TX12) (N := 20) hx hb hts izRX12 tyX12 tyX12_ok nmX12 hown hK hP hD hS 0 rfl rfl 6 (by decide) (hts _ k974) (fun _ h9 => h9) rfl (by decide +kernel) rfl rfl (Nat.le_of_ble_eq_true rfl) dX12_remembers_93 (fun H locs hP hD hS => ?_)
                have hP : va_P g.1 vwCl (List.flatten [bMo g o a th hi x_38 tp ba en tA fl de iD iO tU fm fk fa fc_31 ft ff fb fi]) H := hP
                have hD : va_D A (List.flatten [bMo g o a th hi x_38 tp ba en tA fl de iD iO tU fm fk fa fc_31 ft ff fb fi]) := hD
                have hP : va_P g.1 vwCl (List.flatten [bMo g o a th hi x_38 tp ba en tA fl de iD iO tU fm fk fa fc_31 ft ff fb fi]) H := hP
                have hD : va_D A (List.flatten [bMo g o a th hi x_38 tp ba en tA fl de iD iO tU fm fk fa fc_31 ft ff fb fi]) := hD
                exact mret_v hx hb hr hlocks hS (Nat.le_of_ble_eq_true rfl) (Nat.le_of_ble_eq_true rfl) dX12_remembers_96 (x_38, fc_31) rfl (show (rC fc_31) ∧ (0 ≤ x_38.toInt ∧ x_38.toInt ≤ 12) ∧ (zRem fc fc_31 ac.toInt x_38.toInt fm) from ⟨(by first | assumption | omega), (by first | assumption | omega), (Or.inr ⟨(by omega), (by omega), _, w28, zCy_o (by omega) (zCy_e i33 (by omega))⟩)⟩) hP hD
              · skip
                have c39 : x_30.toInt < 379 := zlti (Int32.not_le.mp cb9) rfl (by decide)
                have n40 : x_30.toInt ≤ 378 := zL1 (b := 379) c39 (Int.le_refl _) (by decide)
                refine lv_aload_n hx hb dX12_remembers_59 rfl (lv_at hl 0 rfl) ?_
                refine va_get (D := g.1) (ci := 10) (v := .ref (a 3)) (C := RX12) (T := TX12) (N := 20) hx hb hts izRX12 hown hK hP 0 rfl rfl 5 (by decide) (hts _ k818) (fun _ h9 => h9) rfl dX12_remembers_60 ?_
                refine lv_sipush (v := 379) hx hb dX12_remembers_63 (by decide) ?_
                refine lv_aload_n hx hb dX12_remembers_66 rfl (lv_at hl 0 rfl) ?_
                refine va_get (D := g.1) (ci := 10) (v := .int x_29) (C := RX12) (T := TX12) (N := 20) hx hb hts izRX12 hown hK hP 0 rfl rfl 6 (by decide) (hts _ k974) (fun _ h9 => h9) rfl dX12_remembers_67 ?_
                refine lv_imul hx hb dX12_remembers_70 ?_
                refine zg3 (zmulKL (i := x_29.toInt) (n := 379) (a' := 4169) (b' := 4169) rfl (by decide) hx_29.2.1 hx_29.2.2 (by decide) (by decide)) (fun x_41 hx_41 => ?_)
                refine lv_iload_n hx hb dX12_remembers_71 rfl (lv_at hl 1 rfl) ?_
                refine lv_iadd hx hb dX12_remembers_72 ?_
                refine zg3 (zaddK (i := x_41.toInt) (j := x_30.toInt) (a' := 4169) (b' := 4547) rfl rfl hx_41.2.1 hx_41.2.2 i32.1 n40 (by decide)) (fun x_42 hx_42 => ?_)
                refine lv_aload_n hx hb dX12_remembers_73 rfl (lv_at hl 0 rfl) ?_
                refine va_get (D := g.1) (ci := 10) (v := .ref (a 0)) (C := RX12) (T := TX12) (N := 20) hx hb hts izRX12 hown hK hP 0 rfl rfl 1 (by decide) (hts _ k815) (fun _ h9 => h9) rfl dX12_remembers_74 ?_
                refine lv_iload_n hx hb dX12_remembers_77 rfl (lv_at hl 1 rfl) ?_
                refine va_iald hx hb hK hP 1 0 rfl rfl (zinK (a := 0) (b := 378) i32.1 n40 (by decide)) dX12_remembers_78 ?_
                refine va_iast hx hb hK hP hD hS 4 0 rfl rfl (zinK (a := 4169) (b := 4547) hx_42.2.1 hx_42.2.2 (by decide)) dX12_remembers_79 (fun H locs hP hD hS => ?_)
                obtain ⟨fc_43, ⟨rfc_43, hcfc_43⟩, hP, hD⟩ : ∃ fc_43 : Nat → Int32, (rC fc_43 ∧ zCy fc_21 fc_43 (379 * x_29.toInt.toNat) fm 0 (x_30.toInt + 1)) ∧ va_P g.1 vwCl (List.flatten [bMo g o a th hi x_29 tp ba en tA fl de iD iO tU fm fk fa fc_43 ft ff fb fi]) H ∧ va_D A (List.flatten [bMo g o a th hi x_29 tp ba en tA fl de iD iO tU fm fk fa fc_43 ft ff fb fi]) := ⟨upd fc_31 x_42.toNatClampNeg (fm x_30.toNatClampNeg), ⟨(rC_st (a := x_29) rfc_31 rfm (by omega) (by omega) (by omega)), (zCy_s i33 (by omega) (congrArg fm (by rw [zcl]; omega)) rfl)⟩, hP, hD⟩
                refine ziinc3 (n' := 1) (a' := 1) (b' := 379) (lv' := fun v9 => [(1, .int v9), (0, .ref o)]) hx hb dX12_remembers_80 hl (k := 1) rfl (by decide) (fun _ => rfl) (zaddK (i := x_30.toInt) (j := 1) rfl (by decide) i32.1 n40 (Int.le_refl _) (Int.le_refl _) (by decide)) (fun x_44 ls hx_44 hl => ?_)
                refine lv_goto (tgt := 52) hx hb dX12_remembers_83 (by decide) ?_
                have hl := lv_sub (l' := [(0, .ref o), (1, .int x_44)]) hl [1, 0] rfl
                have hP : va_P g.1 vwCl (List.flatten [bMo g o a th hi x_29 tp ba en tA fl de iD iO tU fm fk fa fc_43 ft ff fb fi]) H := hP
                have hD : va_D A (List.flatten [bMo g o a th hi x_29 tp ba en tA fl de iD iO tU fm fk fa fc_43 ft ff fb fi]) := hD
                exact ih52_35 x_44 fc_43 ⟨(Int.le_trans (by decide) hx_44.2.1), hx_44.2.2⟩ rfc_43 (zCy_e hcfc_43 (by omega)) H _ ls (zmK hx_44.1 (by decide) n40 (by decide) hk52_35)  hP hD hS (lv_sub hl [0, 1] rfl)
          have hL0 : (0 : Int32).toInt = 0 := by decide
          have hP : va_P g.1 vwCl (List.flatten [bMo g o a th hi x_29 tp ba en tA fl de iD iO tU fm fk fa fc_21 ft ff fb fi]) H := hP
          have hD : va_D A (List.flatten [bMo g o a th hi x_29 tp ba en tA fl de iD iO tU fm fk fa fc_21 ft ff fb fi]) := hD
          exact LP52_34 _ 0 fc_21 (by decide) rfc_21 (zCy_0 (by decide)) H _ ls (Nat.lt_succ_self _)  hP hD hS (lv_sub hl [0, 1] rfl)
        · skip
          have c45 : x_20.toInt < 4169 := zlti (Int32.not_le.mp cb9) rfl (by decide)
          have n46 : x_20.toInt ≤ 4168 := zL1 (b := 4169) c45 (Int.le_refl _) (by decide)
          refine lv_aload_n hx hb dX12_remembers_18 rfl (lv_at hl 0 rfl) ?_
          refine va_get (D := g.1) (ci := 10) (v := .ref (a 3)) (C := RX12) (T := TX12) (N := 20) hx hb hts izRX12 hown hK hP 0 rfl rfl 5 (by decide) (hts _ k818) (fun _ h9 => h9) rfl dX12_remembers_19 ?_
          refine lv_iload_n hx hb dX12_remembers_22 rfl (lv_at hl 1 rfl) ?_
          refine lv_aload_n hx hb dX12_remembers_23 rfl (lv_at hl 0 rfl) ?_
          refine va_get (D := g.1) (ci := 10) (v := .ref (a 3)) (C := RX12) (T := TX12) (N := 20) hx hb hts izRX12 hown hK hP 0 rfl rfl 5 (by decide) (hts _ k818) (fun _ h9 => h9) rfl dX12_remembers_24 ?_
          refine lv_iload_n hx hb dX12_remembers_27 rfl (lv_at hl 1 rfl) ?_
          refine lv_sipush (v := 379) hx hb dX12_remembers_28 (by decide) ?_
          refine lv_iadd hx hb dX12_remembers_31 ?_
          refine zg3 (zaddK (i := x_20.toInt) (j := 379) (a' := 379) (b' := 4547) rfl (by decide) i22.1 n46 (Int.le_refl _) (Int.le_refl _) (by decide)) (fun x_47 hx_47 => ?_)
          refine va_iald hx hb hK hP 4 0 rfl rfl (zinK (a := 379) (b := 4547) hx_47.2.1 hx_47.2.2 (by decide)) dX12_remembers_32 ?_
          refine va_iast hx hb hK hP hD hS 4 0 rfl rfl (zinK (a := 0) (b := 4168) i22.1 n46 (by decide)) dX12_remembers_33 (fun H locs hP hD hS => ?_)
          obtain ⟨fc_48, ⟨rfc_48, hcfc_48⟩, hP, hD⟩ : ∃ fc_48 : Nat → Int32, (rC fc_48 ∧ zSh fc fc_48 (x_20.toInt + 1)) ∧ va_P g.1 vwCl (List.flatten [bMo g o a th hi ac tp ba en tA fl de iD iO tU fm fk fa fc_48 ft ff fb fi]) H ∧ va_D A (List.flatten [bMo g o a th hi ac tp ba en tA fl de iD iO tU fm fk fa fc_48 ft ff fb fi]) := ⟨upd fc_21 x_20.toNatClampNeg (fc_21 x_47.toNatClampNeg), ⟨(rC_sh (x2 := x_47) rfc_21 (by omega) (by omega) (by omega)), (zSh_s (y := x_47) i23 rfl (by omega) rfl rfl)⟩, hP, hD⟩
          refine ziinc3 (n' := 1) (a' := 1) (b' := 4169) (lv' := fun v9 => [(1, .int v9), (0, .ref o)]) hx hb dX12_remembers_34 hl (k := 1) rfl (by decide) (fun _ => rfl) (zaddK (i := x_20.toInt) (j := 1) rfl (by decide) i22.1 n46 (Int.le_refl _) (Int.le_refl _) (by decide)) (fun x_49 ls hx_49 hl => ?_)
          refine lv_goto (tgt := 11) hx hb dX12_remembers_37 (by decide) ?_
          have hl := lv_sub (l' := [(0, .ref o), (1, .int x_49)]) hl [1, 0] rfl
          have hP : va_P g.1 vwCl (List.flatten [bMo g o a th hi ac tp ba en tA fl de iD iO tU fm fk fa fc_48 ft ff fb fi]) H := hP
          have hD : va_D A (List.flatten [bMo g o a th hi ac tp ba en tA fl de iD iO tU fm fk fa fc_48 ft ff fb fi]) := hD
          exact ih11_25 x_49 fc_48 ⟨(Int.le_trans (by decide) hx_49.2.1), hx_49.2.2⟩ rfc_48 (zSh_e hcfc_48 (by omega)) H _ ls (zmK hx_49.1 (by decide) n46 (by decide) hk11_25)  hP hD hS (lv_sub hl [0, 1] rfl)
    have hL0 : (0 : Int32).toInt = 0 := by decide
    have hP : va_P g.1 vwCl (List.flatten [bMo g o a th hi ac tp ba en tA fl de iD iO tU fm fk fa fc ft ff fb fi]) s.heap := hP
    have hD : va_D A (List.flatten [bMo g o a th hi ac tp ba en tA fl de iD iO tU fm fk fa fc ft ff fb fi]) := hD
    exact LP11_24 _ 0 fc (by decide) rfc (zSh_0 (by decide)) s.heap _ ls (Nat.lt_succ_self _)  hP hD hS (lv_sub hl [0, 1] rfl)
set_option maxRecDepth 100000 in
set_option maxHeartbeats 4000000 in
theorem m_says (l : Launch) (g : zG) (st0 : Int32) (who : Int32) (wm : Int32)  : zM' g l yX12_says (Cond.code yX12_says cX12_says 3 (some .boolean) :: zB) ({ frames := 1, cells := 0, slots := 0, locals := 21 } : Room) [.int st0, .int who, .int wm] [] (fun (q : Int32) => some (.int q)) (fun (q : Int32) => (q = 0 ∨ q = 1)) (fun (q : Int32) => []) := by
  refine zM'.of (cc := cX12_says) (maxL := 3) (rt := (some .boolean)) (by decide) rfl (Nat.le_of_ble_eq_true rfl) ?_
  intro p e s m args below meth c A ls St hr hlocks hin hK hT hA hP hD hS hl
  obtain ⟨hx, hb, hml, hown, hts⟩ := id St
  have hl : lv_has ls 3 [(0, .int st0), (1, .int who), (2, .int wm)] := hl
  refine lv_iload_n hx hb dX12_says_0 rfl (lv_at hl 0 rfl) ?_
  refine lv_iload_n hx hb dX12_says_1 rfl (lv_at hl 1 rfl) ?_
  refine mcallS' (g := g) (As := [.int st0, .int who]) (rest := []) St hK hT hA hP hD hS hl.1 [] [] rfl rfl rfl (m_isOf l g st0 who ) (va_cwS 2 hts (zgL (zl3 k1062 k1063 k839) k829) rfl rfl rfl (by decide +kernel) ⟨Nat.le_of_ble_eq_true rfl, Nat.le_of_ble_eq_true rfl⟩) rfl rfl (Nat.le_of_ble_eq_true rfl) dX12_says_2 ⟨(Nat.le_of_ble_eq_true rfl), (Nat.le_of_ble_eq_true rfl)⟩ (fun q_1 H locs hq2 hP hD hS => ?_)
  replace hq2 : (q_1 = 0 ∨ q_1 = 1) := hq2
  have hP : va_P g.1 vwCl (List.flatten []) H := hP
  have hD : va_D A (List.flatten []) := hD
  refine W.widen (k := 0) (n := 0) (Nat.le_of_ble_eq_true rfl) (Nat.le_of_ble_eq_true rfl) ?_
  refine W.eq (g2 := F0 m 5 ls [.int q_1]) rfl ?_
  rcases hq2 with rfl | rfl
  · skip
    refine lv_iload_n hx hb dX12_says_5 rfl (lv_at hl 0 rfl) ?_
    refine lv_iload_n hx hb dX12_says_6 rfl (lv_at hl 2 rfl) ?_
    refine mcallS' (g := g) (As := [.int st0, .int wm]) (rest := [.int 0]) St hK hT hA hP hD hS hl.1 [] [] rfl rfl rfl (m_isOf l g st0 wm ) (va_cwS 2 hts (zgL (zl3 k1062 k1063 k839) k829) rfl rfl rfl (by decide +kernel) ⟨Nat.le_of_ble_eq_true rfl, Nat.le_of_ble_eq_true rfl⟩) rfl rfl (Nat.le_of_ble_eq_true rfl) dX12_says_7 ⟨(Nat.le_of_ble_eq_true rfl), (Nat.le_of_ble_eq_true rfl)⟩ (fun q_3 H locs hq4 hP hD hS => ?_)
    replace hq4 : (q_3 = 0 ∨ q_3 = 1) := hq4
    have hP : va_P g.1 vwCl (List.flatten []) H := hP
    have hD : va_D A (List.flatten []) := hD
    refine W.widen (k := 0) (n := 0) (Nat.le_of_ble_eq_true rfl) (Nat.le_of_ble_eq_true rfl) ?_
    refine W.eq (g2 := F0 m 10 ls [.int q_3, .int 0]) rfl ?_
    rcases hq4 with rfl | rfl
    · skip
      refine lv_icmp_ne (tgt := 17) hx hb dX12_says_10 (by decide) (fun c5 => absurd (by decide) c5) (fun _ => ?_)
      refine lv_iconst (v := 1) hx hb dX12_says_13 (by decide) ?_
      refine lv_goto (tgt := 18) hx hb dX12_says_14 (by decide) ?_
      have hP : va_P g.1 vwCl (List.flatten []) H := hP
      have hD : va_D A (List.flatten []) := hD
      exact mret_z hx hb hr hlocks hS (Nat.le_of_ble_eq_true rfl) (Nat.le_of_ble_eq_true rfl) dX12_says_18 ((1 : Int32)) rfl (by decide) (show (1 = 0 ∨ 1 = 1) from (by decide)) hP hD
    · skip
      refine lv_icmp_ne (tgt := 17) hx hb dX12_says_10 (by decide) (fun _ => ?_) (fun c6 => absurd c6 (by decide))
      refine lv_iconst (v := 0) hx hb dX12_says_17 (by decide) ?_
      have hP : va_P g.1 vwCl (List.flatten []) H := hP
      have hD : va_D A (List.flatten []) := hD
      exact mret_z hx hb hr hlocks hS (Nat.le_of_ble_eq_true rfl) (Nat.le_of_ble_eq_true rfl) dX12_says_18 ((0 : Int32)) rfl (by decide) (show (0 = 0 ∨ 0 = 1) from (by decide)) hP hD
  · skip
    refine lv_iload_n hx hb dX12_says_5 rfl (lv_at hl 0 rfl) ?_
    refine lv_iload_n hx hb dX12_says_6 rfl (lv_at hl 2 rfl) ?_
    refine mcallS' (g := g) (As := [.int st0, .int wm]) (rest := [.int 1]) St hK hT hA hP hD hS hl.1 [] [] rfl rfl rfl (m_isOf l g st0 wm ) (va_cwS 2 hts (zgL (zl3 k1062 k1063 k839) k829) rfl rfl rfl (by decide +kernel) ⟨Nat.le_of_ble_eq_true rfl, Nat.le_of_ble_eq_true rfl⟩) rfl rfl (Nat.le_of_ble_eq_true rfl) dX12_says_7 ⟨(Nat.le_of_ble_eq_true rfl), (Nat.le_of_ble_eq_true rfl)⟩ (fun q_7 H locs hq8 hP hD hS => ?_)
    replace hq8 : (q_7 = 0 ∨ q_7 = 1) := hq8
    have hP : va_P g.1 vwCl (List.flatten []) H := hP
    have hD : va_D A (List.flatten []) := hD
    refine W.widen (k := 0) (n := 0) (Nat.le_of_ble_eq_true rfl) (Nat.le_of_ble_eq_true rfl) ?_
    refine W.eq (g2 := F0 m 10 ls [.int q_7, .int 1]) rfl ?_
    rcases hq8 with rfl | rfl
    · skip
      refine lv_icmp_ne (tgt := 17) hx hb dX12_says_10 (by decide) (fun _ => ?_) (fun c9 => absurd c9 (by decide))
      refine lv_iconst (v := 0) hx hb dX12_says_17 (by decide) ?_
      have hP : va_P g.1 vwCl (List.flatten []) H := hP
      have hD : va_D A (List.flatten []) := hD
      exact mret_z hx hb hr hlocks hS (Nat.le_of_ble_eq_true rfl) (Nat.le_of_ble_eq_true rfl) dX12_says_18 ((0 : Int32)) rfl (by decide) (show (0 = 0 ∨ 0 = 1) from (by decide)) hP hD
    · skip
      refine lv_icmp_ne (tgt := 17) hx hb dX12_says_10 (by decide) (fun c10 => absurd (by decide) c10) (fun _ => ?_)
      refine lv_iconst (v := 1) hx hb dX12_says_13 (by decide) ?_
      refine lv_goto (tgt := 18) hx hb dX12_says_14 (by decide) ?_
      have hP : va_P g.1 vwCl (List.flatten []) H := hP
      have hD : va_D A (List.flatten []) := hD
      exact mret_z hx hb hr hlocks hS (Nat.le_of_ble_eq_true rfl) (Nat.le_of_ble_eq_true rfl) dX12_says_18 ((1 : Int32)) rfl (by decide) (show (1 = 0 ∨ 1 = 1) from (by decide)) hP hD
set_option maxRecDepth 100000 in
set_option maxHeartbeats 4000000 in
theorem m_logged (l : Launch) (g : zG) (o : Nat) (a : Nat → Nat) (th : Int32) (hi : Int32) (ac : Int32) (tp : Int32) (ba : Int32) (en : Int32) (tA : Int32) (fl : Int32) (de : Int32) (iD : Int32) (iO : Int32) (tU : Int32) (fm : Nat → Int32) (fk : Nat → Int32) (fa : Nat → Int32) (fc : Nat → Int32) (ft : Nat → Int32) (ff : Nat → Int32) (fb : Nat → Int32) (fi : Nat → Int32) (ago : Int32) (what : Int32) (b_ago : 0 ≤ ago.toInt ∧ ago.toInt ≤ 59) (b_what : 0 ≤ what.toInt ∧ what.toInt ≤ 3) : zM' g l yX12_logged (Cond.code yX12_logged cX12_logged 3 (some .int) :: zB) ({ frames := 0, cells := 0, slots := 0, locals := 0 } : Room) [.ref o, .int ago, .int what] [bMo g o a th hi ac tp ba en tA fl de iD iO tU fm fk fa fc ft ff fb fi] (fun (q : Int32) => some (.int q)) (fun (q : Int32) => True) (fun (q : Int32) => [bMo g o a th hi ac tp ba en tA fl de iD iO tU fm fk fa fc ft ff fb fi]) := by
  refine zM'.of (cc := cX12_logged) (maxL := 3) (rt := (some .int)) (by decide) rfl (Nat.le_of_ble_eq_true rfl) ?_
  intro p e s m args below meth c A ls St hr hlocks hin hK hT hA hP hD hS hl
  obtain ⟨hx, hb, hml, hown, hts⟩ := id St
  have hl : lv_has ls 3 [(0, .ref o), (1, .int ago), (2, .int what)] := hl
  refine lv_aload_n hx hb dX12_logged_0 rfl (lv_at hl 0 rfl) ?_
  refine va_get (D := g.1) (ci := 10) (v := .ref (a 0)) (C := RX12) (T := TX12) (N := 20) hx hb hts izRX12 hown hK hP 0 rfl rfl 1 (by decide) (hts _ k815) (fun _ h9 => h9) rfl dX12_logged_1 ?_
  refine lv_sipush (v := 139) hx hb dX12_logged_4 (by decide) ?_
  refine lv_iconst (v := 4) hx hb dX12_logged_7 (by decide) ?_
  refine lv_iload_n hx hb dX12_logged_8 rfl (lv_at hl 1 rfl) ?_
  refine lv_imul hx hb dX12_logged_9 ?_
  refine zg3 (zmulKL (i := ago.toInt) (n := 4) (a' := 0) (b' := 236) rfl (by decide) b_ago.1 b_ago.2 (by decide) (by decide)) (fun x_1 hx_1 => ?_)
  refine lv_iadd hx hb dX12_logged_10 ?_
  refine zg3 (zaddK (i := 139) (j := x_1.toInt) (a' := 139) (b' := 375) (by decide) rfl (Int.le_refl _) (Int.le_refl _) hx_1.2.1 hx_1.2.2 (by decide)) (fun x_2 hx_2 => ?_)
  refine lv_iload_n hx hb dX12_logged_11 rfl (lv_at hl 2 rfl) ?_
  refine lv_iadd hx hb dX12_logged_12 ?_
  refine zg3 (zaddK (i := x_2.toInt) (j := what.toInt) (a' := 139) (b' := 378) rfl rfl hx_2.2.1 hx_2.2.2 b_what.1 b_what.2 (by decide)) (fun x_3 hx_3 => ?_)
  refine va_iald hx hb hK hP 1 0 rfl rfl (zinK (a := 139) (b := 378) hx_3.2.1 hx_3.2.2 (by decide)) dX12_logged_13 ?_
  refine zg (fun x_4 => ?_)
  have hP : va_P g.1 vwCl (List.flatten [bMo g o a th hi ac tp ba en tA fl de iD iO tU fm fk fa fc ft ff fb fi]) s.heap := hP
  have hD : va_D A (List.flatten [bMo g o a th hi ac tp ba en tA fl de iD iO tU fm fk fa fc ft ff fb fi]) := hD
  exact mret_i hx hb hr hlocks hS (Nat.le_of_ble_eq_true rfl) (Nat.le_of_ble_eq_true rfl) dX12_logged_14 (x_4) rfl trivial hP hD
set_option maxRecDepth 100000 in
set_option maxHeartbeats 4000000 in
theorem m_passes (l : Launch) (g : zG) (o : Nat) (a : Nat → Nat) (th : Int32) (hi : Int32) (ac : Int32) (tp : Int32) (ba : Int32) (en : Int32) (tA : Int32) (fl : Int32) (de : Int32) (iD : Int32) (iO : Int32) (tU : Int32) (fm : Nat → Int32) (fk : Nat → Int32) (fa : Nat → Int32) (fc : Nat → Int32) (ft : Nat → Int32) (ff : Nat → Int32) (fb : Nat → Int32) (fi : Nat → Int32) (st0 : Int32) (n : Int32) (rfm : rM fm) (b_n : 0 ≤ n.toInt ∧ n.toInt ≤ 8) : zM' g l yX12_passes (Cond.code yX12_passes cX12_passes 8 (some .int) :: zB) ({ frames := 1, cells := 0, slots := 0, locals := 22 } : Room) [.ref o, .int st0, .int n] [bMo g o a th hi ac tp ba en tA fl de iD iO tU fm fk fa fc ft ff fb fi] (fun (q : Int32) => some (.int q)) (fun (q : Int32) => True) (fun (q : Int32) => [bMo g o a th hi ac tp ba en tA fl de iD iO tU fm fk fa fc ft ff fb fi]) := by
  refine zM'.of (cc := cX12_passes) (maxL := 8) (rt := (some .int)) (by decide) rfl (Nat.le_of_ble_eq_true rfl) ?_
  intro p e s m args below meth c A ls St hr hlocks hin hK hT hA hP hD hS hl
  obtain ⟨hx, hb, hml, hown, hts⟩ := id St
  have hl : lv_has ls 8 [(0, .ref o), (1, .int st0), (2, .int n)] := hl
  refine lv_iload_n hx hb dX12_passes_0 rfl (lv_at hl 1 rfl) ?_
  refine lv_istore_n (lv' := [(3, .int st0), (0, .ref o), (1, .int st0), (2, .int n)]) hx hb dX12_passes_1 rfl hl (by decide) rfl (fun ls hl => ?_)
  refine lv_iconst (v := 0) hx hb dX12_passes_2 (by decide) ?_
  refine lv_istore (lv' := [(4, .int 0), (3, .int st0), (0, .ref o), (1, .int st0), (2, .int n)]) hx hb dX12_passes_3 hl (by decide) rfl (fun ls hl => ?_)
  have hl := lv_sub (l' := [(0, .ref o), (1, .int st0), (2, .int n), (3, .int st0), (4, .int 0)]) hl [2, 3, 4, 1, 0] rfl
  have LP5_4 : ∀ (kf : Nat) (x_1 : Int32) (x_2 : Int32), (0 ≤ x_2.toInt ∧ x_2.toInt ≤ 8) → ∀ (H : Heap) (locs : List Loc) (ls : Array Slot), ((9 - x_2.toInt).toNat) < kf → va_P g.1 vwCl (List.flatten [bMo g o a th hi ac tp ba en tA fl de iD iO tU fm fk fa fc ft ff fb fi]) H → va_D A (List.flatten [bMo g o a th hi ac tp ba en tA fl de iD iO tU fm fk fa fc ft ff fb fi]) → va_S A s.heap H locs → lv_has ls 8 [(0, .ref o), (1, .int st0), (2, .int n), (3, .int x_1), (4, .int x_2)] → W p l e ({ frames := 1, cells := 0, slots := 0, locals := 22 } : Room) s m args below meth c H locs (0) (0) (zF g (fun (q : Int32) => some (.int q)) (fun (q : Int32) => True) (fun (q : Int32) => [bMo g o a th hi ac tp ba en tA fl de iD iO tU fm fk fa fc ft ff fb fi]) ({ frames := 1, cells := 0, slots := 0, locals := 22 } : Room) below args s A) (F0 m 5 ls []) := by
    intro kf
    induction kf with
    | zero => intro x_1 x_2 i3 H locs ls hk; exact absurd hk (Nat.not_lt_zero _)
    | succ kf ih5_5 =>
      intro x_1 x_2 i3 H locs ls hk5_5 hP hD hS hl
      refine lv_iload hx hb dX12_passes_5 (lv_at hl 4 rfl) ?_
      refine lv_iload_n hx hb dX12_passes_7 rfl (lv_at hl 2 rfl) ?_
      refine lv_icmp_ge (tgt := 95) hx hb dX12_passes_8 (by decide) (fun cb9 => ?_) (fun cb9 => ?_)
      · skip
        have c6 : n.toInt ≤ x_2.toInt := zle cb9 rfl rfl
        refine lv_iload_n hx hb dX12_passes_95 rfl (lv_at hl 3 rfl) ?_
        have hP : va_P g.1 vwCl (List.flatten [bMo g o a th hi ac tp ba en tA fl de iD iO tU fm fk fa fc ft ff fb fi]) H := hP
        have hD : va_D A (List.flatten [bMo g o a th hi ac tp ba en tA fl de iD iO tU fm fk fa fc ft ff fb fi]) := hD
        exact mret_i hx hb hr hlocks hS (Nat.le_of_ble_eq_true rfl) (Nat.le_of_ble_eq_true rfl) dX12_passes_96 (x_1) rfl trivial hP hD
      · skip
        have c7 : x_2.toInt < n.toInt := zlti (Int32.not_le.mp cb9) rfl rfl
        have n8 : x_2.toInt ≤ 7 := zL1 (b := 8) c7 b_n.2 (by decide)
        have n9 : 1 ≤ n.toInt := zL2 (a := 0) c7 i3.1 (by decide)
        refine lv_iload_n hx hb dX12_passes_11 rfl (lv_at hl 3 rfl) ?_
        refine lv_istore (lv' := [(5, .int x_1), (0, .ref o), (1, .int st0), (2, .int n), (3, .int x_1), (4, .int x_2)]) hx hb dX12_passes_12 hl (by decide) rfl (fun ls hl => ?_)
        refine lv_iconst (v := 0) hx hb dX12_passes_14 (by decide) ?_
        refine lv_istore (lv' := [(6, .int 0), (5, .int x_1), (0, .ref o), (1, .int st0), (2, .int n), (3, .int x_1), (4, .int x_2)]) hx hb dX12_passes_15 hl (by decide) rfl (fun ls hl => ?_)
        have hl := lv_sub (l' := [(0, .ref o), (1, .int st0), (2, .int n), (3, .int x_1), (4, .int x_2), (5, .int x_1), (6, .int 0)]) hl [2, 3, 4, 5, 6, 1, 0] rfl
        have LP17_13 : ∀ (kf : Nat) (x_10 : Int32) (x_11 : Int32), (0 ≤ x_11.toInt ∧ x_11.toInt ≤ 8) → ∀ (H : Heap) (locs : List Loc) (ls : Array Slot), ((9 - x_11.toInt).toNat) < kf → va_P g.1 vwCl (List.flatten [bMo g o a th hi ac tp ba en tA fl de iD iO tU fm fk fa fc ft ff fb fi]) H → va_D A (List.flatten [bMo g o a th hi ac tp ba en tA fl de iD iO tU fm fk fa fc ft ff fb fi]) → va_S A s.heap H locs → lv_has ls 8 [(0, .ref o), (1, .int st0), (2, .int n), (3, .int x_10), (4, .int x_2), (5, .int x_1), (6, .int x_11)] → W p l e ({ frames := 1, cells := 0, slots := 0, locals := 22 } : Room) s m args below meth c H locs (0) (0) (zF g (fun (q : Int32) => some (.int q)) (fun (q : Int32) => True) (fun (q : Int32) => [bMo g o a th hi ac tp ba en tA fl de iD iO tU fm fk fa fc ft ff fb fi]) ({ frames := 1, cells := 0, slots := 0, locals := 22 } : Room) below args s A) (F0 m 17 ls []) := by
          intro kf
          induction kf with
          | zero => intro x_10 x_11 i12 H locs ls hk; exact absurd hk (Nat.not_lt_zero _)
          | succ kf ih17_14 =>
            intro x_10 x_11 i12 H locs ls hk17_14 hP hD hS hl
            refine lv_iload hx hb dX12_passes_17 (lv_at hl 6 rfl) ?_
            refine lv_aload_n hx hb dX12_passes_19 rfl (lv_at hl 0 rfl) ?_
            refine va_get (D := g.1) (ci := 10) (v := .ref (a 0)) (C := RX12) (T := TX12) (N := 20) hx hb hts izRX12 hown hK hP 0 rfl rfl 1 (by decide) (hts _ k815) (fun _ h9 => h9) rfl dX12_passes_20 ?_
            refine lv_iconst (v := 3) hx hb dX12_passes_23 (by decide) ?_
            refine va_iald hx hb hK hP 1 0 rfl rfl (zin rfl) dX12_passes_24 ?_
            refine zgq (r := fm 3) rfl (rM3 rfm) (fun x_15 hx_15 => ?_)
            refine lv_icmp_ge (tgt := 89) hx hb dX12_passes_25 (by decide) (fun cb9 => ?_) (fun cb9 => ?_)
            · skip
              have c16 : x_15.toInt ≤ x_11.toInt := zle cb9 rfl rfl
              refine ziinc3 (n' := 1) (a' := 1) (b' := 8) (lv' := fun v9 => [(4, .int v9), (0, .ref o), (1, .int st0), (2, .int n), (3, .int x_10), (5, .int x_1), (6, .int x_11)]) hx hb dX12_passes_89 hl (k := 4) rfl (by decide) (fun _ => rfl) (zaddK (i := x_2.toInt) (j := 1) rfl (by decide) i3.1 n8 (Int.le_refl _) (Int.le_refl _) (by decide)) (fun x_17 ls hx_17 hl => ?_)
              refine lv_goto (tgt := 5) hx hb dX12_passes_92 (by decide) ?_
              have hl := lv_sub (l' := [(0, .ref o), (1, .int st0), (2, .int n), (3, .int x_10), (4, .int x_17), (5, .int x_1), (6, .int x_11)]) hl [1, 2, 3, 4, 0, 5, 6] rfl
              have hP : va_P g.1 vwCl (List.flatten [bMo g o a th hi ac tp ba en tA fl de iD iO tU fm fk fa fc ft ff fb fi]) H := hP
              have hD : va_D A (List.flatten [bMo g o a th hi ac tp ba en tA fl de iD iO tU fm fk fa fc ft ff fb fi]) := hD
              exact ih5_5 x_10 x_17 ⟨(Int.le_trans (by decide) hx_17.2.1), hx_17.2.2⟩ H _ ls (zmK hx_17.1 (by decide) n8 (by decide) hk5_5)  hP hD hS (lv_sub hl [0, 1, 2, 3, 4] rfl)
            · skip
              have c18 : x_11.toInt < x_15.toInt := zlti (Int32.not_le.mp cb9) rfl rfl
              have n19 : x_11.toInt ≤ 7 := zL1 (b := 8) c18 hx_15.2.1 (by decide)
              have n20 : 1 ≤ x_15.toInt := zL2 (a := 0) c18 i12.1 (by decide)
              refine lv_iconst (v := 0) hx hb dX12_passes_28 (by decide) ?_
              refine lv_istore (lv' := [(7, .int 0), (0, .ref o), (1, .int st0), (2, .int n), (3, .int x_10), (4, .int x_2), (5, .int x_1), (6, .int x_11)]) hx hb dX12_passes_29 hl (by decide) rfl (fun ls hl => ?_)
              have hl := lv_sub (l' := [(0, .ref o), (1, .int st0), (2, .int n), (3, .int x_10), (4, .int x_2), (5, .int x_1), (6, .int x_11), (7, .int 0)]) hl [1, 2, 3, 4, 5, 6, 7, 0] rfl
              have LP31_24 : ∀ (kf : Nat) (x_21 : Int32) (x_22 : Int32), (0 ≤ x_22.toInt ∧ x_22.toInt ≤ 8) → ∀ (H : Heap) (locs : List Loc) (ls : Array Slot), ((9 - x_22.toInt).toNat) < kf → va_P g.1 vwCl (List.flatten [bMo g o a th hi ac tp ba en tA fl de iD iO tU fm fk fa fc ft ff fb fi]) H → va_D A (List.flatten [bMo g o a th hi ac tp ba en tA fl de iD iO tU fm fk fa fc ft ff fb fi]) → va_S A s.heap H locs → lv_has ls 8 [(0, .ref o), (1, .int st0), (2, .int n), (3, .int x_21), (4, .int x_2), (5, .int x_1), (6, .int x_11), (7, .int x_22)] → W p l e ({ frames := 1, cells := 0, slots := 0, locals := 22 } : Room) s m args below meth c H locs (0) (0) (zF g (fun (q : Int32) => some (.int q)) (fun (q : Int32) => True) (fun (q : Int32) => [bMo g o a th hi ac tp ba en tA fl de iD iO tU fm fk fa fc ft ff fb fi]) ({ frames := 1, cells := 0, slots := 0, locals := 22 } : Room) below args s A) (F0 m 31 ls []) := by
                intro kf
                induction kf with
                | zero => intro x_21 x_22 i23 H locs ls hk; exact absurd hk (Nat.not_lt_zero _)
                | succ kf ih31_25 =>
                  intro x_21 x_22 i23 H locs ls hk31_25 hP hD hS hl
                  refine lv_iload hx hb dX12_passes_31 (lv_at hl 7 rfl) ?_
                  refine lv_aload_n hx hb dX12_passes_33 rfl (lv_at hl 0 rfl) ?_
                  refine va_get (D := g.1) (ci := 10) (v := .ref (a 0)) (C := RX12) (T := TX12) (N := 20) hx hb hts izRX12 hown hK hP 0 rfl rfl 1 (by decide) (hts _ k815) (fun _ h9 => h9) rfl dX12_passes_34 ?_
                  refine lv_iconst (v := 3) hx hb dX12_passes_37 (by decide) ?_
                  refine va_iald hx hb hK hP 1 0 rfl rfl (zin rfl) dX12_passes_38 ?_
                  refine zgq (r := fm 3) rfl (rM3 rfm) (fun x_26 hx_26 => ?_)
                  refine lv_icmp_ge (tgt := 83) hx hb dX12_passes_39 (by decide) (fun cb9 => ?_) (fun cb9 => ?_)
                  · skip
                    have c27 : x_26.toInt ≤ x_22.toInt := zle cb9 rfl rfl
                    refine ziinc3 (n' := 1) (a' := 1) (b' := 8) (lv' := fun v9 => [(6, .int v9), (0, .ref o), (1, .int st0), (2, .int n), (3, .int x_21), (4, .int x_2), (5, .int x_1), (7, .int x_22)]) hx hb dX12_passes_83 hl (k := 6) rfl (by decide) (fun _ => rfl) (zaddK (i := x_11.toInt) (j := 1) rfl (by decide) i12.1 n19 (Int.le_refl _) (Int.le_refl _) (by decide)) (fun x_28 ls hx_28 hl => ?_)
                    refine lv_goto (tgt := 17) hx hb dX12_passes_86 (by decide) ?_
                    have hl := lv_sub (l' := [(0, .ref o), (1, .int st0), (2, .int n), (3, .int x_21), (4, .int x_2), (5, .int x_1), (6, .int x_28), (7, .int x_22)]) hl [1, 2, 3, 4, 5, 6, 0, 7] rfl
                    have hP : va_P g.1 vwCl (List.flatten [bMo g o a th hi ac tp ba en tA fl de iD iO tU fm fk fa fc ft ff fb fi]) H := hP
                    have hD : va_D A (List.flatten [bMo g o a th hi ac tp ba en tA fl de iD iO tU fm fk fa fc ft ff fb fi]) := hD
                    exact ih17_14 x_21 x_28 ⟨(Int.le_trans (by decide) hx_28.2.1), hx_28.2.2⟩ H _ ls (zmK hx_28.1 (by decide) n19 (by decide) hk17_14)  hP hD hS (lv_sub hl [0, 1, 2, 3, 4, 5, 6] rfl)
                  · skip
                    have c29 : x_22.toInt < x_26.toInt := zlti (Int32.not_le.mp cb9) rfl rfl
                    have n30 : x_22.toInt ≤ 7 := zL1 (b := 8) c29 hx_26.2.1 (by decide)
                    have n31 : 1 ≤ x_26.toInt := zL2 (a := 0) c29 i23.1 (by decide)
                    refine lv_iload hx hb dX12_passes_42 (lv_at hl 6 rfl) ?_
                    refine lv_iload hx hb dX12_passes_44 (lv_at hl 7 rfl) ?_
                    refine lv_icmp_eq (tgt := 77) hx hb dX12_passes_46 (by decide) (fun cb9 => ?_) (fun cb9 => ?_)
                    · skip
                      have c32 : x_11.toInt = x_22.toInt := zeq cb9 rfl rfl
                      refine ziinc3 (n' := 1) (a' := 1) (b' := 8) (lv' := fun v9 => [(7, .int v9), (0, .ref o), (1, .int st0), (2, .int n), (3, .int x_21), (4, .int x_2), (5, .int x_1), (6, .int x_11)]) hx hb dX12_passes_77 hl (k := 7) rfl (by decide) (fun _ => rfl) (zaddK (i := x_22.toInt) (j := 1) rfl (by decide) i23.1 n30 (Int.le_refl _) (Int.le_refl _) (by decide)) (fun x_33 ls hx_33 hl => ?_)
                      refine lv_goto (tgt := 31) hx hb dX12_passes_80 (by decide) ?_
                      have hl := lv_sub (l' := [(0, .ref o), (1, .int st0), (2, .int n), (3, .int x_21), (4, .int x_2), (5, .int x_1), (6, .int x_11), (7, .int x_33)]) hl [1, 2, 3, 4, 5, 6, 7, 0] rfl
                      have hP : va_P g.1 vwCl (List.flatten [bMo g o a th hi ac tp ba en tA fl de iD iO tU fm fk fa fc ft ff fb fi]) H := hP
                      have hD : va_D A (List.flatten [bMo g o a th hi ac tp ba en tA fl de iD iO tU fm fk fa fc ft ff fb fi]) := hD
                      exact ih31_25 x_21 x_33 ⟨(Int.le_trans (by decide) hx_33.2.1), hx_33.2.2⟩ H _ ls (zmK hx_33.1 (by decide) n30 (by decide) hk31_25)  hP hD hS (lv_sub hl [0, 1, 2, 3, 4, 5, 6, 7] rfl)
                    · skip
                      have c34 : ¬ x_11.toInt = x_22.toInt := zne cb9 rfl rfl
                      refine lv_iload hx hb dX12_passes_49 (lv_at hl 5 rfl) ?_
                      refine lv_iload hx hb dX12_passes_51 (lv_at hl 7 rfl) ?_
                      refine mcallS' (g := g) (As := [.int x_1, .int x_22]) (rest := []) St hK hT hA hP hD hS hl.1 [] [0] rfl rfl rfl (m_isOf l g x_1 x_22 ) (va_cwS 2 hts (zgL (zl3 k1062 k1063 k839) k829) rfl rfl rfl (by decide +kernel) ⟨Nat.le_of_ble_eq_true rfl, Nat.le_of_ble_eq_true rfl⟩) rfl rfl (Nat.le_of_ble_eq_true rfl) dX12_passes_53 ⟨(Nat.le_of_ble_eq_true rfl), (Nat.le_of_ble_eq_true rfl)⟩ (fun q_35 H locs hq36 hP hD hS => ?_)
                      replace hq36 : (q_35 = 0 ∨ q_35 = 1) := hq36
                      have hP : va_P g.1 vwCl (List.flatten [bMo g o a th hi ac tp ba en tA fl de iD iO tU fm fk fa fc ft ff fb fi]) H := hP
                      have hD : va_D A (List.flatten [bMo g o a th hi ac tp ba en tA fl de iD iO tU fm fk fa fc ft ff fb fi]) := hD
                      refine W.widen (k := 0) (n := 0) (Nat.le_of_ble_eq_true rfl) (Nat.le_of_ble_eq_true rfl) ?_
                      refine W.eq (g2 := F0 m 56 ls [.int q_35]) rfl ?_
                      rcases hq36 with rfl | rfl
                      · skip
                        refine lv_if_eq (tgt := 77) hx hb dX12_passes_56 (by decide) (fun _ => ?_) (fun c37 => absurd (by decide) c37)
                        refine ziinc3 (n' := 1) (a' := 1) (b' := 8) (lv' := fun v9 => [(7, .int v9), (0, .ref o), (1, .int st0), (2, .int n), (3, .int x_21), (4, .int x_2), (5, .int x_1), (6, .int x_11)]) hx hb dX12_passes_77 hl (k := 7) rfl (by decide) (fun _ => rfl) (zaddK (i := x_22.toInt) (j := 1) rfl (by decide) i23.1 n30 (Int.le_refl _) (Int.le_refl _) (by decide)) (fun x_38 ls hx_38 hl => ?_)
                        refine lv_goto (tgt := 31) hx hb dX12_passes_80 (by decide) ?_
                        have hl := lv_sub (l' := [(0, .ref o), (1, .int st0), (2, .int n), (3, .int x_21), (4, .int x_2), (5, .int x_1), (6, .int x_11), (7, .int x_38)]) hl [1, 2, 3, 4, 5, 6, 7, 0] rfl
                        have hP : va_P g.1 vwCl (List.flatten [bMo g o a th hi ac tp ba en tA fl de iD iO tU fm fk fa fc ft ff fb fi]) H := hP
                        have hD : va_D A (List.flatten [bMo g o a th hi ac tp ba en tA fl de iD iO tU fm fk fa fc ft ff fb fi]) := hD
                        exact ih31_25 x_21 x_38 ⟨(Int.le_trans (by decide) hx_38.2.1), hx_38.2.2⟩ H _ ls (zmK hx_38.1 (by decide) n30 (by decide) hk31_25)  hP hD hS (lv_sub hl [0, 1, 2, 3, 4, 5, 6, 7] rfl)
                      · skip
                        refine lv_if_eq (tgt := 77) hx hb dX12_passes_56 (by decide) (fun c39 => absurd c39 (by decide)) (fun _ => ?_)
                        refine lv_aload_n hx hb dX12_passes_59 rfl (lv_at hl 0 rfl) ?_
                        refine lv_iload hx hb dX12_passes_60 (lv_at hl 6 rfl) ?_
                        refine lv_iload hx hb dX12_passes_62 (lv_at hl 7 rfl) ?_
                        refine mcallV' (g := g) (q0 := 0) (ci := 10) (As := [.int x_11, .int x_22]) (rest := []) St hK hT hA hP hD hS hl.1 [0] [] rfl rfl rfl (m_trustOf l g o a th hi ac tp ba en tA fl de iD iO tU fm fk fa fc ft ff fb fi x_11 x_22 (⟨i12.1, n19⟩) (⟨i23.1, n30⟩)) (cwV 2 hts (zgL (zl4 k868 k869 k870 k839) k835) rfl rfl rfl (by decide +kernel) ⟨Nat.le_of_ble_eq_true rfl, Nat.le_of_ble_eq_true rfl⟩) rfl rfl rfl rfl (Nat.le_of_ble_eq_true rfl) dX12_passes_64 ⟨(Nat.le_of_ble_eq_true rfl), (Nat.le_of_ble_eq_true rfl)⟩ (fun q_40 H locs hq41 hP hD hS => ?_)
                        have hP : va_P g.1 vwCl (List.flatten [bMo g o a th hi ac tp ba en tA fl de iD iO tU fm fk fa fc ft ff fb fi]) H := hP
                        have hD : va_D A (List.flatten [bMo g o a th hi ac tp ba en tA fl de iD iO tU fm fk fa fc ft ff fb fi]) := hD
                        refine W.widen (k := 0) (n := 0) (Nat.le_of_ble_eq_true rfl) (Nat.le_of_ble_eq_true rfl) ?_
                        refine W.eq (g2 := F0 m 67 ls [.int q_40]) rfl ?_
                        refine lv_if_le (tgt := 77) hx hb dX12_passes_67 (by decide) (fun cb9 => ?_) (fun cb9 => ?_)
                        · skip
                          have c42 : q_40.toInt ≤ 0 := zle cb9 rfl (by decide)
                          have n43 : q_40.toInt ≤ 0 := Int.le_trans c42 (Int.le_refl _)
                          refine ziinc3 (n' := 1) (a' := 1) (b' := 8) (lv' := fun v9 => [(7, .int v9), (0, .ref o), (1, .int st0), (2, .int n), (3, .int x_21), (4, .int x_2), (5, .int x_1), (6, .int x_11)]) hx hb dX12_passes_77 hl (k := 7) rfl (by decide) (fun _ => rfl) (zaddK (i := x_22.toInt) (j := 1) rfl (by decide) i23.1 n30 (Int.le_refl _) (Int.le_refl _) (by decide)) (fun x_44 ls hx_44 hl => ?_)
                          refine lv_goto (tgt := 31) hx hb dX12_passes_80 (by decide) ?_
                          have hl := lv_sub (l' := [(0, .ref o), (1, .int st0), (2, .int n), (3, .int x_21), (4, .int x_2), (5, .int x_1), (6, .int x_11), (7, .int x_44)]) hl [1, 2, 3, 4, 5, 6, 7, 0] rfl
                          have hP : va_P g.1 vwCl (List.flatten [bMo g o a th hi ac tp ba en tA fl de iD iO tU fm fk fa fc ft ff fb fi]) H := hP
                          have hD : va_D A (List.flatten [bMo g o a th hi ac tp ba en tA fl de iD iO tU fm fk fa fc ft ff fb fi]) := hD
                          exact ih31_25 x_21 x_44 ⟨(Int.le_trans (by decide) hx_44.2.1), hx_44.2.2⟩ H _ ls (zmK hx_44.1 (by decide) n30 (by decide) hk31_25)  hP hD hS (lv_sub hl [0, 1, 2, 3, 4, 5, 6, 7] rfl)
                        · skip
                          have c45 : 0 < q_40.toInt := zlti (Int32.not_le.mp cb9) (by decide) rfl
                          have n46 : 1 ≤ q_40.toInt := zL2 (a := 0) c45 (Int.le_refl _) (by decide)
                          refine lv_iload_n hx hb dX12_passes_70 rfl (lv_at hl 3 rfl) ?_
                          refine lv_iconst (v := 1) hx hb dX12_passes_71 (by decide) ?_
                          refine lv_iload hx hb dX12_passes_72 (lv_at hl 6 rfl) ?_
                          refine lv_ishl hx hb dX12_passes_74 ?_
                          refine zgb (zshl1 (j := x_11.toInt) rfl 7 128 (by decide) (by decide) ⟨i12.1, n19⟩) (fun x_47 hx_47 => ?_)
                          refine lv_ior hx hb dX12_passes_75 ?_
                          refine zg (fun x_48 => ?_)
                          refine lv_istore_n (lv' := [(3, .int x_48), (0, .ref o), (1, .int st0), (2, .int n), (4, .int x_2), (5, .int x_1), (6, .int x_11), (7, .int x_22)]) hx hb dX12_passes_76 rfl hl (by decide) rfl (fun ls hl => ?_)
                          refine ziinc3 (n' := 1) (a' := 1) (b' := 8) (lv' := fun v9 => [(7, .int v9), (3, .int x_48), (0, .ref o), (1, .int st0), (2, .int n), (4, .int x_2), (5, .int x_1), (6, .int x_11)]) hx hb dX12_passes_77 hl (k := 7) rfl (by decide) (fun _ => rfl) (zaddK (i := x_22.toInt) (j := 1) rfl (by decide) i23.1 n30 (Int.le_refl _) (Int.le_refl _) (by decide)) (fun x_49 ls hx_49 hl => ?_)
                          refine lv_goto (tgt := 31) hx hb dX12_passes_80 (by decide) ?_
                          have hl := lv_sub (l' := [(0, .ref o), (1, .int st0), (2, .int n), (3, .int x_48), (4, .int x_2), (5, .int x_1), (6, .int x_11), (7, .int x_49)]) hl [2, 3, 4, 1, 5, 6, 7, 0] rfl
                          have hP : va_P g.1 vwCl (List.flatten [bMo g o a th hi ac tp ba en tA fl de iD iO tU fm fk fa fc ft ff fb fi]) H := hP
                          have hD : va_D A (List.flatten [bMo g o a th hi ac tp ba en tA fl de iD iO tU fm fk fa fc ft ff fb fi]) := hD
                          exact ih31_25 x_48 x_49 ⟨(Int.le_trans (by decide) hx_49.2.1), hx_49.2.2⟩ H _ ls (zmK hx_49.1 (by decide) n30 (by decide) hk31_25)  hP hD hS (lv_sub hl [0, 1, 2, 3, 4, 5, 6, 7] rfl)
              have hP : va_P g.1 vwCl (List.flatten [bMo g o a th hi ac tp ba en tA fl de iD iO tU fm fk fa fc ft ff fb fi]) H := hP
              have hD : va_D A (List.flatten [bMo g o a th hi ac tp ba en tA fl de iD iO tU fm fk fa fc ft ff fb fi]) := hD
              exact LP31_24 _ x_10 0 (by decide) H _ ls (Nat.lt_succ_self _)  hP hD hS (lv_sub hl [0, 1, 2, 3, 4, 5, 6, 7] rfl)
        have hP : va_P g.1 vwCl (List.flatten [bMo g o a th hi ac tp ba en tA fl de iD iO tU fm fk fa fc ft ff fb fi]) H := hP
        have hD : va_D A (List.flatten [bMo g o a th hi ac tp ba en tA fl de iD iO tU fm fk fa fc ft ff fb fi]) := hD
        exact LP17_13 _ x_1 0 (by decide) H _ ls (Nat.lt_succ_self _)  hP hD hS (lv_sub hl [0, 1, 2, 3, 4, 5, 6] rfl)
  have hP : va_P g.1 vwCl (List.flatten [bMo g o a th hi ac tp ba en tA fl de iD iO tU fm fk fa fc ft ff fb fi]) s.heap := hP
  have hD : va_D A (List.flatten [bMo g o a th hi ac tp ba en tA fl de iD iO tU fm fk fa fc ft ff fb fi]) := hD
  exact LP5_4 _ st0 0 (by decide) s.heap _ ls (Nat.lt_succ_self _)  hP hD hS (lv_sub hl [0, 1, 2, 3, 4] rfl)
set_option maxRecDepth 100000 in
set_option maxHeartbeats 4000000 in
theorem m_circleOf (l : Launch) (g : zG) (o : Nat) (a : Nat → Nat) (th : Int32) (hi : Int32) (ac : Int32) (tp : Int32) (ba : Int32) (en : Int32) (tA : Int32) (fl : Int32) (de : Int32) (iD : Int32) (iO : Int32) (tU : Int32) (fm : Nat → Int32) (fk : Nat → Int32) (fa : Nat → Int32) (fc : Nat → Int32) (ft : Nat → Int32) (ff : Nat → Int32) (fb : Nat → Int32) (fi : Nat → Int32) (x : Int32) (rfm : rM fm) (b_x : 0 ≤ x.toInt ∧ x.toInt ≤ 7) : zM' g l yX12_circleOf (Cond.code yX12_circleOf cX12_circleOf 5 (some .int) :: zB) ({ frames := 2, cells := 0, slots := 0, locals := 49 } : Room) [.ref o, .int x] [bMo g o a th hi ac tp ba en tA fl de iD iO tU fm fk fa fc ft ff fb fi] (fun (q : Int32) => some (.int q)) (fun (q : Int32) => True) (fun (q : Int32) => [bMo g o a th hi ac tp ba en tA fl de iD iO tU fm fk fa fc ft ff fb fi]) := by
  refine zM'.of (cc := cX12_circleOf) (maxL := 5) (rt := (some .int)) (by decide) rfl (Nat.le_of_ble_eq_true rfl) ?_
  intro p e s m args below meth c A ls St hr hlocks hin hK hT hA hP hD hS hl
  obtain ⟨hx, hb, hml, hown, hts⟩ := id St
  have hl : lv_has ls 5 [(0, .ref o), (1, .int x)] := hl
  refine lv_iconst (v := 1) hx hb dX12_circleOf_0 (by decide) ?_
  refine lv_iload_n hx hb dX12_circleOf_1 rfl (lv_at hl 1 rfl) ?_
  refine lv_ishl hx hb dX12_circleOf_2 ?_
  refine zgb (zshl1 (j := x.toInt) rfl 7 128 (by decide) (by decide) ⟨b_x.1, b_x.2⟩) (fun x_1 hx_1 => ?_)
  refine lv_istore_n (lv' := [(2, .int x_1), (0, .ref o), (1, .int x)]) hx hb dX12_circleOf_3 rfl hl (by decide) rfl (fun ls hl => ?_)
  refine lv_aload_n hx hb dX12_circleOf_4 rfl (lv_at hl 1 rfl) ?_
  refine lv_iconst (v := 1) hx hb dX12_circleOf_5 (by decide) ?_
  refine lv_iload_n hx hb dX12_circleOf_6 rfl (lv_at hl 2 rfl) ?_
  refine lv_ishl hx hb dX12_circleOf_7 ?_
  refine zgb (zshl1 (j := x.toInt) rfl 7 128 (by decide) (by decide) ⟨b_x.1, b_x.2⟩) (fun x_2 hx_2 => ?_)
  refine lv_bipush (v := 8) hx hb dX12_circleOf_8 (by decide) ?_
  have hL8 : (8 : Int32).toInt = 8 := by decide
  refine mcallV' (g := g) (q0 := 0) (ci := 10) (As := [.int x_2, .int 8]) (rest := []) St hK hT hA hP hD hS hl.1 [0] [] rfl rfl rfl (m_passes l g o a th hi ac tp ba en tA fl de iD iO tU fm fk fa fc ft ff fb fi x_2 8 rfm (by decide)) (cwV 2 hts (zgL (zl4 k1111 k1112 k1113 k839) k1109) rfl rfl rfl (by decide +kernel) ⟨Nat.le_of_ble_eq_true rfl, Nat.le_of_ble_eq_true rfl⟩) rfl rfl rfl rfl (Nat.le_of_ble_eq_true rfl) dX12_circleOf_10 ⟨(Nat.le_of_ble_eq_true rfl), (Nat.le_of_ble_eq_true rfl)⟩ (fun q_3 H locs hq4 hP hD hS => ?_)
  have hP : va_P g.1 vwCl (List.flatten [bMo g o a th hi ac tp ba en tA fl de iD iO tU fm fk fa fc ft ff fb fi]) H := hP
  have hD : va_D A (List.flatten [bMo g o a th hi ac tp ba en tA fl de iD iO tU fm fk fa fc ft ff fb fi]) := hD
  refine W.widen (k := 0) (n := 0) (Nat.le_of_ble_eq_true rfl) (Nat.le_of_ble_eq_true rfl) ?_
  refine W.eq (g2 := F0 m 13 ls [.int q_3]) rfl ?_
  refine lv_istore_n (lv' := [(3, .int q_3), (2, .int x_1), (0, .ref o), (1, .int x)]) hx hb dX12_circleOf_13 rfl hl (by decide) rfl (fun ls hl => ?_)
  refine lv_iconst (v := 0) hx hb dX12_circleOf_14 (by decide) ?_
  refine lv_istore (lv' := [(4, .int 0), (3, .int q_3), (2, .int x_1), (0, .ref o), (1, .int x)]) hx hb dX12_circleOf_15 hl (by decide) rfl (fun ls hl => ?_)
  have hl := lv_sub (l' := [(0, .ref o), (1, .int x), (2, .int x_1), (3, .int q_3), (4, .int 0)]) hl [3, 4, 2, 1, 0] rfl
  have LP17_8 : ∀ (kf : Nat) (x_5 : Int32) (x_6 : Int32), (0 ≤ x_6.toInt ∧ x_6.toInt ≤ 8) → ∀ (H : Heap) (locs : List Loc) (ls : Array Slot), ((9 - x_6.toInt).toNat) < kf → va_P g.1 vwCl (List.flatten [bMo g o a th hi ac tp ba en tA fl de iD iO tU fm fk fa fc ft ff fb fi]) H → va_D A (List.flatten [bMo g o a th hi ac tp ba en tA fl de iD iO tU fm fk fa fc ft ff fb fi]) → va_S A s.heap H locs → lv_has ls 5 [(0, .ref o), (1, .int x), (2, .int x_5), (3, .int q_3), (4, .int x_6)] → W p l e ({ frames := 2, cells := 0, slots := 0, locals := 49 } : Room) s m args below meth c H locs (0) (0) (zF g (fun (q : Int32) => some (.int q)) (fun (q : Int32) => True) (fun (q : Int32) => [bMo g o a th hi ac tp ba en tA fl de iD iO tU fm fk fa fc ft ff fb fi]) ({ frames := 2, cells := 0, slots := 0, locals := 49 } : Room) below args s A) (F0 m 17 ls []) := by
    intro kf
    induction kf with
    | zero => intro x_5 x_6 i7 H locs ls hk; exact absurd hk (Nat.not_lt_zero _)
    | succ kf ih17_9 =>
      intro x_5 x_6 i7 H locs ls hk17_9 hP hD hS hl
      refine lv_iload hx hb dX12_circleOf_17 (lv_at hl 4 rfl) ?_
      refine lv_aload_n hx hb dX12_circleOf_19 rfl (lv_at hl 0 rfl) ?_
      refine va_get (D := g.1) (ci := 10) (v := .ref (a 0)) (C := RX12) (T := TX12) (N := 20) hx hb hts izRX12 hown hK hP 0 rfl rfl 1 (by decide) (hts _ k815) (fun _ h9 => h9) rfl dX12_circleOf_20 ?_
      refine lv_iconst (v := 3) hx hb dX12_circleOf_23 (by decide) ?_
      refine va_iald hx hb hK hP 1 0 rfl rfl (zin rfl) dX12_circleOf_24 ?_
      refine zgq (r := fm 3) rfl (rM3 rfm) (fun x_10 hx_10 => ?_)
      refine lv_icmp_ge (tgt := 67) hx hb dX12_circleOf_25 (by decide) (fun cb9 => ?_) (fun cb9 => ?_)
      · skip
        have c11 : x_10.toInt ≤ x_6.toInt := zle cb9 rfl rfl
        refine lv_iload_n hx hb dX12_circleOf_67 rfl (lv_at hl 2 rfl) ?_
        have hP : va_P g.1 vwCl (List.flatten [bMo g o a th hi ac tp ba en tA fl de iD iO tU fm fk fa fc ft ff fb fi]) H := hP
        have hD : va_D A (List.flatten [bMo g o a th hi ac tp ba en tA fl de iD iO tU fm fk fa fc ft ff fb fi]) := hD
        exact mret_i hx hb hr hlocks hS (Nat.le_of_ble_eq_true rfl) (Nat.le_of_ble_eq_true rfl) dX12_circleOf_68 (x_5) rfl trivial hP hD
      · skip
        have c12 : x_6.toInt < x_10.toInt := zlti (Int32.not_le.mp cb9) rfl rfl
        have n13 : x_6.toInt ≤ 7 := zL1 (b := 8) c12 hx_10.2.1 (by decide)
        have n14 : 1 ≤ x_10.toInt := zL2 (a := 0) c12 i7.1 (by decide)
        refine lv_iload_n hx hb dX12_circleOf_28 rfl (lv_at hl 3 rfl) ?_
        refine lv_iload hx hb dX12_circleOf_29 (lv_at hl 4 rfl) ?_
        refine mcallS' (g := g) (As := [.int q_3, .int x_6]) (rest := []) St hK hT hA hP hD hS hl.1 [] [0] rfl rfl rfl (m_isOf l g q_3 x_6 ) (va_cwS 2 hts (zgL (zl3 k1062 k1063 k839) k829) rfl rfl rfl (by decide +kernel) ⟨Nat.le_of_ble_eq_true rfl, Nat.le_of_ble_eq_true rfl⟩) rfl rfl (Nat.le_of_ble_eq_true rfl) dX12_circleOf_31 ⟨(Nat.le_of_ble_eq_true rfl), (Nat.le_of_ble_eq_true rfl)⟩ (fun q_15 H locs hq16 hP hD hS => ?_)
        replace hq16 : (q_15 = 0 ∨ q_15 = 1) := hq16
        have hP : va_P g.1 vwCl (List.flatten [bMo g o a th hi ac tp ba en tA fl de iD iO tU fm fk fa fc ft ff fb fi]) H := hP
        have hD : va_D A (List.flatten [bMo g o a th hi ac tp ba en tA fl de iD iO tU fm fk fa fc ft ff fb fi]) := hD
        refine W.widen (k := 0) (n := 0) (Nat.le_of_ble_eq_true rfl) (Nat.le_of_ble_eq_true rfl) ?_
        refine W.eq (g2 := F0 m 34 ls [.int q_15]) rfl ?_
        rcases hq16 with rfl | rfl
        · skip
          refine lv_if_eq (tgt := 61) hx hb dX12_circleOf_34 (by decide) (fun _ => ?_) (fun c17 => absurd (by decide) c17)
          refine ziinc3 (n' := 1) (a' := 1) (b' := 8) (lv' := fun v9 => [(4, .int v9), (0, .ref o), (1, .int x), (2, .int x_5), (3, .int q_3)]) hx hb dX12_circleOf_61 hl (k := 4) rfl (by decide) (fun _ => rfl) (zaddK (i := x_6.toInt) (j := 1) rfl (by decide) i7.1 n13 (Int.le_refl _) (Int.le_refl _) (by decide)) (fun x_18 ls hx_18 hl => ?_)
          refine lv_goto (tgt := 17) hx hb dX12_circleOf_64 (by decide) ?_
          have hl := lv_sub (l' := [(0, .ref o), (1, .int x), (2, .int x_5), (3, .int q_3), (4, .int x_18)]) hl [1, 2, 3, 4, 0] rfl
          have hP : va_P g.1 vwCl (List.flatten [bMo g o a th hi ac tp ba en tA fl de iD iO tU fm fk fa fc ft ff fb fi]) H := hP
          have hD : va_D A (List.flatten [bMo g o a th hi ac tp ba en tA fl de iD iO tU fm fk fa fc ft ff fb fi]) := hD
          exact ih17_9 x_5 x_18 ⟨(Int.le_trans (by decide) hx_18.2.1), hx_18.2.2⟩ H _ ls (zmK hx_18.1 (by decide) n13 (by decide) hk17_9)  hP hD hS (lv_sub hl [0, 1, 2, 3, 4] rfl)
        · skip
          refine lv_if_eq (tgt := 61) hx hb dX12_circleOf_34 (by decide) (fun c19 => absurd c19 (by decide)) (fun _ => ?_)
          refine lv_aload_n hx hb dX12_circleOf_37 rfl (lv_at hl 0 rfl) ?_
          refine lv_iconst (v := 1) hx hb dX12_circleOf_38 (by decide) ?_
          refine lv_iload hx hb dX12_circleOf_39 (lv_at hl 4 rfl) ?_
          refine lv_ishl hx hb dX12_circleOf_41 ?_
          refine zgb (zshl1 (j := x_6.toInt) rfl 7 128 (by decide) (by decide) ⟨i7.1, n13⟩) (fun x_20 hx_20 => ?_)
          refine lv_bipush (v := 8) hx hb dX12_circleOf_42 (by decide) ?_
          refine mcallV' (g := g) (q0 := 0) (ci := 10) (As := [.int x_20, .int 8]) (rest := []) St hK hT hA hP hD hS hl.1 [0] [] rfl rfl rfl (m_passes l g o a th hi ac tp ba en tA fl de iD iO tU fm fk fa fc ft ff fb fi x_20 8 rfm (by decide)) (cwV 2 hts (zgL (zl4 k1111 k1112 k1113 k839) k1109) rfl rfl rfl (by decide +kernel) ⟨Nat.le_of_ble_eq_true rfl, Nat.le_of_ble_eq_true rfl⟩) rfl rfl rfl rfl (Nat.le_of_ble_eq_true rfl) dX12_circleOf_44 ⟨(Nat.le_of_ble_eq_true rfl), (Nat.le_of_ble_eq_true rfl)⟩ (fun q_21 H locs hq22 hP hD hS => ?_)
          have hP : va_P g.1 vwCl (List.flatten [bMo g o a th hi ac tp ba en tA fl de iD iO tU fm fk fa fc ft ff fb fi]) H := hP
          have hD : va_D A (List.flatten [bMo g o a th hi ac tp ba en tA fl de iD iO tU fm fk fa fc ft ff fb fi]) := hD
          refine W.widen (k := 0) (n := 0) (Nat.le_of_ble_eq_true rfl) (Nat.le_of_ble_eq_true rfl) ?_
          refine W.eq (g2 := F0 m 47 ls [.int q_21]) rfl ?_
          refine lv_iload_n hx hb dX12_circleOf_47 rfl (lv_at hl 1 rfl) ?_
          refine mcallS' (g := g) (As := [.int q_21, .int x]) (rest := []) St hK hT hA hP hD hS hl.1 [] [0] rfl rfl rfl (m_isOf l g q_21 x ) (va_cwS 2 hts (zgL (zl3 k1062 k1063 k839) k829) rfl rfl rfl (by decide +kernel) ⟨Nat.le_of_ble_eq_true rfl, Nat.le_of_ble_eq_true rfl⟩) rfl rfl (Nat.le_of_ble_eq_true rfl) dX12_circleOf_48 ⟨(Nat.le_of_ble_eq_true rfl), (Nat.le_of_ble_eq_true rfl)⟩ (fun q_23 H locs hq24 hP hD hS => ?_)
          replace hq24 : (q_23 = 0 ∨ q_23 = 1) := hq24
          have hP : va_P g.1 vwCl (List.flatten [bMo g o a th hi ac tp ba en tA fl de iD iO tU fm fk fa fc ft ff fb fi]) H := hP
          have hD : va_D A (List.flatten [bMo g o a th hi ac tp ba en tA fl de iD iO tU fm fk fa fc ft ff fb fi]) := hD
          refine W.widen (k := 0) (n := 0) (Nat.le_of_ble_eq_true rfl) (Nat.le_of_ble_eq_true rfl) ?_
          refine W.eq (g2 := F0 m 51 ls [.int q_23]) rfl ?_
          rcases hq24 with rfl | rfl
          · skip
            refine lv_if_eq (tgt := 61) hx hb dX12_circleOf_51 (by decide) (fun _ => ?_) (fun c25 => absurd (by decide) c25)
            refine ziinc3 (n' := 1) (a' := 1) (b' := 8) (lv' := fun v9 => [(4, .int v9), (0, .ref o), (1, .int x), (2, .int x_5), (3, .int q_3)]) hx hb dX12_circleOf_61 hl (k := 4) rfl (by decide) (fun _ => rfl) (zaddK (i := x_6.toInt) (j := 1) rfl (by decide) i7.1 n13 (Int.le_refl _) (Int.le_refl _) (by decide)) (fun x_26 ls hx_26 hl => ?_)
            refine lv_goto (tgt := 17) hx hb dX12_circleOf_64 (by decide) ?_
            have hl := lv_sub (l' := [(0, .ref o), (1, .int x), (2, .int x_5), (3, .int q_3), (4, .int x_26)]) hl [1, 2, 3, 4, 0] rfl
            have hP : va_P g.1 vwCl (List.flatten [bMo g o a th hi ac tp ba en tA fl de iD iO tU fm fk fa fc ft ff fb fi]) H := hP
            have hD : va_D A (List.flatten [bMo g o a th hi ac tp ba en tA fl de iD iO tU fm fk fa fc ft ff fb fi]) := hD
            exact ih17_9 x_5 x_26 ⟨(Int.le_trans (by decide) hx_26.2.1), hx_26.2.2⟩ H _ ls (zmK hx_26.1 (by decide) n13 (by decide) hk17_9)  hP hD hS (lv_sub hl [0, 1, 2, 3, 4] rfl)
          · skip
            refine lv_if_eq (tgt := 61) hx hb dX12_circleOf_51 (by decide) (fun c27 => absurd c27 (by decide)) (fun _ => ?_)
            refine lv_iload_n hx hb dX12_circleOf_54 rfl (lv_at hl 2 rfl) ?_
            refine lv_iconst (v := 1) hx hb dX12_circleOf_55 (by decide) ?_
            refine lv_iload hx hb dX12_circleOf_56 (lv_at hl 4 rfl) ?_
            refine lv_ishl hx hb dX12_circleOf_58 ?_
            refine zgb (zshl1 (j := x_6.toInt) rfl 7 128 (by decide) (by decide) ⟨i7.1, n13⟩) (fun x_28 hx_28 => ?_)
            refine lv_ior hx hb dX12_circleOf_59 ?_
            refine zg (fun x_29 => ?_)
            refine lv_istore_n (lv' := [(2, .int x_29), (0, .ref o), (1, .int x), (3, .int q_3), (4, .int x_6)]) hx hb dX12_circleOf_60 rfl hl (by decide) rfl (fun ls hl => ?_)
            refine ziinc3 (n' := 1) (a' := 1) (b' := 8) (lv' := fun v9 => [(4, .int v9), (2, .int x_29), (0, .ref o), (1, .int x), (3, .int q_3)]) hx hb dX12_circleOf_61 hl (k := 4) rfl (by decide) (fun _ => rfl) (zaddK (i := x_6.toInt) (j := 1) rfl (by decide) i7.1 n13 (Int.le_refl _) (Int.le_refl _) (by decide)) (fun x_30 ls hx_30 hl => ?_)
            refine lv_goto (tgt := 17) hx hb dX12_circleOf_64 (by decide) ?_
            have hl := lv_sub (l' := [(0, .ref o), (1, .int x), (2, .int x_29), (3, .int q_3), (4, .int x_30)]) hl [2, 3, 1, 4, 0] rfl
            have hP : va_P g.1 vwCl (List.flatten [bMo g o a th hi ac tp ba en tA fl de iD iO tU fm fk fa fc ft ff fb fi]) H := hP
            have hD : va_D A (List.flatten [bMo g o a th hi ac tp ba en tA fl de iD iO tU fm fk fa fc ft ff fb fi]) := hD
            exact ih17_9 x_29 x_30 ⟨(Int.le_trans (by decide) hx_30.2.1), hx_30.2.2⟩ H _ ls (zmK hx_30.1 (by decide) n13 (by decide) hk17_9)  hP hD hS (lv_sub hl [0, 1, 2, 3, 4] rfl)
  have hP : va_P g.1 vwCl (List.flatten [bMo g o a th hi ac tp ba en tA fl de iD iO tU fm fk fa fc ft ff fb fi]) H := hP
  have hD : va_D A (List.flatten [bMo g o a th hi ac tp ba en tA fl de iD iO tU fm fk fa fc ft ff fb fi]) := hD
  exact LP17_8 _ x_1 0 (by decide) H _ ls (Nat.lt_succ_self _)  hP hD hS (lv_sub hl [0, 1, 2, 3, 4] rfl)
set_option maxRecDepth 100000 in
set_option maxHeartbeats 4000000 in
theorem m_moreBy (l : Launch) (g : zG) (x1 : Int32) (y1 : Int32)  : zM' g l yX12_moreBy (Cond.code yX12_moreBy cX12_moreBy 2 (some .int) :: zB) ({ frames := 0, cells := 0, slots := 0, locals := 0 } : Room) [.int x1, .int y1] [] (fun (q : Int32) => some (.int q)) (fun (q : Int32) => True) (fun (q : Int32) => []) := by
  refine zM'.of (cc := cX12_moreBy) (maxL := 2) (rt := (some .int)) (by decide) rfl (Nat.le_of_ble_eq_true rfl) ?_
  intro p e s m args below meth c A ls St hr hlocks hin hK hT hA hP hD hS hl
  obtain ⟨hx, hb, hml, hown, hts⟩ := id St
  have hl : lv_has ls 2 [(0, .int x1), (1, .int y1)] := hl
  refine lv_iload_n hx hb dX12_moreBy_0 rfl (lv_at hl 0 rfl) ?_
  refine lv_if_ne (tgt := 17) hx hb dX12_moreBy_1 (by decide) (fun cb9 => ?_) (fun cb9 => ?_)
  · skip
    have c1 : ¬ x1.toInt = 0 := zne cb9 rfl (by decide)
    refine lv_iload_n hx hb dX12_moreBy_17 rfl (lv_at hl 1 rfl) ?_
    refine lv_if_ne (tgt := 26) hx hb dX12_moreBy_18 (by decide) (fun cb9 => ?_) (fun cb9 => ?_)
    · skip
      have c2 : ¬ y1.toInt = 0 := zne cb9 rfl (by decide)
      refine lv_iconst (v := 0) hx hb dX12_moreBy_26 (by decide) ?_
      have hP : va_P g.1 vwCl (List.flatten []) s.heap := hP
      have hD : va_D A (List.flatten []) := hD
      exact mret_i hx hb hr hlocks hS (Nat.le_of_ble_eq_true rfl) (Nat.le_of_ble_eq_true rfl) dX12_moreBy_27 ((0 : Int32)) rfl trivial hP hD
    · skip
      have c3 : y1.toInt = 0 := zeq cb9 rfl (by decide)
      have n4 : 0 ≤ y1.toInt := Int.le_trans (Int.le_refl _) (Int.le_of_eq c3.symm)
      have n5 : y1.toInt ≤ 0 := Int.le_trans (Int.le_of_eq c3) (Int.le_refl _)
      refine lv_bipush (v := (-10)) hx hb dX12_moreBy_21 (by decide) ?_
      refine lv_goto (tgt := 27) hx hb dX12_moreBy_23 (by decide) ?_
      have hP : va_P g.1 vwCl (List.flatten []) s.heap := hP
      have hD : va_D A (List.flatten []) := hD
      exact mret_i hx hb hr hlocks hS (Nat.le_of_ble_eq_true rfl) (Nat.le_of_ble_eq_true rfl) dX12_moreBy_27 (-10) rfl trivial hP hD
  · skip
    have c6 : x1.toInt = 0 := zeq cb9 rfl (by decide)
    have n7 : 0 ≤ x1.toInt := Int.le_trans (Int.le_refl _) (Int.le_of_eq c6.symm)
    have n8 : x1.toInt ≤ 0 := Int.le_trans (Int.le_of_eq c6) (Int.le_refl _)
    refine lv_iload_n hx hb dX12_moreBy_4 rfl (lv_at hl 1 rfl) ?_
    refine lv_if_ne (tgt := 12) hx hb dX12_moreBy_5 (by decide) (fun cb9 => ?_) (fun cb9 => ?_)
    · skip
      have c9 : ¬ y1.toInt = 0 := zne cb9 rfl (by decide)
      refine lv_bipush (v := 20) hx hb dX12_moreBy_12 (by decide) ?_
      refine lv_goto (tgt := 27) hx hb dX12_moreBy_14 (by decide) ?_
      have hP : va_P g.1 vwCl (List.flatten []) s.heap := hP
      have hD : va_D A (List.flatten []) := hD
      exact mret_i hx hb hr hlocks hS (Nat.le_of_ble_eq_true rfl) (Nat.le_of_ble_eq_true rfl) dX12_moreBy_27 ((20 : Int32)) rfl trivial hP hD
    · skip
      have c10 : y1.toInt = 0 := zeq cb9 rfl (by decide)
      have n11 : 0 ≤ y1.toInt := Int.le_trans (Int.le_refl _) (Int.le_of_eq c10.symm)
      have n12 : y1.toInt ≤ 0 := Int.le_trans (Int.le_of_eq c10) (Int.le_refl _)
      refine lv_iconst (v := 5) hx hb dX12_moreBy_8 (by decide) ?_
      refine lv_goto (tgt := 27) hx hb dX12_moreBy_9 (by decide) ?_
      have hP : va_P g.1 vwCl (List.flatten []) s.heap := hP
      have hD : va_D A (List.flatten []) := hD
      exact mret_i hx hb hr hlocks hS (Nat.le_of_ble_eq_true rfl) (Nat.le_of_ble_eq_true rfl) dX12_moreBy_27 ((5 : Int32)) rfl trivial hP hD
set_option maxRecDepth 100000 in
set_option maxHeartbeats 4000000 in
theorem m_tellerHas (l : Launch) (g : zG) (x1 : Int32) (y1 : Int32)  : zM' g l yX12_tellerHas (Cond.code yX12_tellerHas cX12_tellerHas 2 (some .int) :: zB) ({ frames := 1, cells := 0, slots := 0, locals := 21 } : Room) [.int x1, .int y1] [] (fun (q : Int32) => some (.int q)) (fun (q : Int32) => True) (fun (q : Int32) => []) := by
  refine zM'.of (cc := cX12_tellerHas) (maxL := 2) (rt := (some .int)) (by decide) rfl (Nat.le_of_ble_eq_true rfl) ?_
  intro p e s m args below meth c A ls St hr hlocks hin hK hT hA hP hD hS hl
  obtain ⟨hx, hb, hml, hown, hts⟩ := id St
  have hl : lv_has ls 2 [(0, .int x1), (1, .int y1)] := hl
  refine lv_iload_n hx hb dX12_tellerHas_0 rfl (lv_at hl 0 rfl) ?_
  refine lv_iload_n hx hb dX12_tellerHas_1 rfl (lv_at hl 1 rfl) ?_
  refine mcallS' (g := g) (As := [.int x1, .int y1]) (rest := []) St hK hT hA hP hD hS hl.1 [] [] rfl rfl rfl (m_moreBy l g x1 y1 ) (va_cwS 2 hts (zgL (zl3 k1123 k1124 k839) k1121) rfl rfl rfl (by decide +kernel) ⟨Nat.le_of_ble_eq_true rfl, Nat.le_of_ble_eq_true rfl⟩) rfl rfl (Nat.le_of_ble_eq_true rfl) dX12_tellerHas_2 ⟨(Nat.le_of_ble_eq_true rfl), (Nat.le_of_ble_eq_true rfl)⟩ (fun q_1 H locs hq2 hP hD hS => ?_)
  have hP : va_P g.1 vwCl (List.flatten []) H := hP
  have hD : va_D A (List.flatten []) := hD
  refine W.widen (k := 0) (n := 0) (Nat.le_of_ble_eq_true rfl) (Nat.le_of_ble_eq_true rfl) ?_
  refine W.eq (g2 := F0 m 5 ls [.int q_1]) rfl ?_
  refine lv_iload_n hx hb dX12_tellerHas_5 rfl (lv_at hl 0 rfl) ?_
  refine lv_if_ne (tgt := 13) hx hb dX12_tellerHas_6 (by decide) (fun cb9 => ?_) (fun cb9 => ?_)
  · skip
    have c3 : ¬ x1.toInt = 0 := zne cb9 rfl (by decide)
    refine lv_iconst (v := 0) hx hb dX12_tellerHas_13 (by decide) ?_
    refine lv_isub hx hb dX12_tellerHas_14 ?_
    refine zg (fun x_4 => ?_)
    have hP : va_P g.1 vwCl (List.flatten []) H := hP
    have hD : va_D A (List.flatten []) := hD
    exact mret_i hx hb hr hlocks hS (Nat.le_of_ble_eq_true rfl) (Nat.le_of_ble_eq_true rfl) dX12_tellerHas_15 (x_4) rfl trivial hP hD
  · skip
    have c5 : x1.toInt = 0 := zeq cb9 rfl (by decide)
    have n6 : 0 ≤ x1.toInt := Int.le_trans (Int.le_refl _) (Int.le_of_eq c5.symm)
    have n7 : x1.toInt ≤ 0 := Int.le_trans (Int.le_of_eq c5) (Int.le_refl _)
    refine lv_iconst (v := 4) hx hb dX12_tellerHas_9 (by decide) ?_
    refine lv_goto (tgt := 14) hx hb dX12_tellerHas_10 (by decide) ?_
    refine lv_isub hx hb dX12_tellerHas_14 ?_
    refine zg (fun x_8 => ?_)
    have hP : va_P g.1 vwCl (List.flatten []) H := hP
    have hD : va_D A (List.flatten []) := hD
    exact mret_i hx hb hr hlocks hS (Nat.le_of_ble_eq_true rfl) (Nat.le_of_ble_eq_true rfl) dX12_tellerHas_15 (x_8) rfl trivial hP hD
set_option maxRecDepth 100000 in
set_option maxHeartbeats 4000000 in
theorem m_dryHas (l : Launch) (g : zG) (o : Nat) (a : Nat → Nat) (th : Int32) (hi : Int32) (ac : Int32) (tp : Int32) (ba : Int32) (en : Int32) (tA : Int32) (fl : Int32) (de : Int32) (iD : Int32) (iO : Int32) (tU : Int32) (fm : Nat → Int32) (fk : Nat → Int32) (fa : Nat → Int32) (fc : Nat → Int32) (ft : Nat → Int32) (ff : Nat → Int32) (fb : Nat → Int32) (fi : Nat → Int32) (x : Int32) (x2 : Int32) (x3 : Int32) (x4 : Int32) (b_x : 0 ≤ x.toInt ∧ x.toInt ≤ 7) (b_x2 : 0 ≤ x2.toInt ∧ x2.toInt ≤ 7) : zM' g l yX12_dryHas (Cond.code yX12_dryHas cX12_dryHas 5 (some .int) :: zB) ({ frames := 1, cells := 0, slots := 0, locals := 22 } : Room) [.ref o, .int x, .int x2, .int x3, .int x4] [bMo g o a th hi ac tp ba en tA fl de iD iO tU fm fk fa fc ft ff fb fi] (fun (q : Int32) => some (.int q)) (fun (q : Int32) => True) (fun (q : Int32) => [bMo g o a th hi ac tp ba en tA fl de iD iO tU fm fk fa fc ft ff fb fi]) := by
  refine zM'.of (cc := cX12_dryHas) (maxL := 5) (rt := (some .int)) (by decide) rfl (Nat.le_of_ble_eq_true rfl) ?_
  intro p e s m args below meth c A ls St hr hlocks hin hK hT hA hP hD hS hl
  obtain ⟨hx, hb, hml, hown, hts⟩ := id St
  have hl : lv_has ls 5 [(0, .ref o), (1, .int x), (2, .int x2), (3, .int x3), (4, .int x4)] := hl
  refine lv_iload_n hx hb dX12_dryHas_0 rfl (lv_at hl 3 rfl) ?_
  refine lv_iload hx hb dX12_dryHas_1 (lv_at hl 4 rfl) ?_
  refine mcallS' (g := g) (As := [.int x3, .int x4]) (rest := []) St hK hT hA hP hD hS hl.1 [] [0] rfl rfl rfl (m_moreBy l g x3 x4 ) (va_cwS 2 hts (zgL (zl3 k1123 k1124 k839) k1121) rfl rfl rfl (by decide +kernel) ⟨Nat.le_of_ble_eq_true rfl, Nat.le_of_ble_eq_true rfl⟩) rfl rfl (Nat.le_of_ble_eq_true rfl) dX12_dryHas_3 ⟨(Nat.le_of_ble_eq_true rfl), (Nat.le_of_ble_eq_true rfl)⟩ (fun q_1 H locs hq2 hP hD hS => ?_)
  have hP : va_P g.1 vwCl (List.flatten [bMo g o a th hi ac tp ba en tA fl de iD iO tU fm fk fa fc ft ff fb fi]) H := hP
  have hD : va_D A (List.flatten [bMo g o a th hi ac tp ba en tA fl de iD iO tU fm fk fa fc ft ff fb fi]) := hD
  refine W.widen (k := 0) (n := 0) (Nat.le_of_ble_eq_true rfl) (Nat.le_of_ble_eq_true rfl) ?_
  refine W.eq (g2 := F0 m 6 ls [.int q_1]) rfl ?_
  refine lv_ineg hx hb dX12_dryHas_6 ?_
  refine zg (fun x_3 => ?_)
  refine lv_iload hx hb dX12_dryHas_7 (lv_at hl 4 rfl) ?_
  refine lv_if_ne (tgt := 21) hx hb dX12_dryHas_9 (by decide) (fun cb9 => ?_) (fun cb9 => ?_)
  · skip
    have c4 : ¬ x4.toInt = 0 := zne cb9 rfl (by decide)
    refine lv_iconst (v := 0) hx hb dX12_dryHas_21 (by decide) ?_
    refine lv_isub hx hb dX12_dryHas_22 ?_
    refine zg (fun x_5 => ?_)
    have hP : va_P g.1 vwCl (List.flatten [bMo g o a th hi ac tp ba en tA fl de iD iO tU fm fk fa fc ft ff fb fi]) H := hP
    have hD : va_D A (List.flatten [bMo g o a th hi ac tp ba en tA fl de iD iO tU fm fk fa fc ft ff fb fi]) := hD
    exact mret_i hx hb hr hlocks hS (Nat.le_of_ble_eq_true rfl) (Nat.le_of_ble_eq_true rfl) dX12_dryHas_23 (x_5) rfl trivial hP hD
  · skip
    have c6 : x4.toInt = 0 := zeq cb9 rfl (by decide)
    have n7 : 0 ≤ x4.toInt := Int.le_trans (Int.le_refl _) (Int.le_of_eq c6.symm)
    have n8 : x4.toInt ≤ 0 := Int.le_trans (Int.le_of_eq c6) (Int.le_refl _)
    refine lv_aload_n hx hb dX12_dryHas_12 rfl (lv_at hl 0 rfl) ?_
    refine lv_iload_n hx hb dX12_dryHas_13 rfl (lv_at hl 1 rfl) ?_
    refine lv_iload_n hx hb dX12_dryHas_14 rfl (lv_at hl 2 rfl) ?_
    refine mcallV' (g := g) (q0 := 0) (ci := 10) (As := [.int x, .int x2]) (rest := [.int x_3]) St hK hT hA hP hD hS hl.1 [0] [] rfl rfl rfl (m_trustOf l g o a th hi ac tp ba en tA fl de iD iO tU fm fk fa fc ft ff fb fi x x2 b_x b_x2) (cwV 2 hts (zgL (zl4 k868 k869 k870 k839) k835) rfl rfl rfl (by decide +kernel) ⟨Nat.le_of_ble_eq_true rfl, Nat.le_of_ble_eq_true rfl⟩) rfl rfl rfl rfl (Nat.le_of_ble_eq_true rfl) dX12_dryHas_15 ⟨(Nat.le_of_ble_eq_true rfl), (Nat.le_of_ble_eq_true rfl)⟩ (fun q_9 H locs hq10 hP hD hS => ?_)
    have hP : va_P g.1 vwCl (List.flatten [bMo g o a th hi ac tp ba en tA fl de iD iO tU fm fk fa fc ft ff fb fi]) H := hP
    have hD : va_D A (List.flatten [bMo g o a th hi ac tp ba en tA fl de iD iO tU fm fk fa fc ft ff fb fi]) := hD
    refine W.widen (k := 0) (n := 0) (Nat.le_of_ble_eq_true rfl) (Nat.le_of_ble_eq_true rfl) ?_
    refine W.eq (g2 := F0 m 18 ls [.int q_9, .int x_3]) rfl ?_
    refine lv_goto (tgt := 22) hx hb dX12_dryHas_18 (by decide) ?_
    refine lv_isub hx hb dX12_dryHas_22 ?_
    refine zg (fun x_11 => ?_)
    have hP : va_P g.1 vwCl (List.flatten [bMo g o a th hi ac tp ba en tA fl de iD iO tU fm fk fa fc ft ff fb fi]) H := hP
    have hD : va_D A (List.flatten [bMo g o a th hi ac tp ba en tA fl de iD iO tU fm fk fa fc ft ff fb fi]) := hD
    exact mret_i hx hb hr hlocks hS (Nat.le_of_ble_eq_true rfl) (Nat.le_of_ble_eq_true rfl) dX12_dryHas_23 (x_11) rfl trivial hP hD
set_option maxRecDepth 100000 in
set_option maxHeartbeats 4000000 in
theorem m_believedBy (l : Launch) (g : zG) (o : Nat) (a : Nat → Nat) (th : Int32) (hi : Int32) (ac : Int32) (tp : Int32) (ba : Int32) (en : Int32) (tA : Int32) (fl : Int32) (de : Int32) (iD : Int32) (iO : Int32) (tU : Int32) (fm : Nat → Int32) (fk : Nat → Int32) (fa : Nat → Int32) (fc : Nat → Int32) (ft : Nat → Int32) (ff : Nat → Int32) (fb : Nat → Int32) (fi : Nat → Int32) (n : Int32) (st0 : Int32) (by9 : Int32) (rfm : rM fm) (rfa : rM fa) (hiD : 0 ≤ iD.toInt ∧ iD.toInt ≤ 1) (hiO : 0 ≤ iO.toInt ∧ iO.toInt ≤ 1) (b_n : 0 ≤ n.toInt ∧ n.toInt ≤ 100) : zM' g l yX12_believedBy (Cond.code yX12_believedBy cX12_believedBy 6 (some .int) :: zB) ({ frames := 33, cells := 0, slots := 0, locals := 736 } : Room) [.ref o, .int n, .int st0, .int by9] [bMo g o a th hi ac tp ba en tA fl de iD iO tU fm fk fa fc ft ff fb fi] (fun u : Int32 × Int32 × Int32 × Int32 × Int32 × Int32 × Int32 × (Nat → Int32) × (Nat → Int32) × (Nat → Int32) × (Nat → Int32) × Int32 => (fun (ba2 : Int32) (en2 : Int32) (at2 : Int32) (de2 : Int32) (iD2 : Int32) (iO2 : Int32) (tU2 : Int32) (ff2 : Nat → Int32) (fm2 : Nat → Int32) (fb2 : Nat → Int32) (fa2 : Nat → Int32) (q : Int32) => some (.int q)) (u.1) (u.2.1) (u.2.2.1) (u.2.2.2.1) (u.2.2.2.2.1) (u.2.2.2.2.2.1) (u.2.2.2.2.2.2.1) (u.2.2.2.2.2.2.2.1) (u.2.2.2.2.2.2.2.2.1) (u.2.2.2.2.2.2.2.2.2.1) (u.2.2.2.2.2.2.2.2.2.2.1) (u.2.2.2.2.2.2.2.2.2.2.2)) (fun u : Int32 × Int32 × Int32 × Int32 × Int32 × Int32 × Int32 × (Nat → Int32) × (Nat → Int32) × (Nat → Int32) × (Nat → Int32) × Int32 => (fun (ba2 : Int32) (en2 : Int32) (at2 : Int32) (de2 : Int32) (iD2 : Int32) (iO2 : Int32) (tU2 : Int32) (ff2 : Nat → Int32) (fm2 : Nat → Int32) (fb2 : Nat → Int32) (fa2 : Nat → Int32) (q : Int32) => ((fm2 0).toInt = (fm 0).toInt ∧ (fm2 3).toInt = (fm 3).toInt ∧ (fm2 4).toInt = (fm 4).toInt) ∧ (rM fa2) ∧ (rM fm2) ∧ (0 ≤ iO2.toInt ∧ iO2.toInt ≤ 1) ∧ (0 ≤ iD2.toInt ∧ iD2.toInt ≤ 1)) (u.1) (u.2.1) (u.2.2.1) (u.2.2.2.1) (u.2.2.2.2.1) (u.2.2.2.2.2.1) (u.2.2.2.2.2.2.1) (u.2.2.2.2.2.2.2.1) (u.2.2.2.2.2.2.2.2.1) (u.2.2.2.2.2.2.2.2.2.1) (u.2.2.2.2.2.2.2.2.2.2.1) (u.2.2.2.2.2.2.2.2.2.2.2)) (fun u : Int32 × Int32 × Int32 × Int32 × Int32 × Int32 × Int32 × (Nat → Int32) × (Nat → Int32) × (Nat → Int32) × (Nat → Int32) × Int32 => (fun (ba2 : Int32) (en2 : Int32) (at2 : Int32) (de2 : Int32) (iD2 : Int32) (iO2 : Int32) (tU2 : Int32) (ff2 : Nat → Int32) (fm2 : Nat → Int32) (fb2 : Nat → Int32) (fa2 : Nat → Int32) (q : Int32) => [bMo g o a th hi ac tp ba2 en2 at2 fl de2 iD2 iO2 tU2 fm2 fk fa2 fc ft ff2 fb2 fi]) (u.1) (u.2.1) (u.2.2.1) (u.2.2.2.1) (u.2.2.2.2.1) (u.2.2.2.2.2.1) (u.2.2.2.2.2.2.1) (u.2.2.2.2.2.2.2.1) (u.2.2.2.2.2.2.2.2.1) (u.2.2.2.2.2.2.2.2.2.1) (u.2.2.2.2.2.2.2.2.2.2.1) (u.2.2.2.2.2.2.2.2.2.2.2)) := by
  refine zM'.of (cc := cX12_believedBy) (maxL := 6) (rt := (some .int)) (by decide) rfl (Nat.le_of_ble_eq_true rfl) ?_
  intro p e s m args below meth c A ls St hr hlocks hin hK hT hA hP hD hS hl
  obtain ⟨hx, hb, hml, hown, hts⟩ := id St
  have hl : lv_has ls 6 [(0, .ref o), (1, .int n), (2, .int st0), (3, .int by9)] := hl
  refine lv_aload_n hx hb dX12_believedBy_0 rfl (lv_at hl 0 rfl) ?_
  refine mcallV' (g := g) (q0 := 0) (ci := 10) (As := []) (rest := []) St hK hT hA hP hD hS hl.1 [0] [] rfl rfl rfl (m_putsAside l g o a th hi ac tp ba en tA fl de iD iO tU fm fk fa fc ft ff fb fi rfm rfa) (cwV 0 hts (zgL (zl4 k975 k976 k977 k839) k972) rfl rfl rfl (by decide +kernel) ⟨Nat.le_of_ble_eq_true rfl, Nat.le_of_ble_eq_true rfl⟩) rfl rfl rfl rfl (Nat.le_of_ble_eq_true rfl) dX12_believedBy_1 ⟨(Nat.le_of_ble_eq_true rfl), (Nat.le_of_ble_eq_true rfl)⟩ (fun fa2_1 H locs hq2 hP hD hS => ?_)
  replace hq2 : (rM fa2_1) ∧ (zCy fa fa2_1 0 fm 0 379) ∧ ((fa2_1 0).toInt = (fm 0).toInt ∧ (fa2_1 3).toInt = (fm 3).toInt ∧ (fa2_1 4).toInt = (fm 4).toInt) := hq2
  have hP : va_P g.1 vwCl (List.flatten [bMo g o a th hi ac tp ba en tA fl de iD iO tU fm fk fa2_1 fc ft ff fb fi]) H := hP
  have hD : va_D A (List.flatten [bMo g o a th hi ac tp ba en tA fl de iD iO tU fm fk fa2_1 fc ft ff fb fi]) := hD
  refine W.widen (k := 0) (n := 0) (Nat.le_of_ble_eq_true rfl) (Nat.le_of_ble_eq_true rfl) ?_
  refine W.eq (g2 := F0 m 4 ls []) rfl ?_
  obtain ⟨rfa2_1, hq2_1, hq2_2⟩ := hq2
  refine lv_iconst (v := 0) hx hb dX12_believedBy_4 (by decide) ?_
  refine lv_istore (lv' := [(4, .int 0), (0, .ref o), (1, .int n), (2, .int st0), (3, .int by9)]) hx hb dX12_believedBy_5 hl (by decide) rfl (fun ls hl => ?_)
  have hl := lv_sub (l' := [(0, .ref o), (1, .int n), (2, .int st0), (3, .int by9), (4, .int 0)]) hl [1, 2, 3, 4, 0] rfl
  have LP7_7 : ∀ (kf : Nat) (x_3 : Int32) (fm_4 : Nat → Int32), (0 ≤ x_3.toInt ∧ x_3.toInt ≤ 8) → (rM fm_4) → ((fm_4 0).toInt = (fm 0).toInt ∧ (fm_4 3).toInt = (fm 3).toInt ∧ (fm_4 4).toInt = (fm 4).toInt) → ∀ (H : Heap) (locs : List Loc) (ls : Array Slot), ((9 - x_3.toInt).toNat) < kf → va_P g.1 vwCl (List.flatten [bMo g o a th hi ac tp ba en tA fl de iD iO tU fm_4 fk fa2_1 fc ft ff fb fi]) H → va_D A (List.flatten [bMo g o a th hi ac tp ba en tA fl de iD iO tU fm_4 fk fa2_1 fc ft ff fb fi]) → va_S A s.heap H locs → lv_has ls 6 [(0, .ref o), (1, .int n), (2, .int st0), (3, .int by9), (4, .int x_3)] → W p l e ({ frames := 33, cells := 0, slots := 0, locals := 736 } : Room) s m args below meth c H locs (0) (0) (zF g (fun u : Int32 × Int32 × Int32 × Int32 × Int32 × Int32 × Int32 × (Nat → Int32) × (Nat → Int32) × (Nat → Int32) × (Nat → Int32) × Int32 => (fun (ba2 : Int32) (en2 : Int32) (at2 : Int32) (de2 : Int32) (iD2 : Int32) (iO2 : Int32) (tU2 : Int32) (ff2 : Nat → Int32) (fm2 : Nat → Int32) (fb2 : Nat → Int32) (fa2 : Nat → Int32) (q : Int32) => some (.int q)) (u.1) (u.2.1) (u.2.2.1) (u.2.2.2.1) (u.2.2.2.2.1) (u.2.2.2.2.2.1) (u.2.2.2.2.2.2.1) (u.2.2.2.2.2.2.2.1) (u.2.2.2.2.2.2.2.2.1) (u.2.2.2.2.2.2.2.2.2.1) (u.2.2.2.2.2.2.2.2.2.2.1) (u.2.2.2.2.2.2.2.2.2.2.2)) (fun u : Int32 × Int32 × Int32 × Int32 × Int32 × Int32 × Int32 × (Nat → Int32) × (Nat → Int32) × (Nat → Int32) × (Nat → Int32) × Int32 => (fun (ba2 : Int32) (en2 : Int32) (at2 : Int32) (de2 : Int32) (iD2 : Int32) (iO2 : Int32) (tU2 : Int32) (ff2 : Nat → Int32) (fm2 : Nat → Int32) (fb2 : Nat → Int32) (fa2 : Nat → Int32) (q : Int32) => ((fm2 0).toInt = (fm 0).toInt ∧ (fm2 3).toInt = (fm 3).toInt ∧ (fm2 4).toInt = (fm 4).toInt) ∧ (rM fa2) ∧ (rM fm2) ∧ (0 ≤ iO2.toInt ∧ iO2.toInt ≤ 1) ∧ (0 ≤ iD2.toInt ∧ iD2.toInt ≤ 1)) (u.1) (u.2.1) (u.2.2.1) (u.2.2.2.1) (u.2.2.2.2.1) (u.2.2.2.2.2.1) (u.2.2.2.2.2.2.1) (u.2.2.2.2.2.2.2.1) (u.2.2.2.2.2.2.2.2.1) (u.2.2.2.2.2.2.2.2.2.1) (u.2.2.2.2.2.2.2.2.2.2.1) (u.2.2.2.2.2.2.2.2.2.2.2)) (fun u : Int32 × Int32 × Int32 × Int32 × Int32 × Int32 × Int32 × (Nat → Int32) × (Nat → Int32) × (Nat → Int32) × (Nat → Int32) × Int32 => (fun (ba2 : Int32) (en2 : Int32) (at2 : Int32) (de2 : Int32) (iD2 : Int32) (iO2 : Int32) (tU2 : Int32) (ff2 : Nat → Int32) (fm2 : Nat → Int32) (fb2 : Nat → Int32) (fa2 : Nat → Int32) (q : Int32) => [bMo g o a th hi ac tp ba2 en2 at2 fl de2 iD2 iO2 tU2 fm2 fk fa2 fc ft ff2 fb2 fi]) (u.1) (u.2.1) (u.2.2.1) (u.2.2.2.1) (u.2.2.2.2.1) (u.2.2.2.2.2.1) (u.2.2.2.2.2.2.1) (u.2.2.2.2.2.2.2.1) (u.2.2.2.2.2.2.2.2.1) (u.2.2.2.2.2.2.2.2.2.1) (u.2.2.2.2.2.2.2.2.2.2.1) (u.2.2.2.2.2.2.2.2.2.2.2)) ({ frames := 33, cells := 0, slots := 0, locals := 736 } : Room) below args s A) (F0 m 7 ls []) := by
    intro kf
    induction kf with
    | zero => intro x_3 fm_4 i5 rfm_4 i6 H locs ls hk; exact absurd hk (Nat.not_lt_zero _)
    | succ kf ih7_8 =>
      intro x_3 fm_4 i5 rfm_4 i6 H locs ls hk7_8 hP hD hS hl
      refine lv_iload hx hb dX12_believedBy_7 (lv_at hl 4 rfl) ?_
      refine lv_aload_n hx hb dX12_believedBy_9 rfl (lv_at hl 0 rfl) ?_
      refine va_get (D := g.1) (ci := 10) (v := .ref (a 0)) (C := RX12) (T := TX12) (N := 20) hx hb hts izRX12 hown hK hP 0 rfl rfl 1 (by decide) (hts _ k815) (fun _ h9 => h9) rfl dX12_believedBy_10 ?_
      refine lv_iconst (v := 3) hx hb dX12_believedBy_13 (by decide) ?_
      refine va_iald hx hb hK hP 1 0 rfl rfl (zin rfl) dX12_believedBy_14 ?_
      refine zgq (r := fm_4 3) rfl (rM3 rfm_4) (fun x_9 hx_9 => ?_)
      refine lv_icmp_ge (tgt := 40) hx hb dX12_believedBy_15 (by decide) (fun cb9 => ?_) (fun cb9 => ?_)
      · skip
        have c10 : x_9.toInt ≤ x_3.toInt := zle cb9 rfl rfl
        refine lv_aload_n hx hb dX12_believedBy_40 rfl (lv_at hl 0 rfl) ?_
        refine lv_iload_n hx hb dX12_believedBy_41 rfl (lv_at hl 1 rfl) ?_
        refine lv_iconst (v := 0) hx hb dX12_believedBy_42 (by decide) ?_
        refine mcallV' (g := g) (q0 := 0) (ci := 10) (As := [.int n, .int 0]) (rest := []) St hK hT hA hP hD hS hl.1 [0] [] rfl rfl rfl (m_goes l g o a th hi ac tp ba en tA fl de iD iO tU fm_4 fk fa2_1 fc ft ff fb fi n 0 rfm_4 hiD hiO b_n) (cwV 2 hts (zgL (zl4 k1057 k1058 k1059 k839) k1028) rfl rfl rfl (by decide +kernel) ⟨Nat.le_of_ble_eq_true rfl, Nat.le_of_ble_eq_true rfl⟩) rfl rfl rfl rfl (Nat.le_of_ble_eq_true rfl) dX12_believedBy_43 ⟨(Nat.le_of_ble_eq_true rfl), (Nat.le_of_ble_eq_true rfl)⟩ (fun u_ H locs hq22 hP hD hS => ?_)
        obtain ⟨ba2_11, en2_12, at2_13, de2_14, iD2_15, iO2_16, tU2_17, ff2_18, fm2_19, fb2_20, q_21⟩ := u_
        replace hq22 : ((fm2_19 0).toInt = (fm_4 0).toInt ∧ (fm2_19 3).toInt = (fm_4 3).toInt ∧ (fm2_19 4).toInt = (fm_4 4).toInt) ∧ (rM fm2_19) ∧ (0 ≤ iO2_16.toInt ∧ iO2_16.toInt ≤ 1) ∧ (0 ≤ iD2_15.toInt ∧ iD2_15.toInt ≤ 1) := hq22
        have hP : va_P g.1 vwCl (List.flatten [bMo g o a th hi ac tp ba2_11 en2_12 at2_13 fl de2_14 iD2_15 iO2_16 tU2_17 fm2_19 fk fa2_1 fc ft ff2_18 fb2_20 fi]) H := hP
        have hD : va_D A (List.flatten [bMo g o a th hi ac tp ba2_11 en2_12 at2_13 fl de2_14 iD2_15 iO2_16 tU2_17 fm2_19 fk fa2_1 fc ft ff2_18 fb2_20 fi]) := hD
        refine W.widen (k := 0) (n := 0) (Nat.le_of_ble_eq_true rfl) (Nat.le_of_ble_eq_true rfl) ?_
        refine W.eq (g2 := F0 m 46 ls [.int q_21]) rfl ?_
        obtain ⟨hq22_0, rfm2_19, hq22_2, hq22_3⟩ := hq22
        refine lv_istore (lv' := [(4, .int q_21), (0, .ref o), (1, .int n), (2, .int st0), (3, .int by9)]) hx hb dX12_believedBy_46 hl (by decide) rfl (fun ls hl => ?_)
        refine lv_aload_n hx hb dX12_believedBy_48 rfl (lv_at hl 1 rfl) ?_
        refine mcallV' (g := g) (q0 := 0) (ci := 10) (As := []) (rest := []) St hK hT hA hP hD hS hl.1 [0] [] rfl rfl rfl (m_believed l g o a th hi ac tp ba2_11 en2_12 at2_13 fl de2_14 iD2_15 iO2_16 tU2_17 fm2_19 fk fa2_1 fc ft ff2_18 fb2_20 fi rfm2_19) (cwV 0 hts (zgL (zl4 k856 k857 k858 k839) k849) rfl rfl rfl (by decide +kernel) ⟨Nat.le_of_ble_eq_true rfl, Nat.le_of_ble_eq_true rfl⟩) rfl rfl rfl rfl (Nat.le_of_ble_eq_true rfl) dX12_believedBy_49 ⟨(Nat.le_of_ble_eq_true rfl), (Nat.le_of_ble_eq_true rfl)⟩ (fun q_23 H locs hq24 hP hD hS => ?_)
        have hP : va_P g.1 vwCl (List.flatten [bMo g o a th hi ac tp ba2_11 en2_12 at2_13 fl de2_14 iD2_15 iO2_16 tU2_17 fm2_19 fk fa2_1 fc ft ff2_18 fb2_20 fi]) H := hP
        have hD : va_D A (List.flatten [bMo g o a th hi ac tp ba2_11 en2_12 at2_13 fl de2_14 iD2_15 iO2_16 tU2_17 fm2_19 fk fa2_1 fc ft ff2_18 fb2_20 fi]) := hD
        refine W.widen (k := 0) (n := 0) (Nat.le_of_ble_eq_true rfl) (Nat.le_of_ble_eq_true rfl) ?_
        refine W.eq (g2 := F0 m 52 ls [.int q_23]) rfl ?_
        refine lv_istore (lv' := [(5, .int q_23), (4, .int q_21), (0, .ref o), (1, .int n), (2, .int st0), (3, .int by9)]) hx hb dX12_believedBy_52 hl (by decide) rfl (fun ls hl => ?_)
        refine lv_aload_n hx hb dX12_believedBy_54 rfl (lv_at hl 2 rfl) ?_
        refine mcallV' (g := g) (q0 := 0) (ci := 10) (As := []) (rest := []) St hK hT hA hP hD hS hl.1 [0] [] rfl rfl rfl (m_comesBack l g o a th hi ac tp ba2_11 en2_12 at2_13 fl de2_14 iD2_15 iO2_16 tU2_17 fm2_19 fk fa2_1 fc ft ff2_18 fb2_20 fi rfm2_19 rfa2_1) (cwV 0 hts (zgL (zl4 k984 k985 k986 k839) k973) rfl rfl rfl (by decide +kernel) ⟨Nat.le_of_ble_eq_true rfl, Nat.le_of_ble_eq_true rfl⟩) rfl rfl rfl rfl (Nat.le_of_ble_eq_true rfl) dX12_believedBy_55 ⟨(Nat.le_of_ble_eq_true rfl), (Nat.le_of_ble_eq_true rfl)⟩ (fun fm2_25 H locs hq26 hP hD hS => ?_)
        replace hq26 : (rM fm2_25) ∧ (zCy fm2_19 fm2_25 0 fa2_1 0 379) ∧ ((fm2_25 0).toInt = (fa2_1 0).toInt ∧ (fm2_25 3).toInt = (fa2_1 3).toInt ∧ (fm2_25 4).toInt = (fa2_1 4).toInt) := hq26
        have hP : va_P g.1 vwCl (List.flatten [bMo g o a th hi ac tp ba2_11 en2_12 at2_13 fl de2_14 iD2_15 iO2_16 tU2_17 fm2_25 fk fa2_1 fc ft ff2_18 fb2_20 fi]) H := hP
        have hD : va_D A (List.flatten [bMo g o a th hi ac tp ba2_11 en2_12 at2_13 fl de2_14 iD2_15 iO2_16 tU2_17 fm2_25 fk fa2_1 fc ft ff2_18 fb2_20 fi]) := hD
        refine W.widen (k := 0) (n := 0) (Nat.le_of_ble_eq_true rfl) (Nat.le_of_ble_eq_true rfl) ?_
        refine W.eq (g2 := F0 m 58 ls []) rfl ?_
        obtain ⟨rfm2_25, hq26_1, hq26_2⟩ := hq26
        refine lv_iload hx hb dX12_believedBy_58 (lv_at hl 0 rfl) ?_
        have hP : va_P g.1 vwCl (List.flatten [bMo g o a th hi ac tp ba2_11 en2_12 at2_13 fl de2_14 iD2_15 iO2_16 tU2_17 fm2_25 fk fa2_1 fc ft ff2_18 fb2_20 fi]) H := hP
        have hD : va_D A (List.flatten [bMo g o a th hi ac tp ba2_11 en2_12 at2_13 fl de2_14 iD2_15 iO2_16 tU2_17 fm2_25 fk fa2_1 fc ft ff2_18 fb2_20 fi]) := hD
        exact mret_i hx hb hr hlocks hS (Nat.le_of_ble_eq_true rfl) (Nat.le_of_ble_eq_true rfl) dX12_believedBy_60 (ba2_11, en2_12, at2_13, de2_14, iD2_15, iO2_16, tU2_17, ff2_18, fm2_25, fb2_20, fa2_1, q_23) rfl (show ((fm2_25 0).toInt = (fm 0).toInt ∧ (fm2_25 3).toInt = (fm 3).toInt ∧ (fm2_25 4).toInt = (fm 4).toInt) ∧ (rM fa2_1) ∧ (rM fm2_25) ∧ (0 ≤ iO2_16.toInt ∧ iO2_16.toInt ≤ 1) ∧ (0 ≤ iD2_15.toInt ∧ iD2_15.toInt ≤ 1) from ⟨(by first | assumption | omega | decide | exact rfl | exact zb01 (by omega) | exact Or.inl (by decide) | exact Or.inr (by first | omega | decide)), rfa2_1, rfm2_25, hq22_2, hq22_3⟩) hP hD
      · skip
        have c27 : x_3.toInt < x_9.toInt := zlti (Int32.not_le.mp cb9) rfl rfl
        have n28 : x_3.toInt ≤ 7 := zL1 (b := 8) c27 hx_9.2.1 (by decide)
        have n29 : 1 ≤ x_9.toInt := zL2 (a := 0) c27 i5.1 (by decide)
        refine lv_iload_n hx hb dX12_believedBy_18 rfl (lv_at hl 2 rfl) ?_
        refine lv_iload hx hb dX12_believedBy_19 (lv_at hl 4 rfl) ?_
        refine mcallS' (g := g) (As := [.int st0, .int x_3]) (rest := []) St hK hT hA hP hD hS hl.1 [] [0] rfl rfl rfl (m_isOf l g st0 x_3 ) (va_cwS 2 hts (zgL (zl3 k1062 k1063 k839) k829) rfl rfl rfl (by decide +kernel) ⟨Nat.le_of_ble_eq_true rfl, Nat.le_of_ble_eq_true rfl⟩) rfl rfl (Nat.le_of_ble_eq_true rfl) dX12_believedBy_21 ⟨(Nat.le_of_ble_eq_true rfl), (Nat.le_of_ble_eq_true rfl)⟩ (fun q_30 H locs hq31 hP hD hS => ?_)
        replace hq31 : (q_30 = 0 ∨ q_30 = 1) := hq31
        have hP : va_P g.1 vwCl (List.flatten [bMo g o a th hi ac tp ba en tA fl de iD iO tU fm_4 fk fa2_1 fc ft ff fb fi]) H := hP
        have hD : va_D A (List.flatten [bMo g o a th hi ac tp ba en tA fl de iD iO tU fm_4 fk fa2_1 fc ft ff fb fi]) := hD
        refine W.widen (k := 0) (n := 0) (Nat.le_of_ble_eq_true rfl) (Nat.le_of_ble_eq_true rfl) ?_
        refine W.eq (g2 := F0 m 24 ls [.int q_30]) rfl ?_
        rcases hq31 with rfl | rfl
        · skip
          refine lv_if_eq (tgt := 34) hx hb dX12_believedBy_24 (by decide) (fun _ => ?_) (fun c32 => absurd (by decide) c32)
          refine ziinc3 (n' := 1) (a' := 1) (b' := 8) (lv' := fun v9 => [(4, .int v9), (0, .ref o), (1, .int n), (2, .int st0), (3, .int by9)]) hx hb dX12_believedBy_34 hl (k := 4) rfl (by decide) (fun _ => rfl) (zaddK (i := x_3.toInt) (j := 1) rfl (by decide) i5.1 n28 (Int.le_refl _) (Int.le_refl _) (by decide)) (fun x_33 ls hx_33 hl => ?_)
          refine lv_goto (tgt := 7) hx hb dX12_believedBy_37 (by decide) ?_
          have hl := lv_sub (l' := [(0, .ref o), (1, .int n), (2, .int st0), (3, .int by9), (4, .int x_33)]) hl [1, 2, 3, 4, 0] rfl
          have hP : va_P g.1 vwCl (List.flatten [bMo g o a th hi ac tp ba en tA fl de iD iO tU fm_4 fk fa2_1 fc ft ff fb fi]) H := hP
          have hD : va_D A (List.flatten [bMo g o a th hi ac tp ba en tA fl de iD iO tU fm_4 fk fa2_1 fc ft ff fb fi]) := hD
          exact ih7_8 x_33 fm_4 ⟨(Int.le_trans (by decide) hx_33.2.1), hx_33.2.2⟩ rfm_4 i6 H _ ls (zmK hx_33.1 (by decide) n28 (by decide) hk7_8)  hP hD hS (lv_sub hl [0, 1, 2, 3, 4] rfl)
        · skip
          refine lv_if_eq (tgt := 34) hx hb dX12_believedBy_24 (by decide) (fun c34 => absurd c34 (by decide)) (fun _ => ?_)
          refine lv_aload_n hx hb dX12_believedBy_27 rfl (lv_at hl 0 rfl) ?_
          refine lv_iload hx hb dX12_believedBy_28 (lv_at hl 4 rfl) ?_
          refine lv_iload_n hx hb dX12_believedBy_30 rfl (lv_at hl 3 rfl) ?_
          refine mcallV' (g := g) (q0 := 0) (ci := 10) (As := [.int x_3, .int by9]) (rest := []) St hK hT hA hP hD hS hl.1 [0] [] rfl rfl rfl (m_believes l g o a th hi ac tp ba en tA fl de iD iO tU fm_4 fk fa2_1 fc ft ff fb fi x_3 by9 rfm_4 (⟨i5.1, n28⟩)) (cwV 2 hts (zgL (zl4 k1012 k1013 k1014 k839) k1002) rfl rfl rfl (by decide +kernel) ⟨Nat.le_of_ble_eq_true rfl, Nat.le_of_ble_eq_true rfl⟩) rfl rfl rfl rfl (Nat.le_of_ble_eq_true rfl) dX12_believedBy_31 ⟨(Nat.le_of_ble_eq_true rfl), (Nat.le_of_ble_eq_true rfl)⟩ (fun fm2_35 H locs hq36 hP hD hS => ?_)
          replace hq36 : ((fm2_35 0).toInt = (fm_4 0).toInt ∧ (fm2_35 3).toInt = (fm_4 3).toInt ∧ (fm2_35 4).toInt = (fm_4 4).toInt) ∧ (rM fm2_35) := hq36
          have hP : va_P g.1 vwCl (List.flatten [bMo g o a th hi ac tp ba en tA fl de iD iO tU fm2_35 fk fa2_1 fc ft ff fb fi]) H := hP
          have hD : va_D A (List.flatten [bMo g o a th hi ac tp ba en tA fl de iD iO tU fm2_35 fk fa2_1 fc ft ff fb fi]) := hD
          refine W.widen (k := 0) (n := 0) (Nat.le_of_ble_eq_true rfl) (Nat.le_of_ble_eq_true rfl) ?_
          refine W.eq (g2 := F0 m 34 ls []) rfl ?_
          obtain ⟨hq36_0, rfm2_35⟩ := hq36
          refine ziinc3 (n' := 1) (a' := 1) (b' := 8) (lv' := fun v9 => [(4, .int v9), (0, .ref o), (1, .int n), (2, .int st0), (3, .int by9)]) hx hb dX12_believedBy_34 hl (k := 4) rfl (by decide) (fun _ => rfl) (zaddK (i := x_3.toInt) (j := 1) rfl (by decide) i5.1 n28 (Int.le_refl _) (Int.le_refl _) (by decide)) (fun x_37 ls hx_37 hl => ?_)
          refine lv_goto (tgt := 7) hx hb dX12_believedBy_37 (by decide) ?_
          have hl := lv_sub (l' := [(0, .ref o), (1, .int n), (2, .int st0), (3, .int by9), (4, .int x_37)]) hl [1, 2, 3, 4, 0] rfl
          have hP : va_P g.1 vwCl (List.flatten [bMo g o a th hi ac tp ba en tA fl de iD iO tU fm2_35 fk fa2_1 fc ft ff fb fi]) H := hP
          have hD : va_D A (List.flatten [bMo g o a th hi ac tp ba en tA fl de iD iO tU fm2_35 fk fa2_1 fc ft ff fb fi]) := hD
          exact ih7_8 x_37 fm2_35 ⟨(Int.le_trans (by decide) hx_37.2.1), hx_37.2.2⟩ rfm2_35 (by first | omega | assumption | decide) H _ ls (zmK hx_37.1 (by decide) n28 (by decide) hk7_8)  hP hD hS (lv_sub hl [0, 1, 2, 3, 4] rfl)
  have hL0 : (0 : Int32).toInt = 0 := by decide
  have hP : va_P g.1 vwCl (List.flatten [bMo g o a th hi ac tp ba en tA fl de iD iO tU fm fk fa2_1 fc ft ff fb fi]) H := hP
  have hD : va_D A (List.flatten [bMo g o a th hi ac tp ba en tA fl de iD iO tU fm fk fa2_1 fc ft ff fb fi]) := hD
  exact LP7_7 _ 0 fm (by decide) rfm (by first | omega | assumption | decide) H _ ls (Nat.lt_succ_self _)  hP hD hS (lv_sub hl [0, 1, 2, 3, 4] rfl)
