set_option maxRecDepth 100000 in
set_option maxHeartbeats 4000000 in
theorem m_goes (l : Launch) (g : zG) (o : Nat) (a : Nat → Nat) (th : Int32) (hi : Int32) (ac : Int32) (tp : Int32) (ba : Int32) (en : Int32) (tA : Int32) (fl : Int32) (de : Int32) (iD : Int32) (iO : Int32) (tU : Int32) (fm : Nat → Int32) (fk : Nat → Int32) (fa : Nat → Int32) (fc : Nat → Int32) (ft : Nat → Int32) (ff : Nat → Int32) (fb : Nat → Int32) (fi : Nat → Int32) (n : Int32) (dr : Int32) (rfm : rM fm) (hiD : 0 ≤ iD.toInt ∧ iD.toInt ≤ 1) (hiO : 0 ≤ iO.toInt ∧ iO.toInt ≤ 1) (b_n : 0 ≤ n.toInt ∧ n.toInt ≤ 100) : zM' g l yX12_goes (Cond.code yX12_goes cX12_goes 6 (some .int) :: zB) ({ frames := 32, cells := 0, slots := 0, locals := 711 } : Room) [.ref o, .int n, .int dr] [bMo g o a th hi ac tp ba en tA fl de iD iO tU fm fk fa fc ft ff fb fi] (fun u : Int32 × Int32 × Int32 × Int32 × Int32 × Int32 × Int32 × (Nat → Int32) × (Nat → Int32) × (Nat → Int32) × Int32 => (fun (ba2 : Int32) (en2 : Int32) (at2 : Int32) (de2 : Int32) (iD2 : Int32) (iO2 : Int32) (tU2 : Int32) (ff2 : Nat → Int32) (fm2 : Nat → Int32) (fb2 : Nat → Int32) (q : Int32) => some (.int q)) (u.1) (u.2.1) (u.2.2.1) (u.2.2.2.1) (u.2.2.2.2.1) (u.2.2.2.2.2.1) (u.2.2.2.2.2.2.1) (u.2.2.2.2.2.2.2.1) (u.2.2.2.2.2.2.2.2.1) (u.2.2.2.2.2.2.2.2.2.1) (u.2.2.2.2.2.2.2.2.2.2)) (fun u : Int32 × Int32 × Int32 × Int32 × Int32 × Int32 × Int32 × (Nat → Int32) × (Nat → Int32) × (Nat → Int32) × Int32 => (fun (ba2 : Int32) (en2 : Int32) (at2 : Int32) (de2 : Int32) (iD2 : Int32) (iO2 : Int32) (tU2 : Int32) (ff2 : Nat → Int32) (fm2 : Nat → Int32) (fb2 : Nat → Int32) (q : Int32) => (rM fm2) ∧ (0 ≤ iO2.toInt ∧ iO2.toInt ≤ 1) ∧ (0 ≤ iD2.toInt ∧ iD2.toInt ≤ 1)) (u.1) (u.2.1) (u.2.2.1) (u.2.2.2.1) (u.2.2.2.2.1) (u.2.2.2.2.2.1) (u.2.2.2.2.2.2.1) (u.2.2.2.2.2.2.2.1) (u.2.2.2.2.2.2.2.2.1) (u.2.2.2.2.2.2.2.2.2.1) (u.2.2.2.2.2.2.2.2.2.2)) (fun u : Int32 × Int32 × Int32 × Int32 × Int32 × Int32 × Int32 × (Nat → Int32) × (Nat → Int32) × (Nat → Int32) × Int32 => (fun (ba2 : Int32) (en2 : Int32) (at2 : Int32) (de2 : Int32) (iD2 : Int32) (iO2 : Int32) (tU2 : Int32) (ff2 : Nat → Int32) (fm2 : Nat → Int32) (fb2 : Nat → Int32) (q : Int32) => [bMo g o a th hi ac tp ba2 en2 at2 fl de2 iD2 iO2 tU2 fm2 fk fa fc ft ff2 fb2 fi]) (u.1) (u.2.1) (u.2.2.1) (u.2.2.2.1) (u.2.2.2.2.1) (u.2.2.2.2.2.1) (u.2.2.2.2.2.2.1) (u.2.2.2.2.2.2.2.1) (u.2.2.2.2.2.2.2.2.1) (u.2.2.2.2.2.2.2.2.2.1) (u.2.2.2.2.2.2.2.2.2.2)) := by
  refine zM'.of (cc := cX12_goes) (maxL := 6) (rt := (some .int)) (by decide) rfl (Nat.le_of_ble_eq_true rfl) ?_
  intro p e s m args below meth c A ls St hr hlocks hin hK hT hA hP hD hS hl
  obtain ⟨hx, hb, hml, hown, hts⟩ := id St
  have hl : lv_has ls 6 [(0, .ref o), (1, .int n), (2, .int dr)] := hl
  refine lv_iconst (v := 0) hx hb dX12_goes_0 (by decide) ?_
  refine lv_istore_n (lv' := [(3, .int 0), (0, .ref o), (1, .int n), (2, .int dr)]) hx hb dX12_goes_1 rfl hl (by decide) rfl (fun ls hl => ?_)
  refine lv_iconst (v := 0) hx hb dX12_goes_2 (by decide) ?_
  refine lv_istore (lv' := [(4, .int 0), (3, .int 0), (0, .ref o), (1, .int n), (2, .int dr)]) hx hb dX12_goes_3 hl (by decide) rfl (fun ls hl => ?_)
  have hl := lv_sub (l' := [(0, .ref o), (1, .int n), (2, .int dr), (3, .int 0), (4, .int 0)]) hl [2, 3, 4, 1, 0] rfl
  have LP5_16 : ∀ (kf : Nat) (x_1 : Int32) (x_2 : Int32) (x_3 : Int32) (x_4 : Int32) (x_5 : Int32) (x_6 : Int32) (x_7 : Int32) (x_8 : Int32) (x_9 : Int32) (fm_10 : Nat → Int32) (ff_11 : Nat → Int32) (fb_12 : Nat → Int32), (0 ≤ x_2.toInt ∧ x_2.toInt ≤ 100) → (0 ≤ x_7.toInt ∧ x_7.toInt ≤ 1) → (0 ≤ x_8.toInt ∧ x_8.toInt ≤ 1) → (rM fm_10) → ∀ (H : Heap) (locs : List Loc) (ls : Array Slot), ((101 - x_2.toInt).toNat) < kf → va_P g.1 vwCl (List.flatten [bMo g o a th hi ac tp x_3 x_4 x_5 fl x_6 x_7 x_8 x_9 fm_10 fk fa fc ft ff_11 fb_12 fi]) H → va_D A (List.flatten [bMo g o a th hi ac tp x_3 x_4 x_5 fl x_6 x_7 x_8 x_9 fm_10 fk fa fc ft ff_11 fb_12 fi]) → va_S A s.heap H locs → lv_has ls 6 [(0, .ref o), (1, .int n), (2, .int dr), (3, .int x_1), (4, .int x_2)] → W p l e ({ frames := 32, cells := 0, slots := 0, locals := 711 } : Room) s m args below meth c H locs (0) (0) (zF g (fun u : Int32 × Int32 × Int32 × Int32 × Int32 × Int32 × Int32 × (Nat → Int32) × (Nat → Int32) × (Nat → Int32) × Int32 => (fun (ba2 : Int32) (en2 : Int32) (at2 : Int32) (de2 : Int32) (iD2 : Int32) (iO2 : Int32) (tU2 : Int32) (ff2 : Nat → Int32) (fm2 : Nat → Int32) (fb2 : Nat → Int32) (q : Int32) => some (.int q)) (u.1) (u.2.1) (u.2.2.1) (u.2.2.2.1) (u.2.2.2.2.1) (u.2.2.2.2.2.1) (u.2.2.2.2.2.2.1) (u.2.2.2.2.2.2.2.1) (u.2.2.2.2.2.2.2.2.1) (u.2.2.2.2.2.2.2.2.2.1) (u.2.2.2.2.2.2.2.2.2.2)) (fun u : Int32 × Int32 × Int32 × Int32 × Int32 × Int32 × Int32 × (Nat → Int32) × (Nat → Int32) × (Nat → Int32) × Int32 => (fun (ba2 : Int32) (en2 : Int32) (at2 : Int32) (de2 : Int32) (iD2 : Int32) (iO2 : Int32) (tU2 : Int32) (ff2 : Nat → Int32) (fm2 : Nat → Int32) (fb2 : Nat → Int32) (q : Int32) => (rM fm2) ∧ (0 ≤ iO2.toInt ∧ iO2.toInt ≤ 1) ∧ (0 ≤ iD2.toInt ∧ iD2.toInt ≤ 1)) (u.1) (u.2.1) (u.2.2.1) (u.2.2.2.1) (u.2.2.2.2.1) (u.2.2.2.2.2.1) (u.2.2.2.2.2.2.1) (u.2.2.2.2.2.2.2.1) (u.2.2.2.2.2.2.2.2.1) (u.2.2.2.2.2.2.2.2.2.1) (u.2.2.2.2.2.2.2.2.2.2)) (fun u : Int32 × Int32 × Int32 × Int32 × Int32 × Int32 × Int32 × (Nat → Int32) × (Nat → Int32) × (Nat → Int32) × Int32 => (fun (ba2 : Int32) (en2 : Int32) (at2 : Int32) (de2 : Int32) (iD2 : Int32) (iO2 : Int32) (tU2 : Int32) (ff2 : Nat → Int32) (fm2 : Nat → Int32) (fb2 : Nat → Int32) (q : Int32) => [bMo g o a th hi ac tp ba2 en2 at2 fl de2 iD2 iO2 tU2 fm2 fk fa fc ft ff2 fb2 fi]) (u.1) (u.2.1) (u.2.2.1) (u.2.2.2.1) (u.2.2.2.2.1) (u.2.2.2.2.2.1) (u.2.2.2.2.2.2.1) (u.2.2.2.2.2.2.2.1) (u.2.2.2.2.2.2.2.2.1) (u.2.2.2.2.2.2.2.2.2.1) (u.2.2.2.2.2.2.2.2.2.2)) ({ frames := 32, cells := 0, slots := 0, locals := 711 } : Room) below args s A) (F0 m 5 ls []) := by
    intro kf
    induction kf with
    | zero => intro x_1 x_2 x_3 x_4 x_5 x_6 x_7 x_8 x_9 fm_10 ff_11 fb_12 i13 i14 i15 rfm_10 H locs ls hk; exact absurd hk (Nat.not_lt_zero _)
    | succ kf ih5_17 =>
      intro x_1 x_2 x_3 x_4 x_5 x_6 x_7 x_8 x_9 fm_10 ff_11 fb_12 i13 i14 i15 rfm_10 H locs ls hk5_17 hP hD hS hl
      refine lv_iload hx hb dX12_goes_5 (lv_at hl 4 rfl) ?_
      refine lv_iload_n hx hb dX12_goes_7 rfl (lv_at hl 1 rfl) ?_
      refine lv_icmp_ge (tgt := 194) hx hb dX12_goes_8 (by decide) (fun cb9 => ?_) (fun cb9 => ?_)
      · skip
        have c18 : n.toInt ≤ x_2.toInt := zle cb9 rfl rfl
        refine lv_iload_n hx hb dX12_goes_194 rfl (lv_at hl 3 rfl) ?_
        have hP : va_P g.1 vwCl (List.flatten [bMo g o a th hi ac tp x_3 x_4 x_5 fl x_6 x_7 x_8 x_9 fm_10 fk fa fc ft ff_11 fb_12 fi]) H := hP
        have hD : va_D A (List.flatten [bMo g o a th hi ac tp x_3 x_4 x_5 fl x_6 x_7 x_8 x_9 fm_10 fk fa fc ft ff_11 fb_12 fi]) := hD
        exact mret_i hx hb hr hlocks hS (Nat.le_of_ble_eq_true rfl) (Nat.le_of_ble_eq_true rfl) dX12_goes_195 (x_3, x_4, x_5, x_6, x_7, x_8, x_9, ff_11, fm_10, fb_12, x_1) rfl (show (rM fm_10) ∧ (0 ≤ x_8.toInt ∧ x_8.toInt ≤ 1) ∧ (0 ≤ x_7.toInt ∧ x_7.toInt ≤ 1) from ⟨(by first | assumption | omega | decide | exact rfl | exact zb01 (by omega) | exact Or.inl (by decide) | exact Or.inr (by first | omega | decide)), (by first | assumption | omega | decide | exact rfl | exact zb01 (by omega) | exact Or.inl (by decide) | exact Or.inr (by first | omega | decide)), (by first | assumption | omega | decide | exact rfl | exact zb01 (by omega) | exact Or.inl (by decide) | exact Or.inr (by first | omega | decide))⟩) hP hD
      · skip
        have c19 : x_2.toInt < n.toInt := zlti (Int32.not_le.mp cb9) rfl rfl
        have n20 : x_2.toInt ≤ 99 := zL1 (b := 100) c19 b_n.2 (by decide)
        have n21 : 1 ≤ n.toInt := zL2 (a := 0) c19 i13.1 (by decide)
        refine lv_iconst (v := 0) hx hb dX12_goes_11 (by decide) ?_
        refine lv_istore (lv' := [(5, .int 0), (0, .ref o), (1, .int n), (2, .int dr), (3, .int x_1), (4, .int x_2)]) hx hb dX12_goes_12 hl (by decide) rfl (fun ls hl => ?_)
        have hl := lv_sub (l' := [(0, .ref o), (1, .int n), (2, .int dr), (3, .int x_1), (4, .int x_2), (5, .int 0)]) hl [1, 2, 3, 4, 5, 0] rfl
        have LP14_35 : ∀ (kf : Nat) (x_22 : Int32) (x_23 : Int32) (x_24 : Int32) (x_25 : Int32) (x_26 : Int32) (x_27 : Int32) (x_28 : Int32) (x_29 : Int32) (ff_30 : Nat → Int32) (fb_31 : Nat → Int32), (0 ≤ x_22.toInt ∧ x_22.toInt ≤ 8) → (0 ≤ x_27.toInt ∧ x_27.toInt ≤ 1) → (0 ≤ x_28.toInt ∧ x_28.toInt ≤ 1) → ∀ (H : Heap) (locs : List Loc) (ls : Array Slot), ((9 - x_22.toInt).toNat) < kf → va_P g.1 vwCl (List.flatten [bMo g o a th hi ac tp x_23 x_24 x_25 fl x_26 x_27 x_28 x_29 fm_10 fk fa fc ft ff_30 fb_31 fi]) H → va_D A (List.flatten [bMo g o a th hi ac tp x_23 x_24 x_25 fl x_26 x_27 x_28 x_29 fm_10 fk fa fc ft ff_30 fb_31 fi]) → va_S A s.heap H locs → lv_has ls 6 [(0, .ref o), (1, .int n), (2, .int dr), (3, .int x_1), (4, .int x_2), (5, .int x_22)] → W p l e ({ frames := 32, cells := 0, slots := 0, locals := 711 } : Room) s m args below meth c H locs (0) (0) (zF g (fun u : Int32 × Int32 × Int32 × Int32 × Int32 × Int32 × Int32 × (Nat → Int32) × (Nat → Int32) × (Nat → Int32) × Int32 => (fun (ba2 : Int32) (en2 : Int32) (at2 : Int32) (de2 : Int32) (iD2 : Int32) (iO2 : Int32) (tU2 : Int32) (ff2 : Nat → Int32) (fm2 : Nat → Int32) (fb2 : Nat → Int32) (q : Int32) => some (.int q)) (u.1) (u.2.1) (u.2.2.1) (u.2.2.2.1) (u.2.2.2.2.1) (u.2.2.2.2.2.1) (u.2.2.2.2.2.2.1) (u.2.2.2.2.2.2.2.1) (u.2.2.2.2.2.2.2.2.1) (u.2.2.2.2.2.2.2.2.2.1) (u.2.2.2.2.2.2.2.2.2.2)) (fun u : Int32 × Int32 × Int32 × Int32 × Int32 × Int32 × Int32 × (Nat → Int32) × (Nat → Int32) × (Nat → Int32) × Int32 => (fun (ba2 : Int32) (en2 : Int32) (at2 : Int32) (de2 : Int32) (iD2 : Int32) (iO2 : Int32) (tU2 : Int32) (ff2 : Nat → Int32) (fm2 : Nat → Int32) (fb2 : Nat → Int32) (q : Int32) => (rM fm2) ∧ (0 ≤ iO2.toInt ∧ iO2.toInt ≤ 1) ∧ (0 ≤ iD2.toInt ∧ iD2.toInt ≤ 1)) (u.1) (u.2.1) (u.2.2.1) (u.2.2.2.1) (u.2.2.2.2.1) (u.2.2.2.2.2.1) (u.2.2.2.2.2.2.1) (u.2.2.2.2.2.2.2.1) (u.2.2.2.2.2.2.2.2.1) (u.2.2.2.2.2.2.2.2.2.1) (u.2.2.2.2.2.2.2.2.2.2)) (fun u : Int32 × Int32 × Int32 × Int32 × Int32 × Int32 × Int32 × (Nat → Int32) × (Nat → Int32) × (Nat → Int32) × Int32 => (fun (ba2 : Int32) (en2 : Int32) (at2 : Int32) (de2 : Int32) (iD2 : Int32) (iO2 : Int32) (tU2 : Int32) (ff2 : Nat → Int32) (fm2 : Nat → Int32) (fb2 : Nat → Int32) (q : Int32) => [bMo g o a th hi ac tp ba2 en2 at2 fl de2 iD2 iO2 tU2 fm2 fk fa fc ft ff2 fb2 fi]) (u.1) (u.2.1) (u.2.2.1) (u.2.2.2.1) (u.2.2.2.2.1) (u.2.2.2.2.2.1) (u.2.2.2.2.2.2.1) (u.2.2.2.2.2.2.2.1) (u.2.2.2.2.2.2.2.2.1) (u.2.2.2.2.2.2.2.2.2.1) (u.2.2.2.2.2.2.2.2.2.2)) ({ frames := 32, cells := 0, slots := 0, locals := 711 } : Room) below args s A) (F0 m 14 ls []) := by
          intro kf
          induction kf with
          | zero => intro x_22 x_23 x_24 x_25 x_26 x_27 x_28 x_29 ff_30 fb_31 i32 i33 i34 H locs ls hk; exact absurd hk (Nat.not_lt_zero _)
          | succ kf ih14_36 =>
            intro x_22 x_23 x_24 x_25 x_26 x_27 x_28 x_29 ff_30 fb_31 i32 i33 i34 H locs ls hk14_36 hP hD hS hl
            refine lv_iload hx hb dX12_goes_14 (lv_at hl 5 rfl) ?_
            refine lv_aload_n hx hb dX12_goes_16 rfl (lv_at hl 0 rfl) ?_
            refine va_get (D := g.1) (ci := 10) (v := .ref (a 0)) (C := RX12) (T := TX12) (N := 20) hx hb hts izRX12 hown hK hP 0 rfl rfl 1 (by decide) (hts _ k815) (fun _ h9 => h9) rfl dX12_goes_17 ?_
            refine lv_iconst (v := 3) hx hb dX12_goes_20 (by decide) ?_
            refine va_iald hx hb hK hP 1 0 rfl rfl (zin rfl) dX12_goes_21 ?_
            refine zgq (r := fm_10 3) rfl (rM3 rfm_10) (fun x_37 hx_37 => ?_)
            refine lv_icmp_ge (tgt := 64) hx hb dX12_goes_22 (by decide) (fun cb9 => ?_) (fun cb9 => ?_)
            · skip
              have c38 : x_37.toInt ≤ x_22.toInt := zle cb9 rfl rfl
              refine lv_iconst (v := 0) hx hb dX12_goes_64 (by decide) ?_
              refine lv_istore (lv' := [(5, .int 0), (0, .ref o), (1, .int n), (2, .int dr), (3, .int x_1), (4, .int x_2)]) hx hb dX12_goes_65 hl (by decide) rfl (fun ls hl => ?_)
              have hl := lv_sub (l' := [(0, .ref o), (1, .int n), (2, .int dr), (3, .int x_1), (4, .int x_2), (5, .int 0)]) hl [1, 2, 3, 4, 5, 0] rfl
              have LP67_42 : ∀ (kf : Nat) (x_39 : Int32) (fm_40 : Nat → Int32), (0 ≤ x_39.toInt ∧ x_39.toInt ≤ 8) → (rM fm_40) → ∀ (H : Heap) (locs : List Loc) (ls : Array Slot), ((9 - x_39.toInt).toNat) < kf → va_P g.1 vwCl (List.flatten [bMo g o a th hi ac tp x_23 x_24 x_25 fl x_26 x_27 x_28 x_29 fm_40 fk fa fc ft ff_30 fb_31 fi]) H → va_D A (List.flatten [bMo g o a th hi ac tp x_23 x_24 x_25 fl x_26 x_27 x_28 x_29 fm_40 fk fa fc ft ff_30 fb_31 fi]) → va_S A s.heap H locs → lv_has ls 6 [(0, .ref o), (1, .int n), (2, .int dr), (3, .int x_1), (4, .int x_2), (5, .int x_39)] → W p l e ({ frames := 32, cells := 0, slots := 0, locals := 711 } : Room) s m args below meth c H locs (0) (0) (zF g (fun u : Int32 × Int32 × Int32 × Int32 × Int32 × Int32 × Int32 × (Nat → Int32) × (Nat → Int32) × (Nat → Int32) × Int32 => (fun (ba2 : Int32) (en2 : Int32) (at2 : Int32) (de2 : Int32) (iD2 : Int32) (iO2 : Int32) (tU2 : Int32) (ff2 : Nat → Int32) (fm2 : Nat → Int32) (fb2 : Nat → Int32) (q : Int32) => some (.int q)) (u.1) (u.2.1) (u.2.2.1) (u.2.2.2.1) (u.2.2.2.2.1) (u.2.2.2.2.2.1) (u.2.2.2.2.2.2.1) (u.2.2.2.2.2.2.2.1) (u.2.2.2.2.2.2.2.2.1) (u.2.2.2.2.2.2.2.2.2.1) (u.2.2.2.2.2.2.2.2.2.2)) (fun u : Int32 × Int32 × Int32 × Int32 × Int32 × Int32 × Int32 × (Nat → Int32) × (Nat → Int32) × (Nat → Int32) × Int32 => (fun (ba2 : Int32) (en2 : Int32) (at2 : Int32) (de2 : Int32) (iD2 : Int32) (iO2 : Int32) (tU2 : Int32) (ff2 : Nat → Int32) (fm2 : Nat → Int32) (fb2 : Nat → Int32) (q : Int32) => (rM fm2) ∧ (0 ≤ iO2.toInt ∧ iO2.toInt ≤ 1) ∧ (0 ≤ iD2.toInt ∧ iD2.toInt ≤ 1)) (u.1) (u.2.1) (u.2.2.1) (u.2.2.2.1) (u.2.2.2.2.1) (u.2.2.2.2.2.1) (u.2.2.2.2.2.2.1) (u.2.2.2.2.2.2.2.1) (u.2.2.2.2.2.2.2.2.1) (u.2.2.2.2.2.2.2.2.2.1) (u.2.2.2.2.2.2.2.2.2.2)) (fun u : Int32 × Int32 × Int32 × Int32 × Int32 × Int32 × Int32 × (Nat → Int32) × (Nat → Int32) × (Nat → Int32) × Int32 => (fun (ba2 : Int32) (en2 : Int32) (at2 : Int32) (de2 : Int32) (iD2 : Int32) (iO2 : Int32) (tU2 : Int32) (ff2 : Nat → Int32) (fm2 : Nat → Int32) (fb2 : Nat → Int32) (q : Int32) => [bMo g o a th hi ac tp ba2 en2 at2 fl de2 iD2 iO2 tU2 fm2 fk fa fc ft ff2 fb2 fi]) (u.1) (u.2.1) (u.2.2.1) (u.2.2.2.1) (u.2.2.2.2.1) (u.2.2.2.2.2.1) (u.2.2.2.2.2.2.1) (u.2.2.2.2.2.2.2.1) (u.2.2.2.2.2.2.2.2.1) (u.2.2.2.2.2.2.2.2.2.1) (u.2.2.2.2.2.2.2.2.2.2)) ({ frames := 32, cells := 0, slots := 0, locals := 711 } : Room) below args s A) (F0 m 67 ls []) := by
                intro kf
                induction kf with
                | zero => intro x_39 fm_40 i41 rfm_40 H locs ls hk; exact absurd hk (Nat.not_lt_zero _)
                | succ kf ih67_43 =>
                  intro x_39 fm_40 i41 rfm_40 H locs ls hk67_43 hP hD hS hl
                  refine lv_iload hx hb dX12_goes_67 (lv_at hl 5 rfl) ?_
                  refine lv_aload_n hx hb dX12_goes_69 rfl (lv_at hl 0 rfl) ?_
                  refine va_get (D := g.1) (ci := 10) (v := .ref (a 0)) (C := RX12) (T := TX12) (N := 20) hx hb hts izRX12 hown hK hP 0 rfl rfl 1 (by decide) (hts _ k815) (fun _ h9 => h9) rfl dX12_goes_70 ?_
                  refine lv_iconst (v := 3) hx hb dX12_goes_73 (by decide) ?_
                  refine va_iald hx hb hK hP 1 0 rfl rfl (zin rfl) dX12_goes_74 ?_
                  refine zgq (r := fm_40 3) rfl (rM3 rfm_40) (fun x_44 hx_44 => ?_)
                  refine lv_icmp_ge (tgt := 106) hx hb dX12_goes_75 (by decide) (fun cb9 => ?_) (fun cb9 => ?_)
                  · skip
                    have c45 : x_44.toInt ≤ x_39.toInt := zle cb9 rfl rfl
                    refine lv_iload_n hx hb dX12_goes_106 rfl (lv_at hl 3 rfl) ?_
                    refine lv_aload_n hx hb dX12_goes_107 rfl (lv_at hl 0 rfl) ?_
                    refine mcallV' (g := g) (q0 := 0) (ci := 10) (As := []) (rest := [.int x_1]) St hK hT hA hP hD hS hl.1 [0] [] rfl rfl rfl (m_build l g o a th hi ac tp x_23 x_24 x_25 fl x_26 x_27 x_28 x_29 fm_40 fk fa fc ft ff_30 fb_31 fi (by first | assumption | omega | decide | exact Or.inl (by decide) | exact Or.inr (by decide))) (cwV 0 hts (zgL (zl4 k1021 k1022 k1023 k837) k1007) rfl rfl rfl (by decide +kernel) ⟨Nat.le_of_ble_eq_true rfl, Nat.le_of_ble_eq_true rfl⟩) rfl rfl rfl rfl (Nat.le_of_ble_eq_true rfl) dX12_goes_108 ⟨(Nat.le_of_ble_eq_true rfl), (Nat.le_of_ble_eq_true rfl)⟩ (fun u_ H locs hq48 hP hD hS => ?_)
                    obtain ⟨fm2_46, q_47⟩ := u_
                    replace hq48 : (rM fm2_46) := hq48
                    have hP : va_P g.1 vwCl (List.flatten [bMo g o a th hi ac tp x_23 x_24 x_25 fl x_26 x_27 x_28 x_29 fm2_46 fk fa fc ft ff_30 fb_31 fi]) H := hP
                    have hD : va_D A (List.flatten [bMo g o a th hi ac tp x_23 x_24 x_25 fl x_26 x_27 x_28 x_29 fm2_46 fk fa fc ft ff_30 fb_31 fi]) := hD
                    refine W.widen (k := 0) (n := 0) (Nat.le_of_ble_eq_true rfl) (Nat.le_of_ble_eq_true rfl) ?_
                    refine W.eq (g2 := F0 m 111 ls [.int q_47, .int x_1]) rfl ?_
                    have rfm2_46 := hq48; clear hq48
                    refine lv_iadd hx hb dX12_goes_111 ?_
                    refine zg (fun x_49 => ?_)
                    refine lv_istore_n (lv' := [(3, .int x_49), (0, .ref o), (1, .int n), (2, .int dr), (4, .int x_2), (5, .int x_39)]) hx hb dX12_goes_112 rfl hl (by decide) rfl (fun ls hl => ?_)
                    refine lv_iconst (v := 0) hx hb dX12_goes_113 (by decide) ?_
                    refine lv_istore (lv' := [(5, .int 0), (3, .int x_49), (0, .ref o), (1, .int n), (2, .int dr), (4, .int x_2)]) hx hb dX12_goes_114 hl (by decide) rfl (fun ls hl => ?_)
                    have hl := lv_sub (l' := [(0, .ref o), (1, .int n), (2, .int dr), (3, .int x_49), (4, .int x_2), (5, .int 0)]) hl [2, 3, 4, 1, 5, 0] rfl
                    have LP116_53 : ∀ (kf : Nat) (x_50 : Int32) (fm_51 : Nat → Int32), (0 ≤ x_50.toInt ∧ x_50.toInt ≤ 8) → (rM fm_51) → ∀ (H : Heap) (locs : List Loc) (ls : Array Slot), ((9 - x_50.toInt).toNat) < kf → va_P g.1 vwCl (List.flatten [bMo g o a th hi ac tp x_23 x_24 x_25 fl x_26 x_27 x_28 x_29 fm_51 fk fa fc ft ff_30 fb_31 fi]) H → va_D A (List.flatten [bMo g o a th hi ac tp x_23 x_24 x_25 fl x_26 x_27 x_28 x_29 fm_51 fk fa fc ft ff_30 fb_31 fi]) → va_S A s.heap H locs → lv_has ls 6 [(0, .ref o), (1, .int n), (2, .int dr), (3, .int x_49), (4, .int x_2), (5, .int x_50)] → W p l e ({ frames := 32, cells := 0, slots := 0, locals := 711 } : Room) s m args below meth c H locs (0) (0) (zF g (fun u : Int32 × Int32 × Int32 × Int32 × Int32 × Int32 × Int32 × (Nat → Int32) × (Nat → Int32) × (Nat → Int32) × Int32 => (fun (ba2 : Int32) (en2 : Int32) (at2 : Int32) (de2 : Int32) (iD2 : Int32) (iO2 : Int32) (tU2 : Int32) (ff2 : Nat → Int32) (fm2 : Nat → Int32) (fb2 : Nat → Int32) (q : Int32) => some (.int q)) (u.1) (u.2.1) (u.2.2.1) (u.2.2.2.1) (u.2.2.2.2.1) (u.2.2.2.2.2.1) (u.2.2.2.2.2.2.1) (u.2.2.2.2.2.2.2.1) (u.2.2.2.2.2.2.2.2.1) (u.2.2.2.2.2.2.2.2.2.1) (u.2.2.2.2.2.2.2.2.2.2)) (fun u : Int32 × Int32 × Int32 × Int32 × Int32 × Int32 × Int32 × (Nat → Int32) × (Nat → Int32) × (Nat → Int32) × Int32 => (fun (ba2 : Int32) (en2 : Int32) (at2 : Int32) (de2 : Int32) (iD2 : Int32) (iO2 : Int32) (tU2 : Int32) (ff2 : Nat → Int32) (fm2 : Nat → Int32) (fb2 : Nat → Int32) (q : Int32) => (rM fm2) ∧ (0 ≤ iO2.toInt ∧ iO2.toInt ≤ 1) ∧ (0 ≤ iD2.toInt ∧ iD2.toInt ≤ 1)) (u.1) (u.2.1) (u.2.2.1) (u.2.2.2.1) (u.2.2.2.2.1) (u.2.2.2.2.2.1) (u.2.2.2.2.2.2.1) (u.2.2.2.2.2.2.2.1) (u.2.2.2.2.2.2.2.2.1) (u.2.2.2.2.2.2.2.2.2.1) (u.2.2.2.2.2.2.2.2.2.2)) (fun u : Int32 × Int32 × Int32 × Int32 × Int32 × Int32 × Int32 × (Nat → Int32) × (Nat → Int32) × (Nat → Int32) × Int32 => (fun (ba2 : Int32) (en2 : Int32) (at2 : Int32) (de2 : Int32) (iD2 : Int32) (iO2 : Int32) (tU2 : Int32) (ff2 : Nat → Int32) (fm2 : Nat → Int32) (fb2 : Nat → Int32) (q : Int32) => [bMo g o a th hi ac tp ba2 en2 at2 fl de2 iD2 iO2 tU2 fm2 fk fa fc ft ff2 fb2 fi]) (u.1) (u.2.1) (u.2.2.1) (u.2.2.2.1) (u.2.2.2.2.1) (u.2.2.2.2.2.1) (u.2.2.2.2.2.2.1) (u.2.2.2.2.2.2.2.1) (u.2.2.2.2.2.2.2.2.1) (u.2.2.2.2.2.2.2.2.2.1) (u.2.2.2.2.2.2.2.2.2.2)) ({ frames := 32, cells := 0, slots := 0, locals := 711 } : Room) below args s A) (F0 m 116 ls []) := by
                      intro kf
                      induction kf with
                      | zero => intro x_50 fm_51 i52 rfm_51 H locs ls hk; exact absurd hk (Nat.not_lt_zero _)
                      | succ kf ih116_54 =>
                        intro x_50 fm_51 i52 rfm_51 H locs ls hk116_54 hP hD hS hl
                        refine lv_iload hx hb dX12_goes_116 (lv_at hl 5 rfl) ?_
                        refine lv_aload_n hx hb dX12_goes_118 rfl (lv_at hl 0 rfl) ?_
                        refine va_get (D := g.1) (ci := 10) (v := .ref (a 0)) (C := RX12) (T := TX12) (N := 20) hx hb hts izRX12 hown hK hP 0 rfl rfl 1 (by decide) (hts _ k815) (fun _ h9 => h9) rfl dX12_goes_119 ?_
                        refine lv_iconst (v := 3) hx hb dX12_goes_122 (by decide) ?_
                        refine va_iald hx hb hK hP 1 0 rfl rfl (zin rfl) dX12_goes_123 ?_
                        refine zgq (r := fm_51 3) rfl (rM3 rfm_51) (fun x_55 hx_55 => ?_)
                        refine lv_icmp_ge (tgt := 166) hx hb dX12_goes_124 (by decide) (fun cb9 => ?_) (fun cb9 => ?_)
                        · skip
                          have c56 : x_55.toInt ≤ x_50.toInt := zle cb9 rfl rfl
                          refine lv_aload_n hx hb dX12_goes_166 rfl (lv_at hl 0 rfl) ?_
                          refine va_get (D := g.1) (ci := 10) (v := .ref (a 0)) (C := RX12) (T := TX12) (N := 20) hx hb hts izRX12 hown hK hP 0 rfl rfl 1 (by decide) (hts _ k815) (fun _ h9 => h9) rfl dX12_goes_167 ?_
                          refine lv_bipush (v := 8) hx hb dX12_goes_170 (by decide) ?_
                          refine lv_sipush (v := 9999) hx hb dX12_goes_172 (by decide) ?_
                          refine lv_aload_n hx hb dX12_goes_175 rfl (lv_at hl 0 rfl) ?_
                          refine va_get (D := g.1) (ci := 10) (v := .ref (a 0)) (C := RX12) (T := TX12) (N := 20) hx hb hts izRX12 hown hK hP 0 rfl rfl 1 (by decide) (hts _ k815) (fun _ h9 => h9) rfl dX12_goes_176 ?_
                          refine lv_bipush (v := 8) hx hb dX12_goes_179 (by decide) ?_
                          refine va_iald hx hb hK hP 1 0 rfl rfl (zin rfl) dX12_goes_181 ?_
                          refine zg (fun x_57 => ?_)
                          refine lv_iconst (v := 1) hx hb dX12_goes_182 (by decide) ?_
                          refine lv_iadd hx hb dX12_goes_183 ?_
                          refine zg (fun x_58 => ?_)
                          have hL9999 : (9999 : Int32).toInt = 9999 := by decide
                          refine mcallS' (g := g) (As := [.int 9999, .int x_58]) (rest := [.int 8, .ref (a 0)]) St hK hT hA hP hD hS hl.1 [] [0] rfl rfl rfl (m_lesser l g 9999 x_58 ) (va_cwS 2 hts (zgL (zl3 k999 k1000 k837) k825) rfl rfl rfl (by decide +kernel) ⟨Nat.le_of_ble_eq_true rfl, Nat.le_of_ble_eq_true rfl⟩) rfl rfl (Nat.le_of_ble_eq_true rfl) dX12_goes_184 ⟨(Nat.le_of_ble_eq_true rfl), (Nat.le_of_ble_eq_true rfl)⟩ (fun q_59 H locs hq60 hP hD hS => ?_)
                          replace hq60 : (q_59.toInt ≤ (9999 : Int32).toInt ∧ q_59.toInt ≤ x_58.toInt ∧ (q_59.toInt = (9999 : Int32).toInt ∨ q_59.toInt = x_58.toInt)) := hq60
                          have hP : va_P g.1 vwCl (List.flatten [bMo g o a th hi ac tp x_23 x_24 x_25 fl x_26 x_27 x_28 x_29 fm_51 fk fa fc ft ff_30 fb_31 fi]) H := hP
                          have hD : va_D A (List.flatten [bMo g o a th hi ac tp x_23 x_24 x_25 fl x_26 x_27 x_28 x_29 fm_51 fk fa fc ft ff_30 fb_31 fi]) := hD
                          refine W.widen (k := 0) (n := 0) (Nat.le_of_ble_eq_true rfl) (Nat.le_of_ble_eq_true rfl) ?_
                          refine W.eq (g2 := F0 m 187 ls [.int q_59, .int 8, .ref (a 0)]) rfl ?_
                          refine va_iast hx hb hK hP hD hS 1 0 rfl rfl (zin rfl) dX12_goes_187 (fun H locs hP hD hS => ?_)
                          obtain ⟨fm_61, rfm_61, hP, hD⟩ : ∃ fm_61 : Nat → Int32, rM fm_61 ∧ va_P g.1 vwCl (List.flatten [bMo g o a th hi ac tp x_23 x_24 x_25 fl x_26 x_27 x_28 x_29 fm_61 fk fa fc ft ff_30 fb_31 fi]) H ∧ va_D A (List.flatten [bMo g o a th hi ac tp x_23 x_24 x_25 fl x_26 x_27 x_28 x_29 fm_61 fk fa fc ft ff_30 fb_31 fi]) := ⟨upd fm_51 8 q_59, (rM_stL rfm_51 (by decide)), hP, hD⟩
                          refine ziinc3 (n' := 1) (a' := 1) (b' := 100) (lv' := fun v9 => [(4, .int v9), (0, .ref o), (1, .int n), (2, .int dr), (3, .int x_49), (5, .int x_50)]) hx hb dX12_goes_188 hl (k := 4) rfl (by decide) (fun _ => rfl) (zaddK (i := x_2.toInt) (j := 1) rfl (by decide) i13.1 n20 (Int.le_refl _) (Int.le_refl _) (by decide)) (fun x_62 ls hx_62 hl => ?_)
                          refine lv_goto (tgt := 5) hx hb dX12_goes_191 (by decide) ?_
                          have hl := lv_sub (l' := [(0, .ref o), (1, .int n), (2, .int dr), (3, .int x_49), (4, .int x_62), (5, .int x_50)]) hl [1, 2, 3, 4, 0, 5] rfl
                          have hP : va_P g.1 vwCl (List.flatten [bMo g o a th hi ac tp x_23 x_24 x_25 fl x_26 x_27 x_28 x_29 fm_61 fk fa fc ft ff_30 fb_31 fi]) H := hP
                          have hD : va_D A (List.flatten [bMo g o a th hi ac tp x_23 x_24 x_25 fl x_26 x_27 x_28 x_29 fm_61 fk fa fc ft ff_30 fb_31 fi]) := hD
                          exact ih5_17 x_49 x_62 x_23 x_24 x_25 x_26 x_27 x_28 x_29 fm_61 ff_30 fb_31 ⟨(Int.le_trans (by decide) hx_62.2.1), hx_62.2.2⟩ ⟨i33.1, i33.2⟩ ⟨i34.1, i34.2⟩ rfm_61 H _ ls (zmK hx_62.1 (by decide) n20 (by decide) hk5_17)  hP hD hS (lv_sub hl [0, 1, 2, 3, 4] rfl)
                        · skip
                          have c63 : x_50.toInt < x_55.toInt := zlti (Int32.not_le.mp cb9) rfl rfl
                          have n64 : x_50.toInt ≤ 7 := zL1 (b := 8) c63 hx_55.2.1 (by decide)
                          have n65 : 1 ≤ x_55.toInt := zL2 (a := 0) c63 i52.1 (by decide)
                          refine lv_aload_n hx hb dX12_goes_127 rfl (lv_at hl 0 rfl) ?_
                          refine lv_iload hx hb dX12_goes_128 (lv_at hl 5 rfl) ?_
                          refine mcallV' (g := g) (q0 := 0) (ci := 10) (As := [.int x_50]) (rest := []) St hK hT hA hP hD hS hl.1 [0] [] rfl rfl rfl (m_isHere l g o a th hi ac tp x_23 x_24 x_25 fl x_26 x_27 x_28 x_29 fm_51 fk fa fc ft ff_30 fb_31 fi x_50 (⟨i52.1, n64⟩)) (cwV 1 hts (zgL (zl4 k844 k845 k846 k837) k839) rfl rfl rfl (by decide +kernel) ⟨Nat.le_of_ble_eq_true rfl, Nat.le_of_ble_eq_true rfl⟩) rfl rfl rfl rfl (Nat.le_of_ble_eq_true rfl) dX12_goes_130 ⟨(Nat.le_of_ble_eq_true rfl), (Nat.le_of_ble_eq_true rfl)⟩ (fun q_66 H locs hq67 hP hD hS => ?_)
                          replace hq67 : (q_66 = 0 ∨ q_66 = 1) := hq67
                          have hP : va_P g.1 vwCl (List.flatten [bMo g o a th hi ac tp x_23 x_24 x_25 fl x_26 x_27 x_28 x_29 fm_51 fk fa fc ft ff_30 fb_31 fi]) H := hP
                          have hD : va_D A (List.flatten [bMo g o a th hi ac tp x_23 x_24 x_25 fl x_26 x_27 x_28 x_29 fm_51 fk fa fc ft ff_30 fb_31 fi]) := hD
                          refine W.widen (k := 0) (n := 0) (Nat.le_of_ble_eq_true rfl) (Nat.le_of_ble_eq_true rfl) ?_
                          refine W.eq (g2 := F0 m 133 ls [.int q_66]) rfl ?_
                          rcases hq67 with rfl | rfl
                          · skip
                            refine lv_if_ne (tgt := 160) hx hb dX12_goes_133 (by decide) (fun c68 => absurd (by decide) c68) (fun _ => ?_)
                            refine lv_aload_n hx hb dX12_goes_136 rfl (lv_at hl 0 rfl) ?_
                            refine lv_iload hx hb dX12_goes_137 (lv_at hl 5 rfl) ?_
                            refine lv_iconst (v := 4) hx hb dX12_goes_139 (by decide) ?_
                            have hL4 : (4 : Int32).toInt = 4 := by decide
                            refine mcallV' (g := g) (q0 := 0) (ci := 10) (As := [.int x_50, .int 4]) (rest := []) St hK hT hA hP hD hS hl.1 [0] [] rfl rfl rfl (m_of l g o a th hi ac tp x_23 x_24 x_25 fl x_26 x_27 x_28 x_29 fm_51 fk fa fc ft ff_30 fb_31 fi x_50 4 (⟨i52.1, n64⟩) (by decide)) (cwV 2 hts (zgL (zl4 k840 k841 k842 k837) k829) rfl rfl rfl (by decide +kernel) ⟨Nat.le_of_ble_eq_true rfl, Nat.le_of_ble_eq_true rfl⟩) rfl rfl rfl rfl (Nat.le_of_ble_eq_true rfl) dX12_goes_140 ⟨(Nat.le_of_ble_eq_true rfl), (Nat.le_of_ble_eq_true rfl)⟩ (fun q_69 H locs hq70 hP hD hS => ?_)
                            have hP : va_P g.1 vwCl (List.flatten [bMo g o a th hi ac tp x_23 x_24 x_25 fl x_26 x_27 x_28 x_29 fm_51 fk fa fc ft ff_30 fb_31 fi]) H := hP
                            have hD : va_D A (List.flatten [bMo g o a th hi ac tp x_23 x_24 x_25 fl x_26 x_27 x_28 x_29 fm_51 fk fa fc ft ff_30 fb_31 fi]) := hD
                            refine W.widen (k := 0) (n := 0) (Nat.le_of_ble_eq_true rfl) (Nat.le_of_ble_eq_true rfl) ?_
                            refine W.eq (g2 := F0 m 143 ls [.int q_69]) rfl ?_
                            refine lv_aload_n hx hb dX12_goes_143 rfl (lv_at hl 0 rfl) ?_
                            refine va_get (D := g.1) (ci := 10) (v := .ref (a 0)) (C := RX12) (T := TX12) (N := 20) hx hb hts izRX12 hown hK hP 0 rfl rfl 1 (by decide) (hts _ k815) (fun _ h9 => h9) rfl dX12_goes_144 ?_
                            refine lv_bipush (v := 8) hx hb dX12_goes_147 (by decide) ?_
                            refine va_iald hx hb hK hP 1 0 rfl rfl (zin rfl) dX12_goes_149 ?_
                            refine zg (fun x_71 => ?_)
                            refine lv_icmp_gt (tgt := 160) hx hb dX12_goes_150 (by decide) (fun cb9 => ?_) (fun cb9 => ?_)
                            · skip
                              have c72 : x_71.toInt < q_69.toInt := zlti cb9 rfl rfl
                              refine ziinc3 (n' := 1) (a' := 1) (b' := 8) (lv' := fun v9 => [(5, .int v9), (0, .ref o), (1, .int n), (2, .int dr), (3, .int x_49), (4, .int x_2)]) hx hb dX12_goes_160 hl (k := 5) rfl (by decide) (fun _ => rfl) (zaddK (i := x_50.toInt) (j := 1) rfl (by decide) i52.1 n64 (Int.le_refl _) (Int.le_refl _) (by decide)) (fun x_73 ls hx_73 hl => ?_)
                              refine lv_goto (tgt := 116) hx hb dX12_goes_163 (by decide) ?_
                              have hl := lv_sub (l' := [(0, .ref o), (1, .int n), (2, .int dr), (3, .int x_49), (4, .int x_2), (5, .int x_73)]) hl [1, 2, 3, 4, 5, 0] rfl
                              have hP : va_P g.1 vwCl (List.flatten [bMo g o a th hi ac tp x_23 x_24 x_25 fl x_26 x_27 x_28 x_29 fm_51 fk fa fc ft ff_30 fb_31 fi]) H := hP
                              have hD : va_D A (List.flatten [bMo g o a th hi ac tp x_23 x_24 x_25 fl x_26 x_27 x_28 x_29 fm_51 fk fa fc ft ff_30 fb_31 fi]) := hD
                              exact ih116_54 x_73 fm_51 ⟨(Int.le_trans (by decide) hx_73.2.1), hx_73.2.2⟩ rfm_51 H _ ls (zmK hx_73.1 (by decide) n64 (by decide) hk116_54)  hP hD hS (lv_sub hl [0, 1, 2, 3, 4, 5] rfl)
                            · skip
                              have c74 : q_69.toInt ≤ x_71.toInt := zle (Int32.not_lt.mp cb9) rfl rfl
                              refine lv_aload_n hx hb dX12_goes_153 rfl (lv_at hl 0 rfl) ?_
                              refine lv_iload hx hb dX12_goes_154 (lv_at hl 5 rfl) ?_
                              refine lv_iload_n hx hb dX12_goes_156 rfl (lv_at hl 2 rfl) ?_
                              refine mcallV' (g := g) (q0 := 0) (ci := 10) (As := [.int x_50, .int dr]) (rest := []) St hK hT hA hP hD hS hl.1 [0] [] rfl rfl rfl (m_returns l g o a th hi ac tp x_23 x_24 x_25 fl x_26 x_27 x_28 x_29 fm_51 fk fa fc ft ff_30 fb_31 fi x_50 dr (by first | assumption | omega | decide | exact Or.inl (by decide) | exact Or.inr (by decide)) (⟨i52.1, n64⟩)) (cwV 2 hts (zgL (zl4 k1024 k1025 k1026 k837) k1014) rfl rfl rfl (by decide +kernel) ⟨Nat.le_of_ble_eq_true rfl, Nat.le_of_ble_eq_true rfl⟩) rfl rfl rfl rfl (Nat.le_of_ble_eq_true rfl) dX12_goes_157 ⟨(Nat.le_of_ble_eq_true rfl), (Nat.le_of_ble_eq_true rfl)⟩ (fun fm2_75 H locs hq76 hP hD hS => ?_)
                              replace hq76 : (rM fm2_75) := hq76
                              have hP : va_P g.1 vwCl (List.flatten [bMo g o a th hi ac tp x_23 x_24 x_25 fl x_26 x_27 x_28 x_29 fm2_75 fk fa fc ft ff_30 fb_31 fi]) H := hP
                              have hD : va_D A (List.flatten [bMo g o a th hi ac tp x_23 x_24 x_25 fl x_26 x_27 x_28 x_29 fm2_75 fk fa fc ft ff_30 fb_31 fi]) := hD
                              refine W.widen (k := 0) (n := 0) (Nat.le_of_ble_eq_true rfl) (Nat.le_of_ble_eq_true rfl) ?_
                              refine W.eq (g2 := F0 m 160 ls []) rfl ?_
                              have rfm2_75 := hq76; clear hq76
                              refine ziinc3 (n' := 1) (a' := 1) (b' := 8) (lv' := fun v9 => [(5, .int v9), (0, .ref o), (1, .int n), (2, .int dr), (3, .int x_49), (4, .int x_2)]) hx hb dX12_goes_160 hl (k := 5) rfl (by decide) (fun _ => rfl) (zaddK (i := x_50.toInt) (j := 1) rfl (by decide) i52.1 n64 (Int.le_refl _) (Int.le_refl _) (by decide)) (fun x_77 ls hx_77 hl => ?_)
                              refine lv_goto (tgt := 116) hx hb dX12_goes_163 (by decide) ?_
                              have hl := lv_sub (l' := [(0, .ref o), (1, .int n), (2, .int dr), (3, .int x_49), (4, .int x_2), (5, .int x_77)]) hl [1, 2, 3, 4, 5, 0] rfl
                              have hP : va_P g.1 vwCl (List.flatten [bMo g o a th hi ac tp x_23 x_24 x_25 fl x_26 x_27 x_28 x_29 fm2_75 fk fa fc ft ff_30 fb_31 fi]) H := hP
                              have hD : va_D A (List.flatten [bMo g o a th hi ac tp x_23 x_24 x_25 fl x_26 x_27 x_28 x_29 fm2_75 fk fa fc ft ff_30 fb_31 fi]) := hD
                              exact ih116_54 x_77 fm2_75 ⟨(Int.le_trans (by decide) hx_77.2.1), hx_77.2.2⟩ rfm2_75 H _ ls (zmK hx_77.1 (by decide) n64 (by decide) hk116_54)  hP hD hS (lv_sub hl [0, 1, 2, 3, 4, 5] rfl)
                          · skip
                            refine lv_if_ne (tgt := 160) hx hb dX12_goes_133 (by decide) (fun _ => ?_) (fun c78 => absurd c78 (by decide))
                            refine ziinc3 (n' := 1) (a' := 1) (b' := 8) (lv' := fun v9 => [(5, .int v9), (0, .ref o), (1, .int n), (2, .int dr), (3, .int x_49), (4, .int x_2)]) hx hb dX12_goes_160 hl (k := 5) rfl (by decide) (fun _ => rfl) (zaddK (i := x_50.toInt) (j := 1) rfl (by decide) i52.1 n64 (Int.le_refl _) (Int.le_refl _) (by decide)) (fun x_79 ls hx_79 hl => ?_)
                            refine lv_goto (tgt := 116) hx hb dX12_goes_163 (by decide) ?_
                            have hl := lv_sub (l' := [(0, .ref o), (1, .int n), (2, .int dr), (3, .int x_49), (4, .int x_2), (5, .int x_79)]) hl [1, 2, 3, 4, 5, 0] rfl
                            have hP : va_P g.1 vwCl (List.flatten [bMo g o a th hi ac tp x_23 x_24 x_25 fl x_26 x_27 x_28 x_29 fm_51 fk fa fc ft ff_30 fb_31 fi]) H := hP
                            have hD : va_D A (List.flatten [bMo g o a th hi ac tp x_23 x_24 x_25 fl x_26 x_27 x_28 x_29 fm_51 fk fa fc ft ff_30 fb_31 fi]) := hD
                            exact ih116_54 x_79 fm_51 ⟨(Int.le_trans (by decide) hx_79.2.1), hx_79.2.2⟩ rfm_51 H _ ls (zmK hx_79.1 (by decide) n64 (by decide) hk116_54)  hP hD hS (lv_sub hl [0, 1, 2, 3, 4, 5] rfl)
                    have hP : va_P g.1 vwCl (List.flatten [bMo g o a th hi ac tp x_23 x_24 x_25 fl x_26 x_27 x_28 x_29 fm2_46 fk fa fc ft ff_30 fb_31 fi]) H := hP
                    have hD : va_D A (List.flatten [bMo g o a th hi ac tp x_23 x_24 x_25 fl x_26 x_27 x_28 x_29 fm2_46 fk fa fc ft ff_30 fb_31 fi]) := hD
                    exact LP116_53 _ 0 fm2_46 (by decide) rfm2_46 H _ ls (Nat.lt_succ_self _)  hP hD hS (lv_sub hl [0, 1, 2, 3, 4, 5] rfl)
                  · skip
                    have c80 : x_39.toInt < x_44.toInt := zlti (Int32.not_le.mp cb9) rfl rfl
                    have n81 : x_39.toInt ≤ 7 := zL1 (b := 8) c80 hx_44.2.1 (by decide)
                    have n82 : 1 ≤ x_44.toInt := zL2 (a := 0) c80 i41.1 (by decide)
                    refine lv_aload_n hx hb dX12_goes_78 rfl (lv_at hl 0 rfl) ?_
                    refine lv_iload hx hb dX12_goes_79 (lv_at hl 5 rfl) ?_
                    refine mcallV' (g := g) (q0 := 0) (ci := 10) (As := [.int x_39]) (rest := []) St hK hT hA hP hD hS hl.1 [0] [] rfl rfl rfl (m_isHere l g o a th hi ac tp x_23 x_24 x_25 fl x_26 x_27 x_28 x_29 fm_40 fk fa fc ft ff_30 fb_31 fi x_39 (⟨i41.1, n81⟩)) (cwV 1 hts (zgL (zl4 k844 k845 k846 k837) k839) rfl rfl rfl (by decide +kernel) ⟨Nat.le_of_ble_eq_true rfl, Nat.le_of_ble_eq_true rfl⟩) rfl rfl rfl rfl (Nat.le_of_ble_eq_true rfl) dX12_goes_81 ⟨(Nat.le_of_ble_eq_true rfl), (Nat.le_of_ble_eq_true rfl)⟩ (fun q_83 H locs hq84 hP hD hS => ?_)
                    replace hq84 : (q_83 = 0 ∨ q_83 = 1) := hq84
                    have hP : va_P g.1 vwCl (List.flatten [bMo g o a th hi ac tp x_23 x_24 x_25 fl x_26 x_27 x_28 x_29 fm_40 fk fa fc ft ff_30 fb_31 fi]) H := hP
                    have hD : va_D A (List.flatten [bMo g o a th hi ac tp x_23 x_24 x_25 fl x_26 x_27 x_28 x_29 fm_40 fk fa fc ft ff_30 fb_31 fi]) := hD
                    refine W.widen (k := 0) (n := 0) (Nat.le_of_ble_eq_true rfl) (Nat.le_of_ble_eq_true rfl) ?_
                    refine W.eq (g2 := F0 m 84 ls [.int q_83]) rfl ?_
                    rcases hq84 with rfl | rfl
                    · skip
                      refine lv_if_eq (tgt := 100) hx hb dX12_goes_84 (by decide) (fun _ => ?_) (fun c85 => absurd (by decide) c85)
                      refine ziinc3 (n' := 1) (a' := 1) (b' := 8) (lv' := fun v9 => [(5, .int v9), (0, .ref o), (1, .int n), (2, .int dr), (3, .int x_1), (4, .int x_2)]) hx hb dX12_goes_100 hl (k := 5) rfl (by decide) (fun _ => rfl) (zaddK (i := x_39.toInt) (j := 1) rfl (by decide) i41.1 n81 (Int.le_refl _) (Int.le_refl _) (by decide)) (fun x_86 ls hx_86 hl => ?_)
                      refine lv_goto (tgt := 67) hx hb dX12_goes_103 (by decide) ?_
                      have hl := lv_sub (l' := [(0, .ref o), (1, .int n), (2, .int dr), (3, .int x_1), (4, .int x_2), (5, .int x_86)]) hl [1, 2, 3, 4, 5, 0] rfl
                      have hP : va_P g.1 vwCl (List.flatten [bMo g o a th hi ac tp x_23 x_24 x_25 fl x_26 x_27 x_28 x_29 fm_40 fk fa fc ft ff_30 fb_31 fi]) H := hP
                      have hD : va_D A (List.flatten [bMo g o a th hi ac tp x_23 x_24 x_25 fl x_26 x_27 x_28 x_29 fm_40 fk fa fc ft ff_30 fb_31 fi]) := hD
                      exact ih67_43 x_86 fm_40 ⟨(Int.le_trans (by decide) hx_86.2.1), hx_86.2.2⟩ rfm_40 H _ ls (zmK hx_86.1 (by decide) n81 (by decide) hk67_43)  hP hD hS (lv_sub hl [0, 1, 2, 3, 4, 5] rfl)
                    · skip
                      refine lv_if_eq (tgt := 100) hx hb dX12_goes_84 (by decide) (fun c87 => absurd c87 (by decide)) (fun _ => ?_)
                      refine lv_aload_n hx hb dX12_goes_87 rfl (lv_at hl 0 rfl) ?_
                      refine lv_iload hx hb dX12_goes_88 (lv_at hl 5 rfl) ?_
                      refine lv_aload_n hx hb dX12_goes_90 rfl (lv_at hl 0 rfl) ?_
                      refine va_get (D := g.1) (ci := 10) (v := .ref (a 6)) (C := RX12) (T := TX12) (N := 20) hx hb hts izRX12 hown hK hP 0 rfl rfl 18 (by decide) (hts _ k822) (fun _ h9 => h9) rfl dX12_goes_91 ?_
                      refine lv_iload hx hb dX12_goes_94 (lv_at hl 5 rfl) ?_
                      refine va_iald hx hb hK hP 7 0 rfl rfl (zinK (a := 0) (b := 7) i41.1 n81 (by decide)) dX12_goes_96 ?_
                      refine zg (fun x_88 => ?_)
                      refine mcallV' (g := g) (q0 := 0) (ci := 10) (As := [.int x_39, .int x_88]) (rest := []) St hK hT hA hP hD hS hl.1 [0] [] rfl rfl rfl (m_believes l g o a th hi ac tp x_23 x_24 x_25 fl x_26 x_27 x_28 x_29 fm_40 fk fa fc ft ff_30 fb_31 fi x_39 x_88 (by first | assumption | omega | decide | exact Or.inl (by decide) | exact Or.inr (by decide)) (⟨i41.1, n81⟩)) (cwV 2 hts (zgL (zl4 k1011 k1012 k1013 k837) k1001) rfl rfl rfl (by decide +kernel) ⟨Nat.le_of_ble_eq_true rfl, Nat.le_of_ble_eq_true rfl⟩) rfl rfl rfl rfl (Nat.le_of_ble_eq_true rfl) dX12_goes_97 ⟨(Nat.le_of_ble_eq_true rfl), (Nat.le_of_ble_eq_true rfl)⟩ (fun fm2_89 H locs hq90 hP hD hS => ?_)
                      replace hq90 : (rM fm2_89) := hq90
                      have hP : va_P g.1 vwCl (List.flatten [bMo g o a th hi ac tp x_23 x_24 x_25 fl x_26 x_27 x_28 x_29 fm2_89 fk fa fc ft ff_30 fb_31 fi]) H := hP
                      have hD : va_D A (List.flatten [bMo g o a th hi ac tp x_23 x_24 x_25 fl x_26 x_27 x_28 x_29 fm2_89 fk fa fc ft ff_30 fb_31 fi]) := hD
                      refine W.widen (k := 0) (n := 0) (Nat.le_of_ble_eq_true rfl) (Nat.le_of_ble_eq_true rfl) ?_
                      refine W.eq (g2 := F0 m 100 ls []) rfl ?_
                      have rfm2_89 := hq90; clear hq90
                      refine ziinc3 (n' := 1) (a' := 1) (b' := 8) (lv' := fun v9 => [(5, .int v9), (0, .ref o), (1, .int n), (2, .int dr), (3, .int x_1), (4, .int x_2)]) hx hb dX12_goes_100 hl (k := 5) rfl (by decide) (fun _ => rfl) (zaddK (i := x_39.toInt) (j := 1) rfl (by decide) i41.1 n81 (Int.le_refl _) (Int.le_refl _) (by decide)) (fun x_91 ls hx_91 hl => ?_)
                      refine lv_goto (tgt := 67) hx hb dX12_goes_103 (by decide) ?_
                      have hl := lv_sub (l' := [(0, .ref o), (1, .int n), (2, .int dr), (3, .int x_1), (4, .int x_2), (5, .int x_91)]) hl [1, 2, 3, 4, 5, 0] rfl
                      have hP : va_P g.1 vwCl (List.flatten [bMo g o a th hi ac tp x_23 x_24 x_25 fl x_26 x_27 x_28 x_29 fm2_89 fk fa fc ft ff_30 fb_31 fi]) H := hP
                      have hD : va_D A (List.flatten [bMo g o a th hi ac tp x_23 x_24 x_25 fl x_26 x_27 x_28 x_29 fm2_89 fk fa fc ft ff_30 fb_31 fi]) := hD
                      exact ih67_43 x_91 fm2_89 ⟨(Int.le_trans (by decide) hx_91.2.1), hx_91.2.2⟩ rfm2_89 H _ ls (zmK hx_91.1 (by decide) n81 (by decide) hk67_43)  hP hD hS (lv_sub hl [0, 1, 2, 3, 4, 5] rfl)
              have hP : va_P g.1 vwCl (List.flatten [bMo g o a th hi ac tp x_23 x_24 x_25 fl x_26 x_27 x_28 x_29 fm_10 fk fa fc ft ff_30 fb_31 fi]) H := hP
              have hD : va_D A (List.flatten [bMo g o a th hi ac tp x_23 x_24 x_25 fl x_26 x_27 x_28 x_29 fm_10 fk fa fc ft ff_30 fb_31 fi]) := hD
              exact LP67_42 _ 0 fm_10 (by decide) rfm_10 H _ ls (Nat.lt_succ_self _)  hP hD hS (lv_sub hl [0, 1, 2, 3, 4, 5] rfl)
            · skip
              have c92 : x_22.toInt < x_37.toInt := zlti (Int32.not_le.mp cb9) rfl rfl
              have n93 : x_22.toInt ≤ 7 := zL1 (b := 8) c92 hx_37.2.1 (by decide)
              have n94 : 1 ≤ x_37.toInt := zL2 (a := 0) c92 i32.1 (by decide)
              refine lv_aload_n hx hb dX12_goes_25 rfl (lv_at hl 0 rfl) ?_
              refine va_get (D := g.1) (ci := 10) (v := .ref (a 6)) (C := RX12) (T := TX12) (N := 20) hx hb hts izRX12 hown hK hP 0 rfl rfl 18 (by decide) (hts _ k822) (fun _ h9 => h9) rfl dX12_goes_26 ?_
              refine lv_iload hx hb dX12_goes_29 (lv_at hl 5 rfl) ?_
              refine lv_aload_n hx hb dX12_goes_31 rfl (lv_at hl 0 rfl) ?_
              refine lv_iload hx hb dX12_goes_32 (lv_at hl 5 rfl) ?_
              refine mcallV' (g := g) (q0 := 0) (ci := 10) (As := [.int x_22]) (rest := [.int x_22, .ref (a 6)]) St hK hT hA hP hD hS hl.1 [0] [] rfl rfl rfl (m_isHere l g o a th hi ac tp x_23 x_24 x_25 fl x_26 x_27 x_28 x_29 fm_10 fk fa fc ft ff_30 fb_31 fi x_22 (⟨i32.1, n93⟩)) (cwV 1 hts (zgL (zl4 k844 k845 k846 k837) k839) rfl rfl rfl (by decide +kernel) ⟨Nat.le_of_ble_eq_true rfl, Nat.le_of_ble_eq_true rfl⟩) rfl rfl rfl rfl (Nat.le_of_ble_eq_true rfl) dX12_goes_34 ⟨(Nat.le_of_ble_eq_true rfl), (Nat.le_of_ble_eq_true rfl)⟩ (fun q_95 H locs hq96 hP hD hS => ?_)
              replace hq96 : (q_95 = 0 ∨ q_95 = 1) := hq96
              have hP : va_P g.1 vwCl (List.flatten [bMo g o a th hi ac tp x_23 x_24 x_25 fl x_26 x_27 x_28 x_29 fm_10 fk fa fc ft ff_30 fb_31 fi]) H := hP
              have hD : va_D A (List.flatten [bMo g o a th hi ac tp x_23 x_24 x_25 fl x_26 x_27 x_28 x_29 fm_10 fk fa fc ft ff_30 fb_31 fi]) := hD
              refine W.widen (k := 0) (n := 0) (Nat.le_of_ble_eq_true rfl) (Nat.le_of_ble_eq_true rfl) ?_
              refine W.eq (g2 := F0 m 37 ls [.int q_95, .int x_22, .ref (a 6)]) rfl ?_
              rcases hq96 with rfl | rfl
              · skip
                refine lv_if_eq (tgt := 56) hx hb dX12_goes_37 (by decide) (fun _ => ?_) (fun c97 => absurd (by decide) c97)
                refine lv_iconst (v := 0) hx hb dX12_goes_56 (by decide) ?_
                refine va_iast hx hb hK hP hD hS 7 0 rfl rfl (zinK (a := 0) (b := 7) i32.1 n93 (by decide)) dX12_goes_57 (fun H locs hP hD hS => ?_)
                obtain ⟨fb_98, hP, hD⟩ : ∃ fb_98 : Nat → Int32, va_P g.1 vwCl (List.flatten [bMo g o a th hi ac tp x_23 x_24 x_25 fl x_26 x_27 x_28 x_29 fm_10 fk fa fc ft ff_30 fb_98 fi]) H ∧ va_D A (List.flatten [bMo g o a th hi ac tp x_23 x_24 x_25 fl x_26 x_27 x_28 x_29 fm_10 fk fa fc ft ff_30 fb_98 fi]) := ⟨upd fb_31 x_22.toNatClampNeg 0, hP, hD⟩
                refine ziinc3 (n' := 1) (a' := 1) (b' := 8) (lv' := fun v9 => [(5, .int v9), (0, .ref o), (1, .int n), (2, .int dr), (3, .int x_1), (4, .int x_2)]) hx hb dX12_goes_58 hl (k := 5) rfl (by decide) (fun _ => rfl) (zaddK (i := x_22.toInt) (j := 1) rfl (by decide) i32.1 n93 (Int.le_refl _) (Int.le_refl _) (by decide)) (fun x_99 ls hx_99 hl => ?_)
                refine lv_goto (tgt := 14) hx hb dX12_goes_61 (by decide) ?_
                have hl := lv_sub (l' := [(0, .ref o), (1, .int n), (2, .int dr), (3, .int x_1), (4, .int x_2), (5, .int x_99)]) hl [1, 2, 3, 4, 5, 0] rfl
                have hP : va_P g.1 vwCl (List.flatten [bMo g o a th hi ac tp x_23 x_24 x_25 fl x_26 x_27 x_28 x_29 fm_10 fk fa fc ft ff_30 fb_98 fi]) H := hP
                have hD : va_D A (List.flatten [bMo g o a th hi ac tp x_23 x_24 x_25 fl x_26 x_27 x_28 x_29 fm_10 fk fa fc ft ff_30 fb_98 fi]) := hD
                exact ih14_36 x_99 x_23 x_24 x_25 x_26 x_27 x_28 x_29 ff_30 fb_98 ⟨(Int.le_trans (by decide) hx_99.2.1), hx_99.2.2⟩ ⟨i33.1, i33.2⟩ ⟨i34.1, i34.2⟩ H _ ls (zmK hx_99.1 (by decide) n93 (by decide) hk14_36)  hP hD hS (lv_sub hl [0, 1, 2, 3, 4, 5] rfl)
              · skip
                refine lv_if_eq (tgt := 56) hx hb dX12_goes_37 (by decide) (fun c100 => absurd c100 (by decide)) (fun _ => ?_)
                refine lv_aload_n hx hb dX12_goes_40 rfl (lv_at hl 0 rfl) ?_
                refine lv_iload hx hb dX12_goes_41 (lv_at hl 5 rfl) ?_
                refine mcallV' (g := g) (q0 := 0) (ci := 10) (As := [.int x_22]) (rest := [.int x_22, .ref (a 6)]) St hK hT hA hP hD hS hl.1 [0] [] rfl rfl rfl (m_pull l g o a th hi ac tp x_23 x_24 x_25 fl x_26 x_27 x_28 x_29 fm_10 fk fa fc ft ff_30 fb_31 fi x_22 (by first | assumption | omega | decide | exact Or.inl (by decide) | exact Or.inr (by decide)) (⟨i32.1, n93⟩)) (cwV 1 hts (zgL (zl4 k1015 k1016 k1017 k837) k869) rfl rfl rfl (by decide +kernel) ⟨Nat.le_of_ble_eq_true rfl, Nat.le_of_ble_eq_true rfl⟩) rfl rfl rfl rfl (Nat.le_of_ble_eq_true rfl) dX12_goes_43 ⟨(Nat.le_of_ble_eq_true rfl), (Nat.le_of_ble_eq_true rfl)⟩ (fun q_101 H locs hq102 hP hD hS => ?_)
                have hP : va_P g.1 vwCl (List.flatten [bMo g o a th hi ac tp x_23 x_24 x_25 fl x_26 x_27 x_28 x_29 fm_10 fk fa fc ft ff_30 fb_31 fi]) H := hP
                have hD : va_D A (List.flatten [bMo g o a th hi ac tp x_23 x_24 x_25 fl x_26 x_27 x_28 x_29 fm_10 fk fa fc ft ff_30 fb_31 fi]) := hD
                refine W.widen (k := 0) (n := 0) (Nat.le_of_ble_eq_true rfl) (Nat.le_of_ble_eq_true rfl) ?_
                refine W.eq (g2 := F0 m 46 ls [.int q_101, .int x_22, .ref (a 6)]) rfl ?_
                refine lv_aload_n hx hb dX12_goes_46 rfl (lv_at hl 0 rfl) ?_
                refine lv_iload hx hb dX12_goes_47 (lv_at hl 5 rfl) ?_
                refine mcallV' (g := g) (q0 := 0) (ci := 10) (As := [.int x_22]) (rest := [.int q_101, .int x_22, .ref (a 6)]) St hK hT hA hP hD hS hl.1 [0] [] rfl rfl rfl (m_turnsBy l g o a th hi ac tp x_23 x_24 x_25 fl x_26 x_27 x_28 x_29 fm_10 fk fa fc ft ff_30 fb_31 fi x_22 (by first | assumption | omega | decide | exact Or.inl (by decide) | exact Or.inr (by decide)) (⟨i33.1, i33.2⟩) (⟨i34.1, i34.2⟩) (⟨i32.1, n93⟩)) (cwV 1 hts (zgL (zl4 k1018 k1019 k1020 k837) k995) rfl rfl rfl (by decide +kernel) ⟨Nat.le_of_ble_eq_true rfl, Nat.le_of_ble_eq_true rfl⟩) rfl rfl rfl rfl (Nat.le_of_ble_eq_true rfl) dX12_goes_49 ⟨(Nat.le_of_ble_eq_true rfl), (Nat.le_of_ble_eq_true rfl)⟩ (fun u_ H locs hq112 hP hD hS => ?_)
                obtain ⟨ba2_103, en2_104, at2_105, de2_106, iD2_107, iO2_108, tU2_109, ff2_110, q_111⟩ := u_
                replace hq112 : (0 ≤ iO2_108.toInt ∧ iO2_108.toInt ≤ 1) ∧ (0 ≤ iD2_107.toInt ∧ iD2_107.toInt ≤ 1) := hq112
                have hP : va_P g.1 vwCl (List.flatten [bMo g o a th hi ac tp ba2_103 en2_104 at2_105 fl de2_106 iD2_107 iO2_108 tU2_109 fm_10 fk fa fc ft ff2_110 fb_31 fi]) H := hP
                have hD : va_D A (List.flatten [bMo g o a th hi ac tp ba2_103 en2_104 at2_105 fl de2_106 iD2_107 iO2_108 tU2_109 fm_10 fk fa fc ft ff2_110 fb_31 fi]) := hD
                refine W.widen (k := 0) (n := 0) (Nat.le_of_ble_eq_true rfl) (Nat.le_of_ble_eq_true rfl) ?_
                refine W.eq (g2 := F0 m 52 ls [.int q_111, .int q_101, .int x_22, .ref (a 6)]) rfl ?_
                obtain ⟨hq112_0, hq112_1⟩ := hq112
                refine lv_iadd hx hb dX12_goes_52 ?_
                refine zg (fun x_113 => ?_)
                refine lv_goto (tgt := 57) hx hb dX12_goes_53 (by decide) ?_
                refine va_iast hx hb hK hP hD hS 7 0 rfl rfl (zinK (a := 0) (b := 7) i32.1 n93 (by decide)) dX12_goes_57 (fun H locs hP hD hS => ?_)
                obtain ⟨fb_114, hP, hD⟩ : ∃ fb_114 : Nat → Int32, va_P g.1 vwCl (List.flatten [bMo g o a th hi ac tp ba2_103 en2_104 at2_105 fl de2_106 iD2_107 iO2_108 tU2_109 fm_10 fk fa fc ft ff2_110 fb_114 fi]) H ∧ va_D A (List.flatten [bMo g o a th hi ac tp ba2_103 en2_104 at2_105 fl de2_106 iD2_107 iO2_108 tU2_109 fm_10 fk fa fc ft ff2_110 fb_114 fi]) := ⟨upd fb_31 x_22.toNatClampNeg x_113, hP, hD⟩
                refine ziinc3 (n' := 1) (a' := 1) (b' := 8) (lv' := fun v9 => [(5, .int v9), (0, .ref o), (1, .int n), (2, .int dr), (3, .int x_1), (4, .int x_2)]) hx hb dX12_goes_58 hl (k := 5) rfl (by decide) (fun _ => rfl) (zaddK (i := x_22.toInt) (j := 1) rfl (by decide) i32.1 n93 (Int.le_refl _) (Int.le_refl _) (by decide)) (fun x_115 ls hx_115 hl => ?_)
                refine lv_goto (tgt := 14) hx hb dX12_goes_61 (by decide) ?_
                have hl := lv_sub (l' := [(0, .ref o), (1, .int n), (2, .int dr), (3, .int x_1), (4, .int x_2), (5, .int x_115)]) hl [1, 2, 3, 4, 5, 0] rfl
                have hP : va_P g.1 vwCl (List.flatten [bMo g o a th hi ac tp ba2_103 en2_104 at2_105 fl de2_106 iD2_107 iO2_108 tU2_109 fm_10 fk fa fc ft ff2_110 fb_114 fi]) H := hP
                have hD : va_D A (List.flatten [bMo g o a th hi ac tp ba2_103 en2_104 at2_105 fl de2_106 iD2_107 iO2_108 tU2_109 fm_10 fk fa fc ft ff2_110 fb_114 fi]) := hD
                exact ih14_36 x_115 ba2_103 en2_104 at2_105 de2_106 iD2_107 iO2_108 tU2_109 ff2_110 fb_114 ⟨(Int.le_trans (by decide) hx_115.2.1), hx_115.2.2⟩ ⟨hq112_1.1, hq112_1.2⟩ ⟨hq112_0.1, hq112_0.2⟩ H _ ls (zmK hx_115.1 (by decide) n93 (by decide) hk14_36)  hP hD hS (lv_sub hl [0, 1, 2, 3, 4, 5] rfl)
        have hP : va_P g.1 vwCl (List.flatten [bMo g o a th hi ac tp x_3 x_4 x_5 fl x_6 x_7 x_8 x_9 fm_10 fk fa fc ft ff_11 fb_12 fi]) H := hP
        have hD : va_D A (List.flatten [bMo g o a th hi ac tp x_3 x_4 x_5 fl x_6 x_7 x_8 x_9 fm_10 fk fa fc ft ff_11 fb_12 fi]) := hD
        exact LP14_35 _ 0 x_3 x_4 x_5 x_6 x_7 x_8 x_9 ff_11 fb_12 (by decide) ⟨i14.1, i14.2⟩ ⟨i15.1, i15.2⟩ H _ ls (Nat.lt_succ_self _)  hP hD hS (lv_sub hl [0, 1, 2, 3, 4, 5] rfl)
  have hP : va_P g.1 vwCl (List.flatten [bMo g o a th hi ac tp ba en tA fl de iD iO tU fm fk fa fc ft ff fb fi]) s.heap := hP
  have hD : va_D A (List.flatten [bMo g o a th hi ac tp ba en tA fl de iD iO tU fm fk fa fc ft ff fb fi]) := hD
  exact LP5_16 _ 0 0 ba en tA de iD iO tU fm ff fb (by decide) ⟨hiD.1, hiD.2⟩ ⟨hiO.1, hiO.2⟩ rfm s.heap _ ls (Nat.lt_succ_self _)  hP hD hS (lv_sub hl [0, 1, 2, 3, 4] rfl)
