set_option maxRecDepth 100000 in
set_option maxHeartbeats 4000000 in
theorem m_liarsF (l : Launch) (g : zG) (o : Nat) (a : Nat → Nat) (th : Int32) (hi : Int32) (ac : Int32) (tp : Int32) (ba : Int32) (en : Int32) (tA : Int32) (fl : Int32) (de : Int32) (iD : Int32) (iO : Int32) (tU : Int32) (fm : Nat → Int32) (fk : Nat → Int32) (fa : Nat → Int32) (fc : Nat → Int32) (ft : Nat → Int32) (ff : Nat → Int32) (fb : Nat → Int32) (fi : Nat → Int32) (sure : Int32) (rfm : rM fm) (htp : 0 ≤ tp.toInt ∧ tp.toInt ≤ 400) : zM' g l yX12_liars (Cond.code yX12_liars cX12_liars 5 (some .int) :: zB) ({ frames := 3, cells := 0, slots := 0, locals := 68 } : Room) [.ref o, .int sure] [bMo g o a th hi ac tp ba en tA fl de iD iO tU fm fk fa fc ft ff fb fi] (fun u : (Nat → Int32) × Int32 × Int32 => (fun (fi2 : Nat → Int32) (th2 : Int32) (q : Int32) => some (.int q)) (u.1) (u.2.1) (u.2.2)) (fun u : (Nat → Int32) × Int32 × Int32 => (fun (fi2 : Nat → Int32) (th2 : Int32) (q : Int32) => (th2 = 0 ∧ zSaid ft tp.toInt (fm 3).toInt ∧ zLia ft tp.toInt (fm 3).toInt sure.toInt q ∨ th2 = 1 ∧ ¬ zSaid ft tp.toInt (fm 3).toInt)) (u.1) (u.2.1) (u.2.2)) (fun u : (Nat → Int32) × Int32 × Int32 => (fun (fi2 : Nat → Int32) (th2 : Int32) (q : Int32) => [bMo g o a th2 hi ac 0 ba en tA fl de iD iO tU fm fk fa fc ft ff fb fi2]) (u.1) (u.2.1) (u.2.2)) := by
  refine zM'.of (cc := cX12_liars) (maxL := 5) (rt := (some .int)) (by decide) rfl (Nat.le_of_ble_eq_true rfl) ?_
  intro p e s m args below meth c A ls St hr hlocks hin hK hT hA hP hD hS hl
  obtain ⟨hx, hb, hml, hown, hts⟩ := id St
  have hl : lv_has ls 5 [(0, .ref o), (1, .int sure)] := hl
  refine lv_aload_n hx hb dX12_liars_0 rfl (lv_at hl 0 rfl) ?_
  refine mcallV' (g := g) (q0 := 0) (ci := 10) (As := []) (rest := []) St hK hT hA hP hD hS hl.1 [0] [] rfl rfl rfl (m_toldF l g o a th hi ac tp ba en tA fl de iD iO tU fm fk fa fc ft ff fb fi rfm htp) (cwV 0 hts (zgL (zl4 k1104 k1105 k1106 k839) k1100) rfl rfl rfl (by decide +kernel) ⟨Nat.le_of_ble_eq_true rfl, Nat.le_of_ble_eq_true rfl⟩) rfl rfl rfl rfl (Nat.le_of_ble_eq_true rfl) dX12_liars_1 ⟨(Nat.le_of_ble_eq_true rfl), (Nat.le_of_ble_eq_true rfl)⟩ (fun u_ H locs hq3 hP hD hS => ?_)
  obtain ⟨fi2_1, q_2⟩ := u_
  replace hq3 : (((0 ≤ q_2.toInt ∧ q_2.toInt ≤ 256) ∧ zSaid ft tp.toInt (fm 3).toInt ∧ zHr ft tp.toInt fi2_1 ((2 ^ (fm 3).toInt.toNat : Nat) : Int) q_2.toInt) ∨ q_2 = (-1) ∧ ¬ zSaid ft tp.toInt (fm 3).toInt) := hq3
  have hP : va_P g.1 vwCl (List.flatten [bMo g o a th hi ac 0 ba en tA fl de iD iO tU fm fk fa fc ft ff fb fi2_1]) H := hP
  have hD : va_D A (List.flatten [bMo g o a th hi ac 0 ba en tA fl de iD iO tU fm fk fa fc ft ff fb fi2_1]) := hD
  refine W.widen (k := 0) (n := 0) (Nat.le_of_ble_eq_true rfl) (Nat.le_of_ble_eq_true rfl) ?_
  refine W.eq (g2 := F0 m 4 ls [.int q_2]) rfl ?_
  rcases hq3 with ⟨hq3_kn, hq3_ks, hq3_k⟩ | ⟨rfl, hq3_k⟩
  · skip
    refine lv_istore_n (lv' := [(2, .int q_2), (0, .ref o), (1, .int sure)]) hx hb dX12_liars_4 rfl hl (by decide) rfl (fun ls hl => ?_)
    refine lv_aload_n hx hb dX12_liars_5 rfl (lv_at hl 1 rfl) ?_
    refine lv_iload_n hx hb dX12_liars_6 rfl (lv_at hl 0 rfl) ?_
    refine lv_iconst (v := (-1)) hx hb dX12_liars_7 (by decide) ?_
    refine lv_icmp_ne (tgt := 15) hx hb dX12_liars_8 (by decide) (fun cb9 => ?_) (fun cb9 => ?_)
    · skip
      have c4 : ¬ q_2.toInt = (-1) := zne cb9 rfl (by decide)
      refine lv_iconst (v := 0) hx hb dX12_liars_15 (by decide) ?_
      refine va_put (D := g.1) (ci := 10) (v := .int 0) (ty := .int) (C := RX12) (T := TX12) (N := 20) hx hb hts izRX12 tyX12 tyX12_ok nmX12 hown hK hP hD hS 0 rfl rfl 0 (by decide) (hts _ k825) (fun _ h9 => h9) rfl (by decide +kernel) rfl rfl (Nat.le_of_ble_eq_true rfl) dX12_liars_16 (fun H locs hP hD hS => ?_)
      have hP : va_P g.1 vwCl (List.flatten [bMo g o a 0 hi ac 0 ba en tA fl de iD iO tU fm fk fa fc ft ff fb fi2_1]) H := hP
      have hD : va_D A (List.flatten [bMo g o a 0 hi ac 0 ba en tA fl de iD iO tU fm fk fa fc ft ff fb fi2_1]) := hD
      refine lv_aload_n hx hb dX12_liars_19 rfl (lv_at hl 1 rfl) ?_
      refine va_get (D := g.1) (ci := 10) (v := .int 0) (C := RX12) (T := TX12) (N := 20) hx hb hts izRX12 hown hK hP 0 rfl rfl 0 (by decide) (hts _ k825) (fun _ h9 => h9) rfl dX12_liars_20 ?_
      refine lv_if_gt (tgt := 30) hx hb dX12_liars_23 (by decide) (fun c5 => absurd c5 (by decide)) (fun _ => ?_)
      refine lv_iload_n hx hb dX12_liars_26 rfl (lv_at hl 2 rfl) ?_
      refine lv_if_ne (tgt := 43) hx hb dX12_liars_27 (by decide) (fun cb9 => ?_) (fun cb9 => ?_)
      · skip
        have c6 : ¬ sure.toInt = 0 := zne cb9 rfl (by decide)
        refine lv_iload_n hx hb dX12_liars_43 rfl (lv_at hl 0 rfl) ?_
        refine lv_if_ne (tgt := 51) hx hb dX12_liars_44 (by decide) (fun cb9 => ?_) (fun cb9 => ?_)
        · skip
          have c7 : ¬ q_2.toInt = 0 := zne cb9 rfl (by decide)
          have n8 : 1 ≤ q_2.toInt := zN1 c7 hq3_kn.1 (by decide)
          refine lv_iconst (v := 1) hx hb dX12_liars_51 (by decide) ?_
          refine lv_aload_n hx hb dX12_liars_52 rfl (lv_at hl 1 rfl) ?_
          refine va_get (D := g.1) (ci := 10) (v := .ref (a 0)) (C := RX12) (T := TX12) (N := 20) hx hb hts izRX12 hown hK hP 0 rfl rfl 1 (by decide) (hts _ k815) (fun _ h9 => h9) rfl dX12_liars_53 ?_
          refine lv_iconst (v := 3) hx hb dX12_liars_56 (by decide) ?_
          refine va_iald hx hb hK hP 1 0 rfl rfl (zin rfl) dX12_liars_57 ?_
          refine zgq (r := fm 3) rfl (rM3 rfm) (fun x_9 hx_9 => ?_)
          refine lv_ishl hx hb dX12_liars_58 ?_
          refine zgp2 (P := fun r9 : Int32 => r9 = (1 : Int32) <<< (fm 3 &&& 31)) (zshx (by omega)) (fun x_10 hx_10 => ?_)
          refine lv_iconst (v := 1) hx hb dX12_liars_59 (by decide) ?_
          refine lv_isub hx hb dX12_liars_60 ?_
          refine zgp2 (P := fun r9 : Int32 => r9 = ((1 : Int32) <<< (fm 3 &&& 31)) - 1) (congrArg (· - 1) hx_10) (fun x_11 hx_11 => ?_)
          refine lv_istore_n (lv' := [(3, .int x_11), (2, .int q_2), (0, .ref o), (1, .int sure)]) hx hb dX12_liars_61 rfl hl (by decide) rfl (fun ls hl => ?_)
          refine lv_iconst (v := 0) hx hb dX12_liars_62 (by decide) ?_
          refine lv_istore (lv' := [(4, .int 0), (3, .int x_11), (2, .int q_2), (0, .ref o), (1, .int sure)]) hx hb dX12_liars_63 hl (by decide) rfl (fun ls hl => ?_)
          have hl := lv_sub (l' := [(0, .ref o), (1, .int sure), (2, .int q_2), (3, .int x_11), (4, .int 0)]) hl [3, 4, 2, 1, 0] rfl
          have LP65_17 : ∀ (kf : Nat) (x_12 : Int32) (x_13 : Int32), (0 ≤ x_13.toInt ∧ x_13.toInt ≤ 256) → (x_12 = zAd fi2_1 (if q_2.toInt = 0 then 0 else ((1 : Int32) <<< (fm 3 &&& 31)) - 1) (x_13.toInt).toNat) → (x_13.toInt ≤ ((2 ^ (fm 3).toInt.toNat : Nat) : Int)) → ∀ (H : Heap) (locs : List Loc) (ls : Array Slot), ((257 - x_13.toInt).toNat) < kf → va_P g.1 vwCl (List.flatten [bMo g o a 0 hi ac 0 ba en tA fl de iD iO tU fm fk fa fc ft ff fb fi2_1]) H → va_D A (List.flatten [bMo g o a 0 hi ac 0 ba en tA fl de iD iO tU fm fk fa fc ft ff fb fi2_1]) → va_S A s.heap H locs → lv_has ls 5 [(0, .ref o), (1, .int sure), (2, .int q_2), (3, .int x_12), (4, .int x_13)] → W p l e ({ frames := 3, cells := 0, slots := 0, locals := 68 } : Room) s m args below meth c H locs (0) (0) (zF g (fun u : (Nat → Int32) × Int32 × Int32 => (fun (fi2 : Nat → Int32) (th2 : Int32) (q : Int32) => some (.int q)) (u.1) (u.2.1) (u.2.2)) (fun u : (Nat → Int32) × Int32 × Int32 => (fun (fi2 : Nat → Int32) (th2 : Int32) (q : Int32) => (th2 = 0 ∧ zSaid ft tp.toInt (fm 3).toInt ∧ zLia ft tp.toInt (fm 3).toInt sure.toInt q ∨ th2 = 1 ∧ ¬ zSaid ft tp.toInt (fm 3).toInt)) (u.1) (u.2.1) (u.2.2)) (fun u : (Nat → Int32) × Int32 × Int32 => (fun (fi2 : Nat → Int32) (th2 : Int32) (q : Int32) => [bMo g o a th2 hi ac 0 ba en tA fl de iD iO tU fm fk fa fc ft ff fb fi2]) (u.1) (u.2.1) (u.2.2)) ({ frames := 3, cells := 0, slots := 0, locals := 68 } : Room) below args s A) (F0 m 65 ls []) := by
            intro kf
            induction kf with
            | zero => intro x_12 x_13 i14 i15 i16 H locs ls hk; exact absurd hk (Nat.not_lt_zero _)
            | succ kf ih65_18 =>
              intro x_12 x_13 i14 i15 i16 H locs ls hk65_18 hP hD hS hl
              refine lv_iload hx hb dX12_liars_65 (lv_at hl 4 rfl) ?_
              refine lv_iconst (v := 1) hx hb dX12_liars_67 (by decide) ?_
              refine lv_aload_n hx hb dX12_liars_68 rfl (lv_at hl 0 rfl) ?_
              refine va_get (D := g.1) (ci := 10) (v := .ref (a 0)) (C := RX12) (T := TX12) (N := 20) hx hb hts izRX12 hown hK hP 0 rfl rfl 1 (by decide) (hts _ k815) (fun _ h9 => h9) rfl dX12_liars_69 ?_
              refine lv_iconst (v := 3) hx hb dX12_liars_72 (by decide) ?_
              refine va_iald hx hb hK hP 1 0 rfl rfl (zin rfl) dX12_liars_73 ?_
              refine zgq (r := fm 3) rfl (rM3 rfm) (fun x_19 hx_19 => ?_)
              refine lv_ishl hx hb dX12_liars_74 ?_
              refine zgp2 (P := fun r9 : Int32 => r9.toInt = ((2 ^ x_19.toInt.toNat : Nat) : Int) ∧ 1 ≤ r9.toInt ∧ r9.toInt ≤ 256) (zshE ⟨hx_19.1, hx_19.2.1⟩) (fun x_20 hx_20 => ?_)
              have w21 : x_20.toInt = ((2 ^ (fm 3).toInt.toNat : Nat) : Int) := hx_20.1.trans (zpw (by omega))
              refine lv_icmp_ge (tgt := 99) hx hb dX12_liars_75 (by decide) (fun cb9 => ?_) (fun cb9 => ?_)
              · skip
                have c22 : x_20.toInt ≤ x_13.toInt := zle cb9 rfl rfl
                have n23 : 1 ≤ x_13.toInt := Int.le_trans hx_20.2.1 c22
                refine lv_iload_n hx hb dX12_liars_99 rfl (lv_at hl 3 rfl) ?_
                have hP : va_P g.1 vwCl (List.flatten [bMo g o a 0 hi ac 0 ba en tA fl de iD iO tU fm fk fa fc ft ff fb fi2_1]) H := hP
                have hD : va_D A (List.flatten [bMo g o a 0 hi ac 0 ba en tA fl de iD iO tU fm fk fa fc ft ff fb fi2_1]) := hD
                exact mret_i hx hb hr hlocks hS (Nat.le_of_ble_eq_true rfl) (Nat.le_of_ble_eq_true rfl) dX12_liars_100 (fi2_1, (0 : Int32), x_12) rfl (show (0 = 0 ∧ zSaid ft tp.toInt (fm 3).toInt ∧ zLia ft tp.toInt (fm 3).toInt sure.toInt x_12 ∨ 0 = 1 ∧ ¬ zSaid ft tp.toInt (fm 3).toInt) from (Or.inl ⟨rfl, hq3_ks, _, _, fm 3, rfl, hq3_k, (Or.inr ⟨(by omega), zAd_e i15 (by omega)⟩)⟩)) hP hD
              · skip
                have c24 : x_13.toInt < x_20.toInt := zlti (Int32.not_le.mp cb9) rfl rfl
                have n25 : x_13.toInt ≤ 255 := zL1 (b := 256) c24 hx_20.2.2 (by decide)
                refine lv_aload_n hx hb dX12_liars_78 rfl (lv_at hl 0 rfl) ?_
                refine va_get (D := g.1) (ci := 10) (v := .ref (a 7)) (C := RX12) (T := TX12) (N := 20) hx hb hts izRX12 hown hK hP 0 rfl rfl 19 (by decide) (hts _ k823) (fun _ h9 => h9) rfl dX12_liars_79 ?_
                refine lv_iload hx hb dX12_liars_82 (lv_at hl 4 rfl) ?_
                refine va_zald hx hb hK hP 8 1 rfl rfl (zinK (a := 0) (b := 255) i14.1 n25 (by decide)) dX12_liars_84 ?_
                refine lv_if_eq (tgt := 93) hx hb dX12_liars_85 (by decide) (fun cb9 => ?_) (fun cb9 => ?_)
                · skip
                  have c26 : (fi2_1 x_13.toNatClampNeg).toInt = 0 := zeq cb9 rfl (by decide)
                  have n27 : 0 ≤ (fi2_1 x_13.toNatClampNeg).toInt := Int.le_trans (Int.le_refl _) (Int.le_of_eq c26.symm)
                  have n28 : (fi2_1 x_13.toNatClampNeg).toInt ≤ 0 := Int.le_trans (Int.le_of_eq c26) (Int.le_refl _)
                  refine ziinc3 (n' := 1) (a' := 1) (b' := 256) (lv' := fun v9 => [(4, .int v9), (0, .ref o), (1, .int sure), (2, .int q_2), (3, .int x_12)]) hx hb dX12_liars_93 hl (k := 4) rfl (by decide) (fun _ => rfl) (zaddK (i := x_13.toInt) (j := 1) rfl (by decide) i14.1 n25 (Int.le_refl _) (Int.le_refl _) (by decide)) (fun x_29 ls hx_29 hl => ?_)
                  refine lv_goto (tgt := 65) hx hb dX12_liars_96 (by decide) ?_
                  have hl := lv_sub (l' := [(0, .ref o), (1, .int sure), (2, .int q_2), (3, .int x_12), (4, .int x_29)]) hl [1, 2, 3, 4, 0] rfl
                  have hP : va_P g.1 vwCl (List.flatten [bMo g o a 0 hi ac 0 ba en tA fl de iD iO tU fm fk fa fc ft ff fb fi2_1]) H := hP
                  have hD : va_D A (List.flatten [bMo g o a 0 hi ac 0 ba en tA fl de iD iO tU fm fk fa fc ft ff fb fi2_1]) := hD
                  exact ih65_18 x_12 x_29 ⟨(Int.le_trans (by decide) hx_29.2.1), hx_29.2.2⟩ (zAd_s0 (x := x_13) i15 rfl (by omega) c26 (by omega)) (by first | omega | assumption | decide) H _ ls (zmK hx_29.1 (by decide) n25 (by decide) hk65_18)  hP hD hS (lv_sub hl [0, 1, 2, 3, 4] rfl)
                · skip
                  have c30 : ¬ (fi2_1 x_13.toNatClampNeg).toInt = 0 := zne cb9 rfl (by decide)
                  refine lv_iload_n hx hb dX12_liars_88 rfl (lv_at hl 3 rfl) ?_
                  refine lv_iload hx hb dX12_liars_89 (lv_at hl 4 rfl) ?_
                  refine lv_iand hx hb dX12_liars_91 ?_
                  refine zgp2 (P := fun r9 : Int32 => r9 = x_12 &&& x_13) rfl (fun x_31 hx_31 => ?_)
                  refine lv_istore_n (lv' := [(3, .int x_31), (0, .ref o), (1, .int sure), (2, .int q_2), (4, .int x_13)]) hx hb dX12_liars_92 rfl hl (by decide) rfl (fun ls hl => ?_)
                  refine ziinc3 (n' := 1) (a' := 1) (b' := 256) (lv' := fun v9 => [(4, .int v9), (3, .int x_31), (0, .ref o), (1, .int sure), (2, .int q_2)]) hx hb dX12_liars_93 hl (k := 4) rfl (by decide) (fun _ => rfl) (zaddK (i := x_13.toInt) (j := 1) rfl (by decide) i14.1 n25 (Int.le_refl _) (Int.le_refl _) (by decide)) (fun x_32 ls hx_32 hl => ?_)
                  refine lv_goto (tgt := 65) hx hb dX12_liars_96 (by decide) ?_
                  have hl := lv_sub (l' := [(0, .ref o), (1, .int sure), (2, .int q_2), (3, .int x_31), (4, .int x_32)]) hl [2, 3, 4, 1, 0] rfl
                  have hP : va_P g.1 vwCl (List.flatten [bMo g o a 0 hi ac 0 ba en tA fl de iD iO tU fm fk fa fc ft ff fb fi2_1]) H := hP
                  have hD : va_D A (List.flatten [bMo g o a 0 hi ac 0 ba en tA fl de iD iO tU fm fk fa fc ft ff fb fi2_1]) := hD
                  exact ih65_18 x_31 x_32 ⟨(Int.le_trans (by decide) hx_32.2.1), hx_32.2.2⟩ (zAd_s1 (x := x_13) i15 rfl (by omega) c30 hx_31 (by omega)) (by first | omega | assumption | decide) H _ ls (zmK hx_32.1 (by decide) n25 (by decide) hk65_18)  hP hD hS (lv_sub hl [0, 1, 2, 3, 4] rfl)
          have hL0 : (0 : Int32).toInt = 0 := by decide
          have hP : va_P g.1 vwCl (List.flatten [bMo g o a 0 hi ac 0 ba en tA fl de iD iO tU fm fk fa fc ft ff fb fi2_1]) H := hP
          have hD : va_D A (List.flatten [bMo g o a 0 hi ac 0 ba en tA fl de iD iO tU fm fk fa fc ft ff fb fi2_1]) := hD
          exact LP65_17 _ x_11 0 (by decide) (show x_11 = zAd fi2_1 (if q_2.toInt = 0 then 0 else ((1 : Int32) <<< (fm 3 &&& 31)) - 1) 0 from (hx_11.trans (if_neg c7).symm)) (by first | omega | assumption | exact Int.natCast_nonneg _ | decide) H _ ls (Nat.lt_succ_self _)  hP hD hS (lv_sub hl [0, 1, 2, 3, 4] rfl)
        · skip
          have c33 : q_2.toInt = 0 := zeq cb9 rfl (by decide)
          have n34 : q_2.toInt ≤ 0 := Int.le_trans (Int.le_of_eq c33) (Int.le_refl _)
          refine lv_iconst (v := 0) hx hb dX12_liars_47 (by decide) ?_
          refine lv_goto (tgt := 61) hx hb dX12_liars_48 (by decide) ?_
          refine lv_istore_n (lv' := [(3, .int 0), (2, .int q_2), (0, .ref o), (1, .int sure)]) hx hb dX12_liars_61 rfl hl (by decide) rfl (fun ls hl => ?_)
          refine lv_iconst (v := 0) hx hb dX12_liars_62 (by decide) ?_
          refine lv_istore (lv' := [(4, .int 0), (3, .int 0), (2, .int q_2), (0, .ref o), (1, .int sure)]) hx hb dX12_liars_63 hl (by decide) rfl (fun ls hl => ?_)
          have hl := lv_sub (l' := [(0, .ref o), (1, .int sure), (2, .int q_2), (3, .int 0), (4, .int 0)]) hl [3, 4, 2, 1, 0] rfl
          have LP65_40 : ∀ (kf : Nat) (x_35 : Int32) (x_36 : Int32), (0 ≤ x_36.toInt ∧ x_36.toInt ≤ 256) → (x_35 = zAd fi2_1 (if q_2.toInt = 0 then 0 else ((1 : Int32) <<< (fm 3 &&& 31)) - 1) (x_36.toInt).toNat) → (x_36.toInt ≤ ((2 ^ (fm 3).toInt.toNat : Nat) : Int)) → ∀ (H : Heap) (locs : List Loc) (ls : Array Slot), ((257 - x_36.toInt).toNat) < kf → va_P g.1 vwCl (List.flatten [bMo g o a 0 hi ac 0 ba en tA fl de iD iO tU fm fk fa fc ft ff fb fi2_1]) H → va_D A (List.flatten [bMo g o a 0 hi ac 0 ba en tA fl de iD iO tU fm fk fa fc ft ff fb fi2_1]) → va_S A s.heap H locs → lv_has ls 5 [(0, .ref o), (1, .int sure), (2, .int q_2), (3, .int x_35), (4, .int x_36)] → W p l e ({ frames := 3, cells := 0, slots := 0, locals := 68 } : Room) s m args below meth c H locs (0) (0) (zF g (fun u : (Nat → Int32) × Int32 × Int32 => (fun (fi2 : Nat → Int32) (th2 : Int32) (q : Int32) => some (.int q)) (u.1) (u.2.1) (u.2.2)) (fun u : (Nat → Int32) × Int32 × Int32 => (fun (fi2 : Nat → Int32) (th2 : Int32) (q : Int32) => (th2 = 0 ∧ zSaid ft tp.toInt (fm 3).toInt ∧ zLia ft tp.toInt (fm 3).toInt sure.toInt q ∨ th2 = 1 ∧ ¬ zSaid ft tp.toInt (fm 3).toInt)) (u.1) (u.2.1) (u.2.2)) (fun u : (Nat → Int32) × Int32 × Int32 => (fun (fi2 : Nat → Int32) (th2 : Int32) (q : Int32) => [bMo g o a th2 hi ac 0 ba en tA fl de iD iO tU fm fk fa fc ft ff fb fi2]) (u.1) (u.2.1) (u.2.2)) ({ frames := 3, cells := 0, slots := 0, locals := 68 } : Room) below args s A) (F0 m 65 ls []) := by
            intro kf
            induction kf with
            | zero => intro x_35 x_36 i37 i38 i39 H locs ls hk; exact absurd hk (Nat.not_lt_zero _)
            | succ kf ih65_41 =>
              intro x_35 x_36 i37 i38 i39 H locs ls hk65_41 hP hD hS hl
              refine lv_iload hx hb dX12_liars_65 (lv_at hl 4 rfl) ?_
              refine lv_iconst (v := 1) hx hb dX12_liars_67 (by decide) ?_
              refine lv_aload_n hx hb dX12_liars_68 rfl (lv_at hl 0 rfl) ?_
              refine va_get (D := g.1) (ci := 10) (v := .ref (a 0)) (C := RX12) (T := TX12) (N := 20) hx hb hts izRX12 hown hK hP 0 rfl rfl 1 (by decide) (hts _ k815) (fun _ h9 => h9) rfl dX12_liars_69 ?_
              refine lv_iconst (v := 3) hx hb dX12_liars_72 (by decide) ?_
              refine va_iald hx hb hK hP 1 0 rfl rfl (zin rfl) dX12_liars_73 ?_
              refine zgq (r := fm 3) rfl (rM3 rfm) (fun x_42 hx_42 => ?_)
              refine lv_ishl hx hb dX12_liars_74 ?_
              refine zgp2 (P := fun r9 : Int32 => r9.toInt = ((2 ^ x_42.toInt.toNat : Nat) : Int) ∧ 1 ≤ r9.toInt ∧ r9.toInt ≤ 256) (zshE ⟨hx_42.1, hx_42.2.1⟩) (fun x_43 hx_43 => ?_)
              have w44 : x_43.toInt = ((2 ^ (fm 3).toInt.toNat : Nat) : Int) := hx_43.1.trans (zpw (by omega))
              refine lv_icmp_ge (tgt := 99) hx hb dX12_liars_75 (by decide) (fun cb9 => ?_) (fun cb9 => ?_)
              · skip
                have c45 : x_43.toInt ≤ x_36.toInt := zle cb9 rfl rfl
                have n46 : 1 ≤ x_36.toInt := Int.le_trans hx_43.2.1 c45
                refine lv_iload_n hx hb dX12_liars_99 rfl (lv_at hl 3 rfl) ?_
                have hP : va_P g.1 vwCl (List.flatten [bMo g o a 0 hi ac 0 ba en tA fl de iD iO tU fm fk fa fc ft ff fb fi2_1]) H := hP
                have hD : va_D A (List.flatten [bMo g o a 0 hi ac 0 ba en tA fl de iD iO tU fm fk fa fc ft ff fb fi2_1]) := hD
                exact mret_i hx hb hr hlocks hS (Nat.le_of_ble_eq_true rfl) (Nat.le_of_ble_eq_true rfl) dX12_liars_100 (fi2_1, (0 : Int32), x_35) rfl (show (0 = 0 ∧ zSaid ft tp.toInt (fm 3).toInt ∧ zLia ft tp.toInt (fm 3).toInt sure.toInt x_35 ∨ 0 = 1 ∧ ¬ zSaid ft tp.toInt (fm 3).toInt) from (Or.inl ⟨rfl, hq3_ks, _, _, fm 3, rfl, hq3_k, (Or.inr ⟨(by omega), zAd_e i38 (by omega)⟩)⟩)) hP hD
              · skip
                have c47 : x_36.toInt < x_43.toInt := zlti (Int32.not_le.mp cb9) rfl rfl
                have n48 : x_36.toInt ≤ 255 := zL1 (b := 256) c47 hx_43.2.2 (by decide)
                refine lv_aload_n hx hb dX12_liars_78 rfl (lv_at hl 0 rfl) ?_
                refine va_get (D := g.1) (ci := 10) (v := .ref (a 7)) (C := RX12) (T := TX12) (N := 20) hx hb hts izRX12 hown hK hP 0 rfl rfl 19 (by decide) (hts _ k823) (fun _ h9 => h9) rfl dX12_liars_79 ?_
                refine lv_iload hx hb dX12_liars_82 (lv_at hl 4 rfl) ?_
                refine va_zald hx hb hK hP 8 1 rfl rfl (zinK (a := 0) (b := 255) i37.1 n48 (by decide)) dX12_liars_84 ?_
                refine lv_if_eq (tgt := 93) hx hb dX12_liars_85 (by decide) (fun cb9 => ?_) (fun cb9 => ?_)
                · skip
                  have c49 : (fi2_1 x_36.toNatClampNeg).toInt = 0 := zeq cb9 rfl (by decide)
                  have n50 : 0 ≤ (fi2_1 x_36.toNatClampNeg).toInt := Int.le_trans (Int.le_refl _) (Int.le_of_eq c49.symm)
                  have n51 : (fi2_1 x_36.toNatClampNeg).toInt ≤ 0 := Int.le_trans (Int.le_of_eq c49) (Int.le_refl _)
                  refine ziinc3 (n' := 1) (a' := 1) (b' := 256) (lv' := fun v9 => [(4, .int v9), (0, .ref o), (1, .int sure), (2, .int q_2), (3, .int x_35)]) hx hb dX12_liars_93 hl (k := 4) rfl (by decide) (fun _ => rfl) (zaddK (i := x_36.toInt) (j := 1) rfl (by decide) i37.1 n48 (Int.le_refl _) (Int.le_refl _) (by decide)) (fun x_52 ls hx_52 hl => ?_)
                  refine lv_goto (tgt := 65) hx hb dX12_liars_96 (by decide) ?_
                  have hl := lv_sub (l' := [(0, .ref o), (1, .int sure), (2, .int q_2), (3, .int x_35), (4, .int x_52)]) hl [1, 2, 3, 4, 0] rfl
                  have hP : va_P g.1 vwCl (List.flatten [bMo g o a 0 hi ac 0 ba en tA fl de iD iO tU fm fk fa fc ft ff fb fi2_1]) H := hP
                  have hD : va_D A (List.flatten [bMo g o a 0 hi ac 0 ba en tA fl de iD iO tU fm fk fa fc ft ff fb fi2_1]) := hD
                  exact ih65_41 x_35 x_52 ⟨(Int.le_trans (by decide) hx_52.2.1), hx_52.2.2⟩ (zAd_s0 (x := x_36) i38 rfl (by omega) c49 (by omega)) (by first | omega | assumption | decide) H _ ls (zmK hx_52.1 (by decide) n48 (by decide) hk65_41)  hP hD hS (lv_sub hl [0, 1, 2, 3, 4] rfl)
                · skip
                  have c53 : ¬ (fi2_1 x_36.toNatClampNeg).toInt = 0 := zne cb9 rfl (by decide)
                  refine lv_iload_n hx hb dX12_liars_88 rfl (lv_at hl 3 rfl) ?_
                  refine lv_iload hx hb dX12_liars_89 (lv_at hl 4 rfl) ?_
                  refine lv_iand hx hb dX12_liars_91 ?_
                  refine zgp2 (P := fun r9 : Int32 => r9 = x_35 &&& x_36) rfl (fun x_54 hx_54 => ?_)
                  refine lv_istore_n (lv' := [(3, .int x_54), (0, .ref o), (1, .int sure), (2, .int q_2), (4, .int x_36)]) hx hb dX12_liars_92 rfl hl (by decide) rfl (fun ls hl => ?_)
                  refine ziinc3 (n' := 1) (a' := 1) (b' := 256) (lv' := fun v9 => [(4, .int v9), (3, .int x_54), (0, .ref o), (1, .int sure), (2, .int q_2)]) hx hb dX12_liars_93 hl (k := 4) rfl (by decide) (fun _ => rfl) (zaddK (i := x_36.toInt) (j := 1) rfl (by decide) i37.1 n48 (Int.le_refl _) (Int.le_refl _) (by decide)) (fun x_55 ls hx_55 hl => ?_)
                  refine lv_goto (tgt := 65) hx hb dX12_liars_96 (by decide) ?_
                  have hl := lv_sub (l' := [(0, .ref o), (1, .int sure), (2, .int q_2), (3, .int x_54), (4, .int x_55)]) hl [2, 3, 4, 1, 0] rfl
                  have hP : va_P g.1 vwCl (List.flatten [bMo g o a 0 hi ac 0 ba en tA fl de iD iO tU fm fk fa fc ft ff fb fi2_1]) H := hP
                  have hD : va_D A (List.flatten [bMo g o a 0 hi ac 0 ba en tA fl de iD iO tU fm fk fa fc ft ff fb fi2_1]) := hD
                  exact ih65_41 x_54 x_55 ⟨(Int.le_trans (by decide) hx_55.2.1), hx_55.2.2⟩ (zAd_s1 (x := x_36) i38 rfl (by omega) c53 hx_54 (by omega)) (by first | omega | assumption | decide) H _ ls (zmK hx_55.1 (by decide) n48 (by decide) hk65_41)  hP hD hS (lv_sub hl [0, 1, 2, 3, 4] rfl)
          have hL0 : (0 : Int32).toInt = 0 := by decide
          have hP : va_P g.1 vwCl (List.flatten [bMo g o a 0 hi ac 0 ba en tA fl de iD iO tU fm fk fa fc ft ff fb fi2_1]) H := hP
          have hD : va_D A (List.flatten [bMo g o a 0 hi ac 0 ba en tA fl de iD iO tU fm fk fa fc ft ff fb fi2_1]) := hD
          exact LP65_40 _ 0 0 (by decide) (show (0 : Int32) = zAd fi2_1 (if q_2.toInt = 0 then 0 else ((1 : Int32) <<< (fm 3 &&& 31)) - 1) 0 from (if_pos c33).symm) (by first | omega | assumption | exact Int.natCast_nonneg _ | decide) H _ ls (Nat.lt_succ_self _)  hP hD hS (lv_sub hl [0, 1, 2, 3, 4] rfl)
      · skip
        have c56 : sure.toInt = 0 := zeq cb9 rfl (by decide)
        have n57 : 0 ≤ sure.toInt := Int.le_trans (Int.le_refl _) (Int.le_of_eq c56.symm)
        have n58 : sure.toInt ≤ 0 := Int.le_trans (Int.le_of_eq c56) (Int.le_refl _)
        refine lv_aload_n hx hb dX12_liars_30 rfl (lv_at hl 1 rfl) ?_
        refine va_get (D := g.1) (ci := 10) (v := .int 0) (C := RX12) (T := TX12) (N := 20) hx hb hts izRX12 hown hK hP 0 rfl rfl 0 (by decide) (hts _ k825) (fun _ h9 => h9) rfl dX12_liars_31 ?_
        refine lv_if_le (tgt := 41) hx hb dX12_liars_34 (by decide) (fun _ => ?_) (fun c59 => absurd (by decide) c59)
        refine lv_iload_n hx hb dX12_liars_41 rfl (lv_at hl 0 rfl) ?_
        have hP : va_P g.1 vwCl (List.flatten [bMo g o a 0 hi ac 0 ba en tA fl de iD iO tU fm fk fa fc ft ff fb fi2_1]) H := hP
        have hD : va_D A (List.flatten [bMo g o a 0 hi ac 0 ba en tA fl de iD iO tU fm fk fa fc ft ff fb fi2_1]) := hD
        exact mret_i hx hb hr hlocks hS (Nat.le_of_ble_eq_true rfl) (Nat.le_of_ble_eq_true rfl) dX12_liars_42 (fi2_1, (0 : Int32), q_2) rfl (show (0 = 0 ∧ zSaid ft tp.toInt (fm 3).toInt ∧ zLia ft tp.toInt (fm 3).toInt sure.toInt q_2 ∨ 0 = 1 ∧ ¬ zSaid ft tp.toInt (fm 3).toInt) from (Or.inl ⟨rfl, hq3_ks, _, _, fm 3, rfl, hq3_k, (Or.inl ⟨(by omega), rfl⟩)⟩)) hP hD
    · skip
      exact absurd (show q_2.toInt = (-1) from zeq cb9 rfl (by decide)) (zDeq2 (a := 0) (b := (-1)) hq3_kn.1 (Int.le_refl _) (by decide))
  · skip
    refine lv_istore_n (lv' := [(2, .int (-1)), (0, .ref o), (1, .int sure)]) hx hb dX12_liars_4 rfl hl (by decide) rfl (fun ls hl => ?_)
    refine lv_aload_n hx hb dX12_liars_5 rfl (lv_at hl 1 rfl) ?_
    refine lv_iload_n hx hb dX12_liars_6 rfl (lv_at hl 0 rfl) ?_
    refine lv_iconst (v := (-1)) hx hb dX12_liars_7 (by decide) ?_
    refine lv_icmp_ne (tgt := 15) hx hb dX12_liars_8 (by decide) (fun c61 => absurd (by decide) c61) (fun _ => ?_)
    refine lv_iconst (v := 1) hx hb dX12_liars_11 (by decide) ?_
    refine lv_goto (tgt := 16) hx hb dX12_liars_12 (by decide) ?_
    refine va_put (D := g.1) (ci := 10) (v := .int 1) (ty := .int) (C := RX12) (T := TX12) (N := 20) hx hb hts izRX12 tyX12 tyX12_ok nmX12 hown hK hP hD hS 0 rfl rfl 0 (by decide) (hts _ k825) (fun _ h9 => h9) rfl (by decide +kernel) rfl rfl (Nat.le_of_ble_eq_true rfl) dX12_liars_16 (fun H locs hP hD hS => ?_)
    have hP : va_P g.1 vwCl (List.flatten [bMo g o a 1 hi ac 0 ba en tA fl de iD iO tU fm fk fa fc ft ff fb fi2_1]) H := hP
    have hD : va_D A (List.flatten [bMo g o a 1 hi ac 0 ba en tA fl de iD iO tU fm fk fa fc ft ff fb fi2_1]) := hD
    refine lv_aload_n hx hb dX12_liars_19 rfl (lv_at hl 1 rfl) ?_
    refine va_get (D := g.1) (ci := 10) (v := .int 1) (C := RX12) (T := TX12) (N := 20) hx hb hts izRX12 hown hK hP 0 rfl rfl 0 (by decide) (hts _ k825) (fun _ h9 => h9) rfl dX12_liars_20 ?_
    refine lv_if_gt (tgt := 30) hx hb dX12_liars_23 (by decide) (fun _ => ?_) (fun c62 => absurd (by decide) c62)
    refine lv_aload_n hx hb dX12_liars_30 rfl (lv_at hl 1 rfl) ?_
    refine va_get (D := g.1) (ci := 10) (v := .int 1) (C := RX12) (T := TX12) (N := 20) hx hb hts izRX12 hown hK hP 0 rfl rfl 0 (by decide) (hts _ k825) (fun _ h9 => h9) rfl dX12_liars_31 ?_
    refine lv_if_le (tgt := 41) hx hb dX12_liars_34 (by decide) (fun c63 => absurd c63 (by decide)) (fun _ => ?_)
    refine lv_iconst (v := 0) hx hb dX12_liars_37 (by decide) ?_
    refine lv_goto (tgt := 42) hx hb dX12_liars_38 (by decide) ?_
    have hP : va_P g.1 vwCl (List.flatten [bMo g o a 1 hi ac 0 ba en tA fl de iD iO tU fm fk fa fc ft ff fb fi2_1]) H := hP
    have hD : va_D A (List.flatten [bMo g o a 1 hi ac 0 ba en tA fl de iD iO tU fm fk fa fc ft ff fb fi2_1]) := hD
    exact mret_i hx hb hr hlocks hS (Nat.le_of_ble_eq_true rfl) (Nat.le_of_ble_eq_true rfl) dX12_liars_42 (fi2_1, (1 : Int32), (0 : Int32)) rfl (show (1 = 0 ∧ zSaid ft tp.toInt (fm 3).toInt ∧ zLia ft tp.toInt (fm 3).toInt sure.toInt 0 ∨ 1 = 1 ∧ ¬ zSaid ft tp.toInt (fm 3).toInt) from (Or.inr ⟨rfl, hq3_k⟩)) hP hD
