set_option maxRecDepth 100000 in
set_option maxHeartbeats 4000000 in
theorem m_everyV2 (l : Launch) (g : zG) (o : Nat) (a : Nat → Nat) (th : Int32) (hi : Int32) (ac : Int32) (tp : Int32) (en : Int32) (tA : Int32) (iD : Int32) (iO : Int32) (tU : Int32) (fm : Nat → Int32) (fk : Nat → Int32) (fa : Nat → Int32) (fc : Nat → Int32) (ft : Nat → Int32) (ff : Nat → Int32) (fb : Nat → Int32) (fi : Nat → Int32) (tx : Nat → Int32) (ev : Nat → Int32) (b1 : Int) (bv : Bool) (o9 : Bool) (hen : 0 ≤ en.toInt ∧ en.toInt ≤ 400) (htA : 0 ≤ tA.toInt ∧ tA.toInt ≤ en.toInt + 7 - 2) (hde : 0 ≤ 2 ∧ 2 ≤ 6) (hff : ∀ k9 : Nat, k9 < 6 → ff k9 = ev k9) (hdr : iD = zBi (zNz (ev 6))) (how : iO = zBi (zNz (ev 7))) (hc : zCv tx en.toInt (zAv tx en.toInt ev 4) o9 true (zbg tx en.toInt tA.toInt) b1 bv) (htx : ∀ k9 : Nat, (k9 : Int) < en.toInt → fm (379 + k9) = tx k9) : zM' g l yX12_every (Cond.code yX12_every cX12_every 3 (some .boolean) :: zB) ({ frames := 21, cells := 0, slots := 0, locals := 464 } : Room) [.ref o] [bMo g o a th hi ac tp 379 en tA (-1) 2 iD iO tU fm fk fa fc ft ff fb fi] (fun u : Int32 × Int32 × Bool => (fun (at2 : Int32) (q : Int32) (w9 : Bool) => some (.int q)) (u.1) (u.2.1) (u.2.2)) (fun u : Int32 × Int32 × Bool => (fun (at2 : Int32) (q : Int32) (w9 : Bool) => (0 ≤ at2.toInt ∧ at2.toInt ≤ en.toInt + 7 - 2) ∧ (tA.toInt ≤ at2.toInt) ∧ (q = zBi w9) ∧ (zCvE tx en.toInt (zAv tx en.toInt ev 4) o9 w9 (zbg tx en.toInt at2.toInt) b1 bv)) (u.1) (u.2.1) (u.2.2)) (fun u : Int32 × Int32 × Bool => (fun (at2 : Int32) (q : Int32) (w9 : Bool) => [bMo g o a th hi ac tp 379 en at2 (-1) 2 iD iO tU fm fk fa fc ft ff fb fi]) (u.1) (u.2.1) (u.2.2)) := by
  refine zM'.of (cc := cX12_every) (maxL := 3) (rt := (some .boolean)) (by decide) rfl (Nat.le_of_ble_eq_true rfl) ?_
  intro p e s m args below meth c A ls St hr hlocks hin hK hT hA hP hD hS hl
  obtain ⟨hx, hb, hml, hown, hts⟩ := id St
  have hl : lv_has ls 3 [(0, .ref o)] := hl
  obtain ⟨p0, w0, ha0, hm0⟩ := zCv_a hc
  refine lv_aload_n hx hb dX12_every_0 rfl (lv_at hl 0 rfl) ?_
  refine mcallV' (g := g) (q0 := 0) (ci := 10) (As := []) (rest := []) St hK hT hA hP hD hS hl.1 [0] [] rfl rfl rfl (m_atomV2 l g o a th hi ac tp en tA iD iO tU fm fk fa fc ft ff fb fi tx ev p0 w0 hen htA hde hff hdr how (by first | assumption | omega | decide | exact Or.inl (by decide) | exact Or.inr (by decide)) htx) (cwV 0 hts (zgL (zl4 k951 k952 k953 k839) k962) rfl rfl rfl (by decide +kernel) ⟨Nat.le_of_ble_eq_true rfl, Nat.le_of_ble_eq_true rfl⟩) rfl rfl rfl rfl (Nat.le_of_ble_eq_true rfl) dX12_every_1 ⟨(Nat.le_of_ble_eq_true rfl), (Nat.le_of_ble_eq_true rfl)⟩ (fun at2_1 H locs hq2 hP hD hS => ?_)
  replace hq2 : (0 ≤ at2_1.toInt ∧ at2_1.toInt ≤ en.toInt + 7 - 2) ∧ (tA.toInt ≤ at2_1.toInt) ∧ (zbg tx en.toInt at2_1.toInt = p0) := hq2
  have hP : va_P g.1 vwCl (List.flatten [bMo g o a th hi ac tp 379 en at2_1 (-1) 2 iD iO tU fm fk fa fc ft ff fb fi]) H := hP
  have hD : va_D A (List.flatten [bMo g o a th hi ac tp 379 en at2_1 (-1) 2 iD iO tU fm fk fa fc ft ff fb fi]) := hD
  refine W.widen (k := 0) (n := 0) (Nat.le_of_ble_eq_true rfl) (Nat.le_of_ble_eq_true rfl) ?_
  refine W.eq (g2 := F0 m 4 ls [.int (zBi w0)]) rfl ?_
  obtain ⟨hq2_0, hq2_1, hq2_2⟩ := hq2
  refine lv_istore_n (lv' := [(1, .int (zBi w0)), (0, .ref o)]) hx hb dX12_every_4 rfl hl (by decide) rfl (fun ls hl => ?_)
  have hl := lv_sub (l' := [(0, .ref o), (1, .int (zBi w0))]) hl [1, 0] rfl
  have LP5_9 : ∀ (kf : Nat) (x_3 : Int32) (x_4 : Int32), (0 ≤ x_4.toInt ∧ x_4.toInt ≤ 407) → (tA.toInt ≤ x_4.toInt) → (x_4.toInt ≤ en.toInt + 7 - 2) → (∃ a9, x_3 = zBi a9 ∧ zCvM tx en.toInt (zAv tx en.toInt ev 4) o9 a9 (zbg tx en.toInt x_4.toInt) b1 bv) → ∀ (H : Heap) (locs : List Loc) (ls : Array Slot), ((en.toInt + 8 - x_4.toInt).toNat) < kf → va_P g.1 vwCl (List.flatten [bMo g o a th hi ac tp 379 en x_4 (-1) 2 iD iO tU fm fk fa fc ft ff fb fi]) H → va_D A (List.flatten [bMo g o a th hi ac tp 379 en x_4 (-1) 2 iD iO tU fm fk fa fc ft ff fb fi]) → va_S A s.heap H locs → lv_has ls 3 [(0, .ref o), (1, .int x_3)] → W p l e ({ frames := 21, cells := 0, slots := 0, locals := 464 } : Room) s m args below meth c H locs (0) (0) (zF g (fun u : Int32 × Int32 × Bool => (fun (at2 : Int32) (q : Int32) (w9 : Bool) => some (.int q)) (u.1) (u.2.1) (u.2.2)) (fun u : Int32 × Int32 × Bool => (fun (at2 : Int32) (q : Int32) (w9 : Bool) => (0 ≤ at2.toInt ∧ at2.toInt ≤ en.toInt + 7 - 2) ∧ (tA.toInt ≤ at2.toInt) ∧ (q = zBi w9) ∧ (zCvE tx en.toInt (zAv tx en.toInt ev 4) o9 w9 (zbg tx en.toInt at2.toInt) b1 bv)) (u.1) (u.2.1) (u.2.2)) (fun u : Int32 × Int32 × Bool => (fun (at2 : Int32) (q : Int32) (w9 : Bool) => [bMo g o a th hi ac tp 379 en at2 (-1) 2 iD iO tU fm fk fa fc ft ff fb fi]) (u.1) (u.2.1) (u.2.2)) ({ frames := 21, cells := 0, slots := 0, locals := 464 } : Room) below args s A) (F0 m 5 ls []) := by
    intro kf
    induction kf with
    | zero => intro x_3 x_4 i5 i6 i7 i8 H locs ls hk; exact absurd hk (Nat.not_lt_zero _)
    | succ kf ih5_10 =>
      intro x_3 x_4 i5 i6 i7 i8 H locs ls hk5_10 hP hD hS hl
      refine lv_aload_n hx hb dX12_every_5 rfl (lv_at hl 0 rfl) ?_
      refine va_get (D := g.1) (ci := 10) (v := .int (-1)) (C := RX12) (T := TX12) (N := 20) hx hb hts izRX12 hown hK hP 0 rfl rfl 12 (by decide) (hts _ k820) (fun _ h9 => h9) rfl dX12_every_6 ?_
      refine lv_iconst (v := (-1)) hx hb dX12_every_9 (by decide) ?_
      refine lv_icmp_ne (tgt := 44) hx hb dX12_every_10 (by decide) (fun c11 => absurd (by decide) c11) (fun _ => ?_)
      obtain ⟨a12, e13, h14⟩ := i8
      refine lv_aload_n hx hb dX12_every_13 rfl (lv_at hl 0 rfl) ?_
      refine va_ldcS (q := g.2 100) hx hb hown (zra45 hT.2.1) dX12_every_14 ?_
      have hL2 : (2 : Int32).toInt = 2 := by decide
      refine mcallV' (g := g) (q0 := 0) (ci := 10) (As := [.ref (g.2 100)]) (rest := []) St hK hT hA hP hD hS hl.1 [0] [] rfl rfl rfl (m_hasH l g o a th hi ac tp en x_4 (-1) 2 iD iO tU fm fk fa fc ft ff fb fi tx (g.2 100) 45 zqa45 hen (by first | assumption | omega | decide | exact Or.inl (by decide) | exact Or.inr (by decide)) (by decide) htx rfl zla45 zna45 (zlitB zla45)) (cwV 1 hts (zgL (zl4 k899 k900 k901 k839) k889) rfl rfl rfl (by decide +kernel) ⟨Nat.le_of_ble_eq_true rfl, Nat.le_of_ble_eq_true rfl⟩) rfl rfl rfl rfl (Nat.le_of_ble_eq_true rfl) dX12_every_16 ⟨(Nat.le_of_ble_eq_true rfl), (Nat.le_of_ble_eq_true rfl)⟩ (fun u_ H locs hq17 hP hD hS => ?_)
      obtain ⟨at2_15, r_16⟩ := u_
      replace hq17 : (0 ≤ at2_15.toInt ∧ at2_15.toInt ≤ en.toInt + 7 - (2 : Int32).toInt) ∧ (x_4.toInt ≤ at2_15.toInt) ∧ (r_16 = 1 ∧ zisW tx en.toInt (zbg tx en.toInt x_4.toInt) zqa45.2.2.2 ∧ at2_15.toInt = znx tx en.toInt (zbg tx en.toInt x_4.toInt) ∧ x_4.toInt < at2_15.toInt ∧ at2_15.toInt ≤ en.toInt ∨ r_16 = 0 ∧ ¬ zisW tx en.toInt (zbg tx en.toInt x_4.toInt) zqa45.2.2.2 ∧ at2_15.toInt = zbg tx en.toInt x_4.toInt) := hq17
      have hP : va_P g.1 vwCl (List.flatten [bMo g o a th hi ac tp 379 en at2_15 (-1) 2 iD iO tU fm fk fa fc ft ff fb fi]) H := hP
      have hD : va_D A (List.flatten [bMo g o a th hi ac tp 379 en at2_15 (-1) 2 iD iO tU fm fk fa fc ft ff fb fi]) := hD
      refine W.widen (k := 0) (n := 0) (Nat.le_of_ble_eq_true rfl) (Nat.le_of_ble_eq_true rfl) ?_
      refine W.eq (g2 := F0 m 19 ls [.int r_16]) rfl ?_
      obtain ⟨hq17_0, hq17_1, hq17_2⟩ := hq17
      rcases hq17_2 with ⟨rfl, hq17_k, hq17_km⟩ | ⟨rfl, hq17_k, hq17_km⟩
      · skip
        refine lv_if_eq (tgt := 44) hx hb dX12_every_19 (by decide) (fun c18 => absurd c18 (by decide)) (fun _ => ?_)
        obtain ⟨p19, w20, h21, m22⟩ := zCv_a (zCvM_y h14 hq17_k)
        have h21 := zAv_b h21 (show zbg tx en.toInt at2_15.toInt = _ from zbt hq17_km.1)
        refine lv_aload_n hx hb dX12_every_22 rfl (lv_at hl 0 rfl) ?_
        refine mcallV' (g := g) (q0 := 0) (ci := 10) (As := []) (rest := []) St hK hT hA hP hD hS hl.1 [0] [] rfl rfl rfl (m_atomV2 l g o a th hi ac tp en at2_15 iD iO tU fm fk fa fc ft ff fb fi tx ev p19 w20 hen (by first | assumption | omega | decide | exact Or.inl (by decide) | exact Or.inr (by decide)) hde hff hdr how (by first | assumption | omega | decide | exact Or.inl (by decide) | exact Or.inr (by decide)) htx) (cwV 0 hts (zgL (zl4 k951 k952 k953 k839) k962) rfl rfl rfl (by decide +kernel) ⟨Nat.le_of_ble_eq_true rfl, Nat.le_of_ble_eq_true rfl⟩) rfl rfl rfl rfl (Nat.le_of_ble_eq_true rfl) dX12_every_23 ⟨(Nat.le_of_ble_eq_true rfl), (Nat.le_of_ble_eq_true rfl)⟩ (fun at2_23 H locs hq24 hP hD hS => ?_)
        replace hq24 : (0 ≤ at2_23.toInt ∧ at2_23.toInt ≤ en.toInt + 7 - 2) ∧ (at2_15.toInt ≤ at2_23.toInt) ∧ (zbg tx en.toInt at2_23.toInt = p19) := hq24
        have hP : va_P g.1 vwCl (List.flatten [bMo g o a th hi ac tp 379 en at2_23 (-1) 2 iD iO tU fm fk fa fc ft ff fb fi]) H := hP
        have hD : va_D A (List.flatten [bMo g o a th hi ac tp 379 en at2_23 (-1) 2 iD iO tU fm fk fa fc ft ff fb fi]) := hD
        refine W.widen (k := 0) (n := 0) (Nat.le_of_ble_eq_true rfl) (Nat.le_of_ble_eq_true rfl) ?_
        refine W.eq (g2 := F0 m 26 ls [.int (zBi w20)]) rfl ?_
        obtain ⟨hq24_0, hq24_1, hq24_2⟩ := hq24
        refine lv_istore_n (lv' := [(2, .int (zBi w20)), (0, .ref o), (1, .int x_3)]) hx hb dX12_every_26 rfl hl (by decide) rfl (fun ls hl => ?_)
        refine lv_iload_n hx hb dX12_every_27 rfl (lv_at hl 2 rfl) ?_
        refine lv_if_eq (tgt := 39) hx hb dX12_every_28 (by decide) (fun cb9 => ?_) (fun cb9 => ?_)
        · skip
          have c25 : x_3.toInt = 0 := zeq cb9 rfl (by decide)
          have n26 : 0 ≤ x_3.toInt := Int.le_trans (Int.le_refl _) (Int.le_of_eq c25.symm)
          have n27 : x_3.toInt ≤ 0 := Int.le_trans (Int.le_of_eq c25) (Int.le_refl _)
          refine lv_iconst (v := 0) hx hb dX12_every_39 (by decide) ?_
          refine lv_istore_n (lv' := [(1, .int 0), (2, .int (zBi w20)), (0, .ref o)]) hx hb dX12_every_40 rfl hl (by decide) rfl (fun ls hl => ?_)
          refine lv_goto (tgt := 5) hx hb dX12_every_41 (by decide) ?_
          have hl := lv_sub (l' := [(0, .ref o), (1, .int 0), (2, .int (zBi w20))]) hl [2, 0, 1] rfl
          have hL0 : (0 : Int32).toInt = 0 := by decide
          have hP : va_P g.1 vwCl (List.flatten [bMo g o a th hi ac tp 379 en at2_23 (-1) 2 iD iO tU fm fk fa fc ft ff fb fi]) H := hP
          have hD : va_D A (List.flatten [bMo g o a th hi ac tp 379 en at2_23 (-1) 2 iD iO tU fm fk fa fc ft ff fb fi]) := hD
          exact ih5_10 0 at2_23 (by first | omega | assumption | decide) (by first | omega | assumption | decide) (by first | omega | assumption | decide) ⟨(a12 && w20), (zBiA0 (by rw [← e13]; omega)), zCM_b m22 hq24_2⟩ H _ ls (by omega)  hP hD hS (lv_sub hl [0, 1] rfl)
        · skip
          have c28 : ¬ x_3.toInt = 0 := zne cb9 rfl (by decide)
          refine lv_iload_n hx hb dX12_every_31 rfl (lv_at hl 0 rfl) ?_
          refine lv_if_eq (tgt := 39) hx hb dX12_every_32 (by decide) (fun cb9 => ?_) (fun cb9 => ?_)
          · skip
            have c29 : (zBi w20).toInt = 0 := zeq cb9 rfl (by decide)
            have n30 : 0 ≤ (zBi w20).toInt := Int.le_trans (Int.le_refl _) (Int.le_of_eq c29.symm)
            have n31 : (zBi w20).toInt ≤ 0 := Int.le_trans (Int.le_of_eq c29) (Int.le_refl _)
            refine lv_iconst (v := 0) hx hb dX12_every_39 (by decide) ?_
            refine lv_istore_n (lv' := [(1, .int 0), (2, .int (zBi w20)), (0, .ref o)]) hx hb dX12_every_40 rfl hl (by decide) rfl (fun ls hl => ?_)
            refine lv_goto (tgt := 5) hx hb dX12_every_41 (by decide) ?_
            have hl := lv_sub (l' := [(0, .ref o), (1, .int 0), (2, .int (zBi w20))]) hl [2, 0, 1] rfl
            have hL0 : (0 : Int32).toInt = 0 := by decide
            have hP : va_P g.1 vwCl (List.flatten [bMo g o a th hi ac tp 379 en at2_23 (-1) 2 iD iO tU fm fk fa fc ft ff fb fi]) H := hP
            have hD : va_D A (List.flatten [bMo g o a th hi ac tp 379 en at2_23 (-1) 2 iD iO tU fm fk fa fc ft ff fb fi]) := hD
            exact ih5_10 0 at2_23 (by first | omega | assumption | decide) (by first | omega | assumption | decide) (by first | omega | assumption | decide) ⟨(a12 && w20), (zBiA1 (by omega)), zCM_b m22 hq24_2⟩ H _ ls (by omega)  hP hD hS (lv_sub hl [0, 1] rfl)
          · skip
            have c32 : ¬ (zBi w20).toInt = 0 := zne cb9 rfl (by decide)
            refine lv_iconst (v := 1) hx hb dX12_every_35 (by decide) ?_
            refine lv_goto (tgt := 40) hx hb dX12_every_36 (by decide) ?_
            refine lv_istore_n (lv' := [(1, .int 1), (2, .int (zBi w20)), (0, .ref o)]) hx hb dX12_every_40 rfl hl (by decide) rfl (fun ls hl => ?_)
            refine lv_goto (tgt := 5) hx hb dX12_every_41 (by decide) ?_
            have hl := lv_sub (l' := [(0, .ref o), (1, .int 1), (2, .int (zBi w20))]) hl [2, 0, 1] rfl
            have hL1 : (1 : Int32).toInt = 1 := by decide
            have hP : va_P g.1 vwCl (List.flatten [bMo g o a th hi ac tp 379 en at2_23 (-1) 2 iD iO tU fm fk fa fc ft ff fb fi]) H := hP
            have hD : va_D A (List.flatten [bMo g o a th hi ac tp 379 en at2_23 (-1) 2 iD iO tU fm fk fa fc ft ff fb fi]) := hD
            exact ih5_10 1 at2_23 (by first | omega | assumption | decide) (by first | omega | assumption | decide) (by first | omega | assumption | decide) ⟨(a12 && w20), (zBiA (by rw [← e13]; omega) (by omega)), zCM_b m22 hq24_2⟩ H _ ls (by omega)  hP hD hS (lv_sub hl [0, 1] rfl)
      · skip
        refine lv_if_eq (tgt := 44) hx hb dX12_every_19 (by decide) (fun _ => ?_) (fun c33 => absurd (by decide) c33)
        refine lv_iload_n hx hb dX12_every_44 rfl (lv_at hl 1 rfl) ?_
        have hP : va_P g.1 vwCl (List.flatten [bMo g o a th hi ac tp 379 en at2_15 (-1) 2 iD iO tU fm fk fa fc ft ff fb fi]) H := hP
        have hD : va_D A (List.flatten [bMo g o a th hi ac tp 379 en at2_15 (-1) 2 iD iO tU fm fk fa fc ft ff fb fi]) := hD
        exact mret_z hx hb hr hlocks hS (Nat.le_of_ble_eq_true rfl) (Nat.le_of_ble_eq_true rfl) dX12_every_45 (at2_15, x_3, a12) rfl (zb01 (by rw [e13]; exact zBi_01 _)) (show (0 ≤ at2_15.toInt ∧ at2_15.toInt ≤ en.toInt + 7 - 2) ∧ (tA.toInt ≤ at2_15.toInt) ∧ (x_3 = zBi a12) ∧ (zCvE tx en.toInt (zAv tx en.toInt ev 4) o9 a12 (zbg tx en.toInt at2_15.toInt) b1 bv) from ⟨(by first | assumption | omega | decide), (by first | assumption | omega | decide), e13, zCE_b (zCvM_n h14 hq17_k) (zbz hq17_km)⟩) hP hD
  have hP : va_P g.1 vwCl (List.flatten [bMo g o a th hi ac tp 379 en at2_1 (-1) 2 iD iO tU fm fk fa fc ft ff fb fi]) H := hP
  have hD : va_D A (List.flatten [bMo g o a th hi ac tp 379 en at2_1 (-1) 2 iD iO tU fm fk fa fc ft ff fb fi]) := hD
  exact LP5_9 _ (zBi w0) at2_1 (by first | omega | assumption | decide) hq2_1 (by first | omega | assumption | decide) ⟨w0, rfl, zCvM_w (zCM_b hm0 hq2_2)⟩ H _ ls (Nat.lt_succ_self _)  hP hD hS (lv_sub hl [0, 1] rfl)
set_option maxRecDepth 100000 in
set_option maxHeartbeats 4000000 in
theorem m_someV2 (l : Launch) (g : zG) (o : Nat) (a : Nat → Nat) (th : Int32) (hi : Int32) (ac : Int32) (tp : Int32) (en : Int32) (tA : Int32) (iD : Int32) (iO : Int32) (tU : Int32) (fm : Nat → Int32) (fk : Nat → Int32) (fa : Nat → Int32) (fc : Nat → Int32) (ft : Nat → Int32) (ff : Nat → Int32) (fb : Nat → Int32) (fi : Nat → Int32) (tx : Nat → Int32) (ev : Nat → Int32) (b1 : Int) (bv : Bool) (hen : 0 ≤ en.toInt ∧ en.toInt ≤ 400) (htA : 0 ≤ tA.toInt ∧ tA.toInt ≤ en.toInt + 7 - 2) (hde : 0 ≤ 2 ∧ 2 ≤ 6) (hff : ∀ k9 : Nat, k9 < 6 → ff k9 = ev k9) (hdr : iD = zBi (zNz (ev 6))) (how : iO = zBi (zNz (ev 7))) (hc : zCv tx en.toInt (zAv tx en.toInt ev 4) false true (zbg tx en.toInt tA.toInt) b1 bv) (htx : ∀ k9 : Nat, (k9 : Int) < en.toInt → fm (379 + k9) = tx k9) : zM' g l yX12_some (Cond.code yX12_some cX12_some 3 (some .boolean) :: zB) ({ frames := 22, cells := 0, slots := 0, locals := 486 } : Room) [.ref o] [bMo g o a th hi ac tp 379 en tA (-1) 2 iD iO tU fm fk fa fc ft ff fb fi] (fun (at2 : Int32) => some (.int (zBi bv))) (fun (at2 : Int32) => (0 ≤ at2.toInt ∧ at2.toInt ≤ en.toInt + 7 - 2) ∧ (tA.toInt ≤ at2.toInt) ∧ (zbg tx en.toInt at2.toInt = b1)) (fun (at2 : Int32) => [bMo g o a th hi ac tp 379 en at2 (-1) 2 iD iO tU fm fk fa fc ft ff fb fi]) := by
  refine zM'.of (cc := cX12_some) (maxL := 3) (rt := (some .boolean)) (by decide) rfl (Nat.le_of_ble_eq_true rfl) ?_
  intro p e s m args below meth c A ls St hr hlocks hin hK hT hA hP hD hS hl
  obtain ⟨hx, hb, hml, hown, hts⟩ := id St
  have hl : lv_has ls 3 [(0, .ref o)] := hl
  refine lv_aload_n hx hb dX12_some_0 rfl (lv_at hl 0 rfl) ?_
  refine mcallV' (g := g) (q0 := 0) (ci := 10) (As := []) (rest := []) St hK hT hA hP hD hS hl.1 [0] [] rfl rfl rfl (m_everyV2 l g o a th hi ac tp en tA iD iO tU fm fk fa fc ft ff fb fi tx ev b1 bv false hen htA hde hff hdr how hc htx) (cwV 0 hts (zgL (zl4 k959 k960 k961 k839) k957) rfl rfl rfl (by decide +kernel) ⟨Nat.le_of_ble_eq_true rfl, Nat.le_of_ble_eq_true rfl⟩) rfl rfl rfl rfl (Nat.le_of_ble_eq_true rfl) dX12_some_1 ⟨(Nat.le_of_ble_eq_true rfl), (Nat.le_of_ble_eq_true rfl)⟩ (fun u_ H locs hq4 hP hD hS => ?_)
  obtain ⟨at2_1, q_2, w9_3⟩ := u_
  replace hq4 : (0 ≤ at2_1.toInt ∧ at2_1.toInt ≤ en.toInt + 7 - 2) ∧ (tA.toInt ≤ at2_1.toInt) ∧ (q_2 = zBi w9_3) ∧ (zCvE tx en.toInt (zAv tx en.toInt ev 4) false w9_3 (zbg tx en.toInt at2_1.toInt) b1 bv) := hq4
  have hP : va_P g.1 vwCl (List.flatten [bMo g o a th hi ac tp 379 en at2_1 (-1) 2 iD iO tU fm fk fa fc ft ff fb fi]) H := hP
  have hD : va_D A (List.flatten [bMo g o a th hi ac tp 379 en at2_1 (-1) 2 iD iO tU fm fk fa fc ft ff fb fi]) := hD
  refine W.widen (k := 0) (n := 0) (Nat.le_of_ble_eq_true rfl) (Nat.le_of_ble_eq_true rfl) ?_
  refine W.eq (g2 := F0 m 4 ls [.int q_2]) rfl ?_
  obtain ⟨hq4_0, hq4_1, hq4_2, hq4_3⟩ := hq4
  refine lv_istore_n (lv' := [(1, .int q_2), (0, .ref o)]) hx hb dX12_some_4 rfl hl (by decide) rfl (fun ls hl => ?_)
  have hl := lv_sub (l' := [(0, .ref o), (1, .int q_2)]) hl [1, 0] rfl
  have LP5_11 : ∀ (kf : Nat) (x_5 : Int32) (x_6 : Int32), (0 ≤ x_6.toInt ∧ x_6.toInt ≤ 407) → (tA.toInt ≤ x_6.toInt) → (x_6.toInt ≤ en.toInt + 7 - 2) → (∃ a9, x_5 = zBi a9 ∧ zCvO tx en.toInt (zAv tx en.toInt ev 4) a9 (zbg tx en.toInt x_6.toInt) b1 bv) → ∀ (H : Heap) (locs : List Loc) (ls : Array Slot), ((en.toInt + 8 - x_6.toInt).toNat) < kf → va_P g.1 vwCl (List.flatten [bMo g o a th hi ac tp 379 en x_6 (-1) 2 iD iO tU fm fk fa fc ft ff fb fi]) H → va_D A (List.flatten [bMo g o a th hi ac tp 379 en x_6 (-1) 2 iD iO tU fm fk fa fc ft ff fb fi]) → va_S A s.heap H locs → lv_has ls 3 [(0, .ref o), (1, .int x_5)] → W p l e ({ frames := 22, cells := 0, slots := 0, locals := 486 } : Room) s m args below meth c H locs (0) (0) (zF g (fun (at2 : Int32) => some (.int (zBi bv))) (fun (at2 : Int32) => (0 ≤ at2.toInt ∧ at2.toInt ≤ en.toInt + 7 - 2) ∧ (tA.toInt ≤ at2.toInt) ∧ (zbg tx en.toInt at2.toInt = b1)) (fun (at2 : Int32) => [bMo g o a th hi ac tp 379 en at2 (-1) 2 iD iO tU fm fk fa fc ft ff fb fi]) ({ frames := 22, cells := 0, slots := 0, locals := 486 } : Room) below args s A) (F0 m 5 ls []) := by
    intro kf
    induction kf with
    | zero => intro x_5 x_6 i7 i8 i9 i10 H locs ls hk; exact absurd hk (Nat.not_lt_zero _)
    | succ kf ih5_12 =>
      intro x_5 x_6 i7 i8 i9 i10 H locs ls hk5_12 hP hD hS hl
      refine lv_aload_n hx hb dX12_some_5 rfl (lv_at hl 0 rfl) ?_
      refine va_get (D := g.1) (ci := 10) (v := .int (-1)) (C := RX12) (T := TX12) (N := 20) hx hb hts izRX12 hown hK hP 0 rfl rfl 12 (by decide) (hts _ k820) (fun _ h9 => h9) rfl dX12_some_6 ?_
      refine lv_iconst (v := (-1)) hx hb dX12_some_9 (by decide) ?_
      refine lv_icmp_ne (tgt := 44) hx hb dX12_some_10 (by decide) (fun c13 => absurd (by decide) c13) (fun _ => ?_)
      obtain ⟨a14, e15, h16⟩ := i10
      refine lv_aload_n hx hb dX12_some_13 rfl (lv_at hl 0 rfl) ?_
      refine va_ldcS (q := g.2 102) hx hb hown (zra46 hT.2.1) dX12_some_14 ?_
      have hL2 : (2 : Int32).toInt = 2 := by decide
      refine mcallV' (g := g) (q0 := 0) (ci := 10) (As := [.ref (g.2 102)]) (rest := []) St hK hT hA hP hD hS hl.1 [0] [] rfl rfl rfl (m_hasH l g o a th hi ac tp en x_6 (-1) 2 iD iO tU fm fk fa fc ft ff fb fi tx (g.2 102) 46 zqa46 hen (by first | assumption | omega | decide | exact Or.inl (by decide) | exact Or.inr (by decide)) (by decide) htx rfl zla46 zna46 (zlitB zla46)) (cwV 1 hts (zgL (zl4 k899 k900 k901 k839) k889) rfl rfl rfl (by decide +kernel) ⟨Nat.le_of_ble_eq_true rfl, Nat.le_of_ble_eq_true rfl⟩) rfl rfl rfl rfl (Nat.le_of_ble_eq_true rfl) dX12_some_16 ⟨(Nat.le_of_ble_eq_true rfl), (Nat.le_of_ble_eq_true rfl)⟩ (fun u_ H locs hq19 hP hD hS => ?_)
      obtain ⟨at2_17, r_18⟩ := u_
      replace hq19 : (0 ≤ at2_17.toInt ∧ at2_17.toInt ≤ en.toInt + 7 - (2 : Int32).toInt) ∧ (x_6.toInt ≤ at2_17.toInt) ∧ (r_18 = 1 ∧ zisW tx en.toInt (zbg tx en.toInt x_6.toInt) zqa46.2.2.2 ∧ at2_17.toInt = znx tx en.toInt (zbg tx en.toInt x_6.toInt) ∧ x_6.toInt < at2_17.toInt ∧ at2_17.toInt ≤ en.toInt ∨ r_18 = 0 ∧ ¬ zisW tx en.toInt (zbg tx en.toInt x_6.toInt) zqa46.2.2.2 ∧ at2_17.toInt = zbg tx en.toInt x_6.toInt) := hq19
      have hP : va_P g.1 vwCl (List.flatten [bMo g o a th hi ac tp 379 en at2_17 (-1) 2 iD iO tU fm fk fa fc ft ff fb fi]) H := hP
      have hD : va_D A (List.flatten [bMo g o a th hi ac tp 379 en at2_17 (-1) 2 iD iO tU fm fk fa fc ft ff fb fi]) := hD
      refine W.widen (k := 0) (n := 0) (Nat.le_of_ble_eq_true rfl) (Nat.le_of_ble_eq_true rfl) ?_
      refine W.eq (g2 := F0 m 19 ls [.int r_18]) rfl ?_
      obtain ⟨hq19_0, hq19_1, hq19_2⟩ := hq19
      rcases hq19_2 with ⟨rfl, hq19_k, hq19_km⟩ | ⟨rfl, hq19_k, hq19_km⟩
      · skip
        refine lv_if_eq (tgt := 44) hx hb dX12_some_19 (by decide) (fun c20 => absurd c20 (by decide)) (fun _ => ?_)
        have h21 := zCv_b (zCvO_y h16 hq19_k) (show zbg tx en.toInt at2_17.toInt = _ from zbt hq19_km.1)
        refine lv_aload_n hx hb dX12_some_22 rfl (lv_at hl 0 rfl) ?_
        refine mcallV' (g := g) (q0 := 0) (ci := 10) (As := []) (rest := []) St hK hT hA hP hD hS hl.1 [0] [] rfl rfl rfl (m_everyV2 l g o a th hi ac tp en at2_17 iD iO tU fm fk fa fc ft ff fb fi tx ev b1 bv a14 hen (by first | assumption | omega | decide | exact Or.inl (by decide) | exact Or.inr (by decide)) hde hff hdr how (by first | assumption | omega | decide | exact Or.inl (by decide) | exact Or.inr (by decide)) htx) (cwV 0 hts (zgL (zl4 k959 k960 k961 k839) k957) rfl rfl rfl (by decide +kernel) ⟨Nat.le_of_ble_eq_true rfl, Nat.le_of_ble_eq_true rfl⟩) rfl rfl rfl rfl (Nat.le_of_ble_eq_true rfl) dX12_some_23 ⟨(Nat.le_of_ble_eq_true rfl), (Nat.le_of_ble_eq_true rfl)⟩ (fun u_ H locs hq25 hP hD hS => ?_)
        obtain ⟨at2_22, q_23, w9_24⟩ := u_
        replace hq25 : (0 ≤ at2_22.toInt ∧ at2_22.toInt ≤ en.toInt + 7 - 2) ∧ (at2_17.toInt ≤ at2_22.toInt) ∧ (q_23 = zBi w9_24) ∧ (zCvE tx en.toInt (zAv tx en.toInt ev 4) a14 w9_24 (zbg tx en.toInt at2_22.toInt) b1 bv) := hq25
        have hP : va_P g.1 vwCl (List.flatten [bMo g o a th hi ac tp 379 en at2_22 (-1) 2 iD iO tU fm fk fa fc ft ff fb fi]) H := hP
        have hD : va_D A (List.flatten [bMo g o a th hi ac tp 379 en at2_22 (-1) 2 iD iO tU fm fk fa fc ft ff fb fi]) := hD
        refine W.widen (k := 0) (n := 0) (Nat.le_of_ble_eq_true rfl) (Nat.le_of_ble_eq_true rfl) ?_
        refine W.eq (g2 := F0 m 26 ls [.int q_23]) rfl ?_
        obtain ⟨hq25_0, hq25_1, hq25_2, hq25_3⟩ := hq25
        refine lv_istore_n (lv' := [(2, .int q_23), (0, .ref o), (1, .int x_5)]) hx hb dX12_some_26 rfl hl (by decide) rfl (fun ls hl => ?_)
        refine lv_iload_n hx hb dX12_some_27 rfl (lv_at hl 2 rfl) ?_
        refine lv_if_ne (tgt := 35) hx hb dX12_some_28 (by decide) (fun cb9 => ?_) (fun cb9 => ?_)
        · skip
          have c26 : ¬ x_5.toInt = 0 := zne cb9 rfl (by decide)
          refine lv_iconst (v := 1) hx hb dX12_some_35 (by decide) ?_
          refine lv_goto (tgt := 40) hx hb dX12_some_36 (by decide) ?_
          refine lv_istore_n (lv' := [(1, .int 1), (2, .int q_23), (0, .ref o)]) hx hb dX12_some_40 rfl hl (by decide) rfl (fun ls hl => ?_)
          refine lv_goto (tgt := 5) hx hb dX12_some_41 (by decide) ?_
          have hl := lv_sub (l' := [(0, .ref o), (1, .int 1), (2, .int q_23)]) hl [2, 0, 1] rfl
          have hL1 : (1 : Int32).toInt = 1 := by decide
          have hP : va_P g.1 vwCl (List.flatten [bMo g o a th hi ac tp 379 en at2_22 (-1) 2 iD iO tU fm fk fa fc ft ff fb fi]) H := hP
          have hD : va_D A (List.flatten [bMo g o a th hi ac tp 379 en at2_22 (-1) 2 iD iO tU fm fk fa fc ft ff fb fi]) := hD
          exact ih5_12 1 at2_22 (by first | omega | assumption | decide) (by first | omega | assumption | decide) (by first | omega | assumption | decide) ⟨_, (zBo1 (by rw [← e15]; omega)), zCvE_o hq25_3⟩ H _ ls (by omega)  hP hD hS (lv_sub hl [0, 1] rfl)
        · skip
          have c27 : x_5.toInt = 0 := zeq cb9 rfl (by decide)
          have n28 : 0 ≤ x_5.toInt := Int.le_trans (Int.le_refl _) (Int.le_of_eq c27.symm)
          have n29 : x_5.toInt ≤ 0 := Int.le_trans (Int.le_of_eq c27) (Int.le_refl _)
          refine lv_iload_n hx hb dX12_some_31 rfl (lv_at hl 0 rfl) ?_
          refine lv_if_eq (tgt := 39) hx hb dX12_some_32 (by decide) (fun cb9 => ?_) (fun cb9 => ?_)
          · skip
            have c30 : q_23.toInt = 0 := zeq cb9 rfl (by decide)
            have n31 : 0 ≤ q_23.toInt := Int.le_trans (Int.le_refl _) (Int.le_of_eq c30.symm)
            have n32 : q_23.toInt ≤ 0 := Int.le_trans (Int.le_of_eq c30) (Int.le_refl _)
            refine lv_iconst (v := 0) hx hb dX12_some_39 (by decide) ?_
            refine lv_istore_n (lv' := [(1, .int 0), (2, .int q_23), (0, .ref o)]) hx hb dX12_some_40 rfl hl (by decide) rfl (fun ls hl => ?_)
            refine lv_goto (tgt := 5) hx hb dX12_some_41 (by decide) ?_
            have hl := lv_sub (l' := [(0, .ref o), (1, .int 0), (2, .int q_23)]) hl [2, 0, 1] rfl
            have hL0 : (0 : Int32).toInt = 0 := by decide
            have hP : va_P g.1 vwCl (List.flatten [bMo g o a th hi ac tp 379 en at2_22 (-1) 2 iD iO tU fm fk fa fc ft ff fb fi]) H := hP
            have hD : va_D A (List.flatten [bMo g o a th hi ac tp 379 en at2_22 (-1) 2 iD iO tU fm fk fa fc ft ff fb fi]) := hD
            exact ih5_12 0 at2_22 (by first | omega | assumption | decide) (by first | omega | assumption | decide) (by first | omega | assumption | decide) ⟨_, (zBo0 (by rw [← e15]; omega) (by rw [← hq25_2]; omega)), zCvE_o hq25_3⟩ H _ ls (by omega)  hP hD hS (lv_sub hl [0, 1] rfl)
          · skip
            have c33 : ¬ q_23.toInt = 0 := zne cb9 rfl (by decide)
            refine lv_iconst (v := 1) hx hb dX12_some_35 (by decide) ?_
            refine lv_goto (tgt := 40) hx hb dX12_some_36 (by decide) ?_
            refine lv_istore_n (lv' := [(1, .int 1), (2, .int q_23), (0, .ref o)]) hx hb dX12_some_40 rfl hl (by decide) rfl (fun ls hl => ?_)
            refine lv_goto (tgt := 5) hx hb dX12_some_41 (by decide) ?_
            have hl := lv_sub (l' := [(0, .ref o), (1, .int 1), (2, .int q_23)]) hl [2, 0, 1] rfl
            have hL1 : (1 : Int32).toInt = 1 := by decide
            have hP : va_P g.1 vwCl (List.flatten [bMo g o a th hi ac tp 379 en at2_22 (-1) 2 iD iO tU fm fk fa fc ft ff fb fi]) H := hP
            have hD : va_D A (List.flatten [bMo g o a th hi ac tp 379 en at2_22 (-1) 2 iD iO tU fm fk fa fc ft ff fb fi]) := hD
            exact ih5_12 1 at2_22 (by first | omega | assumption | decide) (by first | omega | assumption | decide) (by first | omega | assumption | decide) ⟨_, (zBo2 (by rw [← hq25_2]; omega)), zCvE_o hq25_3⟩ H _ ls (by omega)  hP hD hS (lv_sub hl [0, 1] rfl)
      · skip
        refine lv_if_eq (tgt := 44) hx hb dX12_some_19 (by decide) (fun _ => ?_) (fun c34 => absurd (by decide) c34)
        refine lv_iload_n hx hb dX12_some_44 rfl (lv_at hl 1 rfl) ?_
        refine ztop (r := (zBi bv)) (by rw [(zCvO_n h16 hq19_k).2]; exact e15) ?_
        have hP : va_P g.1 vwCl (List.flatten [bMo g o a th hi ac tp 379 en at2_17 (-1) 2 iD iO tU fm fk fa fc ft ff fb fi]) H := hP
        have hD : va_D A (List.flatten [bMo g o a th hi ac tp 379 en at2_17 (-1) 2 iD iO tU fm fk fa fc ft ff fb fi]) := hD
        exact mret_z hx hb hr hlocks hS (Nat.le_of_ble_eq_true rfl) (Nat.le_of_ble_eq_true rfl) dX12_some_45 (at2_17) rfl (zb01 (zBi_01 _)) (show (0 ≤ at2_17.toInt ∧ at2_17.toInt ≤ en.toInt + 7 - 2) ∧ (tA.toInt ≤ at2_17.toInt) ∧ (zbg tx en.toInt at2_17.toInt = b1) from ⟨(by first | assumption | omega | decide), (by first | assumption | omega | decide), ((zbz hq19_km).trans (zCvO_n h16 hq19_k).1.symm)⟩) hP hD
  have hP : va_P g.1 vwCl (List.flatten [bMo g o a th hi ac tp 379 en at2_1 (-1) 2 iD iO tU fm fk fa fc ft ff fb fi]) H := hP
  have hD : va_D A (List.flatten [bMo g o a th hi ac tp 379 en at2_1 (-1) 2 iD iO tU fm fk fa fc ft ff fb fi]) := hD
  exact LP5_11 _ q_2 at2_1 (by first | omega | assumption | decide) hq4_1 (by first | omega | assumption | decide) ⟨_, hq4_2, zCvO_w (zCvE_o hq4_3)⟩ H _ ls (Nat.lt_succ_self _)  hP hD hS (lv_sub hl [0, 1] rfl)
set_option maxRecDepth 100000 in
set_option maxHeartbeats 4000000 in
theorem m_atomV1 (l : Launch) (g : zG) (o : Nat) (a : Nat → Nat) (th : Int32) (hi : Int32) (ac : Int32) (tp : Int32) (en : Int32) (tA : Int32) (iD : Int32) (iO : Int32) (tU : Int32) (fm : Nat → Int32) (fk : Nat → Int32) (fa : Nat → Int32) (fc : Nat → Int32) (ft : Nat → Int32) (ff : Nat → Int32) (fb : Nat → Int32) (fi : Nat → Int32) (tx : Nat → Int32) (ev : Nat → Int32) (b1 : Int) (bv : Bool) (hen : 0 ≤ en.toInt ∧ en.toInt ≤ 400) (htA : 0 ≤ tA.toInt ∧ tA.toInt ≤ en.toInt + 7 - 1) (hde : 0 ≤ 1 ∧ 1 ≤ 6) (hff : ∀ k9 : Nat, k9 < 6 → ff k9 = ev k9) (hdr : iD = zBi (zNz (ev 6))) (how : iO = zBi (zNz (ev 7))) (ha : zAv tx en.toInt ev 5 (zbg tx en.toInt tA.toInt) b1 bv) (htx : ∀ k9 : Nat, (k9 : Int) < en.toInt → fm (379 + k9) = tx k9) : zM' g l yX12_atom (Cond.code yX12_atom cX12_atom 4 (some .boolean) :: zB) ({ frames := 23, cells := 0, slots := 0, locals := 508 } : Room) [.ref o] [bMo g o a th hi ac tp 379 en tA (-1) 1 iD iO tU fm fk fa fc ft ff fb fi] (fun (at2 : Int32) => some (.int (zBi bv))) (fun (at2 : Int32) => (0 ≤ at2.toInt ∧ at2.toInt ≤ en.toInt + 7 - 1) ∧ (tA.toInt ≤ at2.toInt) ∧ (zbg tx en.toInt at2.toInt = b1)) (fun (at2 : Int32) => [bMo g o a th hi ac tp 379 en at2 (-1) 1 iD iO tU fm fk fa fc ft ff fb fi]) := by
  refine zM'.of (cc := cX12_atom) (maxL := 4) (rt := (some .boolean)) (by decide) rfl (Nat.le_of_ble_eq_true rfl) ?_
  intro p e s m args below meth c A ls St hr hlocks hin hK hT hA hP hD hS hl
  obtain ⟨hx, hb, hml, hown, hts⟩ := id St
  have hl : lv_has ls 4 [(0, .ref o)] := hl
  refine lv_aload_n hx hb dX12_atom_0 rfl (lv_at hl 0 rfl) ?_
  refine va_get (D := g.1) (ci := 10) (v := .int (-1)) (C := RX12) (T := TX12) (N := 20) hx hb hts izRX12 hown hK hP 0 rfl rfl 12 (by decide) (hts _ k820) (fun _ h9 => h9) rfl dX12_atom_1 ?_
  refine lv_iconst (v := (-1)) hx hb dX12_atom_4 (by decide) ?_
  refine lv_icmp_eq (tgt := 10) hx hb dX12_atom_5 (by decide) (fun _ => ?_) (fun c1 => absurd (by decide) c1)
  refine lv_aload_n hx hb dX12_atom_10 rfl (lv_at hl 0 rfl) ?_
  have hL1 : (1 : Int32).toInt = 1 := by decide
  refine mcallV' (g := g) (q0 := 0) (ci := 10) (As := []) (rest := []) St hK hT hA hP hD hS hl.1 [0] [] rfl rfl rfl (m_hereH l g o a th hi ac tp en tA (-1) 1 iD iO tU fm fk fa fc ft ff fb fi tx hen (by first | assumption | omega | decide | exact Or.inl (by decide) | exact Or.inr (by decide)) (by decide) htx) (cwV 0 hts (zgL (zl4 k892 k893 k894 k839) k891) rfl rfl rfl (by decide +kernel) ⟨Nat.le_of_ble_eq_true rfl, Nat.le_of_ble_eq_true rfl⟩) rfl rfl rfl rfl (Nat.le_of_ble_eq_true rfl) dX12_atom_11 ⟨(Nat.le_of_ble_eq_true rfl), (Nat.le_of_ble_eq_true rfl)⟩ (fun at2_2 H locs hq3 hP hD hS => ?_)
  replace hq3 : (0 ≤ at2_2.toInt ∧ at2_2.toInt ≤ en.toInt + 7 - (1 : Int32).toInt) ∧ (tA.toInt ≤ at2_2.toInt) ∧ (zSk tx en.toInt tA.toInt at2_2.toInt) := hq3
  have hP : va_P g.1 vwCl (List.flatten [bMo g o a th hi ac tp 379 en at2_2 (-1) 1 iD iO tU fm fk fa fc ft ff fb fi]) H := hP
  have hD : va_D A (List.flatten [bMo g o a th hi ac tp 379 en at2_2 (-1) 1 iD iO tU fm fk fa fc ft ff fb fi]) := hD
  refine W.widen (k := 0) (n := 0) (Nat.le_of_ble_eq_true rfl) (Nat.le_of_ble_eq_true rfl) ?_
  refine W.eq (g2 := F0 m 14 ls [.int at2_2]) rfl ?_
  obtain ⟨hq3_0, hq3_1, hq3_2⟩ := hq3
  refine lv_istore_n (lv' := [(1, .int at2_2), (0, .ref o)]) hx hb dX12_atom_14 rfl hl (by decide) rfl (fun ls hl => ?_)
  refine lv_aload_n hx hb dX12_atom_15 rfl (lv_at hl 1 rfl) ?_
  refine va_ldcS (q := g.2 98) hx hb hown (zra44 hT.2.1) dX12_atom_16 ?_
  refine mcallV' (g := g) (q0 := 0) (ci := 10) (As := [.ref (g.2 98)]) (rest := []) St hK hT hA hP hD hS hl.1 [0] [] rfl rfl rfl (m_hasH l g o a th hi ac tp en at2_2 (-1) 1 iD iO tU fm fk fa fc ft ff fb fi tx (g.2 98) 44 zqa44 hen hq3_0 (by decide) htx rfl zla44 zna44 (zlitB zla44)) (cwV 1 hts (zgL (zl4 k899 k900 k901 k839) k889) rfl rfl rfl (by decide +kernel) ⟨Nat.le_of_ble_eq_true rfl, Nat.le_of_ble_eq_true rfl⟩) rfl rfl rfl rfl (Nat.le_of_ble_eq_true rfl) dX12_atom_18 ⟨(Nat.le_of_ble_eq_true rfl), (Nat.le_of_ble_eq_true rfl)⟩ (fun u_ H locs hq6 hP hD hS => ?_)
  obtain ⟨at2_4, r_5⟩ := u_
  replace hq6 : (0 ≤ at2_4.toInt ∧ at2_4.toInt ≤ en.toInt + 7 - (1 : Int32).toInt) ∧ (at2_2.toInt ≤ at2_4.toInt) ∧ (r_5 = 1 ∧ zisW tx en.toInt (zbg tx en.toInt at2_2.toInt) zqa44.2.2.2 ∧ at2_4.toInt = znx tx en.toInt (zbg tx en.toInt at2_2.toInt) ∧ at2_2.toInt < at2_4.toInt ∧ at2_4.toInt ≤ en.toInt ∨ r_5 = 0 ∧ ¬ zisW tx en.toInt (zbg tx en.toInt at2_2.toInt) zqa44.2.2.2 ∧ at2_4.toInt = zbg tx en.toInt at2_2.toInt) := hq6
  have hP : va_P g.1 vwCl (List.flatten [bMo g o a th hi ac tp 379 en at2_4 (-1) 1 iD iO tU fm fk fa fc ft ff fb fi]) H := hP
  have hD : va_D A (List.flatten [bMo g o a th hi ac tp 379 en at2_4 (-1) 1 iD iO tU fm fk fa fc ft ff fb fi]) := hD
  refine W.widen (k := 0) (n := 0) (Nat.le_of_ble_eq_true rfl) (Nat.le_of_ble_eq_true rfl) ?_
  refine W.eq (g2 := F0 m 21 ls [.int r_5]) rfl ?_
  obtain ⟨hq6_0, hq6_1, hq6_2⟩ := hq6
  rcases hq6_2 with ⟨rfl, hq6_k, hq6_km⟩ | ⟨rfl, hq6_k, hq6_km⟩
  · skip
    refine lv_istore_n (lv' := [(2, .int 1), (1, .int at2_2), (0, .ref o)]) hx hb dX12_atom_21 rfl hl (by decide) rfl (fun ls hl => ?_)
    refine lv_iload_n hx hb dX12_atom_22 rfl (lv_at hl 0 rfl) ?_
    refine lv_if_ne (tgt := 40) hx hb dX12_atom_23 (by decide) (fun _ => ?_) (fun c7 => absurd c7 (by decide))
    refine lv_aload_n hx hb dX12_atom_40 rfl (lv_at hl 2 rfl) ?_
    refine va_get (D := g.1) (ci := 10) (v := .int 1) (C := RX12) (T := TX12) (N := 20) hx hb hts izRX12 hown hK hP 0 rfl rfl 13 (by decide) (hts _ k933) (fun _ h9 => h9) rfl dX12_atom_41 ?_
    refine lv_bipush (v := 6) hx hb dX12_atom_44 (by decide) ?_
    refine lv_icmp_ne (tgt := 56) hx hb dX12_atom_46 (by decide) (fun _ => ?_) (fun c8 => absurd c8 (by decide))
    refine lv_aload_n hx hb dX12_atom_56 rfl (lv_at hl 2 rfl) ?_
    refine lv_dup hx hb dX12_atom_57 rfl ?_
    refine va_get (D := g.1) (ci := 10) (v := .int 1) (C := RX12) (T := TX12) (N := 20) hx hb hts izRX12 hown hK hP 0 rfl rfl 13 (by decide) (hts _ k933) (fun _ h9 => h9) rfl dX12_atom_58 ?_
    refine lv_iconst (v := 1) hx hb dX12_atom_61 (by decide) ?_
    refine lv_iadd hx hb dX12_atom_62 ?_
    refine ztop (r := 2) (by decide) ?_
    refine va_put (D := g.1) (ci := 10) (v := .int 2) (ty := .int) (C := RX12) (T := TX12) (N := 20) hx hb hts izRX12 tyX12 tyX12_ok nmX12 hown hK hP hD hS 0 rfl rfl 13 (by decide) (hts _ k933) (fun _ h9 => h9) rfl (by decide +kernel) rfl rfl (Nat.le_of_ble_eq_true rfl) dX12_atom_63 (fun H locs hP hD hS => ?_)
    have hP : va_P g.1 vwCl (List.flatten [bMo g o a th hi ac tp 379 en at2_4 (-1) 2 iD iO tU fm fk fa fc ft ff fb fi]) H := hP
    have hD : va_D A (List.flatten [bMo g o a th hi ac tp 379 en at2_4 (-1) 2 iD iO tU fm fk fa fc ft ff fb fi]) := hD
    refine lv_iconst (v := 0) hx hb dX12_atom_66 (by decide) ?_
    refine lv_istore_n (lv' := [(3, .int 0), (2, .int 1), (1, .int at2_2), (0, .ref o)]) hx hb dX12_atom_67 rfl hl (by decide) rfl (fun ls hl => ?_)
    refine lv_iload_n hx hb dX12_atom_68 rfl (lv_at hl 1 rfl) ?_
    refine lv_if_eq (tgt := 88) hx hb dX12_atom_69 (by decide) (fun c9 => absurd c9 (by decide)) (fun _ => ?_)
    have ha9 : zAv tx en.toInt ev 4 (zbg tx en.toInt at2_4.toInt) b1 (!bv) := zAv_b (zAv_n ha (zBy (show _ = zbg tx en.toInt tA.toInt from hq3_2) hq6_k)) (zbt (zBx (show _ = zbg tx en.toInt tA.toInt from hq3_2) hq6_km.1))
    refine lv_aload_n hx hb dX12_atom_72 rfl (lv_at hl 3 rfl) ?_
    refine mcallV' (g := g) (q0 := 0) (ci := 10) (As := []) (rest := []) St hK hT hA hP hD hS hl.1 [0] [] rfl rfl rfl (m_atomV2 l g o a th hi ac tp en at2_4 iD iO tU fm fk fa fc ft ff fb fi tx ev b1 (!bv) hen (by first | assumption | omega | decide | exact Or.inl (by decide) | exact Or.inr (by decide)) (by first | assumption | omega | decide | exact Or.inl (by decide) | exact Or.inr (by decide)) hff hdr how (by first | assumption | omega | decide | exact Or.inl (by decide) | exact Or.inr (by decide)) htx) (cwV 0 hts (zgL (zl4 k951 k952 k953 k839) k962) rfl rfl rfl (by decide +kernel) ⟨Nat.le_of_ble_eq_true rfl, Nat.le_of_ble_eq_true rfl⟩) rfl rfl rfl rfl (Nat.le_of_ble_eq_true rfl) dX12_atom_73 ⟨(Nat.le_of_ble_eq_true rfl), (Nat.le_of_ble_eq_true rfl)⟩ (fun at2_10 H locs hq11 hP hD hS => ?_)
    replace hq11 : (0 ≤ at2_10.toInt ∧ at2_10.toInt ≤ en.toInt + 7 - 2) ∧ (at2_4.toInt ≤ at2_10.toInt) ∧ (zbg tx en.toInt at2_10.toInt = b1) := hq11
    have hP : va_P g.1 vwCl (List.flatten [bMo g o a th hi ac tp 379 en at2_10 (-1) 2 iD iO tU fm fk fa fc ft ff fb fi]) H := hP
    have hD : va_D A (List.flatten [bMo g o a th hi ac tp 379 en at2_10 (-1) 2 iD iO tU fm fk fa fc ft ff fb fi]) := hD
    refine W.widen (k := 0) (n := 0) (Nat.le_of_ble_eq_true rfl) (Nat.le_of_ble_eq_true rfl) ?_
    refine W.eq (g2 := F0 m 76 ls [.int (zBi (!bv))]) rfl ?_
    obtain ⟨hq11_0, hq11_1, hq11_2⟩ := hq11
    refine lv_if_ne (tgt := 83) hx hb dX12_atom_76 (by decide) (fun cb9 => ?_) (fun cb9 => ?_)
    · skip
      have c12 : ¬ (zBi (!bv)).toInt = 0 := zne cb9 rfl (by decide)
      refine lv_iconst (v := 0) hx hb dX12_atom_83 (by decide) ?_
      refine lv_istore_n (lv' := [(3, .int 0), (2, .int 1), (1, .int at2_2), (0, .ref o)]) hx hb dX12_atom_84 rfl hl (by decide) rfl (fun ls hl => ?_)
      refine lv_goto (tgt := 138) hx hb dX12_atom_85 (by decide) ?_
      refine lv_aload_n hx hb dX12_atom_138 rfl (lv_at hl 3 rfl) ?_
      refine lv_dup hx hb dX12_atom_139 rfl ?_
      refine va_get (D := g.1) (ci := 10) (v := .int 2) (C := RX12) (T := TX12) (N := 20) hx hb hts izRX12 hown hK hP 0 rfl rfl 13 (by decide) (hts _ k933) (fun _ h9 => h9) rfl dX12_atom_140 ?_
      refine lv_iconst (v := 1) hx hb dX12_atom_143 (by decide) ?_
      refine lv_isub hx hb dX12_atom_144 ?_
      refine ztop (r := 1) (by decide) ?_
      refine va_put (D := g.1) (ci := 10) (v := .int 1) (ty := .int) (C := RX12) (T := TX12) (N := 20) hx hb hts izRX12 tyX12 tyX12_ok nmX12 hown hK hP hD hS 0 rfl rfl 13 (by decide) (hts _ k933) (fun _ h9 => h9) rfl (by decide +kernel) rfl rfl (Nat.le_of_ble_eq_true rfl) dX12_atom_145 (fun H locs hP hD hS => ?_)
      have hP : va_P g.1 vwCl (List.flatten [bMo g o a th hi ac tp 379 en at2_10 (-1) 1 iD iO tU fm fk fa fc ft ff fb fi]) H := hP
      have hD : va_D A (List.flatten [bMo g o a th hi ac tp 379 en at2_10 (-1) 1 iD iO tU fm fk fa fc ft ff fb fi]) := hD
      refine lv_iload_n hx hb dX12_atom_148 rfl (lv_at hl 0 rfl) ?_
      refine ztop (r := (zBi bv)) (zBn0 (by omega)) ?_
      have hP : va_P g.1 vwCl (List.flatten [bMo g o a th hi ac tp 379 en at2_10 (-1) 1 iD iO tU fm fk fa fc ft ff fb fi]) H := hP
      have hD : va_D A (List.flatten [bMo g o a th hi ac tp 379 en at2_10 (-1) 1 iD iO tU fm fk fa fc ft ff fb fi]) := hD
      exact mret_z hx hb hr hlocks hS (Nat.le_of_ble_eq_true rfl) (Nat.le_of_ble_eq_true rfl) dX12_atom_149 (at2_10) rfl (zb01 (zBi_01 _)) (show (0 ≤ at2_10.toInt ∧ at2_10.toInt ≤ en.toInt + 7 - 1) ∧ (tA.toInt ≤ at2_10.toInt) ∧ (zbg tx en.toInt at2_10.toInt = b1) from ⟨(by first | assumption | omega | decide), (by first | assumption | omega | decide), hq11_2⟩) hP hD
    · skip
      have c13 : (zBi (!bv)).toInt = 0 := zeq cb9 rfl (by decide)
      have n14 : 0 ≤ (zBi (!bv)).toInt := Int.le_trans (Int.le_refl _) (Int.le_of_eq c13.symm)
      have n15 : (zBi (!bv)).toInt ≤ 0 := Int.le_trans (Int.le_of_eq c13) (Int.le_refl _)
      refine lv_iconst (v := 1) hx hb dX12_atom_79 (by decide) ?_
      refine lv_goto (tgt := 84) hx hb dX12_atom_80 (by decide) ?_
      refine lv_istore_n (lv' := [(3, .int 1), (2, .int 1), (1, .int at2_2), (0, .ref o)]) hx hb dX12_atom_84 rfl hl (by decide) rfl (fun ls hl => ?_)
      refine lv_goto (tgt := 138) hx hb dX12_atom_85 (by decide) ?_
      refine lv_aload_n hx hb dX12_atom_138 rfl (lv_at hl 3 rfl) ?_
      refine lv_dup hx hb dX12_atom_139 rfl ?_
      refine va_get (D := g.1) (ci := 10) (v := .int 2) (C := RX12) (T := TX12) (N := 20) hx hb hts izRX12 hown hK hP 0 rfl rfl 13 (by decide) (hts _ k933) (fun _ h9 => h9) rfl dX12_atom_140 ?_
      refine lv_iconst (v := 1) hx hb dX12_atom_143 (by decide) ?_
      refine lv_isub hx hb dX12_atom_144 ?_
      refine ztop (r := 1) (by decide) ?_
      refine va_put (D := g.1) (ci := 10) (v := .int 1) (ty := .int) (C := RX12) (T := TX12) (N := 20) hx hb hts izRX12 tyX12 tyX12_ok nmX12 hown hK hP hD hS 0 rfl rfl 13 (by decide) (hts _ k933) (fun _ h9 => h9) rfl (by decide +kernel) rfl rfl (Nat.le_of_ble_eq_true rfl) dX12_atom_145 (fun H locs hP hD hS => ?_)
      have hP : va_P g.1 vwCl (List.flatten [bMo g o a th hi ac tp 379 en at2_10 (-1) 1 iD iO tU fm fk fa fc ft ff fb fi]) H := hP
      have hD : va_D A (List.flatten [bMo g o a th hi ac tp 379 en at2_10 (-1) 1 iD iO tU fm fk fa fc ft ff fb fi]) := hD
      refine lv_iload_n hx hb dX12_atom_148 rfl (lv_at hl 0 rfl) ?_
      refine ztop (r := (zBi bv)) (zBn1 (by omega)) ?_
      have hP : va_P g.1 vwCl (List.flatten [bMo g o a th hi ac tp 379 en at2_10 (-1) 1 iD iO tU fm fk fa fc ft ff fb fi]) H := hP
      have hD : va_D A (List.flatten [bMo g o a th hi ac tp 379 en at2_10 (-1) 1 iD iO tU fm fk fa fc ft ff fb fi]) := hD
      exact mret_z hx hb hr hlocks hS (Nat.le_of_ble_eq_true rfl) (Nat.le_of_ble_eq_true rfl) dX12_atom_149 (at2_10) rfl (zb01 (zBi_01 _)) (show (0 ≤ at2_10.toInt ∧ at2_10.toInt ≤ en.toInt + 7 - 1) ∧ (tA.toInt ≤ at2_10.toInt) ∧ (zbg tx en.toInt at2_10.toInt = b1) from ⟨(by first | assumption | omega | decide), (by first | assumption | omega | decide), hq11_2⟩) hP hD
  · skip
    refine lv_istore_n (lv' := [(2, .int 0), (1, .int at2_2), (0, .ref o)]) hx hb dX12_atom_21 rfl hl (by decide) rfl (fun ls hl => ?_)
    refine lv_iload_n hx hb dX12_atom_22 rfl (lv_at hl 0 rfl) ?_
    refine lv_if_ne (tgt := 40) hx hb dX12_atom_23 (by decide) (fun c16 => absurd (by decide) c16) (fun _ => ?_)
    refine lv_aload_n hx hb dX12_atom_26 rfl (lv_at hl 2 rfl) ?_
    refine lv_bipush (v := 40) hx hb dX12_atom_27 (by decide) ?_
    have hL40 : (40 : Int32).toInt = 40 := by decide
    refine mcallV' (g := g) (q0 := 0) (ci := 10) (As := [.int 40]) (rest := []) St hK hT hA hP hD hS hl.1 [0] [] rfl rfl rfl (m_isSignH l g o a th hi ac tp en at2_4 (-1) 1 iD iO tU fm fk fa fc ft ff fb fi 40 tx hen hq6_0 (by decide) (by first | assumption | omega | decide | exact Or.inl (by decide) | exact Or.inr (by decide)) htx) (cwV 1 hts (zgL (zl4 k938 k939 k940 k839) k883) rfl rfl rfl (by decide +kernel) ⟨Nat.le_of_ble_eq_true rfl, Nat.le_of_ble_eq_true rfl⟩) rfl rfl rfl rfl (Nat.le_of_ble_eq_true rfl) dX12_atom_29 ⟨(Nat.le_of_ble_eq_true rfl), (Nat.le_of_ble_eq_true rfl)⟩ (fun u_ H locs hq19 hP hD hS => ?_)
    obtain ⟨at2_17, q_18⟩ := u_
    replace hq19 : (0 ≤ at2_17.toInt ∧ at2_17.toInt ≤ en.toInt + 7 - (1 : Int32).toInt) ∧ (at2_4.toInt ≤ at2_17.toInt) ∧ (zSk tx en.toInt at2_4.toInt at2_17.toInt) ∧ (q_18 = 1 ∧ zisS tx en.toInt at2_17.toInt (40 : Int32).toInt ∧ at2_17.toInt < en.toInt ∨ q_18 = 0 ∧ ¬ zisS tx en.toInt at2_17.toInt (40 : Int32).toInt) := hq19
    have hP : va_P g.1 vwCl (List.flatten [bMo g o a th hi ac tp 379 en at2_17 (-1) 1 iD iO tU fm fk fa fc ft ff fb fi]) H := hP
    have hD : va_D A (List.flatten [bMo g o a th hi ac tp 379 en at2_17 (-1) 1 iD iO tU fm fk fa fc ft ff fb fi]) := hD
    refine W.widen (k := 0) (n := 0) (Nat.le_of_ble_eq_true rfl) (Nat.le_of_ble_eq_true rfl) ?_
    refine W.eq (g2 := F0 m 32 ls [.int q_18]) rfl ?_
    obtain ⟨hq19_0, hq19_1, hq19_2, hq19_3⟩ := hq19
    rcases hq19_3 with ⟨rfl, hq19_k⟩ | ⟨rfl, hq19_k⟩
    · skip
      refine lv_if_ne (tgt := 40) hx hb dX12_atom_32 (by decide) (fun _ => ?_) (fun c20 => absurd c20 (by decide))
      refine lv_aload_n hx hb dX12_atom_40 rfl (lv_at hl 2 rfl) ?_
      refine va_get (D := g.1) (ci := 10) (v := .int 1) (C := RX12) (T := TX12) (N := 20) hx hb hts izRX12 hown hK hP 0 rfl rfl 13 (by decide) (hts _ k933) (fun _ h9 => h9) rfl dX12_atom_41 ?_
      refine lv_bipush (v := 6) hx hb dX12_atom_44 (by decide) ?_
      refine lv_icmp_ne (tgt := 56) hx hb dX12_atom_46 (by decide) (fun _ => ?_) (fun c21 => absurd c21 (by decide))
      refine lv_aload_n hx hb dX12_atom_56 rfl (lv_at hl 2 rfl) ?_
      refine lv_dup hx hb dX12_atom_57 rfl ?_
      refine va_get (D := g.1) (ci := 10) (v := .int 1) (C := RX12) (T := TX12) (N := 20) hx hb hts izRX12 hown hK hP 0 rfl rfl 13 (by decide) (hts _ k933) (fun _ h9 => h9) rfl dX12_atom_58 ?_
      refine lv_iconst (v := 1) hx hb dX12_atom_61 (by decide) ?_
      refine lv_iadd hx hb dX12_atom_62 ?_
      refine ztop (r := 2) (by decide) ?_
      refine va_put (D := g.1) (ci := 10) (v := .int 2) (ty := .int) (C := RX12) (T := TX12) (N := 20) hx hb hts izRX12 tyX12 tyX12_ok nmX12 hown hK hP hD hS 0 rfl rfl 13 (by decide) (hts _ k933) (fun _ h9 => h9) rfl (by decide +kernel) rfl rfl (Nat.le_of_ble_eq_true rfl) dX12_atom_63 (fun H locs hP hD hS => ?_)
      have hP : va_P g.1 vwCl (List.flatten [bMo g o a th hi ac tp 379 en at2_17 (-1) 2 iD iO tU fm fk fa fc ft ff fb fi]) H := hP
      have hD : va_D A (List.flatten [bMo g o a th hi ac tp 379 en at2_17 (-1) 2 iD iO tU fm fk fa fc ft ff fb fi]) := hD
      refine lv_iconst (v := 0) hx hb dX12_atom_66 (by decide) ?_
      refine lv_istore_n (lv' := [(3, .int 0), (2, .int 0), (1, .int at2_2), (0, .ref o)]) hx hb dX12_atom_67 rfl hl (by decide) rfl (fun ls hl => ?_)
      refine lv_iload_n hx hb dX12_atom_68 rfl (lv_at hl 1 rfl) ?_
      refine lv_if_eq (tgt := 88) hx hb dX12_atom_69 (by decide) (fun _ => ?_) (fun c22 => absurd (by decide) c22)
      refine lv_aload_n hx hb dX12_atom_88 rfl (lv_at hl 3 rfl) ?_
      refine lv_dup hx hb dX12_atom_89 rfl ?_
      refine va_get (D := g.1) (ci := 10) (v := .int at2_17) (C := RX12) (T := TX12) (N := 20) hx hb hts izRX12 hown hK hP 0 rfl rfl 11 (by decide) (hts _ k878) (fun _ h9 => h9) rfl dX12_atom_90 ?_
      refine lv_iconst (v := 1) hx hb dX12_atom_93 (by decide) ?_
      refine lv_iadd hx hb dX12_atom_94 ?_
      refine zgv (zadd (i := at2_17.toInt) (j := 1) rfl (by decide) (by omega)) (fun x_23 hx_23 => ?_)
      refine va_put (D := g.1) (ci := 10) (v := .int x_23) (ty := .int) (C := RX12) (T := TX12) (N := 20) hx hb hts izRX12 tyX12 tyX12_ok nmX12 hown hK hP hD hS 0 rfl rfl 11 (by decide) (hts _ k878) (fun _ h9 => h9) rfl (by decide +kernel) rfl rfl (Nat.le_of_ble_eq_true rfl) dX12_atom_95 (fun H locs hP hD hS => ?_)
      have hP : va_P g.1 vwCl (List.flatten [bMo g o a th hi ac tp 379 en x_23 (-1) 2 iD iO tU fm fk fa fc ft ff fb fi]) H := hP
      have hD : va_D A (List.flatten [bMo g o a th hi ac tp 379 en x_23 (-1) 2 iD iO tU fm fk fa fc ft ff fb fi]) := hD
      have hs40 : zisS tx en.toInt (zbg tx en.toInt tA.toInt) 40 := by rw [← zbz (zBe (show _ = zbg tx en.toInt tA.toInt from hq3_2) hq6_km)]; exact zisS_b hq19_2 hq19_k.1 (by decide)
      obtain ⟨p0, hc0, hs0, hb0⟩ := zAv_q ha hs40
      have hc9 := zCv_b hc0 (show zbg tx en.toInt x_23.toInt = _ from (zb1 hq19_2 hq19_k.1 (by omega)).trans (by rw [zbz (zBe (show _ = zbg tx en.toInt tA.toInt from hq3_2) hq6_km)]))
      refine lv_aload_n hx hb dX12_atom_98 rfl (lv_at hl 3 rfl) ?_
      refine mcallV' (g := g) (q0 := 0) (ci := 10) (As := []) (rest := []) St hK hT hA hP hD hS hl.1 [0] [] rfl rfl rfl (m_someV2 l g o a th hi ac tp en x_23 iD iO tU fm fk fa fc ft ff fb fi tx ev p0 bv hen (by first | assumption | omega | decide | exact Or.inl (by decide) | exact Or.inr (by decide)) (by first | assumption | omega | decide | exact Or.inl (by decide) | exact Or.inr (by decide)) hff hdr how (by first | assumption | omega | decide | exact Or.inl (by decide) | exact Or.inr (by decide)) htx) (cwV 0 hts (zgL (zl4 k954 k955 k956 k839) k958) rfl rfl rfl (by decide +kernel) ⟨Nat.le_of_ble_eq_true rfl, Nat.le_of_ble_eq_true rfl⟩) rfl rfl rfl rfl (Nat.le_of_ble_eq_true rfl) dX12_atom_99 ⟨(Nat.le_of_ble_eq_true rfl), (Nat.le_of_ble_eq_true rfl)⟩ (fun at2_24 H locs hq25 hP hD hS => ?_)
      replace hq25 : (0 ≤ at2_24.toInt ∧ at2_24.toInt ≤ en.toInt + 7 - 2) ∧ (x_23.toInt ≤ at2_24.toInt) ∧ (zbg tx en.toInt at2_24.toInt = p0) := hq25
      have hP : va_P g.1 vwCl (List.flatten [bMo g o a th hi ac tp 379 en at2_24 (-1) 2 iD iO tU fm fk fa fc ft ff fb fi]) H := hP
      have hD : va_D A (List.flatten [bMo g o a th hi ac tp 379 en at2_24 (-1) 2 iD iO tU fm fk fa fc ft ff fb fi]) := hD
      refine W.widen (k := 0) (n := 0) (Nat.le_of_ble_eq_true rfl) (Nat.le_of_ble_eq_true rfl) ?_
      refine W.eq (g2 := F0 m 102 ls [.int (zBi bv)]) rfl ?_
      obtain ⟨hq25_0, hq25_1, hq25_2⟩ := hq25
      refine lv_istore_n (lv' := [(3, .int (zBi bv)), (2, .int 0), (1, .int at2_2), (0, .ref o)]) hx hb dX12_atom_102 rfl hl (by decide) rfl (fun ls hl => ?_)
      refine lv_aload_n hx hb dX12_atom_103 rfl (lv_at hl 3 rfl) ?_
      refine va_get (D := g.1) (ci := 10) (v := .int (-1)) (C := RX12) (T := TX12) (N := 20) hx hb hts izRX12 hown hK hP 0 rfl rfl 12 (by decide) (hts _ k820) (fun _ h9 => h9) rfl dX12_atom_104 ?_
      refine lv_iconst (v := (-1)) hx hb dX12_atom_107 (by decide) ?_
      refine lv_icmp_ne (tgt := 128) hx hb dX12_atom_108 (by decide) (fun c26 => absurd (by decide) c26) (fun _ => ?_)
      refine lv_aload_n hx hb dX12_atom_111 rfl (lv_at hl 3 rfl) ?_
      refine lv_bipush (v := 41) hx hb dX12_atom_112 (by decide) ?_
      have hL2 : (2 : Int32).toInt = 2 := by decide
      have hL41 : (41 : Int32).toInt = 41 := by decide
      refine mcallV' (g := g) (q0 := 0) (ci := 10) (As := [.int 41]) (rest := []) St hK hT hA hP hD hS hl.1 [0] [] rfl rfl rfl (m_isSignH l g o a th hi ac tp en at2_24 (-1) 2 iD iO tU fm fk fa fc ft ff fb fi 41 tx hen (by first | assumption | omega | decide | exact Or.inl (by decide) | exact Or.inr (by decide)) (by decide) (by first | assumption | omega | decide | exact Or.inl (by decide) | exact Or.inr (by decide)) htx) (cwV 1 hts (zgL (zl4 k938 k939 k940 k839) k883) rfl rfl rfl (by decide +kernel) ⟨Nat.le_of_ble_eq_true rfl, Nat.le_of_ble_eq_true rfl⟩) rfl rfl rfl rfl (Nat.le_of_ble_eq_true rfl) dX12_atom_114 ⟨(Nat.le_of_ble_eq_true rfl), (Nat.le_of_ble_eq_true rfl)⟩ (fun u_ H locs hq29 hP hD hS => ?_)
      obtain ⟨at2_27, q_28⟩ := u_
      replace hq29 : (0 ≤ at2_27.toInt ∧ at2_27.toInt ≤ en.toInt + 7 - (2 : Int32).toInt) ∧ (at2_24.toInt ≤ at2_27.toInt) ∧ (zSk tx en.toInt at2_24.toInt at2_27.toInt) ∧ (q_28 = 1 ∧ zisS tx en.toInt at2_27.toInt (41 : Int32).toInt ∧ at2_27.toInt < en.toInt ∨ q_28 = 0 ∧ ¬ zisS tx en.toInt at2_27.toInt (41 : Int32).toInt) := hq29
      have hP : va_P g.1 vwCl (List.flatten [bMo g o a th hi ac tp 379 en at2_27 (-1) 2 iD iO tU fm fk fa fc ft ff fb fi]) H := hP
      have hD : va_D A (List.flatten [bMo g o a th hi ac tp 379 en at2_27 (-1) 2 iD iO tU fm fk fa fc ft ff fb fi]) := hD
      refine W.widen (k := 0) (n := 0) (Nat.le_of_ble_eq_true rfl) (Nat.le_of_ble_eq_true rfl) ?_
      refine W.eq (g2 := F0 m 117 ls [.int q_28]) rfl ?_
      obtain ⟨hq29_0, hq29_1, hq29_2, hq29_3⟩ := hq29
      rcases hq29_3 with ⟨rfl, hq29_k⟩ | ⟨rfl, hq29_k⟩
      · skip
        refine lv_if_ne (tgt := 128) hx hb dX12_atom_117 (by decide) (fun _ => ?_) (fun c30 => absurd c30 (by decide))
        refine lv_aload_n hx hb dX12_atom_128 rfl (lv_at hl 3 rfl) ?_
        refine lv_dup hx hb dX12_atom_129 rfl ?_
        refine va_get (D := g.1) (ci := 10) (v := .int at2_27) (C := RX12) (T := TX12) (N := 20) hx hb hts izRX12 hown hK hP 0 rfl rfl 11 (by decide) (hts _ k878) (fun _ h9 => h9) rfl dX12_atom_130 ?_
        refine lv_iconst (v := 1) hx hb dX12_atom_133 (by decide) ?_
        refine lv_iadd hx hb dX12_atom_134 ?_
        refine zgv (zadd (i := at2_27.toInt) (j := 1) rfl (by decide) (by omega)) (fun x_31 hx_31 => ?_)
        refine va_put (D := g.1) (ci := 10) (v := .int x_31) (ty := .int) (C := RX12) (T := TX12) (N := 20) hx hb hts izRX12 tyX12 tyX12_ok nmX12 hown hK hP hD hS 0 rfl rfl 11 (by decide) (hts _ k878) (fun _ h9 => h9) rfl (by decide +kernel) rfl rfl (Nat.le_of_ble_eq_true rfl) dX12_atom_135 (fun H locs hP hD hS => ?_)
        have hP : va_P g.1 vwCl (List.flatten [bMo g o a th hi ac tp 379 en x_31 (-1) 2 iD iO tU fm fk fa fc ft ff fb fi]) H := hP
        have hD : va_D A (List.flatten [bMo g o a th hi ac tp 379 en x_31 (-1) 2 iD iO tU fm fk fa fc ft ff fb fi]) := hD
        refine lv_aload_n hx hb dX12_atom_138 rfl (lv_at hl 3 rfl) ?_
        refine lv_dup hx hb dX12_atom_139 rfl ?_
        refine va_get (D := g.1) (ci := 10) (v := .int 2) (C := RX12) (T := TX12) (N := 20) hx hb hts izRX12 hown hK hP 0 rfl rfl 13 (by decide) (hts _ k933) (fun _ h9 => h9) rfl dX12_atom_140 ?_
        refine lv_iconst (v := 1) hx hb dX12_atom_143 (by decide) ?_
        refine lv_isub hx hb dX12_atom_144 ?_
        refine ztop (r := 1) (by decide) ?_
        refine va_put (D := g.1) (ci := 10) (v := .int 1) (ty := .int) (C := RX12) (T := TX12) (N := 20) hx hb hts izRX12 tyX12 tyX12_ok nmX12 hown hK hP hD hS 0 rfl rfl 13 (by decide) (hts _ k933) (fun _ h9 => h9) rfl (by decide +kernel) rfl rfl (Nat.le_of_ble_eq_true rfl) dX12_atom_145 (fun H locs hP hD hS => ?_)
        have hP : va_P g.1 vwCl (List.flatten [bMo g o a th hi ac tp 379 en x_31 (-1) 1 iD iO tU fm fk fa fc ft ff fb fi]) H := hP
        have hD : va_D A (List.flatten [bMo g o a th hi ac tp 379 en x_31 (-1) 1 iD iO tU fm fk fa fc ft ff fb fi]) := hD
        refine lv_iload_n hx hb dX12_atom_148 rfl (lv_at hl 0 rfl) ?_
        have hP : va_P g.1 vwCl (List.flatten [bMo g o a th hi ac tp 379 en x_31 (-1) 1 iD iO tU fm fk fa fc ft ff fb fi]) H := hP
        have hD : va_D A (List.flatten [bMo g o a th hi ac tp 379 en x_31 (-1) 1 iD iO tU fm fk fa fc ft ff fb fi]) := hD
        exact mret_z hx hb hr hlocks hS (Nat.le_of_ble_eq_true rfl) (Nat.le_of_ble_eq_true rfl) dX12_atom_149 (x_31) rfl (zb01 (zBi_01 _)) (show (0 ≤ x_31.toInt ∧ x_31.toInt ≤ en.toInt + 7 - 1) ∧ (tA.toInt ≤ x_31.toInt) ∧ (zbg tx en.toInt x_31.toInt = b1) from ⟨(by first | assumption | omega | decide), (by first | assumption | omega | decide), ((zb1 hq29_2 hq29_k.1 (by omega)).trans (by rw [hq25_2]; exact hb0.symm))⟩) hP hD
      · skip
        exact ((zisS_bn (d := 41) hq29_2 hq29_k (by decide)) (by rw [hq25_2]; exact hs0)).elim
    · skip
      refine lv_if_ne (tgt := 40) hx hb dX12_atom_32 (by decide) (fun c32 => absurd (by decide) c32) (fun _ => ?_)
      have hnd : ¬ zDeep tx en.toInt (zbg tx en.toInt tA.toInt) := zor_n (zBw (show _ = zbg tx en.toInt tA.toInt from hq3_2) hq6_k) (by rw [← zbz (zBe (show _ = zbg tx en.toInt tA.toInt from hq3_2) hq6_km)]; exact zisS_bn (d := 40) hq19_2 hq19_k (by decide))
      have hpl9 : zPlV tx en.toInt ev (zbg tx en.toInt at2_17.toInt) b1 bv := zPlV_b (zAv_p ha hnd) ((zbs hq19_2).trans (zbz (zBe (show _ = zbg tx en.toInt tA.toInt from hq3_2) hq6_km)))
      refine lv_aload_n hx hb dX12_atom_35 rfl (lv_at hl 2 rfl) ?_
      refine mcallV' (g := g) (q0 := 0) (ci := 10) (As := []) (rest := []) St hK hT hA hP hD hS hl.1 [0] [] rfl rfl rfl (m_plainV l g o a th hi ac tp en at2_17 1 iD iO tU fm fk fa fc ft ff fb fi tx ev b1 bv hen hq19_0 (by decide) hff hdr how (by first | assumption | omega | decide | exact Or.inl (by decide) | exact Or.inr (by decide)) htx) (cwV 0 hts (zgL (zl4 k948 k949 k950 k839) k947) rfl rfl rfl (by decide +kernel) ⟨Nat.le_of_ble_eq_true rfl, Nat.le_of_ble_eq_true rfl⟩) rfl rfl rfl rfl (Nat.le_of_ble_eq_true rfl) dX12_atom_36 ⟨(Nat.le_of_ble_eq_true rfl), (Nat.le_of_ble_eq_true rfl)⟩ (fun at2_33 H locs hq34 hP hD hS => ?_)
      replace hq34 : (0 ≤ at2_33.toInt ∧ at2_33.toInt ≤ en.toInt + 7 - (1 : Int32).toInt) ∧ (at2_17.toInt ≤ at2_33.toInt) ∧ (zbg tx en.toInt at2_33.toInt = b1) := hq34
      have hP : va_P g.1 vwCl (List.flatten [bMo g o a th hi ac tp 379 en at2_33 (-1) 1 iD iO tU fm fk fa fc ft ff fb fi]) H := hP
      have hD : va_D A (List.flatten [bMo g o a th hi ac tp 379 en at2_33 (-1) 1 iD iO tU fm fk fa fc ft ff fb fi]) := hD
      refine W.widen (k := 0) (n := 0) (Nat.le_of_ble_eq_true rfl) (Nat.le_of_ble_eq_true rfl) ?_
      refine W.eq (g2 := F0 m 39 ls [.int (zBi bv)]) rfl ?_
      obtain ⟨hq34_0, hq34_1, hq34_2⟩ := hq34
      have hP : va_P g.1 vwCl (List.flatten [bMo g o a th hi ac tp 379 en at2_33 (-1) 1 iD iO tU fm fk fa fc ft ff fb fi]) H := hP
      have hD : va_D A (List.flatten [bMo g o a th hi ac tp 379 en at2_33 (-1) 1 iD iO tU fm fk fa fc ft ff fb fi]) := hD
      exact mret_z hx hb hr hlocks hS (Nat.le_of_ble_eq_true rfl) (Nat.le_of_ble_eq_true rfl) dX12_atom_39 (at2_33) rfl (zb01 (zBi_01 _)) (show (0 ≤ at2_33.toInt ∧ at2_33.toInt ≤ en.toInt + 7 - 1) ∧ (tA.toInt ≤ at2_33.toInt) ∧ (zbg tx en.toInt at2_33.toInt = b1) from ⟨(by first | assumption | omega | decide), (by first | assumption | omega | decide), hq34_2⟩) hP hD
set_option maxRecDepth 100000 in
set_option maxHeartbeats 4000000 in
theorem m_everyV1 (l : Launch) (g : zG) (o : Nat) (a : Nat → Nat) (th : Int32) (hi : Int32) (ac : Int32) (tp : Int32) (en : Int32) (tA : Int32) (iD : Int32) (iO : Int32) (tU : Int32) (fm : Nat → Int32) (fk : Nat → Int32) (fa : Nat → Int32) (fc : Nat → Int32) (ft : Nat → Int32) (ff : Nat → Int32) (fb : Nat → Int32) (fi : Nat → Int32) (tx : Nat → Int32) (ev : Nat → Int32) (b1 : Int) (bv : Bool) (o9 : Bool) (hen : 0 ≤ en.toInt ∧ en.toInt ≤ 400) (htA : 0 ≤ tA.toInt ∧ tA.toInt ≤ en.toInt + 7 - 1) (hde : 0 ≤ 1 ∧ 1 ≤ 6) (hff : ∀ k9 : Nat, k9 < 6 → ff k9 = ev k9) (hdr : iD = zBi (zNz (ev 6))) (how : iO = zBi (zNz (ev 7))) (hc : zCv tx en.toInt (zAv tx en.toInt ev 5) o9 true (zbg tx en.toInt tA.toInt) b1 bv) (htx : ∀ k9 : Nat, (k9 : Int) < en.toInt → fm (379 + k9) = tx k9) : zM' g l yX12_every (Cond.code yX12_every cX12_every 3 (some .boolean) :: zB) ({ frames := 24, cells := 0, slots := 0, locals := 531 } : Room) [.ref o] [bMo g o a th hi ac tp 379 en tA (-1) 1 iD iO tU fm fk fa fc ft ff fb fi] (fun u : Int32 × Int32 × Bool => (fun (at2 : Int32) (q : Int32) (w9 : Bool) => some (.int q)) (u.1) (u.2.1) (u.2.2)) (fun u : Int32 × Int32 × Bool => (fun (at2 : Int32) (q : Int32) (w9 : Bool) => (0 ≤ at2.toInt ∧ at2.toInt ≤ en.toInt + 7 - 1) ∧ (tA.toInt ≤ at2.toInt) ∧ (q = zBi w9) ∧ (zCvE tx en.toInt (zAv tx en.toInt ev 5) o9 w9 (zbg tx en.toInt at2.toInt) b1 bv)) (u.1) (u.2.1) (u.2.2)) (fun u : Int32 × Int32 × Bool => (fun (at2 : Int32) (q : Int32) (w9 : Bool) => [bMo g o a th hi ac tp 379 en at2 (-1) 1 iD iO tU fm fk fa fc ft ff fb fi]) (u.1) (u.2.1) (u.2.2)) := by
  refine zM'.of (cc := cX12_every) (maxL := 3) (rt := (some .boolean)) (by decide) rfl (Nat.le_of_ble_eq_true rfl) ?_
  intro p e s m args below meth c A ls St hr hlocks hin hK hT hA hP hD hS hl
  obtain ⟨hx, hb, hml, hown, hts⟩ := id St
  have hl : lv_has ls 3 [(0, .ref o)] := hl
  obtain ⟨p0, w0, ha0, hm0⟩ := zCv_a hc
  refine lv_aload_n hx hb dX12_every_0 rfl (lv_at hl 0 rfl) ?_
  refine mcallV' (g := g) (q0 := 0) (ci := 10) (As := []) (rest := []) St hK hT hA hP hD hS hl.1 [0] [] rfl rfl rfl (m_atomV1 l g o a th hi ac tp en tA iD iO tU fm fk fa fc ft ff fb fi tx ev p0 w0 hen htA hde hff hdr how (by first | assumption | omega | decide | exact Or.inl (by decide) | exact Or.inr (by decide)) htx) (cwV 0 hts (zgL (zl4 k951 k952 k953 k839) k962) rfl rfl rfl (by decide +kernel) ⟨Nat.le_of_ble_eq_true rfl, Nat.le_of_ble_eq_true rfl⟩) rfl rfl rfl rfl (Nat.le_of_ble_eq_true rfl) dX12_every_1 ⟨(Nat.le_of_ble_eq_true rfl), (Nat.le_of_ble_eq_true rfl)⟩ (fun at2_1 H locs hq2 hP hD hS => ?_)
  replace hq2 : (0 ≤ at2_1.toInt ∧ at2_1.toInt ≤ en.toInt + 7 - 1) ∧ (tA.toInt ≤ at2_1.toInt) ∧ (zbg tx en.toInt at2_1.toInt = p0) := hq2
  have hP : va_P g.1 vwCl (List.flatten [bMo g o a th hi ac tp 379 en at2_1 (-1) 1 iD iO tU fm fk fa fc ft ff fb fi]) H := hP
  have hD : va_D A (List.flatten [bMo g o a th hi ac tp 379 en at2_1 (-1) 1 iD iO tU fm fk fa fc ft ff fb fi]) := hD
  refine W.widen (k := 0) (n := 0) (Nat.le_of_ble_eq_true rfl) (Nat.le_of_ble_eq_true rfl) ?_
  refine W.eq (g2 := F0 m 4 ls [.int (zBi w0)]) rfl ?_
  obtain ⟨hq2_0, hq2_1, hq2_2⟩ := hq2
  refine lv_istore_n (lv' := [(1, .int (zBi w0)), (0, .ref o)]) hx hb dX12_every_4 rfl hl (by decide) rfl (fun ls hl => ?_)
  have hl := lv_sub (l' := [(0, .ref o), (1, .int (zBi w0))]) hl [1, 0] rfl
  have LP5_9 : ∀ (kf : Nat) (x_3 : Int32) (x_4 : Int32), (0 ≤ x_4.toInt ∧ x_4.toInt ≤ 407) → (tA.toInt ≤ x_4.toInt) → (x_4.toInt ≤ en.toInt + 7 - 1) → (∃ a9, x_3 = zBi a9 ∧ zCvM tx en.toInt (zAv tx en.toInt ev 5) o9 a9 (zbg tx en.toInt x_4.toInt) b1 bv) → ∀ (H : Heap) (locs : List Loc) (ls : Array Slot), ((en.toInt + 8 - x_4.toInt).toNat) < kf → va_P g.1 vwCl (List.flatten [bMo g o a th hi ac tp 379 en x_4 (-1) 1 iD iO tU fm fk fa fc ft ff fb fi]) H → va_D A (List.flatten [bMo g o a th hi ac tp 379 en x_4 (-1) 1 iD iO tU fm fk fa fc ft ff fb fi]) → va_S A s.heap H locs → lv_has ls 3 [(0, .ref o), (1, .int x_3)] → W p l e ({ frames := 24, cells := 0, slots := 0, locals := 531 } : Room) s m args below meth c H locs (0) (0) (zF g (fun u : Int32 × Int32 × Bool => (fun (at2 : Int32) (q : Int32) (w9 : Bool) => some (.int q)) (u.1) (u.2.1) (u.2.2)) (fun u : Int32 × Int32 × Bool => (fun (at2 : Int32) (q : Int32) (w9 : Bool) => (0 ≤ at2.toInt ∧ at2.toInt ≤ en.toInt + 7 - 1) ∧ (tA.toInt ≤ at2.toInt) ∧ (q = zBi w9) ∧ (zCvE tx en.toInt (zAv tx en.toInt ev 5) o9 w9 (zbg tx en.toInt at2.toInt) b1 bv)) (u.1) (u.2.1) (u.2.2)) (fun u : Int32 × Int32 × Bool => (fun (at2 : Int32) (q : Int32) (w9 : Bool) => [bMo g o a th hi ac tp 379 en at2 (-1) 1 iD iO tU fm fk fa fc ft ff fb fi]) (u.1) (u.2.1) (u.2.2)) ({ frames := 24, cells := 0, slots := 0, locals := 531 } : Room) below args s A) (F0 m 5 ls []) := by
    intro kf
    induction kf with
    | zero => intro x_3 x_4 i5 i6 i7 i8 H locs ls hk; exact absurd hk (Nat.not_lt_zero _)
    | succ kf ih5_10 =>
      intro x_3 x_4 i5 i6 i7 i8 H locs ls hk5_10 hP hD hS hl
      refine lv_aload_n hx hb dX12_every_5 rfl (lv_at hl 0 rfl) ?_
      refine va_get (D := g.1) (ci := 10) (v := .int (-1)) (C := RX12) (T := TX12) (N := 20) hx hb hts izRX12 hown hK hP 0 rfl rfl 12 (by decide) (hts _ k820) (fun _ h9 => h9) rfl dX12_every_6 ?_
      refine lv_iconst (v := (-1)) hx hb dX12_every_9 (by decide) ?_
      refine lv_icmp_ne (tgt := 44) hx hb dX12_every_10 (by decide) (fun c11 => absurd (by decide) c11) (fun _ => ?_)
      obtain ⟨a12, e13, h14⟩ := i8
      refine lv_aload_n hx hb dX12_every_13 rfl (lv_at hl 0 rfl) ?_
      refine va_ldcS (q := g.2 100) hx hb hown (zra45 hT.2.1) dX12_every_14 ?_
      have hL1 : (1 : Int32).toInt = 1 := by decide
      refine mcallV' (g := g) (q0 := 0) (ci := 10) (As := [.ref (g.2 100)]) (rest := []) St hK hT hA hP hD hS hl.1 [0] [] rfl rfl rfl (m_hasH l g o a th hi ac tp en x_4 (-1) 1 iD iO tU fm fk fa fc ft ff fb fi tx (g.2 100) 45 zqa45 hen (by first | assumption | omega | decide | exact Or.inl (by decide) | exact Or.inr (by decide)) (by decide) htx rfl zla45 zna45 (zlitB zla45)) (cwV 1 hts (zgL (zl4 k899 k900 k901 k839) k889) rfl rfl rfl (by decide +kernel) ⟨Nat.le_of_ble_eq_true rfl, Nat.le_of_ble_eq_true rfl⟩) rfl rfl rfl rfl (Nat.le_of_ble_eq_true rfl) dX12_every_16 ⟨(Nat.le_of_ble_eq_true rfl), (Nat.le_of_ble_eq_true rfl)⟩ (fun u_ H locs hq17 hP hD hS => ?_)
      obtain ⟨at2_15, r_16⟩ := u_
      replace hq17 : (0 ≤ at2_15.toInt ∧ at2_15.toInt ≤ en.toInt + 7 - (1 : Int32).toInt) ∧ (x_4.toInt ≤ at2_15.toInt) ∧ (r_16 = 1 ∧ zisW tx en.toInt (zbg tx en.toInt x_4.toInt) zqa45.2.2.2 ∧ at2_15.toInt = znx tx en.toInt (zbg tx en.toInt x_4.toInt) ∧ x_4.toInt < at2_15.toInt ∧ at2_15.toInt ≤ en.toInt ∨ r_16 = 0 ∧ ¬ zisW tx en.toInt (zbg tx en.toInt x_4.toInt) zqa45.2.2.2 ∧ at2_15.toInt = zbg tx en.toInt x_4.toInt) := hq17
      have hP : va_P g.1 vwCl (List.flatten [bMo g o a th hi ac tp 379 en at2_15 (-1) 1 iD iO tU fm fk fa fc ft ff fb fi]) H := hP
      have hD : va_D A (List.flatten [bMo g o a th hi ac tp 379 en at2_15 (-1) 1 iD iO tU fm fk fa fc ft ff fb fi]) := hD
      refine W.widen (k := 0) (n := 0) (Nat.le_of_ble_eq_true rfl) (Nat.le_of_ble_eq_true rfl) ?_
      refine W.eq (g2 := F0 m 19 ls [.int r_16]) rfl ?_
      obtain ⟨hq17_0, hq17_1, hq17_2⟩ := hq17
      rcases hq17_2 with ⟨rfl, hq17_k, hq17_km⟩ | ⟨rfl, hq17_k, hq17_km⟩
      · skip
        refine lv_if_eq (tgt := 44) hx hb dX12_every_19 (by decide) (fun c18 => absurd c18 (by decide)) (fun _ => ?_)
        obtain ⟨p19, w20, h21, m22⟩ := zCv_a (zCvM_y h14 hq17_k)
        have h21 := zAv_b h21 (show zbg tx en.toInt at2_15.toInt = _ from zbt hq17_km.1)
        refine lv_aload_n hx hb dX12_every_22 rfl (lv_at hl 0 rfl) ?_
        refine mcallV' (g := g) (q0 := 0) (ci := 10) (As := []) (rest := []) St hK hT hA hP hD hS hl.1 [0] [] rfl rfl rfl (m_atomV1 l g o a th hi ac tp en at2_15 iD iO tU fm fk fa fc ft ff fb fi tx ev p19 w20 hen (by first | assumption | omega | decide | exact Or.inl (by decide) | exact Or.inr (by decide)) hde hff hdr how (by first | assumption | omega | decide | exact Or.inl (by decide) | exact Or.inr (by decide)) htx) (cwV 0 hts (zgL (zl4 k951 k952 k953 k839) k962) rfl rfl rfl (by decide +kernel) ⟨Nat.le_of_ble_eq_true rfl, Nat.le_of_ble_eq_true rfl⟩) rfl rfl rfl rfl (Nat.le_of_ble_eq_true rfl) dX12_every_23 ⟨(Nat.le_of_ble_eq_true rfl), (Nat.le_of_ble_eq_true rfl)⟩ (fun at2_23 H locs hq24 hP hD hS => ?_)
        replace hq24 : (0 ≤ at2_23.toInt ∧ at2_23.toInt ≤ en.toInt + 7 - 1) ∧ (at2_15.toInt ≤ at2_23.toInt) ∧ (zbg tx en.toInt at2_23.toInt = p19) := hq24
        have hP : va_P g.1 vwCl (List.flatten [bMo g o a th hi ac tp 379 en at2_23 (-1) 1 iD iO tU fm fk fa fc ft ff fb fi]) H := hP
        have hD : va_D A (List.flatten [bMo g o a th hi ac tp 379 en at2_23 (-1) 1 iD iO tU fm fk fa fc ft ff fb fi]) := hD
        refine W.widen (k := 0) (n := 0) (Nat.le_of_ble_eq_true rfl) (Nat.le_of_ble_eq_true rfl) ?_
        refine W.eq (g2 := F0 m 26 ls [.int (zBi w20)]) rfl ?_
        obtain ⟨hq24_0, hq24_1, hq24_2⟩ := hq24
        refine lv_istore_n (lv' := [(2, .int (zBi w20)), (0, .ref o), (1, .int x_3)]) hx hb dX12_every_26 rfl hl (by decide) rfl (fun ls hl => ?_)
        refine lv_iload_n hx hb dX12_every_27 rfl (lv_at hl 2 rfl) ?_
        refine lv_if_eq (tgt := 39) hx hb dX12_every_28 (by decide) (fun cb9 => ?_) (fun cb9 => ?_)
        · skip
          have c25 : x_3.toInt = 0 := zeq cb9 rfl (by decide)
          have n26 : 0 ≤ x_3.toInt := Int.le_trans (Int.le_refl _) (Int.le_of_eq c25.symm)
          have n27 : x_3.toInt ≤ 0 := Int.le_trans (Int.le_of_eq c25) (Int.le_refl _)
          refine lv_iconst (v := 0) hx hb dX12_every_39 (by decide) ?_
          refine lv_istore_n (lv' := [(1, .int 0), (2, .int (zBi w20)), (0, .ref o)]) hx hb dX12_every_40 rfl hl (by decide) rfl (fun ls hl => ?_)
          refine lv_goto (tgt := 5) hx hb dX12_every_41 (by decide) ?_
          have hl := lv_sub (l' := [(0, .ref o), (1, .int 0), (2, .int (zBi w20))]) hl [2, 0, 1] rfl
          have hL0 : (0 : Int32).toInt = 0 := by decide
          have hP : va_P g.1 vwCl (List.flatten [bMo g o a th hi ac tp 379 en at2_23 (-1) 1 iD iO tU fm fk fa fc ft ff fb fi]) H := hP
          have hD : va_D A (List.flatten [bMo g o a th hi ac tp 379 en at2_23 (-1) 1 iD iO tU fm fk fa fc ft ff fb fi]) := hD
          exact ih5_10 0 at2_23 (by first | omega | assumption | decide) (by first | omega | assumption | decide) (by first | omega | assumption | decide) ⟨(a12 && w20), (zBiA0 (by rw [← e13]; omega)), zCM_b m22 hq24_2⟩ H _ ls (by omega)  hP hD hS (lv_sub hl [0, 1] rfl)
        · skip
          have c28 : ¬ x_3.toInt = 0 := zne cb9 rfl (by decide)
          refine lv_iload_n hx hb dX12_every_31 rfl (lv_at hl 0 rfl) ?_
          refine lv_if_eq (tgt := 39) hx hb dX12_every_32 (by decide) (fun cb9 => ?_) (fun cb9 => ?_)
          · skip
            have c29 : (zBi w20).toInt = 0 := zeq cb9 rfl (by decide)
            have n30 : 0 ≤ (zBi w20).toInt := Int.le_trans (Int.le_refl _) (Int.le_of_eq c29.symm)
            have n31 : (zBi w20).toInt ≤ 0 := Int.le_trans (Int.le_of_eq c29) (Int.le_refl _)
            refine lv_iconst (v := 0) hx hb dX12_every_39 (by decide) ?_
            refine lv_istore_n (lv' := [(1, .int 0), (2, .int (zBi w20)), (0, .ref o)]) hx hb dX12_every_40 rfl hl (by decide) rfl (fun ls hl => ?_)
            refine lv_goto (tgt := 5) hx hb dX12_every_41 (by decide) ?_
            have hl := lv_sub (l' := [(0, .ref o), (1, .int 0), (2, .int (zBi w20))]) hl [2, 0, 1] rfl
            have hL0 : (0 : Int32).toInt = 0 := by decide
            have hP : va_P g.1 vwCl (List.flatten [bMo g o a th hi ac tp 379 en at2_23 (-1) 1 iD iO tU fm fk fa fc ft ff fb fi]) H := hP
            have hD : va_D A (List.flatten [bMo g o a th hi ac tp 379 en at2_23 (-1) 1 iD iO tU fm fk fa fc ft ff fb fi]) := hD
            exact ih5_10 0 at2_23 (by first | omega | assumption | decide) (by first | omega | assumption | decide) (by first | omega | assumption | decide) ⟨(a12 && w20), (zBiA1 (by omega)), zCM_b m22 hq24_2⟩ H _ ls (by omega)  hP hD hS (lv_sub hl [0, 1] rfl)
          · skip
            have c32 : ¬ (zBi w20).toInt = 0 := zne cb9 rfl (by decide)
            refine lv_iconst (v := 1) hx hb dX12_every_35 (by decide) ?_
            refine lv_goto (tgt := 40) hx hb dX12_every_36 (by decide) ?_
            refine lv_istore_n (lv' := [(1, .int 1), (2, .int (zBi w20)), (0, .ref o)]) hx hb dX12_every_40 rfl hl (by decide) rfl (fun ls hl => ?_)
            refine lv_goto (tgt := 5) hx hb dX12_every_41 (by decide) ?_
            have hl := lv_sub (l' := [(0, .ref o), (1, .int 1), (2, .int (zBi w20))]) hl [2, 0, 1] rfl
            have hP : va_P g.1 vwCl (List.flatten [bMo g o a th hi ac tp 379 en at2_23 (-1) 1 iD iO tU fm fk fa fc ft ff fb fi]) H := hP
            have hD : va_D A (List.flatten [bMo g o a th hi ac tp 379 en at2_23 (-1) 1 iD iO tU fm fk fa fc ft ff fb fi]) := hD
            exact ih5_10 1 at2_23 (by first | omega | assumption | decide) (by first | omega | assumption | decide) (by first | omega | assumption | decide) ⟨(a12 && w20), (zBiA (by rw [← e13]; omega) (by omega)), zCM_b m22 hq24_2⟩ H _ ls (by omega)  hP hD hS (lv_sub hl [0, 1] rfl)
      · skip
        refine lv_if_eq (tgt := 44) hx hb dX12_every_19 (by decide) (fun _ => ?_) (fun c33 => absurd (by decide) c33)
        refine lv_iload_n hx hb dX12_every_44 rfl (lv_at hl 1 rfl) ?_
        have hP : va_P g.1 vwCl (List.flatten [bMo g o a th hi ac tp 379 en at2_15 (-1) 1 iD iO tU fm fk fa fc ft ff fb fi]) H := hP
        have hD : va_D A (List.flatten [bMo g o a th hi ac tp 379 en at2_15 (-1) 1 iD iO tU fm fk fa fc ft ff fb fi]) := hD
        exact mret_z hx hb hr hlocks hS (Nat.le_of_ble_eq_true rfl) (Nat.le_of_ble_eq_true rfl) dX12_every_45 (at2_15, x_3, a12) rfl (zb01 (by rw [e13]; exact zBi_01 _)) (show (0 ≤ at2_15.toInt ∧ at2_15.toInt ≤ en.toInt + 7 - 1) ∧ (tA.toInt ≤ at2_15.toInt) ∧ (x_3 = zBi a12) ∧ (zCvE tx en.toInt (zAv tx en.toInt ev 5) o9 a12 (zbg tx en.toInt at2_15.toInt) b1 bv) from ⟨(by first | assumption | omega | decide), (by first | assumption | omega | decide), e13, zCE_b (zCvM_n h14 hq17_k) (zbz hq17_km)⟩) hP hD
  have hP : va_P g.1 vwCl (List.flatten [bMo g o a th hi ac tp 379 en at2_1 (-1) 1 iD iO tU fm fk fa fc ft ff fb fi]) H := hP
  have hD : va_D A (List.flatten [bMo g o a th hi ac tp 379 en at2_1 (-1) 1 iD iO tU fm fk fa fc ft ff fb fi]) := hD
  exact LP5_9 _ (zBi w0) at2_1 (by first | omega | assumption | decide) hq2_1 (by first | omega | assumption | decide) ⟨w0, rfl, zCvM_w (zCM_b hm0 hq2_2)⟩ H _ ls (Nat.lt_succ_self _)  hP hD hS (lv_sub hl [0, 1] rfl)
set_option maxRecDepth 100000 in
set_option maxHeartbeats 4000000 in
theorem m_someV1 (l : Launch) (g : zG) (o : Nat) (a : Nat → Nat) (th : Int32) (hi : Int32) (ac : Int32) (tp : Int32) (en : Int32) (tA : Int32) (iD : Int32) (iO : Int32) (tU : Int32) (fm : Nat → Int32) (fk : Nat → Int32) (fa : Nat → Int32) (fc : Nat → Int32) (ft : Nat → Int32) (ff : Nat → Int32) (fb : Nat → Int32) (fi : Nat → Int32) (tx : Nat → Int32) (ev : Nat → Int32) (b1 : Int) (bv : Bool) (hen : 0 ≤ en.toInt ∧ en.toInt ≤ 400) (htA : 0 ≤ tA.toInt ∧ tA.toInt ≤ en.toInt + 7 - 1) (hde : 0 ≤ 1 ∧ 1 ≤ 6) (hff : ∀ k9 : Nat, k9 < 6 → ff k9 = ev k9) (hdr : iD = zBi (zNz (ev 6))) (how : iO = zBi (zNz (ev 7))) (hc : zCv tx en.toInt (zAv tx en.toInt ev 5) false true (zbg tx en.toInt tA.toInt) b1 bv) (htx : ∀ k9 : Nat, (k9 : Int) < en.toInt → fm (379 + k9) = tx k9) : zM' g l yX12_some (Cond.code yX12_some cX12_some 3 (some .boolean) :: zB) ({ frames := 25, cells := 0, slots := 0, locals := 553 } : Room) [.ref o] [bMo g o a th hi ac tp 379 en tA (-1) 1 iD iO tU fm fk fa fc ft ff fb fi] (fun (at2 : Int32) => some (.int (zBi bv))) (fun (at2 : Int32) => (0 ≤ at2.toInt ∧ at2.toInt ≤ en.toInt + 7 - 1) ∧ (tA.toInt ≤ at2.toInt) ∧ (zbg tx en.toInt at2.toInt = b1)) (fun (at2 : Int32) => [bMo g o a th hi ac tp 379 en at2 (-1) 1 iD iO tU fm fk fa fc ft ff fb fi]) := by
  refine zM'.of (cc := cX12_some) (maxL := 3) (rt := (some .boolean)) (by decide) rfl (Nat.le_of_ble_eq_true rfl) ?_
  intro p e s m args below meth c A ls St hr hlocks hin hK hT hA hP hD hS hl
  obtain ⟨hx, hb, hml, hown, hts⟩ := id St
  have hl : lv_has ls 3 [(0, .ref o)] := hl
  refine lv_aload_n hx hb dX12_some_0 rfl (lv_at hl 0 rfl) ?_
  refine mcallV' (g := g) (q0 := 0) (ci := 10) (As := []) (rest := []) St hK hT hA hP hD hS hl.1 [0] [] rfl rfl rfl (m_everyV1 l g o a th hi ac tp en tA iD iO tU fm fk fa fc ft ff fb fi tx ev b1 bv false hen htA hde hff hdr how hc htx) (cwV 0 hts (zgL (zl4 k959 k960 k961 k839) k957) rfl rfl rfl (by decide +kernel) ⟨Nat.le_of_ble_eq_true rfl, Nat.le_of_ble_eq_true rfl⟩) rfl rfl rfl rfl (Nat.le_of_ble_eq_true rfl) dX12_some_1 ⟨(Nat.le_of_ble_eq_true rfl), (Nat.le_of_ble_eq_true rfl)⟩ (fun u_ H locs hq4 hP hD hS => ?_)
  obtain ⟨at2_1, q_2, w9_3⟩ := u_
  replace hq4 : (0 ≤ at2_1.toInt ∧ at2_1.toInt ≤ en.toInt + 7 - 1) ∧ (tA.toInt ≤ at2_1.toInt) ∧ (q_2 = zBi w9_3) ∧ (zCvE tx en.toInt (zAv tx en.toInt ev 5) false w9_3 (zbg tx en.toInt at2_1.toInt) b1 bv) := hq4
  have hP : va_P g.1 vwCl (List.flatten [bMo g o a th hi ac tp 379 en at2_1 (-1) 1 iD iO tU fm fk fa fc ft ff fb fi]) H := hP
  have hD : va_D A (List.flatten [bMo g o a th hi ac tp 379 en at2_1 (-1) 1 iD iO tU fm fk fa fc ft ff fb fi]) := hD
  refine W.widen (k := 0) (n := 0) (Nat.le_of_ble_eq_true rfl) (Nat.le_of_ble_eq_true rfl) ?_
  refine W.eq (g2 := F0 m 4 ls [.int q_2]) rfl ?_
  obtain ⟨hq4_0, hq4_1, hq4_2, hq4_3⟩ := hq4
  refine lv_istore_n (lv' := [(1, .int q_2), (0, .ref o)]) hx hb dX12_some_4 rfl hl (by decide) rfl (fun ls hl => ?_)
  have hl := lv_sub (l' := [(0, .ref o), (1, .int q_2)]) hl [1, 0] rfl
  have LP5_11 : ∀ (kf : Nat) (x_5 : Int32) (x_6 : Int32), (0 ≤ x_6.toInt ∧ x_6.toInt ≤ 407) → (tA.toInt ≤ x_6.toInt) → (x_6.toInt ≤ en.toInt + 7 - 1) → (∃ a9, x_5 = zBi a9 ∧ zCvO tx en.toInt (zAv tx en.toInt ev 5) a9 (zbg tx en.toInt x_6.toInt) b1 bv) → ∀ (H : Heap) (locs : List Loc) (ls : Array Slot), ((en.toInt + 8 - x_6.toInt).toNat) < kf → va_P g.1 vwCl (List.flatten [bMo g o a th hi ac tp 379 en x_6 (-1) 1 iD iO tU fm fk fa fc ft ff fb fi]) H → va_D A (List.flatten [bMo g o a th hi ac tp 379 en x_6 (-1) 1 iD iO tU fm fk fa fc ft ff fb fi]) → va_S A s.heap H locs → lv_has ls 3 [(0, .ref o), (1, .int x_5)] → W p l e ({ frames := 25, cells := 0, slots := 0, locals := 553 } : Room) s m args below meth c H locs (0) (0) (zF g (fun (at2 : Int32) => some (.int (zBi bv))) (fun (at2 : Int32) => (0 ≤ at2.toInt ∧ at2.toInt ≤ en.toInt + 7 - 1) ∧ (tA.toInt ≤ at2.toInt) ∧ (zbg tx en.toInt at2.toInt = b1)) (fun (at2 : Int32) => [bMo g o a th hi ac tp 379 en at2 (-1) 1 iD iO tU fm fk fa fc ft ff fb fi]) ({ frames := 25, cells := 0, slots := 0, locals := 553 } : Room) below args s A) (F0 m 5 ls []) := by
    intro kf
    induction kf with
    | zero => intro x_5 x_6 i7 i8 i9 i10 H locs ls hk; exact absurd hk (Nat.not_lt_zero _)
    | succ kf ih5_12 =>
      intro x_5 x_6 i7 i8 i9 i10 H locs ls hk5_12 hP hD hS hl
      refine lv_aload_n hx hb dX12_some_5 rfl (lv_at hl 0 rfl) ?_
      refine va_get (D := g.1) (ci := 10) (v := .int (-1)) (C := RX12) (T := TX12) (N := 20) hx hb hts izRX12 hown hK hP 0 rfl rfl 12 (by decide) (hts _ k820) (fun _ h9 => h9) rfl dX12_some_6 ?_
      refine lv_iconst (v := (-1)) hx hb dX12_some_9 (by decide) ?_
      refine lv_icmp_ne (tgt := 44) hx hb dX12_some_10 (by decide) (fun c13 => absurd (by decide) c13) (fun _ => ?_)
      obtain ⟨a14, e15, h16⟩ := i10
      refine lv_aload_n hx hb dX12_some_13 rfl (lv_at hl 0 rfl) ?_
      refine va_ldcS (q := g.2 102) hx hb hown (zra46 hT.2.1) dX12_some_14 ?_
      have hL1 : (1 : Int32).toInt = 1 := by decide
      refine mcallV' (g := g) (q0 := 0) (ci := 10) (As := [.ref (g.2 102)]) (rest := []) St hK hT hA hP hD hS hl.1 [0] [] rfl rfl rfl (m_hasH l g o a th hi ac tp en x_6 (-1) 1 iD iO tU fm fk fa fc ft ff fb fi tx (g.2 102) 46 zqa46 hen (by first | assumption | omega | decide | exact Or.inl (by decide) | exact Or.inr (by decide)) (by decide) htx rfl zla46 zna46 (zlitB zla46)) (cwV 1 hts (zgL (zl4 k899 k900 k901 k839) k889) rfl rfl rfl (by decide +kernel) ⟨Nat.le_of_ble_eq_true rfl, Nat.le_of_ble_eq_true rfl⟩) rfl rfl rfl rfl (Nat.le_of_ble_eq_true rfl) dX12_some_16 ⟨(Nat.le_of_ble_eq_true rfl), (Nat.le_of_ble_eq_true rfl)⟩ (fun u_ H locs hq19 hP hD hS => ?_)
      obtain ⟨at2_17, r_18⟩ := u_
      replace hq19 : (0 ≤ at2_17.toInt ∧ at2_17.toInt ≤ en.toInt + 7 - (1 : Int32).toInt) ∧ (x_6.toInt ≤ at2_17.toInt) ∧ (r_18 = 1 ∧ zisW tx en.toInt (zbg tx en.toInt x_6.toInt) zqa46.2.2.2 ∧ at2_17.toInt = znx tx en.toInt (zbg tx en.toInt x_6.toInt) ∧ x_6.toInt < at2_17.toInt ∧ at2_17.toInt ≤ en.toInt ∨ r_18 = 0 ∧ ¬ zisW tx en.toInt (zbg tx en.toInt x_6.toInt) zqa46.2.2.2 ∧ at2_17.toInt = zbg tx en.toInt x_6.toInt) := hq19
      have hP : va_P g.1 vwCl (List.flatten [bMo g o a th hi ac tp 379 en at2_17 (-1) 1 iD iO tU fm fk fa fc ft ff fb fi]) H := hP
      have hD : va_D A (List.flatten [bMo g o a th hi ac tp 379 en at2_17 (-1) 1 iD iO tU fm fk fa fc ft ff fb fi]) := hD
      refine W.widen (k := 0) (n := 0) (Nat.le_of_ble_eq_true rfl) (Nat.le_of_ble_eq_true rfl) ?_
      refine W.eq (g2 := F0 m 19 ls [.int r_18]) rfl ?_
      obtain ⟨hq19_0, hq19_1, hq19_2⟩ := hq19
      rcases hq19_2 with ⟨rfl, hq19_k, hq19_km⟩ | ⟨rfl, hq19_k, hq19_km⟩
      · skip
        refine lv_if_eq (tgt := 44) hx hb dX12_some_19 (by decide) (fun c20 => absurd c20 (by decide)) (fun _ => ?_)
        have h21 := zCv_b (zCvO_y h16 hq19_k) (show zbg tx en.toInt at2_17.toInt = _ from zbt hq19_km.1)
        refine lv_aload_n hx hb dX12_some_22 rfl (lv_at hl 0 rfl) ?_
        refine mcallV' (g := g) (q0 := 0) (ci := 10) (As := []) (rest := []) St hK hT hA hP hD hS hl.1 [0] [] rfl rfl rfl (m_everyV1 l g o a th hi ac tp en at2_17 iD iO tU fm fk fa fc ft ff fb fi tx ev b1 bv a14 hen (by first | assumption | omega | decide | exact Or.inl (by decide) | exact Or.inr (by decide)) hde hff hdr how (by first | assumption | omega | decide | exact Or.inl (by decide) | exact Or.inr (by decide)) htx) (cwV 0 hts (zgL (zl4 k959 k960 k961 k839) k957) rfl rfl rfl (by decide +kernel) ⟨Nat.le_of_ble_eq_true rfl, Nat.le_of_ble_eq_true rfl⟩) rfl rfl rfl rfl (Nat.le_of_ble_eq_true rfl) dX12_some_23 ⟨(Nat.le_of_ble_eq_true rfl), (Nat.le_of_ble_eq_true rfl)⟩ (fun u_ H locs hq25 hP hD hS => ?_)
        obtain ⟨at2_22, q_23, w9_24⟩ := u_
        replace hq25 : (0 ≤ at2_22.toInt ∧ at2_22.toInt ≤ en.toInt + 7 - 1) ∧ (at2_17.toInt ≤ at2_22.toInt) ∧ (q_23 = zBi w9_24) ∧ (zCvE tx en.toInt (zAv tx en.toInt ev 5) a14 w9_24 (zbg tx en.toInt at2_22.toInt) b1 bv) := hq25
        have hP : va_P g.1 vwCl (List.flatten [bMo g o a th hi ac tp 379 en at2_22 (-1) 1 iD iO tU fm fk fa fc ft ff fb fi]) H := hP
        have hD : va_D A (List.flatten [bMo g o a th hi ac tp 379 en at2_22 (-1) 1 iD iO tU fm fk fa fc ft ff fb fi]) := hD
        refine W.widen (k := 0) (n := 0) (Nat.le_of_ble_eq_true rfl) (Nat.le_of_ble_eq_true rfl) ?_
        refine W.eq (g2 := F0 m 26 ls [.int q_23]) rfl ?_
        obtain ⟨hq25_0, hq25_1, hq25_2, hq25_3⟩ := hq25
        refine lv_istore_n (lv' := [(2, .int q_23), (0, .ref o), (1, .int x_5)]) hx hb dX12_some_26 rfl hl (by decide) rfl (fun ls hl => ?_)
        refine lv_iload_n hx hb dX12_some_27 rfl (lv_at hl 2 rfl) ?_
        refine lv_if_ne (tgt := 35) hx hb dX12_some_28 (by decide) (fun cb9 => ?_) (fun cb9 => ?_)
        · skip
          have c26 : ¬ x_5.toInt = 0 := zne cb9 rfl (by decide)
          refine lv_iconst (v := 1) hx hb dX12_some_35 (by decide) ?_
          refine lv_goto (tgt := 40) hx hb dX12_some_36 (by decide) ?_
          refine lv_istore_n (lv' := [(1, .int 1), (2, .int q_23), (0, .ref o)]) hx hb dX12_some_40 rfl hl (by decide) rfl (fun ls hl => ?_)
          refine lv_goto (tgt := 5) hx hb dX12_some_41 (by decide) ?_
          have hl := lv_sub (l' := [(0, .ref o), (1, .int 1), (2, .int q_23)]) hl [2, 0, 1] rfl
          have hP : va_P g.1 vwCl (List.flatten [bMo g o a th hi ac tp 379 en at2_22 (-1) 1 iD iO tU fm fk fa fc ft ff fb fi]) H := hP
          have hD : va_D A (List.flatten [bMo g o a th hi ac tp 379 en at2_22 (-1) 1 iD iO tU fm fk fa fc ft ff fb fi]) := hD
          exact ih5_12 1 at2_22 (by first | omega | assumption | decide) (by first | omega | assumption | decide) (by first | omega | assumption | decide) ⟨_, (zBo1 (by rw [← e15]; omega)), zCvE_o hq25_3⟩ H _ ls (by omega)  hP hD hS (lv_sub hl [0, 1] rfl)
        · skip
          have c27 : x_5.toInt = 0 := zeq cb9 rfl (by decide)
          have n28 : 0 ≤ x_5.toInt := Int.le_trans (Int.le_refl _) (Int.le_of_eq c27.symm)
          have n29 : x_5.toInt ≤ 0 := Int.le_trans (Int.le_of_eq c27) (Int.le_refl _)
          refine lv_iload_n hx hb dX12_some_31 rfl (lv_at hl 0 rfl) ?_
          refine lv_if_eq (tgt := 39) hx hb dX12_some_32 (by decide) (fun cb9 => ?_) (fun cb9 => ?_)
          · skip
            have c30 : q_23.toInt = 0 := zeq cb9 rfl (by decide)
            have n31 : 0 ≤ q_23.toInt := Int.le_trans (Int.le_refl _) (Int.le_of_eq c30.symm)
            have n32 : q_23.toInt ≤ 0 := Int.le_trans (Int.le_of_eq c30) (Int.le_refl _)
            refine lv_iconst (v := 0) hx hb dX12_some_39 (by decide) ?_
            refine lv_istore_n (lv' := [(1, .int 0), (2, .int q_23), (0, .ref o)]) hx hb dX12_some_40 rfl hl (by decide) rfl (fun ls hl => ?_)
            refine lv_goto (tgt := 5) hx hb dX12_some_41 (by decide) ?_
            have hl := lv_sub (l' := [(0, .ref o), (1, .int 0), (2, .int q_23)]) hl [2, 0, 1] rfl
            have hL0 : (0 : Int32).toInt = 0 := by decide
            have hP : va_P g.1 vwCl (List.flatten [bMo g o a th hi ac tp 379 en at2_22 (-1) 1 iD iO tU fm fk fa fc ft ff fb fi]) H := hP
            have hD : va_D A (List.flatten [bMo g o a th hi ac tp 379 en at2_22 (-1) 1 iD iO tU fm fk fa fc ft ff fb fi]) := hD
            exact ih5_12 0 at2_22 (by first | omega | assumption | decide) (by first | omega | assumption | decide) (by first | omega | assumption | decide) ⟨_, (zBo0 (by rw [← e15]; omega) (by rw [← hq25_2]; omega)), zCvE_o hq25_3⟩ H _ ls (by omega)  hP hD hS (lv_sub hl [0, 1] rfl)
          · skip
            have c33 : ¬ q_23.toInt = 0 := zne cb9 rfl (by decide)
            refine lv_iconst (v := 1) hx hb dX12_some_35 (by decide) ?_
            refine lv_goto (tgt := 40) hx hb dX12_some_36 (by decide) ?_
            refine lv_istore_n (lv' := [(1, .int 1), (2, .int q_23), (0, .ref o)]) hx hb dX12_some_40 rfl hl (by decide) rfl (fun ls hl => ?_)
            refine lv_goto (tgt := 5) hx hb dX12_some_41 (by decide) ?_
            have hl := lv_sub (l' := [(0, .ref o), (1, .int 1), (2, .int q_23)]) hl [2, 0, 1] rfl
            have hP : va_P g.1 vwCl (List.flatten [bMo g o a th hi ac tp 379 en at2_22 (-1) 1 iD iO tU fm fk fa fc ft ff fb fi]) H := hP
            have hD : va_D A (List.flatten [bMo g o a th hi ac tp 379 en at2_22 (-1) 1 iD iO tU fm fk fa fc ft ff fb fi]) := hD
            exact ih5_12 1 at2_22 (by first | omega | assumption | decide) (by first | omega | assumption | decide) (by first | omega | assumption | decide) ⟨_, (zBo2 (by rw [← hq25_2]; omega)), zCvE_o hq25_3⟩ H _ ls (by omega)  hP hD hS (lv_sub hl [0, 1] rfl)
      · skip
        refine lv_if_eq (tgt := 44) hx hb dX12_some_19 (by decide) (fun _ => ?_) (fun c34 => absurd (by decide) c34)
        refine lv_iload_n hx hb dX12_some_44 rfl (lv_at hl 1 rfl) ?_
        refine ztop (r := (zBi bv)) (by rw [(zCvO_n h16 hq19_k).2]; exact e15) ?_
        have hP : va_P g.1 vwCl (List.flatten [bMo g o a th hi ac tp 379 en at2_17 (-1) 1 iD iO tU fm fk fa fc ft ff fb fi]) H := hP
        have hD : va_D A (List.flatten [bMo g o a th hi ac tp 379 en at2_17 (-1) 1 iD iO tU fm fk fa fc ft ff fb fi]) := hD
        exact mret_z hx hb hr hlocks hS (Nat.le_of_ble_eq_true rfl) (Nat.le_of_ble_eq_true rfl) dX12_some_45 (at2_17) rfl (zb01 (zBi_01 _)) (show (0 ≤ at2_17.toInt ∧ at2_17.toInt ≤ en.toInt + 7 - 1) ∧ (tA.toInt ≤ at2_17.toInt) ∧ (zbg tx en.toInt at2_17.toInt = b1) from ⟨(by first | assumption | omega | decide), (by first | assumption | omega | decide), ((zbz hq19_km).trans (zCvO_n h16 hq19_k).1.symm)⟩) hP hD
  have hP : va_P g.1 vwCl (List.flatten [bMo g o a th hi ac tp 379 en at2_1 (-1) 1 iD iO tU fm fk fa fc ft ff fb fi]) H := hP
  have hD : va_D A (List.flatten [bMo g o a th hi ac tp 379 en at2_1 (-1) 1 iD iO tU fm fk fa fc ft ff fb fi]) := hD
  exact LP5_11 _ q_2 at2_1 (by first | omega | assumption | decide) hq4_1 (by first | omega | assumption | decide) ⟨_, hq4_2, zCvO_w (zCvE_o hq4_3)⟩ H _ ls (Nat.lt_succ_self _)  hP hD hS (lv_sub hl [0, 1] rfl)
set_option maxRecDepth 100000 in
set_option maxHeartbeats 4000000 in
theorem m_atomV0 (l : Launch) (g : zG) (o : Nat) (a : Nat → Nat) (th : Int32) (hi : Int32) (ac : Int32) (tp : Int32) (en : Int32) (tA : Int32) (iD : Int32) (iO : Int32) (tU : Int32) (fm : Nat → Int32) (fk : Nat → Int32) (fa : Nat → Int32) (fc : Nat → Int32) (ft : Nat → Int32) (ff : Nat → Int32) (fb : Nat → Int32) (fi : Nat → Int32) (tx : Nat → Int32) (ev : Nat → Int32) (b1 : Int) (bv : Bool) (hen : 0 ≤ en.toInt ∧ en.toInt ≤ 400) (htA : 0 ≤ tA.toInt ∧ tA.toInt ≤ en.toInt + 7 - 0) (hde : 0 ≤ 0 ∧ 0 ≤ 6) (hff : ∀ k9 : Nat, k9 < 6 → ff k9 = ev k9) (hdr : iD = zBi (zNz (ev 6))) (how : iO = zBi (zNz (ev 7))) (ha : zAv tx en.toInt ev 6 (zbg tx en.toInt tA.toInt) b1 bv) (htx : ∀ k9 : Nat, (k9 : Int) < en.toInt → fm (379 + k9) = tx k9) : zM' g l yX12_atom (Cond.code yX12_atom cX12_atom 4 (some .boolean) :: zB) ({ frames := 26, cells := 0, slots := 0, locals := 575 } : Room) [.ref o] [bMo g o a th hi ac tp 379 en tA (-1) 0 iD iO tU fm fk fa fc ft ff fb fi] (fun (at2 : Int32) => some (.int (zBi bv))) (fun (at2 : Int32) => (0 ≤ at2.toInt ∧ at2.toInt ≤ en.toInt + 7 - 0) ∧ (tA.toInt ≤ at2.toInt) ∧ (zbg tx en.toInt at2.toInt = b1)) (fun (at2 : Int32) => [bMo g o a th hi ac tp 379 en at2 (-1) 0 iD iO tU fm fk fa fc ft ff fb fi]) := by
  refine zM'.of (cc := cX12_atom) (maxL := 4) (rt := (some .boolean)) (by decide) rfl (Nat.le_of_ble_eq_true rfl) ?_
  intro p e s m args below meth c A ls St hr hlocks hin hK hT hA hP hD hS hl
  obtain ⟨hx, hb, hml, hown, hts⟩ := id St
  have hl : lv_has ls 4 [(0, .ref o)] := hl
  refine lv_aload_n hx hb dX12_atom_0 rfl (lv_at hl 0 rfl) ?_
  refine va_get (D := g.1) (ci := 10) (v := .int (-1)) (C := RX12) (T := TX12) (N := 20) hx hb hts izRX12 hown hK hP 0 rfl rfl 12 (by decide) (hts _ k820) (fun _ h9 => h9) rfl dX12_atom_1 ?_
  refine lv_iconst (v := (-1)) hx hb dX12_atom_4 (by decide) ?_
  refine lv_icmp_eq (tgt := 10) hx hb dX12_atom_5 (by decide) (fun _ => ?_) (fun c1 => absurd (by decide) c1)
  refine lv_aload_n hx hb dX12_atom_10 rfl (lv_at hl 0 rfl) ?_
  have hL0 : (0 : Int32).toInt = 0 := by decide
  refine mcallV' (g := g) (q0 := 0) (ci := 10) (As := []) (rest := []) St hK hT hA hP hD hS hl.1 [0] [] rfl rfl rfl (m_hereH l g o a th hi ac tp en tA (-1) 0 iD iO tU fm fk fa fc ft ff fb fi tx hen (by first | assumption | omega | decide | exact Or.inl (by decide) | exact Or.inr (by decide)) (by decide) htx) (cwV 0 hts (zgL (zl4 k892 k893 k894 k839) k891) rfl rfl rfl (by decide +kernel) ⟨Nat.le_of_ble_eq_true rfl, Nat.le_of_ble_eq_true rfl⟩) rfl rfl rfl rfl (Nat.le_of_ble_eq_true rfl) dX12_atom_11 ⟨(Nat.le_of_ble_eq_true rfl), (Nat.le_of_ble_eq_true rfl)⟩ (fun at2_2 H locs hq3 hP hD hS => ?_)
  replace hq3 : (0 ≤ at2_2.toInt ∧ at2_2.toInt ≤ en.toInt + 7 - (0 : Int32).toInt) ∧ (tA.toInt ≤ at2_2.toInt) ∧ (zSk tx en.toInt tA.toInt at2_2.toInt) := hq3
  have hP : va_P g.1 vwCl (List.flatten [bMo g o a th hi ac tp 379 en at2_2 (-1) 0 iD iO tU fm fk fa fc ft ff fb fi]) H := hP
  have hD : va_D A (List.flatten [bMo g o a th hi ac tp 379 en at2_2 (-1) 0 iD iO tU fm fk fa fc ft ff fb fi]) := hD
  refine W.widen (k := 0) (n := 0) (Nat.le_of_ble_eq_true rfl) (Nat.le_of_ble_eq_true rfl) ?_
  refine W.eq (g2 := F0 m 14 ls [.int at2_2]) rfl ?_
  obtain ⟨hq3_0, hq3_1, hq3_2⟩ := hq3
  refine lv_istore_n (lv' := [(1, .int at2_2), (0, .ref o)]) hx hb dX12_atom_14 rfl hl (by decide) rfl (fun ls hl => ?_)
  refine lv_aload_n hx hb dX12_atom_15 rfl (lv_at hl 1 rfl) ?_
  refine va_ldcS (q := g.2 98) hx hb hown (zra44 hT.2.1) dX12_atom_16 ?_
  refine mcallV' (g := g) (q0 := 0) (ci := 10) (As := [.ref (g.2 98)]) (rest := []) St hK hT hA hP hD hS hl.1 [0] [] rfl rfl rfl (m_hasH l g o a th hi ac tp en at2_2 (-1) 0 iD iO tU fm fk fa fc ft ff fb fi tx (g.2 98) 44 zqa44 hen hq3_0 (by decide) htx rfl zla44 zna44 (zlitB zla44)) (cwV 1 hts (zgL (zl4 k899 k900 k901 k839) k889) rfl rfl rfl (by decide +kernel) ⟨Nat.le_of_ble_eq_true rfl, Nat.le_of_ble_eq_true rfl⟩) rfl rfl rfl rfl (Nat.le_of_ble_eq_true rfl) dX12_atom_18 ⟨(Nat.le_of_ble_eq_true rfl), (Nat.le_of_ble_eq_true rfl)⟩ (fun u_ H locs hq6 hP hD hS => ?_)
  obtain ⟨at2_4, r_5⟩ := u_
  replace hq6 : (0 ≤ at2_4.toInt ∧ at2_4.toInt ≤ en.toInt + 7 - (0 : Int32).toInt) ∧ (at2_2.toInt ≤ at2_4.toInt) ∧ (r_5 = 1 ∧ zisW tx en.toInt (zbg tx en.toInt at2_2.toInt) zqa44.2.2.2 ∧ at2_4.toInt = znx tx en.toInt (zbg tx en.toInt at2_2.toInt) ∧ at2_2.toInt < at2_4.toInt ∧ at2_4.toInt ≤ en.toInt ∨ r_5 = 0 ∧ ¬ zisW tx en.toInt (zbg tx en.toInt at2_2.toInt) zqa44.2.2.2 ∧ at2_4.toInt = zbg tx en.toInt at2_2.toInt) := hq6
  have hP : va_P g.1 vwCl (List.flatten [bMo g o a th hi ac tp 379 en at2_4 (-1) 0 iD iO tU fm fk fa fc ft ff fb fi]) H := hP
  have hD : va_D A (List.flatten [bMo g o a th hi ac tp 379 en at2_4 (-1) 0 iD iO tU fm fk fa fc ft ff fb fi]) := hD
  refine W.widen (k := 0) (n := 0) (Nat.le_of_ble_eq_true rfl) (Nat.le_of_ble_eq_true rfl) ?_
  refine W.eq (g2 := F0 m 21 ls [.int r_5]) rfl ?_
  obtain ⟨hq6_0, hq6_1, hq6_2⟩ := hq6
  rcases hq6_2 with ⟨rfl, hq6_k, hq6_km⟩ | ⟨rfl, hq6_k, hq6_km⟩
  · skip
    refine lv_istore_n (lv' := [(2, .int 1), (1, .int at2_2), (0, .ref o)]) hx hb dX12_atom_21 rfl hl (by decide) rfl (fun ls hl => ?_)
    refine lv_iload_n hx hb dX12_atom_22 rfl (lv_at hl 0 rfl) ?_
    refine lv_if_ne (tgt := 40) hx hb dX12_atom_23 (by decide) (fun _ => ?_) (fun c7 => absurd c7 (by decide))
    refine lv_aload_n hx hb dX12_atom_40 rfl (lv_at hl 2 rfl) ?_
    refine va_get (D := g.1) (ci := 10) (v := .int 0) (C := RX12) (T := TX12) (N := 20) hx hb hts izRX12 hown hK hP 0 rfl rfl 13 (by decide) (hts _ k933) (fun _ h9 => h9) rfl dX12_atom_41 ?_
    refine lv_bipush (v := 6) hx hb dX12_atom_44 (by decide) ?_
    refine lv_icmp_ne (tgt := 56) hx hb dX12_atom_46 (by decide) (fun _ => ?_) (fun c8 => absurd c8 (by decide))
    refine lv_aload_n hx hb dX12_atom_56 rfl (lv_at hl 2 rfl) ?_
    refine lv_dup hx hb dX12_atom_57 rfl ?_
    refine va_get (D := g.1) (ci := 10) (v := .int 0) (C := RX12) (T := TX12) (N := 20) hx hb hts izRX12 hown hK hP 0 rfl rfl 13 (by decide) (hts _ k933) (fun _ h9 => h9) rfl dX12_atom_58 ?_
    refine lv_iconst (v := 1) hx hb dX12_atom_61 (by decide) ?_
    refine lv_iadd hx hb dX12_atom_62 ?_
    refine ztop (r := 1) (by decide) ?_
    refine va_put (D := g.1) (ci := 10) (v := .int 1) (ty := .int) (C := RX12) (T := TX12) (N := 20) hx hb hts izRX12 tyX12 tyX12_ok nmX12 hown hK hP hD hS 0 rfl rfl 13 (by decide) (hts _ k933) (fun _ h9 => h9) rfl (by decide +kernel) rfl rfl (Nat.le_of_ble_eq_true rfl) dX12_atom_63 (fun H locs hP hD hS => ?_)
    have hP : va_P g.1 vwCl (List.flatten [bMo g o a th hi ac tp 379 en at2_4 (-1) 1 iD iO tU fm fk fa fc ft ff fb fi]) H := hP
    have hD : va_D A (List.flatten [bMo g o a th hi ac tp 379 en at2_4 (-1) 1 iD iO tU fm fk fa fc ft ff fb fi]) := hD
    refine lv_iconst (v := 0) hx hb dX12_atom_66 (by decide) ?_
    refine lv_istore_n (lv' := [(3, .int 0), (2, .int 1), (1, .int at2_2), (0, .ref o)]) hx hb dX12_atom_67 rfl hl (by decide) rfl (fun ls hl => ?_)
    refine lv_iload_n hx hb dX12_atom_68 rfl (lv_at hl 1 rfl) ?_
    refine lv_if_eq (tgt := 88) hx hb dX12_atom_69 (by decide) (fun c9 => absurd c9 (by decide)) (fun _ => ?_)
    have ha9 : zAv tx en.toInt ev 5 (zbg tx en.toInt at2_4.toInt) b1 (!bv) := zAv_b (zAv_n ha (zBy (show _ = zbg tx en.toInt tA.toInt from hq3_2) hq6_k)) (zbt (zBx (show _ = zbg tx en.toInt tA.toInt from hq3_2) hq6_km.1))
    refine lv_aload_n hx hb dX12_atom_72 rfl (lv_at hl 3 rfl) ?_
    refine mcallV' (g := g) (q0 := 0) (ci := 10) (As := []) (rest := []) St hK hT hA hP hD hS hl.1 [0] [] rfl rfl rfl (m_atomV1 l g o a th hi ac tp en at2_4 iD iO tU fm fk fa fc ft ff fb fi tx ev b1 (!bv) hen (by first | assumption | omega | decide | exact Or.inl (by decide) | exact Or.inr (by decide)) (by first | assumption | omega | decide | exact Or.inl (by decide) | exact Or.inr (by decide)) hff hdr how (by first | assumption | omega | decide | exact Or.inl (by decide) | exact Or.inr (by decide)) htx) (cwV 0 hts (zgL (zl4 k951 k952 k953 k839) k962) rfl rfl rfl (by decide +kernel) ⟨Nat.le_of_ble_eq_true rfl, Nat.le_of_ble_eq_true rfl⟩) rfl rfl rfl rfl (Nat.le_of_ble_eq_true rfl) dX12_atom_73 ⟨(Nat.le_of_ble_eq_true rfl), (Nat.le_of_ble_eq_true rfl)⟩ (fun at2_10 H locs hq11 hP hD hS => ?_)
    replace hq11 : (0 ≤ at2_10.toInt ∧ at2_10.toInt ≤ en.toInt + 7 - 1) ∧ (at2_4.toInt ≤ at2_10.toInt) ∧ (zbg tx en.toInt at2_10.toInt = b1) := hq11
    have hP : va_P g.1 vwCl (List.flatten [bMo g o a th hi ac tp 379 en at2_10 (-1) 1 iD iO tU fm fk fa fc ft ff fb fi]) H := hP
    have hD : va_D A (List.flatten [bMo g o a th hi ac tp 379 en at2_10 (-1) 1 iD iO tU fm fk fa fc ft ff fb fi]) := hD
    refine W.widen (k := 0) (n := 0) (Nat.le_of_ble_eq_true rfl) (Nat.le_of_ble_eq_true rfl) ?_
    refine W.eq (g2 := F0 m 76 ls [.int (zBi (!bv))]) rfl ?_
    obtain ⟨hq11_0, hq11_1, hq11_2⟩ := hq11
    refine lv_if_ne (tgt := 83) hx hb dX12_atom_76 (by decide) (fun cb9 => ?_) (fun cb9 => ?_)
    · skip
      have c12 : ¬ (zBi (!bv)).toInt = 0 := zne cb9 rfl (by decide)
      refine lv_iconst (v := 0) hx hb dX12_atom_83 (by decide) ?_
      refine lv_istore_n (lv' := [(3, .int 0), (2, .int 1), (1, .int at2_2), (0, .ref o)]) hx hb dX12_atom_84 rfl hl (by decide) rfl (fun ls hl => ?_)
      refine lv_goto (tgt := 138) hx hb dX12_atom_85 (by decide) ?_
      refine lv_aload_n hx hb dX12_atom_138 rfl (lv_at hl 3 rfl) ?_
      refine lv_dup hx hb dX12_atom_139 rfl ?_
      refine va_get (D := g.1) (ci := 10) (v := .int 1) (C := RX12) (T := TX12) (N := 20) hx hb hts izRX12 hown hK hP 0 rfl rfl 13 (by decide) (hts _ k933) (fun _ h9 => h9) rfl dX12_atom_140 ?_
      refine lv_iconst (v := 1) hx hb dX12_atom_143 (by decide) ?_
      refine lv_isub hx hb dX12_atom_144 ?_
      refine ztop (r := 0) (by decide) ?_
      refine va_put (D := g.1) (ci := 10) (v := .int 0) (ty := .int) (C := RX12) (T := TX12) (N := 20) hx hb hts izRX12 tyX12 tyX12_ok nmX12 hown hK hP hD hS 0 rfl rfl 13 (by decide) (hts _ k933) (fun _ h9 => h9) rfl (by decide +kernel) rfl rfl (Nat.le_of_ble_eq_true rfl) dX12_atom_145 (fun H locs hP hD hS => ?_)
      have hP : va_P g.1 vwCl (List.flatten [bMo g o a th hi ac tp 379 en at2_10 (-1) 0 iD iO tU fm fk fa fc ft ff fb fi]) H := hP
      have hD : va_D A (List.flatten [bMo g o a th hi ac tp 379 en at2_10 (-1) 0 iD iO tU fm fk fa fc ft ff fb fi]) := hD
      refine lv_iload_n hx hb dX12_atom_148 rfl (lv_at hl 0 rfl) ?_
      refine ztop (r := (zBi bv)) (zBn0 (by omega)) ?_
      have hP : va_P g.1 vwCl (List.flatten [bMo g o a th hi ac tp 379 en at2_10 (-1) 0 iD iO tU fm fk fa fc ft ff fb fi]) H := hP
      have hD : va_D A (List.flatten [bMo g o a th hi ac tp 379 en at2_10 (-1) 0 iD iO tU fm fk fa fc ft ff fb fi]) := hD
      exact mret_z hx hb hr hlocks hS (Nat.le_of_ble_eq_true rfl) (Nat.le_of_ble_eq_true rfl) dX12_atom_149 (at2_10) rfl (zb01 (zBi_01 _)) (show (0 ≤ at2_10.toInt ∧ at2_10.toInt ≤ en.toInt + 7 - 0) ∧ (tA.toInt ≤ at2_10.toInt) ∧ (zbg tx en.toInt at2_10.toInt = b1) from ⟨(by first | assumption | omega | decide), (by first | assumption | omega | decide), hq11_2⟩) hP hD
    · skip
      have c13 : (zBi (!bv)).toInt = 0 := zeq cb9 rfl (by decide)
      have n14 : 0 ≤ (zBi (!bv)).toInt := Int.le_trans (Int.le_refl _) (Int.le_of_eq c13.symm)
      have n15 : (zBi (!bv)).toInt ≤ 0 := Int.le_trans (Int.le_of_eq c13) (Int.le_refl _)
      refine lv_iconst (v := 1) hx hb dX12_atom_79 (by decide) ?_
      refine lv_goto (tgt := 84) hx hb dX12_atom_80 (by decide) ?_
      refine lv_istore_n (lv' := [(3, .int 1), (2, .int 1), (1, .int at2_2), (0, .ref o)]) hx hb dX12_atom_84 rfl hl (by decide) rfl (fun ls hl => ?_)
      refine lv_goto (tgt := 138) hx hb dX12_atom_85 (by decide) ?_
      refine lv_aload_n hx hb dX12_atom_138 rfl (lv_at hl 3 rfl) ?_
      refine lv_dup hx hb dX12_atom_139 rfl ?_
      refine va_get (D := g.1) (ci := 10) (v := .int 1) (C := RX12) (T := TX12) (N := 20) hx hb hts izRX12 hown hK hP 0 rfl rfl 13 (by decide) (hts _ k933) (fun _ h9 => h9) rfl dX12_atom_140 ?_
      refine lv_iconst (v := 1) hx hb dX12_atom_143 (by decide) ?_
      refine lv_isub hx hb dX12_atom_144 ?_
      refine ztop (r := 0) (by decide) ?_
      refine va_put (D := g.1) (ci := 10) (v := .int 0) (ty := .int) (C := RX12) (T := TX12) (N := 20) hx hb hts izRX12 tyX12 tyX12_ok nmX12 hown hK hP hD hS 0 rfl rfl 13 (by decide) (hts _ k933) (fun _ h9 => h9) rfl (by decide +kernel) rfl rfl (Nat.le_of_ble_eq_true rfl) dX12_atom_145 (fun H locs hP hD hS => ?_)
      have hP : va_P g.1 vwCl (List.flatten [bMo g o a th hi ac tp 379 en at2_10 (-1) 0 iD iO tU fm fk fa fc ft ff fb fi]) H := hP
      have hD : va_D A (List.flatten [bMo g o a th hi ac tp 379 en at2_10 (-1) 0 iD iO tU fm fk fa fc ft ff fb fi]) := hD
      refine lv_iload_n hx hb dX12_atom_148 rfl (lv_at hl 0 rfl) ?_
      refine ztop (r := (zBi bv)) (zBn1 (by omega)) ?_
      have hP : va_P g.1 vwCl (List.flatten [bMo g o a th hi ac tp 379 en at2_10 (-1) 0 iD iO tU fm fk fa fc ft ff fb fi]) H := hP
      have hD : va_D A (List.flatten [bMo g o a th hi ac tp 379 en at2_10 (-1) 0 iD iO tU fm fk fa fc ft ff fb fi]) := hD
      exact mret_z hx hb hr hlocks hS (Nat.le_of_ble_eq_true rfl) (Nat.le_of_ble_eq_true rfl) dX12_atom_149 (at2_10) rfl (zb01 (zBi_01 _)) (show (0 ≤ at2_10.toInt ∧ at2_10.toInt ≤ en.toInt + 7 - 0) ∧ (tA.toInt ≤ at2_10.toInt) ∧ (zbg tx en.toInt at2_10.toInt = b1) from ⟨(by first | assumption | omega | decide), (by first | assumption | omega | decide), hq11_2⟩) hP hD
  · skip
    refine lv_istore_n (lv' := [(2, .int 0), (1, .int at2_2), (0, .ref o)]) hx hb dX12_atom_21 rfl hl (by decide) rfl (fun ls hl => ?_)
    refine lv_iload_n hx hb dX12_atom_22 rfl (lv_at hl 0 rfl) ?_
    refine lv_if_ne (tgt := 40) hx hb dX12_atom_23 (by decide) (fun c16 => absurd (by decide) c16) (fun _ => ?_)
    refine lv_aload_n hx hb dX12_atom_26 rfl (lv_at hl 2 rfl) ?_
    refine lv_bipush (v := 40) hx hb dX12_atom_27 (by decide) ?_
    have hL40 : (40 : Int32).toInt = 40 := by decide
    refine mcallV' (g := g) (q0 := 0) (ci := 10) (As := [.int 40]) (rest := []) St hK hT hA hP hD hS hl.1 [0] [] rfl rfl rfl (m_isSignH l g o a th hi ac tp en at2_4 (-1) 0 iD iO tU fm fk fa fc ft ff fb fi 40 tx hen hq6_0 (by decide) (by first | assumption | omega | decide | exact Or.inl (by decide) | exact Or.inr (by decide)) htx) (cwV 1 hts (zgL (zl4 k938 k939 k940 k839) k883) rfl rfl rfl (by decide +kernel) ⟨Nat.le_of_ble_eq_true rfl, Nat.le_of_ble_eq_true rfl⟩) rfl rfl rfl rfl (Nat.le_of_ble_eq_true rfl) dX12_atom_29 ⟨(Nat.le_of_ble_eq_true rfl), (Nat.le_of_ble_eq_true rfl)⟩ (fun u_ H locs hq19 hP hD hS => ?_)
    obtain ⟨at2_17, q_18⟩ := u_
    replace hq19 : (0 ≤ at2_17.toInt ∧ at2_17.toInt ≤ en.toInt + 7 - (0 : Int32).toInt) ∧ (at2_4.toInt ≤ at2_17.toInt) ∧ (zSk tx en.toInt at2_4.toInt at2_17.toInt) ∧ (q_18 = 1 ∧ zisS tx en.toInt at2_17.toInt (40 : Int32).toInt ∧ at2_17.toInt < en.toInt ∨ q_18 = 0 ∧ ¬ zisS tx en.toInt at2_17.toInt (40 : Int32).toInt) := hq19
    have hP : va_P g.1 vwCl (List.flatten [bMo g o a th hi ac tp 379 en at2_17 (-1) 0 iD iO tU fm fk fa fc ft ff fb fi]) H := hP
    have hD : va_D A (List.flatten [bMo g o a th hi ac tp 379 en at2_17 (-1) 0 iD iO tU fm fk fa fc ft ff fb fi]) := hD
    refine W.widen (k := 0) (n := 0) (Nat.le_of_ble_eq_true rfl) (Nat.le_of_ble_eq_true rfl) ?_
    refine W.eq (g2 := F0 m 32 ls [.int q_18]) rfl ?_
    obtain ⟨hq19_0, hq19_1, hq19_2, hq19_3⟩ := hq19
    rcases hq19_3 with ⟨rfl, hq19_k⟩ | ⟨rfl, hq19_k⟩
    · skip
      refine lv_if_ne (tgt := 40) hx hb dX12_atom_32 (by decide) (fun _ => ?_) (fun c20 => absurd c20 (by decide))
      refine lv_aload_n hx hb dX12_atom_40 rfl (lv_at hl 2 rfl) ?_
      refine va_get (D := g.1) (ci := 10) (v := .int 0) (C := RX12) (T := TX12) (N := 20) hx hb hts izRX12 hown hK hP 0 rfl rfl 13 (by decide) (hts _ k933) (fun _ h9 => h9) rfl dX12_atom_41 ?_
      refine lv_bipush (v := 6) hx hb dX12_atom_44 (by decide) ?_
      refine lv_icmp_ne (tgt := 56) hx hb dX12_atom_46 (by decide) (fun _ => ?_) (fun c21 => absurd c21 (by decide))
      refine lv_aload_n hx hb dX12_atom_56 rfl (lv_at hl 2 rfl) ?_
      refine lv_dup hx hb dX12_atom_57 rfl ?_
      refine va_get (D := g.1) (ci := 10) (v := .int 0) (C := RX12) (T := TX12) (N := 20) hx hb hts izRX12 hown hK hP 0 rfl rfl 13 (by decide) (hts _ k933) (fun _ h9 => h9) rfl dX12_atom_58 ?_
      refine lv_iconst (v := 1) hx hb dX12_atom_61 (by decide) ?_
      refine lv_iadd hx hb dX12_atom_62 ?_
      refine ztop (r := 1) (by decide) ?_
      refine va_put (D := g.1) (ci := 10) (v := .int 1) (ty := .int) (C := RX12) (T := TX12) (N := 20) hx hb hts izRX12 tyX12 tyX12_ok nmX12 hown hK hP hD hS 0 rfl rfl 13 (by decide) (hts _ k933) (fun _ h9 => h9) rfl (by decide +kernel) rfl rfl (Nat.le_of_ble_eq_true rfl) dX12_atom_63 (fun H locs hP hD hS => ?_)
      have hP : va_P g.1 vwCl (List.flatten [bMo g o a th hi ac tp 379 en at2_17 (-1) 1 iD iO tU fm fk fa fc ft ff fb fi]) H := hP
      have hD : va_D A (List.flatten [bMo g o a th hi ac tp 379 en at2_17 (-1) 1 iD iO tU fm fk fa fc ft ff fb fi]) := hD
      refine lv_iconst (v := 0) hx hb dX12_atom_66 (by decide) ?_
      refine lv_istore_n (lv' := [(3, .int 0), (2, .int 0), (1, .int at2_2), (0, .ref o)]) hx hb dX12_atom_67 rfl hl (by decide) rfl (fun ls hl => ?_)
      refine lv_iload_n hx hb dX12_atom_68 rfl (lv_at hl 1 rfl) ?_
      refine lv_if_eq (tgt := 88) hx hb dX12_atom_69 (by decide) (fun _ => ?_) (fun c22 => absurd (by decide) c22)
      refine lv_aload_n hx hb dX12_atom_88 rfl (lv_at hl 3 rfl) ?_
      refine lv_dup hx hb dX12_atom_89 rfl ?_
      refine va_get (D := g.1) (ci := 10) (v := .int at2_17) (C := RX12) (T := TX12) (N := 20) hx hb hts izRX12 hown hK hP 0 rfl rfl 11 (by decide) (hts _ k878) (fun _ h9 => h9) rfl dX12_atom_90 ?_
      refine lv_iconst (v := 1) hx hb dX12_atom_93 (by decide) ?_
      refine lv_iadd hx hb dX12_atom_94 ?_
      refine zgv (zadd (i := at2_17.toInt) (j := 1) rfl (by decide) (by omega)) (fun x_23 hx_23 => ?_)
      refine va_put (D := g.1) (ci := 10) (v := .int x_23) (ty := .int) (C := RX12) (T := TX12) (N := 20) hx hb hts izRX12 tyX12 tyX12_ok nmX12 hown hK hP hD hS 0 rfl rfl 11 (by decide) (hts _ k878) (fun _ h9 => h9) rfl (by decide +kernel) rfl rfl (Nat.le_of_ble_eq_true rfl) dX12_atom_95 (fun H locs hP hD hS => ?_)
      have hP : va_P g.1 vwCl (List.flatten [bMo g o a th hi ac tp 379 en x_23 (-1) 1 iD iO tU fm fk fa fc ft ff fb fi]) H := hP
      have hD : va_D A (List.flatten [bMo g o a th hi ac tp 379 en x_23 (-1) 1 iD iO tU fm fk fa fc ft ff fb fi]) := hD
      have hs40 : zisS tx en.toInt (zbg tx en.toInt tA.toInt) 40 := by rw [← zbz (zBe (show _ = zbg tx en.toInt tA.toInt from hq3_2) hq6_km)]; exact zisS_b hq19_2 hq19_k.1 (by decide)
      obtain ⟨p0, hc0, hs0, hb0⟩ := zAv_q ha hs40
      have hc9 := zCv_b hc0 (show zbg tx en.toInt x_23.toInt = _ from (zb1 hq19_2 hq19_k.1 (by omega)).trans (by rw [zbz (zBe (show _ = zbg tx en.toInt tA.toInt from hq3_2) hq6_km)]))
      refine lv_aload_n hx hb dX12_atom_98 rfl (lv_at hl 3 rfl) ?_
      refine mcallV' (g := g) (q0 := 0) (ci := 10) (As := []) (rest := []) St hK hT hA hP hD hS hl.1 [0] [] rfl rfl rfl (m_someV1 l g o a th hi ac tp en x_23 iD iO tU fm fk fa fc ft ff fb fi tx ev p0 bv hen (by first | assumption | omega | decide | exact Or.inl (by decide) | exact Or.inr (by decide)) (by first | assumption | omega | decide | exact Or.inl (by decide) | exact Or.inr (by decide)) hff hdr how (by first | assumption | omega | decide | exact Or.inl (by decide) | exact Or.inr (by decide)) htx) (cwV 0 hts (zgL (zl4 k954 k955 k956 k839) k958) rfl rfl rfl (by decide +kernel) ⟨Nat.le_of_ble_eq_true rfl, Nat.le_of_ble_eq_true rfl⟩) rfl rfl rfl rfl (Nat.le_of_ble_eq_true rfl) dX12_atom_99 ⟨(Nat.le_of_ble_eq_true rfl), (Nat.le_of_ble_eq_true rfl)⟩ (fun at2_24 H locs hq25 hP hD hS => ?_)
      replace hq25 : (0 ≤ at2_24.toInt ∧ at2_24.toInt ≤ en.toInt + 7 - 1) ∧ (x_23.toInt ≤ at2_24.toInt) ∧ (zbg tx en.toInt at2_24.toInt = p0) := hq25
      have hP : va_P g.1 vwCl (List.flatten [bMo g o a th hi ac tp 379 en at2_24 (-1) 1 iD iO tU fm fk fa fc ft ff fb fi]) H := hP
      have hD : va_D A (List.flatten [bMo g o a th hi ac tp 379 en at2_24 (-1) 1 iD iO tU fm fk fa fc ft ff fb fi]) := hD
      refine W.widen (k := 0) (n := 0) (Nat.le_of_ble_eq_true rfl) (Nat.le_of_ble_eq_true rfl) ?_
      refine W.eq (g2 := F0 m 102 ls [.int (zBi bv)]) rfl ?_
      obtain ⟨hq25_0, hq25_1, hq25_2⟩ := hq25
      refine lv_istore_n (lv' := [(3, .int (zBi bv)), (2, .int 0), (1, .int at2_2), (0, .ref o)]) hx hb dX12_atom_102 rfl hl (by decide) rfl (fun ls hl => ?_)
      refine lv_aload_n hx hb dX12_atom_103 rfl (lv_at hl 3 rfl) ?_
      refine va_get (D := g.1) (ci := 10) (v := .int (-1)) (C := RX12) (T := TX12) (N := 20) hx hb hts izRX12 hown hK hP 0 rfl rfl 12 (by decide) (hts _ k820) (fun _ h9 => h9) rfl dX12_atom_104 ?_
      refine lv_iconst (v := (-1)) hx hb dX12_atom_107 (by decide) ?_
      refine lv_icmp_ne (tgt := 128) hx hb dX12_atom_108 (by decide) (fun c26 => absurd (by decide) c26) (fun _ => ?_)
      refine lv_aload_n hx hb dX12_atom_111 rfl (lv_at hl 3 rfl) ?_
      refine lv_bipush (v := 41) hx hb dX12_atom_112 (by decide) ?_
      have hL1 : (1 : Int32).toInt = 1 := by decide
      have hL41 : (41 : Int32).toInt = 41 := by decide
      refine mcallV' (g := g) (q0 := 0) (ci := 10) (As := [.int 41]) (rest := []) St hK hT hA hP hD hS hl.1 [0] [] rfl rfl rfl (m_isSignH l g o a th hi ac tp en at2_24 (-1) 1 iD iO tU fm fk fa fc ft ff fb fi 41 tx hen (by first | assumption | omega | decide | exact Or.inl (by decide) | exact Or.inr (by decide)) (by decide) (by first | assumption | omega | decide | exact Or.inl (by decide) | exact Or.inr (by decide)) htx) (cwV 1 hts (zgL (zl4 k938 k939 k940 k839) k883) rfl rfl rfl (by decide +kernel) ⟨Nat.le_of_ble_eq_true rfl, Nat.le_of_ble_eq_true rfl⟩) rfl rfl rfl rfl (Nat.le_of_ble_eq_true rfl) dX12_atom_114 ⟨(Nat.le_of_ble_eq_true rfl), (Nat.le_of_ble_eq_true rfl)⟩ (fun u_ H locs hq29 hP hD hS => ?_)
      obtain ⟨at2_27, q_28⟩ := u_
      replace hq29 : (0 ≤ at2_27.toInt ∧ at2_27.toInt ≤ en.toInt + 7 - (1 : Int32).toInt) ∧ (at2_24.toInt ≤ at2_27.toInt) ∧ (zSk tx en.toInt at2_24.toInt at2_27.toInt) ∧ (q_28 = 1 ∧ zisS tx en.toInt at2_27.toInt (41 : Int32).toInt ∧ at2_27.toInt < en.toInt ∨ q_28 = 0 ∧ ¬ zisS tx en.toInt at2_27.toInt (41 : Int32).toInt) := hq29
      have hP : va_P g.1 vwCl (List.flatten [bMo g o a th hi ac tp 379 en at2_27 (-1) 1 iD iO tU fm fk fa fc ft ff fb fi]) H := hP
      have hD : va_D A (List.flatten [bMo g o a th hi ac tp 379 en at2_27 (-1) 1 iD iO tU fm fk fa fc ft ff fb fi]) := hD
      refine W.widen (k := 0) (n := 0) (Nat.le_of_ble_eq_true rfl) (Nat.le_of_ble_eq_true rfl) ?_
      refine W.eq (g2 := F0 m 117 ls [.int q_28]) rfl ?_
      obtain ⟨hq29_0, hq29_1, hq29_2, hq29_3⟩ := hq29
      rcases hq29_3 with ⟨rfl, hq29_k⟩ | ⟨rfl, hq29_k⟩
      · skip
        refine lv_if_ne (tgt := 128) hx hb dX12_atom_117 (by decide) (fun _ => ?_) (fun c30 => absurd c30 (by decide))
        refine lv_aload_n hx hb dX12_atom_128 rfl (lv_at hl 3 rfl) ?_
        refine lv_dup hx hb dX12_atom_129 rfl ?_
        refine va_get (D := g.1) (ci := 10) (v := .int at2_27) (C := RX12) (T := TX12) (N := 20) hx hb hts izRX12 hown hK hP 0 rfl rfl 11 (by decide) (hts _ k878) (fun _ h9 => h9) rfl dX12_atom_130 ?_
        refine lv_iconst (v := 1) hx hb dX12_atom_133 (by decide) ?_
        refine lv_iadd hx hb dX12_atom_134 ?_
        refine zgv (zadd (i := at2_27.toInt) (j := 1) rfl (by decide) (by omega)) (fun x_31 hx_31 => ?_)
        refine va_put (D := g.1) (ci := 10) (v := .int x_31) (ty := .int) (C := RX12) (T := TX12) (N := 20) hx hb hts izRX12 tyX12 tyX12_ok nmX12 hown hK hP hD hS 0 rfl rfl 11 (by decide) (hts _ k878) (fun _ h9 => h9) rfl (by decide +kernel) rfl rfl (Nat.le_of_ble_eq_true rfl) dX12_atom_135 (fun H locs hP hD hS => ?_)
        have hP : va_P g.1 vwCl (List.flatten [bMo g o a th hi ac tp 379 en x_31 (-1) 1 iD iO tU fm fk fa fc ft ff fb fi]) H := hP
        have hD : va_D A (List.flatten [bMo g o a th hi ac tp 379 en x_31 (-1) 1 iD iO tU fm fk fa fc ft ff fb fi]) := hD
        refine lv_aload_n hx hb dX12_atom_138 rfl (lv_at hl 3 rfl) ?_
        refine lv_dup hx hb dX12_atom_139 rfl ?_
        refine va_get (D := g.1) (ci := 10) (v := .int 1) (C := RX12) (T := TX12) (N := 20) hx hb hts izRX12 hown hK hP 0 rfl rfl 13 (by decide) (hts _ k933) (fun _ h9 => h9) rfl dX12_atom_140 ?_
        refine lv_iconst (v := 1) hx hb dX12_atom_143 (by decide) ?_
        refine lv_isub hx hb dX12_atom_144 ?_
        refine ztop (r := 0) (by decide) ?_
        refine va_put (D := g.1) (ci := 10) (v := .int 0) (ty := .int) (C := RX12) (T := TX12) (N := 20) hx hb hts izRX12 tyX12 tyX12_ok nmX12 hown hK hP hD hS 0 rfl rfl 13 (by decide) (hts _ k933) (fun _ h9 => h9) rfl (by decide +kernel) rfl rfl (Nat.le_of_ble_eq_true rfl) dX12_atom_145 (fun H locs hP hD hS => ?_)
        have hP : va_P g.1 vwCl (List.flatten [bMo g o a th hi ac tp 379 en x_31 (-1) 0 iD iO tU fm fk fa fc ft ff fb fi]) H := hP
        have hD : va_D A (List.flatten [bMo g o a th hi ac tp 379 en x_31 (-1) 0 iD iO tU fm fk fa fc ft ff fb fi]) := hD
        refine lv_iload_n hx hb dX12_atom_148 rfl (lv_at hl 0 rfl) ?_
        have hP : va_P g.1 vwCl (List.flatten [bMo g o a th hi ac tp 379 en x_31 (-1) 0 iD iO tU fm fk fa fc ft ff fb fi]) H := hP
        have hD : va_D A (List.flatten [bMo g o a th hi ac tp 379 en x_31 (-1) 0 iD iO tU fm fk fa fc ft ff fb fi]) := hD
        exact mret_z hx hb hr hlocks hS (Nat.le_of_ble_eq_true rfl) (Nat.le_of_ble_eq_true rfl) dX12_atom_149 (x_31) rfl (zb01 (zBi_01 _)) (show (0 ≤ x_31.toInt ∧ x_31.toInt ≤ en.toInt + 7 - 0) ∧ (tA.toInt ≤ x_31.toInt) ∧ (zbg tx en.toInt x_31.toInt = b1) from ⟨(by first | assumption | omega | decide), (by first | assumption | omega | decide), ((zb1 hq29_2 hq29_k.1 (by omega)).trans (by rw [hq25_2]; exact hb0.symm))⟩) hP hD
      · skip
        exact ((zisS_bn (d := 41) hq29_2 hq29_k (by decide)) (by rw [hq25_2]; exact hs0)).elim
    · skip
      refine lv_if_ne (tgt := 40) hx hb dX12_atom_32 (by decide) (fun c32 => absurd (by decide) c32) (fun _ => ?_)
      have hnd : ¬ zDeep tx en.toInt (zbg tx en.toInt tA.toInt) := zor_n (zBw (show _ = zbg tx en.toInt tA.toInt from hq3_2) hq6_k) (by rw [← zbz (zBe (show _ = zbg tx en.toInt tA.toInt from hq3_2) hq6_km)]; exact zisS_bn (d := 40) hq19_2 hq19_k (by decide))
      have hpl9 : zPlV tx en.toInt ev (zbg tx en.toInt at2_17.toInt) b1 bv := zPlV_b (zAv_p ha hnd) ((zbs hq19_2).trans (zbz (zBe (show _ = zbg tx en.toInt tA.toInt from hq3_2) hq6_km)))
      refine lv_aload_n hx hb dX12_atom_35 rfl (lv_at hl 2 rfl) ?_
      refine mcallV' (g := g) (q0 := 0) (ci := 10) (As := []) (rest := []) St hK hT hA hP hD hS hl.1 [0] [] rfl rfl rfl (m_plainV l g o a th hi ac tp en at2_17 0 iD iO tU fm fk fa fc ft ff fb fi tx ev b1 bv hen hq19_0 (by decide) hff hdr how (by first | assumption | omega | decide | exact Or.inl (by decide) | exact Or.inr (by decide)) htx) (cwV 0 hts (zgL (zl4 k948 k949 k950 k839) k947) rfl rfl rfl (by decide +kernel) ⟨Nat.le_of_ble_eq_true rfl, Nat.le_of_ble_eq_true rfl⟩) rfl rfl rfl rfl (Nat.le_of_ble_eq_true rfl) dX12_atom_36 ⟨(Nat.le_of_ble_eq_true rfl), (Nat.le_of_ble_eq_true rfl)⟩ (fun at2_33 H locs hq34 hP hD hS => ?_)
      replace hq34 : (0 ≤ at2_33.toInt ∧ at2_33.toInt ≤ en.toInt + 7 - (0 : Int32).toInt) ∧ (at2_17.toInt ≤ at2_33.toInt) ∧ (zbg tx en.toInt at2_33.toInt = b1) := hq34
      have hP : va_P g.1 vwCl (List.flatten [bMo g o a th hi ac tp 379 en at2_33 (-1) 0 iD iO tU fm fk fa fc ft ff fb fi]) H := hP
      have hD : va_D A (List.flatten [bMo g o a th hi ac tp 379 en at2_33 (-1) 0 iD iO tU fm fk fa fc ft ff fb fi]) := hD
      refine W.widen (k := 0) (n := 0) (Nat.le_of_ble_eq_true rfl) (Nat.le_of_ble_eq_true rfl) ?_
      refine W.eq (g2 := F0 m 39 ls [.int (zBi bv)]) rfl ?_
      obtain ⟨hq34_0, hq34_1, hq34_2⟩ := hq34
      have hP : va_P g.1 vwCl (List.flatten [bMo g o a th hi ac tp 379 en at2_33 (-1) 0 iD iO tU fm fk fa fc ft ff fb fi]) H := hP
      have hD : va_D A (List.flatten [bMo g o a th hi ac tp 379 en at2_33 (-1) 0 iD iO tU fm fk fa fc ft ff fb fi]) := hD
      exact mret_z hx hb hr hlocks hS (Nat.le_of_ble_eq_true rfl) (Nat.le_of_ble_eq_true rfl) dX12_atom_39 (at2_33) rfl (zb01 (zBi_01 _)) (show (0 ≤ at2_33.toInt ∧ at2_33.toInt ≤ en.toInt + 7 - 0) ∧ (tA.toInt ≤ at2_33.toInt) ∧ (zbg tx en.toInt at2_33.toInt = b1) from ⟨(by first | assumption | omega | decide), (by first | assumption | omega | decide), hq34_2⟩) hP hD
set_option maxRecDepth 100000 in
set_option maxHeartbeats 4000000 in
theorem m_everyV0 (l : Launch) (g : zG) (o : Nat) (a : Nat → Nat) (th : Int32) (hi : Int32) (ac : Int32) (tp : Int32) (en : Int32) (tA : Int32) (iD : Int32) (iO : Int32) (tU : Int32) (fm : Nat → Int32) (fk : Nat → Int32) (fa : Nat → Int32) (fc : Nat → Int32) (ft : Nat → Int32) (ff : Nat → Int32) (fb : Nat → Int32) (fi : Nat → Int32) (tx : Nat → Int32) (ev : Nat → Int32) (b1 : Int) (bv : Bool) (o9 : Bool) (hen : 0 ≤ en.toInt ∧ en.toInt ≤ 400) (htA : 0 ≤ tA.toInt ∧ tA.toInt ≤ en.toInt + 7 - 0) (hde : 0 ≤ 0 ∧ 0 ≤ 6) (hff : ∀ k9 : Nat, k9 < 6 → ff k9 = ev k9) (hdr : iD = zBi (zNz (ev 6))) (how : iO = zBi (zNz (ev 7))) (hc : zCv tx en.toInt (zAv tx en.toInt ev 6) o9 true (zbg tx en.toInt tA.toInt) b1 bv) (htx : ∀ k9 : Nat, (k9 : Int) < en.toInt → fm (379 + k9) = tx k9) : zM' g l yX12_every (Cond.code yX12_every cX12_every 3 (some .boolean) :: zB) ({ frames := 27, cells := 0, slots := 0, locals := 598 } : Room) [.ref o] [bMo g o a th hi ac tp 379 en tA (-1) 0 iD iO tU fm fk fa fc ft ff fb fi] (fun u : Int32 × Int32 × Bool => (fun (at2 : Int32) (q : Int32) (w9 : Bool) => some (.int q)) (u.1) (u.2.1) (u.2.2)) (fun u : Int32 × Int32 × Bool => (fun (at2 : Int32) (q : Int32) (w9 : Bool) => (0 ≤ at2.toInt ∧ at2.toInt ≤ en.toInt + 7 - 0) ∧ (tA.toInt ≤ at2.toInt) ∧ (q = zBi w9) ∧ (zCvE tx en.toInt (zAv tx en.toInt ev 6) o9 w9 (zbg tx en.toInt at2.toInt) b1 bv)) (u.1) (u.2.1) (u.2.2)) (fun u : Int32 × Int32 × Bool => (fun (at2 : Int32) (q : Int32) (w9 : Bool) => [bMo g o a th hi ac tp 379 en at2 (-1) 0 iD iO tU fm fk fa fc ft ff fb fi]) (u.1) (u.2.1) (u.2.2)) := by
  refine zM'.of (cc := cX12_every) (maxL := 3) (rt := (some .boolean)) (by decide) rfl (Nat.le_of_ble_eq_true rfl) ?_
  intro p e s m args below meth c A ls St hr hlocks hin hK hT hA hP hD hS hl
  obtain ⟨hx, hb, hml, hown, hts⟩ := id St
  have hl : lv_has ls 3 [(0, .ref o)] := hl
  obtain ⟨p0, w0, ha0, hm0⟩ := zCv_a hc
  refine lv_aload_n hx hb dX12_every_0 rfl (lv_at hl 0 rfl) ?_
  refine mcallV' (g := g) (q0 := 0) (ci := 10) (As := []) (rest := []) St hK hT hA hP hD hS hl.1 [0] [] rfl rfl rfl (m_atomV0 l g o a th hi ac tp en tA iD iO tU fm fk fa fc ft ff fb fi tx ev p0 w0 hen htA hde hff hdr how (by first | assumption | omega | decide | exact Or.inl (by decide) | exact Or.inr (by decide)) htx) (cwV 0 hts (zgL (zl4 k951 k952 k953 k839) k962) rfl rfl rfl (by decide +kernel) ⟨Nat.le_of_ble_eq_true rfl, Nat.le_of_ble_eq_true rfl⟩) rfl rfl rfl rfl (Nat.le_of_ble_eq_true rfl) dX12_every_1 ⟨(Nat.le_of_ble_eq_true rfl), (Nat.le_of_ble_eq_true rfl)⟩ (fun at2_1 H locs hq2 hP hD hS => ?_)
  replace hq2 : (0 ≤ at2_1.toInt ∧ at2_1.toInt ≤ en.toInt + 7 - 0) ∧ (tA.toInt ≤ at2_1.toInt) ∧ (zbg tx en.toInt at2_1.toInt = p0) := hq2
  have hP : va_P g.1 vwCl (List.flatten [bMo g o a th hi ac tp 379 en at2_1 (-1) 0 iD iO tU fm fk fa fc ft ff fb fi]) H := hP
  have hD : va_D A (List.flatten [bMo g o a th hi ac tp 379 en at2_1 (-1) 0 iD iO tU fm fk fa fc ft ff fb fi]) := hD
  refine W.widen (k := 0) (n := 0) (Nat.le_of_ble_eq_true rfl) (Nat.le_of_ble_eq_true rfl) ?_
  refine W.eq (g2 := F0 m 4 ls [.int (zBi w0)]) rfl ?_
  obtain ⟨hq2_0, hq2_1, hq2_2⟩ := hq2
  refine lv_istore_n (lv' := [(1, .int (zBi w0)), (0, .ref o)]) hx hb dX12_every_4 rfl hl (by decide) rfl (fun ls hl => ?_)
  have hl := lv_sub (l' := [(0, .ref o), (1, .int (zBi w0))]) hl [1, 0] rfl
  have LP5_9 : ∀ (kf : Nat) (x_3 : Int32) (x_4 : Int32), (0 ≤ x_4.toInt ∧ x_4.toInt ≤ 407) → (tA.toInt ≤ x_4.toInt) → (x_4.toInt ≤ en.toInt + 7 - 0) → (∃ a9, x_3 = zBi a9 ∧ zCvM tx en.toInt (zAv tx en.toInt ev 6) o9 a9 (zbg tx en.toInt x_4.toInt) b1 bv) → ∀ (H : Heap) (locs : List Loc) (ls : Array Slot), ((en.toInt + 8 - x_4.toInt).toNat) < kf → va_P g.1 vwCl (List.flatten [bMo g o a th hi ac tp 379 en x_4 (-1) 0 iD iO tU fm fk fa fc ft ff fb fi]) H → va_D A (List.flatten [bMo g o a th hi ac tp 379 en x_4 (-1) 0 iD iO tU fm fk fa fc ft ff fb fi]) → va_S A s.heap H locs → lv_has ls 3 [(0, .ref o), (1, .int x_3)] → W p l e ({ frames := 27, cells := 0, slots := 0, locals := 598 } : Room) s m args below meth c H locs (0) (0) (zF g (fun u : Int32 × Int32 × Bool => (fun (at2 : Int32) (q : Int32) (w9 : Bool) => some (.int q)) (u.1) (u.2.1) (u.2.2)) (fun u : Int32 × Int32 × Bool => (fun (at2 : Int32) (q : Int32) (w9 : Bool) => (0 ≤ at2.toInt ∧ at2.toInt ≤ en.toInt + 7 - 0) ∧ (tA.toInt ≤ at2.toInt) ∧ (q = zBi w9) ∧ (zCvE tx en.toInt (zAv tx en.toInt ev 6) o9 w9 (zbg tx en.toInt at2.toInt) b1 bv)) (u.1) (u.2.1) (u.2.2)) (fun u : Int32 × Int32 × Bool => (fun (at2 : Int32) (q : Int32) (w9 : Bool) => [bMo g o a th hi ac tp 379 en at2 (-1) 0 iD iO tU fm fk fa fc ft ff fb fi]) (u.1) (u.2.1) (u.2.2)) ({ frames := 27, cells := 0, slots := 0, locals := 598 } : Room) below args s A) (F0 m 5 ls []) := by
    intro kf
    induction kf with
    | zero => intro x_3 x_4 i5 i6 i7 i8 H locs ls hk; exact absurd hk (Nat.not_lt_zero _)
    | succ kf ih5_10 =>
      intro x_3 x_4 i5 i6 i7 i8 H locs ls hk5_10 hP hD hS hl
      refine lv_aload_n hx hb dX12_every_5 rfl (lv_at hl 0 rfl) ?_
      refine va_get (D := g.1) (ci := 10) (v := .int (-1)) (C := RX12) (T := TX12) (N := 20) hx hb hts izRX12 hown hK hP 0 rfl rfl 12 (by decide) (hts _ k820) (fun _ h9 => h9) rfl dX12_every_6 ?_
      refine lv_iconst (v := (-1)) hx hb dX12_every_9 (by decide) ?_
      refine lv_icmp_ne (tgt := 44) hx hb dX12_every_10 (by decide) (fun c11 => absurd (by decide) c11) (fun _ => ?_)
      obtain ⟨a12, e13, h14⟩ := i8
      refine lv_aload_n hx hb dX12_every_13 rfl (lv_at hl 0 rfl) ?_
      refine va_ldcS (q := g.2 100) hx hb hown (zra45 hT.2.1) dX12_every_14 ?_
      have hL0 : (0 : Int32).toInt = 0 := by decide
      refine mcallV' (g := g) (q0 := 0) (ci := 10) (As := [.ref (g.2 100)]) (rest := []) St hK hT hA hP hD hS hl.1 [0] [] rfl rfl rfl (m_hasH l g o a th hi ac tp en x_4 (-1) 0 iD iO tU fm fk fa fc ft ff fb fi tx (g.2 100) 45 zqa45 hen (by first | assumption | omega | decide | exact Or.inl (by decide) | exact Or.inr (by decide)) (by decide) htx rfl zla45 zna45 (zlitB zla45)) (cwV 1 hts (zgL (zl4 k899 k900 k901 k839) k889) rfl rfl rfl (by decide +kernel) ⟨Nat.le_of_ble_eq_true rfl, Nat.le_of_ble_eq_true rfl⟩) rfl rfl rfl rfl (Nat.le_of_ble_eq_true rfl) dX12_every_16 ⟨(Nat.le_of_ble_eq_true rfl), (Nat.le_of_ble_eq_true rfl)⟩ (fun u_ H locs hq17 hP hD hS => ?_)
      obtain ⟨at2_15, r_16⟩ := u_
      replace hq17 : (0 ≤ at2_15.toInt ∧ at2_15.toInt ≤ en.toInt + 7 - (0 : Int32).toInt) ∧ (x_4.toInt ≤ at2_15.toInt) ∧ (r_16 = 1 ∧ zisW tx en.toInt (zbg tx en.toInt x_4.toInt) zqa45.2.2.2 ∧ at2_15.toInt = znx tx en.toInt (zbg tx en.toInt x_4.toInt) ∧ x_4.toInt < at2_15.toInt ∧ at2_15.toInt ≤ en.toInt ∨ r_16 = 0 ∧ ¬ zisW tx en.toInt (zbg tx en.toInt x_4.toInt) zqa45.2.2.2 ∧ at2_15.toInt = zbg tx en.toInt x_4.toInt) := hq17
      have hP : va_P g.1 vwCl (List.flatten [bMo g o a th hi ac tp 379 en at2_15 (-1) 0 iD iO tU fm fk fa fc ft ff fb fi]) H := hP
      have hD : va_D A (List.flatten [bMo g o a th hi ac tp 379 en at2_15 (-1) 0 iD iO tU fm fk fa fc ft ff fb fi]) := hD
      refine W.widen (k := 0) (n := 0) (Nat.le_of_ble_eq_true rfl) (Nat.le_of_ble_eq_true rfl) ?_
      refine W.eq (g2 := F0 m 19 ls [.int r_16]) rfl ?_
      obtain ⟨hq17_0, hq17_1, hq17_2⟩ := hq17
      rcases hq17_2 with ⟨rfl, hq17_k, hq17_km⟩ | ⟨rfl, hq17_k, hq17_km⟩
      · skip
        refine lv_if_eq (tgt := 44) hx hb dX12_every_19 (by decide) (fun c18 => absurd c18 (by decide)) (fun _ => ?_)
        obtain ⟨p19, w20, h21, m22⟩ := zCv_a (zCvM_y h14 hq17_k)
        have h21 := zAv_b h21 (show zbg tx en.toInt at2_15.toInt = _ from zbt hq17_km.1)
        refine lv_aload_n hx hb dX12_every_22 rfl (lv_at hl 0 rfl) ?_
        refine mcallV' (g := g) (q0 := 0) (ci := 10) (As := []) (rest := []) St hK hT hA hP hD hS hl.1 [0] [] rfl rfl rfl (m_atomV0 l g o a th hi ac tp en at2_15 iD iO tU fm fk fa fc ft ff fb fi tx ev p19 w20 hen (by first | assumption | omega | decide | exact Or.inl (by decide) | exact Or.inr (by decide)) hde hff hdr how (by first | assumption | omega | decide | exact Or.inl (by decide) | exact Or.inr (by decide)) htx) (cwV 0 hts (zgL (zl4 k951 k952 k953 k839) k962) rfl rfl rfl (by decide +kernel) ⟨Nat.le_of_ble_eq_true rfl, Nat.le_of_ble_eq_true rfl⟩) rfl rfl rfl rfl (Nat.le_of_ble_eq_true rfl) dX12_every_23 ⟨(Nat.le_of_ble_eq_true rfl), (Nat.le_of_ble_eq_true rfl)⟩ (fun at2_23 H locs hq24 hP hD hS => ?_)
        replace hq24 : (0 ≤ at2_23.toInt ∧ at2_23.toInt ≤ en.toInt + 7 - 0) ∧ (at2_15.toInt ≤ at2_23.toInt) ∧ (zbg tx en.toInt at2_23.toInt = p19) := hq24
        have hP : va_P g.1 vwCl (List.flatten [bMo g o a th hi ac tp 379 en at2_23 (-1) 0 iD iO tU fm fk fa fc ft ff fb fi]) H := hP
        have hD : va_D A (List.flatten [bMo g o a th hi ac tp 379 en at2_23 (-1) 0 iD iO tU fm fk fa fc ft ff fb fi]) := hD
        refine W.widen (k := 0) (n := 0) (Nat.le_of_ble_eq_true rfl) (Nat.le_of_ble_eq_true rfl) ?_
        refine W.eq (g2 := F0 m 26 ls [.int (zBi w20)]) rfl ?_
        obtain ⟨hq24_0, hq24_1, hq24_2⟩ := hq24
        refine lv_istore_n (lv' := [(2, .int (zBi w20)), (0, .ref o), (1, .int x_3)]) hx hb dX12_every_26 rfl hl (by decide) rfl (fun ls hl => ?_)
        refine lv_iload_n hx hb dX12_every_27 rfl (lv_at hl 2 rfl) ?_
        refine lv_if_eq (tgt := 39) hx hb dX12_every_28 (by decide) (fun cb9 => ?_) (fun cb9 => ?_)
        · skip
          have c25 : x_3.toInt = 0 := zeq cb9 rfl (by decide)
          have n26 : 0 ≤ x_3.toInt := Int.le_trans (Int.le_refl _) (Int.le_of_eq c25.symm)
          have n27 : x_3.toInt ≤ 0 := Int.le_trans (Int.le_of_eq c25) (Int.le_refl _)
          refine lv_iconst (v := 0) hx hb dX12_every_39 (by decide) ?_
          refine lv_istore_n (lv' := [(1, .int 0), (2, .int (zBi w20)), (0, .ref o)]) hx hb dX12_every_40 rfl hl (by decide) rfl (fun ls hl => ?_)
          refine lv_goto (tgt := 5) hx hb dX12_every_41 (by decide) ?_
          have hl := lv_sub (l' := [(0, .ref o), (1, .int 0), (2, .int (zBi w20))]) hl [2, 0, 1] rfl
          have hP : va_P g.1 vwCl (List.flatten [bMo g o a th hi ac tp 379 en at2_23 (-1) 0 iD iO tU fm fk fa fc ft ff fb fi]) H := hP
          have hD : va_D A (List.flatten [bMo g o a th hi ac tp 379 en at2_23 (-1) 0 iD iO tU fm fk fa fc ft ff fb fi]) := hD
          exact ih5_10 0 at2_23 (by first | omega | assumption | decide) (by first | omega | assumption | decide) (by first | omega | assumption | decide) ⟨(a12 && w20), (zBiA0 (by rw [← e13]; omega)), zCM_b m22 hq24_2⟩ H _ ls (by omega)  hP hD hS (lv_sub hl [0, 1] rfl)
        · skip
          have c28 : ¬ x_3.toInt = 0 := zne cb9 rfl (by decide)
          refine lv_iload_n hx hb dX12_every_31 rfl (lv_at hl 0 rfl) ?_
          refine lv_if_eq (tgt := 39) hx hb dX12_every_32 (by decide) (fun cb9 => ?_) (fun cb9 => ?_)
          · skip
            have c29 : (zBi w20).toInt = 0 := zeq cb9 rfl (by decide)
            have n30 : 0 ≤ (zBi w20).toInt := Int.le_trans (Int.le_refl _) (Int.le_of_eq c29.symm)
            have n31 : (zBi w20).toInt ≤ 0 := Int.le_trans (Int.le_of_eq c29) (Int.le_refl _)
            refine lv_iconst (v := 0) hx hb dX12_every_39 (by decide) ?_
            refine lv_istore_n (lv' := [(1, .int 0), (2, .int (zBi w20)), (0, .ref o)]) hx hb dX12_every_40 rfl hl (by decide) rfl (fun ls hl => ?_)
            refine lv_goto (tgt := 5) hx hb dX12_every_41 (by decide) ?_
            have hl := lv_sub (l' := [(0, .ref o), (1, .int 0), (2, .int (zBi w20))]) hl [2, 0, 1] rfl
            have hP : va_P g.1 vwCl (List.flatten [bMo g o a th hi ac tp 379 en at2_23 (-1) 0 iD iO tU fm fk fa fc ft ff fb fi]) H := hP
            have hD : va_D A (List.flatten [bMo g o a th hi ac tp 379 en at2_23 (-1) 0 iD iO tU fm fk fa fc ft ff fb fi]) := hD
            exact ih5_10 0 at2_23 (by first | omega | assumption | decide) (by first | omega | assumption | decide) (by first | omega | assumption | decide) ⟨(a12 && w20), (zBiA1 (by omega)), zCM_b m22 hq24_2⟩ H _ ls (by omega)  hP hD hS (lv_sub hl [0, 1] rfl)
          · skip
            have c32 : ¬ (zBi w20).toInt = 0 := zne cb9 rfl (by decide)
            refine lv_iconst (v := 1) hx hb dX12_every_35 (by decide) ?_
            refine lv_goto (tgt := 40) hx hb dX12_every_36 (by decide) ?_
            refine lv_istore_n (lv' := [(1, .int 1), (2, .int (zBi w20)), (0, .ref o)]) hx hb dX12_every_40 rfl hl (by decide) rfl (fun ls hl => ?_)
            refine lv_goto (tgt := 5) hx hb dX12_every_41 (by decide) ?_
            have hl := lv_sub (l' := [(0, .ref o), (1, .int 1), (2, .int (zBi w20))]) hl [2, 0, 1] rfl
            have hL1 : (1 : Int32).toInt = 1 := by decide
            have hP : va_P g.1 vwCl (List.flatten [bMo g o a th hi ac tp 379 en at2_23 (-1) 0 iD iO tU fm fk fa fc ft ff fb fi]) H := hP
            have hD : va_D A (List.flatten [bMo g o a th hi ac tp 379 en at2_23 (-1) 0 iD iO tU fm fk fa fc ft ff fb fi]) := hD
            exact ih5_10 1 at2_23 (by first | omega | assumption | decide) (by first | omega | assumption | decide) (by first | omega | assumption | decide) ⟨(a12 && w20), (zBiA (by rw [← e13]; omega) (by omega)), zCM_b m22 hq24_2⟩ H _ ls (by omega)  hP hD hS (lv_sub hl [0, 1] rfl)
      · skip
        refine lv_if_eq (tgt := 44) hx hb dX12_every_19 (by decide) (fun _ => ?_) (fun c33 => absurd (by decide) c33)
        refine lv_iload_n hx hb dX12_every_44 rfl (lv_at hl 1 rfl) ?_
        have hP : va_P g.1 vwCl (List.flatten [bMo g o a th hi ac tp 379 en at2_15 (-1) 0 iD iO tU fm fk fa fc ft ff fb fi]) H := hP
        have hD : va_D A (List.flatten [bMo g o a th hi ac tp 379 en at2_15 (-1) 0 iD iO tU fm fk fa fc ft ff fb fi]) := hD
        exact mret_z hx hb hr hlocks hS (Nat.le_of_ble_eq_true rfl) (Nat.le_of_ble_eq_true rfl) dX12_every_45 (at2_15, x_3, a12) rfl (zb01 (by rw [e13]; exact zBi_01 _)) (show (0 ≤ at2_15.toInt ∧ at2_15.toInt ≤ en.toInt + 7 - 0) ∧ (tA.toInt ≤ at2_15.toInt) ∧ (x_3 = zBi a12) ∧ (zCvE tx en.toInt (zAv tx en.toInt ev 6) o9 a12 (zbg tx en.toInt at2_15.toInt) b1 bv) from ⟨(by first | assumption | omega | decide), (by first | assumption | omega | decide), e13, zCE_b (zCvM_n h14 hq17_k) (zbz hq17_km)⟩) hP hD
  have hP : va_P g.1 vwCl (List.flatten [bMo g o a th hi ac tp 379 en at2_1 (-1) 0 iD iO tU fm fk fa fc ft ff fb fi]) H := hP
  have hD : va_D A (List.flatten [bMo g o a th hi ac tp 379 en at2_1 (-1) 0 iD iO tU fm fk fa fc ft ff fb fi]) := hD
  exact LP5_9 _ (zBi w0) at2_1 (by first | omega | assumption | decide) hq2_1 (by first | omega | assumption | decide) ⟨w0, rfl, zCvM_w (zCM_b hm0 hq2_2)⟩ H _ ls (Nat.lt_succ_self _)  hP hD hS (lv_sub hl [0, 1] rfl)
set_option maxRecDepth 100000 in
set_option maxHeartbeats 4000000 in
theorem m_someV0 (l : Launch) (g : zG) (o : Nat) (a : Nat → Nat) (th : Int32) (hi : Int32) (ac : Int32) (tp : Int32) (en : Int32) (tA : Int32) (iD : Int32) (iO : Int32) (tU : Int32) (fm : Nat → Int32) (fk : Nat → Int32) (fa : Nat → Int32) (fc : Nat → Int32) (ft : Nat → Int32) (ff : Nat → Int32) (fb : Nat → Int32) (fi : Nat → Int32) (tx : Nat → Int32) (ev : Nat → Int32) (b1 : Int) (bv : Bool) (hen : 0 ≤ en.toInt ∧ en.toInt ≤ 400) (htA : 0 ≤ tA.toInt ∧ tA.toInt ≤ en.toInt + 7 - 0) (hde : 0 ≤ 0 ∧ 0 ≤ 6) (hff : ∀ k9 : Nat, k9 < 6 → ff k9 = ev k9) (hdr : iD = zBi (zNz (ev 6))) (how : iO = zBi (zNz (ev 7))) (hc : zCv tx en.toInt (zAv tx en.toInt ev 6) false true (zbg tx en.toInt tA.toInt) b1 bv) (htx : ∀ k9 : Nat, (k9 : Int) < en.toInt → fm (379 + k9) = tx k9) : zM' g l yX12_some (Cond.code yX12_some cX12_some 3 (some .boolean) :: zB) ({ frames := 28, cells := 0, slots := 0, locals := 620 } : Room) [.ref o] [bMo g o a th hi ac tp 379 en tA (-1) 0 iD iO tU fm fk fa fc ft ff fb fi] (fun (at2 : Int32) => some (.int (zBi bv))) (fun (at2 : Int32) => (0 ≤ at2.toInt ∧ at2.toInt ≤ en.toInt + 7 - 0) ∧ (tA.toInt ≤ at2.toInt) ∧ (zbg tx en.toInt at2.toInt = b1)) (fun (at2 : Int32) => [bMo g o a th hi ac tp 379 en at2 (-1) 0 iD iO tU fm fk fa fc ft ff fb fi]) := by
  refine zM'.of (cc := cX12_some) (maxL := 3) (rt := (some .boolean)) (by decide) rfl (Nat.le_of_ble_eq_true rfl) ?_
  intro p e s m args below meth c A ls St hr hlocks hin hK hT hA hP hD hS hl
  obtain ⟨hx, hb, hml, hown, hts⟩ := id St
  have hl : lv_has ls 3 [(0, .ref o)] := hl
  refine lv_aload_n hx hb dX12_some_0 rfl (lv_at hl 0 rfl) ?_
  refine mcallV' (g := g) (q0 := 0) (ci := 10) (As := []) (rest := []) St hK hT hA hP hD hS hl.1 [0] [] rfl rfl rfl (m_everyV0 l g o a th hi ac tp en tA iD iO tU fm fk fa fc ft ff fb fi tx ev b1 bv false hen htA hde hff hdr how hc htx) (cwV 0 hts (zgL (zl4 k959 k960 k961 k839) k957) rfl rfl rfl (by decide +kernel) ⟨Nat.le_of_ble_eq_true rfl, Nat.le_of_ble_eq_true rfl⟩) rfl rfl rfl rfl (Nat.le_of_ble_eq_true rfl) dX12_some_1 ⟨(Nat.le_of_ble_eq_true rfl), (Nat.le_of_ble_eq_true rfl)⟩ (fun u_ H locs hq4 hP hD hS => ?_)
  obtain ⟨at2_1, q_2, w9_3⟩ := u_
  replace hq4 : (0 ≤ at2_1.toInt ∧ at2_1.toInt ≤ en.toInt + 7 - 0) ∧ (tA.toInt ≤ at2_1.toInt) ∧ (q_2 = zBi w9_3) ∧ (zCvE tx en.toInt (zAv tx en.toInt ev 6) false w9_3 (zbg tx en.toInt at2_1.toInt) b1 bv) := hq4
  have hP : va_P g.1 vwCl (List.flatten [bMo g o a th hi ac tp 379 en at2_1 (-1) 0 iD iO tU fm fk fa fc ft ff fb fi]) H := hP
  have hD : va_D A (List.flatten [bMo g o a th hi ac tp 379 en at2_1 (-1) 0 iD iO tU fm fk fa fc ft ff fb fi]) := hD
  refine W.widen (k := 0) (n := 0) (Nat.le_of_ble_eq_true rfl) (Nat.le_of_ble_eq_true rfl) ?_
  refine W.eq (g2 := F0 m 4 ls [.int q_2]) rfl ?_
  obtain ⟨hq4_0, hq4_1, hq4_2, hq4_3⟩ := hq4
  refine lv_istore_n (lv' := [(1, .int q_2), (0, .ref o)]) hx hb dX12_some_4 rfl hl (by decide) rfl (fun ls hl => ?_)
  have hl := lv_sub (l' := [(0, .ref o), (1, .int q_2)]) hl [1, 0] rfl
  have LP5_11 : ∀ (kf : Nat) (x_5 : Int32) (x_6 : Int32), (0 ≤ x_6.toInt ∧ x_6.toInt ≤ 407) → (tA.toInt ≤ x_6.toInt) → (x_6.toInt ≤ en.toInt + 7 - 0) → (∃ a9, x_5 = zBi a9 ∧ zCvO tx en.toInt (zAv tx en.toInt ev 6) a9 (zbg tx en.toInt x_6.toInt) b1 bv) → ∀ (H : Heap) (locs : List Loc) (ls : Array Slot), ((en.toInt + 8 - x_6.toInt).toNat) < kf → va_P g.1 vwCl (List.flatten [bMo g o a th hi ac tp 379 en x_6 (-1) 0 iD iO tU fm fk fa fc ft ff fb fi]) H → va_D A (List.flatten [bMo g o a th hi ac tp 379 en x_6 (-1) 0 iD iO tU fm fk fa fc ft ff fb fi]) → va_S A s.heap H locs → lv_has ls 3 [(0, .ref o), (1, .int x_5)] → W p l e ({ frames := 28, cells := 0, slots := 0, locals := 620 } : Room) s m args below meth c H locs (0) (0) (zF g (fun (at2 : Int32) => some (.int (zBi bv))) (fun (at2 : Int32) => (0 ≤ at2.toInt ∧ at2.toInt ≤ en.toInt + 7 - 0) ∧ (tA.toInt ≤ at2.toInt) ∧ (zbg tx en.toInt at2.toInt = b1)) (fun (at2 : Int32) => [bMo g o a th hi ac tp 379 en at2 (-1) 0 iD iO tU fm fk fa fc ft ff fb fi]) ({ frames := 28, cells := 0, slots := 0, locals := 620 } : Room) below args s A) (F0 m 5 ls []) := by
    intro kf
    induction kf with
    | zero => intro x_5 x_6 i7 i8 i9 i10 H locs ls hk; exact absurd hk (Nat.not_lt_zero _)
    | succ kf ih5_12 =>
      intro x_5 x_6 i7 i8 i9 i10 H locs ls hk5_12 hP hD hS hl
      refine lv_aload_n hx hb dX12_some_5 rfl (lv_at hl 0 rfl) ?_
      refine va_get (D := g.1) (ci := 10) (v := .int (-1)) (C := RX12) (T := TX12) (N := 20) hx hb hts izRX12 hown hK hP 0 rfl rfl 12 (by decide) (hts _ k820) (fun _ h9 => h9) rfl dX12_some_6 ?_
      refine lv_iconst (v := (-1)) hx hb dX12_some_9 (by decide) ?_
      refine lv_icmp_ne (tgt := 44) hx hb dX12_some_10 (by decide) (fun c13 => absurd (by decide) c13) (fun _ => ?_)
      obtain ⟨a14, e15, h16⟩ := i10
      refine lv_aload_n hx hb dX12_some_13 rfl (lv_at hl 0 rfl) ?_
      refine va_ldcS (q := g.2 102) hx hb hown (zra46 hT.2.1) dX12_some_14 ?_
      have hL0 : (0 : Int32).toInt = 0 := by decide
      refine mcallV' (g := g) (q0 := 0) (ci := 10) (As := [.ref (g.2 102)]) (rest := []) St hK hT hA hP hD hS hl.1 [0] [] rfl rfl rfl (m_hasH l g o a th hi ac tp en x_6 (-1) 0 iD iO tU fm fk fa fc ft ff fb fi tx (g.2 102) 46 zqa46 hen (by first | assumption | omega | decide | exact Or.inl (by decide) | exact Or.inr (by decide)) (by decide) htx rfl zla46 zna46 (zlitB zla46)) (cwV 1 hts (zgL (zl4 k899 k900 k901 k839) k889) rfl rfl rfl (by decide +kernel) ⟨Nat.le_of_ble_eq_true rfl, Nat.le_of_ble_eq_true rfl⟩) rfl rfl rfl rfl (Nat.le_of_ble_eq_true rfl) dX12_some_16 ⟨(Nat.le_of_ble_eq_true rfl), (Nat.le_of_ble_eq_true rfl)⟩ (fun u_ H locs hq19 hP hD hS => ?_)
      obtain ⟨at2_17, r_18⟩ := u_
      replace hq19 : (0 ≤ at2_17.toInt ∧ at2_17.toInt ≤ en.toInt + 7 - (0 : Int32).toInt) ∧ (x_6.toInt ≤ at2_17.toInt) ∧ (r_18 = 1 ∧ zisW tx en.toInt (zbg tx en.toInt x_6.toInt) zqa46.2.2.2 ∧ at2_17.toInt = znx tx en.toInt (zbg tx en.toInt x_6.toInt) ∧ x_6.toInt < at2_17.toInt ∧ at2_17.toInt ≤ en.toInt ∨ r_18 = 0 ∧ ¬ zisW tx en.toInt (zbg tx en.toInt x_6.toInt) zqa46.2.2.2 ∧ at2_17.toInt = zbg tx en.toInt x_6.toInt) := hq19
      have hP : va_P g.1 vwCl (List.flatten [bMo g o a th hi ac tp 379 en at2_17 (-1) 0 iD iO tU fm fk fa fc ft ff fb fi]) H := hP
      have hD : va_D A (List.flatten [bMo g o a th hi ac tp 379 en at2_17 (-1) 0 iD iO tU fm fk fa fc ft ff fb fi]) := hD
      refine W.widen (k := 0) (n := 0) (Nat.le_of_ble_eq_true rfl) (Nat.le_of_ble_eq_true rfl) ?_
      refine W.eq (g2 := F0 m 19 ls [.int r_18]) rfl ?_
      obtain ⟨hq19_0, hq19_1, hq19_2⟩ := hq19
      rcases hq19_2 with ⟨rfl, hq19_k, hq19_km⟩ | ⟨rfl, hq19_k, hq19_km⟩
      · skip
        refine lv_if_eq (tgt := 44) hx hb dX12_some_19 (by decide) (fun c20 => absurd c20 (by decide)) (fun _ => ?_)
        have h21 := zCv_b (zCvO_y h16 hq19_k) (show zbg tx en.toInt at2_17.toInt = _ from zbt hq19_km.1)
        refine lv_aload_n hx hb dX12_some_22 rfl (lv_at hl 0 rfl) ?_
        refine mcallV' (g := g) (q0 := 0) (ci := 10) (As := []) (rest := []) St hK hT hA hP hD hS hl.1 [0] [] rfl rfl rfl (m_everyV0 l g o a th hi ac tp en at2_17 iD iO tU fm fk fa fc ft ff fb fi tx ev b1 bv a14 hen (by first | assumption | omega | decide | exact Or.inl (by decide) | exact Or.inr (by decide)) hde hff hdr how (by first | assumption | omega | decide | exact Or.inl (by decide) | exact Or.inr (by decide)) htx) (cwV 0 hts (zgL (zl4 k959 k960 k961 k839) k957) rfl rfl rfl (by decide +kernel) ⟨Nat.le_of_ble_eq_true rfl, Nat.le_of_ble_eq_true rfl⟩) rfl rfl rfl rfl (Nat.le_of_ble_eq_true rfl) dX12_some_23 ⟨(Nat.le_of_ble_eq_true rfl), (Nat.le_of_ble_eq_true rfl)⟩ (fun u_ H locs hq25 hP hD hS => ?_)
        obtain ⟨at2_22, q_23, w9_24⟩ := u_
        replace hq25 : (0 ≤ at2_22.toInt ∧ at2_22.toInt ≤ en.toInt + 7 - 0) ∧ (at2_17.toInt ≤ at2_22.toInt) ∧ (q_23 = zBi w9_24) ∧ (zCvE tx en.toInt (zAv tx en.toInt ev 6) a14 w9_24 (zbg tx en.toInt at2_22.toInt) b1 bv) := hq25
        have hP : va_P g.1 vwCl (List.flatten [bMo g o a th hi ac tp 379 en at2_22 (-1) 0 iD iO tU fm fk fa fc ft ff fb fi]) H := hP
        have hD : va_D A (List.flatten [bMo g o a th hi ac tp 379 en at2_22 (-1) 0 iD iO tU fm fk fa fc ft ff fb fi]) := hD
        refine W.widen (k := 0) (n := 0) (Nat.le_of_ble_eq_true rfl) (Nat.le_of_ble_eq_true rfl) ?_
        refine W.eq (g2 := F0 m 26 ls [.int q_23]) rfl ?_
        obtain ⟨hq25_0, hq25_1, hq25_2, hq25_3⟩ := hq25
        refine lv_istore_n (lv' := [(2, .int q_23), (0, .ref o), (1, .int x_5)]) hx hb dX12_some_26 rfl hl (by decide) rfl (fun ls hl => ?_)
        refine lv_iload_n hx hb dX12_some_27 rfl (lv_at hl 2 rfl) ?_
        refine lv_if_ne (tgt := 35) hx hb dX12_some_28 (by decide) (fun cb9 => ?_) (fun cb9 => ?_)
        · skip
          have c26 : ¬ x_5.toInt = 0 := zne cb9 rfl (by decide)
          refine lv_iconst (v := 1) hx hb dX12_some_35 (by decide) ?_
          refine lv_goto (tgt := 40) hx hb dX12_some_36 (by decide) ?_
          refine lv_istore_n (lv' := [(1, .int 1), (2, .int q_23), (0, .ref o)]) hx hb dX12_some_40 rfl hl (by decide) rfl (fun ls hl => ?_)
          refine lv_goto (tgt := 5) hx hb dX12_some_41 (by decide) ?_
          have hl := lv_sub (l' := [(0, .ref o), (1, .int 1), (2, .int q_23)]) hl [2, 0, 1] rfl
          have hL1 : (1 : Int32).toInt = 1 := by decide
          have hP : va_P g.1 vwCl (List.flatten [bMo g o a th hi ac tp 379 en at2_22 (-1) 0 iD iO tU fm fk fa fc ft ff fb fi]) H := hP
          have hD : va_D A (List.flatten [bMo g o a th hi ac tp 379 en at2_22 (-1) 0 iD iO tU fm fk fa fc ft ff fb fi]) := hD
          exact ih5_12 1 at2_22 (by first | omega | assumption | decide) (by first | omega | assumption | decide) (by first | omega | assumption | decide) ⟨_, (zBo1 (by rw [← e15]; omega)), zCvE_o hq25_3⟩ H _ ls (by omega)  hP hD hS (lv_sub hl [0, 1] rfl)
        · skip
          have c27 : x_5.toInt = 0 := zeq cb9 rfl (by decide)
          have n28 : 0 ≤ x_5.toInt := Int.le_trans (Int.le_refl _) (Int.le_of_eq c27.symm)
          have n29 : x_5.toInt ≤ 0 := Int.le_trans (Int.le_of_eq c27) (Int.le_refl _)
          refine lv_iload_n hx hb dX12_some_31 rfl (lv_at hl 0 rfl) ?_
          refine lv_if_eq (tgt := 39) hx hb dX12_some_32 (by decide) (fun cb9 => ?_) (fun cb9 => ?_)
          · skip
            have c30 : q_23.toInt = 0 := zeq cb9 rfl (by decide)
            have n31 : 0 ≤ q_23.toInt := Int.le_trans (Int.le_refl _) (Int.le_of_eq c30.symm)
            have n32 : q_23.toInt ≤ 0 := Int.le_trans (Int.le_of_eq c30) (Int.le_refl _)
            refine lv_iconst (v := 0) hx hb dX12_some_39 (by decide) ?_
            refine lv_istore_n (lv' := [(1, .int 0), (2, .int q_23), (0, .ref o)]) hx hb dX12_some_40 rfl hl (by decide) rfl (fun ls hl => ?_)
            refine lv_goto (tgt := 5) hx hb dX12_some_41 (by decide) ?_
            have hl := lv_sub (l' := [(0, .ref o), (1, .int 0), (2, .int q_23)]) hl [2, 0, 1] rfl
            have hP : va_P g.1 vwCl (List.flatten [bMo g o a th hi ac tp 379 en at2_22 (-1) 0 iD iO tU fm fk fa fc ft ff fb fi]) H := hP
            have hD : va_D A (List.flatten [bMo g o a th hi ac tp 379 en at2_22 (-1) 0 iD iO tU fm fk fa fc ft ff fb fi]) := hD
            exact ih5_12 0 at2_22 (by first | omega | assumption | decide) (by first | omega | assumption | decide) (by first | omega | assumption | decide) ⟨_, (zBo0 (by rw [← e15]; omega) (by rw [← hq25_2]; omega)), zCvE_o hq25_3⟩ H _ ls (by omega)  hP hD hS (lv_sub hl [0, 1] rfl)
          · skip
            have c33 : ¬ q_23.toInt = 0 := zne cb9 rfl (by decide)
            refine lv_iconst (v := 1) hx hb dX12_some_35 (by decide) ?_
            refine lv_goto (tgt := 40) hx hb dX12_some_36 (by decide) ?_
            refine lv_istore_n (lv' := [(1, .int 1), (2, .int q_23), (0, .ref o)]) hx hb dX12_some_40 rfl hl (by decide) rfl (fun ls hl => ?_)
            refine lv_goto (tgt := 5) hx hb dX12_some_41 (by decide) ?_
            have hl := lv_sub (l' := [(0, .ref o), (1, .int 1), (2, .int q_23)]) hl [2, 0, 1] rfl
            have hL1 : (1 : Int32).toInt = 1 := by decide
            have hP : va_P g.1 vwCl (List.flatten [bMo g o a th hi ac tp 379 en at2_22 (-1) 0 iD iO tU fm fk fa fc ft ff fb fi]) H := hP
            have hD : va_D A (List.flatten [bMo g o a th hi ac tp 379 en at2_22 (-1) 0 iD iO tU fm fk fa fc ft ff fb fi]) := hD
            exact ih5_12 1 at2_22 (by first | omega | assumption | decide) (by first | omega | assumption | decide) (by first | omega | assumption | decide) ⟨_, (zBo2 (by rw [← hq25_2]; omega)), zCvE_o hq25_3⟩ H _ ls (by omega)  hP hD hS (lv_sub hl [0, 1] rfl)
      · skip
        refine lv_if_eq (tgt := 44) hx hb dX12_some_19 (by decide) (fun _ => ?_) (fun c34 => absurd (by decide) c34)
        refine lv_iload_n hx hb dX12_some_44 rfl (lv_at hl 1 rfl) ?_
        refine ztop (r := (zBi bv)) (by rw [(zCvO_n h16 hq19_k).2]; exact e15) ?_
        have hP : va_P g.1 vwCl (List.flatten [bMo g o a th hi ac tp 379 en at2_17 (-1) 0 iD iO tU fm fk fa fc ft ff fb fi]) H := hP
        have hD : va_D A (List.flatten [bMo g o a th hi ac tp 379 en at2_17 (-1) 0 iD iO tU fm fk fa fc ft ff fb fi]) := hD
        exact mret_z hx hb hr hlocks hS (Nat.le_of_ble_eq_true rfl) (Nat.le_of_ble_eq_true rfl) dX12_some_45 (at2_17) rfl (zb01 (zBi_01 _)) (show (0 ≤ at2_17.toInt ∧ at2_17.toInt ≤ en.toInt + 7 - 0) ∧ (tA.toInt ≤ at2_17.toInt) ∧ (zbg tx en.toInt at2_17.toInt = b1) from ⟨(by first | assumption | omega | decide), (by first | assumption | omega | decide), ((zbz hq19_km).trans (zCvO_n h16 hq19_k).1.symm)⟩) hP hD
  have hP : va_P g.1 vwCl (List.flatten [bMo g o a th hi ac tp 379 en at2_1 (-1) 0 iD iO tU fm fk fa fc ft ff fb fi]) H := hP
  have hD : va_D A (List.flatten [bMo g o a th hi ac tp 379 en at2_1 (-1) 0 iD iO tU fm fk fa fc ft ff fb fi]) := hD
  exact LP5_11 _ q_2 at2_1 (by first | omega | assumption | decide) hq4_1 (by first | omega | assumption | decide) ⟨_, hq4_2, zCvO_w (zCvE_o hq4_3)⟩ H _ ls (Nat.lt_succ_self _)  hP hD hS (lv_sub hl [0, 1] rfl)
set_option maxRecDepth 100000 in
set_option maxHeartbeats 4000000 in
theorem m_lawLineV (l : Launch) (g : zG) (o : Nat) (a : Nat → Nat) (th : Int32) (hi : Int32) (ac : Int32) (tp : Int32) (en : Int32) (tA : Int32) (iD : Int32) (iO : Int32) (tU : Int32) (fm : Nat → Int32) (fk : Nat → Int32) (fa : Nat → Int32) (fc : Nat → Int32) (ft : Nat → Int32) (ff : Nat → Int32) (fb : Nat → Int32) (fi : Nat → Int32) (tx : Nat → Int32) (ev : Nat → Int32) (b1 : Int) (t1 : Int32) (hen : 0 ≤ en.toInt ∧ en.toInt ≤ 400) (htA : 0 ≤ tA.toInt ∧ tA.toInt ≤ en.toInt + 7 - 0) (hde : 0 ≤ 0 ∧ 0 ≤ 6) (hff : ∀ k9 : Nat, k9 < 6 → ff k9 = ev k9) (hdr : iD = zBi (zNz (ev 6))) (how : iO = zBi (zNz (ev 7))) (hl9 : zLvt tx en.toInt ev (zbg tx en.toInt tA.toInt) b1 tU t1) (htx : ∀ k9 : Nat, (k9 : Int) < en.toInt → fm (379 + k9) = tx k9) : zM' g l yX12_lawLine (Cond.code yX12_lawLine cX12_lawLine 4 none :: zB) ({ frames := 29, cells := 0, slots := 0, locals := 642 } : Room) [.ref o] [bMo g o a th hi ac tp 379 en tA (-1) 0 iD iO tU fm fk fa fc ft ff fb fi] (fun u : Int32 × Int32 => (fun (at2 : Int32) (tU2 : Int32) => none) (u.1) (u.2)) (fun u : Int32 × Int32 => (fun (at2 : Int32) (tU2 : Int32) => (0 ≤ at2.toInt ∧ at2.toInt ≤ en.toInt + 7 - 0) ∧ (tA.toInt ≤ at2.toInt) ∧ (zbg tx en.toInt at2.toInt = b1) ∧ (tU2 = t1)) (u.1) (u.2)) (fun u : Int32 × Int32 => (fun (at2 : Int32) (tU2 : Int32) => [bMo g o a th hi ac tp 379 en at2 (-1) 0 iD iO tU2 fm fk fa fc ft ff fb fi]) (u.1) (u.2)) := by
  refine zM'.of (cc := cX12_lawLine) (maxL := 4) (rt := none) (by decide) rfl (Nat.le_of_ble_eq_true rfl) ?_
  intro p e s m args below meth c A ls St hr hlocks hin hK hT hA hP hD hS hl
  obtain ⟨hx, hb, hml, hown, hts⟩ := id St
  have hl : lv_has ls 4 [(0, .ref o)] := hl
  obtain ⟨w0, is0, hn0, hs0, hc0⟩ := hl9
  refine lv_aload_n hx hb dX12_lawLine_0 rfl (lv_at hl 0 rfl) ?_
  refine va_ldcS (q := g.2 104) hx hb hown (zra47 hT.2.1) dX12_lawLine_1 ?_
  have hL0 : (0 : Int32).toInt = 0 := by decide
  refine mcallV' (g := g) (q0 := 0) (ci := 10) (As := [.ref (g.2 104)]) (rest := []) St hK hT hA hP hD hS hl.1 [0] [] rfl rfl rfl (m_hasH l g o a th hi ac tp en tA (-1) 0 iD iO tU fm fk fa fc ft ff fb fi tx (g.2 104) 47 zqa47 hen (by first | assumption | omega | decide | exact Or.inl (by decide) | exact Or.inr (by decide)) (by decide) htx rfl zla47 zna47 (zlitB zla47)) (cwV 1 hts (zgL (zl4 k899 k900 k901 k839) k889) rfl rfl rfl (by decide +kernel) ⟨Nat.le_of_ble_eq_true rfl, Nat.le_of_ble_eq_true rfl⟩) rfl rfl rfl rfl (Nat.le_of_ble_eq_true rfl) dX12_lawLine_3 ⟨(Nat.le_of_ble_eq_true rfl), (Nat.le_of_ble_eq_true rfl)⟩ (fun u_ H locs hq3 hP hD hS => ?_)
  obtain ⟨at2_1, r_2⟩ := u_
  replace hq3 : (0 ≤ at2_1.toInt ∧ at2_1.toInt ≤ en.toInt + 7 - (0 : Int32).toInt) ∧ (tA.toInt ≤ at2_1.toInt) ∧ (r_2 = 1 ∧ zisW tx en.toInt (zbg tx en.toInt tA.toInt) zqa47.2.2.2 ∧ at2_1.toInt = znx tx en.toInt (zbg tx en.toInt tA.toInt) ∧ tA.toInt < at2_1.toInt ∧ at2_1.toInt ≤ en.toInt ∨ r_2 = 0 ∧ ¬ zisW tx en.toInt (zbg tx en.toInt tA.toInt) zqa47.2.2.2 ∧ at2_1.toInt = zbg tx en.toInt tA.toInt) := hq3
  have hP : va_P g.1 vwCl (List.flatten [bMo g o a th hi ac tp 379 en at2_1 (-1) 0 iD iO tU fm fk fa fc ft ff fb fi]) H := hP
  have hD : va_D A (List.flatten [bMo g o a th hi ac tp 379 en at2_1 (-1) 0 iD iO tU fm fk fa fc ft ff fb fi]) := hD
  refine W.widen (k := 0) (n := 0) (Nat.le_of_ble_eq_true rfl) (Nat.le_of_ble_eq_true rfl) ?_
  refine W.eq (g2 := F0 m 6 ls [.int r_2]) rfl ?_
  obtain ⟨hq3_0, hq3_1, hq3_2⟩ := hq3
  rcases hq3_2 with ⟨rfl, hq3_k, hq3_km⟩ | ⟨rfl, hq3_k, hq3_km⟩
  · skip
    refine lv_istore_n (lv' := [(1, .int 1), (0, .ref o)]) hx hb dX12_lawLine_6 rfl hl (by decide) rfl (fun ls hl => ?_)
    refine lv_iload_n hx hb dX12_lawLine_7 rfl (lv_at hl 0 rfl) ?_
    refine lv_if_ne (tgt := 29) hx hb dX12_lawLine_8 (by decide) (fun _ => ?_) (fun c4 => absurd c4 (by decide))
    refine lv_aload_n hx hb dX12_lawLine_29 rfl (lv_at hl 1 rfl) ?_
    refine lv_iconst (v := 0) hx hb dX12_lawLine_30 (by decide) ?_
    refine lv_bipush (v := 30) hx hb dX12_lawLine_31 (by decide) ?_
    have hL30 : (30 : Int32).toInt = 30 := by decide
    refine mcallV' (g := g) (q0 := 0) (ci := 10) (As := [.int 0, .int 30]) (rest := []) St hK hT hA hP hD hS hl.1 [0] [] rfl rfl rfl (m_figuresH l g o a th hi ac tp en at2_1 0 iD iO tU fm fk fa fc ft ff fb fi 0 30 tx hen hq3_0 (by decide) htx) (cwV 2 hts (zgL (zl4 k902 k903 k904 k839) k898) rfl rfl rfl (by decide +kernel) ⟨Nat.le_of_ble_eq_true rfl, Nat.le_of_ble_eq_true rfl⟩) rfl rfl rfl rfl (Nat.le_of_ble_eq_true rfl) dX12_lawLine_33 ⟨(Nat.le_of_ble_eq_true rfl), (Nat.le_of_ble_eq_true rfl)⟩ (fun u_ H locs hq8 hP hD hS => ?_)
    obtain ⟨at2_5, fl2_6, r_7⟩ := u_
    replace hq8 : (0 ≤ at2_5.toInt ∧ at2_5.toInt ≤ en.toInt + 7 - (0 : Int32).toInt) ∧ (at2_1.toInt ≤ at2_5.toInt) ∧ (zNu tx en.toInt (zbg tx en.toInt at2_1.toInt) (0 : Int32).toInt (30 : Int32).toInt r_7 ∧ at2_5.toInt = znx tx en.toInt (zbg tx en.toInt at2_1.toInt) ∧ (-1) = fl2_6 ∨ fl2_6.toInt = zbg tx en.toInt at2_1.toInt ∧ ¬ ∃ v9, zNu tx en.toInt (zbg tx en.toInt at2_1.toInt) (0 : Int32).toInt (30 : Int32).toInt v9) := hq8
    have hP : va_P g.1 vwCl (List.flatten [bMo g o a th hi ac tp 379 en at2_5 fl2_6 0 iD iO tU fm fk fa fc ft ff fb fi]) H := hP
    have hD : va_D A (List.flatten [bMo g o a th hi ac tp 379 en at2_5 fl2_6 0 iD iO tU fm fk fa fc ft ff fb fi]) := hD
    refine W.widen (k := 0) (n := 0) (Nat.le_of_ble_eq_true rfl) (Nat.le_of_ble_eq_true rfl) ?_
    refine W.eq (g2 := F0 m 36 ls [.int r_7]) rfl ?_
    obtain ⟨hq8_0, hq8_1, hq8_2⟩ := hq8
    rcases hq8_2 with ⟨hq8_k, hq8_km, rfl⟩ | ⟨hq8_k, hq8_km⟩
    · skip
      have w9 : 0 ≤ r_7.toInt ∧ r_7.toInt ≤ 30 := ⟨(by have h9 := hq8_k.2.2.1; omega), (by have h9 := hq8_k.2.2.2; omega)⟩
      have hw0 : r_7 = w0 := zNu_u (zNu_b (zbt hq3_km.1).symm hq8_k) hn0
      refine lv_istore_n (lv' := [(2, .int r_7), (1, .int 1), (0, .ref o)]) hx hb dX12_lawLine_36 rfl hl (by decide) rfl (fun ls hl => ?_)
      refine lv_aload_n hx hb dX12_lawLine_37 rfl (lv_at hl 2 rfl) ?_
      refine va_get (D := g.1) (ci := 10) (v := .int (-1)) (C := RX12) (T := TX12) (N := 20) hx hb hts izRX12 hown hK hP 0 rfl rfl 12 (by decide) (hts _ k820) (fun _ h9 => h9) rfl dX12_lawLine_38 ?_
      refine lv_iconst (v := (-1)) hx hb dX12_lawLine_41 (by decide) ?_
      refine lv_icmp_eq (tgt := 46) hx hb dX12_lawLine_42 (by decide) (fun _ => ?_) (fun c10 => absurd (by decide) c10)
      refine lv_aload_n hx hb dX12_lawLine_46 rfl (lv_at hl 2 rfl) ?_
      refine va_ldcS (q := g.2 108) hx hb hown (zra49 hT.2.1) dX12_lawLine_47 ?_
      refine mcallV' (g := g) (q0 := 0) (ci := 10) (As := [.ref (g.2 108)]) (rest := []) St hK hT hA hP hD hS hl.1 [0] [] rfl rfl rfl (m_hasH l g o a th hi ac tp en at2_5 (-1) 0 iD iO tU fm fk fa fc ft ff fb fi tx (g.2 108) 49 zqa49 hen hq8_0 (by decide) htx rfl zla49 zna49 (zlitB zla49)) (cwV 1 hts (zgL (zl4 k899 k900 k901 k839) k889) rfl rfl rfl (by decide +kernel) ⟨Nat.le_of_ble_eq_true rfl, Nat.le_of_ble_eq_true rfl⟩) rfl rfl rfl rfl (Nat.le_of_ble_eq_true rfl) dX12_lawLine_49 ⟨(Nat.le_of_ble_eq_true rfl), (Nat.le_of_ble_eq_true rfl)⟩ (fun u_ H locs hq13 hP hD hS => ?_)
      obtain ⟨at2_11, r_12⟩ := u_
      replace hq13 : (0 ≤ at2_11.toInt ∧ at2_11.toInt ≤ en.toInt + 7 - (0 : Int32).toInt) ∧ (at2_5.toInt ≤ at2_11.toInt) ∧ (r_12 = 1 ∧ zisW tx en.toInt (zbg tx en.toInt at2_5.toInt) zqa49.2.2.2 ∧ at2_11.toInt = znx tx en.toInt (zbg tx en.toInt at2_5.toInt) ∧ at2_5.toInt < at2_11.toInt ∧ at2_11.toInt ≤ en.toInt ∨ r_12 = 0 ∧ ¬ zisW tx en.toInt (zbg tx en.toInt at2_5.toInt) zqa49.2.2.2 ∧ at2_11.toInt = zbg tx en.toInt at2_5.toInt) := hq13
      have hP : va_P g.1 vwCl (List.flatten [bMo g o a th hi ac tp 379 en at2_11 (-1) 0 iD iO tU fm fk fa fc ft ff fb fi]) H := hP
      have hD : va_D A (List.flatten [bMo g o a th hi ac tp 379 en at2_11 (-1) 0 iD iO tU fm fk fa fc ft ff fb fi]) := hD
      refine W.widen (k := 0) (n := 0) (Nat.le_of_ble_eq_true rfl) (Nat.le_of_ble_eq_true rfl) ?_
      refine W.eq (g2 := F0 m 52 ls [.int r_12]) rfl ?_
      obtain ⟨hq13_0, hq13_1, hq13_2⟩ := hq13
      rcases hq13_2 with ⟨rfl, hq13_k, hq13_km⟩ | ⟨rfl, hq13_k, hq13_km⟩
      · skip
        refine lv_if_eq (tgt := 62) hx hb dX12_lawLine_52 (by decide) (fun c14 => absurd c14 (by decide)) (fun _ => ?_)
        have hc9 := zCv_b (zLv_y hc0 (by rw [← (show zbg tx en.toInt at2_5.toInt = znt tx en.toInt (znt tx en.toInt (zbg tx en.toInt tA.toInt)) from by rw [zbt hq8_km, zbt hq3_km.1])]; exact hq13_k)) (show zbg tx en.toInt at2_11.toInt = _ from by rw [zbt hq13_km.1, (show zbg tx en.toInt at2_5.toInt = znt tx en.toInt (znt tx en.toInt (zbg tx en.toInt tA.toInt)) from by rw [zbt hq8_km, zbt hq3_km.1])])
        refine lv_aload_n hx hb dX12_lawLine_55 rfl (lv_at hl 2 rfl) ?_
        refine mcallV' (g := g) (q0 := 0) (ci := 10) (As := []) (rest := []) St hK hT hA hP hD hS hl.1 [0] [] rfl rfl rfl (m_someV0 l g o a th hi ac tp en at2_11 iD iO tU fm fk fa fc ft ff fb fi tx ev b1 is0 hen (by first | assumption | omega | decide | exact Or.inl (by decide) | exact Or.inr (by decide)) hde hff hdr how (by first | assumption | omega | decide | exact Or.inl (by decide) | exact Or.inr (by decide)) htx) (cwV 0 hts (zgL (zl4 k954 k955 k956 k839) k958) rfl rfl rfl (by decide +kernel) ⟨Nat.le_of_ble_eq_true rfl, Nat.le_of_ble_eq_true rfl⟩) rfl rfl rfl rfl (Nat.le_of_ble_eq_true rfl) dX12_lawLine_56 ⟨(Nat.le_of_ble_eq_true rfl), (Nat.le_of_ble_eq_true rfl)⟩ (fun at2_15 H locs hq16 hP hD hS => ?_)
        replace hq16 : (0 ≤ at2_15.toInt ∧ at2_15.toInt ≤ en.toInt + 7 - 0) ∧ (at2_11.toInt ≤ at2_15.toInt) ∧ (zbg tx en.toInt at2_15.toInt = b1) := hq16
        have hP : va_P g.1 vwCl (List.flatten [bMo g o a th hi ac tp 379 en at2_15 (-1) 0 iD iO tU fm fk fa fc ft ff fb fi]) H := hP
        have hD : va_D A (List.flatten [bMo g o a th hi ac tp 379 en at2_15 (-1) 0 iD iO tU fm fk fa fc ft ff fb fi]) := hD
        refine W.widen (k := 0) (n := 0) (Nat.le_of_ble_eq_true rfl) (Nat.le_of_ble_eq_true rfl) ?_
        refine W.eq (g2 := F0 m 59 ls [.int (zBi is0)]) rfl ?_
        obtain ⟨hq16_0, hq16_1, hq16_2⟩ := hq16
        refine lv_if_eq (tgt := 66) hx hb dX12_lawLine_59 (by decide) (fun cb9 => ?_) (fun cb9 => ?_)
        · skip
          have c17 : (zBi is0).toInt = 0 := zeq cb9 rfl (by decide)
          have n18 : 0 ≤ (zBi is0).toInt := Int.le_trans (Int.le_refl _) (Int.le_of_eq c17.symm)
          have n19 : (zBi is0).toInt ≤ 0 := Int.le_trans (Int.le_of_eq c17) (Int.le_refl _)
          refine lv_iconst (v := 0) hx hb dX12_lawLine_66 (by decide) ?_
          refine lv_istore_n (lv' := [(3, .int 0), (2, .int r_7), (1, .int 1), (0, .ref o)]) hx hb dX12_lawLine_67 rfl hl (by decide) rfl (fun ls hl => ?_)
          refine lv_aload_n hx hb dX12_lawLine_68 rfl (lv_at hl 3 rfl) ?_
          refine va_get (D := g.1) (ci := 10) (v := .int (-1)) (C := RX12) (T := TX12) (N := 20) hx hb hts izRX12 hown hK hP 0 rfl rfl 12 (by decide) (hts _ k820) (fun _ h9 => h9) rfl dX12_lawLine_69 ?_
          refine lv_iconst (v := (-1)) hx hb dX12_lawLine_72 (by decide) ?_
          refine lv_icmp_ne (tgt := 99) hx hb dX12_lawLine_73 (by decide) (fun c20 => absurd (by decide) c20) (fun _ => ?_)
          refine lv_iload_n hx hb dX12_lawLine_76 rfl (lv_at hl 0 rfl) ?_
          refine lv_if_eq (tgt := 99) hx hb dX12_lawLine_77 (by decide) (fun _ => ?_) (fun c21 => absurd (by decide) c21)
          have hP : va_P g.1 vwCl (List.flatten [bMo g o a th hi ac tp 379 en at2_15 (-1) 0 iD iO tU fm fk fa fc ft ff fb fi]) H := hP
          have hD : va_D A (List.flatten [bMo g o a th hi ac tp 379 en at2_15 (-1) 0 iD iO tU fm fk fa fc ft ff fb fi]) := hD
          exact mret_v hx hb hr hlocks hS (Nat.le_of_ble_eq_true rfl) (Nat.le_of_ble_eq_true rfl) dX12_lawLine_99 (at2_15, tU) rfl (show (0 ≤ at2_15.toInt ∧ at2_15.toInt ≤ en.toInt + 7 - 0) ∧ (tA.toInt ≤ at2_15.toInt) ∧ (zbg tx en.toInt at2_15.toInt = b1) ∧ (tU = t1) from ⟨(by first | assumption | omega | decide), (by first | assumption | omega | decide), hq16_2, (by rw [zLv_r hs0 hq3_k, zBi_fa (v := is0) (by omega), if_neg (by decide)]; exact (Int32.add_zero _).symm)⟩) hP hD
        · skip
          have c22 : ¬ (zBi is0).toInt = 0 := zne cb9 rfl (by decide)
          refine lv_iconst (v := 1) hx hb dX12_lawLine_62 (by decide) ?_
          refine lv_goto (tgt := 67) hx hb dX12_lawLine_63 (by decide) ?_
          refine lv_istore_n (lv' := [(3, .int 1), (2, .int r_7), (1, .int 1), (0, .ref o)]) hx hb dX12_lawLine_67 rfl hl (by decide) rfl (fun ls hl => ?_)
          refine lv_aload_n hx hb dX12_lawLine_68 rfl (lv_at hl 3 rfl) ?_
          refine va_get (D := g.1) (ci := 10) (v := .int (-1)) (C := RX12) (T := TX12) (N := 20) hx hb hts izRX12 hown hK hP 0 rfl rfl 12 (by decide) (hts _ k820) (fun _ h9 => h9) rfl dX12_lawLine_69 ?_
          refine lv_iconst (v := (-1)) hx hb dX12_lawLine_72 (by decide) ?_
          refine lv_icmp_ne (tgt := 99) hx hb dX12_lawLine_73 (by decide) (fun c23 => absurd (by decide) c23) (fun _ => ?_)
          refine lv_iload_n hx hb dX12_lawLine_76 rfl (lv_at hl 0 rfl) ?_
          refine lv_if_eq (tgt := 99) hx hb dX12_lawLine_77 (by decide) (fun c24 => absurd c24 (by decide)) (fun _ => ?_)
          refine lv_aload_n hx hb dX12_lawLine_80 rfl (lv_at hl 3 rfl) ?_
          refine lv_dup hx hb dX12_lawLine_81 rfl ?_
          refine va_get (D := g.1) (ci := 10) (v := .int tU) (C := RX12) (T := TX12) (N := 20) hx hb hts izRX12 hown hK hP 0 rfl rfl 17 (by decide) (hts _ k963) (fun _ h9 => h9) rfl dX12_lawLine_82 ?_
          refine lv_iload_n hx hb dX12_lawLine_85 rfl (lv_at hl 2 rfl) ?_
          refine lv_if_eq (tgt := 93) hx hb dX12_lawLine_86 (by decide) (fun c25 => absurd c25 (by decide)) (fun _ => ?_)
          refine lv_iload_n hx hb dX12_lawLine_89 rfl (lv_at hl 1 rfl) ?_
          refine lv_goto (tgt := 95) hx hb dX12_lawLine_90 (by decide) ?_
          refine lv_iadd hx hb dX12_lawLine_95 ?_
          refine va_put (D := g.1) (ci := 10) (v := .int (tU + r_7)) (ty := .int) (C := RX12) (T := TX12) (N := 20) hx hb hts izRX12 tyX12 tyX12_ok nmX12 hown hK hP hD hS 0 rfl rfl 17 (by decide) (hts _ k963) (fun _ h9 => h9) rfl (by decide +kernel) rfl rfl (Nat.le_of_ble_eq_true rfl) dX12_lawLine_96 (fun H locs hP hD hS => ?_)
          have hP : va_P g.1 vwCl (List.flatten [bMo g o a th hi ac tp 379 en at2_15 (-1) 0 iD iO (tU + r_7) fm fk fa fc ft ff fb fi]) H := hP
          have hD : va_D A (List.flatten [bMo g o a th hi ac tp 379 en at2_15 (-1) 0 iD iO (tU + r_7) fm fk fa fc ft ff fb fi]) := hD
          have hP : va_P g.1 vwCl (List.flatten [bMo g o a th hi ac tp 379 en at2_15 (-1) 0 iD iO (tU + r_7) fm fk fa fc ft ff fb fi]) H := hP
          have hD : va_D A (List.flatten [bMo g o a th hi ac tp 379 en at2_15 (-1) 0 iD iO (tU + r_7) fm fk fa fc ft ff fb fi]) := hD
          exact mret_v hx hb hr hlocks hS (Nat.le_of_ble_eq_true rfl) (Nat.le_of_ble_eq_true rfl) dX12_lawLine_99 (at2_15, tU + r_7) rfl (show (0 ≤ at2_15.toInt ∧ at2_15.toInt ≤ en.toInt + 7 - 0) ∧ (tA.toInt ≤ at2_15.toInt) ∧ (zbg tx en.toInt at2_15.toInt = b1) ∧ ((tU + r_7) = t1) from ⟨(by first | assumption | omega | decide), (by first | assumption | omega | decide), hq16_2, (by rw [zLv_r hs0 hq3_k, zBi_tr (v := is0) (by omega), if_pos rfl, hw0])⟩) hP hD
      · skip
        refine lv_if_eq (tgt := 62) hx hb dX12_lawLine_52 (by decide) (fun _ => ?_) (fun c26 => absurd (by decide) c26)
        refine lv_iconst (v := 1) hx hb dX12_lawLine_62 (by decide) ?_
        refine lv_goto (tgt := 67) hx hb dX12_lawLine_63 (by decide) ?_
        refine lv_istore_n (lv' := [(3, .int 1), (2, .int r_7), (1, .int 1), (0, .ref o)]) hx hb dX12_lawLine_67 rfl hl (by decide) rfl (fun ls hl => ?_)
        refine lv_aload_n hx hb dX12_lawLine_68 rfl (lv_at hl 3 rfl) ?_
        refine va_get (D := g.1) (ci := 10) (v := .int (-1)) (C := RX12) (T := TX12) (N := 20) hx hb hts izRX12 hown hK hP 0 rfl rfl 12 (by decide) (hts _ k820) (fun _ h9 => h9) rfl dX12_lawLine_69 ?_
        refine lv_iconst (v := (-1)) hx hb dX12_lawLine_72 (by decide) ?_
        refine lv_icmp_ne (tgt := 99) hx hb dX12_lawLine_73 (by decide) (fun c27 => absurd (by decide) c27) (fun _ => ?_)
        refine lv_iload_n hx hb dX12_lawLine_76 rfl (lv_at hl 0 rfl) ?_
        refine lv_if_eq (tgt := 99) hx hb dX12_lawLine_77 (by decide) (fun c28 => absurd c28 (by decide)) (fun _ => ?_)
        refine lv_aload_n hx hb dX12_lawLine_80 rfl (lv_at hl 3 rfl) ?_
        refine lv_dup hx hb dX12_lawLine_81 rfl ?_
        refine va_get (D := g.1) (ci := 10) (v := .int tU) (C := RX12) (T := TX12) (N := 20) hx hb hts izRX12 hown hK hP 0 rfl rfl 17 (by decide) (hts _ k963) (fun _ h9 => h9) rfl dX12_lawLine_82 ?_
        refine lv_iload_n hx hb dX12_lawLine_85 rfl (lv_at hl 2 rfl) ?_
        refine lv_if_eq (tgt := 93) hx hb dX12_lawLine_86 (by decide) (fun c29 => absurd c29 (by decide)) (fun _ => ?_)
        refine lv_iload_n hx hb dX12_lawLine_89 rfl (lv_at hl 1 rfl) ?_
        refine lv_goto (tgt := 95) hx hb dX12_lawLine_90 (by decide) ?_
        refine lv_iadd hx hb dX12_lawLine_95 ?_
        refine va_put (D := g.1) (ci := 10) (v := .int (tU + r_7)) (ty := .int) (C := RX12) (T := TX12) (N := 20) hx hb hts izRX12 tyX12 tyX12_ok nmX12 hown hK hP hD hS 0 rfl rfl 17 (by decide) (hts _ k963) (fun _ h9 => h9) rfl (by decide +kernel) rfl rfl (Nat.le_of_ble_eq_true rfl) dX12_lawLine_96 (fun H locs hP hD hS => ?_)
        have hP : va_P g.1 vwCl (List.flatten [bMo g o a th hi ac tp 379 en at2_11 (-1) 0 iD iO (tU + r_7) fm fk fa fc ft ff fb fi]) H := hP
        have hD : va_D A (List.flatten [bMo g o a th hi ac tp 379 en at2_11 (-1) 0 iD iO (tU + r_7) fm fk fa fc ft ff fb fi]) := hD
        have hP : va_P g.1 vwCl (List.flatten [bMo g o a th hi ac tp 379 en at2_11 (-1) 0 iD iO (tU + r_7) fm fk fa fc ft ff fb fi]) H := hP
        have hD : va_D A (List.flatten [bMo g o a th hi ac tp 379 en at2_11 (-1) 0 iD iO (tU + r_7) fm fk fa fc ft ff fb fi]) := hD
        exact mret_v hx hb hr hlocks hS (Nat.le_of_ble_eq_true rfl) (Nat.le_of_ble_eq_true rfl) dX12_lawLine_99 (at2_11, tU + r_7) rfl (show (0 ≤ at2_11.toInt ∧ at2_11.toInt ≤ en.toInt + 7 - 0) ∧ (tA.toInt ≤ at2_11.toInt) ∧ (zbg tx en.toInt at2_11.toInt = b1) ∧ ((tU + r_7) = t1) from ⟨(by first | assumption | omega | decide), (by first | assumption | omega | decide), ((zbz hq13_km).trans ((show zbg tx en.toInt at2_5.toInt = znt tx en.toInt (znt tx en.toInt (zbg tx en.toInt tA.toInt)) from by rw [zbt hq8_km, zbt hq3_km.1]).trans (zLv_n hc0 (by rw [← (show zbg tx en.toInt at2_5.toInt = znt tx en.toInt (znt tx en.toInt (zbg tx en.toInt tA.toInt)) from by rw [zbt hq8_km, zbt hq3_km.1])]; exact hq13_k)).1.symm)), (by rw [zLv_r hs0 hq3_k, (zLv_n hc0 (by rw [← (show zbg tx en.toInt at2_5.toInt = znt tx en.toInt (znt tx en.toInt (zbg tx en.toInt tA.toInt)) from by rw [zbt hq8_km, zbt hq3_km.1])]; exact hq13_k)).2, if_pos rfl, hw0])⟩) hP hD
    · skip
      exact (hq8_km ⟨_, zNu_b (zbt hq3_km.1) hn0⟩).elim
  · skip
    refine lv_istore_n (lv' := [(1, .int 0), (0, .ref o)]) hx hb dX12_lawLine_6 rfl hl (by decide) rfl (fun ls hl => ?_)
    refine lv_iload_n hx hb dX12_lawLine_7 rfl (lv_at hl 0 rfl) ?_
    refine lv_if_ne (tgt := 29) hx hb dX12_lawLine_8 (by decide) (fun c30 => absurd (by decide) c30) (fun _ => ?_)
    refine lv_aload_n hx hb dX12_lawLine_11 rfl (lv_at hl 1 rfl) ?_
    refine va_ldcS (q := g.2 106) hx hb hown (zra48 hT.2.1) dX12_lawLine_12 ?_
    refine mcallV' (g := g) (q0 := 0) (ci := 10) (As := [.ref (g.2 106)]) (rest := []) St hK hT hA hP hD hS hl.1 [0] [] rfl rfl rfl (m_hasH l g o a th hi ac tp en at2_1 (-1) 0 iD iO tU fm fk fa fc ft ff fb fi tx (g.2 106) 48 zqa48 hen hq3_0 (by decide) htx rfl zla48 zna48 (zlitB zla48)) (cwV 1 hts (zgL (zl4 k899 k900 k901 k839) k889) rfl rfl rfl (by decide +kernel) ⟨Nat.le_of_ble_eq_true rfl, Nat.le_of_ble_eq_true rfl⟩) rfl rfl rfl rfl (Nat.le_of_ble_eq_true rfl) dX12_lawLine_14 ⟨(Nat.le_of_ble_eq_true rfl), (Nat.le_of_ble_eq_true rfl)⟩ (fun u_ H locs hq33 hP hD hS => ?_)
    obtain ⟨at2_31, r_32⟩ := u_
    replace hq33 : (0 ≤ at2_31.toInt ∧ at2_31.toInt ≤ en.toInt + 7 - (0 : Int32).toInt) ∧ (at2_1.toInt ≤ at2_31.toInt) ∧ (r_32 = 1 ∧ zisW tx en.toInt (zbg tx en.toInt at2_1.toInt) zqa48.2.2.2 ∧ at2_31.toInt = znx tx en.toInt (zbg tx en.toInt at2_1.toInt) ∧ at2_1.toInt < at2_31.toInt ∧ at2_31.toInt ≤ en.toInt ∨ r_32 = 0 ∧ ¬ zisW tx en.toInt (zbg tx en.toInt at2_1.toInt) zqa48.2.2.2 ∧ at2_31.toInt = zbg tx en.toInt at2_1.toInt) := hq33
    have hP : va_P g.1 vwCl (List.flatten [bMo g o a th hi ac tp 379 en at2_31 (-1) 0 iD iO tU fm fk fa fc ft ff fb fi]) H := hP
    have hD : va_D A (List.flatten [bMo g o a th hi ac tp 379 en at2_31 (-1) 0 iD iO tU fm fk fa fc ft ff fb fi]) := hD
    refine W.widen (k := 0) (n := 0) (Nat.le_of_ble_eq_true rfl) (Nat.le_of_ble_eq_true rfl) ?_
    refine W.eq (g2 := F0 m 17 ls [.int r_32]) rfl ?_
    obtain ⟨hq33_0, hq33_1, hq33_2⟩ := hq33
    rcases hq33_2 with ⟨rfl, hq33_k, hq33_km⟩ | ⟨rfl, hq33_k, hq33_km⟩
    · skip
      refine lv_if_ne (tgt := 29) hx hb dX12_lawLine_17 (by decide) (fun _ => ?_) (fun c34 => absurd c34 (by decide))
      refine lv_aload_n hx hb dX12_lawLine_29 rfl (lv_at hl 1 rfl) ?_
      refine lv_iconst (v := 0) hx hb dX12_lawLine_30 (by decide) ?_
      refine lv_bipush (v := 30) hx hb dX12_lawLine_31 (by decide) ?_
      have hL30 : (30 : Int32).toInt = 30 := by decide
      refine mcallV' (g := g) (q0 := 0) (ci := 10) (As := [.int 0, .int 30]) (rest := []) St hK hT hA hP hD hS hl.1 [0] [] rfl rfl rfl (m_figuresH l g o a th hi ac tp en at2_31 0 iD iO tU fm fk fa fc ft ff fb fi 0 30 tx hen hq33_0 (by decide) htx) (cwV 2 hts (zgL (zl4 k902 k903 k904 k839) k898) rfl rfl rfl (by decide +kernel) ⟨Nat.le_of_ble_eq_true rfl, Nat.le_of_ble_eq_true rfl⟩) rfl rfl rfl rfl (Nat.le_of_ble_eq_true rfl) dX12_lawLine_33 ⟨(Nat.le_of_ble_eq_true rfl), (Nat.le_of_ble_eq_true rfl)⟩ (fun u_ H locs hq38 hP hD hS => ?_)
      obtain ⟨at2_35, fl2_36, r_37⟩ := u_
      replace hq38 : (0 ≤ at2_35.toInt ∧ at2_35.toInt ≤ en.toInt + 7 - (0 : Int32).toInt) ∧ (at2_31.toInt ≤ at2_35.toInt) ∧ (zNu tx en.toInt (zbg tx en.toInt at2_31.toInt) (0 : Int32).toInt (30 : Int32).toInt r_37 ∧ at2_35.toInt = znx tx en.toInt (zbg tx en.toInt at2_31.toInt) ∧ (-1) = fl2_36 ∨ fl2_36.toInt = zbg tx en.toInt at2_31.toInt ∧ ¬ ∃ v9, zNu tx en.toInt (zbg tx en.toInt at2_31.toInt) (0 : Int32).toInt (30 : Int32).toInt v9) := hq38
      have hP : va_P g.1 vwCl (List.flatten [bMo g o a th hi ac tp 379 en at2_35 fl2_36 0 iD iO tU fm fk fa fc ft ff fb fi]) H := hP
      have hD : va_D A (List.flatten [bMo g o a th hi ac tp 379 en at2_35 fl2_36 0 iD iO tU fm fk fa fc ft ff fb fi]) := hD
      refine W.widen (k := 0) (n := 0) (Nat.le_of_ble_eq_true rfl) (Nat.le_of_ble_eq_true rfl) ?_
      refine W.eq (g2 := F0 m 36 ls [.int r_37]) rfl ?_
      obtain ⟨hq38_0, hq38_1, hq38_2⟩ := hq38
      rcases hq38_2 with ⟨hq38_k, hq38_km, rfl⟩ | ⟨hq38_k, hq38_km⟩
      · skip
        have w39 : 0 ≤ r_37.toInt ∧ r_37.toInt ≤ 30 := ⟨(by have h9 := hq38_k.2.2.1; omega), (by have h9 := hq38_k.2.2.2; omega)⟩
        have hw0 : r_37 = w0 := zNu_u (zNu_b (zbt (zBx hq3_km hq33_km.1)).symm hq38_k) hn0
        refine lv_istore_n (lv' := [(2, .int r_37), (1, .int 0), (0, .ref o)]) hx hb dX12_lawLine_36 rfl hl (by decide) rfl (fun ls hl => ?_)
        refine lv_aload_n hx hb dX12_lawLine_37 rfl (lv_at hl 2 rfl) ?_
        refine va_get (D := g.1) (ci := 10) (v := .int (-1)) (C := RX12) (T := TX12) (N := 20) hx hb hts izRX12 hown hK hP 0 rfl rfl 12 (by decide) (hts _ k820) (fun _ h9 => h9) rfl dX12_lawLine_38 ?_
        refine lv_iconst (v := (-1)) hx hb dX12_lawLine_41 (by decide) ?_
        refine lv_icmp_eq (tgt := 46) hx hb dX12_lawLine_42 (by decide) (fun _ => ?_) (fun c40 => absurd (by decide) c40)
        refine lv_aload_n hx hb dX12_lawLine_46 rfl (lv_at hl 2 rfl) ?_
        refine va_ldcS (q := g.2 108) hx hb hown (zra49 hT.2.1) dX12_lawLine_47 ?_
        refine mcallV' (g := g) (q0 := 0) (ci := 10) (As := [.ref (g.2 108)]) (rest := []) St hK hT hA hP hD hS hl.1 [0] [] rfl rfl rfl (m_hasH l g o a th hi ac tp en at2_35 (-1) 0 iD iO tU fm fk fa fc ft ff fb fi tx (g.2 108) 49 zqa49 hen hq38_0 (by decide) htx rfl zla49 zna49 (zlitB zla49)) (cwV 1 hts (zgL (zl4 k899 k900 k901 k839) k889) rfl rfl rfl (by decide +kernel) ⟨Nat.le_of_ble_eq_true rfl, Nat.le_of_ble_eq_true rfl⟩) rfl rfl rfl rfl (Nat.le_of_ble_eq_true rfl) dX12_lawLine_49 ⟨(Nat.le_of_ble_eq_true rfl), (Nat.le_of_ble_eq_true rfl)⟩ (fun u_ H locs hq43 hP hD hS => ?_)
        obtain ⟨at2_41, r_42⟩ := u_
        replace hq43 : (0 ≤ at2_41.toInt ∧ at2_41.toInt ≤ en.toInt + 7 - (0 : Int32).toInt) ∧ (at2_35.toInt ≤ at2_41.toInt) ∧ (r_42 = 1 ∧ zisW tx en.toInt (zbg tx en.toInt at2_35.toInt) zqa49.2.2.2 ∧ at2_41.toInt = znx tx en.toInt (zbg tx en.toInt at2_35.toInt) ∧ at2_35.toInt < at2_41.toInt ∧ at2_41.toInt ≤ en.toInt ∨ r_42 = 0 ∧ ¬ zisW tx en.toInt (zbg tx en.toInt at2_35.toInt) zqa49.2.2.2 ∧ at2_41.toInt = zbg tx en.toInt at2_35.toInt) := hq43
        have hP : va_P g.1 vwCl (List.flatten [bMo g o a th hi ac tp 379 en at2_41 (-1) 0 iD iO tU fm fk fa fc ft ff fb fi]) H := hP
        have hD : va_D A (List.flatten [bMo g o a th hi ac tp 379 en at2_41 (-1) 0 iD iO tU fm fk fa fc ft ff fb fi]) := hD
        refine W.widen (k := 0) (n := 0) (Nat.le_of_ble_eq_true rfl) (Nat.le_of_ble_eq_true rfl) ?_
        refine W.eq (g2 := F0 m 52 ls [.int r_42]) rfl ?_
        obtain ⟨hq43_0, hq43_1, hq43_2⟩ := hq43
        rcases hq43_2 with ⟨rfl, hq43_k, hq43_km⟩ | ⟨rfl, hq43_k, hq43_km⟩
        · skip
          refine lv_if_eq (tgt := 62) hx hb dX12_lawLine_52 (by decide) (fun c44 => absurd c44 (by decide)) (fun _ => ?_)
          have hc9 := zCv_b (zLv_y hc0 (by rw [← (show zbg tx en.toInt at2_35.toInt = znt tx en.toInt (znt tx en.toInt (zbg tx en.toInt tA.toInt)) from by rw [zbt hq38_km, zbt (zBx hq3_km hq33_km.1)])]; exact hq43_k)) (show zbg tx en.toInt at2_41.toInt = _ from by rw [zbt hq43_km.1, (show zbg tx en.toInt at2_35.toInt = znt tx en.toInt (znt tx en.toInt (zbg tx en.toInt tA.toInt)) from by rw [zbt hq38_km, zbt (zBx hq3_km hq33_km.1)])])
          refine lv_aload_n hx hb dX12_lawLine_55 rfl (lv_at hl 2 rfl) ?_
          refine mcallV' (g := g) (q0 := 0) (ci := 10) (As := []) (rest := []) St hK hT hA hP hD hS hl.1 [0] [] rfl rfl rfl (m_someV0 l g o a th hi ac tp en at2_41 iD iO tU fm fk fa fc ft ff fb fi tx ev b1 is0 hen (by first | assumption | omega | decide | exact Or.inl (by decide) | exact Or.inr (by decide)) hde hff hdr how (by first | assumption | omega | decide | exact Or.inl (by decide) | exact Or.inr (by decide)) htx) (cwV 0 hts (zgL (zl4 k954 k955 k956 k839) k958) rfl rfl rfl (by decide +kernel) ⟨Nat.le_of_ble_eq_true rfl, Nat.le_of_ble_eq_true rfl⟩) rfl rfl rfl rfl (Nat.le_of_ble_eq_true rfl) dX12_lawLine_56 ⟨(Nat.le_of_ble_eq_true rfl), (Nat.le_of_ble_eq_true rfl)⟩ (fun at2_45 H locs hq46 hP hD hS => ?_)
          replace hq46 : (0 ≤ at2_45.toInt ∧ at2_45.toInt ≤ en.toInt + 7 - 0) ∧ (at2_41.toInt ≤ at2_45.toInt) ∧ (zbg tx en.toInt at2_45.toInt = b1) := hq46
          have hP : va_P g.1 vwCl (List.flatten [bMo g o a th hi ac tp 379 en at2_45 (-1) 0 iD iO tU fm fk fa fc ft ff fb fi]) H := hP
          have hD : va_D A (List.flatten [bMo g o a th hi ac tp 379 en at2_45 (-1) 0 iD iO tU fm fk fa fc ft ff fb fi]) := hD
          refine W.widen (k := 0) (n := 0) (Nat.le_of_ble_eq_true rfl) (Nat.le_of_ble_eq_true rfl) ?_
          refine W.eq (g2 := F0 m 59 ls [.int (zBi is0)]) rfl ?_
          obtain ⟨hq46_0, hq46_1, hq46_2⟩ := hq46
          refine lv_if_eq (tgt := 66) hx hb dX12_lawLine_59 (by decide) (fun cb9 => ?_) (fun cb9 => ?_)
          · skip
            have c47 : (zBi is0).toInt = 0 := zeq cb9 rfl (by decide)
            have n48 : 0 ≤ (zBi is0).toInt := Int.le_trans (Int.le_refl _) (Int.le_of_eq c47.symm)
            have n49 : (zBi is0).toInt ≤ 0 := Int.le_trans (Int.le_of_eq c47) (Int.le_refl _)
            refine lv_iconst (v := 0) hx hb dX12_lawLine_66 (by decide) ?_
            refine lv_istore_n (lv' := [(3, .int 0), (2, .int r_37), (1, .int 0), (0, .ref o)]) hx hb dX12_lawLine_67 rfl hl (by decide) rfl (fun ls hl => ?_)
            refine lv_aload_n hx hb dX12_lawLine_68 rfl (lv_at hl 3 rfl) ?_
            refine va_get (D := g.1) (ci := 10) (v := .int (-1)) (C := RX12) (T := TX12) (N := 20) hx hb hts izRX12 hown hK hP 0 rfl rfl 12 (by decide) (hts _ k820) (fun _ h9 => h9) rfl dX12_lawLine_69 ?_
            refine lv_iconst (v := (-1)) hx hb dX12_lawLine_72 (by decide) ?_
            refine lv_icmp_ne (tgt := 99) hx hb dX12_lawLine_73 (by decide) (fun c50 => absurd (by decide) c50) (fun _ => ?_)
            refine lv_iload_n hx hb dX12_lawLine_76 rfl (lv_at hl 0 rfl) ?_
            refine lv_if_eq (tgt := 99) hx hb dX12_lawLine_77 (by decide) (fun _ => ?_) (fun c51 => absurd (by decide) c51)
            have hP : va_P g.1 vwCl (List.flatten [bMo g o a th hi ac tp 379 en at2_45 (-1) 0 iD iO tU fm fk fa fc ft ff fb fi]) H := hP
            have hD : va_D A (List.flatten [bMo g o a th hi ac tp 379 en at2_45 (-1) 0 iD iO tU fm fk fa fc ft ff fb fi]) := hD
            exact mret_v hx hb hr hlocks hS (Nat.le_of_ble_eq_true rfl) (Nat.le_of_ble_eq_true rfl) dX12_lawLine_99 (at2_45, tU) rfl (show (0 ≤ at2_45.toInt ∧ at2_45.toInt ≤ en.toInt + 7 - 0) ∧ (tA.toInt ≤ at2_45.toInt) ∧ (zbg tx en.toInt at2_45.toInt = b1) ∧ (tU = t1) from ⟨(by first | assumption | omega | decide), (by first | assumption | omega | decide), hq46_2, (by rw [(zLv_l hs0 hq3_k).2, zBi_fa (v := is0) (by omega), if_neg (by decide)]; exact (Int32.sub_zero _).symm)⟩) hP hD
          · skip
            have c52 : ¬ (zBi is0).toInt = 0 := zne cb9 rfl (by decide)
            refine lv_iconst (v := 1) hx hb dX12_lawLine_62 (by decide) ?_
            refine lv_goto (tgt := 67) hx hb dX12_lawLine_63 (by decide) ?_
            refine lv_istore_n (lv' := [(3, .int 1), (2, .int r_37), (1, .int 0), (0, .ref o)]) hx hb dX12_lawLine_67 rfl hl (by decide) rfl (fun ls hl => ?_)
            refine lv_aload_n hx hb dX12_lawLine_68 rfl (lv_at hl 3 rfl) ?_
            refine va_get (D := g.1) (ci := 10) (v := .int (-1)) (C := RX12) (T := TX12) (N := 20) hx hb hts izRX12 hown hK hP 0 rfl rfl 12 (by decide) (hts _ k820) (fun _ h9 => h9) rfl dX12_lawLine_69 ?_
            refine lv_iconst (v := (-1)) hx hb dX12_lawLine_72 (by decide) ?_
            refine lv_icmp_ne (tgt := 99) hx hb dX12_lawLine_73 (by decide) (fun c53 => absurd (by decide) c53) (fun _ => ?_)
            refine lv_iload_n hx hb dX12_lawLine_76 rfl (lv_at hl 0 rfl) ?_
            refine lv_if_eq (tgt := 99) hx hb dX12_lawLine_77 (by decide) (fun c54 => absurd c54 (by decide)) (fun _ => ?_)
            refine lv_aload_n hx hb dX12_lawLine_80 rfl (lv_at hl 3 rfl) ?_
            refine lv_dup hx hb dX12_lawLine_81 rfl ?_
            refine va_get (D := g.1) (ci := 10) (v := .int tU) (C := RX12) (T := TX12) (N := 20) hx hb hts izRX12 hown hK hP 0 rfl rfl 17 (by decide) (hts _ k963) (fun _ h9 => h9) rfl dX12_lawLine_82 ?_
            refine lv_iload_n hx hb dX12_lawLine_85 rfl (lv_at hl 2 rfl) ?_
            refine lv_if_eq (tgt := 93) hx hb dX12_lawLine_86 (by decide) (fun _ => ?_) (fun c55 => absurd (by decide) c55)
            refine lv_iload_n hx hb dX12_lawLine_93 rfl (lv_at hl 1 rfl) ?_
            refine lv_ineg hx hb dX12_lawLine_94 ?_
            refine lv_iadd hx hb dX12_lawLine_95 ?_
            refine va_put (D := g.1) (ci := 10) (v := .int (tU + (-r_37))) (ty := .int) (C := RX12) (T := TX12) (N := 20) hx hb hts izRX12 tyX12 tyX12_ok nmX12 hown hK hP hD hS 0 rfl rfl 17 (by decide) (hts _ k963) (fun _ h9 => h9) rfl (by decide +kernel) rfl rfl (Nat.le_of_ble_eq_true rfl) dX12_lawLine_96 (fun H locs hP hD hS => ?_)
            have hP : va_P g.1 vwCl (List.flatten [bMo g o a th hi ac tp 379 en at2_45 (-1) 0 iD iO (tU + (-r_37)) fm fk fa fc ft ff fb fi]) H := hP
            have hD : va_D A (List.flatten [bMo g o a th hi ac tp 379 en at2_45 (-1) 0 iD iO (tU + (-r_37)) fm fk fa fc ft ff fb fi]) := hD
            have hP : va_P g.1 vwCl (List.flatten [bMo g o a th hi ac tp 379 en at2_45 (-1) 0 iD iO (tU + (-r_37)) fm fk fa fc ft ff fb fi]) H := hP
            have hD : va_D A (List.flatten [bMo g o a th hi ac tp 379 en at2_45 (-1) 0 iD iO (tU + (-r_37)) fm fk fa fc ft ff fb fi]) := hD
            exact mret_v hx hb hr hlocks hS (Nat.le_of_ble_eq_true rfl) (Nat.le_of_ble_eq_true rfl) dX12_lawLine_99 (at2_45, tU + (-r_37)) rfl (show (0 ≤ at2_45.toInt ∧ at2_45.toInt ≤ en.toInt + 7 - 0) ∧ (tA.toInt ≤ at2_45.toInt) ∧ (zbg tx en.toInt at2_45.toInt = b1) ∧ ((tU + (-r_37)) = t1) from ⟨(by first | assumption | omega | decide), (by first | assumption | omega | decide), hq46_2, (by rw [(zLv_l hs0 hq3_k).2, zBi_tr (v := is0) (by omega), if_pos rfl, hw0]; exact zsubN _ _)⟩) hP hD
        · skip
          refine lv_if_eq (tgt := 62) hx hb dX12_lawLine_52 (by decide) (fun _ => ?_) (fun c56 => absurd (by decide) c56)
          refine lv_iconst (v := 1) hx hb dX12_lawLine_62 (by decide) ?_
          refine lv_goto (tgt := 67) hx hb dX12_lawLine_63 (by decide) ?_
          refine lv_istore_n (lv' := [(3, .int 1), (2, .int r_37), (1, .int 0), (0, .ref o)]) hx hb dX12_lawLine_67 rfl hl (by decide) rfl (fun ls hl => ?_)
          refine lv_aload_n hx hb dX12_lawLine_68 rfl (lv_at hl 3 rfl) ?_
          refine va_get (D := g.1) (ci := 10) (v := .int (-1)) (C := RX12) (T := TX12) (N := 20) hx hb hts izRX12 hown hK hP 0 rfl rfl 12 (by decide) (hts _ k820) (fun _ h9 => h9) rfl dX12_lawLine_69 ?_
          refine lv_iconst (v := (-1)) hx hb dX12_lawLine_72 (by decide) ?_
          refine lv_icmp_ne (tgt := 99) hx hb dX12_lawLine_73 (by decide) (fun c57 => absurd (by decide) c57) (fun _ => ?_)
          refine lv_iload_n hx hb dX12_lawLine_76 rfl (lv_at hl 0 rfl) ?_
          refine lv_if_eq (tgt := 99) hx hb dX12_lawLine_77 (by decide) (fun c58 => absurd c58 (by decide)) (fun _ => ?_)
          refine lv_aload_n hx hb dX12_lawLine_80 rfl (lv_at hl 3 rfl) ?_
          refine lv_dup hx hb dX12_lawLine_81 rfl ?_
          refine va_get (D := g.1) (ci := 10) (v := .int tU) (C := RX12) (T := TX12) (N := 20) hx hb hts izRX12 hown hK hP 0 rfl rfl 17 (by decide) (hts _ k963) (fun _ h9 => h9) rfl dX12_lawLine_82 ?_
          refine lv_iload_n hx hb dX12_lawLine_85 rfl (lv_at hl 2 rfl) ?_
          refine lv_if_eq (tgt := 93) hx hb dX12_lawLine_86 (by decide) (fun _ => ?_) (fun c59 => absurd (by decide) c59)
          refine lv_iload_n hx hb dX12_lawLine_93 rfl (lv_at hl 1 rfl) ?_
          refine lv_ineg hx hb dX12_lawLine_94 ?_
          refine lv_iadd hx hb dX12_lawLine_95 ?_
          refine va_put (D := g.1) (ci := 10) (v := .int (tU + (-r_37))) (ty := .int) (C := RX12) (T := TX12) (N := 20) hx hb hts izRX12 tyX12 tyX12_ok nmX12 hown hK hP hD hS 0 rfl rfl 17 (by decide) (hts _ k963) (fun _ h9 => h9) rfl (by decide +kernel) rfl rfl (Nat.le_of_ble_eq_true rfl) dX12_lawLine_96 (fun H locs hP hD hS => ?_)
          have hP : va_P g.1 vwCl (List.flatten [bMo g o a th hi ac tp 379 en at2_41 (-1) 0 iD iO (tU + (-r_37)) fm fk fa fc ft ff fb fi]) H := hP
          have hD : va_D A (List.flatten [bMo g o a th hi ac tp 379 en at2_41 (-1) 0 iD iO (tU + (-r_37)) fm fk fa fc ft ff fb fi]) := hD
          have hP : va_P g.1 vwCl (List.flatten [bMo g o a th hi ac tp 379 en at2_41 (-1) 0 iD iO (tU + (-r_37)) fm fk fa fc ft ff fb fi]) H := hP
          have hD : va_D A (List.flatten [bMo g o a th hi ac tp 379 en at2_41 (-1) 0 iD iO (tU + (-r_37)) fm fk fa fc ft ff fb fi]) := hD
          exact mret_v hx hb hr hlocks hS (Nat.le_of_ble_eq_true rfl) (Nat.le_of_ble_eq_true rfl) dX12_lawLine_99 (at2_41, tU + (-r_37)) rfl (show (0 ≤ at2_41.toInt ∧ at2_41.toInt ≤ en.toInt + 7 - 0) ∧ (tA.toInt ≤ at2_41.toInt) ∧ (zbg tx en.toInt at2_41.toInt = b1) ∧ ((tU + (-r_37)) = t1) from ⟨(by first | assumption | omega | decide), (by first | assumption | omega | decide), ((zbz hq43_km).trans ((show zbg tx en.toInt at2_35.toInt = znt tx en.toInt (znt tx en.toInt (zbg tx en.toInt tA.toInt)) from by rw [zbt hq38_km, zbt (zBx hq3_km hq33_km.1)]).trans (zLv_n hc0 (by rw [← (show zbg tx en.toInt at2_35.toInt = znt tx en.toInt (znt tx en.toInt (zbg tx en.toInt tA.toInt)) from by rw [zbt hq38_km, zbt (zBx hq3_km hq33_km.1)])]; exact hq43_k)).1.symm)), (by rw [(zLv_l hs0 hq3_k).2, (zLv_n hc0 (by rw [← (show zbg tx en.toInt at2_35.toInt = znt tx en.toInt (znt tx en.toInt (zbg tx en.toInt tA.toInt)) from by rw [zbt hq38_km, zbt (zBx hq3_km hq33_km.1)])]; exact hq43_k)).2, if_pos rfl, hw0]; exact zsubN _ _)⟩) hP hD
      · skip
        exact (hq38_km ⟨_, zNu_b (zbt (zBx hq3_km hq33_km.1)) hn0⟩).elim
    · skip
      refine lv_if_ne (tgt := 29) hx hb dX12_lawLine_17 (by decide) (fun c60 => absurd (by decide) c60) (fun _ => ?_)
      exact ((zBw hq3_km hq33_k) (zLv_l hs0 hq3_k).1).elim
