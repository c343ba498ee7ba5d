def zbg (f : Nat → Int32) (n p : Int) : Int := (zw zcS f n.toNat p.toNat : Nat)
theorem zisS_m {f : Nat → Int32} {n c : Int} {b : Int32} (h : b.toInt < n) (hc : (f b.toNatClampNeg).toInt = c) (hl : zcL c = false ∧ zcD c = false) : zisS f n b.toInt c := by
  rw [zcl] at hc
  have h' : ¬ n ≤ b.toInt := by omega
  unfold zisS zkd
  rw [if_neg h', hc, hl.1, hl.2]; exact ⟨rfl, rfl⟩
theorem zisS_me {f : Nat → Int32} {n b c : Int} (h : n ≤ b) : ¬ zisS f n b c := fun q => by
  have := q.1
  unfold zkd at this
  rw [if_pos h] at this; exact absurd this (by decide)
theorem zisS_mc {f : Nat → Int32} {n c : Int} {b : Int32} (hc : ¬ (f b.toNatClampNeg).toInt = c) : ¬ zisS f n b.toInt c := fun q => by rw [zcl] at hc; exact hc q.2
theorem zkd_z {f : Nat → Int32} {n b : Int} (h0 : 0 ≤ b) (h : zkd f n b = 1) : b < n ∧ zcL (f b.toNat).toInt = true := by
  unfold zkd at h
  by_cases q : n ≤ b
  · rw [if_pos q] at h; exact absurd h (by decide)
  · rw [if_neg q] at h
    by_cases r : zcL (f b.toNat).toInt = true
    · exact ⟨by omega, r⟩
    · rw [if_neg r] at h
      by_cases t : zcD (f b.toNat).toInt = true
      · rw [if_pos t] at h; exact absurd h (by decide)
      · rw [if_neg t] at h; exact absurd h (by decide)
theorem znx_z {f : Nat → Int32} {n b : Int} (h0 : 0 ≤ b) (h : zkd f n b = 1) : znx f n b = (zw zcL f n.toNat b.toNat : Nat) := by
  obtain ⟨h1, h2⟩ := zkd_z h0 h
  unfold znx
  rw [if_neg (by omega), if_pos h2, ← zw_s (by omega) h2]
theorem zhas_y {f : Nat → Int32} {n b k y : Int} {bs : List Int32} (h0 : 0 ≤ b) (hz : zw zcL f n.toNat b.toNat = k.toNat) (hk : b ≤ k) (hy : y = (bs.length : Int)) (hl : k - b = y) (h1 : 1 ≤ bs.length) (hp : zpfx f b bs (bs.length : Int)) : zisW f n b bs ∧ k = znx f n b := by
  have hb : b < n ∧ zcL (f b.toNat).toInt = true := by
    by_cases q : b.toNat < n.toNat ∧ zcL (f b.toNat).toInt = true
    · exact ⟨by omega, q.2⟩
    · rw [zw_n q] at hz; omega
  have hkd : zkd f n b = 1 := by
    unfold zkd
    rw [if_neg (by omega), if_pos hb.2]
  have hnx : znx f n b = k := by rw [znx_z h0 hkd, hz]; omega
  exact ⟨⟨hkd, by rw [hnx, hl, hy], hp⟩, hnx.symm⟩
theorem zhas_l {f : Nat → Int32} {n b k y : Int} {bs : List Int32} (h0 : 0 ≤ b) (hz : zw zcL f n.toNat b.toNat = k.toNat) (hk : b ≤ k) (hy : y = (bs.length : Int)) (hl : ¬ k - b = y) : ¬ zisW f n b bs := fun q => by
  have := q.2.1
  rw [znx_z h0 q.1, hz] at this
  omega
theorem zkd_d {f : Nat → Int32} {n b : Int} (h0 : 0 ≤ b) (h : zkd f n b = 2) : b < n ∧ zcD (f b.toNat).toInt = true ∧ zcL (f b.toNat).toInt = false := by
  unfold zkd at h
  by_cases q : n ≤ b
  · rw [if_pos q] at h; exact absurd h (by decide)
  · rw [if_neg q] at h
    by_cases r : zcL (f b.toNat).toInt = true
    · rw [if_pos r] at h; exact absurd h (by decide)
    · rw [if_neg r] at h
      by_cases t : zcD (f b.toNat).toInt = true
      · exact ⟨by omega, t, by simpa using r⟩
      · rw [if_neg t] at h; exact absurd h (by decide)
theorem zcDL {x : Int} (h : zcD x = true) : zcL x = false := by
  have h1 := of_decide_eq_true h
  exact zcL_f (by omega)
theorem znx_d {f : Nat → Int32} {n b : Int} (h0 : 0 ≤ b) (h : zkd f n b = 2) : znx f n b = (zw zcD f n.toNat b.toNat : Nat) := by
  obtain ⟨h1, h2, h3⟩ := zkd_d h0 h
  have h' : ¬ n ≤ b := by omega
  have hl' : ¬ zcL (f b.toNat).toInt = true := by rw [h3]; decide
  unfold znx
  rw [if_neg h', if_neg hl', if_pos h2, ← zw_s (by omega) h2]
theorem zfig_y {f : Nat → Int32} {n b a lo hi : Int} {v : Int32} (h0 : 0 ≤ b) (hz : zw zcD f n.toNat b.toNat = a.toNat) (hk : b < a) (hl : a - b ≤ 3) (hv : v.toInt = (zvl f b.toNat (a - b).toNat).toInt) (h1 : lo ≤ v.toInt) (h2 : v.toInt ≤ hi) : zNu f n b lo hi v ∧ a = znx f n b := by
  have hb : b < n ∧ zcD (f b.toNat).toInt = true := by
    by_cases q : b.toNat < n.toNat ∧ zcD (f b.toNat).toInt = true
    · exact ⟨by omega, q.2⟩
    · rw [zw_n q] at hz; omega
  have h' : ¬ n ≤ b := by omega
  have hl' : ¬ zcL (f b.toNat).toInt = true := by rw [zcDL hb.2]; decide
  have hkd : zkd f n b = 2 := by
    unfold zkd
    rw [if_neg h', if_neg hl', if_pos hb.2]
  have hnx : znx f n b = a := by rw [znx_d h0 hkd, hz]; omega
  exact ⟨⟨⟨hkd, by rw [hnx]; exact hl⟩, by rw [hnx]; exact Int32.toInt_inj.mp hv, h1, h2⟩, hnx.symm⟩
theorem zfig_0 {f : Nat → Int32} {n b lo hi : Int} (h0 : 0 ≤ b) (hz : zw zcD f n.toNat b.toNat = b.toNat) : ¬ ∃ v, zNu f n b lo hi v := fun ⟨_, q, _⟩ => by
  obtain ⟨h1, h2, -⟩ := zkd_d h0 q.1
  have := zw_s (f := f) (e := n.toNat) (p := b.toNat) (by omega) h2
  have h3 := zw_ge (c := zcD) (f := f) (e := n.toNat) (p := b.toNat + 1)
  omega
theorem zfig_4 {f : Nat → Int32} {n b a lo hi : Int} (h0 : 0 ≤ b) (hz : zw zcD f n.toNat b.toNat = zw zcD f n.toNat a.toNat) (hl : 3 < a - b) : ¬ ∃ v, zNu f n b lo hi v := fun ⟨_, q, _⟩ => by
  have h1 := znx_d h0 q.1
  have h3 := zw_ge (c := zcD) (f := f) (e := n.toNat) (p := a.toNat)
  have := q.2
  omega
theorem zfig_v {f : Nat → Int32} {n b a lo hi : Int} {v : Int32} (h0 : 0 ≤ b) (hz : zw zcD f n.toNat b.toNat = a.toNat) (hk : b ≤ a) (hv : v.toInt = (zvl f b.toNat (a - b).toNat).toInt) (hn : ¬ (lo ≤ v.toInt ∧ v.toInt ≤ hi)) : ¬ ∃ v, zNu f n b lo hi v := fun ⟨w, q, r, t⟩ => by
  have h1 := znx_d h0 q.1
  rw [hz] at h1
  rw [h1, show ((a.toNat : Nat) : Int) = a by omega] at r
  rw [r, ← hv] at t; exact hn t
theorem zvl_m {f : Nat → Int32} {B : Int} {v x x' : Int32} (h : v.toInt = (zvl f B.toNat (x.toInt - B).toNat).toInt) (h0 : 0 ≤ B) (hb : B ≤ x.toInt) (e : x'.toInt = x.toInt + 1) : (10 * v + f x.toNatClampNeg - 48).toInt = (zvl f B.toNat (x'.toInt - B).toNat).toInt := by
  rw [Int32.mul_comm]; exact zvl_s h h0 hb e
set_option maxRecDepth 100000 in
set_option maxHeartbeats 4000000 in
theorem m_letterF (l : Launch) (g : zG) (o : Nat) (a : Nat → Nat) (th : Int32) (hi : Int32) (ac : Int32) (tp : Int32) (en : Int32) (tA : Int32) (fl : Int32) (de : Int32) (iD : Int32) (iO : Int32) (tU : Int32) (fm : Nat → Int32) (fk : Nat → Int32) (fa : Nat → Int32) (fc : Nat → Int32) (ft : Nat → Int32) (ff : Nat → Int32) (fb : Nat → Int32) (fi : Nat → Int32) (k : Int32) (b_k : 0 ≤ k.toInt ∧ k.toInt ≤ 399) : zM' g l yX12_letter (Cond.code yX12_letter cX12_letter 2 (some .int) :: zB) ({ frames := 0, cells := 0, slots := 0, locals := 0 } : Room) [.ref o, .int k] [bMo g o a th hi ac tp (-1) en tA fl de iD iO tU fm fk fa fc ft ff fb fi] (fun _ : Unit => some (.int (ft k.toNatClampNeg))) (fun _ : Unit => True) (fun _ : Unit => [bMo g o a th hi ac tp (-1) en tA fl de iD iO tU fm fk fa fc ft ff fb fi]) := by
  refine zM'.of (cc := cX12_letter) (maxL := 2) (rt := (some .int)) (by decide) rfl (Nat.le_of_ble_eq_true rfl) ?_
  intro p e s m args below meth c A ls St hr hlocks hin hK hT hA hP hD hS hl
  obtain ⟨hx, hb, hml, hown, hts⟩ := id St
  have hl : lv_has ls 2 [(0, .ref o), (1, .int k)] := hl
  refine lv_aload_n hx hb dX12_letter_0 rfl (lv_at hl 0 rfl) ?_
  refine va_get (D := g.1) (ci := 10) (v := .int (-1)) (C := RX12) (T := TX12) (N := 20) hx hb hts izRX12 hown hK hP 0 rfl rfl 9 (by decide) (hts _ k876) (fun _ h9 => h9) rfl dX12_letter_1 ?_
  refine lv_iconst (v := (-1)) hx hb dX12_letter_4 (by decide) ?_
  refine lv_icmp_ne (tgt := 17) hx hb dX12_letter_5 (by decide) (fun c1 => absurd (by decide) c1) (fun _ => ?_)
  refine lv_aload_n hx hb dX12_letter_8 rfl (lv_at hl 0 rfl) ?_
  refine va_get (D := g.1) (ci := 10) (v := .ref (a 4)) (C := RX12) (T := TX12) (N := 20) hx hb hts izRX12 hown hK hP 0 rfl rfl 7 (by decide) (hts _ k819) (fun _ h9 => h9) rfl dX12_letter_9 ?_
  refine lv_iload_n hx hb dX12_letter_12 rfl (lv_at hl 1 rfl) ?_
  refine va_iald hx hb hK hP 5 0 rfl rfl (zinK (a := 0) (b := 399) b_k.1 b_k.2 (by decide)) dX12_letter_13 ?_
  refine lv_goto (tgt := 28) hx hb dX12_letter_14 (by decide) ?_
  have hP : va_P g.1 vwCl (List.flatten [bMo g o a th hi ac tp (-1) en tA fl de iD iO tU fm fk fa fc ft ff fb fi]) s.heap := hP
  have hD : va_D A (List.flatten [bMo g o a th hi ac tp (-1) en tA fl de iD iO tU fm fk fa fc ft ff fb fi]) := hD
  exact mret_i hx hb hr hlocks hS (Nat.le_of_ble_eq_true rfl) (Nat.le_of_ble_eq_true rfl) dX12_letter_28 () rfl trivial hP hD
set_option maxRecDepth 100000 in
set_option maxHeartbeats 4000000 in
theorem m_skipF (l : Launch) (g : zG) (o : Nat) (a : Nat → Nat) (th : Int32) (hi : Int32) (ac : Int32) (tp : Int32) (en : Int32) (tA : Int32) (fl : Int32) (de : Int32) (iD : Int32) (iO : Int32) (tU : Int32) (fm : Nat → Int32) (fk : Nat → Int32) (fa : Nat → Int32) (fc : Nat → Int32) (ft : Nat → Int32) (ff : Nat → Int32) (fb : Nat → Int32) (fi : Nat → Int32) (hen : 0 ≤ en.toInt ∧ en.toInt ≤ 400) (htA : 0 ≤ tA.toInt ∧ tA.toInt ≤ en.toInt + 7 - de.toInt) (hde : 0 ≤ de.toInt ∧ de.toInt ≤ 6) : zM' g l yX12_skip (Cond.code yX12_skip cX12_skip 1 none :: zB) ({ frames := 1, cells := 0, slots := 0, locals := 21 } : Room) [.ref o] [bMo g o a th hi ac tp (-1) en tA fl de iD iO tU fm fk fa fc ft ff fb fi] (fun (at2 : Int32) => none) (fun (at2 : Int32) => (0 ≤ at2.toInt ∧ at2.toInt ≤ en.toInt + 7 - de.toInt) ∧ (tA.toInt ≤ at2.toInt) ∧ (zSk ft en.toInt tA.toInt at2.toInt)) (fun (at2 : Int32) => [bMo g o a th hi ac tp (-1) en at2 fl de iD iO tU fm fk fa fc ft ff fb fi]) := by
  refine zM'.of (cc := cX12_skip) (maxL := 1) (rt := none) (by decide) rfl (Nat.le_of_ble_eq_true rfl) ?_
  intro p e s m args below meth c A ls St hr hlocks hin hK hT hA hP hD hS hl
  obtain ⟨hx, hb, hml, hown, hts⟩ := id St
  have hl : lv_has ls 1 [(0, .ref o)] := hl
  have LP0_6 : ∀ (kf : Nat) (x_1 : Int32), (0 ≤ x_1.toInt ∧ x_1.toInt ≤ 407) → (tA.toInt ≤ x_1.toInt) → (x_1.toInt ≤ en.toInt + 7 - de.toInt) → (zw zcS ft en.toInt.toNat tA.toInt.toNat = zw zcS ft en.toInt.toNat (x_1.toInt).toNat) → ∀ (H : Heap) (locs : List Loc) (ls : Array Slot), ((en.toInt - x_1.toInt).toNat) < kf → va_P g.1 vwCl (List.flatten [bMo g o a th hi ac tp (-1) en x_1 fl de iD iO tU fm fk fa fc ft ff fb fi]) H → va_D A (List.flatten [bMo g o a th hi ac tp (-1) en x_1 fl de iD iO tU fm fk fa fc ft ff fb fi]) → va_S A s.heap H locs → lv_has ls 1 [(0, .ref o)] → W p l e ({ frames := 1, cells := 0, slots := 0, locals := 21 } : Room) s m args below meth c H locs (0) (0) (zF g (fun (at2 : Int32) => none) (fun (at2 : Int32) => (0 ≤ at2.toInt ∧ at2.toInt ≤ en.toInt + 7 - de.toInt) ∧ (tA.toInt ≤ at2.toInt) ∧ (zSk ft en.toInt tA.toInt at2.toInt)) (fun (at2 : Int32) => [bMo g o a th hi ac tp (-1) en at2 fl de iD iO tU fm fk fa fc ft ff fb fi]) ({ frames := 1, cells := 0, slots := 0, locals := 21 } : Room) below args s A) (F0 m 0 ls []) := by
    intro kf
    induction kf with
    | zero => intro x_1 i2 i3 i4 i5 H locs ls hk; exact absurd hk (Nat.not_lt_zero _)
    | succ kf ih0_7 =>
      intro x_1 i2 i3 i4 i5 H locs ls hk0_7 hP hD hS hl
      refine lv_aload_n hx hb dX12_skip_0 rfl (lv_at hl 0 rfl) ?_
      refine va_get (D := g.1) (ci := 10) (v := .int x_1) (C := RX12) (T := TX12) (N := 20) hx hb hts izRX12 hown hK hP 0 rfl rfl 11 (by decide) (hts _ k878) (fun _ h9 => h9) rfl dX12_skip_1 ?_
      refine lv_aload_n hx hb dX12_skip_4 rfl (lv_at hl 0 rfl) ?_
      refine va_get (D := g.1) (ci := 10) (v := .int en) (C := RX12) (T := TX12) (N := 20) hx hb hts izRX12 hown hK hP 0 rfl rfl 10 (by decide) (hts _ k879) (fun _ h9 => h9) rfl dX12_skip_5 ?_
      refine lv_icmp_ge (tgt := 37) hx hb dX12_skip_8 (by decide) (fun cb9 => ?_) (fun cb9 => ?_)
      · skip
        have c8 : en.toInt ≤ x_1.toInt := zle cb9 rfl rfl
        have hP : va_P g.1 vwCl (List.flatten [bMo g o a th hi ac tp (-1) en x_1 fl de iD iO tU fm fk fa fc ft ff fb fi]) H := hP
        have hD : va_D A (List.flatten [bMo g o a th hi ac tp (-1) en x_1 fl de iD iO tU fm fk fa fc ft ff fb fi]) := hD
        exact mret_v hx hb hr hlocks hS (Nat.le_of_ble_eq_true rfl) (Nat.le_of_ble_eq_true rfl) dX12_skip_37 (x_1) rfl (show (0 ≤ x_1.toInt ∧ x_1.toInt ≤ en.toInt + 7 - de.toInt) ∧ (tA.toInt ≤ x_1.toInt) ∧ (zSk ft en.toInt tA.toInt x_1.toInt) from ⟨(by first | assumption | omega | exact Or.inl (by decide) | exact Or.inr (by omega)), (by first | assumption | omega | exact Or.inl (by decide) | exact Or.inr (by omega)), (zSk_mk i5 (by omega) (zw_nE (by omega)))⟩) hP hD
      · skip
        have c9 : x_1.toInt < en.toInt := zlti (Int32.not_le.mp cb9) rfl rfl
        have n10 : x_1.toInt ≤ 399 := zL1 (b := 400) c9 hen.2 (by decide)
        have n11 : 1 ≤ en.toInt := zL2 (a := 0) c9 i2.1 (by decide)
        refine lv_aload_n hx hb dX12_skip_11 rfl (lv_at hl 0 rfl) ?_
        refine lv_aload_n hx hb dX12_skip_12 rfl (lv_at hl 0 rfl) ?_
        refine va_get (D := g.1) (ci := 10) (v := .int x_1) (C := RX12) (T := TX12) (N := 20) hx hb hts izRX12 hown hK hP 0 rfl rfl 11 (by decide) (hts _ k878) (fun _ h9 => h9) rfl dX12_skip_13 ?_
        refine mcallV' (g := g) (q0 := 0) (ci := 10) (As := [.int x_1]) (rest := []) St hK hT hA hP hD hS hl.1 [0] [] rfl rfl rfl (m_letterF l g o a th hi ac tp en x_1 fl de iD iO tU fm fk fa fc ft ff fb fi x_1 (⟨i2.1, n10⟩)) (cwV 1 hts (zgL (zl4 k880 k881 k882 k839) k875) rfl rfl rfl (by decide +kernel) ⟨Nat.le_of_ble_eq_true rfl, Nat.le_of_ble_eq_true rfl⟩) rfl rfl rfl rfl (Nat.le_of_ble_eq_true rfl) dX12_skip_16 ⟨(Nat.le_of_ble_eq_true rfl), (Nat.le_of_ble_eq_true rfl)⟩ (fun _u H locs hq12 hP hD hS => ?_)
        have hP : va_P g.1 vwCl (List.flatten [bMo g o a th hi ac tp (-1) en x_1 fl de iD iO tU fm fk fa fc ft ff fb fi]) H := hP
        have hD : va_D A (List.flatten [bMo g o a th hi ac tp (-1) en x_1 fl de iD iO tU fm fk fa fc ft ff fb fi]) := hD
        refine W.widen (k := 0) (n := 0) (Nat.le_of_ble_eq_true rfl) (Nat.le_of_ble_eq_true rfl) ?_
        refine W.eq (g2 := F0 m 19 ls [.int (ft x_1.toNatClampNeg)]) rfl ?_
        refine lv_bipush (v := 32) hx hb dX12_skip_19 (by decide) ?_
        refine lv_icmp_ne (tgt := 37) hx hb dX12_skip_21 (by decide) (fun cb9 => ?_) (fun cb9 => ?_)
        · skip
          have c13 : ¬ (ft x_1.toNatClampNeg).toInt = 32 := zne cb9 rfl (by decide)
          have hP : va_P g.1 vwCl (List.flatten [bMo g o a th hi ac tp (-1) en x_1 fl de iD iO tU fm fk fa fc ft ff fb fi]) H := hP
          have hD : va_D A (List.flatten [bMo g o a th hi ac tp (-1) en x_1 fl de iD iO tU fm fk fa fc ft ff fb fi]) := hD
          exact mret_v hx hb hr hlocks hS (Nat.le_of_ble_eq_true rfl) (Nat.le_of_ble_eq_true rfl) dX12_skip_37 (x_1) rfl (show (0 ≤ x_1.toInt ∧ x_1.toInt ≤ en.toInt + 7 - de.toInt) ∧ (tA.toInt ≤ x_1.toInt) ∧ (zSk ft en.toInt tA.toInt x_1.toInt) from ⟨(by first | assumption | omega | exact Or.inl (by decide) | exact Or.inr (by omega)), (by first | assumption | omega | exact Or.inl (by decide) | exact Or.inr (by omega)), (zSk_mk i5 (by omega) (zw_nC (zcS_f c13)))⟩) hP hD
        · skip
          have c14 : (ft x_1.toNatClampNeg).toInt = 32 := zeq cb9 rfl (by decide)
          have n15 : 32 ≤ (ft x_1.toNatClampNeg).toInt := Int.le_trans (Int.le_refl _) (Int.le_of_eq c14.symm)
          have n16 : (ft x_1.toNatClampNeg).toInt ≤ 32 := Int.le_trans (Int.le_of_eq c14) (Int.le_refl _)
          refine lv_aload_n hx hb dX12_skip_24 rfl (lv_at hl 0 rfl) ?_
          refine lv_dup hx hb dX12_skip_25 rfl ?_
          refine va_get (D := g.1) (ci := 10) (v := .int x_1) (C := RX12) (T := TX12) (N := 20) hx hb hts izRX12 hown hK hP 0 rfl rfl 11 (by decide) (hts _ k878) (fun _ h9 => h9) rfl dX12_skip_26 ?_
          refine lv_iconst (v := 1) hx hb dX12_skip_29 (by decide) ?_
          refine lv_iadd hx hb dX12_skip_30 ?_
          refine zg3 (zaddK (i := x_1.toInt) (j := 1) (a' := 1) (b' := 400) rfl (by decide) i2.1 n10 (Int.le_refl _) (Int.le_refl _) (by decide)) (fun x_17 hx_17 => ?_)
          refine va_put (D := g.1) (ci := 10) (v := .int x_17) (ty := .int) (C := RX12) (T := TX12) (N := 20) hx hb hts izRX12 tyX12 tyX12_ok nmX12 hown hK hP hD hS 0 rfl rfl 11 (by decide) (hts _ k878) (fun _ h9 => h9) rfl (by decide +kernel) rfl rfl (Nat.le_of_ble_eq_true rfl) dX12_skip_31 (fun H locs hP hD hS => ?_)
          have hP : va_P g.1 vwCl (List.flatten [bMo g o a th hi ac tp (-1) en x_17 fl de iD iO tU fm fk fa fc ft ff fb fi]) H := hP
          have hD : va_D A (List.flatten [bMo g o a th hi ac tp (-1) en x_17 fl de iD iO tU fm fk fa fc ft ff fb fi]) := hD
          refine lv_goto (tgt := 0) hx hb dX12_skip_34 (by decide) ?_
          have hP : va_P g.1 vwCl (List.flatten [bMo g o a th hi ac tp (-1) en x_17 fl de iD iO tU fm fk fa fc ft ff fb fi]) H := hP
          have hD : va_D A (List.flatten [bMo g o a th hi ac tp (-1) en x_17 fl de iD iO tU fm fk fa fc ft ff fb fi]) := hD
          exact ih0_7 x_17 ⟨(Int.le_trans (by decide) hx_17.2.1), (Int.le_trans hx_17.2.2 (by decide))⟩ (by first | omega | assumption | decide) (by first | omega | assumption | decide) (i5.trans (zw_sI (by omega) (by omega) (zcS_t c14) (by omega))) H _ ls (by omega)  hP hD hS (lv_sub hl [0] rfl)
  have hP : va_P g.1 vwCl (List.flatten [bMo g o a th hi ac tp (-1) en tA fl de iD iO tU fm fk fa fc ft ff fb fi]) s.heap := hP
  have hD : va_D A (List.flatten [bMo g o a th hi ac tp (-1) en tA fl de iD iO tU fm fk fa fc ft ff fb fi]) := hD
  exact LP0_6 _ tA (by first | omega | assumption | decide) (by first | omega | assumption | decide) (by first | omega | assumption | decide) (by first | omega | assumption | decide) s.heap _ ls (Nat.lt_succ_self _)  hP hD hS (lv_sub hl [0] rfl)
set_option maxRecDepth 100000 in
set_option maxHeartbeats 4000000 in
theorem m_hereF (l : Launch) (g : zG) (o : Nat) (a : Nat → Nat) (th : Int32) (hi : Int32) (ac : Int32) (tp : Int32) (en : Int32) (tA : Int32) (fl : Int32) (de : Int32) (iD : Int32) (iO : Int32) (tU : Int32) (fm : Nat → Int32) (fk : Nat → Int32) (fa : Nat → Int32) (fc : Nat → Int32) (ft : Nat → Int32) (ff : Nat → Int32) (fb : Nat → Int32) (fi : Nat → Int32) (hen : 0 ≤ en.toInt ∧ en.toInt ≤ 400) (htA : 0 ≤ tA.toInt ∧ tA.toInt ≤ en.toInt + 7 - de.toInt) (hde : 0 ≤ de.toInt ∧ de.toInt ≤ 6) : zM' g l yX12_here (Cond.code yX12_here cX12_here 1 (some .int) :: zB) ({ frames := 2, cells := 0, slots := 0, locals := 41 } : Room) [.ref o] [bMo g o a th hi ac tp (-1) en tA fl de iD iO tU fm fk fa fc ft ff fb fi] (fun (at2 : Int32) => some (.int at2)) (fun (at2 : Int32) => (0 ≤ at2.toInt ∧ at2.toInt ≤ en.toInt + 7 - de.toInt) ∧ (tA.toInt ≤ at2.toInt) ∧ (zSk ft en.toInt tA.toInt at2.toInt)) (fun (at2 : Int32) => [bMo g o a th hi ac tp (-1) en at2 fl de iD iO tU fm fk fa fc ft ff fb fi]) := by
  refine zM'.of (cc := cX12_here) (maxL := 1) (rt := (some .int)) (by decide) rfl (Nat.le_of_ble_eq_true rfl) ?_
  intro p e s m args below meth c A ls St hr hlocks hin hK hT hA hP hD hS hl
  obtain ⟨hx, hb, hml, hown, hts⟩ := id St
  have hl : lv_has ls 1 [(0, .ref o)] := hl
  refine lv_aload_n hx hb dX12_here_0 rfl (lv_at hl 0 rfl) ?_
  refine mcallV' (g := g) (q0 := 0) (ci := 10) (As := []) (rest := []) St hK hT hA hP hD hS hl.1 [0] [] rfl rfl rfl (m_skipF l g o a th hi ac tp en tA fl de iD iO tU fm fk fa fc ft ff fb fi hen htA hde) (cwV 0 hts (zgL (zl4 k884 k885 k886 k839) k877) rfl rfl rfl (by decide +kernel) ⟨Nat.le_of_ble_eq_true rfl, Nat.le_of_ble_eq_true rfl⟩) rfl rfl rfl rfl (Nat.le_of_ble_eq_true rfl) dX12_here_1 ⟨(Nat.le_of_ble_eq_true rfl), (Nat.le_of_ble_eq_true rfl)⟩ (fun at2_1 H locs hq2 hP hD hS => ?_)
  replace hq2 : (0 ≤ at2_1.toInt ∧ at2_1.toInt ≤ en.toInt + 7 - de.toInt) ∧ (tA.toInt ≤ at2_1.toInt) ∧ (zSk ft en.toInt tA.toInt at2_1.toInt) := hq2
  have hP : va_P g.1 vwCl (List.flatten [bMo g o a th hi ac tp (-1) en at2_1 fl de iD iO tU fm fk fa fc ft ff fb fi]) H := hP
  have hD : va_D A (List.flatten [bMo g o a th hi ac tp (-1) en at2_1 fl de iD iO tU fm fk fa fc ft ff fb fi]) := hD
  refine W.widen (k := 0) (n := 0) (Nat.le_of_ble_eq_true rfl) (Nat.le_of_ble_eq_true rfl) ?_
  refine W.eq (g2 := F0 m 4 ls []) rfl ?_
  obtain ⟨hq2_0, hq2_1, hq2_2⟩ := hq2
  refine lv_aload_n hx hb dX12_here_4 rfl (lv_at hl 0 rfl) ?_
  refine va_get (D := g.1) (ci := 10) (v := .int at2_1) (C := RX12) (T := TX12) (N := 20) hx hb hts izRX12 hown hK hP 0 rfl rfl 11 (by decide) (hts _ k878) (fun _ h9 => h9) rfl dX12_here_5 ?_
  have hP : va_P g.1 vwCl (List.flatten [bMo g o a th hi ac tp (-1) en at2_1 fl de iD iO tU fm fk fa fc ft ff fb fi]) H := hP
  have hD : va_D A (List.flatten [bMo g o a th hi ac tp (-1) en at2_1 fl de iD iO tU fm fk fa fc ft ff fb fi]) := hD
  exact mret_i hx hb hr hlocks hS (Nat.le_of_ble_eq_true rfl) (Nat.le_of_ble_eq_true rfl) dX12_here_8 (at2_1) rfl (show (0 ≤ at2_1.toInt ∧ at2_1.toInt ≤ en.toInt + 7 - de.toInt) ∧ (tA.toInt ≤ at2_1.toInt) ∧ (zSk ft en.toInt tA.toInt at2_1.toInt) from ⟨hq2_0, hq2_1, hq2_2⟩) hP hD
set_option maxRecDepth 100000 in
set_option maxHeartbeats 4000000 in
theorem m_isSignF (l : Launch) (g : zG) (o : Nat) (a : Nat → Nat) (th : Int32) (hi : Int32) (ac : Int32) (tp : Int32) (en : Int32) (tA : Int32) (fl : Int32) (de : Int32) (iD : Int32) (iO : Int32) (tU : Int32) (fm : Nat → Int32) (fk : Nat → Int32) (fa : Nat → Int32) (fc : Nat → Int32) (ft : Nat → Int32) (ff : Nat → Int32) (fb : Nat → Int32) (fi : Nat → Int32) (sg : Int32) (hen : 0 ≤ en.toInt ∧ en.toInt ≤ 400) (htA : 0 ≤ tA.toInt ∧ tA.toInt ≤ en.toInt + 7 - de.toInt) (hde : 0 ≤ de.toInt ∧ de.toInt ≤ 6) (hsg : zcL sg.toInt = false ∧ zcD sg.toInt = false) : zM' g l yX12_isSign (Cond.code yX12_isSign cX12_isSign 2 (some .boolean) :: zB) ({ frames := 2, cells := 0, slots := 0, locals := 41 } : Room) [.ref o, .int sg] [bMo g o a th hi ac tp (-1) en tA fl de iD iO tU fm fk fa fc ft ff fb fi] (fun u : Int32 × Int32 => (fun (at2 : Int32) (q : Int32) => some (.int q)) (u.1) (u.2)) (fun u : Int32 × Int32 => (fun (at2 : Int32) (q : Int32) => (0 ≤ at2.toInt ∧ at2.toInt ≤ en.toInt + 7 - de.toInt) ∧ (tA.toInt ≤ at2.toInt) ∧ (zSk ft en.toInt tA.toInt at2.toInt) ∧ (q = 1 ∧ zisS ft en.toInt at2.toInt sg.toInt ∧ at2.toInt < en.toInt ∨ q = 0 ∧ ¬ zisS ft en.toInt at2.toInt sg.toInt)) (u.1) (u.2)) (fun u : Int32 × Int32 => (fun (at2 : Int32) (q : Int32) => [bMo g o a th hi ac tp (-1) en at2 fl de iD iO tU fm fk fa fc ft ff fb fi]) (u.1) (u.2)) := by
  refine zM'.of (cc := cX12_isSign) (maxL := 2) (rt := (some .boolean)) (by decide) rfl (Nat.le_of_ble_eq_true rfl) ?_
  intro p e s m args below meth c A ls St hr hlocks hin hK hT hA hP hD hS hl
  obtain ⟨hx, hb, hml, hown, hts⟩ := id St
  have hl : lv_has ls 2 [(0, .ref o), (1, .int sg)] := hl
  refine lv_aload_n hx hb dX12_isSign_0 rfl (lv_at hl 0 rfl) ?_
  refine mcallV' (g := g) (q0 := 0) (ci := 10) (As := []) (rest := []) St hK hT hA hP hD hS hl.1 [0] [] rfl rfl rfl (m_skipF l g o a th hi ac tp en tA fl de iD iO tU fm fk fa fc ft ff fb fi hen htA hde) (cwV 0 hts (zgL (zl4 k884 k885 k886 k839) k877) rfl rfl rfl (by decide +kernel) ⟨Nat.le_of_ble_eq_true rfl, Nat.le_of_ble_eq_true rfl⟩) rfl rfl rfl rfl (Nat.le_of_ble_eq_true rfl) dX12_isSign_1 ⟨(Nat.le_of_ble_eq_true rfl), (Nat.le_of_ble_eq_true rfl)⟩ (fun at2_1 H locs hq2 hP hD hS => ?_)
  replace hq2 : (0 ≤ at2_1.toInt ∧ at2_1.toInt ≤ en.toInt + 7 - de.toInt) ∧ (tA.toInt ≤ at2_1.toInt) ∧ (zSk ft en.toInt tA.toInt at2_1.toInt) := hq2
  have hP : va_P g.1 vwCl (List.flatten [bMo g o a th hi ac tp (-1) en at2_1 fl de iD iO tU fm fk fa fc ft ff fb fi]) H := hP
  have hD : va_D A (List.flatten [bMo g o a th hi ac tp (-1) en at2_1 fl de iD iO tU fm fk fa fc ft ff fb fi]) := hD
  refine W.widen (k := 0) (n := 0) (Nat.le_of_ble_eq_true rfl) (Nat.le_of_ble_eq_true rfl) ?_
  refine W.eq (g2 := F0 m 4 ls []) rfl ?_
  obtain ⟨hq2_0, hq2_1, hq2_2⟩ := hq2
  refine lv_aload_n hx hb dX12_isSign_4 rfl (lv_at hl 0 rfl) ?_
  refine va_get (D := g.1) (ci := 10) (v := .int at2_1) (C := RX12) (T := TX12) (N := 20) hx hb hts izRX12 hown hK hP 0 rfl rfl 11 (by decide) (hts _ k878) (fun _ h9 => h9) rfl dX12_isSign_5 ?_
  refine lv_aload_n hx hb dX12_isSign_8 rfl (lv_at hl 0 rfl) ?_
  refine va_get (D := g.1) (ci := 10) (v := .int en) (C := RX12) (T := TX12) (N := 20) hx hb hts izRX12 hown hK hP 0 rfl rfl 10 (by decide) (hts _ k879) (fun _ h9 => h9) rfl dX12_isSign_9 ?_
  refine lv_icmp_ge (tgt := 31) hx hb dX12_isSign_12 (by decide) (fun cb9 => ?_) (fun cb9 => ?_)
  · skip
    have c3 : en.toInt ≤ at2_1.toInt := zle cb9 rfl rfl
    refine lv_iconst (v := 0) hx hb dX12_isSign_31 (by decide) ?_
    have hP : va_P g.1 vwCl (List.flatten [bMo g o a th hi ac tp (-1) en at2_1 fl de iD iO tU fm fk fa fc ft ff fb fi]) H := hP
    have hD : va_D A (List.flatten [bMo g o a th hi ac tp (-1) en at2_1 fl de iD iO tU fm fk fa fc ft ff fb fi]) := hD
    exact mret_z hx hb hr hlocks hS (Nat.le_of_ble_eq_true rfl) (Nat.le_of_ble_eq_true rfl) dX12_isSign_32 (at2_1, (0 : Int32)) rfl (by decide) (show (0 ≤ at2_1.toInt ∧ at2_1.toInt ≤ en.toInt + 7 - de.toInt) ∧ (tA.toInt ≤ at2_1.toInt) ∧ (zSk ft en.toInt tA.toInt at2_1.toInt) ∧ (0 = 1 ∧ zisS ft en.toInt at2_1.toInt sg.toInt ∧ at2_1.toInt < en.toInt ∨ 0 = 0 ∧ ¬ zisS ft en.toInt at2_1.toInt sg.toInt) from ⟨(by first | assumption | omega | exact Or.inl (by decide) | exact Or.inr (by omega)), (by first | assumption | omega | exact Or.inl (by decide) | exact Or.inr (by omega)), hq2_2, (Or.inr ⟨rfl, zisS_me (by omega)⟩)⟩) hP hD
  · skip
    have c4 : at2_1.toInt < en.toInt := zlti (Int32.not_le.mp cb9) rfl rfl
    have n5 : at2_1.toInt ≤ 399 := zL1 (b := 400) c4 hen.2 (by decide)
    refine lv_aload_n hx hb dX12_isSign_15 rfl (lv_at hl 0 rfl) ?_
    refine lv_aload_n hx hb dX12_isSign_16 rfl (lv_at hl 0 rfl) ?_
    refine va_get (D := g.1) (ci := 10) (v := .int at2_1) (C := RX12) (T := TX12) (N := 20) hx hb hts izRX12 hown hK hP 0 rfl rfl 11 (by decide) (hts _ k878) (fun _ h9 => h9) rfl dX12_isSign_17 ?_
    refine mcallV' (g := g) (q0 := 0) (ci := 10) (As := [.int at2_1]) (rest := []) St hK hT hA hP hD hS hl.1 [0] [] rfl rfl rfl (m_letterF l g o a th hi ac tp en at2_1 fl de iD iO tU fm fk fa fc ft ff fb fi at2_1 (by first | assumption | omega | decide | exact Or.inl (by decide) | exact Or.inr (by decide))) (cwV 1 hts (zgL (zl4 k880 k881 k882 k839) k875) rfl rfl rfl (by decide +kernel) ⟨Nat.le_of_ble_eq_true rfl, Nat.le_of_ble_eq_true rfl⟩) rfl rfl rfl rfl (Nat.le_of_ble_eq_true rfl) dX12_isSign_20 ⟨(Nat.le_of_ble_eq_true rfl), (Nat.le_of_ble_eq_true rfl)⟩ (fun _u H locs hq6 hP hD hS => ?_)
    have hP : va_P g.1 vwCl (List.flatten [bMo g o a th hi ac tp (-1) en at2_1 fl de iD iO tU fm fk fa fc ft ff fb fi]) H := hP
    have hD : va_D A (List.flatten [bMo g o a th hi ac tp (-1) en at2_1 fl de iD iO tU fm fk fa fc ft ff fb fi]) := hD
    refine W.widen (k := 0) (n := 0) (Nat.le_of_ble_eq_true rfl) (Nat.le_of_ble_eq_true rfl) ?_
    refine W.eq (g2 := F0 m 23 ls [.int (ft at2_1.toNatClampNeg)]) rfl ?_
    refine lv_iload_n hx hb dX12_isSign_23 rfl (lv_at hl 1 rfl) ?_
    refine lv_icmp_ne (tgt := 31) hx hb dX12_isSign_24 (by decide) (fun cb9 => ?_) (fun cb9 => ?_)
    · skip
      have c7 : ¬ (ft at2_1.toNatClampNeg).toInt = sg.toInt := zne cb9 rfl rfl
      refine lv_iconst (v := 0) hx hb dX12_isSign_31 (by decide) ?_
      have hP : va_P g.1 vwCl (List.flatten [bMo g o a th hi ac tp (-1) en at2_1 fl de iD iO tU fm fk fa fc ft ff fb fi]) H := hP
      have hD : va_D A (List.flatten [bMo g o a th hi ac tp (-1) en at2_1 fl de iD iO tU fm fk fa fc ft ff fb fi]) := hD
      exact mret_z hx hb hr hlocks hS (Nat.le_of_ble_eq_true rfl) (Nat.le_of_ble_eq_true rfl) dX12_isSign_32 (at2_1, (0 : Int32)) rfl (by decide) (show (0 ≤ at2_1.toInt ∧ at2_1.toInt ≤ en.toInt + 7 - de.toInt) ∧ (tA.toInt ≤ at2_1.toInt) ∧ (zSk ft en.toInt tA.toInt at2_1.toInt) ∧ (0 = 1 ∧ zisS ft en.toInt at2_1.toInt sg.toInt ∧ at2_1.toInt < en.toInt ∨ 0 = 0 ∧ ¬ zisS ft en.toInt at2_1.toInt sg.toInt) from ⟨(by first | assumption | omega | exact Or.inl (by decide) | exact Or.inr (by omega)), (by first | assumption | omega | exact Or.inl (by decide) | exact Or.inr (by omega)), hq2_2, (Or.inr ⟨rfl, zisS_mc c7⟩)⟩) hP hD
    · skip
      have c8 : (ft at2_1.toNatClampNeg).toInt = sg.toInt := zeq cb9 rfl rfl
      refine lv_iconst (v := 1) hx hb dX12_isSign_27 (by decide) ?_
      refine lv_goto (tgt := 32) hx hb dX12_isSign_28 (by decide) ?_
      have hP : va_P g.1 vwCl (List.flatten [bMo g o a th hi ac tp (-1) en at2_1 fl de iD iO tU fm fk fa fc ft ff fb fi]) H := hP
      have hD : va_D A (List.flatten [bMo g o a th hi ac tp (-1) en at2_1 fl de iD iO tU fm fk fa fc ft ff fb fi]) := hD
      exact mret_z hx hb hr hlocks hS (Nat.le_of_ble_eq_true rfl) (Nat.le_of_ble_eq_true rfl) dX12_isSign_32 (at2_1, (1 : Int32)) rfl (by decide) (show (0 ≤ at2_1.toInt ∧ at2_1.toInt ≤ en.toInt + 7 - de.toInt) ∧ (tA.toInt ≤ at2_1.toInt) ∧ (zSk ft en.toInt tA.toInt at2_1.toInt) ∧ (1 = 1 ∧ zisS ft en.toInt at2_1.toInt sg.toInt ∧ at2_1.toInt < en.toInt ∨ 1 = 0 ∧ ¬ zisS ft en.toInt at2_1.toInt sg.toInt) from ⟨(by first | assumption | omega | exact Or.inl (by decide) | exact Or.inr (by omega)), (by first | assumption | omega | exact Or.inl (by decide) | exact Or.inr (by omega)), hq2_2, (Or.inl ⟨rfl, zisS_m (by omega) c8 hsg, (by omega)⟩)⟩) hP hD
set_option maxRecDepth 100000 in
set_option maxHeartbeats 4000000 in
theorem m_hasF (l : Launch) (g : zG) (o : Nat) (a : Nat → Nat) (th : Int32) (hi : Int32) (ac : Int32) (tp : Int32) (en : Int32) (tA : Int32) (fl : Int32) (de : Int32) (iD : Int32) (iO : Int32) (tU : Int32) (fm : Nat → Int32) (fk : Nat → Int32) (fa : Nat → Int32) (fc : Nat → Int32) (ft : Nat → Int32) (ff : Nat → Int32) (fb : Nat → Int32) (fi : Nat → Int32) (k : Nat) (j : Nat) (q : String × Nat × String × List Int32) (hen : 0 ≤ en.toInt ∧ en.toInt ≤ 400) (htA : 0 ≤ tA.toInt ∧ tA.toInt ≤ en.toInt + 7 - de.toInt) (hde : 0 ≤ de.toInt ∧ de.toInt ≤ 6) (hk9 : k = g.2 (10 + 2 * j)) (hj9 : zLit[j]? = some q) (hql : 1 ≤ q.2.2.2.length ∧ q.2.2.2.length ≤ 7) (hbs : ∀ i : Nat, i < q.2.2.2.length → 97 ≤ (q.2.2.2.getD i 0).toInt ∧ (q.2.2.2.getD i 0).toInt ≤ 122) : zM' g l yX12_has (Cond.code yX12_has cX12_has 4 (some .boolean) :: zB) ({ frames := 4, cells := 0, slots := 0, locals := 85 } : Room) [.ref o, .ref k] [bMo g o a th hi ac tp (-1) en tA fl de iD iO tU fm fk fa fc ft ff fb fi] (fun u : Int32 × Int32 => (fun (at2 : Int32) (r : Int32) => some (.int r)) (u.1) (u.2)) (fun u : Int32 × Int32 => (fun (at2 : Int32) (r : Int32) => (0 ≤ at2.toInt ∧ at2.toInt ≤ en.toInt + 7 - de.toInt) ∧ (tA.toInt ≤ at2.toInt) ∧ (r = 1 ∧ zisW ft en.toInt (zbg ft en.toInt tA.toInt) q.2.2.2 ∧ at2.toInt = znx ft en.toInt (zbg ft en.toInt tA.toInt) ∧ tA.toInt < at2.toInt ∧ at2.toInt ≤ en.toInt ∨ r = 0 ∧ ¬ zisW ft en.toInt (zbg ft en.toInt tA.toInt) q.2.2.2 ∧ at2.toInt = zbg ft en.toInt tA.toInt)) (u.1) (u.2)) (fun u : Int32 × Int32 => (fun (at2 : Int32) (r : Int32) => [bMo g o a th hi ac tp (-1) en at2 fl de iD iO tU fm fk fa fc ft ff fb fi]) (u.1) (u.2)) := by
  refine zM'.of (cc := cX12_has) (maxL := 4) (rt := (some .boolean)) (by decide) rfl (Nat.le_of_ble_eq_true rfl) ?_
  intro p e s m args below meth c A ls St hr hlocks hin hK hT hA hP hD hS hl
  obtain ⟨hx, hb, hml, hown, hts⟩ := id St
  have hl : lv_has ls 4 [(0, .ref o), (1, .ref k)] := hl
  obtain ⟨-, hSt⟩ := hT.2.1.2.2 j q hj9
  refine lv_aload_n hx hb dX12_has_0 rfl (lv_at hl 0 rfl) ?_
  refine mcallV' (g := g) (q0 := 0) (ci := 10) (As := []) (rest := []) St hK hT hA hP hD hS hl.1 [0] [] rfl rfl rfl (m_skipF l g o a th hi ac tp en tA fl de iD iO tU fm fk fa fc ft ff fb fi hen htA hde) (cwV 0 hts (zgL (zl4 k884 k885 k886 k839) k877) rfl rfl rfl (by decide +kernel) ⟨Nat.le_of_ble_eq_true rfl, Nat.le_of_ble_eq_true rfl⟩) rfl rfl rfl rfl (Nat.le_of_ble_eq_true rfl) dX12_has_1 ⟨(Nat.le_of_ble_eq_true rfl), (Nat.le_of_ble_eq_true rfl)⟩ (fun at2_1 H locs hq2 hP hD hS => ?_)
  replace hq2 : (0 ≤ at2_1.toInt ∧ at2_1.toInt ≤ en.toInt + 7 - de.toInt) ∧ (tA.toInt ≤ at2_1.toInt) ∧ (zSk ft en.toInt tA.toInt at2_1.toInt) := hq2
  have hP : va_P g.1 vwCl (List.flatten [bMo g o a th hi ac tp (-1) en at2_1 fl de iD iO tU fm fk fa fc ft ff fb fi]) H := hP
  have hD : va_D A (List.flatten [bMo g o a th hi ac tp (-1) en at2_1 fl de iD iO tU fm fk fa fc ft ff fb fi]) := hD
  refine W.widen (k := 0) (n := 0) (Nat.le_of_ble_eq_true rfl) (Nat.le_of_ble_eq_true rfl) ?_
  refine W.eq (g2 := F0 m 4 ls []) rfl ?_
  obtain ⟨hq2_0, hq2_1, hq2_2⟩ := hq2
  refine lv_aload_n hx hb dX12_has_4 rfl (lv_at hl 0 rfl) ?_
  refine va_get (D := g.1) (ci := 10) (v := .int at2_1) (C := RX12) (T := TX12) (N := 20) hx hb hts izRX12 hown hK hP 0 rfl rfl 11 (by decide) (hts _ k878) (fun _ h9 => h9) rfl dX12_has_5 ?_
  refine lv_istore_n (lv' := [(2, .int at2_1), (0, .ref o), (1, .ref k)]) hx hb dX12_has_8 rfl hl (by decide) rfl (fun ls hl => ?_)
  have hl := lv_sub (l' := [(0, .ref o), (1, .ref k), (2, .int at2_1)]) hl [1, 2, 0] rfl
  have LP9_8 : ∀ (kf : Nat) (x_3 : Int32), (0 ≤ x_3.toInt ∧ x_3.toInt ≤ 407) → (at2_1.toInt ≤ x_3.toInt) → (x_3.toInt = at2_1.toInt ∨ x_3.toInt ≤ en.toInt) → (zw zcL ft en.toInt.toNat (at2_1.toInt).toNat = zw zcL ft en.toInt.toNat (x_3.toInt).toNat) → ∀ (H : Heap) (locs : List Loc) (ls : Array Slot), ((en.toInt - x_3.toInt).toNat) < kf → va_P g.1 vwCl (List.flatten [bMo g o a th hi ac tp (-1) en at2_1 fl de iD iO tU fm fk fa fc ft ff fb fi]) H → va_D A (List.flatten [bMo g o a th hi ac tp (-1) en at2_1 fl de iD iO tU fm fk fa fc ft ff fb fi]) → va_S A s.heap H locs → lv_has ls 4 [(0, .ref o), (1, .ref k), (2, .int x_3)] → W p l e ({ frames := 4, cells := 0, slots := 0, locals := 85 } : Room) s m args below meth c H locs (0) (0) (zF g (fun u : Int32 × Int32 => (fun (at2 : Int32) (r : Int32) => some (.int r)) (u.1) (u.2)) (fun u : Int32 × Int32 => (fun (at2 : Int32) (r : Int32) => (0 ≤ at2.toInt ∧ at2.toInt ≤ en.toInt + 7 - de.toInt) ∧ (tA.toInt ≤ at2.toInt) ∧ (r = 1 ∧ zisW ft en.toInt (zbg ft en.toInt tA.toInt) q.2.2.2 ∧ at2.toInt = znx ft en.toInt (zbg ft en.toInt tA.toInt) ∧ tA.toInt < at2.toInt ∧ at2.toInt ≤ en.toInt ∨ r = 0 ∧ ¬ zisW ft en.toInt (zbg ft en.toInt tA.toInt) q.2.2.2 ∧ at2.toInt = zbg ft en.toInt tA.toInt)) (u.1) (u.2)) (fun u : Int32 × Int32 => (fun (at2 : Int32) (r : Int32) => [bMo g o a th hi ac tp (-1) en at2 fl de iD iO tU fm fk fa fc ft ff fb fi]) (u.1) (u.2)) ({ frames := 4, cells := 0, slots := 0, locals := 85 } : Room) below args s A) (F0 m 9 ls []) := by
    intro kf
    induction kf with
    | zero => intro x_3 i4 i5 i6 i7 H locs ls hk; exact absurd hk (Nat.not_lt_zero _)
    | succ kf ih9_9 =>
      intro x_3 i4 i5 i6 i7 H locs ls hk9_9 hP hD hS hl
      refine lv_iload_n hx hb dX12_has_9 rfl (lv_at hl 2 rfl) ?_
      refine lv_aload_n hx hb dX12_has_10 rfl (lv_at hl 0 rfl) ?_
      refine va_get (D := g.1) (ci := 10) (v := .int en) (C := RX12) (T := TX12) (N := 20) hx hb hts izRX12 hown hK hP 0 rfl rfl 10 (by decide) (hts _ k879) (fun _ h9 => h9) rfl dX12_has_11 ?_
      refine lv_icmp_ge (tgt := 38) hx hb dX12_has_14 (by decide) (fun cb9 => ?_) (fun cb9 => ?_)
      · skip
        have c10 : en.toInt ≤ x_3.toInt := zle cb9 rfl rfl
        refine lv_iload_n hx hb dX12_has_38 rfl (lv_at hl 2 rfl) ?_
        refine lv_aload_n hx hb dX12_has_39 rfl (lv_at hl 0 rfl) ?_
        refine va_get (D := g.1) (ci := 10) (v := .int at2_1) (C := RX12) (T := TX12) (N := 20) hx hb hts izRX12 hown hK hP 0 rfl rfl 11 (by decide) (hts _ k878) (fun _ h9 => h9) rfl dX12_has_40 ?_
        refine lv_isub hx hb dX12_has_43 ?_
        refine zgv (zsub (i := x_3.toInt) (j := at2_1.toInt) rfl rfl (by omega)) (fun x_11 hx_11 => ?_)
        refine lv_aload_n hx hb dX12_has_44 rfl (lv_at hl 1 rfl) ?_
        refine mcallL' (g := g) (As := []) (rest := [.int x_11]) St hK hT hA hP hD hS hl.1 [] [0] rfl rfl rfl (s_length l g k j q hk9 hj9 hql) (cwV 0 hts (zgL (zl4 k887 k263 k264 k223) k218) rfl rfl rfl (by decide +kernel) ⟨Nat.le_of_ble_eq_true rfl, Nat.le_of_ble_eq_true rfl⟩) (by rw [hk9]; exact zSt_recv hSt hS) rfl rfl (Nat.le_of_ble_eq_true rfl) dX12_has_45 ⟨(Nat.le_of_ble_eq_true rfl), (Nat.le_of_ble_eq_true rfl)⟩ (fun r_12 H locs hq13 hP hD hS => ?_)
        replace hq13 : (r_12.toInt = (q.2.2.2.length : Int)) := hq13
        have hP : va_P g.1 vwCl (List.flatten [bMo g o a th hi ac tp (-1) en at2_1 fl de iD iO tU fm fk fa fc ft ff fb fi]) H := hP
        have hD : va_D A (List.flatten [bMo g o a th hi ac tp (-1) en at2_1 fl de iD iO tU fm fk fa fc ft ff fb fi]) := hD
        refine W.widen (k := 0) (n := 0) (Nat.le_of_ble_eq_true rfl) (Nat.le_of_ble_eq_true rfl) ?_
        refine W.eq (g2 := F0 m 48 ls [.int r_12, .int x_11]) rfl ?_
        refine lv_icmp_eq (tgt := 53) hx hb dX12_has_48 (by decide) (fun cb9 => ?_) (fun cb9 => ?_)
        · skip
          have c14 : x_11.toInt = r_12.toInt := zeq cb9 rfl rfl
          refine lv_iconst (v := 0) hx hb dX12_has_53 (by decide) ?_
          refine lv_istore_n (lv' := [(3, .int 0), (0, .ref o), (1, .ref k), (2, .int x_3)]) hx hb dX12_has_54 rfl hl (by decide) rfl (fun ls hl => ?_)
          have hl := lv_sub (l' := [(0, .ref o), (1, .ref k), (2, .int x_3), (3, .int 0)]) hl [1, 2, 3, 0] rfl
          have LP55_18 : ∀ (kf : Nat) (x_15 : Int32), (0 ≤ x_15.toInt ∧ x_15.toInt ≤ 7) → (zpfx ft at2_1.toInt q.2.2.2 x_15.toInt) → ∀ (H : Heap) (locs : List Loc) (ls : Array Slot), ((8 - x_15.toInt).toNat) < kf → va_P g.1 vwCl (List.flatten [bMo g o a th hi ac tp (-1) en at2_1 fl de iD iO tU fm fk fa fc ft ff fb fi]) H → va_D A (List.flatten [bMo g o a th hi ac tp (-1) en at2_1 fl de iD iO tU fm fk fa fc ft ff fb fi]) → va_S A s.heap H locs → lv_has ls 4 [(0, .ref o), (1, .ref k), (2, .int x_3), (3, .int x_15)] → W p l e ({ frames := 4, cells := 0, slots := 0, locals := 85 } : Room) s m args below meth c H locs (0) (0) (zF g (fun u : Int32 × Int32 => (fun (at2 : Int32) (r : Int32) => some (.int r)) (u.1) (u.2)) (fun u : Int32 × Int32 => (fun (at2 : Int32) (r : Int32) => (0 ≤ at2.toInt ∧ at2.toInt ≤ en.toInt + 7 - de.toInt) ∧ (tA.toInt ≤ at2.toInt) ∧ (r = 1 ∧ zisW ft en.toInt (zbg ft en.toInt tA.toInt) q.2.2.2 ∧ at2.toInt = znx ft en.toInt (zbg ft en.toInt tA.toInt) ∧ tA.toInt < at2.toInt ∧ at2.toInt ≤ en.toInt ∨ r = 0 ∧ ¬ zisW ft en.toInt (zbg ft en.toInt tA.toInt) q.2.2.2 ∧ at2.toInt = zbg ft en.toInt tA.toInt)) (u.1) (u.2)) (fun u : Int32 × Int32 => (fun (at2 : Int32) (r : Int32) => [bMo g o a th hi ac tp (-1) en at2 fl de iD iO tU fm fk fa fc ft ff fb fi]) (u.1) (u.2)) ({ frames := 4, cells := 0, slots := 0, locals := 85 } : Room) below args s A) (F0 m 55 ls []) := by
            intro kf
            induction kf with
            | zero => intro x_15 i16 i17 H locs ls hk; exact absurd hk (Nat.not_lt_zero _)
            | succ kf ih55_19 =>
              intro x_15 i16 i17 H locs ls hk55_19 hP hD hS hl
              refine lv_iload_n hx hb dX12_has_55 rfl (lv_at hl 3 rfl) ?_
              refine lv_aload_n hx hb dX12_has_56 rfl (lv_at hl 1 rfl) ?_
              refine mcallL' (g := g) (As := []) (rest := [.int x_15]) St hK hT hA hP hD hS hl.1 [] [0] rfl rfl rfl (s_length l g k j q hk9 hj9 hql) (cwV 0 hts (zgL (zl4 k887 k263 k264 k223) k218) rfl rfl rfl (by decide +kernel) ⟨Nat.le_of_ble_eq_true rfl, Nat.le_of_ble_eq_true rfl⟩) (by rw [hk9]; exact zSt_recv hSt hS) rfl rfl (Nat.le_of_ble_eq_true rfl) dX12_has_57 ⟨(Nat.le_of_ble_eq_true rfl), (Nat.le_of_ble_eq_true rfl)⟩ (fun r_20 H locs hq21 hP hD hS => ?_)
              replace hq21 : (r_20.toInt = (q.2.2.2.length : Int)) := hq21
              have hP : va_P g.1 vwCl (List.flatten [bMo g o a th hi ac tp (-1) en at2_1 fl de iD iO tU fm fk fa fc ft ff fb fi]) H := hP
              have hD : va_D A (List.flatten [bMo g o a th hi ac tp (-1) en at2_1 fl de iD iO tU fm fk fa fc ft ff fb fi]) := hD
              refine W.widen (k := 0) (n := 0) (Nat.le_of_ble_eq_true rfl) (Nat.le_of_ble_eq_true rfl) ?_
              refine W.eq (g2 := F0 m 60 ls [.int r_20, .int x_15]) rfl ?_
              refine lv_icmp_ge (tgt := 89) hx hb dX12_has_60 (by decide) (fun cb9 => ?_) (fun cb9 => ?_)
              · skip
                have c22 : r_20.toInt ≤ x_15.toInt := zle cb9 rfl rfl
                refine lv_aload_n hx hb dX12_has_89 rfl (lv_at hl 0 rfl) ?_
                refine lv_iload_n hx hb dX12_has_90 rfl (lv_at hl 2 rfl) ?_
                refine va_put (D := g.1) (ci := 10) (v := .int x_3) (ty := .int) (C := RX12) (T := TX12) (N := 20) hx hb hts izRX12 tyX12 tyX12_ok nmX12 hown hK hP hD hS 0 rfl rfl 11 (by decide) (hts _ k878) (fun _ h9 => h9) rfl (by decide +kernel) rfl rfl (Nat.le_of_ble_eq_true rfl) dX12_has_91 (fun H locs hP hD hS => ?_)
                have hP : va_P g.1 vwCl (List.flatten [bMo g o a th hi ac tp (-1) en x_3 fl de iD iO tU fm fk fa fc ft ff fb fi]) H := hP
                have hD : va_D A (List.flatten [bMo g o a th hi ac tp (-1) en x_3 fl de iD iO tU fm fk fa fc ft ff fb fi]) := hD
                refine lv_iconst (v := 1) hx hb dX12_has_94 (by decide) ?_
                have hP : va_P g.1 vwCl (List.flatten [bMo g o a th hi ac tp (-1) en x_3 fl de iD iO tU fm fk fa fc ft ff fb fi]) H := hP
                have hD : va_D A (List.flatten [bMo g o a th hi ac tp (-1) en x_3 fl de iD iO tU fm fk fa fc ft ff fb fi]) := hD
                exact mret_z hx hb hr hlocks hS (Nat.le_of_ble_eq_true rfl) (Nat.le_of_ble_eq_true rfl) dX12_has_95 (x_3, (1 : Int32)) rfl (by decide) (show (0 ≤ x_3.toInt ∧ x_3.toInt ≤ en.toInt + 7 - de.toInt) ∧ (tA.toInt ≤ x_3.toInt) ∧ (1 = 1 ∧ zisW ft en.toInt (zbg ft en.toInt tA.toInt) q.2.2.2 ∧ x_3.toInt = znx ft en.toInt (zbg ft en.toInt tA.toInt) ∧ tA.toInt < x_3.toInt ∧ x_3.toInt ≤ en.toInt ∨ 1 = 0 ∧ ¬ zisW ft en.toInt (zbg ft en.toInt tA.toInt) q.2.2.2 ∧ x_3.toInt = zbg ft en.toInt tA.toInt) from ⟨(by first | assumption | omega | exact Or.inl (by decide) | exact Or.inr (by omega)), (by first | assumption | omega | exact Or.inl (by decide) | exact Or.inr (by omega)), (Or.inl ⟨rfl, (by rw [← (show at2_1.toInt = zbg ft en.toInt tA.toInt from hq2_2)]; exact (zhas_y (b := at2_1.toInt) (k := x_3.toInt) (by omega) (i7.trans (zw_nE (by omega))) (by omega) hq13 (by omega) hql.1 (fun i9 h9 => i17 i9 (by omega))).1), (by rw [← (show at2_1.toInt = zbg ft en.toInt tA.toInt from hq2_2)]; exact (zhas_y (b := at2_1.toInt) (k := x_3.toInt) (by omega) (i7.trans (zw_nE (by omega))) (by omega) hq13 (by omega) hql.1 (fun i9 h9 => i17 i9 (by omega))).2), (by have h9 := hql.1; omega), (by have h9 := hql.1; omega)⟩)⟩) hP hD
              · skip
                have c23 : x_15.toInt < r_20.toInt := zlti (Int32.not_le.mp cb9) rfl rfl
                refine lv_aload_n hx hb dX12_has_63 rfl (lv_at hl 0 rfl) ?_
                refine lv_aload_n hx hb dX12_has_64 rfl (lv_at hl 0 rfl) ?_
                refine va_get (D := g.1) (ci := 10) (v := .int at2_1) (C := RX12) (T := TX12) (N := 20) hx hb hts izRX12 hown hK hP 0 rfl rfl 11 (by decide) (hts _ k878) (fun _ h9 => h9) rfl dX12_has_65 ?_
                refine lv_iload_n hx hb dX12_has_68 rfl (lv_at hl 3 rfl) ?_
                refine lv_iadd hx hb dX12_has_69 ?_
                refine zgv (zadd (i := at2_1.toInt) (j := x_15.toInt) rfl rfl (by omega)) (fun x_24 hx_24 => ?_)
                refine mcallV' (g := g) (q0 := 0) (ci := 10) (As := [.int x_24]) (rest := []) St hK hT hA hP hD hS hl.1 [0] [] rfl rfl rfl (m_letterF l g o a th hi ac tp en at2_1 fl de iD iO tU fm fk fa fc ft ff fb fi x_24 (by first | assumption | omega | decide | exact Or.inl (by decide) | exact Or.inr (by decide))) (cwV 1 hts (zgL (zl4 k880 k881 k882 k839) k875) rfl rfl rfl (by decide +kernel) ⟨Nat.le_of_ble_eq_true rfl, Nat.le_of_ble_eq_true rfl⟩) rfl rfl rfl rfl (Nat.le_of_ble_eq_true rfl) dX12_has_70 ⟨(Nat.le_of_ble_eq_true rfl), (Nat.le_of_ble_eq_true rfl)⟩ (fun _u H locs hq25 hP hD hS => ?_)
                have hP : va_P g.1 vwCl (List.flatten [bMo g o a th hi ac tp (-1) en at2_1 fl de iD iO tU fm fk fa fc ft ff fb fi]) H := hP
                have hD : va_D A (List.flatten [bMo g o a th hi ac tp (-1) en at2_1 fl de iD iO tU fm fk fa fc ft ff fb fi]) := hD
                refine W.widen (k := 0) (n := 0) (Nat.le_of_ble_eq_true rfl) (Nat.le_of_ble_eq_true rfl) ?_
                refine W.eq (g2 := F0 m 73 ls [.int (ft x_24.toNatClampNeg)]) rfl ?_
                refine lv_aload_n hx hb dX12_has_73 rfl (lv_at hl 1 rfl) ?_
                refine lv_iload_n hx hb dX12_has_74 rfl (lv_at hl 3 rfl) ?_
                refine mcallL' (g := g) (As := [.int x_15]) (rest := [.int (ft x_24.toNatClampNeg)]) St hK hT hA hP hD hS hl.1 [] [0] rfl rfl rfl (s_charF l g k j q x_15 hk9 hj9 hql (by first | assumption | omega | decide | exact Or.inl (by decide) | exact Or.inr (by decide)) (by first | assumption | omega | decide | exact Or.inl (by decide) | exact Or.inr (by decide))) (cwV 1 hts (zgL (zl4 k888 k266 k267 k223) k257) rfl rfl rfl (by decide +kernel) ⟨Nat.le_of_ble_eq_true rfl, Nat.le_of_ble_eq_true rfl⟩) (by rw [hk9]; exact zSt_recv hSt hS) rfl rfl (Nat.le_of_ble_eq_true rfl) dX12_has_75 ⟨(Nat.le_of_ble_eq_true rfl), (Nat.le_of_ble_eq_true rfl)⟩ (fun r_26 H locs hq27 hP hD hS => ?_)
                replace hq27 : (narrow .char (.int r_26) = .int r_26) ∧ (r_26 = q.2.2.2.getD x_15.toInt.toNat 0) := hq27
                have hP : va_P g.1 vwCl (List.flatten [bMo g o a th hi ac tp (-1) en at2_1 fl de iD iO tU fm fk fa fc ft ff fb fi]) H := hP
                have hD : va_D A (List.flatten [bMo g o a th hi ac tp (-1) en at2_1 fl de iD iO tU fm fk fa fc ft ff fb fi]) := hD
                refine W.widen (k := 0) (n := 0) (Nat.le_of_ble_eq_true rfl) (Nat.le_of_ble_eq_true rfl) ?_
                refine W.eq (g2 := F0 m 78 ls [.int r_26, .int (ft x_24.toNatClampNeg)]) rfl ?_
                obtain ⟨hq27_0, hq27_1⟩ := hq27
                refine lv_icmp_eq (tgt := 83) hx hb dX12_has_78 (by decide) (fun cb9 => ?_) (fun cb9 => ?_)
                · skip
                  have c28 : (ft x_24.toNatClampNeg).toInt = r_26.toInt := zeq cb9 rfl rfl
                  refine ziinc (j := x_15.toInt + 1) (lv' := fun v9 => [(3, .int v9), (0, .ref o), (1, .ref k), (2, .int x_3)]) hx hb dX12_has_83 hl (k := 3) rfl (by decide) (fun _ => rfl) (zadd (i := x_15.toInt) (j := 1) rfl (by decide) (by omega)) (fun x_29 ls hx_29 hl => ?_)
                  refine lv_goto (tgt := 55) hx hb dX12_has_86 (by decide) ?_
                  have hl := lv_sub (l' := [(0, .ref o), (1, .ref k), (2, .int x_3), (3, .int x_29)]) hl [1, 2, 3, 0] rfl
                  have hP : va_P g.1 vwCl (List.flatten [bMo g o a th hi ac tp (-1) en at2_1 fl de iD iO tU fm fk fa fc ft ff fb fi]) H := hP
                  have hD : va_D A (List.flatten [bMo g o a th hi ac tp (-1) en at2_1 fl de iD iO tU fm fk fa fc ft ff fb fi]) := hD
                  exact ih55_19 x_29 (by first | omega | assumption | decide) (zpfx_s (x := x_24) (z := x_15) i17 (by omega) rfl (by omega) (by omega) hx_29 c28 hq27_1) H _ ls (by omega)  hP hD hS (lv_sub hl [0, 1, 2, 3] rfl)
                · skip
                  have c30 : ¬ (ft x_24.toNatClampNeg).toInt = r_26.toInt := zne cb9 rfl rfl
                  refine lv_iconst (v := 0) hx hb dX12_has_81 (by decide) ?_
                  have hP : va_P g.1 vwCl (List.flatten [bMo g o a th hi ac tp (-1) en at2_1 fl de iD iO tU fm fk fa fc ft ff fb fi]) H := hP
                  have hD : va_D A (List.flatten [bMo g o a th hi ac tp (-1) en at2_1 fl de iD iO tU fm fk fa fc ft ff fb fi]) := hD
                  exact mret_z hx hb hr hlocks hS (Nat.le_of_ble_eq_true rfl) (Nat.le_of_ble_eq_true rfl) dX12_has_82 (at2_1, (0 : Int32)) rfl (by decide) (show (0 ≤ at2_1.toInt ∧ at2_1.toInt ≤ en.toInt + 7 - de.toInt) ∧ (tA.toInt ≤ at2_1.toInt) ∧ (0 = 1 ∧ zisW ft en.toInt (zbg ft en.toInt tA.toInt) q.2.2.2 ∧ at2_1.toInt = znx ft en.toInt (zbg ft en.toInt tA.toInt) ∧ tA.toInt < at2_1.toInt ∧ at2_1.toInt ≤ en.toInt ∨ 0 = 0 ∧ ¬ zisW ft en.toInt (zbg ft en.toInt tA.toInt) q.2.2.2 ∧ at2_1.toInt = zbg ft en.toInt tA.toInt) from ⟨(by first | assumption | omega | exact Or.inl (by decide) | exact Or.inr (by omega)), (by first | assumption | omega | exact Or.inl (by decide) | exact Or.inr (by omega)), (Or.inr ⟨rfl, (by rw [← (show at2_1.toInt = zbg ft en.toInt tA.toInt from hq2_2)]; exact (fun h9 => zpfx_x (x := x_24) (z := x_15) (by omega) (by omega) (by omega) (by omega) c30 hq27_1 h9.2.2)), hq2_2⟩)⟩) hP hD
          have hL0 : (0 : Int32).toInt = 0 := by decide
          have hP : va_P g.1 vwCl (List.flatten [bMo g o a th hi ac tp (-1) en at2_1 fl de iD iO tU fm fk fa fc ft ff fb fi]) H := hP
          have hD : va_D A (List.flatten [bMo g o a th hi ac tp (-1) en at2_1 fl de iD iO tU fm fk fa fc ft ff fb fi]) := hD
          exact LP55_18 _ 0 (by decide) (zpfx0 _ _ _) H _ ls (Nat.lt_succ_self _)  hP hD hS (lv_sub hl [0, 1, 2, 3] rfl)
        · skip
          have c31 : ¬ x_11.toInt = r_12.toInt := zne cb9 rfl rfl
          refine lv_iconst (v := 0) hx hb dX12_has_51 (by decide) ?_
          have hP : va_P g.1 vwCl (List.flatten [bMo g o a th hi ac tp (-1) en at2_1 fl de iD iO tU fm fk fa fc ft ff fb fi]) H := hP
          have hD : va_D A (List.flatten [bMo g o a th hi ac tp (-1) en at2_1 fl de iD iO tU fm fk fa fc ft ff fb fi]) := hD
          exact mret_z hx hb hr hlocks hS (Nat.le_of_ble_eq_true rfl) (Nat.le_of_ble_eq_true rfl) dX12_has_52 (at2_1, (0 : Int32)) rfl (by decide) (show (0 ≤ at2_1.toInt ∧ at2_1.toInt ≤ en.toInt + 7 - de.toInt) ∧ (tA.toInt ≤ at2_1.toInt) ∧ (0 = 1 ∧ zisW ft en.toInt (zbg ft en.toInt tA.toInt) q.2.2.2 ∧ at2_1.toInt = znx ft en.toInt (zbg ft en.toInt tA.toInt) ∧ tA.toInt < at2_1.toInt ∧ at2_1.toInt ≤ en.toInt ∨ 0 = 0 ∧ ¬ zisW ft en.toInt (zbg ft en.toInt tA.toInt) q.2.2.2 ∧ at2_1.toInt = zbg ft en.toInt tA.toInt) from ⟨(by first | assumption | omega | exact Or.inl (by decide) | exact Or.inr (by omega)), (by first | assumption | omega | exact Or.inl (by decide) | exact Or.inr (by omega)), (Or.inr ⟨rfl, (by rw [← (show at2_1.toInt = zbg ft en.toInt tA.toInt from hq2_2)]; exact (zhas_l (by omega) (i7.trans (zw_nE (by omega))) (by omega) hq13 (by omega))), hq2_2⟩)⟩) hP hD
      · skip
        have c32 : x_3.toInt < en.toInt := zlti (Int32.not_le.mp cb9) rfl rfl
        have n33 : x_3.toInt ≤ 399 := zL1 (b := 400) c32 hen.2 (by decide)
        have n34 : 1 ≤ en.toInt := zL2 (a := 0) c32 i4.1 (by decide)
        refine lv_aload_n hx hb dX12_has_17 rfl (lv_at hl 0 rfl) ?_
        refine lv_iload_n hx hb dX12_has_18 rfl (lv_at hl 2 rfl) ?_
        refine mcallV' (g := g) (q0 := 0) (ci := 10) (As := [.int x_3]) (rest := []) St hK hT hA hP hD hS hl.1 [0] [] rfl rfl rfl (m_letterF l g o a th hi ac tp en at2_1 fl de iD iO tU fm fk fa fc ft ff fb fi x_3 (⟨i4.1, n33⟩)) (cwV 1 hts (zgL (zl4 k880 k881 k882 k839) k875) rfl rfl rfl (by decide +kernel) ⟨Nat.le_of_ble_eq_true rfl, Nat.le_of_ble_eq_true rfl⟩) rfl rfl rfl rfl (Nat.le_of_ble_eq_true rfl) dX12_has_19 ⟨(Nat.le_of_ble_eq_true rfl), (Nat.le_of_ble_eq_true rfl)⟩ (fun _u H locs hq35 hP hD hS => ?_)
        have hP : va_P g.1 vwCl (List.flatten [bMo g o a th hi ac tp (-1) en at2_1 fl de iD iO tU fm fk fa fc ft ff fb fi]) H := hP
        have hD : va_D A (List.flatten [bMo g o a th hi ac tp (-1) en at2_1 fl de iD iO tU fm fk fa fc ft ff fb fi]) := hD
        refine W.widen (k := 0) (n := 0) (Nat.le_of_ble_eq_true rfl) (Nat.le_of_ble_eq_true rfl) ?_
        refine W.eq (g2 := F0 m 22 ls [.int (ft x_3.toNatClampNeg)]) rfl ?_
        refine lv_bipush (v := 97) hx hb dX12_has_22 (by decide) ?_
        refine lv_bipush (v := 122) hx hb dX12_has_24 (by decide) ?_
        have hL97 : (97 : Int32).toInt = 97 := by decide
        have hL122 : (122 : Int32).toInt = 122 := by decide
        refine mcallS' (g := g) (As := [.int (ft x_3.toNatClampNeg), .int 97, .int 122]) (rest := []) St hK hT hA hP hD hS hl.1 [] [0] rfl rfl rfl (m_isIn l g (ft x_3.toNatClampNeg) 97 122 ) (va_cwS 3 hts (zgL (zl3 k837 k838 k839) k826) rfl rfl rfl (by decide +kernel) ⟨Nat.le_of_ble_eq_true rfl, Nat.le_of_ble_eq_true rfl⟩) rfl rfl (Nat.le_of_ble_eq_true rfl) dX12_has_26 ⟨(Nat.le_of_ble_eq_true rfl), (Nat.le_of_ble_eq_true rfl)⟩ (fun q_36 H locs hq37 hP hD hS => ?_)
        replace hq37 : (q_36 = 1 ∧ (97 : Int32).toInt ≤ (ft x_3.toNatClampNeg).toInt ∧ (ft x_3.toNatClampNeg).toInt ≤ (122 : Int32).toInt ∨ q_36 = 0 ∧ ((ft x_3.toNatClampNeg).toInt < (97 : Int32).toInt ∨ (122 : Int32).toInt < (ft x_3.toNatClampNeg).toInt)) := hq37
        have hP : va_P g.1 vwCl (List.flatten [bMo g o a th hi ac tp (-1) en at2_1 fl de iD iO tU fm fk fa fc ft ff fb fi]) H := hP
        have hD : va_D A (List.flatten [bMo g o a th hi ac tp (-1) en at2_1 fl de iD iO tU fm fk fa fc ft ff fb fi]) := hD
        refine W.widen (k := 0) (n := 0) (Nat.le_of_ble_eq_true rfl) (Nat.le_of_ble_eq_true rfl) ?_
        refine W.eq (g2 := F0 m 29 ls [.int q_36]) rfl ?_
        rcases hq37 with ⟨rfl, hq37_k⟩ | ⟨rfl, hq37_k⟩
        · skip
          refine lv_if_eq (tgt := 38) hx hb dX12_has_29 (by decide) (fun c38 => absurd c38 (by decide)) (fun _ => ?_)
          refine ziinc3 (n' := 1) (a' := 1) (b' := 400) (lv' := fun v9 => [(2, .int v9), (0, .ref o), (1, .ref k)]) hx hb dX12_has_32 hl (k := 2) rfl (by decide) (fun _ => rfl) (zaddK (i := x_3.toInt) (j := 1) rfl (by decide) i4.1 n33 (Int.le_refl _) (Int.le_refl _) (by decide)) (fun x_39 ls hx_39 hl => ?_)
          refine lv_goto (tgt := 9) hx hb dX12_has_35 (by decide) ?_
          have hl := lv_sub (l' := [(0, .ref o), (1, .ref k), (2, .int x_39)]) hl [1, 2, 0] rfl
          have hP : va_P g.1 vwCl (List.flatten [bMo g o a th hi ac tp (-1) en at2_1 fl de iD iO tU fm fk fa fc ft ff fb fi]) H := hP
          have hD : va_D A (List.flatten [bMo g o a th hi ac tp (-1) en at2_1 fl de iD iO tU fm fk fa fc ft ff fb fi]) := hD
          exact ih9_9 x_39 ⟨(Int.le_trans (by decide) hx_39.2.1), (Int.le_trans hx_39.2.2 (by decide))⟩ (by first | omega | assumption | decide) (by first | omega | assumption | decide) (i7.trans (zw_sI (by omega) (by omega) (zcL_t (by omega) (by omega)) hx_39.1)) H _ ls (by omega)  hP hD hS (lv_sub hl [0, 1, 2] rfl)
        · skip
          refine lv_if_eq (tgt := 38) hx hb dX12_has_29 (by decide) (fun _ => ?_) (fun c40 => absurd (by decide) c40)
          refine lv_iload_n hx hb dX12_has_38 rfl (lv_at hl 2 rfl) ?_
          refine lv_aload_n hx hb dX12_has_39 rfl (lv_at hl 0 rfl) ?_
          refine va_get (D := g.1) (ci := 10) (v := .int at2_1) (C := RX12) (T := TX12) (N := 20) hx hb hts izRX12 hown hK hP 0 rfl rfl 11 (by decide) (hts _ k878) (fun _ h9 => h9) rfl dX12_has_40 ?_
          refine lv_isub hx hb dX12_has_43 ?_
          refine zgv (zsub (i := x_3.toInt) (j := at2_1.toInt) rfl rfl (by omega)) (fun x_41 hx_41 => ?_)
          refine lv_aload_n hx hb dX12_has_44 rfl (lv_at hl 1 rfl) ?_
          refine mcallL' (g := g) (As := []) (rest := [.int x_41]) St hK hT hA hP hD hS hl.1 [] [0] rfl rfl rfl (s_length l g k j q hk9 hj9 hql) (cwV 0 hts (zgL (zl4 k887 k263 k264 k223) k218) rfl rfl rfl (by decide +kernel) ⟨Nat.le_of_ble_eq_true rfl, Nat.le_of_ble_eq_true rfl⟩) (by rw [hk9]; exact zSt_recv hSt hS) rfl rfl (Nat.le_of_ble_eq_true rfl) dX12_has_45 ⟨(Nat.le_of_ble_eq_true rfl), (Nat.le_of_ble_eq_true rfl)⟩ (fun r_42 H locs hq43 hP hD hS => ?_)
          replace hq43 : (r_42.toInt = (q.2.2.2.length : Int)) := hq43
          have hP : va_P g.1 vwCl (List.flatten [bMo g o a th hi ac tp (-1) en at2_1 fl de iD iO tU fm fk fa fc ft ff fb fi]) H := hP
          have hD : va_D A (List.flatten [bMo g o a th hi ac tp (-1) en at2_1 fl de iD iO tU fm fk fa fc ft ff fb fi]) := hD
          refine W.widen (k := 0) (n := 0) (Nat.le_of_ble_eq_true rfl) (Nat.le_of_ble_eq_true rfl) ?_
          refine W.eq (g2 := F0 m 48 ls [.int r_42, .int x_41]) rfl ?_
          refine lv_icmp_eq (tgt := 53) hx hb dX12_has_48 (by decide) (fun cb9 => ?_) (fun cb9 => ?_)
          · skip
            have c44 : x_41.toInt = r_42.toInt := zeq cb9 rfl rfl
            refine lv_iconst (v := 0) hx hb dX12_has_53 (by decide) ?_
            refine lv_istore_n (lv' := [(3, .int 0), (0, .ref o), (1, .ref k), (2, .int x_3)]) hx hb dX12_has_54 rfl hl (by decide) rfl (fun ls hl => ?_)
            have hl := lv_sub (l' := [(0, .ref o), (1, .ref k), (2, .int x_3), (3, .int 0)]) hl [1, 2, 3, 0] rfl
            have LP55_48 : ∀ (kf : Nat) (x_45 : Int32), (0 ≤ x_45.toInt ∧ x_45.toInt ≤ 7) → (zpfx ft at2_1.toInt q.2.2.2 x_45.toInt) → ∀ (H : Heap) (locs : List Loc) (ls : Array Slot), ((8 - x_45.toInt).toNat) < kf → va_P g.1 vwCl (List.flatten [bMo g o a th hi ac tp (-1) en at2_1 fl de iD iO tU fm fk fa fc ft ff fb fi]) H → va_D A (List.flatten [bMo g o a th hi ac tp (-1) en at2_1 fl de iD iO tU fm fk fa fc ft ff fb fi]) → va_S A s.heap H locs → lv_has ls 4 [(0, .ref o), (1, .ref k), (2, .int x_3), (3, .int x_45)] → W p l e ({ frames := 4, cells := 0, slots := 0, locals := 85 } : Room) s m args below meth c H locs (0) (0) (zF g (fun u : Int32 × Int32 => (fun (at2 : Int32) (r : Int32) => some (.int r)) (u.1) (u.2)) (fun u : Int32 × Int32 => (fun (at2 : Int32) (r : Int32) => (0 ≤ at2.toInt ∧ at2.toInt ≤ en.toInt + 7 - de.toInt) ∧ (tA.toInt ≤ at2.toInt) ∧ (r = 1 ∧ zisW ft en.toInt (zbg ft en.toInt tA.toInt) q.2.2.2 ∧ at2.toInt = znx ft en.toInt (zbg ft en.toInt tA.toInt) ∧ tA.toInt < at2.toInt ∧ at2.toInt ≤ en.toInt ∨ r = 0 ∧ ¬ zisW ft en.toInt (zbg ft en.toInt tA.toInt) q.2.2.2 ∧ at2.toInt = zbg ft en.toInt tA.toInt)) (u.1) (u.2)) (fun u : Int32 × Int32 => (fun (at2 : Int32) (r : Int32) => [bMo g o a th hi ac tp (-1) en at2 fl de iD iO tU fm fk fa fc ft ff fb fi]) (u.1) (u.2)) ({ frames := 4, cells := 0, slots := 0, locals := 85 } : Room) below args s A) (F0 m 55 ls []) := by
              intro kf
              induction kf with
              | zero => intro x_45 i46 i47 H locs ls hk; exact absurd hk (Nat.not_lt_zero _)
              | succ kf ih55_49 =>
                intro x_45 i46 i47 H locs ls hk55_49 hP hD hS hl
                refine lv_iload_n hx hb dX12_has_55 rfl (lv_at hl 3 rfl) ?_
                refine lv_aload_n hx hb dX12_has_56 rfl (lv_at hl 1 rfl) ?_
                refine mcallL' (g := g) (As := []) (rest := [.int x_45]) St hK hT hA hP hD hS hl.1 [] [0] rfl rfl rfl (s_length l g k j q hk9 hj9 hql) (cwV 0 hts (zgL (zl4 k887 k263 k264 k223) k218) rfl rfl rfl (by decide +kernel) ⟨Nat.le_of_ble_eq_true rfl, Nat.le_of_ble_eq_true rfl⟩) (by rw [hk9]; exact zSt_recv hSt hS) rfl rfl (Nat.le_of_ble_eq_true rfl) dX12_has_57 ⟨(Nat.le_of_ble_eq_true rfl), (Nat.le_of_ble_eq_true rfl)⟩ (fun r_50 H locs hq51 hP hD hS => ?_)
                replace hq51 : (r_50.toInt = (q.2.2.2.length : Int)) := hq51
                have hP : va_P g.1 vwCl (List.flatten [bMo g o a th hi ac tp (-1) en at2_1 fl de iD iO tU fm fk fa fc ft ff fb fi]) H := hP
                have hD : va_D A (List.flatten [bMo g o a th hi ac tp (-1) en at2_1 fl de iD iO tU fm fk fa fc ft ff fb fi]) := hD
                refine W.widen (k := 0) (n := 0) (Nat.le_of_ble_eq_true rfl) (Nat.le_of_ble_eq_true rfl) ?_
                refine W.eq (g2 := F0 m 60 ls [.int r_50, .int x_45]) rfl ?_
                refine lv_icmp_ge (tgt := 89) hx hb dX12_has_60 (by decide) (fun cb9 => ?_) (fun cb9 => ?_)
                · skip
                  have c52 : r_50.toInt ≤ x_45.toInt := zle cb9 rfl rfl
                  refine lv_aload_n hx hb dX12_has_89 rfl (lv_at hl 0 rfl) ?_
                  refine lv_iload_n hx hb dX12_has_90 rfl (lv_at hl 2 rfl) ?_
                  refine va_put (D := g.1) (ci := 10) (v := .int x_3) (ty := .int) (C := RX12) (T := TX12) (N := 20) hx hb hts izRX12 tyX12 tyX12_ok nmX12 hown hK hP hD hS 0 rfl rfl 11 (by decide) (hts _ k878) (fun _ h9 => h9) rfl (by decide +kernel) rfl rfl (Nat.le_of_ble_eq_true rfl) dX12_has_91 (fun H locs hP hD hS => ?_)
                  have hP : va_P g.1 vwCl (List.flatten [bMo g o a th hi ac tp (-1) en x_3 fl de iD iO tU fm fk fa fc ft ff fb fi]) H := hP
                  have hD : va_D A (List.flatten [bMo g o a th hi ac tp (-1) en x_3 fl de iD iO tU fm fk fa fc ft ff fb fi]) := hD
                  refine lv_iconst (v := 1) hx hb dX12_has_94 (by decide) ?_
                  have hP : va_P g.1 vwCl (List.flatten [bMo g o a th hi ac tp (-1) en x_3 fl de iD iO tU fm fk fa fc ft ff fb fi]) H := hP
                  have hD : va_D A (List.flatten [bMo g o a th hi ac tp (-1) en x_3 fl de iD iO tU fm fk fa fc ft ff fb fi]) := hD
                  exact mret_z hx hb hr hlocks hS (Nat.le_of_ble_eq_true rfl) (Nat.le_of_ble_eq_true rfl) dX12_has_95 (x_3, (1 : Int32)) rfl (by decide) (show (0 ≤ x_3.toInt ∧ x_3.toInt ≤ en.toInt + 7 - de.toInt) ∧ (tA.toInt ≤ x_3.toInt) ∧ (1 = 1 ∧ zisW ft en.toInt (zbg ft en.toInt tA.toInt) q.2.2.2 ∧ x_3.toInt = znx ft en.toInt (zbg ft en.toInt tA.toInt) ∧ tA.toInt < x_3.toInt ∧ x_3.toInt ≤ en.toInt ∨ 1 = 0 ∧ ¬ zisW ft en.toInt (zbg ft en.toInt tA.toInt) q.2.2.2 ∧ x_3.toInt = zbg ft en.toInt tA.toInt) from ⟨(by first | assumption | omega | exact Or.inl (by decide) | exact Or.inr (by omega)), (by first | assumption | omega | exact Or.inl (by decide) | exact Or.inr (by omega)), (Or.inl ⟨rfl, (by rw [← (show at2_1.toInt = zbg ft en.toInt tA.toInt from hq2_2)]; exact (zhas_y (b := at2_1.toInt) (k := x_3.toInt) (by omega) (i7.trans (zw_nC (zcL_f (by omega)))) (by omega) hq43 (by omega) hql.1 (fun i9 h9 => i47 i9 (by omega))).1), (by rw [← (show at2_1.toInt = zbg ft en.toInt tA.toInt from hq2_2)]; exact (zhas_y (b := at2_1.toInt) (k := x_3.toInt) (by omega) (i7.trans (zw_nC (zcL_f (by omega)))) (by omega) hq43 (by omega) hql.1 (fun i9 h9 => i47 i9 (by omega))).2), (by have h9 := hql.1; omega), (by have h9 := hql.1; omega)⟩)⟩) hP hD
                · skip
                  have c53 : x_45.toInt < r_50.toInt := zlti (Int32.not_le.mp cb9) rfl rfl
                  refine lv_aload_n hx hb dX12_has_63 rfl (lv_at hl 0 rfl) ?_
                  refine lv_aload_n hx hb dX12_has_64 rfl (lv_at hl 0 rfl) ?_
                  refine va_get (D := g.1) (ci := 10) (v := .int at2_1) (C := RX12) (T := TX12) (N := 20) hx hb hts izRX12 hown hK hP 0 rfl rfl 11 (by decide) (hts _ k878) (fun _ h9 => h9) rfl dX12_has_65 ?_
                  refine lv_iload_n hx hb dX12_has_68 rfl (lv_at hl 3 rfl) ?_
                  refine lv_iadd hx hb dX12_has_69 ?_
                  refine zgv (zadd (i := at2_1.toInt) (j := x_45.toInt) rfl rfl (by omega)) (fun x_54 hx_54 => ?_)
                  refine mcallV' (g := g) (q0 := 0) (ci := 10) (As := [.int x_54]) (rest := []) St hK hT hA hP hD hS hl.1 [0] [] rfl rfl rfl (m_letterF l g o a th hi ac tp en at2_1 fl de iD iO tU fm fk fa fc ft ff fb fi x_54 (by first | assumption | omega | decide | exact Or.inl (by decide) | exact Or.inr (by decide))) (cwV 1 hts (zgL (zl4 k880 k881 k882 k839) k875) rfl rfl rfl (by decide +kernel) ⟨Nat.le_of_ble_eq_true rfl, Nat.le_of_ble_eq_true rfl⟩) rfl rfl rfl rfl (Nat.le_of_ble_eq_true rfl) dX12_has_70 ⟨(Nat.le_of_ble_eq_true rfl), (Nat.le_of_ble_eq_true rfl)⟩ (fun _u H locs hq55 hP hD hS => ?_)
                  have hP : va_P g.1 vwCl (List.flatten [bMo g o a th hi ac tp (-1) en at2_1 fl de iD iO tU fm fk fa fc ft ff fb fi]) H := hP
                  have hD : va_D A (List.flatten [bMo g o a th hi ac tp (-1) en at2_1 fl de iD iO tU fm fk fa fc ft ff fb fi]) := hD
                  refine W.widen (k := 0) (n := 0) (Nat.le_of_ble_eq_true rfl) (Nat.le_of_ble_eq_true rfl) ?_
                  refine W.eq (g2 := F0 m 73 ls [.int (ft x_54.toNatClampNeg)]) rfl ?_
                  refine lv_aload_n hx hb dX12_has_73 rfl (lv_at hl 1 rfl) ?_
                  refine lv_iload_n hx hb dX12_has_74 rfl (lv_at hl 3 rfl) ?_
                  refine mcallL' (g := g) (As := [.int x_45]) (rest := [.int (ft x_54.toNatClampNeg)]) St hK hT hA hP hD hS hl.1 [] [0] rfl rfl rfl (s_charF l g k j q x_45 hk9 hj9 hql (by first | assumption | omega | decide | exact Or.inl (by decide) | exact Or.inr (by decide)) (by first | assumption | omega | decide | exact Or.inl (by decide) | exact Or.inr (by decide))) (cwV 1 hts (zgL (zl4 k888 k266 k267 k223) k257) rfl rfl rfl (by decide +kernel) ⟨Nat.le_of_ble_eq_true rfl, Nat.le_of_ble_eq_true rfl⟩) (by rw [hk9]; exact zSt_recv hSt hS) rfl rfl (Nat.le_of_ble_eq_true rfl) dX12_has_75 ⟨(Nat.le_of_ble_eq_true rfl), (Nat.le_of_ble_eq_true rfl)⟩ (fun r_56 H locs hq57 hP hD hS => ?_)
                  replace hq57 : (narrow .char (.int r_56) = .int r_56) ∧ (r_56 = q.2.2.2.getD x_45.toInt.toNat 0) := hq57
                  have hP : va_P g.1 vwCl (List.flatten [bMo g o a th hi ac tp (-1) en at2_1 fl de iD iO tU fm fk fa fc ft ff fb fi]) H := hP
                  have hD : va_D A (List.flatten [bMo g o a th hi ac tp (-1) en at2_1 fl de iD iO tU fm fk fa fc ft ff fb fi]) := hD
                  refine W.widen (k := 0) (n := 0) (Nat.le_of_ble_eq_true rfl) (Nat.le_of_ble_eq_true rfl) ?_
                  refine W.eq (g2 := F0 m 78 ls [.int r_56, .int (ft x_54.toNatClampNeg)]) rfl ?_
                  obtain ⟨hq57_0, hq57_1⟩ := hq57
                  refine lv_icmp_eq (tgt := 83) hx hb dX12_has_78 (by decide) (fun cb9 => ?_) (fun cb9 => ?_)
                  · skip
                    have c58 : (ft x_54.toNatClampNeg).toInt = r_56.toInt := zeq cb9 rfl rfl
                    refine ziinc (j := x_45.toInt + 1) (lv' := fun v9 => [(3, .int v9), (0, .ref o), (1, .ref k), (2, .int x_3)]) hx hb dX12_has_83 hl (k := 3) rfl (by decide) (fun _ => rfl) (zadd (i := x_45.toInt) (j := 1) rfl (by decide) (by omega)) (fun x_59 ls hx_59 hl => ?_)
                    refine lv_goto (tgt := 55) hx hb dX12_has_86 (by decide) ?_
                    have hl := lv_sub (l' := [(0, .ref o), (1, .ref k), (2, .int x_3), (3, .int x_59)]) hl [1, 2, 3, 0] rfl
                    have hP : va_P g.1 vwCl (List.flatten [bMo g o a th hi ac tp (-1) en at2_1 fl de iD iO tU fm fk fa fc ft ff fb fi]) H := hP
                    have hD : va_D A (List.flatten [bMo g o a th hi ac tp (-1) en at2_1 fl de iD iO tU fm fk fa fc ft ff fb fi]) := hD
                    exact ih55_49 x_59 (by first | omega | assumption | decide) (zpfx_s (x := x_54) (z := x_45) i47 (by omega) rfl (by omega) (by omega) hx_59 c58 hq57_1) H _ ls (by omega)  hP hD hS (lv_sub hl [0, 1, 2, 3] rfl)
                  · skip
                    have c60 : ¬ (ft x_54.toNatClampNeg).toInt = r_56.toInt := zne cb9 rfl rfl
                    refine lv_iconst (v := 0) hx hb dX12_has_81 (by decide) ?_
                    have hP : va_P g.1 vwCl (List.flatten [bMo g o a th hi ac tp (-1) en at2_1 fl de iD iO tU fm fk fa fc ft ff fb fi]) H := hP
                    have hD : va_D A (List.flatten [bMo g o a th hi ac tp (-1) en at2_1 fl de iD iO tU fm fk fa fc ft ff fb fi]) := hD
                    exact mret_z hx hb hr hlocks hS (Nat.le_of_ble_eq_true rfl) (Nat.le_of_ble_eq_true rfl) dX12_has_82 (at2_1, (0 : Int32)) rfl (by decide) (show (0 ≤ at2_1.toInt ∧ at2_1.toInt ≤ en.toInt + 7 - de.toInt) ∧ (tA.toInt ≤ at2_1.toInt) ∧ (0 = 1 ∧ zisW ft en.toInt (zbg ft en.toInt tA.toInt) q.2.2.2 ∧ at2_1.toInt = znx ft en.toInt (zbg ft en.toInt tA.toInt) ∧ tA.toInt < at2_1.toInt ∧ at2_1.toInt ≤ en.toInt ∨ 0 = 0 ∧ ¬ zisW ft en.toInt (zbg ft en.toInt tA.toInt) q.2.2.2 ∧ at2_1.toInt = zbg ft en.toInt tA.toInt) from ⟨(by first | assumption | omega | exact Or.inl (by decide) | exact Or.inr (by omega)), (by first | assumption | omega | exact Or.inl (by decide) | exact Or.inr (by omega)), (Or.inr ⟨rfl, (by rw [← (show at2_1.toInt = zbg ft en.toInt tA.toInt from hq2_2)]; exact (fun h9 => zpfx_x (x := x_54) (z := x_45) (by omega) (by omega) (by omega) (by omega) c60 hq57_1 h9.2.2)), hq2_2⟩)⟩) hP hD
            have hL0 : (0 : Int32).toInt = 0 := by decide
            have hP : va_P g.1 vwCl (List.flatten [bMo g o a th hi ac tp (-1) en at2_1 fl de iD iO tU fm fk fa fc ft ff fb fi]) H := hP
            have hD : va_D A (List.flatten [bMo g o a th hi ac tp (-1) en at2_1 fl de iD iO tU fm fk fa fc ft ff fb fi]) := hD
            exact LP55_48 _ 0 (by decide) (zpfx0 _ _ _) H _ ls (Nat.lt_succ_self _)  hP hD hS (lv_sub hl [0, 1, 2, 3] rfl)
          · skip
            have c61 : ¬ x_41.toInt = r_42.toInt := zne cb9 rfl rfl
            refine lv_iconst (v := 0) hx hb dX12_has_51 (by decide) ?_
            have hP : va_P g.1 vwCl (List.flatten [bMo g o a th hi ac tp (-1) en at2_1 fl de iD iO tU fm fk fa fc ft ff fb fi]) H := hP
            have hD : va_D A (List.flatten [bMo g o a th hi ac tp (-1) en at2_1 fl de iD iO tU fm fk fa fc ft ff fb fi]) := hD
            exact mret_z hx hb hr hlocks hS (Nat.le_of_ble_eq_true rfl) (Nat.le_of_ble_eq_true rfl) dX12_has_52 (at2_1, (0 : Int32)) rfl (by decide) (show (0 ≤ at2_1.toInt ∧ at2_1.toInt ≤ en.toInt + 7 - de.toInt) ∧ (tA.toInt ≤ at2_1.toInt) ∧ (0 = 1 ∧ zisW ft en.toInt (zbg ft en.toInt tA.toInt) q.2.2.2 ∧ at2_1.toInt = znx ft en.toInt (zbg ft en.toInt tA.toInt) ∧ tA.toInt < at2_1.toInt ∧ at2_1.toInt ≤ en.toInt ∨ 0 = 0 ∧ ¬ zisW ft en.toInt (zbg ft en.toInt tA.toInt) q.2.2.2 ∧ at2_1.toInt = zbg ft en.toInt tA.toInt) from ⟨(by first | assumption | omega | exact Or.inl (by decide) | exact Or.inr (by omega)), (by first | assumption | omega | exact Or.inl (by decide) | exact Or.inr (by omega)), (Or.inr ⟨rfl, (by rw [← (show at2_1.toInt = zbg ft en.toInt tA.toInt from hq2_2)]; exact (zhas_l (by omega) (i7.trans (zw_nC (zcL_f (by omega)))) (by omega) hq43 (by omega))), hq2_2⟩)⟩) hP hD
  have hP : va_P g.1 vwCl (List.flatten [bMo g o a th hi ac tp (-1) en at2_1 fl de iD iO tU fm fk fa fc ft ff fb fi]) H := hP
  have hD : va_D A (List.flatten [bMo g o a th hi ac tp (-1) en at2_1 fl de iD iO tU fm fk fa fc ft ff fb fi]) := hD
  exact LP9_8 _ at2_1 (by first | omega | assumption | decide) (by first | omega | assumption | decide) (by first | omega | assumption | decide) rfl H _ ls (Nat.lt_succ_self _)  hP hD hS (lv_sub hl [0, 1, 2] rfl)
set_option maxRecDepth 100000 in
set_option maxHeartbeats 4000000 in
theorem m_wrongF (l : Launch) (g : zG) (o : Nat) (a : Nat → Nat) (th : Int32) (hi : Int32) (ac : Int32) (tp : Int32) (ba : Int32) (en : Int32) (tA : Int32) (de : Int32) (iD : Int32) (iO : Int32) (tU : Int32) (fm : Nat → Int32) (fk : Nat → Int32) (fa : Nat → Int32) (fc : Nat → Int32) (ft : Nat → Int32) (ff : Nat → Int32) (fb : Nat → Int32) (fi : Nat → Int32) (where_ : Int32)  : zM' g l yX12_wrong (Cond.code yX12_wrong cX12_wrong 2 none :: zB) ({ frames := 0, cells := 0, slots := 0, locals := 0 } : Room) [.ref o, .int where_] [bMo g o a th hi ac tp ba en tA (-1) de iD iO tU fm fk fa fc ft ff fb fi] (fun _ : Unit => none) (fun _ : Unit => True) (fun _ : Unit => [bMo g o a th hi ac tp ba en tA where_ de iD iO tU fm fk fa fc ft ff fb fi]) := by
  refine zM'.of (cc := cX12_wrong) (maxL := 2) (rt := none) (by decide) rfl (Nat.le_of_ble_eq_true rfl) ?_
  intro p e s m args below meth c A ls St hr hlocks hin hK hT hA hP hD hS hl
  obtain ⟨hx, hb, hml, hown, hts⟩ := id St
  have hl : lv_has ls 2 [(0, .ref o), (1, .int where_)] := hl
  refine lv_aload_n hx hb dX12_wrong_0 rfl (lv_at hl 0 rfl) ?_
  refine va_get (D := g.1) (ci := 10) (v := .int (-1)) (C := RX12) (T := TX12) (N := 20) hx hb hts izRX12 hown hK hP 0 rfl rfl 12 (by decide) (hts _ k820) (fun _ h9 => h9) rfl dX12_wrong_1 ?_
  refine lv_iconst (v := (-1)) hx hb dX12_wrong_4 (by decide) ?_
  refine lv_icmp_ne (tgt := 13) hx hb dX12_wrong_5 (by decide) (fun c1 => absurd (by decide) c1) (fun _ => ?_)
  refine lv_aload_n hx hb dX12_wrong_8 rfl (lv_at hl 0 rfl) ?_
  refine lv_iload_n hx hb dX12_wrong_9 rfl (lv_at hl 1 rfl) ?_
  refine va_put (D := g.1) (ci := 10) (v := .int where_) (ty := .int) (C := RX12) (T := TX12) (N := 20) hx hb hts izRX12 tyX12 tyX12_ok nmX12 hown hK hP hD hS 0 rfl rfl 12 (by decide) (hts _ k820) (fun _ h9 => h9) rfl (by decide +kernel) rfl rfl (Nat.le_of_ble_eq_true rfl) dX12_wrong_10 (fun H locs hP hD hS => ?_)
  have hP : va_P g.1 vwCl (List.flatten [bMo g o a th hi ac tp ba en tA where_ de iD iO tU fm fk fa fc ft ff fb fi]) H := hP
  have hD : va_D A (List.flatten [bMo g o a th hi ac tp ba en tA where_ de iD iO tU fm fk fa fc ft ff fb fi]) := hD
  have hP : va_P g.1 vwCl (List.flatten [bMo g o a th hi ac tp ba en tA where_ de iD iO tU fm fk fa fc ft ff fb fi]) H := hP
  have hD : va_D A (List.flatten [bMo g o a th hi ac tp ba en tA where_ de iD iO tU fm fk fa fc ft ff fb fi]) := hD
  exact mret_v hx hb hr hlocks hS (Nat.le_of_ble_eq_true rfl) (Nat.le_of_ble_eq_true rfl) dX12_wrong_13 () rfl trivial hP hD
set_option maxRecDepth 100000 in
set_option maxHeartbeats 4000000 in
theorem m_figuresF (l : Launch) (g : zG) (o : Nat) (a : Nat → Nat) (th : Int32) (hi : Int32) (ac : Int32) (tp : Int32) (en : Int32) (tA : Int32) (de : Int32) (iD : Int32) (iO : Int32) (tU : Int32) (fm : Nat → Int32) (fk : Nat → Int32) (fa : Nat → Int32) (fc : Nat → Int32) (ft : Nat → Int32) (ff : Nat → Int32) (fb : Nat → Int32) (fi : Nat → Int32) (lw : Int32) (hg : Int32) (hen : 0 ≤ en.toInt ∧ en.toInt ≤ 400) (htA : 0 ≤ tA.toInt ∧ tA.toInt ≤ en.toInt + 7 - de.toInt) (hde : 0 ≤ de.toInt ∧ de.toInt ≤ 6) : zM' g l yX12_figures (Cond.code yX12_figures cX12_figures 5 (some .int) :: zB) ({ frames := 3, cells := 0, slots := 0, locals := 61 } : Room) [.ref o, .int lw, .int hg] [bMo g o a th hi ac tp (-1) en tA (-1) de iD iO tU fm fk fa fc ft ff fb fi] (fun u : Int32 × Int32 × Int32 => (fun (at2 : Int32) (fl2 : Int32) (r : Int32) => some (.int r)) (u.1) (u.2.1) (u.2.2)) (fun u : Int32 × Int32 × Int32 => (fun (at2 : Int32) (fl2 : Int32) (r : Int32) => (0 ≤ at2.toInt ∧ at2.toInt ≤ en.toInt + 7 - de.toInt) ∧ (tA.toInt ≤ at2.toInt) ∧ (zNu ft en.toInt (zbg ft en.toInt tA.toInt) lw.toInt hg.toInt r ∧ at2.toInt = znx ft en.toInt (zbg ft en.toInt tA.toInt) ∧ (-1) = fl2 ∨ fl2.toInt = zbg ft en.toInt tA.toInt ∧ ¬ ∃ v9, zNu ft en.toInt (zbg ft en.toInt tA.toInt) lw.toInt hg.toInt v9)) (u.1) (u.2.1) (u.2.2)) (fun u : Int32 × Int32 × Int32 => (fun (at2 : Int32) (fl2 : Int32) (r : Int32) => [bMo g o a th hi ac tp (-1) en at2 fl2 de iD iO tU fm fk fa fc ft ff fb fi]) (u.1) (u.2.1) (u.2.2)) := by
  refine zM'.of (cc := cX12_figures) (maxL := 5) (rt := (some .int)) (by decide) rfl (Nat.le_of_ble_eq_true rfl) ?_
  intro p e s m args below meth c A ls St hr hlocks hin hK hT hA hP hD hS hl
  obtain ⟨hx, hb, hml, hown, hts⟩ := id St
  have hl : lv_has ls 5 [(0, .ref o), (1, .int lw), (2, .int hg)] := hl
  refine lv_aload_n hx hb dX12_figures_0 rfl (lv_at hl 0 rfl) ?_
  refine va_get (D := g.1) (ci := 10) (v := .int (-1)) (C := RX12) (T := TX12) (N := 20) hx hb hts izRX12 hown hK hP 0 rfl rfl 12 (by decide) (hts _ k820) (fun _ h9 => h9) rfl dX12_figures_1 ?_
  refine lv_iconst (v := (-1)) hx hb dX12_figures_4 (by decide) ?_
  refine lv_icmp_eq (tgt := 10) hx hb dX12_figures_5 (by decide) (fun _ => ?_) (fun c1 => absurd (by decide) c1)
  refine lv_aload_n hx hb dX12_figures_10 rfl (lv_at hl 0 rfl) ?_
  refine mcallV' (g := g) (q0 := 0) (ci := 10) (As := []) (rest := []) St hK hT hA hP hD hS hl.1 [0] [] rfl rfl rfl (m_hereF l g o a th hi ac tp en tA (-1) de iD iO tU fm fk fa fc ft ff fb fi hen htA hde) (cwV 0 hts (zgL (zl4 k892 k893 k894 k839) k891) rfl rfl rfl (by decide +kernel) ⟨Nat.le_of_ble_eq_true rfl, Nat.le_of_ble_eq_true rfl⟩) rfl rfl rfl rfl (Nat.le_of_ble_eq_true rfl) dX12_figures_11 ⟨(Nat.le_of_ble_eq_true rfl), (Nat.le_of_ble_eq_true rfl)⟩ (fun at2_2 H locs hq3 hP hD hS => ?_)
  replace hq3 : (0 ≤ at2_2.toInt ∧ at2_2.toInt ≤ en.toInt + 7 - de.toInt) ∧ (tA.toInt ≤ at2_2.toInt) ∧ (zSk ft en.toInt tA.toInt at2_2.toInt) := hq3
  have hP : va_P g.1 vwCl (List.flatten [bMo g o a th hi ac tp (-1) en at2_2 (-1) de iD iO tU fm fk fa fc ft ff fb fi]) H := hP
  have hD : va_D A (List.flatten [bMo g o a th hi ac tp (-1) en at2_2 (-1) de iD iO tU fm fk fa fc ft ff fb fi]) := hD
  refine W.widen (k := 0) (n := 0) (Nat.le_of_ble_eq_true rfl) (Nat.le_of_ble_eq_true rfl) ?_
  refine W.eq (g2 := F0 m 14 ls [.int at2_2]) rfl ?_
  obtain ⟨hq3_0, hq3_1, hq3_2⟩ := hq3
  refine lv_istore_n (lv' := [(3, .int at2_2), (0, .ref o), (1, .int lw), (2, .int hg)]) hx hb dX12_figures_14 rfl hl (by decide) rfl (fun ls hl => ?_)
  refine lv_iconst (v := 0) hx hb dX12_figures_15 (by decide) ?_
  refine lv_istore (lv' := [(4, .int 0), (3, .int at2_2), (0, .ref o), (1, .int lw), (2, .int hg)]) hx hb dX12_figures_16 hl (by decide) rfl (fun ls hl => ?_)
  have hl := lv_sub (l' := [(0, .ref o), (1, .int lw), (2, .int hg), (3, .int at2_2), (4, .int 0)]) hl [2, 3, 4, 1, 0] rfl
  have LP18_11 : ∀ (kf : Nat) (x_4 : Int32) (x_5 : Int32), (0 ≤ x_5.toInt ∧ x_5.toInt ≤ 407) → (tA.toInt ≤ x_5.toInt ∧ x_5.toInt ≤ en.toInt + 7 - de.toInt) → (at2_2.toInt ≤ x_5.toInt ∧ x_5.toInt - at2_2.toInt ≤ 4) → (zw zcD ft en.toInt.toNat (at2_2.toInt).toNat = zw zcD ft en.toInt.toNat (x_5.toInt).toNat) → (x_4.toInt = (zvl ft (at2_2.toInt).toNat (x_5.toInt - at2_2.toInt).toNat).toInt) → ∀ (H : Heap) (locs : List Loc) (ls : Array Slot), ((en.toInt - x_5.toInt).toNat) < kf → va_P g.1 vwCl (List.flatten [bMo g o a th hi ac tp (-1) en x_5 (-1) de iD iO tU fm fk fa fc ft ff fb fi]) H → va_D A (List.flatten [bMo g o a th hi ac tp (-1) en x_5 (-1) de iD iO tU fm fk fa fc ft ff fb fi]) → va_S A s.heap H locs → lv_has ls 5 [(0, .ref o), (1, .int lw), (2, .int hg), (3, .int at2_2), (4, .int x_4)] → W p l e ({ frames := 3, cells := 0, slots := 0, locals := 61 } : Room) s m args below meth c H locs (0) (0) (zF g (fun u : Int32 × Int32 × Int32 => (fun (at2 : Int32) (fl2 : Int32) (r : Int32) => some (.int r)) (u.1) (u.2.1) (u.2.2)) (fun u : Int32 × Int32 × Int32 => (fun (at2 : Int32) (fl2 : Int32) (r : Int32) => (0 ≤ at2.toInt ∧ at2.toInt ≤ en.toInt + 7 - de.toInt) ∧ (tA.toInt ≤ at2.toInt) ∧ (zNu ft en.toInt (zbg ft en.toInt tA.toInt) lw.toInt hg.toInt r ∧ at2.toInt = znx ft en.toInt (zbg ft en.toInt tA.toInt) ∧ (-1) = fl2 ∨ fl2.toInt = zbg ft en.toInt tA.toInt ∧ ¬ ∃ v9, zNu ft en.toInt (zbg ft en.toInt tA.toInt) lw.toInt hg.toInt v9)) (u.1) (u.2.1) (u.2.2)) (fun u : Int32 × Int32 × Int32 => (fun (at2 : Int32) (fl2 : Int32) (r : Int32) => [bMo g o a th hi ac tp (-1) en at2 fl2 de iD iO tU fm fk fa fc ft ff fb fi]) (u.1) (u.2.1) (u.2.2)) ({ frames := 3, cells := 0, slots := 0, locals := 61 } : Room) below args s A) (F0 m 18 ls []) := by
    intro kf
    induction kf with
    | zero => intro x_4 x_5 i6 i7 i8 i9 i10 H locs ls hk; exact absurd hk (Nat.not_lt_zero _)
    | succ kf ih18_12 =>
      intro x_4 x_5 i6 i7 i8 i9 i10 H locs ls hk18_12 hP hD hS hl
      refine lv_aload_n hx hb dX12_figures_18 rfl (lv_at hl 0 rfl) ?_
      refine va_get (D := g.1) (ci := 10) (v := .int x_5) (C := RX12) (T := TX12) (N := 20) hx hb hts izRX12 hown hK hP 0 rfl rfl 11 (by decide) (hts _ k878) (fun _ h9 => h9) rfl dX12_figures_19 ?_
      refine lv_aload_n hx hb dX12_figures_22 rfl (lv_at hl 0 rfl) ?_
      refine va_get (D := g.1) (ci := 10) (v := .int en) (C := RX12) (T := TX12) (N := 20) hx hb hts izRX12 hown hK hP 0 rfl rfl 10 (by decide) (hts _ k879) (fun _ h9 => h9) rfl dX12_figures_23 ?_
      refine lv_icmp_ge (tgt := 89) hx hb dX12_figures_26 (by decide) (fun cb9 => ?_) (fun cb9 => ?_)
      · skip
        have c13 : en.toInt ≤ x_5.toInt := zle cb9 rfl rfl
        refine lv_aload_n hx hb dX12_figures_89 rfl (lv_at hl 0 rfl) ?_
        refine va_get (D := g.1) (ci := 10) (v := .int x_5) (C := RX12) (T := TX12) (N := 20) hx hb hts izRX12 hown hK hP 0 rfl rfl 11 (by decide) (hts _ k878) (fun _ h9 => h9) rfl dX12_figures_90 ?_
        refine lv_iload_n hx hb dX12_figures_93 rfl (lv_at hl 3 rfl) ?_
        refine lv_icmp_eq (tgt := 119) hx hb dX12_figures_94 (by decide) (fun cb9 => ?_) (fun cb9 => ?_)
        · skip
          have c14 : x_5.toInt = at2_2.toInt := zeq cb9 rfl rfl
          refine lv_aload_n hx hb dX12_figures_119 rfl (lv_at hl 0 rfl) ?_
          refine lv_iload_n hx hb dX12_figures_120 rfl (lv_at hl 3 rfl) ?_
          refine mcallV' (g := g) (q0 := 0) (ci := 10) (As := [.int at2_2]) (rest := []) St hK hT hA hP hD hS hl.1 [0] [] rfl rfl rfl (m_wrongF l g o a th hi ac tp (-1) en x_5 de iD iO tU fm fk fa fc ft ff fb fi at2_2 ) (cwV 1 hts (zgL (zl4 k895 k896 k897 k839) k890) rfl rfl rfl (by decide +kernel) ⟨Nat.le_of_ble_eq_true rfl, Nat.le_of_ble_eq_true rfl⟩) rfl rfl rfl rfl (Nat.le_of_ble_eq_true rfl) dX12_figures_121 ⟨(Nat.le_of_ble_eq_true rfl), (Nat.le_of_ble_eq_true rfl)⟩ (fun _u H locs hq15 hP hD hS => ?_)
          have hP : va_P g.1 vwCl (List.flatten [bMo g o a th hi ac tp (-1) en x_5 at2_2 de iD iO tU fm fk fa fc ft ff fb fi]) H := hP
          have hD : va_D A (List.flatten [bMo g o a th hi ac tp (-1) en x_5 at2_2 de iD iO tU fm fk fa fc ft ff fb fi]) := hD
          refine W.widen (k := 0) (n := 0) (Nat.le_of_ble_eq_true rfl) (Nat.le_of_ble_eq_true rfl) ?_
          refine W.eq (g2 := F0 m 124 ls []) rfl ?_
          refine lv_iload hx hb dX12_figures_124 (lv_at hl 4 rfl) ?_
          have hP : va_P g.1 vwCl (List.flatten [bMo g o a th hi ac tp (-1) en x_5 at2_2 de iD iO tU fm fk fa fc ft ff fb fi]) H := hP
          have hD : va_D A (List.flatten [bMo g o a th hi ac tp (-1) en x_5 at2_2 de iD iO tU fm fk fa fc ft ff fb fi]) := hD
          exact mret_i hx hb hr hlocks hS (Nat.le_of_ble_eq_true rfl) (Nat.le_of_ble_eq_true rfl) dX12_figures_126 (x_5, at2_2, x_4) rfl (show (0 ≤ x_5.toInt ∧ x_5.toInt ≤ en.toInt + 7 - de.toInt) ∧ (tA.toInt ≤ x_5.toInt) ∧ (zNu ft en.toInt (zbg ft en.toInt tA.toInt) lw.toInt hg.toInt x_4 ∧ x_5.toInt = znx ft en.toInt (zbg ft en.toInt tA.toInt) ∧ (-1) = at2_2 ∨ at2_2.toInt = zbg ft en.toInt tA.toInt ∧ ¬ ∃ v9, zNu ft en.toInt (zbg ft en.toInt tA.toInt) lw.toInt hg.toInt v9) from ⟨(by first | assumption | omega | exact Or.inl (by decide) | exact Or.inr (by omega)), (by first | assumption | omega | exact Or.inl (by decide) | exact Or.inr (by omega)), (Or.inr ⟨hq3_2, (by rw [← (show at2_2.toInt = zbg ft en.toInt tA.toInt from hq3_2)]; exact (zfig_0 (by omega) ((i9.trans (zw_nE (by omega))).trans (by omega))))⟩)⟩) hP hD
        · skip
          have c16 : ¬ x_5.toInt = at2_2.toInt := zne cb9 rfl rfl
          refine lv_aload_n hx hb dX12_figures_97 rfl (lv_at hl 0 rfl) ?_
          refine va_get (D := g.1) (ci := 10) (v := .int x_5) (C := RX12) (T := TX12) (N := 20) hx hb hts izRX12 hown hK hP 0 rfl rfl 11 (by decide) (hts _ k878) (fun _ h9 => h9) rfl dX12_figures_98 ?_
          refine lv_iload_n hx hb dX12_figures_101 rfl (lv_at hl 3 rfl) ?_
          refine lv_isub hx hb dX12_figures_102 ?_
          refine zgv (zsub (i := x_5.toInt) (j := at2_2.toInt) rfl rfl (by omega)) (fun x_17 hx_17 => ?_)
          refine lv_iconst (v := 3) hx hb dX12_figures_103 (by decide) ?_
          refine lv_icmp_gt (tgt := 119) hx hb dX12_figures_104 (by decide) (fun cb9 => ?_) (fun cb9 => ?_)
          · skip
            have c18 : 3 < x_17.toInt := zlti cb9 (by decide) rfl
            have n19 : 4 ≤ x_17.toInt := zL2 (a := 3) c18 (Int.le_refl _) (by decide)
            refine lv_aload_n hx hb dX12_figures_119 rfl (lv_at hl 0 rfl) ?_
            refine lv_iload_n hx hb dX12_figures_120 rfl (lv_at hl 3 rfl) ?_
            refine mcallV' (g := g) (q0 := 0) (ci := 10) (As := [.int at2_2]) (rest := []) St hK hT hA hP hD hS hl.1 [0] [] rfl rfl rfl (m_wrongF l g o a th hi ac tp (-1) en x_5 de iD iO tU fm fk fa fc ft ff fb fi at2_2 ) (cwV 1 hts (zgL (zl4 k895 k896 k897 k839) k890) rfl rfl rfl (by decide +kernel) ⟨Nat.le_of_ble_eq_true rfl, Nat.le_of_ble_eq_true rfl⟩) rfl rfl rfl rfl (Nat.le_of_ble_eq_true rfl) dX12_figures_121 ⟨(Nat.le_of_ble_eq_true rfl), (Nat.le_of_ble_eq_true rfl)⟩ (fun _u H locs hq20 hP hD hS => ?_)
            have hP : va_P g.1 vwCl (List.flatten [bMo g o a th hi ac tp (-1) en x_5 at2_2 de iD iO tU fm fk fa fc ft ff fb fi]) H := hP
            have hD : va_D A (List.flatten [bMo g o a th hi ac tp (-1) en x_5 at2_2 de iD iO tU fm fk fa fc ft ff fb fi]) := hD
            refine W.widen (k := 0) (n := 0) (Nat.le_of_ble_eq_true rfl) (Nat.le_of_ble_eq_true rfl) ?_
            refine W.eq (g2 := F0 m 124 ls []) rfl ?_
            refine lv_iload hx hb dX12_figures_124 (lv_at hl 4 rfl) ?_
            have hP : va_P g.1 vwCl (List.flatten [bMo g o a th hi ac tp (-1) en x_5 at2_2 de iD iO tU fm fk fa fc ft ff fb fi]) H := hP
            have hD : va_D A (List.flatten [bMo g o a th hi ac tp (-1) en x_5 at2_2 de iD iO tU fm fk fa fc ft ff fb fi]) := hD
            exact mret_i hx hb hr hlocks hS (Nat.le_of_ble_eq_true rfl) (Nat.le_of_ble_eq_true rfl) dX12_figures_126 (x_5, at2_2, x_4) rfl (show (0 ≤ x_5.toInt ∧ x_5.toInt ≤ en.toInt + 7 - de.toInt) ∧ (tA.toInt ≤ x_5.toInt) ∧ (zNu ft en.toInt (zbg ft en.toInt tA.toInt) lw.toInt hg.toInt x_4 ∧ x_5.toInt = znx ft en.toInt (zbg ft en.toInt tA.toInt) ∧ (-1) = at2_2 ∨ at2_2.toInt = zbg ft en.toInt tA.toInt ∧ ¬ ∃ v9, zNu ft en.toInt (zbg ft en.toInt tA.toInt) lw.toInt hg.toInt v9) from ⟨(by first | assumption | omega | exact Or.inl (by decide) | exact Or.inr (by omega)), (by first | assumption | omega | exact Or.inl (by decide) | exact Or.inr (by omega)), (Or.inr ⟨hq3_2, (by rw [← (show at2_2.toInt = zbg ft en.toInt tA.toInt from hq3_2)]; exact (zfig_4 (by omega) i9 (by omega)))⟩)⟩) hP hD
          · skip
            have c21 : x_17.toInt ≤ 3 := zle (Int32.not_lt.mp cb9) rfl (by decide)
            have n22 : x_17.toInt ≤ 3 := Int.le_trans c21 (Int.le_refl _)
            refine lv_iload hx hb dX12_figures_107 (lv_at hl 4 rfl) ?_
            refine lv_iload_n hx hb dX12_figures_109 rfl (lv_at hl 1 rfl) ?_
            refine lv_icmp_lt (tgt := 119) hx hb dX12_figures_110 (by decide) (fun cb9 => ?_) (fun cb9 => ?_)
            · skip
              have c23 : x_4.toInt < lw.toInt := zlti cb9 rfl rfl
              refine lv_aload_n hx hb dX12_figures_119 rfl (lv_at hl 0 rfl) ?_
              refine lv_iload_n hx hb dX12_figures_120 rfl (lv_at hl 3 rfl) ?_
              refine mcallV' (g := g) (q0 := 0) (ci := 10) (As := [.int at2_2]) (rest := []) St hK hT hA hP hD hS hl.1 [0] [] rfl rfl rfl (m_wrongF l g o a th hi ac tp (-1) en x_5 de iD iO tU fm fk fa fc ft ff fb fi at2_2 ) (cwV 1 hts (zgL (zl4 k895 k896 k897 k839) k890) rfl rfl rfl (by decide +kernel) ⟨Nat.le_of_ble_eq_true rfl, Nat.le_of_ble_eq_true rfl⟩) rfl rfl rfl rfl (Nat.le_of_ble_eq_true rfl) dX12_figures_121 ⟨(Nat.le_of_ble_eq_true rfl), (Nat.le_of_ble_eq_true rfl)⟩ (fun _u H locs hq24 hP hD hS => ?_)
              have hP : va_P g.1 vwCl (List.flatten [bMo g o a th hi ac tp (-1) en x_5 at2_2 de iD iO tU fm fk fa fc ft ff fb fi]) H := hP
              have hD : va_D A (List.flatten [bMo g o a th hi ac tp (-1) en x_5 at2_2 de iD iO tU fm fk fa fc ft ff fb fi]) := hD
              refine W.widen (k := 0) (n := 0) (Nat.le_of_ble_eq_true rfl) (Nat.le_of_ble_eq_true rfl) ?_
              refine W.eq (g2 := F0 m 124 ls []) rfl ?_
              refine lv_iload hx hb dX12_figures_124 (lv_at hl 4 rfl) ?_
              have hP : va_P g.1 vwCl (List.flatten [bMo g o a th hi ac tp (-1) en x_5 at2_2 de iD iO tU fm fk fa fc ft ff fb fi]) H := hP
              have hD : va_D A (List.flatten [bMo g o a th hi ac tp (-1) en x_5 at2_2 de iD iO tU fm fk fa fc ft ff fb fi]) := hD
              exact mret_i hx hb hr hlocks hS (Nat.le_of_ble_eq_true rfl) (Nat.le_of_ble_eq_true rfl) dX12_figures_126 (x_5, at2_2, x_4) rfl (show (0 ≤ x_5.toInt ∧ x_5.toInt ≤ en.toInt + 7 - de.toInt) ∧ (tA.toInt ≤ x_5.toInt) ∧ (zNu ft en.toInt (zbg ft en.toInt tA.toInt) lw.toInt hg.toInt x_4 ∧ x_5.toInt = znx ft en.toInt (zbg ft en.toInt tA.toInt) ∧ (-1) = at2_2 ∨ at2_2.toInt = zbg ft en.toInt tA.toInt ∧ ¬ ∃ v9, zNu ft en.toInt (zbg ft en.toInt tA.toInt) lw.toInt hg.toInt v9) from ⟨(by first | assumption | omega | exact Or.inl (by decide) | exact Or.inr (by omega)), (by first | assumption | omega | exact Or.inl (by decide) | exact Or.inr (by omega)), (Or.inr ⟨hq3_2, (by rw [← (show at2_2.toInt = zbg ft en.toInt tA.toInt from hq3_2)]; exact (zfig_v (by omega) (i9.trans (zw_nE (by omega))) (by omega) i10 (by omega)))⟩)⟩) hP hD
            · skip
              have c25 : lw.toInt ≤ x_4.toInt := zle (Int32.not_lt.mp cb9) rfl rfl
              refine lv_iload hx hb dX12_figures_113 (lv_at hl 4 rfl) ?_
              refine lv_iload_n hx hb dX12_figures_115 rfl (lv_at hl 2 rfl) ?_
              refine lv_icmp_le (tgt := 124) hx hb dX12_figures_116 (by decide) (fun cb9 => ?_) (fun cb9 => ?_)
              · skip
                have c26 : x_4.toInt ≤ hg.toInt := zle cb9 rfl rfl
                refine lv_iload hx hb dX12_figures_124 (lv_at hl 4 rfl) ?_
                have hP : va_P g.1 vwCl (List.flatten [bMo g o a th hi ac tp (-1) en x_5 (-1) de iD iO tU fm fk fa fc ft ff fb fi]) H := hP
                have hD : va_D A (List.flatten [bMo g o a th hi ac tp (-1) en x_5 (-1) de iD iO tU fm fk fa fc ft ff fb fi]) := hD
                exact mret_i hx hb hr hlocks hS (Nat.le_of_ble_eq_true rfl) (Nat.le_of_ble_eq_true rfl) dX12_figures_126 (x_5, -1, x_4) rfl (show (0 ≤ x_5.toInt ∧ x_5.toInt ≤ en.toInt + 7 - de.toInt) ∧ (tA.toInt ≤ x_5.toInt) ∧ (zNu ft en.toInt (zbg ft en.toInt tA.toInt) lw.toInt hg.toInt x_4 ∧ x_5.toInt = znx ft en.toInt (zbg ft en.toInt tA.toInt) ∧ (-1) = (-1) ∨ ((-1) : Int32).toInt = zbg ft en.toInt tA.toInt ∧ ¬ ∃ v9, zNu ft en.toInt (zbg ft en.toInt tA.toInt) lw.toInt hg.toInt v9) from ⟨(by first | assumption | omega | exact Or.inl (by decide) | exact Or.inr (by omega)), (by first | assumption | omega | exact Or.inl (by decide) | exact Or.inr (by omega)), (Or.inl ⟨(by rw [← (show at2_2.toInt = zbg ft en.toInt tA.toInt from hq3_2)]; exact (zfig_y (b := at2_2.toInt) (a := x_5.toInt) (by omega) (i9.trans (zw_nE (by omega))) (by omega) (by omega) i10 (by omega) (by omega)).1), (by rw [← (show at2_2.toInt = zbg ft en.toInt tA.toInt from hq3_2)]; exact (zfig_y (b := at2_2.toInt) (a := x_5.toInt) (by omega) (i9.trans (zw_nE (by omega))) (by omega) (by omega) i10 (by omega) (by omega)).2), rfl⟩)⟩) hP hD
              · skip
                have c27 : hg.toInt < x_4.toInt := zlti (Int32.not_le.mp cb9) rfl rfl
                refine lv_aload_n hx hb dX12_figures_119 rfl (lv_at hl 0 rfl) ?_
                refine lv_iload_n hx hb dX12_figures_120 rfl (lv_at hl 3 rfl) ?_
                refine mcallV' (g := g) (q0 := 0) (ci := 10) (As := [.int at2_2]) (rest := []) St hK hT hA hP hD hS hl.1 [0] [] rfl rfl rfl (m_wrongF l g o a th hi ac tp (-1) en x_5 de iD iO tU fm fk fa fc ft ff fb fi at2_2 ) (cwV 1 hts (zgL (zl4 k895 k896 k897 k839) k890) rfl rfl rfl (by decide +kernel) ⟨Nat.le_of_ble_eq_true rfl, Nat.le_of_ble_eq_true rfl⟩) rfl rfl rfl rfl (Nat.le_of_ble_eq_true rfl) dX12_figures_121 ⟨(Nat.le_of_ble_eq_true rfl), (Nat.le_of_ble_eq_true rfl)⟩ (fun _u H locs hq28 hP hD hS => ?_)
                have hP : va_P g.1 vwCl (List.flatten [bMo g o a th hi ac tp (-1) en x_5 at2_2 de iD iO tU fm fk fa fc ft ff fb fi]) H := hP
                have hD : va_D A (List.flatten [bMo g o a th hi ac tp (-1) en x_5 at2_2 de iD iO tU fm fk fa fc ft ff fb fi]) := hD
                refine W.widen (k := 0) (n := 0) (Nat.le_of_ble_eq_true rfl) (Nat.le_of_ble_eq_true rfl) ?_
                refine W.eq (g2 := F0 m 124 ls []) rfl ?_
                refine lv_iload hx hb dX12_figures_124 (lv_at hl 4 rfl) ?_
                have hP : va_P g.1 vwCl (List.flatten [bMo g o a th hi ac tp (-1) en x_5 at2_2 de iD iO tU fm fk fa fc ft ff fb fi]) H := hP
                have hD : va_D A (List.flatten [bMo g o a th hi ac tp (-1) en x_5 at2_2 de iD iO tU fm fk fa fc ft ff fb fi]) := hD
                exact mret_i hx hb hr hlocks hS (Nat.le_of_ble_eq_true rfl) (Nat.le_of_ble_eq_true rfl) dX12_figures_126 (x_5, at2_2, x_4) rfl (show (0 ≤ x_5.toInt ∧ x_5.toInt ≤ en.toInt + 7 - de.toInt) ∧ (tA.toInt ≤ x_5.toInt) ∧ (zNu ft en.toInt (zbg ft en.toInt tA.toInt) lw.toInt hg.toInt x_4 ∧ x_5.toInt = znx ft en.toInt (zbg ft en.toInt tA.toInt) ∧ (-1) = at2_2 ∨ at2_2.toInt = zbg ft en.toInt tA.toInt ∧ ¬ ∃ v9, zNu ft en.toInt (zbg ft en.toInt tA.toInt) lw.toInt hg.toInt v9) from ⟨(by first | assumption | omega | exact Or.inl (by decide) | exact Or.inr (by omega)), (by first | assumption | omega | exact Or.inl (by decide) | exact Or.inr (by omega)), (Or.inr ⟨hq3_2, (by rw [← (show at2_2.toInt = zbg ft en.toInt tA.toInt from hq3_2)]; exact (zfig_v (by omega) (i9.trans (zw_nE (by omega))) (by omega) i10 (by omega)))⟩)⟩) hP hD
      · skip
        have c29 : x_5.toInt < en.toInt := zlti (Int32.not_le.mp cb9) rfl rfl
        have n30 : x_5.toInt ≤ 399 := zL1 (b := 400) c29 hen.2 (by decide)
        have n31 : 1 ≤ en.toInt := zL2 (a := 0) c29 i6.1 (by decide)
        refine lv_aload_n hx hb dX12_figures_29 rfl (lv_at hl 0 rfl) ?_
        refine lv_aload_n hx hb dX12_figures_30 rfl (lv_at hl 0 rfl) ?_
        refine va_get (D := g.1) (ci := 10) (v := .int x_5) (C := RX12) (T := TX12) (N := 20) hx hb hts izRX12 hown hK hP 0 rfl rfl 11 (by decide) (hts _ k878) (fun _ h9 => h9) rfl dX12_figures_31 ?_
        refine mcallV' (g := g) (q0 := 0) (ci := 10) (As := [.int x_5]) (rest := []) St hK hT hA hP hD hS hl.1 [0] [] rfl rfl rfl (m_letterF l g o a th hi ac tp en x_5 (-1) de iD iO tU fm fk fa fc ft ff fb fi x_5 (⟨i6.1, n30⟩)) (cwV 1 hts (zgL (zl4 k880 k881 k882 k839) k875) rfl rfl rfl (by decide +kernel) ⟨Nat.le_of_ble_eq_true rfl, Nat.le_of_ble_eq_true rfl⟩) rfl rfl rfl rfl (Nat.le_of_ble_eq_true rfl) dX12_figures_34 ⟨(Nat.le_of_ble_eq_true rfl), (Nat.le_of_ble_eq_true rfl)⟩ (fun _u H locs hq32 hP hD hS => ?_)
        have hP : va_P g.1 vwCl (List.flatten [bMo g o a th hi ac tp (-1) en x_5 (-1) de iD iO tU fm fk fa fc ft ff fb fi]) H := hP
        have hD : va_D A (List.flatten [bMo g o a th hi ac tp (-1) en x_5 (-1) de iD iO tU fm fk fa fc ft ff fb fi]) := hD
        refine W.widen (k := 0) (n := 0) (Nat.le_of_ble_eq_true rfl) (Nat.le_of_ble_eq_true rfl) ?_
        refine W.eq (g2 := F0 m 37 ls [.int (ft x_5.toNatClampNeg)]) rfl ?_
        refine lv_bipush (v := 48) hx hb dX12_figures_37 (by decide) ?_
        refine lv_bipush (v := 57) hx hb dX12_figures_39 (by decide) ?_
        have hL48 : (48 : Int32).toInt = 48 := by decide
        have hL57 : (57 : Int32).toInt = 57 := by decide
        refine mcallS' (g := g) (As := [.int (ft x_5.toNatClampNeg), .int 48, .int 57]) (rest := []) St hK hT hA hP hD hS hl.1 [] [0] rfl rfl rfl (m_isIn l g (ft x_5.toNatClampNeg) 48 57 ) (va_cwS 3 hts (zgL (zl3 k837 k838 k839) k826) rfl rfl rfl (by decide +kernel) ⟨Nat.le_of_ble_eq_true rfl, Nat.le_of_ble_eq_true rfl⟩) rfl rfl (Nat.le_of_ble_eq_true rfl) dX12_figures_41 ⟨(Nat.le_of_ble_eq_true rfl), (Nat.le_of_ble_eq_true rfl)⟩ (fun q_33 H locs hq34 hP hD hS => ?_)
        replace hq34 : (q_33 = 1 ∧ (48 : Int32).toInt ≤ (ft x_5.toNatClampNeg).toInt ∧ (ft x_5.toNatClampNeg).toInt ≤ (57 : Int32).toInt ∨ q_33 = 0 ∧ ((ft x_5.toNatClampNeg).toInt < (48 : Int32).toInt ∨ (57 : Int32).toInt < (ft x_5.toNatClampNeg).toInt)) := hq34
        have hP : va_P g.1 vwCl (List.flatten [bMo g o a th hi ac tp (-1) en x_5 (-1) de iD iO tU fm fk fa fc ft ff fb fi]) H := hP
        have hD : va_D A (List.flatten [bMo g o a th hi ac tp (-1) en x_5 (-1) de iD iO tU fm fk fa fc ft ff fb fi]) := hD
        refine W.widen (k := 0) (n := 0) (Nat.le_of_ble_eq_true rfl) (Nat.le_of_ble_eq_true rfl) ?_
        refine W.eq (g2 := F0 m 44 ls [.int q_33]) rfl ?_
        rcases hq34 with ⟨rfl, hq34_k⟩ | ⟨rfl, hq34_k⟩
        · skip
          refine lv_if_eq (tgt := 89) hx hb dX12_figures_44 (by decide) (fun c35 => absurd c35 (by decide)) (fun _ => ?_)
          refine lv_aload_n hx hb dX12_figures_47 rfl (lv_at hl 0 rfl) ?_
          refine va_get (D := g.1) (ci := 10) (v := .int x_5) (C := RX12) (T := TX12) (N := 20) hx hb hts izRX12 hown hK hP 0 rfl rfl 11 (by decide) (hts _ k878) (fun _ h9 => h9) rfl dX12_figures_48 ?_
          refine lv_iload_n hx hb dX12_figures_51 rfl (lv_at hl 3 rfl) ?_
          refine lv_isub hx hb dX12_figures_52 ?_
          refine zgv (zsub (i := x_5.toInt) (j := at2_2.toInt) rfl rfl (by omega)) (fun x_36 hx_36 => ?_)
          refine lv_iconst (v := 3) hx hb dX12_figures_53 (by decide) ?_
          refine lv_icmp_gt (tgt := 89) hx hb dX12_figures_54 (by decide) (fun cb9 => ?_) (fun cb9 => ?_)
          · skip
            have c37 : 3 < x_36.toInt := zlti cb9 (by decide) rfl
            have n38 : 4 ≤ x_36.toInt := zL2 (a := 3) c37 (Int.le_refl _) (by decide)
            refine lv_aload_n hx hb dX12_figures_89 rfl (lv_at hl 0 rfl) ?_
            refine va_get (D := g.1) (ci := 10) (v := .int x_5) (C := RX12) (T := TX12) (N := 20) hx hb hts izRX12 hown hK hP 0 rfl rfl 11 (by decide) (hts _ k878) (fun _ h9 => h9) rfl dX12_figures_90 ?_
            refine lv_iload_n hx hb dX12_figures_93 rfl (lv_at hl 3 rfl) ?_
            refine lv_icmp_eq (tgt := 119) hx hb dX12_figures_94 (by decide) (fun cb9 => ?_) (fun cb9 => ?_)
            · skip
              have c39 : x_5.toInt = at2_2.toInt := zeq cb9 rfl rfl
              have n40 : at2_2.toInt ≤ 399 := Int.le_trans (Int.le_of_eq c39.symm) n30
              refine lv_aload_n hx hb dX12_figures_119 rfl (lv_at hl 0 rfl) ?_
              refine lv_iload_n hx hb dX12_figures_120 rfl (lv_at hl 3 rfl) ?_
              refine mcallV' (g := g) (q0 := 0) (ci := 10) (As := [.int at2_2]) (rest := []) St hK hT hA hP hD hS hl.1 [0] [] rfl rfl rfl (m_wrongF l g o a th hi ac tp (-1) en x_5 de iD iO tU fm fk fa fc ft ff fb fi at2_2 ) (cwV 1 hts (zgL (zl4 k895 k896 k897 k839) k890) rfl rfl rfl (by decide +kernel) ⟨Nat.le_of_ble_eq_true rfl, Nat.le_of_ble_eq_true rfl⟩) rfl rfl rfl rfl (Nat.le_of_ble_eq_true rfl) dX12_figures_121 ⟨(Nat.le_of_ble_eq_true rfl), (Nat.le_of_ble_eq_true rfl)⟩ (fun _u H locs hq41 hP hD hS => ?_)
              have hP : va_P g.1 vwCl (List.flatten [bMo g o a th hi ac tp (-1) en x_5 at2_2 de iD iO tU fm fk fa fc ft ff fb fi]) H := hP
              have hD : va_D A (List.flatten [bMo g o a th hi ac tp (-1) en x_5 at2_2 de iD iO tU fm fk fa fc ft ff fb fi]) := hD
              refine W.widen (k := 0) (n := 0) (Nat.le_of_ble_eq_true rfl) (Nat.le_of_ble_eq_true rfl) ?_
              refine W.eq (g2 := F0 m 124 ls []) rfl ?_
              refine lv_iload hx hb dX12_figures_124 (lv_at hl 4 rfl) ?_
              have hP : va_P g.1 vwCl (List.flatten [bMo g o a th hi ac tp (-1) en x_5 at2_2 de iD iO tU fm fk fa fc ft ff fb fi]) H := hP
              have hD : va_D A (List.flatten [bMo g o a th hi ac tp (-1) en x_5 at2_2 de iD iO tU fm fk fa fc ft ff fb fi]) := hD
              exact mret_i hx hb hr hlocks hS (Nat.le_of_ble_eq_true rfl) (Nat.le_of_ble_eq_true rfl) dX12_figures_126 (x_5, at2_2, x_4) rfl (show (0 ≤ x_5.toInt ∧ x_5.toInt ≤ en.toInt + 7 - de.toInt) ∧ (tA.toInt ≤ x_5.toInt) ∧ (zNu ft en.toInt (zbg ft en.toInt tA.toInt) lw.toInt hg.toInt x_4 ∧ x_5.toInt = znx ft en.toInt (zbg ft en.toInt tA.toInt) ∧ (-1) = at2_2 ∨ at2_2.toInt = zbg ft en.toInt tA.toInt ∧ ¬ ∃ v9, zNu ft en.toInt (zbg ft en.toInt tA.toInt) lw.toInt hg.toInt v9) from ⟨(by first | assumption | omega | exact Or.inl (by decide) | exact Or.inr (by omega)), (by first | assumption | omega | exact Or.inl (by decide) | exact Or.inr (by omega)), (Or.inr ⟨hq3_2, (by rw [← (show at2_2.toInt = zbg ft en.toInt tA.toInt from hq3_2)]; exact (zfig_0 (by omega) ((i9.trans (zw_nC (zcD_f (by omega)))).trans (by omega))))⟩)⟩) hP hD
            · skip
              have c42 : ¬ x_5.toInt = at2_2.toInt := zne cb9 rfl rfl
              refine lv_aload_n hx hb dX12_figures_97 rfl (lv_at hl 0 rfl) ?_
              refine va_get (D := g.1) (ci := 10) (v := .int x_5) (C := RX12) (T := TX12) (N := 20) hx hb hts izRX12 hown hK hP 0 rfl rfl 11 (by decide) (hts _ k878) (fun _ h9 => h9) rfl dX12_figures_98 ?_
              refine lv_iload_n hx hb dX12_figures_101 rfl (lv_at hl 3 rfl) ?_
              refine lv_isub hx hb dX12_figures_102 ?_
              refine zgv (zsub (i := x_5.toInt) (j := at2_2.toInt) rfl rfl (by omega)) (fun x_43 hx_43 => ?_)
              refine lv_iconst (v := 3) hx hb dX12_figures_103 (by decide) ?_
              refine lv_icmp_gt (tgt := 119) hx hb dX12_figures_104 (by decide) (fun cb9 => ?_) (fun cb9 => ?_)
              · skip
                have c44 : 3 < x_43.toInt := zlti cb9 (by decide) rfl
                have n45 : 4 ≤ x_43.toInt := zL2 (a := 3) c44 (Int.le_refl _) (by decide)
                refine lv_aload_n hx hb dX12_figures_119 rfl (lv_at hl 0 rfl) ?_
                refine lv_iload_n hx hb dX12_figures_120 rfl (lv_at hl 3 rfl) ?_
                refine mcallV' (g := g) (q0 := 0) (ci := 10) (As := [.int at2_2]) (rest := []) St hK hT hA hP hD hS hl.1 [0] [] rfl rfl rfl (m_wrongF l g o a th hi ac tp (-1) en x_5 de iD iO tU fm fk fa fc ft ff fb fi at2_2 ) (cwV 1 hts (zgL (zl4 k895 k896 k897 k839) k890) rfl rfl rfl (by decide +kernel) ⟨Nat.le_of_ble_eq_true rfl, Nat.le_of_ble_eq_true rfl⟩) rfl rfl rfl rfl (Nat.le_of_ble_eq_true rfl) dX12_figures_121 ⟨(Nat.le_of_ble_eq_true rfl), (Nat.le_of_ble_eq_true rfl)⟩ (fun _u H locs hq46 hP hD hS => ?_)
                have hP : va_P g.1 vwCl (List.flatten [bMo g o a th hi ac tp (-1) en x_5 at2_2 de iD iO tU fm fk fa fc ft ff fb fi]) H := hP
                have hD : va_D A (List.flatten [bMo g o a th hi ac tp (-1) en x_5 at2_2 de iD iO tU fm fk fa fc ft ff fb fi]) := hD
                refine W.widen (k := 0) (n := 0) (Nat.le_of_ble_eq_true rfl) (Nat.le_of_ble_eq_true rfl) ?_
                refine W.eq (g2 := F0 m 124 ls []) rfl ?_
                refine lv_iload hx hb dX12_figures_124 (lv_at hl 4 rfl) ?_
                have hP : va_P g.1 vwCl (List.flatten [bMo g o a th hi ac tp (-1) en x_5 at2_2 de iD iO tU fm fk fa fc ft ff fb fi]) H := hP
                have hD : va_D A (List.flatten [bMo g o a th hi ac tp (-1) en x_5 at2_2 de iD iO tU fm fk fa fc ft ff fb fi]) := hD
                exact mret_i hx hb hr hlocks hS (Nat.le_of_ble_eq_true rfl) (Nat.le_of_ble_eq_true rfl) dX12_figures_126 (x_5, at2_2, x_4) rfl (show (0 ≤ x_5.toInt ∧ x_5.toInt ≤ en.toInt + 7 - de.toInt) ∧ (tA.toInt ≤ x_5.toInt) ∧ (zNu ft en.toInt (zbg ft en.toInt tA.toInt) lw.toInt hg.toInt x_4 ∧ x_5.toInt = znx ft en.toInt (zbg ft en.toInt tA.toInt) ∧ (-1) = at2_2 ∨ at2_2.toInt = zbg ft en.toInt tA.toInt ∧ ¬ ∃ v9, zNu ft en.toInt (zbg ft en.toInt tA.toInt) lw.toInt hg.toInt v9) from ⟨(by first | assumption | omega | exact Or.inl (by decide) | exact Or.inr (by omega)), (by first | assumption | omega | exact Or.inl (by decide) | exact Or.inr (by omega)), (Or.inr ⟨hq3_2, (by rw [← (show at2_2.toInt = zbg ft en.toInt tA.toInt from hq3_2)]; exact (zfig_4 (by omega) i9 (by omega)))⟩)⟩) hP hD
              · skip
                have c47 : x_43.toInt ≤ 3 := zle (Int32.not_lt.mp cb9) rfl (by decide)
                have n48 : x_43.toInt ≤ 3 := Int.le_trans c47 (Int.le_refl _)
                refine lv_iload hx hb dX12_figures_107 (lv_at hl 4 rfl) ?_
                refine lv_iload_n hx hb dX12_figures_109 rfl (lv_at hl 1 rfl) ?_
                refine lv_icmp_lt (tgt := 119) hx hb dX12_figures_110 (by decide) (fun cb9 => ?_) (fun cb9 => ?_)
                · skip
                  have c49 : x_4.toInt < lw.toInt := zlti cb9 rfl rfl
                  refine lv_aload_n hx hb dX12_figures_119 rfl (lv_at hl 0 rfl) ?_
                  refine lv_iload_n hx hb dX12_figures_120 rfl (lv_at hl 3 rfl) ?_
                  refine mcallV' (g := g) (q0 := 0) (ci := 10) (As := [.int at2_2]) (rest := []) St hK hT hA hP hD hS hl.1 [0] [] rfl rfl rfl (m_wrongF l g o a th hi ac tp (-1) en x_5 de iD iO tU fm fk fa fc ft ff fb fi at2_2 ) (cwV 1 hts (zgL (zl4 k895 k896 k897 k839) k890) rfl rfl rfl (by decide +kernel) ⟨Nat.le_of_ble_eq_true rfl, Nat.le_of_ble_eq_true rfl⟩) rfl rfl rfl rfl (Nat.le_of_ble_eq_true rfl) dX12_figures_121 ⟨(Nat.le_of_ble_eq_true rfl), (Nat.le_of_ble_eq_true rfl)⟩ (fun _u H locs hq50 hP hD hS => ?_)
                  have hP : va_P g.1 vwCl (List.flatten [bMo g o a th hi ac tp (-1) en x_5 at2_2 de iD iO tU fm fk fa fc ft ff fb fi]) H := hP
                  have hD : va_D A (List.flatten [bMo g o a th hi ac tp (-1) en x_5 at2_2 de iD iO tU fm fk fa fc ft ff fb fi]) := hD
                  refine W.widen (k := 0) (n := 0) (Nat.le_of_ble_eq_true rfl) (Nat.le_of_ble_eq_true rfl) ?_
                  refine W.eq (g2 := F0 m 124 ls []) rfl ?_
                  refine lv_iload hx hb dX12_figures_124 (lv_at hl 4 rfl) ?_
                  have hP : va_P g.1 vwCl (List.flatten [bMo g o a th hi ac tp (-1) en x_5 at2_2 de iD iO tU fm fk fa fc ft ff fb fi]) H := hP
                  have hD : va_D A (List.flatten [bMo g o a th hi ac tp (-1) en x_5 at2_2 de iD iO tU fm fk fa fc ft ff fb fi]) := hD
                  exact mret_i hx hb hr hlocks hS (Nat.le_of_ble_eq_true rfl) (Nat.le_of_ble_eq_true rfl) dX12_figures_126 (x_5, at2_2, x_4) rfl (show (0 ≤ x_5.toInt ∧ x_5.toInt ≤ en.toInt + 7 - de.toInt) ∧ (tA.toInt ≤ x_5.toInt) ∧ (zNu ft en.toInt (zbg ft en.toInt tA.toInt) lw.toInt hg.toInt x_4 ∧ x_5.toInt = znx ft en.toInt (zbg ft en.toInt tA.toInt) ∧ (-1) = at2_2 ∨ at2_2.toInt = zbg ft en.toInt tA.toInt ∧ ¬ ∃ v9, zNu ft en.toInt (zbg ft en.toInt tA.toInt) lw.toInt hg.toInt v9) from ⟨(by first | assumption | omega | exact Or.inl (by decide) | exact Or.inr (by omega)), (by first | assumption | omega | exact Or.inl (by decide) | exact Or.inr (by omega)), (Or.inr ⟨hq3_2, (by rw [← (show at2_2.toInt = zbg ft en.toInt tA.toInt from hq3_2)]; exact (zfig_v (by omega) (i9.trans (zw_nC (zcD_f (by omega)))) (by omega) i10 (by omega)))⟩)⟩) hP hD
                · skip
                  have c51 : lw.toInt ≤ x_4.toInt := zle (Int32.not_lt.mp cb9) rfl rfl
                  refine lv_iload hx hb dX12_figures_113 (lv_at hl 4 rfl) ?_
                  refine lv_iload_n hx hb dX12_figures_115 rfl (lv_at hl 2 rfl) ?_
                  refine lv_icmp_le (tgt := 124) hx hb dX12_figures_116 (by decide) (fun cb9 => ?_) (fun cb9 => ?_)
                  · skip
                    have c52 : x_4.toInt ≤ hg.toInt := zle cb9 rfl rfl
                    refine lv_iload hx hb dX12_figures_124 (lv_at hl 4 rfl) ?_
                    have hP : va_P g.1 vwCl (List.flatten [bMo g o a th hi ac tp (-1) en x_5 (-1) de iD iO tU fm fk fa fc ft ff fb fi]) H := hP
                    have hD : va_D A (List.flatten [bMo g o a th hi ac tp (-1) en x_5 (-1) de iD iO tU fm fk fa fc ft ff fb fi]) := hD
                    exact mret_i hx hb hr hlocks hS (Nat.le_of_ble_eq_true rfl) (Nat.le_of_ble_eq_true rfl) dX12_figures_126 (x_5, -1, x_4) rfl (show (0 ≤ x_5.toInt ∧ x_5.toInt ≤ en.toInt + 7 - de.toInt) ∧ (tA.toInt ≤ x_5.toInt) ∧ (zNu ft en.toInt (zbg ft en.toInt tA.toInt) lw.toInt hg.toInt x_4 ∧ x_5.toInt = znx ft en.toInt (zbg ft en.toInt tA.toInt) ∧ (-1) = (-1) ∨ ((-1) : Int32).toInt = zbg ft en.toInt tA.toInt ∧ ¬ ∃ v9, zNu ft en.toInt (zbg ft en.toInt tA.toInt) lw.toInt hg.toInt v9) from ⟨(by first | assumption | omega | exact Or.inl (by decide) | exact Or.inr (by omega)), (by first | assumption | omega | exact Or.inl (by decide) | exact Or.inr (by omega)), (Or.inl ⟨(by rw [← (show at2_2.toInt = zbg ft en.toInt tA.toInt from hq3_2)]; exact (zfig_y (b := at2_2.toInt) (a := x_5.toInt) (by omega) (i9.trans (zw_nC (zcD_f (by omega)))) (by omega) (by omega) i10 (by omega) (by omega)).1), (by rw [← (show at2_2.toInt = zbg ft en.toInt tA.toInt from hq3_2)]; exact (zfig_y (b := at2_2.toInt) (a := x_5.toInt) (by omega) (i9.trans (zw_nC (zcD_f (by omega)))) (by omega) (by omega) i10 (by omega) (by omega)).2), rfl⟩)⟩) hP hD
                  · skip
                    have c53 : hg.toInt < x_4.toInt := zlti (Int32.not_le.mp cb9) rfl rfl
                    refine lv_aload_n hx hb dX12_figures_119 rfl (lv_at hl 0 rfl) ?_
                    refine lv_iload_n hx hb dX12_figures_120 rfl (lv_at hl 3 rfl) ?_
                    refine mcallV' (g := g) (q0 := 0) (ci := 10) (As := [.int at2_2]) (rest := []) St hK hT hA hP hD hS hl.1 [0] [] rfl rfl rfl (m_wrongF l g o a th hi ac tp (-1) en x_5 de iD iO tU fm fk fa fc ft ff fb fi at2_2 ) (cwV 1 hts (zgL (zl4 k895 k896 k897 k839) k890) rfl rfl rfl (by decide +kernel) ⟨Nat.le_of_ble_eq_true rfl, Nat.le_of_ble_eq_true rfl⟩) rfl rfl rfl rfl (Nat.le_of_ble_eq_true rfl) dX12_figures_121 ⟨(Nat.le_of_ble_eq_true rfl), (Nat.le_of_ble_eq_true rfl)⟩ (fun _u H locs hq54 hP hD hS => ?_)
                    have hP : va_P g.1 vwCl (List.flatten [bMo g o a th hi ac tp (-1) en x_5 at2_2 de iD iO tU fm fk fa fc ft ff fb fi]) H := hP
                    have hD : va_D A (List.flatten [bMo g o a th hi ac tp (-1) en x_5 at2_2 de iD iO tU fm fk fa fc ft ff fb fi]) := hD
                    refine W.widen (k := 0) (n := 0) (Nat.le_of_ble_eq_true rfl) (Nat.le_of_ble_eq_true rfl) ?_
                    refine W.eq (g2 := F0 m 124 ls []) rfl ?_
                    refine lv_iload hx hb dX12_figures_124 (lv_at hl 4 rfl) ?_
                    have hP : va_P g.1 vwCl (List.flatten [bMo g o a th hi ac tp (-1) en x_5 at2_2 de iD iO tU fm fk fa fc ft ff fb fi]) H := hP
                    have hD : va_D A (List.flatten [bMo g o a th hi ac tp (-1) en x_5 at2_2 de iD iO tU fm fk fa fc ft ff fb fi]) := hD
                    exact mret_i hx hb hr hlocks hS (Nat.le_of_ble_eq_true rfl) (Nat.le_of_ble_eq_true rfl) dX12_figures_126 (x_5, at2_2, x_4) rfl (show (0 ≤ x_5.toInt ∧ x_5.toInt ≤ en.toInt + 7 - de.toInt) ∧ (tA.toInt ≤ x_5.toInt) ∧ (zNu ft en.toInt (zbg ft en.toInt tA.toInt) lw.toInt hg.toInt x_4 ∧ x_5.toInt = znx ft en.toInt (zbg ft en.toInt tA.toInt) ∧ (-1) = at2_2 ∨ at2_2.toInt = zbg ft en.toInt tA.toInt ∧ ¬ ∃ v9, zNu ft en.toInt (zbg ft en.toInt tA.toInt) lw.toInt hg.toInt v9) from ⟨(by first | assumption | omega | exact Or.inl (by decide) | exact Or.inr (by omega)), (by first | assumption | omega | exact Or.inl (by decide) | exact Or.inr (by omega)), (Or.inr ⟨hq3_2, (by rw [← (show at2_2.toInt = zbg ft en.toInt tA.toInt from hq3_2)]; exact (zfig_v (by omega) (i9.trans (zw_nC (zcD_f (by omega)))) (by omega) i10 (by omega)))⟩)⟩) hP hD
          · skip
            have c55 : x_36.toInt ≤ 3 := zle (Int32.not_lt.mp cb9) rfl (by decide)
            have n56 : x_36.toInt ≤ 3 := Int.le_trans c55 (Int.le_refl _)
            refine lv_bipush (v := 10) hx hb dX12_figures_57 (by decide) ?_
            refine lv_iload hx hb dX12_figures_59 (lv_at hl 4 rfl) ?_
            refine lv_imul hx hb dX12_figures_61 ?_
            refine lv_aload_n hx hb dX12_figures_62 rfl (lv_at hl 0 rfl) ?_
            refine lv_aload_n hx hb dX12_figures_63 rfl (lv_at hl 0 rfl) ?_
            refine va_get (D := g.1) (ci := 10) (v := .int x_5) (C := RX12) (T := TX12) (N := 20) hx hb hts izRX12 hown hK hP 0 rfl rfl 11 (by decide) (hts _ k878) (fun _ h9 => h9) rfl dX12_figures_64 ?_
            refine mcallV' (g := g) (q0 := 0) (ci := 10) (As := [.int x_5]) (rest := [.int (10 * x_4)]) St hK hT hA hP hD hS hl.1 [0] [] rfl rfl rfl (m_letterF l g o a th hi ac tp en x_5 (-1) de iD iO tU fm fk fa fc ft ff fb fi x_5 (⟨i6.1, n30⟩)) (cwV 1 hts (zgL (zl4 k880 k881 k882 k839) k875) rfl rfl rfl (by decide +kernel) ⟨Nat.le_of_ble_eq_true rfl, Nat.le_of_ble_eq_true rfl⟩) rfl rfl rfl rfl (Nat.le_of_ble_eq_true rfl) dX12_figures_67 ⟨(Nat.le_of_ble_eq_true rfl), (Nat.le_of_ble_eq_true rfl)⟩ (fun _u H locs hq57 hP hD hS => ?_)
            have hP : va_P g.1 vwCl (List.flatten [bMo g o a th hi ac tp (-1) en x_5 (-1) de iD iO tU fm fk fa fc ft ff fb fi]) H := hP
            have hD : va_D A (List.flatten [bMo g o a th hi ac tp (-1) en x_5 (-1) de iD iO tU fm fk fa fc ft ff fb fi]) := hD
            refine W.widen (k := 0) (n := 0) (Nat.le_of_ble_eq_true rfl) (Nat.le_of_ble_eq_true rfl) ?_
            refine W.eq (g2 := F0 m 70 ls [.int (ft x_5.toNatClampNeg), .int (10 * x_4)]) rfl ?_
            refine lv_iadd hx hb dX12_figures_70 ?_
            refine lv_bipush (v := 48) hx hb dX12_figures_71 (by decide) ?_
            refine lv_isub hx hb dX12_figures_73 ?_
            refine lv_istore (lv' := [(4, .int (((10 * x_4) + (ft x_5.toNatClampNeg)) - 48)), (0, .ref o), (1, .int lw), (2, .int hg), (3, .int at2_2)]) hx hb dX12_figures_74 hl (by decide) rfl (fun ls hl => ?_)
            refine lv_aload_n hx hb dX12_figures_76 rfl (lv_at hl 1 rfl) ?_
            refine lv_dup hx hb dX12_figures_77 rfl ?_
            refine va_get (D := g.1) (ci := 10) (v := .int x_5) (C := RX12) (T := TX12) (N := 20) hx hb hts izRX12 hown hK hP 0 rfl rfl 11 (by decide) (hts _ k878) (fun _ h9 => h9) rfl dX12_figures_78 ?_
            refine lv_iconst (v := 1) hx hb dX12_figures_81 (by decide) ?_
            refine lv_iadd hx hb dX12_figures_82 ?_
            refine zg3 (zaddK (i := x_5.toInt) (j := 1) (a' := 1) (b' := 400) rfl (by decide) i6.1 n30 (Int.le_refl _) (Int.le_refl _) (by decide)) (fun x_58 hx_58 => ?_)
            refine va_put (D := g.1) (ci := 10) (v := .int x_58) (ty := .int) (C := RX12) (T := TX12) (N := 20) hx hb hts izRX12 tyX12 tyX12_ok nmX12 hown hK hP hD hS 0 rfl rfl 11 (by decide) (hts _ k878) (fun _ h9 => h9) rfl (by decide +kernel) rfl rfl (Nat.le_of_ble_eq_true rfl) dX12_figures_83 (fun H locs hP hD hS => ?_)
            have hP : va_P g.1 vwCl (List.flatten [bMo g o a th hi ac tp (-1) en x_58 (-1) de iD iO tU fm fk fa fc ft ff fb fi]) H := hP
            have hD : va_D A (List.flatten [bMo g o a th hi ac tp (-1) en x_58 (-1) de iD iO tU fm fk fa fc ft ff fb fi]) := hD
            refine lv_goto (tgt := 18) hx hb dX12_figures_86 (by decide) ?_
            have hl := lv_sub (l' := [(0, .ref o), (1, .int lw), (2, .int hg), (3, .int at2_2), (4, .int (((10 * x_4) + (ft x_5.toNatClampNeg)) - 48))]) hl [1, 2, 3, 4, 0] rfl
            have hP : va_P g.1 vwCl (List.flatten [bMo g o a th hi ac tp (-1) en x_58 (-1) de iD iO tU fm fk fa fc ft ff fb fi]) H := hP
            have hD : va_D A (List.flatten [bMo g o a th hi ac tp (-1) en x_58 (-1) de iD iO tU fm fk fa fc ft ff fb fi]) := hD
            exact ih18_12 (((10 * x_4) + (ft x_5.toNatClampNeg)) - 48) x_58 ⟨(Int.le_trans (by decide) hx_58.2.1), (Int.le_trans hx_58.2.2 (by decide))⟩ (by first | omega | assumption | decide) (by first | omega | assumption | decide) (i9.trans (zw_sI (by omega) (by omega) (zcD_t (by omega) (by omega)) (by omega))) (zvl_m i10 (by omega) (by omega) (by omega)) H _ ls (by omega)  hP hD hS (lv_sub hl [0, 1, 2, 3, 4] rfl)
        · skip
          refine lv_if_eq (tgt := 89) hx hb dX12_figures_44 (by decide) (fun _ => ?_) (fun c59 => absurd (by decide) c59)
          refine lv_aload_n hx hb dX12_figures_89 rfl (lv_at hl 0 rfl) ?_
          refine va_get (D := g.1) (ci := 10) (v := .int x_5) (C := RX12) (T := TX12) (N := 20) hx hb hts izRX12 hown hK hP 0 rfl rfl 11 (by decide) (hts _ k878) (fun _ h9 => h9) rfl dX12_figures_90 ?_
          refine lv_iload_n hx hb dX12_figures_93 rfl (lv_at hl 3 rfl) ?_
          refine lv_icmp_eq (tgt := 119) hx hb dX12_figures_94 (by decide) (fun cb9 => ?_) (fun cb9 => ?_)
          · skip
            have c60 : x_5.toInt = at2_2.toInt := zeq cb9 rfl rfl
            have n61 : at2_2.toInt ≤ 399 := Int.le_trans (Int.le_of_eq c60.symm) n30
            refine lv_aload_n hx hb dX12_figures_119 rfl (lv_at hl 0 rfl) ?_
            refine lv_iload_n hx hb dX12_figures_120 rfl (lv_at hl 3 rfl) ?_
            refine mcallV' (g := g) (q0 := 0) (ci := 10) (As := [.int at2_2]) (rest := []) St hK hT hA hP hD hS hl.1 [0] [] rfl rfl rfl (m_wrongF l g o a th hi ac tp (-1) en x_5 de iD iO tU fm fk fa fc ft ff fb fi at2_2 ) (cwV 1 hts (zgL (zl4 k895 k896 k897 k839) k890) rfl rfl rfl (by decide +kernel) ⟨Nat.le_of_ble_eq_true rfl, Nat.le_of_ble_eq_true rfl⟩) rfl rfl rfl rfl (Nat.le_of_ble_eq_true rfl) dX12_figures_121 ⟨(Nat.le_of_ble_eq_true rfl), (Nat.le_of_ble_eq_true rfl)⟩ (fun _u H locs hq62 hP hD hS => ?_)
            have hP : va_P g.1 vwCl (List.flatten [bMo g o a th hi ac tp (-1) en x_5 at2_2 de iD iO tU fm fk fa fc ft ff fb fi]) H := hP
            have hD : va_D A (List.flatten [bMo g o a th hi ac tp (-1) en x_5 at2_2 de iD iO tU fm fk fa fc ft ff fb fi]) := hD
            refine W.widen (k := 0) (n := 0) (Nat.le_of_ble_eq_true rfl) (Nat.le_of_ble_eq_true rfl) ?_
            refine W.eq (g2 := F0 m 124 ls []) rfl ?_
            refine lv_iload hx hb dX12_figures_124 (lv_at hl 4 rfl) ?_
            have hP : va_P g.1 vwCl (List.flatten [bMo g o a th hi ac tp (-1) en x_5 at2_2 de iD iO tU fm fk fa fc ft ff fb fi]) H := hP
            have hD : va_D A (List.flatten [bMo g o a th hi ac tp (-1) en x_5 at2_2 de iD iO tU fm fk fa fc ft ff fb fi]) := hD
            exact mret_i hx hb hr hlocks hS (Nat.le_of_ble_eq_true rfl) (Nat.le_of_ble_eq_true rfl) dX12_figures_126 (x_5, at2_2, x_4) rfl (show (0 ≤ x_5.toInt ∧ x_5.toInt ≤ en.toInt + 7 - de.toInt) ∧ (tA.toInt ≤ x_5.toInt) ∧ (zNu ft en.toInt (zbg ft en.toInt tA.toInt) lw.toInt hg.toInt x_4 ∧ x_5.toInt = znx ft en.toInt (zbg ft en.toInt tA.toInt) ∧ (-1) = at2_2 ∨ at2_2.toInt = zbg ft en.toInt tA.toInt ∧ ¬ ∃ v9, zNu ft en.toInt (zbg ft en.toInt tA.toInt) lw.toInt hg.toInt v9) from ⟨(by first | assumption | omega | exact Or.inl (by decide) | exact Or.inr (by omega)), (by first | assumption | omega | exact Or.inl (by decide) | exact Or.inr (by omega)), (Or.inr ⟨hq3_2, (by rw [← (show at2_2.toInt = zbg ft en.toInt tA.toInt from hq3_2)]; exact (zfig_0 (by omega) ((i9.trans (zw_nC (zcD_f (by omega)))).trans (by omega))))⟩)⟩) hP hD
          · skip
            have c63 : ¬ x_5.toInt = at2_2.toInt := zne cb9 rfl rfl
            refine lv_aload_n hx hb dX12_figures_97 rfl (lv_at hl 0 rfl) ?_
            refine va_get (D := g.1) (ci := 10) (v := .int x_5) (C := RX12) (T := TX12) (N := 20) hx hb hts izRX12 hown hK hP 0 rfl rfl 11 (by decide) (hts _ k878) (fun _ h9 => h9) rfl dX12_figures_98 ?_
            refine lv_iload_n hx hb dX12_figures_101 rfl (lv_at hl 3 rfl) ?_
            refine lv_isub hx hb dX12_figures_102 ?_
            refine zgv (zsub (i := x_5.toInt) (j := at2_2.toInt) rfl rfl (by omega)) (fun x_64 hx_64 => ?_)
            refine lv_iconst (v := 3) hx hb dX12_figures_103 (by decide) ?_
            refine lv_icmp_gt (tgt := 119) hx hb dX12_figures_104 (by decide) (fun cb9 => ?_) (fun cb9 => ?_)
            · skip
              have c65 : 3 < x_64.toInt := zlti cb9 (by decide) rfl
              have n66 : 4 ≤ x_64.toInt := zL2 (a := 3) c65 (Int.le_refl _) (by decide)
              refine lv_aload_n hx hb dX12_figures_119 rfl (lv_at hl 0 rfl) ?_
              refine lv_iload_n hx hb dX12_figures_120 rfl (lv_at hl 3 rfl) ?_
              refine mcallV' (g := g) (q0 := 0) (ci := 10) (As := [.int at2_2]) (rest := []) St hK hT hA hP hD hS hl.1 [0] [] rfl rfl rfl (m_wrongF l g o a th hi ac tp (-1) en x_5 de iD iO tU fm fk fa fc ft ff fb fi at2_2 ) (cwV 1 hts (zgL (zl4 k895 k896 k897 k839) k890) rfl rfl rfl (by decide +kernel) ⟨Nat.le_of_ble_eq_true rfl, Nat.le_of_ble_eq_true rfl⟩) rfl rfl rfl rfl (Nat.le_of_ble_eq_true rfl) dX12_figures_121 ⟨(Nat.le_of_ble_eq_true rfl), (Nat.le_of_ble_eq_true rfl)⟩ (fun _u H locs hq67 hP hD hS => ?_)
              have hP : va_P g.1 vwCl (List.flatten [bMo g o a th hi ac tp (-1) en x_5 at2_2 de iD iO tU fm fk fa fc ft ff fb fi]) H := hP
              have hD : va_D A (List.flatten [bMo g o a th hi ac tp (-1) en x_5 at2_2 de iD iO tU fm fk fa fc ft ff fb fi]) := hD
              refine W.widen (k := 0) (n := 0) (Nat.le_of_ble_eq_true rfl) (Nat.le_of_ble_eq_true rfl) ?_
              refine W.eq (g2 := F0 m 124 ls []) rfl ?_
              refine lv_iload hx hb dX12_figures_124 (lv_at hl 4 rfl) ?_
              have hP : va_P g.1 vwCl (List.flatten [bMo g o a th hi ac tp (-1) en x_5 at2_2 de iD iO tU fm fk fa fc ft ff fb fi]) H := hP
              have hD : va_D A (List.flatten [bMo g o a th hi ac tp (-1) en x_5 at2_2 de iD iO tU fm fk fa fc ft ff fb fi]) := hD
              exact mret_i hx hb hr hlocks hS (Nat.le_of_ble_eq_true rfl) (Nat.le_of_ble_eq_true rfl) dX12_figures_126 (x_5, at2_2, x_4) rfl (show (0 ≤ x_5.toInt ∧ x_5.toInt ≤ en.toInt + 7 - de.toInt) ∧ (tA.toInt ≤ x_5.toInt) ∧ (zNu ft en.toInt (zbg ft en.toInt tA.toInt) lw.toInt hg.toInt x_4 ∧ x_5.toInt = znx ft en.toInt (zbg ft en.toInt tA.toInt) ∧ (-1) = at2_2 ∨ at2_2.toInt = zbg ft en.toInt tA.toInt ∧ ¬ ∃ v9, zNu ft en.toInt (zbg ft en.toInt tA.toInt) lw.toInt hg.toInt v9) from ⟨(by first | assumption | omega | exact Or.inl (by decide) | exact Or.inr (by omega)), (by first | assumption | omega | exact Or.inl (by decide) | exact Or.inr (by omega)), (Or.inr ⟨hq3_2, (by rw [← (show at2_2.toInt = zbg ft en.toInt tA.toInt from hq3_2)]; exact (zfig_4 (by omega) i9 (by omega)))⟩)⟩) hP hD
            · skip
              have c68 : x_64.toInt ≤ 3 := zle (Int32.not_lt.mp cb9) rfl (by decide)
              have n69 : x_64.toInt ≤ 3 := Int.le_trans c68 (Int.le_refl _)
              refine lv_iload hx hb dX12_figures_107 (lv_at hl 4 rfl) ?_
              refine lv_iload_n hx hb dX12_figures_109 rfl (lv_at hl 1 rfl) ?_
              refine lv_icmp_lt (tgt := 119) hx hb dX12_figures_110 (by decide) (fun cb9 => ?_) (fun cb9 => ?_)
              · skip
                have c70 : x_4.toInt < lw.toInt := zlti cb9 rfl rfl
                refine lv_aload_n hx hb dX12_figures_119 rfl (lv_at hl 0 rfl) ?_
                refine lv_iload_n hx hb dX12_figures_120 rfl (lv_at hl 3 rfl) ?_
                refine mcallV' (g := g) (q0 := 0) (ci := 10) (As := [.int at2_2]) (rest := []) St hK hT hA hP hD hS hl.1 [0] [] rfl rfl rfl (m_wrongF l g o a th hi ac tp (-1) en x_5 de iD iO tU fm fk fa fc ft ff fb fi at2_2 ) (cwV 1 hts (zgL (zl4 k895 k896 k897 k839) k890) rfl rfl rfl (by decide +kernel) ⟨Nat.le_of_ble_eq_true rfl, Nat.le_of_ble_eq_true rfl⟩) rfl rfl rfl rfl (Nat.le_of_ble_eq_true rfl) dX12_figures_121 ⟨(Nat.le_of_ble_eq_true rfl), (Nat.le_of_ble_eq_true rfl)⟩ (fun _u H locs hq71 hP hD hS => ?_)
                have hP : va_P g.1 vwCl (List.flatten [bMo g o a th hi ac tp (-1) en x_5 at2_2 de iD iO tU fm fk fa fc ft ff fb fi]) H := hP
                have hD : va_D A (List.flatten [bMo g o a th hi ac tp (-1) en x_5 at2_2 de iD iO tU fm fk fa fc ft ff fb fi]) := hD
                refine W.widen (k := 0) (n := 0) (Nat.le_of_ble_eq_true rfl) (Nat.le_of_ble_eq_true rfl) ?_
                refine W.eq (g2 := F0 m 124 ls []) rfl ?_
                refine lv_iload hx hb dX12_figures_124 (lv_at hl 4 rfl) ?_
                have hP : va_P g.1 vwCl (List.flatten [bMo g o a th hi ac tp (-1) en x_5 at2_2 de iD iO tU fm fk fa fc ft ff fb fi]) H := hP
                have hD : va_D A (List.flatten [bMo g o a th hi ac tp (-1) en x_5 at2_2 de iD iO tU fm fk fa fc ft ff fb fi]) := hD
                exact mret_i hx hb hr hlocks hS (Nat.le_of_ble_eq_true rfl) (Nat.le_of_ble_eq_true rfl) dX12_figures_126 (x_5, at2_2, x_4) rfl (show (0 ≤ x_5.toInt ∧ x_5.toInt ≤ en.toInt + 7 - de.toInt) ∧ (tA.toInt ≤ x_5.toInt) ∧ (zNu ft en.toInt (zbg ft en.toInt tA.toInt) lw.toInt hg.toInt x_4 ∧ x_5.toInt = znx ft en.toInt (zbg ft en.toInt tA.toInt) ∧ (-1) = at2_2 ∨ at2_2.toInt = zbg ft en.toInt tA.toInt ∧ ¬ ∃ v9, zNu ft en.toInt (zbg ft en.toInt tA.toInt) lw.toInt hg.toInt v9) from ⟨(by first | assumption | omega | exact Or.inl (by decide) | exact Or.inr (by omega)), (by first | assumption | omega | exact Or.inl (by decide) | exact Or.inr (by omega)), (Or.inr ⟨hq3_2, (by rw [← (show at2_2.toInt = zbg ft en.toInt tA.toInt from hq3_2)]; exact (zfig_v (by omega) (i9.trans (zw_nC (zcD_f (by omega)))) (by omega) i10 (by omega)))⟩)⟩) hP hD
              · skip
                have c72 : lw.toInt ≤ x_4.toInt := zle (Int32.not_lt.mp cb9) rfl rfl
                refine lv_iload hx hb dX12_figures_113 (lv_at hl 4 rfl) ?_
                refine lv_iload_n hx hb dX12_figures_115 rfl (lv_at hl 2 rfl) ?_
                refine lv_icmp_le (tgt := 124) hx hb dX12_figures_116 (by decide) (fun cb9 => ?_) (fun cb9 => ?_)
                · skip
                  have c73 : x_4.toInt ≤ hg.toInt := zle cb9 rfl rfl
                  refine lv_iload hx hb dX12_figures_124 (lv_at hl 4 rfl) ?_
                  have hP : va_P g.1 vwCl (List.flatten [bMo g o a th hi ac tp (-1) en x_5 (-1) de iD iO tU fm fk fa fc ft ff fb fi]) H := hP
                  have hD : va_D A (List.flatten [bMo g o a th hi ac tp (-1) en x_5 (-1) de iD iO tU fm fk fa fc ft ff fb fi]) := hD
                  exact mret_i hx hb hr hlocks hS (Nat.le_of_ble_eq_true rfl) (Nat.le_of_ble_eq_true rfl) dX12_figures_126 (x_5, -1, x_4) rfl (show (0 ≤ x_5.toInt ∧ x_5.toInt ≤ en.toInt + 7 - de.toInt) ∧ (tA.toInt ≤ x_5.toInt) ∧ (zNu ft en.toInt (zbg ft en.toInt tA.toInt) lw.toInt hg.toInt x_4 ∧ x_5.toInt = znx ft en.toInt (zbg ft en.toInt tA.toInt) ∧ (-1) = (-1) ∨ ((-1) : Int32).toInt = zbg ft en.toInt tA.toInt ∧ ¬ ∃ v9, zNu ft en.toInt (zbg ft en.toInt tA.toInt) lw.toInt hg.toInt v9) from ⟨(by first | assumption | omega | exact Or.inl (by decide) | exact Or.inr (by omega)), (by first | assumption | omega | exact Or.inl (by decide) | exact Or.inr (by omega)), (Or.inl ⟨(by rw [← (show at2_2.toInt = zbg ft en.toInt tA.toInt from hq3_2)]; exact (zfig_y (b := at2_2.toInt) (a := x_5.toInt) (by omega) (i9.trans (zw_nC (zcD_f (by omega)))) (by omega) (by omega) i10 (by omega) (by omega)).1), (by rw [← (show at2_2.toInt = zbg ft en.toInt tA.toInt from hq3_2)]; exact (zfig_y (b := at2_2.toInt) (a := x_5.toInt) (by omega) (i9.trans (zw_nC (zcD_f (by omega)))) (by omega) (by omega) i10 (by omega) (by omega)).2), rfl⟩)⟩) hP hD
                · skip
                  have c74 : hg.toInt < x_4.toInt := zlti (Int32.not_le.mp cb9) rfl rfl
                  refine lv_aload_n hx hb dX12_figures_119 rfl (lv_at hl 0 rfl) ?_
                  refine lv_iload_n hx hb dX12_figures_120 rfl (lv_at hl 3 rfl) ?_
                  refine mcallV' (g := g) (q0 := 0) (ci := 10) (As := [.int at2_2]) (rest := []) St hK hT hA hP hD hS hl.1 [0] [] rfl rfl rfl (m_wrongF l g o a th hi ac tp (-1) en x_5 de iD iO tU fm fk fa fc ft ff fb fi at2_2 ) (cwV 1 hts (zgL (zl4 k895 k896 k897 k839) k890) rfl rfl rfl (by decide +kernel) ⟨Nat.le_of_ble_eq_true rfl, Nat.le_of_ble_eq_true rfl⟩) rfl rfl rfl rfl (Nat.le_of_ble_eq_true rfl) dX12_figures_121 ⟨(Nat.le_of_ble_eq_true rfl), (Nat.le_of_ble_eq_true rfl)⟩ (fun _u H locs hq75 hP hD hS => ?_)
                  have hP : va_P g.1 vwCl (List.flatten [bMo g o a th hi ac tp (-1) en x_5 at2_2 de iD iO tU fm fk fa fc ft ff fb fi]) H := hP
                  have hD : va_D A (List.flatten [bMo g o a th hi ac tp (-1) en x_5 at2_2 de iD iO tU fm fk fa fc ft ff fb fi]) := hD
                  refine W.widen (k := 0) (n := 0) (Nat.le_of_ble_eq_true rfl) (Nat.le_of_ble_eq_true rfl) ?_
                  refine W.eq (g2 := F0 m 124 ls []) rfl ?_
                  refine lv_iload hx hb dX12_figures_124 (lv_at hl 4 rfl) ?_
                  have hP : va_P g.1 vwCl (List.flatten [bMo g o a th hi ac tp (-1) en x_5 at2_2 de iD iO tU fm fk fa fc ft ff fb fi]) H := hP
                  have hD : va_D A (List.flatten [bMo g o a th hi ac tp (-1) en x_5 at2_2 de iD iO tU fm fk fa fc ft ff fb fi]) := hD
                  exact mret_i hx hb hr hlocks hS (Nat.le_of_ble_eq_true rfl) (Nat.le_of_ble_eq_true rfl) dX12_figures_126 (x_5, at2_2, x_4) rfl (show (0 ≤ x_5.toInt ∧ x_5.toInt ≤ en.toInt + 7 - de.toInt) ∧ (tA.toInt ≤ x_5.toInt) ∧ (zNu ft en.toInt (zbg ft en.toInt tA.toInt) lw.toInt hg.toInt x_4 ∧ x_5.toInt = znx ft en.toInt (zbg ft en.toInt tA.toInt) ∧ (-1) = at2_2 ∨ at2_2.toInt = zbg ft en.toInt tA.toInt ∧ ¬ ∃ v9, zNu ft en.toInt (zbg ft en.toInt tA.toInt) lw.toInt hg.toInt v9) from ⟨(by first | assumption | omega | exact Or.inl (by decide) | exact Or.inr (by omega)), (by first | assumption | omega | exact Or.inl (by decide) | exact Or.inr (by omega)), (Or.inr ⟨hq3_2, (by rw [← (show at2_2.toInt = zbg ft en.toInt tA.toInt from hq3_2)]; exact (zfig_v (by omega) (i9.trans (zw_nC (zcD_f (by omega)))) (by omega) i10 (by omega)))⟩)⟩) hP hD
  have hL0 : (0 : Int32).toInt = 0 := by decide
  have hP : va_P g.1 vwCl (List.flatten [bMo g o a th hi ac tp (-1) en at2_2 (-1) de iD iO tU fm fk fa fc ft ff fb fi]) H := hP
  have hD : va_D A (List.flatten [bMo g o a th hi ac tp (-1) en at2_2 (-1) de iD iO tU fm fk fa fc ft ff fb fi]) := hD
  exact LP18_11 _ 0 at2_2 (by first | omega | assumption | decide) (by first | omega | assumption | decide) (by first | omega | assumption | decide) rfl (by rw [show (at2_2.toInt - at2_2.toInt).toNat = 0 by omega]; rfl) H _ ls (Nat.lt_succ_self _)  hP hD hS (lv_sub hl [0, 1, 2, 3, 4] rfl)
