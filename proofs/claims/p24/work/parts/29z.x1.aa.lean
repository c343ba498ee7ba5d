/-! THE MODEL: its tape's bytes, tales, odds -/
def zHi (f : Nat → Int32) (n g y k : Int) : Prop := y = zLd f k.toNat ∧ (g = 1 ∧ n ≤ 12 ∧ zAl f k ∨ g = 0 ∧ ¬ (n ≤ 12 ∧ zAl f n))
theorem zHi_i1 {f : Nat → Int32} {n g y k : Int} (hn : n ≤ 12) (hg : g = 1) (hy : y = 0) (hk : k = 0) : zHi f n g y k := by subst hg hy hk; exact ⟨rfl, Or.inl ⟨rfl, hn, zAl0 f⟩⟩
theorem zHi_i0 {f : Nat → Int32} {n g y k : Int} (hn : 12 < n) (hg : g = 0) (hy : y = 0) (hk : k = 0) : zHi f n g y k := by subst hg hy hk; exact ⟨rfl, Or.inr ⟨rfl, fun h => absurd h.1 (by omega)⟩⟩
theorem zHi_y {f : Nat → Int32} {n g y k : Int} {x : Int32} {y' k' : Int} (h : zHi f n g y k) (hx : x.toInt = k) (h0 : 0 ≤ k) (e : k' = k + 1) (hv : ((f x.toNatClampNeg).toInt = 1 ∧ y' = y + 1) ∨ (¬ (f x.toNatClampNeg).toInt = 1 ∧ y' = y + -1)) : y' = zLd f k'.toNat := by
  subst hx
  rcases hv with ⟨a, b⟩ | ⟨a, b⟩
  · exact zLd_1 h.1 h0 e a b
  · exact zLd_0 h.1 h0 e a b
theorem zHi_1 {f : Nat → Int32} {n g y k : Int} {x : Int32} {g' y' k' : Int} (h : zHi f n g y k) (hg : ¬ g = 0) (hx : x.toInt = k) (h0 : 0 ≤ k) (e : k' = k + 1) (hl : (f x.toNatClampNeg).toInt < 2) (hg' : g' = 1) (hv : ((f x.toNatClampNeg).toInt = 1 ∧ y' = y + 1) ∨ (¬ (f x.toNatClampNeg).toInt = 1 ∧ y' = y + -1)) : zHi f n g' y' k' := by
  refine ⟨zHi_y h hx h0 e hv, Or.inl ?_⟩
  rcases h.2 with ⟨a, b, c⟩ | ⟨a, -⟩
  · exact ⟨hg', b, zAl_s c hx h0 e (by omega)⟩
  · exact absurd a hg
theorem zHi_0 {f : Nat → Int32} {n g y k : Int} {x : Int32} {g' y' k' : Int} (h : zHi f n g y k) (hx : x.toInt = k) (h0 : 0 ≤ k) (hkn : k < n) (e : k' = k + 1) (hl : 2 ≤ (f x.toNatClampNeg).toInt) (hg' : g' = 0) (hv : ((f x.toNatClampNeg).toInt = 1 ∧ y' = y + 1) ∨ (¬ (f x.toNatClampNeg).toInt = 1 ∧ y' = y + -1)) : zHi f n g' y' k' :=
  ⟨zHi_y h hx h0 e hv, Or.inr ⟨hg', fun q => zAl_n (x := x) (by omega) (by omega) (by omega) q.2⟩⟩
def zHf (f : Nat → Int32) (n q : Int) : Prop := (n ≤ 12 ∧ zAl f n) ∧ q = zLd f n.toNat ∨ ¬ (n ≤ 12 ∧ zAl f n) ∧ q = 100
theorem zHi_e1 {f : Nat → Int32} {n g y k : Int} (h : zHi f n g y k) (hg : ¬ g = 0) (e : k = n) : zHf f n y := by
  subst e
  rcases h.2 with ⟨a, b, c⟩ | ⟨a, -⟩
  · exact Or.inl ⟨⟨b, c⟩, h.1⟩
  · exact absurd a hg
theorem zHi_e0 {f : Nat → Int32} {n g y k q : Int} (h : zHi f n g y k) (hg : g = 0) (hq : q = 100) : zHf f n q := by
  rcases h.2 with ⟨a, -⟩ | ⟨-, b⟩
  · exact absurd (hg.symm.trans a) (by decide)
  · exact Or.inr ⟨b, hq⟩
theorem zLd_b (f : Nat → Int32) : ∀ n : Nat, -(n : Int) ≤ zLd f n ∧ zLd f n ≤ n
  | 0 => ⟨Int.le_refl _, Int.le_refl _⟩
  | n + 1 => by
    have h := zLd_b f n
    show -((n + 1 : Nat) : Int) ≤ zLd f n + (if (f n).toInt = 1 then 1 else -1) ∧ zLd f n + (if (f n).toInt = 1 then 1 else -1) ≤ ((n + 1 : Nat) : Int)
    split <;> omega
theorem zHf_n {f : Nat → Int32} {n q : Int} (h : zHf f n q) (e : q = 100) : ¬ (n ≤ 12 ∧ zAl f n) := by
  rcases h with ⟨⟨a, b⟩, c⟩ | ⟨a, -⟩
  · intro _
    have := zLd_b f n.toNat
    omega
  · exact a
theorem zHf_y {f : Nat → Int32} {n q : Int} (h : zHf f n q) (e : ¬ q = 100) : (n ≤ 12 ∧ zAl f n) ∧ q = zLd f n.toNat := by
  rcases h with h | ⟨-, h⟩
  · exact h
  · exact absurd h e
theorem zrv_mk {r : Int32} {A B : Nat} {ld : Int} (hA : A = ld.toNat) (hB : B = (-ld).toNat) : ((10000 * (r.toInt64 * lN (9 ^ A))) / ((r.toInt64 * lN (9 ^ A)) + ((100 - r : Int32).toInt64 * lN (9 ^ B)))).toInt32 = zod r ld := by subst hA hB; rfl
theorem zcN2 {x : Int64} (h : 0 < x.toInt) : ¬ x = 0 := fun e => by rw [e] at h; exact absurd h (by decide)
set_option maxRecDepth 100000 in
set_option maxHeartbeats 4000000 in
theorem m_thrown (l : Launch) (g : zG) (o : Nat) (a : Nat → Nat) (th : Int32) (hi : Int32) (ac : Int32) (tp : Int32) (ba : Int32) (en : Int32) (tA : Int32) (fl : Int32) (de : Int32) (iD : Int32) (iO : Int32) (tU : Int32) (fm : Nat → Int32) (fk : Nat → Int32) (fa : Nat → Int32) (fc : Nat → Int32) (ft : Nat → Int32) (ff : Nat → Int32) (fb : Nat → Int32) (fi : Nat → Int32)  : zM' g l yX12_thrown (Cond.code yX12_thrown cX12_thrown 1 (some .int) :: zB) ({ frames := 0, cells := 0, slots := 0, locals := 0 } : Room) [.ref o] [bMo g o a th hi ac tp ba en tA fl de iD iO tU fm fk fa fc ft ff fb fi] (fun _ : Unit => some (.int th)) (fun _ : Unit => True) (fun _ : Unit => [bMo g o a th hi ac tp ba en tA fl de iD iO tU fm fk fa fc ft ff fb fi]) := by
  refine zM'.of (cc := cX12_thrown) (maxL := 1) (rt := (some .int)) (by decide) rfl (Nat.le_of_ble_eq_true rfl) ?_
  intro p e s m args below meth c A ls St hr hlocks hin hK hT hA hP hD hS hl
  obtain ⟨hx, hb, hml, hown, hts⟩ := id St
  have hl : lv_has ls 1 [(0, .ref o)] := hl
  refine lv_aload_n hx hb dX12_thrown_0 rfl (lv_at hl 0 rfl) ?_
  refine va_get (D := g.1) (ci := 10) (v := .int th) (C := RX12) (T := TX12) (N := 20) hx hb hts izRX12 hown hK hP 0 rfl rfl 0 (by decide) (hts _ k825) (fun _ h9 => h9) rfl dX12_thrown_1 ?_
  have hP : va_P g.1 vwCl (List.flatten [bMo g o a th hi ac tp ba en tA fl de iD iO tU fm fk fa fc ft ff fb fi]) s.heap := hP
  have hD : va_D A (List.flatten [bMo g o a th hi ac tp ba en tA fl de iD iO tU fm fk fa fc ft ff fb fi]) := hD
  exact mret_i hx hb hr hlocks hS (Nat.le_of_ble_eq_true rfl) (Nat.le_of_ble_eq_true rfl) dX12_thrown_4 () rfl trivial hP hD
set_option maxRecDepth 100000 in
set_option maxHeartbeats 4000000 in
theorem m_feedF (l : Launch) (g : zG) (o : Nat) (a : Nat → Nat) (th : Int32) (hi : Int32) (ac : Int32) (tp : Int32) (ba : Int32) (en : Int32) (tA : Int32) (fl : Int32) (de : Int32) (iD : Int32) (iO : Int32) (tU : Int32) (fm : Nat → Int32) (fk : Nat → Int32) (fa : Nat → Int32) (fc : Nat → Int32) (ft : Nat → Int32) (ff : Nat → Int32) (fb : Nat → Int32) (fi : Nat → Int32) (a1 : Int32) (a2 : Int32) (a3 : Int32) (a4 : Int32) (a5 : Int32) (htp : 0 ≤ tp.toInt ∧ tp.toInt ≤ 400) : zM' g l yX12_feed (Cond.code yX12_feed cX12_feed 8 (some .int) :: zB) ({ frames := 0, cells := 0, slots := 0, locals := 0 } : Room) [.ref o, .int a1, .int a2, .int a3, .int a4, .int a5] [bMo g o a th hi ac tp ba en tA fl de iD iO tU fm fk fa fc ft ff fb fi] (fun u : Int32 × Int32 × (Nat → Int32) × Int32 => (fun (th2 : Int32) (tp2 : Int32) (ft2 : Nat → Int32) (q : Int32) => some (.int q)) (u.1) (u.2.1) (u.2.2.1) (u.2.2.2)) (fun u : Int32 × Int32 × (Nat → Int32) × Int32 => (fun (th2 : Int32) (tp2 : Int32) (ft2 : Nat → Int32) (q : Int32) => (0 ≤ tp2.toInt ∧ tp2.toInt ≤ 400) ∧ ((380 < tp.toInt → tp2.toInt = tp.toInt) ∧ (tp.toInt ≤ 380 → tp2.toInt = tp.toInt + 20)) ∧ ((380 < tp.toInt → q.toInt = -1) ∧ (tp.toInt ≤ 380 → q.toInt = tp2.toInt)) ∧ (zfeed tp.toInt ft ft2 (zb20 a1 a2 a3 a4 a5))) (u.1) (u.2.1) (u.2.2.1) (u.2.2.2)) (fun u : Int32 × Int32 × (Nat → Int32) × Int32 => (fun (th2 : Int32) (tp2 : Int32) (ft2 : Nat → Int32) (q : Int32) => [bMo g o a th2 hi ac tp2 ba en tA fl de iD iO tU fm fk fa fc ft2 ff fb fi]) (u.1) (u.2.1) (u.2.2.1) (u.2.2.2)) := by
  refine zM'.of (cc := cX12_feed) (maxL := 8) (rt := (some .int)) (by decide) rfl (Nat.le_of_ble_eq_true rfl) ?_
  intro p e s m args below meth c A ls St hr hlocks hin hK hT hA hP hD hS hl
  obtain ⟨hx, hb, hml, hown, hts⟩ := id St
  have hl : lv_has ls 8 [(0, .ref o), (1, .int a1), (2, .int a2), (3, .int a3), (4, .int a4), (5, .int a5)] := hl
  refine lv_aload_n hx hb dX12_feed_0 rfl (lv_at hl 0 rfl) ?_
  refine lv_iconst (v := 0) hx hb dX12_feed_1 (by decide) ?_
  refine va_put (D := g.1) (ci := 10) (v := .int 0) (ty := .int) (C := RX12) (T := TX12) (N := 20) hx hb hts izRX12 tyX12 tyX12_ok nmX12 hown hK hP hD hS 0 rfl rfl 0 (by decide) (hts _ k825) (fun _ h9 => h9) rfl (by decide +kernel) rfl rfl (Nat.le_of_ble_eq_true rfl) dX12_feed_2 (fun H locs hP hD hS => ?_)
  have hP : va_P g.1 vwCl (List.flatten [bMo g o a 0 hi ac tp ba en tA fl de iD iO tU fm fk fa fc ft ff fb fi]) H := hP
  have hD : va_D A (List.flatten [bMo g o a 0 hi ac tp ba en tA fl de iD iO tU fm fk fa fc ft ff fb fi]) := hD
  refine lv_aload_n hx hb dX12_feed_5 rfl (lv_at hl 0 rfl) ?_
  refine va_get (D := g.1) (ci := 10) (v := .int tp) (C := RX12) (T := TX12) (N := 20) hx hb hts izRX12 hown hK hP 0 rfl rfl 8 (by decide) (hts _ k873) (fun _ h9 => h9) rfl dX12_feed_6 ?_
  refine lv_bipush (v := 20) hx hb dX12_feed_9 (by decide) ?_
  refine lv_iadd hx hb dX12_feed_11 ?_
  refine zg3 (zaddK (i := tp.toInt) (j := 20) (a' := 20) (b' := 420) rfl (by decide) htp.1 htp.2 (Int.le_refl _) (Int.le_refl _) (by decide)) (fun x_1 hx_1 => ?_)
  refine lv_sipush (v := 400) hx hb dX12_feed_12 (by decide) ?_
  refine lv_icmp_le (tgt := 20) hx hb dX12_feed_15 (by decide) (fun cb9 => ?_) (fun cb9 => ?_)
  · skip
    have c2 : x_1.toInt ≤ 400 := zle cb9 rfl (by decide)
    have n3 : x_1.toInt ≤ 400 := Int.le_trans c2 (Int.le_refl _)
    refine lv_iconst (v := 0) hx hb dX12_feed_20 (by decide) ?_
    refine lv_istore (lv' := [(6, .int 0), (0, .ref o), (1, .int a1), (2, .int a2), (3, .int a3), (4, .int a4), (5, .int a5)]) hx hb dX12_feed_21 hl (by decide) rfl (fun ls hl => ?_)
    refine lv_iload hx hb dX12_feed_23 (lv_at hl 0 rfl) ?_
    refine lv_bipush (v := 20) hx hb dX12_feed_25 (by decide) ?_
    refine lv_icmp_ge (tgt := 120) hx hb dX12_feed_27 (by decide) (fun c4 => absurd c4 (by decide)) (fun _ => ?_)
    refine lv_iload hx hb dX12_feed_30 (lv_at hl 0 rfl) ?_
    refine lv_iconst (v := 4) hx hb dX12_feed_32 (by decide) ?_
    refine lv_icmp_ge (tgt := 40) hx hb dX12_feed_33 (by decide) (fun c5 => absurd c5 (by decide)) (fun _ => ?_)
    refine lv_iload_n hx hb dX12_feed_36 rfl (lv_at hl 2 rfl) ?_
    refine lv_goto (tgt := 76) hx hb dX12_feed_37 (by decide) ?_
    refine lv_istore (lv' := [(7, .int a1), (6, .int 0), (0, .ref o), (1, .int a1), (2, .int a2), (3, .int a3), (4, .int a4), (5, .int a5)]) hx hb dX12_feed_76 hl (by decide) rfl (fun ls hl => ?_)
    refine lv_aload_n hx hb dX12_feed_78 rfl (lv_at hl 2 rfl) ?_
    refine va_get (D := g.1) (ci := 10) (v := .ref (a 4)) (C := RX12) (T := TX12) (N := 20) hx hb hts izRX12 hown hK hP 0 rfl rfl 7 (by decide) (hts _ k819) (fun _ h9 => h9) rfl dX12_feed_79 ?_
    refine lv_aload_n hx hb dX12_feed_82 rfl (lv_at hl 2 rfl) ?_
    refine va_get (D := g.1) (ci := 10) (v := .int tp) (C := RX12) (T := TX12) (N := 20) hx hb hts izRX12 hown hK hP 0 rfl rfl 8 (by decide) (hts _ k873) (fun _ h9 => h9) rfl dX12_feed_83 ?_
    refine lv_iload hx hb dX12_feed_86 (lv_at hl 0 rfl) ?_
    refine lv_bipush (v := 24) hx hb dX12_feed_88 (by decide) ?_
    refine lv_bipush (v := 8) hx hb dX12_feed_90 (by decide) ?_
    refine lv_iload hx hb dX12_feed_92 (lv_at hl 1 rfl) ?_
    refine lv_iconst (v := 4) hx hb dX12_feed_94 (by decide) ?_
    refine lv_irem hx hb dX12_feed_95 (by decide) ?_
    refine ztop (r := 0) (by decide) ?_
    refine lv_imul hx hb dX12_feed_96 ?_
    refine ztop (r := 0) (by decide) ?_
    refine lv_isub hx hb dX12_feed_97 ?_
    refine ztop (r := 24) (by decide) ?_
    refine lv_iushr (v := ((a1 : Int32).toUInt32 >>> ((24 : Int32).toUInt32 &&& Int32.toUInt32 31)).toInt32) hx hb dX12_feed_98 rfl ?_
    refine lv_sipush (v := 255) hx hb dX12_feed_99 (by decide) ?_
    refine lv_iand hx hb dX12_feed_102 ?_
    refine va_iast hx hb hK hP hD hS 5 0 rfl rfl (zinI (by omega) (by omega)) dX12_feed_103 (fun H locs hP hD hS => ?_)
    obtain ⟨ft_6, hzft_6, hP, hD⟩ : ∃ ft_6 : Nat → Int32, (zfp ft ft_6 tp.toInt.toNat 1 (zb20 a1 a2 a3 a4 a5)) ∧ va_P g.1 vwCl (List.flatten [bMo g o a 0 hi ac tp ba en tA fl de iD iO tU fm fk fa fc ft_6 ff fb fi]) H ∧ va_D A (List.flatten [bMo g o a 0 hi ac tp ba en tA fl de iD iO tU fm fk fa fc ft_6 ff fb fi]) := ⟨upd ft tp.toNatClampNeg ((((a1 : Int32).toUInt32 >>> ((24 : Int32).toUInt32 &&& Int32.toUInt32 31)).toInt32) &&& 255), (zfp_s (x := tp) (zfp0 ft tp.toInt.toNat (zb20 a1 a2 a3 a4 a5)) (by omega) rfl), hP, hD⟩
    refine lv_aload_n hx hb dX12_feed_104 rfl (lv_at hl 2 rfl) ?_
    refine lv_dup hx hb dX12_feed_105 rfl ?_
    refine va_get (D := g.1) (ci := 10) (v := .int tp) (C := RX12) (T := TX12) (N := 20) hx hb hts izRX12 hown hK hP 0 rfl rfl 8 (by decide) (hts _ k873) (fun _ h9 => h9) rfl dX12_feed_106 ?_
    refine lv_iconst (v := 1) hx hb dX12_feed_109 (by decide) ?_
    refine lv_iadd hx hb dX12_feed_110 ?_
    refine zg3 (zaddK (i := tp.toInt) (j := 1) (a' := 1) (b' := 401) rfl (by decide) htp.1 htp.2 (Int.le_refl _) (Int.le_refl _) (by decide)) (fun x_7 hx_7 => ?_)
    refine va_put (D := g.1) (ci := 10) (v := .int x_7) (ty := .int) (C := RX12) (T := TX12) (N := 20) hx hb hts izRX12 tyX12 tyX12_ok nmX12 hown hK hP hD hS 0 rfl rfl 8 (by decide) (hts _ k873) (fun _ h9 => h9) rfl (by decide +kernel) rfl rfl (Nat.le_of_ble_eq_true rfl) dX12_feed_111 (fun H locs hP hD hS => ?_)
    have hP : va_P g.1 vwCl (List.flatten [bMo g o a 0 hi ac x_7 ba en tA fl de iD iO tU fm fk fa fc ft_6 ff fb fi]) H := hP
    have hD : va_D A (List.flatten [bMo g o a 0 hi ac x_7 ba en tA fl de iD iO tU fm fk fa fc ft_6 ff fb fi]) := hD
    refine lv_iinc (v := 1) (lv' := [(6, .int 1), (7, .int a1), (0, .ref o), (1, .int a1), (2, .int a2), (3, .int a3), (4, .int a4), (5, .int a5)]) hx hb dX12_feed_114 hl (k := 1) rfl (by decide) (by decide) rfl (fun ls hl => ?_)
    refine lv_goto (tgt := 23) hx hb dX12_feed_117 (by decide) ?_
    refine lv_iload hx hb dX12_feed_23 (lv_at hl 0 rfl) ?_
    refine lv_bipush (v := 20) hx hb dX12_feed_25 (by decide) ?_
    refine lv_icmp_ge (tgt := 120) hx hb dX12_feed_27 (by decide) (fun c8 => absurd c8 (by decide)) (fun _ => ?_)
    refine lv_iload hx hb dX12_feed_30 (lv_at hl 0 rfl) ?_
    refine lv_iconst (v := 4) hx hb dX12_feed_32 (by decide) ?_
    refine lv_icmp_ge (tgt := 40) hx hb dX12_feed_33 (by decide) (fun c9 => absurd c9 (by decide)) (fun _ => ?_)
    refine lv_iload_n hx hb dX12_feed_36 rfl (lv_at hl 3 rfl) ?_
    refine lv_goto (tgt := 76) hx hb dX12_feed_37 (by decide) ?_
    refine lv_istore (lv' := [(7, .int a1), (6, .int 1), (0, .ref o), (1, .int a1), (2, .int a2), (3, .int a3), (4, .int a4), (5, .int a5)]) hx hb dX12_feed_76 hl (by decide) rfl (fun ls hl => ?_)
    refine lv_aload_n hx hb dX12_feed_78 rfl (lv_at hl 2 rfl) ?_
    refine va_get (D := g.1) (ci := 10) (v := .ref (a 4)) (C := RX12) (T := TX12) (N := 20) hx hb hts izRX12 hown hK hP 0 rfl rfl 7 (by decide) (hts _ k819) (fun _ h9 => h9) rfl dX12_feed_79 ?_
    refine lv_aload_n hx hb dX12_feed_82 rfl (lv_at hl 2 rfl) ?_
    refine va_get (D := g.1) (ci := 10) (v := .int x_7) (C := RX12) (T := TX12) (N := 20) hx hb hts izRX12 hown hK hP 0 rfl rfl 8 (by decide) (hts _ k873) (fun _ h9 => h9) rfl dX12_feed_83 ?_
    refine lv_iload hx hb dX12_feed_86 (lv_at hl 0 rfl) ?_
    refine lv_bipush (v := 24) hx hb dX12_feed_88 (by decide) ?_
    refine lv_bipush (v := 8) hx hb dX12_feed_90 (by decide) ?_
    refine lv_iload hx hb dX12_feed_92 (lv_at hl 1 rfl) ?_
    refine lv_iconst (v := 4) hx hb dX12_feed_94 (by decide) ?_
    refine lv_irem hx hb dX12_feed_95 (by decide) ?_
    refine ztop (r := 1) (by decide) ?_
    refine lv_imul hx hb dX12_feed_96 ?_
    refine ztop (r := 8) (by decide) ?_
    refine lv_isub hx hb dX12_feed_97 ?_
    refine ztop (r := 16) (by decide) ?_
    refine lv_iushr (v := ((a1 : Int32).toUInt32 >>> ((16 : Int32).toUInt32 &&& Int32.toUInt32 31)).toInt32) hx hb dX12_feed_98 rfl ?_
    refine lv_sipush (v := 255) hx hb dX12_feed_99 (by decide) ?_
    refine lv_iand hx hb dX12_feed_102 ?_
    refine va_iast hx hb hK hP hD hS 5 0 rfl rfl (zinI (by omega) (by omega)) dX12_feed_103 (fun H locs hP hD hS => ?_)
    obtain ⟨ft_10, hzft_10, hP, hD⟩ : ∃ ft_10 : Nat → Int32, (zfp ft ft_10 tp.toInt.toNat 2 (zb20 a1 a2 a3 a4 a5)) ∧ va_P g.1 vwCl (List.flatten [bMo g o a 0 hi ac x_7 ba en tA fl de iD iO tU fm fk fa fc ft_10 ff fb fi]) H ∧ va_D A (List.flatten [bMo g o a 0 hi ac x_7 ba en tA fl de iD iO tU fm fk fa fc ft_10 ff fb fi]) := ⟨upd ft_6 x_7.toNatClampNeg ((((a1 : Int32).toUInt32 >>> ((16 : Int32).toUInt32 &&& Int32.toUInt32 31)).toInt32) &&& 255), (zfp_s (x := x_7) hzft_6 (by omega) rfl), hP, hD⟩
    refine lv_aload_n hx hb dX12_feed_104 rfl (lv_at hl 2 rfl) ?_
    refine lv_dup hx hb dX12_feed_105 rfl ?_
    refine va_get (D := g.1) (ci := 10) (v := .int x_7) (C := RX12) (T := TX12) (N := 20) hx hb hts izRX12 hown hK hP 0 rfl rfl 8 (by decide) (hts _ k873) (fun _ h9 => h9) rfl dX12_feed_106 ?_
    refine lv_iconst (v := 1) hx hb dX12_feed_109 (by decide) ?_
    refine lv_iadd hx hb dX12_feed_110 ?_
    refine zg3 (zaddK (i := x_7.toInt) (j := 1) (a' := 2) (b' := 402) rfl (by decide) hx_7.2.1 hx_7.2.2 (Int.le_refl _) (Int.le_refl _) (by decide)) (fun x_11 hx_11 => ?_)
    refine va_put (D := g.1) (ci := 10) (v := .int x_11) (ty := .int) (C := RX12) (T := TX12) (N := 20) hx hb hts izRX12 tyX12 tyX12_ok nmX12 hown hK hP hD hS 0 rfl rfl 8 (by decide) (hts _ k873) (fun _ h9 => h9) rfl (by decide +kernel) rfl rfl (Nat.le_of_ble_eq_true rfl) dX12_feed_111 (fun H locs hP hD hS => ?_)
    have hP : va_P g.1 vwCl (List.flatten [bMo g o a 0 hi ac x_11 ba en tA fl de iD iO tU fm fk fa fc ft_10 ff fb fi]) H := hP
    have hD : va_D A (List.flatten [bMo g o a 0 hi ac x_11 ba en tA fl de iD iO tU fm fk fa fc ft_10 ff fb fi]) := hD
    refine lv_iinc (v := 2) (lv' := [(6, .int 2), (7, .int a1), (0, .ref o), (1, .int a1), (2, .int a2), (3, .int a3), (4, .int a4), (5, .int a5)]) hx hb dX12_feed_114 hl (k := 1) rfl (by decide) (by decide) rfl (fun ls hl => ?_)
    refine lv_goto (tgt := 23) hx hb dX12_feed_117 (by decide) ?_
    refine lv_iload hx hb dX12_feed_23 (lv_at hl 0 rfl) ?_
    refine lv_bipush (v := 20) hx hb dX12_feed_25 (by decide) ?_
    refine lv_icmp_ge (tgt := 120) hx hb dX12_feed_27 (by decide) (fun c12 => absurd c12 (by decide)) (fun _ => ?_)
    refine lv_iload hx hb dX12_feed_30 (lv_at hl 0 rfl) ?_
    refine lv_iconst (v := 4) hx hb dX12_feed_32 (by decide) ?_
    refine lv_icmp_ge (tgt := 40) hx hb dX12_feed_33 (by decide) (fun c13 => absurd c13 (by decide)) (fun _ => ?_)
    refine lv_iload_n hx hb dX12_feed_36 rfl (lv_at hl 3 rfl) ?_
    refine lv_goto (tgt := 76) hx hb dX12_feed_37 (by decide) ?_
    refine lv_istore (lv' := [(7, .int a1), (6, .int 2), (0, .ref o), (1, .int a1), (2, .int a2), (3, .int a3), (4, .int a4), (5, .int a5)]) hx hb dX12_feed_76 hl (by decide) rfl (fun ls hl => ?_)
    refine lv_aload_n hx hb dX12_feed_78 rfl (lv_at hl 2 rfl) ?_
    refine va_get (D := g.1) (ci := 10) (v := .ref (a 4)) (C := RX12) (T := TX12) (N := 20) hx hb hts izRX12 hown hK hP 0 rfl rfl 7 (by decide) (hts _ k819) (fun _ h9 => h9) rfl dX12_feed_79 ?_
    refine lv_aload_n hx hb dX12_feed_82 rfl (lv_at hl 2 rfl) ?_
    refine va_get (D := g.1) (ci := 10) (v := .int x_11) (C := RX12) (T := TX12) (N := 20) hx hb hts izRX12 hown hK hP 0 rfl rfl 8 (by decide) (hts _ k873) (fun _ h9 => h9) rfl dX12_feed_83 ?_
    refine lv_iload hx hb dX12_feed_86 (lv_at hl 0 rfl) ?_
    refine lv_bipush (v := 24) hx hb dX12_feed_88 (by decide) ?_
    refine lv_bipush (v := 8) hx hb dX12_feed_90 (by decide) ?_
    refine lv_iload hx hb dX12_feed_92 (lv_at hl 1 rfl) ?_
    refine lv_iconst (v := 4) hx hb dX12_feed_94 (by decide) ?_
    refine lv_irem hx hb dX12_feed_95 (by decide) ?_
    refine ztop (r := 2) (by decide) ?_
    refine lv_imul hx hb dX12_feed_96 ?_
    refine ztop (r := 16) (by decide) ?_
    refine lv_isub hx hb dX12_feed_97 ?_
    refine ztop (r := 8) (by decide) ?_
    refine lv_iushr (v := ((a1 : Int32).toUInt32 >>> ((8 : Int32).toUInt32 &&& Int32.toUInt32 31)).toInt32) hx hb dX12_feed_98 rfl ?_
    refine lv_sipush (v := 255) hx hb dX12_feed_99 (by decide) ?_
    refine lv_iand hx hb dX12_feed_102 ?_
    refine va_iast hx hb hK hP hD hS 5 0 rfl rfl (zinI (by omega) (by omega)) dX12_feed_103 (fun H locs hP hD hS => ?_)
    obtain ⟨ft_14, hzft_14, hP, hD⟩ : ∃ ft_14 : Nat → Int32, (zfp ft ft_14 tp.toInt.toNat 3 (zb20 a1 a2 a3 a4 a5)) ∧ va_P g.1 vwCl (List.flatten [bMo g o a 0 hi ac x_11 ba en tA fl de iD iO tU fm fk fa fc ft_14 ff fb fi]) H ∧ va_D A (List.flatten [bMo g o a 0 hi ac x_11 ba en tA fl de iD iO tU fm fk fa fc ft_14 ff fb fi]) := ⟨upd ft_10 x_11.toNatClampNeg ((((a1 : Int32).toUInt32 >>> ((8 : Int32).toUInt32 &&& Int32.toUInt32 31)).toInt32) &&& 255), (zfp_s (x := x_11) hzft_10 (by omega) rfl), hP, hD⟩
    refine lv_aload_n hx hb dX12_feed_104 rfl (lv_at hl 2 rfl) ?_
    refine lv_dup hx hb dX12_feed_105 rfl ?_
    refine va_get (D := g.1) (ci := 10) (v := .int x_11) (C := RX12) (T := TX12) (N := 20) hx hb hts izRX12 hown hK hP 0 rfl rfl 8 (by decide) (hts _ k873) (fun _ h9 => h9) rfl dX12_feed_106 ?_
    refine lv_iconst (v := 1) hx hb dX12_feed_109 (by decide) ?_
    refine lv_iadd hx hb dX12_feed_110 ?_
    refine zg3 (zaddK (i := x_11.toInt) (j := 1) (a' := 3) (b' := 403) rfl (by decide) hx_11.2.1 hx_11.2.2 (Int.le_refl _) (Int.le_refl _) (by decide)) (fun x_15 hx_15 => ?_)
    refine va_put (D := g.1) (ci := 10) (v := .int x_15) (ty := .int) (C := RX12) (T := TX12) (N := 20) hx hb hts izRX12 tyX12 tyX12_ok nmX12 hown hK hP hD hS 0 rfl rfl 8 (by decide) (hts _ k873) (fun _ h9 => h9) rfl (by decide +kernel) rfl rfl (Nat.le_of_ble_eq_true rfl) dX12_feed_111 (fun H locs hP hD hS => ?_)
    have hP : va_P g.1 vwCl (List.flatten [bMo g o a 0 hi ac x_15 ba en tA fl de iD iO tU fm fk fa fc ft_14 ff fb fi]) H := hP
    have hD : va_D A (List.flatten [bMo g o a 0 hi ac x_15 ba en tA fl de iD iO tU fm fk fa fc ft_14 ff fb fi]) := hD
    refine lv_iinc (v := 3) (lv' := [(6, .int 3), (7, .int a1), (0, .ref o), (1, .int a1), (2, .int a2), (3, .int a3), (4, .int a4), (5, .int a5)]) hx hb dX12_feed_114 hl (k := 1) rfl (by decide) (by decide) rfl (fun ls hl => ?_)
    refine lv_goto (tgt := 23) hx hb dX12_feed_117 (by decide) ?_
    refine lv_iload hx hb dX12_feed_23 (lv_at hl 0 rfl) ?_
    refine lv_bipush (v := 20) hx hb dX12_feed_25 (by decide) ?_
    refine lv_icmp_ge (tgt := 120) hx hb dX12_feed_27 (by decide) (fun c16 => absurd c16 (by decide)) (fun _ => ?_)
    refine lv_iload hx hb dX12_feed_30 (lv_at hl 0 rfl) ?_
    refine lv_iconst (v := 4) hx hb dX12_feed_32 (by decide) ?_
    refine lv_icmp_ge (tgt := 40) hx hb dX12_feed_33 (by decide) (fun c17 => absurd c17 (by decide)) (fun _ => ?_)
    refine lv_iload_n hx hb dX12_feed_36 rfl (lv_at hl 3 rfl) ?_
    refine lv_goto (tgt := 76) hx hb dX12_feed_37 (by decide) ?_
    refine lv_istore (lv' := [(7, .int a1), (6, .int 3), (0, .ref o), (1, .int a1), (2, .int a2), (3, .int a3), (4, .int a4), (5, .int a5)]) hx hb dX12_feed_76 hl (by decide) rfl (fun ls hl => ?_)
    refine lv_aload_n hx hb dX12_feed_78 rfl (lv_at hl 2 rfl) ?_
    refine va_get (D := g.1) (ci := 10) (v := .ref (a 4)) (C := RX12) (T := TX12) (N := 20) hx hb hts izRX12 hown hK hP 0 rfl rfl 7 (by decide) (hts _ k819) (fun _ h9 => h9) rfl dX12_feed_79 ?_
    refine lv_aload_n hx hb dX12_feed_82 rfl (lv_at hl 2 rfl) ?_
    refine va_get (D := g.1) (ci := 10) (v := .int x_15) (C := RX12) (T := TX12) (N := 20) hx hb hts izRX12 hown hK hP 0 rfl rfl 8 (by decide) (hts _ k873) (fun _ h9 => h9) rfl dX12_feed_83 ?_
    refine lv_iload hx hb dX12_feed_86 (lv_at hl 0 rfl) ?_
    refine lv_bipush (v := 24) hx hb dX12_feed_88 (by decide) ?_
    refine lv_bipush (v := 8) hx hb dX12_feed_90 (by decide) ?_
    refine lv_iload hx hb dX12_feed_92 (lv_at hl 1 rfl) ?_
    refine lv_iconst (v := 4) hx hb dX12_feed_94 (by decide) ?_
    refine lv_irem hx hb dX12_feed_95 (by decide) ?_
    refine ztop (r := 3) (by decide) ?_
    refine lv_imul hx hb dX12_feed_96 ?_
    refine ztop (r := 24) (by decide) ?_
    refine lv_isub hx hb dX12_feed_97 ?_
    refine ztop (r := 0) (by decide) ?_
    refine lv_iushr (v := ((a1 : Int32).toUInt32 >>> ((0 : Int32).toUInt32 &&& Int32.toUInt32 31)).toInt32) hx hb dX12_feed_98 rfl ?_
    refine lv_sipush (v := 255) hx hb dX12_feed_99 (by decide) ?_
    refine lv_iand hx hb dX12_feed_102 ?_
    refine va_iast hx hb hK hP hD hS 5 0 rfl rfl (zinI (by omega) (by omega)) dX12_feed_103 (fun H locs hP hD hS => ?_)
    obtain ⟨ft_18, hzft_18, hP, hD⟩ : ∃ ft_18 : Nat → Int32, (zfp ft ft_18 tp.toInt.toNat 4 (zb20 a1 a2 a3 a4 a5)) ∧ va_P g.1 vwCl (List.flatten [bMo g o a 0 hi ac x_15 ba en tA fl de iD iO tU fm fk fa fc ft_18 ff fb fi]) H ∧ va_D A (List.flatten [bMo g o a 0 hi ac x_15 ba en tA fl de iD iO tU fm fk fa fc ft_18 ff fb fi]) := ⟨upd ft_14 x_15.toNatClampNeg ((((a1 : Int32).toUInt32 >>> ((0 : Int32).toUInt32 &&& Int32.toUInt32 31)).toInt32) &&& 255), (zfp_s (x := x_15) hzft_14 (by omega) rfl), hP, hD⟩
    refine lv_aload_n hx hb dX12_feed_104 rfl (lv_at hl 2 rfl) ?_
    refine lv_dup hx hb dX12_feed_105 rfl ?_
    refine va_get (D := g.1) (ci := 10) (v := .int x_15) (C := RX12) (T := TX12) (N := 20) hx hb hts izRX12 hown hK hP 0 rfl rfl 8 (by decide) (hts _ k873) (fun _ h9 => h9) rfl dX12_feed_106 ?_
    refine lv_iconst (v := 1) hx hb dX12_feed_109 (by decide) ?_
    refine lv_iadd hx hb dX12_feed_110 ?_
    refine zg3 (zaddK (i := x_15.toInt) (j := 1) (a' := 4) (b' := 404) rfl (by decide) hx_15.2.1 hx_15.2.2 (Int.le_refl _) (Int.le_refl _) (by decide)) (fun x_19 hx_19 => ?_)
    refine va_put (D := g.1) (ci := 10) (v := .int x_19) (ty := .int) (C := RX12) (T := TX12) (N := 20) hx hb hts izRX12 tyX12 tyX12_ok nmX12 hown hK hP hD hS 0 rfl rfl 8 (by decide) (hts _ k873) (fun _ h9 => h9) rfl (by decide +kernel) rfl rfl (Nat.le_of_ble_eq_true rfl) dX12_feed_111 (fun H locs hP hD hS => ?_)
    have hP : va_P g.1 vwCl (List.flatten [bMo g o a 0 hi ac x_19 ba en tA fl de iD iO tU fm fk fa fc ft_18 ff fb fi]) H := hP
    have hD : va_D A (List.flatten [bMo g o a 0 hi ac x_19 ba en tA fl de iD iO tU fm fk fa fc ft_18 ff fb fi]) := hD
    refine lv_iinc (v := 4) (lv' := [(6, .int 4), (7, .int a1), (0, .ref o), (1, .int a1), (2, .int a2), (3, .int a3), (4, .int a4), (5, .int a5)]) hx hb dX12_feed_114 hl (k := 1) rfl (by decide) (by decide) rfl (fun ls hl => ?_)
    refine lv_goto (tgt := 23) hx hb dX12_feed_117 (by decide) ?_
    refine lv_iload hx hb dX12_feed_23 (lv_at hl 0 rfl) ?_
    refine lv_bipush (v := 20) hx hb dX12_feed_25 (by decide) ?_
    refine lv_icmp_ge (tgt := 120) hx hb dX12_feed_27 (by decide) (fun c20 => absurd c20 (by decide)) (fun _ => ?_)
    refine lv_iload hx hb dX12_feed_30 (lv_at hl 0 rfl) ?_
    refine lv_iconst (v := 4) hx hb dX12_feed_32 (by decide) ?_
    refine lv_icmp_ge (tgt := 40) hx hb dX12_feed_33 (by decide) (fun _ => ?_) (fun c21 => absurd (by decide) c21)
    refine lv_iload hx hb dX12_feed_40 (lv_at hl 0 rfl) ?_
    refine lv_bipush (v := 8) hx hb dX12_feed_42 (by decide) ?_
    refine lv_icmp_ge (tgt := 51) hx hb dX12_feed_44 (by decide) (fun c22 => absurd c22 (by decide)) (fun _ => ?_)
    refine lv_iload_n hx hb dX12_feed_47 rfl (lv_at hl 4 rfl) ?_
    refine lv_goto (tgt := 76) hx hb dX12_feed_48 (by decide) ?_
    refine lv_istore (lv' := [(7, .int a2), (6, .int 4), (0, .ref o), (1, .int a1), (2, .int a2), (3, .int a3), (4, .int a4), (5, .int a5)]) hx hb dX12_feed_76 hl (by decide) rfl (fun ls hl => ?_)
    refine lv_aload_n hx hb dX12_feed_78 rfl (lv_at hl 2 rfl) ?_
    refine va_get (D := g.1) (ci := 10) (v := .ref (a 4)) (C := RX12) (T := TX12) (N := 20) hx hb hts izRX12 hown hK hP 0 rfl rfl 7 (by decide) (hts _ k819) (fun _ h9 => h9) rfl dX12_feed_79 ?_
    refine lv_aload_n hx hb dX12_feed_82 rfl (lv_at hl 2 rfl) ?_
    refine va_get (D := g.1) (ci := 10) (v := .int x_19) (C := RX12) (T := TX12) (N := 20) hx hb hts izRX12 hown hK hP 0 rfl rfl 8 (by decide) (hts _ k873) (fun _ h9 => h9) rfl dX12_feed_83 ?_
    refine lv_iload hx hb dX12_feed_86 (lv_at hl 0 rfl) ?_
    refine lv_bipush (v := 24) hx hb dX12_feed_88 (by decide) ?_
    refine lv_bipush (v := 8) hx hb dX12_feed_90 (by decide) ?_
    refine lv_iload hx hb dX12_feed_92 (lv_at hl 1 rfl) ?_
    refine lv_iconst (v := 4) hx hb dX12_feed_94 (by decide) ?_
    refine lv_irem hx hb dX12_feed_95 (by decide) ?_
    refine ztop (r := 0) (by decide) ?_
    refine lv_imul hx hb dX12_feed_96 ?_
    refine ztop (r := 0) (by decide) ?_
    refine lv_isub hx hb dX12_feed_97 ?_
    refine ztop (r := 24) (by decide) ?_
    refine lv_iushr (v := ((a2 : Int32).toUInt32 >>> ((24 : Int32).toUInt32 &&& Int32.toUInt32 31)).toInt32) hx hb dX12_feed_98 rfl ?_
    refine lv_sipush (v := 255) hx hb dX12_feed_99 (by decide) ?_
    refine lv_iand hx hb dX12_feed_102 ?_
    refine va_iast hx hb hK hP hD hS 5 0 rfl rfl (zinI (by omega) (by omega)) dX12_feed_103 (fun H locs hP hD hS => ?_)
    obtain ⟨ft_23, hzft_23, hP, hD⟩ : ∃ ft_23 : Nat → Int32, (zfp ft ft_23 tp.toInt.toNat 5 (zb20 a1 a2 a3 a4 a5)) ∧ va_P g.1 vwCl (List.flatten [bMo g o a 0 hi ac x_19 ba en tA fl de iD iO tU fm fk fa fc ft_23 ff fb fi]) H ∧ va_D A (List.flatten [bMo g o a 0 hi ac x_19 ba en tA fl de iD iO tU fm fk fa fc ft_23 ff fb fi]) := ⟨upd ft_18 x_19.toNatClampNeg ((((a2 : Int32).toUInt32 >>> ((24 : Int32).toUInt32 &&& Int32.toUInt32 31)).toInt32) &&& 255), (zfp_s (x := x_19) hzft_18 (by omega) rfl), hP, hD⟩
    refine lv_aload_n hx hb dX12_feed_104 rfl (lv_at hl 2 rfl) ?_
    refine lv_dup hx hb dX12_feed_105 rfl ?_
    refine va_get (D := g.1) (ci := 10) (v := .int x_19) (C := RX12) (T := TX12) (N := 20) hx hb hts izRX12 hown hK hP 0 rfl rfl 8 (by decide) (hts _ k873) (fun _ h9 => h9) rfl dX12_feed_106 ?_
    refine lv_iconst (v := 1) hx hb dX12_feed_109 (by decide) ?_
    refine lv_iadd hx hb dX12_feed_110 ?_
    refine zg3 (zaddK (i := x_19.toInt) (j := 1) (a' := 5) (b' := 405) rfl (by decide) hx_19.2.1 hx_19.2.2 (Int.le_refl _) (Int.le_refl _) (by decide)) (fun x_24 hx_24 => ?_)
    refine va_put (D := g.1) (ci := 10) (v := .int x_24) (ty := .int) (C := RX12) (T := TX12) (N := 20) hx hb hts izRX12 tyX12 tyX12_ok nmX12 hown hK hP hD hS 0 rfl rfl 8 (by decide) (hts _ k873) (fun _ h9 => h9) rfl (by decide +kernel) rfl rfl (Nat.le_of_ble_eq_true rfl) dX12_feed_111 (fun H locs hP hD hS => ?_)
    have hP : va_P g.1 vwCl (List.flatten [bMo g o a 0 hi ac x_24 ba en tA fl de iD iO tU fm fk fa fc ft_23 ff fb fi]) H := hP
    have hD : va_D A (List.flatten [bMo g o a 0 hi ac x_24 ba en tA fl de iD iO tU fm fk fa fc ft_23 ff fb fi]) := hD
    refine lv_iinc (v := 5) (lv' := [(6, .int 5), (7, .int a2), (0, .ref o), (1, .int a1), (2, .int a2), (3, .int a3), (4, .int a4), (5, .int a5)]) hx hb dX12_feed_114 hl (k := 1) rfl (by decide) (by decide) rfl (fun ls hl => ?_)
    refine lv_goto (tgt := 23) hx hb dX12_feed_117 (by decide) ?_
    refine lv_iload hx hb dX12_feed_23 (lv_at hl 0 rfl) ?_
    refine lv_bipush (v := 20) hx hb dX12_feed_25 (by decide) ?_
    refine lv_icmp_ge (tgt := 120) hx hb dX12_feed_27 (by decide) (fun c25 => absurd c25 (by decide)) (fun _ => ?_)
    refine lv_iload hx hb dX12_feed_30 (lv_at hl 0 rfl) ?_
    refine lv_iconst (v := 4) hx hb dX12_feed_32 (by decide) ?_
    refine lv_icmp_ge (tgt := 40) hx hb dX12_feed_33 (by decide) (fun _ => ?_) (fun c26 => absurd (by decide) c26)
    refine lv_iload hx hb dX12_feed_40 (lv_at hl 0 rfl) ?_
    refine lv_bipush (v := 8) hx hb dX12_feed_42 (by decide) ?_
    refine lv_icmp_ge (tgt := 51) hx hb dX12_feed_44 (by decide) (fun c27 => absurd c27 (by decide)) (fun _ => ?_)
    refine lv_iload_n hx hb dX12_feed_47 rfl (lv_at hl 4 rfl) ?_
    refine lv_goto (tgt := 76) hx hb dX12_feed_48 (by decide) ?_
    refine lv_istore (lv' := [(7, .int a2), (6, .int 5), (0, .ref o), (1, .int a1), (2, .int a2), (3, .int a3), (4, .int a4), (5, .int a5)]) hx hb dX12_feed_76 hl (by decide) rfl (fun ls hl => ?_)
    refine lv_aload_n hx hb dX12_feed_78 rfl (lv_at hl 2 rfl) ?_
    refine va_get (D := g.1) (ci := 10) (v := .ref (a 4)) (C := RX12) (T := TX12) (N := 20) hx hb hts izRX12 hown hK hP 0 rfl rfl 7 (by decide) (hts _ k819) (fun _ h9 => h9) rfl dX12_feed_79 ?_
    refine lv_aload_n hx hb dX12_feed_82 rfl (lv_at hl 2 rfl) ?_
    refine va_get (D := g.1) (ci := 10) (v := .int x_24) (C := RX12) (T := TX12) (N := 20) hx hb hts izRX12 hown hK hP 0 rfl rfl 8 (by decide) (hts _ k873) (fun _ h9 => h9) rfl dX12_feed_83 ?_
    refine lv_iload hx hb dX12_feed_86 (lv_at hl 0 rfl) ?_
    refine lv_bipush (v := 24) hx hb dX12_feed_88 (by decide) ?_
    refine lv_bipush (v := 8) hx hb dX12_feed_90 (by decide) ?_
    refine lv_iload hx hb dX12_feed_92 (lv_at hl 1 rfl) ?_
    refine lv_iconst (v := 4) hx hb dX12_feed_94 (by decide) ?_
    refine lv_irem hx hb dX12_feed_95 (by decide) ?_
    refine ztop (r := 1) (by decide) ?_
    refine lv_imul hx hb dX12_feed_96 ?_
    refine ztop (r := 8) (by decide) ?_
    refine lv_isub hx hb dX12_feed_97 ?_
    refine ztop (r := 16) (by decide) ?_
    refine lv_iushr (v := ((a2 : Int32).toUInt32 >>> ((16 : Int32).toUInt32 &&& Int32.toUInt32 31)).toInt32) hx hb dX12_feed_98 rfl ?_
    refine lv_sipush (v := 255) hx hb dX12_feed_99 (by decide) ?_
    refine lv_iand hx hb dX12_feed_102 ?_
    refine va_iast hx hb hK hP hD hS 5 0 rfl rfl (zinI (by omega) (by omega)) dX12_feed_103 (fun H locs hP hD hS => ?_)
    obtain ⟨ft_28, hzft_28, hP, hD⟩ : ∃ ft_28 : Nat → Int32, (zfp ft ft_28 tp.toInt.toNat 6 (zb20 a1 a2 a3 a4 a5)) ∧ va_P g.1 vwCl (List.flatten [bMo g o a 0 hi ac x_24 ba en tA fl de iD iO tU fm fk fa fc ft_28 ff fb fi]) H ∧ va_D A (List.flatten [bMo g o a 0 hi ac x_24 ba en tA fl de iD iO tU fm fk fa fc ft_28 ff fb fi]) := ⟨upd ft_23 x_24.toNatClampNeg ((((a2 : Int32).toUInt32 >>> ((16 : Int32).toUInt32 &&& Int32.toUInt32 31)).toInt32) &&& 255), (zfp_s (x := x_24) hzft_23 (by omega) rfl), hP, hD⟩
    refine lv_aload_n hx hb dX12_feed_104 rfl (lv_at hl 2 rfl) ?_
    refine lv_dup hx hb dX12_feed_105 rfl ?_
    refine va_get (D := g.1) (ci := 10) (v := .int x_24) (C := RX12) (T := TX12) (N := 20) hx hb hts izRX12 hown hK hP 0 rfl rfl 8 (by decide) (hts _ k873) (fun _ h9 => h9) rfl dX12_feed_106 ?_
    refine lv_iconst (v := 1) hx hb dX12_feed_109 (by decide) ?_
    refine lv_iadd hx hb dX12_feed_110 ?_
    refine zg3 (zaddK (i := x_24.toInt) (j := 1) (a' := 6) (b' := 406) rfl (by decide) hx_24.2.1 hx_24.2.2 (Int.le_refl _) (Int.le_refl _) (by decide)) (fun x_29 hx_29 => ?_)
    refine va_put (D := g.1) (ci := 10) (v := .int x_29) (ty := .int) (C := RX12) (T := TX12) (N := 20) hx hb hts izRX12 tyX12 tyX12_ok nmX12 hown hK hP hD hS 0 rfl rfl 8 (by decide) (hts _ k873) (fun _ h9 => h9) rfl (by decide +kernel) rfl rfl (Nat.le_of_ble_eq_true rfl) dX12_feed_111 (fun H locs hP hD hS => ?_)
    have hP : va_P g.1 vwCl (List.flatten [bMo g o a 0 hi ac x_29 ba en tA fl de iD iO tU fm fk fa fc ft_28 ff fb fi]) H := hP
    have hD : va_D A (List.flatten [bMo g o a 0 hi ac x_29 ba en tA fl de iD iO tU fm fk fa fc ft_28 ff fb fi]) := hD
    refine lv_iinc (v := 6) (lv' := [(6, .int 6), (7, .int a2), (0, .ref o), (1, .int a1), (2, .int a2), (3, .int a3), (4, .int a4), (5, .int a5)]) hx hb dX12_feed_114 hl (k := 1) rfl (by decide) (by decide) rfl (fun ls hl => ?_)
    refine lv_goto (tgt := 23) hx hb dX12_feed_117 (by decide) ?_
    refine lv_iload hx hb dX12_feed_23 (lv_at hl 0 rfl) ?_
    refine lv_bipush (v := 20) hx hb dX12_feed_25 (by decide) ?_
    refine lv_icmp_ge (tgt := 120) hx hb dX12_feed_27 (by decide) (fun c30 => absurd c30 (by decide)) (fun _ => ?_)
    refine lv_iload hx hb dX12_feed_30 (lv_at hl 0 rfl) ?_
    refine lv_iconst (v := 4) hx hb dX12_feed_32 (by decide) ?_
    refine lv_icmp_ge (tgt := 40) hx hb dX12_feed_33 (by decide) (fun _ => ?_) (fun c31 => absurd (by decide) c31)
    refine lv_iload hx hb dX12_feed_40 (lv_at hl 0 rfl) ?_
    refine lv_bipush (v := 8) hx hb dX12_feed_42 (by decide) ?_
    refine lv_icmp_ge (tgt := 51) hx hb dX12_feed_44 (by decide) (fun c32 => absurd c32 (by decide)) (fun _ => ?_)
    refine lv_iload_n hx hb dX12_feed_47 rfl (lv_at hl 4 rfl) ?_
    refine lv_goto (tgt := 76) hx hb dX12_feed_48 (by decide) ?_
    refine lv_istore (lv' := [(7, .int a2), (6, .int 6), (0, .ref o), (1, .int a1), (2, .int a2), (3, .int a3), (4, .int a4), (5, .int a5)]) hx hb dX12_feed_76 hl (by decide) rfl (fun ls hl => ?_)
    refine lv_aload_n hx hb dX12_feed_78 rfl (lv_at hl 2 rfl) ?_
    refine va_get (D := g.1) (ci := 10) (v := .ref (a 4)) (C := RX12) (T := TX12) (N := 20) hx hb hts izRX12 hown hK hP 0 rfl rfl 7 (by decide) (hts _ k819) (fun _ h9 => h9) rfl dX12_feed_79 ?_
    refine lv_aload_n hx hb dX12_feed_82 rfl (lv_at hl 2 rfl) ?_
    refine va_get (D := g.1) (ci := 10) (v := .int x_29) (C := RX12) (T := TX12) (N := 20) hx hb hts izRX12 hown hK hP 0 rfl rfl 8 (by decide) (hts _ k873) (fun _ h9 => h9) rfl dX12_feed_83 ?_
    refine lv_iload hx hb dX12_feed_86 (lv_at hl 0 rfl) ?_
    refine lv_bipush (v := 24) hx hb dX12_feed_88 (by decide) ?_
    refine lv_bipush (v := 8) hx hb dX12_feed_90 (by decide) ?_
    refine lv_iload hx hb dX12_feed_92 (lv_at hl 1 rfl) ?_
    refine lv_iconst (v := 4) hx hb dX12_feed_94 (by decide) ?_
    refine lv_irem hx hb dX12_feed_95 (by decide) ?_
    refine ztop (r := 2) (by decide) ?_
    refine lv_imul hx hb dX12_feed_96 ?_
    refine ztop (r := 16) (by decide) ?_
    refine lv_isub hx hb dX12_feed_97 ?_
    refine ztop (r := 8) (by decide) ?_
    refine lv_iushr (v := ((a2 : Int32).toUInt32 >>> ((8 : Int32).toUInt32 &&& Int32.toUInt32 31)).toInt32) hx hb dX12_feed_98 rfl ?_
    refine lv_sipush (v := 255) hx hb dX12_feed_99 (by decide) ?_
    refine lv_iand hx hb dX12_feed_102 ?_
    refine va_iast hx hb hK hP hD hS 5 0 rfl rfl (zinI (by omega) (by omega)) dX12_feed_103 (fun H locs hP hD hS => ?_)
    obtain ⟨ft_33, hzft_33, hP, hD⟩ : ∃ ft_33 : Nat → Int32, (zfp ft ft_33 tp.toInt.toNat 7 (zb20 a1 a2 a3 a4 a5)) ∧ va_P g.1 vwCl (List.flatten [bMo g o a 0 hi ac x_29 ba en tA fl de iD iO tU fm fk fa fc ft_33 ff fb fi]) H ∧ va_D A (List.flatten [bMo g o a 0 hi ac x_29 ba en tA fl de iD iO tU fm fk fa fc ft_33 ff fb fi]) := ⟨upd ft_28 x_29.toNatClampNeg ((((a2 : Int32).toUInt32 >>> ((8 : Int32).toUInt32 &&& Int32.toUInt32 31)).toInt32) &&& 255), (zfp_s (x := x_29) hzft_28 (by omega) rfl), hP, hD⟩
    refine lv_aload_n hx hb dX12_feed_104 rfl (lv_at hl 2 rfl) ?_
    refine lv_dup hx hb dX12_feed_105 rfl ?_
    refine va_get (D := g.1) (ci := 10) (v := .int x_29) (C := RX12) (T := TX12) (N := 20) hx hb hts izRX12 hown hK hP 0 rfl rfl 8 (by decide) (hts _ k873) (fun _ h9 => h9) rfl dX12_feed_106 ?_
    refine lv_iconst (v := 1) hx hb dX12_feed_109 (by decide) ?_
    refine lv_iadd hx hb dX12_feed_110 ?_
    refine zg3 (zaddK (i := x_29.toInt) (j := 1) (a' := 7) (b' := 407) rfl (by decide) hx_29.2.1 hx_29.2.2 (Int.le_refl _) (Int.le_refl _) (by decide)) (fun x_34 hx_34 => ?_)
    refine va_put (D := g.1) (ci := 10) (v := .int x_34) (ty := .int) (C := RX12) (T := TX12) (N := 20) hx hb hts izRX12 tyX12 tyX12_ok nmX12 hown hK hP hD hS 0 rfl rfl 8 (by decide) (hts _ k873) (fun _ h9 => h9) rfl (by decide +kernel) rfl rfl (Nat.le_of_ble_eq_true rfl) dX12_feed_111 (fun H locs hP hD hS => ?_)
    have hP : va_P g.1 vwCl (List.flatten [bMo g o a 0 hi ac x_34 ba en tA fl de iD iO tU fm fk fa fc ft_33 ff fb fi]) H := hP
    have hD : va_D A (List.flatten [bMo g o a 0 hi ac x_34 ba en tA fl de iD iO tU fm fk fa fc ft_33 ff fb fi]) := hD
    refine lv_iinc (v := 7) (lv' := [(6, .int 7), (7, .int a2), (0, .ref o), (1, .int a1), (2, .int a2), (3, .int a3), (4, .int a4), (5, .int a5)]) hx hb dX12_feed_114 hl (k := 1) rfl (by decide) (by decide) rfl (fun ls hl => ?_)
    refine lv_goto (tgt := 23) hx hb dX12_feed_117 (by decide) ?_
    refine lv_iload hx hb dX12_feed_23 (lv_at hl 0 rfl) ?_
    refine lv_bipush (v := 20) hx hb dX12_feed_25 (by decide) ?_
    refine lv_icmp_ge (tgt := 120) hx hb dX12_feed_27 (by decide) (fun c35 => absurd c35 (by decide)) (fun _ => ?_)
    refine lv_iload hx hb dX12_feed_30 (lv_at hl 0 rfl) ?_
    refine lv_iconst (v := 4) hx hb dX12_feed_32 (by decide) ?_
    refine lv_icmp_ge (tgt := 40) hx hb dX12_feed_33 (by decide) (fun _ => ?_) (fun c36 => absurd (by decide) c36)
    refine lv_iload hx hb dX12_feed_40 (lv_at hl 0 rfl) ?_
    refine lv_bipush (v := 8) hx hb dX12_feed_42 (by decide) ?_
    refine lv_icmp_ge (tgt := 51) hx hb dX12_feed_44 (by decide) (fun c37 => absurd c37 (by decide)) (fun _ => ?_)
    refine lv_iload_n hx hb dX12_feed_47 rfl (lv_at hl 4 rfl) ?_
    refine lv_goto (tgt := 76) hx hb dX12_feed_48 (by decide) ?_
    refine lv_istore (lv' := [(7, .int a2), (6, .int 7), (0, .ref o), (1, .int a1), (2, .int a2), (3, .int a3), (4, .int a4), (5, .int a5)]) hx hb dX12_feed_76 hl (by decide) rfl (fun ls hl => ?_)
    refine lv_aload_n hx hb dX12_feed_78 rfl (lv_at hl 2 rfl) ?_
    refine va_get (D := g.1) (ci := 10) (v := .ref (a 4)) (C := RX12) (T := TX12) (N := 20) hx hb hts izRX12 hown hK hP 0 rfl rfl 7 (by decide) (hts _ k819) (fun _ h9 => h9) rfl dX12_feed_79 ?_
    refine lv_aload_n hx hb dX12_feed_82 rfl (lv_at hl 2 rfl) ?_
    refine va_get (D := g.1) (ci := 10) (v := .int x_34) (C := RX12) (T := TX12) (N := 20) hx hb hts izRX12 hown hK hP 0 rfl rfl 8 (by decide) (hts _ k873) (fun _ h9 => h9) rfl dX12_feed_83 ?_
    refine lv_iload hx hb dX12_feed_86 (lv_at hl 0 rfl) ?_
    refine lv_bipush (v := 24) hx hb dX12_feed_88 (by decide) ?_
    refine lv_bipush (v := 8) hx hb dX12_feed_90 (by decide) ?_
    refine lv_iload hx hb dX12_feed_92 (lv_at hl 1 rfl) ?_
    refine lv_iconst (v := 4) hx hb dX12_feed_94 (by decide) ?_
    refine lv_irem hx hb dX12_feed_95 (by decide) ?_
    refine ztop (r := 3) (by decide) ?_
    refine lv_imul hx hb dX12_feed_96 ?_
    refine ztop (r := 24) (by decide) ?_
    refine lv_isub hx hb dX12_feed_97 ?_
    refine ztop (r := 0) (by decide) ?_
    refine lv_iushr (v := ((a2 : Int32).toUInt32 >>> ((0 : Int32).toUInt32 &&& Int32.toUInt32 31)).toInt32) hx hb dX12_feed_98 rfl ?_
    refine lv_sipush (v := 255) hx hb dX12_feed_99 (by decide) ?_
    refine lv_iand hx hb dX12_feed_102 ?_
    refine va_iast hx hb hK hP hD hS 5 0 rfl rfl (zinI (by omega) (by omega)) dX12_feed_103 (fun H locs hP hD hS => ?_)
    obtain ⟨ft_38, hzft_38, hP, hD⟩ : ∃ ft_38 : Nat → Int32, (zfp ft ft_38 tp.toInt.toNat 8 (zb20 a1 a2 a3 a4 a5)) ∧ va_P g.1 vwCl (List.flatten [bMo g o a 0 hi ac x_34 ba en tA fl de iD iO tU fm fk fa fc ft_38 ff fb fi]) H ∧ va_D A (List.flatten [bMo g o a 0 hi ac x_34 ba en tA fl de iD iO tU fm fk fa fc ft_38 ff fb fi]) := ⟨upd ft_33 x_34.toNatClampNeg ((((a2 : Int32).toUInt32 >>> ((0 : Int32).toUInt32 &&& Int32.toUInt32 31)).toInt32) &&& 255), (zfp_s (x := x_34) hzft_33 (by omega) rfl), hP, hD⟩
    refine lv_aload_n hx hb dX12_feed_104 rfl (lv_at hl 2 rfl) ?_
    refine lv_dup hx hb dX12_feed_105 rfl ?_
    refine va_get (D := g.1) (ci := 10) (v := .int x_34) (C := RX12) (T := TX12) (N := 20) hx hb hts izRX12 hown hK hP 0 rfl rfl 8 (by decide) (hts _ k873) (fun _ h9 => h9) rfl dX12_feed_106 ?_
    refine lv_iconst (v := 1) hx hb dX12_feed_109 (by decide) ?_
    refine lv_iadd hx hb dX12_feed_110 ?_
    refine zg3 (zaddK (i := x_34.toInt) (j := 1) (a' := 8) (b' := 408) rfl (by decide) hx_34.2.1 hx_34.2.2 (Int.le_refl _) (Int.le_refl _) (by decide)) (fun x_39 hx_39 => ?_)
    refine va_put (D := g.1) (ci := 10) (v := .int x_39) (ty := .int) (C := RX12) (T := TX12) (N := 20) hx hb hts izRX12 tyX12 tyX12_ok nmX12 hown hK hP hD hS 0 rfl rfl 8 (by decide) (hts _ k873) (fun _ h9 => h9) rfl (by decide +kernel) rfl rfl (Nat.le_of_ble_eq_true rfl) dX12_feed_111 (fun H locs hP hD hS => ?_)
    have hP : va_P g.1 vwCl (List.flatten [bMo g o a 0 hi ac x_39 ba en tA fl de iD iO tU fm fk fa fc ft_38 ff fb fi]) H := hP
    have hD : va_D A (List.flatten [bMo g o a 0 hi ac x_39 ba en tA fl de iD iO tU fm fk fa fc ft_38 ff fb fi]) := hD
    refine lv_iinc (v := 8) (lv' := [(6, .int 8), (7, .int a2), (0, .ref o), (1, .int a1), (2, .int a2), (3, .int a3), (4, .int a4), (5, .int a5)]) hx hb dX12_feed_114 hl (k := 1) rfl (by decide) (by decide) rfl (fun ls hl => ?_)
    refine lv_goto (tgt := 23) hx hb dX12_feed_117 (by decide) ?_
    refine lv_iload hx hb dX12_feed_23 (lv_at hl 0 rfl) ?_
    refine lv_bipush (v := 20) hx hb dX12_feed_25 (by decide) ?_
    refine lv_icmp_ge (tgt := 120) hx hb dX12_feed_27 (by decide) (fun c40 => absurd c40 (by decide)) (fun _ => ?_)
    refine lv_iload hx hb dX12_feed_30 (lv_at hl 0 rfl) ?_
    refine lv_iconst (v := 4) hx hb dX12_feed_32 (by decide) ?_
    refine lv_icmp_ge (tgt := 40) hx hb dX12_feed_33 (by decide) (fun _ => ?_) (fun c41 => absurd (by decide) c41)
    refine lv_iload hx hb dX12_feed_40 (lv_at hl 0 rfl) ?_
    refine lv_bipush (v := 8) hx hb dX12_feed_42 (by decide) ?_
    refine lv_icmp_ge (tgt := 51) hx hb dX12_feed_44 (by decide) (fun _ => ?_) (fun c42 => absurd (by decide) c42)
    refine lv_iload hx hb dX12_feed_51 (lv_at hl 0 rfl) ?_
    refine lv_bipush (v := 12) hx hb dX12_feed_53 (by decide) ?_
    refine lv_icmp_ge (tgt := 62) hx hb dX12_feed_55 (by decide) (fun c43 => absurd c43 (by decide)) (fun _ => ?_)
    refine lv_iload_n hx hb dX12_feed_58 rfl (lv_at hl 5 rfl) ?_
    refine lv_goto (tgt := 76) hx hb dX12_feed_59 (by decide) ?_
    refine lv_istore (lv' := [(7, .int a3), (6, .int 8), (0, .ref o), (1, .int a1), (2, .int a2), (3, .int a3), (4, .int a4), (5, .int a5)]) hx hb dX12_feed_76 hl (by decide) rfl (fun ls hl => ?_)
    refine lv_aload_n hx hb dX12_feed_78 rfl (lv_at hl 2 rfl) ?_
    refine va_get (D := g.1) (ci := 10) (v := .ref (a 4)) (C := RX12) (T := TX12) (N := 20) hx hb hts izRX12 hown hK hP 0 rfl rfl 7 (by decide) (hts _ k819) (fun _ h9 => h9) rfl dX12_feed_79 ?_
    refine lv_aload_n hx hb dX12_feed_82 rfl (lv_at hl 2 rfl) ?_
    refine va_get (D := g.1) (ci := 10) (v := .int x_39) (C := RX12) (T := TX12) (N := 20) hx hb hts izRX12 hown hK hP 0 rfl rfl 8 (by decide) (hts _ k873) (fun _ h9 => h9) rfl dX12_feed_83 ?_
    refine lv_iload hx hb dX12_feed_86 (lv_at hl 0 rfl) ?_
    refine lv_bipush (v := 24) hx hb dX12_feed_88 (by decide) ?_
    refine lv_bipush (v := 8) hx hb dX12_feed_90 (by decide) ?_
    refine lv_iload hx hb dX12_feed_92 (lv_at hl 1 rfl) ?_
    refine lv_iconst (v := 4) hx hb dX12_feed_94 (by decide) ?_
    refine lv_irem hx hb dX12_feed_95 (by decide) ?_
    refine ztop (r := 0) (by decide) ?_
    refine lv_imul hx hb dX12_feed_96 ?_
    refine ztop (r := 0) (by decide) ?_
    refine lv_isub hx hb dX12_feed_97 ?_
    refine ztop (r := 24) (by decide) ?_
    refine lv_iushr (v := ((a3 : Int32).toUInt32 >>> ((24 : Int32).toUInt32 &&& Int32.toUInt32 31)).toInt32) hx hb dX12_feed_98 rfl ?_
    refine lv_sipush (v := 255) hx hb dX12_feed_99 (by decide) ?_
    refine lv_iand hx hb dX12_feed_102 ?_
    refine va_iast hx hb hK hP hD hS 5 0 rfl rfl (zinI (by omega) (by omega)) dX12_feed_103 (fun H locs hP hD hS => ?_)
    obtain ⟨ft_44, hzft_44, hP, hD⟩ : ∃ ft_44 : Nat → Int32, (zfp ft ft_44 tp.toInt.toNat 9 (zb20 a1 a2 a3 a4 a5)) ∧ va_P g.1 vwCl (List.flatten [bMo g o a 0 hi ac x_39 ba en tA fl de iD iO tU fm fk fa fc ft_44 ff fb fi]) H ∧ va_D A (List.flatten [bMo g o a 0 hi ac x_39 ba en tA fl de iD iO tU fm fk fa fc ft_44 ff fb fi]) := ⟨upd ft_38 x_39.toNatClampNeg ((((a3 : Int32).toUInt32 >>> ((24 : Int32).toUInt32 &&& Int32.toUInt32 31)).toInt32) &&& 255), (zfp_s (x := x_39) hzft_38 (by omega) rfl), hP, hD⟩
    refine lv_aload_n hx hb dX12_feed_104 rfl (lv_at hl 2 rfl) ?_
    refine lv_dup hx hb dX12_feed_105 rfl ?_
    refine va_get (D := g.1) (ci := 10) (v := .int x_39) (C := RX12) (T := TX12) (N := 20) hx hb hts izRX12 hown hK hP 0 rfl rfl 8 (by decide) (hts _ k873) (fun _ h9 => h9) rfl dX12_feed_106 ?_
    refine lv_iconst (v := 1) hx hb dX12_feed_109 (by decide) ?_
    refine lv_iadd hx hb dX12_feed_110 ?_
    refine zg3 (zaddK (i := x_39.toInt) (j := 1) (a' := 9) (b' := 409) rfl (by decide) hx_39.2.1 hx_39.2.2 (Int.le_refl _) (Int.le_refl _) (by decide)) (fun x_45 hx_45 => ?_)
    refine va_put (D := g.1) (ci := 10) (v := .int x_45) (ty := .int) (C := RX12) (T := TX12) (N := 20) hx hb hts izRX12 tyX12 tyX12_ok nmX12 hown hK hP hD hS 0 rfl rfl 8 (by decide) (hts _ k873) (fun _ h9 => h9) rfl (by decide +kernel) rfl rfl (Nat.le_of_ble_eq_true rfl) dX12_feed_111 (fun H locs hP hD hS => ?_)
    have hP : va_P g.1 vwCl (List.flatten [bMo g o a 0 hi ac x_45 ba en tA fl de iD iO tU fm fk fa fc ft_44 ff fb fi]) H := hP
    have hD : va_D A (List.flatten [bMo g o a 0 hi ac x_45 ba en tA fl de iD iO tU fm fk fa fc ft_44 ff fb fi]) := hD
    refine lv_iinc (v := 9) (lv' := [(6, .int 9), (7, .int a3), (0, .ref o), (1, .int a1), (2, .int a2), (3, .int a3), (4, .int a4), (5, .int a5)]) hx hb dX12_feed_114 hl (k := 1) rfl (by decide) (by decide) rfl (fun ls hl => ?_)
    refine lv_goto (tgt := 23) hx hb dX12_feed_117 (by decide) ?_
    refine lv_iload hx hb dX12_feed_23 (lv_at hl 0 rfl) ?_
    refine lv_bipush (v := 20) hx hb dX12_feed_25 (by decide) ?_
    refine lv_icmp_ge (tgt := 120) hx hb dX12_feed_27 (by decide) (fun c46 => absurd c46 (by decide)) (fun _ => ?_)
    refine lv_iload hx hb dX12_feed_30 (lv_at hl 0 rfl) ?_
    refine lv_iconst (v := 4) hx hb dX12_feed_32 (by decide) ?_
    refine lv_icmp_ge (tgt := 40) hx hb dX12_feed_33 (by decide) (fun _ => ?_) (fun c47 => absurd (by decide) c47)
    refine lv_iload hx hb dX12_feed_40 (lv_at hl 0 rfl) ?_
    refine lv_bipush (v := 8) hx hb dX12_feed_42 (by decide) ?_
    refine lv_icmp_ge (tgt := 51) hx hb dX12_feed_44 (by decide) (fun _ => ?_) (fun c48 => absurd (by decide) c48)
    refine lv_iload hx hb dX12_feed_51 (lv_at hl 0 rfl) ?_
    refine lv_bipush (v := 12) hx hb dX12_feed_53 (by decide) ?_
    refine lv_icmp_ge (tgt := 62) hx hb dX12_feed_55 (by decide) (fun c49 => absurd c49 (by decide)) (fun _ => ?_)
    refine lv_iload_n hx hb dX12_feed_58 rfl (lv_at hl 5 rfl) ?_
    refine lv_goto (tgt := 76) hx hb dX12_feed_59 (by decide) ?_
    refine lv_istore (lv' := [(7, .int a3), (6, .int 9), (0, .ref o), (1, .int a1), (2, .int a2), (3, .int a3), (4, .int a4), (5, .int a5)]) hx hb dX12_feed_76 hl (by decide) rfl (fun ls hl => ?_)
    refine lv_aload_n hx hb dX12_feed_78 rfl (lv_at hl 2 rfl) ?_
    refine va_get (D := g.1) (ci := 10) (v := .ref (a 4)) (C := RX12) (T := TX12) (N := 20) hx hb hts izRX12 hown hK hP 0 rfl rfl 7 (by decide) (hts _ k819) (fun _ h9 => h9) rfl dX12_feed_79 ?_
    refine lv_aload_n hx hb dX12_feed_82 rfl (lv_at hl 2 rfl) ?_
    refine va_get (D := g.1) (ci := 10) (v := .int x_45) (C := RX12) (T := TX12) (N := 20) hx hb hts izRX12 hown hK hP 0 rfl rfl 8 (by decide) (hts _ k873) (fun _ h9 => h9) rfl dX12_feed_83 ?_
    refine lv_iload hx hb dX12_feed_86 (lv_at hl 0 rfl) ?_
    refine lv_bipush (v := 24) hx hb dX12_feed_88 (by decide) ?_
    refine lv_bipush (v := 8) hx hb dX12_feed_90 (by decide) ?_
    refine lv_iload hx hb dX12_feed_92 (lv_at hl 1 rfl) ?_
    refine lv_iconst (v := 4) hx hb dX12_feed_94 (by decide) ?_
    refine lv_irem hx hb dX12_feed_95 (by decide) ?_
    refine ztop (r := 1) (by decide) ?_
    refine lv_imul hx hb dX12_feed_96 ?_
    refine ztop (r := 8) (by decide) ?_
    refine lv_isub hx hb dX12_feed_97 ?_
    refine ztop (r := 16) (by decide) ?_
    refine lv_iushr (v := ((a3 : Int32).toUInt32 >>> ((16 : Int32).toUInt32 &&& Int32.toUInt32 31)).toInt32) hx hb dX12_feed_98 rfl ?_
    refine lv_sipush (v := 255) hx hb dX12_feed_99 (by decide) ?_
    refine lv_iand hx hb dX12_feed_102 ?_
    refine va_iast hx hb hK hP hD hS 5 0 rfl rfl (zinI (by omega) (by omega)) dX12_feed_103 (fun H locs hP hD hS => ?_)
    obtain ⟨ft_50, hzft_50, hP, hD⟩ : ∃ ft_50 : Nat → Int32, (zfp ft ft_50 tp.toInt.toNat 10 (zb20 a1 a2 a3 a4 a5)) ∧ va_P g.1 vwCl (List.flatten [bMo g o a 0 hi ac x_45 ba en tA fl de iD iO tU fm fk fa fc ft_50 ff fb fi]) H ∧ va_D A (List.flatten [bMo g o a 0 hi ac x_45 ba en tA fl de iD iO tU fm fk fa fc ft_50 ff fb fi]) := ⟨upd ft_44 x_45.toNatClampNeg ((((a3 : Int32).toUInt32 >>> ((16 : Int32).toUInt32 &&& Int32.toUInt32 31)).toInt32) &&& 255), (zfp_s (x := x_45) hzft_44 (by omega) rfl), hP, hD⟩
    refine lv_aload_n hx hb dX12_feed_104 rfl (lv_at hl 2 rfl) ?_
    refine lv_dup hx hb dX12_feed_105 rfl ?_
    refine va_get (D := g.1) (ci := 10) (v := .int x_45) (C := RX12) (T := TX12) (N := 20) hx hb hts izRX12 hown hK hP 0 rfl rfl 8 (by decide) (hts _ k873) (fun _ h9 => h9) rfl dX12_feed_106 ?_
    refine lv_iconst (v := 1) hx hb dX12_feed_109 (by decide) ?_
    refine lv_iadd hx hb dX12_feed_110 ?_
    refine zg3 (zaddK (i := x_45.toInt) (j := 1) (a' := 10) (b' := 410) rfl (by decide) hx_45.2.1 hx_45.2.2 (Int.le_refl _) (Int.le_refl _) (by decide)) (fun x_51 hx_51 => ?_)
    refine va_put (D := g.1) (ci := 10) (v := .int x_51) (ty := .int) (C := RX12) (T := TX12) (N := 20) hx hb hts izRX12 tyX12 tyX12_ok nmX12 hown hK hP hD hS 0 rfl rfl 8 (by decide) (hts _ k873) (fun _ h9 => h9) rfl (by decide +kernel) rfl rfl (Nat.le_of_ble_eq_true rfl) dX12_feed_111 (fun H locs hP hD hS => ?_)
    have hP : va_P g.1 vwCl (List.flatten [bMo g o a 0 hi ac x_51 ba en tA fl de iD iO tU fm fk fa fc ft_50 ff fb fi]) H := hP
    have hD : va_D A (List.flatten [bMo g o a 0 hi ac x_51 ba en tA fl de iD iO tU fm fk fa fc ft_50 ff fb fi]) := hD
    refine lv_iinc (v := 10) (lv' := [(6, .int 10), (7, .int a3), (0, .ref o), (1, .int a1), (2, .int a2), (3, .int a3), (4, .int a4), (5, .int a5)]) hx hb dX12_feed_114 hl (k := 1) rfl (by decide) (by decide) rfl (fun ls hl => ?_)
    refine lv_goto (tgt := 23) hx hb dX12_feed_117 (by decide) ?_
    refine lv_iload hx hb dX12_feed_23 (lv_at hl 0 rfl) ?_
    refine lv_bipush (v := 20) hx hb dX12_feed_25 (by decide) ?_
    refine lv_icmp_ge (tgt := 120) hx hb dX12_feed_27 (by decide) (fun c52 => absurd c52 (by decide)) (fun _ => ?_)
    refine lv_iload hx hb dX12_feed_30 (lv_at hl 0 rfl) ?_
    refine lv_iconst (v := 4) hx hb dX12_feed_32 (by decide) ?_
    refine lv_icmp_ge (tgt := 40) hx hb dX12_feed_33 (by decide) (fun _ => ?_) (fun c53 => absurd (by decide) c53)
    refine lv_iload hx hb dX12_feed_40 (lv_at hl 0 rfl) ?_
    refine lv_bipush (v := 8) hx hb dX12_feed_42 (by decide) ?_
    refine lv_icmp_ge (tgt := 51) hx hb dX12_feed_44 (by decide) (fun _ => ?_) (fun c54 => absurd (by decide) c54)
    refine lv_iload hx hb dX12_feed_51 (lv_at hl 0 rfl) ?_
    refine lv_bipush (v := 12) hx hb dX12_feed_53 (by decide) ?_
    refine lv_icmp_ge (tgt := 62) hx hb dX12_feed_55 (by decide) (fun c55 => absurd c55 (by decide)) (fun _ => ?_)
    refine lv_iload_n hx hb dX12_feed_58 rfl (lv_at hl 5 rfl) ?_
    refine lv_goto (tgt := 76) hx hb dX12_feed_59 (by decide) ?_
    refine lv_istore (lv' := [(7, .int a3), (6, .int 10), (0, .ref o), (1, .int a1), (2, .int a2), (3, .int a3), (4, .int a4), (5, .int a5)]) hx hb dX12_feed_76 hl (by decide) rfl (fun ls hl => ?_)
    refine lv_aload_n hx hb dX12_feed_78 rfl (lv_at hl 2 rfl) ?_
    refine va_get (D := g.1) (ci := 10) (v := .ref (a 4)) (C := RX12) (T := TX12) (N := 20) hx hb hts izRX12 hown hK hP 0 rfl rfl 7 (by decide) (hts _ k819) (fun _ h9 => h9) rfl dX12_feed_79 ?_
    refine lv_aload_n hx hb dX12_feed_82 rfl (lv_at hl 2 rfl) ?_
    refine va_get (D := g.1) (ci := 10) (v := .int x_51) (C := RX12) (T := TX12) (N := 20) hx hb hts izRX12 hown hK hP 0 rfl rfl 8 (by decide) (hts _ k873) (fun _ h9 => h9) rfl dX12_feed_83 ?_
    refine lv_iload hx hb dX12_feed_86 (lv_at hl 0 rfl) ?_
    refine lv_bipush (v := 24) hx hb dX12_feed_88 (by decide) ?_
    refine lv_bipush (v := 8) hx hb dX12_feed_90 (by decide) ?_
    refine lv_iload hx hb dX12_feed_92 (lv_at hl 1 rfl) ?_
    refine lv_iconst (v := 4) hx hb dX12_feed_94 (by decide) ?_
    refine lv_irem hx hb dX12_feed_95 (by decide) ?_
    refine ztop (r := 2) (by decide) ?_
    refine lv_imul hx hb dX12_feed_96 ?_
    refine ztop (r := 16) (by decide) ?_
    refine lv_isub hx hb dX12_feed_97 ?_
    refine ztop (r := 8) (by decide) ?_
    refine lv_iushr (v := ((a3 : Int32).toUInt32 >>> ((8 : Int32).toUInt32 &&& Int32.toUInt32 31)).toInt32) hx hb dX12_feed_98 rfl ?_
    refine lv_sipush (v := 255) hx hb dX12_feed_99 (by decide) ?_
    refine lv_iand hx hb dX12_feed_102 ?_
    refine va_iast hx hb hK hP hD hS 5 0 rfl rfl (zinI (by omega) (by omega)) dX12_feed_103 (fun H locs hP hD hS => ?_)
    obtain ⟨ft_56, hzft_56, hP, hD⟩ : ∃ ft_56 : Nat → Int32, (zfp ft ft_56 tp.toInt.toNat 11 (zb20 a1 a2 a3 a4 a5)) ∧ va_P g.1 vwCl (List.flatten [bMo g o a 0 hi ac x_51 ba en tA fl de iD iO tU fm fk fa fc ft_56 ff fb fi]) H ∧ va_D A (List.flatten [bMo g o a 0 hi ac x_51 ba en tA fl de iD iO tU fm fk fa fc ft_56 ff fb fi]) := ⟨upd ft_50 x_51.toNatClampNeg ((((a3 : Int32).toUInt32 >>> ((8 : Int32).toUInt32 &&& Int32.toUInt32 31)).toInt32) &&& 255), (zfp_s (x := x_51) hzft_50 (by omega) rfl), hP, hD⟩
    refine lv_aload_n hx hb dX12_feed_104 rfl (lv_at hl 2 rfl) ?_
    refine lv_dup hx hb dX12_feed_105 rfl ?_
    refine va_get (D := g.1) (ci := 10) (v := .int x_51) (C := RX12) (T := TX12) (N := 20) hx hb hts izRX12 hown hK hP 0 rfl rfl 8 (by decide) (hts _ k873) (fun _ h9 => h9) rfl dX12_feed_106 ?_
    refine lv_iconst (v := 1) hx hb dX12_feed_109 (by decide) ?_
    refine lv_iadd hx hb dX12_feed_110 ?_
    refine zg3 (zaddK (i := x_51.toInt) (j := 1) (a' := 11) (b' := 411) rfl (by decide) hx_51.2.1 hx_51.2.2 (Int.le_refl _) (Int.le_refl _) (by decide)) (fun x_57 hx_57 => ?_)
    refine va_put (D := g.1) (ci := 10) (v := .int x_57) (ty := .int) (C := RX12) (T := TX12) (N := 20) hx hb hts izRX12 tyX12 tyX12_ok nmX12 hown hK hP hD hS 0 rfl rfl 8 (by decide) (hts _ k873) (fun _ h9 => h9) rfl (by decide +kernel) rfl rfl (Nat.le_of_ble_eq_true rfl) dX12_feed_111 (fun H locs hP hD hS => ?_)
    have hP : va_P g.1 vwCl (List.flatten [bMo g o a 0 hi ac x_57 ba en tA fl de iD iO tU fm fk fa fc ft_56 ff fb fi]) H := hP
    have hD : va_D A (List.flatten [bMo g o a 0 hi ac x_57 ba en tA fl de iD iO tU fm fk fa fc ft_56 ff fb fi]) := hD
    refine lv_iinc (v := 11) (lv' := [(6, .int 11), (7, .int a3), (0, .ref o), (1, .int a1), (2, .int a2), (3, .int a3), (4, .int a4), (5, .int a5)]) hx hb dX12_feed_114 hl (k := 1) rfl (by decide) (by decide) rfl (fun ls hl => ?_)
    refine lv_goto (tgt := 23) hx hb dX12_feed_117 (by decide) ?_
    refine lv_iload hx hb dX12_feed_23 (lv_at hl 0 rfl) ?_
    refine lv_bipush (v := 20) hx hb dX12_feed_25 (by decide) ?_
    refine lv_icmp_ge (tgt := 120) hx hb dX12_feed_27 (by decide) (fun c58 => absurd c58 (by decide)) (fun _ => ?_)
    refine lv_iload hx hb dX12_feed_30 (lv_at hl 0 rfl) ?_
    refine lv_iconst (v := 4) hx hb dX12_feed_32 (by decide) ?_
    refine lv_icmp_ge (tgt := 40) hx hb dX12_feed_33 (by decide) (fun _ => ?_) (fun c59 => absurd (by decide) c59)
    refine lv_iload hx hb dX12_feed_40 (lv_at hl 0 rfl) ?_
    refine lv_bipush (v := 8) hx hb dX12_feed_42 (by decide) ?_
    refine lv_icmp_ge (tgt := 51) hx hb dX12_feed_44 (by decide) (fun _ => ?_) (fun c60 => absurd (by decide) c60)
    refine lv_iload hx hb dX12_feed_51 (lv_at hl 0 rfl) ?_
    refine lv_bipush (v := 12) hx hb dX12_feed_53 (by decide) ?_
    refine lv_icmp_ge (tgt := 62) hx hb dX12_feed_55 (by decide) (fun c61 => absurd c61 (by decide)) (fun _ => ?_)
    refine lv_iload_n hx hb dX12_feed_58 rfl (lv_at hl 5 rfl) ?_
    refine lv_goto (tgt := 76) hx hb dX12_feed_59 (by decide) ?_
    refine lv_istore (lv' := [(7, .int a3), (6, .int 11), (0, .ref o), (1, .int a1), (2, .int a2), (3, .int a3), (4, .int a4), (5, .int a5)]) hx hb dX12_feed_76 hl (by decide) rfl (fun ls hl => ?_)
    refine lv_aload_n hx hb dX12_feed_78 rfl (lv_at hl 2 rfl) ?_
    refine va_get (D := g.1) (ci := 10) (v := .ref (a 4)) (C := RX12) (T := TX12) (N := 20) hx hb hts izRX12 hown hK hP 0 rfl rfl 7 (by decide) (hts _ k819) (fun _ h9 => h9) rfl dX12_feed_79 ?_
    refine lv_aload_n hx hb dX12_feed_82 rfl (lv_at hl 2 rfl) ?_
    refine va_get (D := g.1) (ci := 10) (v := .int x_57) (C := RX12) (T := TX12) (N := 20) hx hb hts izRX12 hown hK hP 0 rfl rfl 8 (by decide) (hts _ k873) (fun _ h9 => h9) rfl dX12_feed_83 ?_
    refine lv_iload hx hb dX12_feed_86 (lv_at hl 0 rfl) ?_
    refine lv_bipush (v := 24) hx hb dX12_feed_88 (by decide) ?_
    refine lv_bipush (v := 8) hx hb dX12_feed_90 (by decide) ?_
    refine lv_iload hx hb dX12_feed_92 (lv_at hl 1 rfl) ?_
    refine lv_iconst (v := 4) hx hb dX12_feed_94 (by decide) ?_
    refine lv_irem hx hb dX12_feed_95 (by decide) ?_
    refine ztop (r := 3) (by decide) ?_
    refine lv_imul hx hb dX12_feed_96 ?_
    refine ztop (r := 24) (by decide) ?_
    refine lv_isub hx hb dX12_feed_97 ?_
    refine ztop (r := 0) (by decide) ?_
    refine lv_iushr (v := ((a3 : Int32).toUInt32 >>> ((0 : Int32).toUInt32 &&& Int32.toUInt32 31)).toInt32) hx hb dX12_feed_98 rfl ?_
    refine lv_sipush (v := 255) hx hb dX12_feed_99 (by decide) ?_
    refine lv_iand hx hb dX12_feed_102 ?_
    refine va_iast hx hb hK hP hD hS 5 0 rfl rfl (zinI (by omega) (by omega)) dX12_feed_103 (fun H locs hP hD hS => ?_)
    obtain ⟨ft_62, hzft_62, hP, hD⟩ : ∃ ft_62 : Nat → Int32, (zfp ft ft_62 tp.toInt.toNat 12 (zb20 a1 a2 a3 a4 a5)) ∧ va_P g.1 vwCl (List.flatten [bMo g o a 0 hi ac x_57 ba en tA fl de iD iO tU fm fk fa fc ft_62 ff fb fi]) H ∧ va_D A (List.flatten [bMo g o a 0 hi ac x_57 ba en tA fl de iD iO tU fm fk fa fc ft_62 ff fb fi]) := ⟨upd ft_56 x_57.toNatClampNeg ((((a3 : Int32).toUInt32 >>> ((0 : Int32).toUInt32 &&& Int32.toUInt32 31)).toInt32) &&& 255), (zfp_s (x := x_57) hzft_56 (by omega) rfl), hP, hD⟩
    refine lv_aload_n hx hb dX12_feed_104 rfl (lv_at hl 2 rfl) ?_
    refine lv_dup hx hb dX12_feed_105 rfl ?_
    refine va_get (D := g.1) (ci := 10) (v := .int x_57) (C := RX12) (T := TX12) (N := 20) hx hb hts izRX12 hown hK hP 0 rfl rfl 8 (by decide) (hts _ k873) (fun _ h9 => h9) rfl dX12_feed_106 ?_
    refine lv_iconst (v := 1) hx hb dX12_feed_109 (by decide) ?_
    refine lv_iadd hx hb dX12_feed_110 ?_
    refine zg3 (zaddK (i := x_57.toInt) (j := 1) (a' := 12) (b' := 412) rfl (by decide) hx_57.2.1 hx_57.2.2 (Int.le_refl _) (Int.le_refl _) (by decide)) (fun x_63 hx_63 => ?_)
    refine va_put (D := g.1) (ci := 10) (v := .int x_63) (ty := .int) (C := RX12) (T := TX12) (N := 20) hx hb hts izRX12 tyX12 tyX12_ok nmX12 hown hK hP hD hS 0 rfl rfl 8 (by decide) (hts _ k873) (fun _ h9 => h9) rfl (by decide +kernel) rfl rfl (Nat.le_of_ble_eq_true rfl) dX12_feed_111 (fun H locs hP hD hS => ?_)
    have hP : va_P g.1 vwCl (List.flatten [bMo g o a 0 hi ac x_63 ba en tA fl de iD iO tU fm fk fa fc ft_62 ff fb fi]) H := hP
    have hD : va_D A (List.flatten [bMo g o a 0 hi ac x_63 ba en tA fl de iD iO tU fm fk fa fc ft_62 ff fb fi]) := hD
    refine lv_iinc (v := 12) (lv' := [(6, .int 12), (7, .int a3), (0, .ref o), (1, .int a1), (2, .int a2), (3, .int a3), (4, .int a4), (5, .int a5)]) hx hb dX12_feed_114 hl (k := 1) rfl (by decide) (by decide) rfl (fun ls hl => ?_)
    refine lv_goto (tgt := 23) hx hb dX12_feed_117 (by decide) ?_
    refine lv_iload hx hb dX12_feed_23 (lv_at hl 0 rfl) ?_
    refine lv_bipush (v := 20) hx hb dX12_feed_25 (by decide) ?_
    refine lv_icmp_ge (tgt := 120) hx hb dX12_feed_27 (by decide) (fun c64 => absurd c64 (by decide)) (fun _ => ?_)
    refine lv_iload hx hb dX12_feed_30 (lv_at hl 0 rfl) ?_
    refine lv_iconst (v := 4) hx hb dX12_feed_32 (by decide) ?_
    refine lv_icmp_ge (tgt := 40) hx hb dX12_feed_33 (by decide) (fun _ => ?_) (fun c65 => absurd (by decide) c65)
    refine lv_iload hx hb dX12_feed_40 (lv_at hl 0 rfl) ?_
    refine lv_bipush (v := 8) hx hb dX12_feed_42 (by decide) ?_
    refine lv_icmp_ge (tgt := 51) hx hb dX12_feed_44 (by decide) (fun _ => ?_) (fun c66 => absurd (by decide) c66)
    refine lv_iload hx hb dX12_feed_51 (lv_at hl 0 rfl) ?_
    refine lv_bipush (v := 12) hx hb dX12_feed_53 (by decide) ?_
    refine lv_icmp_ge (tgt := 62) hx hb dX12_feed_55 (by decide) (fun _ => ?_) (fun c67 => absurd (by decide) c67)
    refine lv_iload hx hb dX12_feed_62 (lv_at hl 0 rfl) ?_
    refine lv_bipush (v := 16) hx hb dX12_feed_64 (by decide) ?_
    refine lv_icmp_ge (tgt := 74) hx hb dX12_feed_66 (by decide) (fun c68 => absurd c68 (by decide)) (fun _ => ?_)
    refine lv_iload hx hb dX12_feed_69 (lv_at hl 6 rfl) ?_
    refine lv_goto (tgt := 76) hx hb dX12_feed_71 (by decide) ?_
    refine lv_istore (lv' := [(7, .int a4), (6, .int 12), (0, .ref o), (1, .int a1), (2, .int a2), (3, .int a3), (4, .int a4), (5, .int a5)]) hx hb dX12_feed_76 hl (by decide) rfl (fun ls hl => ?_)
    refine lv_aload_n hx hb dX12_feed_78 rfl (lv_at hl 2 rfl) ?_
    refine va_get (D := g.1) (ci := 10) (v := .ref (a 4)) (C := RX12) (T := TX12) (N := 20) hx hb hts izRX12 hown hK hP 0 rfl rfl 7 (by decide) (hts _ k819) (fun _ h9 => h9) rfl dX12_feed_79 ?_
    refine lv_aload_n hx hb dX12_feed_82 rfl (lv_at hl 2 rfl) ?_
    refine va_get (D := g.1) (ci := 10) (v := .int x_63) (C := RX12) (T := TX12) (N := 20) hx hb hts izRX12 hown hK hP 0 rfl rfl 8 (by decide) (hts _ k873) (fun _ h9 => h9) rfl dX12_feed_83 ?_
    refine lv_iload hx hb dX12_feed_86 (lv_at hl 0 rfl) ?_
    refine lv_bipush (v := 24) hx hb dX12_feed_88 (by decide) ?_
    refine lv_bipush (v := 8) hx hb dX12_feed_90 (by decide) ?_
    refine lv_iload hx hb dX12_feed_92 (lv_at hl 1 rfl) ?_
    refine lv_iconst (v := 4) hx hb dX12_feed_94 (by decide) ?_
    refine lv_irem hx hb dX12_feed_95 (by decide) ?_
    refine ztop (r := 0) (by decide) ?_
    refine lv_imul hx hb dX12_feed_96 ?_
    refine ztop (r := 0) (by decide) ?_
    refine lv_isub hx hb dX12_feed_97 ?_
    refine ztop (r := 24) (by decide) ?_
    refine lv_iushr (v := ((a4 : Int32).toUInt32 >>> ((24 : Int32).toUInt32 &&& Int32.toUInt32 31)).toInt32) hx hb dX12_feed_98 rfl ?_
    refine lv_sipush (v := 255) hx hb dX12_feed_99 (by decide) ?_
    refine lv_iand hx hb dX12_feed_102 ?_
    refine va_iast hx hb hK hP hD hS 5 0 rfl rfl (zinI (by omega) (by omega)) dX12_feed_103 (fun H locs hP hD hS => ?_)
    obtain ⟨ft_69, hzft_69, hP, hD⟩ : ∃ ft_69 : Nat → Int32, (zfp ft ft_69 tp.toInt.toNat 13 (zb20 a1 a2 a3 a4 a5)) ∧ va_P g.1 vwCl (List.flatten [bMo g o a 0 hi ac x_63 ba en tA fl de iD iO tU fm fk fa fc ft_69 ff fb fi]) H ∧ va_D A (List.flatten [bMo g o a 0 hi ac x_63 ba en tA fl de iD iO tU fm fk fa fc ft_69 ff fb fi]) := ⟨upd ft_62 x_63.toNatClampNeg ((((a4 : Int32).toUInt32 >>> ((24 : Int32).toUInt32 &&& Int32.toUInt32 31)).toInt32) &&& 255), (zfp_s (x := x_63) hzft_62 (by omega) rfl), hP, hD⟩
    refine lv_aload_n hx hb dX12_feed_104 rfl (lv_at hl 2 rfl) ?_
    refine lv_dup hx hb dX12_feed_105 rfl ?_
    refine va_get (D := g.1) (ci := 10) (v := .int x_63) (C := RX12) (T := TX12) (N := 20) hx hb hts izRX12 hown hK hP 0 rfl rfl 8 (by decide) (hts _ k873) (fun _ h9 => h9) rfl dX12_feed_106 ?_
    refine lv_iconst (v := 1) hx hb dX12_feed_109 (by decide) ?_
    refine lv_iadd hx hb dX12_feed_110 ?_
    refine zg3 (zaddK (i := x_63.toInt) (j := 1) (a' := 13) (b' := 413) rfl (by decide) hx_63.2.1 hx_63.2.2 (Int.le_refl _) (Int.le_refl _) (by decide)) (fun x_70 hx_70 => ?_)
    refine va_put (D := g.1) (ci := 10) (v := .int x_70) (ty := .int) (C := RX12) (T := TX12) (N := 20) hx hb hts izRX12 tyX12 tyX12_ok nmX12 hown hK hP hD hS 0 rfl rfl 8 (by decide) (hts _ k873) (fun _ h9 => h9) rfl (by decide +kernel) rfl rfl (Nat.le_of_ble_eq_true rfl) dX12_feed_111 (fun H locs hP hD hS => ?_)
    have hP : va_P g.1 vwCl (List.flatten [bMo g o a 0 hi ac x_70 ba en tA fl de iD iO tU fm fk fa fc ft_69 ff fb fi]) H := hP
    have hD : va_D A (List.flatten [bMo g o a 0 hi ac x_70 ba en tA fl de iD iO tU fm fk fa fc ft_69 ff fb fi]) := hD
    refine lv_iinc (v := 13) (lv' := [(6, .int 13), (7, .int a4), (0, .ref o), (1, .int a1), (2, .int a2), (3, .int a3), (4, .int a4), (5, .int a5)]) hx hb dX12_feed_114 hl (k := 1) rfl (by decide) (by decide) rfl (fun ls hl => ?_)
    refine lv_goto (tgt := 23) hx hb dX12_feed_117 (by decide) ?_
    refine lv_iload hx hb dX12_feed_23 (lv_at hl 0 rfl) ?_
    refine lv_bipush (v := 20) hx hb dX12_feed_25 (by decide) ?_
    refine lv_icmp_ge (tgt := 120) hx hb dX12_feed_27 (by decide) (fun c71 => absurd c71 (by decide)) (fun _ => ?_)
    refine lv_iload hx hb dX12_feed_30 (lv_at hl 0 rfl) ?_
    refine lv_iconst (v := 4) hx hb dX12_feed_32 (by decide) ?_
    refine lv_icmp_ge (tgt := 40) hx hb dX12_feed_33 (by decide) (fun _ => ?_) (fun c72 => absurd (by decide) c72)
    refine lv_iload hx hb dX12_feed_40 (lv_at hl 0 rfl) ?_
    refine lv_bipush (v := 8) hx hb dX12_feed_42 (by decide) ?_
    refine lv_icmp_ge (tgt := 51) hx hb dX12_feed_44 (by decide) (fun _ => ?_) (fun c73 => absurd (by decide) c73)
    refine lv_iload hx hb dX12_feed_51 (lv_at hl 0 rfl) ?_
    refine lv_bipush (v := 12) hx hb dX12_feed_53 (by decide) ?_
    refine lv_icmp_ge (tgt := 62) hx hb dX12_feed_55 (by decide) (fun _ => ?_) (fun c74 => absurd (by decide) c74)
    refine lv_iload hx hb dX12_feed_62 (lv_at hl 0 rfl) ?_
    refine lv_bipush (v := 16) hx hb dX12_feed_64 (by decide) ?_
    refine lv_icmp_ge (tgt := 74) hx hb dX12_feed_66 (by decide) (fun c75 => absurd c75 (by decide)) (fun _ => ?_)
    refine lv_iload hx hb dX12_feed_69 (lv_at hl 6 rfl) ?_
    refine lv_goto (tgt := 76) hx hb dX12_feed_71 (by decide) ?_
    refine lv_istore (lv' := [(7, .int a4), (6, .int 13), (0, .ref o), (1, .int a1), (2, .int a2), (3, .int a3), (4, .int a4), (5, .int a5)]) hx hb dX12_feed_76 hl (by decide) rfl (fun ls hl => ?_)
    refine lv_aload_n hx hb dX12_feed_78 rfl (lv_at hl 2 rfl) ?_
    refine va_get (D := g.1) (ci := 10) (v := .ref (a 4)) (C := RX12) (T := TX12) (N := 20) hx hb hts izRX12 hown hK hP 0 rfl rfl 7 (by decide) (hts _ k819) (fun _ h9 => h9) rfl dX12_feed_79 ?_
    refine lv_aload_n hx hb dX12_feed_82 rfl (lv_at hl 2 rfl) ?_
    refine va_get (D := g.1) (ci := 10) (v := .int x_70) (C := RX12) (T := TX12) (N := 20) hx hb hts izRX12 hown hK hP 0 rfl rfl 8 (by decide) (hts _ k873) (fun _ h9 => h9) rfl dX12_feed_83 ?_
    refine lv_iload hx hb dX12_feed_86 (lv_at hl 0 rfl) ?_
    refine lv_bipush (v := 24) hx hb dX12_feed_88 (by decide) ?_
    refine lv_bipush (v := 8) hx hb dX12_feed_90 (by decide) ?_
    refine lv_iload hx hb dX12_feed_92 (lv_at hl 1 rfl) ?_
    refine lv_iconst (v := 4) hx hb dX12_feed_94 (by decide) ?_
    refine lv_irem hx hb dX12_feed_95 (by decide) ?_
    refine ztop (r := 1) (by decide) ?_
    refine lv_imul hx hb dX12_feed_96 ?_
    refine ztop (r := 8) (by decide) ?_
    refine lv_isub hx hb dX12_feed_97 ?_
    refine ztop (r := 16) (by decide) ?_
    refine lv_iushr (v := ((a4 : Int32).toUInt32 >>> ((16 : Int32).toUInt32 &&& Int32.toUInt32 31)).toInt32) hx hb dX12_feed_98 rfl ?_
    refine lv_sipush (v := 255) hx hb dX12_feed_99 (by decide) ?_
    refine lv_iand hx hb dX12_feed_102 ?_
    refine va_iast hx hb hK hP hD hS 5 0 rfl rfl (zinI (by omega) (by omega)) dX12_feed_103 (fun H locs hP hD hS => ?_)
    obtain ⟨ft_76, hzft_76, hP, hD⟩ : ∃ ft_76 : Nat → Int32, (zfp ft ft_76 tp.toInt.toNat 14 (zb20 a1 a2 a3 a4 a5)) ∧ va_P g.1 vwCl (List.flatten [bMo g o a 0 hi ac x_70 ba en tA fl de iD iO tU fm fk fa fc ft_76 ff fb fi]) H ∧ va_D A (List.flatten [bMo g o a 0 hi ac x_70 ba en tA fl de iD iO tU fm fk fa fc ft_76 ff fb fi]) := ⟨upd ft_69 x_70.toNatClampNeg ((((a4 : Int32).toUInt32 >>> ((16 : Int32).toUInt32 &&& Int32.toUInt32 31)).toInt32) &&& 255), (zfp_s (x := x_70) hzft_69 (by omega) rfl), hP, hD⟩
    refine lv_aload_n hx hb dX12_feed_104 rfl (lv_at hl 2 rfl) ?_
    refine lv_dup hx hb dX12_feed_105 rfl ?_
    refine va_get (D := g.1) (ci := 10) (v := .int x_70) (C := RX12) (T := TX12) (N := 20) hx hb hts izRX12 hown hK hP 0 rfl rfl 8 (by decide) (hts _ k873) (fun _ h9 => h9) rfl dX12_feed_106 ?_
    refine lv_iconst (v := 1) hx hb dX12_feed_109 (by decide) ?_
    refine lv_iadd hx hb dX12_feed_110 ?_
    refine zg3 (zaddK (i := x_70.toInt) (j := 1) (a' := 14) (b' := 414) rfl (by decide) hx_70.2.1 hx_70.2.2 (Int.le_refl _) (Int.le_refl _) (by decide)) (fun x_77 hx_77 => ?_)
    refine va_put (D := g.1) (ci := 10) (v := .int x_77) (ty := .int) (C := RX12) (T := TX12) (N := 20) hx hb hts izRX12 tyX12 tyX12_ok nmX12 hown hK hP hD hS 0 rfl rfl 8 (by decide) (hts _ k873) (fun _ h9 => h9) rfl (by decide +kernel) rfl rfl (Nat.le_of_ble_eq_true rfl) dX12_feed_111 (fun H locs hP hD hS => ?_)
    have hP : va_P g.1 vwCl (List.flatten [bMo g o a 0 hi ac x_77 ba en tA fl de iD iO tU fm fk fa fc ft_76 ff fb fi]) H := hP
    have hD : va_D A (List.flatten [bMo g o a 0 hi ac x_77 ba en tA fl de iD iO tU fm fk fa fc ft_76 ff fb fi]) := hD
    refine lv_iinc (v := 14) (lv' := [(6, .int 14), (7, .int a4), (0, .ref o), (1, .int a1), (2, .int a2), (3, .int a3), (4, .int a4), (5, .int a5)]) hx hb dX12_feed_114 hl (k := 1) rfl (by decide) (by decide) rfl (fun ls hl => ?_)
    refine lv_goto (tgt := 23) hx hb dX12_feed_117 (by decide) ?_
    refine lv_iload hx hb dX12_feed_23 (lv_at hl 0 rfl) ?_
    refine lv_bipush (v := 20) hx hb dX12_feed_25 (by decide) ?_
    refine lv_icmp_ge (tgt := 120) hx hb dX12_feed_27 (by decide) (fun c78 => absurd c78 (by decide)) (fun _ => ?_)
    refine lv_iload hx hb dX12_feed_30 (lv_at hl 0 rfl) ?_
    refine lv_iconst (v := 4) hx hb dX12_feed_32 (by decide) ?_
    refine lv_icmp_ge (tgt := 40) hx hb dX12_feed_33 (by decide) (fun _ => ?_) (fun c79 => absurd (by decide) c79)
    refine lv_iload hx hb dX12_feed_40 (lv_at hl 0 rfl) ?_
    refine lv_bipush (v := 8) hx hb dX12_feed_42 (by decide) ?_
    refine lv_icmp_ge (tgt := 51) hx hb dX12_feed_44 (by decide) (fun _ => ?_) (fun c80 => absurd (by decide) c80)
    refine lv_iload hx hb dX12_feed_51 (lv_at hl 0 rfl) ?_
    refine lv_bipush (v := 12) hx hb dX12_feed_53 (by decide) ?_
    refine lv_icmp_ge (tgt := 62) hx hb dX12_feed_55 (by decide) (fun _ => ?_) (fun c81 => absurd (by decide) c81)
    refine lv_iload hx hb dX12_feed_62 (lv_at hl 0 rfl) ?_
    refine lv_bipush (v := 16) hx hb dX12_feed_64 (by decide) ?_
    refine lv_icmp_ge (tgt := 74) hx hb dX12_feed_66 (by decide) (fun c82 => absurd c82 (by decide)) (fun _ => ?_)
    refine lv_iload hx hb dX12_feed_69 (lv_at hl 6 rfl) ?_
    refine lv_goto (tgt := 76) hx hb dX12_feed_71 (by decide) ?_
    refine lv_istore (lv' := [(7, .int a4), (6, .int 14), (0, .ref o), (1, .int a1), (2, .int a2), (3, .int a3), (4, .int a4), (5, .int a5)]) hx hb dX12_feed_76 hl (by decide) rfl (fun ls hl => ?_)
    refine lv_aload_n hx hb dX12_feed_78 rfl (lv_at hl 2 rfl) ?_
    refine va_get (D := g.1) (ci := 10) (v := .ref (a 4)) (C := RX12) (T := TX12) (N := 20) hx hb hts izRX12 hown hK hP 0 rfl rfl 7 (by decide) (hts _ k819) (fun _ h9 => h9) rfl dX12_feed_79 ?_
    refine lv_aload_n hx hb dX12_feed_82 rfl (lv_at hl 2 rfl) ?_
    refine va_get (D := g.1) (ci := 10) (v := .int x_77) (C := RX12) (T := TX12) (N := 20) hx hb hts izRX12 hown hK hP 0 rfl rfl 8 (by decide) (hts _ k873) (fun _ h9 => h9) rfl dX12_feed_83 ?_
    refine lv_iload hx hb dX12_feed_86 (lv_at hl 0 rfl) ?_
    refine lv_bipush (v := 24) hx hb dX12_feed_88 (by decide) ?_
    refine lv_bipush (v := 8) hx hb dX12_feed_90 (by decide) ?_
    refine lv_iload hx hb dX12_feed_92 (lv_at hl 1 rfl) ?_
    refine lv_iconst (v := 4) hx hb dX12_feed_94 (by decide) ?_
    refine lv_irem hx hb dX12_feed_95 (by decide) ?_
    refine ztop (r := 2) (by decide) ?_
    refine lv_imul hx hb dX12_feed_96 ?_
    refine ztop (r := 16) (by decide) ?_
    refine lv_isub hx hb dX12_feed_97 ?_
    refine ztop (r := 8) (by decide) ?_
    refine lv_iushr (v := ((a4 : Int32).toUInt32 >>> ((8 : Int32).toUInt32 &&& Int32.toUInt32 31)).toInt32) hx hb dX12_feed_98 rfl ?_
    refine lv_sipush (v := 255) hx hb dX12_feed_99 (by decide) ?_
    refine lv_iand hx hb dX12_feed_102 ?_
    refine va_iast hx hb hK hP hD hS 5 0 rfl rfl (zinI (by omega) (by omega)) dX12_feed_103 (fun H locs hP hD hS => ?_)
    obtain ⟨ft_83, hzft_83, hP, hD⟩ : ∃ ft_83 : Nat → Int32, (zfp ft ft_83 tp.toInt.toNat 15 (zb20 a1 a2 a3 a4 a5)) ∧ va_P g.1 vwCl (List.flatten [bMo g o a 0 hi ac x_77 ba en tA fl de iD iO tU fm fk fa fc ft_83 ff fb fi]) H ∧ va_D A (List.flatten [bMo g o a 0 hi ac x_77 ba en tA fl de iD iO tU fm fk fa fc ft_83 ff fb fi]) := ⟨upd ft_76 x_77.toNatClampNeg ((((a4 : Int32).toUInt32 >>> ((8 : Int32).toUInt32 &&& Int32.toUInt32 31)).toInt32) &&& 255), (zfp_s (x := x_77) hzft_76 (by omega) rfl), hP, hD⟩
    refine lv_aload_n hx hb dX12_feed_104 rfl (lv_at hl 2 rfl) ?_
    refine lv_dup hx hb dX12_feed_105 rfl ?_
    refine va_get (D := g.1) (ci := 10) (v := .int x_77) (C := RX12) (T := TX12) (N := 20) hx hb hts izRX12 hown hK hP 0 rfl rfl 8 (by decide) (hts _ k873) (fun _ h9 => h9) rfl dX12_feed_106 ?_
    refine lv_iconst (v := 1) hx hb dX12_feed_109 (by decide) ?_
    refine lv_iadd hx hb dX12_feed_110 ?_
    refine zg3 (zaddK (i := x_77.toInt) (j := 1) (a' := 15) (b' := 415) rfl (by decide) hx_77.2.1 hx_77.2.2 (Int.le_refl _) (Int.le_refl _) (by decide)) (fun x_84 hx_84 => ?_)
    refine va_put (D := g.1) (ci := 10) (v := .int x_84) (ty := .int) (C := RX12) (T := TX12) (N := 20) hx hb hts izRX12 tyX12 tyX12_ok nmX12 hown hK hP hD hS 0 rfl rfl 8 (by decide) (hts _ k873) (fun _ h9 => h9) rfl (by decide +kernel) rfl rfl (Nat.le_of_ble_eq_true rfl) dX12_feed_111 (fun H locs hP hD hS => ?_)
    have hP : va_P g.1 vwCl (List.flatten [bMo g o a 0 hi ac x_84 ba en tA fl de iD iO tU fm fk fa fc ft_83 ff fb fi]) H := hP
    have hD : va_D A (List.flatten [bMo g o a 0 hi ac x_84 ba en tA fl de iD iO tU fm fk fa fc ft_83 ff fb fi]) := hD
    refine lv_iinc (v := 15) (lv' := [(6, .int 15), (7, .int a4), (0, .ref o), (1, .int a1), (2, .int a2), (3, .int a3), (4, .int a4), (5, .int a5)]) hx hb dX12_feed_114 hl (k := 1) rfl (by decide) (by decide) rfl (fun ls hl => ?_)
    refine lv_goto (tgt := 23) hx hb dX12_feed_117 (by decide) ?_
    refine lv_iload hx hb dX12_feed_23 (lv_at hl 0 rfl) ?_
    refine lv_bipush (v := 20) hx hb dX12_feed_25 (by decide) ?_
    refine lv_icmp_ge (tgt := 120) hx hb dX12_feed_27 (by decide) (fun c85 => absurd c85 (by decide)) (fun _ => ?_)
    refine lv_iload hx hb dX12_feed_30 (lv_at hl 0 rfl) ?_
    refine lv_iconst (v := 4) hx hb dX12_feed_32 (by decide) ?_
    refine lv_icmp_ge (tgt := 40) hx hb dX12_feed_33 (by decide) (fun _ => ?_) (fun c86 => absurd (by decide) c86)
    refine lv_iload hx hb dX12_feed_40 (lv_at hl 0 rfl) ?_
    refine lv_bipush (v := 8) hx hb dX12_feed_42 (by decide) ?_
    refine lv_icmp_ge (tgt := 51) hx hb dX12_feed_44 (by decide) (fun _ => ?_) (fun c87 => absurd (by decide) c87)
    refine lv_iload hx hb dX12_feed_51 (lv_at hl 0 rfl) ?_
    refine lv_bipush (v := 12) hx hb dX12_feed_53 (by decide) ?_
    refine lv_icmp_ge (tgt := 62) hx hb dX12_feed_55 (by decide) (fun _ => ?_) (fun c88 => absurd (by decide) c88)
    refine lv_iload hx hb dX12_feed_62 (lv_at hl 0 rfl) ?_
    refine lv_bipush (v := 16) hx hb dX12_feed_64 (by decide) ?_
    refine lv_icmp_ge (tgt := 74) hx hb dX12_feed_66 (by decide) (fun c89 => absurd c89 (by decide)) (fun _ => ?_)
    refine lv_iload hx hb dX12_feed_69 (lv_at hl 6 rfl) ?_
    refine lv_goto (tgt := 76) hx hb dX12_feed_71 (by decide) ?_
    refine lv_istore (lv' := [(7, .int a4), (6, .int 15), (0, .ref o), (1, .int a1), (2, .int a2), (3, .int a3), (4, .int a4), (5, .int a5)]) hx hb dX12_feed_76 hl (by decide) rfl (fun ls hl => ?_)
    refine lv_aload_n hx hb dX12_feed_78 rfl (lv_at hl 2 rfl) ?_
    refine va_get (D := g.1) (ci := 10) (v := .ref (a 4)) (C := RX12) (T := TX12) (N := 20) hx hb hts izRX12 hown hK hP 0 rfl rfl 7 (by decide) (hts _ k819) (fun _ h9 => h9) rfl dX12_feed_79 ?_
    refine lv_aload_n hx hb dX12_feed_82 rfl (lv_at hl 2 rfl) ?_
    refine va_get (D := g.1) (ci := 10) (v := .int x_84) (C := RX12) (T := TX12) (N := 20) hx hb hts izRX12 hown hK hP 0 rfl rfl 8 (by decide) (hts _ k873) (fun _ h9 => h9) rfl dX12_feed_83 ?_
    refine lv_iload hx hb dX12_feed_86 (lv_at hl 0 rfl) ?_
    refine lv_bipush (v := 24) hx hb dX12_feed_88 (by decide) ?_
    refine lv_bipush (v := 8) hx hb dX12_feed_90 (by decide) ?_
    refine lv_iload hx hb dX12_feed_92 (lv_at hl 1 rfl) ?_
    refine lv_iconst (v := 4) hx hb dX12_feed_94 (by decide) ?_
    refine lv_irem hx hb dX12_feed_95 (by decide) ?_
    refine ztop (r := 3) (by decide) ?_
    refine lv_imul hx hb dX12_feed_96 ?_
    refine ztop (r := 24) (by decide) ?_
    refine lv_isub hx hb dX12_feed_97 ?_
    refine ztop (r := 0) (by decide) ?_
    refine lv_iushr (v := ((a4 : Int32).toUInt32 >>> ((0 : Int32).toUInt32 &&& Int32.toUInt32 31)).toInt32) hx hb dX12_feed_98 rfl ?_
    refine lv_sipush (v := 255) hx hb dX12_feed_99 (by decide) ?_
    refine lv_iand hx hb dX12_feed_102 ?_
    refine va_iast hx hb hK hP hD hS 5 0 rfl rfl (zinI (by omega) (by omega)) dX12_feed_103 (fun H locs hP hD hS => ?_)
    obtain ⟨ft_90, hzft_90, hP, hD⟩ : ∃ ft_90 : Nat → Int32, (zfp ft ft_90 tp.toInt.toNat 16 (zb20 a1 a2 a3 a4 a5)) ∧ va_P g.1 vwCl (List.flatten [bMo g o a 0 hi ac x_84 ba en tA fl de iD iO tU fm fk fa fc ft_90 ff fb fi]) H ∧ va_D A (List.flatten [bMo g o a 0 hi ac x_84 ba en tA fl de iD iO tU fm fk fa fc ft_90 ff fb fi]) := ⟨upd ft_83 x_84.toNatClampNeg ((((a4 : Int32).toUInt32 >>> ((0 : Int32).toUInt32 &&& Int32.toUInt32 31)).toInt32) &&& 255), (zfp_s (x := x_84) hzft_83 (by omega) rfl), hP, hD⟩
    refine lv_aload_n hx hb dX12_feed_104 rfl (lv_at hl 2 rfl) ?_
    refine lv_dup hx hb dX12_feed_105 rfl ?_
    refine va_get (D := g.1) (ci := 10) (v := .int x_84) (C := RX12) (T := TX12) (N := 20) hx hb hts izRX12 hown hK hP 0 rfl rfl 8 (by decide) (hts _ k873) (fun _ h9 => h9) rfl dX12_feed_106 ?_
    refine lv_iconst (v := 1) hx hb dX12_feed_109 (by decide) ?_
    refine lv_iadd hx hb dX12_feed_110 ?_
    refine zg3 (zaddK (i := x_84.toInt) (j := 1) (a' := 16) (b' := 416) rfl (by decide) hx_84.2.1 hx_84.2.2 (Int.le_refl _) (Int.le_refl _) (by decide)) (fun x_91 hx_91 => ?_)
    refine va_put (D := g.1) (ci := 10) (v := .int x_91) (ty := .int) (C := RX12) (T := TX12) (N := 20) hx hb hts izRX12 tyX12 tyX12_ok nmX12 hown hK hP hD hS 0 rfl rfl 8 (by decide) (hts _ k873) (fun _ h9 => h9) rfl (by decide +kernel) rfl rfl (Nat.le_of_ble_eq_true rfl) dX12_feed_111 (fun H locs hP hD hS => ?_)
    have hP : va_P g.1 vwCl (List.flatten [bMo g o a 0 hi ac x_91 ba en tA fl de iD iO tU fm fk fa fc ft_90 ff fb fi]) H := hP
    have hD : va_D A (List.flatten [bMo g o a 0 hi ac x_91 ba en tA fl de iD iO tU fm fk fa fc ft_90 ff fb fi]) := hD
    refine lv_iinc (v := 16) (lv' := [(6, .int 16), (7, .int a4), (0, .ref o), (1, .int a1), (2, .int a2), (3, .int a3), (4, .int a4), (5, .int a5)]) hx hb dX12_feed_114 hl (k := 1) rfl (by decide) (by decide) rfl (fun ls hl => ?_)
    refine lv_goto (tgt := 23) hx hb dX12_feed_117 (by decide) ?_
    refine lv_iload hx hb dX12_feed_23 (lv_at hl 0 rfl) ?_
    refine lv_bipush (v := 20) hx hb dX12_feed_25 (by decide) ?_
    refine lv_icmp_ge (tgt := 120) hx hb dX12_feed_27 (by decide) (fun c92 => absurd c92 (by decide)) (fun _ => ?_)
    refine lv_iload hx hb dX12_feed_30 (lv_at hl 0 rfl) ?_
    refine lv_iconst (v := 4) hx hb dX12_feed_32 (by decide) ?_
    refine lv_icmp_ge (tgt := 40) hx hb dX12_feed_33 (by decide) (fun _ => ?_) (fun c93 => absurd (by decide) c93)
    refine lv_iload hx hb dX12_feed_40 (lv_at hl 0 rfl) ?_
    refine lv_bipush (v := 8) hx hb dX12_feed_42 (by decide) ?_
    refine lv_icmp_ge (tgt := 51) hx hb dX12_feed_44 (by decide) (fun _ => ?_) (fun c94 => absurd (by decide) c94)
    refine lv_iload hx hb dX12_feed_51 (lv_at hl 0 rfl) ?_
    refine lv_bipush (v := 12) hx hb dX12_feed_53 (by decide) ?_
    refine lv_icmp_ge (tgt := 62) hx hb dX12_feed_55 (by decide) (fun _ => ?_) (fun c95 => absurd (by decide) c95)
    refine lv_iload hx hb dX12_feed_62 (lv_at hl 0 rfl) ?_
    refine lv_bipush (v := 16) hx hb dX12_feed_64 (by decide) ?_
    refine lv_icmp_ge (tgt := 74) hx hb dX12_feed_66 (by decide) (fun _ => ?_) (fun c96 => absurd (by decide) c96)
    refine lv_iload hx hb dX12_feed_74 (lv_at hl 7 rfl) ?_
    refine lv_istore (lv' := [(7, .int a5), (6, .int 16), (0, .ref o), (1, .int a1), (2, .int a2), (3, .int a3), (4, .int a4), (5, .int a5)]) hx hb dX12_feed_76 hl (by decide) rfl (fun ls hl => ?_)
    refine lv_aload_n hx hb dX12_feed_78 rfl (lv_at hl 2 rfl) ?_
    refine va_get (D := g.1) (ci := 10) (v := .ref (a 4)) (C := RX12) (T := TX12) (N := 20) hx hb hts izRX12 hown hK hP 0 rfl rfl 7 (by decide) (hts _ k819) (fun _ h9 => h9) rfl dX12_feed_79 ?_
    refine lv_aload_n hx hb dX12_feed_82 rfl (lv_at hl 2 rfl) ?_
    refine va_get (D := g.1) (ci := 10) (v := .int x_91) (C := RX12) (T := TX12) (N := 20) hx hb hts izRX12 hown hK hP 0 rfl rfl 8 (by decide) (hts _ k873) (fun _ h9 => h9) rfl dX12_feed_83 ?_
    refine lv_iload hx hb dX12_feed_86 (lv_at hl 0 rfl) ?_
    refine lv_bipush (v := 24) hx hb dX12_feed_88 (by decide) ?_
    refine lv_bipush (v := 8) hx hb dX12_feed_90 (by decide) ?_
    refine lv_iload hx hb dX12_feed_92 (lv_at hl 1 rfl) ?_
    refine lv_iconst (v := 4) hx hb dX12_feed_94 (by decide) ?_
    refine lv_irem hx hb dX12_feed_95 (by decide) ?_
    refine ztop (r := 0) (by decide) ?_
    refine lv_imul hx hb dX12_feed_96 ?_
    refine ztop (r := 0) (by decide) ?_
    refine lv_isub hx hb dX12_feed_97 ?_
    refine ztop (r := 24) (by decide) ?_
    refine lv_iushr (v := ((a5 : Int32).toUInt32 >>> ((24 : Int32).toUInt32 &&& Int32.toUInt32 31)).toInt32) hx hb dX12_feed_98 rfl ?_
    refine lv_sipush (v := 255) hx hb dX12_feed_99 (by decide) ?_
    refine lv_iand hx hb dX12_feed_102 ?_
    refine va_iast hx hb hK hP hD hS 5 0 rfl rfl (zinI (by omega) (by omega)) dX12_feed_103 (fun H locs hP hD hS => ?_)
    obtain ⟨ft_97, hzft_97, hP, hD⟩ : ∃ ft_97 : Nat → Int32, (zfp ft ft_97 tp.toInt.toNat 17 (zb20 a1 a2 a3 a4 a5)) ∧ va_P g.1 vwCl (List.flatten [bMo g o a 0 hi ac x_91 ba en tA fl de iD iO tU fm fk fa fc ft_97 ff fb fi]) H ∧ va_D A (List.flatten [bMo g o a 0 hi ac x_91 ba en tA fl de iD iO tU fm fk fa fc ft_97 ff fb fi]) := ⟨upd ft_90 x_91.toNatClampNeg ((((a5 : Int32).toUInt32 >>> ((24 : Int32).toUInt32 &&& Int32.toUInt32 31)).toInt32) &&& 255), (zfp_s (x := x_91) hzft_90 (by omega) rfl), hP, hD⟩
    refine lv_aload_n hx hb dX12_feed_104 rfl (lv_at hl 2 rfl) ?_
    refine lv_dup hx hb dX12_feed_105 rfl ?_
    refine va_get (D := g.1) (ci := 10) (v := .int x_91) (C := RX12) (T := TX12) (N := 20) hx hb hts izRX12 hown hK hP 0 rfl rfl 8 (by decide) (hts _ k873) (fun _ h9 => h9) rfl dX12_feed_106 ?_
    refine lv_iconst (v := 1) hx hb dX12_feed_109 (by decide) ?_
    refine lv_iadd hx hb dX12_feed_110 ?_
    refine zg3 (zaddK (i := x_91.toInt) (j := 1) (a' := 17) (b' := 417) rfl (by decide) hx_91.2.1 hx_91.2.2 (Int.le_refl _) (Int.le_refl _) (by decide)) (fun x_98 hx_98 => ?_)
    refine va_put (D := g.1) (ci := 10) (v := .int x_98) (ty := .int) (C := RX12) (T := TX12) (N := 20) hx hb hts izRX12 tyX12 tyX12_ok nmX12 hown hK hP hD hS 0 rfl rfl 8 (by decide) (hts _ k873) (fun _ h9 => h9) rfl (by decide +kernel) rfl rfl (Nat.le_of_ble_eq_true rfl) dX12_feed_111 (fun H locs hP hD hS => ?_)
    have hP : va_P g.1 vwCl (List.flatten [bMo g o a 0 hi ac x_98 ba en tA fl de iD iO tU fm fk fa fc ft_97 ff fb fi]) H := hP
    have hD : va_D A (List.flatten [bMo g o a 0 hi ac x_98 ba en tA fl de iD iO tU fm fk fa fc ft_97 ff fb fi]) := hD
    refine lv_iinc (v := 17) (lv' := [(6, .int 17), (7, .int a5), (0, .ref o), (1, .int a1), (2, .int a2), (3, .int a3), (4, .int a4), (5, .int a5)]) hx hb dX12_feed_114 hl (k := 1) rfl (by decide) (by decide) rfl (fun ls hl => ?_)
    refine lv_goto (tgt := 23) hx hb dX12_feed_117 (by decide) ?_
    refine lv_iload hx hb dX12_feed_23 (lv_at hl 0 rfl) ?_
    refine lv_bipush (v := 20) hx hb dX12_feed_25 (by decide) ?_
    refine lv_icmp_ge (tgt := 120) hx hb dX12_feed_27 (by decide) (fun c99 => absurd c99 (by decide)) (fun _ => ?_)
    refine lv_iload hx hb dX12_feed_30 (lv_at hl 0 rfl) ?_
    refine lv_iconst (v := 4) hx hb dX12_feed_32 (by decide) ?_
    refine lv_icmp_ge (tgt := 40) hx hb dX12_feed_33 (by decide) (fun _ => ?_) (fun c100 => absurd (by decide) c100)
    refine lv_iload hx hb dX12_feed_40 (lv_at hl 0 rfl) ?_
    refine lv_bipush (v := 8) hx hb dX12_feed_42 (by decide) ?_
    refine lv_icmp_ge (tgt := 51) hx hb dX12_feed_44 (by decide) (fun _ => ?_) (fun c101 => absurd (by decide) c101)
    refine lv_iload hx hb dX12_feed_51 (lv_at hl 0 rfl) ?_
    refine lv_bipush (v := 12) hx hb dX12_feed_53 (by decide) ?_
    refine lv_icmp_ge (tgt := 62) hx hb dX12_feed_55 (by decide) (fun _ => ?_) (fun c102 => absurd (by decide) c102)
    refine lv_iload hx hb dX12_feed_62 (lv_at hl 0 rfl) ?_
    refine lv_bipush (v := 16) hx hb dX12_feed_64 (by decide) ?_
    refine lv_icmp_ge (tgt := 74) hx hb dX12_feed_66 (by decide) (fun _ => ?_) (fun c103 => absurd (by decide) c103)
    refine lv_iload hx hb dX12_feed_74 (lv_at hl 7 rfl) ?_
    refine lv_istore (lv' := [(7, .int a5), (6, .int 17), (0, .ref o), (1, .int a1), (2, .int a2), (3, .int a3), (4, .int a4), (5, .int a5)]) hx hb dX12_feed_76 hl (by decide) rfl (fun ls hl => ?_)
    refine lv_aload_n hx hb dX12_feed_78 rfl (lv_at hl 2 rfl) ?_
    refine va_get (D := g.1) (ci := 10) (v := .ref (a 4)) (C := RX12) (T := TX12) (N := 20) hx hb hts izRX12 hown hK hP 0 rfl rfl 7 (by decide) (hts _ k819) (fun _ h9 => h9) rfl dX12_feed_79 ?_
    refine lv_aload_n hx hb dX12_feed_82 rfl (lv_at hl 2 rfl) ?_
    refine va_get (D := g.1) (ci := 10) (v := .int x_98) (C := RX12) (T := TX12) (N := 20) hx hb hts izRX12 hown hK hP 0 rfl rfl 8 (by decide) (hts _ k873) (fun _ h9 => h9) rfl dX12_feed_83 ?_
    refine lv_iload hx hb dX12_feed_86 (lv_at hl 0 rfl) ?_
    refine lv_bipush (v := 24) hx hb dX12_feed_88 (by decide) ?_
    refine lv_bipush (v := 8) hx hb dX12_feed_90 (by decide) ?_
    refine lv_iload hx hb dX12_feed_92 (lv_at hl 1 rfl) ?_
    refine lv_iconst (v := 4) hx hb dX12_feed_94 (by decide) ?_
    refine lv_irem hx hb dX12_feed_95 (by decide) ?_
    refine ztop (r := 1) (by decide) ?_
    refine lv_imul hx hb dX12_feed_96 ?_
    refine ztop (r := 8) (by decide) ?_
    refine lv_isub hx hb dX12_feed_97 ?_
    refine ztop (r := 16) (by decide) ?_
    refine lv_iushr (v := ((a5 : Int32).toUInt32 >>> ((16 : Int32).toUInt32 &&& Int32.toUInt32 31)).toInt32) hx hb dX12_feed_98 rfl ?_
    refine lv_sipush (v := 255) hx hb dX12_feed_99 (by decide) ?_
    refine lv_iand hx hb dX12_feed_102 ?_
    refine va_iast hx hb hK hP hD hS 5 0 rfl rfl (zinI (by omega) (by omega)) dX12_feed_103 (fun H locs hP hD hS => ?_)
    obtain ⟨ft_104, hzft_104, hP, hD⟩ : ∃ ft_104 : Nat → Int32, (zfp ft ft_104 tp.toInt.toNat 18 (zb20 a1 a2 a3 a4 a5)) ∧ va_P g.1 vwCl (List.flatten [bMo g o a 0 hi ac x_98 ba en tA fl de iD iO tU fm fk fa fc ft_104 ff fb fi]) H ∧ va_D A (List.flatten [bMo g o a 0 hi ac x_98 ba en tA fl de iD iO tU fm fk fa fc ft_104 ff fb fi]) := ⟨upd ft_97 x_98.toNatClampNeg ((((a5 : Int32).toUInt32 >>> ((16 : Int32).toUInt32 &&& Int32.toUInt32 31)).toInt32) &&& 255), (zfp_s (x := x_98) hzft_97 (by omega) rfl), hP, hD⟩
    refine lv_aload_n hx hb dX12_feed_104 rfl (lv_at hl 2 rfl) ?_
    refine lv_dup hx hb dX12_feed_105 rfl ?_
    refine va_get (D := g.1) (ci := 10) (v := .int x_98) (C := RX12) (T := TX12) (N := 20) hx hb hts izRX12 hown hK hP 0 rfl rfl 8 (by decide) (hts _ k873) (fun _ h9 => h9) rfl dX12_feed_106 ?_
    refine lv_iconst (v := 1) hx hb dX12_feed_109 (by decide) ?_
    refine lv_iadd hx hb dX12_feed_110 ?_
    refine zg3 (zaddK (i := x_98.toInt) (j := 1) (a' := 18) (b' := 418) rfl (by decide) hx_98.2.1 hx_98.2.2 (Int.le_refl _) (Int.le_refl _) (by decide)) (fun x_105 hx_105 => ?_)
    refine va_put (D := g.1) (ci := 10) (v := .int x_105) (ty := .int) (C := RX12) (T := TX12) (N := 20) hx hb hts izRX12 tyX12 tyX12_ok nmX12 hown hK hP hD hS 0 rfl rfl 8 (by decide) (hts _ k873) (fun _ h9 => h9) rfl (by decide +kernel) rfl rfl (Nat.le_of_ble_eq_true rfl) dX12_feed_111 (fun H locs hP hD hS => ?_)
    have hP : va_P g.1 vwCl (List.flatten [bMo g o a 0 hi ac x_105 ba en tA fl de iD iO tU fm fk fa fc ft_104 ff fb fi]) H := hP
    have hD : va_D A (List.flatten [bMo g o a 0 hi ac x_105 ba en tA fl de iD iO tU fm fk fa fc ft_104 ff fb fi]) := hD
    refine lv_iinc (v := 18) (lv' := [(6, .int 18), (7, .int a5), (0, .ref o), (1, .int a1), (2, .int a2), (3, .int a3), (4, .int a4), (5, .int a5)]) hx hb dX12_feed_114 hl (k := 1) rfl (by decide) (by decide) rfl (fun ls hl => ?_)
    refine lv_goto (tgt := 23) hx hb dX12_feed_117 (by decide) ?_
    refine lv_iload hx hb dX12_feed_23 (lv_at hl 0 rfl) ?_
    refine lv_bipush (v := 20) hx hb dX12_feed_25 (by decide) ?_
    refine lv_icmp_ge (tgt := 120) hx hb dX12_feed_27 (by decide) (fun c106 => absurd c106 (by decide)) (fun _ => ?_)
    refine lv_iload hx hb dX12_feed_30 (lv_at hl 0 rfl) ?_
    refine lv_iconst (v := 4) hx hb dX12_feed_32 (by decide) ?_
    refine lv_icmp_ge (tgt := 40) hx hb dX12_feed_33 (by decide) (fun _ => ?_) (fun c107 => absurd (by decide) c107)
    refine lv_iload hx hb dX12_feed_40 (lv_at hl 0 rfl) ?_
    refine lv_bipush (v := 8) hx hb dX12_feed_42 (by decide) ?_
    refine lv_icmp_ge (tgt := 51) hx hb dX12_feed_44 (by decide) (fun _ => ?_) (fun c108 => absurd (by decide) c108)
    refine lv_iload hx hb dX12_feed_51 (lv_at hl 0 rfl) ?_
    refine lv_bipush (v := 12) hx hb dX12_feed_53 (by decide) ?_
    refine lv_icmp_ge (tgt := 62) hx hb dX12_feed_55 (by decide) (fun _ => ?_) (fun c109 => absurd (by decide) c109)
    refine lv_iload hx hb dX12_feed_62 (lv_at hl 0 rfl) ?_
    refine lv_bipush (v := 16) hx hb dX12_feed_64 (by decide) ?_
    refine lv_icmp_ge (tgt := 74) hx hb dX12_feed_66 (by decide) (fun _ => ?_) (fun c110 => absurd (by decide) c110)
    refine lv_iload hx hb dX12_feed_74 (lv_at hl 7 rfl) ?_
    refine lv_istore (lv' := [(7, .int a5), (6, .int 18), (0, .ref o), (1, .int a1), (2, .int a2), (3, .int a3), (4, .int a4), (5, .int a5)]) hx hb dX12_feed_76 hl (by decide) rfl (fun ls hl => ?_)
    refine lv_aload_n hx hb dX12_feed_78 rfl (lv_at hl 2 rfl) ?_
    refine va_get (D := g.1) (ci := 10) (v := .ref (a 4)) (C := RX12) (T := TX12) (N := 20) hx hb hts izRX12 hown hK hP 0 rfl rfl 7 (by decide) (hts _ k819) (fun _ h9 => h9) rfl dX12_feed_79 ?_
    refine lv_aload_n hx hb dX12_feed_82 rfl (lv_at hl 2 rfl) ?_
    refine va_get (D := g.1) (ci := 10) (v := .int x_105) (C := RX12) (T := TX12) (N := 20) hx hb hts izRX12 hown hK hP 0 rfl rfl 8 (by decide) (hts _ k873) (fun _ h9 => h9) rfl dX12_feed_83 ?_
    refine lv_iload hx hb dX12_feed_86 (lv_at hl 0 rfl) ?_
    refine lv_bipush (v := 24) hx hb dX12_feed_88 (by decide) ?_
    refine lv_bipush (v := 8) hx hb dX12_feed_90 (by decide) ?_
    refine lv_iload hx hb dX12_feed_92 (lv_at hl 1 rfl) ?_
    refine lv_iconst (v := 4) hx hb dX12_feed_94 (by decide) ?_
    refine lv_irem hx hb dX12_feed_95 (by decide) ?_
    refine ztop (r := 2) (by decide) ?_
    refine lv_imul hx hb dX12_feed_96 ?_
    refine ztop (r := 16) (by decide) ?_
    refine lv_isub hx hb dX12_feed_97 ?_
    refine ztop (r := 8) (by decide) ?_
    refine lv_iushr (v := ((a5 : Int32).toUInt32 >>> ((8 : Int32).toUInt32 &&& Int32.toUInt32 31)).toInt32) hx hb dX12_feed_98 rfl ?_
    refine lv_sipush (v := 255) hx hb dX12_feed_99 (by decide) ?_
    refine lv_iand hx hb dX12_feed_102 ?_
    refine va_iast hx hb hK hP hD hS 5 0 rfl rfl (zinI (by omega) (by omega)) dX12_feed_103 (fun H locs hP hD hS => ?_)
    obtain ⟨ft_111, hzft_111, hP, hD⟩ : ∃ ft_111 : Nat → Int32, (zfp ft ft_111 tp.toInt.toNat 19 (zb20 a1 a2 a3 a4 a5)) ∧ va_P g.1 vwCl (List.flatten [bMo g o a 0 hi ac x_105 ba en tA fl de iD iO tU fm fk fa fc ft_111 ff fb fi]) H ∧ va_D A (List.flatten [bMo g o a 0 hi ac x_105 ba en tA fl de iD iO tU fm fk fa fc ft_111 ff fb fi]) := ⟨upd ft_104 x_105.toNatClampNeg ((((a5 : Int32).toUInt32 >>> ((8 : Int32).toUInt32 &&& Int32.toUInt32 31)).toInt32) &&& 255), (zfp_s (x := x_105) hzft_104 (by omega) rfl), hP, hD⟩
    refine lv_aload_n hx hb dX12_feed_104 rfl (lv_at hl 2 rfl) ?_
    refine lv_dup hx hb dX12_feed_105 rfl ?_
    refine va_get (D := g.1) (ci := 10) (v := .int x_105) (C := RX12) (T := TX12) (N := 20) hx hb hts izRX12 hown hK hP 0 rfl rfl 8 (by decide) (hts _ k873) (fun _ h9 => h9) rfl dX12_feed_106 ?_
    refine lv_iconst (v := 1) hx hb dX12_feed_109 (by decide) ?_
    refine lv_iadd hx hb dX12_feed_110 ?_
    refine zg3 (zaddK (i := x_105.toInt) (j := 1) (a' := 19) (b' := 419) rfl (by decide) hx_105.2.1 hx_105.2.2 (Int.le_refl _) (Int.le_refl _) (by decide)) (fun x_112 hx_112 => ?_)
    refine va_put (D := g.1) (ci := 10) (v := .int x_112) (ty := .int) (C := RX12) (T := TX12) (N := 20) hx hb hts izRX12 tyX12 tyX12_ok nmX12 hown hK hP hD hS 0 rfl rfl 8 (by decide) (hts _ k873) (fun _ h9 => h9) rfl (by decide +kernel) rfl rfl (Nat.le_of_ble_eq_true rfl) dX12_feed_111 (fun H locs hP hD hS => ?_)
    have hP : va_P g.1 vwCl (List.flatten [bMo g o a 0 hi ac x_112 ba en tA fl de iD iO tU fm fk fa fc ft_111 ff fb fi]) H := hP
    have hD : va_D A (List.flatten [bMo g o a 0 hi ac x_112 ba en tA fl de iD iO tU fm fk fa fc ft_111 ff fb fi]) := hD
    refine lv_iinc (v := 19) (lv' := [(6, .int 19), (7, .int a5), (0, .ref o), (1, .int a1), (2, .int a2), (3, .int a3), (4, .int a4), (5, .int a5)]) hx hb dX12_feed_114 hl (k := 1) rfl (by decide) (by decide) rfl (fun ls hl => ?_)
    refine lv_goto (tgt := 23) hx hb dX12_feed_117 (by decide) ?_
    refine lv_iload hx hb dX12_feed_23 (lv_at hl 0 rfl) ?_
    refine lv_bipush (v := 20) hx hb dX12_feed_25 (by decide) ?_
    refine lv_icmp_ge (tgt := 120) hx hb dX12_feed_27 (by decide) (fun c113 => absurd c113 (by decide)) (fun _ => ?_)
    refine lv_iload hx hb dX12_feed_30 (lv_at hl 0 rfl) ?_
    refine lv_iconst (v := 4) hx hb dX12_feed_32 (by decide) ?_
    refine lv_icmp_ge (tgt := 40) hx hb dX12_feed_33 (by decide) (fun _ => ?_) (fun c114 => absurd (by decide) c114)
    refine lv_iload hx hb dX12_feed_40 (lv_at hl 0 rfl) ?_
    refine lv_bipush (v := 8) hx hb dX12_feed_42 (by decide) ?_
    refine lv_icmp_ge (tgt := 51) hx hb dX12_feed_44 (by decide) (fun _ => ?_) (fun c115 => absurd (by decide) c115)
    refine lv_iload hx hb dX12_feed_51 (lv_at hl 0 rfl) ?_
    refine lv_bipush (v := 12) hx hb dX12_feed_53 (by decide) ?_
    refine lv_icmp_ge (tgt := 62) hx hb dX12_feed_55 (by decide) (fun _ => ?_) (fun c116 => absurd (by decide) c116)
    refine lv_iload hx hb dX12_feed_62 (lv_at hl 0 rfl) ?_
    refine lv_bipush (v := 16) hx hb dX12_feed_64 (by decide) ?_
    refine lv_icmp_ge (tgt := 74) hx hb dX12_feed_66 (by decide) (fun _ => ?_) (fun c117 => absurd (by decide) c117)
    refine lv_iload hx hb dX12_feed_74 (lv_at hl 7 rfl) ?_
    refine lv_istore (lv' := [(7, .int a5), (6, .int 19), (0, .ref o), (1, .int a1), (2, .int a2), (3, .int a3), (4, .int a4), (5, .int a5)]) hx hb dX12_feed_76 hl (by decide) rfl (fun ls hl => ?_)
    refine lv_aload_n hx hb dX12_feed_78 rfl (lv_at hl 2 rfl) ?_
    refine va_get (D := g.1) (ci := 10) (v := .ref (a 4)) (C := RX12) (T := TX12) (N := 20) hx hb hts izRX12 hown hK hP 0 rfl rfl 7 (by decide) (hts _ k819) (fun _ h9 => h9) rfl dX12_feed_79 ?_
    refine lv_aload_n hx hb dX12_feed_82 rfl (lv_at hl 2 rfl) ?_
    refine va_get (D := g.1) (ci := 10) (v := .int x_112) (C := RX12) (T := TX12) (N := 20) hx hb hts izRX12 hown hK hP 0 rfl rfl 8 (by decide) (hts _ k873) (fun _ h9 => h9) rfl dX12_feed_83 ?_
    refine lv_iload hx hb dX12_feed_86 (lv_at hl 0 rfl) ?_
    refine lv_bipush (v := 24) hx hb dX12_feed_88 (by decide) ?_
    refine lv_bipush (v := 8) hx hb dX12_feed_90 (by decide) ?_
    refine lv_iload hx hb dX12_feed_92 (lv_at hl 1 rfl) ?_
    refine lv_iconst (v := 4) hx hb dX12_feed_94 (by decide) ?_
    refine lv_irem hx hb dX12_feed_95 (by decide) ?_
    refine ztop (r := 3) (by decide) ?_
    refine lv_imul hx hb dX12_feed_96 ?_
    refine ztop (r := 24) (by decide) ?_
    refine lv_isub hx hb dX12_feed_97 ?_
    refine ztop (r := 0) (by decide) ?_
    refine lv_iushr (v := ((a5 : Int32).toUInt32 >>> ((0 : Int32).toUInt32 &&& Int32.toUInt32 31)).toInt32) hx hb dX12_feed_98 rfl ?_
    refine lv_sipush (v := 255) hx hb dX12_feed_99 (by decide) ?_
    refine lv_iand hx hb dX12_feed_102 ?_
    refine va_iast hx hb hK hP hD hS 5 0 rfl rfl (zinI (by omega) (by omega)) dX12_feed_103 (fun H locs hP hD hS => ?_)
    obtain ⟨ft_118, hzft_118, hP, hD⟩ : ∃ ft_118 : Nat → Int32, (zfp ft ft_118 tp.toInt.toNat 20 (zb20 a1 a2 a3 a4 a5)) ∧ va_P g.1 vwCl (List.flatten [bMo g o a 0 hi ac x_112 ba en tA fl de iD iO tU fm fk fa fc ft_118 ff fb fi]) H ∧ va_D A (List.flatten [bMo g o a 0 hi ac x_112 ba en tA fl de iD iO tU fm fk fa fc ft_118 ff fb fi]) := ⟨upd ft_111 x_112.toNatClampNeg ((((a5 : Int32).toUInt32 >>> ((0 : Int32).toUInt32 &&& Int32.toUInt32 31)).toInt32) &&& 255), (zfp_s (x := x_112) hzft_111 (by omega) rfl), hP, hD⟩
    refine lv_aload_n hx hb dX12_feed_104 rfl (lv_at hl 2 rfl) ?_
    refine lv_dup hx hb dX12_feed_105 rfl ?_
    refine va_get (D := g.1) (ci := 10) (v := .int x_112) (C := RX12) (T := TX12) (N := 20) hx hb hts izRX12 hown hK hP 0 rfl rfl 8 (by decide) (hts _ k873) (fun _ h9 => h9) rfl dX12_feed_106 ?_
    refine lv_iconst (v := 1) hx hb dX12_feed_109 (by decide) ?_
    refine lv_iadd hx hb dX12_feed_110 ?_
    refine zg3 (zaddK (i := x_112.toInt) (j := 1) (a' := 20) (b' := 420) rfl (by decide) hx_112.2.1 hx_112.2.2 (Int.le_refl _) (Int.le_refl _) (by decide)) (fun x_119 hx_119 => ?_)
    refine va_put (D := g.1) (ci := 10) (v := .int x_119) (ty := .int) (C := RX12) (T := TX12) (N := 20) hx hb hts izRX12 tyX12 tyX12_ok nmX12 hown hK hP hD hS 0 rfl rfl 8 (by decide) (hts _ k873) (fun _ h9 => h9) rfl (by decide +kernel) rfl rfl (Nat.le_of_ble_eq_true rfl) dX12_feed_111 (fun H locs hP hD hS => ?_)
    have hP : va_P g.1 vwCl (List.flatten [bMo g o a 0 hi ac x_119 ba en tA fl de iD iO tU fm fk fa fc ft_118 ff fb fi]) H := hP
    have hD : va_D A (List.flatten [bMo g o a 0 hi ac x_119 ba en tA fl de iD iO tU fm fk fa fc ft_118 ff fb fi]) := hD
    refine lv_iinc (v := 20) (lv' := [(6, .int 20), (7, .int a5), (0, .ref o), (1, .int a1), (2, .int a2), (3, .int a3), (4, .int a4), (5, .int a5)]) hx hb dX12_feed_114 hl (k := 1) rfl (by decide) (by decide) rfl (fun ls hl => ?_)
    refine lv_goto (tgt := 23) hx hb dX12_feed_117 (by decide) ?_
    refine lv_iload hx hb dX12_feed_23 (lv_at hl 0 rfl) ?_
    refine lv_bipush (v := 20) hx hb dX12_feed_25 (by decide) ?_
    refine lv_icmp_ge (tgt := 120) hx hb dX12_feed_27 (by decide) (fun _ => ?_) (fun c120 => absurd (by decide) c120)
    refine lv_aload_n hx hb dX12_feed_120 rfl (lv_at hl 2 rfl) ?_
    refine va_get (D := g.1) (ci := 10) (v := .int x_119) (C := RX12) (T := TX12) (N := 20) hx hb hts izRX12 hown hK hP 0 rfl rfl 8 (by decide) (hts _ k873) (fun _ h9 => h9) rfl dX12_feed_121 ?_
    have hP : va_P g.1 vwCl (List.flatten [bMo g o a 0 hi ac x_119 ba en tA fl de iD iO tU fm fk fa fc ft_118 ff fb fi]) H := hP
    have hD : va_D A (List.flatten [bMo g o a 0 hi ac x_119 ba en tA fl de iD iO tU fm fk fa fc ft_118 ff fb fi]) := hD
    exact mret_i hx hb hr hlocks hS (Nat.le_of_ble_eq_true rfl) (Nat.le_of_ble_eq_true rfl) dX12_feed_124 ((0 : Int32), x_119, ft_118, x_119) rfl (show (0 ≤ x_119.toInt ∧ x_119.toInt ≤ 400) ∧ ((380 < tp.toInt → x_119.toInt = tp.toInt) ∧ (tp.toInt ≤ 380 → x_119.toInt = tp.toInt + 20)) ∧ ((380 < tp.toInt → x_119.toInt = -1) ∧ (tp.toInt ≤ 380 → x_119.toInt = x_119.toInt)) ∧ (zfeed tp.toInt ft ft_118 (zb20 a1 a2 a3 a4 a5)) from ⟨(by first | assumption | omega | decide), (by first | assumption | omega | decide), (by first | assumption | omega | decide), ⟨fun h => absurd h (by omega), fun _ => hzft_118⟩⟩) hP hD
  · skip
    have c121 : 400 < x_1.toInt := zlti (Int32.not_le.mp cb9) (by decide) rfl
    have n122 : 401 ≤ x_1.toInt := zL2 (a := 400) c121 (Int.le_refl _) (by decide)
    refine lv_iconst (v := (-1)) hx hb dX12_feed_18 (by decide) ?_
    have hLn1 : ((-1) : Int32).toInt = (-1) := by decide
    have hP : va_P g.1 vwCl (List.flatten [bMo g o a 0 hi ac tp ba en tA fl de iD iO tU fm fk fa fc ft ff fb fi]) H := hP
    have hD : va_D A (List.flatten [bMo g o a 0 hi ac tp ba en tA fl de iD iO tU fm fk fa fc ft ff fb fi]) := hD
    exact mret_i hx hb hr hlocks hS (Nat.le_of_ble_eq_true rfl) (Nat.le_of_ble_eq_true rfl) dX12_feed_19 ((0 : Int32), tp, ft, -1) rfl (show (0 ≤ tp.toInt ∧ tp.toInt ≤ 400) ∧ ((380 < tp.toInt → tp.toInt = tp.toInt) ∧ (tp.toInt ≤ 380 → tp.toInt = tp.toInt + 20)) ∧ ((380 < tp.toInt → ((-1) : Int32).toInt = -1) ∧ (tp.toInt ≤ 380 → ((-1) : Int32).toInt = tp.toInt)) ∧ (zfeed tp.toInt ft ft (zb20 a1 a2 a3 a4 a5)) from ⟨(by first | assumption | omega | decide), (by first | assumption | omega | decide), (by first | assumption | omega | decide), ⟨fun _ => rfl, fun h => absurd h (by omega)⟩⟩) hP hD
