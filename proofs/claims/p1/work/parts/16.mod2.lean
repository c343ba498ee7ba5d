theorem zc89 {w : Int32} (h : ¬ w < 8 ∧ ¬ 9 < w) : 0 = zcount w := by
  have h1 : 8 ≤ w.toInt := by have := Int32.le_iff_toInt_le.mp (Int32.not_lt.mp h.1); exact this
  have h2 : w.toInt ≤ 9 := by have := Int32.le_iff_toInt_le.mp (Int32.not_lt.mp h.2); exact this
  rcases (show w.toInt = 8 ∨ w.toInt = 9 by omega) with e | e
  · have : w = 8 := Int32.toInt_inj.mp e
    subst this; rfl
  · have : w = 9 := Int32.toInt_inj.mp e
    subst this; rfl
theorem zcno {w : Int32} (w0 : ¬ w = 0) (w1 : ¬ w = 1) (w2 : ¬ w = 2) (w3 : ¬ w = 3) (w4 : ¬ w = 4) (w5 : ¬ w = 5) (w6 : ¬ w = 6) (w7 : ¬ w = 7) (h : w < 8 ∨ 9 < w) (w10 : ¬ w = 10) (w11 : ¬ w = 11) (w12 : ¬ w = 12) : -1 = zcount w := by
  have w8 : ¬ w = 8 := fun e => by subst e; revert h; decide
  have w9 : ¬ w = 9 := fun e => by subst e; revert h; decide
  simp [zcount, w0, w1, w2, w3, w4, w5, w6, w7, w8, w9, w10, w11, w12]
set_option maxRecDepth 100000 in
set_option maxHeartbeats 4000000 in
theorem m_skip0 (l : Launch) (g : zG) (o : Nat) (a : Nat → Nat) (th : Int32) (hi : Int32) (ac : Int32) (tp : Int32) (ba : Int32) (fl : Int32) (de : Int32) (iD : Int32) (iO : Int32) (tU : Int32) (f : Nat → Nat → Int32)  : zM g l yX12_skip (Cond.code yX12_skip cX12_skip 1 none :: zB) ({ frames := 0, cells := 0, slots := 0, locals := 0 } : Room) [.ref o] [bObj g o a th hi ac tp ba 0 0 fl de iD iO tU, bArr g a f] (fun _ : Unit => none) (fun _ : Unit => True) (fun _ : Unit => [bObj g o a th hi ac tp ba 0 0 fl de iD iO tU, bArr g a f]) := by
  refine zM.of (cc := cX12_skip) (maxL := 1) (rt := none) (by decide) rfl (Nat.le_of_ble_eq_true rfl) ?_
  intro p e s m args below meth c A ls St hr hlocks hin hK hT hA hP hD hS hl
  obtain ⟨hx, hb, hml, hown, hts⟩ := id St
  have hl : lv_has ls 1 [(0, .ref o)] := hl
  refine lv_aload_n hx hb dX12_skip_0 rfl (lv_at hl 0 rfl) ?_
  refine va_get (D := g.1) (ci := 10) (v := .int 0) (C := RX12) (T := TX12) (N := 20) hx hb hts izRX12 hown hK hP 0 rfl rfl 11 (by decide) (hts _ k867) (fun _ h9 => h9) rfl dX12_skip_1 ?_
  refine lv_aload_n hx hb dX12_skip_4 rfl (lv_at hl 0 rfl) ?_
  refine va_get (D := g.1) (ci := 10) (v := .int 0) (C := RX12) (T := TX12) (N := 20) hx hb hts izRX12 hown hK hP 0 rfl rfl 10 (by decide) (hts _ k868) (fun _ h9 => h9) rfl dX12_skip_5 ?_
  refine lv_icmp_ge (tgt := 37) hx hb dX12_skip_8 (by decide) (fun _ => ?_) (fun c1 => absurd (by decide) c1)
  have hP : va_P g.1 vwCl (List.flatten [bObj g o a th hi ac tp ba 0 0 fl de iD iO tU, bArr g a f]) s.heap := hP
  have hD : va_D A (List.flatten [bObj g o a th hi ac tp ba 0 0 fl de iD iO tU, bArr g a f]) := hD
  exact mret_v hx hb hr hlocks hS (Nat.le_of_ble_eq_true rfl) (Nat.le_of_ble_eq_true rfl) dX12_skip_37 () rfl trivial hP hD
set_option maxRecDepth 100000 in
set_option maxHeartbeats 4000000 in
theorem m_begins0 (l : Launch) (g : zG) (o : Nat) (a : Nat → Nat) (th : Int32) (hi : Int32) (ac : Int32) (ba : Int32) (en : Int32) (tA : Int32) (fl : Int32) (de : Int32) (iD : Int32) (iO : Int32) (tU : Int32) (f : Nat → Nat → Int32)  : zM g l yX12_begins (Cond.code yX12_begins cX12_begins 1 none :: zB) ({ frames := 0, cells := 0, slots := 0, locals := 0 } : Room) [.ref o] [bObj g o a th hi ac 0 ba en tA fl de iD iO tU, bArr g a f] (fun _ : Unit => none) (fun _ : Unit => True) (fun _ : Unit => [bObj g o a th hi ac 0 (-1) 0 0 (-1) 0 iD iO tU, bArr g a f]) := by
  refine zM.of (cc := cX12_begins) (maxL := 1) (rt := none) (by decide) rfl (Nat.le_of_ble_eq_true rfl) ?_
  intro p e s m args below meth c A ls St hr hlocks hin hK hT hA hP hD hS hl
  obtain ⟨hx, hb, hml, hown, hts⟩ := id St
  have hl : lv_has ls 1 [(0, .ref o)] := hl
  refine lv_aload_n hx hb dX12_begins_0 rfl (lv_at hl 0 rfl) ?_
  refine lv_iconst (v := (-1)) hx hb dX12_begins_1 (by decide) ?_
  refine va_put (D := g.1) (ci := 10) (v := .int (-1)) (ty := .int) (C := RX12) (T := TX12) (N := 20) hx hb hts izRX12 tyX12 tyX12_ok nmX12 hown hK hP hD hS 0 rfl rfl 12 (by decide) (hts _ k820) (fun _ h9 => h9) rfl (by decide +kernel) rfl rfl (Nat.le_of_ble_eq_true rfl) dX12_begins_2 (fun H locs hP hD hS => ?_)
  have hP : va_P g.1 vwCl (List.flatten [[(o, .inr (10, [.int th, .ref (a 0), .ref (a 1), .int hi, .ref (a 2), .ref (a 3), .int ac, .ref (a 4), .int 0, .int ba, .int en, .int tA, .int (-1), .int de, .ref (a 5), .int iD, .int iO, .int tU, .ref (a 6), .ref (a 7)]))], bArr g a f]) H := hP
  have hD : va_D A (List.flatten [[(o, .inr (10, [.int th, .ref (a 0), .ref (a 1), .int hi, .ref (a 2), .ref (a 3), .int ac, .ref (a 4), .int 0, .int ba, .int en, .int tA, .int (-1), .int de, .ref (a 5), .int iD, .int iO, .int tU, .ref (a 6), .ref (a 7)]))], bArr g a f]) := hD
  refine lv_aload_n hx hb dX12_begins_5 rfl (lv_at hl 0 rfl) ?_
  refine lv_iconst (v := (-1)) hx hb dX12_begins_6 (by decide) ?_
  refine va_put (D := g.1) (ci := 10) (v := .int (-1)) (ty := .int) (C := RX12) (T := TX12) (N := 20) hx hb hts izRX12 tyX12 tyX12_ok nmX12 hown hK hP hD hS 0 rfl rfl 9 (by decide) (hts _ k873) (fun _ h9 => h9) rfl (by decide +kernel) rfl rfl (Nat.le_of_ble_eq_true rfl) dX12_begins_7 (fun H locs hP hD hS => ?_)
  have hP : va_P g.1 vwCl (List.flatten [[(o, .inr (10, [.int th, .ref (a 0), .ref (a 1), .int hi, .ref (a 2), .ref (a 3), .int ac, .ref (a 4), .int 0, .int (-1), .int en, .int tA, .int (-1), .int de, .ref (a 5), .int iD, .int iO, .int tU, .ref (a 6), .ref (a 7)]))], bArr g a f]) H := hP
  have hD : va_D A (List.flatten [[(o, .inr (10, [.int th, .ref (a 0), .ref (a 1), .int hi, .ref (a 2), .ref (a 3), .int ac, .ref (a 4), .int 0, .int (-1), .int en, .int tA, .int (-1), .int de, .ref (a 5), .int iD, .int iO, .int tU, .ref (a 6), .ref (a 7)]))], bArr g a f]) := hD
  refine lv_aload_n hx hb dX12_begins_10 rfl (lv_at hl 0 rfl) ?_
  refine lv_aload_n hx hb dX12_begins_11 rfl (lv_at hl 0 rfl) ?_
  refine va_get (D := g.1) (ci := 10) (v := .int 0) (C := RX12) (T := TX12) (N := 20) hx hb hts izRX12 hown hK hP 0 rfl rfl 8 (by decide) (hts _ k864) (fun _ h9 => h9) rfl dX12_begins_12 ?_
  refine va_put (D := g.1) (ci := 10) (v := .int 0) (ty := .int) (C := RX12) (T := TX12) (N := 20) hx hb hts izRX12 tyX12 tyX12_ok nmX12 hown hK hP hD hS 0 rfl rfl 10 (by decide) (hts _ k868) (fun _ h9 => h9) rfl (by decide +kernel) rfl rfl (Nat.le_of_ble_eq_true rfl) dX12_begins_15 (fun H locs hP hD hS => ?_)
  have hP : va_P g.1 vwCl (List.flatten [[(o, .inr (10, [.int th, .ref (a 0), .ref (a 1), .int hi, .ref (a 2), .ref (a 3), .int ac, .ref (a 4), .int 0, .int (-1), .int 0, .int tA, .int (-1), .int de, .ref (a 5), .int iD, .int iO, .int tU, .ref (a 6), .ref (a 7)]))], bArr g a f]) H := hP
  have hD : va_D A (List.flatten [[(o, .inr (10, [.int th, .ref (a 0), .ref (a 1), .int hi, .ref (a 2), .ref (a 3), .int ac, .ref (a 4), .int 0, .int (-1), .int 0, .int tA, .int (-1), .int de, .ref (a 5), .int iD, .int iO, .int tU, .ref (a 6), .ref (a 7)]))], bArr g a f]) := hD
  refine lv_aload_n hx hb dX12_begins_18 rfl (lv_at hl 0 rfl) ?_
  refine lv_iconst (v := 0) hx hb dX12_begins_19 (by decide) ?_
  refine va_put (D := g.1) (ci := 10) (v := .int 0) (ty := .int) (C := RX12) (T := TX12) (N := 20) hx hb hts izRX12 tyX12 tyX12_ok nmX12 hown hK hP hD hS 0 rfl rfl 8 (by decide) (hts _ k864) (fun _ h9 => h9) rfl (by decide +kernel) rfl rfl (Nat.le_of_ble_eq_true rfl) dX12_begins_20 (fun H locs hP hD hS => ?_)
  have hP : va_P g.1 vwCl (List.flatten [[(o, .inr (10, [.int th, .ref (a 0), .ref (a 1), .int hi, .ref (a 2), .ref (a 3), .int ac, .ref (a 4), .int 0, .int (-1), .int 0, .int tA, .int (-1), .int de, .ref (a 5), .int iD, .int iO, .int tU, .ref (a 6), .ref (a 7)]))], bArr g a f]) H := hP
  have hD : va_D A (List.flatten [[(o, .inr (10, [.int th, .ref (a 0), .ref (a 1), .int hi, .ref (a 2), .ref (a 3), .int ac, .ref (a 4), .int 0, .int (-1), .int 0, .int tA, .int (-1), .int de, .ref (a 5), .int iD, .int iO, .int tU, .ref (a 6), .ref (a 7)]))], bArr g a f]) := hD
  refine lv_aload_n hx hb dX12_begins_23 rfl (lv_at hl 0 rfl) ?_
  refine lv_iconst (v := 0) hx hb dX12_begins_24 (by decide) ?_
  refine va_put (D := g.1) (ci := 10) (v := .int 0) (ty := .int) (C := RX12) (T := TX12) (N := 20) hx hb hts izRX12 tyX12 tyX12_ok nmX12 hown hK hP hD hS 0 rfl rfl 11 (by decide) (hts _ k867) (fun _ h9 => h9) rfl (by decide +kernel) rfl rfl (Nat.le_of_ble_eq_true rfl) dX12_begins_25 (fun H locs hP hD hS => ?_)
  have hP : va_P g.1 vwCl (List.flatten [[(o, .inr (10, [.int th, .ref (a 0), .ref (a 1), .int hi, .ref (a 2), .ref (a 3), .int ac, .ref (a 4), .int 0, .int (-1), .int 0, .int 0, .int (-1), .int de, .ref (a 5), .int iD, .int iO, .int tU, .ref (a 6), .ref (a 7)]))], bArr g a f]) H := hP
  have hD : va_D A (List.flatten [[(o, .inr (10, [.int th, .ref (a 0), .ref (a 1), .int hi, .ref (a 2), .ref (a 3), .int ac, .ref (a 4), .int 0, .int (-1), .int 0, .int 0, .int (-1), .int de, .ref (a 5), .int iD, .int iO, .int tU, .ref (a 6), .ref (a 7)]))], bArr g a f]) := hD
  refine lv_aload_n hx hb dX12_begins_28 rfl (lv_at hl 0 rfl) ?_
  refine lv_iconst (v := 0) hx hb dX12_begins_29 (by decide) ?_
  refine va_put (D := g.1) (ci := 10) (v := .int 0) (ty := .int) (C := RX12) (T := TX12) (N := 20) hx hb hts izRX12 tyX12 tyX12_ok nmX12 hown hK hP hD hS 0 rfl rfl 13 (by decide) (hts _ k875) (fun _ h9 => h9) rfl (by decide +kernel) rfl rfl (Nat.le_of_ble_eq_true rfl) dX12_begins_30 (fun H locs hP hD hS => ?_)
  have hP : va_P g.1 vwCl (List.flatten [[(o, .inr (10, [.int th, .ref (a 0), .ref (a 1), .int hi, .ref (a 2), .ref (a 3), .int ac, .ref (a 4), .int 0, .int (-1), .int 0, .int 0, .int (-1), .int 0, .ref (a 5), .int iD, .int iO, .int tU, .ref (a 6), .ref (a 7)]))], bArr g a f]) H := hP
  have hD : va_D A (List.flatten [[(o, .inr (10, [.int th, .ref (a 0), .ref (a 1), .int hi, .ref (a 2), .ref (a 3), .int ac, .ref (a 4), .int 0, .int (-1), .int 0, .int 0, .int (-1), .int 0, .ref (a 5), .int iD, .int iO, .int tU, .ref (a 6), .ref (a 7)]))], bArr g a f]) := hD
  have hP : va_P g.1 vwCl (List.flatten [bObj g o a th hi ac 0 (-1) 0 0 (-1) 0 iD iO tU, bArr g a f]) H := hP
  have hD : va_D A (List.flatten [bObj g o a th hi ac 0 (-1) 0 0 (-1) 0 iD iO tU, bArr g a f]) := hD
  exact mret_v hx hb hr hlocks hS (Nat.le_of_ble_eq_true rfl) (Nat.le_of_ble_eq_true rfl) dX12_begins_33 () rfl trivial hP hD
set_option maxRecDepth 100000 in
set_option maxHeartbeats 4000000 in
theorem m_read0 (l : Launch) (g : zG) (o : Nat) (a : Nat → Nat) (th : Int32) (hi : Int32) (ac : Int32) (tp : Int32) (ba : Int32) (fl : Int32) (de : Int32) (iD : Int32) (iO : Int32) (tU : Int32) (f : Nat → Nat → Int32) (lw : Int32)  : zM g l yX12_read (Cond.code yX12_read cX12_read 4 (some .int) :: zB) ({ frames := 1, cells := 0, slots := 0, locals := 20 } : Room) [.ref o, .int lw] [bObj g o a th hi ac tp ba 0 0 fl de iD iO tU, bArr g a f] (fun _ : Unit => some (.int 0)) (fun _ : Unit => True) (fun _ : Unit => [bObj g o a th hi ac tp ba 0 0 fl de iD iO tU, bArr g a f]) := by
  refine zM.of (cc := cX12_read) (maxL := 4) (rt := (some .int)) (by decide) rfl (Nat.le_of_ble_eq_true rfl) ?_
  intro p e s m args below meth c A ls St hr hlocks hin hK hT hA hP hD hS hl
  obtain ⟨hx, hb, hml, hown, hts⟩ := id St
  have hl : lv_has ls 4 [(0, .ref o), (1, .int lw)] := hl
  refine lv_aload_n hx hb dX12_read_0 rfl (lv_at hl 0 rfl) ?_
  refine mcallV (g := g) (q0 := 0) (ci := 10) (As := []) (rest := []) St hK hT hA hP hD hS hl.1 [0, 1] [] rfl rfl rfl (m_skip0 l g o a th hi ac tp ba fl de iD iO tU f ) (cwV 0 hts (zgL (zl4 k876 k877 k878 k833) k866) rfl rfl rfl (by decide +kernel) ⟨Nat.le_of_ble_eq_true rfl, Nat.le_of_ble_eq_true rfl⟩) rfl rfl rfl rfl (Nat.le_of_ble_eq_true rfl) dX12_read_1 ⟨(Nat.le_of_ble_eq_true rfl), (Nat.le_of_ble_eq_true rfl)⟩ (fun _u H locs hq1 hP hD hS => ?_)
  have hP : va_P g.1 vwCl (List.flatten [bObj g o a th hi ac tp ba 0 0 fl de iD iO tU, bArr g a f]) H := hP
  have hD : va_D A (List.flatten [bObj g o a th hi ac tp ba 0 0 fl de iD iO tU, bArr g a f]) := hD
  refine W.widen (k := 0) (n := 0) (Nat.le_of_ble_eq_true rfl) (Nat.le_of_ble_eq_true rfl) ?_
  refine W.eq (g2 := F0 m 4 ls []) rfl ?_
  refine lv_aload_n hx hb dX12_read_4 rfl (lv_at hl 0 rfl) ?_
  refine va_get (D := g.1) (ci := 10) (v := .int 0) (C := RX12) (T := TX12) (N := 20) hx hb hts izRX12 hown hK hP 0 rfl rfl 11 (by decide) (hts _ k867) (fun _ h9 => h9) rfl dX12_read_5 ?_
  refine lv_aload_n hx hb dX12_read_8 rfl (lv_at hl 0 rfl) ?_
  refine va_get (D := g.1) (ci := 10) (v := .int 0) (C := RX12) (T := TX12) (N := 20) hx hb hts izRX12 hown hK hP 0 rfl rfl 10 (by decide) (hts _ k868) (fun _ h9 => h9) rfl dX12_read_9 ?_
  refine lv_icmp_ge (tgt := 19) hx hb dX12_read_12 (by decide) (fun _ => ?_) (fun c2 => absurd (by decide) c2)
  refine lv_iconst (v := 0) hx hb dX12_read_19 (by decide) ?_
  refine lv_istore_n (lv' := [(2, .int 0), (0, .ref o), (1, .int lw)]) hx hb dX12_read_20 rfl hl (by decide) rfl (fun ls hl => ?_)
  refine lv_iconst (v := 0) hx hb dX12_read_21 (by decide) ?_
  refine lv_istore_n (lv' := [(3, .int 0), (2, .int 0), (0, .ref o), (1, .int lw)]) hx hb dX12_read_22 rfl hl (by decide) rfl (fun ls hl => ?_)
  refine lv_iload_n hx hb dX12_read_23 rfl (lv_at hl 1 rfl) ?_
  refine lv_if_eq (tgt := 144) hx hb dX12_read_24 (by decide) (fun _ => ?_) (fun c3 => absurd (by decide) c3)
  refine lv_iload_n hx hb dX12_read_144 rfl (lv_at hl 0 rfl) ?_
  have hP : va_P g.1 vwCl (List.flatten [bObj g o a th hi ac tp ba 0 0 fl de iD iO tU, bArr g a f]) H := hP
  have hD : va_D A (List.flatten [bObj g o a th hi ac tp ba 0 0 fl de iD iO tU, bArr g a f]) := hD
  exact mret_i hx hb hr hlocks hS (Nat.le_of_ble_eq_true rfl) (Nat.le_of_ble_eq_true rfl) dX12_read_145 () rfl trivial hP hD
set_option maxRecDepth 100000 in
set_option maxHeartbeats 4000000 in
theorem m_goes (l : Launch) (g : zG) (o : Nat) (a : Nat → Nat) (th : Int32) (hi : Int32) (ac : Int32) (tp : Int32) (ba : Int32) (en : Int32) (tA : Int32) (fl : Int32) (de : Int32) (iD : Int32) (iO : Int32) (tU : Int32) (f : Nat → Nat → Int32) (n : Int32) (dr : Int32) (hm : zMo (f 0)) (hn0 : ∃ N : Nat, N ≤ 100 ∧ n = nI N) : zM g l yX12_goes (Cond.code yX12_goes cX12_goes 6 (some .int) :: zB) ({ frames := 1, cells := 0, slots := 0, locals := 23 } : Room) [.ref o, .int n, .int dr] [bObj g o a th hi ac tp ba en tA fl de iD iO tU, bArr g a f] (fun (s2 : Nat → Int32) => some (.int 0)) (fun (s2 : Nat → Int32) => zMo s2) (fun (s2 : Nat → Int32) => [bObj g o a th hi ac tp ba en tA fl de iD iO tU, bArr g a (zf [s2, f 1, f 2, f 3, f 4, f 5, f 6, f 7])]) := by
  refine zM.of (cc := cX12_goes) (maxL := 6) (rt := (some .int)) (by decide) rfl (Nat.le_of_ble_eq_true rfl) ?_
  intro p e s m args below meth c A ls St hr hlocks hin hK hT hA hP hD hS hl
  obtain ⟨hx, hb, hml, hown, hts⟩ := id St
  have hl : lv_has ls 6 [(0, .ref o), (1, .int n), (2, .int dr)] := hl
  obtain ⟨N, hN, hn⟩ := hn0
  refine lv_iconst (v := 0) hx hb dX12_goes_0 (by decide) ?_
  refine lv_istore_n (lv' := [(3, .int 0), (0, .ref o), (1, .int n), (2, .int dr)]) hx hb dX12_goes_1 rfl hl (by decide) rfl (fun ls hl => ?_)
  refine lv_iconst (v := 0) hx hb dX12_goes_2 (by decide) ?_
  refine lv_istore (lv' := [(4, .int 0), (3, .int 0), (0, .ref o), (1, .int n), (2, .int dr)]) hx hb dX12_goes_3 hl (by decide) rfl (fun ls hl => ?_)
  have hP : va_P g.1 vwCl (List.flatten [bObj g o a th hi ac tp ba en tA fl de iD iO tU, bArr g a (zf [(f 0), f 1, f 2, f 3, f 4, f 5, f 6, f 7])]) s.heap := hP
  have hD : va_D A (List.flatten [bObj g o a th hi ac tp ba en tA fl de iD iO tU, bArr g a (zf [(f 0), f 1, f 2, f 3, f 4, f 5, f 6, f 7])]) := hD
  have LP5 : ∀ (k : Nat) (j : Nat) (s3 : Nat → Int32) (H : Heap) (locs : List Loc) (ls : Array Slot),(j ≤ N) → (zMo s3) → (N - j) < k → va_P g.1 vwCl (List.flatten [bObj g o a th hi ac tp ba en tA fl de iD iO tU, bArr g a (zf [s3, f 1, f 2, f 3, f 4, f 5, f 6, f 7])]) H → va_D A (List.flatten [bObj g o a th hi ac tp ba en tA fl de iD iO tU, bArr g a (zf [s3, f 1, f 2, f 3, f 4, f 5, f 6, f 7])]) → va_S A s.heap H locs → lv_has ls 6 [(0, .ref o), (1, .int n), (2, .int dr), (3, .int 0), (4, .int (nI j))] → W p l e ({ frames := 1, cells := 0, slots := 0, locals := 23 } : Room) s m args below meth c H locs (0) (0) (zF g (fun (s2 : Nat → Int32) => some (.int 0)) (fun (s2 : Nat → Int32) => zMo s2) (fun (s2 : Nat → Int32) => [bObj g o a th hi ac tp ba en tA fl de iD iO tU, bArr g a (zf [s2, f 1, f 2, f 3, f 4, f 5, f 6, f 7])]) ({ frames := 1, cells := 0, slots := 0, locals := 23 } : Room) below args s A) (F0 m 5 ls []) := by
    intro k
    induction k with
    | zero => intro j s3 H locs ls hj hm hk; exact absurd hk (Nat.not_lt_zero _)
    | succ k ih5 =>
      intro j s3 H locs ls hj hm hk hP hD hS hl
      refine lv_iload hx hb dX12_goes_5 (lv_at hl 4 rfl) ?_
      refine lv_iload_n hx hb dX12_goes_7 rfl (lv_at hl 1 rfl) ?_
      refine lv_icmp_ge (tgt := 194) hx hb dX12_goes_8 (by decide) (fun cA => ?_) (fun cA => ?_)
      · skip
        refine lv_iload_n hx hb dX12_goes_194 rfl (lv_at hl 3 rfl) ?_
        have hP : va_P g.1 vwCl (List.flatten [bObj g o a th hi ac tp ba en tA fl de iD iO tU, bArr g a (zf [s3, f 1, f 2, f 3, f 4, f 5, f 6, f 7])]) H := hP
        have hD : va_D A (List.flatten [bObj g o a th hi ac tp ba en tA fl de iD iO tU, bArr g a (zf [s3, f 1, f 2, f 3, f 4, f 5, f 6, f 7])]) := hD
        exact mret_i hx hb hr hlocks hS (Nat.le_of_ble_eq_true rfl) (Nat.le_of_ble_eq_true rfl) dX12_goes_195 (s3) rfl hm hP hD
      · skip
        have hlt := zjl hn (by omega) cA
        refine lv_iconst (v := 0) hx hb dX12_goes_11 (by decide) ?_
        refine lv_istore (lv' := [(5, .int 0), (0, .ref o), (1, .int n), (2, .int dr), (3, .int 0), (4, .int (nI j))]) hx hb dX12_goes_12 hl (by decide) rfl (fun ls hl => ?_)
        refine lv_iload hx hb dX12_goes_14 (lv_at hl 0 rfl) ?_
        refine lv_aload_n hx hb dX12_goes_16 rfl (lv_at hl 1 rfl) ?_
        refine va_get (D := g.1) (ci := 10) (v := .ref (a 0)) (C := RX12) (T := TX12) (N := 20) hx hb hts izRX12 hown hK hP 0 rfl rfl 1 (by decide) (hts _ k815) (fun _ h9 => h9) rfl dX12_goes_17 ?_
        refine lv_iconst (v := 3) hx hb dX12_goes_20 (by decide) ?_
        refine va_iald hx hb hK hP 1 0 rfl rfl (zin rfl) dX12_goes_21 ?_
        refine ztop (r := s3 3) rfl ?_
        refine ztop (r := 0) hm.1 ?_
        refine lv_icmp_ge (tgt := 64) hx hb dX12_goes_22 (by decide) (fun _ => ?_) (fun c2 => absurd (by decide) c2)
        refine lv_iconst (v := 0) hx hb dX12_goes_64 (by decide) ?_
        refine lv_istore (lv' := [(5, .int 0), (0, .ref o), (1, .int n), (2, .int dr), (3, .int 0), (4, .int (nI j))]) hx hb dX12_goes_65 hl (by decide) rfl (fun ls hl => ?_)
        refine lv_iload hx hb dX12_goes_67 (lv_at hl 0 rfl) ?_
        refine lv_aload_n hx hb dX12_goes_69 rfl (lv_at hl 1 rfl) ?_
        refine va_get (D := g.1) (ci := 10) (v := .ref (a 0)) (C := RX12) (T := TX12) (N := 20) hx hb hts izRX12 hown hK hP 0 rfl rfl 1 (by decide) (hts _ k815) (fun _ h9 => h9) rfl dX12_goes_70 ?_
        refine lv_iconst (v := 3) hx hb dX12_goes_73 (by decide) ?_
        refine va_iald hx hb hK hP 1 0 rfl rfl (zin rfl) dX12_goes_74 ?_
        refine ztop (r := s3 3) rfl ?_
        refine ztop (r := 0) hm.1 ?_
        refine lv_icmp_ge (tgt := 106) hx hb dX12_goes_75 (by decide) (fun _ => ?_) (fun c3 => absurd (by decide) c3)
        refine lv_iload_n hx hb dX12_goes_106 rfl (lv_at hl 4 rfl) ?_
        refine lv_aload_n hx hb dX12_goes_107 rfl (lv_at hl 1 rfl) ?_
        have hP : va_P g.1 vwCl (List.flatten [bObj g o a th hi ac tp ba en tA fl de iD iO tU, bArr g a (zf [s3, f 1, f 2, f 3, f 4, f 5, f 6, f 7])]) H := hP
        have hD : va_D A (List.flatten [bObj g o a th hi ac tp ba en tA fl de iD iO tU, bArr g a (zf [s3, f 1, f 2, f 3, f 4, f 5, f 6, f 7])]) := hD
        refine mcallV (g := g) (q0 := 0) (ci := 10) (As := []) (rest := [.int 0]) St hK hT hA hP hD hS hl.1 [0, 1] [] rfl rfl rfl (m_build l g o a th hi ac tp ba en tA fl de iD iO tU (zf [s3, f 1, f 2, f 3, f 4, f 5, f 6, f 7]) (by assumption)) (cwV 0 hts (zgL (zl4 k1015 k1016 k1017 k833) k989) rfl rfl rfl (by decide +kernel) ⟨Nat.le_of_ble_eq_true rfl, Nat.le_of_ble_eq_true rfl⟩) rfl rfl rfl rfl (Nat.le_of_ble_eq_true rfl) dX12_goes_108 ⟨(Nat.le_of_ble_eq_true rfl), (Nat.le_of_ble_eq_true rfl)⟩ (fun _u H locs hq4 hP hD hS => ?_)
        have hP : va_P g.1 vwCl (List.flatten [bObj g o a th hi ac tp ba en tA fl de iD iO tU, bArr g a (zf [s3, f 1, f 2, f 3, f 4, f 5, f 6, f 7])]) H := hP
        have hD : va_D A (List.flatten [bObj g o a th hi ac tp ba en tA fl de iD iO tU, bArr g a (zf [s3, f 1, f 2, f 3, f 4, f 5, f 6, f 7])]) := hD
        refine W.widen (k := 0) (n := 0) (Nat.le_of_ble_eq_true rfl) (Nat.le_of_ble_eq_true rfl) ?_
        refine W.eq (g2 := F0 m 111 ls [.int 0, .int 0]) rfl ?_
        refine lv_iadd hx hb dX12_goes_111 ?_
        refine ztop (r := 0) (by decide) ?_
        refine lv_istore_n (lv' := [(3, .int 0), (5, .int 0), (0, .ref o), (1, .int n), (2, .int dr), (4, .int (nI j))]) hx hb dX12_goes_112 rfl hl (by decide) rfl (fun ls hl => ?_)
        refine lv_iconst (v := 0) hx hb dX12_goes_113 (by decide) ?_
        refine lv_istore (lv' := [(5, .int 0), (3, .int 0), (0, .ref o), (1, .int n), (2, .int dr), (4, .int (nI j))]) hx hb dX12_goes_114 hl (by decide) rfl (fun ls hl => ?_)
        refine lv_iload hx hb dX12_goes_116 (lv_at hl 0 rfl) ?_
        refine lv_aload_n hx hb dX12_goes_118 rfl (lv_at hl 2 rfl) ?_
        refine va_get (D := g.1) (ci := 10) (v := .ref (a 0)) (C := RX12) (T := TX12) (N := 20) hx hb hts izRX12 hown hK hP 0 rfl rfl 1 (by decide) (hts _ k815) (fun _ h9 => h9) rfl dX12_goes_119 ?_
        refine lv_iconst (v := 3) hx hb dX12_goes_122 (by decide) ?_
        refine va_iald hx hb hK hP 1 0 rfl rfl (zin rfl) dX12_goes_123 ?_
        refine ztop (r := s3 3) rfl ?_
        refine ztop (r := 0) hm.1 ?_
        refine lv_icmp_ge (tgt := 166) hx hb dX12_goes_124 (by decide) (fun _ => ?_) (fun c5 => absurd (by decide) c5)
        refine lv_aload_n hx hb dX12_goes_166 rfl (lv_at hl 2 rfl) ?_
        refine va_get (D := g.1) (ci := 10) (v := .ref (a 0)) (C := RX12) (T := TX12) (N := 20) hx hb hts izRX12 hown hK hP 0 rfl rfl 1 (by decide) (hts _ k815) (fun _ h9 => h9) rfl dX12_goes_167 ?_
        refine lv_bipush (v := 8) hx hb dX12_goes_170 (by decide) ?_
        refine lv_sipush (v := 9999) hx hb dX12_goes_172 (by decide) ?_
        refine lv_aload_n hx hb dX12_goes_175 rfl (lv_at hl 2 rfl) ?_
        refine va_get (D := g.1) (ci := 10) (v := .ref (a 0)) (C := RX12) (T := TX12) (N := 20) hx hb hts izRX12 hown hK hP 0 rfl rfl 1 (by decide) (hts _ k815) (fun _ h9 => h9) rfl dX12_goes_176 ?_
        refine lv_bipush (v := 8) hx hb dX12_goes_179 (by decide) ?_
        refine va_iald hx hb hK hP 1 0 rfl rfl (zin rfl) dX12_goes_181 ?_
        refine ztop (r := s3 8) rfl ?_
        refine lv_iconst (v := 1) hx hb dX12_goes_182 (by decide) ?_
        refine lv_iadd hx hb dX12_goes_183 ?_
        refine mcallS (g := g) (As := [.int 9999, .int ((s3 8) + 1)]) (rest := [.int 8, .ref (a 0)]) St hK hT hA hP hD hS hl.1 [] [0, 1] rfl rfl rfl (m_lesser l g 9999 ((s3 8) + 1) ) (va_cwS 2 hts (zgL (zl3 k983 k984 k833) k827) rfl rfl rfl (by decide +kernel) ⟨Nat.le_of_ble_eq_true rfl, Nat.le_of_ble_eq_true rfl⟩) rfl rfl (Nat.le_of_ble_eq_true rfl) dX12_goes_184 ⟨(Nat.le_of_ble_eq_true rfl), (Nat.le_of_ble_eq_true rfl)⟩ (fun q_6 H locs hq7 hP hD hS => ?_)
        have hP : va_P g.1 vwCl (List.flatten [bObj g o a th hi ac tp ba en tA fl de iD iO tU, bArr g a (zf [s3, f 1, f 2, f 3, f 4, f 5, f 6, f 7])]) H := hP
        have hD : va_D A (List.flatten [bObj g o a th hi ac tp ba en tA fl de iD iO tU, bArr g a (zf [s3, f 1, f 2, f 3, f 4, f 5, f 6, f 7])]) := hD
        refine W.widen (k := 0) (n := 0) (Nat.le_of_ble_eq_true rfl) (Nat.le_of_ble_eq_true rfl) ?_
        refine W.eq (g2 := F0 m 187 ls [.int q_6, .int 8, .ref (a 0)]) rfl ?_
        refine va_iast hx hb hK hP hD hS 1 0 rfl rfl (zin rfl) dX12_goes_187 (fun H locs hP hD hS => ?_)
        have hP : va_P g.1 vwCl (List.flatten [bObj g o a th hi ac tp ba en tA fl de iD iO tU, [(a 0, .inl (g.2 0, 779, .inl (upd s3 8 q_6))), (a 1, .inl (g.2 0, 779, .inl (f 1))), (a 2, .inl (g.2 0, 379, .inl (f 2))), (a 3, .inl (g.2 0, 4548, .inl (f 3))), (a 4, .inl (g.2 0, 400, .inl (f 4))), (a 5, .inl (g.2 0, 6, .inl (f 5))), (a 6, .inl (g.2 0, 8, .inl (f 6))), (a 7, .inl (g.2 1, 256, .inl (f 7)))]]) H := hP
        have hD : va_D A (List.flatten [bObj g o a th hi ac tp ba en tA fl de iD iO tU, [(a 0, .inl (g.2 0, 779, .inl (upd s3 8 q_6))), (a 1, .inl (g.2 0, 779, .inl (f 1))), (a 2, .inl (g.2 0, 379, .inl (f 2))), (a 3, .inl (g.2 0, 4548, .inl (f 3))), (a 4, .inl (g.2 0, 400, .inl (f 4))), (a 5, .inl (g.2 0, 6, .inl (f 5))), (a 6, .inl (g.2 0, 8, .inl (f 6))), (a 7, .inl (g.2 1, 256, .inl (f 7)))]]) := hD
        obtain ⟨fm8, hfm8, hm⟩ : ∃ f9 : Nat → Int32, f9 = upd s3 8 q_6 ∧ zMo f9 := ⟨_, rfl, zMo8 hm⟩
        rw [← hfm8] at hP hD
        have hP : va_P g.1 vwCl (List.flatten [bObj g o a th hi ac tp ba en tA fl de iD iO tU, [(a 0, .inl (g.2 0, 779, .inl fm8)), (a 1, .inl (g.2 0, 779, .inl (f 1))), (a 2, .inl (g.2 0, 379, .inl (f 2))), (a 3, .inl (g.2 0, 4548, .inl (f 3))), (a 4, .inl (g.2 0, 400, .inl (f 4))), (a 5, .inl (g.2 0, 6, .inl (f 5))), (a 6, .inl (g.2 0, 8, .inl (f 6))), (a 7, .inl (g.2 1, 256, .inl (f 7)))]]) H := hP
        have hD : va_D A (List.flatten [bObj g o a th hi ac tp ba en tA fl de iD iO tU, [(a 0, .inl (g.2 0, 779, .inl fm8)), (a 1, .inl (g.2 0, 779, .inl (f 1))), (a 2, .inl (g.2 0, 379, .inl (f 2))), (a 3, .inl (g.2 0, 4548, .inl (f 3))), (a 4, .inl (g.2 0, 400, .inl (f 4))), (a 5, .inl (g.2 0, 6, .inl (f 5))), (a 6, .inl (g.2 0, 8, .inl (f 6))), (a 7, .inl (g.2 1, 256, .inl (f 7)))]]) := hD
        refine lv_iinc (v := nI (j + 1)) (lv' := [(4, .int (nI (j + 1))), (5, .int 0), (3, .int 0), (0, .ref o), (1, .int n), (2, .int dr)]) hx hb dX12_goes_188 hl (k := 5) rfl (nI_1 j) (by decide) rfl (fun ls hl => ?_)
        refine lv_goto (tgt := 5) hx hb dX12_goes_191 (by decide) ?_
        have hP : va_P g.1 vwCl (List.flatten [bObj g o a th hi ac tp ba en tA fl de iD iO tU, bArr g a (zf [fm8, f 1, f 2, f 3, f 4, f 5, f 6, f 7])]) H := hP
        have hD : va_D A (List.flatten [bObj g o a th hi ac tp ba en tA fl de iD iO tU, bArr g a (zf [fm8, f 1, f 2, f 3, f 4, f 5, f 6, f 7])]) := hD
        exact ih5 (j + 1) fm8 H locs ls (by omega) hm (by omega) hP hD hS (lv_sub hl [3, 4, 5, 2, 0] rfl)
  exact LP5 (N + 1) 0 (f 0) s.heap _ ls (by omega) hm (by omega) hP hD hS (lv_sub hl [2, 3, 4, 1, 0] rfl)
set_option maxRecDepth 100000 in
set_option maxHeartbeats 4000000 in
theorem m_remembers0 (l : Launch) (g : zG) (o : Nat) (a : Nat → Nat) (th : Int32) (hi : Int32) (tp : Int32) (ba : Int32) (en : Int32) (tA : Int32) (fl : Int32) (de : Int32) (iD : Int32) (iO : Int32) (tU : Int32) (f : Nat → Nat → Int32)  : zM g l yX12_remembers (Cond.code yX12_remembers cX12_remembers 2 none :: zB) ({ frames := 0, cells := 0, slots := 0, locals := 0 } : Room) [.ref o] [bObj g o a th hi 0 tp ba en tA fl de iD iO tU, bArr g a f] (fun (s2 : Nat → Int32) => none) (fun (s2 : Nat → Int32) => True) (fun (s2 : Nat → Int32) => [bObj g o a th hi 1 tp ba en tA fl de iD iO tU, bArr g a (zf [f 0, f 1, f 2, s2, f 4, f 5, f 6, f 7])]) := by
  refine zM.of (cc := cX12_remembers) (maxL := 2) (rt := none) (by decide) rfl (Nat.le_of_ble_eq_true rfl) ?_
  intro p e s m args below meth c A ls St hr hlocks hin hK hT hA hP hD hS hl
  obtain ⟨hx, hb, hml, hown, hts⟩ := id St
  have hl : lv_has ls 2 [(0, .ref o)] := hl
  refine lv_aload_n hx hb dX12_remembers_0 rfl (lv_at hl 0 rfl) ?_
  refine va_get (D := g.1) (ci := 10) (v := .int 0) (C := RX12) (T := TX12) (N := 20) hx hb hts izRX12 hown hK hP 0 rfl rfl 6 (by decide) (hts _ k967) (fun _ h9 => h9) rfl dX12_remembers_1 ?_
  refine lv_bipush (v := 12) hx hb dX12_remembers_4 (by decide) ?_
  refine lv_icmp_ne (tgt := 50) hx hb dX12_remembers_6 (by decide) (fun _ => ?_) (fun c1 => absurd c1 (by decide))
  refine lv_iconst (v := 0) hx hb dX12_remembers_50 (by decide) ?_
  refine lv_istore_n (lv' := [(1, .int 0), (0, .ref o)]) hx hb dX12_remembers_51 rfl hl (by decide) rfl (fun ls hl => ?_)
  have hP : va_P g.1 vwCl (List.flatten [bObj g o a th hi 0 tp ba en tA fl de iD iO tU, bArr g a (zf [f 0, f 1, f 2, (f 3), f 4, f 5, f 6, f 7])]) s.heap := hP
  have hD : va_D A (List.flatten [bObj g o a th hi 0 tp ba en tA fl de iD iO tU, bArr g a (zf [f 0, f 1, f 2, (f 3), f 4, f 5, f 6, f 7])]) := hD
  have LP52 : ∀ (k : Nat) (j : Nat) (s3 : Nat → Int32) (H : Heap) (locs : List Loc) (ls : Array Slot),(j ≤ 379) → (379 - j) < k → va_P g.1 vwCl (List.flatten [bObj g o a th hi 0 tp ba en tA fl de iD iO tU, bArr g a (zf [f 0, f 1, f 2, s3, f 4, f 5, f 6, f 7])]) H → va_D A (List.flatten [bObj g o a th hi 0 tp ba en tA fl de iD iO tU, bArr g a (zf [f 0, f 1, f 2, s3, f 4, f 5, f 6, f 7])]) → va_S A s.heap H locs → lv_has ls 2 [(0, .ref o), (1, .int (nI j))] → W p l e ({ frames := 0, cells := 0, slots := 0, locals := 0 } : Room) s m args below meth c H locs (0) (0) (zF g (fun (s2 : Nat → Int32) => none) (fun (s2 : Nat → Int32) => True) (fun (s2 : Nat → Int32) => [bObj g o a th hi 1 tp ba en tA fl de iD iO tU, bArr g a (zf [f 0, f 1, f 2, s2, f 4, f 5, f 6, f 7])]) ({ frames := 0, cells := 0, slots := 0, locals := 0 } : Room) below args s A) (F0 m 52 ls []) := by
    intro k
    induction k with
    | zero => intro j s3 H locs ls hj hk; exact absurd hk (Nat.not_lt_zero _)
    | succ k ih52 =>
      intro j s3 H locs ls hj hk hP hD hS hl
      refine lv_iload_n hx hb dX12_remembers_52 rfl (lv_at hl 1 rfl) ?_
      refine lv_sipush (v := 379) hx hb dX12_remembers_53 (by decide) ?_
      refine lv_icmp_ge (tgt := 86) hx hb dX12_remembers_56 (by decide) (fun cA => ?_) (fun cA => ?_)
      · skip
        refine lv_aload_n hx hb dX12_remembers_86 rfl (lv_at hl 0 rfl) ?_
        refine lv_dup hx hb dX12_remembers_87 rfl ?_
        refine va_get (D := g.1) (ci := 10) (v := .int 0) (C := RX12) (T := TX12) (N := 20) hx hb hts izRX12 hown hK hP 0 rfl rfl 6 (by decide) (hts _ k967) (fun _ h9 => h9) rfl dX12_remembers_88 ?_
        refine lv_iconst (v := 1) hx hb dX12_remembers_91 (by decide) ?_
        refine lv_iadd hx hb dX12_remembers_92 ?_
        refine ztop (r := 1) (by decide) ?_
        refine va_put (D := g.1) (ci := 10) (v := .int 1) (ty := .int) (C := RX12) (T := TX12) (N := 20) hx hb hts izRX12 tyX12 tyX12_ok nmX12 hown hK hP hD hS 0 rfl rfl 6 (by decide) (hts _ k967) (fun _ h9 => h9) rfl (by decide +kernel) rfl rfl (Nat.le_of_ble_eq_true rfl) dX12_remembers_93 (fun H locs hP hD hS => ?_)
        have hP : va_P g.1 vwCl (List.flatten [[(o, .inr (10, [.int th, .ref (a 0), .ref (a 1), .int hi, .ref (a 2), .ref (a 3), .int 1, .ref (a 4), .int tp, .int ba, .int en, .int tA, .int fl, .int de, .ref (a 5), .int iD, .int iO, .int tU, .ref (a 6), .ref (a 7)]))], bArr g a (zf [f 0, f 1, f 2, s3, f 4, f 5, f 6, f 7])]) H := hP
        have hD : va_D A (List.flatten [[(o, .inr (10, [.int th, .ref (a 0), .ref (a 1), .int hi, .ref (a 2), .ref (a 3), .int 1, .ref (a 4), .int tp, .int ba, .int en, .int tA, .int fl, .int de, .ref (a 5), .int iD, .int iO, .int tU, .ref (a 6), .ref (a 7)]))], bArr g a (zf [f 0, f 1, f 2, s3, f 4, f 5, f 6, f 7])]) := hD
        have hP : va_P g.1 vwCl (List.flatten [bObj g o a th hi 1 tp ba en tA fl de iD iO tU, bArr g a (zf [f 0, f 1, f 2, s3, f 4, f 5, f 6, f 7])]) H := hP
        have hD : va_D A (List.flatten [bObj g o a th hi 1 tp ba en tA fl de iD iO tU, bArr g a (zf [f 0, f 1, f 2, s3, f 4, f 5, f 6, f 7])]) := hD
        exact mret_v hx hb hr hlocks hS (Nat.le_of_ble_eq_true rfl) (Nat.le_of_ble_eq_true rfl) dX12_remembers_96 (s3) rfl trivial hP hD
      · skip
        have hlt : j < 379 := by rcases Nat.lt_or_ge j 379 with q | q; exact q; exact absurd (nI_le q (by omega)) cA
        refine lv_aload_n hx hb dX12_remembers_59 rfl (lv_at hl 0 rfl) ?_
        refine va_get (D := g.1) (ci := 10) (v := .ref (a 3)) (C := RX12) (T := TX12) (N := 20) hx hb hts izRX12 hown hK hP 0 rfl rfl 5 (by decide) (hts _ k818) (fun _ h9 => h9) rfl dX12_remembers_60 ?_
        refine lv_sipush (v := 379) hx hb dX12_remembers_63 (by decide) ?_
        refine lv_aload_n hx hb dX12_remembers_66 rfl (lv_at hl 0 rfl) ?_
        refine va_get (D := g.1) (ci := 10) (v := .int 0) (C := RX12) (T := TX12) (N := 20) hx hb hts izRX12 hown hK hP 0 rfl rfl 6 (by decide) (hts _ k967) (fun _ h9 => h9) rfl dX12_remembers_67 ?_
        refine lv_imul hx hb dX12_remembers_70 ?_
        refine ztop (r := 0) (by decide) ?_
        refine lv_iload_n hx hb dX12_remembers_71 rfl (lv_at hl 1 rfl) ?_
        refine lv_iadd hx hb dX12_remembers_72 ?_
        refine ztop (r := nI j) (by rw [Int32.zero_add]) ?_
        refine lv_aload_n hx hb dX12_remembers_73 rfl (lv_at hl 0 rfl) ?_
        refine va_get (D := g.1) (ci := 10) (v := .ref (a 0)) (C := RX12) (T := TX12) (N := 20) hx hb hts izRX12 hown hK hP 0 rfl rfl 1 (by decide) (hts _ k815) (fun _ h9 => h9) rfl dX12_remembers_74 ?_
        refine lv_iload_n hx hb dX12_remembers_77 rfl (lv_at hl 1 rfl) ?_
        refine va_iald hx hb hK hP 1 0 rfl rfl (vp_in_nI (by omega) (by decide)) dX12_remembers_78 ?_
        refine ztop (r := (f 0) j) (congrArg _ (nI_clamp (n := j) (by omega))) ?_
        refine va_iast hx hb hK hP hD hS 4 0 rfl rfl (vp_in_nI (by omega) (by decide)) dX12_remembers_79 (fun H locs hP hD hS => ?_)
        rw [nI_clamp (n := j) (by omega)] at hP hD
        have hP : va_P g.1 vwCl (List.flatten [bObj g o a th hi 0 tp ba en tA fl de iD iO tU, [(a 0, .inl (g.2 0, 779, .inl (f 0))), (a 1, .inl (g.2 0, 779, .inl (f 1))), (a 2, .inl (g.2 0, 379, .inl (f 2))), (a 3, .inl (g.2 0, 4548, .inl (upd s3 j ((f 0) j)))), (a 4, .inl (g.2 0, 400, .inl (f 4))), (a 5, .inl (g.2 0, 6, .inl (f 5))), (a 6, .inl (g.2 0, 8, .inl (f 6))), (a 7, .inl (g.2 1, 256, .inl (f 7)))]]) H := hP
        have hD : va_D A (List.flatten [bObj g o a th hi 0 tp ba en tA fl de iD iO tU, [(a 0, .inl (g.2 0, 779, .inl (f 0))), (a 1, .inl (g.2 0, 779, .inl (f 1))), (a 2, .inl (g.2 0, 379, .inl (f 2))), (a 3, .inl (g.2 0, 4548, .inl (upd s3 j ((f 0) j)))), (a 4, .inl (g.2 0, 400, .inl (f 4))), (a 5, .inl (g.2 0, 6, .inl (f 5))), (a 6, .inl (g.2 0, 8, .inl (f 6))), (a 7, .inl (g.2 1, 256, .inl (f 7)))]]) := hD
        refine lv_iinc (v := nI (j + 1)) (lv' := [(1, .int (nI (j + 1))), (0, .ref o)]) hx hb dX12_remembers_80 hl (k := 1) rfl (nI_1 j) (by decide) rfl (fun ls hl => ?_)
        refine lv_goto (tgt := 52) hx hb dX12_remembers_83 (by decide) ?_
        have hP : va_P g.1 vwCl (List.flatten [bObj g o a th hi 0 tp ba en tA fl de iD iO tU, bArr g a (zf [f 0, f 1, f 2, (upd s3 j ((f 0) j)), f 4, f 5, f 6, f 7])]) H := hP
        have hD : va_D A (List.flatten [bObj g o a th hi 0 tp ba en tA fl de iD iO tU, bArr g a (zf [f 0, f 1, f 2, (upd s3 j ((f 0) j)), f 4, f 5, f 6, f 7])]) := hD
        exact ih52 (j + 1) (upd s3 j ((f 0) j)) H locs ls (by omega) (by omega) hP hD hS (lv_sub hl [1, 0] rfl)
  exact LP52 (380) 0 (f 3) s.heap _ ls (by omega) (by omega) hP hD hS (lv_sub hl [1, 0] rfl)
set_option maxRecDepth 100000 in
set_option maxHeartbeats 4000000 in
theorem m_thrown (l : Launch) (g : zG) (o : Nat) (a : Nat → Nat) (th : Int32) (hi : Int32) (ac : Int32) (tp : Int32) (ba : Int32) (en : Int32) (tA : Int32) (fl : Int32) (de : Int32) (iD : Int32) (iO : Int32) (tU : Int32)  : zM g l yX12_thrown (Cond.code yX12_thrown cX12_thrown 1 (some .int) :: zB) ({ frames := 0, cells := 0, slots := 0, locals := 0 } : Room) [.ref o] [bObj g o a th hi ac tp ba en tA fl de iD iO tU] (fun _ : Unit => some (.int th)) (fun _ : Unit => True) (fun _ : Unit => [bObj g o a th hi ac tp ba en tA fl de iD iO tU]) := by
  refine zM.of (cc := cX12_thrown) (maxL := 1) (rt := (some .int)) (by decide) rfl (Nat.le_of_ble_eq_true rfl) ?_
  intro p e s m args below meth c A ls St hr hlocks hin hK hT hA hP hD hS hl
  obtain ⟨hx, hb, hml, hown, hts⟩ := id St
  have hl : lv_has ls 1 [(0, .ref o)] := hl
  refine lv_aload_n hx hb dX12_thrown_0 rfl (lv_at hl 0 rfl) ?_
  refine va_get (D := g.1) (ci := 10) (v := .int th) (C := RX12) (T := TX12) (N := 20) hx hb hts izRX12 hown hK hP 0 rfl rfl 0 (by decide) (hts _ k825) (fun _ h9 => h9) rfl dX12_thrown_1 ?_
  have hP : va_P g.1 vwCl (List.flatten [bObj g o a th hi ac tp ba en tA fl de iD iO tU]) s.heap := hP
  have hD : va_D A (List.flatten [bObj g o a th hi ac tp ba en tA fl de iD iO tU]) := hD
  exact mret_i hx hb hr hlocks hS (Nat.le_of_ble_eq_true rfl) (Nat.le_of_ble_eq_true rfl) dX12_thrown_4 () rfl trivial hP hD
set_option maxRecDepth 100000 in
set_option maxHeartbeats 4000000 in
theorem m_person (l : Launch) (g : zG) (o : Nat) (a : Nat → Nat) (th : Int32) (hi : Int32) (ac : Int32) (tp : Int32) (ba : Int32) (en : Int32) (tA : Int32) (fl : Int32) (de : Int32) (iD : Int32) (iO : Int32) (tU : Int32) (f : Nat → Nat → Int32) (n1 : Int32) (n2 : Int32) (hm : zMo (f 0)) : zM g l yX12_person (Cond.code yX12_person cX12_person 3 (some .int) :: zB) ({ frames := 2, cells := 0, slots := 0, locals := 43 } : Room) [.ref o, .int n1, .int n2] [bObj g o a th hi ac tp ba en tA fl de iD iO tU, bArr g a f] (fun u : Int32 × Int32 × Int32 × Int32 × Int32 × Int32 × Int32 × Int32 × Int32 × Int32 × Int32 × Int32 × Int32 => (fun (th2 : Int32) (hi2 : Int32) (ac2 : Int32) (tp2 : Int32) (ba2 : Int32) (en2 : Int32) (tA2 : Int32) (fl2 : Int32) (de2 : Int32) (iD2 : Int32) (iO2 : Int32) (tU2 : Int32) (q : Int32) => some (.int q)) (u.1) (u.2.1) (u.2.2.1) (u.2.2.2.1) (u.2.2.2.2.1) (u.2.2.2.2.2.1) (u.2.2.2.2.2.2.1) (u.2.2.2.2.2.2.2.1) (u.2.2.2.2.2.2.2.2.1) (u.2.2.2.2.2.2.2.2.2.1) (u.2.2.2.2.2.2.2.2.2.2.1) (u.2.2.2.2.2.2.2.2.2.2.2.1) (u.2.2.2.2.2.2.2.2.2.2.2.2)) (fun u : Int32 × Int32 × Int32 × Int32 × Int32 × Int32 × Int32 × Int32 × Int32 × Int32 × Int32 × Int32 × Int32 => (fun (th2 : Int32) (hi2 : Int32) (ac2 : Int32) (tp2 : Int32) (ba2 : Int32) (en2 : Int32) (tA2 : Int32) (fl2 : Int32) (de2 : Int32) (iD2 : Int32) (iO2 : Int32) (tU2 : Int32) (q : Int32) => th2 = 1) (u.1) (u.2.1) (u.2.2.1) (u.2.2.2.1) (u.2.2.2.2.1) (u.2.2.2.2.2.1) (u.2.2.2.2.2.2.1) (u.2.2.2.2.2.2.2.1) (u.2.2.2.2.2.2.2.2.1) (u.2.2.2.2.2.2.2.2.2.1) (u.2.2.2.2.2.2.2.2.2.2.1) (u.2.2.2.2.2.2.2.2.2.2.2.1) (u.2.2.2.2.2.2.2.2.2.2.2.2)) (fun u : Int32 × Int32 × Int32 × Int32 × Int32 × Int32 × Int32 × Int32 × Int32 × Int32 × Int32 × Int32 × Int32 => (fun (th2 : Int32) (hi2 : Int32) (ac2 : Int32) (tp2 : Int32) (ba2 : Int32) (en2 : Int32) (tA2 : Int32) (fl2 : Int32) (de2 : Int32) (iD2 : Int32) (iO2 : Int32) (tU2 : Int32) (q : Int32) => [bObj g o a th2 hi2 ac2 tp2 ba2 en2 tA2 fl2 de2 iD2 iO2 tU2]) (u.1) (u.2.1) (u.2.2.1) (u.2.2.2.1) (u.2.2.2.2.1) (u.2.2.2.2.2.1) (u.2.2.2.2.2.2.1) (u.2.2.2.2.2.2.2.1) (u.2.2.2.2.2.2.2.2.1) (u.2.2.2.2.2.2.2.2.2.1) (u.2.2.2.2.2.2.2.2.2.2.1) (u.2.2.2.2.2.2.2.2.2.2.2.1) (u.2.2.2.2.2.2.2.2.2.2.2.2)) := by
  refine zM.of (cc := cX12_person) (maxL := 3) (rt := (some .int)) (by decide) rfl (Nat.le_of_ble_eq_true rfl) ?_
  intro p e s m args below meth c A ls St hr hlocks hin hK hT hA hP hD hS hl
  obtain ⟨hx, hb, hml, hown, hts⟩ := id St
  have hl : lv_has ls 3 [(0, .ref o), (1, .int n1), (2, .int n2)] := hl
  refine lv_aload_n hx hb dX12_person_0 rfl (lv_at hl 0 rfl) ?_
  refine lv_aload_n hx hb dX12_person_1 rfl (lv_at hl 0 rfl) ?_
  refine lv_iload_n hx hb dX12_person_2 rfl (lv_at hl 1 rfl) ?_
  refine mcallV (g := g) (q0 := 0) (ci := 10) (As := [.int n1]) (rest := [.ref o]) St hK hT hA hP hD hS hl.1 [0, 1] [] rfl rfl rfl (m_isPerson l g o a th hi ac tp ba en tA fl de iD iO tU f n1 (by assumption)) (cwV 1 hts (zgL (zl4 k1028 k1029 k1030 k833) k830) rfl rfl rfl (by decide +kernel) ⟨Nat.le_of_ble_eq_true rfl, Nat.le_of_ble_eq_true rfl⟩) rfl rfl rfl rfl (Nat.le_of_ble_eq_true rfl) dX12_person_3 ⟨(Nat.le_of_ble_eq_true rfl), (Nat.le_of_ble_eq_true rfl)⟩ (fun _u H locs hq1 hP hD hS => ?_)
  have hP : va_P g.1 vwCl (List.flatten [bObj g o a th hi ac tp ba en tA fl de iD iO tU, bArr g a f]) H := hP
  have hD : va_D A (List.flatten [bObj g o a th hi ac tp ba en tA fl de iD iO tU, bArr g a f]) := hD
  refine W.widen (k := 0) (n := 0) (Nat.le_of_ble_eq_true rfl) (Nat.le_of_ble_eq_true rfl) ?_
  refine W.eq (g2 := F0 m 6 ls [.int 0, .ref o]) rfl ?_
  refine lv_if_ne (tgt := 13) hx hb dX12_person_6 (by decide) (fun c2 => absurd (by decide) c2) (fun _ => ?_)
  refine lv_iconst (v := 1) hx hb dX12_person_9 (by decide) ?_
  refine lv_goto (tgt := 28) hx hb dX12_person_10 (by decide) ?_
  refine va_put (D := g.1) (ci := 10) (v := .int 1) (ty := .int) (C := RX12) (T := TX12) (N := 20) hx hb hts izRX12 tyX12 tyX12_ok nmX12 hown hK hP hD hS 0 rfl rfl 0 (by decide) (hts _ k825) (fun _ h9 => h9) rfl (by decide +kernel) rfl rfl (Nat.le_of_ble_eq_true rfl) dX12_person_28 (fun H locs hP hD hS => ?_)
  have hP : va_P g.1 vwCl (List.flatten [[(o, .inr (10, [.int 1, .ref (a 0), .ref (a 1), .int hi, .ref (a 2), .ref (a 3), .int ac, .ref (a 4), .int tp, .int ba, .int en, .int tA, .int fl, .int de, .ref (a 5), .int iD, .int iO, .int tU, .ref (a 6), .ref (a 7)]))], bArr g a f]) H := hP
  have hD : va_D A (List.flatten [[(o, .inr (10, [.int 1, .ref (a 0), .ref (a 1), .int hi, .ref (a 2), .ref (a 3), .int ac, .ref (a 4), .int tp, .int ba, .int en, .int tA, .int fl, .int de, .ref (a 5), .int iD, .int iO, .int tU, .ref (a 6), .ref (a 7)]))], bArr g a f]) := hD
  refine lv_aload_n hx hb dX12_person_31 rfl (lv_at hl 0 rfl) ?_
  refine va_get (D := g.1) (ci := 10) (v := .int 1) (C := RX12) (T := TX12) (N := 20) hx hb hts izRX12 hown hK hP 0 rfl rfl 0 (by decide) (hts _ k825) (fun _ h9 => h9) rfl dX12_person_32 ?_
  refine lv_if_le (tgt := 40) hx hb dX12_person_35 (by decide) (fun c3 => absurd c3 (by decide)) (fun _ => ?_)
  refine lv_iconst (v := 0) hx hb dX12_person_38 (by decide) ?_
  have hP : va_P g.1 vwCl (List.flatten [bObj g o a 1 hi ac tp ba en tA fl de iD iO tU, bArr g a f]) H := hP
  have hD : va_D A (List.flatten [bObj g o a 1 hi ac tp ba en tA fl de iD iO tU, bArr g a f]) := hD
  obtain ⟨hP, hD⟩ := zord (g := g) (Bs' := [bObj g o a 1 hi ac tp ba en tA fl de iD iO tU]) [0] rfl rfl hP hD
  exact mret_i hx hb hr hlocks hS (Nat.le_of_ble_eq_true rfl) (Nat.le_of_ble_eq_true rfl) dX12_person_39 (1, hi, ac, tp, ba, en, tA, fl, de, iD, iO, tU, 0) rfl rfl hP hD
set_option maxRecDepth 100000 in
set_option maxHeartbeats 4000000 in
theorem m_trust (l : Launch) (g : zG) (o : Nat) (a : Nat → Nat) (th : Int32) (hi : Int32) (ac : Int32) (tp : Int32) (ba : Int32) (en : Int32) (tA : Int32) (fl : Int32) (de : Int32) (iD : Int32) (iO : Int32) (tU : Int32) (f : Nat → Nat → Int32) (n1 : Int32) (n2 : Int32) (hm : zMo (f 0)) : zM g l yX12_trust (Cond.code yX12_trust cX12_trust 3 (some .int) :: zB) ({ frames := 2, cells := 0, slots := 0, locals := 43 } : Room) [.ref o, .int n1, .int n2] [bObj g o a th hi ac tp ba en tA fl de iD iO tU, bArr g a f] (fun u : Int32 × Int32 × Int32 × Int32 × Int32 × Int32 × Int32 × Int32 × Int32 × Int32 × Int32 × Int32 × Int32 => (fun (th2 : Int32) (hi2 : Int32) (ac2 : Int32) (tp2 : Int32) (ba2 : Int32) (en2 : Int32) (tA2 : Int32) (fl2 : Int32) (de2 : Int32) (iD2 : Int32) (iO2 : Int32) (tU2 : Int32) (q : Int32) => some (.int q)) (u.1) (u.2.1) (u.2.2.1) (u.2.2.2.1) (u.2.2.2.2.1) (u.2.2.2.2.2.1) (u.2.2.2.2.2.2.1) (u.2.2.2.2.2.2.2.1) (u.2.2.2.2.2.2.2.2.1) (u.2.2.2.2.2.2.2.2.2.1) (u.2.2.2.2.2.2.2.2.2.2.1) (u.2.2.2.2.2.2.2.2.2.2.2.1) (u.2.2.2.2.2.2.2.2.2.2.2.2)) (fun u : Int32 × Int32 × Int32 × Int32 × Int32 × Int32 × Int32 × Int32 × Int32 × Int32 × Int32 × Int32 × Int32 => (fun (th2 : Int32) (hi2 : Int32) (ac2 : Int32) (tp2 : Int32) (ba2 : Int32) (en2 : Int32) (tA2 : Int32) (fl2 : Int32) (de2 : Int32) (iD2 : Int32) (iO2 : Int32) (tU2 : Int32) (q : Int32) => th2 = 1) (u.1) (u.2.1) (u.2.2.1) (u.2.2.2.1) (u.2.2.2.2.1) (u.2.2.2.2.2.1) (u.2.2.2.2.2.2.1) (u.2.2.2.2.2.2.2.1) (u.2.2.2.2.2.2.2.2.1) (u.2.2.2.2.2.2.2.2.2.1) (u.2.2.2.2.2.2.2.2.2.2.1) (u.2.2.2.2.2.2.2.2.2.2.2.1) (u.2.2.2.2.2.2.2.2.2.2.2.2)) (fun u : Int32 × Int32 × Int32 × Int32 × Int32 × Int32 × Int32 × Int32 × Int32 × Int32 × Int32 × Int32 × Int32 => (fun (th2 : Int32) (hi2 : Int32) (ac2 : Int32) (tp2 : Int32) (ba2 : Int32) (en2 : Int32) (tA2 : Int32) (fl2 : Int32) (de2 : Int32) (iD2 : Int32) (iO2 : Int32) (tU2 : Int32) (q : Int32) => [bObj g o a th2 hi2 ac2 tp2 ba2 en2 tA2 fl2 de2 iD2 iO2 tU2]) (u.1) (u.2.1) (u.2.2.1) (u.2.2.2.1) (u.2.2.2.2.1) (u.2.2.2.2.2.1) (u.2.2.2.2.2.2.1) (u.2.2.2.2.2.2.2.1) (u.2.2.2.2.2.2.2.2.1) (u.2.2.2.2.2.2.2.2.2.1) (u.2.2.2.2.2.2.2.2.2.2.1) (u.2.2.2.2.2.2.2.2.2.2.2.1) (u.2.2.2.2.2.2.2.2.2.2.2.2)) := by
  refine zM.of (cc := cX12_trust) (maxL := 3) (rt := (some .int)) (by decide) rfl (Nat.le_of_ble_eq_true rfl) ?_
  intro p e s m args below meth c A ls St hr hlocks hin hK hT hA hP hD hS hl
  obtain ⟨hx, hb, hml, hown, hts⟩ := id St
  have hl : lv_has ls 3 [(0, .ref o), (1, .int n1), (2, .int n2)] := hl
  refine lv_aload_n hx hb dX12_trust_0 rfl (lv_at hl 0 rfl) ?_
  refine lv_aload_n hx hb dX12_trust_1 rfl (lv_at hl 0 rfl) ?_
  refine lv_iload_n hx hb dX12_trust_2 rfl (lv_at hl 1 rfl) ?_
  refine mcallV (g := g) (q0 := 0) (ci := 10) (As := [.int n1]) (rest := [.ref o]) St hK hT hA hP hD hS hl.1 [0, 1] [] rfl rfl rfl (m_isPerson l g o a th hi ac tp ba en tA fl de iD iO tU f n1 (by assumption)) (cwV 1 hts (zgL (zl4 k1028 k1029 k1030 k833) k830) rfl rfl rfl (by decide +kernel) ⟨Nat.le_of_ble_eq_true rfl, Nat.le_of_ble_eq_true rfl⟩) rfl rfl rfl rfl (Nat.le_of_ble_eq_true rfl) dX12_trust_3 ⟨(Nat.le_of_ble_eq_true rfl), (Nat.le_of_ble_eq_true rfl)⟩ (fun _u H locs hq1 hP hD hS => ?_)
  have hP : va_P g.1 vwCl (List.flatten [bObj g o a th hi ac tp ba en tA fl de iD iO tU, bArr g a f]) H := hP
  have hD : va_D A (List.flatten [bObj g o a th hi ac tp ba en tA fl de iD iO tU, bArr g a f]) := hD
  refine W.widen (k := 0) (n := 0) (Nat.le_of_ble_eq_true rfl) (Nat.le_of_ble_eq_true rfl) ?_
  refine W.eq (g2 := F0 m 6 ls [.int 0, .ref o]) rfl ?_
  refine lv_if_eq (tgt := 17) hx hb dX12_trust_6 (by decide) (fun _ => ?_) (fun c2 => absurd (by decide) c2)
  refine lv_iconst (v := 1) hx hb dX12_trust_17 (by decide) ?_
  refine lv_goto (tgt := 31) hx hb dX12_trust_18 (by decide) ?_
  refine va_put (D := g.1) (ci := 10) (v := .int 1) (ty := .int) (C := RX12) (T := TX12) (N := 20) hx hb hts izRX12 tyX12 tyX12_ok nmX12 hown hK hP hD hS 0 rfl rfl 0 (by decide) (hts _ k825) (fun _ h9 => h9) rfl (by decide +kernel) rfl rfl (Nat.le_of_ble_eq_true rfl) dX12_trust_31 (fun H locs hP hD hS => ?_)
  have hP : va_P g.1 vwCl (List.flatten [[(o, .inr (10, [.int 1, .ref (a 0), .ref (a 1), .int hi, .ref (a 2), .ref (a 3), .int ac, .ref (a 4), .int tp, .int ba, .int en, .int tA, .int fl, .int de, .ref (a 5), .int iD, .int iO, .int tU, .ref (a 6), .ref (a 7)]))], bArr g a f]) H := hP
  have hD : va_D A (List.flatten [[(o, .inr (10, [.int 1, .ref (a 0), .ref (a 1), .int hi, .ref (a 2), .ref (a 3), .int ac, .ref (a 4), .int tp, .int ba, .int en, .int tA, .int fl, .int de, .ref (a 5), .int iD, .int iO, .int tU, .ref (a 6), .ref (a 7)]))], bArr g a f]) := hD
  refine lv_aload_n hx hb dX12_trust_34 rfl (lv_at hl 0 rfl) ?_
  refine va_get (D := g.1) (ci := 10) (v := .int 1) (C := RX12) (T := TX12) (N := 20) hx hb hts izRX12 hown hK hP 0 rfl rfl 0 (by decide) (hts _ k825) (fun _ h9 => h9) rfl dX12_trust_35 ?_
  refine lv_if_le (tgt := 45) hx hb dX12_trust_38 (by decide) (fun c3 => absurd c3 (by decide)) (fun _ => ?_)
  refine lv_iconst (v := 0) hx hb dX12_trust_41 (by decide) ?_
  refine lv_goto (tgt := 51) hx hb dX12_trust_42 (by decide) ?_
  have hP : va_P g.1 vwCl (List.flatten [bObj g o a 1 hi ac tp ba en tA fl de iD iO tU, bArr g a f]) H := hP
  have hD : va_D A (List.flatten [bObj g o a 1 hi ac tp ba en tA fl de iD iO tU, bArr g a f]) := hD
  obtain ⟨hP, hD⟩ := zord (g := g) (Bs' := [bObj g o a 1 hi ac tp ba en tA fl de iD iO tU]) [0] rfl rfl hP hD
  exact mret_i hx hb hr hlocks hS (Nat.le_of_ble_eq_true rfl) (Nat.le_of_ble_eq_true rfl) dX12_trust_51 (1, hi, ac, tp, ba, en, tA, fl, de, iD, iO, tU, 0) rfl rfl hP hD
set_option maxRecDepth 100000 in
set_option maxHeartbeats 4000000 in
theorem m_work (l : Launch) (g : zG) (o : Nat) (a : Nat → Nat) (th : Int32) (hi : Int32) (ac : Int32) (tp : Int32) (ba : Int32) (en : Int32) (tA : Int32) (fl : Int32) (de : Int32) (iD : Int32) (iO : Int32) (tU : Int32) (f : Nat → Nat → Int32) (n1 : Int32) (n2 : Int32) (hm : zMo (f 0)) : zM g l yX12_work (Cond.code yX12_work cX12_work 3 (some .int) :: zB) ({ frames := 2, cells := 0, slots := 0, locals := 43 } : Room) [.ref o, .int n1, .int n2] [bObj g o a th hi ac tp ba en tA fl de iD iO tU, bArr g a f] (fun u : Int32 × Int32 × Int32 × Int32 × Int32 × Int32 × Int32 × Int32 × Int32 × Int32 × Int32 × Int32 × Int32 => (fun (th2 : Int32) (hi2 : Int32) (ac2 : Int32) (tp2 : Int32) (ba2 : Int32) (en2 : Int32) (tA2 : Int32) (fl2 : Int32) (de2 : Int32) (iD2 : Int32) (iO2 : Int32) (tU2 : Int32) (q : Int32) => some (.int q)) (u.1) (u.2.1) (u.2.2.1) (u.2.2.2.1) (u.2.2.2.2.1) (u.2.2.2.2.2.1) (u.2.2.2.2.2.2.1) (u.2.2.2.2.2.2.2.1) (u.2.2.2.2.2.2.2.2.1) (u.2.2.2.2.2.2.2.2.2.1) (u.2.2.2.2.2.2.2.2.2.2.1) (u.2.2.2.2.2.2.2.2.2.2.2.1) (u.2.2.2.2.2.2.2.2.2.2.2.2)) (fun u : Int32 × Int32 × Int32 × Int32 × Int32 × Int32 × Int32 × Int32 × Int32 × Int32 × Int32 × Int32 × Int32 => (fun (th2 : Int32) (hi2 : Int32) (ac2 : Int32) (tp2 : Int32) (ba2 : Int32) (en2 : Int32) (tA2 : Int32) (fl2 : Int32) (de2 : Int32) (iD2 : Int32) (iO2 : Int32) (tU2 : Int32) (q : Int32) => th2 = 1) (u.1) (u.2.1) (u.2.2.1) (u.2.2.2.1) (u.2.2.2.2.1) (u.2.2.2.2.2.1) (u.2.2.2.2.2.2.1) (u.2.2.2.2.2.2.2.1) (u.2.2.2.2.2.2.2.2.1) (u.2.2.2.2.2.2.2.2.2.1) (u.2.2.2.2.2.2.2.2.2.2.1) (u.2.2.2.2.2.2.2.2.2.2.2.1) (u.2.2.2.2.2.2.2.2.2.2.2.2)) (fun u : Int32 × Int32 × Int32 × Int32 × Int32 × Int32 × Int32 × Int32 × Int32 × Int32 × Int32 × Int32 × Int32 => (fun (th2 : Int32) (hi2 : Int32) (ac2 : Int32) (tp2 : Int32) (ba2 : Int32) (en2 : Int32) (tA2 : Int32) (fl2 : Int32) (de2 : Int32) (iD2 : Int32) (iO2 : Int32) (tU2 : Int32) (q : Int32) => [bObj g o a th2 hi2 ac2 tp2 ba2 en2 tA2 fl2 de2 iD2 iO2 tU2]) (u.1) (u.2.1) (u.2.2.1) (u.2.2.2.1) (u.2.2.2.2.1) (u.2.2.2.2.2.1) (u.2.2.2.2.2.2.1) (u.2.2.2.2.2.2.2.1) (u.2.2.2.2.2.2.2.2.1) (u.2.2.2.2.2.2.2.2.2.1) (u.2.2.2.2.2.2.2.2.2.2.1) (u.2.2.2.2.2.2.2.2.2.2.2.1) (u.2.2.2.2.2.2.2.2.2.2.2.2)) := by
  refine zM.of (cc := cX12_work) (maxL := 3) (rt := (some .int)) (by decide) rfl (Nat.le_of_ble_eq_true rfl) ?_
  intro p e s m args below meth c A ls St hr hlocks hin hK hT hA hP hD hS hl
  obtain ⟨hx, hb, hml, hown, hts⟩ := id St
  have hl : lv_has ls 3 [(0, .ref o), (1, .int n1), (2, .int n2)] := hl
  refine lv_aload_n hx hb dX12_work_0 rfl (lv_at hl 0 rfl) ?_
  refine lv_aload_n hx hb dX12_work_1 rfl (lv_at hl 0 rfl) ?_
  refine lv_iload_n hx hb dX12_work_2 rfl (lv_at hl 1 rfl) ?_
  refine mcallV (g := g) (q0 := 0) (ci := 10) (As := [.int n1]) (rest := [.ref o]) St hK hT hA hP hD hS hl.1 [0, 1] [] rfl rfl rfl (m_isWork l g o a th hi ac tp ba en tA fl de iD iO tU f n1 (by assumption)) (cwV 1 hts (zgL (zl4 k1041 k1042 k1043 k833) k834) rfl rfl rfl (by decide +kernel) ⟨Nat.le_of_ble_eq_true rfl, Nat.le_of_ble_eq_true rfl⟩) rfl rfl rfl rfl (Nat.le_of_ble_eq_true rfl) dX12_work_3 ⟨(Nat.le_of_ble_eq_true rfl), (Nat.le_of_ble_eq_true rfl)⟩ (fun _u H locs hq1 hP hD hS => ?_)
  have hP : va_P g.1 vwCl (List.flatten [bObj g o a th hi ac tp ba en tA fl de iD iO tU, bArr g a f]) H := hP
  have hD : va_D A (List.flatten [bObj g o a th hi ac tp ba en tA fl de iD iO tU, bArr g a f]) := hD
  refine W.widen (k := 0) (n := 0) (Nat.le_of_ble_eq_true rfl) (Nat.le_of_ble_eq_true rfl) ?_
  refine W.eq (g2 := F0 m 6 ls [.int 0, .ref o]) rfl ?_
  refine lv_if_ne (tgt := 13) hx hb dX12_work_6 (by decide) (fun c2 => absurd (by decide) c2) (fun _ => ?_)
  refine lv_iconst (v := 1) hx hb dX12_work_9 (by decide) ?_
  refine lv_goto (tgt := 27) hx hb dX12_work_10 (by decide) ?_
  refine va_put (D := g.1) (ci := 10) (v := .int 1) (ty := .int) (C := RX12) (T := TX12) (N := 20) hx hb hts izRX12 tyX12 tyX12_ok nmX12 hown hK hP hD hS 0 rfl rfl 0 (by decide) (hts _ k825) (fun _ h9 => h9) rfl (by decide +kernel) rfl rfl (Nat.le_of_ble_eq_true rfl) dX12_work_27 (fun H locs hP hD hS => ?_)
  have hP : va_P g.1 vwCl (List.flatten [[(o, .inr (10, [.int 1, .ref (a 0), .ref (a 1), .int hi, .ref (a 2), .ref (a 3), .int ac, .ref (a 4), .int tp, .int ba, .int en, .int tA, .int fl, .int de, .ref (a 5), .int iD, .int iO, .int tU, .ref (a 6), .ref (a 7)]))], bArr g a f]) H := hP
  have hD : va_D A (List.flatten [[(o, .inr (10, [.int 1, .ref (a 0), .ref (a 1), .int hi, .ref (a 2), .ref (a 3), .int ac, .ref (a 4), .int tp, .int ba, .int en, .int tA, .int fl, .int de, .ref (a 5), .int iD, .int iO, .int tU, .ref (a 6), .ref (a 7)]))], bArr g a f]) := hD
  refine lv_aload_n hx hb dX12_work_30 rfl (lv_at hl 0 rfl) ?_
  refine va_get (D := g.1) (ci := 10) (v := .int 1) (C := RX12) (T := TX12) (N := 20) hx hb hts izRX12 hown hK hP 0 rfl rfl 0 (by decide) (hts _ k825) (fun _ h9 => h9) rfl dX12_work_31 ?_
  refine lv_if_le (tgt := 41) hx hb dX12_work_34 (by decide) (fun c3 => absurd c3 (by decide)) (fun _ => ?_)
  refine lv_iconst (v := 0) hx hb dX12_work_37 (by decide) ?_
  refine lv_goto (tgt := 47) hx hb dX12_work_38 (by decide) ?_
  have hP : va_P g.1 vwCl (List.flatten [bObj g o a 1 hi ac tp ba en tA fl de iD iO tU, bArr g a f]) H := hP
  have hD : va_D A (List.flatten [bObj g o a 1 hi ac tp ba en tA fl de iD iO tU, bArr g a f]) := hD
  obtain ⟨hP, hD⟩ := zord (g := g) (Bs' := [bObj g o a 1 hi ac tp ba en tA fl de iD iO tU]) [0] rfl rfl hP hD
  exact mret_i hx hb hr hlocks hS (Nat.le_of_ble_eq_true rfl) (Nat.le_of_ble_eq_true rfl) dX12_work_47 (1, hi, ac, tp, ba, en, tA, fl, de, iD, iO, tU, 0) rfl rfl hP hD
set_option maxRecDepth 100000 in
set_option maxHeartbeats 4000000 in
theorem m_tell (l : Launch) (g : zG) (o : Nat) (a : Nat → Nat) (th : Int32) (hi : Int32) (ac : Int32) (tp : Int32) (ba : Int32) (en : Int32) (tA : Int32) (fl : Int32) (de : Int32) (iD : Int32) (iO : Int32) (tU : Int32) (f : Nat → Nat → Int32) (n1 : Int32) (hm : zMo (f 0)) : zM g l yX12_tell (Cond.code yX12_tell cX12_tell 2 (some .int) :: zB) ({ frames := 2, cells := 0, slots := 0, locals := 43 } : Room) [.ref o, .int n1] [bObj g o a th hi ac tp ba en tA fl de iD iO tU, bArr g a f] (fun u : Int32 × Int32 × Int32 × Int32 × Int32 × Int32 × Int32 × Int32 × Int32 × Int32 × Int32 × Int32 × Int32 => (fun (th2 : Int32) (hi2 : Int32) (ac2 : Int32) (tp2 : Int32) (ba2 : Int32) (en2 : Int32) (tA2 : Int32) (fl2 : Int32) (de2 : Int32) (iD2 : Int32) (iO2 : Int32) (tU2 : Int32) (q : Int32) => some (.int q)) (u.1) (u.2.1) (u.2.2.1) (u.2.2.2.1) (u.2.2.2.2.1) (u.2.2.2.2.2.1) (u.2.2.2.2.2.2.1) (u.2.2.2.2.2.2.2.1) (u.2.2.2.2.2.2.2.2.1) (u.2.2.2.2.2.2.2.2.2.1) (u.2.2.2.2.2.2.2.2.2.2.1) (u.2.2.2.2.2.2.2.2.2.2.2.1) (u.2.2.2.2.2.2.2.2.2.2.2.2)) (fun u : Int32 × Int32 × Int32 × Int32 × Int32 × Int32 × Int32 × Int32 × Int32 × Int32 × Int32 × Int32 × Int32 => (fun (th2 : Int32) (hi2 : Int32) (ac2 : Int32) (tp2 : Int32) (ba2 : Int32) (en2 : Int32) (tA2 : Int32) (fl2 : Int32) (de2 : Int32) (iD2 : Int32) (iO2 : Int32) (tU2 : Int32) (q : Int32) => th2 = 1) (u.1) (u.2.1) (u.2.2.1) (u.2.2.2.1) (u.2.2.2.2.1) (u.2.2.2.2.2.1) (u.2.2.2.2.2.2.1) (u.2.2.2.2.2.2.2.1) (u.2.2.2.2.2.2.2.2.1) (u.2.2.2.2.2.2.2.2.2.1) (u.2.2.2.2.2.2.2.2.2.2.1) (u.2.2.2.2.2.2.2.2.2.2.2.1) (u.2.2.2.2.2.2.2.2.2.2.2.2)) (fun u : Int32 × Int32 × Int32 × Int32 × Int32 × Int32 × Int32 × Int32 × Int32 × Int32 × Int32 × Int32 × Int32 => (fun (th2 : Int32) (hi2 : Int32) (ac2 : Int32) (tp2 : Int32) (ba2 : Int32) (en2 : Int32) (tA2 : Int32) (fl2 : Int32) (de2 : Int32) (iD2 : Int32) (iO2 : Int32) (tU2 : Int32) (q : Int32) => [bObj g o a th2 hi2 ac2 tp2 ba2 en2 tA2 fl2 de2 iD2 iO2 tU2]) (u.1) (u.2.1) (u.2.2.1) (u.2.2.2.1) (u.2.2.2.2.1) (u.2.2.2.2.2.1) (u.2.2.2.2.2.2.1) (u.2.2.2.2.2.2.2.1) (u.2.2.2.2.2.2.2.2.1) (u.2.2.2.2.2.2.2.2.2.1) (u.2.2.2.2.2.2.2.2.2.2.1) (u.2.2.2.2.2.2.2.2.2.2.2.1) (u.2.2.2.2.2.2.2.2.2.2.2.2)) := by
  refine zM.of (cc := cX12_tell) (maxL := 2) (rt := (some .int)) (by decide) rfl (Nat.le_of_ble_eq_true rfl) ?_
  intro p e s m args below meth c A ls St hr hlocks hin hK hT hA hP hD hS hl
  obtain ⟨hx, hb, hml, hown, hts⟩ := id St
  have hl : lv_has ls 2 [(0, .ref o), (1, .int n1)] := hl
  refine lv_aload_n hx hb dX12_tell_0 rfl (lv_at hl 0 rfl) ?_
  refine lv_aload_n hx hb dX12_tell_1 rfl (lv_at hl 0 rfl) ?_
  refine lv_iload_n hx hb dX12_tell_2 rfl (lv_at hl 1 rfl) ?_
  refine mcallV (g := g) (q0 := 0) (ci := 10) (As := [.int n1]) (rest := [.ref o]) St hK hT hA hP hD hS hl.1 [0, 1] [] rfl rfl rfl (m_isPerson l g o a th hi ac tp ba en tA fl de iD iO tU f n1 (by assumption)) (cwV 1 hts (zgL (zl4 k1028 k1029 k1030 k833) k830) rfl rfl rfl (by decide +kernel) ⟨Nat.le_of_ble_eq_true rfl, Nat.le_of_ble_eq_true rfl⟩) rfl rfl rfl rfl (Nat.le_of_ble_eq_true rfl) dX12_tell_3 ⟨(Nat.le_of_ble_eq_true rfl), (Nat.le_of_ble_eq_true rfl)⟩ (fun _u H locs hq1 hP hD hS => ?_)
  have hP : va_P g.1 vwCl (List.flatten [bObj g o a th hi ac tp ba en tA fl de iD iO tU, bArr g a f]) H := hP
  have hD : va_D A (List.flatten [bObj g o a th hi ac tp ba en tA fl de iD iO tU, bArr g a f]) := hD
  refine W.widen (k := 0) (n := 0) (Nat.le_of_ble_eq_true rfl) (Nat.le_of_ble_eq_true rfl) ?_
  refine W.eq (g2 := F0 m 6 ls [.int 0, .ref o]) rfl ?_
  refine lv_if_ne (tgt := 13) hx hb dX12_tell_6 (by decide) (fun c2 => absurd (by decide) c2) (fun _ => ?_)
  refine lv_iconst (v := 1) hx hb dX12_tell_9 (by decide) ?_
  refine lv_goto (tgt := 26) hx hb dX12_tell_10 (by decide) ?_
  refine va_put (D := g.1) (ci := 10) (v := .int 1) (ty := .int) (C := RX12) (T := TX12) (N := 20) hx hb hts izRX12 tyX12 tyX12_ok nmX12 hown hK hP hD hS 0 rfl rfl 0 (by decide) (hts _ k825) (fun _ h9 => h9) rfl (by decide +kernel) rfl rfl (Nat.le_of_ble_eq_true rfl) dX12_tell_26 (fun H locs hP hD hS => ?_)
  have hP : va_P g.1 vwCl (List.flatten [[(o, .inr (10, [.int 1, .ref (a 0), .ref (a 1), .int hi, .ref (a 2), .ref (a 3), .int ac, .ref (a 4), .int tp, .int ba, .int en, .int tA, .int fl, .int de, .ref (a 5), .int iD, .int iO, .int tU, .ref (a 6), .ref (a 7)]))], bArr g a f]) H := hP
  have hD : va_D A (List.flatten [[(o, .inr (10, [.int 1, .ref (a 0), .ref (a 1), .int hi, .ref (a 2), .ref (a 3), .int ac, .ref (a 4), .int tp, .int ba, .int en, .int tA, .int fl, .int de, .ref (a 5), .int iD, .int iO, .int tU, .ref (a 6), .ref (a 7)]))], bArr g a f]) := hD
  refine lv_aload_n hx hb dX12_tell_29 rfl (lv_at hl 0 rfl) ?_
  refine va_get (D := g.1) (ci := 10) (v := .int 1) (C := RX12) (T := TX12) (N := 20) hx hb hts izRX12 hown hK hP 0 rfl rfl 0 (by decide) (hts _ k825) (fun _ h9 => h9) rfl dX12_tell_30 ?_
  refine lv_if_le (tgt := 38) hx hb dX12_tell_33 (by decide) (fun c3 => absurd c3 (by decide)) (fun _ => ?_)
  refine lv_iconst (v := 0) hx hb dX12_tell_36 (by decide) ?_
  have hP : va_P g.1 vwCl (List.flatten [bObj g o a 1 hi ac tp ba en tA fl de iD iO tU, bArr g a f]) H := hP
  have hD : va_D A (List.flatten [bObj g o a 1 hi ac tp ba en tA fl de iD iO tU, bArr g a f]) := hD
  obtain ⟨hP, hD⟩ := zord (g := g) (Bs' := [bObj g o a 1 hi ac tp ba en tA fl de iD iO tU]) [0] rfl rfl hP hD
  exact mret_i hx hb hr hlocks hS (Nat.le_of_ble_eq_true rfl) (Nat.le_of_ble_eq_true rfl) dX12_tell_37 (1, hi, ac, tp, ba, en, tA, fl, de, iD, iO, tU, 0) rfl rfl hP hD
set_option maxRecDepth 100000 in
set_option maxHeartbeats 4000000 in
theorem m_tie (l : Launch) (g : zG) (o : Nat) (a : Nat → Nat) (th : Int32) (hi : Int32) (ac : Int32) (tp : Int32) (ba : Int32) (en : Int32) (tA : Int32) (fl : Int32) (de : Int32) (iD : Int32) (iO : Int32) (tU : Int32) (f : Nat → Nat → Int32) (n1 : Int32) (n2 : Int32) (n3 : Int32) (hm : zMo (f 0)) : zM g l yX12_tie (Cond.code yX12_tie cX12_tie 5 (some .int) :: zB) ({ frames := 2, cells := 0, slots := 0, locals := 43 } : Room) [.ref o, .int n1, .int n2, .int n3] [bObj g o a th hi ac tp ba en tA fl de iD iO tU, bArr g a f] (fun u : Int32 × Int32 × Int32 × Int32 × Int32 × Int32 × Int32 × Int32 × Int32 × Int32 × Int32 × Int32 × Int32 => (fun (th2 : Int32) (hi2 : Int32) (ac2 : Int32) (tp2 : Int32) (ba2 : Int32) (en2 : Int32) (tA2 : Int32) (fl2 : Int32) (de2 : Int32) (iD2 : Int32) (iO2 : Int32) (tU2 : Int32) (q : Int32) => some (.int q)) (u.1) (u.2.1) (u.2.2.1) (u.2.2.2.1) (u.2.2.2.2.1) (u.2.2.2.2.2.1) (u.2.2.2.2.2.2.1) (u.2.2.2.2.2.2.2.1) (u.2.2.2.2.2.2.2.2.1) (u.2.2.2.2.2.2.2.2.2.1) (u.2.2.2.2.2.2.2.2.2.2.1) (u.2.2.2.2.2.2.2.2.2.2.2.1) (u.2.2.2.2.2.2.2.2.2.2.2.2)) (fun u : Int32 × Int32 × Int32 × Int32 × Int32 × Int32 × Int32 × Int32 × Int32 × Int32 × Int32 × Int32 × Int32 => (fun (th2 : Int32) (hi2 : Int32) (ac2 : Int32) (tp2 : Int32) (ba2 : Int32) (en2 : Int32) (tA2 : Int32) (fl2 : Int32) (de2 : Int32) (iD2 : Int32) (iO2 : Int32) (tU2 : Int32) (q : Int32) => th2 = 1) (u.1) (u.2.1) (u.2.2.1) (u.2.2.2.1) (u.2.2.2.2.1) (u.2.2.2.2.2.1) (u.2.2.2.2.2.2.1) (u.2.2.2.2.2.2.2.1) (u.2.2.2.2.2.2.2.2.1) (u.2.2.2.2.2.2.2.2.2.1) (u.2.2.2.2.2.2.2.2.2.2.1) (u.2.2.2.2.2.2.2.2.2.2.2.1) (u.2.2.2.2.2.2.2.2.2.2.2.2)) (fun u : Int32 × Int32 × Int32 × Int32 × Int32 × Int32 × Int32 × Int32 × Int32 × Int32 × Int32 × Int32 × Int32 => (fun (th2 : Int32) (hi2 : Int32) (ac2 : Int32) (tp2 : Int32) (ba2 : Int32) (en2 : Int32) (tA2 : Int32) (fl2 : Int32) (de2 : Int32) (iD2 : Int32) (iO2 : Int32) (tU2 : Int32) (q : Int32) => [bObj g o a th2 hi2 ac2 tp2 ba2 en2 tA2 fl2 de2 iD2 iO2 tU2]) (u.1) (u.2.1) (u.2.2.1) (u.2.2.2.1) (u.2.2.2.2.1) (u.2.2.2.2.2.1) (u.2.2.2.2.2.2.1) (u.2.2.2.2.2.2.2.1) (u.2.2.2.2.2.2.2.2.1) (u.2.2.2.2.2.2.2.2.2.1) (u.2.2.2.2.2.2.2.2.2.2.1) (u.2.2.2.2.2.2.2.2.2.2.2.1) (u.2.2.2.2.2.2.2.2.2.2.2.2)) := by
  refine zM.of (cc := cX12_tie) (maxL := 5) (rt := (some .int)) (by decide) rfl (Nat.le_of_ble_eq_true rfl) ?_
  intro p e s m args below meth c A ls St hr hlocks hin hK hT hA hP hD hS hl
  obtain ⟨hx, hb, hml, hown, hts⟩ := id St
  have hl : lv_has ls 5 [(0, .ref o), (1, .int n1), (2, .int n2), (3, .int n3)] := hl
  refine lv_aload_n hx hb dX12_tie_0 rfl (lv_at hl 0 rfl) ?_
  refine lv_aload_n hx hb dX12_tie_1 rfl (lv_at hl 0 rfl) ?_
  refine lv_iload_n hx hb dX12_tie_2 rfl (lv_at hl 1 rfl) ?_
  refine mcallV (g := g) (q0 := 0) (ci := 10) (As := [.int n1]) (rest := [.ref o]) St hK hT hA hP hD hS hl.1 [0, 1] [] rfl rfl rfl (m_isPerson l g o a th hi ac tp ba en tA fl de iD iO tU f n1 (by assumption)) (cwV 1 hts (zgL (zl4 k1028 k1029 k1030 k833) k830) rfl rfl rfl (by decide +kernel) ⟨Nat.le_of_ble_eq_true rfl, Nat.le_of_ble_eq_true rfl⟩) rfl rfl rfl rfl (Nat.le_of_ble_eq_true rfl) dX12_tie_3 ⟨(Nat.le_of_ble_eq_true rfl), (Nat.le_of_ble_eq_true rfl)⟩ (fun _u H locs hq1 hP hD hS => ?_)
  have hP : va_P g.1 vwCl (List.flatten [bObj g o a th hi ac tp ba en tA fl de iD iO tU, bArr g a f]) H := hP
  have hD : va_D A (List.flatten [bObj g o a th hi ac tp ba en tA fl de iD iO tU, bArr g a f]) := hD
  refine W.widen (k := 0) (n := 0) (Nat.le_of_ble_eq_true rfl) (Nat.le_of_ble_eq_true rfl) ?_
  refine W.eq (g2 := F0 m 6 ls [.int 0, .ref o]) rfl ?_
  refine lv_if_eq (tgt := 17) hx hb dX12_tie_6 (by decide) (fun _ => ?_) (fun c2 => absurd (by decide) c2)
  refine lv_iconst (v := 1) hx hb dX12_tie_17 (by decide) ?_
  refine lv_goto (tgt := 41) hx hb dX12_tie_18 (by decide) ?_
  refine va_put (D := g.1) (ci := 10) (v := .int 1) (ty := .int) (C := RX12) (T := TX12) (N := 20) hx hb hts izRX12 tyX12 tyX12_ok nmX12 hown hK hP hD hS 0 rfl rfl 0 (by decide) (hts _ k825) (fun _ h9 => h9) rfl (by decide +kernel) rfl rfl (Nat.le_of_ble_eq_true rfl) dX12_tie_41 (fun H locs hP hD hS => ?_)
  have hP : va_P g.1 vwCl (List.flatten [[(o, .inr (10, [.int 1, .ref (a 0), .ref (a 1), .int hi, .ref (a 2), .ref (a 3), .int ac, .ref (a 4), .int tp, .int ba, .int en, .int tA, .int fl, .int de, .ref (a 5), .int iD, .int iO, .int tU, .ref (a 6), .ref (a 7)]))], bArr g a f]) H := hP
  have hD : va_D A (List.flatten [[(o, .inr (10, [.int 1, .ref (a 0), .ref (a 1), .int hi, .ref (a 2), .ref (a 3), .int ac, .ref (a 4), .int tp, .int ba, .int en, .int tA, .int fl, .int de, .ref (a 5), .int iD, .int iO, .int tU, .ref (a 6), .ref (a 7)]))], bArr g a f]) := hD
  refine lv_aload_n hx hb dX12_tie_44 rfl (lv_at hl 0 rfl) ?_
  refine va_get (D := g.1) (ci := 10) (v := .int 1) (C := RX12) (T := TX12) (N := 20) hx hb hts izRX12 hown hK hP 0 rfl rfl 0 (by decide) (hts _ k825) (fun _ h9 => h9) rfl dX12_tie_45 ?_
  refine lv_if_le (tgt := 53) hx hb dX12_tie_48 (by decide) (fun c3 => absurd c3 (by decide)) (fun _ => ?_)
  refine lv_iconst (v := 0) hx hb dX12_tie_51 (by decide) ?_
  have hP : va_P g.1 vwCl (List.flatten [bObj g o a 1 hi ac tp ba en tA fl de iD iO tU, bArr g a f]) H := hP
  have hD : va_D A (List.flatten [bObj g o a 1 hi ac tp ba en tA fl de iD iO tU, bArr g a f]) := hD
  obtain ⟨hP, hD⟩ := zord (g := g) (Bs' := [bObj g o a 1 hi ac tp ba en tA fl de iD iO tU]) [0] rfl rfl hP hD
  exact mret_i hx hb hr hlocks hS (Nat.le_of_ble_eq_true rfl) (Nat.le_of_ble_eq_true rfl) dX12_tie_52 (1, hi, ac, tp, ba, en, tA, fl, de, iD, iO, tU, 0) rfl rfl hP hD
set_option maxRecDepth 100000 in
set_option maxHeartbeats 4000000 in
theorem m_send (l : Launch) (g : zG) (o : Nat) (a : Nat → Nat) (th : Int32) (hi : Int32) (ac : Int32) (tp : Int32) (ba : Int32) (en : Int32) (tA : Int32) (fl : Int32) (de : Int32) (iD : Int32) (iO : Int32) (tU : Int32) (f : Nat → Nat → Int32) (n1 : Int32) (hm : zMo (f 0)) : zM g l yX12_send (Cond.code yX12_send cX12_send 2 (some .int) :: zB) ({ frames := 2, cells := 0, slots := 0, locals := 43 } : Room) [.ref o, .int n1] [bObj g o a th hi ac tp ba en tA fl de iD iO tU, bArr g a f] (fun u : Int32 × Int32 × Int32 × Int32 × Int32 × Int32 × Int32 × Int32 × Int32 × Int32 × Int32 × Int32 × Int32 => (fun (th2 : Int32) (hi2 : Int32) (ac2 : Int32) (tp2 : Int32) (ba2 : Int32) (en2 : Int32) (tA2 : Int32) (fl2 : Int32) (de2 : Int32) (iD2 : Int32) (iO2 : Int32) (tU2 : Int32) (q : Int32) => some (.int q)) (u.1) (u.2.1) (u.2.2.1) (u.2.2.2.1) (u.2.2.2.2.1) (u.2.2.2.2.2.1) (u.2.2.2.2.2.2.1) (u.2.2.2.2.2.2.2.1) (u.2.2.2.2.2.2.2.2.1) (u.2.2.2.2.2.2.2.2.2.1) (u.2.2.2.2.2.2.2.2.2.2.1) (u.2.2.2.2.2.2.2.2.2.2.2.1) (u.2.2.2.2.2.2.2.2.2.2.2.2)) (fun u : Int32 × Int32 × Int32 × Int32 × Int32 × Int32 × Int32 × Int32 × Int32 × Int32 × Int32 × Int32 × Int32 => (fun (th2 : Int32) (hi2 : Int32) (ac2 : Int32) (tp2 : Int32) (ba2 : Int32) (en2 : Int32) (tA2 : Int32) (fl2 : Int32) (de2 : Int32) (iD2 : Int32) (iO2 : Int32) (tU2 : Int32) (q : Int32) => th2 = 1) (u.1) (u.2.1) (u.2.2.1) (u.2.2.2.1) (u.2.2.2.2.1) (u.2.2.2.2.2.1) (u.2.2.2.2.2.2.1) (u.2.2.2.2.2.2.2.1) (u.2.2.2.2.2.2.2.2.1) (u.2.2.2.2.2.2.2.2.2.1) (u.2.2.2.2.2.2.2.2.2.2.1) (u.2.2.2.2.2.2.2.2.2.2.2.1) (u.2.2.2.2.2.2.2.2.2.2.2.2)) (fun u : Int32 × Int32 × Int32 × Int32 × Int32 × Int32 × Int32 × Int32 × Int32 × Int32 × Int32 × Int32 × Int32 => (fun (th2 : Int32) (hi2 : Int32) (ac2 : Int32) (tp2 : Int32) (ba2 : Int32) (en2 : Int32) (tA2 : Int32) (fl2 : Int32) (de2 : Int32) (iD2 : Int32) (iO2 : Int32) (tU2 : Int32) (q : Int32) => [bObj g o a th2 hi2 ac2 tp2 ba2 en2 tA2 fl2 de2 iD2 iO2 tU2]) (u.1) (u.2.1) (u.2.2.1) (u.2.2.2.1) (u.2.2.2.2.1) (u.2.2.2.2.2.1) (u.2.2.2.2.2.2.1) (u.2.2.2.2.2.2.2.1) (u.2.2.2.2.2.2.2.2.1) (u.2.2.2.2.2.2.2.2.2.1) (u.2.2.2.2.2.2.2.2.2.2.1) (u.2.2.2.2.2.2.2.2.2.2.2.1) (u.2.2.2.2.2.2.2.2.2.2.2.2)) := by
  refine zM.of (cc := cX12_send) (maxL := 2) (rt := (some .int)) (by decide) rfl (Nat.le_of_ble_eq_true rfl) ?_
  intro p e s m args below meth c A ls St hr hlocks hin hK hT hA hP hD hS hl
  obtain ⟨hx, hb, hml, hown, hts⟩ := id St
  have hl : lv_has ls 2 [(0, .ref o), (1, .int n1)] := hl
  refine lv_aload_n hx hb dX12_send_0 rfl (lv_at hl 0 rfl) ?_
  refine lv_aload_n hx hb dX12_send_1 rfl (lv_at hl 0 rfl) ?_
  refine lv_iload_n hx hb dX12_send_2 rfl (lv_at hl 1 rfl) ?_
  refine mcallV (g := g) (q0 := 0) (ci := 10) (As := [.int n1]) (rest := [.ref o]) St hK hT hA hP hD hS hl.1 [0, 1] [] rfl rfl rfl (m_isPerson l g o a th hi ac tp ba en tA fl de iD iO tU f n1 (by assumption)) (cwV 1 hts (zgL (zl4 k1028 k1029 k1030 k833) k830) rfl rfl rfl (by decide +kernel) ⟨Nat.le_of_ble_eq_true rfl, Nat.le_of_ble_eq_true rfl⟩) rfl rfl rfl rfl (Nat.le_of_ble_eq_true rfl) dX12_send_3 ⟨(Nat.le_of_ble_eq_true rfl), (Nat.le_of_ble_eq_true rfl)⟩ (fun _u H locs hq1 hP hD hS => ?_)
  have hP : va_P g.1 vwCl (List.flatten [bObj g o a th hi ac tp ba en tA fl de iD iO tU, bArr g a f]) H := hP
  have hD : va_D A (List.flatten [bObj g o a th hi ac tp ba en tA fl de iD iO tU, bArr g a f]) := hD
  refine W.widen (k := 0) (n := 0) (Nat.le_of_ble_eq_true rfl) (Nat.le_of_ble_eq_true rfl) ?_
  refine W.eq (g2 := F0 m 6 ls [.int 0, .ref o]) rfl ?_
  refine lv_if_ne (tgt := 13) hx hb dX12_send_6 (by decide) (fun c2 => absurd (by decide) c2) (fun _ => ?_)
  refine lv_iconst (v := 1) hx hb dX12_send_9 (by decide) ?_
  refine lv_goto (tgt := 26) hx hb dX12_send_10 (by decide) ?_
  refine va_put (D := g.1) (ci := 10) (v := .int 1) (ty := .int) (C := RX12) (T := TX12) (N := 20) hx hb hts izRX12 tyX12 tyX12_ok nmX12 hown hK hP hD hS 0 rfl rfl 0 (by decide) (hts _ k825) (fun _ h9 => h9) rfl (by decide +kernel) rfl rfl (Nat.le_of_ble_eq_true rfl) dX12_send_26 (fun H locs hP hD hS => ?_)
  have hP : va_P g.1 vwCl (List.flatten [[(o, .inr (10, [.int 1, .ref (a 0), .ref (a 1), .int hi, .ref (a 2), .ref (a 3), .int ac, .ref (a 4), .int tp, .int ba, .int en, .int tA, .int fl, .int de, .ref (a 5), .int iD, .int iO, .int tU, .ref (a 6), .ref (a 7)]))], bArr g a f]) H := hP
  have hD : va_D A (List.flatten [[(o, .inr (10, [.int 1, .ref (a 0), .ref (a 1), .int hi, .ref (a 2), .ref (a 3), .int ac, .ref (a 4), .int tp, .int ba, .int en, .int tA, .int fl, .int de, .ref (a 5), .int iD, .int iO, .int tU, .ref (a 6), .ref (a 7)]))], bArr g a f]) := hD
  refine lv_aload_n hx hb dX12_send_29 rfl (lv_at hl 0 rfl) ?_
  refine va_get (D := g.1) (ci := 10) (v := .int 1) (C := RX12) (T := TX12) (N := 20) hx hb hts izRX12 hown hK hP 0 rfl rfl 0 (by decide) (hts _ k825) (fun _ h9 => h9) rfl dX12_send_30 ?_
  refine lv_if_le (tgt := 38) hx hb dX12_send_33 (by decide) (fun c3 => absurd c3 (by decide)) (fun _ => ?_)
  refine lv_iconst (v := 0) hx hb dX12_send_36 (by decide) ?_
  have hP : va_P g.1 vwCl (List.flatten [bObj g o a 1 hi ac tp ba en tA fl de iD iO tU, bArr g a f]) H := hP
  have hD : va_D A (List.flatten [bObj g o a 1 hi ac tp ba en tA fl de iD iO tU, bArr g a f]) := hD
  obtain ⟨hP, hD⟩ := zord (g := g) (Bs' := [bObj g o a 1 hi ac tp ba en tA fl de iD iO tU]) [0] rfl rfl hP hD
  exact mret_i hx hb hr hlocks hS (Nat.le_of_ble_eq_true rfl) (Nat.le_of_ble_eq_true rfl) dX12_send_37 (1, hi, ac, tp, ba, en, tA, fl, de, iD, iO, tU, 0) rfl rfl hP hD
set_option maxRecDepth 100000 in
set_option maxHeartbeats 4000000 in
theorem m_buy (l : Launch) (g : zG) (o : Nat) (a : Nat → Nat) (th : Int32) (hi : Int32) (ac : Int32) (tp : Int32) (ba : Int32) (en : Int32) (tA : Int32) (fl : Int32) (de : Int32) (iD : Int32) (iO : Int32) (tU : Int32) (f : Nat → Nat → Int32) (n1 : Int32) (n2 : Int32) (hm : zMo (f 0)) : zM g l yX12_buy (Cond.code yX12_buy cX12_buy 4 (some .int) :: zB) ({ frames := 2, cells := 0, slots := 0, locals := 43 } : Room) [.ref o, .int n1, .int n2] [bObj g o a th hi ac tp ba en tA fl de iD iO tU, bArr g a f] (fun u : Int32 × Int32 × Int32 × Int32 × Int32 × Int32 × Int32 × Int32 × Int32 × Int32 × Int32 × Int32 × Int32 => (fun (th2 : Int32) (hi2 : Int32) (ac2 : Int32) (tp2 : Int32) (ba2 : Int32) (en2 : Int32) (tA2 : Int32) (fl2 : Int32) (de2 : Int32) (iD2 : Int32) (iO2 : Int32) (tU2 : Int32) (q : Int32) => some (.int q)) (u.1) (u.2.1) (u.2.2.1) (u.2.2.2.1) (u.2.2.2.2.1) (u.2.2.2.2.2.1) (u.2.2.2.2.2.2.1) (u.2.2.2.2.2.2.2.1) (u.2.2.2.2.2.2.2.2.1) (u.2.2.2.2.2.2.2.2.2.1) (u.2.2.2.2.2.2.2.2.2.2.1) (u.2.2.2.2.2.2.2.2.2.2.2.1) (u.2.2.2.2.2.2.2.2.2.2.2.2)) (fun u : Int32 × Int32 × Int32 × Int32 × Int32 × Int32 × Int32 × Int32 × Int32 × Int32 × Int32 × Int32 × Int32 => (fun (th2 : Int32) (hi2 : Int32) (ac2 : Int32) (tp2 : Int32) (ba2 : Int32) (en2 : Int32) (tA2 : Int32) (fl2 : Int32) (de2 : Int32) (iD2 : Int32) (iO2 : Int32) (tU2 : Int32) (q : Int32) => th2 = 1) (u.1) (u.2.1) (u.2.2.1) (u.2.2.2.1) (u.2.2.2.2.1) (u.2.2.2.2.2.1) (u.2.2.2.2.2.2.1) (u.2.2.2.2.2.2.2.1) (u.2.2.2.2.2.2.2.2.1) (u.2.2.2.2.2.2.2.2.2.1) (u.2.2.2.2.2.2.2.2.2.2.1) (u.2.2.2.2.2.2.2.2.2.2.2.1) (u.2.2.2.2.2.2.2.2.2.2.2.2)) (fun u : Int32 × Int32 × Int32 × Int32 × Int32 × Int32 × Int32 × Int32 × Int32 × Int32 × Int32 × Int32 × Int32 => (fun (th2 : Int32) (hi2 : Int32) (ac2 : Int32) (tp2 : Int32) (ba2 : Int32) (en2 : Int32) (tA2 : Int32) (fl2 : Int32) (de2 : Int32) (iD2 : Int32) (iO2 : Int32) (tU2 : Int32) (q : Int32) => [bObj g o a th2 hi2 ac2 tp2 ba2 en2 tA2 fl2 de2 iD2 iO2 tU2]) (u.1) (u.2.1) (u.2.2.1) (u.2.2.2.1) (u.2.2.2.2.1) (u.2.2.2.2.2.1) (u.2.2.2.2.2.2.1) (u.2.2.2.2.2.2.2.1) (u.2.2.2.2.2.2.2.2.1) (u.2.2.2.2.2.2.2.2.2.1) (u.2.2.2.2.2.2.2.2.2.2.1) (u.2.2.2.2.2.2.2.2.2.2.2.1) (u.2.2.2.2.2.2.2.2.2.2.2.2)) := by
  refine zM.of (cc := cX12_buy) (maxL := 4) (rt := (some .int)) (by decide) rfl (Nat.le_of_ble_eq_true rfl) ?_
  intro p e s m args below meth c A ls St hr hlocks hin hK hT hA hP hD hS hl
  obtain ⟨hx, hb, hml, hown, hts⟩ := id St
  have hl : lv_has ls 4 [(0, .ref o), (1, .int n1), (2, .int n2)] := hl
  refine lv_aload_n hx hb dX12_buy_0 rfl (lv_at hl 0 rfl) ?_
  refine lv_aload_n hx hb dX12_buy_1 rfl (lv_at hl 0 rfl) ?_
  refine lv_iload_n hx hb dX12_buy_2 rfl (lv_at hl 1 rfl) ?_
  refine mcallV (g := g) (q0 := 0) (ci := 10) (As := [.int n1]) (rest := [.ref o]) St hK hT hA hP hD hS hl.1 [0, 1] [] rfl rfl rfl (m_isPerson l g o a th hi ac tp ba en tA fl de iD iO tU f n1 (by assumption)) (cwV 1 hts (zgL (zl4 k1028 k1029 k1030 k833) k830) rfl rfl rfl (by decide +kernel) ⟨Nat.le_of_ble_eq_true rfl, Nat.le_of_ble_eq_true rfl⟩) rfl rfl rfl rfl (Nat.le_of_ble_eq_true rfl) dX12_buy_3 ⟨(Nat.le_of_ble_eq_true rfl), (Nat.le_of_ble_eq_true rfl)⟩ (fun _u H locs hq1 hP hD hS => ?_)
  have hP : va_P g.1 vwCl (List.flatten [bObj g o a th hi ac tp ba en tA fl de iD iO tU, bArr g a f]) H := hP
  have hD : va_D A (List.flatten [bObj g o a th hi ac tp ba en tA fl de iD iO tU, bArr g a f]) := hD
  refine W.widen (k := 0) (n := 0) (Nat.le_of_ble_eq_true rfl) (Nat.le_of_ble_eq_true rfl) ?_
  refine W.eq (g2 := F0 m 6 ls [.int 0, .ref o]) rfl ?_
  refine lv_if_ne (tgt := 13) hx hb dX12_buy_6 (by decide) (fun c2 => absurd (by decide) c2) (fun _ => ?_)
  refine lv_iconst (v := 1) hx hb dX12_buy_9 (by decide) ?_
  refine lv_goto (tgt := 60) hx hb dX12_buy_10 (by decide) ?_
  refine va_put (D := g.1) (ci := 10) (v := .int 1) (ty := .int) (C := RX12) (T := TX12) (N := 20) hx hb hts izRX12 tyX12 tyX12_ok nmX12 hown hK hP hD hS 0 rfl rfl 0 (by decide) (hts _ k825) (fun _ h9 => h9) rfl (by decide +kernel) rfl rfl (Nat.le_of_ble_eq_true rfl) dX12_buy_60 (fun H locs hP hD hS => ?_)
  have hP : va_P g.1 vwCl (List.flatten [[(o, .inr (10, [.int 1, .ref (a 0), .ref (a 1), .int hi, .ref (a 2), .ref (a 3), .int ac, .ref (a 4), .int tp, .int ba, .int en, .int tA, .int fl, .int de, .ref (a 5), .int iD, .int iO, .int tU, .ref (a 6), .ref (a 7)]))], bArr g a f]) H := hP
  have hD : va_D A (List.flatten [[(o, .inr (10, [.int 1, .ref (a 0), .ref (a 1), .int hi, .ref (a 2), .ref (a 3), .int ac, .ref (a 4), .int tp, .int ba, .int en, .int tA, .int fl, .int de, .ref (a 5), .int iD, .int iO, .int tU, .ref (a 6), .ref (a 7)]))], bArr g a f]) := hD
  refine lv_aload_n hx hb dX12_buy_63 rfl (lv_at hl 0 rfl) ?_
  refine va_get (D := g.1) (ci := 10) (v := .int 1) (C := RX12) (T := TX12) (N := 20) hx hb hts izRX12 hown hK hP 0 rfl rfl 0 (by decide) (hts _ k825) (fun _ h9 => h9) rfl dX12_buy_64 ?_
  refine lv_if_le (tgt := 72) hx hb dX12_buy_67 (by decide) (fun c3 => absurd c3 (by decide)) (fun _ => ?_)
  refine lv_iconst (v := 0) hx hb dX12_buy_70 (by decide) ?_
  have hP : va_P g.1 vwCl (List.flatten [bObj g o a 1 hi ac tp ba en tA fl de iD iO tU, bArr g a f]) H := hP
  have hD : va_D A (List.flatten [bObj g o a 1 hi ac tp ba en tA fl de iD iO tU, bArr g a f]) := hD
  obtain ⟨hP, hD⟩ := zord (g := g) (Bs' := [bObj g o a 1 hi ac tp ba en tA fl de iD iO tU]) [0] rfl rfl hP hD
  exact mret_i hx hb hr hlocks hS (Nat.le_of_ble_eq_true rfl) (Nat.le_of_ble_eq_true rfl) dX12_buy_71 (1, hi, ac, tp, ba, en, tA, fl, de, iD, iO, tU, 0) rfl rfl hP hD
set_option maxRecDepth 100000 in
set_option maxHeartbeats 4000000 in
theorem m_sell (l : Launch) (g : zG) (o : Nat) (a : Nat → Nat) (th : Int32) (hi : Int32) (ac : Int32) (tp : Int32) (ba : Int32) (en : Int32) (tA : Int32) (fl : Int32) (de : Int32) (iD : Int32) (iO : Int32) (tU : Int32) (f : Nat → Nat → Int32) (n1 : Int32) (n2 : Int32) (hm : zMo (f 0)) : zM g l yX12_sell (Cond.code yX12_sell cX12_sell 4 (some .int) :: zB) ({ frames := 2, cells := 0, slots := 0, locals := 43 } : Room) [.ref o, .int n1, .int n2] [bObj g o a th hi ac tp ba en tA fl de iD iO tU, bArr g a f] (fun u : Int32 × Int32 × Int32 × Int32 × Int32 × Int32 × Int32 × Int32 × Int32 × Int32 × Int32 × Int32 × Int32 => (fun (th2 : Int32) (hi2 : Int32) (ac2 : Int32) (tp2 : Int32) (ba2 : Int32) (en2 : Int32) (tA2 : Int32) (fl2 : Int32) (de2 : Int32) (iD2 : Int32) (iO2 : Int32) (tU2 : Int32) (q : Int32) => some (.int q)) (u.1) (u.2.1) (u.2.2.1) (u.2.2.2.1) (u.2.2.2.2.1) (u.2.2.2.2.2.1) (u.2.2.2.2.2.2.1) (u.2.2.2.2.2.2.2.1) (u.2.2.2.2.2.2.2.2.1) (u.2.2.2.2.2.2.2.2.2.1) (u.2.2.2.2.2.2.2.2.2.2.1) (u.2.2.2.2.2.2.2.2.2.2.2.1) (u.2.2.2.2.2.2.2.2.2.2.2.2)) (fun u : Int32 × Int32 × Int32 × Int32 × Int32 × Int32 × Int32 × Int32 × Int32 × Int32 × Int32 × Int32 × Int32 => (fun (th2 : Int32) (hi2 : Int32) (ac2 : Int32) (tp2 : Int32) (ba2 : Int32) (en2 : Int32) (tA2 : Int32) (fl2 : Int32) (de2 : Int32) (iD2 : Int32) (iO2 : Int32) (tU2 : Int32) (q : Int32) => th2 = 1) (u.1) (u.2.1) (u.2.2.1) (u.2.2.2.1) (u.2.2.2.2.1) (u.2.2.2.2.2.1) (u.2.2.2.2.2.2.1) (u.2.2.2.2.2.2.2.1) (u.2.2.2.2.2.2.2.2.1) (u.2.2.2.2.2.2.2.2.2.1) (u.2.2.2.2.2.2.2.2.2.2.1) (u.2.2.2.2.2.2.2.2.2.2.2.1) (u.2.2.2.2.2.2.2.2.2.2.2.2)) (fun u : Int32 × Int32 × Int32 × Int32 × Int32 × Int32 × Int32 × Int32 × Int32 × Int32 × Int32 × Int32 × Int32 => (fun (th2 : Int32) (hi2 : Int32) (ac2 : Int32) (tp2 : Int32) (ba2 : Int32) (en2 : Int32) (tA2 : Int32) (fl2 : Int32) (de2 : Int32) (iD2 : Int32) (iO2 : Int32) (tU2 : Int32) (q : Int32) => [bObj g o a th2 hi2 ac2 tp2 ba2 en2 tA2 fl2 de2 iD2 iO2 tU2]) (u.1) (u.2.1) (u.2.2.1) (u.2.2.2.1) (u.2.2.2.2.1) (u.2.2.2.2.2.1) (u.2.2.2.2.2.2.1) (u.2.2.2.2.2.2.2.1) (u.2.2.2.2.2.2.2.2.1) (u.2.2.2.2.2.2.2.2.2.1) (u.2.2.2.2.2.2.2.2.2.2.1) (u.2.2.2.2.2.2.2.2.2.2.2.1) (u.2.2.2.2.2.2.2.2.2.2.2.2)) := by
  refine zM.of (cc := cX12_sell) (maxL := 4) (rt := (some .int)) (by decide) rfl (Nat.le_of_ble_eq_true rfl) ?_
  intro p e s m args below meth c A ls St hr hlocks hin hK hT hA hP hD hS hl
  obtain ⟨hx, hb, hml, hown, hts⟩ := id St
  have hl : lv_has ls 4 [(0, .ref o), (1, .int n1), (2, .int n2)] := hl
  refine lv_aload_n hx hb dX12_sell_0 rfl (lv_at hl 0 rfl) ?_
  refine lv_aload_n hx hb dX12_sell_1 rfl (lv_at hl 0 rfl) ?_
  refine lv_iload_n hx hb dX12_sell_2 rfl (lv_at hl 1 rfl) ?_
  refine mcallV (g := g) (q0 := 0) (ci := 10) (As := [.int n1]) (rest := [.ref o]) St hK hT hA hP hD hS hl.1 [0, 1] [] rfl rfl rfl (m_isPerson l g o a th hi ac tp ba en tA fl de iD iO tU f n1 (by assumption)) (cwV 1 hts (zgL (zl4 k1028 k1029 k1030 k833) k830) rfl rfl rfl (by decide +kernel) ⟨Nat.le_of_ble_eq_true rfl, Nat.le_of_ble_eq_true rfl⟩) rfl rfl rfl rfl (Nat.le_of_ble_eq_true rfl) dX12_sell_3 ⟨(Nat.le_of_ble_eq_true rfl), (Nat.le_of_ble_eq_true rfl)⟩ (fun _u H locs hq1 hP hD hS => ?_)
  have hP : va_P g.1 vwCl (List.flatten [bObj g o a th hi ac tp ba en tA fl de iD iO tU, bArr g a f]) H := hP
  have hD : va_D A (List.flatten [bObj g o a th hi ac tp ba en tA fl de iD iO tU, bArr g a f]) := hD
  refine W.widen (k := 0) (n := 0) (Nat.le_of_ble_eq_true rfl) (Nat.le_of_ble_eq_true rfl) ?_
  refine W.eq (g2 := F0 m 6 ls [.int 0, .ref o]) rfl ?_
  refine lv_if_ne (tgt := 13) hx hb dX12_sell_6 (by decide) (fun c2 => absurd (by decide) c2) (fun _ => ?_)
  refine lv_iconst (v := 1) hx hb dX12_sell_9 (by decide) ?_
  refine lv_goto (tgt := 57) hx hb dX12_sell_10 (by decide) ?_
  refine va_put (D := g.1) (ci := 10) (v := .int 1) (ty := .int) (C := RX12) (T := TX12) (N := 20) hx hb hts izRX12 tyX12 tyX12_ok nmX12 hown hK hP hD hS 0 rfl rfl 0 (by decide) (hts _ k825) (fun _ h9 => h9) rfl (by decide +kernel) rfl rfl (Nat.le_of_ble_eq_true rfl) dX12_sell_57 (fun H locs hP hD hS => ?_)
  have hP : va_P g.1 vwCl (List.flatten [[(o, .inr (10, [.int 1, .ref (a 0), .ref (a 1), .int hi, .ref (a 2), .ref (a 3), .int ac, .ref (a 4), .int tp, .int ba, .int en, .int tA, .int fl, .int de, .ref (a 5), .int iD, .int iO, .int tU, .ref (a 6), .ref (a 7)]))], bArr g a f]) H := hP
  have hD : va_D A (List.flatten [[(o, .inr (10, [.int 1, .ref (a 0), .ref (a 1), .int hi, .ref (a 2), .ref (a 3), .int ac, .ref (a 4), .int tp, .int ba, .int en, .int tA, .int fl, .int de, .ref (a 5), .int iD, .int iO, .int tU, .ref (a 6), .ref (a 7)]))], bArr g a f]) := hD
  refine lv_aload_n hx hb dX12_sell_60 rfl (lv_at hl 0 rfl) ?_
  refine va_get (D := g.1) (ci := 10) (v := .int 1) (C := RX12) (T := TX12) (N := 20) hx hb hts izRX12 hown hK hP 0 rfl rfl 0 (by decide) (hts _ k825) (fun _ h9 => h9) rfl dX12_sell_61 ?_
  refine lv_if_le (tgt := 69) hx hb dX12_sell_64 (by decide) (fun c3 => absurd c3 (by decide)) (fun _ => ?_)
  refine lv_iconst (v := 0) hx hb dX12_sell_67 (by decide) ?_
  have hP : va_P g.1 vwCl (List.flatten [bObj g o a 1 hi ac tp ba en tA fl de iD iO tU, bArr g a f]) H := hP
  have hD : va_D A (List.flatten [bObj g o a 1 hi ac tp ba en tA fl de iD iO tU, bArr g a f]) := hD
  obtain ⟨hP, hD⟩ := zord (g := g) (Bs' := [bObj g o a 1 hi ac tp ba en tA fl de iD iO tU]) [0] rfl rfl hP hD
  exact mret_i hx hb hr hlocks hS (Nat.le_of_ble_eq_true rfl) (Nat.le_of_ble_eq_true rfl) dX12_sell_68 (1, hi, ac, tp, ba, en, tA, fl, de, iD, iO, tU, 0) rfl rfl hP hD
set_option maxRecDepth 100000 in
set_option maxHeartbeats 4000000 in
theorem m_dry (l : Launch) (g : zG) (o : Nat) (a : Nat → Nat) (th : Int32) (hi : Int32) (ac : Int32) (tp : Int32) (ba : Int32) (en : Int32) (tA : Int32) (fl : Int32) (de : Int32) (iD : Int32) (iO : Int32) (tU : Int32) (f : Nat → Nat → Int32) (n1 : Int32) (n2 : Int32) (hm : zMo (f 0)) : zM g l yX12_dry (Cond.code yX12_dry cX12_dry 4 (some .boolean) :: zB) ({ frames := 2, cells := 0, slots := 0, locals := 43 } : Room) [.ref o, .int n1, .int n2] [bObj g o a th hi ac tp ba en tA fl de iD iO tU, bArr g a f] (fun u : Int32 × Int32 × Int32 × Int32 × Int32 × Int32 × Int32 × Int32 × Int32 × Int32 × Int32 × Int32 × Int32 => (fun (th2 : Int32) (hi2 : Int32) (ac2 : Int32) (tp2 : Int32) (ba2 : Int32) (en2 : Int32) (tA2 : Int32) (fl2 : Int32) (de2 : Int32) (iD2 : Int32) (iO2 : Int32) (tU2 : Int32) (q : Int32) => some (.int q)) (u.1) (u.2.1) (u.2.2.1) (u.2.2.2.1) (u.2.2.2.2.1) (u.2.2.2.2.2.1) (u.2.2.2.2.2.2.1) (u.2.2.2.2.2.2.2.1) (u.2.2.2.2.2.2.2.2.1) (u.2.2.2.2.2.2.2.2.2.1) (u.2.2.2.2.2.2.2.2.2.2.1) (u.2.2.2.2.2.2.2.2.2.2.2.1) (u.2.2.2.2.2.2.2.2.2.2.2.2)) (fun u : Int32 × Int32 × Int32 × Int32 × Int32 × Int32 × Int32 × Int32 × Int32 × Int32 × Int32 × Int32 × Int32 => (fun (th2 : Int32) (hi2 : Int32) (ac2 : Int32) (tp2 : Int32) (ba2 : Int32) (en2 : Int32) (tA2 : Int32) (fl2 : Int32) (de2 : Int32) (iD2 : Int32) (iO2 : Int32) (tU2 : Int32) (q : Int32) => th2 = 1) (u.1) (u.2.1) (u.2.2.1) (u.2.2.2.1) (u.2.2.2.2.1) (u.2.2.2.2.2.1) (u.2.2.2.2.2.2.1) (u.2.2.2.2.2.2.2.1) (u.2.2.2.2.2.2.2.2.1) (u.2.2.2.2.2.2.2.2.2.1) (u.2.2.2.2.2.2.2.2.2.2.1) (u.2.2.2.2.2.2.2.2.2.2.2.1) (u.2.2.2.2.2.2.2.2.2.2.2.2)) (fun u : Int32 × Int32 × Int32 × Int32 × Int32 × Int32 × Int32 × Int32 × Int32 × Int32 × Int32 × Int32 × Int32 => (fun (th2 : Int32) (hi2 : Int32) (ac2 : Int32) (tp2 : Int32) (ba2 : Int32) (en2 : Int32) (tA2 : Int32) (fl2 : Int32) (de2 : Int32) (iD2 : Int32) (iO2 : Int32) (tU2 : Int32) (q : Int32) => [bObj g o a th2 hi2 ac2 tp2 ba2 en2 tA2 fl2 de2 iD2 iO2 tU2]) (u.1) (u.2.1) (u.2.2.1) (u.2.2.2.1) (u.2.2.2.2.1) (u.2.2.2.2.2.1) (u.2.2.2.2.2.2.1) (u.2.2.2.2.2.2.2.1) (u.2.2.2.2.2.2.2.2.1) (u.2.2.2.2.2.2.2.2.2.1) (u.2.2.2.2.2.2.2.2.2.2.1) (u.2.2.2.2.2.2.2.2.2.2.2.1) (u.2.2.2.2.2.2.2.2.2.2.2.2)) := by
  refine zM.of (cc := cX12_dry) (maxL := 4) (rt := (some .boolean)) (by decide) rfl (Nat.le_of_ble_eq_true rfl) ?_
  intro p e s m args below meth c A ls St hr hlocks hin hK hT hA hP hD hS hl
  obtain ⟨hx, hb, hml, hown, hts⟩ := id St
  have hl : lv_has ls 4 [(0, .ref o), (1, .int n1), (2, .int n2)] := hl
  refine lv_aload_n hx hb dX12_dry_0 rfl (lv_at hl 0 rfl) ?_
  refine lv_aload_n hx hb dX12_dry_1 rfl (lv_at hl 0 rfl) ?_
  refine lv_iload_n hx hb dX12_dry_2 rfl (lv_at hl 1 rfl) ?_
  refine mcallV (g := g) (q0 := 0) (ci := 10) (As := [.int n1]) (rest := [.ref o]) St hK hT hA hP hD hS hl.1 [0, 1] [] rfl rfl rfl (m_isPerson l g o a th hi ac tp ba en tA fl de iD iO tU f n1 (by assumption)) (cwV 1 hts (zgL (zl4 k1028 k1029 k1030 k833) k830) rfl rfl rfl (by decide +kernel) ⟨Nat.le_of_ble_eq_true rfl, Nat.le_of_ble_eq_true rfl⟩) rfl rfl rfl rfl (Nat.le_of_ble_eq_true rfl) dX12_dry_3 ⟨(Nat.le_of_ble_eq_true rfl), (Nat.le_of_ble_eq_true rfl)⟩ (fun _u H locs hq1 hP hD hS => ?_)
  have hP : va_P g.1 vwCl (List.flatten [bObj g o a th hi ac tp ba en tA fl de iD iO tU, bArr g a f]) H := hP
  have hD : va_D A (List.flatten [bObj g o a th hi ac tp ba en tA fl de iD iO tU, bArr g a f]) := hD
  refine W.widen (k := 0) (n := 0) (Nat.le_of_ble_eq_true rfl) (Nat.le_of_ble_eq_true rfl) ?_
  refine W.eq (g2 := F0 m 6 ls [.int 0, .ref o]) rfl ?_
  refine lv_if_ne (tgt := 13) hx hb dX12_dry_6 (by decide) (fun c2 => absurd (by decide) c2) (fun _ => ?_)
  refine lv_iconst (v := 1) hx hb dX12_dry_9 (by decide) ?_
  refine lv_goto (tgt := 14) hx hb dX12_dry_10 (by decide) ?_
  refine va_put (D := g.1) (ci := 10) (v := .int 1) (ty := .int) (C := RX12) (T := TX12) (N := 20) hx hb hts izRX12 tyX12 tyX12_ok nmX12 hown hK hP hD hS 0 rfl rfl 0 (by decide) (hts _ k825) (fun _ h9 => h9) rfl (by decide +kernel) rfl rfl (Nat.le_of_ble_eq_true rfl) dX12_dry_14 (fun H locs hP hD hS => ?_)
  have hP : va_P g.1 vwCl (List.flatten [[(o, .inr (10, [.int 1, .ref (a 0), .ref (a 1), .int hi, .ref (a 2), .ref (a 3), .int ac, .ref (a 4), .int tp, .int ba, .int en, .int tA, .int fl, .int de, .ref (a 5), .int iD, .int iO, .int tU, .ref (a 6), .ref (a 7)]))], bArr g a f]) H := hP
  have hD : va_D A (List.flatten [[(o, .inr (10, [.int 1, .ref (a 0), .ref (a 1), .int hi, .ref (a 2), .ref (a 3), .int ac, .ref (a 4), .int tp, .int ba, .int en, .int tA, .int fl, .int de, .ref (a 5), .int iD, .int iO, .int tU, .ref (a 6), .ref (a 7)]))], bArr g a f]) := hD
  refine lv_aload_n hx hb dX12_dry_17 rfl (lv_at hl 0 rfl) ?_
  refine va_get (D := g.1) (ci := 10) (v := .int 1) (C := RX12) (T := TX12) (N := 20) hx hb hts izRX12 hown hK hP 0 rfl rfl 0 (by decide) (hts _ k825) (fun _ h9 => h9) rfl dX12_dry_18 ?_
  refine lv_if_le (tgt := 26) hx hb dX12_dry_21 (by decide) (fun c3 => absurd c3 (by decide)) (fun _ => ?_)
  refine lv_iconst (v := 0) hx hb dX12_dry_24 (by decide) ?_
  have hP : va_P g.1 vwCl (List.flatten [bObj g o a 1 hi ac tp ba en tA fl de iD iO tU, bArr g a f]) H := hP
  have hD : va_D A (List.flatten [bObj g o a 1 hi ac tp ba en tA fl de iD iO tU, bArr g a f]) := hD
  obtain ⟨hP, hD⟩ := zord (g := g) (Bs' := [bObj g o a 1 hi ac tp ba en tA fl de iD iO tU]) [0] rfl rfl hP hD
  exact mret_z hx hb hr hlocks hS (Nat.le_of_ble_eq_true rfl) (Nat.le_of_ble_eq_true rfl) dX12_dry_25 (1, hi, ac, tp, ba, en, tA, fl, de, iD, iO, tU, 0) rfl (by decide) rfl hP hD
set_option maxRecDepth 100000 in
set_option maxHeartbeats 4000000 in
theorem m_ahead (l : Launch) (g : zG) (o : Nat) (a : Nat → Nat) (th : Int32) (hi : Int32) (ac : Int32) (tp : Int32) (ba : Int32) (en : Int32) (tA : Int32) (fl : Int32) (de : Int32) (iD : Int32) (iO : Int32) (tU : Int32) (f : Nat → Nat → Int32) (n1 : Int32) (n2 : Int32) (hm : zMo (f 0)) : zM g l yX12_ahead (Cond.code yX12_ahead cX12_ahead 5 (some .int) :: zB) ({ frames := 2, cells := 0, slots := 0, locals := 43 } : Room) [.ref o, .int n1, .int n2] [bObj g o a th hi ac tp ba en tA fl de iD iO tU, bArr g a f] (fun u : Int32 × Int32 × Int32 × Int32 × Int32 × Int32 × Int32 × Int32 × Int32 × Int32 × Int32 × Int32 × Int32 => (fun (th2 : Int32) (hi2 : Int32) (ac2 : Int32) (tp2 : Int32) (ba2 : Int32) (en2 : Int32) (tA2 : Int32) (fl2 : Int32) (de2 : Int32) (iD2 : Int32) (iO2 : Int32) (tU2 : Int32) (q : Int32) => some (.int q)) (u.1) (u.2.1) (u.2.2.1) (u.2.2.2.1) (u.2.2.2.2.1) (u.2.2.2.2.2.1) (u.2.2.2.2.2.2.1) (u.2.2.2.2.2.2.2.1) (u.2.2.2.2.2.2.2.2.1) (u.2.2.2.2.2.2.2.2.2.1) (u.2.2.2.2.2.2.2.2.2.2.1) (u.2.2.2.2.2.2.2.2.2.2.2.1) (u.2.2.2.2.2.2.2.2.2.2.2.2)) (fun u : Int32 × Int32 × Int32 × Int32 × Int32 × Int32 × Int32 × Int32 × Int32 × Int32 × Int32 × Int32 × Int32 => (fun (th2 : Int32) (hi2 : Int32) (ac2 : Int32) (tp2 : Int32) (ba2 : Int32) (en2 : Int32) (tA2 : Int32) (fl2 : Int32) (de2 : Int32) (iD2 : Int32) (iO2 : Int32) (tU2 : Int32) (q : Int32) => th2 = 1) (u.1) (u.2.1) (u.2.2.1) (u.2.2.2.1) (u.2.2.2.2.1) (u.2.2.2.2.2.1) (u.2.2.2.2.2.2.1) (u.2.2.2.2.2.2.2.1) (u.2.2.2.2.2.2.2.2.1) (u.2.2.2.2.2.2.2.2.2.1) (u.2.2.2.2.2.2.2.2.2.2.1) (u.2.2.2.2.2.2.2.2.2.2.2.1) (u.2.2.2.2.2.2.2.2.2.2.2.2)) (fun u : Int32 × Int32 × Int32 × Int32 × Int32 × Int32 × Int32 × Int32 × Int32 × Int32 × Int32 × Int32 × Int32 => (fun (th2 : Int32) (hi2 : Int32) (ac2 : Int32) (tp2 : Int32) (ba2 : Int32) (en2 : Int32) (tA2 : Int32) (fl2 : Int32) (de2 : Int32) (iD2 : Int32) (iO2 : Int32) (tU2 : Int32) (q : Int32) => [bObj g o a th2 hi2 ac2 tp2 ba2 en2 tA2 fl2 de2 iD2 iO2 tU2]) (u.1) (u.2.1) (u.2.2.1) (u.2.2.2.1) (u.2.2.2.2.1) (u.2.2.2.2.2.1) (u.2.2.2.2.2.2.1) (u.2.2.2.2.2.2.2.1) (u.2.2.2.2.2.2.2.2.1) (u.2.2.2.2.2.2.2.2.2.1) (u.2.2.2.2.2.2.2.2.2.2.1) (u.2.2.2.2.2.2.2.2.2.2.2.1) (u.2.2.2.2.2.2.2.2.2.2.2.2)) := by
  refine zM.of (cc := cX12_ahead) (maxL := 5) (rt := (some .int)) (by decide) rfl (Nat.le_of_ble_eq_true rfl) ?_
  intro p e s m args below meth c A ls St hr hlocks hin hK hT hA hP hD hS hl
  obtain ⟨hx, hb, hml, hown, hts⟩ := id St
  have hl : lv_has ls 5 [(0, .ref o), (1, .int n1), (2, .int n2)] := hl
  refine lv_aload_n hx hb dX12_ahead_0 rfl (lv_at hl 0 rfl) ?_
  refine lv_aload_n hx hb dX12_ahead_1 rfl (lv_at hl 0 rfl) ?_
  refine lv_iload_n hx hb dX12_ahead_2 rfl (lv_at hl 1 rfl) ?_
  refine mcallV (g := g) (q0 := 0) (ci := 10) (As := [.int n1]) (rest := [.ref o]) St hK hT hA hP hD hS hl.1 [0, 1] [] rfl rfl rfl (m_isPerson l g o a th hi ac tp ba en tA fl de iD iO tU f n1 (by assumption)) (cwV 1 hts (zgL (zl4 k1028 k1029 k1030 k833) k830) rfl rfl rfl (by decide +kernel) ⟨Nat.le_of_ble_eq_true rfl, Nat.le_of_ble_eq_true rfl⟩) rfl rfl rfl rfl (Nat.le_of_ble_eq_true rfl) dX12_ahead_3 ⟨(Nat.le_of_ble_eq_true rfl), (Nat.le_of_ble_eq_true rfl)⟩ (fun _u H locs hq1 hP hD hS => ?_)
  have hP : va_P g.1 vwCl (List.flatten [bObj g o a th hi ac tp ba en tA fl de iD iO tU, bArr g a f]) H := hP
  have hD : va_D A (List.flatten [bObj g o a th hi ac tp ba en tA fl de iD iO tU, bArr g a f]) := hD
  refine W.widen (k := 0) (n := 0) (Nat.le_of_ble_eq_true rfl) (Nat.le_of_ble_eq_true rfl) ?_
  refine W.eq (g2 := F0 m 6 ls [.int 0, .ref o]) rfl ?_
  refine lv_if_ne (tgt := 13) hx hb dX12_ahead_6 (by decide) (fun c2 => absurd (by decide) c2) (fun _ => ?_)
  refine lv_iconst (v := 1) hx hb dX12_ahead_9 (by decide) ?_
  refine lv_goto (tgt := 28) hx hb dX12_ahead_10 (by decide) ?_
  refine va_put (D := g.1) (ci := 10) (v := .int 1) (ty := .int) (C := RX12) (T := TX12) (N := 20) hx hb hts izRX12 tyX12 tyX12_ok nmX12 hown hK hP hD hS 0 rfl rfl 0 (by decide) (hts _ k825) (fun _ h9 => h9) rfl (by decide +kernel) rfl rfl (Nat.le_of_ble_eq_true rfl) dX12_ahead_28 (fun H locs hP hD hS => ?_)
  have hP : va_P g.1 vwCl (List.flatten [[(o, .inr (10, [.int 1, .ref (a 0), .ref (a 1), .int hi, .ref (a 2), .ref (a 3), .int ac, .ref (a 4), .int tp, .int ba, .int en, .int tA, .int fl, .int de, .ref (a 5), .int iD, .int iO, .int tU, .ref (a 6), .ref (a 7)]))], bArr g a f]) H := hP
  have hD : va_D A (List.flatten [[(o, .inr (10, [.int 1, .ref (a 0), .ref (a 1), .int hi, .ref (a 2), .ref (a 3), .int ac, .ref (a 4), .int tp, .int ba, .int en, .int tA, .int fl, .int de, .ref (a 5), .int iD, .int iO, .int tU, .ref (a 6), .ref (a 7)]))], bArr g a f]) := hD
  refine lv_aload_n hx hb dX12_ahead_31 rfl (lv_at hl 0 rfl) ?_
  refine va_get (D := g.1) (ci := 10) (v := .int 1) (C := RX12) (T := TX12) (N := 20) hx hb hts izRX12 hown hK hP 0 rfl rfl 0 (by decide) (hts _ k825) (fun _ h9 => h9) rfl dX12_ahead_32 ?_
  refine lv_if_le (tgt := 40) hx hb dX12_ahead_35 (by decide) (fun c3 => absurd c3 (by decide)) (fun _ => ?_)
  refine lv_iconst (v := 0) hx hb dX12_ahead_38 (by decide) ?_
  have hP : va_P g.1 vwCl (List.flatten [bObj g o a 1 hi ac tp ba en tA fl de iD iO tU, bArr g a f]) H := hP
  have hD : va_D A (List.flatten [bObj g o a 1 hi ac tp ba en tA fl de iD iO tU, bArr g a f]) := hD
  obtain ⟨hP, hD⟩ := zord (g := g) (Bs' := [bObj g o a 1 hi ac tp ba en tA fl de iD iO tU]) [0] rfl rfl hP hD
  exact mret_i hx hb hr hlocks hS (Nat.le_of_ble_eq_true rfl) (Nat.le_of_ble_eq_true rfl) dX12_ahead_39 (1, hi, ac, tp, ba, en, tA, fl, de, iD, iO, tU, 0) rfl rfl hP hD
set_option maxRecDepth 100000 in
set_option maxHeartbeats 4000000 in
theorem m_sways (l : Launch) (g : zG) (o : Nat) (a : Nat → Nat) (th : Int32) (hi : Int32) (ac : Int32) (tp : Int32) (ba : Int32) (en : Int32) (tA : Int32) (fl : Int32) (de : Int32) (iD : Int32) (iO : Int32) (tU : Int32) (f : Nat → Nat → Int32) (n1 : Int32) (n2 : Int32) (hm : zMo (f 0)) : zM g l yX12_sways (Cond.code yX12_sways cX12_sways 3 (some .int) :: zB) ({ frames := 2, cells := 0, slots := 0, locals := 43 } : Room) [.ref o, .int n1, .int n2] [bObj g o a th hi ac tp ba en tA fl de iD iO tU, bArr g a f] (fun u : Int32 × Int32 × Int32 × Int32 × Int32 × Int32 × Int32 × Int32 × Int32 × Int32 × Int32 × Int32 × Int32 => (fun (th2 : Int32) (hi2 : Int32) (ac2 : Int32) (tp2 : Int32) (ba2 : Int32) (en2 : Int32) (tA2 : Int32) (fl2 : Int32) (de2 : Int32) (iD2 : Int32) (iO2 : Int32) (tU2 : Int32) (q : Int32) => some (.int q)) (u.1) (u.2.1) (u.2.2.1) (u.2.2.2.1) (u.2.2.2.2.1) (u.2.2.2.2.2.1) (u.2.2.2.2.2.2.1) (u.2.2.2.2.2.2.2.1) (u.2.2.2.2.2.2.2.2.1) (u.2.2.2.2.2.2.2.2.2.1) (u.2.2.2.2.2.2.2.2.2.2.1) (u.2.2.2.2.2.2.2.2.2.2.2.1) (u.2.2.2.2.2.2.2.2.2.2.2.2)) (fun u : Int32 × Int32 × Int32 × Int32 × Int32 × Int32 × Int32 × Int32 × Int32 × Int32 × Int32 × Int32 × Int32 => (fun (th2 : Int32) (hi2 : Int32) (ac2 : Int32) (tp2 : Int32) (ba2 : Int32) (en2 : Int32) (tA2 : Int32) (fl2 : Int32) (de2 : Int32) (iD2 : Int32) (iO2 : Int32) (tU2 : Int32) (q : Int32) => th2 = 1) (u.1) (u.2.1) (u.2.2.1) (u.2.2.2.1) (u.2.2.2.2.1) (u.2.2.2.2.2.1) (u.2.2.2.2.2.2.1) (u.2.2.2.2.2.2.2.1) (u.2.2.2.2.2.2.2.2.1) (u.2.2.2.2.2.2.2.2.2.1) (u.2.2.2.2.2.2.2.2.2.2.1) (u.2.2.2.2.2.2.2.2.2.2.2.1) (u.2.2.2.2.2.2.2.2.2.2.2.2)) (fun u : Int32 × Int32 × Int32 × Int32 × Int32 × Int32 × Int32 × Int32 × Int32 × Int32 × Int32 × Int32 × Int32 => (fun (th2 : Int32) (hi2 : Int32) (ac2 : Int32) (tp2 : Int32) (ba2 : Int32) (en2 : Int32) (tA2 : Int32) (fl2 : Int32) (de2 : Int32) (iD2 : Int32) (iO2 : Int32) (tU2 : Int32) (q : Int32) => [bObj g o a th2 hi2 ac2 tp2 ba2 en2 tA2 fl2 de2 iD2 iO2 tU2]) (u.1) (u.2.1) (u.2.2.1) (u.2.2.2.1) (u.2.2.2.2.1) (u.2.2.2.2.2.1) (u.2.2.2.2.2.2.1) (u.2.2.2.2.2.2.2.1) (u.2.2.2.2.2.2.2.2.1) (u.2.2.2.2.2.2.2.2.2.1) (u.2.2.2.2.2.2.2.2.2.2.1) (u.2.2.2.2.2.2.2.2.2.2.2.1) (u.2.2.2.2.2.2.2.2.2.2.2.2)) := by
  refine zM.of (cc := cX12_sways) (maxL := 3) (rt := (some .int)) (by decide) rfl (Nat.le_of_ble_eq_true rfl) ?_
  intro p e s m args below meth c A ls St hr hlocks hin hK hT hA hP hD hS hl
  obtain ⟨hx, hb, hml, hown, hts⟩ := id St
  have hl : lv_has ls 3 [(0, .ref o), (1, .int n1), (2, .int n2)] := hl
  refine lv_aload_n hx hb dX12_sways_0 rfl (lv_at hl 0 rfl) ?_
  refine lv_aload_n hx hb dX12_sways_1 rfl (lv_at hl 0 rfl) ?_
  refine lv_iload_n hx hb dX12_sways_2 rfl (lv_at hl 1 rfl) ?_
  refine mcallV (g := g) (q0 := 0) (ci := 10) (As := [.int n1]) (rest := [.ref o]) St hK hT hA hP hD hS hl.1 [0, 1] [] rfl rfl rfl (m_isPerson l g o a th hi ac tp ba en tA fl de iD iO tU f n1 (by assumption)) (cwV 1 hts (zgL (zl4 k1028 k1029 k1030 k833) k830) rfl rfl rfl (by decide +kernel) ⟨Nat.le_of_ble_eq_true rfl, Nat.le_of_ble_eq_true rfl⟩) rfl rfl rfl rfl (Nat.le_of_ble_eq_true rfl) dX12_sways_3 ⟨(Nat.le_of_ble_eq_true rfl), (Nat.le_of_ble_eq_true rfl)⟩ (fun _u H locs hq1 hP hD hS => ?_)
  have hP : va_P g.1 vwCl (List.flatten [bObj g o a th hi ac tp ba en tA fl de iD iO tU, bArr g a f]) H := hP
  have hD : va_D A (List.flatten [bObj g o a th hi ac tp ba en tA fl de iD iO tU, bArr g a f]) := hD
  refine W.widen (k := 0) (n := 0) (Nat.le_of_ble_eq_true rfl) (Nat.le_of_ble_eq_true rfl) ?_
  refine W.eq (g2 := F0 m 6 ls [.int 0, .ref o]) rfl ?_
  refine lv_if_ne (tgt := 13) hx hb dX12_sways_6 (by decide) (fun c2 => absurd (by decide) c2) (fun _ => ?_)
  refine lv_iconst (v := 1) hx hb dX12_sways_9 (by decide) ?_
  refine lv_goto (tgt := 28) hx hb dX12_sways_10 (by decide) ?_
  refine va_put (D := g.1) (ci := 10) (v := .int 1) (ty := .int) (C := RX12) (T := TX12) (N := 20) hx hb hts izRX12 tyX12 tyX12_ok nmX12 hown hK hP hD hS 0 rfl rfl 0 (by decide) (hts _ k825) (fun _ h9 => h9) rfl (by decide +kernel) rfl rfl (Nat.le_of_ble_eq_true rfl) dX12_sways_28 (fun H locs hP hD hS => ?_)
  have hP : va_P g.1 vwCl (List.flatten [[(o, .inr (10, [.int 1, .ref (a 0), .ref (a 1), .int hi, .ref (a 2), .ref (a 3), .int ac, .ref (a 4), .int tp, .int ba, .int en, .int tA, .int fl, .int de, .ref (a 5), .int iD, .int iO, .int tU, .ref (a 6), .ref (a 7)]))], bArr g a f]) H := hP
  have hD : va_D A (List.flatten [[(o, .inr (10, [.int 1, .ref (a 0), .ref (a 1), .int hi, .ref (a 2), .ref (a 3), .int ac, .ref (a 4), .int tp, .int ba, .int en, .int tA, .int fl, .int de, .ref (a 5), .int iD, .int iO, .int tU, .ref (a 6), .ref (a 7)]))], bArr g a f]) := hD
  refine lv_aload_n hx hb dX12_sways_31 rfl (lv_at hl 0 rfl) ?_
  refine va_get (D := g.1) (ci := 10) (v := .int 1) (C := RX12) (T := TX12) (N := 20) hx hb hts izRX12 hown hK hP 0 rfl rfl 0 (by decide) (hts _ k825) (fun _ h9 => h9) rfl dX12_sways_32 ?_
  refine lv_if_le (tgt := 42) hx hb dX12_sways_35 (by decide) (fun c3 => absurd c3 (by decide)) (fun _ => ?_)
  refine lv_iconst (v := 0) hx hb dX12_sways_38 (by decide) ?_
  refine lv_goto (tgt := 60) hx hb dX12_sways_39 (by decide) ?_
  have hP : va_P g.1 vwCl (List.flatten [bObj g o a 1 hi ac tp ba en tA fl de iD iO tU, bArr g a f]) H := hP
  have hD : va_D A (List.flatten [bObj g o a 1 hi ac tp ba en tA fl de iD iO tU, bArr g a f]) := hD
  obtain ⟨hP, hD⟩ := zord (g := g) (Bs' := [bObj g o a 1 hi ac tp ba en tA fl de iD iO tU]) [0] rfl rfl hP hD
  exact mret_i hx hb hr hlocks hS (Nat.le_of_ble_eq_true rfl) (Nat.le_of_ble_eq_true rfl) dX12_sways_60 (1, hi, ac, tp, ba, en, tA, fl, de, iD, iO, tU, 0) rfl rfl hP hD
set_option maxRecDepth 100000 in
set_option maxHeartbeats 4000000 in
theorem m_word (l : Launch) (g : zG) (o : Nat) (a : Nat → Nat) (th : Int32) (hi : Int32) (ac : Int32) (tp : Int32) (ba : Int32) (en : Int32) (tA : Int32) (fl : Int32) (de : Int32) (iD : Int32) (iO : Int32) (tU : Int32) (f : Nat → Nat → Int32) (n1 : Int32) (hm : zMo (f 0)) : zM g l yX12_word (Cond.code yX12_word cX12_word 2 (some .int) :: zB) ({ frames := 2, cells := 0, slots := 0, locals := 43 } : Room) [.ref o, .int n1] [bObj g o a th hi ac tp ba en tA fl de iD iO tU, bArr g a f] (fun u : Int32 × Int32 × Int32 × Int32 × Int32 × Int32 × Int32 × Int32 × Int32 × Int32 × Int32 × Int32 × Int32 => (fun (th2 : Int32) (hi2 : Int32) (ac2 : Int32) (tp2 : Int32) (ba2 : Int32) (en2 : Int32) (tA2 : Int32) (fl2 : Int32) (de2 : Int32) (iD2 : Int32) (iO2 : Int32) (tU2 : Int32) (q : Int32) => some (.int q)) (u.1) (u.2.1) (u.2.2.1) (u.2.2.2.1) (u.2.2.2.2.1) (u.2.2.2.2.2.1) (u.2.2.2.2.2.2.1) (u.2.2.2.2.2.2.2.1) (u.2.2.2.2.2.2.2.2.1) (u.2.2.2.2.2.2.2.2.2.1) (u.2.2.2.2.2.2.2.2.2.2.1) (u.2.2.2.2.2.2.2.2.2.2.2.1) (u.2.2.2.2.2.2.2.2.2.2.2.2)) (fun u : Int32 × Int32 × Int32 × Int32 × Int32 × Int32 × Int32 × Int32 × Int32 × Int32 × Int32 × Int32 × Int32 => (fun (th2 : Int32) (hi2 : Int32) (ac2 : Int32) (tp2 : Int32) (ba2 : Int32) (en2 : Int32) (tA2 : Int32) (fl2 : Int32) (de2 : Int32) (iD2 : Int32) (iO2 : Int32) (tU2 : Int32) (q : Int32) => th2 = 1) (u.1) (u.2.1) (u.2.2.1) (u.2.2.2.1) (u.2.2.2.2.1) (u.2.2.2.2.2.1) (u.2.2.2.2.2.2.1) (u.2.2.2.2.2.2.2.1) (u.2.2.2.2.2.2.2.2.1) (u.2.2.2.2.2.2.2.2.2.1) (u.2.2.2.2.2.2.2.2.2.2.1) (u.2.2.2.2.2.2.2.2.2.2.2.1) (u.2.2.2.2.2.2.2.2.2.2.2.2)) (fun u : Int32 × Int32 × Int32 × Int32 × Int32 × Int32 × Int32 × Int32 × Int32 × Int32 × Int32 × Int32 × Int32 => (fun (th2 : Int32) (hi2 : Int32) (ac2 : Int32) (tp2 : Int32) (ba2 : Int32) (en2 : Int32) (tA2 : Int32) (fl2 : Int32) (de2 : Int32) (iD2 : Int32) (iO2 : Int32) (tU2 : Int32) (q : Int32) => [bObj g o a th2 hi2 ac2 tp2 ba2 en2 tA2 fl2 de2 iD2 iO2 tU2]) (u.1) (u.2.1) (u.2.2.1) (u.2.2.2.1) (u.2.2.2.2.1) (u.2.2.2.2.2.1) (u.2.2.2.2.2.2.1) (u.2.2.2.2.2.2.2.1) (u.2.2.2.2.2.2.2.2.1) (u.2.2.2.2.2.2.2.2.2.1) (u.2.2.2.2.2.2.2.2.2.2.1) (u.2.2.2.2.2.2.2.2.2.2.2.1) (u.2.2.2.2.2.2.2.2.2.2.2.2)) := by
  refine zM.of (cc := cX12_word) (maxL := 2) (rt := (some .int)) (by decide) rfl (Nat.le_of_ble_eq_true rfl) ?_
  intro p e s m args below meth c A ls St hr hlocks hin hK hT hA hP hD hS hl
  obtain ⟨hx, hb, hml, hown, hts⟩ := id St
  have hl : lv_has ls 2 [(0, .ref o), (1, .int n1)] := hl
  refine lv_aload_n hx hb dX12_word_0 rfl (lv_at hl 0 rfl) ?_
  refine lv_aload_n hx hb dX12_word_1 rfl (lv_at hl 0 rfl) ?_
  refine lv_iload_n hx hb dX12_word_2 rfl (lv_at hl 1 rfl) ?_
  refine mcallV (g := g) (q0 := 0) (ci := 10) (As := [.int n1]) (rest := [.ref o]) St hK hT hA hP hD hS hl.1 [0, 1] [] rfl rfl rfl (m_isPerson l g o a th hi ac tp ba en tA fl de iD iO tU f n1 (by assumption)) (cwV 1 hts (zgL (zl4 k1028 k1029 k1030 k833) k830) rfl rfl rfl (by decide +kernel) ⟨Nat.le_of_ble_eq_true rfl, Nat.le_of_ble_eq_true rfl⟩) rfl rfl rfl rfl (Nat.le_of_ble_eq_true rfl) dX12_word_3 ⟨(Nat.le_of_ble_eq_true rfl), (Nat.le_of_ble_eq_true rfl)⟩ (fun _u H locs hq1 hP hD hS => ?_)
  have hP : va_P g.1 vwCl (List.flatten [bObj g o a th hi ac tp ba en tA fl de iD iO tU, bArr g a f]) H := hP
  have hD : va_D A (List.flatten [bObj g o a th hi ac tp ba en tA fl de iD iO tU, bArr g a f]) := hD
  refine W.widen (k := 0) (n := 0) (Nat.le_of_ble_eq_true rfl) (Nat.le_of_ble_eq_true rfl) ?_
  refine W.eq (g2 := F0 m 6 ls [.int 0, .ref o]) rfl ?_
  refine lv_if_ne (tgt := 13) hx hb dX12_word_6 (by decide) (fun c2 => absurd (by decide) c2) (fun _ => ?_)
  refine lv_iconst (v := 1) hx hb dX12_word_9 (by decide) ?_
  refine lv_goto (tgt := 14) hx hb dX12_word_10 (by decide) ?_
  refine va_put (D := g.1) (ci := 10) (v := .int 1) (ty := .int) (C := RX12) (T := TX12) (N := 20) hx hb hts izRX12 tyX12 tyX12_ok nmX12 hown hK hP hD hS 0 rfl rfl 0 (by decide) (hts _ k825) (fun _ h9 => h9) rfl (by decide +kernel) rfl rfl (Nat.le_of_ble_eq_true rfl) dX12_word_14 (fun H locs hP hD hS => ?_)
  have hP : va_P g.1 vwCl (List.flatten [[(o, .inr (10, [.int 1, .ref (a 0), .ref (a 1), .int hi, .ref (a 2), .ref (a 3), .int ac, .ref (a 4), .int tp, .int ba, .int en, .int tA, .int fl, .int de, .ref (a 5), .int iD, .int iO, .int tU, .ref (a 6), .ref (a 7)]))], bArr g a f]) H := hP
  have hD : va_D A (List.flatten [[(o, .inr (10, [.int 1, .ref (a 0), .ref (a 1), .int hi, .ref (a 2), .ref (a 3), .int ac, .ref (a 4), .int tp, .int ba, .int en, .int tA, .int fl, .int de, .ref (a 5), .int iD, .int iO, .int tU, .ref (a 6), .ref (a 7)]))], bArr g a f]) := hD
  refine lv_aload_n hx hb dX12_word_17 rfl (lv_at hl 0 rfl) ?_
  refine va_get (D := g.1) (ci := 10) (v := .int 1) (C := RX12) (T := TX12) (N := 20) hx hb hts izRX12 hown hK hP 0 rfl rfl 0 (by decide) (hts _ k825) (fun _ h9 => h9) rfl dX12_word_18 ?_
  refine lv_if_le (tgt := 28) hx hb dX12_word_21 (by decide) (fun c3 => absurd c3 (by decide)) (fun _ => ?_)
  refine lv_iconst (v := 0) hx hb dX12_word_24 (by decide) ?_
  refine lv_goto (tgt := 43) hx hb dX12_word_25 (by decide) ?_
  have hP : va_P g.1 vwCl (List.flatten [bObj g o a 1 hi ac tp ba en tA fl de iD iO tU, bArr g a f]) H := hP
  have hD : va_D A (List.flatten [bObj g o a 1 hi ac tp ba en tA fl de iD iO tU, bArr g a f]) := hD
  obtain ⟨hP, hD⟩ := zord (g := g) (Bs' := [bObj g o a 1 hi ac tp ba en tA fl de iD iO tU]) [0] rfl rfl hP hD
  exact mret_i hx hb hr hlocks hS (Nat.le_of_ble_eq_true rfl) (Nat.le_of_ble_eq_true rfl) dX12_word_43 (1, hi, ac, tp, ba, en, tA, fl, de, iD, iO, tU, 0) rfl rfl hP hD
set_option maxRecDepth 100000 in
set_option maxHeartbeats 4000000 in
theorem m_steps (l : Launch) (g : zG) (o : Nat) (a : Nat → Nat) (th : Int32) (hi : Int32) (ac : Int32) (tp : Int32) (ba : Int32) (en : Int32) (tA : Int32) (fl : Int32) (de : Int32) (iD : Int32) (iO : Int32) (tU : Int32) (f : Nat → Nat → Int32) (n1 : Int32) (n2 : Int32) (hm : zMo (f 0)) : zM g l yX12_steps (Cond.code yX12_steps cX12_steps 4 (some .int) :: zB) ({ frames := 2, cells := 0, slots := 0, locals := 43 } : Room) [.ref o, .int n1, .int n2] [bObj g o a th hi ac tp ba en tA fl de iD iO tU, bArr g a f] (fun u : Int32 × Int32 × Int32 × Int32 × Int32 × Int32 × Int32 × Int32 × Int32 × Int32 × Int32 × Int32 × Int32 => (fun (th2 : Int32) (hi2 : Int32) (ac2 : Int32) (tp2 : Int32) (ba2 : Int32) (en2 : Int32) (tA2 : Int32) (fl2 : Int32) (de2 : Int32) (iD2 : Int32) (iO2 : Int32) (tU2 : Int32) (q : Int32) => some (.int q)) (u.1) (u.2.1) (u.2.2.1) (u.2.2.2.1) (u.2.2.2.2.1) (u.2.2.2.2.2.1) (u.2.2.2.2.2.2.1) (u.2.2.2.2.2.2.2.1) (u.2.2.2.2.2.2.2.2.1) (u.2.2.2.2.2.2.2.2.2.1) (u.2.2.2.2.2.2.2.2.2.2.1) (u.2.2.2.2.2.2.2.2.2.2.2.1) (u.2.2.2.2.2.2.2.2.2.2.2.2)) (fun u : Int32 × Int32 × Int32 × Int32 × Int32 × Int32 × Int32 × Int32 × Int32 × Int32 × Int32 × Int32 × Int32 => (fun (th2 : Int32) (hi2 : Int32) (ac2 : Int32) (tp2 : Int32) (ba2 : Int32) (en2 : Int32) (tA2 : Int32) (fl2 : Int32) (de2 : Int32) (iD2 : Int32) (iO2 : Int32) (tU2 : Int32) (q : Int32) => th2 = 1) (u.1) (u.2.1) (u.2.2.1) (u.2.2.2.1) (u.2.2.2.2.1) (u.2.2.2.2.2.1) (u.2.2.2.2.2.2.1) (u.2.2.2.2.2.2.2.1) (u.2.2.2.2.2.2.2.2.1) (u.2.2.2.2.2.2.2.2.2.1) (u.2.2.2.2.2.2.2.2.2.2.1) (u.2.2.2.2.2.2.2.2.2.2.2.1) (u.2.2.2.2.2.2.2.2.2.2.2.2)) (fun u : Int32 × Int32 × Int32 × Int32 × Int32 × Int32 × Int32 × Int32 × Int32 × Int32 × Int32 × Int32 × Int32 => (fun (th2 : Int32) (hi2 : Int32) (ac2 : Int32) (tp2 : Int32) (ba2 : Int32) (en2 : Int32) (tA2 : Int32) (fl2 : Int32) (de2 : Int32) (iD2 : Int32) (iO2 : Int32) (tU2 : Int32) (q : Int32) => [bObj g o a th2 hi2 ac2 tp2 ba2 en2 tA2 fl2 de2 iD2 iO2 tU2]) (u.1) (u.2.1) (u.2.2.1) (u.2.2.2.1) (u.2.2.2.2.1) (u.2.2.2.2.2.1) (u.2.2.2.2.2.2.1) (u.2.2.2.2.2.2.2.1) (u.2.2.2.2.2.2.2.2.1) (u.2.2.2.2.2.2.2.2.2.1) (u.2.2.2.2.2.2.2.2.2.2.1) (u.2.2.2.2.2.2.2.2.2.2.2.1) (u.2.2.2.2.2.2.2.2.2.2.2.2)) := by
  refine zM.of (cc := cX12_steps) (maxL := 4) (rt := (some .int)) (by decide) rfl (Nat.le_of_ble_eq_true rfl) ?_
  intro p e s m args below meth c A ls St hr hlocks hin hK hT hA hP hD hS hl
  obtain ⟨hx, hb, hml, hown, hts⟩ := id St
  have hl : lv_has ls 4 [(0, .ref o), (1, .int n1), (2, .int n2)] := hl
  refine lv_aload_n hx hb dX12_steps_0 rfl (lv_at hl 0 rfl) ?_
  refine lv_aload_n hx hb dX12_steps_1 rfl (lv_at hl 0 rfl) ?_
  refine lv_iload_n hx hb dX12_steps_2 rfl (lv_at hl 1 rfl) ?_
  refine mcallV (g := g) (q0 := 0) (ci := 10) (As := [.int n1]) (rest := [.ref o]) St hK hT hA hP hD hS hl.1 [0, 1] [] rfl rfl rfl (m_isPerson l g o a th hi ac tp ba en tA fl de iD iO tU f n1 (by assumption)) (cwV 1 hts (zgL (zl4 k1028 k1029 k1030 k833) k830) rfl rfl rfl (by decide +kernel) ⟨Nat.le_of_ble_eq_true rfl, Nat.le_of_ble_eq_true rfl⟩) rfl rfl rfl rfl (Nat.le_of_ble_eq_true rfl) dX12_steps_3 ⟨(Nat.le_of_ble_eq_true rfl), (Nat.le_of_ble_eq_true rfl)⟩ (fun _u H locs hq1 hP hD hS => ?_)
  have hP : va_P g.1 vwCl (List.flatten [bObj g o a th hi ac tp ba en tA fl de iD iO tU, bArr g a f]) H := hP
  have hD : va_D A (List.flatten [bObj g o a th hi ac tp ba en tA fl de iD iO tU, bArr g a f]) := hD
  refine W.widen (k := 0) (n := 0) (Nat.le_of_ble_eq_true rfl) (Nat.le_of_ble_eq_true rfl) ?_
  refine W.eq (g2 := F0 m 6 ls [.int 0, .ref o]) rfl ?_
  refine lv_if_eq (tgt := 17) hx hb dX12_steps_6 (by decide) (fun _ => ?_) (fun c2 => absurd (by decide) c2)
  refine lv_iconst (v := 1) hx hb dX12_steps_17 (by decide) ?_
  refine lv_goto (tgt := 31) hx hb dX12_steps_18 (by decide) ?_
  refine va_put (D := g.1) (ci := 10) (v := .int 1) (ty := .int) (C := RX12) (T := TX12) (N := 20) hx hb hts izRX12 tyX12 tyX12_ok nmX12 hown hK hP hD hS 0 rfl rfl 0 (by decide) (hts _ k825) (fun _ h9 => h9) rfl (by decide +kernel) rfl rfl (Nat.le_of_ble_eq_true rfl) dX12_steps_31 (fun H locs hP hD hS => ?_)
  have hP : va_P g.1 vwCl (List.flatten [[(o, .inr (10, [.int 1, .ref (a 0), .ref (a 1), .int hi, .ref (a 2), .ref (a 3), .int ac, .ref (a 4), .int tp, .int ba, .int en, .int tA, .int fl, .int de, .ref (a 5), .int iD, .int iO, .int tU, .ref (a 6), .ref (a 7)]))], bArr g a f]) H := hP
  have hD : va_D A (List.flatten [[(o, .inr (10, [.int 1, .ref (a 0), .ref (a 1), .int hi, .ref (a 2), .ref (a 3), .int ac, .ref (a 4), .int tp, .int ba, .int en, .int tA, .int fl, .int de, .ref (a 5), .int iD, .int iO, .int tU, .ref (a 6), .ref (a 7)]))], bArr g a f]) := hD
  refine lv_aload_n hx hb dX12_steps_34 rfl (lv_at hl 0 rfl) ?_
  refine va_get (D := g.1) (ci := 10) (v := .int 1) (C := RX12) (T := TX12) (N := 20) hx hb hts izRX12 hown hK hP 0 rfl rfl 0 (by decide) (hts _ k825) (fun _ h9 => h9) rfl dX12_steps_35 ?_
  refine lv_if_le (tgt := 43) hx hb dX12_steps_38 (by decide) (fun c3 => absurd c3 (by decide)) (fun _ => ?_)
  refine lv_iconst (v := 0) hx hb dX12_steps_41 (by decide) ?_
  have hP : va_P g.1 vwCl (List.flatten [bObj g o a 1 hi ac tp ba en tA fl de iD iO tU, bArr g a f]) H := hP
  have hD : va_D A (List.flatten [bObj g o a 1 hi ac tp ba en tA fl de iD iO tU, bArr g a f]) := hD
  obtain ⟨hP, hD⟩ := zord (g := g) (Bs' := [bObj g o a 1 hi ac tp ba en tA fl de iD iO tU]) [0] rfl rfl hP hD
  exact mret_i hx hb hr hlocks hS (Nat.le_of_ble_eq_true rfl) (Nat.le_of_ble_eq_true rfl) dX12_steps_42 (1, hi, ac, tp, ba, en, tA, fl, de, iD, iO, tU, 0) rfl rfl hP hD
set_option maxRecDepth 100000 in
set_option maxHeartbeats 4000000 in
theorem m_rests (l : Launch) (g : zG) (o : Nat) (a : Nat → Nat) (th : Int32) (hi : Int32) (ac : Int32) (tp : Int32) (ba : Int32) (en : Int32) (tA : Int32) (fl : Int32) (de : Int32) (iD : Int32) (iO : Int32) (tU : Int32) (f : Nat → Nat → Int32) (n1 : Int32) (n2 : Int32) (hm : zMo (f 0)) : zM g l yX12_rests (Cond.code yX12_rests cX12_rests 7 (some .int) :: zB) ({ frames := 2, cells := 0, slots := 0, locals := 43 } : Room) [.ref o, .int n1, .int n2] [bObj g o a th hi ac tp ba en tA fl de iD iO tU, bArr g a f] (fun u : Int32 × Int32 × Int32 × Int32 × Int32 × Int32 × Int32 × Int32 × Int32 × Int32 × Int32 × Int32 × Int32 => (fun (th2 : Int32) (hi2 : Int32) (ac2 : Int32) (tp2 : Int32) (ba2 : Int32) (en2 : Int32) (tA2 : Int32) (fl2 : Int32) (de2 : Int32) (iD2 : Int32) (iO2 : Int32) (tU2 : Int32) (q : Int32) => some (.int q)) (u.1) (u.2.1) (u.2.2.1) (u.2.2.2.1) (u.2.2.2.2.1) (u.2.2.2.2.2.1) (u.2.2.2.2.2.2.1) (u.2.2.2.2.2.2.2.1) (u.2.2.2.2.2.2.2.2.1) (u.2.2.2.2.2.2.2.2.2.1) (u.2.2.2.2.2.2.2.2.2.2.1) (u.2.2.2.2.2.2.2.2.2.2.2.1) (u.2.2.2.2.2.2.2.2.2.2.2.2)) (fun u : Int32 × Int32 × Int32 × Int32 × Int32 × Int32 × Int32 × Int32 × Int32 × Int32 × Int32 × Int32 × Int32 => (fun (th2 : Int32) (hi2 : Int32) (ac2 : Int32) (tp2 : Int32) (ba2 : Int32) (en2 : Int32) (tA2 : Int32) (fl2 : Int32) (de2 : Int32) (iD2 : Int32) (iO2 : Int32) (tU2 : Int32) (q : Int32) => th2 = 1) (u.1) (u.2.1) (u.2.2.1) (u.2.2.2.1) (u.2.2.2.2.1) (u.2.2.2.2.2.1) (u.2.2.2.2.2.2.1) (u.2.2.2.2.2.2.2.1) (u.2.2.2.2.2.2.2.2.1) (u.2.2.2.2.2.2.2.2.2.1) (u.2.2.2.2.2.2.2.2.2.2.1) (u.2.2.2.2.2.2.2.2.2.2.2.1) (u.2.2.2.2.2.2.2.2.2.2.2.2)) (fun u : Int32 × Int32 × Int32 × Int32 × Int32 × Int32 × Int32 × Int32 × Int32 × Int32 × Int32 × Int32 × Int32 => (fun (th2 : Int32) (hi2 : Int32) (ac2 : Int32) (tp2 : Int32) (ba2 : Int32) (en2 : Int32) (tA2 : Int32) (fl2 : Int32) (de2 : Int32) (iD2 : Int32) (iO2 : Int32) (tU2 : Int32) (q : Int32) => [bObj g o a th2 hi2 ac2 tp2 ba2 en2 tA2 fl2 de2 iD2 iO2 tU2]) (u.1) (u.2.1) (u.2.2.1) (u.2.2.2.1) (u.2.2.2.2.1) (u.2.2.2.2.2.1) (u.2.2.2.2.2.2.1) (u.2.2.2.2.2.2.2.1) (u.2.2.2.2.2.2.2.2.1) (u.2.2.2.2.2.2.2.2.2.1) (u.2.2.2.2.2.2.2.2.2.2.1) (u.2.2.2.2.2.2.2.2.2.2.2.1) (u.2.2.2.2.2.2.2.2.2.2.2.2)) := by
  refine zM.of (cc := cX12_rests) (maxL := 7) (rt := (some .int)) (by decide) rfl (Nat.le_of_ble_eq_true rfl) ?_
  intro p e s m args below meth c A ls St hr hlocks hin hK hT hA hP hD hS hl
  obtain ⟨hx, hb, hml, hown, hts⟩ := id St
  have hl : lv_has ls 7 [(0, .ref o), (1, .int n1), (2, .int n2)] := hl
  refine lv_aload_n hx hb dX12_rests_0 rfl (lv_at hl 0 rfl) ?_
  refine lv_aload_n hx hb dX12_rests_1 rfl (lv_at hl 0 rfl) ?_
  refine lv_iload_n hx hb dX12_rests_2 rfl (lv_at hl 1 rfl) ?_
  refine mcallV (g := g) (q0 := 0) (ci := 10) (As := [.int n1]) (rest := [.ref o]) St hK hT hA hP hD hS hl.1 [0, 1] [] rfl rfl rfl (m_isPerson l g o a th hi ac tp ba en tA fl de iD iO tU f n1 (by assumption)) (cwV 1 hts (zgL (zl4 k1028 k1029 k1030 k833) k830) rfl rfl rfl (by decide +kernel) ⟨Nat.le_of_ble_eq_true rfl, Nat.le_of_ble_eq_true rfl⟩) rfl rfl rfl rfl (Nat.le_of_ble_eq_true rfl) dX12_rests_3 ⟨(Nat.le_of_ble_eq_true rfl), (Nat.le_of_ble_eq_true rfl)⟩ (fun _u H locs hq1 hP hD hS => ?_)
  have hP : va_P g.1 vwCl (List.flatten [bObj g o a th hi ac tp ba en tA fl de iD iO tU, bArr g a f]) H := hP
  have hD : va_D A (List.flatten [bObj g o a th hi ac tp ba en tA fl de iD iO tU, bArr g a f]) := hD
  refine W.widen (k := 0) (n := 0) (Nat.le_of_ble_eq_true rfl) (Nat.le_of_ble_eq_true rfl) ?_
  refine W.eq (g2 := F0 m 6 ls [.int 0, .ref o]) rfl ?_
  refine lv_if_eq (tgt := 17) hx hb dX12_rests_6 (by decide) (fun _ => ?_) (fun c2 => absurd (by decide) c2)
  refine lv_iconst (v := 1) hx hb dX12_rests_17 (by decide) ?_
  refine lv_goto (tgt := 31) hx hb dX12_rests_18 (by decide) ?_
  refine va_put (D := g.1) (ci := 10) (v := .int 1) (ty := .int) (C := RX12) (T := TX12) (N := 20) hx hb hts izRX12 tyX12 tyX12_ok nmX12 hown hK hP hD hS 0 rfl rfl 0 (by decide) (hts _ k825) (fun _ h9 => h9) rfl (by decide +kernel) rfl rfl (Nat.le_of_ble_eq_true rfl) dX12_rests_31 (fun H locs hP hD hS => ?_)
  have hP : va_P g.1 vwCl (List.flatten [[(o, .inr (10, [.int 1, .ref (a 0), .ref (a 1), .int hi, .ref (a 2), .ref (a 3), .int ac, .ref (a 4), .int tp, .int ba, .int en, .int tA, .int fl, .int de, .ref (a 5), .int iD, .int iO, .int tU, .ref (a 6), .ref (a 7)]))], bArr g a f]) H := hP
  have hD : va_D A (List.flatten [[(o, .inr (10, [.int 1, .ref (a 0), .ref (a 1), .int hi, .ref (a 2), .ref (a 3), .int ac, .ref (a 4), .int tp, .int ba, .int en, .int tA, .int fl, .int de, .ref (a 5), .int iD, .int iO, .int tU, .ref (a 6), .ref (a 7)]))], bArr g a f]) := hD
  refine lv_aload_n hx hb dX12_rests_34 rfl (lv_at hl 0 rfl) ?_
  refine va_get (D := g.1) (ci := 10) (v := .int 1) (C := RX12) (T := TX12) (N := 20) hx hb hts izRX12 hown hK hP 0 rfl rfl 0 (by decide) (hts _ k825) (fun _ h9 => h9) rfl dX12_rests_35 ?_
  refine lv_if_le (tgt := 43) hx hb dX12_rests_38 (by decide) (fun c3 => absurd c3 (by decide)) (fun _ => ?_)
  refine lv_iconst (v := 0) hx hb dX12_rests_41 (by decide) ?_
  have hP : va_P g.1 vwCl (List.flatten [bObj g o a 1 hi ac tp ba en tA fl de iD iO tU, bArr g a f]) H := hP
  have hD : va_D A (List.flatten [bObj g o a 1 hi ac tp ba en tA fl de iD iO tU, bArr g a f]) := hD
  obtain ⟨hP, hD⟩ := zord (g := g) (Bs' := [bObj g o a 1 hi ac tp ba en tA fl de iD iO tU]) [0] rfl rfl hP hD
  exact mret_i hx hb hr hlocks hS (Nat.le_of_ble_eq_true rfl) (Nat.le_of_ble_eq_true rfl) dX12_rests_42 (1, hi, ac, tp, ba, en, tA, fl, de, iD, iO, tU, 0) rfl rfl hP hD
set_option maxRecDepth 100000 in
set_option maxHeartbeats 4000000 in
theorem m_last (l : Launch) (g : zG) (o : Nat) (a : Nat → Nat) (th : Int32) (hi : Int32) (ac : Int32) (tp : Int32) (ba : Int32) (en : Int32) (tA : Int32) (fl : Int32) (de : Int32) (iD : Int32) (iO : Int32) (tU : Int32) (f : Nat → Nat → Int32) (n1 : Int32) (hm : zMo (f 0)) : zM g l yX12_last (Cond.code yX12_last cX12_last 5 (some .int) :: zB) ({ frames := 2, cells := 0, slots := 0, locals := 43 } : Room) [.ref o, .int n1] [bObj g o a th hi ac tp ba en tA fl de iD iO tU, bArr g a f] (fun u : Int32 × Int32 × Int32 × Int32 × Int32 × Int32 × Int32 × Int32 × Int32 × Int32 × Int32 × Int32 × Int32 => (fun (th2 : Int32) (hi2 : Int32) (ac2 : Int32) (tp2 : Int32) (ba2 : Int32) (en2 : Int32) (tA2 : Int32) (fl2 : Int32) (de2 : Int32) (iD2 : Int32) (iO2 : Int32) (tU2 : Int32) (q : Int32) => some (.int q)) (u.1) (u.2.1) (u.2.2.1) (u.2.2.2.1) (u.2.2.2.2.1) (u.2.2.2.2.2.1) (u.2.2.2.2.2.2.1) (u.2.2.2.2.2.2.2.1) (u.2.2.2.2.2.2.2.2.1) (u.2.2.2.2.2.2.2.2.2.1) (u.2.2.2.2.2.2.2.2.2.2.1) (u.2.2.2.2.2.2.2.2.2.2.2.1) (u.2.2.2.2.2.2.2.2.2.2.2.2)) (fun u : Int32 × Int32 × Int32 × Int32 × Int32 × Int32 × Int32 × Int32 × Int32 × Int32 × Int32 × Int32 × Int32 => (fun (th2 : Int32) (hi2 : Int32) (ac2 : Int32) (tp2 : Int32) (ba2 : Int32) (en2 : Int32) (tA2 : Int32) (fl2 : Int32) (de2 : Int32) (iD2 : Int32) (iO2 : Int32) (tU2 : Int32) (q : Int32) => th2 = 1) (u.1) (u.2.1) (u.2.2.1) (u.2.2.2.1) (u.2.2.2.2.1) (u.2.2.2.2.2.1) (u.2.2.2.2.2.2.1) (u.2.2.2.2.2.2.2.1) (u.2.2.2.2.2.2.2.2.1) (u.2.2.2.2.2.2.2.2.2.1) (u.2.2.2.2.2.2.2.2.2.2.1) (u.2.2.2.2.2.2.2.2.2.2.2.1) (u.2.2.2.2.2.2.2.2.2.2.2.2)) (fun u : Int32 × Int32 × Int32 × Int32 × Int32 × Int32 × Int32 × Int32 × Int32 × Int32 × Int32 × Int32 × Int32 => (fun (th2 : Int32) (hi2 : Int32) (ac2 : Int32) (tp2 : Int32) (ba2 : Int32) (en2 : Int32) (tA2 : Int32) (fl2 : Int32) (de2 : Int32) (iD2 : Int32) (iO2 : Int32) (tU2 : Int32) (q : Int32) => [bObj g o a th2 hi2 ac2 tp2 ba2 en2 tA2 fl2 de2 iD2 iO2 tU2]) (u.1) (u.2.1) (u.2.2.1) (u.2.2.2.1) (u.2.2.2.2.1) (u.2.2.2.2.2.1) (u.2.2.2.2.2.2.1) (u.2.2.2.2.2.2.2.1) (u.2.2.2.2.2.2.2.2.1) (u.2.2.2.2.2.2.2.2.2.1) (u.2.2.2.2.2.2.2.2.2.2.1) (u.2.2.2.2.2.2.2.2.2.2.2.1) (u.2.2.2.2.2.2.2.2.2.2.2.2)) := by
  refine zM.of (cc := cX12_last) (maxL := 5) (rt := (some .int)) (by decide) rfl (Nat.le_of_ble_eq_true rfl) ?_
  intro p e s m args below meth c A ls St hr hlocks hin hK hT hA hP hD hS hl
  obtain ⟨hx, hb, hml, hown, hts⟩ := id St
  have hl : lv_has ls 5 [(0, .ref o), (1, .int n1)] := hl
  refine lv_aload_n hx hb dX12_last_0 rfl (lv_at hl 0 rfl) ?_
  refine lv_aload_n hx hb dX12_last_1 rfl (lv_at hl 0 rfl) ?_
  refine lv_iload_n hx hb dX12_last_2 rfl (lv_at hl 1 rfl) ?_
  refine mcallV (g := g) (q0 := 0) (ci := 10) (As := [.int n1]) (rest := [.ref o]) St hK hT hA hP hD hS hl.1 [0, 1] [] rfl rfl rfl (m_isWork l g o a th hi ac tp ba en tA fl de iD iO tU f n1 (by assumption)) (cwV 1 hts (zgL (zl4 k1041 k1042 k1043 k833) k834) rfl rfl rfl (by decide +kernel) ⟨Nat.le_of_ble_eq_true rfl, Nat.le_of_ble_eq_true rfl⟩) rfl rfl rfl rfl (Nat.le_of_ble_eq_true rfl) dX12_last_3 ⟨(Nat.le_of_ble_eq_true rfl), (Nat.le_of_ble_eq_true rfl)⟩ (fun _u H locs hq1 hP hD hS => ?_)
  have hP : va_P g.1 vwCl (List.flatten [bObj g o a th hi ac tp ba en tA fl de iD iO tU, bArr g a f]) H := hP
  have hD : va_D A (List.flatten [bObj g o a th hi ac tp ba en tA fl de iD iO tU, bArr g a f]) := hD
  refine W.widen (k := 0) (n := 0) (Nat.le_of_ble_eq_true rfl) (Nat.le_of_ble_eq_true rfl) ?_
  refine W.eq (g2 := F0 m 6 ls [.int 0, .ref o]) rfl ?_
  refine lv_if_ne (tgt := 13) hx hb dX12_last_6 (by decide) (fun c2 => absurd (by decide) c2) (fun _ => ?_)
  refine lv_iconst (v := 1) hx hb dX12_last_9 (by decide) ?_
  refine lv_goto (tgt := 14) hx hb dX12_last_10 (by decide) ?_
  refine va_put (D := g.1) (ci := 10) (v := .int 1) (ty := .int) (C := RX12) (T := TX12) (N := 20) hx hb hts izRX12 tyX12 tyX12_ok nmX12 hown hK hP hD hS 0 rfl rfl 0 (by decide) (hts _ k825) (fun _ h9 => h9) rfl (by decide +kernel) rfl rfl (Nat.le_of_ble_eq_true rfl) dX12_last_14 (fun H locs hP hD hS => ?_)
  have hP : va_P g.1 vwCl (List.flatten [[(o, .inr (10, [.int 1, .ref (a 0), .ref (a 1), .int hi, .ref (a 2), .ref (a 3), .int ac, .ref (a 4), .int tp, .int ba, .int en, .int tA, .int fl, .int de, .ref (a 5), .int iD, .int iO, .int tU, .ref (a 6), .ref (a 7)]))], bArr g a f]) H := hP
  have hD : va_D A (List.flatten [[(o, .inr (10, [.int 1, .ref (a 0), .ref (a 1), .int hi, .ref (a 2), .ref (a 3), .int ac, .ref (a 4), .int tp, .int ba, .int en, .int tA, .int fl, .int de, .ref (a 5), .int iD, .int iO, .int tU, .ref (a 6), .ref (a 7)]))], bArr g a f]) := hD
  refine lv_aload_n hx hb dX12_last_17 rfl (lv_at hl 0 rfl) ?_
  refine va_get (D := g.1) (ci := 10) (v := .int 1) (C := RX12) (T := TX12) (N := 20) hx hb hts izRX12 hown hK hP 0 rfl rfl 0 (by decide) (hts _ k825) (fun _ h9 => h9) rfl dX12_last_18 ?_
  refine lv_if_le (tgt := 26) hx hb dX12_last_21 (by decide) (fun c3 => absurd c3 (by decide)) (fun _ => ?_)
  refine lv_iconst (v := 0) hx hb dX12_last_24 (by decide) ?_
  have hP : va_P g.1 vwCl (List.flatten [bObj g o a 1 hi ac tp ba en tA fl de iD iO tU, bArr g a f]) H := hP
  have hD : va_D A (List.flatten [bObj g o a 1 hi ac tp ba en tA fl de iD iO tU, bArr g a f]) := hD
  obtain ⟨hP, hD⟩ := zord (g := g) (Bs' := [bObj g o a 1 hi ac tp ba en tA fl de iD iO tU]) [0] rfl rfl hP hD
  exact mret_i hx hb hr hlocks hS (Nat.le_of_ble_eq_true rfl) (Nat.le_of_ble_eq_true rfl) dX12_last_25 (1, hi, ac, tp, ba, en, tA, fl, de, iD, iO, tU, 0) rfl rfl hP hD
set_option maxRecDepth 100000 in
set_option maxHeartbeats 4000000 in
theorem m_led (l : Launch) (g : zG) (o : Nat) (a : Nat → Nat) (th : Int32) (hi : Int32) (ac : Int32) (tp : Int32) (ba : Int32) (en : Int32) (tA : Int32) (fl : Int32) (de : Int32) (iD : Int32) (iO : Int32) (tU : Int32) (f : Nat → Nat → Int32) (n1 : Int32) (n2 : Int32) (hm : zMo (f 0)) : zM g l yX12_led (Cond.code yX12_led cX12_led 6 (some .int) :: zB) ({ frames := 2, cells := 0, slots := 0, locals := 43 } : Room) [.ref o, .int n1, .int n2] [bObj g o a th hi ac tp ba en tA fl de iD iO tU, bArr g a f] (fun u : Int32 × Int32 × Int32 × Int32 × Int32 × Int32 × Int32 × Int32 × Int32 × Int32 × Int32 × Int32 × Int32 => (fun (th2 : Int32) (hi2 : Int32) (ac2 : Int32) (tp2 : Int32) (ba2 : Int32) (en2 : Int32) (tA2 : Int32) (fl2 : Int32) (de2 : Int32) (iD2 : Int32) (iO2 : Int32) (tU2 : Int32) (q : Int32) => some (.int q)) (u.1) (u.2.1) (u.2.2.1) (u.2.2.2.1) (u.2.2.2.2.1) (u.2.2.2.2.2.1) (u.2.2.2.2.2.2.1) (u.2.2.2.2.2.2.2.1) (u.2.2.2.2.2.2.2.2.1) (u.2.2.2.2.2.2.2.2.2.1) (u.2.2.2.2.2.2.2.2.2.2.1) (u.2.2.2.2.2.2.2.2.2.2.2.1) (u.2.2.2.2.2.2.2.2.2.2.2.2)) (fun u : Int32 × Int32 × Int32 × Int32 × Int32 × Int32 × Int32 × Int32 × Int32 × Int32 × Int32 × Int32 × Int32 => (fun (th2 : Int32) (hi2 : Int32) (ac2 : Int32) (tp2 : Int32) (ba2 : Int32) (en2 : Int32) (tA2 : Int32) (fl2 : Int32) (de2 : Int32) (iD2 : Int32) (iO2 : Int32) (tU2 : Int32) (q : Int32) => th2 = 1) (u.1) (u.2.1) (u.2.2.1) (u.2.2.2.1) (u.2.2.2.2.1) (u.2.2.2.2.2.1) (u.2.2.2.2.2.2.1) (u.2.2.2.2.2.2.2.1) (u.2.2.2.2.2.2.2.2.1) (u.2.2.2.2.2.2.2.2.2.1) (u.2.2.2.2.2.2.2.2.2.2.1) (u.2.2.2.2.2.2.2.2.2.2.2.1) (u.2.2.2.2.2.2.2.2.2.2.2.2)) (fun u : Int32 × Int32 × Int32 × Int32 × Int32 × Int32 × Int32 × Int32 × Int32 × Int32 × Int32 × Int32 × Int32 => (fun (th2 : Int32) (hi2 : Int32) (ac2 : Int32) (tp2 : Int32) (ba2 : Int32) (en2 : Int32) (tA2 : Int32) (fl2 : Int32) (de2 : Int32) (iD2 : Int32) (iO2 : Int32) (tU2 : Int32) (q : Int32) => [bObj g o a th2 hi2 ac2 tp2 ba2 en2 tA2 fl2 de2 iD2 iO2 tU2]) (u.1) (u.2.1) (u.2.2.1) (u.2.2.2.1) (u.2.2.2.2.1) (u.2.2.2.2.2.1) (u.2.2.2.2.2.2.1) (u.2.2.2.2.2.2.2.1) (u.2.2.2.2.2.2.2.2.1) (u.2.2.2.2.2.2.2.2.2.1) (u.2.2.2.2.2.2.2.2.2.2.1) (u.2.2.2.2.2.2.2.2.2.2.2.1) (u.2.2.2.2.2.2.2.2.2.2.2.2)) := by
  refine zM.of (cc := cX12_led) (maxL := 6) (rt := (some .int)) (by decide) rfl (Nat.le_of_ble_eq_true rfl) ?_
  intro p e s m args below meth c A ls St hr hlocks hin hK hT hA hP hD hS hl
  obtain ⟨hx, hb, hml, hown, hts⟩ := id St
  have hl : lv_has ls 6 [(0, .ref o), (1, .int n1), (2, .int n2)] := hl
  refine lv_aload_n hx hb dX12_led_0 rfl (lv_at hl 0 rfl) ?_
  refine lv_aload_n hx hb dX12_led_1 rfl (lv_at hl 0 rfl) ?_
  refine lv_iload_n hx hb dX12_led_2 rfl (lv_at hl 1 rfl) ?_
  refine mcallV (g := g) (q0 := 0) (ci := 10) (As := [.int n1]) (rest := [.ref o]) St hK hT hA hP hD hS hl.1 [0, 1] [] rfl rfl rfl (m_isWork l g o a th hi ac tp ba en tA fl de iD iO tU f n1 (by assumption)) (cwV 1 hts (zgL (zl4 k1041 k1042 k1043 k833) k834) rfl rfl rfl (by decide +kernel) ⟨Nat.le_of_ble_eq_true rfl, Nat.le_of_ble_eq_true rfl⟩) rfl rfl rfl rfl (Nat.le_of_ble_eq_true rfl) dX12_led_3 ⟨(Nat.le_of_ble_eq_true rfl), (Nat.le_of_ble_eq_true rfl)⟩ (fun _u H locs hq1 hP hD hS => ?_)
  have hP : va_P g.1 vwCl (List.flatten [bObj g o a th hi ac tp ba en tA fl de iD iO tU, bArr g a f]) H := hP
  have hD : va_D A (List.flatten [bObj g o a th hi ac tp ba en tA fl de iD iO tU, bArr g a f]) := hD
  refine W.widen (k := 0) (n := 0) (Nat.le_of_ble_eq_true rfl) (Nat.le_of_ble_eq_true rfl) ?_
  refine W.eq (g2 := F0 m 6 ls [.int 0, .ref o]) rfl ?_
  refine lv_if_ne (tgt := 13) hx hb dX12_led_6 (by decide) (fun c2 => absurd (by decide) c2) (fun _ => ?_)
  refine lv_iconst (v := 1) hx hb dX12_led_9 (by decide) ?_
  refine lv_goto (tgt := 14) hx hb dX12_led_10 (by decide) ?_
  refine va_put (D := g.1) (ci := 10) (v := .int 1) (ty := .int) (C := RX12) (T := TX12) (N := 20) hx hb hts izRX12 tyX12 tyX12_ok nmX12 hown hK hP hD hS 0 rfl rfl 0 (by decide) (hts _ k825) (fun _ h9 => h9) rfl (by decide +kernel) rfl rfl (Nat.le_of_ble_eq_true rfl) dX12_led_14 (fun H locs hP hD hS => ?_)
  have hP : va_P g.1 vwCl (List.flatten [[(o, .inr (10, [.int 1, .ref (a 0), .ref (a 1), .int hi, .ref (a 2), .ref (a 3), .int ac, .ref (a 4), .int tp, .int ba, .int en, .int tA, .int fl, .int de, .ref (a 5), .int iD, .int iO, .int tU, .ref (a 6), .ref (a 7)]))], bArr g a f]) H := hP
  have hD : va_D A (List.flatten [[(o, .inr (10, [.int 1, .ref (a 0), .ref (a 1), .int hi, .ref (a 2), .ref (a 3), .int ac, .ref (a 4), .int tp, .int ba, .int en, .int tA, .int fl, .int de, .ref (a 5), .int iD, .int iO, .int tU, .ref (a 6), .ref (a 7)]))], bArr g a f]) := hD
  refine lv_aload_n hx hb dX12_led_17 rfl (lv_at hl 0 rfl) ?_
  refine va_get (D := g.1) (ci := 10) (v := .int 1) (C := RX12) (T := TX12) (N := 20) hx hb hts izRX12 hown hK hP 0 rfl rfl 0 (by decide) (hts _ k825) (fun _ h9 => h9) rfl dX12_led_18 ?_
  refine lv_if_le (tgt := 26) hx hb dX12_led_21 (by decide) (fun c3 => absurd c3 (by decide)) (fun _ => ?_)
  refine lv_iconst (v := 0) hx hb dX12_led_24 (by decide) ?_
  have hP : va_P g.1 vwCl (List.flatten [bObj g o a 1 hi ac tp ba en tA fl de iD iO tU, bArr g a f]) H := hP
  have hD : va_D A (List.flatten [bObj g o a 1 hi ac tp ba en tA fl de iD iO tU, bArr g a f]) := hD
  obtain ⟨hP, hD⟩ := zord (g := g) (Bs' := [bObj g o a 1 hi ac tp ba en tA fl de iD iO tU]) [0] rfl rfl hP hD
  exact mret_i hx hb hr hlocks hS (Nat.le_of_ble_eq_true rfl) (Nat.le_of_ble_eq_true rfl) dX12_led_25 (1, hi, ac, tp, ba, en, tA, fl, de, iD, iO, tU, 0) rfl rfl hP hD
set_option maxRecDepth 100000 in
set_option maxHeartbeats 4000000 in
theorem m_plan (l : Launch) (g : zG) (o : Nat) (a : Nat → Nat) (th : Int32) (hi : Int32) (ac : Int32) (tp : Int32) (ba : Int32) (en : Int32) (tA : Int32) (fl : Int32) (de : Int32) (iD : Int32) (iO : Int32) (tU : Int32) (f : Nat → Nat → Int32) (n1 : Int32) (hm : zMo (f 0)) : zM g l yX12_plan (Cond.code yX12_plan cX12_plan 2 none :: zB) ({ frames := 2, cells := 0, slots := 0, locals := 43 } : Room) [.ref o, .int n1] [bObj g o a th hi ac tp ba en tA fl de iD iO tU, bArr g a f] (fun u : Int32 × Int32 × Int32 × Int32 × Int32 × Int32 × Int32 × Int32 × Int32 × Int32 × Int32 × Int32 => (fun (th2 : Int32) (hi2 : Int32) (ac2 : Int32) (tp2 : Int32) (ba2 : Int32) (en2 : Int32) (tA2 : Int32) (fl2 : Int32) (de2 : Int32) (iD2 : Int32) (iO2 : Int32) (tU2 : Int32) => none) (u.1) (u.2.1) (u.2.2.1) (u.2.2.2.1) (u.2.2.2.2.1) (u.2.2.2.2.2.1) (u.2.2.2.2.2.2.1) (u.2.2.2.2.2.2.2.1) (u.2.2.2.2.2.2.2.2.1) (u.2.2.2.2.2.2.2.2.2.1) (u.2.2.2.2.2.2.2.2.2.2.1) (u.2.2.2.2.2.2.2.2.2.2.2)) (fun u : Int32 × Int32 × Int32 × Int32 × Int32 × Int32 × Int32 × Int32 × Int32 × Int32 × Int32 × Int32 => (fun (th2 : Int32) (hi2 : Int32) (ac2 : Int32) (tp2 : Int32) (ba2 : Int32) (en2 : Int32) (tA2 : Int32) (fl2 : Int32) (de2 : Int32) (iD2 : Int32) (iO2 : Int32) (tU2 : Int32) => th2 = 1) (u.1) (u.2.1) (u.2.2.1) (u.2.2.2.1) (u.2.2.2.2.1) (u.2.2.2.2.2.1) (u.2.2.2.2.2.2.1) (u.2.2.2.2.2.2.2.1) (u.2.2.2.2.2.2.2.2.1) (u.2.2.2.2.2.2.2.2.2.1) (u.2.2.2.2.2.2.2.2.2.2.1) (u.2.2.2.2.2.2.2.2.2.2.2)) (fun u : Int32 × Int32 × Int32 × Int32 × Int32 × Int32 × Int32 × Int32 × Int32 × Int32 × Int32 × Int32 => (fun (th2 : Int32) (hi2 : Int32) (ac2 : Int32) (tp2 : Int32) (ba2 : Int32) (en2 : Int32) (tA2 : Int32) (fl2 : Int32) (de2 : Int32) (iD2 : Int32) (iO2 : Int32) (tU2 : Int32) => [bObj g o a th2 hi2 ac2 tp2 ba2 en2 tA2 fl2 de2 iD2 iO2 tU2]) (u.1) (u.2.1) (u.2.2.1) (u.2.2.2.1) (u.2.2.2.2.1) (u.2.2.2.2.2.1) (u.2.2.2.2.2.2.1) (u.2.2.2.2.2.2.2.1) (u.2.2.2.2.2.2.2.2.1) (u.2.2.2.2.2.2.2.2.2.1) (u.2.2.2.2.2.2.2.2.2.2.1) (u.2.2.2.2.2.2.2.2.2.2.2)) := by
  refine zM.of (cc := cX12_plan) (maxL := 2) (rt := none) (by decide) rfl (Nat.le_of_ble_eq_true rfl) ?_
  intro p e s m args below meth c A ls St hr hlocks hin hK hT hA hP hD hS hl
  obtain ⟨hx, hb, hml, hown, hts⟩ := id St
  have hl : lv_has ls 2 [(0, .ref o), (1, .int n1)] := hl
  refine lv_aload_n hx hb dX12_plan_0 rfl (lv_at hl 0 rfl) ?_
  refine lv_aload_n hx hb dX12_plan_1 rfl (lv_at hl 0 rfl) ?_
  refine lv_iload_n hx hb dX12_plan_2 rfl (lv_at hl 1 rfl) ?_
  refine mcallV (g := g) (q0 := 0) (ci := 10) (As := [.int n1]) (rest := [.ref o]) St hK hT hA hP hD hS hl.1 [0, 1] [] rfl rfl rfl (m_isWork l g o a th hi ac tp ba en tA fl de iD iO tU f n1 (by assumption)) (cwV 1 hts (zgL (zl4 k1041 k1042 k1043 k833) k834) rfl rfl rfl (by decide +kernel) ⟨Nat.le_of_ble_eq_true rfl, Nat.le_of_ble_eq_true rfl⟩) rfl rfl rfl rfl (Nat.le_of_ble_eq_true rfl) dX12_plan_3 ⟨(Nat.le_of_ble_eq_true rfl), (Nat.le_of_ble_eq_true rfl)⟩ (fun _u H locs hq1 hP hD hS => ?_)
  have hP : va_P g.1 vwCl (List.flatten [bObj g o a th hi ac tp ba en tA fl de iD iO tU, bArr g a f]) H := hP
  have hD : va_D A (List.flatten [bObj g o a th hi ac tp ba en tA fl de iD iO tU, bArr g a f]) := hD
  refine W.widen (k := 0) (n := 0) (Nat.le_of_ble_eq_true rfl) (Nat.le_of_ble_eq_true rfl) ?_
  refine W.eq (g2 := F0 m 6 ls [.int 0, .ref o]) rfl ?_
  refine lv_if_ne (tgt := 13) hx hb dX12_plan_6 (by decide) (fun c2 => absurd (by decide) c2) (fun _ => ?_)
  refine lv_iconst (v := 1) hx hb dX12_plan_9 (by decide) ?_
  refine lv_goto (tgt := 28) hx hb dX12_plan_10 (by decide) ?_
  refine va_put (D := g.1) (ci := 10) (v := .int 1) (ty := .int) (C := RX12) (T := TX12) (N := 20) hx hb hts izRX12 tyX12 tyX12_ok nmX12 hown hK hP hD hS 0 rfl rfl 0 (by decide) (hts _ k825) (fun _ h9 => h9) rfl (by decide +kernel) rfl rfl (Nat.le_of_ble_eq_true rfl) dX12_plan_28 (fun H locs hP hD hS => ?_)
  have hP : va_P g.1 vwCl (List.flatten [[(o, .inr (10, [.int 1, .ref (a 0), .ref (a 1), .int hi, .ref (a 2), .ref (a 3), .int ac, .ref (a 4), .int tp, .int ba, .int en, .int tA, .int fl, .int de, .ref (a 5), .int iD, .int iO, .int tU, .ref (a 6), .ref (a 7)]))], bArr g a f]) H := hP
  have hD : va_D A (List.flatten [[(o, .inr (10, [.int 1, .ref (a 0), .ref (a 1), .int hi, .ref (a 2), .ref (a 3), .int ac, .ref (a 4), .int tp, .int ba, .int en, .int tA, .int fl, .int de, .ref (a 5), .int iD, .int iO, .int tU, .ref (a 6), .ref (a 7)]))], bArr g a f]) := hD
  refine lv_aload_n hx hb dX12_plan_31 rfl (lv_at hl 0 rfl) ?_
  refine va_get (D := g.1) (ci := 10) (v := .int 1) (C := RX12) (T := TX12) (N := 20) hx hb hts izRX12 hown hK hP 0 rfl rfl 0 (by decide) (hts _ k825) (fun _ h9 => h9) rfl dX12_plan_32 ?_
  refine lv_if_le (tgt := 39) hx hb dX12_plan_35 (by decide) (fun c3 => absurd c3 (by decide)) (fun _ => ?_)
  have hP : va_P g.1 vwCl (List.flatten [bObj g o a 1 hi ac tp ba en tA fl de iD iO tU, bArr g a f]) H := hP
  have hD : va_D A (List.flatten [bObj g o a 1 hi ac tp ba en tA fl de iD iO tU, bArr g a f]) := hD
  obtain ⟨hP, hD⟩ := zord (g := g) (Bs' := [bObj g o a 1 hi ac tp ba en tA fl de iD iO tU]) [0] rfl rfl hP hD
  exact mret_v hx hb hr hlocks hS (Nat.le_of_ble_eq_true rfl) (Nat.le_of_ble_eq_true rfl) dX12_plan_38 (1, hi, ac, tp, ba, en, tA, fl, de, iD, iO, tU) rfl rfl hP hD
set_option maxRecDepth 100000 in
set_option maxHeartbeats 4000000 in
theorem m_price (l : Launch) (g : zG) (o : Nat) (a : Nat → Nat) (th : Int32) (hi : Int32) (ac : Int32) (tp : Int32) (ba : Int32) (en : Int32) (tA : Int32) (fl : Int32) (de : Int32) (iD : Int32) (iO : Int32) (tU : Int32) (f : Nat → Nat → Int32) (hm : zMo (f 0)) : zM g l yX12_price (Cond.code yX12_price cX12_price 1 (some .int) :: zB) ({ frames := 3, cells := 0, slots := 0, locals := 63 } : Room) [.ref o] [bObj g o a th hi ac tp ba en tA fl de iD iO tU, bArr g a f] (fun u : Int32 × Int32 × Int32 × Int32 × Int32 × Int32 × Int32 × Int32 × Int32 × Int32 × Int32 × Int32 × Int32 => (fun (th2 : Int32) (hi2 : Int32) (ac2 : Int32) (tp2 : Int32) (ba2 : Int32) (en2 : Int32) (tA2 : Int32) (fl2 : Int32) (de2 : Int32) (iD2 : Int32) (iO2 : Int32) (tU2 : Int32) (q : Int32) => some (.int q)) (u.1) (u.2.1) (u.2.2.1) (u.2.2.2.1) (u.2.2.2.2.1) (u.2.2.2.2.2.1) (u.2.2.2.2.2.2.1) (u.2.2.2.2.2.2.2.1) (u.2.2.2.2.2.2.2.2.1) (u.2.2.2.2.2.2.2.2.2.1) (u.2.2.2.2.2.2.2.2.2.2.1) (u.2.2.2.2.2.2.2.2.2.2.2.1) (u.2.2.2.2.2.2.2.2.2.2.2.2)) (fun u : Int32 × Int32 × Int32 × Int32 × Int32 × Int32 × Int32 × Int32 × Int32 × Int32 × Int32 × Int32 × Int32 => (fun (th2 : Int32) (hi2 : Int32) (ac2 : Int32) (tp2 : Int32) (ba2 : Int32) (en2 : Int32) (tA2 : Int32) (fl2 : Int32) (de2 : Int32) (iD2 : Int32) (iO2 : Int32) (tU2 : Int32) (q : Int32) => th2 = 0 ∧ q = 1) (u.1) (u.2.1) (u.2.2.1) (u.2.2.2.1) (u.2.2.2.2.1) (u.2.2.2.2.2.1) (u.2.2.2.2.2.2.1) (u.2.2.2.2.2.2.2.1) (u.2.2.2.2.2.2.2.2.1) (u.2.2.2.2.2.2.2.2.2.1) (u.2.2.2.2.2.2.2.2.2.2.1) (u.2.2.2.2.2.2.2.2.2.2.2.1) (u.2.2.2.2.2.2.2.2.2.2.2.2)) (fun u : Int32 × Int32 × Int32 × Int32 × Int32 × Int32 × Int32 × Int32 × Int32 × Int32 × Int32 × Int32 × Int32 => (fun (th2 : Int32) (hi2 : Int32) (ac2 : Int32) (tp2 : Int32) (ba2 : Int32) (en2 : Int32) (tA2 : Int32) (fl2 : Int32) (de2 : Int32) (iD2 : Int32) (iO2 : Int32) (tU2 : Int32) (q : Int32) => [bObj g o a th2 hi2 ac2 tp2 ba2 en2 tA2 fl2 de2 iD2 iO2 tU2]) (u.1) (u.2.1) (u.2.2.1) (u.2.2.2.1) (u.2.2.2.2.1) (u.2.2.2.2.2.1) (u.2.2.2.2.2.2.1) (u.2.2.2.2.2.2.2.1) (u.2.2.2.2.2.2.2.2.1) (u.2.2.2.2.2.2.2.2.2.1) (u.2.2.2.2.2.2.2.2.2.2.1) (u.2.2.2.2.2.2.2.2.2.2.2.1) (u.2.2.2.2.2.2.2.2.2.2.2.2)) := by
  refine zM.of (cc := cX12_price) (maxL := 1) (rt := (some .int)) (by decide) rfl (Nat.le_of_ble_eq_true rfl) ?_
  intro p e s m args below meth c A ls St hr hlocks hin hK hT hA hP hD hS hl
  obtain ⟨hx, hb, hml, hown, hts⟩ := id St
  have hl : lv_has ls 1 [(0, .ref o)] := hl
  refine lv_aload_n hx hb dX12_price_0 rfl (lv_at hl 0 rfl) ?_
  refine lv_iconst (v := 0) hx hb dX12_price_1 (by decide) ?_
  refine va_put (D := g.1) (ci := 10) (v := .int 0) (ty := .int) (C := RX12) (T := TX12) (N := 20) hx hb hts izRX12 tyX12 tyX12_ok nmX12 hown hK hP hD hS 0 rfl rfl 0 (by decide) (hts _ k825) (fun _ h9 => h9) rfl (by decide +kernel) rfl rfl (Nat.le_of_ble_eq_true rfl) dX12_price_2 (fun H locs hP hD hS => ?_)
  have hP : va_P g.1 vwCl (List.flatten [[(o, .inr (10, [.int 0, .ref (a 0), .ref (a 1), .int hi, .ref (a 2), .ref (a 3), .int ac, .ref (a 4), .int tp, .int ba, .int en, .int tA, .int fl, .int de, .ref (a 5), .int iD, .int iO, .int tU, .ref (a 6), .ref (a 7)]))], bArr g a f]) H := hP
  have hD : va_D A (List.flatten [[(o, .inr (10, [.int 0, .ref (a 0), .ref (a 1), .int hi, .ref (a 2), .ref (a 3), .int ac, .ref (a 4), .int tp, .int ba, .int en, .int tA, .int fl, .int de, .ref (a 5), .int iD, .int iO, .int tU, .ref (a 6), .ref (a 7)]))], bArr g a f]) := hD
  refine lv_aload_n hx hb dX12_price_5 rfl (lv_at hl 0 rfl) ?_
  refine mcallV (g := g) (q0 := 0) (ci := 10) (As := []) (rest := []) St hK hT hA hP hD hS hl.1 [0, 1] [] rfl rfl rfl (m_priceNow l g o a 0 hi ac tp ba en tA fl de iD iO tU f (by assumption)) (cwV 0 hts (zgL (zl4 k1035 k1036 k1037 k833) k857) rfl rfl rfl (by decide +kernel) ⟨Nat.le_of_ble_eq_true rfl, Nat.le_of_ble_eq_true rfl⟩) rfl rfl rfl rfl (Nat.le_of_ble_eq_true rfl) dX12_price_6 ⟨(Nat.le_of_ble_eq_true rfl), (Nat.le_of_ble_eq_true rfl)⟩ (fun _u H locs hq1 hP hD hS => ?_)
  have hP : va_P g.1 vwCl (List.flatten [bObj g o a 0 hi ac tp ba en tA fl de iD iO tU, bArr g a f]) H := hP
  have hD : va_D A (List.flatten [bObj g o a 0 hi ac tp ba en tA fl de iD iO tU, bArr g a f]) := hD
  refine W.widen (k := 0) (n := 0) (Nat.le_of_ble_eq_true rfl) (Nat.le_of_ble_eq_true rfl) ?_
  refine W.eq (g2 := F0 m 9 ls [.int 1]) rfl ?_
  have hP : va_P g.1 vwCl (List.flatten [bObj g o a 0 hi ac tp ba en tA fl de iD iO tU, bArr g a f]) H := hP
  have hD : va_D A (List.flatten [bObj g o a 0 hi ac tp ba en tA fl de iD iO tU, bArr g a f]) := hD
  obtain ⟨hP, hD⟩ := zord (g := g) (Bs' := [bObj g o a 0 hi ac tp ba en tA fl de iD iO tU]) [0] rfl rfl hP hD
  exact mret_i hx hb hr hlocks hS (Nat.le_of_ble_eq_true rfl) (Nat.le_of_ble_eq_true rfl) dX12_price_9 (0, hi, ac, tp, ba, en, tA, fl, de, iD, iO, tU, 1) rfl (⟨rfl, rfl⟩) hP hD
set_option maxRecDepth 100000 in
set_option maxHeartbeats 4000000 in
theorem m_doubts (l : Launch) (g : zG) (o : Nat) (a : Nat → Nat) (th : Int32) (hi : Int32) (ac : Int32) (tp : Int32) (ba : Int32) (en : Int32) (tA : Int32) (fl : Int32) (de : Int32) (iD : Int32) (iO : Int32) (tU : Int32) (f : Nat → Nat → Int32) (hm : zMo (f 0)) : zM g l yX12_doubts (Cond.code yX12_doubts cX12_doubts 1 (some .int) :: zB) ({ frames := 1, cells := 0, slots := 0, locals := 22 } : Room) [.ref o] [bObj g o a th hi ac tp ba en tA fl de iD iO tU, bArr g a f] (fun u : Int32 × Int32 × Int32 × Int32 × Int32 × Int32 × Int32 × Int32 × Int32 × Int32 × Int32 × Int32 × Int32 => (fun (th2 : Int32) (hi2 : Int32) (ac2 : Int32) (tp2 : Int32) (ba2 : Int32) (en2 : Int32) (tA2 : Int32) (fl2 : Int32) (de2 : Int32) (iD2 : Int32) (iO2 : Int32) (tU2 : Int32) (q : Int32) => some (.int q)) (u.1) (u.2.1) (u.2.2.1) (u.2.2.2.1) (u.2.2.2.2.1) (u.2.2.2.2.2.1) (u.2.2.2.2.2.2.1) (u.2.2.2.2.2.2.2.1) (u.2.2.2.2.2.2.2.2.1) (u.2.2.2.2.2.2.2.2.2.1) (u.2.2.2.2.2.2.2.2.2.2.1) (u.2.2.2.2.2.2.2.2.2.2.2.1) (u.2.2.2.2.2.2.2.2.2.2.2.2)) (fun u : Int32 × Int32 × Int32 × Int32 × Int32 × Int32 × Int32 × Int32 × Int32 × Int32 × Int32 × Int32 × Int32 => (fun (th2 : Int32) (hi2 : Int32) (ac2 : Int32) (tp2 : Int32) (ba2 : Int32) (en2 : Int32) (tA2 : Int32) (fl2 : Int32) (de2 : Int32) (iD2 : Int32) (iO2 : Int32) (tU2 : Int32) (q : Int32) => th2 = 0 ∧ q = 0) (u.1) (u.2.1) (u.2.2.1) (u.2.2.2.1) (u.2.2.2.2.1) (u.2.2.2.2.2.1) (u.2.2.2.2.2.2.1) (u.2.2.2.2.2.2.2.1) (u.2.2.2.2.2.2.2.2.1) (u.2.2.2.2.2.2.2.2.2.1) (u.2.2.2.2.2.2.2.2.2.2.1) (u.2.2.2.2.2.2.2.2.2.2.2.1) (u.2.2.2.2.2.2.2.2.2.2.2.2)) (fun u : Int32 × Int32 × Int32 × Int32 × Int32 × Int32 × Int32 × Int32 × Int32 × Int32 × Int32 × Int32 × Int32 => (fun (th2 : Int32) (hi2 : Int32) (ac2 : Int32) (tp2 : Int32) (ba2 : Int32) (en2 : Int32) (tA2 : Int32) (fl2 : Int32) (de2 : Int32) (iD2 : Int32) (iO2 : Int32) (tU2 : Int32) (q : Int32) => [bObj g o a th2 hi2 ac2 tp2 ba2 en2 tA2 fl2 de2 iD2 iO2 tU2]) (u.1) (u.2.1) (u.2.2.1) (u.2.2.2.1) (u.2.2.2.2.1) (u.2.2.2.2.2.1) (u.2.2.2.2.2.2.1) (u.2.2.2.2.2.2.2.1) (u.2.2.2.2.2.2.2.2.1) (u.2.2.2.2.2.2.2.2.2.1) (u.2.2.2.2.2.2.2.2.2.2.1) (u.2.2.2.2.2.2.2.2.2.2.2.1) (u.2.2.2.2.2.2.2.2.2.2.2.2)) := by
  refine zM.of (cc := cX12_doubts) (maxL := 1) (rt := (some .int)) (by decide) rfl (Nat.le_of_ble_eq_true rfl) ?_
  intro p e s m args below meth c A ls St hr hlocks hin hK hT hA hP hD hS hl
  obtain ⟨hx, hb, hml, hown, hts⟩ := id St
  have hl : lv_has ls 1 [(0, .ref o)] := hl
  refine lv_aload_n hx hb dX12_doubts_0 rfl (lv_at hl 0 rfl) ?_
  refine lv_iconst (v := 0) hx hb dX12_doubts_1 (by decide) ?_
  refine va_put (D := g.1) (ci := 10) (v := .int 0) (ty := .int) (C := RX12) (T := TX12) (N := 20) hx hb hts izRX12 tyX12 tyX12_ok nmX12 hown hK hP hD hS 0 rfl rfl 0 (by decide) (hts _ k825) (fun _ h9 => h9) rfl (by decide +kernel) rfl rfl (Nat.le_of_ble_eq_true rfl) dX12_doubts_2 (fun H locs hP hD hS => ?_)
  have hP : va_P g.1 vwCl (List.flatten [[(o, .inr (10, [.int 0, .ref (a 0), .ref (a 1), .int hi, .ref (a 2), .ref (a 3), .int ac, .ref (a 4), .int tp, .int ba, .int en, .int tA, .int fl, .int de, .ref (a 5), .int iD, .int iO, .int tU, .ref (a 6), .ref (a 7)]))], bArr g a f]) H := hP
  have hD : va_D A (List.flatten [[(o, .inr (10, [.int 0, .ref (a 0), .ref (a 1), .int hi, .ref (a 2), .ref (a 3), .int ac, .ref (a 4), .int tp, .int ba, .int en, .int tA, .int fl, .int de, .ref (a 5), .int iD, .int iO, .int tU, .ref (a 6), .ref (a 7)]))], bArr g a f]) := hD
  refine lv_aload_n hx hb dX12_doubts_5 rfl (lv_at hl 0 rfl) ?_
  refine mcallV (g := g) (q0 := 0) (ci := 10) (As := []) (rest := []) St hK hT hA hP hD hS hl.1 [0, 1] [] rfl rfl rfl (m_doubtsNow l g o a 0 hi ac tp ba en tA fl de iD iO tU f (by assumption)) (cwV 0 hts (zgL (zl4 k1075 k1076 k1077 k833) k1073) rfl rfl rfl (by decide +kernel) ⟨Nat.le_of_ble_eq_true rfl, Nat.le_of_ble_eq_true rfl⟩) rfl rfl rfl rfl (Nat.le_of_ble_eq_true rfl) dX12_doubts_6 ⟨(Nat.le_of_ble_eq_true rfl), (Nat.le_of_ble_eq_true rfl)⟩ (fun _u H locs hq1 hP hD hS => ?_)
  have hP : va_P g.1 vwCl (List.flatten [bObj g o a 0 hi ac tp ba en tA fl de iD iO tU, bArr g a f]) H := hP
  have hD : va_D A (List.flatten [bObj g o a 0 hi ac tp ba en tA fl de iD iO tU, bArr g a f]) := hD
  refine W.widen (k := 0) (n := 0) (Nat.le_of_ble_eq_true rfl) (Nat.le_of_ble_eq_true rfl) ?_
  refine W.eq (g2 := F0 m 9 ls [.int 0]) rfl ?_
  have hP : va_P g.1 vwCl (List.flatten [bObj g o a 0 hi ac tp ba en tA fl de iD iO tU, bArr g a f]) H := hP
  have hD : va_D A (List.flatten [bObj g o a 0 hi ac tp ba en tA fl de iD iO tU, bArr g a f]) := hD
  obtain ⟨hP, hD⟩ := zord (g := g) (Bs' := [bObj g o a 0 hi ac tp ba en tA fl de iD iO tU]) [0] rfl rfl hP hD
  exact mret_i hx hb hr hlocks hS (Nat.le_of_ble_eq_true rfl) (Nat.le_of_ble_eq_true rfl) dX12_doubts_9 (0, hi, ac, tp, ba, en, tA, fl, de, iD, iO, tU, 0) rfl (⟨rfl, rfl⟩) hP hD
set_option maxRecDepth 100000 in
set_option maxHeartbeats 4000000 in
theorem m_circles (l : Launch) (g : zG) (o : Nat) (a : Nat → Nat) (th : Int32) (hi : Int32) (ac : Int32) (tp : Int32) (ba : Int32) (en : Int32) (tA : Int32) (fl : Int32) (de : Int32) (iD : Int32) (iO : Int32) (tU : Int32) (f : Nat → Nat → Int32) (hm : zMo (f 0)) : zM g l yX12_circles (Cond.code yX12_circles cX12_circles 4 (some .int) :: zB) ({ frames := 0, cells := 0, slots := 0, locals := 0 } : Room) [.ref o] [bObj g o a th hi ac tp ba en tA fl de iD iO tU, bArr g a f] (fun u : Int32 × Int32 × Int32 × Int32 × Int32 × Int32 × Int32 × Int32 × Int32 × Int32 × Int32 × Int32 × Int32 => (fun (th2 : Int32) (hi2 : Int32) (ac2 : Int32) (tp2 : Int32) (ba2 : Int32) (en2 : Int32) (tA2 : Int32) (fl2 : Int32) (de2 : Int32) (iD2 : Int32) (iO2 : Int32) (tU2 : Int32) (q : Int32) => some (.int q)) (u.1) (u.2.1) (u.2.2.1) (u.2.2.2.1) (u.2.2.2.2.1) (u.2.2.2.2.2.1) (u.2.2.2.2.2.2.1) (u.2.2.2.2.2.2.2.1) (u.2.2.2.2.2.2.2.2.1) (u.2.2.2.2.2.2.2.2.2.1) (u.2.2.2.2.2.2.2.2.2.2.1) (u.2.2.2.2.2.2.2.2.2.2.2.1) (u.2.2.2.2.2.2.2.2.2.2.2.2)) (fun u : Int32 × Int32 × Int32 × Int32 × Int32 × Int32 × Int32 × Int32 × Int32 × Int32 × Int32 × Int32 × Int32 => (fun (th2 : Int32) (hi2 : Int32) (ac2 : Int32) (tp2 : Int32) (ba2 : Int32) (en2 : Int32) (tA2 : Int32) (fl2 : Int32) (de2 : Int32) (iD2 : Int32) (iO2 : Int32) (tU2 : Int32) (q : Int32) => th2 = 0 ∧ q = 0) (u.1) (u.2.1) (u.2.2.1) (u.2.2.2.1) (u.2.2.2.2.1) (u.2.2.2.2.2.1) (u.2.2.2.2.2.2.1) (u.2.2.2.2.2.2.2.1) (u.2.2.2.2.2.2.2.2.1) (u.2.2.2.2.2.2.2.2.2.1) (u.2.2.2.2.2.2.2.2.2.2.1) (u.2.2.2.2.2.2.2.2.2.2.2.1) (u.2.2.2.2.2.2.2.2.2.2.2.2)) (fun u : Int32 × Int32 × Int32 × Int32 × Int32 × Int32 × Int32 × Int32 × Int32 × Int32 × Int32 × Int32 × Int32 => (fun (th2 : Int32) (hi2 : Int32) (ac2 : Int32) (tp2 : Int32) (ba2 : Int32) (en2 : Int32) (tA2 : Int32) (fl2 : Int32) (de2 : Int32) (iD2 : Int32) (iO2 : Int32) (tU2 : Int32) (q : Int32) => [bObj g o a th2 hi2 ac2 tp2 ba2 en2 tA2 fl2 de2 iD2 iO2 tU2]) (u.1) (u.2.1) (u.2.2.1) (u.2.2.2.1) (u.2.2.2.2.1) (u.2.2.2.2.2.1) (u.2.2.2.2.2.2.1) (u.2.2.2.2.2.2.2.1) (u.2.2.2.2.2.2.2.2.1) (u.2.2.2.2.2.2.2.2.2.1) (u.2.2.2.2.2.2.2.2.2.2.1) (u.2.2.2.2.2.2.2.2.2.2.2.1) (u.2.2.2.2.2.2.2.2.2.2.2.2)) := by
  refine zM.of (cc := cX12_circles) (maxL := 4) (rt := (some .int)) (by decide) rfl (Nat.le_of_ble_eq_true rfl) ?_
  intro p e s m args below meth c A ls St hr hlocks hin hK hT hA hP hD hS hl
  obtain ⟨hx, hb, hml, hown, hts⟩ := id St
  have hl : lv_has ls 4 [(0, .ref o)] := hl
  refine lv_aload_n hx hb dX12_circles_0 rfl (lv_at hl 0 rfl) ?_
  refine lv_iconst (v := 0) hx hb dX12_circles_1 (by decide) ?_
  refine va_put (D := g.1) (ci := 10) (v := .int 0) (ty := .int) (C := RX12) (T := TX12) (N := 20) hx hb hts izRX12 tyX12 tyX12_ok nmX12 hown hK hP hD hS 0 rfl rfl 0 (by decide) (hts _ k825) (fun _ h9 => h9) rfl (by decide +kernel) rfl rfl (Nat.le_of_ble_eq_true rfl) dX12_circles_2 (fun H locs hP hD hS => ?_)
  have hP : va_P g.1 vwCl (List.flatten [[(o, .inr (10, [.int 0, .ref (a 0), .ref (a 1), .int hi, .ref (a 2), .ref (a 3), .int ac, .ref (a 4), .int tp, .int ba, .int en, .int tA, .int fl, .int de, .ref (a 5), .int iD, .int iO, .int tU, .ref (a 6), .ref (a 7)]))], bArr g a f]) H := hP
  have hD : va_D A (List.flatten [[(o, .inr (10, [.int 0, .ref (a 0), .ref (a 1), .int hi, .ref (a 2), .ref (a 3), .int ac, .ref (a 4), .int tp, .int ba, .int en, .int tA, .int fl, .int de, .ref (a 5), .int iD, .int iO, .int tU, .ref (a 6), .ref (a 7)]))], bArr g a f]) := hD
  refine lv_iconst (v := 0) hx hb dX12_circles_5 (by decide) ?_
  refine lv_istore_n (lv' := [(1, .int 0), (0, .ref o)]) hx hb dX12_circles_6 rfl hl (by decide) rfl (fun ls hl => ?_)
  refine lv_iconst (v := 0) hx hb dX12_circles_7 (by decide) ?_
  refine lv_istore_n (lv' := [(2, .int 0), (1, .int 0), (0, .ref o)]) hx hb dX12_circles_8 rfl hl (by decide) rfl (fun ls hl => ?_)
  refine lv_iload_n hx hb dX12_circles_9 rfl (lv_at hl 0 rfl) ?_
  refine lv_aload_n hx hb dX12_circles_10 rfl (lv_at hl 2 rfl) ?_
  refine va_get (D := g.1) (ci := 10) (v := .ref (a 0)) (C := RX12) (T := TX12) (N := 20) hx hb hts izRX12 hown hK hP 0 rfl rfl 1 (by decide) (hts _ k815) (fun _ h9 => h9) rfl dX12_circles_11 ?_
  refine lv_iconst (v := 3) hx hb dX12_circles_14 (by decide) ?_
  refine va_iald hx hb hK hP 1 0 rfl rfl (zin rfl) dX12_circles_15 ?_
  refine ztop (r := (f 0) 3) rfl ?_
  refine ztop (r := 0) hm.1 ?_
  refine lv_icmp_ge (tgt := 57) hx hb dX12_circles_16 (by decide) (fun _ => ?_) (fun c1 => absurd (by decide) c1)
  refine lv_iload_n hx hb dX12_circles_57 rfl (lv_at hl 1 rfl) ?_
  have hP : va_P g.1 vwCl (List.flatten [bObj g o a 0 hi ac tp ba en tA fl de iD iO tU, bArr g a f]) H := hP
  have hD : va_D A (List.flatten [bObj g o a 0 hi ac tp ba en tA fl de iD iO tU, bArr g a f]) := hD
  obtain ⟨hP, hD⟩ := zord (g := g) (Bs' := [bObj g o a 0 hi ac tp ba en tA fl de iD iO tU]) [0] rfl rfl hP hD
  exact mret_i hx hb hr hlocks hS (Nat.le_of_ble_eq_true rfl) (Nat.le_of_ble_eq_true rfl) dX12_circles_58 (0, hi, ac, tp, ba, en, tA, fl, de, iD, iO, tU, 0) rfl (⟨rfl, rfl⟩) hP hD
set_option maxRecDepth 100000 in
set_option maxHeartbeats 4000000 in
theorem m_hermits (l : Launch) (g : zG) (o : Nat) (a : Nat → Nat) (th : Int32) (hi : Int32) (ac : Int32) (tp : Int32) (ba : Int32) (en : Int32) (tA : Int32) (fl : Int32) (de : Int32) (iD : Int32) (iO : Int32) (tU : Int32) (f : Nat → Nat → Int32) (hm : zMo (f 0)) : zM g l yX12_hermits (Cond.code yX12_hermits cX12_hermits 5 (some .int) :: zB) ({ frames := 0, cells := 0, slots := 0, locals := 0 } : Room) [.ref o] [bObj g o a th hi ac tp ba en tA fl de iD iO tU, bArr g a f] (fun u : Int32 × Int32 × Int32 × Int32 × Int32 × Int32 × Int32 × Int32 × Int32 × Int32 × Int32 × Int32 × Int32 => (fun (th2 : Int32) (hi2 : Int32) (ac2 : Int32) (tp2 : Int32) (ba2 : Int32) (en2 : Int32) (tA2 : Int32) (fl2 : Int32) (de2 : Int32) (iD2 : Int32) (iO2 : Int32) (tU2 : Int32) (q : Int32) => some (.int q)) (u.1) (u.2.1) (u.2.2.1) (u.2.2.2.1) (u.2.2.2.2.1) (u.2.2.2.2.2.1) (u.2.2.2.2.2.2.1) (u.2.2.2.2.2.2.2.1) (u.2.2.2.2.2.2.2.2.1) (u.2.2.2.2.2.2.2.2.2.1) (u.2.2.2.2.2.2.2.2.2.2.1) (u.2.2.2.2.2.2.2.2.2.2.2.1) (u.2.2.2.2.2.2.2.2.2.2.2.2)) (fun u : Int32 × Int32 × Int32 × Int32 × Int32 × Int32 × Int32 × Int32 × Int32 × Int32 × Int32 × Int32 × Int32 => (fun (th2 : Int32) (hi2 : Int32) (ac2 : Int32) (tp2 : Int32) (ba2 : Int32) (en2 : Int32) (tA2 : Int32) (fl2 : Int32) (de2 : Int32) (iD2 : Int32) (iO2 : Int32) (tU2 : Int32) (q : Int32) => th2 = 0 ∧ q = 0) (u.1) (u.2.1) (u.2.2.1) (u.2.2.2.1) (u.2.2.2.2.1) (u.2.2.2.2.2.1) (u.2.2.2.2.2.2.1) (u.2.2.2.2.2.2.2.1) (u.2.2.2.2.2.2.2.2.1) (u.2.2.2.2.2.2.2.2.2.1) (u.2.2.2.2.2.2.2.2.2.2.1) (u.2.2.2.2.2.2.2.2.2.2.2.1) (u.2.2.2.2.2.2.2.2.2.2.2.2)) (fun u : Int32 × Int32 × Int32 × Int32 × Int32 × Int32 × Int32 × Int32 × Int32 × Int32 × Int32 × Int32 × Int32 => (fun (th2 : Int32) (hi2 : Int32) (ac2 : Int32) (tp2 : Int32) (ba2 : Int32) (en2 : Int32) (tA2 : Int32) (fl2 : Int32) (de2 : Int32) (iD2 : Int32) (iO2 : Int32) (tU2 : Int32) (q : Int32) => [bObj g o a th2 hi2 ac2 tp2 ba2 en2 tA2 fl2 de2 iD2 iO2 tU2]) (u.1) (u.2.1) (u.2.2.1) (u.2.2.2.1) (u.2.2.2.2.1) (u.2.2.2.2.2.1) (u.2.2.2.2.2.2.1) (u.2.2.2.2.2.2.2.1) (u.2.2.2.2.2.2.2.2.1) (u.2.2.2.2.2.2.2.2.2.1) (u.2.2.2.2.2.2.2.2.2.2.1) (u.2.2.2.2.2.2.2.2.2.2.2.1) (u.2.2.2.2.2.2.2.2.2.2.2.2)) := by
  refine zM.of (cc := cX12_hermits) (maxL := 5) (rt := (some .int)) (by decide) rfl (Nat.le_of_ble_eq_true rfl) ?_
  intro p e s m args below meth c A ls St hr hlocks hin hK hT hA hP hD hS hl
  obtain ⟨hx, hb, hml, hown, hts⟩ := id St
  have hl : lv_has ls 5 [(0, .ref o)] := hl
  refine lv_aload_n hx hb dX12_hermits_0 rfl (lv_at hl 0 rfl) ?_
  refine lv_iconst (v := 0) hx hb dX12_hermits_1 (by decide) ?_
  refine va_put (D := g.1) (ci := 10) (v := .int 0) (ty := .int) (C := RX12) (T := TX12) (N := 20) hx hb hts izRX12 tyX12 tyX12_ok nmX12 hown hK hP hD hS 0 rfl rfl 0 (by decide) (hts _ k825) (fun _ h9 => h9) rfl (by decide +kernel) rfl rfl (Nat.le_of_ble_eq_true rfl) dX12_hermits_2 (fun H locs hP hD hS => ?_)
  have hP : va_P g.1 vwCl (List.flatten [[(o, .inr (10, [.int 0, .ref (a 0), .ref (a 1), .int hi, .ref (a 2), .ref (a 3), .int ac, .ref (a 4), .int tp, .int ba, .int en, .int tA, .int fl, .int de, .ref (a 5), .int iD, .int iO, .int tU, .ref (a 6), .ref (a 7)]))], bArr g a f]) H := hP
  have hD : va_D A (List.flatten [[(o, .inr (10, [.int 0, .ref (a 0), .ref (a 1), .int hi, .ref (a 2), .ref (a 3), .int ac, .ref (a 4), .int tp, .int ba, .int en, .int tA, .int fl, .int de, .ref (a 5), .int iD, .int iO, .int tU, .ref (a 6), .ref (a 7)]))], bArr g a f]) := hD
  refine lv_iconst (v := 0) hx hb dX12_hermits_5 (by decide) ?_
  refine lv_istore_n (lv' := [(1, .int 0), (0, .ref o)]) hx hb dX12_hermits_6 rfl hl (by decide) rfl (fun ls hl => ?_)
  refine lv_iconst (v := 0) hx hb dX12_hermits_7 (by decide) ?_
  refine lv_istore_n (lv' := [(2, .int 0), (1, .int 0), (0, .ref o)]) hx hb dX12_hermits_8 rfl hl (by decide) rfl (fun ls hl => ?_)
  refine lv_iload_n hx hb dX12_hermits_9 rfl (lv_at hl 0 rfl) ?_
  refine lv_aload_n hx hb dX12_hermits_10 rfl (lv_at hl 2 rfl) ?_
  refine va_get (D := g.1) (ci := 10) (v := .ref (a 0)) (C := RX12) (T := TX12) (N := 20) hx hb hts izRX12 hown hK hP 0 rfl rfl 1 (by decide) (hts _ k815) (fun _ h9 => h9) rfl dX12_hermits_11 ?_
  refine lv_iconst (v := 3) hx hb dX12_hermits_14 (by decide) ?_
  refine va_iald hx hb hK hP 1 0 rfl rfl (zin rfl) dX12_hermits_15 ?_
  refine ztop (r := (f 0) 3) rfl ?_
  refine ztop (r := 0) hm.1 ?_
  refine lv_icmp_ge (tgt := 99) hx hb dX12_hermits_16 (by decide) (fun _ => ?_) (fun c1 => absurd (by decide) c1)
  refine lv_iload_n hx hb dX12_hermits_99 rfl (lv_at hl 1 rfl) ?_
  have hP : va_P g.1 vwCl (List.flatten [bObj g o a 0 hi ac tp ba en tA fl de iD iO tU, bArr g a f]) H := hP
  have hD : va_D A (List.flatten [bObj g o a 0 hi ac tp ba en tA fl de iD iO tU, bArr g a f]) := hD
  obtain ⟨hP, hD⟩ := zord (g := g) (Bs' := [bObj g o a 0 hi ac tp ba en tA fl de iD iO tU]) [0] rfl rfl hP hD
  exact mret_i hx hb hr hlocks hS (Nat.le_of_ble_eq_true rfl) (Nat.le_of_ble_eq_true rfl) dX12_hermits_100 (0, hi, ac, tp, ba, en, tA, fl, de, iD, iO, tU, 0) rfl (⟨rfl, rfl⟩) hP hD
set_option maxRecDepth 100000 in
set_option maxHeartbeats 4000000 in
theorem m_richest (l : Launch) (g : zG) (o : Nat) (a : Nat → Nat) (th : Int32) (hi : Int32) (ac : Int32) (tp : Int32) (ba : Int32) (en : Int32) (tA : Int32) (fl : Int32) (de : Int32) (iD : Int32) (iO : Int32) (tU : Int32) (f : Nat → Nat → Int32) (hm : zMo (f 0)) : zM g l yX12_richest (Cond.code yX12_richest cX12_richest 3 (some .int) :: zB) ({ frames := 0, cells := 0, slots := 0, locals := 0 } : Room) [.ref o] [bObj g o a th hi ac tp ba en tA fl de iD iO tU, bArr g a f] (fun u : Int32 × Int32 × Int32 × Int32 × Int32 × Int32 × Int32 × Int32 × Int32 × Int32 × Int32 × Int32 × Int32 => (fun (th2 : Int32) (hi2 : Int32) (ac2 : Int32) (tp2 : Int32) (ba2 : Int32) (en2 : Int32) (tA2 : Int32) (fl2 : Int32) (de2 : Int32) (iD2 : Int32) (iO2 : Int32) (tU2 : Int32) (q : Int32) => some (.int q)) (u.1) (u.2.1) (u.2.2.1) (u.2.2.2.1) (u.2.2.2.2.1) (u.2.2.2.2.2.1) (u.2.2.2.2.2.2.1) (u.2.2.2.2.2.2.2.1) (u.2.2.2.2.2.2.2.2.1) (u.2.2.2.2.2.2.2.2.2.1) (u.2.2.2.2.2.2.2.2.2.2.1) (u.2.2.2.2.2.2.2.2.2.2.2.1) (u.2.2.2.2.2.2.2.2.2.2.2.2)) (fun u : Int32 × Int32 × Int32 × Int32 × Int32 × Int32 × Int32 × Int32 × Int32 × Int32 × Int32 × Int32 × Int32 => (fun (th2 : Int32) (hi2 : Int32) (ac2 : Int32) (tp2 : Int32) (ba2 : Int32) (en2 : Int32) (tA2 : Int32) (fl2 : Int32) (de2 : Int32) (iD2 : Int32) (iO2 : Int32) (tU2 : Int32) (q : Int32) => th2 = 0 ∧ q = -1) (u.1) (u.2.1) (u.2.2.1) (u.2.2.2.1) (u.2.2.2.2.1) (u.2.2.2.2.2.1) (u.2.2.2.2.2.2.1) (u.2.2.2.2.2.2.2.1) (u.2.2.2.2.2.2.2.2.1) (u.2.2.2.2.2.2.2.2.2.1) (u.2.2.2.2.2.2.2.2.2.2.1) (u.2.2.2.2.2.2.2.2.2.2.2.1) (u.2.2.2.2.2.2.2.2.2.2.2.2)) (fun u : Int32 × Int32 × Int32 × Int32 × Int32 × Int32 × Int32 × Int32 × Int32 × Int32 × Int32 × Int32 × Int32 => (fun (th2 : Int32) (hi2 : Int32) (ac2 : Int32) (tp2 : Int32) (ba2 : Int32) (en2 : Int32) (tA2 : Int32) (fl2 : Int32) (de2 : Int32) (iD2 : Int32) (iO2 : Int32) (tU2 : Int32) (q : Int32) => [bObj g o a th2 hi2 ac2 tp2 ba2 en2 tA2 fl2 de2 iD2 iO2 tU2]) (u.1) (u.2.1) (u.2.2.1) (u.2.2.2.1) (u.2.2.2.2.1) (u.2.2.2.2.2.1) (u.2.2.2.2.2.2.1) (u.2.2.2.2.2.2.2.1) (u.2.2.2.2.2.2.2.2.1) (u.2.2.2.2.2.2.2.2.2.1) (u.2.2.2.2.2.2.2.2.2.2.1) (u.2.2.2.2.2.2.2.2.2.2.2.1) (u.2.2.2.2.2.2.2.2.2.2.2.2)) := by
  refine zM.of (cc := cX12_richest) (maxL := 3) (rt := (some .int)) (by decide) rfl (Nat.le_of_ble_eq_true rfl) ?_
  intro p e s m args below meth c A ls St hr hlocks hin hK hT hA hP hD hS hl
  obtain ⟨hx, hb, hml, hown, hts⟩ := id St
  have hl : lv_has ls 3 [(0, .ref o)] := hl
  refine lv_aload_n hx hb dX12_richest_0 rfl (lv_at hl 0 rfl) ?_
  refine lv_iconst (v := 0) hx hb dX12_richest_1 (by decide) ?_
  refine va_put (D := g.1) (ci := 10) (v := .int 0) (ty := .int) (C := RX12) (T := TX12) (N := 20) hx hb hts izRX12 tyX12 tyX12_ok nmX12 hown hK hP hD hS 0 rfl rfl 0 (by decide) (hts _ k825) (fun _ h9 => h9) rfl (by decide +kernel) rfl rfl (Nat.le_of_ble_eq_true rfl) dX12_richest_2 (fun H locs hP hD hS => ?_)
  have hP : va_P g.1 vwCl (List.flatten [[(o, .inr (10, [.int 0, .ref (a 0), .ref (a 1), .int hi, .ref (a 2), .ref (a 3), .int ac, .ref (a 4), .int tp, .int ba, .int en, .int tA, .int fl, .int de, .ref (a 5), .int iD, .int iO, .int tU, .ref (a 6), .ref (a 7)]))], bArr g a f]) H := hP
  have hD : va_D A (List.flatten [[(o, .inr (10, [.int 0, .ref (a 0), .ref (a 1), .int hi, .ref (a 2), .ref (a 3), .int ac, .ref (a 4), .int tp, .int ba, .int en, .int tA, .int fl, .int de, .ref (a 5), .int iD, .int iO, .int tU, .ref (a 6), .ref (a 7)]))], bArr g a f]) := hD
  refine lv_iconst (v := (-1)) hx hb dX12_richest_5 (by decide) ?_
  refine lv_istore_n (lv' := [(1, .int (-1)), (0, .ref o)]) hx hb dX12_richest_6 rfl hl (by decide) rfl (fun ls hl => ?_)
  refine lv_iconst (v := 0) hx hb dX12_richest_7 (by decide) ?_
  refine lv_istore_n (lv' := [(2, .int 0), (1, .int (-1)), (0, .ref o)]) hx hb dX12_richest_8 rfl hl (by decide) rfl (fun ls hl => ?_)
  refine lv_iload_n hx hb dX12_richest_9 rfl (lv_at hl 0 rfl) ?_
  refine lv_aload_n hx hb dX12_richest_10 rfl (lv_at hl 2 rfl) ?_
  refine va_get (D := g.1) (ci := 10) (v := .ref (a 0)) (C := RX12) (T := TX12) (N := 20) hx hb hts izRX12 hown hK hP 0 rfl rfl 1 (by decide) (hts _ k815) (fun _ h9 => h9) rfl dX12_richest_11 ?_
  refine lv_iconst (v := 3) hx hb dX12_richest_14 (by decide) ?_
  refine va_iald hx hb hK hP 1 0 rfl rfl (zin rfl) dX12_richest_15 ?_
  refine ztop (r := (f 0) 3) rfl ?_
  refine ztop (r := 0) hm.1 ?_
  refine lv_icmp_ge (tgt := 45) hx hb dX12_richest_16 (by decide) (fun _ => ?_) (fun c1 => absurd (by decide) c1)
  refine lv_iload_n hx hb dX12_richest_45 rfl (lv_at hl 1 rfl) ?_
  have hP : va_P g.1 vwCl (List.flatten [bObj g o a 0 hi ac tp ba en tA fl de iD iO tU, bArr g a f]) H := hP
  have hD : va_D A (List.flatten [bObj g o a 0 hi ac tp ba en tA fl de iD iO tU, bArr g a f]) := hD
  obtain ⟨hP, hD⟩ := zord (g := g) (Bs' := [bObj g o a 0 hi ac tp ba en tA fl de iD iO tU]) [0] rfl rfl hP hD
  exact mret_i hx hb hr hlocks hS (Nat.le_of_ble_eq_true rfl) (Nat.le_of_ble_eq_true rfl) dX12_richest_46 (0, hi, ac, tp, ba, en, tA, fl, de, iD, iO, tU, -1) rfl (⟨rfl, rfl⟩) hP hD
set_option maxRecDepth 100000 in
set_option maxHeartbeats 4000000 in
theorem m_firmest (l : Launch) (g : zG) (o : Nat) (a : Nat → Nat) (th : Int32) (hi : Int32) (ac : Int32) (tp : Int32) (ba : Int32) (en : Int32) (tA : Int32) (fl : Int32) (de : Int32) (iD : Int32) (iO : Int32) (tU : Int32) (f : Nat → Nat → Int32) (hm : zMo (f 0)) : zM g l yX12_firmest (Cond.code yX12_firmest cX12_firmest 3 (some .int) :: zB) ({ frames := 0, cells := 0, slots := 0, locals := 0 } : Room) [.ref o] [bObj g o a th hi ac tp ba en tA fl de iD iO tU, bArr g a f] (fun u : Int32 × Int32 × Int32 × Int32 × Int32 × Int32 × Int32 × Int32 × Int32 × Int32 × Int32 × Int32 × Int32 => (fun (th2 : Int32) (hi2 : Int32) (ac2 : Int32) (tp2 : Int32) (ba2 : Int32) (en2 : Int32) (tA2 : Int32) (fl2 : Int32) (de2 : Int32) (iD2 : Int32) (iO2 : Int32) (tU2 : Int32) (q : Int32) => some (.int q)) (u.1) (u.2.1) (u.2.2.1) (u.2.2.2.1) (u.2.2.2.2.1) (u.2.2.2.2.2.1) (u.2.2.2.2.2.2.1) (u.2.2.2.2.2.2.2.1) (u.2.2.2.2.2.2.2.2.1) (u.2.2.2.2.2.2.2.2.2.1) (u.2.2.2.2.2.2.2.2.2.2.1) (u.2.2.2.2.2.2.2.2.2.2.2.1) (u.2.2.2.2.2.2.2.2.2.2.2.2)) (fun u : Int32 × Int32 × Int32 × Int32 × Int32 × Int32 × Int32 × Int32 × Int32 × Int32 × Int32 × Int32 × Int32 => (fun (th2 : Int32) (hi2 : Int32) (ac2 : Int32) (tp2 : Int32) (ba2 : Int32) (en2 : Int32) (tA2 : Int32) (fl2 : Int32) (de2 : Int32) (iD2 : Int32) (iO2 : Int32) (tU2 : Int32) (q : Int32) => th2 = 0 ∧ q = -1) (u.1) (u.2.1) (u.2.2.1) (u.2.2.2.1) (u.2.2.2.2.1) (u.2.2.2.2.2.1) (u.2.2.2.2.2.2.1) (u.2.2.2.2.2.2.2.1) (u.2.2.2.2.2.2.2.2.1) (u.2.2.2.2.2.2.2.2.2.1) (u.2.2.2.2.2.2.2.2.2.2.1) (u.2.2.2.2.2.2.2.2.2.2.2.1) (u.2.2.2.2.2.2.2.2.2.2.2.2)) (fun u : Int32 × Int32 × Int32 × Int32 × Int32 × Int32 × Int32 × Int32 × Int32 × Int32 × Int32 × Int32 × Int32 => (fun (th2 : Int32) (hi2 : Int32) (ac2 : Int32) (tp2 : Int32) (ba2 : Int32) (en2 : Int32) (tA2 : Int32) (fl2 : Int32) (de2 : Int32) (iD2 : Int32) (iO2 : Int32) (tU2 : Int32) (q : Int32) => [bObj g o a th2 hi2 ac2 tp2 ba2 en2 tA2 fl2 de2 iD2 iO2 tU2]) (u.1) (u.2.1) (u.2.2.1) (u.2.2.2.1) (u.2.2.2.2.1) (u.2.2.2.2.2.1) (u.2.2.2.2.2.2.1) (u.2.2.2.2.2.2.2.1) (u.2.2.2.2.2.2.2.2.1) (u.2.2.2.2.2.2.2.2.2.1) (u.2.2.2.2.2.2.2.2.2.2.1) (u.2.2.2.2.2.2.2.2.2.2.2.1) (u.2.2.2.2.2.2.2.2.2.2.2.2)) := by
  refine zM.of (cc := cX12_firmest) (maxL := 3) (rt := (some .int)) (by decide) rfl (Nat.le_of_ble_eq_true rfl) ?_
  intro p e s m args below meth c A ls St hr hlocks hin hK hT hA hP hD hS hl
  obtain ⟨hx, hb, hml, hown, hts⟩ := id St
  have hl : lv_has ls 3 [(0, .ref o)] := hl
  refine lv_aload_n hx hb dX12_firmest_0 rfl (lv_at hl 0 rfl) ?_
  refine lv_iconst (v := 0) hx hb dX12_firmest_1 (by decide) ?_
  refine va_put (D := g.1) (ci := 10) (v := .int 0) (ty := .int) (C := RX12) (T := TX12) (N := 20) hx hb hts izRX12 tyX12 tyX12_ok nmX12 hown hK hP hD hS 0 rfl rfl 0 (by decide) (hts _ k825) (fun _ h9 => h9) rfl (by decide +kernel) rfl rfl (Nat.le_of_ble_eq_true rfl) dX12_firmest_2 (fun H locs hP hD hS => ?_)
  have hP : va_P g.1 vwCl (List.flatten [[(o, .inr (10, [.int 0, .ref (a 0), .ref (a 1), .int hi, .ref (a 2), .ref (a 3), .int ac, .ref (a 4), .int tp, .int ba, .int en, .int tA, .int fl, .int de, .ref (a 5), .int iD, .int iO, .int tU, .ref (a 6), .ref (a 7)]))], bArr g a f]) H := hP
  have hD : va_D A (List.flatten [[(o, .inr (10, [.int 0, .ref (a 0), .ref (a 1), .int hi, .ref (a 2), .ref (a 3), .int ac, .ref (a 4), .int tp, .int ba, .int en, .int tA, .int fl, .int de, .ref (a 5), .int iD, .int iO, .int tU, .ref (a 6), .ref (a 7)]))], bArr g a f]) := hD
  refine lv_iconst (v := (-1)) hx hb dX12_firmest_5 (by decide) ?_
  refine lv_istore_n (lv' := [(1, .int (-1)), (0, .ref o)]) hx hb dX12_firmest_6 rfl hl (by decide) rfl (fun ls hl => ?_)
  refine lv_iconst (v := 0) hx hb dX12_firmest_7 (by decide) ?_
  refine lv_istore_n (lv' := [(2, .int 0), (1, .int (-1)), (0, .ref o)]) hx hb dX12_firmest_8 rfl hl (by decide) rfl (fun ls hl => ?_)
  refine lv_iload_n hx hb dX12_firmest_9 rfl (lv_at hl 0 rfl) ?_
  refine lv_aload_n hx hb dX12_firmest_10 rfl (lv_at hl 2 rfl) ?_
  refine va_get (D := g.1) (ci := 10) (v := .ref (a 0)) (C := RX12) (T := TX12) (N := 20) hx hb hts izRX12 hown hK hP 0 rfl rfl 1 (by decide) (hts _ k815) (fun _ h9 => h9) rfl dX12_firmest_11 ?_
  refine lv_iconst (v := 3) hx hb dX12_firmest_14 (by decide) ?_
  refine va_iald hx hb hK hP 1 0 rfl rfl (zin rfl) dX12_firmest_15 ?_
  refine ztop (r := (f 0) 3) rfl ?_
  refine ztop (r := 0) hm.1 ?_
  refine lv_icmp_ge (tgt := 55) hx hb dX12_firmest_16 (by decide) (fun _ => ?_) (fun c1 => absurd (by decide) c1)
  refine lv_iload_n hx hb dX12_firmest_55 rfl (lv_at hl 1 rfl) ?_
  have hP : va_P g.1 vwCl (List.flatten [bObj g o a 0 hi ac tp ba en tA fl de iD iO tU, bArr g a f]) H := hP
  have hD : va_D A (List.flatten [bObj g o a 0 hi ac tp ba en tA fl de iD iO tU, bArr g a f]) := hD
  obtain ⟨hP, hD⟩ := zord (g := g) (Bs' := [bObj g o a 0 hi ac tp ba en tA fl de iD iO tU]) [0] rfl rfl hP hD
  exact mret_i hx hb hr hlocks hS (Nat.le_of_ble_eq_true rfl) (Nat.le_of_ble_eq_true rfl) dX12_firmest_56 (0, hi, ac, tp, ba, en, tA, fl, de, iD, iO, tU, -1) rfl (⟨rfl, rfl⟩) hP hD
set_option maxRecDepth 100000 in
set_option maxHeartbeats 4000000 in
theorem m_home (l : Launch) (g : zG) (o : Nat) (a : Nat → Nat) (th : Int32) (hi : Int32) (ac : Int32) (tp : Int32) (ba : Int32) (en : Int32) (tA : Int32) (fl : Int32) (de : Int32) (iD : Int32) (iO : Int32) (tU : Int32) (f : Nat → Nat → Int32) (hm : zMo (f 0)) : zM g l yX12_home (Cond.code yX12_home cX12_home 4 (some .int) :: zB) ({ frames := 0, cells := 0, slots := 0, locals := 0 } : Room) [.ref o] [bObj g o a th hi ac tp ba en tA fl de iD iO tU, bArr g a f] (fun u : Int32 × Int32 × Int32 × Int32 × Int32 × Int32 × Int32 × Int32 × Int32 × Int32 × Int32 × Int32 × Int32 => (fun (th2 : Int32) (hi2 : Int32) (ac2 : Int32) (tp2 : Int32) (ba2 : Int32) (en2 : Int32) (tA2 : Int32) (fl2 : Int32) (de2 : Int32) (iD2 : Int32) (iO2 : Int32) (tU2 : Int32) (q : Int32) => some (.int q)) (u.1) (u.2.1) (u.2.2.1) (u.2.2.2.1) (u.2.2.2.2.1) (u.2.2.2.2.2.1) (u.2.2.2.2.2.2.1) (u.2.2.2.2.2.2.2.1) (u.2.2.2.2.2.2.2.2.1) (u.2.2.2.2.2.2.2.2.2.1) (u.2.2.2.2.2.2.2.2.2.2.1) (u.2.2.2.2.2.2.2.2.2.2.2.1) (u.2.2.2.2.2.2.2.2.2.2.2.2)) (fun u : Int32 × Int32 × Int32 × Int32 × Int32 × Int32 × Int32 × Int32 × Int32 × Int32 × Int32 × Int32 × Int32 => (fun (th2 : Int32) (hi2 : Int32) (ac2 : Int32) (tp2 : Int32) (ba2 : Int32) (en2 : Int32) (tA2 : Int32) (fl2 : Int32) (de2 : Int32) (iD2 : Int32) (iO2 : Int32) (tU2 : Int32) (q : Int32) => th2 = 0 ∧ q = -1) (u.1) (u.2.1) (u.2.2.1) (u.2.2.2.1) (u.2.2.2.2.1) (u.2.2.2.2.2.1) (u.2.2.2.2.2.2.1) (u.2.2.2.2.2.2.2.1) (u.2.2.2.2.2.2.2.2.1) (u.2.2.2.2.2.2.2.2.2.1) (u.2.2.2.2.2.2.2.2.2.2.1) (u.2.2.2.2.2.2.2.2.2.2.2.1) (u.2.2.2.2.2.2.2.2.2.2.2.2)) (fun u : Int32 × Int32 × Int32 × Int32 × Int32 × Int32 × Int32 × Int32 × Int32 × Int32 × Int32 × Int32 × Int32 => (fun (th2 : Int32) (hi2 : Int32) (ac2 : Int32) (tp2 : Int32) (ba2 : Int32) (en2 : Int32) (tA2 : Int32) (fl2 : Int32) (de2 : Int32) (iD2 : Int32) (iO2 : Int32) (tU2 : Int32) (q : Int32) => [bObj g o a th2 hi2 ac2 tp2 ba2 en2 tA2 fl2 de2 iD2 iO2 tU2]) (u.1) (u.2.1) (u.2.2.1) (u.2.2.2.1) (u.2.2.2.2.1) (u.2.2.2.2.2.1) (u.2.2.2.2.2.2.1) (u.2.2.2.2.2.2.2.1) (u.2.2.2.2.2.2.2.2.1) (u.2.2.2.2.2.2.2.2.2.1) (u.2.2.2.2.2.2.2.2.2.2.1) (u.2.2.2.2.2.2.2.2.2.2.2.1) (u.2.2.2.2.2.2.2.2.2.2.2.2)) := by
  refine zM.of (cc := cX12_home) (maxL := 4) (rt := (some .int)) (by decide) rfl (Nat.le_of_ble_eq_true rfl) ?_
  intro p e s m args below meth c A ls St hr hlocks hin hK hT hA hP hD hS hl
  obtain ⟨hx, hb, hml, hown, hts⟩ := id St
  have hl : lv_has ls 4 [(0, .ref o)] := hl
  refine lv_aload_n hx hb dX12_home_0 rfl (lv_at hl 0 rfl) ?_
  refine lv_iconst (v := 0) hx hb dX12_home_1 (by decide) ?_
  refine va_put (D := g.1) (ci := 10) (v := .int 0) (ty := .int) (C := RX12) (T := TX12) (N := 20) hx hb hts izRX12 tyX12 tyX12_ok nmX12 hown hK hP hD hS 0 rfl rfl 0 (by decide) (hts _ k825) (fun _ h9 => h9) rfl (by decide +kernel) rfl rfl (Nat.le_of_ble_eq_true rfl) dX12_home_2 (fun H locs hP hD hS => ?_)
  have hP : va_P g.1 vwCl (List.flatten [[(o, .inr (10, [.int 0, .ref (a 0), .ref (a 1), .int hi, .ref (a 2), .ref (a 3), .int ac, .ref (a 4), .int tp, .int ba, .int en, .int tA, .int fl, .int de, .ref (a 5), .int iD, .int iO, .int tU, .ref (a 6), .ref (a 7)]))], bArr g a f]) H := hP
  have hD : va_D A (List.flatten [[(o, .inr (10, [.int 0, .ref (a 0), .ref (a 1), .int hi, .ref (a 2), .ref (a 3), .int ac, .ref (a 4), .int tp, .int ba, .int en, .int tA, .int fl, .int de, .ref (a 5), .int iD, .int iO, .int tU, .ref (a 6), .ref (a 7)]))], bArr g a f]) := hD
  refine lv_iconst (v := (-1)) hx hb dX12_home_5 (by decide) ?_
  refine lv_istore_n (lv' := [(1, .int (-1)), (0, .ref o)]) hx hb dX12_home_6 rfl hl (by decide) rfl (fun ls hl => ?_)
  refine lv_iconst (v := 0) hx hb dX12_home_7 (by decide) ?_
  refine lv_istore_n (lv' := [(2, .int 0), (1, .int (-1)), (0, .ref o)]) hx hb dX12_home_8 rfl hl (by decide) rfl (fun ls hl => ?_)
  refine lv_iload_n hx hb dX12_home_9 rfl (lv_at hl 0 rfl) ?_
  refine lv_aload_n hx hb dX12_home_10 rfl (lv_at hl 2 rfl) ?_
  refine va_get (D := g.1) (ci := 10) (v := .ref (a 0)) (C := RX12) (T := TX12) (N := 20) hx hb hts izRX12 hown hK hP 0 rfl rfl 1 (by decide) (hts _ k815) (fun _ h9 => h9) rfl dX12_home_11 ?_
  refine lv_iconst (v := 3) hx hb dX12_home_14 (by decide) ?_
  refine va_iald hx hb hK hP 1 0 rfl rfl (zin rfl) dX12_home_15 ?_
  refine ztop (r := (f 0) 3) rfl ?_
  refine ztop (r := 0) hm.1 ?_
  refine lv_icmp_ge (tgt := 75) hx hb dX12_home_16 (by decide) (fun _ => ?_) (fun c1 => absurd (by decide) c1)
  refine lv_iload_n hx hb dX12_home_75 rfl (lv_at hl 1 rfl) ?_
  have hP : va_P g.1 vwCl (List.flatten [bObj g o a 0 hi ac tp ba en tA fl de iD iO tU, bArr g a f]) H := hP
  have hD : va_D A (List.flatten [bObj g o a 0 hi ac tp ba en tA fl de iD iO tU, bArr g a f]) := hD
  obtain ⟨hP, hD⟩ := zord (g := g) (Bs' := [bObj g o a 0 hi ac tp ba en tA fl de iD iO tU]) [0] rfl rfl hP hD
  exact mret_i hx hb hr hlocks hS (Nat.le_of_ble_eq_true rfl) (Nat.le_of_ble_eq_true rfl) dX12_home_76 (0, hi, ac, tp, ba, en, tA, fl, de, iD, iO, tU, -1) rfl (⟨rfl, rfl⟩) hP hD
set_option maxRecDepth 100000 in
set_option maxHeartbeats 4000000 in
theorem m_chosen (l : Launch) (g : zG) (o : Nat) (a : Nat → Nat) (th : Int32) (hi : Int32) (ac : Int32) (tp : Int32) (ba : Int32) (en : Int32) (tA : Int32) (fl : Int32) (de : Int32) (iD : Int32) (iO : Int32) (tU : Int32) (f : Nat → Nat → Int32) (n1 : Int32) (hm : zMo (f 0)) : zM g l yX12_chosen (Cond.code yX12_chosen cX12_chosen 5 (some .int) :: zB) ({ frames := 1, cells := 0, slots := 0, locals := 24 } : Room) [.ref o, .int n1] [bObj g o a th hi ac tp ba en tA fl de iD iO tU, bArr g a f] (fun u : Int32 × Int32 × Int32 × Int32 × Int32 × Int32 × Int32 × Int32 × Int32 × Int32 × Int32 × Int32 × Int32 => (fun (th2 : Int32) (hi2 : Int32) (ac2 : Int32) (tp2 : Int32) (ba2 : Int32) (en2 : Int32) (tA2 : Int32) (fl2 : Int32) (de2 : Int32) (iD2 : Int32) (iO2 : Int32) (tU2 : Int32) (q : Int32) => some (.int q)) (u.1) (u.2.1) (u.2.2.1) (u.2.2.2.1) (u.2.2.2.2.1) (u.2.2.2.2.2.1) (u.2.2.2.2.2.2.1) (u.2.2.2.2.2.2.2.1) (u.2.2.2.2.2.2.2.2.1) (u.2.2.2.2.2.2.2.2.2.1) (u.2.2.2.2.2.2.2.2.2.2.1) (u.2.2.2.2.2.2.2.2.2.2.2.1) (u.2.2.2.2.2.2.2.2.2.2.2.2)) (fun u : Int32 × Int32 × Int32 × Int32 × Int32 × Int32 × Int32 × Int32 × Int32 × Int32 × Int32 × Int32 × Int32 => (fun (th2 : Int32) (hi2 : Int32) (ac2 : Int32) (tp2 : Int32) (ba2 : Int32) (en2 : Int32) (tA2 : Int32) (fl2 : Int32) (de2 : Int32) (iD2 : Int32) (iO2 : Int32) (tU2 : Int32) (q : Int32) => th2 = 0 ∧ q = 0) (u.1) (u.2.1) (u.2.2.1) (u.2.2.2.1) (u.2.2.2.2.1) (u.2.2.2.2.2.1) (u.2.2.2.2.2.2.1) (u.2.2.2.2.2.2.2.1) (u.2.2.2.2.2.2.2.2.1) (u.2.2.2.2.2.2.2.2.2.1) (u.2.2.2.2.2.2.2.2.2.2.1) (u.2.2.2.2.2.2.2.2.2.2.2.1) (u.2.2.2.2.2.2.2.2.2.2.2.2)) (fun u : Int32 × Int32 × Int32 × Int32 × Int32 × Int32 × Int32 × Int32 × Int32 × Int32 × Int32 × Int32 × Int32 => (fun (th2 : Int32) (hi2 : Int32) (ac2 : Int32) (tp2 : Int32) (ba2 : Int32) (en2 : Int32) (tA2 : Int32) (fl2 : Int32) (de2 : Int32) (iD2 : Int32) (iO2 : Int32) (tU2 : Int32) (q : Int32) => [bObj g o a th2 hi2 ac2 tp2 ba2 en2 tA2 fl2 de2 iD2 iO2 tU2]) (u.1) (u.2.1) (u.2.2.1) (u.2.2.2.1) (u.2.2.2.2.1) (u.2.2.2.2.2.1) (u.2.2.2.2.2.2.1) (u.2.2.2.2.2.2.2.1) (u.2.2.2.2.2.2.2.2.1) (u.2.2.2.2.2.2.2.2.2.1) (u.2.2.2.2.2.2.2.2.2.2.1) (u.2.2.2.2.2.2.2.2.2.2.2.1) (u.2.2.2.2.2.2.2.2.2.2.2.2)) := by
  refine zM.of (cc := cX12_chosen) (maxL := 5) (rt := (some .int)) (by decide) rfl (Nat.le_of_ble_eq_true rfl) ?_
  intro p e s m args below meth c A ls St hr hlocks hin hK hT hA hP hD hS hl
  obtain ⟨hx, hb, hml, hown, hts⟩ := id St
  have hl : lv_has ls 5 [(0, .ref o), (1, .int n1)] := hl
  refine lv_aload_n hx hb dX12_chosen_0 rfl (lv_at hl 0 rfl) ?_
  refine lv_iconst (v := 0) hx hb dX12_chosen_1 (by decide) ?_
  refine va_put (D := g.1) (ci := 10) (v := .int 0) (ty := .int) (C := RX12) (T := TX12) (N := 20) hx hb hts izRX12 tyX12 tyX12_ok nmX12 hown hK hP hD hS 0 rfl rfl 0 (by decide) (hts _ k825) (fun _ h9 => h9) rfl (by decide +kernel) rfl rfl (Nat.le_of_ble_eq_true rfl) dX12_chosen_2 (fun H locs hP hD hS => ?_)
  have hP : va_P g.1 vwCl (List.flatten [[(o, .inr (10, [.int 0, .ref (a 0), .ref (a 1), .int hi, .ref (a 2), .ref (a 3), .int ac, .ref (a 4), .int tp, .int ba, .int en, .int tA, .int fl, .int de, .ref (a 5), .int iD, .int iO, .int tU, .ref (a 6), .ref (a 7)]))], bArr g a f]) H := hP
  have hD : va_D A (List.flatten [[(o, .inr (10, [.int 0, .ref (a 0), .ref (a 1), .int hi, .ref (a 2), .ref (a 3), .int ac, .ref (a 4), .int tp, .int ba, .int en, .int tA, .int fl, .int de, .ref (a 5), .int iD, .int iO, .int tU, .ref (a 6), .ref (a 7)]))], bArr g a f]) := hD
  refine lv_iconst (v := 0) hx hb dX12_chosen_5 (by decide) ?_
  refine lv_istore_n (lv' := [(2, .int 0), (0, .ref o), (1, .int n1)]) hx hb dX12_chosen_6 rfl hl (by decide) rfl (fun ls hl => ?_)
  refine lv_iconst (v := 0) hx hb dX12_chosen_7 (by decide) ?_
  refine lv_istore_n (lv' := [(3, .int 0), (2, .int 0), (0, .ref o), (1, .int n1)]) hx hb dX12_chosen_8 rfl hl (by decide) rfl (fun ls hl => ?_)
  refine lv_iload_n hx hb dX12_chosen_9 rfl (lv_at hl 0 rfl) ?_
  refine lv_aload_n hx hb dX12_chosen_10 rfl (lv_at hl 2 rfl) ?_
  refine va_get (D := g.1) (ci := 10) (v := .ref (a 0)) (C := RX12) (T := TX12) (N := 20) hx hb hts izRX12 hown hK hP 0 rfl rfl 1 (by decide) (hts _ k815) (fun _ h9 => h9) rfl dX12_chosen_11 ?_
  refine lv_iconst (v := 4) hx hb dX12_chosen_14 (by decide) ?_
  refine va_iald hx hb hK hP 1 0 rfl rfl (zin rfl) dX12_chosen_15 ?_
  refine ztop (r := (f 0) 4) rfl ?_
  refine ztop (r := 0) hm.2.1 ?_
  refine lv_icmp_ge (tgt := 57) hx hb dX12_chosen_16 (by decide) (fun _ => ?_) (fun c1 => absurd (by decide) c1)
  refine lv_iconst (v := 0) hx hb dX12_chosen_57 (by decide) ?_
  refine lv_istore_n (lv' := [(3, .int 0), (2, .int 0), (0, .ref o), (1, .int n1)]) hx hb dX12_chosen_58 rfl hl (by decide) rfl (fun ls hl => ?_)
  refine lv_iconst (v := 0) hx hb dX12_chosen_59 (by decide) ?_
  refine lv_istore (lv' := [(4, .int 0), (3, .int 0), (2, .int 0), (0, .ref o), (1, .int n1)]) hx hb dX12_chosen_60 hl (by decide) rfl (fun ls hl => ?_)
  refine lv_iload hx hb dX12_chosen_62 (lv_at hl 0 rfl) ?_
  refine lv_iconst (v := 1) hx hb dX12_chosen_64 (by decide) ?_
  refine lv_aload_n hx hb dX12_chosen_65 rfl (lv_at hl 3 rfl) ?_
  refine va_get (D := g.1) (ci := 10) (v := .ref (a 0)) (C := RX12) (T := TX12) (N := 20) hx hb hts izRX12 hown hK hP 0 rfl rfl 1 (by decide) (hts _ k815) (fun _ h9 => h9) rfl dX12_chosen_66 ?_
  refine lv_iconst (v := 4) hx hb dX12_chosen_69 (by decide) ?_
  refine va_iald hx hb hK hP 1 0 rfl rfl (zin rfl) dX12_chosen_70 ?_
  refine ztop (r := (f 0) 4) rfl ?_
  refine ztop (r := 0) hm.2.1 ?_
  refine lv_ishl hx hb dX12_chosen_71 ?_
  refine ztop (r := 1) (by decide) ?_
  refine lv_icmp_ge (tgt := 125) hx hb dX12_chosen_72 (by decide) (fun c2 => absurd c2 (by decide)) (fun _ => ?_)
  refine lv_iload hx hb dX12_chosen_75 (lv_at hl 0 rfl) ?_
  refine lv_iload_n hx hb dX12_chosen_77 rfl (lv_at hl 2 rfl) ?_
  refine lv_iconst (v := (-1)) hx hb dX12_chosen_78 (by decide) ?_
  refine lv_ixor hx hb dX12_chosen_79 ?_
  refine ztop (r := (-1)) (by decide) ?_
  refine lv_iand hx hb dX12_chosen_80 ?_
  refine ztop (r := 0) (by decide) ?_
  refine lv_if_ne (tgt := 119) hx hb dX12_chosen_81 (by decide) (fun c3 => absurd (by decide) c3) (fun _ => ?_)
  refine lv_aload_n hx hb dX12_chosen_84 rfl (lv_at hl 3 rfl) ?_
  refine lv_iload hx hb dX12_chosen_85 (lv_at hl 0 rfl) ?_
  refine lv_iconst (v := 0) hx hb dX12_chosen_87 (by decide) ?_
  refine mcallV (g := g) (q0 := 0) (ci := 10) (As := [.int 0, .int 0]) (rest := []) St hK hT hA hP hD hS hl.1 [0, 1] [] rfl rfl rfl (m_sumOf l g o a 0 hi ac tp ba en tA fl de iD iO tU f 0 0 (by assumption)) (cwV 2 hts (zgL (zl4 k1083 k1084 k1085 k833) k1082) rfl rfl rfl (by decide +kernel) ⟨Nat.le_of_ble_eq_true rfl, Nat.le_of_ble_eq_true rfl⟩) rfl rfl rfl rfl (Nat.le_of_ble_eq_true rfl) dX12_chosen_88 ⟨(Nat.le_of_ble_eq_true rfl), (Nat.le_of_ble_eq_true rfl)⟩ (fun _u H locs hq4 hP hD hS => ?_)
  have hP : va_P g.1 vwCl (List.flatten [bObj g o a 0 hi ac tp ba en tA fl de iD iO tU, bArr g a f]) H := hP
  have hD : va_D A (List.flatten [bObj g o a 0 hi ac tp ba en tA fl de iD iO tU, bArr g a f]) := hD
  refine W.widen (k := 0) (n := 0) (Nat.le_of_ble_eq_true rfl) (Nat.le_of_ble_eq_true rfl) ?_
  refine W.eq (g2 := F0 m 91 ls [.int 0]) rfl ?_
  refine lv_aload_n hx hb dX12_chosen_91 rfl (lv_at hl 3 rfl) ?_
  refine va_get (D := g.1) (ci := 10) (v := .ref (a 0)) (C := RX12) (T := TX12) (N := 20) hx hb hts izRX12 hown hK hP 0 rfl rfl 1 (by decide) (hts _ k815) (fun _ h9 => h9) rfl dX12_chosen_92 ?_
  refine lv_iconst (v := 5) hx hb dX12_chosen_95 (by decide) ?_
  refine va_iald hx hb hK hP 1 0 rfl rfl (zin rfl) dX12_chosen_96 ?_
  refine ztop (r := (f 0) 5) rfl ?_
  refine ztop (r := 20) hm.2.2.2.2.1 ?_
  refine lv_icmp_gt (tgt := 119) hx hb dX12_chosen_97 (by decide) (fun c5 => absurd c5 (by decide)) (fun _ => ?_)
  refine lv_aload_n hx hb dX12_chosen_100 rfl (lv_at hl 3 rfl) ?_
  refine lv_iload hx hb dX12_chosen_101 (lv_at hl 0 rfl) ?_
  refine lv_iconst (v := 2) hx hb dX12_chosen_103 (by decide) ?_
  refine mcallV (g := g) (q0 := 0) (ci := 10) (As := [.int 0, .int 2]) (rest := []) St hK hT hA hP hD hS hl.1 [0, 1] [] rfl rfl rfl (m_sumOf l g o a 0 hi ac tp ba en tA fl de iD iO tU f 0 2 (by assumption)) (cwV 2 hts (zgL (zl4 k1083 k1084 k1085 k833) k1082) rfl rfl rfl (by decide +kernel) ⟨Nat.le_of_ble_eq_true rfl, Nat.le_of_ble_eq_true rfl⟩) rfl rfl rfl rfl (Nat.le_of_ble_eq_true rfl) dX12_chosen_104 ⟨(Nat.le_of_ble_eq_true rfl), (Nat.le_of_ble_eq_true rfl)⟩ (fun _u H locs hq6 hP hD hS => ?_)
  have hP : va_P g.1 vwCl (List.flatten [bObj g o a 0 hi ac tp ba en tA fl de iD iO tU, bArr g a f]) H := hP
  have hD : va_D A (List.flatten [bObj g o a 0 hi ac tp ba en tA fl de iD iO tU, bArr g a f]) := hD
  refine W.widen (k := 0) (n := 0) (Nat.le_of_ble_eq_true rfl) (Nat.le_of_ble_eq_true rfl) ?_
  refine W.eq (g2 := F0 m 107 ls [.int 0]) rfl ?_
  refine lv_aload_n hx hb dX12_chosen_107 rfl (lv_at hl 3 rfl) ?_
  refine lv_iload_n hx hb dX12_chosen_108 rfl (lv_at hl 1 rfl) ?_
  refine lv_iconst (v := 2) hx hb dX12_chosen_109 (by decide) ?_
  refine mcallV (g := g) (q0 := 0) (ci := 10) (As := [.int 0, .int 2]) (rest := [.int 0]) St hK hT hA hP hD hS hl.1 [0, 1] [] rfl rfl rfl (m_sumOf l g o a 0 hi ac tp ba en tA fl de iD iO tU f 0 2 (by assumption)) (cwV 2 hts (zgL (zl4 k1083 k1084 k1085 k833) k1082) rfl rfl rfl (by decide +kernel) ⟨Nat.le_of_ble_eq_true rfl, Nat.le_of_ble_eq_true rfl⟩) rfl rfl rfl rfl (Nat.le_of_ble_eq_true rfl) dX12_chosen_110 ⟨(Nat.le_of_ble_eq_true rfl), (Nat.le_of_ble_eq_true rfl)⟩ (fun _u H locs hq7 hP hD hS => ?_)
  have hP : va_P g.1 vwCl (List.flatten [bObj g o a 0 hi ac tp ba en tA fl de iD iO tU, bArr g a f]) H := hP
  have hD : va_D A (List.flatten [bObj g o a 0 hi ac tp ba en tA fl de iD iO tU, bArr g a f]) := hD
  refine W.widen (k := 0) (n := 0) (Nat.le_of_ble_eq_true rfl) (Nat.le_of_ble_eq_true rfl) ?_
  refine W.eq (g2 := F0 m 113 ls [.int 0, .int 0]) rfl ?_
  refine lv_icmp_le (tgt := 119) hx hb dX12_chosen_113 (by decide) (fun _ => ?_) (fun c8 => absurd (by decide) c8)
  refine lv_iinc (v := 1) (lv' := [(4, .int 1), (3, .int 0), (2, .int 0), (0, .ref o), (1, .int n1)]) hx hb dX12_chosen_119 hl (k := 0) rfl (by decide) (by decide) rfl (fun ls hl => ?_)
  refine lv_goto (tgt := 62) hx hb dX12_chosen_122 (by decide) ?_
  refine lv_iload hx hb dX12_chosen_62 (lv_at hl 0 rfl) ?_
  refine lv_iconst (v := 1) hx hb dX12_chosen_64 (by decide) ?_
  refine lv_aload_n hx hb dX12_chosen_65 rfl (lv_at hl 3 rfl) ?_
  refine va_get (D := g.1) (ci := 10) (v := .ref (a 0)) (C := RX12) (T := TX12) (N := 20) hx hb hts izRX12 hown hK hP 0 rfl rfl 1 (by decide) (hts _ k815) (fun _ h9 => h9) rfl dX12_chosen_66 ?_
  refine lv_iconst (v := 4) hx hb dX12_chosen_69 (by decide) ?_
  refine va_iald hx hb hK hP 1 0 rfl rfl (zin rfl) dX12_chosen_70 ?_
  refine ztop (r := (f 0) 4) rfl ?_
  refine ztop (r := 0) hm.2.1 ?_
  refine lv_ishl hx hb dX12_chosen_71 ?_
  refine ztop (r := 1) (by decide) ?_
  refine lv_icmp_ge (tgt := 125) hx hb dX12_chosen_72 (by decide) (fun _ => ?_) (fun c9 => absurd (by decide) c9)
  refine lv_iload_n hx hb dX12_chosen_125 rfl (lv_at hl 4 rfl) ?_
  refine lv_if_eq (tgt := 138) hx hb dX12_chosen_126 (by decide) (fun c10 => ?_) (fun c10 => ?_)
  · skip
    refine lv_iload_n hx hb dX12_chosen_138 rfl (lv_at hl 1 rfl) ?_
    have hP : va_P g.1 vwCl (List.flatten [bObj g o a 0 hi ac tp ba en tA fl de iD iO tU, bArr g a f]) H := hP
    have hD : va_D A (List.flatten [bObj g o a 0 hi ac tp ba en tA fl de iD iO tU, bArr g a f]) := hD
    obtain ⟨hP, hD⟩ := zord (g := g) (Bs' := [bObj g o a 0 hi ac tp ba en tA fl de iD iO tU]) [0] rfl rfl hP hD
    exact mret_i hx hb hr hlocks hS (Nat.le_of_ble_eq_true rfl) (Nat.le_of_ble_eq_true rfl) dX12_chosen_139 (0, hi, ac, tp, ba, en, tA, fl, de, iD, iO, tU, 0) rfl (⟨rfl, rfl⟩) hP hD
  · skip
    refine lv_aload_n hx hb dX12_chosen_129 rfl (lv_at hl 3 rfl) ?_
    refine lv_iload_n hx hb dX12_chosen_130 rfl (lv_at hl 1 rfl) ?_
    refine lv_iconst (v := 2) hx hb dX12_chosen_131 (by decide) ?_
    refine mcallV (g := g) (q0 := 0) (ci := 10) (As := [.int 0, .int 2]) (rest := []) St hK hT hA hP hD hS hl.1 [0, 1] [] rfl rfl rfl (m_sumOf l g o a 0 hi ac tp ba en tA fl de iD iO tU f 0 2 (by assumption)) (cwV 2 hts (zgL (zl4 k1083 k1084 k1085 k833) k1082) rfl rfl rfl (by decide +kernel) ⟨Nat.le_of_ble_eq_true rfl, Nat.le_of_ble_eq_true rfl⟩) rfl rfl rfl rfl (Nat.le_of_ble_eq_true rfl) dX12_chosen_132 ⟨(Nat.le_of_ble_eq_true rfl), (Nat.le_of_ble_eq_true rfl)⟩ (fun _u H locs hq11 hP hD hS => ?_)
    have hP : va_P g.1 vwCl (List.flatten [bObj g o a 0 hi ac tp ba en tA fl de iD iO tU, bArr g a f]) H := hP
    have hD : va_D A (List.flatten [bObj g o a 0 hi ac tp ba en tA fl de iD iO tU, bArr g a f]) := hD
    refine W.widen (k := 0) (n := 0) (Nat.le_of_ble_eq_true rfl) (Nat.le_of_ble_eq_true rfl) ?_
    refine W.eq (g2 := F0 m 135 ls [.int 0]) rfl ?_
    refine lv_goto (tgt := 139) hx hb dX12_chosen_135 (by decide) ?_
    have hP : va_P g.1 vwCl (List.flatten [bObj g o a 0 hi ac tp ba en tA fl de iD iO tU, bArr g a f]) H := hP
    have hD : va_D A (List.flatten [bObj g o a 0 hi ac tp ba en tA fl de iD iO tU, bArr g a f]) := hD
    obtain ⟨hP, hD⟩ := zord (g := g) (Bs' := [bObj g o a 0 hi ac tp ba en tA fl de iD iO tU]) [0] rfl rfl hP hD
    exact mret_i hx hb hr hlocks hS (Nat.le_of_ble_eq_true rfl) (Nat.le_of_ble_eq_true rfl) dX12_chosen_139 (0, hi, ac, tp, ba, en, tA, fl, de, iD, iO, tU, 0) rfl (⟨rfl, rfl⟩) hP hD
set_option maxRecDepth 100000 in
set_option maxHeartbeats 4000000 in
theorem m_fault (l : Launch) (g : zG) (o : Nat) (a : Nat → Nat) (th : Int32) (hi : Int32) (ac : Int32) (tp : Int32) (ba : Int32) (en : Int32) (tA : Int32) (de : Int32) (iD : Int32) (iO : Int32) (tU : Int32) (f : Nat → Nat → Int32) (hm : zMo (f 0)) : zM g l yX12_fault (Cond.code yX12_fault cX12_fault 1 (some .int) :: zB) ({ frames := 0, cells := 0, slots := 0, locals := 0 } : Room) [.ref o] [bObj g o a th hi ac tp ba en tA (-1) de iD iO tU, bArr g a f] (fun u : Int32 × Int32 × Int32 × Int32 × Int32 × Int32 × Int32 × Int32 × Int32 × Int32 × Int32 × Int32 × Int32 => (fun (th2 : Int32) (hi2 : Int32) (ac2 : Int32) (tp2 : Int32) (ba2 : Int32) (en2 : Int32) (tA2 : Int32) (fl2 : Int32) (de2 : Int32) (iD2 : Int32) (iO2 : Int32) (tU2 : Int32) (q : Int32) => some (.int q)) (u.1) (u.2.1) (u.2.2.1) (u.2.2.2.1) (u.2.2.2.2.1) (u.2.2.2.2.2.1) (u.2.2.2.2.2.2.1) (u.2.2.2.2.2.2.2.1) (u.2.2.2.2.2.2.2.2.1) (u.2.2.2.2.2.2.2.2.2.1) (u.2.2.2.2.2.2.2.2.2.2.1) (u.2.2.2.2.2.2.2.2.2.2.2.1) (u.2.2.2.2.2.2.2.2.2.2.2.2)) (fun u : Int32 × Int32 × Int32 × Int32 × Int32 × Int32 × Int32 × Int32 × Int32 × Int32 × Int32 × Int32 × Int32 => (fun (th2 : Int32) (hi2 : Int32) (ac2 : Int32) (tp2 : Int32) (ba2 : Int32) (en2 : Int32) (tA2 : Int32) (fl2 : Int32) (de2 : Int32) (iD2 : Int32) (iO2 : Int32) (tU2 : Int32) (q : Int32) => th2 = 0 ∧ q = -1) (u.1) (u.2.1) (u.2.2.1) (u.2.2.2.1) (u.2.2.2.2.1) (u.2.2.2.2.2.1) (u.2.2.2.2.2.2.1) (u.2.2.2.2.2.2.2.1) (u.2.2.2.2.2.2.2.2.1) (u.2.2.2.2.2.2.2.2.2.1) (u.2.2.2.2.2.2.2.2.2.2.1) (u.2.2.2.2.2.2.2.2.2.2.2.1) (u.2.2.2.2.2.2.2.2.2.2.2.2)) (fun u : Int32 × Int32 × Int32 × Int32 × Int32 × Int32 × Int32 × Int32 × Int32 × Int32 × Int32 × Int32 × Int32 => (fun (th2 : Int32) (hi2 : Int32) (ac2 : Int32) (tp2 : Int32) (ba2 : Int32) (en2 : Int32) (tA2 : Int32) (fl2 : Int32) (de2 : Int32) (iD2 : Int32) (iO2 : Int32) (tU2 : Int32) (q : Int32) => [bObj g o a th2 hi2 ac2 tp2 ba2 en2 tA2 fl2 de2 iD2 iO2 tU2]) (u.1) (u.2.1) (u.2.2.1) (u.2.2.2.1) (u.2.2.2.2.1) (u.2.2.2.2.2.1) (u.2.2.2.2.2.2.1) (u.2.2.2.2.2.2.2.1) (u.2.2.2.2.2.2.2.2.1) (u.2.2.2.2.2.2.2.2.2.1) (u.2.2.2.2.2.2.2.2.2.2.1) (u.2.2.2.2.2.2.2.2.2.2.2.1) (u.2.2.2.2.2.2.2.2.2.2.2.2)) := by
  refine zM.of (cc := cX12_fault) (maxL := 1) (rt := (some .int)) (by decide) rfl (Nat.le_of_ble_eq_true rfl) ?_
  intro p e s m args below meth c A ls St hr hlocks hin hK hT hA hP hD hS hl
  obtain ⟨hx, hb, hml, hown, hts⟩ := id St
  have hl : lv_has ls 1 [(0, .ref o)] := hl
  refine lv_aload_n hx hb dX12_fault_0 rfl (lv_at hl 0 rfl) ?_
  refine lv_iconst (v := 0) hx hb dX12_fault_1 (by decide) ?_
  refine va_put (D := g.1) (ci := 10) (v := .int 0) (ty := .int) (C := RX12) (T := TX12) (N := 20) hx hb hts izRX12 tyX12 tyX12_ok nmX12 hown hK hP hD hS 0 rfl rfl 0 (by decide) (hts _ k825) (fun _ h9 => h9) rfl (by decide +kernel) rfl rfl (Nat.le_of_ble_eq_true rfl) dX12_fault_2 (fun H locs hP hD hS => ?_)
  have hP : va_P g.1 vwCl (List.flatten [[(o, .inr (10, [.int 0, .ref (a 0), .ref (a 1), .int hi, .ref (a 2), .ref (a 3), .int ac, .ref (a 4), .int tp, .int ba, .int en, .int tA, .int (-1), .int de, .ref (a 5), .int iD, .int iO, .int tU, .ref (a 6), .ref (a 7)]))], bArr g a f]) H := hP
  have hD : va_D A (List.flatten [[(o, .inr (10, [.int 0, .ref (a 0), .ref (a 1), .int hi, .ref (a 2), .ref (a 3), .int ac, .ref (a 4), .int tp, .int ba, .int en, .int tA, .int (-1), .int de, .ref (a 5), .int iD, .int iO, .int tU, .ref (a 6), .ref (a 7)]))], bArr g a f]) := hD
  refine lv_aload_n hx hb dX12_fault_5 rfl (lv_at hl 0 rfl) ?_
  refine va_get (D := g.1) (ci := 10) (v := .int (-1)) (C := RX12) (T := TX12) (N := 20) hx hb hts izRX12 hown hK hP 0 rfl rfl 12 (by decide) (hts _ k820) (fun _ h9 => h9) rfl dX12_fault_6 ?_
  have hP : va_P g.1 vwCl (List.flatten [bObj g o a 0 hi ac tp ba en tA (-1) de iD iO tU, bArr g a f]) H := hP
  have hD : va_D A (List.flatten [bObj g o a 0 hi ac tp ba en tA (-1) de iD iO tU, bArr g a f]) := hD
  obtain ⟨hP, hD⟩ := zord (g := g) (Bs' := [bObj g o a 0 hi ac tp ba en tA (-1) de iD iO tU]) [0] rfl rfl hP hD
  exact mret_i hx hb hr hlocks hS (Nat.le_of_ble_eq_true rfl) (Nat.le_of_ble_eq_true rfl) dX12_fault_9 (0, hi, ac, tp, ba, en, tA, -1, de, iD, iO, tU, -1) rfl (⟨rfl, rfl⟩) hP hD
set_option maxRecDepth 100000 in
set_option maxHeartbeats 4000000 in
theorem m_seed (l : Launch) (g : zG) (o : Nat) (a : Nat → Nat) (th : Int32) (hi : Int32) (ac : Int32) (tp : Int32) (ba : Int32) (en : Int32) (tA : Int32) (fl : Int32) (de : Int32) (iD : Int32) (iO : Int32) (tU : Int32) (f : Nat → Nat → Int32) (n1 : Int32) (hm : zMo (f 0)) : zM g l yX12_seed (Cond.code yX12_seed cX12_seed 3 (some .int) :: zB) ({ frames := 0, cells := 0, slots := 0, locals := 0 } : Room) [.ref o, .int n1] [bObj g o a th hi ac tp ba en tA fl de iD iO tU, bArr g a f] (fun u : Int32 × Int32 × Int32 × Int32 × Int32 × Int32 × Int32 × Int32 × Int32 × Int32 × Int32 × Int32 × Int32 => (fun (th2 : Int32) (hi2 : Int32) (ac2 : Int32) (tp2 : Int32) (ba2 : Int32) (en2 : Int32) (tA2 : Int32) (fl2 : Int32) (de2 : Int32) (iD2 : Int32) (iO2 : Int32) (tU2 : Int32) (q : Int32) => some (.int q)) (u.1) (u.2.1) (u.2.2.1) (u.2.2.2.1) (u.2.2.2.2.1) (u.2.2.2.2.2.1) (u.2.2.2.2.2.2.1) (u.2.2.2.2.2.2.2.1) (u.2.2.2.2.2.2.2.2.1) (u.2.2.2.2.2.2.2.2.2.1) (u.2.2.2.2.2.2.2.2.2.2.1) (u.2.2.2.2.2.2.2.2.2.2.2.1) (u.2.2.2.2.2.2.2.2.2.2.2.2)) (fun u : Int32 × Int32 × Int32 × Int32 × Int32 × Int32 × Int32 × Int32 × Int32 × Int32 × Int32 × Int32 × Int32 => (fun (th2 : Int32) (hi2 : Int32) (ac2 : Int32) (tp2 : Int32) (ba2 : Int32) (en2 : Int32) (tA2 : Int32) (fl2 : Int32) (de2 : Int32) (iD2 : Int32) (iO2 : Int32) (tU2 : Int32) (q : Int32) => th2 = 0 ∧ q = f 0 10) (u.1) (u.2.1) (u.2.2.1) (u.2.2.2.1) (u.2.2.2.2.1) (u.2.2.2.2.2.1) (u.2.2.2.2.2.2.1) (u.2.2.2.2.2.2.2.1) (u.2.2.2.2.2.2.2.2.1) (u.2.2.2.2.2.2.2.2.2.1) (u.2.2.2.2.2.2.2.2.2.2.1) (u.2.2.2.2.2.2.2.2.2.2.2.1) (u.2.2.2.2.2.2.2.2.2.2.2.2)) (fun u : Int32 × Int32 × Int32 × Int32 × Int32 × Int32 × Int32 × Int32 × Int32 × Int32 × Int32 × Int32 × Int32 => (fun (th2 : Int32) (hi2 : Int32) (ac2 : Int32) (tp2 : Int32) (ba2 : Int32) (en2 : Int32) (tA2 : Int32) (fl2 : Int32) (de2 : Int32) (iD2 : Int32) (iO2 : Int32) (tU2 : Int32) (q : Int32) => [bObj g o a th2 hi2 ac2 tp2 ba2 en2 tA2 fl2 de2 iD2 iO2 tU2]) (u.1) (u.2.1) (u.2.2.1) (u.2.2.2.1) (u.2.2.2.2.1) (u.2.2.2.2.2.1) (u.2.2.2.2.2.2.1) (u.2.2.2.2.2.2.2.1) (u.2.2.2.2.2.2.2.2.1) (u.2.2.2.2.2.2.2.2.2.1) (u.2.2.2.2.2.2.2.2.2.2.1) (u.2.2.2.2.2.2.2.2.2.2.2.1) (u.2.2.2.2.2.2.2.2.2.2.2.2)) := by
  refine zM.of (cc := cX12_seed) (maxL := 3) (rt := (some .int)) (by decide) rfl (Nat.le_of_ble_eq_true rfl) ?_
  intro p e s m args below meth c A ls St hr hlocks hin hK hT hA hP hD hS hl
  obtain ⟨hx, hb, hml, hown, hts⟩ := id St
  have hl : lv_has ls 3 [(0, .ref o), (1, .int n1)] := hl
  refine lv_aload_n hx hb dX12_seed_0 rfl (lv_at hl 0 rfl) ?_
  refine lv_iconst (v := 0) hx hb dX12_seed_1 (by decide) ?_
  refine va_put (D := g.1) (ci := 10) (v := .int 0) (ty := .int) (C := RX12) (T := TX12) (N := 20) hx hb hts izRX12 tyX12 tyX12_ok nmX12 hown hK hP hD hS 0 rfl rfl 0 (by decide) (hts _ k825) (fun _ h9 => h9) rfl (by decide +kernel) rfl rfl (Nat.le_of_ble_eq_true rfl) dX12_seed_2 (fun H locs hP hD hS => ?_)
  have hP : va_P g.1 vwCl (List.flatten [[(o, .inr (10, [.int 0, .ref (a 0), .ref (a 1), .int hi, .ref (a 2), .ref (a 3), .int ac, .ref (a 4), .int tp, .int ba, .int en, .int tA, .int fl, .int de, .ref (a 5), .int iD, .int iO, .int tU, .ref (a 6), .ref (a 7)]))], bArr g a f]) H := hP
  have hD : va_D A (List.flatten [[(o, .inr (10, [.int 0, .ref (a 0), .ref (a 1), .int hi, .ref (a 2), .ref (a 3), .int ac, .ref (a 4), .int tp, .int ba, .int en, .int tA, .int fl, .int de, .ref (a 5), .int iD, .int iO, .int tU, .ref (a 6), .ref (a 7)]))], bArr g a f]) := hD
  refine lv_aload_n hx hb dX12_seed_5 rfl (lv_at hl 0 rfl) ?_
  refine va_get (D := g.1) (ci := 10) (v := .ref (a 0)) (C := RX12) (T := TX12) (N := 20) hx hb hts izRX12 hown hK hP 0 rfl rfl 1 (by decide) (hts _ k815) (fun _ h9 => h9) rfl dX12_seed_6 ?_
  refine lv_bipush (v := 10) hx hb dX12_seed_9 (by decide) ?_
  refine va_iald hx hb hK hP 1 0 rfl rfl (zin rfl) dX12_seed_11 ?_
  refine ztop (r := (f 0) 10) rfl ?_
  refine lv_istore_n (lv' := [(2, .int ((f 0) 10)), (0, .ref o), (1, .int n1)]) hx hb dX12_seed_12 rfl hl (by decide) rfl (fun ls hl => ?_)
  refine lv_aload_n hx hb dX12_seed_13 rfl (lv_at hl 1 rfl) ?_
  refine va_get (D := g.1) (ci := 10) (v := .ref (a 0)) (C := RX12) (T := TX12) (N := 20) hx hb hts izRX12 hown hK hP 0 rfl rfl 1 (by decide) (hts _ k815) (fun _ h9 => h9) rfl dX12_seed_14 ?_
  refine lv_bipush (v := 10) hx hb dX12_seed_17 (by decide) ?_
  refine lv_iload_n hx hb dX12_seed_19 rfl (lv_at hl 2 rfl) ?_
  refine va_iast hx hb hK hP hD hS 1 0 rfl rfl (zin rfl) dX12_seed_20 (fun H locs hP hD hS => ?_)
  have hP : va_P g.1 vwCl (List.flatten [[(o, .inr (10, [.int 0, .ref (a 0), .ref (a 1), .int hi, .ref (a 2), .ref (a 3), .int ac, .ref (a 4), .int tp, .int ba, .int en, .int tA, .int fl, .int de, .ref (a 5), .int iD, .int iO, .int tU, .ref (a 6), .ref (a 7)]))], [(a 0, .inl (g.2 0, 779, .inl (upd (f 0) 10 n1))), (a 1, .inl (g.2 0, 779, .inl (f 1))), (a 2, .inl (g.2 0, 379, .inl (f 2))), (a 3, .inl (g.2 0, 4548, .inl (f 3))), (a 4, .inl (g.2 0, 400, .inl (f 4))), (a 5, .inl (g.2 0, 6, .inl (f 5))), (a 6, .inl (g.2 0, 8, .inl (f 6))), (a 7, .inl (g.2 1, 256, .inl (f 7)))]]) H := hP
  have hD : va_D A (List.flatten [[(o, .inr (10, [.int 0, .ref (a 0), .ref (a 1), .int hi, .ref (a 2), .ref (a 3), .int ac, .ref (a 4), .int tp, .int ba, .int en, .int tA, .int fl, .int de, .ref (a 5), .int iD, .int iO, .int tU, .ref (a 6), .ref (a 7)]))], [(a 0, .inl (g.2 0, 779, .inl (upd (f 0) 10 n1))), (a 1, .inl (g.2 0, 779, .inl (f 1))), (a 2, .inl (g.2 0, 379, .inl (f 2))), (a 3, .inl (g.2 0, 4548, .inl (f 3))), (a 4, .inl (g.2 0, 400, .inl (f 4))), (a 5, .inl (g.2 0, 6, .inl (f 5))), (a 6, .inl (g.2 0, 8, .inl (f 6))), (a 7, .inl (g.2 1, 256, .inl (f 7)))]]) := hD
  refine lv_iload_n hx hb dX12_seed_21 rfl (lv_at hl 0 rfl) ?_
  have hP : va_P g.1 vwCl (List.flatten [bObj g o a 0 hi ac tp ba en tA fl de iD iO tU, [(a 0, .inl (g.2 0, 779, .inl (upd (f 0) 10 n1))), (a 1, .inl (g.2 0, 779, .inl (f 1))), (a 2, .inl (g.2 0, 379, .inl (f 2))), (a 3, .inl (g.2 0, 4548, .inl (f 3))), (a 4, .inl (g.2 0, 400, .inl (f 4))), (a 5, .inl (g.2 0, 6, .inl (f 5))), (a 6, .inl (g.2 0, 8, .inl (f 6))), (a 7, .inl (g.2 1, 256, .inl (f 7)))]]) H := hP
  have hD : va_D A (List.flatten [bObj g o a 0 hi ac tp ba en tA fl de iD iO tU, [(a 0, .inl (g.2 0, 779, .inl (upd (f 0) 10 n1))), (a 1, .inl (g.2 0, 779, .inl (f 1))), (a 2, .inl (g.2 0, 379, .inl (f 2))), (a 3, .inl (g.2 0, 4548, .inl (f 3))), (a 4, .inl (g.2 0, 400, .inl (f 4))), (a 5, .inl (g.2 0, 6, .inl (f 5))), (a 6, .inl (g.2 0, 8, .inl (f 6))), (a 7, .inl (g.2 1, 256, .inl (f 7)))]]) := hD
  obtain ⟨hP, hD⟩ := zord (g := g) (Bs' := [bObj g o a 0 hi ac tp ba en tA fl de iD iO tU]) [0] rfl rfl hP hD
  exact mret_i hx hb hr hlocks hS (Nat.le_of_ble_eq_true rfl) (Nat.le_of_ble_eq_true rfl) dX12_seed_22 (0, hi, ac, tp, ba, en, tA, fl, de, iD, iO, tU, (f 0) 10) rfl (⟨rfl, rfl⟩) hP hD
set_option maxRecDepth 100000 in
set_option maxHeartbeats 4000000 in
theorem m_undo (l : Launch) (g : zG) (o : Nat) (a : Nat → Nat) (th : Int32) (hi : Int32) (tp : Int32) (ba : Int32) (en : Int32) (tA : Int32) (fl : Int32) (de : Int32) (iD : Int32) (iO : Int32) (tU : Int32) (f : Nat → Nat → Int32) (hm : zMo (f 0)) : zM g l yX12_undo (Cond.code yX12_undo cX12_undo 2 (some .boolean) :: zB) ({ frames := 0, cells := 0, slots := 0, locals := 0 } : Room) [.ref o] [bObj g o a th hi 0 tp ba en tA fl de iD iO tU, bArr g a f] (fun u : Int32 × Int32 × Int32 × Int32 × Int32 × Int32 × Int32 × Int32 × Int32 × Int32 × Int32 × Int32 × Int32 => (fun (th2 : Int32) (hi2 : Int32) (ac2 : Int32) (tp2 : Int32) (ba2 : Int32) (en2 : Int32) (tA2 : Int32) (fl2 : Int32) (de2 : Int32) (iD2 : Int32) (iO2 : Int32) (tU2 : Int32) (q : Int32) => some (.int q)) (u.1) (u.2.1) (u.2.2.1) (u.2.2.2.1) (u.2.2.2.2.1) (u.2.2.2.2.2.1) (u.2.2.2.2.2.2.1) (u.2.2.2.2.2.2.2.1) (u.2.2.2.2.2.2.2.2.1) (u.2.2.2.2.2.2.2.2.2.1) (u.2.2.2.2.2.2.2.2.2.2.1) (u.2.2.2.2.2.2.2.2.2.2.2.1) (u.2.2.2.2.2.2.2.2.2.2.2.2)) (fun u : Int32 × Int32 × Int32 × Int32 × Int32 × Int32 × Int32 × Int32 × Int32 × Int32 × Int32 × Int32 × Int32 => (fun (th2 : Int32) (hi2 : Int32) (ac2 : Int32) (tp2 : Int32) (ba2 : Int32) (en2 : Int32) (tA2 : Int32) (fl2 : Int32) (de2 : Int32) (iD2 : Int32) (iO2 : Int32) (tU2 : Int32) (q : Int32) => th2 = 0 ∧ q = 0) (u.1) (u.2.1) (u.2.2.1) (u.2.2.2.1) (u.2.2.2.2.1) (u.2.2.2.2.2.1) (u.2.2.2.2.2.2.1) (u.2.2.2.2.2.2.2.1) (u.2.2.2.2.2.2.2.2.1) (u.2.2.2.2.2.2.2.2.2.1) (u.2.2.2.2.2.2.2.2.2.2.1) (u.2.2.2.2.2.2.2.2.2.2.2.1) (u.2.2.2.2.2.2.2.2.2.2.2.2)) (fun u : Int32 × Int32 × Int32 × Int32 × Int32 × Int32 × Int32 × Int32 × Int32 × Int32 × Int32 × Int32 × Int32 => (fun (th2 : Int32) (hi2 : Int32) (ac2 : Int32) (tp2 : Int32) (ba2 : Int32) (en2 : Int32) (tA2 : Int32) (fl2 : Int32) (de2 : Int32) (iD2 : Int32) (iO2 : Int32) (tU2 : Int32) (q : Int32) => [bObj g o a th2 hi2 ac2 tp2 ba2 en2 tA2 fl2 de2 iD2 iO2 tU2]) (u.1) (u.2.1) (u.2.2.1) (u.2.2.2.1) (u.2.2.2.2.1) (u.2.2.2.2.2.1) (u.2.2.2.2.2.2.1) (u.2.2.2.2.2.2.2.1) (u.2.2.2.2.2.2.2.2.1) (u.2.2.2.2.2.2.2.2.2.1) (u.2.2.2.2.2.2.2.2.2.2.1) (u.2.2.2.2.2.2.2.2.2.2.2.1) (u.2.2.2.2.2.2.2.2.2.2.2.2)) := by
  refine zM.of (cc := cX12_undo) (maxL := 2) (rt := (some .boolean)) (by decide) rfl (Nat.le_of_ble_eq_true rfl) ?_
  intro p e s m args below meth c A ls St hr hlocks hin hK hT hA hP hD hS hl
  obtain ⟨hx, hb, hml, hown, hts⟩ := id St
  have hl : lv_has ls 2 [(0, .ref o)] := hl
  refine lv_aload_n hx hb dX12_undo_0 rfl (lv_at hl 0 rfl) ?_
  refine lv_iconst (v := 0) hx hb dX12_undo_1 (by decide) ?_
  refine va_put (D := g.1) (ci := 10) (v := .int 0) (ty := .int) (C := RX12) (T := TX12) (N := 20) hx hb hts izRX12 tyX12 tyX12_ok nmX12 hown hK hP hD hS 0 rfl rfl 0 (by decide) (hts _ k825) (fun _ h9 => h9) rfl (by decide +kernel) rfl rfl (Nat.le_of_ble_eq_true rfl) dX12_undo_2 (fun H locs hP hD hS => ?_)
  have hP : va_P g.1 vwCl (List.flatten [[(o, .inr (10, [.int 0, .ref (a 0), .ref (a 1), .int hi, .ref (a 2), .ref (a 3), .int 0, .ref (a 4), .int tp, .int ba, .int en, .int tA, .int fl, .int de, .ref (a 5), .int iD, .int iO, .int tU, .ref (a 6), .ref (a 7)]))], bArr g a f]) H := hP
  have hD : va_D A (List.flatten [[(o, .inr (10, [.int 0, .ref (a 0), .ref (a 1), .int hi, .ref (a 2), .ref (a 3), .int 0, .ref (a 4), .int tp, .int ba, .int en, .int tA, .int fl, .int de, .ref (a 5), .int iD, .int iO, .int tU, .ref (a 6), .ref (a 7)]))], bArr g a f]) := hD
  refine lv_aload_n hx hb dX12_undo_5 rfl (lv_at hl 0 rfl) ?_
  refine va_get (D := g.1) (ci := 10) (v := .int 0) (C := RX12) (T := TX12) (N := 20) hx hb hts izRX12 hown hK hP 0 rfl rfl 6 (by decide) (hts _ k967) (fun _ h9 => h9) rfl dX12_undo_6 ?_
  refine lv_if_ne (tgt := 14) hx hb dX12_undo_9 (by decide) (fun c1 => absurd (by decide) c1) (fun _ => ?_)
  refine lv_iconst (v := 0) hx hb dX12_undo_12 (by decide) ?_
  have hP : va_P g.1 vwCl (List.flatten [bObj g o a 0 hi 0 tp ba en tA fl de iD iO tU, bArr g a f]) H := hP
  have hD : va_D A (List.flatten [bObj g o a 0 hi 0 tp ba en tA fl de iD iO tU, bArr g a f]) := hD
  obtain ⟨hP, hD⟩ := zord (g := g) (Bs' := [bObj g o a 0 hi 0 tp ba en tA fl de iD iO tU]) [0] rfl rfl hP hD
  exact mret_z hx hb hr hlocks hS (Nat.le_of_ble_eq_true rfl) (Nat.le_of_ble_eq_true rfl) dX12_undo_13 (0, hi, 0, tp, ba, en, tA, fl, de, iD, iO, tU, 0) rfl (by decide) (⟨rfl, rfl⟩) hP hD
set_option maxRecDepth 100000 in
set_option maxHeartbeats 4000000 in
theorem m_back (l : Launch) (g : zG) (o : Nat) (a : Nat → Nat) (th : Int32) (ac : Int32) (tp : Int32) (ba : Int32) (en : Int32) (tA : Int32) (fl : Int32) (de : Int32) (iD : Int32) (iO : Int32) (tU : Int32) (f : Nat → Nat → Int32) (hm : zMo (f 0)) : zM g l yX12_back (Cond.code yX12_back cX12_back 2 (some .boolean) :: zB) ({ frames := 0, cells := 0, slots := 0, locals := 0 } : Room) [.ref o] [bObj g o a th 0 ac tp ba en tA fl de iD iO tU, bArr g a f] (fun u : Int32 × Int32 × Int32 × Int32 × Int32 × Int32 × Int32 × Int32 × Int32 × Int32 × Int32 × Int32 × Int32 => (fun (th2 : Int32) (hi2 : Int32) (ac2 : Int32) (tp2 : Int32) (ba2 : Int32) (en2 : Int32) (tA2 : Int32) (fl2 : Int32) (de2 : Int32) (iD2 : Int32) (iO2 : Int32) (tU2 : Int32) (q : Int32) => some (.int q)) (u.1) (u.2.1) (u.2.2.1) (u.2.2.2.1) (u.2.2.2.2.1) (u.2.2.2.2.2.1) (u.2.2.2.2.2.2.1) (u.2.2.2.2.2.2.2.1) (u.2.2.2.2.2.2.2.2.1) (u.2.2.2.2.2.2.2.2.2.1) (u.2.2.2.2.2.2.2.2.2.2.1) (u.2.2.2.2.2.2.2.2.2.2.2.1) (u.2.2.2.2.2.2.2.2.2.2.2.2)) (fun u : Int32 × Int32 × Int32 × Int32 × Int32 × Int32 × Int32 × Int32 × Int32 × Int32 × Int32 × Int32 × Int32 => (fun (th2 : Int32) (hi2 : Int32) (ac2 : Int32) (tp2 : Int32) (ba2 : Int32) (en2 : Int32) (tA2 : Int32) (fl2 : Int32) (de2 : Int32) (iD2 : Int32) (iO2 : Int32) (tU2 : Int32) (q : Int32) => th2 = 0 ∧ q = 0) (u.1) (u.2.1) (u.2.2.1) (u.2.2.2.1) (u.2.2.2.2.1) (u.2.2.2.2.2.1) (u.2.2.2.2.2.2.1) (u.2.2.2.2.2.2.2.1) (u.2.2.2.2.2.2.2.2.1) (u.2.2.2.2.2.2.2.2.2.1) (u.2.2.2.2.2.2.2.2.2.2.1) (u.2.2.2.2.2.2.2.2.2.2.2.1) (u.2.2.2.2.2.2.2.2.2.2.2.2)) (fun u : Int32 × Int32 × Int32 × Int32 × Int32 × Int32 × Int32 × Int32 × Int32 × Int32 × Int32 × Int32 × Int32 => (fun (th2 : Int32) (hi2 : Int32) (ac2 : Int32) (tp2 : Int32) (ba2 : Int32) (en2 : Int32) (tA2 : Int32) (fl2 : Int32) (de2 : Int32) (iD2 : Int32) (iO2 : Int32) (tU2 : Int32) (q : Int32) => [bObj g o a th2 hi2 ac2 tp2 ba2 en2 tA2 fl2 de2 iD2 iO2 tU2]) (u.1) (u.2.1) (u.2.2.1) (u.2.2.2.1) (u.2.2.2.2.1) (u.2.2.2.2.2.1) (u.2.2.2.2.2.2.1) (u.2.2.2.2.2.2.2.1) (u.2.2.2.2.2.2.2.2.1) (u.2.2.2.2.2.2.2.2.2.1) (u.2.2.2.2.2.2.2.2.2.2.1) (u.2.2.2.2.2.2.2.2.2.2.2.1) (u.2.2.2.2.2.2.2.2.2.2.2.2)) := by
  refine zM.of (cc := cX12_back) (maxL := 2) (rt := (some .boolean)) (by decide) rfl (Nat.le_of_ble_eq_true rfl) ?_
  intro p e s m args below meth c A ls St hr hlocks hin hK hT hA hP hD hS hl
  obtain ⟨hx, hb, hml, hown, hts⟩ := id St
  have hl : lv_has ls 2 [(0, .ref o)] := hl
  refine lv_aload_n hx hb dX12_back_0 rfl (lv_at hl 0 rfl) ?_
  refine lv_iconst (v := 0) hx hb dX12_back_1 (by decide) ?_
  refine va_put (D := g.1) (ci := 10) (v := .int 0) (ty := .int) (C := RX12) (T := TX12) (N := 20) hx hb hts izRX12 tyX12 tyX12_ok nmX12 hown hK hP hD hS 0 rfl rfl 0 (by decide) (hts _ k825) (fun _ h9 => h9) rfl (by decide +kernel) rfl rfl (Nat.le_of_ble_eq_true rfl) dX12_back_2 (fun H locs hP hD hS => ?_)
  have hP : va_P g.1 vwCl (List.flatten [[(o, .inr (10, [.int 0, .ref (a 0), .ref (a 1), .int 0, .ref (a 2), .ref (a 3), .int ac, .ref (a 4), .int tp, .int ba, .int en, .int tA, .int fl, .int de, .ref (a 5), .int iD, .int iO, .int tU, .ref (a 6), .ref (a 7)]))], bArr g a f]) H := hP
  have hD : va_D A (List.flatten [[(o, .inr (10, [.int 0, .ref (a 0), .ref (a 1), .int 0, .ref (a 2), .ref (a 3), .int ac, .ref (a 4), .int tp, .int ba, .int en, .int tA, .int fl, .int de, .ref (a 5), .int iD, .int iO, .int tU, .ref (a 6), .ref (a 7)]))], bArr g a f]) := hD
  refine lv_aload_n hx hb dX12_back_5 rfl (lv_at hl 0 rfl) ?_
  refine va_get (D := g.1) (ci := 10) (v := .int 0) (C := RX12) (T := TX12) (N := 20) hx hb hts izRX12 hown hK hP 0 rfl rfl 3 (by decide) (hts _ k1146) (fun _ h9 => h9) rfl dX12_back_6 ?_
  refine lv_if_ne (tgt := 14) hx hb dX12_back_9 (by decide) (fun c1 => absurd (by decide) c1) (fun _ => ?_)
  refine lv_iconst (v := 0) hx hb dX12_back_12 (by decide) ?_
  have hP : va_P g.1 vwCl (List.flatten [bObj g o a 0 0 ac tp ba en tA fl de iD iO tU, bArr g a f]) H := hP
  have hD : va_D A (List.flatten [bObj g o a 0 0 ac tp ba en tA fl de iD iO tU, bArr g a f]) := hD
  obtain ⟨hP, hD⟩ := zord (g := g) (Bs' := [bObj g o a 0 0 ac tp ba en tA fl de iD iO tU]) [0] rfl rfl hP hD
  exact mret_z hx hb hr hlocks hS (Nat.le_of_ble_eq_true rfl) (Nat.le_of_ble_eq_true rfl) dX12_back_13 (0, 0, ac, tp, ba, en, tA, fl, de, iD, iO, tU, 0) rfl (by decide) (⟨rfl, rfl⟩) hP hD
set_option maxRecDepth 100000 in
set_option maxHeartbeats 4000000 in
theorem m_count (l : Launch) (g : zG) (o : Nat) (a : Nat → Nat) (th : Int32) (hi : Int32) (tp : Int32) (ba : Int32) (en : Int32) (tA : Int32) (fl : Int32) (de : Int32) (iD : Int32) (iO : Int32) (tU : Int32) (f : Nat → Nat → Int32) (wh : Int32) (hm : zMo (f 0)) (h8 : f 0 8 = 0) : zM g l yX12_count (Cond.code yX12_count cX12_count 2 (some .int) :: zB) ({ frames := 1, cells := 0, slots := 0, locals := 23 } : Room) [.ref o, .int wh] [bObj g o a th hi 0 tp ba en tA fl de iD iO tU, bArr g a f] (fun u : Int32 × Int32 × Int32 × Int32 × Int32 × Int32 × Int32 × Int32 × Int32 × Int32 × Int32 × Int32 × Int32 => (fun (th2 : Int32) (hi2 : Int32) (ac2 : Int32) (tp2 : Int32) (ba2 : Int32) (en2 : Int32) (tA2 : Int32) (fl2 : Int32) (de2 : Int32) (iD2 : Int32) (iO2 : Int32) (tU2 : Int32) (q : Int32) => some (.int q)) (u.1) (u.2.1) (u.2.2.1) (u.2.2.2.1) (u.2.2.2.2.1) (u.2.2.2.2.2.1) (u.2.2.2.2.2.2.1) (u.2.2.2.2.2.2.2.1) (u.2.2.2.2.2.2.2.2.1) (u.2.2.2.2.2.2.2.2.2.1) (u.2.2.2.2.2.2.2.2.2.2.1) (u.2.2.2.2.2.2.2.2.2.2.2.1) (u.2.2.2.2.2.2.2.2.2.2.2.2)) (fun u : Int32 × Int32 × Int32 × Int32 × Int32 × Int32 × Int32 × Int32 × Int32 × Int32 × Int32 × Int32 × Int32 => (fun (th2 : Int32) (hi2 : Int32) (ac2 : Int32) (tp2 : Int32) (ba2 : Int32) (en2 : Int32) (tA2 : Int32) (fl2 : Int32) (de2 : Int32) (iD2 : Int32) (iO2 : Int32) (tU2 : Int32) (q : Int32) => th2 = 0 ∧ q = zcount wh) (u.1) (u.2.1) (u.2.2.1) (u.2.2.2.1) (u.2.2.2.2.1) (u.2.2.2.2.2.1) (u.2.2.2.2.2.2.1) (u.2.2.2.2.2.2.2.1) (u.2.2.2.2.2.2.2.2.1) (u.2.2.2.2.2.2.2.2.2.1) (u.2.2.2.2.2.2.2.2.2.2.1) (u.2.2.2.2.2.2.2.2.2.2.2.1) (u.2.2.2.2.2.2.2.2.2.2.2.2)) (fun u : Int32 × Int32 × Int32 × Int32 × Int32 × Int32 × Int32 × Int32 × Int32 × Int32 × Int32 × Int32 × Int32 => (fun (th2 : Int32) (hi2 : Int32) (ac2 : Int32) (tp2 : Int32) (ba2 : Int32) (en2 : Int32) (tA2 : Int32) (fl2 : Int32) (de2 : Int32) (iD2 : Int32) (iO2 : Int32) (tU2 : Int32) (q : Int32) => [bObj g o a th2 hi2 ac2 tp2 ba2 en2 tA2 fl2 de2 iD2 iO2 tU2]) (u.1) (u.2.1) (u.2.2.1) (u.2.2.2.1) (u.2.2.2.2.1) (u.2.2.2.2.2.1) (u.2.2.2.2.2.2.1) (u.2.2.2.2.2.2.2.1) (u.2.2.2.2.2.2.2.2.1) (u.2.2.2.2.2.2.2.2.2.1) (u.2.2.2.2.2.2.2.2.2.2.1) (u.2.2.2.2.2.2.2.2.2.2.2.1) (u.2.2.2.2.2.2.2.2.2.2.2.2)) := by
  refine zM.of (cc := cX12_count) (maxL := 2) (rt := (some .int)) (by decide) rfl (Nat.le_of_ble_eq_true rfl) ?_
  intro p e s m args below meth c A ls St hr hlocks hin hK hT hA hP hD hS hl
  obtain ⟨hx, hb, hml, hown, hts⟩ := id St
  have hl : lv_has ls 2 [(0, .ref o), (1, .int wh)] := hl
  refine lv_aload_n hx hb dX12_count_0 rfl (lv_at hl 0 rfl) ?_
  refine lv_iconst (v := 0) hx hb dX12_count_1 (by decide) ?_
  refine va_put (D := g.1) (ci := 10) (v := .int 0) (ty := .int) (C := RX12) (T := TX12) (N := 20) hx hb hts izRX12 tyX12 tyX12_ok nmX12 hown hK hP hD hS 0 rfl rfl 0 (by decide) (hts _ k825) (fun _ h9 => h9) rfl (by decide +kernel) rfl rfl (Nat.le_of_ble_eq_true rfl) dX12_count_2 (fun H locs hP hD hS => ?_)
  have hP : va_P g.1 vwCl (List.flatten [[(o, .inr (10, [.int 0, .ref (a 0), .ref (a 1), .int hi, .ref (a 2), .ref (a 3), .int 0, .ref (a 4), .int tp, .int ba, .int en, .int tA, .int fl, .int de, .ref (a 5), .int iD, .int iO, .int tU, .ref (a 6), .ref (a 7)]))], bArr g a f]) H := hP
  have hD : va_D A (List.flatten [[(o, .inr (10, [.int 0, .ref (a 0), .ref (a 1), .int hi, .ref (a 2), .ref (a 3), .int 0, .ref (a 4), .int tp, .int ba, .int en, .int tA, .int fl, .int de, .ref (a 5), .int iD, .int iO, .int tU, .ref (a 6), .ref (a 7)]))], bArr g a f]) := hD
  refine lv_iload_n hx hb dX12_count_5 rfl (lv_at hl 1 rfl) ?_
  refine lv_if_ne (tgt := 16) hx hb dX12_count_6 (by decide) (fun w0 => ?_) (fun w0 => ?_)
  · skip
    refine lv_iload_n hx hb dX12_count_16 rfl (lv_at hl 1 rfl) ?_
    refine lv_iconst (v := 1) hx hb dX12_count_17 (by decide) ?_
    refine lv_icmp_ne (tgt := 28) hx hb dX12_count_18 (by decide) (fun w1 => ?_) (fun w1 => ?_)
    · skip
      refine lv_iload_n hx hb dX12_count_28 rfl (lv_at hl 1 rfl) ?_
      refine lv_iconst (v := 2) hx hb dX12_count_29 (by decide) ?_
      refine lv_icmp_ne (tgt := 40) hx hb dX12_count_30 (by decide) (fun w2 => ?_) (fun w2 => ?_)
      · skip
        refine lv_iload_n hx hb dX12_count_40 rfl (lv_at hl 1 rfl) ?_
        refine lv_iconst (v := 3) hx hb dX12_count_41 (by decide) ?_
        refine lv_icmp_ne (tgt := 52) hx hb dX12_count_42 (by decide) (fun w3 => ?_) (fun w3 => ?_)
        · skip
          refine lv_iload_n hx hb dX12_count_52 rfl (lv_at hl 1 rfl) ?_
          refine lv_iconst (v := 4) hx hb dX12_count_53 (by decide) ?_
          refine lv_icmp_ne (tgt := 65) hx hb dX12_count_54 (by decide) (fun w4 => ?_) (fun w4 => ?_)
          · skip
            refine lv_iload_n hx hb dX12_count_65 rfl (lv_at hl 1 rfl) ?_
            refine lv_iconst (v := 5) hx hb dX12_count_66 (by decide) ?_
            refine lv_icmp_ne (tgt := 77) hx hb dX12_count_67 (by decide) (fun w5 => ?_) (fun w5 => ?_)
            · skip
              refine lv_iload_n hx hb dX12_count_77 rfl (lv_at hl 1 rfl) ?_
              refine lv_bipush (v := 6) hx hb dX12_count_78 (by decide) ?_
              refine lv_icmp_ne (tgt := 88) hx hb dX12_count_80 (by decide) (fun w6 => ?_) (fun w6 => ?_)
              · skip
                refine lv_iload_n hx hb dX12_count_88 rfl (lv_at hl 1 rfl) ?_
                refine lv_bipush (v := 7) hx hb dX12_count_89 (by decide) ?_
                refine lv_icmp_ne (tgt := 99) hx hb dX12_count_91 (by decide) (fun w7 => ?_) (fun w7 => ?_)
                · skip
                  refine lv_iload_n hx hb dX12_count_99 rfl (lv_at hl 1 rfl) ?_
                  refine lv_bipush (v := 8) hx hb dX12_count_100 (by decide) ?_
                  refine lv_bipush (v := 9) hx hb dX12_count_102 (by decide) ?_
                  refine mcallS (g := g) (As := [.int wh, .int 8, .int 9]) (rest := []) St hK hT hA hP hD hS hl.1 [] [0, 1] rfl rfl rfl (m_isIn l g wh 8 9 ) (va_cwS 3 hts (zgL (zl3 k831 k832 k833) k826) rfl rfl rfl (by decide +kernel) ⟨Nat.le_of_ble_eq_true rfl, Nat.le_of_ble_eq_true rfl⟩) rfl rfl (Nat.le_of_ble_eq_true rfl) dX12_count_104 ⟨(Nat.le_of_ble_eq_true rfl), (Nat.le_of_ble_eq_true rfl)⟩ (fun q_9 H locs hq10 hP hD hS => ?_)
                  have hq10 : (q_9 = 1 ∧ ¬ (wh : Int32) < 8 ∧ ¬ 9 < (wh : Int32)) ∨ (q_9 = 0 ∧ ((wh : Int32) < 8 ∨ 9 < (wh : Int32))) := hq10
                  have hP : va_P g.1 vwCl (List.flatten [[(o, .inr (10, [.int 0, .ref (a 0), .ref (a 1), .int hi, .ref (a 2), .ref (a 3), .int 0, .ref (a 4), .int tp, .int ba, .int en, .int tA, .int fl, .int de, .ref (a 5), .int iD, .int iO, .int tU, .ref (a 6), .ref (a 7)]))], bArr g a f]) H := hP
                  have hD : va_D A (List.flatten [[(o, .inr (10, [.int 0, .ref (a 0), .ref (a 1), .int hi, .ref (a 2), .ref (a 3), .int 0, .ref (a 4), .int tp, .int ba, .int en, .int tA, .int fl, .int de, .ref (a 5), .int iD, .int iO, .int tU, .ref (a 6), .ref (a 7)]))], bArr g a f]) := hD
                  refine W.widen (k := 0) (n := 0) (Nat.le_of_ble_eq_true rfl) (Nat.le_of_ble_eq_true rfl) ?_
                  refine W.eq (g2 := F0 m 107 ls [.int q_9]) rfl ?_
                  rcases hq10 with ⟨rfl, hq10c⟩ | ⟨rfl, hq10c⟩
                  · skip
                    refine lv_if_eq (tgt := 119) hx hb dX12_count_107 (by decide) (fun c11 => absurd c11 (by decide)) (fun _ => ?_)
                    refine lv_aload_n hx hb dX12_count_110 rfl (lv_at hl 0 rfl) ?_
                    refine lv_iload_n hx hb dX12_count_111 rfl (lv_at hl 1 rfl) ?_
                    refine lv_bipush (v := 7) hx hb dX12_count_112 (by decide) ?_
                    refine lv_isub hx hb dX12_count_114 ?_
                    refine mcallV (g := g) (q0 := 0) (ci := 10) (As := [.int (wh - 7)]) (rest := []) St hK hT hA hP hD hS hl.1 [0, 1] [] rfl rfl rfl (m_worksOf l g o a 0 hi 0 tp ba en tA fl de iD iO tU f (wh - 7) (by assumption)) (cwV 1 hts (zgL (zl4 k1002 k1003 k1004 k833) k858) rfl rfl rfl (by decide +kernel) ⟨Nat.le_of_ble_eq_true rfl, Nat.le_of_ble_eq_true rfl⟩) rfl rfl rfl rfl (Nat.le_of_ble_eq_true rfl) dX12_count_115 ⟨(Nat.le_of_ble_eq_true rfl), (Nat.le_of_ble_eq_true rfl)⟩ (fun _u H locs hq12 hP hD hS => ?_)
                    have hP : va_P g.1 vwCl (List.flatten [bObj g o a 0 hi 0 tp ba en tA fl de iD iO tU, bArr g a f]) H := hP
                    have hD : va_D A (List.flatten [bObj g o a 0 hi 0 tp ba en tA fl de iD iO tU, bArr g a f]) := hD
                    refine W.widen (k := 0) (n := 0) (Nat.le_of_ble_eq_true rfl) (Nat.le_of_ble_eq_true rfl) ?_
                    refine W.eq (g2 := F0 m 118 ls [.int 0]) rfl ?_
                    have hP : va_P g.1 vwCl (List.flatten [bObj g o a 0 hi 0 tp ba en tA fl de iD iO tU, bArr g a f]) H := hP
                    have hD : va_D A (List.flatten [bObj g o a 0 hi 0 tp ba en tA fl de iD iO tU, bArr g a f]) := hD
                    obtain ⟨hP, hD⟩ := zord (g := g) (Bs' := [bObj g o a 0 hi 0 tp ba en tA fl de iD iO tU]) [0] rfl rfl hP hD
                    exact mret_i hx hb hr hlocks hS (Nat.le_of_ble_eq_true rfl) (Nat.le_of_ble_eq_true rfl) dX12_count_118 (0, hi, 0, tp, ba, en, tA, fl, de, iD, iO, tU, 0) rfl (⟨rfl, zc89 hq10c⟩) hP hD
                  · skip
                    refine lv_if_eq (tgt := 119) hx hb dX12_count_107 (by decide) (fun _ => ?_) (fun c13 => absurd (by decide) c13)
                    refine lv_iload_n hx hb dX12_count_119 rfl (lv_at hl 1 rfl) ?_
                    refine lv_bipush (v := 10) hx hb dX12_count_120 (by decide) ?_
                    refine lv_icmp_ne (tgt := 130) hx hb dX12_count_122 (by decide) (fun w10 => ?_) (fun w10 => ?_)
                    · skip
                      refine lv_iload_n hx hb dX12_count_130 rfl (lv_at hl 1 rfl) ?_
                      refine lv_bipush (v := 11) hx hb dX12_count_131 (by decide) ?_
                      refine lv_icmp_ne (tgt := 144) hx hb dX12_count_133 (by decide) (fun w11 => ?_) (fun w11 => ?_)
                      · skip
                        refine lv_iload_n hx hb dX12_count_144 rfl (lv_at hl 1 rfl) ?_
                        refine lv_bipush (v := 12) hx hb dX12_count_145 (by decide) ?_
                        refine lv_icmp_ne (tgt := 157) hx hb dX12_count_147 (by decide) (fun w12 => ?_) (fun w12 => ?_)
                        · skip
                          refine lv_iconst (v := (-1)) hx hb dX12_count_157 (by decide) ?_
                          have hP : va_P g.1 vwCl (List.flatten [bObj g o a 0 hi 0 tp ba en tA fl de iD iO tU, bArr g a f]) H := hP
                          have hD : va_D A (List.flatten [bObj g o a 0 hi 0 tp ba en tA fl de iD iO tU, bArr g a f]) := hD
                          obtain ⟨hP, hD⟩ := zord (g := g) (Bs' := [bObj g o a 0 hi 0 tp ba en tA fl de iD iO tU]) [0] rfl rfl hP hD
                          exact mret_i hx hb hr hlocks hS (Nat.le_of_ble_eq_true rfl) (Nat.le_of_ble_eq_true rfl) dX12_count_158 (0, hi, 0, tp, ba, en, tA, fl, de, iD, iO, tU, -1) rfl (⟨rfl, zcno w0 w1 w2 w3 w4 w5 w6 w7 hq10c w10 w11 w12⟩) hP hD
                        · skip
                          refine lv_aload_n hx hb dX12_count_150 rfl (lv_at hl 0 rfl) ?_
                          refine va_get (D := g.1) (ci := 10) (v := .int 0) (C := RX12) (T := TX12) (N := 20) hx hb hts izRX12 hown hK hP 0 rfl rfl 6 (by decide) (hts _ k967) (fun _ h9 => h9) rfl dX12_count_151 ?_
                          refine lv_goto (tgt := 158) hx hb dX12_count_154 (by decide) ?_
                          have hP : va_P g.1 vwCl (List.flatten [bObj g o a 0 hi 0 tp ba en tA fl de iD iO tU, bArr g a f]) H := hP
                          have hD : va_D A (List.flatten [bObj g o a 0 hi 0 tp ba en tA fl de iD iO tU, bArr g a f]) := hD
                          obtain ⟨hP, hD⟩ := zord (g := g) (Bs' := [bObj g o a 0 hi 0 tp ba en tA fl de iD iO tU]) [0] rfl rfl hP hD
                          exact mret_i hx hb hr hlocks hS (Nat.le_of_ble_eq_true rfl) (Nat.le_of_ble_eq_true rfl) dX12_count_158 (0, hi, 0, tp, ba, en, tA, fl, de, iD, iO, tU, 0) rfl (⟨rfl, by subst w12; rfl⟩) hP hD
                      · skip
                        refine lv_aload_n hx hb dX12_count_136 rfl (lv_at hl 0 rfl) ?_
                        refine va_get (D := g.1) (ci := 10) (v := .ref (a 0)) (C := RX12) (T := TX12) (N := 20) hx hb hts izRX12 hown hK hP 0 rfl rfl 1 (by decide) (hts _ k815) (fun _ h9 => h9) rfl dX12_count_137 ?_
                        refine lv_bipush (v := 9) hx hb dX12_count_140 (by decide) ?_
                        refine va_iald hx hb hK hP 1 0 rfl rfl (zin rfl) dX12_count_142 ?_
                        refine ztop (r := (f 0) 9) rfl ?_
                        refine ztop (r := 0) hm.2.2.2.2.2 ?_
                        have hP : va_P g.1 vwCl (List.flatten [bObj g o a 0 hi 0 tp ba en tA fl de iD iO tU, bArr g a f]) H := hP
                        have hD : va_D A (List.flatten [bObj g o a 0 hi 0 tp ba en tA fl de iD iO tU, bArr g a f]) := hD
                        obtain ⟨hP, hD⟩ := zord (g := g) (Bs' := [bObj g o a 0 hi 0 tp ba en tA fl de iD iO tU]) [0] rfl rfl hP hD
                        exact mret_i hx hb hr hlocks hS (Nat.le_of_ble_eq_true rfl) (Nat.le_of_ble_eq_true rfl) dX12_count_143 (0, hi, 0, tp, ba, en, tA, fl, de, iD, iO, tU, 0) rfl (⟨rfl, by subst w11; rfl⟩) hP hD
                    · skip
                      refine lv_aload_n hx hb dX12_count_125 rfl (lv_at hl 0 rfl) ?_
                      refine mcallV (g := g) (q0 := 0) (ci := 10) (As := []) (rest := []) St hK hT hA hP hD hS hl.1 [0, 1] [] rfl rfl rfl (m_sharesOfAll l g o a 0 hi 0 tp ba en tA fl de iD iO tU f (by assumption)) (cwV 0 hts (zgL (zl4 k1149 k1150 k1151 k833) k1148) rfl rfl rfl (by decide +kernel) ⟨Nat.le_of_ble_eq_true rfl, Nat.le_of_ble_eq_true rfl⟩) rfl rfl rfl rfl (Nat.le_of_ble_eq_true rfl) dX12_count_126 ⟨(Nat.le_of_ble_eq_true rfl), (Nat.le_of_ble_eq_true rfl)⟩ (fun _u H locs hq17 hP hD hS => ?_)
                      have hP : va_P g.1 vwCl (List.flatten [bObj g o a 0 hi 0 tp ba en tA fl de iD iO tU, bArr g a f]) H := hP
                      have hD : va_D A (List.flatten [bObj g o a 0 hi 0 tp ba en tA fl de iD iO tU, bArr g a f]) := hD
                      refine W.widen (k := 0) (n := 0) (Nat.le_of_ble_eq_true rfl) (Nat.le_of_ble_eq_true rfl) ?_
                      refine W.eq (g2 := F0 m 129 ls [.int 0]) rfl ?_
                      have hP : va_P g.1 vwCl (List.flatten [bObj g o a 0 hi 0 tp ba en tA fl de iD iO tU, bArr g a f]) H := hP
                      have hD : va_D A (List.flatten [bObj g o a 0 hi 0 tp ba en tA fl de iD iO tU, bArr g a f]) := hD
                      obtain ⟨hP, hD⟩ := zord (g := g) (Bs' := [bObj g o a 0 hi 0 tp ba en tA fl de iD iO tU]) [0] rfl rfl hP hD
                      exact mret_i hx hb hr hlocks hS (Nat.le_of_ble_eq_true rfl) (Nat.le_of_ble_eq_true rfl) dX12_count_129 (0, hi, 0, tp, ba, en, tA, fl, de, iD, iO, tU, 0) rfl (⟨rfl, by subst w10; rfl⟩) hP hD
                · skip
                  refine lv_aload_n hx hb dX12_count_94 rfl (lv_at hl 0 rfl) ?_
                  refine mcallV (g := g) (q0 := 0) (ci := 10) (As := []) (rest := []) St hK hT hA hP hD hS hl.1 [0, 1] [] rfl rfl rfl (m_hereOnes l g o a 0 hi 0 tp ba en tA fl de iD iO tU f (by assumption)) (cwV 0 hts (zgL (zl4 k846 k847 k848 k833) k835) rfl rfl rfl (by decide +kernel) ⟨Nat.le_of_ble_eq_true rfl, Nat.le_of_ble_eq_true rfl⟩) rfl rfl rfl rfl (Nat.le_of_ble_eq_true rfl) dX12_count_95 ⟨(Nat.le_of_ble_eq_true rfl), (Nat.le_of_ble_eq_true rfl)⟩ (fun _u H locs hq18 hP hD hS => ?_)
                  have hP : va_P g.1 vwCl (List.flatten [bObj g o a 0 hi 0 tp ba en tA fl de iD iO tU, bArr g a f]) H := hP
                  have hD : va_D A (List.flatten [bObj g o a 0 hi 0 tp ba en tA fl de iD iO tU, bArr g a f]) := hD
                  refine W.widen (k := 0) (n := 0) (Nat.le_of_ble_eq_true rfl) (Nat.le_of_ble_eq_true rfl) ?_
                  refine W.eq (g2 := F0 m 98 ls [.int 0]) rfl ?_
                  have hP : va_P g.1 vwCl (List.flatten [bObj g o a 0 hi 0 tp ba en tA fl de iD iO tU, bArr g a f]) H := hP
                  have hD : va_D A (List.flatten [bObj g o a 0 hi 0 tp ba en tA fl de iD iO tU, bArr g a f]) := hD
                  obtain ⟨hP, hD⟩ := zord (g := g) (Bs' := [bObj g o a 0 hi 0 tp ba en tA fl de iD iO tU]) [0] rfl rfl hP hD
                  exact mret_i hx hb hr hlocks hS (Nat.le_of_ble_eq_true rfl) (Nat.le_of_ble_eq_true rfl) dX12_count_98 (0, hi, 0, tp, ba, en, tA, fl, de, iD, iO, tU, 0) rfl (⟨rfl, by subst w7; rfl⟩) hP hD
              · skip
                refine lv_aload_n hx hb dX12_count_83 rfl (lv_at hl 0 rfl) ?_
                refine mcallV (g := g) (q0 := 0) (ci := 10) (As := []) (rest := []) St hK hT hA hP hD hS hl.1 [0, 1] [] rfl rfl rfl (m_believed l g o a 0 hi 0 tp ba en tA fl de iD iO tU f (by assumption)) (cwV 0 hts (zgL (zl4 k851 k852 k853 k833) k844) rfl rfl rfl (by decide +kernel) ⟨Nat.le_of_ble_eq_true rfl, Nat.le_of_ble_eq_true rfl⟩) rfl rfl rfl rfl (Nat.le_of_ble_eq_true rfl) dX12_count_84 ⟨(Nat.le_of_ble_eq_true rfl), (Nat.le_of_ble_eq_true rfl)⟩ (fun _u H locs hq19 hP hD hS => ?_)
                have hP : va_P g.1 vwCl (List.flatten [bObj g o a 0 hi 0 tp ba en tA fl de iD iO tU, bArr g a f]) H := hP
                have hD : va_D A (List.flatten [bObj g o a 0 hi 0 tp ba en tA fl de iD iO tU, bArr g a f]) := hD
                refine W.widen (k := 0) (n := 0) (Nat.le_of_ble_eq_true rfl) (Nat.le_of_ble_eq_true rfl) ?_
                refine W.eq (g2 := F0 m 87 ls [.int 0]) rfl ?_
                have hP : va_P g.1 vwCl (List.flatten [bObj g o a 0 hi 0 tp ba en tA fl de iD iO tU, bArr g a f]) H := hP
                have hD : va_D A (List.flatten [bObj g o a 0 hi 0 tp ba en tA fl de iD iO tU, bArr g a f]) := hD
                obtain ⟨hP, hD⟩ := zord (g := g) (Bs' := [bObj g o a 0 hi 0 tp ba en tA fl de iD iO tU]) [0] rfl rfl hP hD
                exact mret_i hx hb hr hlocks hS (Nat.le_of_ble_eq_true rfl) (Nat.le_of_ble_eq_true rfl) dX12_count_87 (0, hi, 0, tp, ba, en, tA, fl, de, iD, iO, tU, 0) rfl (⟨rfl, by subst w6; rfl⟩) hP hD
            · skip
              refine lv_aload_n hx hb dX12_count_70 rfl (lv_at hl 0 rfl) ?_
              refine va_get (D := g.1) (ci := 10) (v := .ref (a 0)) (C := RX12) (T := TX12) (N := 20) hx hb hts izRX12 hown hK hP 0 rfl rfl 1 (by decide) (hts _ k815) (fun _ h9 => h9) rfl dX12_count_71 ?_
              refine lv_iconst (v := 5) hx hb dX12_count_74 (by decide) ?_
              refine va_iald hx hb hK hP 1 0 rfl rfl (zin rfl) dX12_count_75 ?_
              refine ztop (r := (f 0) 5) rfl ?_
              refine ztop (r := 20) hm.2.2.2.2.1 ?_
              have hP : va_P g.1 vwCl (List.flatten [bObj g o a 0 hi 0 tp ba en tA fl de iD iO tU, bArr g a f]) H := hP
              have hD : va_D A (List.flatten [bObj g o a 0 hi 0 tp ba en tA fl de iD iO tU, bArr g a f]) := hD
              obtain ⟨hP, hD⟩ := zord (g := g) (Bs' := [bObj g o a 0 hi 0 tp ba en tA fl de iD iO tU]) [0] rfl rfl hP hD
              exact mret_i hx hb hr hlocks hS (Nat.le_of_ble_eq_true rfl) (Nat.le_of_ble_eq_true rfl) dX12_count_76 (0, hi, 0, tp, ba, en, tA, fl, de, iD, iO, tU, 20) rfl (⟨rfl, by subst w5; rfl⟩) hP hD
          · skip
            refine lv_aload_n hx hb dX12_count_57 rfl (lv_at hl 0 rfl) ?_
            refine va_get (D := g.1) (ci := 10) (v := .ref (a 0)) (C := RX12) (T := TX12) (N := 20) hx hb hts izRX12 hown hK hP 0 rfl rfl 1 (by decide) (hts _ k815) (fun _ h9 => h9) rfl dX12_count_58 ?_
            refine lv_bipush (v := 8) hx hb dX12_count_61 (by decide) ?_
            refine va_iald hx hb hK hP 1 0 rfl rfl (zin rfl) dX12_count_63 ?_
            refine ztop (r := (f 0) 8) rfl ?_
            refine ztop (r := 0) h8 ?_
            have hP : va_P g.1 vwCl (List.flatten [bObj g o a 0 hi 0 tp ba en tA fl de iD iO tU, bArr g a f]) H := hP
            have hD : va_D A (List.flatten [bObj g o a 0 hi 0 tp ba en tA fl de iD iO tU, bArr g a f]) := hD
            obtain ⟨hP, hD⟩ := zord (g := g) (Bs' := [bObj g o a 0 hi 0 tp ba en tA fl de iD iO tU]) [0] rfl rfl hP hD
            exact mret_i hx hb hr hlocks hS (Nat.le_of_ble_eq_true rfl) (Nat.le_of_ble_eq_true rfl) dX12_count_64 (0, hi, 0, tp, ba, en, tA, fl, de, iD, iO, tU, 0) rfl (⟨rfl, by subst w4; rfl⟩) hP hD
        · skip
          refine lv_aload_n hx hb dX12_count_45 rfl (lv_at hl 0 rfl) ?_
          refine va_get (D := g.1) (ci := 10) (v := .ref (a 0)) (C := RX12) (T := TX12) (N := 20) hx hb hts izRX12 hown hK hP 0 rfl rfl 1 (by decide) (hts _ k815) (fun _ h9 => h9) rfl dX12_count_46 ?_
          refine lv_iconst (v := 1) hx hb dX12_count_49 (by decide) ?_
          refine va_iald hx hb hK hP 1 0 rfl rfl (zin rfl) dX12_count_50 ?_
          refine ztop (r := (f 0) 1) rfl ?_
          refine ztop (r := (-1)) hm.2.2.2.1 ?_
          have hP : va_P g.1 vwCl (List.flatten [bObj g o a 0 hi 0 tp ba en tA fl de iD iO tU, bArr g a f]) H := hP
          have hD : va_D A (List.flatten [bObj g o a 0 hi 0 tp ba en tA fl de iD iO tU, bArr g a f]) := hD
          obtain ⟨hP, hD⟩ := zord (g := g) (Bs' := [bObj g o a 0 hi 0 tp ba en tA fl de iD iO tU]) [0] rfl rfl hP hD
          exact mret_i hx hb hr hlocks hS (Nat.le_of_ble_eq_true rfl) (Nat.le_of_ble_eq_true rfl) dX12_count_51 (0, hi, 0, tp, ba, en, tA, fl, de, iD, iO, tU, -1) rfl (⟨rfl, by subst w3; rfl⟩) hP hD
      · skip
        refine lv_aload_n hx hb dX12_count_33 rfl (lv_at hl 0 rfl) ?_
        refine va_get (D := g.1) (ci := 10) (v := .ref (a 0)) (C := RX12) (T := TX12) (N := 20) hx hb hts izRX12 hown hK hP 0 rfl rfl 1 (by decide) (hts _ k815) (fun _ h9 => h9) rfl dX12_count_34 ?_
        refine lv_iconst (v := 0) hx hb dX12_count_37 (by decide) ?_
        refine va_iald hx hb hK hP 1 0 rfl rfl (zin rfl) dX12_count_38 ?_
        refine ztop (r := (f 0) 0) rfl ?_
        refine ztop (r := 0) hm.2.2.1 ?_
        have hP : va_P g.1 vwCl (List.flatten [bObj g o a 0 hi 0 tp ba en tA fl de iD iO tU, bArr g a f]) H := hP
        have hD : va_D A (List.flatten [bObj g o a 0 hi 0 tp ba en tA fl de iD iO tU, bArr g a f]) := hD
        obtain ⟨hP, hD⟩ := zord (g := g) (Bs' := [bObj g o a 0 hi 0 tp ba en tA fl de iD iO tU]) [0] rfl rfl hP hD
        exact mret_i hx hb hr hlocks hS (Nat.le_of_ble_eq_true rfl) (Nat.le_of_ble_eq_true rfl) dX12_count_39 (0, hi, 0, tp, ba, en, tA, fl, de, iD, iO, tU, 0) rfl (⟨rfl, by subst w2; rfl⟩) hP hD
    · skip
      refine lv_aload_n hx hb dX12_count_21 rfl (lv_at hl 0 rfl) ?_
      refine va_get (D := g.1) (ci := 10) (v := .ref (a 0)) (C := RX12) (T := TX12) (N := 20) hx hb hts izRX12 hown hK hP 0 rfl rfl 1 (by decide) (hts _ k815) (fun _ h9 => h9) rfl dX12_count_22 ?_
      refine lv_iconst (v := 4) hx hb dX12_count_25 (by decide) ?_
      refine va_iald hx hb hK hP 1 0 rfl rfl (zin rfl) dX12_count_26 ?_
      refine ztop (r := (f 0) 4) rfl ?_
      refine ztop (r := 0) hm.2.1 ?_
      have hP : va_P g.1 vwCl (List.flatten [bObj g o a 0 hi 0 tp ba en tA fl de iD iO tU, bArr g a f]) H := hP
      have hD : va_D A (List.flatten [bObj g o a 0 hi 0 tp ba en tA fl de iD iO tU, bArr g a f]) := hD
      obtain ⟨hP, hD⟩ := zord (g := g) (Bs' := [bObj g o a 0 hi 0 tp ba en tA fl de iD iO tU]) [0] rfl rfl hP hD
      exact mret_i hx hb hr hlocks hS (Nat.le_of_ble_eq_true rfl) (Nat.le_of_ble_eq_true rfl) dX12_count_27 (0, hi, 0, tp, ba, en, tA, fl, de, iD, iO, tU, 0) rfl (⟨rfl, by subst w1; rfl⟩) hP hD
  · skip
    refine lv_aload_n hx hb dX12_count_9 rfl (lv_at hl 0 rfl) ?_
    refine va_get (D := g.1) (ci := 10) (v := .ref (a 0)) (C := RX12) (T := TX12) (N := 20) hx hb hts izRX12 hown hK hP 0 rfl rfl 1 (by decide) (hts _ k815) (fun _ h9 => h9) rfl dX12_count_10 ?_
    refine lv_iconst (v := 3) hx hb dX12_count_13 (by decide) ?_
    refine va_iald hx hb hK hP 1 0 rfl rfl (zin rfl) dX12_count_14 ?_
    refine ztop (r := (f 0) 3) rfl ?_
    refine ztop (r := 0) hm.1 ?_
    have hP : va_P g.1 vwCl (List.flatten [bObj g o a 0 hi 0 tp ba en tA fl de iD iO tU, bArr g a f]) H := hP
    have hD : va_D A (List.flatten [bObj g o a 0 hi 0 tp ba en tA fl de iD iO tU, bArr g a f]) := hD
    obtain ⟨hP, hD⟩ := zord (g := g) (Bs' := [bObj g o a 0 hi 0 tp ba en tA fl de iD iO tU]) [0] rfl rfl hP hD
    exact mret_i hx hb hr hlocks hS (Nat.le_of_ble_eq_true rfl) (Nat.le_of_ble_eq_true rfl) dX12_count_15 (0, hi, 0, tp, ba, en, tA, fl, de, iD, iO, tU, 0) rfl (⟨rfl, by subst w0; rfl⟩) hP hD
set_option maxRecDepth 100000 in
set_option maxHeartbeats 4000000 in
theorem m_feed (l : Launch) (g : zG) (o : Nat) (a : Nat → Nat) (th : Int32) (hi : Int32) (ac : Int32) (ba : Int32) (en : Int32) (tA : Int32) (fl : Int32) (de : Int32) (iD : Int32) (iO : Int32) (tU : Int32) (f : Nat → Nat → Int32) (v1 : Int32) (v2 : Int32) (v3 : Int32) (v4 : Int32) (v5 : Int32) (hm : zMo (f 0)) : zM g l yX12_feed (Cond.code yX12_feed cX12_feed 8 (some .int) :: zB) ({ frames := 0, cells := 0, slots := 0, locals := 0 } : Room) [.ref o, .int v1, .int v2, .int v3, .int v4, .int v5] [bObj g o a th hi ac 0 ba en tA fl de iD iO tU, bArr g a f] (fun u : Int32 × Int32 × Int32 × Int32 × Int32 × Int32 × Int32 × Int32 × Int32 × Int32 × Int32 × Int32 × Int32 => (fun (th2 : Int32) (hi2 : Int32) (ac2 : Int32) (tp2 : Int32) (ba2 : Int32) (en2 : Int32) (tA2 : Int32) (fl2 : Int32) (de2 : Int32) (iD2 : Int32) (iO2 : Int32) (tU2 : Int32) (q : Int32) => some (.int q)) (u.1) (u.2.1) (u.2.2.1) (u.2.2.2.1) (u.2.2.2.2.1) (u.2.2.2.2.2.1) (u.2.2.2.2.2.2.1) (u.2.2.2.2.2.2.2.1) (u.2.2.2.2.2.2.2.2.1) (u.2.2.2.2.2.2.2.2.2.1) (u.2.2.2.2.2.2.2.2.2.2.1) (u.2.2.2.2.2.2.2.2.2.2.2.1) (u.2.2.2.2.2.2.2.2.2.2.2.2)) (fun u : Int32 × Int32 × Int32 × Int32 × Int32 × Int32 × Int32 × Int32 × Int32 × Int32 × Int32 × Int32 × Int32 => (fun (th2 : Int32) (hi2 : Int32) (ac2 : Int32) (tp2 : Int32) (ba2 : Int32) (en2 : Int32) (tA2 : Int32) (fl2 : Int32) (de2 : Int32) (iD2 : Int32) (iO2 : Int32) (tU2 : Int32) (q : Int32) => th2 = 0 ∧ q = 20) (u.1) (u.2.1) (u.2.2.1) (u.2.2.2.1) (u.2.2.2.2.1) (u.2.2.2.2.2.1) (u.2.2.2.2.2.2.1) (u.2.2.2.2.2.2.2.1) (u.2.2.2.2.2.2.2.2.1) (u.2.2.2.2.2.2.2.2.2.1) (u.2.2.2.2.2.2.2.2.2.2.1) (u.2.2.2.2.2.2.2.2.2.2.2.1) (u.2.2.2.2.2.2.2.2.2.2.2.2)) (fun u : Int32 × Int32 × Int32 × Int32 × Int32 × Int32 × Int32 × Int32 × Int32 × Int32 × Int32 × Int32 × Int32 => (fun (th2 : Int32) (hi2 : Int32) (ac2 : Int32) (tp2 : Int32) (ba2 : Int32) (en2 : Int32) (tA2 : Int32) (fl2 : Int32) (de2 : Int32) (iD2 : Int32) (iO2 : Int32) (tU2 : Int32) (q : Int32) => [bObj g o a th2 hi2 ac2 tp2 ba2 en2 tA2 fl2 de2 iD2 iO2 tU2]) (u.1) (u.2.1) (u.2.2.1) (u.2.2.2.1) (u.2.2.2.2.1) (u.2.2.2.2.2.1) (u.2.2.2.2.2.2.1) (u.2.2.2.2.2.2.2.1) (u.2.2.2.2.2.2.2.2.1) (u.2.2.2.2.2.2.2.2.2.1) (u.2.2.2.2.2.2.2.2.2.2.1) (u.2.2.2.2.2.2.2.2.2.2.2.1) (u.2.2.2.2.2.2.2.2.2.2.2.2)) := by
  refine zM.of (cc := cX12_feed) (maxL := 8) (rt := (some .int)) (by decide) rfl (Nat.le_of_ble_eq_true rfl) ?_
  intro p e s m args below meth c A ls St hr hlocks hin hK hT hA hP hD hS hl
  obtain ⟨hx, hb, hml, hown, hts⟩ := id St
  have hl : lv_has ls 8 [(0, .ref o), (1, .int v1), (2, .int v2), (3, .int v3), (4, .int v4), (5, .int v5)] := hl
  refine lv_aload_n hx hb dX12_feed_0 rfl (lv_at hl 0 rfl) ?_
  refine lv_iconst (v := 0) hx hb dX12_feed_1 (by decide) ?_
  refine va_put (D := g.1) (ci := 10) (v := .int 0) (ty := .int) (C := RX12) (T := TX12) (N := 20) hx hb hts izRX12 tyX12 tyX12_ok nmX12 hown hK hP hD hS 0 rfl rfl 0 (by decide) (hts _ k825) (fun _ h9 => h9) rfl (by decide +kernel) rfl rfl (Nat.le_of_ble_eq_true rfl) dX12_feed_2 (fun H locs hP hD hS => ?_)
  have hP : va_P g.1 vwCl (List.flatten [[(o, .inr (10, [.int 0, .ref (a 0), .ref (a 1), .int hi, .ref (a 2), .ref (a 3), .int ac, .ref (a 4), .int 0, .int ba, .int en, .int tA, .int fl, .int de, .ref (a 5), .int iD, .int iO, .int tU, .ref (a 6), .ref (a 7)]))], bArr g a f]) H := hP
  have hD : va_D A (List.flatten [[(o, .inr (10, [.int 0, .ref (a 0), .ref (a 1), .int hi, .ref (a 2), .ref (a 3), .int ac, .ref (a 4), .int 0, .int ba, .int en, .int tA, .int fl, .int de, .ref (a 5), .int iD, .int iO, .int tU, .ref (a 6), .ref (a 7)]))], bArr g a f]) := hD
  refine lv_aload_n hx hb dX12_feed_5 rfl (lv_at hl 0 rfl) ?_
  refine va_get (D := g.1) (ci := 10) (v := .int 0) (C := RX12) (T := TX12) (N := 20) hx hb hts izRX12 hown hK hP 0 rfl rfl 8 (by decide) (hts _ k864) (fun _ h9 => h9) rfl dX12_feed_6 ?_
  refine lv_bipush (v := 20) hx hb dX12_feed_9 (by decide) ?_
  refine lv_iadd hx hb dX12_feed_11 ?_
  refine ztop (r := 20) (by decide) ?_
  refine lv_sipush (v := 400) hx hb dX12_feed_12 (by decide) ?_
  refine lv_icmp_le (tgt := 20) hx hb dX12_feed_15 (by decide) (fun _ => ?_) (fun c1 => absurd (by decide) c1)
  refine lv_iconst (v := 0) hx hb dX12_feed_20 (by decide) ?_
  refine lv_istore (lv' := [(6, .int 0), (0, .ref o), (1, .int v1), (2, .int v2), (3, .int v3), (4, .int v4), (5, .int v5)]) hx hb dX12_feed_21 hl (by decide) rfl (fun ls hl => ?_)
  refine lv_iload hx hb dX12_feed_23 (lv_at hl 0 rfl) ?_
  refine lv_bipush (v := 20) hx hb dX12_feed_25 (by decide) ?_
  refine lv_icmp_ge (tgt := 120) hx hb dX12_feed_27 (by decide) (fun c2 => absurd c2 (by decide)) (fun _ => ?_)
  refine lv_iload hx hb dX12_feed_30 (lv_at hl 0 rfl) ?_
  refine lv_iconst (v := 4) hx hb dX12_feed_32 (by decide) ?_
  refine lv_icmp_ge (tgt := 40) hx hb dX12_feed_33 (by decide) (fun c3 => absurd c3 (by decide)) (fun _ => ?_)
  refine lv_iload_n hx hb dX12_feed_36 rfl (lv_at hl 2 rfl) ?_
  refine lv_goto (tgt := 76) hx hb dX12_feed_37 (by decide) ?_
  refine lv_istore (lv' := [(7, .int v1), (6, .int 0), (0, .ref o), (1, .int v1), (2, .int v2), (3, .int v3), (4, .int v4), (5, .int v5)]) hx hb dX12_feed_76 hl (by decide) rfl (fun ls hl => ?_)
  refine lv_aload_n hx hb dX12_feed_78 rfl (lv_at hl 2 rfl) ?_
  refine va_get (D := g.1) (ci := 10) (v := .ref (a 4)) (C := RX12) (T := TX12) (N := 20) hx hb hts izRX12 hown hK hP 0 rfl rfl 7 (by decide) (hts _ k819) (fun _ h9 => h9) rfl dX12_feed_79 ?_
  refine lv_aload_n hx hb dX12_feed_82 rfl (lv_at hl 2 rfl) ?_
  refine va_get (D := g.1) (ci := 10) (v := .int 0) (C := RX12) (T := TX12) (N := 20) hx hb hts izRX12 hown hK hP 0 rfl rfl 8 (by decide) (hts _ k864) (fun _ h9 => h9) rfl dX12_feed_83 ?_
  refine lv_iload hx hb dX12_feed_86 (lv_at hl 0 rfl) ?_
  refine lv_bipush (v := 24) hx hb dX12_feed_88 (by decide) ?_
  refine lv_bipush (v := 8) hx hb dX12_feed_90 (by decide) ?_
  refine lv_iload hx hb dX12_feed_92 (lv_at hl 1 rfl) ?_
  refine lv_iconst (v := 4) hx hb dX12_feed_94 (by decide) ?_
  refine lv_irem hx hb dX12_feed_95 (by decide) ?_
  refine ztop (r := 0) (by decide) ?_
  refine lv_imul hx hb dX12_feed_96 ?_
  refine ztop (r := 0) (by decide) ?_
  refine lv_isub hx hb dX12_feed_97 ?_
  refine ztop (r := 24) (by decide) ?_
  refine lv_iushr (v := ((v1 : Int32).toUInt32 >>> ((24 : Int32).toUInt32 &&& Int32.toUInt32 31)).toInt32) hx hb dX12_feed_98 rfl ?_
  refine lv_sipush (v := 255) hx hb dX12_feed_99 (by decide) ?_
  refine lv_iand hx hb dX12_feed_102 ?_
  refine va_iast hx hb hK hP hD hS 5 0 rfl rfl (zin rfl) dX12_feed_103 (fun H locs hP hD hS => ?_)
  have hP : va_P g.1 vwCl (List.flatten [[(o, .inr (10, [.int 0, .ref (a 0), .ref (a 1), .int hi, .ref (a 2), .ref (a 3), .int ac, .ref (a 4), .int 0, .int ba, .int en, .int tA, .int fl, .int de, .ref (a 5), .int iD, .int iO, .int tU, .ref (a 6), .ref (a 7)]))], [(a 0, .inl (g.2 0, 779, .inl (f 0))), (a 1, .inl (g.2 0, 779, .inl (f 1))), (a 2, .inl (g.2 0, 379, .inl (f 2))), (a 3, .inl (g.2 0, 4548, .inl (f 3))), (a 4, .inl (g.2 0, 400, .inl (upd (f 4) 0 ((((v1 : Int32).toUInt32 >>> ((24 : Int32).toUInt32 &&& Int32.toUInt32 31)).toInt32) &&& 255)))), (a 5, .inl (g.2 0, 6, .inl (f 5))), (a 6, .inl (g.2 0, 8, .inl (f 6))), (a 7, .inl (g.2 1, 256, .inl (f 7)))]]) H := hP
  have hD : va_D A (List.flatten [[(o, .inr (10, [.int 0, .ref (a 0), .ref (a 1), .int hi, .ref (a 2), .ref (a 3), .int ac, .ref (a 4), .int 0, .int ba, .int en, .int tA, .int fl, .int de, .ref (a 5), .int iD, .int iO, .int tU, .ref (a 6), .ref (a 7)]))], [(a 0, .inl (g.2 0, 779, .inl (f 0))), (a 1, .inl (g.2 0, 779, .inl (f 1))), (a 2, .inl (g.2 0, 379, .inl (f 2))), (a 3, .inl (g.2 0, 4548, .inl (f 3))), (a 4, .inl (g.2 0, 400, .inl (upd (f 4) 0 ((((v1 : Int32).toUInt32 >>> ((24 : Int32).toUInt32 &&& Int32.toUInt32 31)).toInt32) &&& 255)))), (a 5, .inl (g.2 0, 6, .inl (f 5))), (a 6, .inl (g.2 0, 8, .inl (f 6))), (a 7, .inl (g.2 1, 256, .inl (f 7)))]]) := hD
  refine lv_aload_n hx hb dX12_feed_104 rfl (lv_at hl 2 rfl) ?_
  refine lv_dup hx hb dX12_feed_105 rfl ?_
  refine va_get (D := g.1) (ci := 10) (v := .int 0) (C := RX12) (T := TX12) (N := 20) hx hb hts izRX12 hown hK hP 0 rfl rfl 8 (by decide) (hts _ k864) (fun _ h9 => h9) rfl dX12_feed_106 ?_
  refine lv_iconst (v := 1) hx hb dX12_feed_109 (by decide) ?_
  refine lv_iadd hx hb dX12_feed_110 ?_
  refine ztop (r := 1) (by decide) ?_
  refine va_put (D := g.1) (ci := 10) (v := .int 1) (ty := .int) (C := RX12) (T := TX12) (N := 20) hx hb hts izRX12 tyX12 tyX12_ok nmX12 hown hK hP hD hS 0 rfl rfl 8 (by decide) (hts _ k864) (fun _ h9 => h9) rfl (by decide +kernel) rfl rfl (Nat.le_of_ble_eq_true rfl) dX12_feed_111 (fun H locs hP hD hS => ?_)
  have hP : va_P g.1 vwCl (List.flatten [[(o, .inr (10, [.int 0, .ref (a 0), .ref (a 1), .int hi, .ref (a 2), .ref (a 3), .int ac, .ref (a 4), .int 1, .int ba, .int en, .int tA, .int fl, .int de, .ref (a 5), .int iD, .int iO, .int tU, .ref (a 6), .ref (a 7)]))], [(a 0, .inl (g.2 0, 779, .inl (f 0))), (a 1, .inl (g.2 0, 779, .inl (f 1))), (a 2, .inl (g.2 0, 379, .inl (f 2))), (a 3, .inl (g.2 0, 4548, .inl (f 3))), (a 4, .inl (g.2 0, 400, .inl (upd (f 4) 0 ((((v1 : Int32).toUInt32 >>> ((24 : Int32).toUInt32 &&& Int32.toUInt32 31)).toInt32) &&& 255)))), (a 5, .inl (g.2 0, 6, .inl (f 5))), (a 6, .inl (g.2 0, 8, .inl (f 6))), (a 7, .inl (g.2 1, 256, .inl (f 7)))]]) H := hP
  have hD : va_D A (List.flatten [[(o, .inr (10, [.int 0, .ref (a 0), .ref (a 1), .int hi, .ref (a 2), .ref (a 3), .int ac, .ref (a 4), .int 1, .int ba, .int en, .int tA, .int fl, .int de, .ref (a 5), .int iD, .int iO, .int tU, .ref (a 6), .ref (a 7)]))], [(a 0, .inl (g.2 0, 779, .inl (f 0))), (a 1, .inl (g.2 0, 779, .inl (f 1))), (a 2, .inl (g.2 0, 379, .inl (f 2))), (a 3, .inl (g.2 0, 4548, .inl (f 3))), (a 4, .inl (g.2 0, 400, .inl (upd (f 4) 0 ((((v1 : Int32).toUInt32 >>> ((24 : Int32).toUInt32 &&& Int32.toUInt32 31)).toInt32) &&& 255)))), (a 5, .inl (g.2 0, 6, .inl (f 5))), (a 6, .inl (g.2 0, 8, .inl (f 6))), (a 7, .inl (g.2 1, 256, .inl (f 7)))]]) := hD
  refine lv_iinc (v := 1) (lv' := [(6, .int 1), (7, .int v1), (0, .ref o), (1, .int v1), (2, .int v2), (3, .int v3), (4, .int v4), (5, .int v5)]) hx hb dX12_feed_114 hl (k := 1) rfl (by decide) (by decide) rfl (fun ls hl => ?_)
  refine lv_goto (tgt := 23) hx hb dX12_feed_117 (by decide) ?_
  refine lv_iload hx hb dX12_feed_23 (lv_at hl 0 rfl) ?_
  refine lv_bipush (v := 20) hx hb dX12_feed_25 (by decide) ?_
  refine lv_icmp_ge (tgt := 120) hx hb dX12_feed_27 (by decide) (fun c4 => absurd c4 (by decide)) (fun _ => ?_)
  refine lv_iload hx hb dX12_feed_30 (lv_at hl 0 rfl) ?_
  refine lv_iconst (v := 4) hx hb dX12_feed_32 (by decide) ?_
  refine lv_icmp_ge (tgt := 40) hx hb dX12_feed_33 (by decide) (fun c5 => absurd c5 (by decide)) (fun _ => ?_)
  refine lv_iload_n hx hb dX12_feed_36 rfl (lv_at hl 3 rfl) ?_
  refine lv_goto (tgt := 76) hx hb dX12_feed_37 (by decide) ?_
  refine lv_istore (lv' := [(7, .int v1), (6, .int 1), (0, .ref o), (1, .int v1), (2, .int v2), (3, .int v3), (4, .int v4), (5, .int v5)]) hx hb dX12_feed_76 hl (by decide) rfl (fun ls hl => ?_)
  refine lv_aload_n hx hb dX12_feed_78 rfl (lv_at hl 2 rfl) ?_
  refine va_get (D := g.1) (ci := 10) (v := .ref (a 4)) (C := RX12) (T := TX12) (N := 20) hx hb hts izRX12 hown hK hP 0 rfl rfl 7 (by decide) (hts _ k819) (fun _ h9 => h9) rfl dX12_feed_79 ?_
  refine lv_aload_n hx hb dX12_feed_82 rfl (lv_at hl 2 rfl) ?_
  refine va_get (D := g.1) (ci := 10) (v := .int 1) (C := RX12) (T := TX12) (N := 20) hx hb hts izRX12 hown hK hP 0 rfl rfl 8 (by decide) (hts _ k864) (fun _ h9 => h9) rfl dX12_feed_83 ?_
  refine lv_iload hx hb dX12_feed_86 (lv_at hl 0 rfl) ?_
  refine lv_bipush (v := 24) hx hb dX12_feed_88 (by decide) ?_
  refine lv_bipush (v := 8) hx hb dX12_feed_90 (by decide) ?_
  refine lv_iload hx hb dX12_feed_92 (lv_at hl 1 rfl) ?_
  refine lv_iconst (v := 4) hx hb dX12_feed_94 (by decide) ?_
  refine lv_irem hx hb dX12_feed_95 (by decide) ?_
  refine ztop (r := 1) (by decide) ?_
  refine lv_imul hx hb dX12_feed_96 ?_
  refine ztop (r := 8) (by decide) ?_
  refine lv_isub hx hb dX12_feed_97 ?_
  refine ztop (r := 16) (by decide) ?_
  refine lv_iushr (v := ((v1 : Int32).toUInt32 >>> ((16 : Int32).toUInt32 &&& Int32.toUInt32 31)).toInt32) hx hb dX12_feed_98 rfl ?_
  refine lv_sipush (v := 255) hx hb dX12_feed_99 (by decide) ?_
  refine lv_iand hx hb dX12_feed_102 ?_
  refine va_iast hx hb hK hP hD hS 5 0 rfl rfl (zin rfl) dX12_feed_103 (fun H locs hP hD hS => ?_)
  have hP : va_P g.1 vwCl (List.flatten [[(o, .inr (10, [.int 0, .ref (a 0), .ref (a 1), .int hi, .ref (a 2), .ref (a 3), .int ac, .ref (a 4), .int 1, .int ba, .int en, .int tA, .int fl, .int de, .ref (a 5), .int iD, .int iO, .int tU, .ref (a 6), .ref (a 7)]))], [(a 0, .inl (g.2 0, 779, .inl (f 0))), (a 1, .inl (g.2 0, 779, .inl (f 1))), (a 2, .inl (g.2 0, 379, .inl (f 2))), (a 3, .inl (g.2 0, 4548, .inl (f 3))), (a 4, .inl (g.2 0, 400, .inl (upd (upd (f 4) 0 ((((v1 : Int32).toUInt32 >>> ((24 : Int32).toUInt32 &&& Int32.toUInt32 31)).toInt32) &&& 255)) 1 ((((v1 : Int32).toUInt32 >>> ((16 : Int32).toUInt32 &&& Int32.toUInt32 31)).toInt32) &&& 255)))), (a 5, .inl (g.2 0, 6, .inl (f 5))), (a 6, .inl (g.2 0, 8, .inl (f 6))), (a 7, .inl (g.2 1, 256, .inl (f 7)))]]) H := hP
  have hD : va_D A (List.flatten [[(o, .inr (10, [.int 0, .ref (a 0), .ref (a 1), .int hi, .ref (a 2), .ref (a 3), .int ac, .ref (a 4), .int 1, .int ba, .int en, .int tA, .int fl, .int de, .ref (a 5), .int iD, .int iO, .int tU, .ref (a 6), .ref (a 7)]))], [(a 0, .inl (g.2 0, 779, .inl (f 0))), (a 1, .inl (g.2 0, 779, .inl (f 1))), (a 2, .inl (g.2 0, 379, .inl (f 2))), (a 3, .inl (g.2 0, 4548, .inl (f 3))), (a 4, .inl (g.2 0, 400, .inl (upd (upd (f 4) 0 ((((v1 : Int32).toUInt32 >>> ((24 : Int32).toUInt32 &&& Int32.toUInt32 31)).toInt32) &&& 255)) 1 ((((v1 : Int32).toUInt32 >>> ((16 : Int32).toUInt32 &&& Int32.toUInt32 31)).toInt32) &&& 255)))), (a 5, .inl (g.2 0, 6, .inl (f 5))), (a 6, .inl (g.2 0, 8, .inl (f 6))), (a 7, .inl (g.2 1, 256, .inl (f 7)))]]) := hD
  refine lv_aload_n hx hb dX12_feed_104 rfl (lv_at hl 2 rfl) ?_
  refine lv_dup hx hb dX12_feed_105 rfl ?_
  refine va_get (D := g.1) (ci := 10) (v := .int 1) (C := RX12) (T := TX12) (N := 20) hx hb hts izRX12 hown hK hP 0 rfl rfl 8 (by decide) (hts _ k864) (fun _ h9 => h9) rfl dX12_feed_106 ?_
  refine lv_iconst (v := 1) hx hb dX12_feed_109 (by decide) ?_
  refine lv_iadd hx hb dX12_feed_110 ?_
  refine ztop (r := 2) (by decide) ?_
  refine va_put (D := g.1) (ci := 10) (v := .int 2) (ty := .int) (C := RX12) (T := TX12) (N := 20) hx hb hts izRX12 tyX12 tyX12_ok nmX12 hown hK hP hD hS 0 rfl rfl 8 (by decide) (hts _ k864) (fun _ h9 => h9) rfl (by decide +kernel) rfl rfl (Nat.le_of_ble_eq_true rfl) dX12_feed_111 (fun H locs hP hD hS => ?_)
  have hP : va_P g.1 vwCl (List.flatten [[(o, .inr (10, [.int 0, .ref (a 0), .ref (a 1), .int hi, .ref (a 2), .ref (a 3), .int ac, .ref (a 4), .int 2, .int ba, .int en, .int tA, .int fl, .int de, .ref (a 5), .int iD, .int iO, .int tU, .ref (a 6), .ref (a 7)]))], [(a 0, .inl (g.2 0, 779, .inl (f 0))), (a 1, .inl (g.2 0, 779, .inl (f 1))), (a 2, .inl (g.2 0, 379, .inl (f 2))), (a 3, .inl (g.2 0, 4548, .inl (f 3))), (a 4, .inl (g.2 0, 400, .inl (upd (upd (f 4) 0 ((((v1 : Int32).toUInt32 >>> ((24 : Int32).toUInt32 &&& Int32.toUInt32 31)).toInt32) &&& 255)) 1 ((((v1 : Int32).toUInt32 >>> ((16 : Int32).toUInt32 &&& Int32.toUInt32 31)).toInt32) &&& 255)))), (a 5, .inl (g.2 0, 6, .inl (f 5))), (a 6, .inl (g.2 0, 8, .inl (f 6))), (a 7, .inl (g.2 1, 256, .inl (f 7)))]]) H := hP
  have hD : va_D A (List.flatten [[(o, .inr (10, [.int 0, .ref (a 0), .ref (a 1), .int hi, .ref (a 2), .ref (a 3), .int ac, .ref (a 4), .int 2, .int ba, .int en, .int tA, .int fl, .int de, .ref (a 5), .int iD, .int iO, .int tU, .ref (a 6), .ref (a 7)]))], [(a 0, .inl (g.2 0, 779, .inl (f 0))), (a 1, .inl (g.2 0, 779, .inl (f 1))), (a 2, .inl (g.2 0, 379, .inl (f 2))), (a 3, .inl (g.2 0, 4548, .inl (f 3))), (a 4, .inl (g.2 0, 400, .inl (upd (upd (f 4) 0 ((((v1 : Int32).toUInt32 >>> ((24 : Int32).toUInt32 &&& Int32.toUInt32 31)).toInt32) &&& 255)) 1 ((((v1 : Int32).toUInt32 >>> ((16 : Int32).toUInt32 &&& Int32.toUInt32 31)).toInt32) &&& 255)))), (a 5, .inl (g.2 0, 6, .inl (f 5))), (a 6, .inl (g.2 0, 8, .inl (f 6))), (a 7, .inl (g.2 1, 256, .inl (f 7)))]]) := hD
  refine lv_iinc (v := 2) (lv' := [(6, .int 2), (7, .int v1), (0, .ref o), (1, .int v1), (2, .int v2), (3, .int v3), (4, .int v4), (5, .int v5)]) hx hb dX12_feed_114 hl (k := 1) rfl (by decide) (by decide) rfl (fun ls hl => ?_)
  refine lv_goto (tgt := 23) hx hb dX12_feed_117 (by decide) ?_
  refine lv_iload hx hb dX12_feed_23 (lv_at hl 0 rfl) ?_
  refine lv_bipush (v := 20) hx hb dX12_feed_25 (by decide) ?_
  refine lv_icmp_ge (tgt := 120) hx hb dX12_feed_27 (by decide) (fun c6 => absurd c6 (by decide)) (fun _ => ?_)
  refine lv_iload hx hb dX12_feed_30 (lv_at hl 0 rfl) ?_
  refine lv_iconst (v := 4) hx hb dX12_feed_32 (by decide) ?_
  refine lv_icmp_ge (tgt := 40) hx hb dX12_feed_33 (by decide) (fun c7 => absurd c7 (by decide)) (fun _ => ?_)
  refine lv_iload_n hx hb dX12_feed_36 rfl (lv_at hl 3 rfl) ?_
  refine lv_goto (tgt := 76) hx hb dX12_feed_37 (by decide) ?_
  refine lv_istore (lv' := [(7, .int v1), (6, .int 2), (0, .ref o), (1, .int v1), (2, .int v2), (3, .int v3), (4, .int v4), (5, .int v5)]) hx hb dX12_feed_76 hl (by decide) rfl (fun ls hl => ?_)
  refine lv_aload_n hx hb dX12_feed_78 rfl (lv_at hl 2 rfl) ?_
  refine va_get (D := g.1) (ci := 10) (v := .ref (a 4)) (C := RX12) (T := TX12) (N := 20) hx hb hts izRX12 hown hK hP 0 rfl rfl 7 (by decide) (hts _ k819) (fun _ h9 => h9) rfl dX12_feed_79 ?_
  refine lv_aload_n hx hb dX12_feed_82 rfl (lv_at hl 2 rfl) ?_
  refine va_get (D := g.1) (ci := 10) (v := .int 2) (C := RX12) (T := TX12) (N := 20) hx hb hts izRX12 hown hK hP 0 rfl rfl 8 (by decide) (hts _ k864) (fun _ h9 => h9) rfl dX12_feed_83 ?_
  refine lv_iload hx hb dX12_feed_86 (lv_at hl 0 rfl) ?_
  refine lv_bipush (v := 24) hx hb dX12_feed_88 (by decide) ?_
  refine lv_bipush (v := 8) hx hb dX12_feed_90 (by decide) ?_
  refine lv_iload hx hb dX12_feed_92 (lv_at hl 1 rfl) ?_
  refine lv_iconst (v := 4) hx hb dX12_feed_94 (by decide) ?_
  refine lv_irem hx hb dX12_feed_95 (by decide) ?_
  refine ztop (r := 2) (by decide) ?_
  refine lv_imul hx hb dX12_feed_96 ?_
  refine ztop (r := 16) (by decide) ?_
  refine lv_isub hx hb dX12_feed_97 ?_
  refine ztop (r := 8) (by decide) ?_
  refine lv_iushr (v := ((v1 : Int32).toUInt32 >>> ((8 : Int32).toUInt32 &&& Int32.toUInt32 31)).toInt32) hx hb dX12_feed_98 rfl ?_
  refine lv_sipush (v := 255) hx hb dX12_feed_99 (by decide) ?_
  refine lv_iand hx hb dX12_feed_102 ?_
  refine va_iast hx hb hK hP hD hS 5 0 rfl rfl (zin rfl) dX12_feed_103 (fun H locs hP hD hS => ?_)
  have hP : va_P g.1 vwCl (List.flatten [[(o, .inr (10, [.int 0, .ref (a 0), .ref (a 1), .int hi, .ref (a 2), .ref (a 3), .int ac, .ref (a 4), .int 2, .int ba, .int en, .int tA, .int fl, .int de, .ref (a 5), .int iD, .int iO, .int tU, .ref (a 6), .ref (a 7)]))], [(a 0, .inl (g.2 0, 779, .inl (f 0))), (a 1, .inl (g.2 0, 779, .inl (f 1))), (a 2, .inl (g.2 0, 379, .inl (f 2))), (a 3, .inl (g.2 0, 4548, .inl (f 3))), (a 4, .inl (g.2 0, 400, .inl (upd (upd (upd (f 4) 0 ((((v1 : Int32).toUInt32 >>> ((24 : Int32).toUInt32 &&& Int32.toUInt32 31)).toInt32) &&& 255)) 1 ((((v1 : Int32).toUInt32 >>> ((16 : Int32).toUInt32 &&& Int32.toUInt32 31)).toInt32) &&& 255)) 2 ((((v1 : Int32).toUInt32 >>> ((8 : Int32).toUInt32 &&& Int32.toUInt32 31)).toInt32) &&& 255)))), (a 5, .inl (g.2 0, 6, .inl (f 5))), (a 6, .inl (g.2 0, 8, .inl (f 6))), (a 7, .inl (g.2 1, 256, .inl (f 7)))]]) H := hP
  have hD : va_D A (List.flatten [[(o, .inr (10, [.int 0, .ref (a 0), .ref (a 1), .int hi, .ref (a 2), .ref (a 3), .int ac, .ref (a 4), .int 2, .int ba, .int en, .int tA, .int fl, .int de, .ref (a 5), .int iD, .int iO, .int tU, .ref (a 6), .ref (a 7)]))], [(a 0, .inl (g.2 0, 779, .inl (f 0))), (a 1, .inl (g.2 0, 779, .inl (f 1))), (a 2, .inl (g.2 0, 379, .inl (f 2))), (a 3, .inl (g.2 0, 4548, .inl (f 3))), (a 4, .inl (g.2 0, 400, .inl (upd (upd (upd (f 4) 0 ((((v1 : Int32).toUInt32 >>> ((24 : Int32).toUInt32 &&& Int32.toUInt32 31)).toInt32) &&& 255)) 1 ((((v1 : Int32).toUInt32 >>> ((16 : Int32).toUInt32 &&& Int32.toUInt32 31)).toInt32) &&& 255)) 2 ((((v1 : Int32).toUInt32 >>> ((8 : Int32).toUInt32 &&& Int32.toUInt32 31)).toInt32) &&& 255)))), (a 5, .inl (g.2 0, 6, .inl (f 5))), (a 6, .inl (g.2 0, 8, .inl (f 6))), (a 7, .inl (g.2 1, 256, .inl (f 7)))]]) := hD
  refine lv_aload_n hx hb dX12_feed_104 rfl (lv_at hl 2 rfl) ?_
  refine lv_dup hx hb dX12_feed_105 rfl ?_
  refine va_get (D := g.1) (ci := 10) (v := .int 2) (C := RX12) (T := TX12) (N := 20) hx hb hts izRX12 hown hK hP 0 rfl rfl 8 (by decide) (hts _ k864) (fun _ h9 => h9) rfl dX12_feed_106 ?_
  refine lv_iconst (v := 1) hx hb dX12_feed_109 (by decide) ?_
  refine lv_iadd hx hb dX12_feed_110 ?_
  refine ztop (r := 3) (by decide) ?_
  refine va_put (D := g.1) (ci := 10) (v := .int 3) (ty := .int) (C := RX12) (T := TX12) (N := 20) hx hb hts izRX12 tyX12 tyX12_ok nmX12 hown hK hP hD hS 0 rfl rfl 8 (by decide) (hts _ k864) (fun _ h9 => h9) rfl (by decide +kernel) rfl rfl (Nat.le_of_ble_eq_true rfl) dX12_feed_111 (fun H locs hP hD hS => ?_)
  have hP : va_P g.1 vwCl (List.flatten [[(o, .inr (10, [.int 0, .ref (a 0), .ref (a 1), .int hi, .ref (a 2), .ref (a 3), .int ac, .ref (a 4), .int 3, .int ba, .int en, .int tA, .int fl, .int de, .ref (a 5), .int iD, .int iO, .int tU, .ref (a 6), .ref (a 7)]))], [(a 0, .inl (g.2 0, 779, .inl (f 0))), (a 1, .inl (g.2 0, 779, .inl (f 1))), (a 2, .inl (g.2 0, 379, .inl (f 2))), (a 3, .inl (g.2 0, 4548, .inl (f 3))), (a 4, .inl (g.2 0, 400, .inl (upd (upd (upd (f 4) 0 ((((v1 : Int32).toUInt32 >>> ((24 : Int32).toUInt32 &&& Int32.toUInt32 31)).toInt32) &&& 255)) 1 ((((v1 : Int32).toUInt32 >>> ((16 : Int32).toUInt32 &&& Int32.toUInt32 31)).toInt32) &&& 255)) 2 ((((v1 : Int32).toUInt32 >>> ((8 : Int32).toUInt32 &&& Int32.toUInt32 31)).toInt32) &&& 255)))), (a 5, .inl (g.2 0, 6, .inl (f 5))), (a 6, .inl (g.2 0, 8, .inl (f 6))), (a 7, .inl (g.2 1, 256, .inl (f 7)))]]) H := hP
  have hD : va_D A (List.flatten [[(o, .inr (10, [.int 0, .ref (a 0), .ref (a 1), .int hi, .ref (a 2), .ref (a 3), .int ac, .ref (a 4), .int 3, .int ba, .int en, .int tA, .int fl, .int de, .ref (a 5), .int iD, .int iO, .int tU, .ref (a 6), .ref (a 7)]))], [(a 0, .inl (g.2 0, 779, .inl (f 0))), (a 1, .inl (g.2 0, 779, .inl (f 1))), (a 2, .inl (g.2 0, 379, .inl (f 2))), (a 3, .inl (g.2 0, 4548, .inl (f 3))), (a 4, .inl (g.2 0, 400, .inl (upd (upd (upd (f 4) 0 ((((v1 : Int32).toUInt32 >>> ((24 : Int32).toUInt32 &&& Int32.toUInt32 31)).toInt32) &&& 255)) 1 ((((v1 : Int32).toUInt32 >>> ((16 : Int32).toUInt32 &&& Int32.toUInt32 31)).toInt32) &&& 255)) 2 ((((v1 : Int32).toUInt32 >>> ((8 : Int32).toUInt32 &&& Int32.toUInt32 31)).toInt32) &&& 255)))), (a 5, .inl (g.2 0, 6, .inl (f 5))), (a 6, .inl (g.2 0, 8, .inl (f 6))), (a 7, .inl (g.2 1, 256, .inl (f 7)))]]) := hD
  refine lv_iinc (v := 3) (lv' := [(6, .int 3), (7, .int v1), (0, .ref o), (1, .int v1), (2, .int v2), (3, .int v3), (4, .int v4), (5, .int v5)]) hx hb dX12_feed_114 hl (k := 1) rfl (by decide) (by decide) rfl (fun ls hl => ?_)
  refine lv_goto (tgt := 23) hx hb dX12_feed_117 (by decide) ?_
  refine lv_iload hx hb dX12_feed_23 (lv_at hl 0 rfl) ?_
  refine lv_bipush (v := 20) hx hb dX12_feed_25 (by decide) ?_
  refine lv_icmp_ge (tgt := 120) hx hb dX12_feed_27 (by decide) (fun c8 => absurd c8 (by decide)) (fun _ => ?_)
  refine lv_iload hx hb dX12_feed_30 (lv_at hl 0 rfl) ?_
  refine lv_iconst (v := 4) hx hb dX12_feed_32 (by decide) ?_
  refine lv_icmp_ge (tgt := 40) hx hb dX12_feed_33 (by decide) (fun c9 => absurd c9 (by decide)) (fun _ => ?_)
  refine lv_iload_n hx hb dX12_feed_36 rfl (lv_at hl 3 rfl) ?_
  refine lv_goto (tgt := 76) hx hb dX12_feed_37 (by decide) ?_
  refine lv_istore (lv' := [(7, .int v1), (6, .int 3), (0, .ref o), (1, .int v1), (2, .int v2), (3, .int v3), (4, .int v4), (5, .int v5)]) hx hb dX12_feed_76 hl (by decide) rfl (fun ls hl => ?_)
  refine lv_aload_n hx hb dX12_feed_78 rfl (lv_at hl 2 rfl) ?_
  refine va_get (D := g.1) (ci := 10) (v := .ref (a 4)) (C := RX12) (T := TX12) (N := 20) hx hb hts izRX12 hown hK hP 0 rfl rfl 7 (by decide) (hts _ k819) (fun _ h9 => h9) rfl dX12_feed_79 ?_
  refine lv_aload_n hx hb dX12_feed_82 rfl (lv_at hl 2 rfl) ?_
  refine va_get (D := g.1) (ci := 10) (v := .int 3) (C := RX12) (T := TX12) (N := 20) hx hb hts izRX12 hown hK hP 0 rfl rfl 8 (by decide) (hts _ k864) (fun _ h9 => h9) rfl dX12_feed_83 ?_
  refine lv_iload hx hb dX12_feed_86 (lv_at hl 0 rfl) ?_
  refine lv_bipush (v := 24) hx hb dX12_feed_88 (by decide) ?_
  refine lv_bipush (v := 8) hx hb dX12_feed_90 (by decide) ?_
  refine lv_iload hx hb dX12_feed_92 (lv_at hl 1 rfl) ?_
  refine lv_iconst (v := 4) hx hb dX12_feed_94 (by decide) ?_
  refine lv_irem hx hb dX12_feed_95 (by decide) ?_
  refine ztop (r := 3) (by decide) ?_
  refine lv_imul hx hb dX12_feed_96 ?_
  refine ztop (r := 24) (by decide) ?_
  refine lv_isub hx hb dX12_feed_97 ?_
  refine ztop (r := 0) (by decide) ?_
  refine lv_iushr (v := ((v1 : Int32).toUInt32 >>> ((0 : Int32).toUInt32 &&& Int32.toUInt32 31)).toInt32) hx hb dX12_feed_98 rfl ?_
  refine lv_sipush (v := 255) hx hb dX12_feed_99 (by decide) ?_
  refine lv_iand hx hb dX12_feed_102 ?_
  refine va_iast hx hb hK hP hD hS 5 0 rfl rfl (zin rfl) dX12_feed_103 (fun H locs hP hD hS => ?_)
  have hP : va_P g.1 vwCl (List.flatten [[(o, .inr (10, [.int 0, .ref (a 0), .ref (a 1), .int hi, .ref (a 2), .ref (a 3), .int ac, .ref (a 4), .int 3, .int ba, .int en, .int tA, .int fl, .int de, .ref (a 5), .int iD, .int iO, .int tU, .ref (a 6), .ref (a 7)]))], [(a 0, .inl (g.2 0, 779, .inl (f 0))), (a 1, .inl (g.2 0, 779, .inl (f 1))), (a 2, .inl (g.2 0, 379, .inl (f 2))), (a 3, .inl (g.2 0, 4548, .inl (f 3))), (a 4, .inl (g.2 0, 400, .inl (upd (upd (upd (upd (f 4) 0 ((((v1 : Int32).toUInt32 >>> ((24 : Int32).toUInt32 &&& Int32.toUInt32 31)).toInt32) &&& 255)) 1 ((((v1 : Int32).toUInt32 >>> ((16 : Int32).toUInt32 &&& Int32.toUInt32 31)).toInt32) &&& 255)) 2 ((((v1 : Int32).toUInt32 >>> ((8 : Int32).toUInt32 &&& Int32.toUInt32 31)).toInt32) &&& 255)) 3 ((((v1 : Int32).toUInt32 >>> ((0 : Int32).toUInt32 &&& Int32.toUInt32 31)).toInt32) &&& 255)))), (a 5, .inl (g.2 0, 6, .inl (f 5))), (a 6, .inl (g.2 0, 8, .inl (f 6))), (a 7, .inl (g.2 1, 256, .inl (f 7)))]]) H := hP
  have hD : va_D A (List.flatten [[(o, .inr (10, [.int 0, .ref (a 0), .ref (a 1), .int hi, .ref (a 2), .ref (a 3), .int ac, .ref (a 4), .int 3, .int ba, .int en, .int tA, .int fl, .int de, .ref (a 5), .int iD, .int iO, .int tU, .ref (a 6), .ref (a 7)]))], [(a 0, .inl (g.2 0, 779, .inl (f 0))), (a 1, .inl (g.2 0, 779, .inl (f 1))), (a 2, .inl (g.2 0, 379, .inl (f 2))), (a 3, .inl (g.2 0, 4548, .inl (f 3))), (a 4, .inl (g.2 0, 400, .inl (upd (upd (upd (upd (f 4) 0 ((((v1 : Int32).toUInt32 >>> ((24 : Int32).toUInt32 &&& Int32.toUInt32 31)).toInt32) &&& 255)) 1 ((((v1 : Int32).toUInt32 >>> ((16 : Int32).toUInt32 &&& Int32.toUInt32 31)).toInt32) &&& 255)) 2 ((((v1 : Int32).toUInt32 >>> ((8 : Int32).toUInt32 &&& Int32.toUInt32 31)).toInt32) &&& 255)) 3 ((((v1 : Int32).toUInt32 >>> ((0 : Int32).toUInt32 &&& Int32.toUInt32 31)).toInt32) &&& 255)))), (a 5, .inl (g.2 0, 6, .inl (f 5))), (a 6, .inl (g.2 0, 8, .inl (f 6))), (a 7, .inl (g.2 1, 256, .inl (f 7)))]]) := hD
  refine lv_aload_n hx hb dX12_feed_104 rfl (lv_at hl 2 rfl) ?_
  refine lv_dup hx hb dX12_feed_105 rfl ?_
  refine va_get (D := g.1) (ci := 10) (v := .int 3) (C := RX12) (T := TX12) (N := 20) hx hb hts izRX12 hown hK hP 0 rfl rfl 8 (by decide) (hts _ k864) (fun _ h9 => h9) rfl dX12_feed_106 ?_
  refine lv_iconst (v := 1) hx hb dX12_feed_109 (by decide) ?_
  refine lv_iadd hx hb dX12_feed_110 ?_
  refine ztop (r := 4) (by decide) ?_
  refine va_put (D := g.1) (ci := 10) (v := .int 4) (ty := .int) (C := RX12) (T := TX12) (N := 20) hx hb hts izRX12 tyX12 tyX12_ok nmX12 hown hK hP hD hS 0 rfl rfl 8 (by decide) (hts _ k864) (fun _ h9 => h9) rfl (by decide +kernel) rfl rfl (Nat.le_of_ble_eq_true rfl) dX12_feed_111 (fun H locs hP hD hS => ?_)
  have hP : va_P g.1 vwCl (List.flatten [[(o, .inr (10, [.int 0, .ref (a 0), .ref (a 1), .int hi, .ref (a 2), .ref (a 3), .int ac, .ref (a 4), .int 4, .int ba, .int en, .int tA, .int fl, .int de, .ref (a 5), .int iD, .int iO, .int tU, .ref (a 6), .ref (a 7)]))], [(a 0, .inl (g.2 0, 779, .inl (f 0))), (a 1, .inl (g.2 0, 779, .inl (f 1))), (a 2, .inl (g.2 0, 379, .inl (f 2))), (a 3, .inl (g.2 0, 4548, .inl (f 3))), (a 4, .inl (g.2 0, 400, .inl (upd (upd (upd (upd (f 4) 0 ((((v1 : Int32).toUInt32 >>> ((24 : Int32).toUInt32 &&& Int32.toUInt32 31)).toInt32) &&& 255)) 1 ((((v1 : Int32).toUInt32 >>> ((16 : Int32).toUInt32 &&& Int32.toUInt32 31)).toInt32) &&& 255)) 2 ((((v1 : Int32).toUInt32 >>> ((8 : Int32).toUInt32 &&& Int32.toUInt32 31)).toInt32) &&& 255)) 3 ((((v1 : Int32).toUInt32 >>> ((0 : Int32).toUInt32 &&& Int32.toUInt32 31)).toInt32) &&& 255)))), (a 5, .inl (g.2 0, 6, .inl (f 5))), (a 6, .inl (g.2 0, 8, .inl (f 6))), (a 7, .inl (g.2 1, 256, .inl (f 7)))]]) H := hP
  have hD : va_D A (List.flatten [[(o, .inr (10, [.int 0, .ref (a 0), .ref (a 1), .int hi, .ref (a 2), .ref (a 3), .int ac, .ref (a 4), .int 4, .int ba, .int en, .int tA, .int fl, .int de, .ref (a 5), .int iD, .int iO, .int tU, .ref (a 6), .ref (a 7)]))], [(a 0, .inl (g.2 0, 779, .inl (f 0))), (a 1, .inl (g.2 0, 779, .inl (f 1))), (a 2, .inl (g.2 0, 379, .inl (f 2))), (a 3, .inl (g.2 0, 4548, .inl (f 3))), (a 4, .inl (g.2 0, 400, .inl (upd (upd (upd (upd (f 4) 0 ((((v1 : Int32).toUInt32 >>> ((24 : Int32).toUInt32 &&& Int32.toUInt32 31)).toInt32) &&& 255)) 1 ((((v1 : Int32).toUInt32 >>> ((16 : Int32).toUInt32 &&& Int32.toUInt32 31)).toInt32) &&& 255)) 2 ((((v1 : Int32).toUInt32 >>> ((8 : Int32).toUInt32 &&& Int32.toUInt32 31)).toInt32) &&& 255)) 3 ((((v1 : Int32).toUInt32 >>> ((0 : Int32).toUInt32 &&& Int32.toUInt32 31)).toInt32) &&& 255)))), (a 5, .inl (g.2 0, 6, .inl (f 5))), (a 6, .inl (g.2 0, 8, .inl (f 6))), (a 7, .inl (g.2 1, 256, .inl (f 7)))]]) := hD
  refine lv_iinc (v := 4) (lv' := [(6, .int 4), (7, .int v1), (0, .ref o), (1, .int v1), (2, .int v2), (3, .int v3), (4, .int v4), (5, .int v5)]) hx hb dX12_feed_114 hl (k := 1) rfl (by decide) (by decide) rfl (fun ls hl => ?_)
  refine lv_goto (tgt := 23) hx hb dX12_feed_117 (by decide) ?_
  refine lv_iload hx hb dX12_feed_23 (lv_at hl 0 rfl) ?_
  refine lv_bipush (v := 20) hx hb dX12_feed_25 (by decide) ?_
  refine lv_icmp_ge (tgt := 120) hx hb dX12_feed_27 (by decide) (fun c10 => absurd c10 (by decide)) (fun _ => ?_)
  refine lv_iload hx hb dX12_feed_30 (lv_at hl 0 rfl) ?_
  refine lv_iconst (v := 4) hx hb dX12_feed_32 (by decide) ?_
  refine lv_icmp_ge (tgt := 40) hx hb dX12_feed_33 (by decide) (fun _ => ?_) (fun c11 => absurd (by decide) c11)
  refine lv_iload hx hb dX12_feed_40 (lv_at hl 0 rfl) ?_
  refine lv_bipush (v := 8) hx hb dX12_feed_42 (by decide) ?_
  refine lv_icmp_ge (tgt := 51) hx hb dX12_feed_44 (by decide) (fun c12 => absurd c12 (by decide)) (fun _ => ?_)
  refine lv_iload_n hx hb dX12_feed_47 rfl (lv_at hl 4 rfl) ?_
  refine lv_goto (tgt := 76) hx hb dX12_feed_48 (by decide) ?_
  refine lv_istore (lv' := [(7, .int v2), (6, .int 4), (0, .ref o), (1, .int v1), (2, .int v2), (3, .int v3), (4, .int v4), (5, .int v5)]) hx hb dX12_feed_76 hl (by decide) rfl (fun ls hl => ?_)
  refine lv_aload_n hx hb dX12_feed_78 rfl (lv_at hl 2 rfl) ?_
  refine va_get (D := g.1) (ci := 10) (v := .ref (a 4)) (C := RX12) (T := TX12) (N := 20) hx hb hts izRX12 hown hK hP 0 rfl rfl 7 (by decide) (hts _ k819) (fun _ h9 => h9) rfl dX12_feed_79 ?_
  refine lv_aload_n hx hb dX12_feed_82 rfl (lv_at hl 2 rfl) ?_
  refine va_get (D := g.1) (ci := 10) (v := .int 4) (C := RX12) (T := TX12) (N := 20) hx hb hts izRX12 hown hK hP 0 rfl rfl 8 (by decide) (hts _ k864) (fun _ h9 => h9) rfl dX12_feed_83 ?_
  refine lv_iload hx hb dX12_feed_86 (lv_at hl 0 rfl) ?_
  refine lv_bipush (v := 24) hx hb dX12_feed_88 (by decide) ?_
  refine lv_bipush (v := 8) hx hb dX12_feed_90 (by decide) ?_
  refine lv_iload hx hb dX12_feed_92 (lv_at hl 1 rfl) ?_
  refine lv_iconst (v := 4) hx hb dX12_feed_94 (by decide) ?_
  refine lv_irem hx hb dX12_feed_95 (by decide) ?_
  refine ztop (r := 0) (by decide) ?_
  refine lv_imul hx hb dX12_feed_96 ?_
  refine ztop (r := 0) (by decide) ?_
  refine lv_isub hx hb dX12_feed_97 ?_
  refine ztop (r := 24) (by decide) ?_
  refine lv_iushr (v := ((v2 : Int32).toUInt32 >>> ((24 : Int32).toUInt32 &&& Int32.toUInt32 31)).toInt32) hx hb dX12_feed_98 rfl ?_
  refine lv_sipush (v := 255) hx hb dX12_feed_99 (by decide) ?_
  refine lv_iand hx hb dX12_feed_102 ?_
  refine va_iast hx hb hK hP hD hS 5 0 rfl rfl (zin rfl) dX12_feed_103 (fun H locs hP hD hS => ?_)
  have hP : va_P g.1 vwCl (List.flatten [[(o, .inr (10, [.int 0, .ref (a 0), .ref (a 1), .int hi, .ref (a 2), .ref (a 3), .int ac, .ref (a 4), .int 4, .int ba, .int en, .int tA, .int fl, .int de, .ref (a 5), .int iD, .int iO, .int tU, .ref (a 6), .ref (a 7)]))], [(a 0, .inl (g.2 0, 779, .inl (f 0))), (a 1, .inl (g.2 0, 779, .inl (f 1))), (a 2, .inl (g.2 0, 379, .inl (f 2))), (a 3, .inl (g.2 0, 4548, .inl (f 3))), (a 4, .inl (g.2 0, 400, .inl (upd (upd (upd (upd (upd (f 4) 0 ((((v1 : Int32).toUInt32 >>> ((24 : Int32).toUInt32 &&& Int32.toUInt32 31)).toInt32) &&& 255)) 1 ((((v1 : Int32).toUInt32 >>> ((16 : Int32).toUInt32 &&& Int32.toUInt32 31)).toInt32) &&& 255)) 2 ((((v1 : Int32).toUInt32 >>> ((8 : Int32).toUInt32 &&& Int32.toUInt32 31)).toInt32) &&& 255)) 3 ((((v1 : Int32).toUInt32 >>> ((0 : Int32).toUInt32 &&& Int32.toUInt32 31)).toInt32) &&& 255)) 4 ((((v2 : Int32).toUInt32 >>> ((24 : Int32).toUInt32 &&& Int32.toUInt32 31)).toInt32) &&& 255)))), (a 5, .inl (g.2 0, 6, .inl (f 5))), (a 6, .inl (g.2 0, 8, .inl (f 6))), (a 7, .inl (g.2 1, 256, .inl (f 7)))]]) H := hP
  have hD : va_D A (List.flatten [[(o, .inr (10, [.int 0, .ref (a 0), .ref (a 1), .int hi, .ref (a 2), .ref (a 3), .int ac, .ref (a 4), .int 4, .int ba, .int en, .int tA, .int fl, .int de, .ref (a 5), .int iD, .int iO, .int tU, .ref (a 6), .ref (a 7)]))], [(a 0, .inl (g.2 0, 779, .inl (f 0))), (a 1, .inl (g.2 0, 779, .inl (f 1))), (a 2, .inl (g.2 0, 379, .inl (f 2))), (a 3, .inl (g.2 0, 4548, .inl (f 3))), (a 4, .inl (g.2 0, 400, .inl (upd (upd (upd (upd (upd (f 4) 0 ((((v1 : Int32).toUInt32 >>> ((24 : Int32).toUInt32 &&& Int32.toUInt32 31)).toInt32) &&& 255)) 1 ((((v1 : Int32).toUInt32 >>> ((16 : Int32).toUInt32 &&& Int32.toUInt32 31)).toInt32) &&& 255)) 2 ((((v1 : Int32).toUInt32 >>> ((8 : Int32).toUInt32 &&& Int32.toUInt32 31)).toInt32) &&& 255)) 3 ((((v1 : Int32).toUInt32 >>> ((0 : Int32).toUInt32 &&& Int32.toUInt32 31)).toInt32) &&& 255)) 4 ((((v2 : Int32).toUInt32 >>> ((24 : Int32).toUInt32 &&& Int32.toUInt32 31)).toInt32) &&& 255)))), (a 5, .inl (g.2 0, 6, .inl (f 5))), (a 6, .inl (g.2 0, 8, .inl (f 6))), (a 7, .inl (g.2 1, 256, .inl (f 7)))]]) := hD
  refine lv_aload_n hx hb dX12_feed_104 rfl (lv_at hl 2 rfl) ?_
  refine lv_dup hx hb dX12_feed_105 rfl ?_
  refine va_get (D := g.1) (ci := 10) (v := .int 4) (C := RX12) (T := TX12) (N := 20) hx hb hts izRX12 hown hK hP 0 rfl rfl 8 (by decide) (hts _ k864) (fun _ h9 => h9) rfl dX12_feed_106 ?_
  refine lv_iconst (v := 1) hx hb dX12_feed_109 (by decide) ?_
  refine lv_iadd hx hb dX12_feed_110 ?_
  refine ztop (r := 5) (by decide) ?_
  refine va_put (D := g.1) (ci := 10) (v := .int 5) (ty := .int) (C := RX12) (T := TX12) (N := 20) hx hb hts izRX12 tyX12 tyX12_ok nmX12 hown hK hP hD hS 0 rfl rfl 8 (by decide) (hts _ k864) (fun _ h9 => h9) rfl (by decide +kernel) rfl rfl (Nat.le_of_ble_eq_true rfl) dX12_feed_111 (fun H locs hP hD hS => ?_)
  have hP : va_P g.1 vwCl (List.flatten [[(o, .inr (10, [.int 0, .ref (a 0), .ref (a 1), .int hi, .ref (a 2), .ref (a 3), .int ac, .ref (a 4), .int 5, .int ba, .int en, .int tA, .int fl, .int de, .ref (a 5), .int iD, .int iO, .int tU, .ref (a 6), .ref (a 7)]))], [(a 0, .inl (g.2 0, 779, .inl (f 0))), (a 1, .inl (g.2 0, 779, .inl (f 1))), (a 2, .inl (g.2 0, 379, .inl (f 2))), (a 3, .inl (g.2 0, 4548, .inl (f 3))), (a 4, .inl (g.2 0, 400, .inl (upd (upd (upd (upd (upd (f 4) 0 ((((v1 : Int32).toUInt32 >>> ((24 : Int32).toUInt32 &&& Int32.toUInt32 31)).toInt32) &&& 255)) 1 ((((v1 : Int32).toUInt32 >>> ((16 : Int32).toUInt32 &&& Int32.toUInt32 31)).toInt32) &&& 255)) 2 ((((v1 : Int32).toUInt32 >>> ((8 : Int32).toUInt32 &&& Int32.toUInt32 31)).toInt32) &&& 255)) 3 ((((v1 : Int32).toUInt32 >>> ((0 : Int32).toUInt32 &&& Int32.toUInt32 31)).toInt32) &&& 255)) 4 ((((v2 : Int32).toUInt32 >>> ((24 : Int32).toUInt32 &&& Int32.toUInt32 31)).toInt32) &&& 255)))), (a 5, .inl (g.2 0, 6, .inl (f 5))), (a 6, .inl (g.2 0, 8, .inl (f 6))), (a 7, .inl (g.2 1, 256, .inl (f 7)))]]) H := hP
  have hD : va_D A (List.flatten [[(o, .inr (10, [.int 0, .ref (a 0), .ref (a 1), .int hi, .ref (a 2), .ref (a 3), .int ac, .ref (a 4), .int 5, .int ba, .int en, .int tA, .int fl, .int de, .ref (a 5), .int iD, .int iO, .int tU, .ref (a 6), .ref (a 7)]))], [(a 0, .inl (g.2 0, 779, .inl (f 0))), (a 1, .inl (g.2 0, 779, .inl (f 1))), (a 2, .inl (g.2 0, 379, .inl (f 2))), (a 3, .inl (g.2 0, 4548, .inl (f 3))), (a 4, .inl (g.2 0, 400, .inl (upd (upd (upd (upd (upd (f 4) 0 ((((v1 : Int32).toUInt32 >>> ((24 : Int32).toUInt32 &&& Int32.toUInt32 31)).toInt32) &&& 255)) 1 ((((v1 : Int32).toUInt32 >>> ((16 : Int32).toUInt32 &&& Int32.toUInt32 31)).toInt32) &&& 255)) 2 ((((v1 : Int32).toUInt32 >>> ((8 : Int32).toUInt32 &&& Int32.toUInt32 31)).toInt32) &&& 255)) 3 ((((v1 : Int32).toUInt32 >>> ((0 : Int32).toUInt32 &&& Int32.toUInt32 31)).toInt32) &&& 255)) 4 ((((v2 : Int32).toUInt32 >>> ((24 : Int32).toUInt32 &&& Int32.toUInt32 31)).toInt32) &&& 255)))), (a 5, .inl (g.2 0, 6, .inl (f 5))), (a 6, .inl (g.2 0, 8, .inl (f 6))), (a 7, .inl (g.2 1, 256, .inl (f 7)))]]) := hD
  refine lv_iinc (v := 5) (lv' := [(6, .int 5), (7, .int v2), (0, .ref o), (1, .int v1), (2, .int v2), (3, .int v3), (4, .int v4), (5, .int v5)]) hx hb dX12_feed_114 hl (k := 1) rfl (by decide) (by decide) rfl (fun ls hl => ?_)
  refine lv_goto (tgt := 23) hx hb dX12_feed_117 (by decide) ?_
  refine lv_iload hx hb dX12_feed_23 (lv_at hl 0 rfl) ?_
  refine lv_bipush (v := 20) hx hb dX12_feed_25 (by decide) ?_
  refine lv_icmp_ge (tgt := 120) hx hb dX12_feed_27 (by decide) (fun c13 => absurd c13 (by decide)) (fun _ => ?_)
  refine lv_iload hx hb dX12_feed_30 (lv_at hl 0 rfl) ?_
  refine lv_iconst (v := 4) hx hb dX12_feed_32 (by decide) ?_
  refine lv_icmp_ge (tgt := 40) hx hb dX12_feed_33 (by decide) (fun _ => ?_) (fun c14 => absurd (by decide) c14)
  refine lv_iload hx hb dX12_feed_40 (lv_at hl 0 rfl) ?_
  refine lv_bipush (v := 8) hx hb dX12_feed_42 (by decide) ?_
  refine lv_icmp_ge (tgt := 51) hx hb dX12_feed_44 (by decide) (fun c15 => absurd c15 (by decide)) (fun _ => ?_)
  refine lv_iload_n hx hb dX12_feed_47 rfl (lv_at hl 4 rfl) ?_
  refine lv_goto (tgt := 76) hx hb dX12_feed_48 (by decide) ?_
  refine lv_istore (lv' := [(7, .int v2), (6, .int 5), (0, .ref o), (1, .int v1), (2, .int v2), (3, .int v3), (4, .int v4), (5, .int v5)]) hx hb dX12_feed_76 hl (by decide) rfl (fun ls hl => ?_)
  refine lv_aload_n hx hb dX12_feed_78 rfl (lv_at hl 2 rfl) ?_
  refine va_get (D := g.1) (ci := 10) (v := .ref (a 4)) (C := RX12) (T := TX12) (N := 20) hx hb hts izRX12 hown hK hP 0 rfl rfl 7 (by decide) (hts _ k819) (fun _ h9 => h9) rfl dX12_feed_79 ?_
  refine lv_aload_n hx hb dX12_feed_82 rfl (lv_at hl 2 rfl) ?_
  refine va_get (D := g.1) (ci := 10) (v := .int 5) (C := RX12) (T := TX12) (N := 20) hx hb hts izRX12 hown hK hP 0 rfl rfl 8 (by decide) (hts _ k864) (fun _ h9 => h9) rfl dX12_feed_83 ?_
  refine lv_iload hx hb dX12_feed_86 (lv_at hl 0 rfl) ?_
  refine lv_bipush (v := 24) hx hb dX12_feed_88 (by decide) ?_
  refine lv_bipush (v := 8) hx hb dX12_feed_90 (by decide) ?_
  refine lv_iload hx hb dX12_feed_92 (lv_at hl 1 rfl) ?_
  refine lv_iconst (v := 4) hx hb dX12_feed_94 (by decide) ?_
  refine lv_irem hx hb dX12_feed_95 (by decide) ?_
  refine ztop (r := 1) (by decide) ?_
  refine lv_imul hx hb dX12_feed_96 ?_
  refine ztop (r := 8) (by decide) ?_
  refine lv_isub hx hb dX12_feed_97 ?_
  refine ztop (r := 16) (by decide) ?_
  refine lv_iushr (v := ((v2 : Int32).toUInt32 >>> ((16 : Int32).toUInt32 &&& Int32.toUInt32 31)).toInt32) hx hb dX12_feed_98 rfl ?_
  refine lv_sipush (v := 255) hx hb dX12_feed_99 (by decide) ?_
  refine lv_iand hx hb dX12_feed_102 ?_
  refine va_iast hx hb hK hP hD hS 5 0 rfl rfl (zin rfl) dX12_feed_103 (fun H locs hP hD hS => ?_)
  have hP : va_P g.1 vwCl (List.flatten [[(o, .inr (10, [.int 0, .ref (a 0), .ref (a 1), .int hi, .ref (a 2), .ref (a 3), .int ac, .ref (a 4), .int 5, .int ba, .int en, .int tA, .int fl, .int de, .ref (a 5), .int iD, .int iO, .int tU, .ref (a 6), .ref (a 7)]))], [(a 0, .inl (g.2 0, 779, .inl (f 0))), (a 1, .inl (g.2 0, 779, .inl (f 1))), (a 2, .inl (g.2 0, 379, .inl (f 2))), (a 3, .inl (g.2 0, 4548, .inl (f 3))), (a 4, .inl (g.2 0, 400, .inl (upd (upd (upd (upd (upd (upd (f 4) 0 ((((v1 : Int32).toUInt32 >>> ((24 : Int32).toUInt32 &&& Int32.toUInt32 31)).toInt32) &&& 255)) 1 ((((v1 : Int32).toUInt32 >>> ((16 : Int32).toUInt32 &&& Int32.toUInt32 31)).toInt32) &&& 255)) 2 ((((v1 : Int32).toUInt32 >>> ((8 : Int32).toUInt32 &&& Int32.toUInt32 31)).toInt32) &&& 255)) 3 ((((v1 : Int32).toUInt32 >>> ((0 : Int32).toUInt32 &&& Int32.toUInt32 31)).toInt32) &&& 255)) 4 ((((v2 : Int32).toUInt32 >>> ((24 : Int32).toUInt32 &&& Int32.toUInt32 31)).toInt32) &&& 255)) 5 ((((v2 : Int32).toUInt32 >>> ((16 : Int32).toUInt32 &&& Int32.toUInt32 31)).toInt32) &&& 255)))), (a 5, .inl (g.2 0, 6, .inl (f 5))), (a 6, .inl (g.2 0, 8, .inl (f 6))), (a 7, .inl (g.2 1, 256, .inl (f 7)))]]) H := hP
  have hD : va_D A (List.flatten [[(o, .inr (10, [.int 0, .ref (a 0), .ref (a 1), .int hi, .ref (a 2), .ref (a 3), .int ac, .ref (a 4), .int 5, .int ba, .int en, .int tA, .int fl, .int de, .ref (a 5), .int iD, .int iO, .int tU, .ref (a 6), .ref (a 7)]))], [(a 0, .inl (g.2 0, 779, .inl (f 0))), (a 1, .inl (g.2 0, 779, .inl (f 1))), (a 2, .inl (g.2 0, 379, .inl (f 2))), (a 3, .inl (g.2 0, 4548, .inl (f 3))), (a 4, .inl (g.2 0, 400, .inl (upd (upd (upd (upd (upd (upd (f 4) 0 ((((v1 : Int32).toUInt32 >>> ((24 : Int32).toUInt32 &&& Int32.toUInt32 31)).toInt32) &&& 255)) 1 ((((v1 : Int32).toUInt32 >>> ((16 : Int32).toUInt32 &&& Int32.toUInt32 31)).toInt32) &&& 255)) 2 ((((v1 : Int32).toUInt32 >>> ((8 : Int32).toUInt32 &&& Int32.toUInt32 31)).toInt32) &&& 255)) 3 ((((v1 : Int32).toUInt32 >>> ((0 : Int32).toUInt32 &&& Int32.toUInt32 31)).toInt32) &&& 255)) 4 ((((v2 : Int32).toUInt32 >>> ((24 : Int32).toUInt32 &&& Int32.toUInt32 31)).toInt32) &&& 255)) 5 ((((v2 : Int32).toUInt32 >>> ((16 : Int32).toUInt32 &&& Int32.toUInt32 31)).toInt32) &&& 255)))), (a 5, .inl (g.2 0, 6, .inl (f 5))), (a 6, .inl (g.2 0, 8, .inl (f 6))), (a 7, .inl (g.2 1, 256, .inl (f 7)))]]) := hD
  refine lv_aload_n hx hb dX12_feed_104 rfl (lv_at hl 2 rfl) ?_
  refine lv_dup hx hb dX12_feed_105 rfl ?_
  refine va_get (D := g.1) (ci := 10) (v := .int 5) (C := RX12) (T := TX12) (N := 20) hx hb hts izRX12 hown hK hP 0 rfl rfl 8 (by decide) (hts _ k864) (fun _ h9 => h9) rfl dX12_feed_106 ?_
  refine lv_iconst (v := 1) hx hb dX12_feed_109 (by decide) ?_
  refine lv_iadd hx hb dX12_feed_110 ?_
  refine ztop (r := 6) (by decide) ?_
  refine va_put (D := g.1) (ci := 10) (v := .int 6) (ty := .int) (C := RX12) (T := TX12) (N := 20) hx hb hts izRX12 tyX12 tyX12_ok nmX12 hown hK hP hD hS 0 rfl rfl 8 (by decide) (hts _ k864) (fun _ h9 => h9) rfl (by decide +kernel) rfl rfl (Nat.le_of_ble_eq_true rfl) dX12_feed_111 (fun H locs hP hD hS => ?_)
  have hP : va_P g.1 vwCl (List.flatten [[(o, .inr (10, [.int 0, .ref (a 0), .ref (a 1), .int hi, .ref (a 2), .ref (a 3), .int ac, .ref (a 4), .int 6, .int ba, .int en, .int tA, .int fl, .int de, .ref (a 5), .int iD, .int iO, .int tU, .ref (a 6), .ref (a 7)]))], [(a 0, .inl (g.2 0, 779, .inl (f 0))), (a 1, .inl (g.2 0, 779, .inl (f 1))), (a 2, .inl (g.2 0, 379, .inl (f 2))), (a 3, .inl (g.2 0, 4548, .inl (f 3))), (a 4, .inl (g.2 0, 400, .inl (upd (upd (upd (upd (upd (upd (f 4) 0 ((((v1 : Int32).toUInt32 >>> ((24 : Int32).toUInt32 &&& Int32.toUInt32 31)).toInt32) &&& 255)) 1 ((((v1 : Int32).toUInt32 >>> ((16 : Int32).toUInt32 &&& Int32.toUInt32 31)).toInt32) &&& 255)) 2 ((((v1 : Int32).toUInt32 >>> ((8 : Int32).toUInt32 &&& Int32.toUInt32 31)).toInt32) &&& 255)) 3 ((((v1 : Int32).toUInt32 >>> ((0 : Int32).toUInt32 &&& Int32.toUInt32 31)).toInt32) &&& 255)) 4 ((((v2 : Int32).toUInt32 >>> ((24 : Int32).toUInt32 &&& Int32.toUInt32 31)).toInt32) &&& 255)) 5 ((((v2 : Int32).toUInt32 >>> ((16 : Int32).toUInt32 &&& Int32.toUInt32 31)).toInt32) &&& 255)))), (a 5, .inl (g.2 0, 6, .inl (f 5))), (a 6, .inl (g.2 0, 8, .inl (f 6))), (a 7, .inl (g.2 1, 256, .inl (f 7)))]]) H := hP
  have hD : va_D A (List.flatten [[(o, .inr (10, [.int 0, .ref (a 0), .ref (a 1), .int hi, .ref (a 2), .ref (a 3), .int ac, .ref (a 4), .int 6, .int ba, .int en, .int tA, .int fl, .int de, .ref (a 5), .int iD, .int iO, .int tU, .ref (a 6), .ref (a 7)]))], [(a 0, .inl (g.2 0, 779, .inl (f 0))), (a 1, .inl (g.2 0, 779, .inl (f 1))), (a 2, .inl (g.2 0, 379, .inl (f 2))), (a 3, .inl (g.2 0, 4548, .inl (f 3))), (a 4, .inl (g.2 0, 400, .inl (upd (upd (upd (upd (upd (upd (f 4) 0 ((((v1 : Int32).toUInt32 >>> ((24 : Int32).toUInt32 &&& Int32.toUInt32 31)).toInt32) &&& 255)) 1 ((((v1 : Int32).toUInt32 >>> ((16 : Int32).toUInt32 &&& Int32.toUInt32 31)).toInt32) &&& 255)) 2 ((((v1 : Int32).toUInt32 >>> ((8 : Int32).toUInt32 &&& Int32.toUInt32 31)).toInt32) &&& 255)) 3 ((((v1 : Int32).toUInt32 >>> ((0 : Int32).toUInt32 &&& Int32.toUInt32 31)).toInt32) &&& 255)) 4 ((((v2 : Int32).toUInt32 >>> ((24 : Int32).toUInt32 &&& Int32.toUInt32 31)).toInt32) &&& 255)) 5 ((((v2 : Int32).toUInt32 >>> ((16 : Int32).toUInt32 &&& Int32.toUInt32 31)).toInt32) &&& 255)))), (a 5, .inl (g.2 0, 6, .inl (f 5))), (a 6, .inl (g.2 0, 8, .inl (f 6))), (a 7, .inl (g.2 1, 256, .inl (f 7)))]]) := hD
  refine lv_iinc (v := 6) (lv' := [(6, .int 6), (7, .int v2), (0, .ref o), (1, .int v1), (2, .int v2), (3, .int v3), (4, .int v4), (5, .int v5)]) hx hb dX12_feed_114 hl (k := 1) rfl (by decide) (by decide) rfl (fun ls hl => ?_)
  refine lv_goto (tgt := 23) hx hb dX12_feed_117 (by decide) ?_
  refine lv_iload hx hb dX12_feed_23 (lv_at hl 0 rfl) ?_
  refine lv_bipush (v := 20) hx hb dX12_feed_25 (by decide) ?_
  refine lv_icmp_ge (tgt := 120) hx hb dX12_feed_27 (by decide) (fun c16 => absurd c16 (by decide)) (fun _ => ?_)
  refine lv_iload hx hb dX12_feed_30 (lv_at hl 0 rfl) ?_
  refine lv_iconst (v := 4) hx hb dX12_feed_32 (by decide) ?_
  refine lv_icmp_ge (tgt := 40) hx hb dX12_feed_33 (by decide) (fun _ => ?_) (fun c17 => absurd (by decide) c17)
  refine lv_iload hx hb dX12_feed_40 (lv_at hl 0 rfl) ?_
  refine lv_bipush (v := 8) hx hb dX12_feed_42 (by decide) ?_
  refine lv_icmp_ge (tgt := 51) hx hb dX12_feed_44 (by decide) (fun c18 => absurd c18 (by decide)) (fun _ => ?_)
  refine lv_iload_n hx hb dX12_feed_47 rfl (lv_at hl 4 rfl) ?_
  refine lv_goto (tgt := 76) hx hb dX12_feed_48 (by decide) ?_
  refine lv_istore (lv' := [(7, .int v2), (6, .int 6), (0, .ref o), (1, .int v1), (2, .int v2), (3, .int v3), (4, .int v4), (5, .int v5)]) hx hb dX12_feed_76 hl (by decide) rfl (fun ls hl => ?_)
  refine lv_aload_n hx hb dX12_feed_78 rfl (lv_at hl 2 rfl) ?_
  refine va_get (D := g.1) (ci := 10) (v := .ref (a 4)) (C := RX12) (T := TX12) (N := 20) hx hb hts izRX12 hown hK hP 0 rfl rfl 7 (by decide) (hts _ k819) (fun _ h9 => h9) rfl dX12_feed_79 ?_
  refine lv_aload_n hx hb dX12_feed_82 rfl (lv_at hl 2 rfl) ?_
  refine va_get (D := g.1) (ci := 10) (v := .int 6) (C := RX12) (T := TX12) (N := 20) hx hb hts izRX12 hown hK hP 0 rfl rfl 8 (by decide) (hts _ k864) (fun _ h9 => h9) rfl dX12_feed_83 ?_
  refine lv_iload hx hb dX12_feed_86 (lv_at hl 0 rfl) ?_
  refine lv_bipush (v := 24) hx hb dX12_feed_88 (by decide) ?_
  refine lv_bipush (v := 8) hx hb dX12_feed_90 (by decide) ?_
  refine lv_iload hx hb dX12_feed_92 (lv_at hl 1 rfl) ?_
  refine lv_iconst (v := 4) hx hb dX12_feed_94 (by decide) ?_
  refine lv_irem hx hb dX12_feed_95 (by decide) ?_
  refine ztop (r := 2) (by decide) ?_
  refine lv_imul hx hb dX12_feed_96 ?_
  refine ztop (r := 16) (by decide) ?_
  refine lv_isub hx hb dX12_feed_97 ?_
  refine ztop (r := 8) (by decide) ?_
  refine lv_iushr (v := ((v2 : Int32).toUInt32 >>> ((8 : Int32).toUInt32 &&& Int32.toUInt32 31)).toInt32) hx hb dX12_feed_98 rfl ?_
  refine lv_sipush (v := 255) hx hb dX12_feed_99 (by decide) ?_
  refine lv_iand hx hb dX12_feed_102 ?_
  refine va_iast hx hb hK hP hD hS 5 0 rfl rfl (zin rfl) dX12_feed_103 (fun H locs hP hD hS => ?_)
  have hP : va_P g.1 vwCl (List.flatten [[(o, .inr (10, [.int 0, .ref (a 0), .ref (a 1), .int hi, .ref (a 2), .ref (a 3), .int ac, .ref (a 4), .int 6, .int ba, .int en, .int tA, .int fl, .int de, .ref (a 5), .int iD, .int iO, .int tU, .ref (a 6), .ref (a 7)]))], [(a 0, .inl (g.2 0, 779, .inl (f 0))), (a 1, .inl (g.2 0, 779, .inl (f 1))), (a 2, .inl (g.2 0, 379, .inl (f 2))), (a 3, .inl (g.2 0, 4548, .inl (f 3))), (a 4, .inl (g.2 0, 400, .inl (upd (upd (upd (upd (upd (upd (upd (f 4) 0 ((((v1 : Int32).toUInt32 >>> ((24 : Int32).toUInt32 &&& Int32.toUInt32 31)).toInt32) &&& 255)) 1 ((((v1 : Int32).toUInt32 >>> ((16 : Int32).toUInt32 &&& Int32.toUInt32 31)).toInt32) &&& 255)) 2 ((((v1 : Int32).toUInt32 >>> ((8 : Int32).toUInt32 &&& Int32.toUInt32 31)).toInt32) &&& 255)) 3 ((((v1 : Int32).toUInt32 >>> ((0 : Int32).toUInt32 &&& Int32.toUInt32 31)).toInt32) &&& 255)) 4 ((((v2 : Int32).toUInt32 >>> ((24 : Int32).toUInt32 &&& Int32.toUInt32 31)).toInt32) &&& 255)) 5 ((((v2 : Int32).toUInt32 >>> ((16 : Int32).toUInt32 &&& Int32.toUInt32 31)).toInt32) &&& 255)) 6 ((((v2 : Int32).toUInt32 >>> ((8 : Int32).toUInt32 &&& Int32.toUInt32 31)).toInt32) &&& 255)))), (a 5, .inl (g.2 0, 6, .inl (f 5))), (a 6, .inl (g.2 0, 8, .inl (f 6))), (a 7, .inl (g.2 1, 256, .inl (f 7)))]]) H := hP
  have hD : va_D A (List.flatten [[(o, .inr (10, [.int 0, .ref (a 0), .ref (a 1), .int hi, .ref (a 2), .ref (a 3), .int ac, .ref (a 4), .int 6, .int ba, .int en, .int tA, .int fl, .int de, .ref (a 5), .int iD, .int iO, .int tU, .ref (a 6), .ref (a 7)]))], [(a 0, .inl (g.2 0, 779, .inl (f 0))), (a 1, .inl (g.2 0, 779, .inl (f 1))), (a 2, .inl (g.2 0, 379, .inl (f 2))), (a 3, .inl (g.2 0, 4548, .inl (f 3))), (a 4, .inl (g.2 0, 400, .inl (upd (upd (upd (upd (upd (upd (upd (f 4) 0 ((((v1 : Int32).toUInt32 >>> ((24 : Int32).toUInt32 &&& Int32.toUInt32 31)).toInt32) &&& 255)) 1 ((((v1 : Int32).toUInt32 >>> ((16 : Int32).toUInt32 &&& Int32.toUInt32 31)).toInt32) &&& 255)) 2 ((((v1 : Int32).toUInt32 >>> ((8 : Int32).toUInt32 &&& Int32.toUInt32 31)).toInt32) &&& 255)) 3 ((((v1 : Int32).toUInt32 >>> ((0 : Int32).toUInt32 &&& Int32.toUInt32 31)).toInt32) &&& 255)) 4 ((((v2 : Int32).toUInt32 >>> ((24 : Int32).toUInt32 &&& Int32.toUInt32 31)).toInt32) &&& 255)) 5 ((((v2 : Int32).toUInt32 >>> ((16 : Int32).toUInt32 &&& Int32.toUInt32 31)).toInt32) &&& 255)) 6 ((((v2 : Int32).toUInt32 >>> ((8 : Int32).toUInt32 &&& Int32.toUInt32 31)).toInt32) &&& 255)))), (a 5, .inl (g.2 0, 6, .inl (f 5))), (a 6, .inl (g.2 0, 8, .inl (f 6))), (a 7, .inl (g.2 1, 256, .inl (f 7)))]]) := hD
  refine lv_aload_n hx hb dX12_feed_104 rfl (lv_at hl 2 rfl) ?_
  refine lv_dup hx hb dX12_feed_105 rfl ?_
  refine va_get (D := g.1) (ci := 10) (v := .int 6) (C := RX12) (T := TX12) (N := 20) hx hb hts izRX12 hown hK hP 0 rfl rfl 8 (by decide) (hts _ k864) (fun _ h9 => h9) rfl dX12_feed_106 ?_
  refine lv_iconst (v := 1) hx hb dX12_feed_109 (by decide) ?_
  refine lv_iadd hx hb dX12_feed_110 ?_
  refine ztop (r := 7) (by decide) ?_
  refine va_put (D := g.1) (ci := 10) (v := .int 7) (ty := .int) (C := RX12) (T := TX12) (N := 20) hx hb hts izRX12 tyX12 tyX12_ok nmX12 hown hK hP hD hS 0 rfl rfl 8 (by decide) (hts _ k864) (fun _ h9 => h9) rfl (by decide +kernel) rfl rfl (Nat.le_of_ble_eq_true rfl) dX12_feed_111 (fun H locs hP hD hS => ?_)
  have hP : va_P g.1 vwCl (List.flatten [[(o, .inr (10, [.int 0, .ref (a 0), .ref (a 1), .int hi, .ref (a 2), .ref (a 3), .int ac, .ref (a 4), .int 7, .int ba, .int en, .int tA, .int fl, .int de, .ref (a 5), .int iD, .int iO, .int tU, .ref (a 6), .ref (a 7)]))], [(a 0, .inl (g.2 0, 779, .inl (f 0))), (a 1, .inl (g.2 0, 779, .inl (f 1))), (a 2, .inl (g.2 0, 379, .inl (f 2))), (a 3, .inl (g.2 0, 4548, .inl (f 3))), (a 4, .inl (g.2 0, 400, .inl (upd (upd (upd (upd (upd (upd (upd (f 4) 0 ((((v1 : Int32).toUInt32 >>> ((24 : Int32).toUInt32 &&& Int32.toUInt32 31)).toInt32) &&& 255)) 1 ((((v1 : Int32).toUInt32 >>> ((16 : Int32).toUInt32 &&& Int32.toUInt32 31)).toInt32) &&& 255)) 2 ((((v1 : Int32).toUInt32 >>> ((8 : Int32).toUInt32 &&& Int32.toUInt32 31)).toInt32) &&& 255)) 3 ((((v1 : Int32).toUInt32 >>> ((0 : Int32).toUInt32 &&& Int32.toUInt32 31)).toInt32) &&& 255)) 4 ((((v2 : Int32).toUInt32 >>> ((24 : Int32).toUInt32 &&& Int32.toUInt32 31)).toInt32) &&& 255)) 5 ((((v2 : Int32).toUInt32 >>> ((16 : Int32).toUInt32 &&& Int32.toUInt32 31)).toInt32) &&& 255)) 6 ((((v2 : Int32).toUInt32 >>> ((8 : Int32).toUInt32 &&& Int32.toUInt32 31)).toInt32) &&& 255)))), (a 5, .inl (g.2 0, 6, .inl (f 5))), (a 6, .inl (g.2 0, 8, .inl (f 6))), (a 7, .inl (g.2 1, 256, .inl (f 7)))]]) H := hP
  have hD : va_D A (List.flatten [[(o, .inr (10, [.int 0, .ref (a 0), .ref (a 1), .int hi, .ref (a 2), .ref (a 3), .int ac, .ref (a 4), .int 7, .int ba, .int en, .int tA, .int fl, .int de, .ref (a 5), .int iD, .int iO, .int tU, .ref (a 6), .ref (a 7)]))], [(a 0, .inl (g.2 0, 779, .inl (f 0))), (a 1, .inl (g.2 0, 779, .inl (f 1))), (a 2, .inl (g.2 0, 379, .inl (f 2))), (a 3, .inl (g.2 0, 4548, .inl (f 3))), (a 4, .inl (g.2 0, 400, .inl (upd (upd (upd (upd (upd (upd (upd (f 4) 0 ((((v1 : Int32).toUInt32 >>> ((24 : Int32).toUInt32 &&& Int32.toUInt32 31)).toInt32) &&& 255)) 1 ((((v1 : Int32).toUInt32 >>> ((16 : Int32).toUInt32 &&& Int32.toUInt32 31)).toInt32) &&& 255)) 2 ((((v1 : Int32).toUInt32 >>> ((8 : Int32).toUInt32 &&& Int32.toUInt32 31)).toInt32) &&& 255)) 3 ((((v1 : Int32).toUInt32 >>> ((0 : Int32).toUInt32 &&& Int32.toUInt32 31)).toInt32) &&& 255)) 4 ((((v2 : Int32).toUInt32 >>> ((24 : Int32).toUInt32 &&& Int32.toUInt32 31)).toInt32) &&& 255)) 5 ((((v2 : Int32).toUInt32 >>> ((16 : Int32).toUInt32 &&& Int32.toUInt32 31)).toInt32) &&& 255)) 6 ((((v2 : Int32).toUInt32 >>> ((8 : Int32).toUInt32 &&& Int32.toUInt32 31)).toInt32) &&& 255)))), (a 5, .inl (g.2 0, 6, .inl (f 5))), (a 6, .inl (g.2 0, 8, .inl (f 6))), (a 7, .inl (g.2 1, 256, .inl (f 7)))]]) := hD
  refine lv_iinc (v := 7) (lv' := [(6, .int 7), (7, .int v2), (0, .ref o), (1, .int v1), (2, .int v2), (3, .int v3), (4, .int v4), (5, .int v5)]) hx hb dX12_feed_114 hl (k := 1) rfl (by decide) (by decide) rfl (fun ls hl => ?_)
  refine lv_goto (tgt := 23) hx hb dX12_feed_117 (by decide) ?_
  refine lv_iload hx hb dX12_feed_23 (lv_at hl 0 rfl) ?_
  refine lv_bipush (v := 20) hx hb dX12_feed_25 (by decide) ?_
  refine lv_icmp_ge (tgt := 120) hx hb dX12_feed_27 (by decide) (fun c19 => absurd c19 (by decide)) (fun _ => ?_)
  refine lv_iload hx hb dX12_feed_30 (lv_at hl 0 rfl) ?_
  refine lv_iconst (v := 4) hx hb dX12_feed_32 (by decide) ?_
  refine lv_icmp_ge (tgt := 40) hx hb dX12_feed_33 (by decide) (fun _ => ?_) (fun c20 => absurd (by decide) c20)
  refine lv_iload hx hb dX12_feed_40 (lv_at hl 0 rfl) ?_
  refine lv_bipush (v := 8) hx hb dX12_feed_42 (by decide) ?_
  refine lv_icmp_ge (tgt := 51) hx hb dX12_feed_44 (by decide) (fun c21 => absurd c21 (by decide)) (fun _ => ?_)
  refine lv_iload_n hx hb dX12_feed_47 rfl (lv_at hl 4 rfl) ?_
  refine lv_goto (tgt := 76) hx hb dX12_feed_48 (by decide) ?_
  refine lv_istore (lv' := [(7, .int v2), (6, .int 7), (0, .ref o), (1, .int v1), (2, .int v2), (3, .int v3), (4, .int v4), (5, .int v5)]) hx hb dX12_feed_76 hl (by decide) rfl (fun ls hl => ?_)
  refine lv_aload_n hx hb dX12_feed_78 rfl (lv_at hl 2 rfl) ?_
  refine va_get (D := g.1) (ci := 10) (v := .ref (a 4)) (C := RX12) (T := TX12) (N := 20) hx hb hts izRX12 hown hK hP 0 rfl rfl 7 (by decide) (hts _ k819) (fun _ h9 => h9) rfl dX12_feed_79 ?_
  refine lv_aload_n hx hb dX12_feed_82 rfl (lv_at hl 2 rfl) ?_
  refine va_get (D := g.1) (ci := 10) (v := .int 7) (C := RX12) (T := TX12) (N := 20) hx hb hts izRX12 hown hK hP 0 rfl rfl 8 (by decide) (hts _ k864) (fun _ h9 => h9) rfl dX12_feed_83 ?_
  refine lv_iload hx hb dX12_feed_86 (lv_at hl 0 rfl) ?_
  refine lv_bipush (v := 24) hx hb dX12_feed_88 (by decide) ?_
  refine lv_bipush (v := 8) hx hb dX12_feed_90 (by decide) ?_
  refine lv_iload hx hb dX12_feed_92 (lv_at hl 1 rfl) ?_
  refine lv_iconst (v := 4) hx hb dX12_feed_94 (by decide) ?_
  refine lv_irem hx hb dX12_feed_95 (by decide) ?_
  refine ztop (r := 3) (by decide) ?_
  refine lv_imul hx hb dX12_feed_96 ?_
  refine ztop (r := 24) (by decide) ?_
  refine lv_isub hx hb dX12_feed_97 ?_
  refine ztop (r := 0) (by decide) ?_
  refine lv_iushr (v := ((v2 : Int32).toUInt32 >>> ((0 : Int32).toUInt32 &&& Int32.toUInt32 31)).toInt32) hx hb dX12_feed_98 rfl ?_
  refine lv_sipush (v := 255) hx hb dX12_feed_99 (by decide) ?_
  refine lv_iand hx hb dX12_feed_102 ?_
  refine va_iast hx hb hK hP hD hS 5 0 rfl rfl (zin rfl) dX12_feed_103 (fun H locs hP hD hS => ?_)
  have hP : va_P g.1 vwCl (List.flatten [[(o, .inr (10, [.int 0, .ref (a 0), .ref (a 1), .int hi, .ref (a 2), .ref (a 3), .int ac, .ref (a 4), .int 7, .int ba, .int en, .int tA, .int fl, .int de, .ref (a 5), .int iD, .int iO, .int tU, .ref (a 6), .ref (a 7)]))], [(a 0, .inl (g.2 0, 779, .inl (f 0))), (a 1, .inl (g.2 0, 779, .inl (f 1))), (a 2, .inl (g.2 0, 379, .inl (f 2))), (a 3, .inl (g.2 0, 4548, .inl (f 3))), (a 4, .inl (g.2 0, 400, .inl (upd (upd (upd (upd (upd (upd (upd (upd (f 4) 0 ((((v1 : Int32).toUInt32 >>> ((24 : Int32).toUInt32 &&& Int32.toUInt32 31)).toInt32) &&& 255)) 1 ((((v1 : Int32).toUInt32 >>> ((16 : Int32).toUInt32 &&& Int32.toUInt32 31)).toInt32) &&& 255)) 2 ((((v1 : Int32).toUInt32 >>> ((8 : Int32).toUInt32 &&& Int32.toUInt32 31)).toInt32) &&& 255)) 3 ((((v1 : Int32).toUInt32 >>> ((0 : Int32).toUInt32 &&& Int32.toUInt32 31)).toInt32) &&& 255)) 4 ((((v2 : Int32).toUInt32 >>> ((24 : Int32).toUInt32 &&& Int32.toUInt32 31)).toInt32) &&& 255)) 5 ((((v2 : Int32).toUInt32 >>> ((16 : Int32).toUInt32 &&& Int32.toUInt32 31)).toInt32) &&& 255)) 6 ((((v2 : Int32).toUInt32 >>> ((8 : Int32).toUInt32 &&& Int32.toUInt32 31)).toInt32) &&& 255)) 7 ((((v2 : Int32).toUInt32 >>> ((0 : Int32).toUInt32 &&& Int32.toUInt32 31)).toInt32) &&& 255)))), (a 5, .inl (g.2 0, 6, .inl (f 5))), (a 6, .inl (g.2 0, 8, .inl (f 6))), (a 7, .inl (g.2 1, 256, .inl (f 7)))]]) H := hP
  have hD : va_D A (List.flatten [[(o, .inr (10, [.int 0, .ref (a 0), .ref (a 1), .int hi, .ref (a 2), .ref (a 3), .int ac, .ref (a 4), .int 7, .int ba, .int en, .int tA, .int fl, .int de, .ref (a 5), .int iD, .int iO, .int tU, .ref (a 6), .ref (a 7)]))], [(a 0, .inl (g.2 0, 779, .inl (f 0))), (a 1, .inl (g.2 0, 779, .inl (f 1))), (a 2, .inl (g.2 0, 379, .inl (f 2))), (a 3, .inl (g.2 0, 4548, .inl (f 3))), (a 4, .inl (g.2 0, 400, .inl (upd (upd (upd (upd (upd (upd (upd (upd (f 4) 0 ((((v1 : Int32).toUInt32 >>> ((24 : Int32).toUInt32 &&& Int32.toUInt32 31)).toInt32) &&& 255)) 1 ((((v1 : Int32).toUInt32 >>> ((16 : Int32).toUInt32 &&& Int32.toUInt32 31)).toInt32) &&& 255)) 2 ((((v1 : Int32).toUInt32 >>> ((8 : Int32).toUInt32 &&& Int32.toUInt32 31)).toInt32) &&& 255)) 3 ((((v1 : Int32).toUInt32 >>> ((0 : Int32).toUInt32 &&& Int32.toUInt32 31)).toInt32) &&& 255)) 4 ((((v2 : Int32).toUInt32 >>> ((24 : Int32).toUInt32 &&& Int32.toUInt32 31)).toInt32) &&& 255)) 5 ((((v2 : Int32).toUInt32 >>> ((16 : Int32).toUInt32 &&& Int32.toUInt32 31)).toInt32) &&& 255)) 6 ((((v2 : Int32).toUInt32 >>> ((8 : Int32).toUInt32 &&& Int32.toUInt32 31)).toInt32) &&& 255)) 7 ((((v2 : Int32).toUInt32 >>> ((0 : Int32).toUInt32 &&& Int32.toUInt32 31)).toInt32) &&& 255)))), (a 5, .inl (g.2 0, 6, .inl (f 5))), (a 6, .inl (g.2 0, 8, .inl (f 6))), (a 7, .inl (g.2 1, 256, .inl (f 7)))]]) := hD
  refine lv_aload_n hx hb dX12_feed_104 rfl (lv_at hl 2 rfl) ?_
  refine lv_dup hx hb dX12_feed_105 rfl ?_
  refine va_get (D := g.1) (ci := 10) (v := .int 7) (C := RX12) (T := TX12) (N := 20) hx hb hts izRX12 hown hK hP 0 rfl rfl 8 (by decide) (hts _ k864) (fun _ h9 => h9) rfl dX12_feed_106 ?_
  refine lv_iconst (v := 1) hx hb dX12_feed_109 (by decide) ?_
  refine lv_iadd hx hb dX12_feed_110 ?_
  refine ztop (r := 8) (by decide) ?_
  refine va_put (D := g.1) (ci := 10) (v := .int 8) (ty := .int) (C := RX12) (T := TX12) (N := 20) hx hb hts izRX12 tyX12 tyX12_ok nmX12 hown hK hP hD hS 0 rfl rfl 8 (by decide) (hts _ k864) (fun _ h9 => h9) rfl (by decide +kernel) rfl rfl (Nat.le_of_ble_eq_true rfl) dX12_feed_111 (fun H locs hP hD hS => ?_)
  have hP : va_P g.1 vwCl (List.flatten [[(o, .inr (10, [.int 0, .ref (a 0), .ref (a 1), .int hi, .ref (a 2), .ref (a 3), .int ac, .ref (a 4), .int 8, .int ba, .int en, .int tA, .int fl, .int de, .ref (a 5), .int iD, .int iO, .int tU, .ref (a 6), .ref (a 7)]))], [(a 0, .inl (g.2 0, 779, .inl (f 0))), (a 1, .inl (g.2 0, 779, .inl (f 1))), (a 2, .inl (g.2 0, 379, .inl (f 2))), (a 3, .inl (g.2 0, 4548, .inl (f 3))), (a 4, .inl (g.2 0, 400, .inl (upd (upd (upd (upd (upd (upd (upd (upd (f 4) 0 ((((v1 : Int32).toUInt32 >>> ((24 : Int32).toUInt32 &&& Int32.toUInt32 31)).toInt32) &&& 255)) 1 ((((v1 : Int32).toUInt32 >>> ((16 : Int32).toUInt32 &&& Int32.toUInt32 31)).toInt32) &&& 255)) 2 ((((v1 : Int32).toUInt32 >>> ((8 : Int32).toUInt32 &&& Int32.toUInt32 31)).toInt32) &&& 255)) 3 ((((v1 : Int32).toUInt32 >>> ((0 : Int32).toUInt32 &&& Int32.toUInt32 31)).toInt32) &&& 255)) 4 ((((v2 : Int32).toUInt32 >>> ((24 : Int32).toUInt32 &&& Int32.toUInt32 31)).toInt32) &&& 255)) 5 ((((v2 : Int32).toUInt32 >>> ((16 : Int32).toUInt32 &&& Int32.toUInt32 31)).toInt32) &&& 255)) 6 ((((v2 : Int32).toUInt32 >>> ((8 : Int32).toUInt32 &&& Int32.toUInt32 31)).toInt32) &&& 255)) 7 ((((v2 : Int32).toUInt32 >>> ((0 : Int32).toUInt32 &&& Int32.toUInt32 31)).toInt32) &&& 255)))), (a 5, .inl (g.2 0, 6, .inl (f 5))), (a 6, .inl (g.2 0, 8, .inl (f 6))), (a 7, .inl (g.2 1, 256, .inl (f 7)))]]) H := hP
  have hD : va_D A (List.flatten [[(o, .inr (10, [.int 0, .ref (a 0), .ref (a 1), .int hi, .ref (a 2), .ref (a 3), .int ac, .ref (a 4), .int 8, .int ba, .int en, .int tA, .int fl, .int de, .ref (a 5), .int iD, .int iO, .int tU, .ref (a 6), .ref (a 7)]))], [(a 0, .inl (g.2 0, 779, .inl (f 0))), (a 1, .inl (g.2 0, 779, .inl (f 1))), (a 2, .inl (g.2 0, 379, .inl (f 2))), (a 3, .inl (g.2 0, 4548, .inl (f 3))), (a 4, .inl (g.2 0, 400, .inl (upd (upd (upd (upd (upd (upd (upd (upd (f 4) 0 ((((v1 : Int32).toUInt32 >>> ((24 : Int32).toUInt32 &&& Int32.toUInt32 31)).toInt32) &&& 255)) 1 ((((v1 : Int32).toUInt32 >>> ((16 : Int32).toUInt32 &&& Int32.toUInt32 31)).toInt32) &&& 255)) 2 ((((v1 : Int32).toUInt32 >>> ((8 : Int32).toUInt32 &&& Int32.toUInt32 31)).toInt32) &&& 255)) 3 ((((v1 : Int32).toUInt32 >>> ((0 : Int32).toUInt32 &&& Int32.toUInt32 31)).toInt32) &&& 255)) 4 ((((v2 : Int32).toUInt32 >>> ((24 : Int32).toUInt32 &&& Int32.toUInt32 31)).toInt32) &&& 255)) 5 ((((v2 : Int32).toUInt32 >>> ((16 : Int32).toUInt32 &&& Int32.toUInt32 31)).toInt32) &&& 255)) 6 ((((v2 : Int32).toUInt32 >>> ((8 : Int32).toUInt32 &&& Int32.toUInt32 31)).toInt32) &&& 255)) 7 ((((v2 : Int32).toUInt32 >>> ((0 : Int32).toUInt32 &&& Int32.toUInt32 31)).toInt32) &&& 255)))), (a 5, .inl (g.2 0, 6, .inl (f 5))), (a 6, .inl (g.2 0, 8, .inl (f 6))), (a 7, .inl (g.2 1, 256, .inl (f 7)))]]) := hD
  refine lv_iinc (v := 8) (lv' := [(6, .int 8), (7, .int v2), (0, .ref o), (1, .int v1), (2, .int v2), (3, .int v3), (4, .int v4), (5, .int v5)]) hx hb dX12_feed_114 hl (k := 1) rfl (by decide) (by decide) rfl (fun ls hl => ?_)
  refine lv_goto (tgt := 23) hx hb dX12_feed_117 (by decide) ?_
  refine lv_iload hx hb dX12_feed_23 (lv_at hl 0 rfl) ?_
  refine lv_bipush (v := 20) hx hb dX12_feed_25 (by decide) ?_
  refine lv_icmp_ge (tgt := 120) hx hb dX12_feed_27 (by decide) (fun c22 => absurd c22 (by decide)) (fun _ => ?_)
  refine lv_iload hx hb dX12_feed_30 (lv_at hl 0 rfl) ?_
  refine lv_iconst (v := 4) hx hb dX12_feed_32 (by decide) ?_
  refine lv_icmp_ge (tgt := 40) hx hb dX12_feed_33 (by decide) (fun _ => ?_) (fun c23 => absurd (by decide) c23)
  refine lv_iload hx hb dX12_feed_40 (lv_at hl 0 rfl) ?_
  refine lv_bipush (v := 8) hx hb dX12_feed_42 (by decide) ?_
  refine lv_icmp_ge (tgt := 51) hx hb dX12_feed_44 (by decide) (fun _ => ?_) (fun c24 => absurd (by decide) c24)
  refine lv_iload hx hb dX12_feed_51 (lv_at hl 0 rfl) ?_
  refine lv_bipush (v := 12) hx hb dX12_feed_53 (by decide) ?_
  refine lv_icmp_ge (tgt := 62) hx hb dX12_feed_55 (by decide) (fun c25 => absurd c25 (by decide)) (fun _ => ?_)
  refine lv_iload_n hx hb dX12_feed_58 rfl (lv_at hl 5 rfl) ?_
  refine lv_goto (tgt := 76) hx hb dX12_feed_59 (by decide) ?_
  refine lv_istore (lv' := [(7, .int v3), (6, .int 8), (0, .ref o), (1, .int v1), (2, .int v2), (3, .int v3), (4, .int v4), (5, .int v5)]) hx hb dX12_feed_76 hl (by decide) rfl (fun ls hl => ?_)
  refine lv_aload_n hx hb dX12_feed_78 rfl (lv_at hl 2 rfl) ?_
  refine va_get (D := g.1) (ci := 10) (v := .ref (a 4)) (C := RX12) (T := TX12) (N := 20) hx hb hts izRX12 hown hK hP 0 rfl rfl 7 (by decide) (hts _ k819) (fun _ h9 => h9) rfl dX12_feed_79 ?_
  refine lv_aload_n hx hb dX12_feed_82 rfl (lv_at hl 2 rfl) ?_
  refine va_get (D := g.1) (ci := 10) (v := .int 8) (C := RX12) (T := TX12) (N := 20) hx hb hts izRX12 hown hK hP 0 rfl rfl 8 (by decide) (hts _ k864) (fun _ h9 => h9) rfl dX12_feed_83 ?_
  refine lv_iload hx hb dX12_feed_86 (lv_at hl 0 rfl) ?_
  refine lv_bipush (v := 24) hx hb dX12_feed_88 (by decide) ?_
  refine lv_bipush (v := 8) hx hb dX12_feed_90 (by decide) ?_
  refine lv_iload hx hb dX12_feed_92 (lv_at hl 1 rfl) ?_
  refine lv_iconst (v := 4) hx hb dX12_feed_94 (by decide) ?_
  refine lv_irem hx hb dX12_feed_95 (by decide) ?_
  refine ztop (r := 0) (by decide) ?_
  refine lv_imul hx hb dX12_feed_96 ?_
  refine ztop (r := 0) (by decide) ?_
  refine lv_isub hx hb dX12_feed_97 ?_
  refine ztop (r := 24) (by decide) ?_
  refine lv_iushr (v := ((v3 : Int32).toUInt32 >>> ((24 : Int32).toUInt32 &&& Int32.toUInt32 31)).toInt32) hx hb dX12_feed_98 rfl ?_
  refine lv_sipush (v := 255) hx hb dX12_feed_99 (by decide) ?_
  refine lv_iand hx hb dX12_feed_102 ?_
  refine va_iast hx hb hK hP hD hS 5 0 rfl rfl (zin rfl) dX12_feed_103 (fun H locs hP hD hS => ?_)
  have hP : va_P g.1 vwCl (List.flatten [[(o, .inr (10, [.int 0, .ref (a 0), .ref (a 1), .int hi, .ref (a 2), .ref (a 3), .int ac, .ref (a 4), .int 8, .int ba, .int en, .int tA, .int fl, .int de, .ref (a 5), .int iD, .int iO, .int tU, .ref (a 6), .ref (a 7)]))], [(a 0, .inl (g.2 0, 779, .inl (f 0))), (a 1, .inl (g.2 0, 779, .inl (f 1))), (a 2, .inl (g.2 0, 379, .inl (f 2))), (a 3, .inl (g.2 0, 4548, .inl (f 3))), (a 4, .inl (g.2 0, 400, .inl (upd (upd (upd (upd (upd (upd (upd (upd (upd (f 4) 0 ((((v1 : Int32).toUInt32 >>> ((24 : Int32).toUInt32 &&& Int32.toUInt32 31)).toInt32) &&& 255)) 1 ((((v1 : Int32).toUInt32 >>> ((16 : Int32).toUInt32 &&& Int32.toUInt32 31)).toInt32) &&& 255)) 2 ((((v1 : Int32).toUInt32 >>> ((8 : Int32).toUInt32 &&& Int32.toUInt32 31)).toInt32) &&& 255)) 3 ((((v1 : Int32).toUInt32 >>> ((0 : Int32).toUInt32 &&& Int32.toUInt32 31)).toInt32) &&& 255)) 4 ((((v2 : Int32).toUInt32 >>> ((24 : Int32).toUInt32 &&& Int32.toUInt32 31)).toInt32) &&& 255)) 5 ((((v2 : Int32).toUInt32 >>> ((16 : Int32).toUInt32 &&& Int32.toUInt32 31)).toInt32) &&& 255)) 6 ((((v2 : Int32).toUInt32 >>> ((8 : Int32).toUInt32 &&& Int32.toUInt32 31)).toInt32) &&& 255)) 7 ((((v2 : Int32).toUInt32 >>> ((0 : Int32).toUInt32 &&& Int32.toUInt32 31)).toInt32) &&& 255)) 8 ((((v3 : Int32).toUInt32 >>> ((24 : Int32).toUInt32 &&& Int32.toUInt32 31)).toInt32) &&& 255)))), (a 5, .inl (g.2 0, 6, .inl (f 5))), (a 6, .inl (g.2 0, 8, .inl (f 6))), (a 7, .inl (g.2 1, 256, .inl (f 7)))]]) H := hP
  have hD : va_D A (List.flatten [[(o, .inr (10, [.int 0, .ref (a 0), .ref (a 1), .int hi, .ref (a 2), .ref (a 3), .int ac, .ref (a 4), .int 8, .int ba, .int en, .int tA, .int fl, .int de, .ref (a 5), .int iD, .int iO, .int tU, .ref (a 6), .ref (a 7)]))], [(a 0, .inl (g.2 0, 779, .inl (f 0))), (a 1, .inl (g.2 0, 779, .inl (f 1))), (a 2, .inl (g.2 0, 379, .inl (f 2))), (a 3, .inl (g.2 0, 4548, .inl (f 3))), (a 4, .inl (g.2 0, 400, .inl (upd (upd (upd (upd (upd (upd (upd (upd (upd (f 4) 0 ((((v1 : Int32).toUInt32 >>> ((24 : Int32).toUInt32 &&& Int32.toUInt32 31)).toInt32) &&& 255)) 1 ((((v1 : Int32).toUInt32 >>> ((16 : Int32).toUInt32 &&& Int32.toUInt32 31)).toInt32) &&& 255)) 2 ((((v1 : Int32).toUInt32 >>> ((8 : Int32).toUInt32 &&& Int32.toUInt32 31)).toInt32) &&& 255)) 3 ((((v1 : Int32).toUInt32 >>> ((0 : Int32).toUInt32 &&& Int32.toUInt32 31)).toInt32) &&& 255)) 4 ((((v2 : Int32).toUInt32 >>> ((24 : Int32).toUInt32 &&& Int32.toUInt32 31)).toInt32) &&& 255)) 5 ((((v2 : Int32).toUInt32 >>> ((16 : Int32).toUInt32 &&& Int32.toUInt32 31)).toInt32) &&& 255)) 6 ((((v2 : Int32).toUInt32 >>> ((8 : Int32).toUInt32 &&& Int32.toUInt32 31)).toInt32) &&& 255)) 7 ((((v2 : Int32).toUInt32 >>> ((0 : Int32).toUInt32 &&& Int32.toUInt32 31)).toInt32) &&& 255)) 8 ((((v3 : Int32).toUInt32 >>> ((24 : Int32).toUInt32 &&& Int32.toUInt32 31)).toInt32) &&& 255)))), (a 5, .inl (g.2 0, 6, .inl (f 5))), (a 6, .inl (g.2 0, 8, .inl (f 6))), (a 7, .inl (g.2 1, 256, .inl (f 7)))]]) := hD
  refine lv_aload_n hx hb dX12_feed_104 rfl (lv_at hl 2 rfl) ?_
  refine lv_dup hx hb dX12_feed_105 rfl ?_
  refine va_get (D := g.1) (ci := 10) (v := .int 8) (C := RX12) (T := TX12) (N := 20) hx hb hts izRX12 hown hK hP 0 rfl rfl 8 (by decide) (hts _ k864) (fun _ h9 => h9) rfl dX12_feed_106 ?_
  refine lv_iconst (v := 1) hx hb dX12_feed_109 (by decide) ?_
  refine lv_iadd hx hb dX12_feed_110 ?_
  refine ztop (r := 9) (by decide) ?_
  refine va_put (D := g.1) (ci := 10) (v := .int 9) (ty := .int) (C := RX12) (T := TX12) (N := 20) hx hb hts izRX12 tyX12 tyX12_ok nmX12 hown hK hP hD hS 0 rfl rfl 8 (by decide) (hts _ k864) (fun _ h9 => h9) rfl (by decide +kernel) rfl rfl (Nat.le_of_ble_eq_true rfl) dX12_feed_111 (fun H locs hP hD hS => ?_)
  have hP : va_P g.1 vwCl (List.flatten [[(o, .inr (10, [.int 0, .ref (a 0), .ref (a 1), .int hi, .ref (a 2), .ref (a 3), .int ac, .ref (a 4), .int 9, .int ba, .int en, .int tA, .int fl, .int de, .ref (a 5), .int iD, .int iO, .int tU, .ref (a 6), .ref (a 7)]))], [(a 0, .inl (g.2 0, 779, .inl (f 0))), (a 1, .inl (g.2 0, 779, .inl (f 1))), (a 2, .inl (g.2 0, 379, .inl (f 2))), (a 3, .inl (g.2 0, 4548, .inl (f 3))), (a 4, .inl (g.2 0, 400, .inl (upd (upd (upd (upd (upd (upd (upd (upd (upd (f 4) 0 ((((v1 : Int32).toUInt32 >>> ((24 : Int32).toUInt32 &&& Int32.toUInt32 31)).toInt32) &&& 255)) 1 ((((v1 : Int32).toUInt32 >>> ((16 : Int32).toUInt32 &&& Int32.toUInt32 31)).toInt32) &&& 255)) 2 ((((v1 : Int32).toUInt32 >>> ((8 : Int32).toUInt32 &&& Int32.toUInt32 31)).toInt32) &&& 255)) 3 ((((v1 : Int32).toUInt32 >>> ((0 : Int32).toUInt32 &&& Int32.toUInt32 31)).toInt32) &&& 255)) 4 ((((v2 : Int32).toUInt32 >>> ((24 : Int32).toUInt32 &&& Int32.toUInt32 31)).toInt32) &&& 255)) 5 ((((v2 : Int32).toUInt32 >>> ((16 : Int32).toUInt32 &&& Int32.toUInt32 31)).toInt32) &&& 255)) 6 ((((v2 : Int32).toUInt32 >>> ((8 : Int32).toUInt32 &&& Int32.toUInt32 31)).toInt32) &&& 255)) 7 ((((v2 : Int32).toUInt32 >>> ((0 : Int32).toUInt32 &&& Int32.toUInt32 31)).toInt32) &&& 255)) 8 ((((v3 : Int32).toUInt32 >>> ((24 : Int32).toUInt32 &&& Int32.toUInt32 31)).toInt32) &&& 255)))), (a 5, .inl (g.2 0, 6, .inl (f 5))), (a 6, .inl (g.2 0, 8, .inl (f 6))), (a 7, .inl (g.2 1, 256, .inl (f 7)))]]) H := hP
  have hD : va_D A (List.flatten [[(o, .inr (10, [.int 0, .ref (a 0), .ref (a 1), .int hi, .ref (a 2), .ref (a 3), .int ac, .ref (a 4), .int 9, .int ba, .int en, .int tA, .int fl, .int de, .ref (a 5), .int iD, .int iO, .int tU, .ref (a 6), .ref (a 7)]))], [(a 0, .inl (g.2 0, 779, .inl (f 0))), (a 1, .inl (g.2 0, 779, .inl (f 1))), (a 2, .inl (g.2 0, 379, .inl (f 2))), (a 3, .inl (g.2 0, 4548, .inl (f 3))), (a 4, .inl (g.2 0, 400, .inl (upd (upd (upd (upd (upd (upd (upd (upd (upd (f 4) 0 ((((v1 : Int32).toUInt32 >>> ((24 : Int32).toUInt32 &&& Int32.toUInt32 31)).toInt32) &&& 255)) 1 ((((v1 : Int32).toUInt32 >>> ((16 : Int32).toUInt32 &&& Int32.toUInt32 31)).toInt32) &&& 255)) 2 ((((v1 : Int32).toUInt32 >>> ((8 : Int32).toUInt32 &&& Int32.toUInt32 31)).toInt32) &&& 255)) 3 ((((v1 : Int32).toUInt32 >>> ((0 : Int32).toUInt32 &&& Int32.toUInt32 31)).toInt32) &&& 255)) 4 ((((v2 : Int32).toUInt32 >>> ((24 : Int32).toUInt32 &&& Int32.toUInt32 31)).toInt32) &&& 255)) 5 ((((v2 : Int32).toUInt32 >>> ((16 : Int32).toUInt32 &&& Int32.toUInt32 31)).toInt32) &&& 255)) 6 ((((v2 : Int32).toUInt32 >>> ((8 : Int32).toUInt32 &&& Int32.toUInt32 31)).toInt32) &&& 255)) 7 ((((v2 : Int32).toUInt32 >>> ((0 : Int32).toUInt32 &&& Int32.toUInt32 31)).toInt32) &&& 255)) 8 ((((v3 : Int32).toUInt32 >>> ((24 : Int32).toUInt32 &&& Int32.toUInt32 31)).toInt32) &&& 255)))), (a 5, .inl (g.2 0, 6, .inl (f 5))), (a 6, .inl (g.2 0, 8, .inl (f 6))), (a 7, .inl (g.2 1, 256, .inl (f 7)))]]) := hD
  refine lv_iinc (v := 9) (lv' := [(6, .int 9), (7, .int v3), (0, .ref o), (1, .int v1), (2, .int v2), (3, .int v3), (4, .int v4), (5, .int v5)]) hx hb dX12_feed_114 hl (k := 1) rfl (by decide) (by decide) rfl (fun ls hl => ?_)
  refine lv_goto (tgt := 23) hx hb dX12_feed_117 (by decide) ?_
  refine lv_iload hx hb dX12_feed_23 (lv_at hl 0 rfl) ?_
  refine lv_bipush (v := 20) hx hb dX12_feed_25 (by decide) ?_
  refine lv_icmp_ge (tgt := 120) hx hb dX12_feed_27 (by decide) (fun c26 => absurd c26 (by decide)) (fun _ => ?_)
  refine lv_iload hx hb dX12_feed_30 (lv_at hl 0 rfl) ?_
  refine lv_iconst (v := 4) hx hb dX12_feed_32 (by decide) ?_
  refine lv_icmp_ge (tgt := 40) hx hb dX12_feed_33 (by decide) (fun _ => ?_) (fun c27 => absurd (by decide) c27)
  refine lv_iload hx hb dX12_feed_40 (lv_at hl 0 rfl) ?_
  refine lv_bipush (v := 8) hx hb dX12_feed_42 (by decide) ?_
  refine lv_icmp_ge (tgt := 51) hx hb dX12_feed_44 (by decide) (fun _ => ?_) (fun c28 => absurd (by decide) c28)
  refine lv_iload hx hb dX12_feed_51 (lv_at hl 0 rfl) ?_
  refine lv_bipush (v := 12) hx hb dX12_feed_53 (by decide) ?_
  refine lv_icmp_ge (tgt := 62) hx hb dX12_feed_55 (by decide) (fun c29 => absurd c29 (by decide)) (fun _ => ?_)
  refine lv_iload_n hx hb dX12_feed_58 rfl (lv_at hl 5 rfl) ?_
  refine lv_goto (tgt := 76) hx hb dX12_feed_59 (by decide) ?_
  refine lv_istore (lv' := [(7, .int v3), (6, .int 9), (0, .ref o), (1, .int v1), (2, .int v2), (3, .int v3), (4, .int v4), (5, .int v5)]) hx hb dX12_feed_76 hl (by decide) rfl (fun ls hl => ?_)
  refine lv_aload_n hx hb dX12_feed_78 rfl (lv_at hl 2 rfl) ?_
  refine va_get (D := g.1) (ci := 10) (v := .ref (a 4)) (C := RX12) (T := TX12) (N := 20) hx hb hts izRX12 hown hK hP 0 rfl rfl 7 (by decide) (hts _ k819) (fun _ h9 => h9) rfl dX12_feed_79 ?_
  refine lv_aload_n hx hb dX12_feed_82 rfl (lv_at hl 2 rfl) ?_
  refine va_get (D := g.1) (ci := 10) (v := .int 9) (C := RX12) (T := TX12) (N := 20) hx hb hts izRX12 hown hK hP 0 rfl rfl 8 (by decide) (hts _ k864) (fun _ h9 => h9) rfl dX12_feed_83 ?_
  refine lv_iload hx hb dX12_feed_86 (lv_at hl 0 rfl) ?_
  refine lv_bipush (v := 24) hx hb dX12_feed_88 (by decide) ?_
  refine lv_bipush (v := 8) hx hb dX12_feed_90 (by decide) ?_
  refine lv_iload hx hb dX12_feed_92 (lv_at hl 1 rfl) ?_
  refine lv_iconst (v := 4) hx hb dX12_feed_94 (by decide) ?_
  refine lv_irem hx hb dX12_feed_95 (by decide) ?_
  refine ztop (r := 1) (by decide) ?_
  refine lv_imul hx hb dX12_feed_96 ?_
  refine ztop (r := 8) (by decide) ?_
  refine lv_isub hx hb dX12_feed_97 ?_
  refine ztop (r := 16) (by decide) ?_
  refine lv_iushr (v := ((v3 : Int32).toUInt32 >>> ((16 : Int32).toUInt32 &&& Int32.toUInt32 31)).toInt32) hx hb dX12_feed_98 rfl ?_
  refine lv_sipush (v := 255) hx hb dX12_feed_99 (by decide) ?_
  refine lv_iand hx hb dX12_feed_102 ?_
  refine va_iast hx hb hK hP hD hS 5 0 rfl rfl (zin rfl) dX12_feed_103 (fun H locs hP hD hS => ?_)
  have hP : va_P g.1 vwCl (List.flatten [[(o, .inr (10, [.int 0, .ref (a 0), .ref (a 1), .int hi, .ref (a 2), .ref (a 3), .int ac, .ref (a 4), .int 9, .int ba, .int en, .int tA, .int fl, .int de, .ref (a 5), .int iD, .int iO, .int tU, .ref (a 6), .ref (a 7)]))], [(a 0, .inl (g.2 0, 779, .inl (f 0))), (a 1, .inl (g.2 0, 779, .inl (f 1))), (a 2, .inl (g.2 0, 379, .inl (f 2))), (a 3, .inl (g.2 0, 4548, .inl (f 3))), (a 4, .inl (g.2 0, 400, .inl (upd (upd (upd (upd (upd (upd (upd (upd (upd (upd (f 4) 0 ((((v1 : Int32).toUInt32 >>> ((24 : Int32).toUInt32 &&& Int32.toUInt32 31)).toInt32) &&& 255)) 1 ((((v1 : Int32).toUInt32 >>> ((16 : Int32).toUInt32 &&& Int32.toUInt32 31)).toInt32) &&& 255)) 2 ((((v1 : Int32).toUInt32 >>> ((8 : Int32).toUInt32 &&& Int32.toUInt32 31)).toInt32) &&& 255)) 3 ((((v1 : Int32).toUInt32 >>> ((0 : Int32).toUInt32 &&& Int32.toUInt32 31)).toInt32) &&& 255)) 4 ((((v2 : Int32).toUInt32 >>> ((24 : Int32).toUInt32 &&& Int32.toUInt32 31)).toInt32) &&& 255)) 5 ((((v2 : Int32).toUInt32 >>> ((16 : Int32).toUInt32 &&& Int32.toUInt32 31)).toInt32) &&& 255)) 6 ((((v2 : Int32).toUInt32 >>> ((8 : Int32).toUInt32 &&& Int32.toUInt32 31)).toInt32) &&& 255)) 7 ((((v2 : Int32).toUInt32 >>> ((0 : Int32).toUInt32 &&& Int32.toUInt32 31)).toInt32) &&& 255)) 8 ((((v3 : Int32).toUInt32 >>> ((24 : Int32).toUInt32 &&& Int32.toUInt32 31)).toInt32) &&& 255)) 9 ((((v3 : Int32).toUInt32 >>> ((16 : Int32).toUInt32 &&& Int32.toUInt32 31)).toInt32) &&& 255)))), (a 5, .inl (g.2 0, 6, .inl (f 5))), (a 6, .inl (g.2 0, 8, .inl (f 6))), (a 7, .inl (g.2 1, 256, .inl (f 7)))]]) H := hP
  have hD : va_D A (List.flatten [[(o, .inr (10, [.int 0, .ref (a 0), .ref (a 1), .int hi, .ref (a 2), .ref (a 3), .int ac, .ref (a 4), .int 9, .int ba, .int en, .int tA, .int fl, .int de, .ref (a 5), .int iD, .int iO, .int tU, .ref (a 6), .ref (a 7)]))], [(a 0, .inl (g.2 0, 779, .inl (f 0))), (a 1, .inl (g.2 0, 779, .inl (f 1))), (a 2, .inl (g.2 0, 379, .inl (f 2))), (a 3, .inl (g.2 0, 4548, .inl (f 3))), (a 4, .inl (g.2 0, 400, .inl (upd (upd (upd (upd (upd (upd (upd (upd (upd (upd (f 4) 0 ((((v1 : Int32).toUInt32 >>> ((24 : Int32).toUInt32 &&& Int32.toUInt32 31)).toInt32) &&& 255)) 1 ((((v1 : Int32).toUInt32 >>> ((16 : Int32).toUInt32 &&& Int32.toUInt32 31)).toInt32) &&& 255)) 2 ((((v1 : Int32).toUInt32 >>> ((8 : Int32).toUInt32 &&& Int32.toUInt32 31)).toInt32) &&& 255)) 3 ((((v1 : Int32).toUInt32 >>> ((0 : Int32).toUInt32 &&& Int32.toUInt32 31)).toInt32) &&& 255)) 4 ((((v2 : Int32).toUInt32 >>> ((24 : Int32).toUInt32 &&& Int32.toUInt32 31)).toInt32) &&& 255)) 5 ((((v2 : Int32).toUInt32 >>> ((16 : Int32).toUInt32 &&& Int32.toUInt32 31)).toInt32) &&& 255)) 6 ((((v2 : Int32).toUInt32 >>> ((8 : Int32).toUInt32 &&& Int32.toUInt32 31)).toInt32) &&& 255)) 7 ((((v2 : Int32).toUInt32 >>> ((0 : Int32).toUInt32 &&& Int32.toUInt32 31)).toInt32) &&& 255)) 8 ((((v3 : Int32).toUInt32 >>> ((24 : Int32).toUInt32 &&& Int32.toUInt32 31)).toInt32) &&& 255)) 9 ((((v3 : Int32).toUInt32 >>> ((16 : Int32).toUInt32 &&& Int32.toUInt32 31)).toInt32) &&& 255)))), (a 5, .inl (g.2 0, 6, .inl (f 5))), (a 6, .inl (g.2 0, 8, .inl (f 6))), (a 7, .inl (g.2 1, 256, .inl (f 7)))]]) := hD
  refine lv_aload_n hx hb dX12_feed_104 rfl (lv_at hl 2 rfl) ?_
  refine lv_dup hx hb dX12_feed_105 rfl ?_
  refine va_get (D := g.1) (ci := 10) (v := .int 9) (C := RX12) (T := TX12) (N := 20) hx hb hts izRX12 hown hK hP 0 rfl rfl 8 (by decide) (hts _ k864) (fun _ h9 => h9) rfl dX12_feed_106 ?_
  refine lv_iconst (v := 1) hx hb dX12_feed_109 (by decide) ?_
  refine lv_iadd hx hb dX12_feed_110 ?_
  refine ztop (r := 10) (by decide) ?_
  refine va_put (D := g.1) (ci := 10) (v := .int 10) (ty := .int) (C := RX12) (T := TX12) (N := 20) hx hb hts izRX12 tyX12 tyX12_ok nmX12 hown hK hP hD hS 0 rfl rfl 8 (by decide) (hts _ k864) (fun _ h9 => h9) rfl (by decide +kernel) rfl rfl (Nat.le_of_ble_eq_true rfl) dX12_feed_111 (fun H locs hP hD hS => ?_)
  have hP : va_P g.1 vwCl (List.flatten [[(o, .inr (10, [.int 0, .ref (a 0), .ref (a 1), .int hi, .ref (a 2), .ref (a 3), .int ac, .ref (a 4), .int 10, .int ba, .int en, .int tA, .int fl, .int de, .ref (a 5), .int iD, .int iO, .int tU, .ref (a 6), .ref (a 7)]))], [(a 0, .inl (g.2 0, 779, .inl (f 0))), (a 1, .inl (g.2 0, 779, .inl (f 1))), (a 2, .inl (g.2 0, 379, .inl (f 2))), (a 3, .inl (g.2 0, 4548, .inl (f 3))), (a 4, .inl (g.2 0, 400, .inl (upd (upd (upd (upd (upd (upd (upd (upd (upd (upd (f 4) 0 ((((v1 : Int32).toUInt32 >>> ((24 : Int32).toUInt32 &&& Int32.toUInt32 31)).toInt32) &&& 255)) 1 ((((v1 : Int32).toUInt32 >>> ((16 : Int32).toUInt32 &&& Int32.toUInt32 31)).toInt32) &&& 255)) 2 ((((v1 : Int32).toUInt32 >>> ((8 : Int32).toUInt32 &&& Int32.toUInt32 31)).toInt32) &&& 255)) 3 ((((v1 : Int32).toUInt32 >>> ((0 : Int32).toUInt32 &&& Int32.toUInt32 31)).toInt32) &&& 255)) 4 ((((v2 : Int32).toUInt32 >>> ((24 : Int32).toUInt32 &&& Int32.toUInt32 31)).toInt32) &&& 255)) 5 ((((v2 : Int32).toUInt32 >>> ((16 : Int32).toUInt32 &&& Int32.toUInt32 31)).toInt32) &&& 255)) 6 ((((v2 : Int32).toUInt32 >>> ((8 : Int32).toUInt32 &&& Int32.toUInt32 31)).toInt32) &&& 255)) 7 ((((v2 : Int32).toUInt32 >>> ((0 : Int32).toUInt32 &&& Int32.toUInt32 31)).toInt32) &&& 255)) 8 ((((v3 : Int32).toUInt32 >>> ((24 : Int32).toUInt32 &&& Int32.toUInt32 31)).toInt32) &&& 255)) 9 ((((v3 : Int32).toUInt32 >>> ((16 : Int32).toUInt32 &&& Int32.toUInt32 31)).toInt32) &&& 255)))), (a 5, .inl (g.2 0, 6, .inl (f 5))), (a 6, .inl (g.2 0, 8, .inl (f 6))), (a 7, .inl (g.2 1, 256, .inl (f 7)))]]) H := hP
  have hD : va_D A (List.flatten [[(o, .inr (10, [.int 0, .ref (a 0), .ref (a 1), .int hi, .ref (a 2), .ref (a 3), .int ac, .ref (a 4), .int 10, .int ba, .int en, .int tA, .int fl, .int de, .ref (a 5), .int iD, .int iO, .int tU, .ref (a 6), .ref (a 7)]))], [(a 0, .inl (g.2 0, 779, .inl (f 0))), (a 1, .inl (g.2 0, 779, .inl (f 1))), (a 2, .inl (g.2 0, 379, .inl (f 2))), (a 3, .inl (g.2 0, 4548, .inl (f 3))), (a 4, .inl (g.2 0, 400, .inl (upd (upd (upd (upd (upd (upd (upd (upd (upd (upd (f 4) 0 ((((v1 : Int32).toUInt32 >>> ((24 : Int32).toUInt32 &&& Int32.toUInt32 31)).toInt32) &&& 255)) 1 ((((v1 : Int32).toUInt32 >>> ((16 : Int32).toUInt32 &&& Int32.toUInt32 31)).toInt32) &&& 255)) 2 ((((v1 : Int32).toUInt32 >>> ((8 : Int32).toUInt32 &&& Int32.toUInt32 31)).toInt32) &&& 255)) 3 ((((v1 : Int32).toUInt32 >>> ((0 : Int32).toUInt32 &&& Int32.toUInt32 31)).toInt32) &&& 255)) 4 ((((v2 : Int32).toUInt32 >>> ((24 : Int32).toUInt32 &&& Int32.toUInt32 31)).toInt32) &&& 255)) 5 ((((v2 : Int32).toUInt32 >>> ((16 : Int32).toUInt32 &&& Int32.toUInt32 31)).toInt32) &&& 255)) 6 ((((v2 : Int32).toUInt32 >>> ((8 : Int32).toUInt32 &&& Int32.toUInt32 31)).toInt32) &&& 255)) 7 ((((v2 : Int32).toUInt32 >>> ((0 : Int32).toUInt32 &&& Int32.toUInt32 31)).toInt32) &&& 255)) 8 ((((v3 : Int32).toUInt32 >>> ((24 : Int32).toUInt32 &&& Int32.toUInt32 31)).toInt32) &&& 255)) 9 ((((v3 : Int32).toUInt32 >>> ((16 : Int32).toUInt32 &&& Int32.toUInt32 31)).toInt32) &&& 255)))), (a 5, .inl (g.2 0, 6, .inl (f 5))), (a 6, .inl (g.2 0, 8, .inl (f 6))), (a 7, .inl (g.2 1, 256, .inl (f 7)))]]) := hD
  refine lv_iinc (v := 10) (lv' := [(6, .int 10), (7, .int v3), (0, .ref o), (1, .int v1), (2, .int v2), (3, .int v3), (4, .int v4), (5, .int v5)]) hx hb dX12_feed_114 hl (k := 1) rfl (by decide) (by decide) rfl (fun ls hl => ?_)
  refine lv_goto (tgt := 23) hx hb dX12_feed_117 (by decide) ?_
  refine lv_iload hx hb dX12_feed_23 (lv_at hl 0 rfl) ?_
  refine lv_bipush (v := 20) hx hb dX12_feed_25 (by decide) ?_
  refine lv_icmp_ge (tgt := 120) hx hb dX12_feed_27 (by decide) (fun c30 => absurd c30 (by decide)) (fun _ => ?_)
  refine lv_iload hx hb dX12_feed_30 (lv_at hl 0 rfl) ?_
  refine lv_iconst (v := 4) hx hb dX12_feed_32 (by decide) ?_
  refine lv_icmp_ge (tgt := 40) hx hb dX12_feed_33 (by decide) (fun _ => ?_) (fun c31 => absurd (by decide) c31)
  refine lv_iload hx hb dX12_feed_40 (lv_at hl 0 rfl) ?_
  refine lv_bipush (v := 8) hx hb dX12_feed_42 (by decide) ?_
  refine lv_icmp_ge (tgt := 51) hx hb dX12_feed_44 (by decide) (fun _ => ?_) (fun c32 => absurd (by decide) c32)
  refine lv_iload hx hb dX12_feed_51 (lv_at hl 0 rfl) ?_
  refine lv_bipush (v := 12) hx hb dX12_feed_53 (by decide) ?_
  refine lv_icmp_ge (tgt := 62) hx hb dX12_feed_55 (by decide) (fun c33 => absurd c33 (by decide)) (fun _ => ?_)
  refine lv_iload_n hx hb dX12_feed_58 rfl (lv_at hl 5 rfl) ?_
  refine lv_goto (tgt := 76) hx hb dX12_feed_59 (by decide) ?_
  refine lv_istore (lv' := [(7, .int v3), (6, .int 10), (0, .ref o), (1, .int v1), (2, .int v2), (3, .int v3), (4, .int v4), (5, .int v5)]) hx hb dX12_feed_76 hl (by decide) rfl (fun ls hl => ?_)
  refine lv_aload_n hx hb dX12_feed_78 rfl (lv_at hl 2 rfl) ?_
  refine va_get (D := g.1) (ci := 10) (v := .ref (a 4)) (C := RX12) (T := TX12) (N := 20) hx hb hts izRX12 hown hK hP 0 rfl rfl 7 (by decide) (hts _ k819) (fun _ h9 => h9) rfl dX12_feed_79 ?_
  refine lv_aload_n hx hb dX12_feed_82 rfl (lv_at hl 2 rfl) ?_
  refine va_get (D := g.1) (ci := 10) (v := .int 10) (C := RX12) (T := TX12) (N := 20) hx hb hts izRX12 hown hK hP 0 rfl rfl 8 (by decide) (hts _ k864) (fun _ h9 => h9) rfl dX12_feed_83 ?_
  refine lv_iload hx hb dX12_feed_86 (lv_at hl 0 rfl) ?_
  refine lv_bipush (v := 24) hx hb dX12_feed_88 (by decide) ?_
  refine lv_bipush (v := 8) hx hb dX12_feed_90 (by decide) ?_
  refine lv_iload hx hb dX12_feed_92 (lv_at hl 1 rfl) ?_
  refine lv_iconst (v := 4) hx hb dX12_feed_94 (by decide) ?_
  refine lv_irem hx hb dX12_feed_95 (by decide) ?_
  refine ztop (r := 2) (by decide) ?_
  refine lv_imul hx hb dX12_feed_96 ?_
  refine ztop (r := 16) (by decide) ?_
  refine lv_isub hx hb dX12_feed_97 ?_
  refine ztop (r := 8) (by decide) ?_
  refine lv_iushr (v := ((v3 : Int32).toUInt32 >>> ((8 : Int32).toUInt32 &&& Int32.toUInt32 31)).toInt32) hx hb dX12_feed_98 rfl ?_
  refine lv_sipush (v := 255) hx hb dX12_feed_99 (by decide) ?_
  refine lv_iand hx hb dX12_feed_102 ?_
  refine va_iast hx hb hK hP hD hS 5 0 rfl rfl (zin rfl) dX12_feed_103 (fun H locs hP hD hS => ?_)
  have hP : va_P g.1 vwCl (List.flatten [[(o, .inr (10, [.int 0, .ref (a 0), .ref (a 1), .int hi, .ref (a 2), .ref (a 3), .int ac, .ref (a 4), .int 10, .int ba, .int en, .int tA, .int fl, .int de, .ref (a 5), .int iD, .int iO, .int tU, .ref (a 6), .ref (a 7)]))], [(a 0, .inl (g.2 0, 779, .inl (f 0))), (a 1, .inl (g.2 0, 779, .inl (f 1))), (a 2, .inl (g.2 0, 379, .inl (f 2))), (a 3, .inl (g.2 0, 4548, .inl (f 3))), (a 4, .inl (g.2 0, 400, .inl (upd (upd (upd (upd (upd (upd (upd (upd (upd (upd (upd (f 4) 0 ((((v1 : Int32).toUInt32 >>> ((24 : Int32).toUInt32 &&& Int32.toUInt32 31)).toInt32) &&& 255)) 1 ((((v1 : Int32).toUInt32 >>> ((16 : Int32).toUInt32 &&& Int32.toUInt32 31)).toInt32) &&& 255)) 2 ((((v1 : Int32).toUInt32 >>> ((8 : Int32).toUInt32 &&& Int32.toUInt32 31)).toInt32) &&& 255)) 3 ((((v1 : Int32).toUInt32 >>> ((0 : Int32).toUInt32 &&& Int32.toUInt32 31)).toInt32) &&& 255)) 4 ((((v2 : Int32).toUInt32 >>> ((24 : Int32).toUInt32 &&& Int32.toUInt32 31)).toInt32) &&& 255)) 5 ((((v2 : Int32).toUInt32 >>> ((16 : Int32).toUInt32 &&& Int32.toUInt32 31)).toInt32) &&& 255)) 6 ((((v2 : Int32).toUInt32 >>> ((8 : Int32).toUInt32 &&& Int32.toUInt32 31)).toInt32) &&& 255)) 7 ((((v2 : Int32).toUInt32 >>> ((0 : Int32).toUInt32 &&& Int32.toUInt32 31)).toInt32) &&& 255)) 8 ((((v3 : Int32).toUInt32 >>> ((24 : Int32).toUInt32 &&& Int32.toUInt32 31)).toInt32) &&& 255)) 9 ((((v3 : Int32).toUInt32 >>> ((16 : Int32).toUInt32 &&& Int32.toUInt32 31)).toInt32) &&& 255)) 10 ((((v3 : Int32).toUInt32 >>> ((8 : Int32).toUInt32 &&& Int32.toUInt32 31)).toInt32) &&& 255)))), (a 5, .inl (g.2 0, 6, .inl (f 5))), (a 6, .inl (g.2 0, 8, .inl (f 6))), (a 7, .inl (g.2 1, 256, .inl (f 7)))]]) H := hP
  have hD : va_D A (List.flatten [[(o, .inr (10, [.int 0, .ref (a 0), .ref (a 1), .int hi, .ref (a 2), .ref (a 3), .int ac, .ref (a 4), .int 10, .int ba, .int en, .int tA, .int fl, .int de, .ref (a 5), .int iD, .int iO, .int tU, .ref (a 6), .ref (a 7)]))], [(a 0, .inl (g.2 0, 779, .inl (f 0))), (a 1, .inl (g.2 0, 779, .inl (f 1))), (a 2, .inl (g.2 0, 379, .inl (f 2))), (a 3, .inl (g.2 0, 4548, .inl (f 3))), (a 4, .inl (g.2 0, 400, .inl (upd (upd (upd (upd (upd (upd (upd (upd (upd (upd (upd (f 4) 0 ((((v1 : Int32).toUInt32 >>> ((24 : Int32).toUInt32 &&& Int32.toUInt32 31)).toInt32) &&& 255)) 1 ((((v1 : Int32).toUInt32 >>> ((16 : Int32).toUInt32 &&& Int32.toUInt32 31)).toInt32) &&& 255)) 2 ((((v1 : Int32).toUInt32 >>> ((8 : Int32).toUInt32 &&& Int32.toUInt32 31)).toInt32) &&& 255)) 3 ((((v1 : Int32).toUInt32 >>> ((0 : Int32).toUInt32 &&& Int32.toUInt32 31)).toInt32) &&& 255)) 4 ((((v2 : Int32).toUInt32 >>> ((24 : Int32).toUInt32 &&& Int32.toUInt32 31)).toInt32) &&& 255)) 5 ((((v2 : Int32).toUInt32 >>> ((16 : Int32).toUInt32 &&& Int32.toUInt32 31)).toInt32) &&& 255)) 6 ((((v2 : Int32).toUInt32 >>> ((8 : Int32).toUInt32 &&& Int32.toUInt32 31)).toInt32) &&& 255)) 7 ((((v2 : Int32).toUInt32 >>> ((0 : Int32).toUInt32 &&& Int32.toUInt32 31)).toInt32) &&& 255)) 8 ((((v3 : Int32).toUInt32 >>> ((24 : Int32).toUInt32 &&& Int32.toUInt32 31)).toInt32) &&& 255)) 9 ((((v3 : Int32).toUInt32 >>> ((16 : Int32).toUInt32 &&& Int32.toUInt32 31)).toInt32) &&& 255)) 10 ((((v3 : Int32).toUInt32 >>> ((8 : Int32).toUInt32 &&& Int32.toUInt32 31)).toInt32) &&& 255)))), (a 5, .inl (g.2 0, 6, .inl (f 5))), (a 6, .inl (g.2 0, 8, .inl (f 6))), (a 7, .inl (g.2 1, 256, .inl (f 7)))]]) := hD
  refine lv_aload_n hx hb dX12_feed_104 rfl (lv_at hl 2 rfl) ?_
  refine lv_dup hx hb dX12_feed_105 rfl ?_
  refine va_get (D := g.1) (ci := 10) (v := .int 10) (C := RX12) (T := TX12) (N := 20) hx hb hts izRX12 hown hK hP 0 rfl rfl 8 (by decide) (hts _ k864) (fun _ h9 => h9) rfl dX12_feed_106 ?_
  refine lv_iconst (v := 1) hx hb dX12_feed_109 (by decide) ?_
  refine lv_iadd hx hb dX12_feed_110 ?_
  refine ztop (r := 11) (by decide) ?_
  refine va_put (D := g.1) (ci := 10) (v := .int 11) (ty := .int) (C := RX12) (T := TX12) (N := 20) hx hb hts izRX12 tyX12 tyX12_ok nmX12 hown hK hP hD hS 0 rfl rfl 8 (by decide) (hts _ k864) (fun _ h9 => h9) rfl (by decide +kernel) rfl rfl (Nat.le_of_ble_eq_true rfl) dX12_feed_111 (fun H locs hP hD hS => ?_)
  have hP : va_P g.1 vwCl (List.flatten [[(o, .inr (10, [.int 0, .ref (a 0), .ref (a 1), .int hi, .ref (a 2), .ref (a 3), .int ac, .ref (a 4), .int 11, .int ba, .int en, .int tA, .int fl, .int de, .ref (a 5), .int iD, .int iO, .int tU, .ref (a 6), .ref (a 7)]))], [(a 0, .inl (g.2 0, 779, .inl (f 0))), (a 1, .inl (g.2 0, 779, .inl (f 1))), (a 2, .inl (g.2 0, 379, .inl (f 2))), (a 3, .inl (g.2 0, 4548, .inl (f 3))), (a 4, .inl (g.2 0, 400, .inl (upd (upd (upd (upd (upd (upd (upd (upd (upd (upd (upd (f 4) 0 ((((v1 : Int32).toUInt32 >>> ((24 : Int32).toUInt32 &&& Int32.toUInt32 31)).toInt32) &&& 255)) 1 ((((v1 : Int32).toUInt32 >>> ((16 : Int32).toUInt32 &&& Int32.toUInt32 31)).toInt32) &&& 255)) 2 ((((v1 : Int32).toUInt32 >>> ((8 : Int32).toUInt32 &&& Int32.toUInt32 31)).toInt32) &&& 255)) 3 ((((v1 : Int32).toUInt32 >>> ((0 : Int32).toUInt32 &&& Int32.toUInt32 31)).toInt32) &&& 255)) 4 ((((v2 : Int32).toUInt32 >>> ((24 : Int32).toUInt32 &&& Int32.toUInt32 31)).toInt32) &&& 255)) 5 ((((v2 : Int32).toUInt32 >>> ((16 : Int32).toUInt32 &&& Int32.toUInt32 31)).toInt32) &&& 255)) 6 ((((v2 : Int32).toUInt32 >>> ((8 : Int32).toUInt32 &&& Int32.toUInt32 31)).toInt32) &&& 255)) 7 ((((v2 : Int32).toUInt32 >>> ((0 : Int32).toUInt32 &&& Int32.toUInt32 31)).toInt32) &&& 255)) 8 ((((v3 : Int32).toUInt32 >>> ((24 : Int32).toUInt32 &&& Int32.toUInt32 31)).toInt32) &&& 255)) 9 ((((v3 : Int32).toUInt32 >>> ((16 : Int32).toUInt32 &&& Int32.toUInt32 31)).toInt32) &&& 255)) 10 ((((v3 : Int32).toUInt32 >>> ((8 : Int32).toUInt32 &&& Int32.toUInt32 31)).toInt32) &&& 255)))), (a 5, .inl (g.2 0, 6, .inl (f 5))), (a 6, .inl (g.2 0, 8, .inl (f 6))), (a 7, .inl (g.2 1, 256, .inl (f 7)))]]) H := hP
  have hD : va_D A (List.flatten [[(o, .inr (10, [.int 0, .ref (a 0), .ref (a 1), .int hi, .ref (a 2), .ref (a 3), .int ac, .ref (a 4), .int 11, .int ba, .int en, .int tA, .int fl, .int de, .ref (a 5), .int iD, .int iO, .int tU, .ref (a 6), .ref (a 7)]))], [(a 0, .inl (g.2 0, 779, .inl (f 0))), (a 1, .inl (g.2 0, 779, .inl (f 1))), (a 2, .inl (g.2 0, 379, .inl (f 2))), (a 3, .inl (g.2 0, 4548, .inl (f 3))), (a 4, .inl (g.2 0, 400, .inl (upd (upd (upd (upd (upd (upd (upd (upd (upd (upd (upd (f 4) 0 ((((v1 : Int32).toUInt32 >>> ((24 : Int32).toUInt32 &&& Int32.toUInt32 31)).toInt32) &&& 255)) 1 ((((v1 : Int32).toUInt32 >>> ((16 : Int32).toUInt32 &&& Int32.toUInt32 31)).toInt32) &&& 255)) 2 ((((v1 : Int32).toUInt32 >>> ((8 : Int32).toUInt32 &&& Int32.toUInt32 31)).toInt32) &&& 255)) 3 ((((v1 : Int32).toUInt32 >>> ((0 : Int32).toUInt32 &&& Int32.toUInt32 31)).toInt32) &&& 255)) 4 ((((v2 : Int32).toUInt32 >>> ((24 : Int32).toUInt32 &&& Int32.toUInt32 31)).toInt32) &&& 255)) 5 ((((v2 : Int32).toUInt32 >>> ((16 : Int32).toUInt32 &&& Int32.toUInt32 31)).toInt32) &&& 255)) 6 ((((v2 : Int32).toUInt32 >>> ((8 : Int32).toUInt32 &&& Int32.toUInt32 31)).toInt32) &&& 255)) 7 ((((v2 : Int32).toUInt32 >>> ((0 : Int32).toUInt32 &&& Int32.toUInt32 31)).toInt32) &&& 255)) 8 ((((v3 : Int32).toUInt32 >>> ((24 : Int32).toUInt32 &&& Int32.toUInt32 31)).toInt32) &&& 255)) 9 ((((v3 : Int32).toUInt32 >>> ((16 : Int32).toUInt32 &&& Int32.toUInt32 31)).toInt32) &&& 255)) 10 ((((v3 : Int32).toUInt32 >>> ((8 : Int32).toUInt32 &&& Int32.toUInt32 31)).toInt32) &&& 255)))), (a 5, .inl (g.2 0, 6, .inl (f 5))), (a 6, .inl (g.2 0, 8, .inl (f 6))), (a 7, .inl (g.2 1, 256, .inl (f 7)))]]) := hD
  refine lv_iinc (v := 11) (lv' := [(6, .int 11), (7, .int v3), (0, .ref o), (1, .int v1), (2, .int v2), (3, .int v3), (4, .int v4), (5, .int v5)]) hx hb dX12_feed_114 hl (k := 1) rfl (by decide) (by decide) rfl (fun ls hl => ?_)
  refine lv_goto (tgt := 23) hx hb dX12_feed_117 (by decide) ?_
  refine lv_iload hx hb dX12_feed_23 (lv_at hl 0 rfl) ?_
  refine lv_bipush (v := 20) hx hb dX12_feed_25 (by decide) ?_
  refine lv_icmp_ge (tgt := 120) hx hb dX12_feed_27 (by decide) (fun c34 => absurd c34 (by decide)) (fun _ => ?_)
  refine lv_iload hx hb dX12_feed_30 (lv_at hl 0 rfl) ?_
  refine lv_iconst (v := 4) hx hb dX12_feed_32 (by decide) ?_
  refine lv_icmp_ge (tgt := 40) hx hb dX12_feed_33 (by decide) (fun _ => ?_) (fun c35 => absurd (by decide) c35)
  refine lv_iload hx hb dX12_feed_40 (lv_at hl 0 rfl) ?_
  refine lv_bipush (v := 8) hx hb dX12_feed_42 (by decide) ?_
  refine lv_icmp_ge (tgt := 51) hx hb dX12_feed_44 (by decide) (fun _ => ?_) (fun c36 => absurd (by decide) c36)
  refine lv_iload hx hb dX12_feed_51 (lv_at hl 0 rfl) ?_
  refine lv_bipush (v := 12) hx hb dX12_feed_53 (by decide) ?_
  refine lv_icmp_ge (tgt := 62) hx hb dX12_feed_55 (by decide) (fun c37 => absurd c37 (by decide)) (fun _ => ?_)
  refine lv_iload_n hx hb dX12_feed_58 rfl (lv_at hl 5 rfl) ?_
  refine lv_goto (tgt := 76) hx hb dX12_feed_59 (by decide) ?_
  refine lv_istore (lv' := [(7, .int v3), (6, .int 11), (0, .ref o), (1, .int v1), (2, .int v2), (3, .int v3), (4, .int v4), (5, .int v5)]) hx hb dX12_feed_76 hl (by decide) rfl (fun ls hl => ?_)
  refine lv_aload_n hx hb dX12_feed_78 rfl (lv_at hl 2 rfl) ?_
  refine va_get (D := g.1) (ci := 10) (v := .ref (a 4)) (C := RX12) (T := TX12) (N := 20) hx hb hts izRX12 hown hK hP 0 rfl rfl 7 (by decide) (hts _ k819) (fun _ h9 => h9) rfl dX12_feed_79 ?_
  refine lv_aload_n hx hb dX12_feed_82 rfl (lv_at hl 2 rfl) ?_
  refine va_get (D := g.1) (ci := 10) (v := .int 11) (C := RX12) (T := TX12) (N := 20) hx hb hts izRX12 hown hK hP 0 rfl rfl 8 (by decide) (hts _ k864) (fun _ h9 => h9) rfl dX12_feed_83 ?_
  refine lv_iload hx hb dX12_feed_86 (lv_at hl 0 rfl) ?_
  refine lv_bipush (v := 24) hx hb dX12_feed_88 (by decide) ?_
  refine lv_bipush (v := 8) hx hb dX12_feed_90 (by decide) ?_
  refine lv_iload hx hb dX12_feed_92 (lv_at hl 1 rfl) ?_
  refine lv_iconst (v := 4) hx hb dX12_feed_94 (by decide) ?_
  refine lv_irem hx hb dX12_feed_95 (by decide) ?_
  refine ztop (r := 3) (by decide) ?_
  refine lv_imul hx hb dX12_feed_96 ?_
  refine ztop (r := 24) (by decide) ?_
  refine lv_isub hx hb dX12_feed_97 ?_
  refine ztop (r := 0) (by decide) ?_
  refine lv_iushr (v := ((v3 : Int32).toUInt32 >>> ((0 : Int32).toUInt32 &&& Int32.toUInt32 31)).toInt32) hx hb dX12_feed_98 rfl ?_
  refine lv_sipush (v := 255) hx hb dX12_feed_99 (by decide) ?_
  refine lv_iand hx hb dX12_feed_102 ?_
  refine va_iast hx hb hK hP hD hS 5 0 rfl rfl (zin rfl) dX12_feed_103 (fun H locs hP hD hS => ?_)
  have hP : va_P g.1 vwCl (List.flatten [[(o, .inr (10, [.int 0, .ref (a 0), .ref (a 1), .int hi, .ref (a 2), .ref (a 3), .int ac, .ref (a 4), .int 11, .int ba, .int en, .int tA, .int fl, .int de, .ref (a 5), .int iD, .int iO, .int tU, .ref (a 6), .ref (a 7)]))], [(a 0, .inl (g.2 0, 779, .inl (f 0))), (a 1, .inl (g.2 0, 779, .inl (f 1))), (a 2, .inl (g.2 0, 379, .inl (f 2))), (a 3, .inl (g.2 0, 4548, .inl (f 3))), (a 4, .inl (g.2 0, 400, .inl (upd (upd (upd (upd (upd (upd (upd (upd (upd (upd (upd (upd (f 4) 0 ((((v1 : Int32).toUInt32 >>> ((24 : Int32).toUInt32 &&& Int32.toUInt32 31)).toInt32) &&& 255)) 1 ((((v1 : Int32).toUInt32 >>> ((16 : Int32).toUInt32 &&& Int32.toUInt32 31)).toInt32) &&& 255)) 2 ((((v1 : Int32).toUInt32 >>> ((8 : Int32).toUInt32 &&& Int32.toUInt32 31)).toInt32) &&& 255)) 3 ((((v1 : Int32).toUInt32 >>> ((0 : Int32).toUInt32 &&& Int32.toUInt32 31)).toInt32) &&& 255)) 4 ((((v2 : Int32).toUInt32 >>> ((24 : Int32).toUInt32 &&& Int32.toUInt32 31)).toInt32) &&& 255)) 5 ((((v2 : Int32).toUInt32 >>> ((16 : Int32).toUInt32 &&& Int32.toUInt32 31)).toInt32) &&& 255)) 6 ((((v2 : Int32).toUInt32 >>> ((8 : Int32).toUInt32 &&& Int32.toUInt32 31)).toInt32) &&& 255)) 7 ((((v2 : Int32).toUInt32 >>> ((0 : Int32).toUInt32 &&& Int32.toUInt32 31)).toInt32) &&& 255)) 8 ((((v3 : Int32).toUInt32 >>> ((24 : Int32).toUInt32 &&& Int32.toUInt32 31)).toInt32) &&& 255)) 9 ((((v3 : Int32).toUInt32 >>> ((16 : Int32).toUInt32 &&& Int32.toUInt32 31)).toInt32) &&& 255)) 10 ((((v3 : Int32).toUInt32 >>> ((8 : Int32).toUInt32 &&& Int32.toUInt32 31)).toInt32) &&& 255)) 11 ((((v3 : Int32).toUInt32 >>> ((0 : Int32).toUInt32 &&& Int32.toUInt32 31)).toInt32) &&& 255)))), (a 5, .inl (g.2 0, 6, .inl (f 5))), (a 6, .inl (g.2 0, 8, .inl (f 6))), (a 7, .inl (g.2 1, 256, .inl (f 7)))]]) H := hP
  have hD : va_D A (List.flatten [[(o, .inr (10, [.int 0, .ref (a 0), .ref (a 1), .int hi, .ref (a 2), .ref (a 3), .int ac, .ref (a 4), .int 11, .int ba, .int en, .int tA, .int fl, .int de, .ref (a 5), .int iD, .int iO, .int tU, .ref (a 6), .ref (a 7)]))], [(a 0, .inl (g.2 0, 779, .inl (f 0))), (a 1, .inl (g.2 0, 779, .inl (f 1))), (a 2, .inl (g.2 0, 379, .inl (f 2))), (a 3, .inl (g.2 0, 4548, .inl (f 3))), (a 4, .inl (g.2 0, 400, .inl (upd (upd (upd (upd (upd (upd (upd (upd (upd (upd (upd (upd (f 4) 0 ((((v1 : Int32).toUInt32 >>> ((24 : Int32).toUInt32 &&& Int32.toUInt32 31)).toInt32) &&& 255)) 1 ((((v1 : Int32).toUInt32 >>> ((16 : Int32).toUInt32 &&& Int32.toUInt32 31)).toInt32) &&& 255)) 2 ((((v1 : Int32).toUInt32 >>> ((8 : Int32).toUInt32 &&& Int32.toUInt32 31)).toInt32) &&& 255)) 3 ((((v1 : Int32).toUInt32 >>> ((0 : Int32).toUInt32 &&& Int32.toUInt32 31)).toInt32) &&& 255)) 4 ((((v2 : Int32).toUInt32 >>> ((24 : Int32).toUInt32 &&& Int32.toUInt32 31)).toInt32) &&& 255)) 5 ((((v2 : Int32).toUInt32 >>> ((16 : Int32).toUInt32 &&& Int32.toUInt32 31)).toInt32) &&& 255)) 6 ((((v2 : Int32).toUInt32 >>> ((8 : Int32).toUInt32 &&& Int32.toUInt32 31)).toInt32) &&& 255)) 7 ((((v2 : Int32).toUInt32 >>> ((0 : Int32).toUInt32 &&& Int32.toUInt32 31)).toInt32) &&& 255)) 8 ((((v3 : Int32).toUInt32 >>> ((24 : Int32).toUInt32 &&& Int32.toUInt32 31)).toInt32) &&& 255)) 9 ((((v3 : Int32).toUInt32 >>> ((16 : Int32).toUInt32 &&& Int32.toUInt32 31)).toInt32) &&& 255)) 10 ((((v3 : Int32).toUInt32 >>> ((8 : Int32).toUInt32 &&& Int32.toUInt32 31)).toInt32) &&& 255)) 11 ((((v3 : Int32).toUInt32 >>> ((0 : Int32).toUInt32 &&& Int32.toUInt32 31)).toInt32) &&& 255)))), (a 5, .inl (g.2 0, 6, .inl (f 5))), (a 6, .inl (g.2 0, 8, .inl (f 6))), (a 7, .inl (g.2 1, 256, .inl (f 7)))]]) := hD
  refine lv_aload_n hx hb dX12_feed_104 rfl (lv_at hl 2 rfl) ?_
  refine lv_dup hx hb dX12_feed_105 rfl ?_
  refine va_get (D := g.1) (ci := 10) (v := .int 11) (C := RX12) (T := TX12) (N := 20) hx hb hts izRX12 hown hK hP 0 rfl rfl 8 (by decide) (hts _ k864) (fun _ h9 => h9) rfl dX12_feed_106 ?_
  refine lv_iconst (v := 1) hx hb dX12_feed_109 (by decide) ?_
  refine lv_iadd hx hb dX12_feed_110 ?_
  refine ztop (r := 12) (by decide) ?_
  refine va_put (D := g.1) (ci := 10) (v := .int 12) (ty := .int) (C := RX12) (T := TX12) (N := 20) hx hb hts izRX12 tyX12 tyX12_ok nmX12 hown hK hP hD hS 0 rfl rfl 8 (by decide) (hts _ k864) (fun _ h9 => h9) rfl (by decide +kernel) rfl rfl (Nat.le_of_ble_eq_true rfl) dX12_feed_111 (fun H locs hP hD hS => ?_)
  have hP : va_P g.1 vwCl (List.flatten [[(o, .inr (10, [.int 0, .ref (a 0), .ref (a 1), .int hi, .ref (a 2), .ref (a 3), .int ac, .ref (a 4), .int 12, .int ba, .int en, .int tA, .int fl, .int de, .ref (a 5), .int iD, .int iO, .int tU, .ref (a 6), .ref (a 7)]))], [(a 0, .inl (g.2 0, 779, .inl (f 0))), (a 1, .inl (g.2 0, 779, .inl (f 1))), (a 2, .inl (g.2 0, 379, .inl (f 2))), (a 3, .inl (g.2 0, 4548, .inl (f 3))), (a 4, .inl (g.2 0, 400, .inl (upd (upd (upd (upd (upd (upd (upd (upd (upd (upd (upd (upd (f 4) 0 ((((v1 : Int32).toUInt32 >>> ((24 : Int32).toUInt32 &&& Int32.toUInt32 31)).toInt32) &&& 255)) 1 ((((v1 : Int32).toUInt32 >>> ((16 : Int32).toUInt32 &&& Int32.toUInt32 31)).toInt32) &&& 255)) 2 ((((v1 : Int32).toUInt32 >>> ((8 : Int32).toUInt32 &&& Int32.toUInt32 31)).toInt32) &&& 255)) 3 ((((v1 : Int32).toUInt32 >>> ((0 : Int32).toUInt32 &&& Int32.toUInt32 31)).toInt32) &&& 255)) 4 ((((v2 : Int32).toUInt32 >>> ((24 : Int32).toUInt32 &&& Int32.toUInt32 31)).toInt32) &&& 255)) 5 ((((v2 : Int32).toUInt32 >>> ((16 : Int32).toUInt32 &&& Int32.toUInt32 31)).toInt32) &&& 255)) 6 ((((v2 : Int32).toUInt32 >>> ((8 : Int32).toUInt32 &&& Int32.toUInt32 31)).toInt32) &&& 255)) 7 ((((v2 : Int32).toUInt32 >>> ((0 : Int32).toUInt32 &&& Int32.toUInt32 31)).toInt32) &&& 255)) 8 ((((v3 : Int32).toUInt32 >>> ((24 : Int32).toUInt32 &&& Int32.toUInt32 31)).toInt32) &&& 255)) 9 ((((v3 : Int32).toUInt32 >>> ((16 : Int32).toUInt32 &&& Int32.toUInt32 31)).toInt32) &&& 255)) 10 ((((v3 : Int32).toUInt32 >>> ((8 : Int32).toUInt32 &&& Int32.toUInt32 31)).toInt32) &&& 255)) 11 ((((v3 : Int32).toUInt32 >>> ((0 : Int32).toUInt32 &&& Int32.toUInt32 31)).toInt32) &&& 255)))), (a 5, .inl (g.2 0, 6, .inl (f 5))), (a 6, .inl (g.2 0, 8, .inl (f 6))), (a 7, .inl (g.2 1, 256, .inl (f 7)))]]) H := hP
  have hD : va_D A (List.flatten [[(o, .inr (10, [.int 0, .ref (a 0), .ref (a 1), .int hi, .ref (a 2), .ref (a 3), .int ac, .ref (a 4), .int 12, .int ba, .int en, .int tA, .int fl, .int de, .ref (a 5), .int iD, .int iO, .int tU, .ref (a 6), .ref (a 7)]))], [(a 0, .inl (g.2 0, 779, .inl (f 0))), (a 1, .inl (g.2 0, 779, .inl (f 1))), (a 2, .inl (g.2 0, 379, .inl (f 2))), (a 3, .inl (g.2 0, 4548, .inl (f 3))), (a 4, .inl (g.2 0, 400, .inl (upd (upd (upd (upd (upd (upd (upd (upd (upd (upd (upd (upd (f 4) 0 ((((v1 : Int32).toUInt32 >>> ((24 : Int32).toUInt32 &&& Int32.toUInt32 31)).toInt32) &&& 255)) 1 ((((v1 : Int32).toUInt32 >>> ((16 : Int32).toUInt32 &&& Int32.toUInt32 31)).toInt32) &&& 255)) 2 ((((v1 : Int32).toUInt32 >>> ((8 : Int32).toUInt32 &&& Int32.toUInt32 31)).toInt32) &&& 255)) 3 ((((v1 : Int32).toUInt32 >>> ((0 : Int32).toUInt32 &&& Int32.toUInt32 31)).toInt32) &&& 255)) 4 ((((v2 : Int32).toUInt32 >>> ((24 : Int32).toUInt32 &&& Int32.toUInt32 31)).toInt32) &&& 255)) 5 ((((v2 : Int32).toUInt32 >>> ((16 : Int32).toUInt32 &&& Int32.toUInt32 31)).toInt32) &&& 255)) 6 ((((v2 : Int32).toUInt32 >>> ((8 : Int32).toUInt32 &&& Int32.toUInt32 31)).toInt32) &&& 255)) 7 ((((v2 : Int32).toUInt32 >>> ((0 : Int32).toUInt32 &&& Int32.toUInt32 31)).toInt32) &&& 255)) 8 ((((v3 : Int32).toUInt32 >>> ((24 : Int32).toUInt32 &&& Int32.toUInt32 31)).toInt32) &&& 255)) 9 ((((v3 : Int32).toUInt32 >>> ((16 : Int32).toUInt32 &&& Int32.toUInt32 31)).toInt32) &&& 255)) 10 ((((v3 : Int32).toUInt32 >>> ((8 : Int32).toUInt32 &&& Int32.toUInt32 31)).toInt32) &&& 255)) 11 ((((v3 : Int32).toUInt32 >>> ((0 : Int32).toUInt32 &&& Int32.toUInt32 31)).toInt32) &&& 255)))), (a 5, .inl (g.2 0, 6, .inl (f 5))), (a 6, .inl (g.2 0, 8, .inl (f 6))), (a 7, .inl (g.2 1, 256, .inl (f 7)))]]) := hD
  refine lv_iinc (v := 12) (lv' := [(6, .int 12), (7, .int v3), (0, .ref o), (1, .int v1), (2, .int v2), (3, .int v3), (4, .int v4), (5, .int v5)]) hx hb dX12_feed_114 hl (k := 1) rfl (by decide) (by decide) rfl (fun ls hl => ?_)
  refine lv_goto (tgt := 23) hx hb dX12_feed_117 (by decide) ?_
  refine lv_iload hx hb dX12_feed_23 (lv_at hl 0 rfl) ?_
  refine lv_bipush (v := 20) hx hb dX12_feed_25 (by decide) ?_
  refine lv_icmp_ge (tgt := 120) hx hb dX12_feed_27 (by decide) (fun c38 => absurd c38 (by decide)) (fun _ => ?_)
  refine lv_iload hx hb dX12_feed_30 (lv_at hl 0 rfl) ?_
  refine lv_iconst (v := 4) hx hb dX12_feed_32 (by decide) ?_
  refine lv_icmp_ge (tgt := 40) hx hb dX12_feed_33 (by decide) (fun _ => ?_) (fun c39 => absurd (by decide) c39)
  refine lv_iload hx hb dX12_feed_40 (lv_at hl 0 rfl) ?_
  refine lv_bipush (v := 8) hx hb dX12_feed_42 (by decide) ?_
  refine lv_icmp_ge (tgt := 51) hx hb dX12_feed_44 (by decide) (fun _ => ?_) (fun c40 => absurd (by decide) c40)
  refine lv_iload hx hb dX12_feed_51 (lv_at hl 0 rfl) ?_
  refine lv_bipush (v := 12) hx hb dX12_feed_53 (by decide) ?_
  refine lv_icmp_ge (tgt := 62) hx hb dX12_feed_55 (by decide) (fun _ => ?_) (fun c41 => absurd (by decide) c41)
  refine lv_iload hx hb dX12_feed_62 (lv_at hl 0 rfl) ?_
  refine lv_bipush (v := 16) hx hb dX12_feed_64 (by decide) ?_
  refine lv_icmp_ge (tgt := 74) hx hb dX12_feed_66 (by decide) (fun c42 => absurd c42 (by decide)) (fun _ => ?_)
  refine lv_iload hx hb dX12_feed_69 (lv_at hl 6 rfl) ?_
  refine lv_goto (tgt := 76) hx hb dX12_feed_71 (by decide) ?_
  refine lv_istore (lv' := [(7, .int v4), (6, .int 12), (0, .ref o), (1, .int v1), (2, .int v2), (3, .int v3), (4, .int v4), (5, .int v5)]) hx hb dX12_feed_76 hl (by decide) rfl (fun ls hl => ?_)
  refine lv_aload_n hx hb dX12_feed_78 rfl (lv_at hl 2 rfl) ?_
  refine va_get (D := g.1) (ci := 10) (v := .ref (a 4)) (C := RX12) (T := TX12) (N := 20) hx hb hts izRX12 hown hK hP 0 rfl rfl 7 (by decide) (hts _ k819) (fun _ h9 => h9) rfl dX12_feed_79 ?_
  refine lv_aload_n hx hb dX12_feed_82 rfl (lv_at hl 2 rfl) ?_
  refine va_get (D := g.1) (ci := 10) (v := .int 12) (C := RX12) (T := TX12) (N := 20) hx hb hts izRX12 hown hK hP 0 rfl rfl 8 (by decide) (hts _ k864) (fun _ h9 => h9) rfl dX12_feed_83 ?_
  refine lv_iload hx hb dX12_feed_86 (lv_at hl 0 rfl) ?_
  refine lv_bipush (v := 24) hx hb dX12_feed_88 (by decide) ?_
  refine lv_bipush (v := 8) hx hb dX12_feed_90 (by decide) ?_
  refine lv_iload hx hb dX12_feed_92 (lv_at hl 1 rfl) ?_
  refine lv_iconst (v := 4) hx hb dX12_feed_94 (by decide) ?_
  refine lv_irem hx hb dX12_feed_95 (by decide) ?_
  refine ztop (r := 0) (by decide) ?_
  refine lv_imul hx hb dX12_feed_96 ?_
  refine ztop (r := 0) (by decide) ?_
  refine lv_isub hx hb dX12_feed_97 ?_
  refine ztop (r := 24) (by decide) ?_
  refine lv_iushr (v := ((v4 : Int32).toUInt32 >>> ((24 : Int32).toUInt32 &&& Int32.toUInt32 31)).toInt32) hx hb dX12_feed_98 rfl ?_
  refine lv_sipush (v := 255) hx hb dX12_feed_99 (by decide) ?_
  refine lv_iand hx hb dX12_feed_102 ?_
  refine va_iast hx hb hK hP hD hS 5 0 rfl rfl (zin rfl) dX12_feed_103 (fun H locs hP hD hS => ?_)
  have hP : va_P g.1 vwCl (List.flatten [[(o, .inr (10, [.int 0, .ref (a 0), .ref (a 1), .int hi, .ref (a 2), .ref (a 3), .int ac, .ref (a 4), .int 12, .int ba, .int en, .int tA, .int fl, .int de, .ref (a 5), .int iD, .int iO, .int tU, .ref (a 6), .ref (a 7)]))], [(a 0, .inl (g.2 0, 779, .inl (f 0))), (a 1, .inl (g.2 0, 779, .inl (f 1))), (a 2, .inl (g.2 0, 379, .inl (f 2))), (a 3, .inl (g.2 0, 4548, .inl (f 3))), (a 4, .inl (g.2 0, 400, .inl (upd (upd (upd (upd (upd (upd (upd (upd (upd (upd (upd (upd (upd (f 4) 0 ((((v1 : Int32).toUInt32 >>> ((24 : Int32).toUInt32 &&& Int32.toUInt32 31)).toInt32) &&& 255)) 1 ((((v1 : Int32).toUInt32 >>> ((16 : Int32).toUInt32 &&& Int32.toUInt32 31)).toInt32) &&& 255)) 2 ((((v1 : Int32).toUInt32 >>> ((8 : Int32).toUInt32 &&& Int32.toUInt32 31)).toInt32) &&& 255)) 3 ((((v1 : Int32).toUInt32 >>> ((0 : Int32).toUInt32 &&& Int32.toUInt32 31)).toInt32) &&& 255)) 4 ((((v2 : Int32).toUInt32 >>> ((24 : Int32).toUInt32 &&& Int32.toUInt32 31)).toInt32) &&& 255)) 5 ((((v2 : Int32).toUInt32 >>> ((16 : Int32).toUInt32 &&& Int32.toUInt32 31)).toInt32) &&& 255)) 6 ((((v2 : Int32).toUInt32 >>> ((8 : Int32).toUInt32 &&& Int32.toUInt32 31)).toInt32) &&& 255)) 7 ((((v2 : Int32).toUInt32 >>> ((0 : Int32).toUInt32 &&& Int32.toUInt32 31)).toInt32) &&& 255)) 8 ((((v3 : Int32).toUInt32 >>> ((24 : Int32).toUInt32 &&& Int32.toUInt32 31)).toInt32) &&& 255)) 9 ((((v3 : Int32).toUInt32 >>> ((16 : Int32).toUInt32 &&& Int32.toUInt32 31)).toInt32) &&& 255)) 10 ((((v3 : Int32).toUInt32 >>> ((8 : Int32).toUInt32 &&& Int32.toUInt32 31)).toInt32) &&& 255)) 11 ((((v3 : Int32).toUInt32 >>> ((0 : Int32).toUInt32 &&& Int32.toUInt32 31)).toInt32) &&& 255)) 12 ((((v4 : Int32).toUInt32 >>> ((24 : Int32).toUInt32 &&& Int32.toUInt32 31)).toInt32) &&& 255)))), (a 5, .inl (g.2 0, 6, .inl (f 5))), (a 6, .inl (g.2 0, 8, .inl (f 6))), (a 7, .inl (g.2 1, 256, .inl (f 7)))]]) H := hP
  have hD : va_D A (List.flatten [[(o, .inr (10, [.int 0, .ref (a 0), .ref (a 1), .int hi, .ref (a 2), .ref (a 3), .int ac, .ref (a 4), .int 12, .int ba, .int en, .int tA, .int fl, .int de, .ref (a 5), .int iD, .int iO, .int tU, .ref (a 6), .ref (a 7)]))], [(a 0, .inl (g.2 0, 779, .inl (f 0))), (a 1, .inl (g.2 0, 779, .inl (f 1))), (a 2, .inl (g.2 0, 379, .inl (f 2))), (a 3, .inl (g.2 0, 4548, .inl (f 3))), (a 4, .inl (g.2 0, 400, .inl (upd (upd (upd (upd (upd (upd (upd (upd (upd (upd (upd (upd (upd (f 4) 0 ((((v1 : Int32).toUInt32 >>> ((24 : Int32).toUInt32 &&& Int32.toUInt32 31)).toInt32) &&& 255)) 1 ((((v1 : Int32).toUInt32 >>> ((16 : Int32).toUInt32 &&& Int32.toUInt32 31)).toInt32) &&& 255)) 2 ((((v1 : Int32).toUInt32 >>> ((8 : Int32).toUInt32 &&& Int32.toUInt32 31)).toInt32) &&& 255)) 3 ((((v1 : Int32).toUInt32 >>> ((0 : Int32).toUInt32 &&& Int32.toUInt32 31)).toInt32) &&& 255)) 4 ((((v2 : Int32).toUInt32 >>> ((24 : Int32).toUInt32 &&& Int32.toUInt32 31)).toInt32) &&& 255)) 5 ((((v2 : Int32).toUInt32 >>> ((16 : Int32).toUInt32 &&& Int32.toUInt32 31)).toInt32) &&& 255)) 6 ((((v2 : Int32).toUInt32 >>> ((8 : Int32).toUInt32 &&& Int32.toUInt32 31)).toInt32) &&& 255)) 7 ((((v2 : Int32).toUInt32 >>> ((0 : Int32).toUInt32 &&& Int32.toUInt32 31)).toInt32) &&& 255)) 8 ((((v3 : Int32).toUInt32 >>> ((24 : Int32).toUInt32 &&& Int32.toUInt32 31)).toInt32) &&& 255)) 9 ((((v3 : Int32).toUInt32 >>> ((16 : Int32).toUInt32 &&& Int32.toUInt32 31)).toInt32) &&& 255)) 10 ((((v3 : Int32).toUInt32 >>> ((8 : Int32).toUInt32 &&& Int32.toUInt32 31)).toInt32) &&& 255)) 11 ((((v3 : Int32).toUInt32 >>> ((0 : Int32).toUInt32 &&& Int32.toUInt32 31)).toInt32) &&& 255)) 12 ((((v4 : Int32).toUInt32 >>> ((24 : Int32).toUInt32 &&& Int32.toUInt32 31)).toInt32) &&& 255)))), (a 5, .inl (g.2 0, 6, .inl (f 5))), (a 6, .inl (g.2 0, 8, .inl (f 6))), (a 7, .inl (g.2 1, 256, .inl (f 7)))]]) := hD
  refine lv_aload_n hx hb dX12_feed_104 rfl (lv_at hl 2 rfl) ?_
  refine lv_dup hx hb dX12_feed_105 rfl ?_
  refine va_get (D := g.1) (ci := 10) (v := .int 12) (C := RX12) (T := TX12) (N := 20) hx hb hts izRX12 hown hK hP 0 rfl rfl 8 (by decide) (hts _ k864) (fun _ h9 => h9) rfl dX12_feed_106 ?_
  refine lv_iconst (v := 1) hx hb dX12_feed_109 (by decide) ?_
  refine lv_iadd hx hb dX12_feed_110 ?_
  refine ztop (r := 13) (by decide) ?_
  refine va_put (D := g.1) (ci := 10) (v := .int 13) (ty := .int) (C := RX12) (T := TX12) (N := 20) hx hb hts izRX12 tyX12 tyX12_ok nmX12 hown hK hP hD hS 0 rfl rfl 8 (by decide) (hts _ k864) (fun _ h9 => h9) rfl (by decide +kernel) rfl rfl (Nat.le_of_ble_eq_true rfl) dX12_feed_111 (fun H locs hP hD hS => ?_)
  have hP : va_P g.1 vwCl (List.flatten [[(o, .inr (10, [.int 0, .ref (a 0), .ref (a 1), .int hi, .ref (a 2), .ref (a 3), .int ac, .ref (a 4), .int 13, .int ba, .int en, .int tA, .int fl, .int de, .ref (a 5), .int iD, .int iO, .int tU, .ref (a 6), .ref (a 7)]))], [(a 0, .inl (g.2 0, 779, .inl (f 0))), (a 1, .inl (g.2 0, 779, .inl (f 1))), (a 2, .inl (g.2 0, 379, .inl (f 2))), (a 3, .inl (g.2 0, 4548, .inl (f 3))), (a 4, .inl (g.2 0, 400, .inl (upd (upd (upd (upd (upd (upd (upd (upd (upd (upd (upd (upd (upd (f 4) 0 ((((v1 : Int32).toUInt32 >>> ((24 : Int32).toUInt32 &&& Int32.toUInt32 31)).toInt32) &&& 255)) 1 ((((v1 : Int32).toUInt32 >>> ((16 : Int32).toUInt32 &&& Int32.toUInt32 31)).toInt32) &&& 255)) 2 ((((v1 : Int32).toUInt32 >>> ((8 : Int32).toUInt32 &&& Int32.toUInt32 31)).toInt32) &&& 255)) 3 ((((v1 : Int32).toUInt32 >>> ((0 : Int32).toUInt32 &&& Int32.toUInt32 31)).toInt32) &&& 255)) 4 ((((v2 : Int32).toUInt32 >>> ((24 : Int32).toUInt32 &&& Int32.toUInt32 31)).toInt32) &&& 255)) 5 ((((v2 : Int32).toUInt32 >>> ((16 : Int32).toUInt32 &&& Int32.toUInt32 31)).toInt32) &&& 255)) 6 ((((v2 : Int32).toUInt32 >>> ((8 : Int32).toUInt32 &&& Int32.toUInt32 31)).toInt32) &&& 255)) 7 ((((v2 : Int32).toUInt32 >>> ((0 : Int32).toUInt32 &&& Int32.toUInt32 31)).toInt32) &&& 255)) 8 ((((v3 : Int32).toUInt32 >>> ((24 : Int32).toUInt32 &&& Int32.toUInt32 31)).toInt32) &&& 255)) 9 ((((v3 : Int32).toUInt32 >>> ((16 : Int32).toUInt32 &&& Int32.toUInt32 31)).toInt32) &&& 255)) 10 ((((v3 : Int32).toUInt32 >>> ((8 : Int32).toUInt32 &&& Int32.toUInt32 31)).toInt32) &&& 255)) 11 ((((v3 : Int32).toUInt32 >>> ((0 : Int32).toUInt32 &&& Int32.toUInt32 31)).toInt32) &&& 255)) 12 ((((v4 : Int32).toUInt32 >>> ((24 : Int32).toUInt32 &&& Int32.toUInt32 31)).toInt32) &&& 255)))), (a 5, .inl (g.2 0, 6, .inl (f 5))), (a 6, .inl (g.2 0, 8, .inl (f 6))), (a 7, .inl (g.2 1, 256, .inl (f 7)))]]) H := hP
  have hD : va_D A (List.flatten [[(o, .inr (10, [.int 0, .ref (a 0), .ref (a 1), .int hi, .ref (a 2), .ref (a 3), .int ac, .ref (a 4), .int 13, .int ba, .int en, .int tA, .int fl, .int de, .ref (a 5), .int iD, .int iO, .int tU, .ref (a 6), .ref (a 7)]))], [(a 0, .inl (g.2 0, 779, .inl (f 0))), (a 1, .inl (g.2 0, 779, .inl (f 1))), (a 2, .inl (g.2 0, 379, .inl (f 2))), (a 3, .inl (g.2 0, 4548, .inl (f 3))), (a 4, .inl (g.2 0, 400, .inl (upd (upd (upd (upd (upd (upd (upd (upd (upd (upd (upd (upd (upd (f 4) 0 ((((v1 : Int32).toUInt32 >>> ((24 : Int32).toUInt32 &&& Int32.toUInt32 31)).toInt32) &&& 255)) 1 ((((v1 : Int32).toUInt32 >>> ((16 : Int32).toUInt32 &&& Int32.toUInt32 31)).toInt32) &&& 255)) 2 ((((v1 : Int32).toUInt32 >>> ((8 : Int32).toUInt32 &&& Int32.toUInt32 31)).toInt32) &&& 255)) 3 ((((v1 : Int32).toUInt32 >>> ((0 : Int32).toUInt32 &&& Int32.toUInt32 31)).toInt32) &&& 255)) 4 ((((v2 : Int32).toUInt32 >>> ((24 : Int32).toUInt32 &&& Int32.toUInt32 31)).toInt32) &&& 255)) 5 ((((v2 : Int32).toUInt32 >>> ((16 : Int32).toUInt32 &&& Int32.toUInt32 31)).toInt32) &&& 255)) 6 ((((v2 : Int32).toUInt32 >>> ((8 : Int32).toUInt32 &&& Int32.toUInt32 31)).toInt32) &&& 255)) 7 ((((v2 : Int32).toUInt32 >>> ((0 : Int32).toUInt32 &&& Int32.toUInt32 31)).toInt32) &&& 255)) 8 ((((v3 : Int32).toUInt32 >>> ((24 : Int32).toUInt32 &&& Int32.toUInt32 31)).toInt32) &&& 255)) 9 ((((v3 : Int32).toUInt32 >>> ((16 : Int32).toUInt32 &&& Int32.toUInt32 31)).toInt32) &&& 255)) 10 ((((v3 : Int32).toUInt32 >>> ((8 : Int32).toUInt32 &&& Int32.toUInt32 31)).toInt32) &&& 255)) 11 ((((v3 : Int32).toUInt32 >>> ((0 : Int32).toUInt32 &&& Int32.toUInt32 31)).toInt32) &&& 255)) 12 ((((v4 : Int32).toUInt32 >>> ((24 : Int32).toUInt32 &&& Int32.toUInt32 31)).toInt32) &&& 255)))), (a 5, .inl (g.2 0, 6, .inl (f 5))), (a 6, .inl (g.2 0, 8, .inl (f 6))), (a 7, .inl (g.2 1, 256, .inl (f 7)))]]) := hD
  refine lv_iinc (v := 13) (lv' := [(6, .int 13), (7, .int v4), (0, .ref o), (1, .int v1), (2, .int v2), (3, .int v3), (4, .int v4), (5, .int v5)]) hx hb dX12_feed_114 hl (k := 1) rfl (by decide) (by decide) rfl (fun ls hl => ?_)
  refine lv_goto (tgt := 23) hx hb dX12_feed_117 (by decide) ?_
  refine lv_iload hx hb dX12_feed_23 (lv_at hl 0 rfl) ?_
  refine lv_bipush (v := 20) hx hb dX12_feed_25 (by decide) ?_
  refine lv_icmp_ge (tgt := 120) hx hb dX12_feed_27 (by decide) (fun c43 => absurd c43 (by decide)) (fun _ => ?_)
  refine lv_iload hx hb dX12_feed_30 (lv_at hl 0 rfl) ?_
  refine lv_iconst (v := 4) hx hb dX12_feed_32 (by decide) ?_
  refine lv_icmp_ge (tgt := 40) hx hb dX12_feed_33 (by decide) (fun _ => ?_) (fun c44 => absurd (by decide) c44)
  refine lv_iload hx hb dX12_feed_40 (lv_at hl 0 rfl) ?_
  refine lv_bipush (v := 8) hx hb dX12_feed_42 (by decide) ?_
  refine lv_icmp_ge (tgt := 51) hx hb dX12_feed_44 (by decide) (fun _ => ?_) (fun c45 => absurd (by decide) c45)
  refine lv_iload hx hb dX12_feed_51 (lv_at hl 0 rfl) ?_
  refine lv_bipush (v := 12) hx hb dX12_feed_53 (by decide) ?_
  refine lv_icmp_ge (tgt := 62) hx hb dX12_feed_55 (by decide) (fun _ => ?_) (fun c46 => absurd (by decide) c46)
  refine lv_iload hx hb dX12_feed_62 (lv_at hl 0 rfl) ?_
  refine lv_bipush (v := 16) hx hb dX12_feed_64 (by decide) ?_
  refine lv_icmp_ge (tgt := 74) hx hb dX12_feed_66 (by decide) (fun c47 => absurd c47 (by decide)) (fun _ => ?_)
  refine lv_iload hx hb dX12_feed_69 (lv_at hl 6 rfl) ?_
  refine lv_goto (tgt := 76) hx hb dX12_feed_71 (by decide) ?_
  refine lv_istore (lv' := [(7, .int v4), (6, .int 13), (0, .ref o), (1, .int v1), (2, .int v2), (3, .int v3), (4, .int v4), (5, .int v5)]) hx hb dX12_feed_76 hl (by decide) rfl (fun ls hl => ?_)
  refine lv_aload_n hx hb dX12_feed_78 rfl (lv_at hl 2 rfl) ?_
  refine va_get (D := g.1) (ci := 10) (v := .ref (a 4)) (C := RX12) (T := TX12) (N := 20) hx hb hts izRX12 hown hK hP 0 rfl rfl 7 (by decide) (hts _ k819) (fun _ h9 => h9) rfl dX12_feed_79 ?_
  refine lv_aload_n hx hb dX12_feed_82 rfl (lv_at hl 2 rfl) ?_
  refine va_get (D := g.1) (ci := 10) (v := .int 13) (C := RX12) (T := TX12) (N := 20) hx hb hts izRX12 hown hK hP 0 rfl rfl 8 (by decide) (hts _ k864) (fun _ h9 => h9) rfl dX12_feed_83 ?_
  refine lv_iload hx hb dX12_feed_86 (lv_at hl 0 rfl) ?_
  refine lv_bipush (v := 24) hx hb dX12_feed_88 (by decide) ?_
  refine lv_bipush (v := 8) hx hb dX12_feed_90 (by decide) ?_
  refine lv_iload hx hb dX12_feed_92 (lv_at hl 1 rfl) ?_
  refine lv_iconst (v := 4) hx hb dX12_feed_94 (by decide) ?_
  refine lv_irem hx hb dX12_feed_95 (by decide) ?_
  refine ztop (r := 1) (by decide) ?_
  refine lv_imul hx hb dX12_feed_96 ?_
  refine ztop (r := 8) (by decide) ?_
  refine lv_isub hx hb dX12_feed_97 ?_
  refine ztop (r := 16) (by decide) ?_
  refine lv_iushr (v := ((v4 : Int32).toUInt32 >>> ((16 : Int32).toUInt32 &&& Int32.toUInt32 31)).toInt32) hx hb dX12_feed_98 rfl ?_
  refine lv_sipush (v := 255) hx hb dX12_feed_99 (by decide) ?_
  refine lv_iand hx hb dX12_feed_102 ?_
  refine va_iast hx hb hK hP hD hS 5 0 rfl rfl (zin rfl) dX12_feed_103 (fun H locs hP hD hS => ?_)
  have hP : va_P g.1 vwCl (List.flatten [[(o, .inr (10, [.int 0, .ref (a 0), .ref (a 1), .int hi, .ref (a 2), .ref (a 3), .int ac, .ref (a 4), .int 13, .int ba, .int en, .int tA, .int fl, .int de, .ref (a 5), .int iD, .int iO, .int tU, .ref (a 6), .ref (a 7)]))], [(a 0, .inl (g.2 0, 779, .inl (f 0))), (a 1, .inl (g.2 0, 779, .inl (f 1))), (a 2, .inl (g.2 0, 379, .inl (f 2))), (a 3, .inl (g.2 0, 4548, .inl (f 3))), (a 4, .inl (g.2 0, 400, .inl (upd (upd (upd (upd (upd (upd (upd (upd (upd (upd (upd (upd (upd (upd (f 4) 0 ((((v1 : Int32).toUInt32 >>> ((24 : Int32).toUInt32 &&& Int32.toUInt32 31)).toInt32) &&& 255)) 1 ((((v1 : Int32).toUInt32 >>> ((16 : Int32).toUInt32 &&& Int32.toUInt32 31)).toInt32) &&& 255)) 2 ((((v1 : Int32).toUInt32 >>> ((8 : Int32).toUInt32 &&& Int32.toUInt32 31)).toInt32) &&& 255)) 3 ((((v1 : Int32).toUInt32 >>> ((0 : Int32).toUInt32 &&& Int32.toUInt32 31)).toInt32) &&& 255)) 4 ((((v2 : Int32).toUInt32 >>> ((24 : Int32).toUInt32 &&& Int32.toUInt32 31)).toInt32) &&& 255)) 5 ((((v2 : Int32).toUInt32 >>> ((16 : Int32).toUInt32 &&& Int32.toUInt32 31)).toInt32) &&& 255)) 6 ((((v2 : Int32).toUInt32 >>> ((8 : Int32).toUInt32 &&& Int32.toUInt32 31)).toInt32) &&& 255)) 7 ((((v2 : Int32).toUInt32 >>> ((0 : Int32).toUInt32 &&& Int32.toUInt32 31)).toInt32) &&& 255)) 8 ((((v3 : Int32).toUInt32 >>> ((24 : Int32).toUInt32 &&& Int32.toUInt32 31)).toInt32) &&& 255)) 9 ((((v3 : Int32).toUInt32 >>> ((16 : Int32).toUInt32 &&& Int32.toUInt32 31)).toInt32) &&& 255)) 10 ((((v3 : Int32).toUInt32 >>> ((8 : Int32).toUInt32 &&& Int32.toUInt32 31)).toInt32) &&& 255)) 11 ((((v3 : Int32).toUInt32 >>> ((0 : Int32).toUInt32 &&& Int32.toUInt32 31)).toInt32) &&& 255)) 12 ((((v4 : Int32).toUInt32 >>> ((24 : Int32).toUInt32 &&& Int32.toUInt32 31)).toInt32) &&& 255)) 13 ((((v4 : Int32).toUInt32 >>> ((16 : Int32).toUInt32 &&& Int32.toUInt32 31)).toInt32) &&& 255)))), (a 5, .inl (g.2 0, 6, .inl (f 5))), (a 6, .inl (g.2 0, 8, .inl (f 6))), (a 7, .inl (g.2 1, 256, .inl (f 7)))]]) H := hP
  have hD : va_D A (List.flatten [[(o, .inr (10, [.int 0, .ref (a 0), .ref (a 1), .int hi, .ref (a 2), .ref (a 3), .int ac, .ref (a 4), .int 13, .int ba, .int en, .int tA, .int fl, .int de, .ref (a 5), .int iD, .int iO, .int tU, .ref (a 6), .ref (a 7)]))], [(a 0, .inl (g.2 0, 779, .inl (f 0))), (a 1, .inl (g.2 0, 779, .inl (f 1))), (a 2, .inl (g.2 0, 379, .inl (f 2))), (a 3, .inl (g.2 0, 4548, .inl (f 3))), (a 4, .inl (g.2 0, 400, .inl (upd (upd (upd (upd (upd (upd (upd (upd (upd (upd (upd (upd (upd (upd (f 4) 0 ((((v1 : Int32).toUInt32 >>> ((24 : Int32).toUInt32 &&& Int32.toUInt32 31)).toInt32) &&& 255)) 1 ((((v1 : Int32).toUInt32 >>> ((16 : Int32).toUInt32 &&& Int32.toUInt32 31)).toInt32) &&& 255)) 2 ((((v1 : Int32).toUInt32 >>> ((8 : Int32).toUInt32 &&& Int32.toUInt32 31)).toInt32) &&& 255)) 3 ((((v1 : Int32).toUInt32 >>> ((0 : Int32).toUInt32 &&& Int32.toUInt32 31)).toInt32) &&& 255)) 4 ((((v2 : Int32).toUInt32 >>> ((24 : Int32).toUInt32 &&& Int32.toUInt32 31)).toInt32) &&& 255)) 5 ((((v2 : Int32).toUInt32 >>> ((16 : Int32).toUInt32 &&& Int32.toUInt32 31)).toInt32) &&& 255)) 6 ((((v2 : Int32).toUInt32 >>> ((8 : Int32).toUInt32 &&& Int32.toUInt32 31)).toInt32) &&& 255)) 7 ((((v2 : Int32).toUInt32 >>> ((0 : Int32).toUInt32 &&& Int32.toUInt32 31)).toInt32) &&& 255)) 8 ((((v3 : Int32).toUInt32 >>> ((24 : Int32).toUInt32 &&& Int32.toUInt32 31)).toInt32) &&& 255)) 9 ((((v3 : Int32).toUInt32 >>> ((16 : Int32).toUInt32 &&& Int32.toUInt32 31)).toInt32) &&& 255)) 10 ((((v3 : Int32).toUInt32 >>> ((8 : Int32).toUInt32 &&& Int32.toUInt32 31)).toInt32) &&& 255)) 11 ((((v3 : Int32).toUInt32 >>> ((0 : Int32).toUInt32 &&& Int32.toUInt32 31)).toInt32) &&& 255)) 12 ((((v4 : Int32).toUInt32 >>> ((24 : Int32).toUInt32 &&& Int32.toUInt32 31)).toInt32) &&& 255)) 13 ((((v4 : Int32).toUInt32 >>> ((16 : Int32).toUInt32 &&& Int32.toUInt32 31)).toInt32) &&& 255)))), (a 5, .inl (g.2 0, 6, .inl (f 5))), (a 6, .inl (g.2 0, 8, .inl (f 6))), (a 7, .inl (g.2 1, 256, .inl (f 7)))]]) := hD
  refine lv_aload_n hx hb dX12_feed_104 rfl (lv_at hl 2 rfl) ?_
  refine lv_dup hx hb dX12_feed_105 rfl ?_
  refine va_get (D := g.1) (ci := 10) (v := .int 13) (C := RX12) (T := TX12) (N := 20) hx hb hts izRX12 hown hK hP 0 rfl rfl 8 (by decide) (hts _ k864) (fun _ h9 => h9) rfl dX12_feed_106 ?_
  refine lv_iconst (v := 1) hx hb dX12_feed_109 (by decide) ?_
  refine lv_iadd hx hb dX12_feed_110 ?_
  refine ztop (r := 14) (by decide) ?_
  refine va_put (D := g.1) (ci := 10) (v := .int 14) (ty := .int) (C := RX12) (T := TX12) (N := 20) hx hb hts izRX12 tyX12 tyX12_ok nmX12 hown hK hP hD hS 0 rfl rfl 8 (by decide) (hts _ k864) (fun _ h9 => h9) rfl (by decide +kernel) rfl rfl (Nat.le_of_ble_eq_true rfl) dX12_feed_111 (fun H locs hP hD hS => ?_)
  have hP : va_P g.1 vwCl (List.flatten [[(o, .inr (10, [.int 0, .ref (a 0), .ref (a 1), .int hi, .ref (a 2), .ref (a 3), .int ac, .ref (a 4), .int 14, .int ba, .int en, .int tA, .int fl, .int de, .ref (a 5), .int iD, .int iO, .int tU, .ref (a 6), .ref (a 7)]))], [(a 0, .inl (g.2 0, 779, .inl (f 0))), (a 1, .inl (g.2 0, 779, .inl (f 1))), (a 2, .inl (g.2 0, 379, .inl (f 2))), (a 3, .inl (g.2 0, 4548, .inl (f 3))), (a 4, .inl (g.2 0, 400, .inl (upd (upd (upd (upd (upd (upd (upd (upd (upd (upd (upd (upd (upd (upd (f 4) 0 ((((v1 : Int32).toUInt32 >>> ((24 : Int32).toUInt32 &&& Int32.toUInt32 31)).toInt32) &&& 255)) 1 ((((v1 : Int32).toUInt32 >>> ((16 : Int32).toUInt32 &&& Int32.toUInt32 31)).toInt32) &&& 255)) 2 ((((v1 : Int32).toUInt32 >>> ((8 : Int32).toUInt32 &&& Int32.toUInt32 31)).toInt32) &&& 255)) 3 ((((v1 : Int32).toUInt32 >>> ((0 : Int32).toUInt32 &&& Int32.toUInt32 31)).toInt32) &&& 255)) 4 ((((v2 : Int32).toUInt32 >>> ((24 : Int32).toUInt32 &&& Int32.toUInt32 31)).toInt32) &&& 255)) 5 ((((v2 : Int32).toUInt32 >>> ((16 : Int32).toUInt32 &&& Int32.toUInt32 31)).toInt32) &&& 255)) 6 ((((v2 : Int32).toUInt32 >>> ((8 : Int32).toUInt32 &&& Int32.toUInt32 31)).toInt32) &&& 255)) 7 ((((v2 : Int32).toUInt32 >>> ((0 : Int32).toUInt32 &&& Int32.toUInt32 31)).toInt32) &&& 255)) 8 ((((v3 : Int32).toUInt32 >>> ((24 : Int32).toUInt32 &&& Int32.toUInt32 31)).toInt32) &&& 255)) 9 ((((v3 : Int32).toUInt32 >>> ((16 : Int32).toUInt32 &&& Int32.toUInt32 31)).toInt32) &&& 255)) 10 ((((v3 : Int32).toUInt32 >>> ((8 : Int32).toUInt32 &&& Int32.toUInt32 31)).toInt32) &&& 255)) 11 ((((v3 : Int32).toUInt32 >>> ((0 : Int32).toUInt32 &&& Int32.toUInt32 31)).toInt32) &&& 255)) 12 ((((v4 : Int32).toUInt32 >>> ((24 : Int32).toUInt32 &&& Int32.toUInt32 31)).toInt32) &&& 255)) 13 ((((v4 : Int32).toUInt32 >>> ((16 : Int32).toUInt32 &&& Int32.toUInt32 31)).toInt32) &&& 255)))), (a 5, .inl (g.2 0, 6, .inl (f 5))), (a 6, .inl (g.2 0, 8, .inl (f 6))), (a 7, .inl (g.2 1, 256, .inl (f 7)))]]) H := hP
  have hD : va_D A (List.flatten [[(o, .inr (10, [.int 0, .ref (a 0), .ref (a 1), .int hi, .ref (a 2), .ref (a 3), .int ac, .ref (a 4), .int 14, .int ba, .int en, .int tA, .int fl, .int de, .ref (a 5), .int iD, .int iO, .int tU, .ref (a 6), .ref (a 7)]))], [(a 0, .inl (g.2 0, 779, .inl (f 0))), (a 1, .inl (g.2 0, 779, .inl (f 1))), (a 2, .inl (g.2 0, 379, .inl (f 2))), (a 3, .inl (g.2 0, 4548, .inl (f 3))), (a 4, .inl (g.2 0, 400, .inl (upd (upd (upd (upd (upd (upd (upd (upd (upd (upd (upd (upd (upd (upd (f 4) 0 ((((v1 : Int32).toUInt32 >>> ((24 : Int32).toUInt32 &&& Int32.toUInt32 31)).toInt32) &&& 255)) 1 ((((v1 : Int32).toUInt32 >>> ((16 : Int32).toUInt32 &&& Int32.toUInt32 31)).toInt32) &&& 255)) 2 ((((v1 : Int32).toUInt32 >>> ((8 : Int32).toUInt32 &&& Int32.toUInt32 31)).toInt32) &&& 255)) 3 ((((v1 : Int32).toUInt32 >>> ((0 : Int32).toUInt32 &&& Int32.toUInt32 31)).toInt32) &&& 255)) 4 ((((v2 : Int32).toUInt32 >>> ((24 : Int32).toUInt32 &&& Int32.toUInt32 31)).toInt32) &&& 255)) 5 ((((v2 : Int32).toUInt32 >>> ((16 : Int32).toUInt32 &&& Int32.toUInt32 31)).toInt32) &&& 255)) 6 ((((v2 : Int32).toUInt32 >>> ((8 : Int32).toUInt32 &&& Int32.toUInt32 31)).toInt32) &&& 255)) 7 ((((v2 : Int32).toUInt32 >>> ((0 : Int32).toUInt32 &&& Int32.toUInt32 31)).toInt32) &&& 255)) 8 ((((v3 : Int32).toUInt32 >>> ((24 : Int32).toUInt32 &&& Int32.toUInt32 31)).toInt32) &&& 255)) 9 ((((v3 : Int32).toUInt32 >>> ((16 : Int32).toUInt32 &&& Int32.toUInt32 31)).toInt32) &&& 255)) 10 ((((v3 : Int32).toUInt32 >>> ((8 : Int32).toUInt32 &&& Int32.toUInt32 31)).toInt32) &&& 255)) 11 ((((v3 : Int32).toUInt32 >>> ((0 : Int32).toUInt32 &&& Int32.toUInt32 31)).toInt32) &&& 255)) 12 ((((v4 : Int32).toUInt32 >>> ((24 : Int32).toUInt32 &&& Int32.toUInt32 31)).toInt32) &&& 255)) 13 ((((v4 : Int32).toUInt32 >>> ((16 : Int32).toUInt32 &&& Int32.toUInt32 31)).toInt32) &&& 255)))), (a 5, .inl (g.2 0, 6, .inl (f 5))), (a 6, .inl (g.2 0, 8, .inl (f 6))), (a 7, .inl (g.2 1, 256, .inl (f 7)))]]) := hD
  refine lv_iinc (v := 14) (lv' := [(6, .int 14), (7, .int v4), (0, .ref o), (1, .int v1), (2, .int v2), (3, .int v3), (4, .int v4), (5, .int v5)]) hx hb dX12_feed_114 hl (k := 1) rfl (by decide) (by decide) rfl (fun ls hl => ?_)
  refine lv_goto (tgt := 23) hx hb dX12_feed_117 (by decide) ?_
  refine lv_iload hx hb dX12_feed_23 (lv_at hl 0 rfl) ?_
  refine lv_bipush (v := 20) hx hb dX12_feed_25 (by decide) ?_
  refine lv_icmp_ge (tgt := 120) hx hb dX12_feed_27 (by decide) (fun c48 => absurd c48 (by decide)) (fun _ => ?_)
  refine lv_iload hx hb dX12_feed_30 (lv_at hl 0 rfl) ?_
  refine lv_iconst (v := 4) hx hb dX12_feed_32 (by decide) ?_
  refine lv_icmp_ge (tgt := 40) hx hb dX12_feed_33 (by decide) (fun _ => ?_) (fun c49 => absurd (by decide) c49)
  refine lv_iload hx hb dX12_feed_40 (lv_at hl 0 rfl) ?_
  refine lv_bipush (v := 8) hx hb dX12_feed_42 (by decide) ?_
  refine lv_icmp_ge (tgt := 51) hx hb dX12_feed_44 (by decide) (fun _ => ?_) (fun c50 => absurd (by decide) c50)
  refine lv_iload hx hb dX12_feed_51 (lv_at hl 0 rfl) ?_
  refine lv_bipush (v := 12) hx hb dX12_feed_53 (by decide) ?_
  refine lv_icmp_ge (tgt := 62) hx hb dX12_feed_55 (by decide) (fun _ => ?_) (fun c51 => absurd (by decide) c51)
  refine lv_iload hx hb dX12_feed_62 (lv_at hl 0 rfl) ?_
  refine lv_bipush (v := 16) hx hb dX12_feed_64 (by decide) ?_
  refine lv_icmp_ge (tgt := 74) hx hb dX12_feed_66 (by decide) (fun c52 => absurd c52 (by decide)) (fun _ => ?_)
  refine lv_iload hx hb dX12_feed_69 (lv_at hl 6 rfl) ?_
  refine lv_goto (tgt := 76) hx hb dX12_feed_71 (by decide) ?_
  refine lv_istore (lv' := [(7, .int v4), (6, .int 14), (0, .ref o), (1, .int v1), (2, .int v2), (3, .int v3), (4, .int v4), (5, .int v5)]) hx hb dX12_feed_76 hl (by decide) rfl (fun ls hl => ?_)
  refine lv_aload_n hx hb dX12_feed_78 rfl (lv_at hl 2 rfl) ?_
  refine va_get (D := g.1) (ci := 10) (v := .ref (a 4)) (C := RX12) (T := TX12) (N := 20) hx hb hts izRX12 hown hK hP 0 rfl rfl 7 (by decide) (hts _ k819) (fun _ h9 => h9) rfl dX12_feed_79 ?_
  refine lv_aload_n hx hb dX12_feed_82 rfl (lv_at hl 2 rfl) ?_
  refine va_get (D := g.1) (ci := 10) (v := .int 14) (C := RX12) (T := TX12) (N := 20) hx hb hts izRX12 hown hK hP 0 rfl rfl 8 (by decide) (hts _ k864) (fun _ h9 => h9) rfl dX12_feed_83 ?_
  refine lv_iload hx hb dX12_feed_86 (lv_at hl 0 rfl) ?_
  refine lv_bipush (v := 24) hx hb dX12_feed_88 (by decide) ?_
  refine lv_bipush (v := 8) hx hb dX12_feed_90 (by decide) ?_
  refine lv_iload hx hb dX12_feed_92 (lv_at hl 1 rfl) ?_
  refine lv_iconst (v := 4) hx hb dX12_feed_94 (by decide) ?_
  refine lv_irem hx hb dX12_feed_95 (by decide) ?_
  refine ztop (r := 2) (by decide) ?_
  refine lv_imul hx hb dX12_feed_96 ?_
  refine ztop (r := 16) (by decide) ?_
  refine lv_isub hx hb dX12_feed_97 ?_
  refine ztop (r := 8) (by decide) ?_
  refine lv_iushr (v := ((v4 : Int32).toUInt32 >>> ((8 : Int32).toUInt32 &&& Int32.toUInt32 31)).toInt32) hx hb dX12_feed_98 rfl ?_
  refine lv_sipush (v := 255) hx hb dX12_feed_99 (by decide) ?_
  refine lv_iand hx hb dX12_feed_102 ?_
  refine va_iast hx hb hK hP hD hS 5 0 rfl rfl (zin rfl) dX12_feed_103 (fun H locs hP hD hS => ?_)
  have hP : va_P g.1 vwCl (List.flatten [[(o, .inr (10, [.int 0, .ref (a 0), .ref (a 1), .int hi, .ref (a 2), .ref (a 3), .int ac, .ref (a 4), .int 14, .int ba, .int en, .int tA, .int fl, .int de, .ref (a 5), .int iD, .int iO, .int tU, .ref (a 6), .ref (a 7)]))], [(a 0, .inl (g.2 0, 779, .inl (f 0))), (a 1, .inl (g.2 0, 779, .inl (f 1))), (a 2, .inl (g.2 0, 379, .inl (f 2))), (a 3, .inl (g.2 0, 4548, .inl (f 3))), (a 4, .inl (g.2 0, 400, .inl (upd (upd (upd (upd (upd (upd (upd (upd (upd (upd (upd (upd (upd (upd (upd (f 4) 0 ((((v1 : Int32).toUInt32 >>> ((24 : Int32).toUInt32 &&& Int32.toUInt32 31)).toInt32) &&& 255)) 1 ((((v1 : Int32).toUInt32 >>> ((16 : Int32).toUInt32 &&& Int32.toUInt32 31)).toInt32) &&& 255)) 2 ((((v1 : Int32).toUInt32 >>> ((8 : Int32).toUInt32 &&& Int32.toUInt32 31)).toInt32) &&& 255)) 3 ((((v1 : Int32).toUInt32 >>> ((0 : Int32).toUInt32 &&& Int32.toUInt32 31)).toInt32) &&& 255)) 4 ((((v2 : Int32).toUInt32 >>> ((24 : Int32).toUInt32 &&& Int32.toUInt32 31)).toInt32) &&& 255)) 5 ((((v2 : Int32).toUInt32 >>> ((16 : Int32).toUInt32 &&& Int32.toUInt32 31)).toInt32) &&& 255)) 6 ((((v2 : Int32).toUInt32 >>> ((8 : Int32).toUInt32 &&& Int32.toUInt32 31)).toInt32) &&& 255)) 7 ((((v2 : Int32).toUInt32 >>> ((0 : Int32).toUInt32 &&& Int32.toUInt32 31)).toInt32) &&& 255)) 8 ((((v3 : Int32).toUInt32 >>> ((24 : Int32).toUInt32 &&& Int32.toUInt32 31)).toInt32) &&& 255)) 9 ((((v3 : Int32).toUInt32 >>> ((16 : Int32).toUInt32 &&& Int32.toUInt32 31)).toInt32) &&& 255)) 10 ((((v3 : Int32).toUInt32 >>> ((8 : Int32).toUInt32 &&& Int32.toUInt32 31)).toInt32) &&& 255)) 11 ((((v3 : Int32).toUInt32 >>> ((0 : Int32).toUInt32 &&& Int32.toUInt32 31)).toInt32) &&& 255)) 12 ((((v4 : Int32).toUInt32 >>> ((24 : Int32).toUInt32 &&& Int32.toUInt32 31)).toInt32) &&& 255)) 13 ((((v4 : Int32).toUInt32 >>> ((16 : Int32).toUInt32 &&& Int32.toUInt32 31)).toInt32) &&& 255)) 14 ((((v4 : Int32).toUInt32 >>> ((8 : Int32).toUInt32 &&& Int32.toUInt32 31)).toInt32) &&& 255)))), (a 5, .inl (g.2 0, 6, .inl (f 5))), (a 6, .inl (g.2 0, 8, .inl (f 6))), (a 7, .inl (g.2 1, 256, .inl (f 7)))]]) H := hP
  have hD : va_D A (List.flatten [[(o, .inr (10, [.int 0, .ref (a 0), .ref (a 1), .int hi, .ref (a 2), .ref (a 3), .int ac, .ref (a 4), .int 14, .int ba, .int en, .int tA, .int fl, .int de, .ref (a 5), .int iD, .int iO, .int tU, .ref (a 6), .ref (a 7)]))], [(a 0, .inl (g.2 0, 779, .inl (f 0))), (a 1, .inl (g.2 0, 779, .inl (f 1))), (a 2, .inl (g.2 0, 379, .inl (f 2))), (a 3, .inl (g.2 0, 4548, .inl (f 3))), (a 4, .inl (g.2 0, 400, .inl (upd (upd (upd (upd (upd (upd (upd (upd (upd (upd (upd (upd (upd (upd (upd (f 4) 0 ((((v1 : Int32).toUInt32 >>> ((24 : Int32).toUInt32 &&& Int32.toUInt32 31)).toInt32) &&& 255)) 1 ((((v1 : Int32).toUInt32 >>> ((16 : Int32).toUInt32 &&& Int32.toUInt32 31)).toInt32) &&& 255)) 2 ((((v1 : Int32).toUInt32 >>> ((8 : Int32).toUInt32 &&& Int32.toUInt32 31)).toInt32) &&& 255)) 3 ((((v1 : Int32).toUInt32 >>> ((0 : Int32).toUInt32 &&& Int32.toUInt32 31)).toInt32) &&& 255)) 4 ((((v2 : Int32).toUInt32 >>> ((24 : Int32).toUInt32 &&& Int32.toUInt32 31)).toInt32) &&& 255)) 5 ((((v2 : Int32).toUInt32 >>> ((16 : Int32).toUInt32 &&& Int32.toUInt32 31)).toInt32) &&& 255)) 6 ((((v2 : Int32).toUInt32 >>> ((8 : Int32).toUInt32 &&& Int32.toUInt32 31)).toInt32) &&& 255)) 7 ((((v2 : Int32).toUInt32 >>> ((0 : Int32).toUInt32 &&& Int32.toUInt32 31)).toInt32) &&& 255)) 8 ((((v3 : Int32).toUInt32 >>> ((24 : Int32).toUInt32 &&& Int32.toUInt32 31)).toInt32) &&& 255)) 9 ((((v3 : Int32).toUInt32 >>> ((16 : Int32).toUInt32 &&& Int32.toUInt32 31)).toInt32) &&& 255)) 10 ((((v3 : Int32).toUInt32 >>> ((8 : Int32).toUInt32 &&& Int32.toUInt32 31)).toInt32) &&& 255)) 11 ((((v3 : Int32).toUInt32 >>> ((0 : Int32).toUInt32 &&& Int32.toUInt32 31)).toInt32) &&& 255)) 12 ((((v4 : Int32).toUInt32 >>> ((24 : Int32).toUInt32 &&& Int32.toUInt32 31)).toInt32) &&& 255)) 13 ((((v4 : Int32).toUInt32 >>> ((16 : Int32).toUInt32 &&& Int32.toUInt32 31)).toInt32) &&& 255)) 14 ((((v4 : Int32).toUInt32 >>> ((8 : Int32).toUInt32 &&& Int32.toUInt32 31)).toInt32) &&& 255)))), (a 5, .inl (g.2 0, 6, .inl (f 5))), (a 6, .inl (g.2 0, 8, .inl (f 6))), (a 7, .inl (g.2 1, 256, .inl (f 7)))]]) := hD
  refine lv_aload_n hx hb dX12_feed_104 rfl (lv_at hl 2 rfl) ?_
  refine lv_dup hx hb dX12_feed_105 rfl ?_
  refine va_get (D := g.1) (ci := 10) (v := .int 14) (C := RX12) (T := TX12) (N := 20) hx hb hts izRX12 hown hK hP 0 rfl rfl 8 (by decide) (hts _ k864) (fun _ h9 => h9) rfl dX12_feed_106 ?_
  refine lv_iconst (v := 1) hx hb dX12_feed_109 (by decide) ?_
  refine lv_iadd hx hb dX12_feed_110 ?_
  refine ztop (r := 15) (by decide) ?_
  refine va_put (D := g.1) (ci := 10) (v := .int 15) (ty := .int) (C := RX12) (T := TX12) (N := 20) hx hb hts izRX12 tyX12 tyX12_ok nmX12 hown hK hP hD hS 0 rfl rfl 8 (by decide) (hts _ k864) (fun _ h9 => h9) rfl (by decide +kernel) rfl rfl (Nat.le_of_ble_eq_true rfl) dX12_feed_111 (fun H locs hP hD hS => ?_)
  have hP : va_P g.1 vwCl (List.flatten [[(o, .inr (10, [.int 0, .ref (a 0), .ref (a 1), .int hi, .ref (a 2), .ref (a 3), .int ac, .ref (a 4), .int 15, .int ba, .int en, .int tA, .int fl, .int de, .ref (a 5), .int iD, .int iO, .int tU, .ref (a 6), .ref (a 7)]))], [(a 0, .inl (g.2 0, 779, .inl (f 0))), (a 1, .inl (g.2 0, 779, .inl (f 1))), (a 2, .inl (g.2 0, 379, .inl (f 2))), (a 3, .inl (g.2 0, 4548, .inl (f 3))), (a 4, .inl (g.2 0, 400, .inl (upd (upd (upd (upd (upd (upd (upd (upd (upd (upd (upd (upd (upd (upd (upd (f 4) 0 ((((v1 : Int32).toUInt32 >>> ((24 : Int32).toUInt32 &&& Int32.toUInt32 31)).toInt32) &&& 255)) 1 ((((v1 : Int32).toUInt32 >>> ((16 : Int32).toUInt32 &&& Int32.toUInt32 31)).toInt32) &&& 255)) 2 ((((v1 : Int32).toUInt32 >>> ((8 : Int32).toUInt32 &&& Int32.toUInt32 31)).toInt32) &&& 255)) 3 ((((v1 : Int32).toUInt32 >>> ((0 : Int32).toUInt32 &&& Int32.toUInt32 31)).toInt32) &&& 255)) 4 ((((v2 : Int32).toUInt32 >>> ((24 : Int32).toUInt32 &&& Int32.toUInt32 31)).toInt32) &&& 255)) 5 ((((v2 : Int32).toUInt32 >>> ((16 : Int32).toUInt32 &&& Int32.toUInt32 31)).toInt32) &&& 255)) 6 ((((v2 : Int32).toUInt32 >>> ((8 : Int32).toUInt32 &&& Int32.toUInt32 31)).toInt32) &&& 255)) 7 ((((v2 : Int32).toUInt32 >>> ((0 : Int32).toUInt32 &&& Int32.toUInt32 31)).toInt32) &&& 255)) 8 ((((v3 : Int32).toUInt32 >>> ((24 : Int32).toUInt32 &&& Int32.toUInt32 31)).toInt32) &&& 255)) 9 ((((v3 : Int32).toUInt32 >>> ((16 : Int32).toUInt32 &&& Int32.toUInt32 31)).toInt32) &&& 255)) 10 ((((v3 : Int32).toUInt32 >>> ((8 : Int32).toUInt32 &&& Int32.toUInt32 31)).toInt32) &&& 255)) 11 ((((v3 : Int32).toUInt32 >>> ((0 : Int32).toUInt32 &&& Int32.toUInt32 31)).toInt32) &&& 255)) 12 ((((v4 : Int32).toUInt32 >>> ((24 : Int32).toUInt32 &&& Int32.toUInt32 31)).toInt32) &&& 255)) 13 ((((v4 : Int32).toUInt32 >>> ((16 : Int32).toUInt32 &&& Int32.toUInt32 31)).toInt32) &&& 255)) 14 ((((v4 : Int32).toUInt32 >>> ((8 : Int32).toUInt32 &&& Int32.toUInt32 31)).toInt32) &&& 255)))), (a 5, .inl (g.2 0, 6, .inl (f 5))), (a 6, .inl (g.2 0, 8, .inl (f 6))), (a 7, .inl (g.2 1, 256, .inl (f 7)))]]) H := hP
  have hD : va_D A (List.flatten [[(o, .inr (10, [.int 0, .ref (a 0), .ref (a 1), .int hi, .ref (a 2), .ref (a 3), .int ac, .ref (a 4), .int 15, .int ba, .int en, .int tA, .int fl, .int de, .ref (a 5), .int iD, .int iO, .int tU, .ref (a 6), .ref (a 7)]))], [(a 0, .inl (g.2 0, 779, .inl (f 0))), (a 1, .inl (g.2 0, 779, .inl (f 1))), (a 2, .inl (g.2 0, 379, .inl (f 2))), (a 3, .inl (g.2 0, 4548, .inl (f 3))), (a 4, .inl (g.2 0, 400, .inl (upd (upd (upd (upd (upd (upd (upd (upd (upd (upd (upd (upd (upd (upd (upd (f 4) 0 ((((v1 : Int32).toUInt32 >>> ((24 : Int32).toUInt32 &&& Int32.toUInt32 31)).toInt32) &&& 255)) 1 ((((v1 : Int32).toUInt32 >>> ((16 : Int32).toUInt32 &&& Int32.toUInt32 31)).toInt32) &&& 255)) 2 ((((v1 : Int32).toUInt32 >>> ((8 : Int32).toUInt32 &&& Int32.toUInt32 31)).toInt32) &&& 255)) 3 ((((v1 : Int32).toUInt32 >>> ((0 : Int32).toUInt32 &&& Int32.toUInt32 31)).toInt32) &&& 255)) 4 ((((v2 : Int32).toUInt32 >>> ((24 : Int32).toUInt32 &&& Int32.toUInt32 31)).toInt32) &&& 255)) 5 ((((v2 : Int32).toUInt32 >>> ((16 : Int32).toUInt32 &&& Int32.toUInt32 31)).toInt32) &&& 255)) 6 ((((v2 : Int32).toUInt32 >>> ((8 : Int32).toUInt32 &&& Int32.toUInt32 31)).toInt32) &&& 255)) 7 ((((v2 : Int32).toUInt32 >>> ((0 : Int32).toUInt32 &&& Int32.toUInt32 31)).toInt32) &&& 255)) 8 ((((v3 : Int32).toUInt32 >>> ((24 : Int32).toUInt32 &&& Int32.toUInt32 31)).toInt32) &&& 255)) 9 ((((v3 : Int32).toUInt32 >>> ((16 : Int32).toUInt32 &&& Int32.toUInt32 31)).toInt32) &&& 255)) 10 ((((v3 : Int32).toUInt32 >>> ((8 : Int32).toUInt32 &&& Int32.toUInt32 31)).toInt32) &&& 255)) 11 ((((v3 : Int32).toUInt32 >>> ((0 : Int32).toUInt32 &&& Int32.toUInt32 31)).toInt32) &&& 255)) 12 ((((v4 : Int32).toUInt32 >>> ((24 : Int32).toUInt32 &&& Int32.toUInt32 31)).toInt32) &&& 255)) 13 ((((v4 : Int32).toUInt32 >>> ((16 : Int32).toUInt32 &&& Int32.toUInt32 31)).toInt32) &&& 255)) 14 ((((v4 : Int32).toUInt32 >>> ((8 : Int32).toUInt32 &&& Int32.toUInt32 31)).toInt32) &&& 255)))), (a 5, .inl (g.2 0, 6, .inl (f 5))), (a 6, .inl (g.2 0, 8, .inl (f 6))), (a 7, .inl (g.2 1, 256, .inl (f 7)))]]) := hD
  refine lv_iinc (v := 15) (lv' := [(6, .int 15), (7, .int v4), (0, .ref o), (1, .int v1), (2, .int v2), (3, .int v3), (4, .int v4), (5, .int v5)]) hx hb dX12_feed_114 hl (k := 1) rfl (by decide) (by decide) rfl (fun ls hl => ?_)
  refine lv_goto (tgt := 23) hx hb dX12_feed_117 (by decide) ?_
  refine lv_iload hx hb dX12_feed_23 (lv_at hl 0 rfl) ?_
  refine lv_bipush (v := 20) hx hb dX12_feed_25 (by decide) ?_
  refine lv_icmp_ge (tgt := 120) hx hb dX12_feed_27 (by decide) (fun c53 => absurd c53 (by decide)) (fun _ => ?_)
  refine lv_iload hx hb dX12_feed_30 (lv_at hl 0 rfl) ?_
  refine lv_iconst (v := 4) hx hb dX12_feed_32 (by decide) ?_
  refine lv_icmp_ge (tgt := 40) hx hb dX12_feed_33 (by decide) (fun _ => ?_) (fun c54 => absurd (by decide) c54)
  refine lv_iload hx hb dX12_feed_40 (lv_at hl 0 rfl) ?_
  refine lv_bipush (v := 8) hx hb dX12_feed_42 (by decide) ?_
  refine lv_icmp_ge (tgt := 51) hx hb dX12_feed_44 (by decide) (fun _ => ?_) (fun c55 => absurd (by decide) c55)
  refine lv_iload hx hb dX12_feed_51 (lv_at hl 0 rfl) ?_
  refine lv_bipush (v := 12) hx hb dX12_feed_53 (by decide) ?_
  refine lv_icmp_ge (tgt := 62) hx hb dX12_feed_55 (by decide) (fun _ => ?_) (fun c56 => absurd (by decide) c56)
  refine lv_iload hx hb dX12_feed_62 (lv_at hl 0 rfl) ?_
  refine lv_bipush (v := 16) hx hb dX12_feed_64 (by decide) ?_
  refine lv_icmp_ge (tgt := 74) hx hb dX12_feed_66 (by decide) (fun c57 => absurd c57 (by decide)) (fun _ => ?_)
  refine lv_iload hx hb dX12_feed_69 (lv_at hl 6 rfl) ?_
  refine lv_goto (tgt := 76) hx hb dX12_feed_71 (by decide) ?_
  refine lv_istore (lv' := [(7, .int v4), (6, .int 15), (0, .ref o), (1, .int v1), (2, .int v2), (3, .int v3), (4, .int v4), (5, .int v5)]) hx hb dX12_feed_76 hl (by decide) rfl (fun ls hl => ?_)
  refine lv_aload_n hx hb dX12_feed_78 rfl (lv_at hl 2 rfl) ?_
  refine va_get (D := g.1) (ci := 10) (v := .ref (a 4)) (C := RX12) (T := TX12) (N := 20) hx hb hts izRX12 hown hK hP 0 rfl rfl 7 (by decide) (hts _ k819) (fun _ h9 => h9) rfl dX12_feed_79 ?_
  refine lv_aload_n hx hb dX12_feed_82 rfl (lv_at hl 2 rfl) ?_
  refine va_get (D := g.1) (ci := 10) (v := .int 15) (C := RX12) (T := TX12) (N := 20) hx hb hts izRX12 hown hK hP 0 rfl rfl 8 (by decide) (hts _ k864) (fun _ h9 => h9) rfl dX12_feed_83 ?_
  refine lv_iload hx hb dX12_feed_86 (lv_at hl 0 rfl) ?_
  refine lv_bipush (v := 24) hx hb dX12_feed_88 (by decide) ?_
  refine lv_bipush (v := 8) hx hb dX12_feed_90 (by decide) ?_
  refine lv_iload hx hb dX12_feed_92 (lv_at hl 1 rfl) ?_
  refine lv_iconst (v := 4) hx hb dX12_feed_94 (by decide) ?_
  refine lv_irem hx hb dX12_feed_95 (by decide) ?_
  refine ztop (r := 3) (by decide) ?_
  refine lv_imul hx hb dX12_feed_96 ?_
  refine ztop (r := 24) (by decide) ?_
  refine lv_isub hx hb dX12_feed_97 ?_
  refine ztop (r := 0) (by decide) ?_
  refine lv_iushr (v := ((v4 : Int32).toUInt32 >>> ((0 : Int32).toUInt32 &&& Int32.toUInt32 31)).toInt32) hx hb dX12_feed_98 rfl ?_
  refine lv_sipush (v := 255) hx hb dX12_feed_99 (by decide) ?_
  refine lv_iand hx hb dX12_feed_102 ?_
  refine va_iast hx hb hK hP hD hS 5 0 rfl rfl (zin rfl) dX12_feed_103 (fun H locs hP hD hS => ?_)
  have hP : va_P g.1 vwCl (List.flatten [[(o, .inr (10, [.int 0, .ref (a 0), .ref (a 1), .int hi, .ref (a 2), .ref (a 3), .int ac, .ref (a 4), .int 15, .int ba, .int en, .int tA, .int fl, .int de, .ref (a 5), .int iD, .int iO, .int tU, .ref (a 6), .ref (a 7)]))], [(a 0, .inl (g.2 0, 779, .inl (f 0))), (a 1, .inl (g.2 0, 779, .inl (f 1))), (a 2, .inl (g.2 0, 379, .inl (f 2))), (a 3, .inl (g.2 0, 4548, .inl (f 3))), (a 4, .inl (g.2 0, 400, .inl (upd (upd (upd (upd (upd (upd (upd (upd (upd (upd (upd (upd (upd (upd (upd (upd (f 4) 0 ((((v1 : Int32).toUInt32 >>> ((24 : Int32).toUInt32 &&& Int32.toUInt32 31)).toInt32) &&& 255)) 1 ((((v1 : Int32).toUInt32 >>> ((16 : Int32).toUInt32 &&& Int32.toUInt32 31)).toInt32) &&& 255)) 2 ((((v1 : Int32).toUInt32 >>> ((8 : Int32).toUInt32 &&& Int32.toUInt32 31)).toInt32) &&& 255)) 3 ((((v1 : Int32).toUInt32 >>> ((0 : Int32).toUInt32 &&& Int32.toUInt32 31)).toInt32) &&& 255)) 4 ((((v2 : Int32).toUInt32 >>> ((24 : Int32).toUInt32 &&& Int32.toUInt32 31)).toInt32) &&& 255)) 5 ((((v2 : Int32).toUInt32 >>> ((16 : Int32).toUInt32 &&& Int32.toUInt32 31)).toInt32) &&& 255)) 6 ((((v2 : Int32).toUInt32 >>> ((8 : Int32).toUInt32 &&& Int32.toUInt32 31)).toInt32) &&& 255)) 7 ((((v2 : Int32).toUInt32 >>> ((0 : Int32).toUInt32 &&& Int32.toUInt32 31)).toInt32) &&& 255)) 8 ((((v3 : Int32).toUInt32 >>> ((24 : Int32).toUInt32 &&& Int32.toUInt32 31)).toInt32) &&& 255)) 9 ((((v3 : Int32).toUInt32 >>> ((16 : Int32).toUInt32 &&& Int32.toUInt32 31)).toInt32) &&& 255)) 10 ((((v3 : Int32).toUInt32 >>> ((8 : Int32).toUInt32 &&& Int32.toUInt32 31)).toInt32) &&& 255)) 11 ((((v3 : Int32).toUInt32 >>> ((0 : Int32).toUInt32 &&& Int32.toUInt32 31)).toInt32) &&& 255)) 12 ((((v4 : Int32).toUInt32 >>> ((24 : Int32).toUInt32 &&& Int32.toUInt32 31)).toInt32) &&& 255)) 13 ((((v4 : Int32).toUInt32 >>> ((16 : Int32).toUInt32 &&& Int32.toUInt32 31)).toInt32) &&& 255)) 14 ((((v4 : Int32).toUInt32 >>> ((8 : Int32).toUInt32 &&& Int32.toUInt32 31)).toInt32) &&& 255)) 15 ((((v4 : Int32).toUInt32 >>> ((0 : Int32).toUInt32 &&& Int32.toUInt32 31)).toInt32) &&& 255)))), (a 5, .inl (g.2 0, 6, .inl (f 5))), (a 6, .inl (g.2 0, 8, .inl (f 6))), (a 7, .inl (g.2 1, 256, .inl (f 7)))]]) H := hP
  have hD : va_D A (List.flatten [[(o, .inr (10, [.int 0, .ref (a 0), .ref (a 1), .int hi, .ref (a 2), .ref (a 3), .int ac, .ref (a 4), .int 15, .int ba, .int en, .int tA, .int fl, .int de, .ref (a 5), .int iD, .int iO, .int tU, .ref (a 6), .ref (a 7)]))], [(a 0, .inl (g.2 0, 779, .inl (f 0))), (a 1, .inl (g.2 0, 779, .inl (f 1))), (a 2, .inl (g.2 0, 379, .inl (f 2))), (a 3, .inl (g.2 0, 4548, .inl (f 3))), (a 4, .inl (g.2 0, 400, .inl (upd (upd (upd (upd (upd (upd (upd (upd (upd (upd (upd (upd (upd (upd (upd (upd (f 4) 0 ((((v1 : Int32).toUInt32 >>> ((24 : Int32).toUInt32 &&& Int32.toUInt32 31)).toInt32) &&& 255)) 1 ((((v1 : Int32).toUInt32 >>> ((16 : Int32).toUInt32 &&& Int32.toUInt32 31)).toInt32) &&& 255)) 2 ((((v1 : Int32).toUInt32 >>> ((8 : Int32).toUInt32 &&& Int32.toUInt32 31)).toInt32) &&& 255)) 3 ((((v1 : Int32).toUInt32 >>> ((0 : Int32).toUInt32 &&& Int32.toUInt32 31)).toInt32) &&& 255)) 4 ((((v2 : Int32).toUInt32 >>> ((24 : Int32).toUInt32 &&& Int32.toUInt32 31)).toInt32) &&& 255)) 5 ((((v2 : Int32).toUInt32 >>> ((16 : Int32).toUInt32 &&& Int32.toUInt32 31)).toInt32) &&& 255)) 6 ((((v2 : Int32).toUInt32 >>> ((8 : Int32).toUInt32 &&& Int32.toUInt32 31)).toInt32) &&& 255)) 7 ((((v2 : Int32).toUInt32 >>> ((0 : Int32).toUInt32 &&& Int32.toUInt32 31)).toInt32) &&& 255)) 8 ((((v3 : Int32).toUInt32 >>> ((24 : Int32).toUInt32 &&& Int32.toUInt32 31)).toInt32) &&& 255)) 9 ((((v3 : Int32).toUInt32 >>> ((16 : Int32).toUInt32 &&& Int32.toUInt32 31)).toInt32) &&& 255)) 10 ((((v3 : Int32).toUInt32 >>> ((8 : Int32).toUInt32 &&& Int32.toUInt32 31)).toInt32) &&& 255)) 11 ((((v3 : Int32).toUInt32 >>> ((0 : Int32).toUInt32 &&& Int32.toUInt32 31)).toInt32) &&& 255)) 12 ((((v4 : Int32).toUInt32 >>> ((24 : Int32).toUInt32 &&& Int32.toUInt32 31)).toInt32) &&& 255)) 13 ((((v4 : Int32).toUInt32 >>> ((16 : Int32).toUInt32 &&& Int32.toUInt32 31)).toInt32) &&& 255)) 14 ((((v4 : Int32).toUInt32 >>> ((8 : Int32).toUInt32 &&& Int32.toUInt32 31)).toInt32) &&& 255)) 15 ((((v4 : Int32).toUInt32 >>> ((0 : Int32).toUInt32 &&& Int32.toUInt32 31)).toInt32) &&& 255)))), (a 5, .inl (g.2 0, 6, .inl (f 5))), (a 6, .inl (g.2 0, 8, .inl (f 6))), (a 7, .inl (g.2 1, 256, .inl (f 7)))]]) := hD
  refine lv_aload_n hx hb dX12_feed_104 rfl (lv_at hl 2 rfl) ?_
  refine lv_dup hx hb dX12_feed_105 rfl ?_
  refine va_get (D := g.1) (ci := 10) (v := .int 15) (C := RX12) (T := TX12) (N := 20) hx hb hts izRX12 hown hK hP 0 rfl rfl 8 (by decide) (hts _ k864) (fun _ h9 => h9) rfl dX12_feed_106 ?_
  refine lv_iconst (v := 1) hx hb dX12_feed_109 (by decide) ?_
  refine lv_iadd hx hb dX12_feed_110 ?_
  refine ztop (r := 16) (by decide) ?_
  refine va_put (D := g.1) (ci := 10) (v := .int 16) (ty := .int) (C := RX12) (T := TX12) (N := 20) hx hb hts izRX12 tyX12 tyX12_ok nmX12 hown hK hP hD hS 0 rfl rfl 8 (by decide) (hts _ k864) (fun _ h9 => h9) rfl (by decide +kernel) rfl rfl (Nat.le_of_ble_eq_true rfl) dX12_feed_111 (fun H locs hP hD hS => ?_)
  have hP : va_P g.1 vwCl (List.flatten [[(o, .inr (10, [.int 0, .ref (a 0), .ref (a 1), .int hi, .ref (a 2), .ref (a 3), .int ac, .ref (a 4), .int 16, .int ba, .int en, .int tA, .int fl, .int de, .ref (a 5), .int iD, .int iO, .int tU, .ref (a 6), .ref (a 7)]))], [(a 0, .inl (g.2 0, 779, .inl (f 0))), (a 1, .inl (g.2 0, 779, .inl (f 1))), (a 2, .inl (g.2 0, 379, .inl (f 2))), (a 3, .inl (g.2 0, 4548, .inl (f 3))), (a 4, .inl (g.2 0, 400, .inl (upd (upd (upd (upd (upd (upd (upd (upd (upd (upd (upd (upd (upd (upd (upd (upd (f 4) 0 ((((v1 : Int32).toUInt32 >>> ((24 : Int32).toUInt32 &&& Int32.toUInt32 31)).toInt32) &&& 255)) 1 ((((v1 : Int32).toUInt32 >>> ((16 : Int32).toUInt32 &&& Int32.toUInt32 31)).toInt32) &&& 255)) 2 ((((v1 : Int32).toUInt32 >>> ((8 : Int32).toUInt32 &&& Int32.toUInt32 31)).toInt32) &&& 255)) 3 ((((v1 : Int32).toUInt32 >>> ((0 : Int32).toUInt32 &&& Int32.toUInt32 31)).toInt32) &&& 255)) 4 ((((v2 : Int32).toUInt32 >>> ((24 : Int32).toUInt32 &&& Int32.toUInt32 31)).toInt32) &&& 255)) 5 ((((v2 : Int32).toUInt32 >>> ((16 : Int32).toUInt32 &&& Int32.toUInt32 31)).toInt32) &&& 255)) 6 ((((v2 : Int32).toUInt32 >>> ((8 : Int32).toUInt32 &&& Int32.toUInt32 31)).toInt32) &&& 255)) 7 ((((v2 : Int32).toUInt32 >>> ((0 : Int32).toUInt32 &&& Int32.toUInt32 31)).toInt32) &&& 255)) 8 ((((v3 : Int32).toUInt32 >>> ((24 : Int32).toUInt32 &&& Int32.toUInt32 31)).toInt32) &&& 255)) 9 ((((v3 : Int32).toUInt32 >>> ((16 : Int32).toUInt32 &&& Int32.toUInt32 31)).toInt32) &&& 255)) 10 ((((v3 : Int32).toUInt32 >>> ((8 : Int32).toUInt32 &&& Int32.toUInt32 31)).toInt32) &&& 255)) 11 ((((v3 : Int32).toUInt32 >>> ((0 : Int32).toUInt32 &&& Int32.toUInt32 31)).toInt32) &&& 255)) 12 ((((v4 : Int32).toUInt32 >>> ((24 : Int32).toUInt32 &&& Int32.toUInt32 31)).toInt32) &&& 255)) 13 ((((v4 : Int32).toUInt32 >>> ((16 : Int32).toUInt32 &&& Int32.toUInt32 31)).toInt32) &&& 255)) 14 ((((v4 : Int32).toUInt32 >>> ((8 : Int32).toUInt32 &&& Int32.toUInt32 31)).toInt32) &&& 255)) 15 ((((v4 : Int32).toUInt32 >>> ((0 : Int32).toUInt32 &&& Int32.toUInt32 31)).toInt32) &&& 255)))), (a 5, .inl (g.2 0, 6, .inl (f 5))), (a 6, .inl (g.2 0, 8, .inl (f 6))), (a 7, .inl (g.2 1, 256, .inl (f 7)))]]) H := hP
  have hD : va_D A (List.flatten [[(o, .inr (10, [.int 0, .ref (a 0), .ref (a 1), .int hi, .ref (a 2), .ref (a 3), .int ac, .ref (a 4), .int 16, .int ba, .int en, .int tA, .int fl, .int de, .ref (a 5), .int iD, .int iO, .int tU, .ref (a 6), .ref (a 7)]))], [(a 0, .inl (g.2 0, 779, .inl (f 0))), (a 1, .inl (g.2 0, 779, .inl (f 1))), (a 2, .inl (g.2 0, 379, .inl (f 2))), (a 3, .inl (g.2 0, 4548, .inl (f 3))), (a 4, .inl (g.2 0, 400, .inl (upd (upd (upd (upd (upd (upd (upd (upd (upd (upd (upd (upd (upd (upd (upd (upd (f 4) 0 ((((v1 : Int32).toUInt32 >>> ((24 : Int32).toUInt32 &&& Int32.toUInt32 31)).toInt32) &&& 255)) 1 ((((v1 : Int32).toUInt32 >>> ((16 : Int32).toUInt32 &&& Int32.toUInt32 31)).toInt32) &&& 255)) 2 ((((v1 : Int32).toUInt32 >>> ((8 : Int32).toUInt32 &&& Int32.toUInt32 31)).toInt32) &&& 255)) 3 ((((v1 : Int32).toUInt32 >>> ((0 : Int32).toUInt32 &&& Int32.toUInt32 31)).toInt32) &&& 255)) 4 ((((v2 : Int32).toUInt32 >>> ((24 : Int32).toUInt32 &&& Int32.toUInt32 31)).toInt32) &&& 255)) 5 ((((v2 : Int32).toUInt32 >>> ((16 : Int32).toUInt32 &&& Int32.toUInt32 31)).toInt32) &&& 255)) 6 ((((v2 : Int32).toUInt32 >>> ((8 : Int32).toUInt32 &&& Int32.toUInt32 31)).toInt32) &&& 255)) 7 ((((v2 : Int32).toUInt32 >>> ((0 : Int32).toUInt32 &&& Int32.toUInt32 31)).toInt32) &&& 255)) 8 ((((v3 : Int32).toUInt32 >>> ((24 : Int32).toUInt32 &&& Int32.toUInt32 31)).toInt32) &&& 255)) 9 ((((v3 : Int32).toUInt32 >>> ((16 : Int32).toUInt32 &&& Int32.toUInt32 31)).toInt32) &&& 255)) 10 ((((v3 : Int32).toUInt32 >>> ((8 : Int32).toUInt32 &&& Int32.toUInt32 31)).toInt32) &&& 255)) 11 ((((v3 : Int32).toUInt32 >>> ((0 : Int32).toUInt32 &&& Int32.toUInt32 31)).toInt32) &&& 255)) 12 ((((v4 : Int32).toUInt32 >>> ((24 : Int32).toUInt32 &&& Int32.toUInt32 31)).toInt32) &&& 255)) 13 ((((v4 : Int32).toUInt32 >>> ((16 : Int32).toUInt32 &&& Int32.toUInt32 31)).toInt32) &&& 255)) 14 ((((v4 : Int32).toUInt32 >>> ((8 : Int32).toUInt32 &&& Int32.toUInt32 31)).toInt32) &&& 255)) 15 ((((v4 : Int32).toUInt32 >>> ((0 : Int32).toUInt32 &&& Int32.toUInt32 31)).toInt32) &&& 255)))), (a 5, .inl (g.2 0, 6, .inl (f 5))), (a 6, .inl (g.2 0, 8, .inl (f 6))), (a 7, .inl (g.2 1, 256, .inl (f 7)))]]) := hD
  refine lv_iinc (v := 16) (lv' := [(6, .int 16), (7, .int v4), (0, .ref o), (1, .int v1), (2, .int v2), (3, .int v3), (4, .int v4), (5, .int v5)]) hx hb dX12_feed_114 hl (k := 1) rfl (by decide) (by decide) rfl (fun ls hl => ?_)
  refine lv_goto (tgt := 23) hx hb dX12_feed_117 (by decide) ?_
  refine lv_iload hx hb dX12_feed_23 (lv_at hl 0 rfl) ?_
  refine lv_bipush (v := 20) hx hb dX12_feed_25 (by decide) ?_
  refine lv_icmp_ge (tgt := 120) hx hb dX12_feed_27 (by decide) (fun c58 => absurd c58 (by decide)) (fun _ => ?_)
  refine lv_iload hx hb dX12_feed_30 (lv_at hl 0 rfl) ?_
  refine lv_iconst (v := 4) hx hb dX12_feed_32 (by decide) ?_
  refine lv_icmp_ge (tgt := 40) hx hb dX12_feed_33 (by decide) (fun _ => ?_) (fun c59 => absurd (by decide) c59)
  refine lv_iload hx hb dX12_feed_40 (lv_at hl 0 rfl) ?_
  refine lv_bipush (v := 8) hx hb dX12_feed_42 (by decide) ?_
  refine lv_icmp_ge (tgt := 51) hx hb dX12_feed_44 (by decide) (fun _ => ?_) (fun c60 => absurd (by decide) c60)
  refine lv_iload hx hb dX12_feed_51 (lv_at hl 0 rfl) ?_
  refine lv_bipush (v := 12) hx hb dX12_feed_53 (by decide) ?_
  refine lv_icmp_ge (tgt := 62) hx hb dX12_feed_55 (by decide) (fun _ => ?_) (fun c61 => absurd (by decide) c61)
  refine lv_iload hx hb dX12_feed_62 (lv_at hl 0 rfl) ?_
  refine lv_bipush (v := 16) hx hb dX12_feed_64 (by decide) ?_
  refine lv_icmp_ge (tgt := 74) hx hb dX12_feed_66 (by decide) (fun _ => ?_) (fun c62 => absurd (by decide) c62)
  refine lv_iload hx hb dX12_feed_74 (lv_at hl 7 rfl) ?_
  refine lv_istore (lv' := [(7, .int v5), (6, .int 16), (0, .ref o), (1, .int v1), (2, .int v2), (3, .int v3), (4, .int v4), (5, .int v5)]) hx hb dX12_feed_76 hl (by decide) rfl (fun ls hl => ?_)
  refine lv_aload_n hx hb dX12_feed_78 rfl (lv_at hl 2 rfl) ?_
  refine va_get (D := g.1) (ci := 10) (v := .ref (a 4)) (C := RX12) (T := TX12) (N := 20) hx hb hts izRX12 hown hK hP 0 rfl rfl 7 (by decide) (hts _ k819) (fun _ h9 => h9) rfl dX12_feed_79 ?_
  refine lv_aload_n hx hb dX12_feed_82 rfl (lv_at hl 2 rfl) ?_
  refine va_get (D := g.1) (ci := 10) (v := .int 16) (C := RX12) (T := TX12) (N := 20) hx hb hts izRX12 hown hK hP 0 rfl rfl 8 (by decide) (hts _ k864) (fun _ h9 => h9) rfl dX12_feed_83 ?_
  refine lv_iload hx hb dX12_feed_86 (lv_at hl 0 rfl) ?_
  refine lv_bipush (v := 24) hx hb dX12_feed_88 (by decide) ?_
  refine lv_bipush (v := 8) hx hb dX12_feed_90 (by decide) ?_
  refine lv_iload hx hb dX12_feed_92 (lv_at hl 1 rfl) ?_
  refine lv_iconst (v := 4) hx hb dX12_feed_94 (by decide) ?_
  refine lv_irem hx hb dX12_feed_95 (by decide) ?_
  refine ztop (r := 0) (by decide) ?_
  refine lv_imul hx hb dX12_feed_96 ?_
  refine ztop (r := 0) (by decide) ?_
  refine lv_isub hx hb dX12_feed_97 ?_
  refine ztop (r := 24) (by decide) ?_
  refine lv_iushr (v := ((v5 : Int32).toUInt32 >>> ((24 : Int32).toUInt32 &&& Int32.toUInt32 31)).toInt32) hx hb dX12_feed_98 rfl ?_
  refine lv_sipush (v := 255) hx hb dX12_feed_99 (by decide) ?_
  refine lv_iand hx hb dX12_feed_102 ?_
  refine va_iast hx hb hK hP hD hS 5 0 rfl rfl (zin rfl) dX12_feed_103 (fun H locs hP hD hS => ?_)
  have hP : va_P g.1 vwCl (List.flatten [[(o, .inr (10, [.int 0, .ref (a 0), .ref (a 1), .int hi, .ref (a 2), .ref (a 3), .int ac, .ref (a 4), .int 16, .int ba, .int en, .int tA, .int fl, .int de, .ref (a 5), .int iD, .int iO, .int tU, .ref (a 6), .ref (a 7)]))], [(a 0, .inl (g.2 0, 779, .inl (f 0))), (a 1, .inl (g.2 0, 779, .inl (f 1))), (a 2, .inl (g.2 0, 379, .inl (f 2))), (a 3, .inl (g.2 0, 4548, .inl (f 3))), (a 4, .inl (g.2 0, 400, .inl (upd (upd (upd (upd (upd (upd (upd (upd (upd (upd (upd (upd (upd (upd (upd (upd (upd (f 4) 0 ((((v1 : Int32).toUInt32 >>> ((24 : Int32).toUInt32 &&& Int32.toUInt32 31)).toInt32) &&& 255)) 1 ((((v1 : Int32).toUInt32 >>> ((16 : Int32).toUInt32 &&& Int32.toUInt32 31)).toInt32) &&& 255)) 2 ((((v1 : Int32).toUInt32 >>> ((8 : Int32).toUInt32 &&& Int32.toUInt32 31)).toInt32) &&& 255)) 3 ((((v1 : Int32).toUInt32 >>> ((0 : Int32).toUInt32 &&& Int32.toUInt32 31)).toInt32) &&& 255)) 4 ((((v2 : Int32).toUInt32 >>> ((24 : Int32).toUInt32 &&& Int32.toUInt32 31)).toInt32) &&& 255)) 5 ((((v2 : Int32).toUInt32 >>> ((16 : Int32).toUInt32 &&& Int32.toUInt32 31)).toInt32) &&& 255)) 6 ((((v2 : Int32).toUInt32 >>> ((8 : Int32).toUInt32 &&& Int32.toUInt32 31)).toInt32) &&& 255)) 7 ((((v2 : Int32).toUInt32 >>> ((0 : Int32).toUInt32 &&& Int32.toUInt32 31)).toInt32) &&& 255)) 8 ((((v3 : Int32).toUInt32 >>> ((24 : Int32).toUInt32 &&& Int32.toUInt32 31)).toInt32) &&& 255)) 9 ((((v3 : Int32).toUInt32 >>> ((16 : Int32).toUInt32 &&& Int32.toUInt32 31)).toInt32) &&& 255)) 10 ((((v3 : Int32).toUInt32 >>> ((8 : Int32).toUInt32 &&& Int32.toUInt32 31)).toInt32) &&& 255)) 11 ((((v3 : Int32).toUInt32 >>> ((0 : Int32).toUInt32 &&& Int32.toUInt32 31)).toInt32) &&& 255)) 12 ((((v4 : Int32).toUInt32 >>> ((24 : Int32).toUInt32 &&& Int32.toUInt32 31)).toInt32) &&& 255)) 13 ((((v4 : Int32).toUInt32 >>> ((16 : Int32).toUInt32 &&& Int32.toUInt32 31)).toInt32) &&& 255)) 14 ((((v4 : Int32).toUInt32 >>> ((8 : Int32).toUInt32 &&& Int32.toUInt32 31)).toInt32) &&& 255)) 15 ((((v4 : Int32).toUInt32 >>> ((0 : Int32).toUInt32 &&& Int32.toUInt32 31)).toInt32) &&& 255)) 16 ((((v5 : Int32).toUInt32 >>> ((24 : Int32).toUInt32 &&& Int32.toUInt32 31)).toInt32) &&& 255)))), (a 5, .inl (g.2 0, 6, .inl (f 5))), (a 6, .inl (g.2 0, 8, .inl (f 6))), (a 7, .inl (g.2 1, 256, .inl (f 7)))]]) H := hP
  have hD : va_D A (List.flatten [[(o, .inr (10, [.int 0, .ref (a 0), .ref (a 1), .int hi, .ref (a 2), .ref (a 3), .int ac, .ref (a 4), .int 16, .int ba, .int en, .int tA, .int fl, .int de, .ref (a 5), .int iD, .int iO, .int tU, .ref (a 6), .ref (a 7)]))], [(a 0, .inl (g.2 0, 779, .inl (f 0))), (a 1, .inl (g.2 0, 779, .inl (f 1))), (a 2, .inl (g.2 0, 379, .inl (f 2))), (a 3, .inl (g.2 0, 4548, .inl (f 3))), (a 4, .inl (g.2 0, 400, .inl (upd (upd (upd (upd (upd (upd (upd (upd (upd (upd (upd (upd (upd (upd (upd (upd (upd (f 4) 0 ((((v1 : Int32).toUInt32 >>> ((24 : Int32).toUInt32 &&& Int32.toUInt32 31)).toInt32) &&& 255)) 1 ((((v1 : Int32).toUInt32 >>> ((16 : Int32).toUInt32 &&& Int32.toUInt32 31)).toInt32) &&& 255)) 2 ((((v1 : Int32).toUInt32 >>> ((8 : Int32).toUInt32 &&& Int32.toUInt32 31)).toInt32) &&& 255)) 3 ((((v1 : Int32).toUInt32 >>> ((0 : Int32).toUInt32 &&& Int32.toUInt32 31)).toInt32) &&& 255)) 4 ((((v2 : Int32).toUInt32 >>> ((24 : Int32).toUInt32 &&& Int32.toUInt32 31)).toInt32) &&& 255)) 5 ((((v2 : Int32).toUInt32 >>> ((16 : Int32).toUInt32 &&& Int32.toUInt32 31)).toInt32) &&& 255)) 6 ((((v2 : Int32).toUInt32 >>> ((8 : Int32).toUInt32 &&& Int32.toUInt32 31)).toInt32) &&& 255)) 7 ((((v2 : Int32).toUInt32 >>> ((0 : Int32).toUInt32 &&& Int32.toUInt32 31)).toInt32) &&& 255)) 8 ((((v3 : Int32).toUInt32 >>> ((24 : Int32).toUInt32 &&& Int32.toUInt32 31)).toInt32) &&& 255)) 9 ((((v3 : Int32).toUInt32 >>> ((16 : Int32).toUInt32 &&& Int32.toUInt32 31)).toInt32) &&& 255)) 10 ((((v3 : Int32).toUInt32 >>> ((8 : Int32).toUInt32 &&& Int32.toUInt32 31)).toInt32) &&& 255)) 11 ((((v3 : Int32).toUInt32 >>> ((0 : Int32).toUInt32 &&& Int32.toUInt32 31)).toInt32) &&& 255)) 12 ((((v4 : Int32).toUInt32 >>> ((24 : Int32).toUInt32 &&& Int32.toUInt32 31)).toInt32) &&& 255)) 13 ((((v4 : Int32).toUInt32 >>> ((16 : Int32).toUInt32 &&& Int32.toUInt32 31)).toInt32) &&& 255)) 14 ((((v4 : Int32).toUInt32 >>> ((8 : Int32).toUInt32 &&& Int32.toUInt32 31)).toInt32) &&& 255)) 15 ((((v4 : Int32).toUInt32 >>> ((0 : Int32).toUInt32 &&& Int32.toUInt32 31)).toInt32) &&& 255)) 16 ((((v5 : Int32).toUInt32 >>> ((24 : Int32).toUInt32 &&& Int32.toUInt32 31)).toInt32) &&& 255)))), (a 5, .inl (g.2 0, 6, .inl (f 5))), (a 6, .inl (g.2 0, 8, .inl (f 6))), (a 7, .inl (g.2 1, 256, .inl (f 7)))]]) := hD
  refine lv_aload_n hx hb dX12_feed_104 rfl (lv_at hl 2 rfl) ?_
  refine lv_dup hx hb dX12_feed_105 rfl ?_
  refine va_get (D := g.1) (ci := 10) (v := .int 16) (C := RX12) (T := TX12) (N := 20) hx hb hts izRX12 hown hK hP 0 rfl rfl 8 (by decide) (hts _ k864) (fun _ h9 => h9) rfl dX12_feed_106 ?_
  refine lv_iconst (v := 1) hx hb dX12_feed_109 (by decide) ?_
  refine lv_iadd hx hb dX12_feed_110 ?_
  refine ztop (r := 17) (by decide) ?_
  refine va_put (D := g.1) (ci := 10) (v := .int 17) (ty := .int) (C := RX12) (T := TX12) (N := 20) hx hb hts izRX12 tyX12 tyX12_ok nmX12 hown hK hP hD hS 0 rfl rfl 8 (by decide) (hts _ k864) (fun _ h9 => h9) rfl (by decide +kernel) rfl rfl (Nat.le_of_ble_eq_true rfl) dX12_feed_111 (fun H locs hP hD hS => ?_)
  have hP : va_P g.1 vwCl (List.flatten [[(o, .inr (10, [.int 0, .ref (a 0), .ref (a 1), .int hi, .ref (a 2), .ref (a 3), .int ac, .ref (a 4), .int 17, .int ba, .int en, .int tA, .int fl, .int de, .ref (a 5), .int iD, .int iO, .int tU, .ref (a 6), .ref (a 7)]))], [(a 0, .inl (g.2 0, 779, .inl (f 0))), (a 1, .inl (g.2 0, 779, .inl (f 1))), (a 2, .inl (g.2 0, 379, .inl (f 2))), (a 3, .inl (g.2 0, 4548, .inl (f 3))), (a 4, .inl (g.2 0, 400, .inl (upd (upd (upd (upd (upd (upd (upd (upd (upd (upd (upd (upd (upd (upd (upd (upd (upd (f 4) 0 ((((v1 : Int32).toUInt32 >>> ((24 : Int32).toUInt32 &&& Int32.toUInt32 31)).toInt32) &&& 255)) 1 ((((v1 : Int32).toUInt32 >>> ((16 : Int32).toUInt32 &&& Int32.toUInt32 31)).toInt32) &&& 255)) 2 ((((v1 : Int32).toUInt32 >>> ((8 : Int32).toUInt32 &&& Int32.toUInt32 31)).toInt32) &&& 255)) 3 ((((v1 : Int32).toUInt32 >>> ((0 : Int32).toUInt32 &&& Int32.toUInt32 31)).toInt32) &&& 255)) 4 ((((v2 : Int32).toUInt32 >>> ((24 : Int32).toUInt32 &&& Int32.toUInt32 31)).toInt32) &&& 255)) 5 ((((v2 : Int32).toUInt32 >>> ((16 : Int32).toUInt32 &&& Int32.toUInt32 31)).toInt32) &&& 255)) 6 ((((v2 : Int32).toUInt32 >>> ((8 : Int32).toUInt32 &&& Int32.toUInt32 31)).toInt32) &&& 255)) 7 ((((v2 : Int32).toUInt32 >>> ((0 : Int32).toUInt32 &&& Int32.toUInt32 31)).toInt32) &&& 255)) 8 ((((v3 : Int32).toUInt32 >>> ((24 : Int32).toUInt32 &&& Int32.toUInt32 31)).toInt32) &&& 255)) 9 ((((v3 : Int32).toUInt32 >>> ((16 : Int32).toUInt32 &&& Int32.toUInt32 31)).toInt32) &&& 255)) 10 ((((v3 : Int32).toUInt32 >>> ((8 : Int32).toUInt32 &&& Int32.toUInt32 31)).toInt32) &&& 255)) 11 ((((v3 : Int32).toUInt32 >>> ((0 : Int32).toUInt32 &&& Int32.toUInt32 31)).toInt32) &&& 255)) 12 ((((v4 : Int32).toUInt32 >>> ((24 : Int32).toUInt32 &&& Int32.toUInt32 31)).toInt32) &&& 255)) 13 ((((v4 : Int32).toUInt32 >>> ((16 : Int32).toUInt32 &&& Int32.toUInt32 31)).toInt32) &&& 255)) 14 ((((v4 : Int32).toUInt32 >>> ((8 : Int32).toUInt32 &&& Int32.toUInt32 31)).toInt32) &&& 255)) 15 ((((v4 : Int32).toUInt32 >>> ((0 : Int32).toUInt32 &&& Int32.toUInt32 31)).toInt32) &&& 255)) 16 ((((v5 : Int32).toUInt32 >>> ((24 : Int32).toUInt32 &&& Int32.toUInt32 31)).toInt32) &&& 255)))), (a 5, .inl (g.2 0, 6, .inl (f 5))), (a 6, .inl (g.2 0, 8, .inl (f 6))), (a 7, .inl (g.2 1, 256, .inl (f 7)))]]) H := hP
  have hD : va_D A (List.flatten [[(o, .inr (10, [.int 0, .ref (a 0), .ref (a 1), .int hi, .ref (a 2), .ref (a 3), .int ac, .ref (a 4), .int 17, .int ba, .int en, .int tA, .int fl, .int de, .ref (a 5), .int iD, .int iO, .int tU, .ref (a 6), .ref (a 7)]))], [(a 0, .inl (g.2 0, 779, .inl (f 0))), (a 1, .inl (g.2 0, 779, .inl (f 1))), (a 2, .inl (g.2 0, 379, .inl (f 2))), (a 3, .inl (g.2 0, 4548, .inl (f 3))), (a 4, .inl (g.2 0, 400, .inl (upd (upd (upd (upd (upd (upd (upd (upd (upd (upd (upd (upd (upd (upd (upd (upd (upd (f 4) 0 ((((v1 : Int32).toUInt32 >>> ((24 : Int32).toUInt32 &&& Int32.toUInt32 31)).toInt32) &&& 255)) 1 ((((v1 : Int32).toUInt32 >>> ((16 : Int32).toUInt32 &&& Int32.toUInt32 31)).toInt32) &&& 255)) 2 ((((v1 : Int32).toUInt32 >>> ((8 : Int32).toUInt32 &&& Int32.toUInt32 31)).toInt32) &&& 255)) 3 ((((v1 : Int32).toUInt32 >>> ((0 : Int32).toUInt32 &&& Int32.toUInt32 31)).toInt32) &&& 255)) 4 ((((v2 : Int32).toUInt32 >>> ((24 : Int32).toUInt32 &&& Int32.toUInt32 31)).toInt32) &&& 255)) 5 ((((v2 : Int32).toUInt32 >>> ((16 : Int32).toUInt32 &&& Int32.toUInt32 31)).toInt32) &&& 255)) 6 ((((v2 : Int32).toUInt32 >>> ((8 : Int32).toUInt32 &&& Int32.toUInt32 31)).toInt32) &&& 255)) 7 ((((v2 : Int32).toUInt32 >>> ((0 : Int32).toUInt32 &&& Int32.toUInt32 31)).toInt32) &&& 255)) 8 ((((v3 : Int32).toUInt32 >>> ((24 : Int32).toUInt32 &&& Int32.toUInt32 31)).toInt32) &&& 255)) 9 ((((v3 : Int32).toUInt32 >>> ((16 : Int32).toUInt32 &&& Int32.toUInt32 31)).toInt32) &&& 255)) 10 ((((v3 : Int32).toUInt32 >>> ((8 : Int32).toUInt32 &&& Int32.toUInt32 31)).toInt32) &&& 255)) 11 ((((v3 : Int32).toUInt32 >>> ((0 : Int32).toUInt32 &&& Int32.toUInt32 31)).toInt32) &&& 255)) 12 ((((v4 : Int32).toUInt32 >>> ((24 : Int32).toUInt32 &&& Int32.toUInt32 31)).toInt32) &&& 255)) 13 ((((v4 : Int32).toUInt32 >>> ((16 : Int32).toUInt32 &&& Int32.toUInt32 31)).toInt32) &&& 255)) 14 ((((v4 : Int32).toUInt32 >>> ((8 : Int32).toUInt32 &&& Int32.toUInt32 31)).toInt32) &&& 255)) 15 ((((v4 : Int32).toUInt32 >>> ((0 : Int32).toUInt32 &&& Int32.toUInt32 31)).toInt32) &&& 255)) 16 ((((v5 : Int32).toUInt32 >>> ((24 : Int32).toUInt32 &&& Int32.toUInt32 31)).toInt32) &&& 255)))), (a 5, .inl (g.2 0, 6, .inl (f 5))), (a 6, .inl (g.2 0, 8, .inl (f 6))), (a 7, .inl (g.2 1, 256, .inl (f 7)))]]) := hD
  refine lv_iinc (v := 17) (lv' := [(6, .int 17), (7, .int v5), (0, .ref o), (1, .int v1), (2, .int v2), (3, .int v3), (4, .int v4), (5, .int v5)]) hx hb dX12_feed_114 hl (k := 1) rfl (by decide) (by decide) rfl (fun ls hl => ?_)
  refine lv_goto (tgt := 23) hx hb dX12_feed_117 (by decide) ?_
  refine lv_iload hx hb dX12_feed_23 (lv_at hl 0 rfl) ?_
  refine lv_bipush (v := 20) hx hb dX12_feed_25 (by decide) ?_
  refine lv_icmp_ge (tgt := 120) hx hb dX12_feed_27 (by decide) (fun c63 => absurd c63 (by decide)) (fun _ => ?_)
  refine lv_iload hx hb dX12_feed_30 (lv_at hl 0 rfl) ?_
  refine lv_iconst (v := 4) hx hb dX12_feed_32 (by decide) ?_
  refine lv_icmp_ge (tgt := 40) hx hb dX12_feed_33 (by decide) (fun _ => ?_) (fun c64 => absurd (by decide) c64)
  refine lv_iload hx hb dX12_feed_40 (lv_at hl 0 rfl) ?_
  refine lv_bipush (v := 8) hx hb dX12_feed_42 (by decide) ?_
  refine lv_icmp_ge (tgt := 51) hx hb dX12_feed_44 (by decide) (fun _ => ?_) (fun c65 => absurd (by decide) c65)
  refine lv_iload hx hb dX12_feed_51 (lv_at hl 0 rfl) ?_
  refine lv_bipush (v := 12) hx hb dX12_feed_53 (by decide) ?_
  refine lv_icmp_ge (tgt := 62) hx hb dX12_feed_55 (by decide) (fun _ => ?_) (fun c66 => absurd (by decide) c66)
  refine lv_iload hx hb dX12_feed_62 (lv_at hl 0 rfl) ?_
  refine lv_bipush (v := 16) hx hb dX12_feed_64 (by decide) ?_
  refine lv_icmp_ge (tgt := 74) hx hb dX12_feed_66 (by decide) (fun _ => ?_) (fun c67 => absurd (by decide) c67)
  refine lv_iload hx hb dX12_feed_74 (lv_at hl 7 rfl) ?_
  refine lv_istore (lv' := [(7, .int v5), (6, .int 17), (0, .ref o), (1, .int v1), (2, .int v2), (3, .int v3), (4, .int v4), (5, .int v5)]) hx hb dX12_feed_76 hl (by decide) rfl (fun ls hl => ?_)
  refine lv_aload_n hx hb dX12_feed_78 rfl (lv_at hl 2 rfl) ?_
  refine va_get (D := g.1) (ci := 10) (v := .ref (a 4)) (C := RX12) (T := TX12) (N := 20) hx hb hts izRX12 hown hK hP 0 rfl rfl 7 (by decide) (hts _ k819) (fun _ h9 => h9) rfl dX12_feed_79 ?_
  refine lv_aload_n hx hb dX12_feed_82 rfl (lv_at hl 2 rfl) ?_
  refine va_get (D := g.1) (ci := 10) (v := .int 17) (C := RX12) (T := TX12) (N := 20) hx hb hts izRX12 hown hK hP 0 rfl rfl 8 (by decide) (hts _ k864) (fun _ h9 => h9) rfl dX12_feed_83 ?_
  refine lv_iload hx hb dX12_feed_86 (lv_at hl 0 rfl) ?_
  refine lv_bipush (v := 24) hx hb dX12_feed_88 (by decide) ?_
  refine lv_bipush (v := 8) hx hb dX12_feed_90 (by decide) ?_
  refine lv_iload hx hb dX12_feed_92 (lv_at hl 1 rfl) ?_
  refine lv_iconst (v := 4) hx hb dX12_feed_94 (by decide) ?_
  refine lv_irem hx hb dX12_feed_95 (by decide) ?_
  refine ztop (r := 1) (by decide) ?_
  refine lv_imul hx hb dX12_feed_96 ?_
  refine ztop (r := 8) (by decide) ?_
  refine lv_isub hx hb dX12_feed_97 ?_
  refine ztop (r := 16) (by decide) ?_
  refine lv_iushr (v := ((v5 : Int32).toUInt32 >>> ((16 : Int32).toUInt32 &&& Int32.toUInt32 31)).toInt32) hx hb dX12_feed_98 rfl ?_
  refine lv_sipush (v := 255) hx hb dX12_feed_99 (by decide) ?_
  refine lv_iand hx hb dX12_feed_102 ?_
  refine va_iast hx hb hK hP hD hS 5 0 rfl rfl (zin rfl) dX12_feed_103 (fun H locs hP hD hS => ?_)
  have hP : va_P g.1 vwCl (List.flatten [[(o, .inr (10, [.int 0, .ref (a 0), .ref (a 1), .int hi, .ref (a 2), .ref (a 3), .int ac, .ref (a 4), .int 17, .int ba, .int en, .int tA, .int fl, .int de, .ref (a 5), .int iD, .int iO, .int tU, .ref (a 6), .ref (a 7)]))], [(a 0, .inl (g.2 0, 779, .inl (f 0))), (a 1, .inl (g.2 0, 779, .inl (f 1))), (a 2, .inl (g.2 0, 379, .inl (f 2))), (a 3, .inl (g.2 0, 4548, .inl (f 3))), (a 4, .inl (g.2 0, 400, .inl (upd (upd (upd (upd (upd (upd (upd (upd (upd (upd (upd (upd (upd (upd (upd (upd (upd (upd (f 4) 0 ((((v1 : Int32).toUInt32 >>> ((24 : Int32).toUInt32 &&& Int32.toUInt32 31)).toInt32) &&& 255)) 1 ((((v1 : Int32).toUInt32 >>> ((16 : Int32).toUInt32 &&& Int32.toUInt32 31)).toInt32) &&& 255)) 2 ((((v1 : Int32).toUInt32 >>> ((8 : Int32).toUInt32 &&& Int32.toUInt32 31)).toInt32) &&& 255)) 3 ((((v1 : Int32).toUInt32 >>> ((0 : Int32).toUInt32 &&& Int32.toUInt32 31)).toInt32) &&& 255)) 4 ((((v2 : Int32).toUInt32 >>> ((24 : Int32).toUInt32 &&& Int32.toUInt32 31)).toInt32) &&& 255)) 5 ((((v2 : Int32).toUInt32 >>> ((16 : Int32).toUInt32 &&& Int32.toUInt32 31)).toInt32) &&& 255)) 6 ((((v2 : Int32).toUInt32 >>> ((8 : Int32).toUInt32 &&& Int32.toUInt32 31)).toInt32) &&& 255)) 7 ((((v2 : Int32).toUInt32 >>> ((0 : Int32).toUInt32 &&& Int32.toUInt32 31)).toInt32) &&& 255)) 8 ((((v3 : Int32).toUInt32 >>> ((24 : Int32).toUInt32 &&& Int32.toUInt32 31)).toInt32) &&& 255)) 9 ((((v3 : Int32).toUInt32 >>> ((16 : Int32).toUInt32 &&& Int32.toUInt32 31)).toInt32) &&& 255)) 10 ((((v3 : Int32).toUInt32 >>> ((8 : Int32).toUInt32 &&& Int32.toUInt32 31)).toInt32) &&& 255)) 11 ((((v3 : Int32).toUInt32 >>> ((0 : Int32).toUInt32 &&& Int32.toUInt32 31)).toInt32) &&& 255)) 12 ((((v4 : Int32).toUInt32 >>> ((24 : Int32).toUInt32 &&& Int32.toUInt32 31)).toInt32) &&& 255)) 13 ((((v4 : Int32).toUInt32 >>> ((16 : Int32).toUInt32 &&& Int32.toUInt32 31)).toInt32) &&& 255)) 14 ((((v4 : Int32).toUInt32 >>> ((8 : Int32).toUInt32 &&& Int32.toUInt32 31)).toInt32) &&& 255)) 15 ((((v4 : Int32).toUInt32 >>> ((0 : Int32).toUInt32 &&& Int32.toUInt32 31)).toInt32) &&& 255)) 16 ((((v5 : Int32).toUInt32 >>> ((24 : Int32).toUInt32 &&& Int32.toUInt32 31)).toInt32) &&& 255)) 17 ((((v5 : Int32).toUInt32 >>> ((16 : Int32).toUInt32 &&& Int32.toUInt32 31)).toInt32) &&& 255)))), (a 5, .inl (g.2 0, 6, .inl (f 5))), (a 6, .inl (g.2 0, 8, .inl (f 6))), (a 7, .inl (g.2 1, 256, .inl (f 7)))]]) H := hP
  have hD : va_D A (List.flatten [[(o, .inr (10, [.int 0, .ref (a 0), .ref (a 1), .int hi, .ref (a 2), .ref (a 3), .int ac, .ref (a 4), .int 17, .int ba, .int en, .int tA, .int fl, .int de, .ref (a 5), .int iD, .int iO, .int tU, .ref (a 6), .ref (a 7)]))], [(a 0, .inl (g.2 0, 779, .inl (f 0))), (a 1, .inl (g.2 0, 779, .inl (f 1))), (a 2, .inl (g.2 0, 379, .inl (f 2))), (a 3, .inl (g.2 0, 4548, .inl (f 3))), (a 4, .inl (g.2 0, 400, .inl (upd (upd (upd (upd (upd (upd (upd (upd (upd (upd (upd (upd (upd (upd (upd (upd (upd (upd (f 4) 0 ((((v1 : Int32).toUInt32 >>> ((24 : Int32).toUInt32 &&& Int32.toUInt32 31)).toInt32) &&& 255)) 1 ((((v1 : Int32).toUInt32 >>> ((16 : Int32).toUInt32 &&& Int32.toUInt32 31)).toInt32) &&& 255)) 2 ((((v1 : Int32).toUInt32 >>> ((8 : Int32).toUInt32 &&& Int32.toUInt32 31)).toInt32) &&& 255)) 3 ((((v1 : Int32).toUInt32 >>> ((0 : Int32).toUInt32 &&& Int32.toUInt32 31)).toInt32) &&& 255)) 4 ((((v2 : Int32).toUInt32 >>> ((24 : Int32).toUInt32 &&& Int32.toUInt32 31)).toInt32) &&& 255)) 5 ((((v2 : Int32).toUInt32 >>> ((16 : Int32).toUInt32 &&& Int32.toUInt32 31)).toInt32) &&& 255)) 6 ((((v2 : Int32).toUInt32 >>> ((8 : Int32).toUInt32 &&& Int32.toUInt32 31)).toInt32) &&& 255)) 7 ((((v2 : Int32).toUInt32 >>> ((0 : Int32).toUInt32 &&& Int32.toUInt32 31)).toInt32) &&& 255)) 8 ((((v3 : Int32).toUInt32 >>> ((24 : Int32).toUInt32 &&& Int32.toUInt32 31)).toInt32) &&& 255)) 9 ((((v3 : Int32).toUInt32 >>> ((16 : Int32).toUInt32 &&& Int32.toUInt32 31)).toInt32) &&& 255)) 10 ((((v3 : Int32).toUInt32 >>> ((8 : Int32).toUInt32 &&& Int32.toUInt32 31)).toInt32) &&& 255)) 11 ((((v3 : Int32).toUInt32 >>> ((0 : Int32).toUInt32 &&& Int32.toUInt32 31)).toInt32) &&& 255)) 12 ((((v4 : Int32).toUInt32 >>> ((24 : Int32).toUInt32 &&& Int32.toUInt32 31)).toInt32) &&& 255)) 13 ((((v4 : Int32).toUInt32 >>> ((16 : Int32).toUInt32 &&& Int32.toUInt32 31)).toInt32) &&& 255)) 14 ((((v4 : Int32).toUInt32 >>> ((8 : Int32).toUInt32 &&& Int32.toUInt32 31)).toInt32) &&& 255)) 15 ((((v4 : Int32).toUInt32 >>> ((0 : Int32).toUInt32 &&& Int32.toUInt32 31)).toInt32) &&& 255)) 16 ((((v5 : Int32).toUInt32 >>> ((24 : Int32).toUInt32 &&& Int32.toUInt32 31)).toInt32) &&& 255)) 17 ((((v5 : Int32).toUInt32 >>> ((16 : Int32).toUInt32 &&& Int32.toUInt32 31)).toInt32) &&& 255)))), (a 5, .inl (g.2 0, 6, .inl (f 5))), (a 6, .inl (g.2 0, 8, .inl (f 6))), (a 7, .inl (g.2 1, 256, .inl (f 7)))]]) := hD
  refine lv_aload_n hx hb dX12_feed_104 rfl (lv_at hl 2 rfl) ?_
  refine lv_dup hx hb dX12_feed_105 rfl ?_
  refine va_get (D := g.1) (ci := 10) (v := .int 17) (C := RX12) (T := TX12) (N := 20) hx hb hts izRX12 hown hK hP 0 rfl rfl 8 (by decide) (hts _ k864) (fun _ h9 => h9) rfl dX12_feed_106 ?_
  refine lv_iconst (v := 1) hx hb dX12_feed_109 (by decide) ?_
  refine lv_iadd hx hb dX12_feed_110 ?_
  refine ztop (r := 18) (by decide) ?_
  refine va_put (D := g.1) (ci := 10) (v := .int 18) (ty := .int) (C := RX12) (T := TX12) (N := 20) hx hb hts izRX12 tyX12 tyX12_ok nmX12 hown hK hP hD hS 0 rfl rfl 8 (by decide) (hts _ k864) (fun _ h9 => h9) rfl (by decide +kernel) rfl rfl (Nat.le_of_ble_eq_true rfl) dX12_feed_111 (fun H locs hP hD hS => ?_)
  have hP : va_P g.1 vwCl (List.flatten [[(o, .inr (10, [.int 0, .ref (a 0), .ref (a 1), .int hi, .ref (a 2), .ref (a 3), .int ac, .ref (a 4), .int 18, .int ba, .int en, .int tA, .int fl, .int de, .ref (a 5), .int iD, .int iO, .int tU, .ref (a 6), .ref (a 7)]))], [(a 0, .inl (g.2 0, 779, .inl (f 0))), (a 1, .inl (g.2 0, 779, .inl (f 1))), (a 2, .inl (g.2 0, 379, .inl (f 2))), (a 3, .inl (g.2 0, 4548, .inl (f 3))), (a 4, .inl (g.2 0, 400, .inl (upd (upd (upd (upd (upd (upd (upd (upd (upd (upd (upd (upd (upd (upd (upd (upd (upd (upd (f 4) 0 ((((v1 : Int32).toUInt32 >>> ((24 : Int32).toUInt32 &&& Int32.toUInt32 31)).toInt32) &&& 255)) 1 ((((v1 : Int32).toUInt32 >>> ((16 : Int32).toUInt32 &&& Int32.toUInt32 31)).toInt32) &&& 255)) 2 ((((v1 : Int32).toUInt32 >>> ((8 : Int32).toUInt32 &&& Int32.toUInt32 31)).toInt32) &&& 255)) 3 ((((v1 : Int32).toUInt32 >>> ((0 : Int32).toUInt32 &&& Int32.toUInt32 31)).toInt32) &&& 255)) 4 ((((v2 : Int32).toUInt32 >>> ((24 : Int32).toUInt32 &&& Int32.toUInt32 31)).toInt32) &&& 255)) 5 ((((v2 : Int32).toUInt32 >>> ((16 : Int32).toUInt32 &&& Int32.toUInt32 31)).toInt32) &&& 255)) 6 ((((v2 : Int32).toUInt32 >>> ((8 : Int32).toUInt32 &&& Int32.toUInt32 31)).toInt32) &&& 255)) 7 ((((v2 : Int32).toUInt32 >>> ((0 : Int32).toUInt32 &&& Int32.toUInt32 31)).toInt32) &&& 255)) 8 ((((v3 : Int32).toUInt32 >>> ((24 : Int32).toUInt32 &&& Int32.toUInt32 31)).toInt32) &&& 255)) 9 ((((v3 : Int32).toUInt32 >>> ((16 : Int32).toUInt32 &&& Int32.toUInt32 31)).toInt32) &&& 255)) 10 ((((v3 : Int32).toUInt32 >>> ((8 : Int32).toUInt32 &&& Int32.toUInt32 31)).toInt32) &&& 255)) 11 ((((v3 : Int32).toUInt32 >>> ((0 : Int32).toUInt32 &&& Int32.toUInt32 31)).toInt32) &&& 255)) 12 ((((v4 : Int32).toUInt32 >>> ((24 : Int32).toUInt32 &&& Int32.toUInt32 31)).toInt32) &&& 255)) 13 ((((v4 : Int32).toUInt32 >>> ((16 : Int32).toUInt32 &&& Int32.toUInt32 31)).toInt32) &&& 255)) 14 ((((v4 : Int32).toUInt32 >>> ((8 : Int32).toUInt32 &&& Int32.toUInt32 31)).toInt32) &&& 255)) 15 ((((v4 : Int32).toUInt32 >>> ((0 : Int32).toUInt32 &&& Int32.toUInt32 31)).toInt32) &&& 255)) 16 ((((v5 : Int32).toUInt32 >>> ((24 : Int32).toUInt32 &&& Int32.toUInt32 31)).toInt32) &&& 255)) 17 ((((v5 : Int32).toUInt32 >>> ((16 : Int32).toUInt32 &&& Int32.toUInt32 31)).toInt32) &&& 255)))), (a 5, .inl (g.2 0, 6, .inl (f 5))), (a 6, .inl (g.2 0, 8, .inl (f 6))), (a 7, .inl (g.2 1, 256, .inl (f 7)))]]) H := hP
  have hD : va_D A (List.flatten [[(o, .inr (10, [.int 0, .ref (a 0), .ref (a 1), .int hi, .ref (a 2), .ref (a 3), .int ac, .ref (a 4), .int 18, .int ba, .int en, .int tA, .int fl, .int de, .ref (a 5), .int iD, .int iO, .int tU, .ref (a 6), .ref (a 7)]))], [(a 0, .inl (g.2 0, 779, .inl (f 0))), (a 1, .inl (g.2 0, 779, .inl (f 1))), (a 2, .inl (g.2 0, 379, .inl (f 2))), (a 3, .inl (g.2 0, 4548, .inl (f 3))), (a 4, .inl (g.2 0, 400, .inl (upd (upd (upd (upd (upd (upd (upd (upd (upd (upd (upd (upd (upd (upd (upd (upd (upd (upd (f 4) 0 ((((v1 : Int32).toUInt32 >>> ((24 : Int32).toUInt32 &&& Int32.toUInt32 31)).toInt32) &&& 255)) 1 ((((v1 : Int32).toUInt32 >>> ((16 : Int32).toUInt32 &&& Int32.toUInt32 31)).toInt32) &&& 255)) 2 ((((v1 : Int32).toUInt32 >>> ((8 : Int32).toUInt32 &&& Int32.toUInt32 31)).toInt32) &&& 255)) 3 ((((v1 : Int32).toUInt32 >>> ((0 : Int32).toUInt32 &&& Int32.toUInt32 31)).toInt32) &&& 255)) 4 ((((v2 : Int32).toUInt32 >>> ((24 : Int32).toUInt32 &&& Int32.toUInt32 31)).toInt32) &&& 255)) 5 ((((v2 : Int32).toUInt32 >>> ((16 : Int32).toUInt32 &&& Int32.toUInt32 31)).toInt32) &&& 255)) 6 ((((v2 : Int32).toUInt32 >>> ((8 : Int32).toUInt32 &&& Int32.toUInt32 31)).toInt32) &&& 255)) 7 ((((v2 : Int32).toUInt32 >>> ((0 : Int32).toUInt32 &&& Int32.toUInt32 31)).toInt32) &&& 255)) 8 ((((v3 : Int32).toUInt32 >>> ((24 : Int32).toUInt32 &&& Int32.toUInt32 31)).toInt32) &&& 255)) 9 ((((v3 : Int32).toUInt32 >>> ((16 : Int32).toUInt32 &&& Int32.toUInt32 31)).toInt32) &&& 255)) 10 ((((v3 : Int32).toUInt32 >>> ((8 : Int32).toUInt32 &&& Int32.toUInt32 31)).toInt32) &&& 255)) 11 ((((v3 : Int32).toUInt32 >>> ((0 : Int32).toUInt32 &&& Int32.toUInt32 31)).toInt32) &&& 255)) 12 ((((v4 : Int32).toUInt32 >>> ((24 : Int32).toUInt32 &&& Int32.toUInt32 31)).toInt32) &&& 255)) 13 ((((v4 : Int32).toUInt32 >>> ((16 : Int32).toUInt32 &&& Int32.toUInt32 31)).toInt32) &&& 255)) 14 ((((v4 : Int32).toUInt32 >>> ((8 : Int32).toUInt32 &&& Int32.toUInt32 31)).toInt32) &&& 255)) 15 ((((v4 : Int32).toUInt32 >>> ((0 : Int32).toUInt32 &&& Int32.toUInt32 31)).toInt32) &&& 255)) 16 ((((v5 : Int32).toUInt32 >>> ((24 : Int32).toUInt32 &&& Int32.toUInt32 31)).toInt32) &&& 255)) 17 ((((v5 : Int32).toUInt32 >>> ((16 : Int32).toUInt32 &&& Int32.toUInt32 31)).toInt32) &&& 255)))), (a 5, .inl (g.2 0, 6, .inl (f 5))), (a 6, .inl (g.2 0, 8, .inl (f 6))), (a 7, .inl (g.2 1, 256, .inl (f 7)))]]) := hD
  refine lv_iinc (v := 18) (lv' := [(6, .int 18), (7, .int v5), (0, .ref o), (1, .int v1), (2, .int v2), (3, .int v3), (4, .int v4), (5, .int v5)]) hx hb dX12_feed_114 hl (k := 1) rfl (by decide) (by decide) rfl (fun ls hl => ?_)
  refine lv_goto (tgt := 23) hx hb dX12_feed_117 (by decide) ?_
  refine lv_iload hx hb dX12_feed_23 (lv_at hl 0 rfl) ?_
  refine lv_bipush (v := 20) hx hb dX12_feed_25 (by decide) ?_
  refine lv_icmp_ge (tgt := 120) hx hb dX12_feed_27 (by decide) (fun c68 => absurd c68 (by decide)) (fun _ => ?_)
  refine lv_iload hx hb dX12_feed_30 (lv_at hl 0 rfl) ?_
  refine lv_iconst (v := 4) hx hb dX12_feed_32 (by decide) ?_
  refine lv_icmp_ge (tgt := 40) hx hb dX12_feed_33 (by decide) (fun _ => ?_) (fun c69 => absurd (by decide) c69)
  refine lv_iload hx hb dX12_feed_40 (lv_at hl 0 rfl) ?_
  refine lv_bipush (v := 8) hx hb dX12_feed_42 (by decide) ?_
  refine lv_icmp_ge (tgt := 51) hx hb dX12_feed_44 (by decide) (fun _ => ?_) (fun c70 => absurd (by decide) c70)
  refine lv_iload hx hb dX12_feed_51 (lv_at hl 0 rfl) ?_
  refine lv_bipush (v := 12) hx hb dX12_feed_53 (by decide) ?_
  refine lv_icmp_ge (tgt := 62) hx hb dX12_feed_55 (by decide) (fun _ => ?_) (fun c71 => absurd (by decide) c71)
  refine lv_iload hx hb dX12_feed_62 (lv_at hl 0 rfl) ?_
  refine lv_bipush (v := 16) hx hb dX12_feed_64 (by decide) ?_
  refine lv_icmp_ge (tgt := 74) hx hb dX12_feed_66 (by decide) (fun _ => ?_) (fun c72 => absurd (by decide) c72)
  refine lv_iload hx hb dX12_feed_74 (lv_at hl 7 rfl) ?_
  refine lv_istore (lv' := [(7, .int v5), (6, .int 18), (0, .ref o), (1, .int v1), (2, .int v2), (3, .int v3), (4, .int v4), (5, .int v5)]) hx hb dX12_feed_76 hl (by decide) rfl (fun ls hl => ?_)
  refine lv_aload_n hx hb dX12_feed_78 rfl (lv_at hl 2 rfl) ?_
  refine va_get (D := g.1) (ci := 10) (v := .ref (a 4)) (C := RX12) (T := TX12) (N := 20) hx hb hts izRX12 hown hK hP 0 rfl rfl 7 (by decide) (hts _ k819) (fun _ h9 => h9) rfl dX12_feed_79 ?_
  refine lv_aload_n hx hb dX12_feed_82 rfl (lv_at hl 2 rfl) ?_
  refine va_get (D := g.1) (ci := 10) (v := .int 18) (C := RX12) (T := TX12) (N := 20) hx hb hts izRX12 hown hK hP 0 rfl rfl 8 (by decide) (hts _ k864) (fun _ h9 => h9) rfl dX12_feed_83 ?_
  refine lv_iload hx hb dX12_feed_86 (lv_at hl 0 rfl) ?_
  refine lv_bipush (v := 24) hx hb dX12_feed_88 (by decide) ?_
  refine lv_bipush (v := 8) hx hb dX12_feed_90 (by decide) ?_
  refine lv_iload hx hb dX12_feed_92 (lv_at hl 1 rfl) ?_
  refine lv_iconst (v := 4) hx hb dX12_feed_94 (by decide) ?_
  refine lv_irem hx hb dX12_feed_95 (by decide) ?_
  refine ztop (r := 2) (by decide) ?_
  refine lv_imul hx hb dX12_feed_96 ?_
  refine ztop (r := 16) (by decide) ?_
  refine lv_isub hx hb dX12_feed_97 ?_
  refine ztop (r := 8) (by decide) ?_
  refine lv_iushr (v := ((v5 : Int32).toUInt32 >>> ((8 : Int32).toUInt32 &&& Int32.toUInt32 31)).toInt32) hx hb dX12_feed_98 rfl ?_
  refine lv_sipush (v := 255) hx hb dX12_feed_99 (by decide) ?_
  refine lv_iand hx hb dX12_feed_102 ?_
  refine va_iast hx hb hK hP hD hS 5 0 rfl rfl (zin rfl) dX12_feed_103 (fun H locs hP hD hS => ?_)
  have hP : va_P g.1 vwCl (List.flatten [[(o, .inr (10, [.int 0, .ref (a 0), .ref (a 1), .int hi, .ref (a 2), .ref (a 3), .int ac, .ref (a 4), .int 18, .int ba, .int en, .int tA, .int fl, .int de, .ref (a 5), .int iD, .int iO, .int tU, .ref (a 6), .ref (a 7)]))], [(a 0, .inl (g.2 0, 779, .inl (f 0))), (a 1, .inl (g.2 0, 779, .inl (f 1))), (a 2, .inl (g.2 0, 379, .inl (f 2))), (a 3, .inl (g.2 0, 4548, .inl (f 3))), (a 4, .inl (g.2 0, 400, .inl (upd (upd (upd (upd (upd (upd (upd (upd (upd (upd (upd (upd (upd (upd (upd (upd (upd (upd (upd (f 4) 0 ((((v1 : Int32).toUInt32 >>> ((24 : Int32).toUInt32 &&& Int32.toUInt32 31)).toInt32) &&& 255)) 1 ((((v1 : Int32).toUInt32 >>> ((16 : Int32).toUInt32 &&& Int32.toUInt32 31)).toInt32) &&& 255)) 2 ((((v1 : Int32).toUInt32 >>> ((8 : Int32).toUInt32 &&& Int32.toUInt32 31)).toInt32) &&& 255)) 3 ((((v1 : Int32).toUInt32 >>> ((0 : Int32).toUInt32 &&& Int32.toUInt32 31)).toInt32) &&& 255)) 4 ((((v2 : Int32).toUInt32 >>> ((24 : Int32).toUInt32 &&& Int32.toUInt32 31)).toInt32) &&& 255)) 5 ((((v2 : Int32).toUInt32 >>> ((16 : Int32).toUInt32 &&& Int32.toUInt32 31)).toInt32) &&& 255)) 6 ((((v2 : Int32).toUInt32 >>> ((8 : Int32).toUInt32 &&& Int32.toUInt32 31)).toInt32) &&& 255)) 7 ((((v2 : Int32).toUInt32 >>> ((0 : Int32).toUInt32 &&& Int32.toUInt32 31)).toInt32) &&& 255)) 8 ((((v3 : Int32).toUInt32 >>> ((24 : Int32).toUInt32 &&& Int32.toUInt32 31)).toInt32) &&& 255)) 9 ((((v3 : Int32).toUInt32 >>> ((16 : Int32).toUInt32 &&& Int32.toUInt32 31)).toInt32) &&& 255)) 10 ((((v3 : Int32).toUInt32 >>> ((8 : Int32).toUInt32 &&& Int32.toUInt32 31)).toInt32) &&& 255)) 11 ((((v3 : Int32).toUInt32 >>> ((0 : Int32).toUInt32 &&& Int32.toUInt32 31)).toInt32) &&& 255)) 12 ((((v4 : Int32).toUInt32 >>> ((24 : Int32).toUInt32 &&& Int32.toUInt32 31)).toInt32) &&& 255)) 13 ((((v4 : Int32).toUInt32 >>> ((16 : Int32).toUInt32 &&& Int32.toUInt32 31)).toInt32) &&& 255)) 14 ((((v4 : Int32).toUInt32 >>> ((8 : Int32).toUInt32 &&& Int32.toUInt32 31)).toInt32) &&& 255)) 15 ((((v4 : Int32).toUInt32 >>> ((0 : Int32).toUInt32 &&& Int32.toUInt32 31)).toInt32) &&& 255)) 16 ((((v5 : Int32).toUInt32 >>> ((24 : Int32).toUInt32 &&& Int32.toUInt32 31)).toInt32) &&& 255)) 17 ((((v5 : Int32).toUInt32 >>> ((16 : Int32).toUInt32 &&& Int32.toUInt32 31)).toInt32) &&& 255)) 18 ((((v5 : Int32).toUInt32 >>> ((8 : Int32).toUInt32 &&& Int32.toUInt32 31)).toInt32) &&& 255)))), (a 5, .inl (g.2 0, 6, .inl (f 5))), (a 6, .inl (g.2 0, 8, .inl (f 6))), (a 7, .inl (g.2 1, 256, .inl (f 7)))]]) H := hP
  have hD : va_D A (List.flatten [[(o, .inr (10, [.int 0, .ref (a 0), .ref (a 1), .int hi, .ref (a 2), .ref (a 3), .int ac, .ref (a 4), .int 18, .int ba, .int en, .int tA, .int fl, .int de, .ref (a 5), .int iD, .int iO, .int tU, .ref (a 6), .ref (a 7)]))], [(a 0, .inl (g.2 0, 779, .inl (f 0))), (a 1, .inl (g.2 0, 779, .inl (f 1))), (a 2, .inl (g.2 0, 379, .inl (f 2))), (a 3, .inl (g.2 0, 4548, .inl (f 3))), (a 4, .inl (g.2 0, 400, .inl (upd (upd (upd (upd (upd (upd (upd (upd (upd (upd (upd (upd (upd (upd (upd (upd (upd (upd (upd (f 4) 0 ((((v1 : Int32).toUInt32 >>> ((24 : Int32).toUInt32 &&& Int32.toUInt32 31)).toInt32) &&& 255)) 1 ((((v1 : Int32).toUInt32 >>> ((16 : Int32).toUInt32 &&& Int32.toUInt32 31)).toInt32) &&& 255)) 2 ((((v1 : Int32).toUInt32 >>> ((8 : Int32).toUInt32 &&& Int32.toUInt32 31)).toInt32) &&& 255)) 3 ((((v1 : Int32).toUInt32 >>> ((0 : Int32).toUInt32 &&& Int32.toUInt32 31)).toInt32) &&& 255)) 4 ((((v2 : Int32).toUInt32 >>> ((24 : Int32).toUInt32 &&& Int32.toUInt32 31)).toInt32) &&& 255)) 5 ((((v2 : Int32).toUInt32 >>> ((16 : Int32).toUInt32 &&& Int32.toUInt32 31)).toInt32) &&& 255)) 6 ((((v2 : Int32).toUInt32 >>> ((8 : Int32).toUInt32 &&& Int32.toUInt32 31)).toInt32) &&& 255)) 7 ((((v2 : Int32).toUInt32 >>> ((0 : Int32).toUInt32 &&& Int32.toUInt32 31)).toInt32) &&& 255)) 8 ((((v3 : Int32).toUInt32 >>> ((24 : Int32).toUInt32 &&& Int32.toUInt32 31)).toInt32) &&& 255)) 9 ((((v3 : Int32).toUInt32 >>> ((16 : Int32).toUInt32 &&& Int32.toUInt32 31)).toInt32) &&& 255)) 10 ((((v3 : Int32).toUInt32 >>> ((8 : Int32).toUInt32 &&& Int32.toUInt32 31)).toInt32) &&& 255)) 11 ((((v3 : Int32).toUInt32 >>> ((0 : Int32).toUInt32 &&& Int32.toUInt32 31)).toInt32) &&& 255)) 12 ((((v4 : Int32).toUInt32 >>> ((24 : Int32).toUInt32 &&& Int32.toUInt32 31)).toInt32) &&& 255)) 13 ((((v4 : Int32).toUInt32 >>> ((16 : Int32).toUInt32 &&& Int32.toUInt32 31)).toInt32) &&& 255)) 14 ((((v4 : Int32).toUInt32 >>> ((8 : Int32).toUInt32 &&& Int32.toUInt32 31)).toInt32) &&& 255)) 15 ((((v4 : Int32).toUInt32 >>> ((0 : Int32).toUInt32 &&& Int32.toUInt32 31)).toInt32) &&& 255)) 16 ((((v5 : Int32).toUInt32 >>> ((24 : Int32).toUInt32 &&& Int32.toUInt32 31)).toInt32) &&& 255)) 17 ((((v5 : Int32).toUInt32 >>> ((16 : Int32).toUInt32 &&& Int32.toUInt32 31)).toInt32) &&& 255)) 18 ((((v5 : Int32).toUInt32 >>> ((8 : Int32).toUInt32 &&& Int32.toUInt32 31)).toInt32) &&& 255)))), (a 5, .inl (g.2 0, 6, .inl (f 5))), (a 6, .inl (g.2 0, 8, .inl (f 6))), (a 7, .inl (g.2 1, 256, .inl (f 7)))]]) := hD
  refine lv_aload_n hx hb dX12_feed_104 rfl (lv_at hl 2 rfl) ?_
  refine lv_dup hx hb dX12_feed_105 rfl ?_
  refine va_get (D := g.1) (ci := 10) (v := .int 18) (C := RX12) (T := TX12) (N := 20) hx hb hts izRX12 hown hK hP 0 rfl rfl 8 (by decide) (hts _ k864) (fun _ h9 => h9) rfl dX12_feed_106 ?_
  refine lv_iconst (v := 1) hx hb dX12_feed_109 (by decide) ?_
  refine lv_iadd hx hb dX12_feed_110 ?_
  refine ztop (r := 19) (by decide) ?_
  refine va_put (D := g.1) (ci := 10) (v := .int 19) (ty := .int) (C := RX12) (T := TX12) (N := 20) hx hb hts izRX12 tyX12 tyX12_ok nmX12 hown hK hP hD hS 0 rfl rfl 8 (by decide) (hts _ k864) (fun _ h9 => h9) rfl (by decide +kernel) rfl rfl (Nat.le_of_ble_eq_true rfl) dX12_feed_111 (fun H locs hP hD hS => ?_)
  have hP : va_P g.1 vwCl (List.flatten [[(o, .inr (10, [.int 0, .ref (a 0), .ref (a 1), .int hi, .ref (a 2), .ref (a 3), .int ac, .ref (a 4), .int 19, .int ba, .int en, .int tA, .int fl, .int de, .ref (a 5), .int iD, .int iO, .int tU, .ref (a 6), .ref (a 7)]))], [(a 0, .inl (g.2 0, 779, .inl (f 0))), (a 1, .inl (g.2 0, 779, .inl (f 1))), (a 2, .inl (g.2 0, 379, .inl (f 2))), (a 3, .inl (g.2 0, 4548, .inl (f 3))), (a 4, .inl (g.2 0, 400, .inl (upd (upd (upd (upd (upd (upd (upd (upd (upd (upd (upd (upd (upd (upd (upd (upd (upd (upd (upd (f 4) 0 ((((v1 : Int32).toUInt32 >>> ((24 : Int32).toUInt32 &&& Int32.toUInt32 31)).toInt32) &&& 255)) 1 ((((v1 : Int32).toUInt32 >>> ((16 : Int32).toUInt32 &&& Int32.toUInt32 31)).toInt32) &&& 255)) 2 ((((v1 : Int32).toUInt32 >>> ((8 : Int32).toUInt32 &&& Int32.toUInt32 31)).toInt32) &&& 255)) 3 ((((v1 : Int32).toUInt32 >>> ((0 : Int32).toUInt32 &&& Int32.toUInt32 31)).toInt32) &&& 255)) 4 ((((v2 : Int32).toUInt32 >>> ((24 : Int32).toUInt32 &&& Int32.toUInt32 31)).toInt32) &&& 255)) 5 ((((v2 : Int32).toUInt32 >>> ((16 : Int32).toUInt32 &&& Int32.toUInt32 31)).toInt32) &&& 255)) 6 ((((v2 : Int32).toUInt32 >>> ((8 : Int32).toUInt32 &&& Int32.toUInt32 31)).toInt32) &&& 255)) 7 ((((v2 : Int32).toUInt32 >>> ((0 : Int32).toUInt32 &&& Int32.toUInt32 31)).toInt32) &&& 255)) 8 ((((v3 : Int32).toUInt32 >>> ((24 : Int32).toUInt32 &&& Int32.toUInt32 31)).toInt32) &&& 255)) 9 ((((v3 : Int32).toUInt32 >>> ((16 : Int32).toUInt32 &&& Int32.toUInt32 31)).toInt32) &&& 255)) 10 ((((v3 : Int32).toUInt32 >>> ((8 : Int32).toUInt32 &&& Int32.toUInt32 31)).toInt32) &&& 255)) 11 ((((v3 : Int32).toUInt32 >>> ((0 : Int32).toUInt32 &&& Int32.toUInt32 31)).toInt32) &&& 255)) 12 ((((v4 : Int32).toUInt32 >>> ((24 : Int32).toUInt32 &&& Int32.toUInt32 31)).toInt32) &&& 255)) 13 ((((v4 : Int32).toUInt32 >>> ((16 : Int32).toUInt32 &&& Int32.toUInt32 31)).toInt32) &&& 255)) 14 ((((v4 : Int32).toUInt32 >>> ((8 : Int32).toUInt32 &&& Int32.toUInt32 31)).toInt32) &&& 255)) 15 ((((v4 : Int32).toUInt32 >>> ((0 : Int32).toUInt32 &&& Int32.toUInt32 31)).toInt32) &&& 255)) 16 ((((v5 : Int32).toUInt32 >>> ((24 : Int32).toUInt32 &&& Int32.toUInt32 31)).toInt32) &&& 255)) 17 ((((v5 : Int32).toUInt32 >>> ((16 : Int32).toUInt32 &&& Int32.toUInt32 31)).toInt32) &&& 255)) 18 ((((v5 : Int32).toUInt32 >>> ((8 : Int32).toUInt32 &&& Int32.toUInt32 31)).toInt32) &&& 255)))), (a 5, .inl (g.2 0, 6, .inl (f 5))), (a 6, .inl (g.2 0, 8, .inl (f 6))), (a 7, .inl (g.2 1, 256, .inl (f 7)))]]) H := hP
  have hD : va_D A (List.flatten [[(o, .inr (10, [.int 0, .ref (a 0), .ref (a 1), .int hi, .ref (a 2), .ref (a 3), .int ac, .ref (a 4), .int 19, .int ba, .int en, .int tA, .int fl, .int de, .ref (a 5), .int iD, .int iO, .int tU, .ref (a 6), .ref (a 7)]))], [(a 0, .inl (g.2 0, 779, .inl (f 0))), (a 1, .inl (g.2 0, 779, .inl (f 1))), (a 2, .inl (g.2 0, 379, .inl (f 2))), (a 3, .inl (g.2 0, 4548, .inl (f 3))), (a 4, .inl (g.2 0, 400, .inl (upd (upd (upd (upd (upd (upd (upd (upd (upd (upd (upd (upd (upd (upd (upd (upd (upd (upd (upd (f 4) 0 ((((v1 : Int32).toUInt32 >>> ((24 : Int32).toUInt32 &&& Int32.toUInt32 31)).toInt32) &&& 255)) 1 ((((v1 : Int32).toUInt32 >>> ((16 : Int32).toUInt32 &&& Int32.toUInt32 31)).toInt32) &&& 255)) 2 ((((v1 : Int32).toUInt32 >>> ((8 : Int32).toUInt32 &&& Int32.toUInt32 31)).toInt32) &&& 255)) 3 ((((v1 : Int32).toUInt32 >>> ((0 : Int32).toUInt32 &&& Int32.toUInt32 31)).toInt32) &&& 255)) 4 ((((v2 : Int32).toUInt32 >>> ((24 : Int32).toUInt32 &&& Int32.toUInt32 31)).toInt32) &&& 255)) 5 ((((v2 : Int32).toUInt32 >>> ((16 : Int32).toUInt32 &&& Int32.toUInt32 31)).toInt32) &&& 255)) 6 ((((v2 : Int32).toUInt32 >>> ((8 : Int32).toUInt32 &&& Int32.toUInt32 31)).toInt32) &&& 255)) 7 ((((v2 : Int32).toUInt32 >>> ((0 : Int32).toUInt32 &&& Int32.toUInt32 31)).toInt32) &&& 255)) 8 ((((v3 : Int32).toUInt32 >>> ((24 : Int32).toUInt32 &&& Int32.toUInt32 31)).toInt32) &&& 255)) 9 ((((v3 : Int32).toUInt32 >>> ((16 : Int32).toUInt32 &&& Int32.toUInt32 31)).toInt32) &&& 255)) 10 ((((v3 : Int32).toUInt32 >>> ((8 : Int32).toUInt32 &&& Int32.toUInt32 31)).toInt32) &&& 255)) 11 ((((v3 : Int32).toUInt32 >>> ((0 : Int32).toUInt32 &&& Int32.toUInt32 31)).toInt32) &&& 255)) 12 ((((v4 : Int32).toUInt32 >>> ((24 : Int32).toUInt32 &&& Int32.toUInt32 31)).toInt32) &&& 255)) 13 ((((v4 : Int32).toUInt32 >>> ((16 : Int32).toUInt32 &&& Int32.toUInt32 31)).toInt32) &&& 255)) 14 ((((v4 : Int32).toUInt32 >>> ((8 : Int32).toUInt32 &&& Int32.toUInt32 31)).toInt32) &&& 255)) 15 ((((v4 : Int32).toUInt32 >>> ((0 : Int32).toUInt32 &&& Int32.toUInt32 31)).toInt32) &&& 255)) 16 ((((v5 : Int32).toUInt32 >>> ((24 : Int32).toUInt32 &&& Int32.toUInt32 31)).toInt32) &&& 255)) 17 ((((v5 : Int32).toUInt32 >>> ((16 : Int32).toUInt32 &&& Int32.toUInt32 31)).toInt32) &&& 255)) 18 ((((v5 : Int32).toUInt32 >>> ((8 : Int32).toUInt32 &&& Int32.toUInt32 31)).toInt32) &&& 255)))), (a 5, .inl (g.2 0, 6, .inl (f 5))), (a 6, .inl (g.2 0, 8, .inl (f 6))), (a 7, .inl (g.2 1, 256, .inl (f 7)))]]) := hD
  refine lv_iinc (v := 19) (lv' := [(6, .int 19), (7, .int v5), (0, .ref o), (1, .int v1), (2, .int v2), (3, .int v3), (4, .int v4), (5, .int v5)]) hx hb dX12_feed_114 hl (k := 1) rfl (by decide) (by decide) rfl (fun ls hl => ?_)
  refine lv_goto (tgt := 23) hx hb dX12_feed_117 (by decide) ?_
  refine lv_iload hx hb dX12_feed_23 (lv_at hl 0 rfl) ?_
  refine lv_bipush (v := 20) hx hb dX12_feed_25 (by decide) ?_
  refine lv_icmp_ge (tgt := 120) hx hb dX12_feed_27 (by decide) (fun c73 => absurd c73 (by decide)) (fun _ => ?_)
  refine lv_iload hx hb dX12_feed_30 (lv_at hl 0 rfl) ?_
  refine lv_iconst (v := 4) hx hb dX12_feed_32 (by decide) ?_
  refine lv_icmp_ge (tgt := 40) hx hb dX12_feed_33 (by decide) (fun _ => ?_) (fun c74 => absurd (by decide) c74)
  refine lv_iload hx hb dX12_feed_40 (lv_at hl 0 rfl) ?_
  refine lv_bipush (v := 8) hx hb dX12_feed_42 (by decide) ?_
  refine lv_icmp_ge (tgt := 51) hx hb dX12_feed_44 (by decide) (fun _ => ?_) (fun c75 => absurd (by decide) c75)
  refine lv_iload hx hb dX12_feed_51 (lv_at hl 0 rfl) ?_
  refine lv_bipush (v := 12) hx hb dX12_feed_53 (by decide) ?_
  refine lv_icmp_ge (tgt := 62) hx hb dX12_feed_55 (by decide) (fun _ => ?_) (fun c76 => absurd (by decide) c76)
  refine lv_iload hx hb dX12_feed_62 (lv_at hl 0 rfl) ?_
  refine lv_bipush (v := 16) hx hb dX12_feed_64 (by decide) ?_
  refine lv_icmp_ge (tgt := 74) hx hb dX12_feed_66 (by decide) (fun _ => ?_) (fun c77 => absurd (by decide) c77)
  refine lv_iload hx hb dX12_feed_74 (lv_at hl 7 rfl) ?_
  refine lv_istore (lv' := [(7, .int v5), (6, .int 19), (0, .ref o), (1, .int v1), (2, .int v2), (3, .int v3), (4, .int v4), (5, .int v5)]) hx hb dX12_feed_76 hl (by decide) rfl (fun ls hl => ?_)
  refine lv_aload_n hx hb dX12_feed_78 rfl (lv_at hl 2 rfl) ?_
  refine va_get (D := g.1) (ci := 10) (v := .ref (a 4)) (C := RX12) (T := TX12) (N := 20) hx hb hts izRX12 hown hK hP 0 rfl rfl 7 (by decide) (hts _ k819) (fun _ h9 => h9) rfl dX12_feed_79 ?_
  refine lv_aload_n hx hb dX12_feed_82 rfl (lv_at hl 2 rfl) ?_
  refine va_get (D := g.1) (ci := 10) (v := .int 19) (C := RX12) (T := TX12) (N := 20) hx hb hts izRX12 hown hK hP 0 rfl rfl 8 (by decide) (hts _ k864) (fun _ h9 => h9) rfl dX12_feed_83 ?_
  refine lv_iload hx hb dX12_feed_86 (lv_at hl 0 rfl) ?_
  refine lv_bipush (v := 24) hx hb dX12_feed_88 (by decide) ?_
  refine lv_bipush (v := 8) hx hb dX12_feed_90 (by decide) ?_
  refine lv_iload hx hb dX12_feed_92 (lv_at hl 1 rfl) ?_
  refine lv_iconst (v := 4) hx hb dX12_feed_94 (by decide) ?_
  refine lv_irem hx hb dX12_feed_95 (by decide) ?_
  refine ztop (r := 3) (by decide) ?_
  refine lv_imul hx hb dX12_feed_96 ?_
  refine ztop (r := 24) (by decide) ?_
  refine lv_isub hx hb dX12_feed_97 ?_
  refine ztop (r := 0) (by decide) ?_
  refine lv_iushr (v := ((v5 : Int32).toUInt32 >>> ((0 : Int32).toUInt32 &&& Int32.toUInt32 31)).toInt32) hx hb dX12_feed_98 rfl ?_
  refine lv_sipush (v := 255) hx hb dX12_feed_99 (by decide) ?_
  refine lv_iand hx hb dX12_feed_102 ?_
  refine va_iast hx hb hK hP hD hS 5 0 rfl rfl (zin rfl) dX12_feed_103 (fun H locs hP hD hS => ?_)
  have hP : va_P g.1 vwCl (List.flatten [[(o, .inr (10, [.int 0, .ref (a 0), .ref (a 1), .int hi, .ref (a 2), .ref (a 3), .int ac, .ref (a 4), .int 19, .int ba, .int en, .int tA, .int fl, .int de, .ref (a 5), .int iD, .int iO, .int tU, .ref (a 6), .ref (a 7)]))], [(a 0, .inl (g.2 0, 779, .inl (f 0))), (a 1, .inl (g.2 0, 779, .inl (f 1))), (a 2, .inl (g.2 0, 379, .inl (f 2))), (a 3, .inl (g.2 0, 4548, .inl (f 3))), (a 4, .inl (g.2 0, 400, .inl (upd (upd (upd (upd (upd (upd (upd (upd (upd (upd (upd (upd (upd (upd (upd (upd (upd (upd (upd (upd (f 4) 0 ((((v1 : Int32).toUInt32 >>> ((24 : Int32).toUInt32 &&& Int32.toUInt32 31)).toInt32) &&& 255)) 1 ((((v1 : Int32).toUInt32 >>> ((16 : Int32).toUInt32 &&& Int32.toUInt32 31)).toInt32) &&& 255)) 2 ((((v1 : Int32).toUInt32 >>> ((8 : Int32).toUInt32 &&& Int32.toUInt32 31)).toInt32) &&& 255)) 3 ((((v1 : Int32).toUInt32 >>> ((0 : Int32).toUInt32 &&& Int32.toUInt32 31)).toInt32) &&& 255)) 4 ((((v2 : Int32).toUInt32 >>> ((24 : Int32).toUInt32 &&& Int32.toUInt32 31)).toInt32) &&& 255)) 5 ((((v2 : Int32).toUInt32 >>> ((16 : Int32).toUInt32 &&& Int32.toUInt32 31)).toInt32) &&& 255)) 6 ((((v2 : Int32).toUInt32 >>> ((8 : Int32).toUInt32 &&& Int32.toUInt32 31)).toInt32) &&& 255)) 7 ((((v2 : Int32).toUInt32 >>> ((0 : Int32).toUInt32 &&& Int32.toUInt32 31)).toInt32) &&& 255)) 8 ((((v3 : Int32).toUInt32 >>> ((24 : Int32).toUInt32 &&& Int32.toUInt32 31)).toInt32) &&& 255)) 9 ((((v3 : Int32).toUInt32 >>> ((16 : Int32).toUInt32 &&& Int32.toUInt32 31)).toInt32) &&& 255)) 10 ((((v3 : Int32).toUInt32 >>> ((8 : Int32).toUInt32 &&& Int32.toUInt32 31)).toInt32) &&& 255)) 11 ((((v3 : Int32).toUInt32 >>> ((0 : Int32).toUInt32 &&& Int32.toUInt32 31)).toInt32) &&& 255)) 12 ((((v4 : Int32).toUInt32 >>> ((24 : Int32).toUInt32 &&& Int32.toUInt32 31)).toInt32) &&& 255)) 13 ((((v4 : Int32).toUInt32 >>> ((16 : Int32).toUInt32 &&& Int32.toUInt32 31)).toInt32) &&& 255)) 14 ((((v4 : Int32).toUInt32 >>> ((8 : Int32).toUInt32 &&& Int32.toUInt32 31)).toInt32) &&& 255)) 15 ((((v4 : Int32).toUInt32 >>> ((0 : Int32).toUInt32 &&& Int32.toUInt32 31)).toInt32) &&& 255)) 16 ((((v5 : Int32).toUInt32 >>> ((24 : Int32).toUInt32 &&& Int32.toUInt32 31)).toInt32) &&& 255)) 17 ((((v5 : Int32).toUInt32 >>> ((16 : Int32).toUInt32 &&& Int32.toUInt32 31)).toInt32) &&& 255)) 18 ((((v5 : Int32).toUInt32 >>> ((8 : Int32).toUInt32 &&& Int32.toUInt32 31)).toInt32) &&& 255)) 19 ((((v5 : Int32).toUInt32 >>> ((0 : Int32).toUInt32 &&& Int32.toUInt32 31)).toInt32) &&& 255)))), (a 5, .inl (g.2 0, 6, .inl (f 5))), (a 6, .inl (g.2 0, 8, .inl (f 6))), (a 7, .inl (g.2 1, 256, .inl (f 7)))]]) H := hP
  have hD : va_D A (List.flatten [[(o, .inr (10, [.int 0, .ref (a 0), .ref (a 1), .int hi, .ref (a 2), .ref (a 3), .int ac, .ref (a 4), .int 19, .int ba, .int en, .int tA, .int fl, .int de, .ref (a 5), .int iD, .int iO, .int tU, .ref (a 6), .ref (a 7)]))], [(a 0, .inl (g.2 0, 779, .inl (f 0))), (a 1, .inl (g.2 0, 779, .inl (f 1))), (a 2, .inl (g.2 0, 379, .inl (f 2))), (a 3, .inl (g.2 0, 4548, .inl (f 3))), (a 4, .inl (g.2 0, 400, .inl (upd (upd (upd (upd (upd (upd (upd (upd (upd (upd (upd (upd (upd (upd (upd (upd (upd (upd (upd (upd (f 4) 0 ((((v1 : Int32).toUInt32 >>> ((24 : Int32).toUInt32 &&& Int32.toUInt32 31)).toInt32) &&& 255)) 1 ((((v1 : Int32).toUInt32 >>> ((16 : Int32).toUInt32 &&& Int32.toUInt32 31)).toInt32) &&& 255)) 2 ((((v1 : Int32).toUInt32 >>> ((8 : Int32).toUInt32 &&& Int32.toUInt32 31)).toInt32) &&& 255)) 3 ((((v1 : Int32).toUInt32 >>> ((0 : Int32).toUInt32 &&& Int32.toUInt32 31)).toInt32) &&& 255)) 4 ((((v2 : Int32).toUInt32 >>> ((24 : Int32).toUInt32 &&& Int32.toUInt32 31)).toInt32) &&& 255)) 5 ((((v2 : Int32).toUInt32 >>> ((16 : Int32).toUInt32 &&& Int32.toUInt32 31)).toInt32) &&& 255)) 6 ((((v2 : Int32).toUInt32 >>> ((8 : Int32).toUInt32 &&& Int32.toUInt32 31)).toInt32) &&& 255)) 7 ((((v2 : Int32).toUInt32 >>> ((0 : Int32).toUInt32 &&& Int32.toUInt32 31)).toInt32) &&& 255)) 8 ((((v3 : Int32).toUInt32 >>> ((24 : Int32).toUInt32 &&& Int32.toUInt32 31)).toInt32) &&& 255)) 9 ((((v3 : Int32).toUInt32 >>> ((16 : Int32).toUInt32 &&& Int32.toUInt32 31)).toInt32) &&& 255)) 10 ((((v3 : Int32).toUInt32 >>> ((8 : Int32).toUInt32 &&& Int32.toUInt32 31)).toInt32) &&& 255)) 11 ((((v3 : Int32).toUInt32 >>> ((0 : Int32).toUInt32 &&& Int32.toUInt32 31)).toInt32) &&& 255)) 12 ((((v4 : Int32).toUInt32 >>> ((24 : Int32).toUInt32 &&& Int32.toUInt32 31)).toInt32) &&& 255)) 13 ((((v4 : Int32).toUInt32 >>> ((16 : Int32).toUInt32 &&& Int32.toUInt32 31)).toInt32) &&& 255)) 14 ((((v4 : Int32).toUInt32 >>> ((8 : Int32).toUInt32 &&& Int32.toUInt32 31)).toInt32) &&& 255)) 15 ((((v4 : Int32).toUInt32 >>> ((0 : Int32).toUInt32 &&& Int32.toUInt32 31)).toInt32) &&& 255)) 16 ((((v5 : Int32).toUInt32 >>> ((24 : Int32).toUInt32 &&& Int32.toUInt32 31)).toInt32) &&& 255)) 17 ((((v5 : Int32).toUInt32 >>> ((16 : Int32).toUInt32 &&& Int32.toUInt32 31)).toInt32) &&& 255)) 18 ((((v5 : Int32).toUInt32 >>> ((8 : Int32).toUInt32 &&& Int32.toUInt32 31)).toInt32) &&& 255)) 19 ((((v5 : Int32).toUInt32 >>> ((0 : Int32).toUInt32 &&& Int32.toUInt32 31)).toInt32) &&& 255)))), (a 5, .inl (g.2 0, 6, .inl (f 5))), (a 6, .inl (g.2 0, 8, .inl (f 6))), (a 7, .inl (g.2 1, 256, .inl (f 7)))]]) := hD
  refine lv_aload_n hx hb dX12_feed_104 rfl (lv_at hl 2 rfl) ?_
  refine lv_dup hx hb dX12_feed_105 rfl ?_
  refine va_get (D := g.1) (ci := 10) (v := .int 19) (C := RX12) (T := TX12) (N := 20) hx hb hts izRX12 hown hK hP 0 rfl rfl 8 (by decide) (hts _ k864) (fun _ h9 => h9) rfl dX12_feed_106 ?_
  refine lv_iconst (v := 1) hx hb dX12_feed_109 (by decide) ?_
  refine lv_iadd hx hb dX12_feed_110 ?_
  refine ztop (r := 20) (by decide) ?_
  refine va_put (D := g.1) (ci := 10) (v := .int 20) (ty := .int) (C := RX12) (T := TX12) (N := 20) hx hb hts izRX12 tyX12 tyX12_ok nmX12 hown hK hP hD hS 0 rfl rfl 8 (by decide) (hts _ k864) (fun _ h9 => h9) rfl (by decide +kernel) rfl rfl (Nat.le_of_ble_eq_true rfl) dX12_feed_111 (fun H locs hP hD hS => ?_)
  have hP : va_P g.1 vwCl (List.flatten [[(o, .inr (10, [.int 0, .ref (a 0), .ref (a 1), .int hi, .ref (a 2), .ref (a 3), .int ac, .ref (a 4), .int 20, .int ba, .int en, .int tA, .int fl, .int de, .ref (a 5), .int iD, .int iO, .int tU, .ref (a 6), .ref (a 7)]))], [(a 0, .inl (g.2 0, 779, .inl (f 0))), (a 1, .inl (g.2 0, 779, .inl (f 1))), (a 2, .inl (g.2 0, 379, .inl (f 2))), (a 3, .inl (g.2 0, 4548, .inl (f 3))), (a 4, .inl (g.2 0, 400, .inl (upd (upd (upd (upd (upd (upd (upd (upd (upd (upd (upd (upd (upd (upd (upd (upd (upd (upd (upd (upd (f 4) 0 ((((v1 : Int32).toUInt32 >>> ((24 : Int32).toUInt32 &&& Int32.toUInt32 31)).toInt32) &&& 255)) 1 ((((v1 : Int32).toUInt32 >>> ((16 : Int32).toUInt32 &&& Int32.toUInt32 31)).toInt32) &&& 255)) 2 ((((v1 : Int32).toUInt32 >>> ((8 : Int32).toUInt32 &&& Int32.toUInt32 31)).toInt32) &&& 255)) 3 ((((v1 : Int32).toUInt32 >>> ((0 : Int32).toUInt32 &&& Int32.toUInt32 31)).toInt32) &&& 255)) 4 ((((v2 : Int32).toUInt32 >>> ((24 : Int32).toUInt32 &&& Int32.toUInt32 31)).toInt32) &&& 255)) 5 ((((v2 : Int32).toUInt32 >>> ((16 : Int32).toUInt32 &&& Int32.toUInt32 31)).toInt32) &&& 255)) 6 ((((v2 : Int32).toUInt32 >>> ((8 : Int32).toUInt32 &&& Int32.toUInt32 31)).toInt32) &&& 255)) 7 ((((v2 : Int32).toUInt32 >>> ((0 : Int32).toUInt32 &&& Int32.toUInt32 31)).toInt32) &&& 255)) 8 ((((v3 : Int32).toUInt32 >>> ((24 : Int32).toUInt32 &&& Int32.toUInt32 31)).toInt32) &&& 255)) 9 ((((v3 : Int32).toUInt32 >>> ((16 : Int32).toUInt32 &&& Int32.toUInt32 31)).toInt32) &&& 255)) 10 ((((v3 : Int32).toUInt32 >>> ((8 : Int32).toUInt32 &&& Int32.toUInt32 31)).toInt32) &&& 255)) 11 ((((v3 : Int32).toUInt32 >>> ((0 : Int32).toUInt32 &&& Int32.toUInt32 31)).toInt32) &&& 255)) 12 ((((v4 : Int32).toUInt32 >>> ((24 : Int32).toUInt32 &&& Int32.toUInt32 31)).toInt32) &&& 255)) 13 ((((v4 : Int32).toUInt32 >>> ((16 : Int32).toUInt32 &&& Int32.toUInt32 31)).toInt32) &&& 255)) 14 ((((v4 : Int32).toUInt32 >>> ((8 : Int32).toUInt32 &&& Int32.toUInt32 31)).toInt32) &&& 255)) 15 ((((v4 : Int32).toUInt32 >>> ((0 : Int32).toUInt32 &&& Int32.toUInt32 31)).toInt32) &&& 255)) 16 ((((v5 : Int32).toUInt32 >>> ((24 : Int32).toUInt32 &&& Int32.toUInt32 31)).toInt32) &&& 255)) 17 ((((v5 : Int32).toUInt32 >>> ((16 : Int32).toUInt32 &&& Int32.toUInt32 31)).toInt32) &&& 255)) 18 ((((v5 : Int32).toUInt32 >>> ((8 : Int32).toUInt32 &&& Int32.toUInt32 31)).toInt32) &&& 255)) 19 ((((v5 : Int32).toUInt32 >>> ((0 : Int32).toUInt32 &&& Int32.toUInt32 31)).toInt32) &&& 255)))), (a 5, .inl (g.2 0, 6, .inl (f 5))), (a 6, .inl (g.2 0, 8, .inl (f 6))), (a 7, .inl (g.2 1, 256, .inl (f 7)))]]) H := hP
  have hD : va_D A (List.flatten [[(o, .inr (10, [.int 0, .ref (a 0), .ref (a 1), .int hi, .ref (a 2), .ref (a 3), .int ac, .ref (a 4), .int 20, .int ba, .int en, .int tA, .int fl, .int de, .ref (a 5), .int iD, .int iO, .int tU, .ref (a 6), .ref (a 7)]))], [(a 0, .inl (g.2 0, 779, .inl (f 0))), (a 1, .inl (g.2 0, 779, .inl (f 1))), (a 2, .inl (g.2 0, 379, .inl (f 2))), (a 3, .inl (g.2 0, 4548, .inl (f 3))), (a 4, .inl (g.2 0, 400, .inl (upd (upd (upd (upd (upd (upd (upd (upd (upd (upd (upd (upd (upd (upd (upd (upd (upd (upd (upd (upd (f 4) 0 ((((v1 : Int32).toUInt32 >>> ((24 : Int32).toUInt32 &&& Int32.toUInt32 31)).toInt32) &&& 255)) 1 ((((v1 : Int32).toUInt32 >>> ((16 : Int32).toUInt32 &&& Int32.toUInt32 31)).toInt32) &&& 255)) 2 ((((v1 : Int32).toUInt32 >>> ((8 : Int32).toUInt32 &&& Int32.toUInt32 31)).toInt32) &&& 255)) 3 ((((v1 : Int32).toUInt32 >>> ((0 : Int32).toUInt32 &&& Int32.toUInt32 31)).toInt32) &&& 255)) 4 ((((v2 : Int32).toUInt32 >>> ((24 : Int32).toUInt32 &&& Int32.toUInt32 31)).toInt32) &&& 255)) 5 ((((v2 : Int32).toUInt32 >>> ((16 : Int32).toUInt32 &&& Int32.toUInt32 31)).toInt32) &&& 255)) 6 ((((v2 : Int32).toUInt32 >>> ((8 : Int32).toUInt32 &&& Int32.toUInt32 31)).toInt32) &&& 255)) 7 ((((v2 : Int32).toUInt32 >>> ((0 : Int32).toUInt32 &&& Int32.toUInt32 31)).toInt32) &&& 255)) 8 ((((v3 : Int32).toUInt32 >>> ((24 : Int32).toUInt32 &&& Int32.toUInt32 31)).toInt32) &&& 255)) 9 ((((v3 : Int32).toUInt32 >>> ((16 : Int32).toUInt32 &&& Int32.toUInt32 31)).toInt32) &&& 255)) 10 ((((v3 : Int32).toUInt32 >>> ((8 : Int32).toUInt32 &&& Int32.toUInt32 31)).toInt32) &&& 255)) 11 ((((v3 : Int32).toUInt32 >>> ((0 : Int32).toUInt32 &&& Int32.toUInt32 31)).toInt32) &&& 255)) 12 ((((v4 : Int32).toUInt32 >>> ((24 : Int32).toUInt32 &&& Int32.toUInt32 31)).toInt32) &&& 255)) 13 ((((v4 : Int32).toUInt32 >>> ((16 : Int32).toUInt32 &&& Int32.toUInt32 31)).toInt32) &&& 255)) 14 ((((v4 : Int32).toUInt32 >>> ((8 : Int32).toUInt32 &&& Int32.toUInt32 31)).toInt32) &&& 255)) 15 ((((v4 : Int32).toUInt32 >>> ((0 : Int32).toUInt32 &&& Int32.toUInt32 31)).toInt32) &&& 255)) 16 ((((v5 : Int32).toUInt32 >>> ((24 : Int32).toUInt32 &&& Int32.toUInt32 31)).toInt32) &&& 255)) 17 ((((v5 : Int32).toUInt32 >>> ((16 : Int32).toUInt32 &&& Int32.toUInt32 31)).toInt32) &&& 255)) 18 ((((v5 : Int32).toUInt32 >>> ((8 : Int32).toUInt32 &&& Int32.toUInt32 31)).toInt32) &&& 255)) 19 ((((v5 : Int32).toUInt32 >>> ((0 : Int32).toUInt32 &&& Int32.toUInt32 31)).toInt32) &&& 255)))), (a 5, .inl (g.2 0, 6, .inl (f 5))), (a 6, .inl (g.2 0, 8, .inl (f 6))), (a 7, .inl (g.2 1, 256, .inl (f 7)))]]) := hD
  refine lv_iinc (v := 20) (lv' := [(6, .int 20), (7, .int v5), (0, .ref o), (1, .int v1), (2, .int v2), (3, .int v3), (4, .int v4), (5, .int v5)]) hx hb dX12_feed_114 hl (k := 1) rfl (by decide) (by decide) rfl (fun ls hl => ?_)
  refine lv_goto (tgt := 23) hx hb dX12_feed_117 (by decide) ?_
  refine lv_iload hx hb dX12_feed_23 (lv_at hl 0 rfl) ?_
  refine lv_bipush (v := 20) hx hb dX12_feed_25 (by decide) ?_
  refine lv_icmp_ge (tgt := 120) hx hb dX12_feed_27 (by decide) (fun _ => ?_) (fun c78 => absurd (by decide) c78)
  refine lv_aload_n hx hb dX12_feed_120 rfl (lv_at hl 2 rfl) ?_
  refine va_get (D := g.1) (ci := 10) (v := .int 20) (C := RX12) (T := TX12) (N := 20) hx hb hts izRX12 hown hK hP 0 rfl rfl 8 (by decide) (hts _ k864) (fun _ h9 => h9) rfl dX12_feed_121 ?_
  have hP : va_P g.1 vwCl (List.flatten [bObj g o a 0 hi ac 20 ba en tA fl de iD iO tU, [(a 0, .inl (g.2 0, 779, .inl (f 0))), (a 1, .inl (g.2 0, 779, .inl (f 1))), (a 2, .inl (g.2 0, 379, .inl (f 2))), (a 3, .inl (g.2 0, 4548, .inl (f 3))), (a 4, .inl (g.2 0, 400, .inl (upd (upd (upd (upd (upd (upd (upd (upd (upd (upd (upd (upd (upd (upd (upd (upd (upd (upd (upd (upd (f 4) 0 ((((v1 : Int32).toUInt32 >>> ((24 : Int32).toUInt32 &&& Int32.toUInt32 31)).toInt32) &&& 255)) 1 ((((v1 : Int32).toUInt32 >>> ((16 : Int32).toUInt32 &&& Int32.toUInt32 31)).toInt32) &&& 255)) 2 ((((v1 : Int32).toUInt32 >>> ((8 : Int32).toUInt32 &&& Int32.toUInt32 31)).toInt32) &&& 255)) 3 ((((v1 : Int32).toUInt32 >>> ((0 : Int32).toUInt32 &&& Int32.toUInt32 31)).toInt32) &&& 255)) 4 ((((v2 : Int32).toUInt32 >>> ((24 : Int32).toUInt32 &&& Int32.toUInt32 31)).toInt32) &&& 255)) 5 ((((v2 : Int32).toUInt32 >>> ((16 : Int32).toUInt32 &&& Int32.toUInt32 31)).toInt32) &&& 255)) 6 ((((v2 : Int32).toUInt32 >>> ((8 : Int32).toUInt32 &&& Int32.toUInt32 31)).toInt32) &&& 255)) 7 ((((v2 : Int32).toUInt32 >>> ((0 : Int32).toUInt32 &&& Int32.toUInt32 31)).toInt32) &&& 255)) 8 ((((v3 : Int32).toUInt32 >>> ((24 : Int32).toUInt32 &&& Int32.toUInt32 31)).toInt32) &&& 255)) 9 ((((v3 : Int32).toUInt32 >>> ((16 : Int32).toUInt32 &&& Int32.toUInt32 31)).toInt32) &&& 255)) 10 ((((v3 : Int32).toUInt32 >>> ((8 : Int32).toUInt32 &&& Int32.toUInt32 31)).toInt32) &&& 255)) 11 ((((v3 : Int32).toUInt32 >>> ((0 : Int32).toUInt32 &&& Int32.toUInt32 31)).toInt32) &&& 255)) 12 ((((v4 : Int32).toUInt32 >>> ((24 : Int32).toUInt32 &&& Int32.toUInt32 31)).toInt32) &&& 255)) 13 ((((v4 : Int32).toUInt32 >>> ((16 : Int32).toUInt32 &&& Int32.toUInt32 31)).toInt32) &&& 255)) 14 ((((v4 : Int32).toUInt32 >>> ((8 : Int32).toUInt32 &&& Int32.toUInt32 31)).toInt32) &&& 255)) 15 ((((v4 : Int32).toUInt32 >>> ((0 : Int32).toUInt32 &&& Int32.toUInt32 31)).toInt32) &&& 255)) 16 ((((v5 : Int32).toUInt32 >>> ((24 : Int32).toUInt32 &&& Int32.toUInt32 31)).toInt32) &&& 255)) 17 ((((v5 : Int32).toUInt32 >>> ((16 : Int32).toUInt32 &&& Int32.toUInt32 31)).toInt32) &&& 255)) 18 ((((v5 : Int32).toUInt32 >>> ((8 : Int32).toUInt32 &&& Int32.toUInt32 31)).toInt32) &&& 255)) 19 ((((v5 : Int32).toUInt32 >>> ((0 : Int32).toUInt32 &&& Int32.toUInt32 31)).toInt32) &&& 255)))), (a 5, .inl (g.2 0, 6, .inl (f 5))), (a 6, .inl (g.2 0, 8, .inl (f 6))), (a 7, .inl (g.2 1, 256, .inl (f 7)))]]) H := hP
  have hD : va_D A (List.flatten [bObj g o a 0 hi ac 20 ba en tA fl de iD iO tU, [(a 0, .inl (g.2 0, 779, .inl (f 0))), (a 1, .inl (g.2 0, 779, .inl (f 1))), (a 2, .inl (g.2 0, 379, .inl (f 2))), (a 3, .inl (g.2 0, 4548, .inl (f 3))), (a 4, .inl (g.2 0, 400, .inl (upd (upd (upd (upd (upd (upd (upd (upd (upd (upd (upd (upd (upd (upd (upd (upd (upd (upd (upd (upd (f 4) 0 ((((v1 : Int32).toUInt32 >>> ((24 : Int32).toUInt32 &&& Int32.toUInt32 31)).toInt32) &&& 255)) 1 ((((v1 : Int32).toUInt32 >>> ((16 : Int32).toUInt32 &&& Int32.toUInt32 31)).toInt32) &&& 255)) 2 ((((v1 : Int32).toUInt32 >>> ((8 : Int32).toUInt32 &&& Int32.toUInt32 31)).toInt32) &&& 255)) 3 ((((v1 : Int32).toUInt32 >>> ((0 : Int32).toUInt32 &&& Int32.toUInt32 31)).toInt32) &&& 255)) 4 ((((v2 : Int32).toUInt32 >>> ((24 : Int32).toUInt32 &&& Int32.toUInt32 31)).toInt32) &&& 255)) 5 ((((v2 : Int32).toUInt32 >>> ((16 : Int32).toUInt32 &&& Int32.toUInt32 31)).toInt32) &&& 255)) 6 ((((v2 : Int32).toUInt32 >>> ((8 : Int32).toUInt32 &&& Int32.toUInt32 31)).toInt32) &&& 255)) 7 ((((v2 : Int32).toUInt32 >>> ((0 : Int32).toUInt32 &&& Int32.toUInt32 31)).toInt32) &&& 255)) 8 ((((v3 : Int32).toUInt32 >>> ((24 : Int32).toUInt32 &&& Int32.toUInt32 31)).toInt32) &&& 255)) 9 ((((v3 : Int32).toUInt32 >>> ((16 : Int32).toUInt32 &&& Int32.toUInt32 31)).toInt32) &&& 255)) 10 ((((v3 : Int32).toUInt32 >>> ((8 : Int32).toUInt32 &&& Int32.toUInt32 31)).toInt32) &&& 255)) 11 ((((v3 : Int32).toUInt32 >>> ((0 : Int32).toUInt32 &&& Int32.toUInt32 31)).toInt32) &&& 255)) 12 ((((v4 : Int32).toUInt32 >>> ((24 : Int32).toUInt32 &&& Int32.toUInt32 31)).toInt32) &&& 255)) 13 ((((v4 : Int32).toUInt32 >>> ((16 : Int32).toUInt32 &&& Int32.toUInt32 31)).toInt32) &&& 255)) 14 ((((v4 : Int32).toUInt32 >>> ((8 : Int32).toUInt32 &&& Int32.toUInt32 31)).toInt32) &&& 255)) 15 ((((v4 : Int32).toUInt32 >>> ((0 : Int32).toUInt32 &&& Int32.toUInt32 31)).toInt32) &&& 255)) 16 ((((v5 : Int32).toUInt32 >>> ((24 : Int32).toUInt32 &&& Int32.toUInt32 31)).toInt32) &&& 255)) 17 ((((v5 : Int32).toUInt32 >>> ((16 : Int32).toUInt32 &&& Int32.toUInt32 31)).toInt32) &&& 255)) 18 ((((v5 : Int32).toUInt32 >>> ((8 : Int32).toUInt32 &&& Int32.toUInt32 31)).toInt32) &&& 255)) 19 ((((v5 : Int32).toUInt32 >>> ((0 : Int32).toUInt32 &&& Int32.toUInt32 31)).toInt32) &&& 255)))), (a 5, .inl (g.2 0, 6, .inl (f 5))), (a 6, .inl (g.2 0, 8, .inl (f 6))), (a 7, .inl (g.2 1, 256, .inl (f 7)))]]) := hD
  obtain ⟨hP, hD⟩ := zord (g := g) (Bs' := [bObj g o a 0 hi ac 20 ba en tA fl de iD iO tU]) [0] rfl rfl hP hD
  exact mret_i hx hb hr hlocks hS (Nat.le_of_ble_eq_true rfl) (Nat.le_of_ble_eq_true rfl) dX12_feed_124 (0, hi, ac, 20, ba, en, tA, fl, de, iD, iO, tU, 20) rfl (⟨rfl, rfl⟩) hP hD
set_option maxRecDepth 100000 in
set_option maxHeartbeats 4000000 in
theorem m_end (l : Launch) (g : zG) (o : Nat) (a : Nat → Nat) (th : Int32) (hi : Int32) (ac : Int32) (ba : Int32) (en : Int32) (tA : Int32) (fl : Int32) (de : Int32) (iD : Int32) (iO : Int32) (tU : Int32) (f : Nat → Nat → Int32) (n : Int32) (hm : zMo (f 0)) : zM g l yX12_end (Cond.code yX12_end cX12_end 2 (some .boolean) :: zB) ({ frames := 1, cells := 0, slots := 0, locals := 22 } : Room) [.ref o, .int n] [bObj g o a th hi ac 0 ba en tA fl de iD iO tU, bArr g a f] (fun u : Int32 × Int32 × Int32 × Int32 × Int32 × Int32 × Int32 × Int32 × Int32 × Int32 × Int32 × Int32 × Int32 => (fun (th2 : Int32) (hi2 : Int32) (ac2 : Int32) (tp2 : Int32) (ba2 : Int32) (en2 : Int32) (tA2 : Int32) (fl2 : Int32) (de2 : Int32) (iD2 : Int32) (iO2 : Int32) (tU2 : Int32) (q : Int32) => some (.int q)) (u.1) (u.2.1) (u.2.2.1) (u.2.2.2.1) (u.2.2.2.2.1) (u.2.2.2.2.2.1) (u.2.2.2.2.2.2.1) (u.2.2.2.2.2.2.2.1) (u.2.2.2.2.2.2.2.2.1) (u.2.2.2.2.2.2.2.2.2.1) (u.2.2.2.2.2.2.2.2.2.2.1) (u.2.2.2.2.2.2.2.2.2.2.2.1) (u.2.2.2.2.2.2.2.2.2.2.2.2)) (fun u : Int32 × Int32 × Int32 × Int32 × Int32 × Int32 × Int32 × Int32 × Int32 × Int32 × Int32 × Int32 × Int32 => (fun (th2 : Int32) (hi2 : Int32) (ac2 : Int32) (tp2 : Int32) (ba2 : Int32) (en2 : Int32) (tA2 : Int32) (fl2 : Int32) (de2 : Int32) (iD2 : Int32) (iO2 : Int32) (tU2 : Int32) (q : Int32) => th2 = 0 ∧ q = if n < 0 ∨ 0 < n then 0 else 1) (u.1) (u.2.1) (u.2.2.1) (u.2.2.2.1) (u.2.2.2.2.1) (u.2.2.2.2.2.1) (u.2.2.2.2.2.2.1) (u.2.2.2.2.2.2.2.1) (u.2.2.2.2.2.2.2.2.1) (u.2.2.2.2.2.2.2.2.2.1) (u.2.2.2.2.2.2.2.2.2.2.1) (u.2.2.2.2.2.2.2.2.2.2.2.1) (u.2.2.2.2.2.2.2.2.2.2.2.2)) (fun u : Int32 × Int32 × Int32 × Int32 × Int32 × Int32 × Int32 × Int32 × Int32 × Int32 × Int32 × Int32 × Int32 => (fun (th2 : Int32) (hi2 : Int32) (ac2 : Int32) (tp2 : Int32) (ba2 : Int32) (en2 : Int32) (tA2 : Int32) (fl2 : Int32) (de2 : Int32) (iD2 : Int32) (iO2 : Int32) (tU2 : Int32) (q : Int32) => [bObj g o a th2 hi2 ac2 tp2 ba2 en2 tA2 fl2 de2 iD2 iO2 tU2]) (u.1) (u.2.1) (u.2.2.1) (u.2.2.2.1) (u.2.2.2.2.1) (u.2.2.2.2.2.1) (u.2.2.2.2.2.2.1) (u.2.2.2.2.2.2.2.1) (u.2.2.2.2.2.2.2.2.1) (u.2.2.2.2.2.2.2.2.2.1) (u.2.2.2.2.2.2.2.2.2.2.1) (u.2.2.2.2.2.2.2.2.2.2.2.1) (u.2.2.2.2.2.2.2.2.2.2.2.2)) := by
  refine zM.of (cc := cX12_end) (maxL := 2) (rt := (some .boolean)) (by decide) rfl (Nat.le_of_ble_eq_true rfl) ?_
  intro p e s m args below meth c A ls St hr hlocks hin hK hT hA hP hD hS hl
  obtain ⟨hx, hb, hml, hown, hts⟩ := id St
  have hl : lv_has ls 2 [(0, .ref o), (1, .int n)] := hl
  refine lv_aload_n hx hb dX12_end_0 rfl (lv_at hl 0 rfl) ?_
  refine lv_iconst (v := 0) hx hb dX12_end_1 (by decide) ?_
  refine va_put (D := g.1) (ci := 10) (v := .int 0) (ty := .int) (C := RX12) (T := TX12) (N := 20) hx hb hts izRX12 tyX12 tyX12_ok nmX12 hown hK hP hD hS 0 rfl rfl 0 (by decide) (hts _ k825) (fun _ h9 => h9) rfl (by decide +kernel) rfl rfl (Nat.le_of_ble_eq_true rfl) dX12_end_2 (fun H locs hP hD hS => ?_)
  have hP : va_P g.1 vwCl (List.flatten [[(o, .inr (10, [.int 0, .ref (a 0), .ref (a 1), .int hi, .ref (a 2), .ref (a 3), .int ac, .ref (a 4), .int 0, .int ba, .int en, .int tA, .int fl, .int de, .ref (a 5), .int iD, .int iO, .int tU, .ref (a 6), .ref (a 7)]))], bArr g a f]) H := hP
  have hD : va_D A (List.flatten [[(o, .inr (10, [.int 0, .ref (a 0), .ref (a 1), .int hi, .ref (a 2), .ref (a 3), .int ac, .ref (a 4), .int 0, .int ba, .int en, .int tA, .int fl, .int de, .ref (a 5), .int iD, .int iO, .int tU, .ref (a 6), .ref (a 7)]))], bArr g a f]) := hD
  refine lv_iload_n hx hb dX12_end_5 rfl (lv_at hl 1 rfl) ?_
  refine lv_iconst (v := 0) hx hb dX12_end_6 (by decide) ?_
  refine lv_aload_n hx hb dX12_end_7 rfl (lv_at hl 0 rfl) ?_
  refine va_get (D := g.1) (ci := 10) (v := .int 0) (C := RX12) (T := TX12) (N := 20) hx hb hts izRX12 hown hK hP 0 rfl rfl 8 (by decide) (hts _ k864) (fun _ h9 => h9) rfl dX12_end_8 ?_
  refine mcallS (g := g) (As := [.int n, .int 0, .int 0]) (rest := []) St hK hT hA hP hD hS hl.1 [] [0, 1] rfl rfl rfl (m_isIn l g n 0 0 ) (va_cwS 3 hts (zgL (zl3 k831 k832 k833) k826) rfl rfl rfl (by decide +kernel) ⟨Nat.le_of_ble_eq_true rfl, Nat.le_of_ble_eq_true rfl⟩) rfl rfl (Nat.le_of_ble_eq_true rfl) dX12_end_11 ⟨(Nat.le_of_ble_eq_true rfl), (Nat.le_of_ble_eq_true rfl)⟩ (fun q_1 H locs hq2 hP hD hS => ?_)
  have hq2 : (q_1 = 1 ∧ ¬ (n : Int32) < 0 ∧ ¬ 0 < (n : Int32)) ∨ (q_1 = 0 ∧ ((n : Int32) < 0 ∨ 0 < (n : Int32))) := hq2
  have hP : va_P g.1 vwCl (List.flatten [[(o, .inr (10, [.int 0, .ref (a 0), .ref (a 1), .int hi, .ref (a 2), .ref (a 3), .int ac, .ref (a 4), .int 0, .int ba, .int en, .int tA, .int fl, .int de, .ref (a 5), .int iD, .int iO, .int tU, .ref (a 6), .ref (a 7)]))], bArr g a f]) H := hP
  have hD : va_D A (List.flatten [[(o, .inr (10, [.int 0, .ref (a 0), .ref (a 1), .int hi, .ref (a 2), .ref (a 3), .int ac, .ref (a 4), .int 0, .int ba, .int en, .int tA, .int fl, .int de, .ref (a 5), .int iD, .int iO, .int tU, .ref (a 6), .ref (a 7)]))], bArr g a f]) := hD
  refine W.widen (k := 0) (n := 0) (Nat.le_of_ble_eq_true rfl) (Nat.le_of_ble_eq_true rfl) ?_
  refine W.eq (g2 := F0 m 14 ls [.int q_1]) rfl ?_
  rcases hq2 with ⟨rfl, hq2c⟩ | ⟨rfl, hq2c⟩
  · skip
    refine lv_if_ne (tgt := 19) hx hb dX12_end_14 (by decide) (fun _ => ?_) (fun c3 => absurd c3 (by decide))
    refine lv_aload_n hx hb dX12_end_19 rfl (lv_at hl 0 rfl) ?_
    refine lv_iload_n hx hb dX12_end_20 rfl (lv_at hl 1 rfl) ?_
    refine va_put (D := g.1) (ci := 10) (v := .int n) (ty := .int) (C := RX12) (T := TX12) (N := 20) hx hb hts izRX12 tyX12 tyX12_ok nmX12 hown hK hP hD hS 0 rfl rfl 8 (by decide) (hts _ k864) (fun _ h9 => h9) rfl (by decide +kernel) rfl rfl (Nat.le_of_ble_eq_true rfl) dX12_end_21 (fun H locs hP hD hS => ?_)
    have hP : va_P g.1 vwCl (List.flatten [[(o, .inr (10, [.int 0, .ref (a 0), .ref (a 1), .int hi, .ref (a 2), .ref (a 3), .int ac, .ref (a 4), .int n, .int ba, .int en, .int tA, .int fl, .int de, .ref (a 5), .int iD, .int iO, .int tU, .ref (a 6), .ref (a 7)]))], bArr g a f]) H := hP
    have hD : va_D A (List.flatten [[(o, .inr (10, [.int 0, .ref (a 0), .ref (a 1), .int hi, .ref (a 2), .ref (a 3), .int ac, .ref (a 4), .int n, .int ba, .int en, .int tA, .int fl, .int de, .ref (a 5), .int iD, .int iO, .int tU, .ref (a 6), .ref (a 7)]))], bArr g a f]) := hD
    refine lv_iconst (v := 1) hx hb dX12_end_24 (by decide) ?_
    have hP : va_P g.1 vwCl (List.flatten [bObj g o a 0 hi ac n ba en tA fl de iD iO tU, bArr g a f]) H := hP
    have hD : va_D A (List.flatten [bObj g o a 0 hi ac n ba en tA fl de iD iO tU, bArr g a f]) := hD
    obtain ⟨hP, hD⟩ := zord (g := g) (Bs' := [bObj g o a 0 hi ac n ba en tA fl de iD iO tU]) [0] rfl rfl hP hD
    exact mret_z hx hb hr hlocks hS (Nat.le_of_ble_eq_true rfl) (Nat.le_of_ble_eq_true rfl) dX12_end_25 (0, hi, ac, n, ba, en, tA, fl, de, iD, iO, tU, 1) rfl (by decide) (⟨rfl, (if_neg (fun h => h.elim hq2c.1 hq2c.2)).symm⟩) hP hD
  · skip
    refine lv_if_ne (tgt := 19) hx hb dX12_end_14 (by decide) (fun c4 => absurd (by decide) c4) (fun _ => ?_)
    refine lv_iconst (v := 0) hx hb dX12_end_17 (by decide) ?_
    have hP : va_P g.1 vwCl (List.flatten [bObj g o a 0 hi ac 0 ba en tA fl de iD iO tU, bArr g a f]) H := hP
    have hD : va_D A (List.flatten [bObj g o a 0 hi ac 0 ba en tA fl de iD iO tU, bArr g a f]) := hD
    obtain ⟨hP, hD⟩ := zord (g := g) (Bs' := [bObj g o a 0 hi ac 0 ba en tA fl de iD iO tU]) [0] rfl rfl hP hD
    exact mret_z hx hb hr hlocks hS (Nat.le_of_ble_eq_true rfl) (Nat.le_of_ble_eq_true rfl) dX12_end_18 (0, hi, ac, 0, ba, en, tA, fl, de, iD, iO, tU, 0) rfl (by decide) (⟨rfl, (if_pos hq2c).symm⟩) hP hD
set_option maxRecDepth 100000 in
set_option maxHeartbeats 4000000 in
theorem m_town (l : Launch) (g : zG) (o : Nat) (a : Nat → Nat) (th : Int32) (hi : Int32) (ac : Int32) (ba : Int32) (en : Int32) (tA : Int32) (fl : Int32) (de : Int32) (iD : Int32) (iO : Int32) (tU : Int32) (f : Nat → Nat → Int32) (hm : zMo (f 0)) : zM g l yX12_town (Cond.code yX12_town cX12_town 2 (some .int) :: zB) ({ frames := 2, cells := 0, slots := 0, locals := 43 } : Room) [.ref o] [bObj g o a th hi ac 0 ba en tA fl de iD iO tU, bArr g a f] (fun u : Int32 × Int32 × Int32 × Int32 × Int32 × Int32 × Int32 × Int32 × Int32 × Int32 × Int32 × Int32 × Int32 => (fun (th2 : Int32) (hi2 : Int32) (ac2 : Int32) (tp2 : Int32) (ba2 : Int32) (en2 : Int32) (tA2 : Int32) (fl2 : Int32) (de2 : Int32) (iD2 : Int32) (iO2 : Int32) (tU2 : Int32) (q : Int32) => some (.int q)) (u.1) (u.2.1) (u.2.2.1) (u.2.2.2.1) (u.2.2.2.2.1) (u.2.2.2.2.2.1) (u.2.2.2.2.2.2.1) (u.2.2.2.2.2.2.2.1) (u.2.2.2.2.2.2.2.2.1) (u.2.2.2.2.2.2.2.2.2.1) (u.2.2.2.2.2.2.2.2.2.2.1) (u.2.2.2.2.2.2.2.2.2.2.2.1) (u.2.2.2.2.2.2.2.2.2.2.2.2)) (fun u : Int32 × Int32 × Int32 × Int32 × Int32 × Int32 × Int32 × Int32 × Int32 × Int32 × Int32 × Int32 × Int32 => (fun (th2 : Int32) (hi2 : Int32) (ac2 : Int32) (tp2 : Int32) (ba2 : Int32) (en2 : Int32) (tA2 : Int32) (fl2 : Int32) (de2 : Int32) (iD2 : Int32) (iO2 : Int32) (tU2 : Int32) (q : Int32) => th2 = 0 ∧ q = 1) (u.1) (u.2.1) (u.2.2.1) (u.2.2.2.1) (u.2.2.2.2.1) (u.2.2.2.2.2.1) (u.2.2.2.2.2.2.1) (u.2.2.2.2.2.2.2.1) (u.2.2.2.2.2.2.2.2.1) (u.2.2.2.2.2.2.2.2.2.1) (u.2.2.2.2.2.2.2.2.2.2.1) (u.2.2.2.2.2.2.2.2.2.2.2.1) (u.2.2.2.2.2.2.2.2.2.2.2.2)) (fun u : Int32 × Int32 × Int32 × Int32 × Int32 × Int32 × Int32 × Int32 × Int32 × Int32 × Int32 × Int32 × Int32 => (fun (th2 : Int32) (hi2 : Int32) (ac2 : Int32) (tp2 : Int32) (ba2 : Int32) (en2 : Int32) (tA2 : Int32) (fl2 : Int32) (de2 : Int32) (iD2 : Int32) (iO2 : Int32) (tU2 : Int32) (q : Int32) => [bObj g o a th2 hi2 ac2 tp2 ba2 en2 tA2 fl2 de2 iD2 iO2 tU2]) (u.1) (u.2.1) (u.2.2.1) (u.2.2.2.1) (u.2.2.2.2.1) (u.2.2.2.2.2.1) (u.2.2.2.2.2.2.1) (u.2.2.2.2.2.2.2.1) (u.2.2.2.2.2.2.2.2.1) (u.2.2.2.2.2.2.2.2.2.1) (u.2.2.2.2.2.2.2.2.2.2.1) (u.2.2.2.2.2.2.2.2.2.2.2.1) (u.2.2.2.2.2.2.2.2.2.2.2.2)) := by
  refine zM.of (cc := cX12_town) (maxL := 2) (rt := (some .int)) (by decide) rfl (Nat.le_of_ble_eq_true rfl) ?_
  intro p e s m args below meth c A ls St hr hlocks hin hK hT hA hP hD hS hl
  obtain ⟨hx, hb, hml, hown, hts⟩ := id St
  have hl : lv_has ls 2 [(0, .ref o)] := hl
  refine lv_aload_n hx hb dX12_town_0 rfl (lv_at hl 0 rfl) ?_
  refine mcallV (g := g) (q0 := 0) (ci := 10) (As := []) (rest := []) St hK hT hA hP hD hS hl.1 [0, 1] [] rfl rfl rfl (m_putsAside l g o a th hi ac 0 ba en tA fl de iD iO tU f ) (cwV 0 hts (zgL (zl4 k968 k969 k970 k833) k965) rfl rfl rfl (by decide +kernel) ⟨Nat.le_of_ble_eq_true rfl, Nat.le_of_ble_eq_true rfl⟩) rfl rfl rfl rfl (Nat.le_of_ble_eq_true rfl) dX12_town_1 ⟨(Nat.le_of_ble_eq_true rfl), (Nat.le_of_ble_eq_true rfl)⟩ (fun s2_1 H locs hq2 hP hD hS => ?_)
  have hq2 : ∀ k, k < 379 → s2_1 k = f 0 k := hq2
  have hP : va_P g.1 vwCl (List.flatten [bObj g o a th hi ac 0 ba en tA fl de iD iO tU, bArr g a (zf [f 0, f 1, s2_1, f 3, f 4, f 5, f 6, f 7])]) H := hP
  have hD : va_D A (List.flatten [bObj g o a th hi ac 0 ba en tA fl de iD iO tU, bArr g a (zf [f 0, f 1, s2_1, f 3, f 4, f 5, f 6, f 7])]) := hD
  refine W.widen (k := 0) (n := 0) (Nat.le_of_ble_eq_true rfl) (Nat.le_of_ble_eq_true rfl) ?_
  refine W.eq (g2 := F0 m 4 ls []) rfl ?_
  refine lv_aload_n hx hb dX12_town_4 rfl (lv_at hl 0 rfl) ?_
  refine mcallV (g := g) (q0 := 0) (ci := 10) (As := []) (rest := []) St hK hT hA hP hD hS hl.1 [0, 1] [] rfl rfl rfl (m_begins0 l g o a th hi ac ba en tA fl de iD iO tU (zf [f 0, f 1, s2_1, f 3, f 4, f 5, f 6, f 7]) ) (cwV 0 hts (zgL (zl4 k971 k972 k973 k833) k874) rfl rfl rfl (by decide +kernel) ⟨Nat.le_of_ble_eq_true rfl, Nat.le_of_ble_eq_true rfl⟩) rfl rfl rfl rfl (Nat.le_of_ble_eq_true rfl) dX12_town_5 ⟨(Nat.le_of_ble_eq_true rfl), (Nat.le_of_ble_eq_true rfl)⟩ (fun _u H locs hq3 hP hD hS => ?_)
  have hP : va_P g.1 vwCl (List.flatten [bObj g o a th hi ac 0 (-1) 0 0 (-1) 0 iD iO tU, bArr g a (zf [f 0, f 1, s2_1, f 3, f 4, f 5, f 6, f 7])]) H := hP
  have hD : va_D A (List.flatten [bObj g o a th hi ac 0 (-1) 0 0 (-1) 0 iD iO tU, bArr g a (zf [f 0, f 1, s2_1, f 3, f 4, f 5, f 6, f 7])]) := hD
  refine W.widen (k := 0) (n := 0) (Nat.le_of_ble_eq_true rfl) (Nat.le_of_ble_eq_true rfl) ?_
  refine W.eq (g2 := F0 m 8 ls []) rfl ?_
  refine lv_aload_n hx hb dX12_town_8 rfl (lv_at hl 0 rfl) ?_
  refine lv_iconst (v := 0) hx hb dX12_town_9 (by decide) ?_
  refine mcallV (g := g) (q0 := 0) (ci := 10) (As := [.int 0]) (rest := []) St hK hT hA hP hD hS hl.1 [0, 1] [] rfl rfl rfl (m_read0 l g o a th hi ac 0 (-1) (-1) 0 iD iO tU (zf [f 0, f 1, s2_1, f 3, f 4, f 5, f 6, f 7]) 0 ) (cwV 1 hts (zgL (zl4 k974 k975 k976 k833) k964) rfl rfl rfl (by decide +kernel) ⟨Nat.le_of_ble_eq_true rfl, Nat.le_of_ble_eq_true rfl⟩) rfl rfl rfl rfl (Nat.le_of_ble_eq_true rfl) dX12_town_10 ⟨(Nat.le_of_ble_eq_true rfl), (Nat.le_of_ble_eq_true rfl)⟩ (fun _u H locs hq4 hP hD hS => ?_)
  have hP : va_P g.1 vwCl (List.flatten [bObj g o a th hi ac 0 (-1) 0 0 (-1) 0 iD iO tU, bArr g a (zf [f 0, f 1, s2_1, f 3, f 4, f 5, f 6, f 7])]) H := hP
  have hD : va_D A (List.flatten [bObj g o a th hi ac 0 (-1) 0 0 (-1) 0 iD iO tU, bArr g a (zf [f 0, f 1, s2_1, f 3, f 4, f 5, f 6, f 7])]) := hD
  refine W.widen (k := 0) (n := 0) (Nat.le_of_ble_eq_true rfl) (Nat.le_of_ble_eq_true rfl) ?_
  refine W.eq (g2 := F0 m 13 ls [.int 0]) rfl ?_
  refine lv_istore_n (lv' := [(1, .int 0), (0, .ref o)]) hx hb dX12_town_13 rfl hl (by decide) rfl (fun ls hl => ?_)
  refine lv_aload_n hx hb dX12_town_14 rfl (lv_at hl 1 rfl) ?_
  refine lv_aload_n hx hb dX12_town_15 rfl (lv_at hl 1 rfl) ?_
  refine va_get (D := g.1) (ci := 10) (v := .int (-1)) (C := RX12) (T := TX12) (N := 20) hx hb hts izRX12 hown hK hP 0 rfl rfl 12 (by decide) (hts _ k820) (fun _ h9 => h9) rfl dX12_town_16 ?_
  refine lv_iconst (v := (-1)) hx hb dX12_town_19 (by decide) ?_
  refine lv_icmp_eq (tgt := 27) hx hb dX12_town_20 (by decide) (fun _ => ?_) (fun c5 => absurd (by decide) c5)
  refine lv_aload_n hx hb dX12_town_27 rfl (lv_at hl 1 rfl) ?_
  refine va_get (D := g.1) (ci := 10) (v := .ref (a 0)) (C := RX12) (T := TX12) (N := 20) hx hb hts izRX12 hown hK hP 0 rfl rfl 1 (by decide) (hts _ k815) (fun _ h9 => h9) rfl dX12_town_28 ?_
  refine lv_iconst (v := 0) hx hb dX12_town_31 (by decide) ?_
  refine va_iald hx hb hK hP 1 0 rfl rfl (zin rfl) dX12_town_32 ?_
  refine ztop (r := (f 0) 0) rfl ?_
  refine ztop (r := 0) hm.2.2.1 ?_
  refine lv_bipush (v := 12) hx hb dX12_town_33 (by decide) ?_
  refine lv_icmp_ne (tgt := 42) hx hb dX12_town_35 (by decide) (fun _ => ?_) (fun c6 => absurd c6 (by decide))
  refine lv_iconst (v := 0) hx hb dX12_town_42 (by decide) ?_
  refine va_put (D := g.1) (ci := 10) (v := .int 0) (ty := .int) (C := RX12) (T := TX12) (N := 20) hx hb hts izRX12 tyX12 tyX12_ok nmX12 hown hK hP hD hS 0 rfl rfl 0 (by decide) (hts _ k825) (fun _ h9 => h9) rfl (by decide +kernel) rfl rfl (Nat.le_of_ble_eq_true rfl) dX12_town_43 (fun H locs hP hD hS => ?_)
  have hP : va_P g.1 vwCl (List.flatten [[(o, .inr (10, [.int 0, .ref (a 0), .ref (a 1), .int hi, .ref (a 2), .ref (a 3), .int ac, .ref (a 4), .int 0, .int (-1), .int 0, .int 0, .int (-1), .int 0, .ref (a 5), .int iD, .int iO, .int tU, .ref (a 6), .ref (a 7)]))], bArr g a (zf [f 0, f 1, s2_1, f 3, f 4, f 5, f 6, f 7])]) H := hP
  have hD : va_D A (List.flatten [[(o, .inr (10, [.int 0, .ref (a 0), .ref (a 1), .int hi, .ref (a 2), .ref (a 3), .int ac, .ref (a 4), .int 0, .int (-1), .int 0, .int 0, .int (-1), .int 0, .ref (a 5), .int iD, .int iO, .int tU, .ref (a 6), .ref (a 7)]))], bArr g a (zf [f 0, f 1, s2_1, f 3, f 4, f 5, f 6, f 7])]) := hD
  refine lv_aload_n hx hb dX12_town_46 rfl (lv_at hl 1 rfl) ?_
  refine va_get (D := g.1) (ci := 10) (v := .int 0) (C := RX12) (T := TX12) (N := 20) hx hb hts izRX12 hown hK hP 0 rfl rfl 0 (by decide) (hts _ k825) (fun _ h9 => h9) rfl dX12_town_47 ?_
  refine lv_if_le (tgt := 59) hx hb dX12_town_50 (by decide) (fun _ => ?_) (fun c7 => absurd (by decide) c7)
  refine lv_aload_n hx hb dX12_town_59 rfl (lv_at hl 1 rfl) ?_
  refine va_get (D := g.1) (ci := 10) (v := .ref (a 0)) (C := RX12) (T := TX12) (N := 20) hx hb hts izRX12 hown hK hP 0 rfl rfl 1 (by decide) (hts _ k815) (fun _ h9 => h9) rfl dX12_town_60 ?_
  refine lv_iconst (v := 0) hx hb dX12_town_63 (by decide) ?_
  refine lv_dup2_11 hx hb dX12_town_64 rfl rfl ?_
  refine va_iald hx hb hK hP 1 0 rfl rfl (zin rfl) dX12_town_65 ?_
  refine ztop (r := (f 0) 0) rfl ?_
  refine ztop (r := 0) hm.2.2.1 ?_
  refine lv_iconst (v := 1) hx hb dX12_town_66 (by decide) ?_
  refine lv_iadd hx hb dX12_town_67 ?_
  refine ztop (r := 1) (by decide) ?_
  refine va_iast hx hb hK hP hD hS 1 0 rfl rfl (zin rfl) dX12_town_68 (fun H locs hP hD hS => ?_)
  have hP : va_P g.1 vwCl (List.flatten [[(o, .inr (10, [.int 0, .ref (a 0), .ref (a 1), .int hi, .ref (a 2), .ref (a 3), .int ac, .ref (a 4), .int 0, .int (-1), .int 0, .int 0, .int (-1), .int 0, .ref (a 5), .int iD, .int iO, .int tU, .ref (a 6), .ref (a 7)]))], [(a 0, .inl (g.2 0, 779, .inl (upd (f 0) 0 1))), (a 1, .inl (g.2 0, 779, .inl (f 1))), (a 2, .inl (g.2 0, 379, .inl s2_1)), (a 3, .inl (g.2 0, 4548, .inl (f 3))), (a 4, .inl (g.2 0, 400, .inl (f 4))), (a 5, .inl (g.2 0, 6, .inl (f 5))), (a 6, .inl (g.2 0, 8, .inl (f 6))), (a 7, .inl (g.2 1, 256, .inl (f 7)))]]) H := hP
  have hD : va_D A (List.flatten [[(o, .inr (10, [.int 0, .ref (a 0), .ref (a 1), .int hi, .ref (a 2), .ref (a 3), .int ac, .ref (a 4), .int 0, .int (-1), .int 0, .int 0, .int (-1), .int 0, .ref (a 5), .int iD, .int iO, .int tU, .ref (a 6), .ref (a 7)]))], [(a 0, .inl (g.2 0, 779, .inl (upd (f 0) 0 1))), (a 1, .inl (g.2 0, 779, .inl (f 1))), (a 2, .inl (g.2 0, 379, .inl s2_1)), (a 3, .inl (g.2 0, 4548, .inl (f 3))), (a 4, .inl (g.2 0, 400, .inl (f 4))), (a 5, .inl (g.2 0, 6, .inl (f 5))), (a 6, .inl (g.2 0, 8, .inl (f 6))), (a 7, .inl (g.2 1, 256, .inl (f 7)))]]) := hD
  refine lv_aload_n hx hb dX12_town_69 rfl (lv_at hl 1 rfl) ?_
  refine lv_iconst (v := 0) hx hb dX12_town_70 (by decide) ?_
  refine va_put (D := g.1) (ci := 10) (v := .int 0) (ty := .int) (C := RX12) (T := TX12) (N := 20) hx hb hts izRX12 tyX12 tyX12_ok nmX12 hown hK hP hD hS 0 rfl rfl 6 (by decide) (hts _ k967) (fun _ h9 => h9) rfl (by decide +kernel) rfl rfl (Nat.le_of_ble_eq_true rfl) dX12_town_71 (fun H locs hP hD hS => ?_)
  have hP : va_P g.1 vwCl (List.flatten [[(o, .inr (10, [.int 0, .ref (a 0), .ref (a 1), .int hi, .ref (a 2), .ref (a 3), .int 0, .ref (a 4), .int 0, .int (-1), .int 0, .int 0, .int (-1), .int 0, .ref (a 5), .int iD, .int iO, .int tU, .ref (a 6), .ref (a 7)]))], [(a 0, .inl (g.2 0, 779, .inl (upd (f 0) 0 1))), (a 1, .inl (g.2 0, 779, .inl (f 1))), (a 2, .inl (g.2 0, 379, .inl s2_1)), (a 3, .inl (g.2 0, 4548, .inl (f 3))), (a 4, .inl (g.2 0, 400, .inl (f 4))), (a 5, .inl (g.2 0, 6, .inl (f 5))), (a 6, .inl (g.2 0, 8, .inl (f 6))), (a 7, .inl (g.2 1, 256, .inl (f 7)))]]) H := hP
  have hD : va_D A (List.flatten [[(o, .inr (10, [.int 0, .ref (a 0), .ref (a 1), .int hi, .ref (a 2), .ref (a 3), .int 0, .ref (a 4), .int 0, .int (-1), .int 0, .int 0, .int (-1), .int 0, .ref (a 5), .int iD, .int iO, .int tU, .ref (a 6), .ref (a 7)]))], [(a 0, .inl (g.2 0, 779, .inl (upd (f 0) 0 1))), (a 1, .inl (g.2 0, 779, .inl (f 1))), (a 2, .inl (g.2 0, 379, .inl s2_1)), (a 3, .inl (g.2 0, 4548, .inl (f 3))), (a 4, .inl (g.2 0, 400, .inl (f 4))), (a 5, .inl (g.2 0, 6, .inl (f 5))), (a 6, .inl (g.2 0, 8, .inl (f 6))), (a 7, .inl (g.2 1, 256, .inl (f 7)))]]) := hD
  refine lv_aload_n hx hb dX12_town_74 rfl (lv_at hl 1 rfl) ?_
  refine va_get (D := g.1) (ci := 10) (v := .ref (a 0)) (C := RX12) (T := TX12) (N := 20) hx hb hts izRX12 hown hK hP 0 rfl rfl 1 (by decide) (hts _ k815) (fun _ h9 => h9) rfl dX12_town_75 ?_
  refine lv_iconst (v := 0) hx hb dX12_town_78 (by decide) ?_
  refine va_iald hx hb hK hP 1 0 rfl rfl (zin rfl) dX12_town_79 ?_
  refine ztop (r := (upd (f 0) 0 1) 0) rfl ?_
  refine ztop (r := 1) rfl ?_
  have hP : va_P g.1 vwCl (List.flatten [bObj g o a 0 hi 0 0 (-1) 0 0 (-1) 0 iD iO tU, [(a 0, .inl (g.2 0, 779, .inl (upd (f 0) 0 1))), (a 1, .inl (g.2 0, 779, .inl (f 1))), (a 2, .inl (g.2 0, 379, .inl s2_1)), (a 3, .inl (g.2 0, 4548, .inl (f 3))), (a 4, .inl (g.2 0, 400, .inl (f 4))), (a 5, .inl (g.2 0, 6, .inl (f 5))), (a 6, .inl (g.2 0, 8, .inl (f 6))), (a 7, .inl (g.2 1, 256, .inl (f 7)))]]) H := hP
  have hD : va_D A (List.flatten [bObj g o a 0 hi 0 0 (-1) 0 0 (-1) 0 iD iO tU, [(a 0, .inl (g.2 0, 779, .inl (upd (f 0) 0 1))), (a 1, .inl (g.2 0, 779, .inl (f 1))), (a 2, .inl (g.2 0, 379, .inl s2_1)), (a 3, .inl (g.2 0, 4548, .inl (f 3))), (a 4, .inl (g.2 0, 400, .inl (f 4))), (a 5, .inl (g.2 0, 6, .inl (f 5))), (a 6, .inl (g.2 0, 8, .inl (f 6))), (a 7, .inl (g.2 1, 256, .inl (f 7)))]]) := hD
  obtain ⟨hP, hD⟩ := zord (g := g) (Bs' := [bObj g o a 0 hi 0 0 (-1) 0 0 (-1) 0 iD iO tU]) [0] rfl rfl hP hD
  exact mret_i hx hb hr hlocks hS (Nat.le_of_ble_eq_true rfl) (Nat.le_of_ble_eq_true rfl) dX12_town_80 (0, hi, 0, 0, -1, 0, 0, -1, 0, iD, iO, tU, 1) rfl (⟨rfl, rfl⟩) hP hD
set_option maxRecDepth 100000 in
set_option maxHeartbeats 4000000 in
theorem m_law (l : Launch) (g : zG) (o : Nat) (a : Nat → Nat) (th : Int32) (hi : Int32) (ac : Int32) (ba : Int32) (en : Int32) (tA : Int32) (fl : Int32) (de : Int32) (iD : Int32) (iO : Int32) (tU : Int32) (f : Nat → Nat → Int32) (hm : zMo (f 0)) : zM g l yX12_law (Cond.code yX12_law cX12_law 3 (some .int) :: zB) ({ frames := 2, cells := 0, slots := 0, locals := 43 } : Room) [.ref o] [bObj g o a th hi ac 0 ba en tA fl de iD iO tU, bArr g a f] (fun u : Int32 × Int32 × Int32 × Int32 × Int32 × Int32 × Int32 × Int32 × Int32 × Int32 × Int32 × Int32 × Int32 => (fun (th2 : Int32) (hi2 : Int32) (ac2 : Int32) (tp2 : Int32) (ba2 : Int32) (en2 : Int32) (tA2 : Int32) (fl2 : Int32) (de2 : Int32) (iD2 : Int32) (iO2 : Int32) (tU2 : Int32) (q : Int32) => some (.int q)) (u.1) (u.2.1) (u.2.2.1) (u.2.2.2.1) (u.2.2.2.2.1) (u.2.2.2.2.2.1) (u.2.2.2.2.2.2.1) (u.2.2.2.2.2.2.2.1) (u.2.2.2.2.2.2.2.2.1) (u.2.2.2.2.2.2.2.2.2.1) (u.2.2.2.2.2.2.2.2.2.2.1) (u.2.2.2.2.2.2.2.2.2.2.2.1) (u.2.2.2.2.2.2.2.2.2.2.2.2)) (fun u : Int32 × Int32 × Int32 × Int32 × Int32 × Int32 × Int32 × Int32 × Int32 × Int32 × Int32 × Int32 × Int32 => (fun (th2 : Int32) (hi2 : Int32) (ac2 : Int32) (tp2 : Int32) (ba2 : Int32) (en2 : Int32) (tA2 : Int32) (fl2 : Int32) (de2 : Int32) (iD2 : Int32) (iO2 : Int32) (tU2 : Int32) (q : Int32) => th2 = 0 ∧ q = 0) (u.1) (u.2.1) (u.2.2.1) (u.2.2.2.1) (u.2.2.2.2.1) (u.2.2.2.2.2.1) (u.2.2.2.2.2.2.1) (u.2.2.2.2.2.2.2.1) (u.2.2.2.2.2.2.2.2.1) (u.2.2.2.2.2.2.2.2.2.1) (u.2.2.2.2.2.2.2.2.2.2.1) (u.2.2.2.2.2.2.2.2.2.2.2.1) (u.2.2.2.2.2.2.2.2.2.2.2.2)) (fun u : Int32 × Int32 × Int32 × Int32 × Int32 × Int32 × Int32 × Int32 × Int32 × Int32 × Int32 × Int32 × Int32 => (fun (th2 : Int32) (hi2 : Int32) (ac2 : Int32) (tp2 : Int32) (ba2 : Int32) (en2 : Int32) (tA2 : Int32) (fl2 : Int32) (de2 : Int32) (iD2 : Int32) (iO2 : Int32) (tU2 : Int32) (q : Int32) => [bObj g o a th2 hi2 ac2 tp2 ba2 en2 tA2 fl2 de2 iD2 iO2 tU2]) (u.1) (u.2.1) (u.2.2.1) (u.2.2.2.1) (u.2.2.2.2.1) (u.2.2.2.2.2.1) (u.2.2.2.2.2.2.1) (u.2.2.2.2.2.2.2.1) (u.2.2.2.2.2.2.2.2.1) (u.2.2.2.2.2.2.2.2.2.1) (u.2.2.2.2.2.2.2.2.2.2.1) (u.2.2.2.2.2.2.2.2.2.2.2.1) (u.2.2.2.2.2.2.2.2.2.2.2.2)) := by
  refine zM.of (cc := cX12_law) (maxL := 3) (rt := (some .int)) (by decide) rfl (Nat.le_of_ble_eq_true rfl) ?_
  intro p e s m args below meth c A ls St hr hlocks hin hK hT hA hP hD hS hl
  obtain ⟨hx, hb, hml, hown, hts⟩ := id St
  have hl : lv_has ls 3 [(0, .ref o)] := hl
  refine lv_aload_n hx hb dX12_law_0 rfl (lv_at hl 0 rfl) ?_
  refine mcallV (g := g) (q0 := 0) (ci := 10) (As := []) (rest := []) St hK hT hA hP hD hS hl.1 [0, 1] [] rfl rfl rfl (m_begins0 l g o a th hi ac ba en tA fl de iD iO tU f ) (cwV 0 hts (zgL (zl4 k971 k972 k973 k833) k874) rfl rfl rfl (by decide +kernel) ⟨Nat.le_of_ble_eq_true rfl, Nat.le_of_ble_eq_true rfl⟩) rfl rfl rfl rfl (Nat.le_of_ble_eq_true rfl) dX12_law_1 ⟨(Nat.le_of_ble_eq_true rfl), (Nat.le_of_ble_eq_true rfl)⟩ (fun _u H locs hq1 hP hD hS => ?_)
  have hP : va_P g.1 vwCl (List.flatten [bObj g o a th hi ac 0 (-1) 0 0 (-1) 0 iD iO tU, bArr g a f]) H := hP
  have hD : va_D A (List.flatten [bObj g o a th hi ac 0 (-1) 0 0 (-1) 0 iD iO tU, bArr g a f]) := hD
  refine W.widen (k := 0) (n := 0) (Nat.le_of_ble_eq_true rfl) (Nat.le_of_ble_eq_true rfl) ?_
  refine W.eq (g2 := F0 m 4 ls []) rfl ?_
  refine lv_aload_n hx hb dX12_law_4 rfl (lv_at hl 0 rfl) ?_
  refine lv_iconst (v := 1) hx hb dX12_law_5 (by decide) ?_
  refine mcallV (g := g) (q0 := 0) (ci := 10) (As := [.int 1]) (rest := []) St hK hT hA hP hD hS hl.1 [0, 1] [] rfl rfl rfl (m_read0 l g o a th hi ac 0 (-1) (-1) 0 iD iO tU f 1 ) (cwV 1 hts (zgL (zl4 k974 k975 k976 k833) k964) rfl rfl rfl (by decide +kernel) ⟨Nat.le_of_ble_eq_true rfl, Nat.le_of_ble_eq_true rfl⟩) rfl rfl rfl rfl (Nat.le_of_ble_eq_true rfl) dX12_law_6 ⟨(Nat.le_of_ble_eq_true rfl), (Nat.le_of_ble_eq_true rfl)⟩ (fun _u H locs hq2 hP hD hS => ?_)
  have hP : va_P g.1 vwCl (List.flatten [bObj g o a th hi ac 0 (-1) 0 0 (-1) 0 iD iO tU, bArr g a f]) H := hP
  have hD : va_D A (List.flatten [bObj g o a th hi ac 0 (-1) 0 0 (-1) 0 iD iO tU, bArr g a f]) := hD
  refine W.widen (k := 0) (n := 0) (Nat.le_of_ble_eq_true rfl) (Nat.le_of_ble_eq_true rfl) ?_
  refine W.eq (g2 := F0 m 9 ls [.int 0]) rfl ?_
  refine lv_istore_n (lv' := [(1, .int 0), (0, .ref o)]) hx hb dX12_law_9 rfl hl (by decide) rfl (fun ls hl => ?_)
  refine lv_aload_n hx hb dX12_law_10 rfl (lv_at hl 1 rfl) ?_
  refine lv_aload_n hx hb dX12_law_11 rfl (lv_at hl 1 rfl) ?_
  refine va_get (D := g.1) (ci := 10) (v := .int (-1)) (C := RX12) (T := TX12) (N := 20) hx hb hts izRX12 hown hK hP 0 rfl rfl 12 (by decide) (hts _ k820) (fun _ h9 => h9) rfl dX12_law_12 ?_
  refine lv_iconst (v := (-1)) hx hb dX12_law_15 (by decide) ?_
  refine lv_icmp_eq (tgt := 23) hx hb dX12_law_16 (by decide) (fun _ => ?_) (fun c3 => absurd (by decide) c3)
  refine lv_iconst (v := 0) hx hb dX12_law_23 (by decide) ?_
  refine va_put (D := g.1) (ci := 10) (v := .int 0) (ty := .int) (C := RX12) (T := TX12) (N := 20) hx hb hts izRX12 tyX12 tyX12_ok nmX12 hown hK hP hD hS 0 rfl rfl 0 (by decide) (hts _ k825) (fun _ h9 => h9) rfl (by decide +kernel) rfl rfl (Nat.le_of_ble_eq_true rfl) dX12_law_24 (fun H locs hP hD hS => ?_)
  have hP : va_P g.1 vwCl (List.flatten [[(o, .inr (10, [.int 0, .ref (a 0), .ref (a 1), .int hi, .ref (a 2), .ref (a 3), .int ac, .ref (a 4), .int 0, .int (-1), .int 0, .int 0, .int (-1), .int 0, .ref (a 5), .int iD, .int iO, .int tU, .ref (a 6), .ref (a 7)]))], bArr g a f]) H := hP
  have hD : va_D A (List.flatten [[(o, .inr (10, [.int 0, .ref (a 0), .ref (a 1), .int hi, .ref (a 2), .ref (a 3), .int ac, .ref (a 4), .int 0, .int (-1), .int 0, .int 0, .int (-1), .int 0, .ref (a 5), .int iD, .int iO, .int tU, .ref (a 6), .ref (a 7)]))], bArr g a f]) := hD
  refine lv_aload_n hx hb dX12_law_27 rfl (lv_at hl 1 rfl) ?_
  refine va_get (D := g.1) (ci := 10) (v := .int 0) (C := RX12) (T := TX12) (N := 20) hx hb hts izRX12 hown hK hP 0 rfl rfl 0 (by decide) (hts _ k825) (fun _ h9 => h9) rfl dX12_law_28 ?_
  refine lv_if_le (tgt := 36) hx hb dX12_law_31 (by decide) (fun _ => ?_) (fun c4 => absurd (by decide) c4)
  refine lv_aload_n hx hb dX12_law_36 rfl (lv_at hl 1 rfl) ?_
  refine va_get (D := g.1) (ci := 10) (v := .ref (a 0)) (C := RX12) (T := TX12) (N := 20) hx hb hts izRX12 hown hK hP 0 rfl rfl 1 (by decide) (hts _ k815) (fun _ h9 => h9) rfl dX12_law_37 ?_
  refine lv_iconst (v := 1) hx hb dX12_law_40 (by decide) ?_
  refine lv_iload_n hx hb dX12_law_41 rfl (lv_at hl 0 rfl) ?_
  refine va_iast hx hb hK hP hD hS 1 0 rfl rfl (zin rfl) dX12_law_42 (fun H locs hP hD hS => ?_)
  have hP : va_P g.1 vwCl (List.flatten [[(o, .inr (10, [.int 0, .ref (a 0), .ref (a 1), .int hi, .ref (a 2), .ref (a 3), .int ac, .ref (a 4), .int 0, .int (-1), .int 0, .int 0, .int (-1), .int 0, .ref (a 5), .int iD, .int iO, .int tU, .ref (a 6), .ref (a 7)]))], [(a 0, .inl (g.2 0, 779, .inl (upd (f 0) 1 0))), (a 1, .inl (g.2 0, 779, .inl (f 1))), (a 2, .inl (g.2 0, 379, .inl (f 2))), (a 3, .inl (g.2 0, 4548, .inl (f 3))), (a 4, .inl (g.2 0, 400, .inl (f 4))), (a 5, .inl (g.2 0, 6, .inl (f 5))), (a 6, .inl (g.2 0, 8, .inl (f 6))), (a 7, .inl (g.2 1, 256, .inl (f 7)))]]) H := hP
  have hD : va_D A (List.flatten [[(o, .inr (10, [.int 0, .ref (a 0), .ref (a 1), .int hi, .ref (a 2), .ref (a 3), .int ac, .ref (a 4), .int 0, .int (-1), .int 0, .int 0, .int (-1), .int 0, .ref (a 5), .int iD, .int iO, .int tU, .ref (a 6), .ref (a 7)]))], [(a 0, .inl (g.2 0, 779, .inl (upd (f 0) 1 0))), (a 1, .inl (g.2 0, 779, .inl (f 1))), (a 2, .inl (g.2 0, 379, .inl (f 2))), (a 3, .inl (g.2 0, 4548, .inl (f 3))), (a 4, .inl (g.2 0, 400, .inl (f 4))), (a 5, .inl (g.2 0, 6, .inl (f 5))), (a 6, .inl (g.2 0, 8, .inl (f 6))), (a 7, .inl (g.2 1, 256, .inl (f 7)))]]) := hD
  refine lv_aload_n hx hb dX12_law_43 rfl (lv_at hl 1 rfl) ?_
  refine va_get (D := g.1) (ci := 10) (v := .ref (a 0)) (C := RX12) (T := TX12) (N := 20) hx hb hts izRX12 hown hK hP 0 rfl rfl 1 (by decide) (hts _ k815) (fun _ h9 => h9) rfl dX12_law_44 ?_
  refine lv_iconst (v := 2) hx hb dX12_law_47 (by decide) ?_
  refine lv_aload_n hx hb dX12_law_48 rfl (lv_at hl 1 rfl) ?_
  refine va_get (D := g.1) (ci := 10) (v := .int 0) (C := RX12) (T := TX12) (N := 20) hx hb hts izRX12 hown hK hP 0 rfl rfl 10 (by decide) (hts _ k868) (fun _ h9 => h9) rfl dX12_law_49 ?_
  refine va_iast hx hb hK hP hD hS 1 0 rfl rfl (zin rfl) dX12_law_52 (fun H locs hP hD hS => ?_)
  have hP : va_P g.1 vwCl (List.flatten [[(o, .inr (10, [.int 0, .ref (a 0), .ref (a 1), .int hi, .ref (a 2), .ref (a 3), .int ac, .ref (a 4), .int 0, .int (-1), .int 0, .int 0, .int (-1), .int 0, .ref (a 5), .int iD, .int iO, .int tU, .ref (a 6), .ref (a 7)]))], [(a 0, .inl (g.2 0, 779, .inl (upd (upd (f 0) 1 0) 2 0))), (a 1, .inl (g.2 0, 779, .inl (f 1))), (a 2, .inl (g.2 0, 379, .inl (f 2))), (a 3, .inl (g.2 0, 4548, .inl (f 3))), (a 4, .inl (g.2 0, 400, .inl (f 4))), (a 5, .inl (g.2 0, 6, .inl (f 5))), (a 6, .inl (g.2 0, 8, .inl (f 6))), (a 7, .inl (g.2 1, 256, .inl (f 7)))]]) H := hP
  have hD : va_D A (List.flatten [[(o, .inr (10, [.int 0, .ref (a 0), .ref (a 1), .int hi, .ref (a 2), .ref (a 3), .int ac, .ref (a 4), .int 0, .int (-1), .int 0, .int 0, .int (-1), .int 0, .ref (a 5), .int iD, .int iO, .int tU, .ref (a 6), .ref (a 7)]))], [(a 0, .inl (g.2 0, 779, .inl (upd (upd (f 0) 1 0) 2 0))), (a 1, .inl (g.2 0, 779, .inl (f 1))), (a 2, .inl (g.2 0, 379, .inl (f 2))), (a 3, .inl (g.2 0, 4548, .inl (f 3))), (a 4, .inl (g.2 0, 400, .inl (f 4))), (a 5, .inl (g.2 0, 6, .inl (f 5))), (a 6, .inl (g.2 0, 8, .inl (f 6))), (a 7, .inl (g.2 1, 256, .inl (f 7)))]]) := hD
  refine lv_iconst (v := 0) hx hb dX12_law_53 (by decide) ?_
  refine lv_istore_n (lv' := [(2, .int 0), (1, .int 0), (0, .ref o)]) hx hb dX12_law_54 rfl hl (by decide) rfl (fun ls hl => ?_)
  refine lv_iload_n hx hb dX12_law_55 rfl (lv_at hl 0 rfl) ?_
  refine lv_aload_n hx hb dX12_law_56 rfl (lv_at hl 2 rfl) ?_
  refine va_get (D := g.1) (ci := 10) (v := .int 0) (C := RX12) (T := TX12) (N := 20) hx hb hts izRX12 hown hK hP 0 rfl rfl 10 (by decide) (hts _ k868) (fun _ h9 => h9) rfl dX12_law_57 ?_
  refine lv_icmp_ge (tgt := 85) hx hb dX12_law_60 (by decide) (fun _ => ?_) (fun c5 => absurd (by decide) c5)
  refine lv_aload_n hx hb dX12_law_85 rfl (lv_at hl 2 rfl) ?_
  refine lv_iconst (v := 0) hx hb dX12_law_86 (by decide) ?_
  refine va_put (D := g.1) (ci := 10) (v := .int 0) (ty := .int) (C := RX12) (T := TX12) (N := 20) hx hb hts izRX12 tyX12 tyX12_ok nmX12 hown hK hP hD hS 0 rfl rfl 6 (by decide) (hts _ k967) (fun _ h9 => h9) rfl (by decide +kernel) rfl rfl (Nat.le_of_ble_eq_true rfl) dX12_law_87 (fun H locs hP hD hS => ?_)
  have hP : va_P g.1 vwCl (List.flatten [[(o, .inr (10, [.int 0, .ref (a 0), .ref (a 1), .int hi, .ref (a 2), .ref (a 3), .int 0, .ref (a 4), .int 0, .int (-1), .int 0, .int 0, .int (-1), .int 0, .ref (a 5), .int iD, .int iO, .int tU, .ref (a 6), .ref (a 7)]))], [(a 0, .inl (g.2 0, 779, .inl (upd (upd (f 0) 1 0) 2 0))), (a 1, .inl (g.2 0, 779, .inl (f 1))), (a 2, .inl (g.2 0, 379, .inl (f 2))), (a 3, .inl (g.2 0, 4548, .inl (f 3))), (a 4, .inl (g.2 0, 400, .inl (f 4))), (a 5, .inl (g.2 0, 6, .inl (f 5))), (a 6, .inl (g.2 0, 8, .inl (f 6))), (a 7, .inl (g.2 1, 256, .inl (f 7)))]]) H := hP
  have hD : va_D A (List.flatten [[(o, .inr (10, [.int 0, .ref (a 0), .ref (a 1), .int hi, .ref (a 2), .ref (a 3), .int 0, .ref (a 4), .int 0, .int (-1), .int 0, .int 0, .int (-1), .int 0, .ref (a 5), .int iD, .int iO, .int tU, .ref (a 6), .ref (a 7)]))], [(a 0, .inl (g.2 0, 779, .inl (upd (upd (f 0) 1 0) 2 0))), (a 1, .inl (g.2 0, 779, .inl (f 1))), (a 2, .inl (g.2 0, 379, .inl (f 2))), (a 3, .inl (g.2 0, 4548, .inl (f 3))), (a 4, .inl (g.2 0, 400, .inl (f 4))), (a 5, .inl (g.2 0, 6, .inl (f 5))), (a 6, .inl (g.2 0, 8, .inl (f 6))), (a 7, .inl (g.2 1, 256, .inl (f 7)))]]) := hD
  refine lv_iload_n hx hb dX12_law_90 rfl (lv_at hl 1 rfl) ?_
  have hP : va_P g.1 vwCl (List.flatten [bObj g o a 0 hi 0 0 (-1) 0 0 (-1) 0 iD iO tU, [(a 0, .inl (g.2 0, 779, .inl (upd (upd (f 0) 1 0) 2 0))), (a 1, .inl (g.2 0, 779, .inl (f 1))), (a 2, .inl (g.2 0, 379, .inl (f 2))), (a 3, .inl (g.2 0, 4548, .inl (f 3))), (a 4, .inl (g.2 0, 400, .inl (f 4))), (a 5, .inl (g.2 0, 6, .inl (f 5))), (a 6, .inl (g.2 0, 8, .inl (f 6))), (a 7, .inl (g.2 1, 256, .inl (f 7)))]]) H := hP
  have hD : va_D A (List.flatten [bObj g o a 0 hi 0 0 (-1) 0 0 (-1) 0 iD iO tU, [(a 0, .inl (g.2 0, 779, .inl (upd (upd (f 0) 1 0) 2 0))), (a 1, .inl (g.2 0, 779, .inl (f 1))), (a 2, .inl (g.2 0, 379, .inl (f 2))), (a 3, .inl (g.2 0, 4548, .inl (f 3))), (a 4, .inl (g.2 0, 400, .inl (f 4))), (a 5, .inl (g.2 0, 6, .inl (f 5))), (a 6, .inl (g.2 0, 8, .inl (f 6))), (a 7, .inl (g.2 1, 256, .inl (f 7)))]]) := hD
  obtain ⟨hP, hD⟩ := zord (g := g) (Bs' := [bObj g o a 0 hi 0 0 (-1) 0 0 (-1) 0 iD iO tU]) [0] rfl rfl hP hD
  exact mret_i hx hb hr hlocks hS (Nat.le_of_ble_eq_true rfl) (Nat.le_of_ble_eq_true rfl) dX12_law_91 (0, hi, 0, 0, -1, 0, 0, -1, 0, iD, iO, tU, 0) rfl (⟨rfl, rfl⟩) hP hD
set_option maxRecDepth 100000 in
set_option maxHeartbeats 4000000 in
theorem m_then (l : Launch) (g : zG) (o : Nat) (a : Nat → Nat) (th : Int32) (hi : Int32) (ac : Int32) (tp : Int32) (ba : Int32) (en : Int32) (tA : Int32) (fl : Int32) (de : Int32) (iD : Int32) (iO : Int32) (tU : Int32) (f : Nat → Nat → Int32) (n : Int32) (c9 : Int32) (hm : zMo (f 0)) : zM g l yX12_then (Cond.code yX12_then cX12_then 5 (some .int) :: zB) ({ frames := 2, cells := 0, slots := 0, locals := 48 } : Room) [.ref o, .int n, .int c9] [bObj g o a th hi ac tp ba en tA fl de iD iO tU, bArr g a f] (fun u : Int32 × Int32 × Int32 × Int32 × Int32 × Int32 × Int32 × Int32 × Int32 × Int32 × Int32 × Int32 × Int32 => (fun (th2 : Int32) (hi2 : Int32) (ac2 : Int32) (tp2 : Int32) (ba2 : Int32) (en2 : Int32) (tA2 : Int32) (fl2 : Int32) (de2 : Int32) (iD2 : Int32) (iO2 : Int32) (tU2 : Int32) (q : Int32) => some (.int q)) (u.1) (u.2.1) (u.2.2.1) (u.2.2.2.1) (u.2.2.2.2.1) (u.2.2.2.2.2.1) (u.2.2.2.2.2.2.1) (u.2.2.2.2.2.2.2.1) (u.2.2.2.2.2.2.2.2.1) (u.2.2.2.2.2.2.2.2.2.1) (u.2.2.2.2.2.2.2.2.2.2.1) (u.2.2.2.2.2.2.2.2.2.2.2.1) (u.2.2.2.2.2.2.2.2.2.2.2.2)) (fun u : Int32 × Int32 × Int32 × Int32 × Int32 × Int32 × Int32 × Int32 × Int32 × Int32 × Int32 × Int32 × Int32 => (fun (th2 : Int32) (hi2 : Int32) (ac2 : Int32) (tp2 : Int32) (ba2 : Int32) (en2 : Int32) (tA2 : Int32) (fl2 : Int32) (de2 : Int32) (iD2 : Int32) (iO2 : Int32) (tU2 : Int32) (q : Int32) => (th2 = 1 ∧ ((n : Int32) < 0 ∨ 100 < (n : Int32))) ∨ (th2 = 0 ∧ (¬ (n : Int32) < 0 ∧ ¬ 100 < (n : Int32)) ∧ q = if c9 = 0 then 0 else 20)) (u.1) (u.2.1) (u.2.2.1) (u.2.2.2.1) (u.2.2.2.2.1) (u.2.2.2.2.2.1) (u.2.2.2.2.2.2.1) (u.2.2.2.2.2.2.2.1) (u.2.2.2.2.2.2.2.2.1) (u.2.2.2.2.2.2.2.2.2.1) (u.2.2.2.2.2.2.2.2.2.2.1) (u.2.2.2.2.2.2.2.2.2.2.2.1) (u.2.2.2.2.2.2.2.2.2.2.2.2)) (fun u : Int32 × Int32 × Int32 × Int32 × Int32 × Int32 × Int32 × Int32 × Int32 × Int32 × Int32 × Int32 × Int32 => (fun (th2 : Int32) (hi2 : Int32) (ac2 : Int32) (tp2 : Int32) (ba2 : Int32) (en2 : Int32) (tA2 : Int32) (fl2 : Int32) (de2 : Int32) (iD2 : Int32) (iO2 : Int32) (tU2 : Int32) (q : Int32) => [bObj g o a th2 hi2 ac2 tp2 ba2 en2 tA2 fl2 de2 iD2 iO2 tU2]) (u.1) (u.2.1) (u.2.2.1) (u.2.2.2.1) (u.2.2.2.2.1) (u.2.2.2.2.2.1) (u.2.2.2.2.2.2.1) (u.2.2.2.2.2.2.2.1) (u.2.2.2.2.2.2.2.2.1) (u.2.2.2.2.2.2.2.2.2.1) (u.2.2.2.2.2.2.2.2.2.2.1) (u.2.2.2.2.2.2.2.2.2.2.2.1) (u.2.2.2.2.2.2.2.2.2.2.2.2)) := by
  refine zM.of (cc := cX12_then) (maxL := 5) (rt := (some .int)) (by decide) rfl (Nat.le_of_ble_eq_true rfl) ?_
  intro p e s m args below meth c A ls St hr hlocks hin hK hT hA hP hD hS hl
  obtain ⟨hx, hb, hml, hown, hts⟩ := id St
  have hl : lv_has ls 5 [(0, .ref o), (1, .int n), (2, .int c9)] := hl
  refine lv_aload_n hx hb dX12_then_0 rfl (lv_at hl 0 rfl) ?_
  refine lv_iload_n hx hb dX12_then_1 rfl (lv_at hl 1 rfl) ?_
  refine lv_iconst (v := 0) hx hb dX12_then_2 (by decide) ?_
  refine lv_bipush (v := 100) hx hb dX12_then_3 (by decide) ?_
  refine mcallS (g := g) (As := [.int n, .int 0, .int 100]) (rest := [.ref o]) St hK hT hA hP hD hS hl.1 [] [0, 1] rfl rfl rfl (m_isIn l g n 0 100 ) (va_cwS 3 hts (zgL (zl3 k831 k832 k833) k826) rfl rfl rfl (by decide +kernel) ⟨Nat.le_of_ble_eq_true rfl, Nat.le_of_ble_eq_true rfl⟩) rfl rfl (Nat.le_of_ble_eq_true rfl) dX12_then_5 ⟨(Nat.le_of_ble_eq_true rfl), (Nat.le_of_ble_eq_true rfl)⟩ (fun q_1 H locs hq2 hP hD hS => ?_)
  have hq2 : (q_1 = 1 ∧ ¬ (n : Int32) < 0 ∧ ¬ 100 < (n : Int32)) ∨ (q_1 = 0 ∧ ((n : Int32) < 0 ∨ 100 < (n : Int32))) := hq2
  have hP : va_P g.1 vwCl (List.flatten [bObj g o a th hi ac tp ba en tA fl de iD iO tU, bArr g a f]) H := hP
  have hD : va_D A (List.flatten [bObj g o a th hi ac tp ba en tA fl de iD iO tU, bArr g a f]) := hD
  refine W.widen (k := 0) (n := 0) (Nat.le_of_ble_eq_true rfl) (Nat.le_of_ble_eq_true rfl) ?_
  refine W.eq (g2 := F0 m 8 ls [.int q_1, .ref o]) rfl ?_
  rcases hq2 with ⟨rfl, hq2c⟩ | ⟨rfl, hq2c⟩
  · skip
    refine lv_if_ne (tgt := 15) hx hb dX12_then_8 (by decide) (fun _ => ?_) (fun c3 => absurd c3 (by decide))
    refine lv_iconst (v := 0) hx hb dX12_then_15 (by decide) ?_
    refine va_put (D := g.1) (ci := 10) (v := .int 0) (ty := .int) (C := RX12) (T := TX12) (N := 20) hx hb hts izRX12 tyX12 tyX12_ok nmX12 hown hK hP hD hS 0 rfl rfl 0 (by decide) (hts _ k825) (fun _ h9 => h9) rfl (by decide +kernel) rfl rfl (Nat.le_of_ble_eq_true rfl) dX12_then_16 (fun H locs hP hD hS => ?_)
    have hP : va_P g.1 vwCl (List.flatten [[(o, .inr (10, [.int 0, .ref (a 0), .ref (a 1), .int hi, .ref (a 2), .ref (a 3), .int ac, .ref (a 4), .int tp, .int ba, .int en, .int tA, .int fl, .int de, .ref (a 5), .int iD, .int iO, .int tU, .ref (a 6), .ref (a 7)]))], bArr g a f]) H := hP
    have hD : va_D A (List.flatten [[(o, .inr (10, [.int 0, .ref (a 0), .ref (a 1), .int hi, .ref (a 2), .ref (a 3), .int ac, .ref (a 4), .int tp, .int ba, .int en, .int tA, .int fl, .int de, .ref (a 5), .int iD, .int iO, .int tU, .ref (a 6), .ref (a 7)]))], bArr g a f]) := hD
    refine lv_aload_n hx hb dX12_then_19 rfl (lv_at hl 0 rfl) ?_
    refine va_get (D := g.1) (ci := 10) (v := .int 0) (C := RX12) (T := TX12) (N := 20) hx hb hts izRX12 hown hK hP 0 rfl rfl 0 (by decide) (hts _ k825) (fun _ h9 => h9) rfl dX12_then_20 ?_
    refine lv_if_le (tgt := 28) hx hb dX12_then_23 (by decide) (fun _ => ?_) (fun c4 => absurd (by decide) c4)
    refine lv_aload_n hx hb dX12_then_28 rfl (lv_at hl 0 rfl) ?_
    refine mcallV (g := g) (q0 := 0) (ci := 10) (As := []) (rest := []) St hK hT hA hP hD hS hl.1 [0, 1] [] rfl rfl rfl (m_putsAside l g o a 0 hi ac tp ba en tA fl de iD iO tU f ) (cwV 0 hts (zgL (zl4 k968 k969 k970 k833) k965) rfl rfl rfl (by decide +kernel) ⟨Nat.le_of_ble_eq_true rfl, Nat.le_of_ble_eq_true rfl⟩) rfl rfl rfl rfl (Nat.le_of_ble_eq_true rfl) dX12_then_29 ⟨(Nat.le_of_ble_eq_true rfl), (Nat.le_of_ble_eq_true rfl)⟩ (fun s2_5 H locs hq6 hP hD hS => ?_)
    have hq6 : ∀ k, k < 379 → s2_5 k = f 0 k := hq6
    have hP : va_P g.1 vwCl (List.flatten [bObj g o a 0 hi ac tp ba en tA fl de iD iO tU, bArr g a (zf [f 0, f 1, s2_5, f 3, f 4, f 5, f 6, f 7])]) H := hP
    have hD : va_D A (List.flatten [bObj g o a 0 hi ac tp ba en tA fl de iD iO tU, bArr g a (zf [f 0, f 1, s2_5, f 3, f 4, f 5, f 6, f 7])]) := hD
    refine W.widen (k := 0) (n := 0) (Nat.le_of_ble_eq_true rfl) (Nat.le_of_ble_eq_true rfl) ?_
    refine W.eq (g2 := F0 m 32 ls []) rfl ?_
    refine lv_aload_n hx hb dX12_then_32 rfl (lv_at hl 0 rfl) ?_
    refine lv_iload_n hx hb dX12_then_33 rfl (lv_at hl 1 rfl) ?_
    refine lv_iconst (v := 0) hx hb dX12_then_34 (by decide) ?_
    refine mcallV (g := g) (q0 := 0) (ci := 10) (As := [.int n, .int 0]) (rest := []) St hK hT hA hP hD hS hl.1 [0, 1] [] rfl rfl rfl (m_goes l g o a 0 hi ac tp ba en tA fl de iD iO tU (zf [f 0, f 1, s2_5, f 3, f 4, f 5, f 6, f 7]) n 0 hm (zrg100 hq2c)) (cwV 2 hts (zgL (zl4 k1056 k1057 k1058 k833) k1027) rfl rfl rfl (by decide +kernel) ⟨Nat.le_of_ble_eq_true rfl, Nat.le_of_ble_eq_true rfl⟩) rfl rfl rfl rfl (Nat.le_of_ble_eq_true rfl) dX12_then_35 ⟨(Nat.le_of_ble_eq_true rfl), (Nat.le_of_ble_eq_true rfl)⟩ (fun s2_7 H locs hq8 hP hD hS => ?_)
    have hq8 : zMo s2_7 := hq8
    have hP : va_P g.1 vwCl (List.flatten [bObj g o a 0 hi ac tp ba en tA fl de iD iO tU, bArr g a (zf [s2_7, (zf [f 0, f 1, s2_5, f 3, f 4, f 5, f 6, f 7]) 1, (zf [f 0, f 1, s2_5, f 3, f 4, f 5, f 6, f 7]) 2, (zf [f 0, f 1, s2_5, f 3, f 4, f 5, f 6, f 7]) 3, (zf [f 0, f 1, s2_5, f 3, f 4, f 5, f 6, f 7]) 4, (zf [f 0, f 1, s2_5, f 3, f 4, f 5, f 6, f 7]) 5, (zf [f 0, f 1, s2_5, f 3, f 4, f 5, f 6, f 7]) 6, (zf [f 0, f 1, s2_5, f 3, f 4, f 5, f 6, f 7]) 7])]) H := hP
    have hD : va_D A (List.flatten [bObj g o a 0 hi ac tp ba en tA fl de iD iO tU, bArr g a (zf [s2_7, (zf [f 0, f 1, s2_5, f 3, f 4, f 5, f 6, f 7]) 1, (zf [f 0, f 1, s2_5, f 3, f 4, f 5, f 6, f 7]) 2, (zf [f 0, f 1, s2_5, f 3, f 4, f 5, f 6, f 7]) 3, (zf [f 0, f 1, s2_5, f 3, f 4, f 5, f 6, f 7]) 4, (zf [f 0, f 1, s2_5, f 3, f 4, f 5, f 6, f 7]) 5, (zf [f 0, f 1, s2_5, f 3, f 4, f 5, f 6, f 7]) 6, (zf [f 0, f 1, s2_5, f 3, f 4, f 5, f 6, f 7]) 7])]) := hD
    refine W.widen (k := 0) (n := 0) (Nat.le_of_ble_eq_true rfl) (Nat.le_of_ble_eq_true rfl) ?_
    refine W.eq (g2 := F0 m 38 ls [.int 0]) rfl ?_
    have hm := hq8
    refine lv_istore_n (lv' := [(3, .int 0), (0, .ref o), (1, .int n), (2, .int c9)]) hx hb dX12_then_38 rfl hl (by decide) rfl (fun ls hl => ?_)
    refine lv_iload_n hx hb dX12_then_39 rfl (lv_at hl 3 rfl) ?_
    refine lv_if_eq (tgt := 52) hx hb dX12_then_40 (by decide) (fun cB => ?_) (fun cB => ?_)
    · skip
      refine lv_aload_n hx hb dX12_then_52 rfl (lv_at hl 1 rfl) ?_
      refine mcallV (g := g) (q0 := 0) (ci := 10) (As := []) (rest := []) St hK hT hA hP hD hS hl.1 [0, 1] [] rfl rfl rfl (m_believed l g o a 0 hi ac tp ba en tA fl de iD iO tU (zf [s2_7, (zf [f 0, f 1, s2_5, f 3, f 4, f 5, f 6, f 7]) 1, (zf [f 0, f 1, s2_5, f 3, f 4, f 5, f 6, f 7]) 2, (zf [f 0, f 1, s2_5, f 3, f 4, f 5, f 6, f 7]) 3, (zf [f 0, f 1, s2_5, f 3, f 4, f 5, f 6, f 7]) 4, (zf [f 0, f 1, s2_5, f 3, f 4, f 5, f 6, f 7]) 5, (zf [f 0, f 1, s2_5, f 3, f 4, f 5, f 6, f 7]) 6, (zf [f 0, f 1, s2_5, f 3, f 4, f 5, f 6, f 7]) 7]) (by assumption)) (cwV 0 hts (zgL (zl4 k851 k852 k853 k833) k844) rfl rfl rfl (by decide +kernel) ⟨Nat.le_of_ble_eq_true rfl, Nat.le_of_ble_eq_true rfl⟩) rfl rfl rfl rfl (Nat.le_of_ble_eq_true rfl) dX12_then_53 ⟨(Nat.le_of_ble_eq_true rfl), (Nat.le_of_ble_eq_true rfl)⟩ (fun _u H locs hq10 hP hD hS => ?_)
      have hP : va_P g.1 vwCl (List.flatten [bObj g o a 0 hi ac tp ba en tA fl de iD iO tU, bArr g a (zf [s2_7, (zf [f 0, f 1, s2_5, f 3, f 4, f 5, f 6, f 7]) 1, (zf [f 0, f 1, s2_5, f 3, f 4, f 5, f 6, f 7]) 2, (zf [f 0, f 1, s2_5, f 3, f 4, f 5, f 6, f 7]) 3, (zf [f 0, f 1, s2_5, f 3, f 4, f 5, f 6, f 7]) 4, (zf [f 0, f 1, s2_5, f 3, f 4, f 5, f 6, f 7]) 5, (zf [f 0, f 1, s2_5, f 3, f 4, f 5, f 6, f 7]) 6, (zf [f 0, f 1, s2_5, f 3, f 4, f 5, f 6, f 7]) 7])]) H := hP
      have hD : va_D A (List.flatten [bObj g o a 0 hi ac tp ba en tA fl de iD iO tU, bArr g a (zf [s2_7, (zf [f 0, f 1, s2_5, f 3, f 4, f 5, f 6, f 7]) 1, (zf [f 0, f 1, s2_5, f 3, f 4, f 5, f 6, f 7]) 2, (zf [f 0, f 1, s2_5, f 3, f 4, f 5, f 6, f 7]) 3, (zf [f 0, f 1, s2_5, f 3, f 4, f 5, f 6, f 7]) 4, (zf [f 0, f 1, s2_5, f 3, f 4, f 5, f 6, f 7]) 5, (zf [f 0, f 1, s2_5, f 3, f 4, f 5, f 6, f 7]) 6, (zf [f 0, f 1, s2_5, f 3, f 4, f 5, f 6, f 7]) 7])]) := hD
      refine W.widen (k := 0) (n := 0) (Nat.le_of_ble_eq_true rfl) (Nat.le_of_ble_eq_true rfl) ?_
      refine W.eq (g2 := F0 m 56 ls [.int 0]) rfl ?_
      refine lv_istore (lv' := [(4, .int 0), (3, .int 0), (0, .ref o), (1, .int n), (2, .int c9)]) hx hb dX12_then_56 hl (by decide) rfl (fun ls hl => ?_)
      refine lv_aload_n hx hb dX12_then_58 rfl (lv_at hl 2 rfl) ?_
      refine mcallV (g := g) (q0 := 0) (ci := 10) (As := []) (rest := []) St hK hT hA hP hD hS hl.1 [0, 1] [] rfl rfl rfl (m_comesBack l g o a 0 hi ac tp ba en tA fl de iD iO tU (zf [s2_7, (zf [f 0, f 1, s2_5, f 3, f 4, f 5, f 6, f 7]) 1, (zf [f 0, f 1, s2_5, f 3, f 4, f 5, f 6, f 7]) 2, (zf [f 0, f 1, s2_5, f 3, f 4, f 5, f 6, f 7]) 3, (zf [f 0, f 1, s2_5, f 3, f 4, f 5, f 6, f 7]) 4, (zf [f 0, f 1, s2_5, f 3, f 4, f 5, f 6, f 7]) 5, (zf [f 0, f 1, s2_5, f 3, f 4, f 5, f 6, f 7]) 6, (zf [f 0, f 1, s2_5, f 3, f 4, f 5, f 6, f 7]) 7]) ) (cwV 0 hts (zgL (zl4 k977 k978 k979 k833) k966) rfl rfl rfl (by decide +kernel) ⟨Nat.le_of_ble_eq_true rfl, Nat.le_of_ble_eq_true rfl⟩) rfl rfl rfl rfl (Nat.le_of_ble_eq_true rfl) dX12_then_59 ⟨(Nat.le_of_ble_eq_true rfl), (Nat.le_of_ble_eq_true rfl)⟩ (fun s2_11 H locs hq12 hP hD hS => ?_)
      have hq12 : ∀ k, k < 379 → s2_11 k = (zf [s2_7, (zf [f 0, f 1, s2_5, f 3, f 4, f 5, f 6, f 7]) 1, (zf [f 0, f 1, s2_5, f 3, f 4, f 5, f 6, f 7]) 2, (zf [f 0, f 1, s2_5, f 3, f 4, f 5, f 6, f 7]) 3, (zf [f 0, f 1, s2_5, f 3, f 4, f 5, f 6, f 7]) 4, (zf [f 0, f 1, s2_5, f 3, f 4, f 5, f 6, f 7]) 5, (zf [f 0, f 1, s2_5, f 3, f 4, f 5, f 6, f 7]) 6, (zf [f 0, f 1, s2_5, f 3, f 4, f 5, f 6, f 7]) 7]) 2 k := hq12
      have hP : va_P g.1 vwCl (List.flatten [bObj g o a 0 hi ac tp ba en tA fl de iD iO tU, bArr g a (zf [s2_11, (zf [s2_7, (zf [f 0, f 1, s2_5, f 3, f 4, f 5, f 6, f 7]) 1, (zf [f 0, f 1, s2_5, f 3, f 4, f 5, f 6, f 7]) 2, (zf [f 0, f 1, s2_5, f 3, f 4, f 5, f 6, f 7]) 3, (zf [f 0, f 1, s2_5, f 3, f 4, f 5, f 6, f 7]) 4, (zf [f 0, f 1, s2_5, f 3, f 4, f 5, f 6, f 7]) 5, (zf [f 0, f 1, s2_5, f 3, f 4, f 5, f 6, f 7]) 6, (zf [f 0, f 1, s2_5, f 3, f 4, f 5, f 6, f 7]) 7]) 1, (zf [s2_7, (zf [f 0, f 1, s2_5, f 3, f 4, f 5, f 6, f 7]) 1, (zf [f 0, f 1, s2_5, f 3, f 4, f 5, f 6, f 7]) 2, (zf [f 0, f 1, s2_5, f 3, f 4, f 5, f 6, f 7]) 3, (zf [f 0, f 1, s2_5, f 3, f 4, f 5, f 6, f 7]) 4, (zf [f 0, f 1, s2_5, f 3, f 4, f 5, f 6, f 7]) 5, (zf [f 0, f 1, s2_5, f 3, f 4, f 5, f 6, f 7]) 6, (zf [f 0, f 1, s2_5, f 3, f 4, f 5, f 6, f 7]) 7]) 2, (zf [s2_7, (zf [f 0, f 1, s2_5, f 3, f 4, f 5, f 6, f 7]) 1, (zf [f 0, f 1, s2_5, f 3, f 4, f 5, f 6, f 7]) 2, (zf [f 0, f 1, s2_5, f 3, f 4, f 5, f 6, f 7]) 3, (zf [f 0, f 1, s2_5, f 3, f 4, f 5, f 6, f 7]) 4, (zf [f 0, f 1, s2_5, f 3, f 4, f 5, f 6, f 7]) 5, (zf [f 0, f 1, s2_5, f 3, f 4, f 5, f 6, f 7]) 6, (zf [f 0, f 1, s2_5, f 3, f 4, f 5, f 6, f 7]) 7]) 3, (zf [s2_7, (zf [f 0, f 1, s2_5, f 3, f 4, f 5, f 6, f 7]) 1, (zf [f 0, f 1, s2_5, f 3, f 4, f 5, f 6, f 7]) 2, (zf [f 0, f 1, s2_5, f 3, f 4, f 5, f 6, f 7]) 3, (zf [f 0, f 1, s2_5, f 3, f 4, f 5, f 6, f 7]) 4, (zf [f 0, f 1, s2_5, f 3, f 4, f 5, f 6, f 7]) 5, (zf [f 0, f 1, s2_5, f 3, f 4, f 5, f 6, f 7]) 6, (zf [f 0, f 1, s2_5, f 3, f 4, f 5, f 6, f 7]) 7]) 4, (zf [s2_7, (zf [f 0, f 1, s2_5, f 3, f 4, f 5, f 6, f 7]) 1, (zf [f 0, f 1, s2_5, f 3, f 4, f 5, f 6, f 7]) 2, (zf [f 0, f 1, s2_5, f 3, f 4, f 5, f 6, f 7]) 3, (zf [f 0, f 1, s2_5, f 3, f 4, f 5, f 6, f 7]) 4, (zf [f 0, f 1, s2_5, f 3, f 4, f 5, f 6, f 7]) 5, (zf [f 0, f 1, s2_5, f 3, f 4, f 5, f 6, f 7]) 6, (zf [f 0, f 1, s2_5, f 3, f 4, f 5, f 6, f 7]) 7]) 5, (zf [s2_7, (zf [f 0, f 1, s2_5, f 3, f 4, f 5, f 6, f 7]) 1, (zf [f 0, f 1, s2_5, f 3, f 4, f 5, f 6, f 7]) 2, (zf [f 0, f 1, s2_5, f 3, f 4, f 5, f 6, f 7]) 3, (zf [f 0, f 1, s2_5, f 3, f 4, f 5, f 6, f 7]) 4, (zf [f 0, f 1, s2_5, f 3, f 4, f 5, f 6, f 7]) 5, (zf [f 0, f 1, s2_5, f 3, f 4, f 5, f 6, f 7]) 6, (zf [f 0, f 1, s2_5, f 3, f 4, f 5, f 6, f 7]) 7]) 6, (zf [s2_7, (zf [f 0, f 1, s2_5, f 3, f 4, f 5, f 6, f 7]) 1, (zf [f 0, f 1, s2_5, f 3, f 4, f 5, f 6, f 7]) 2, (zf [f 0, f 1, s2_5, f 3, f 4, f 5, f 6, f 7]) 3, (zf [f 0, f 1, s2_5, f 3, f 4, f 5, f 6, f 7]) 4, (zf [f 0, f 1, s2_5, f 3, f 4, f 5, f 6, f 7]) 5, (zf [f 0, f 1, s2_5, f 3, f 4, f 5, f 6, f 7]) 6, (zf [f 0, f 1, s2_5, f 3, f 4, f 5, f 6, f 7]) 7]) 7])]) H := hP
      have hD : va_D A (List.flatten [bObj g o a 0 hi ac tp ba en tA fl de iD iO tU, bArr g a (zf [s2_11, (zf [s2_7, (zf [f 0, f 1, s2_5, f 3, f 4, f 5, f 6, f 7]) 1, (zf [f 0, f 1, s2_5, f 3, f 4, f 5, f 6, f 7]) 2, (zf [f 0, f 1, s2_5, f 3, f 4, f 5, f 6, f 7]) 3, (zf [f 0, f 1, s2_5, f 3, f 4, f 5, f 6, f 7]) 4, (zf [f 0, f 1, s2_5, f 3, f 4, f 5, f 6, f 7]) 5, (zf [f 0, f 1, s2_5, f 3, f 4, f 5, f 6, f 7]) 6, (zf [f 0, f 1, s2_5, f 3, f 4, f 5, f 6, f 7]) 7]) 1, (zf [s2_7, (zf [f 0, f 1, s2_5, f 3, f 4, f 5, f 6, f 7]) 1, (zf [f 0, f 1, s2_5, f 3, f 4, f 5, f 6, f 7]) 2, (zf [f 0, f 1, s2_5, f 3, f 4, f 5, f 6, f 7]) 3, (zf [f 0, f 1, s2_5, f 3, f 4, f 5, f 6, f 7]) 4, (zf [f 0, f 1, s2_5, f 3, f 4, f 5, f 6, f 7]) 5, (zf [f 0, f 1, s2_5, f 3, f 4, f 5, f 6, f 7]) 6, (zf [f 0, f 1, s2_5, f 3, f 4, f 5, f 6, f 7]) 7]) 2, (zf [s2_7, (zf [f 0, f 1, s2_5, f 3, f 4, f 5, f 6, f 7]) 1, (zf [f 0, f 1, s2_5, f 3, f 4, f 5, f 6, f 7]) 2, (zf [f 0, f 1, s2_5, f 3, f 4, f 5, f 6, f 7]) 3, (zf [f 0, f 1, s2_5, f 3, f 4, f 5, f 6, f 7]) 4, (zf [f 0, f 1, s2_5, f 3, f 4, f 5, f 6, f 7]) 5, (zf [f 0, f 1, s2_5, f 3, f 4, f 5, f 6, f 7]) 6, (zf [f 0, f 1, s2_5, f 3, f 4, f 5, f 6, f 7]) 7]) 3, (zf [s2_7, (zf [f 0, f 1, s2_5, f 3, f 4, f 5, f 6, f 7]) 1, (zf [f 0, f 1, s2_5, f 3, f 4, f 5, f 6, f 7]) 2, (zf [f 0, f 1, s2_5, f 3, f 4, f 5, f 6, f 7]) 3, (zf [f 0, f 1, s2_5, f 3, f 4, f 5, f 6, f 7]) 4, (zf [f 0, f 1, s2_5, f 3, f 4, f 5, f 6, f 7]) 5, (zf [f 0, f 1, s2_5, f 3, f 4, f 5, f 6, f 7]) 6, (zf [f 0, f 1, s2_5, f 3, f 4, f 5, f 6, f 7]) 7]) 4, (zf [s2_7, (zf [f 0, f 1, s2_5, f 3, f 4, f 5, f 6, f 7]) 1, (zf [f 0, f 1, s2_5, f 3, f 4, f 5, f 6, f 7]) 2, (zf [f 0, f 1, s2_5, f 3, f 4, f 5, f 6, f 7]) 3, (zf [f 0, f 1, s2_5, f 3, f 4, f 5, f 6, f 7]) 4, (zf [f 0, f 1, s2_5, f 3, f 4, f 5, f 6, f 7]) 5, (zf [f 0, f 1, s2_5, f 3, f 4, f 5, f 6, f 7]) 6, (zf [f 0, f 1, s2_5, f 3, f 4, f 5, f 6, f 7]) 7]) 5, (zf [s2_7, (zf [f 0, f 1, s2_5, f 3, f 4, f 5, f 6, f 7]) 1, (zf [f 0, f 1, s2_5, f 3, f 4, f 5, f 6, f 7]) 2, (zf [f 0, f 1, s2_5, f 3, f 4, f 5, f 6, f 7]) 3, (zf [f 0, f 1, s2_5, f 3, f 4, f 5, f 6, f 7]) 4, (zf [f 0, f 1, s2_5, f 3, f 4, f 5, f 6, f 7]) 5, (zf [f 0, f 1, s2_5, f 3, f 4, f 5, f 6, f 7]) 6, (zf [f 0, f 1, s2_5, f 3, f 4, f 5, f 6, f 7]) 7]) 6, (zf [s2_7, (zf [f 0, f 1, s2_5, f 3, f 4, f 5, f 6, f 7]) 1, (zf [f 0, f 1, s2_5, f 3, f 4, f 5, f 6, f 7]) 2, (zf [f 0, f 1, s2_5, f 3, f 4, f 5, f 6, f 7]) 3, (zf [f 0, f 1, s2_5, f 3, f 4, f 5, f 6, f 7]) 4, (zf [f 0, f 1, s2_5, f 3, f 4, f 5, f 6, f 7]) 5, (zf [f 0, f 1, s2_5, f 3, f 4, f 5, f 6, f 7]) 6, (zf [f 0, f 1, s2_5, f 3, f 4, f 5, f 6, f 7]) 7]) 7])]) := hD
      refine W.widen (k := 0) (n := 0) (Nat.le_of_ble_eq_true rfl) (Nat.le_of_ble_eq_true rfl) ?_
      refine W.eq (g2 := F0 m 62 ls []) rfl ?_
      refine lv_iload hx hb dX12_then_62 (lv_at hl 0 rfl) ?_
      have hP : va_P g.1 vwCl (List.flatten [bObj g o a 0 hi ac tp ba en tA fl de iD iO tU, bArr g a (zf [s2_11, (zf [s2_7, (zf [f 0, f 1, s2_5, f 3, f 4, f 5, f 6, f 7]) 1, (zf [f 0, f 1, s2_5, f 3, f 4, f 5, f 6, f 7]) 2, (zf [f 0, f 1, s2_5, f 3, f 4, f 5, f 6, f 7]) 3, (zf [f 0, f 1, s2_5, f 3, f 4, f 5, f 6, f 7]) 4, (zf [f 0, f 1, s2_5, f 3, f 4, f 5, f 6, f 7]) 5, (zf [f 0, f 1, s2_5, f 3, f 4, f 5, f 6, f 7]) 6, (zf [f 0, f 1, s2_5, f 3, f 4, f 5, f 6, f 7]) 7]) 1, (zf [s2_7, (zf [f 0, f 1, s2_5, f 3, f 4, f 5, f 6, f 7]) 1, (zf [f 0, f 1, s2_5, f 3, f 4, f 5, f 6, f 7]) 2, (zf [f 0, f 1, s2_5, f 3, f 4, f 5, f 6, f 7]) 3, (zf [f 0, f 1, s2_5, f 3, f 4, f 5, f 6, f 7]) 4, (zf [f 0, f 1, s2_5, f 3, f 4, f 5, f 6, f 7]) 5, (zf [f 0, f 1, s2_5, f 3, f 4, f 5, f 6, f 7]) 6, (zf [f 0, f 1, s2_5, f 3, f 4, f 5, f 6, f 7]) 7]) 2, (zf [s2_7, (zf [f 0, f 1, s2_5, f 3, f 4, f 5, f 6, f 7]) 1, (zf [f 0, f 1, s2_5, f 3, f 4, f 5, f 6, f 7]) 2, (zf [f 0, f 1, s2_5, f 3, f 4, f 5, f 6, f 7]) 3, (zf [f 0, f 1, s2_5, f 3, f 4, f 5, f 6, f 7]) 4, (zf [f 0, f 1, s2_5, f 3, f 4, f 5, f 6, f 7]) 5, (zf [f 0, f 1, s2_5, f 3, f 4, f 5, f 6, f 7]) 6, (zf [f 0, f 1, s2_5, f 3, f 4, f 5, f 6, f 7]) 7]) 3, (zf [s2_7, (zf [f 0, f 1, s2_5, f 3, f 4, f 5, f 6, f 7]) 1, (zf [f 0, f 1, s2_5, f 3, f 4, f 5, f 6, f 7]) 2, (zf [f 0, f 1, s2_5, f 3, f 4, f 5, f 6, f 7]) 3, (zf [f 0, f 1, s2_5, f 3, f 4, f 5, f 6, f 7]) 4, (zf [f 0, f 1, s2_5, f 3, f 4, f 5, f 6, f 7]) 5, (zf [f 0, f 1, s2_5, f 3, f 4, f 5, f 6, f 7]) 6, (zf [f 0, f 1, s2_5, f 3, f 4, f 5, f 6, f 7]) 7]) 4, (zf [s2_7, (zf [f 0, f 1, s2_5, f 3, f 4, f 5, f 6, f 7]) 1, (zf [f 0, f 1, s2_5, f 3, f 4, f 5, f 6, f 7]) 2, (zf [f 0, f 1, s2_5, f 3, f 4, f 5, f 6, f 7]) 3, (zf [f 0, f 1, s2_5, f 3, f 4, f 5, f 6, f 7]) 4, (zf [f 0, f 1, s2_5, f 3, f 4, f 5, f 6, f 7]) 5, (zf [f 0, f 1, s2_5, f 3, f 4, f 5, f 6, f 7]) 6, (zf [f 0, f 1, s2_5, f 3, f 4, f 5, f 6, f 7]) 7]) 5, (zf [s2_7, (zf [f 0, f 1, s2_5, f 3, f 4, f 5, f 6, f 7]) 1, (zf [f 0, f 1, s2_5, f 3, f 4, f 5, f 6, f 7]) 2, (zf [f 0, f 1, s2_5, f 3, f 4, f 5, f 6, f 7]) 3, (zf [f 0, f 1, s2_5, f 3, f 4, f 5, f 6, f 7]) 4, (zf [f 0, f 1, s2_5, f 3, f 4, f 5, f 6, f 7]) 5, (zf [f 0, f 1, s2_5, f 3, f 4, f 5, f 6, f 7]) 6, (zf [f 0, f 1, s2_5, f 3, f 4, f 5, f 6, f 7]) 7]) 6, (zf [s2_7, (zf [f 0, f 1, s2_5, f 3, f 4, f 5, f 6, f 7]) 1, (zf [f 0, f 1, s2_5, f 3, f 4, f 5, f 6, f 7]) 2, (zf [f 0, f 1, s2_5, f 3, f 4, f 5, f 6, f 7]) 3, (zf [f 0, f 1, s2_5, f 3, f 4, f 5, f 6, f 7]) 4, (zf [f 0, f 1, s2_5, f 3, f 4, f 5, f 6, f 7]) 5, (zf [f 0, f 1, s2_5, f 3, f 4, f 5, f 6, f 7]) 6, (zf [f 0, f 1, s2_5, f 3, f 4, f 5, f 6, f 7]) 7]) 7])]) H := hP
      have hD : va_D A (List.flatten [bObj g o a 0 hi ac tp ba en tA fl de iD iO tU, bArr g a (zf [s2_11, (zf [s2_7, (zf [f 0, f 1, s2_5, f 3, f 4, f 5, f 6, f 7]) 1, (zf [f 0, f 1, s2_5, f 3, f 4, f 5, f 6, f 7]) 2, (zf [f 0, f 1, s2_5, f 3, f 4, f 5, f 6, f 7]) 3, (zf [f 0, f 1, s2_5, f 3, f 4, f 5, f 6, f 7]) 4, (zf [f 0, f 1, s2_5, f 3, f 4, f 5, f 6, f 7]) 5, (zf [f 0, f 1, s2_5, f 3, f 4, f 5, f 6, f 7]) 6, (zf [f 0, f 1, s2_5, f 3, f 4, f 5, f 6, f 7]) 7]) 1, (zf [s2_7, (zf [f 0, f 1, s2_5, f 3, f 4, f 5, f 6, f 7]) 1, (zf [f 0, f 1, s2_5, f 3, f 4, f 5, f 6, f 7]) 2, (zf [f 0, f 1, s2_5, f 3, f 4, f 5, f 6, f 7]) 3, (zf [f 0, f 1, s2_5, f 3, f 4, f 5, f 6, f 7]) 4, (zf [f 0, f 1, s2_5, f 3, f 4, f 5, f 6, f 7]) 5, (zf [f 0, f 1, s2_5, f 3, f 4, f 5, f 6, f 7]) 6, (zf [f 0, f 1, s2_5, f 3, f 4, f 5, f 6, f 7]) 7]) 2, (zf [s2_7, (zf [f 0, f 1, s2_5, f 3, f 4, f 5, f 6, f 7]) 1, (zf [f 0, f 1, s2_5, f 3, f 4, f 5, f 6, f 7]) 2, (zf [f 0, f 1, s2_5, f 3, f 4, f 5, f 6, f 7]) 3, (zf [f 0, f 1, s2_5, f 3, f 4, f 5, f 6, f 7]) 4, (zf [f 0, f 1, s2_5, f 3, f 4, f 5, f 6, f 7]) 5, (zf [f 0, f 1, s2_5, f 3, f 4, f 5, f 6, f 7]) 6, (zf [f 0, f 1, s2_5, f 3, f 4, f 5, f 6, f 7]) 7]) 3, (zf [s2_7, (zf [f 0, f 1, s2_5, f 3, f 4, f 5, f 6, f 7]) 1, (zf [f 0, f 1, s2_5, f 3, f 4, f 5, f 6, f 7]) 2, (zf [f 0, f 1, s2_5, f 3, f 4, f 5, f 6, f 7]) 3, (zf [f 0, f 1, s2_5, f 3, f 4, f 5, f 6, f 7]) 4, (zf [f 0, f 1, s2_5, f 3, f 4, f 5, f 6, f 7]) 5, (zf [f 0, f 1, s2_5, f 3, f 4, f 5, f 6, f 7]) 6, (zf [f 0, f 1, s2_5, f 3, f 4, f 5, f 6, f 7]) 7]) 4, (zf [s2_7, (zf [f 0, f 1, s2_5, f 3, f 4, f 5, f 6, f 7]) 1, (zf [f 0, f 1, s2_5, f 3, f 4, f 5, f 6, f 7]) 2, (zf [f 0, f 1, s2_5, f 3, f 4, f 5, f 6, f 7]) 3, (zf [f 0, f 1, s2_5, f 3, f 4, f 5, f 6, f 7]) 4, (zf [f 0, f 1, s2_5, f 3, f 4, f 5, f 6, f 7]) 5, (zf [f 0, f 1, s2_5, f 3, f 4, f 5, f 6, f 7]) 6, (zf [f 0, f 1, s2_5, f 3, f 4, f 5, f 6, f 7]) 7]) 5, (zf [s2_7, (zf [f 0, f 1, s2_5, f 3, f 4, f 5, f 6, f 7]) 1, (zf [f 0, f 1, s2_5, f 3, f 4, f 5, f 6, f 7]) 2, (zf [f 0, f 1, s2_5, f 3, f 4, f 5, f 6, f 7]) 3, (zf [f 0, f 1, s2_5, f 3, f 4, f 5, f 6, f 7]) 4, (zf [f 0, f 1, s2_5, f 3, f 4, f 5, f 6, f 7]) 5, (zf [f 0, f 1, s2_5, f 3, f 4, f 5, f 6, f 7]) 6, (zf [f 0, f 1, s2_5, f 3, f 4, f 5, f 6, f 7]) 7]) 6, (zf [s2_7, (zf [f 0, f 1, s2_5, f 3, f 4, f 5, f 6, f 7]) 1, (zf [f 0, f 1, s2_5, f 3, f 4, f 5, f 6, f 7]) 2, (zf [f 0, f 1, s2_5, f 3, f 4, f 5, f 6, f 7]) 3, (zf [f 0, f 1, s2_5, f 3, f 4, f 5, f 6, f 7]) 4, (zf [f 0, f 1, s2_5, f 3, f 4, f 5, f 6, f 7]) 5, (zf [f 0, f 1, s2_5, f 3, f 4, f 5, f 6, f 7]) 6, (zf [f 0, f 1, s2_5, f 3, f 4, f 5, f 6, f 7]) 7]) 7])]) := hD
      obtain ⟨hP, hD⟩ := zord (g := g) (Bs' := [bObj g o a 0 hi ac tp ba en tA fl de iD iO tU]) [0] rfl rfl hP hD
      exact mret_i hx hb hr hlocks hS (Nat.le_of_ble_eq_true rfl) (Nat.le_of_ble_eq_true rfl) dX12_then_64 (0, hi, ac, tp, ba, en, tA, fl, de, iD, iO, tU, 0) rfl (Or.inr ⟨rfl, hq2c, (if_pos cB).symm⟩) hP hD
    · skip
      refine lv_aload_n hx hb dX12_then_43 rfl (lv_at hl 1 rfl) ?_
      refine va_get (D := g.1) (ci := 10) (v := .ref (a 0)) (C := RX12) (T := TX12) (N := 20) hx hb hts izRX12 hown hK hP 0 rfl rfl 1 (by decide) (hts _ k815) (fun _ h9 => h9) rfl dX12_then_44 ?_
      refine lv_iconst (v := 5) hx hb dX12_then_47 (by decide) ?_
      refine va_iald hx hb hK hP 1 0 rfl rfl (zin rfl) dX12_then_48 ?_
      refine ztop (r := s2_7 5) rfl ?_
      refine ztop (r := 20) hm.2.2.2.2.1 ?_
      refine lv_goto (tgt := 56) hx hb dX12_then_49 (by decide) ?_
      refine lv_istore (lv' := [(4, .int 20), (3, .int 0), (0, .ref o), (1, .int n), (2, .int c9)]) hx hb dX12_then_56 hl (by decide) rfl (fun ls hl => ?_)
      refine lv_aload_n hx hb dX12_then_58 rfl (lv_at hl 2 rfl) ?_
      refine mcallV (g := g) (q0 := 0) (ci := 10) (As := []) (rest := []) St hK hT hA hP hD hS hl.1 [0, 1] [] rfl rfl rfl (m_comesBack l g o a 0 hi ac tp ba en tA fl de iD iO tU (zf [s2_7, (zf [f 0, f 1, s2_5, f 3, f 4, f 5, f 6, f 7]) 1, (zf [f 0, f 1, s2_5, f 3, f 4, f 5, f 6, f 7]) 2, (zf [f 0, f 1, s2_5, f 3, f 4, f 5, f 6, f 7]) 3, (zf [f 0, f 1, s2_5, f 3, f 4, f 5, f 6, f 7]) 4, (zf [f 0, f 1, s2_5, f 3, f 4, f 5, f 6, f 7]) 5, (zf [f 0, f 1, s2_5, f 3, f 4, f 5, f 6, f 7]) 6, (zf [f 0, f 1, s2_5, f 3, f 4, f 5, f 6, f 7]) 7]) ) (cwV 0 hts (zgL (zl4 k977 k978 k979 k833) k966) rfl rfl rfl (by decide +kernel) ⟨Nat.le_of_ble_eq_true rfl, Nat.le_of_ble_eq_true rfl⟩) rfl rfl rfl rfl (Nat.le_of_ble_eq_true rfl) dX12_then_59 ⟨(Nat.le_of_ble_eq_true rfl), (Nat.le_of_ble_eq_true rfl)⟩ (fun s2_13 H locs hq14 hP hD hS => ?_)
      have hq14 : ∀ k, k < 379 → s2_13 k = (zf [s2_7, (zf [f 0, f 1, s2_5, f 3, f 4, f 5, f 6, f 7]) 1, (zf [f 0, f 1, s2_5, f 3, f 4, f 5, f 6, f 7]) 2, (zf [f 0, f 1, s2_5, f 3, f 4, f 5, f 6, f 7]) 3, (zf [f 0, f 1, s2_5, f 3, f 4, f 5, f 6, f 7]) 4, (zf [f 0, f 1, s2_5, f 3, f 4, f 5, f 6, f 7]) 5, (zf [f 0, f 1, s2_5, f 3, f 4, f 5, f 6, f 7]) 6, (zf [f 0, f 1, s2_5, f 3, f 4, f 5, f 6, f 7]) 7]) 2 k := hq14
      have hP : va_P g.1 vwCl (List.flatten [bObj g o a 0 hi ac tp ba en tA fl de iD iO tU, bArr g a (zf [s2_13, (zf [s2_7, (zf [f 0, f 1, s2_5, f 3, f 4, f 5, f 6, f 7]) 1, (zf [f 0, f 1, s2_5, f 3, f 4, f 5, f 6, f 7]) 2, (zf [f 0, f 1, s2_5, f 3, f 4, f 5, f 6, f 7]) 3, (zf [f 0, f 1, s2_5, f 3, f 4, f 5, f 6, f 7]) 4, (zf [f 0, f 1, s2_5, f 3, f 4, f 5, f 6, f 7]) 5, (zf [f 0, f 1, s2_5, f 3, f 4, f 5, f 6, f 7]) 6, (zf [f 0, f 1, s2_5, f 3, f 4, f 5, f 6, f 7]) 7]) 1, (zf [s2_7, (zf [f 0, f 1, s2_5, f 3, f 4, f 5, f 6, f 7]) 1, (zf [f 0, f 1, s2_5, f 3, f 4, f 5, f 6, f 7]) 2, (zf [f 0, f 1, s2_5, f 3, f 4, f 5, f 6, f 7]) 3, (zf [f 0, f 1, s2_5, f 3, f 4, f 5, f 6, f 7]) 4, (zf [f 0, f 1, s2_5, f 3, f 4, f 5, f 6, f 7]) 5, (zf [f 0, f 1, s2_5, f 3, f 4, f 5, f 6, f 7]) 6, (zf [f 0, f 1, s2_5, f 3, f 4, f 5, f 6, f 7]) 7]) 2, (zf [s2_7, (zf [f 0, f 1, s2_5, f 3, f 4, f 5, f 6, f 7]) 1, (zf [f 0, f 1, s2_5, f 3, f 4, f 5, f 6, f 7]) 2, (zf [f 0, f 1, s2_5, f 3, f 4, f 5, f 6, f 7]) 3, (zf [f 0, f 1, s2_5, f 3, f 4, f 5, f 6, f 7]) 4, (zf [f 0, f 1, s2_5, f 3, f 4, f 5, f 6, f 7]) 5, (zf [f 0, f 1, s2_5, f 3, f 4, f 5, f 6, f 7]) 6, (zf [f 0, f 1, s2_5, f 3, f 4, f 5, f 6, f 7]) 7]) 3, (zf [s2_7, (zf [f 0, f 1, s2_5, f 3, f 4, f 5, f 6, f 7]) 1, (zf [f 0, f 1, s2_5, f 3, f 4, f 5, f 6, f 7]) 2, (zf [f 0, f 1, s2_5, f 3, f 4, f 5, f 6, f 7]) 3, (zf [f 0, f 1, s2_5, f 3, f 4, f 5, f 6, f 7]) 4, (zf [f 0, f 1, s2_5, f 3, f 4, f 5, f 6, f 7]) 5, (zf [f 0, f 1, s2_5, f 3, f 4, f 5, f 6, f 7]) 6, (zf [f 0, f 1, s2_5, f 3, f 4, f 5, f 6, f 7]) 7]) 4, (zf [s2_7, (zf [f 0, f 1, s2_5, f 3, f 4, f 5, f 6, f 7]) 1, (zf [f 0, f 1, s2_5, f 3, f 4, f 5, f 6, f 7]) 2, (zf [f 0, f 1, s2_5, f 3, f 4, f 5, f 6, f 7]) 3, (zf [f 0, f 1, s2_5, f 3, f 4, f 5, f 6, f 7]) 4, (zf [f 0, f 1, s2_5, f 3, f 4, f 5, f 6, f 7]) 5, (zf [f 0, f 1, s2_5, f 3, f 4, f 5, f 6, f 7]) 6, (zf [f 0, f 1, s2_5, f 3, f 4, f 5, f 6, f 7]) 7]) 5, (zf [s2_7, (zf [f 0, f 1, s2_5, f 3, f 4, f 5, f 6, f 7]) 1, (zf [f 0, f 1, s2_5, f 3, f 4, f 5, f 6, f 7]) 2, (zf [f 0, f 1, s2_5, f 3, f 4, f 5, f 6, f 7]) 3, (zf [f 0, f 1, s2_5, f 3, f 4, f 5, f 6, f 7]) 4, (zf [f 0, f 1, s2_5, f 3, f 4, f 5, f 6, f 7]) 5, (zf [f 0, f 1, s2_5, f 3, f 4, f 5, f 6, f 7]) 6, (zf [f 0, f 1, s2_5, f 3, f 4, f 5, f 6, f 7]) 7]) 6, (zf [s2_7, (zf [f 0, f 1, s2_5, f 3, f 4, f 5, f 6, f 7]) 1, (zf [f 0, f 1, s2_5, f 3, f 4, f 5, f 6, f 7]) 2, (zf [f 0, f 1, s2_5, f 3, f 4, f 5, f 6, f 7]) 3, (zf [f 0, f 1, s2_5, f 3, f 4, f 5, f 6, f 7]) 4, (zf [f 0, f 1, s2_5, f 3, f 4, f 5, f 6, f 7]) 5, (zf [f 0, f 1, s2_5, f 3, f 4, f 5, f 6, f 7]) 6, (zf [f 0, f 1, s2_5, f 3, f 4, f 5, f 6, f 7]) 7]) 7])]) H := hP
      have hD : va_D A (List.flatten [bObj g o a 0 hi ac tp ba en tA fl de iD iO tU, bArr g a (zf [s2_13, (zf [s2_7, (zf [f 0, f 1, s2_5, f 3, f 4, f 5, f 6, f 7]) 1, (zf [f 0, f 1, s2_5, f 3, f 4, f 5, f 6, f 7]) 2, (zf [f 0, f 1, s2_5, f 3, f 4, f 5, f 6, f 7]) 3, (zf [f 0, f 1, s2_5, f 3, f 4, f 5, f 6, f 7]) 4, (zf [f 0, f 1, s2_5, f 3, f 4, f 5, f 6, f 7]) 5, (zf [f 0, f 1, s2_5, f 3, f 4, f 5, f 6, f 7]) 6, (zf [f 0, f 1, s2_5, f 3, f 4, f 5, f 6, f 7]) 7]) 1, (zf [s2_7, (zf [f 0, f 1, s2_5, f 3, f 4, f 5, f 6, f 7]) 1, (zf [f 0, f 1, s2_5, f 3, f 4, f 5, f 6, f 7]) 2, (zf [f 0, f 1, s2_5, f 3, f 4, f 5, f 6, f 7]) 3, (zf [f 0, f 1, s2_5, f 3, f 4, f 5, f 6, f 7]) 4, (zf [f 0, f 1, s2_5, f 3, f 4, f 5, f 6, f 7]) 5, (zf [f 0, f 1, s2_5, f 3, f 4, f 5, f 6, f 7]) 6, (zf [f 0, f 1, s2_5, f 3, f 4, f 5, f 6, f 7]) 7]) 2, (zf [s2_7, (zf [f 0, f 1, s2_5, f 3, f 4, f 5, f 6, f 7]) 1, (zf [f 0, f 1, s2_5, f 3, f 4, f 5, f 6, f 7]) 2, (zf [f 0, f 1, s2_5, f 3, f 4, f 5, f 6, f 7]) 3, (zf [f 0, f 1, s2_5, f 3, f 4, f 5, f 6, f 7]) 4, (zf [f 0, f 1, s2_5, f 3, f 4, f 5, f 6, f 7]) 5, (zf [f 0, f 1, s2_5, f 3, f 4, f 5, f 6, f 7]) 6, (zf [f 0, f 1, s2_5, f 3, f 4, f 5, f 6, f 7]) 7]) 3, (zf [s2_7, (zf [f 0, f 1, s2_5, f 3, f 4, f 5, f 6, f 7]) 1, (zf [f 0, f 1, s2_5, f 3, f 4, f 5, f 6, f 7]) 2, (zf [f 0, f 1, s2_5, f 3, f 4, f 5, f 6, f 7]) 3, (zf [f 0, f 1, s2_5, f 3, f 4, f 5, f 6, f 7]) 4, (zf [f 0, f 1, s2_5, f 3, f 4, f 5, f 6, f 7]) 5, (zf [f 0, f 1, s2_5, f 3, f 4, f 5, f 6, f 7]) 6, (zf [f 0, f 1, s2_5, f 3, f 4, f 5, f 6, f 7]) 7]) 4, (zf [s2_7, (zf [f 0, f 1, s2_5, f 3, f 4, f 5, f 6, f 7]) 1, (zf [f 0, f 1, s2_5, f 3, f 4, f 5, f 6, f 7]) 2, (zf [f 0, f 1, s2_5, f 3, f 4, f 5, f 6, f 7]) 3, (zf [f 0, f 1, s2_5, f 3, f 4, f 5, f 6, f 7]) 4, (zf [f 0, f 1, s2_5, f 3, f 4, f 5, f 6, f 7]) 5, (zf [f 0, f 1, s2_5, f 3, f 4, f 5, f 6, f 7]) 6, (zf [f 0, f 1, s2_5, f 3, f 4, f 5, f 6, f 7]) 7]) 5, (zf [s2_7, (zf [f 0, f 1, s2_5, f 3, f 4, f 5, f 6, f 7]) 1, (zf [f 0, f 1, s2_5, f 3, f 4, f 5, f 6, f 7]) 2, (zf [f 0, f 1, s2_5, f 3, f 4, f 5, f 6, f 7]) 3, (zf [f 0, f 1, s2_5, f 3, f 4, f 5, f 6, f 7]) 4, (zf [f 0, f 1, s2_5, f 3, f 4, f 5, f 6, f 7]) 5, (zf [f 0, f 1, s2_5, f 3, f 4, f 5, f 6, f 7]) 6, (zf [f 0, f 1, s2_5, f 3, f 4, f 5, f 6, f 7]) 7]) 6, (zf [s2_7, (zf [f 0, f 1, s2_5, f 3, f 4, f 5, f 6, f 7]) 1, (zf [f 0, f 1, s2_5, f 3, f 4, f 5, f 6, f 7]) 2, (zf [f 0, f 1, s2_5, f 3, f 4, f 5, f 6, f 7]) 3, (zf [f 0, f 1, s2_5, f 3, f 4, f 5, f 6, f 7]) 4, (zf [f 0, f 1, s2_5, f 3, f 4, f 5, f 6, f 7]) 5, (zf [f 0, f 1, s2_5, f 3, f 4, f 5, f 6, f 7]) 6, (zf [f 0, f 1, s2_5, f 3, f 4, f 5, f 6, f 7]) 7]) 7])]) := hD
      refine W.widen (k := 0) (n := 0) (Nat.le_of_ble_eq_true rfl) (Nat.le_of_ble_eq_true rfl) ?_
      refine W.eq (g2 := F0 m 62 ls []) rfl ?_
      refine lv_iload hx hb dX12_then_62 (lv_at hl 0 rfl) ?_
      have hP : va_P g.1 vwCl (List.flatten [bObj g o a 0 hi ac tp ba en tA fl de iD iO tU, bArr g a (zf [s2_13, (zf [s2_7, (zf [f 0, f 1, s2_5, f 3, f 4, f 5, f 6, f 7]) 1, (zf [f 0, f 1, s2_5, f 3, f 4, f 5, f 6, f 7]) 2, (zf [f 0, f 1, s2_5, f 3, f 4, f 5, f 6, f 7]) 3, (zf [f 0, f 1, s2_5, f 3, f 4, f 5, f 6, f 7]) 4, (zf [f 0, f 1, s2_5, f 3, f 4, f 5, f 6, f 7]) 5, (zf [f 0, f 1, s2_5, f 3, f 4, f 5, f 6, f 7]) 6, (zf [f 0, f 1, s2_5, f 3, f 4, f 5, f 6, f 7]) 7]) 1, (zf [s2_7, (zf [f 0, f 1, s2_5, f 3, f 4, f 5, f 6, f 7]) 1, (zf [f 0, f 1, s2_5, f 3, f 4, f 5, f 6, f 7]) 2, (zf [f 0, f 1, s2_5, f 3, f 4, f 5, f 6, f 7]) 3, (zf [f 0, f 1, s2_5, f 3, f 4, f 5, f 6, f 7]) 4, (zf [f 0, f 1, s2_5, f 3, f 4, f 5, f 6, f 7]) 5, (zf [f 0, f 1, s2_5, f 3, f 4, f 5, f 6, f 7]) 6, (zf [f 0, f 1, s2_5, f 3, f 4, f 5, f 6, f 7]) 7]) 2, (zf [s2_7, (zf [f 0, f 1, s2_5, f 3, f 4, f 5, f 6, f 7]) 1, (zf [f 0, f 1, s2_5, f 3, f 4, f 5, f 6, f 7]) 2, (zf [f 0, f 1, s2_5, f 3, f 4, f 5, f 6, f 7]) 3, (zf [f 0, f 1, s2_5, f 3, f 4, f 5, f 6, f 7]) 4, (zf [f 0, f 1, s2_5, f 3, f 4, f 5, f 6, f 7]) 5, (zf [f 0, f 1, s2_5, f 3, f 4, f 5, f 6, f 7]) 6, (zf [f 0, f 1, s2_5, f 3, f 4, f 5, f 6, f 7]) 7]) 3, (zf [s2_7, (zf [f 0, f 1, s2_5, f 3, f 4, f 5, f 6, f 7]) 1, (zf [f 0, f 1, s2_5, f 3, f 4, f 5, f 6, f 7]) 2, (zf [f 0, f 1, s2_5, f 3, f 4, f 5, f 6, f 7]) 3, (zf [f 0, f 1, s2_5, f 3, f 4, f 5, f 6, f 7]) 4, (zf [f 0, f 1, s2_5, f 3, f 4, f 5, f 6, f 7]) 5, (zf [f 0, f 1, s2_5, f 3, f 4, f 5, f 6, f 7]) 6, (zf [f 0, f 1, s2_5, f 3, f 4, f 5, f 6, f 7]) 7]) 4, (zf [s2_7, (zf [f 0, f 1, s2_5, f 3, f 4, f 5, f 6, f 7]) 1, (zf [f 0, f 1, s2_5, f 3, f 4, f 5, f 6, f 7]) 2, (zf [f 0, f 1, s2_5, f 3, f 4, f 5, f 6, f 7]) 3, (zf [f 0, f 1, s2_5, f 3, f 4, f 5, f 6, f 7]) 4, (zf [f 0, f 1, s2_5, f 3, f 4, f 5, f 6, f 7]) 5, (zf [f 0, f 1, s2_5, f 3, f 4, f 5, f 6, f 7]) 6, (zf [f 0, f 1, s2_5, f 3, f 4, f 5, f 6, f 7]) 7]) 5, (zf [s2_7, (zf [f 0, f 1, s2_5, f 3, f 4, f 5, f 6, f 7]) 1, (zf [f 0, f 1, s2_5, f 3, f 4, f 5, f 6, f 7]) 2, (zf [f 0, f 1, s2_5, f 3, f 4, f 5, f 6, f 7]) 3, (zf [f 0, f 1, s2_5, f 3, f 4, f 5, f 6, f 7]) 4, (zf [f 0, f 1, s2_5, f 3, f 4, f 5, f 6, f 7]) 5, (zf [f 0, f 1, s2_5, f 3, f 4, f 5, f 6, f 7]) 6, (zf [f 0, f 1, s2_5, f 3, f 4, f 5, f 6, f 7]) 7]) 6, (zf [s2_7, (zf [f 0, f 1, s2_5, f 3, f 4, f 5, f 6, f 7]) 1, (zf [f 0, f 1, s2_5, f 3, f 4, f 5, f 6, f 7]) 2, (zf [f 0, f 1, s2_5, f 3, f 4, f 5, f 6, f 7]) 3, (zf [f 0, f 1, s2_5, f 3, f 4, f 5, f 6, f 7]) 4, (zf [f 0, f 1, s2_5, f 3, f 4, f 5, f 6, f 7]) 5, (zf [f 0, f 1, s2_5, f 3, f 4, f 5, f 6, f 7]) 6, (zf [f 0, f 1, s2_5, f 3, f 4, f 5, f 6, f 7]) 7]) 7])]) H := hP
      have hD : va_D A (List.flatten [bObj g o a 0 hi ac tp ba en tA fl de iD iO tU, bArr g a (zf [s2_13, (zf [s2_7, (zf [f 0, f 1, s2_5, f 3, f 4, f 5, f 6, f 7]) 1, (zf [f 0, f 1, s2_5, f 3, f 4, f 5, f 6, f 7]) 2, (zf [f 0, f 1, s2_5, f 3, f 4, f 5, f 6, f 7]) 3, (zf [f 0, f 1, s2_5, f 3, f 4, f 5, f 6, f 7]) 4, (zf [f 0, f 1, s2_5, f 3, f 4, f 5, f 6, f 7]) 5, (zf [f 0, f 1, s2_5, f 3, f 4, f 5, f 6, f 7]) 6, (zf [f 0, f 1, s2_5, f 3, f 4, f 5, f 6, f 7]) 7]) 1, (zf [s2_7, (zf [f 0, f 1, s2_5, f 3, f 4, f 5, f 6, f 7]) 1, (zf [f 0, f 1, s2_5, f 3, f 4, f 5, f 6, f 7]) 2, (zf [f 0, f 1, s2_5, f 3, f 4, f 5, f 6, f 7]) 3, (zf [f 0, f 1, s2_5, f 3, f 4, f 5, f 6, f 7]) 4, (zf [f 0, f 1, s2_5, f 3, f 4, f 5, f 6, f 7]) 5, (zf [f 0, f 1, s2_5, f 3, f 4, f 5, f 6, f 7]) 6, (zf [f 0, f 1, s2_5, f 3, f 4, f 5, f 6, f 7]) 7]) 2, (zf [s2_7, (zf [f 0, f 1, s2_5, f 3, f 4, f 5, f 6, f 7]) 1, (zf [f 0, f 1, s2_5, f 3, f 4, f 5, f 6, f 7]) 2, (zf [f 0, f 1, s2_5, f 3, f 4, f 5, f 6, f 7]) 3, (zf [f 0, f 1, s2_5, f 3, f 4, f 5, f 6, f 7]) 4, (zf [f 0, f 1, s2_5, f 3, f 4, f 5, f 6, f 7]) 5, (zf [f 0, f 1, s2_5, f 3, f 4, f 5, f 6, f 7]) 6, (zf [f 0, f 1, s2_5, f 3, f 4, f 5, f 6, f 7]) 7]) 3, (zf [s2_7, (zf [f 0, f 1, s2_5, f 3, f 4, f 5, f 6, f 7]) 1, (zf [f 0, f 1, s2_5, f 3, f 4, f 5, f 6, f 7]) 2, (zf [f 0, f 1, s2_5, f 3, f 4, f 5, f 6, f 7]) 3, (zf [f 0, f 1, s2_5, f 3, f 4, f 5, f 6, f 7]) 4, (zf [f 0, f 1, s2_5, f 3, f 4, f 5, f 6, f 7]) 5, (zf [f 0, f 1, s2_5, f 3, f 4, f 5, f 6, f 7]) 6, (zf [f 0, f 1, s2_5, f 3, f 4, f 5, f 6, f 7]) 7]) 4, (zf [s2_7, (zf [f 0, f 1, s2_5, f 3, f 4, f 5, f 6, f 7]) 1, (zf [f 0, f 1, s2_5, f 3, f 4, f 5, f 6, f 7]) 2, (zf [f 0, f 1, s2_5, f 3, f 4, f 5, f 6, f 7]) 3, (zf [f 0, f 1, s2_5, f 3, f 4, f 5, f 6, f 7]) 4, (zf [f 0, f 1, s2_5, f 3, f 4, f 5, f 6, f 7]) 5, (zf [f 0, f 1, s2_5, f 3, f 4, f 5, f 6, f 7]) 6, (zf [f 0, f 1, s2_5, f 3, f 4, f 5, f 6, f 7]) 7]) 5, (zf [s2_7, (zf [f 0, f 1, s2_5, f 3, f 4, f 5, f 6, f 7]) 1, (zf [f 0, f 1, s2_5, f 3, f 4, f 5, f 6, f 7]) 2, (zf [f 0, f 1, s2_5, f 3, f 4, f 5, f 6, f 7]) 3, (zf [f 0, f 1, s2_5, f 3, f 4, f 5, f 6, f 7]) 4, (zf [f 0, f 1, s2_5, f 3, f 4, f 5, f 6, f 7]) 5, (zf [f 0, f 1, s2_5, f 3, f 4, f 5, f 6, f 7]) 6, (zf [f 0, f 1, s2_5, f 3, f 4, f 5, f 6, f 7]) 7]) 6, (zf [s2_7, (zf [f 0, f 1, s2_5, f 3, f 4, f 5, f 6, f 7]) 1, (zf [f 0, f 1, s2_5, f 3, f 4, f 5, f 6, f 7]) 2, (zf [f 0, f 1, s2_5, f 3, f 4, f 5, f 6, f 7]) 3, (zf [f 0, f 1, s2_5, f 3, f 4, f 5, f 6, f 7]) 4, (zf [f 0, f 1, s2_5, f 3, f 4, f 5, f 6, f 7]) 5, (zf [f 0, f 1, s2_5, f 3, f 4, f 5, f 6, f 7]) 6, (zf [f 0, f 1, s2_5, f 3, f 4, f 5, f 6, f 7]) 7]) 7])]) := hD
      obtain ⟨hP, hD⟩ := zord (g := g) (Bs' := [bObj g o a 0 hi ac tp ba en tA fl de iD iO tU]) [0] rfl rfl hP hD
      exact mret_i hx hb hr hlocks hS (Nat.le_of_ble_eq_true rfl) (Nat.le_of_ble_eq_true rfl) dX12_then_64 (0, hi, ac, tp, ba, en, tA, fl, de, iD, iO, tU, 20) rfl (Or.inr ⟨rfl, hq2c, (if_neg cB).symm⟩) hP hD
  · skip
    refine lv_if_ne (tgt := 15) hx hb dX12_then_8 (by decide) (fun c15 => absurd (by decide) c15) (fun _ => ?_)
    refine lv_iconst (v := 1) hx hb dX12_then_11 (by decide) ?_
    refine lv_goto (tgt := 16) hx hb dX12_then_12 (by decide) ?_
    refine va_put (D := g.1) (ci := 10) (v := .int 1) (ty := .int) (C := RX12) (T := TX12) (N := 20) hx hb hts izRX12 tyX12 tyX12_ok nmX12 hown hK hP hD hS 0 rfl rfl 0 (by decide) (hts _ k825) (fun _ h9 => h9) rfl (by decide +kernel) rfl rfl (Nat.le_of_ble_eq_true rfl) dX12_then_16 (fun H locs hP hD hS => ?_)
    have hP : va_P g.1 vwCl (List.flatten [[(o, .inr (10, [.int 1, .ref (a 0), .ref (a 1), .int hi, .ref (a 2), .ref (a 3), .int ac, .ref (a 4), .int tp, .int ba, .int en, .int tA, .int fl, .int de, .ref (a 5), .int iD, .int iO, .int tU, .ref (a 6), .ref (a 7)]))], bArr g a f]) H := hP
    have hD : va_D A (List.flatten [[(o, .inr (10, [.int 1, .ref (a 0), .ref (a 1), .int hi, .ref (a 2), .ref (a 3), .int ac, .ref (a 4), .int tp, .int ba, .int en, .int tA, .int fl, .int de, .ref (a 5), .int iD, .int iO, .int tU, .ref (a 6), .ref (a 7)]))], bArr g a f]) := hD
    refine lv_aload_n hx hb dX12_then_19 rfl (lv_at hl 0 rfl) ?_
    refine va_get (D := g.1) (ci := 10) (v := .int 1) (C := RX12) (T := TX12) (N := 20) hx hb hts izRX12 hown hK hP 0 rfl rfl 0 (by decide) (hts _ k825) (fun _ h9 => h9) rfl dX12_then_20 ?_
    refine lv_if_le (tgt := 28) hx hb dX12_then_23 (by decide) (fun c16 => absurd c16 (by decide)) (fun _ => ?_)
    refine lv_iconst (v := 0) hx hb dX12_then_26 (by decide) ?_
    have hP : va_P g.1 vwCl (List.flatten [bObj g o a 1 hi ac tp ba en tA fl de iD iO tU, bArr g a f]) H := hP
    have hD : va_D A (List.flatten [bObj g o a 1 hi ac tp ba en tA fl de iD iO tU, bArr g a f]) := hD
    obtain ⟨hP, hD⟩ := zord (g := g) (Bs' := [bObj g o a 1 hi ac tp ba en tA fl de iD iO tU]) [0] rfl rfl hP hD
    exact mret_i hx hb hr hlocks hS (Nat.le_of_ble_eq_true rfl) (Nat.le_of_ble_eq_true rfl) dX12_then_27 (1, hi, ac, tp, ba, en, tA, fl, de, iD, iO, tU, 0) rfl (Or.inl ⟨rfl, hq2c⟩) hP hD
set_option maxRecDepth 100000 in
set_option maxHeartbeats 4000000 in
theorem m_falls (l : Launch) (g : zG) (o : Nat) (a : Nat → Nat) (th : Int32) (hi : Int32) (ac : Int32) (tp : Int32) (ba : Int32) (en : Int32) (tA : Int32) (fl : Int32) (de : Int32) (iD : Int32) (iO : Int32) (tU : Int32) (f : Nat → Nat → Int32) (n : Int32) (hm : zMo (f 0)) : zM g l yX12_falls (Cond.code yX12_falls cX12_falls 5 (some .int) :: zB) ({ frames := 2, cells := 0, slots := 0, locals := 48 } : Room) [.ref o, .int n] [bObj g o a th hi ac tp ba en tA fl de iD iO tU, bArr g a f] (fun u : Int32 × Int32 × Int32 × Int32 × Int32 × Int32 × Int32 × Int32 × Int32 × Int32 × Int32 × Int32 × Int32 => (fun (th2 : Int32) (hi2 : Int32) (ac2 : Int32) (tp2 : Int32) (ba2 : Int32) (en2 : Int32) (tA2 : Int32) (fl2 : Int32) (de2 : Int32) (iD2 : Int32) (iO2 : Int32) (tU2 : Int32) (q : Int32) => some (.int q)) (u.1) (u.2.1) (u.2.2.1) (u.2.2.2.1) (u.2.2.2.2.1) (u.2.2.2.2.2.1) (u.2.2.2.2.2.2.1) (u.2.2.2.2.2.2.2.1) (u.2.2.2.2.2.2.2.2.1) (u.2.2.2.2.2.2.2.2.2.1) (u.2.2.2.2.2.2.2.2.2.2.1) (u.2.2.2.2.2.2.2.2.2.2.2.1) (u.2.2.2.2.2.2.2.2.2.2.2.2)) (fun u : Int32 × Int32 × Int32 × Int32 × Int32 × Int32 × Int32 × Int32 × Int32 × Int32 × Int32 × Int32 × Int32 => (fun (th2 : Int32) (hi2 : Int32) (ac2 : Int32) (tp2 : Int32) (ba2 : Int32) (en2 : Int32) (tA2 : Int32) (fl2 : Int32) (de2 : Int32) (iD2 : Int32) (iO2 : Int32) (tU2 : Int32) (q : Int32) => (th2 = 1 ∧ ((n : Int32) < 0 ∨ 100 < (n : Int32))) ∨ (th2 = 0 ∧ (¬ (n : Int32) < 0 ∧ ¬ 100 < (n : Int32)) ∧ q = 0)) (u.1) (u.2.1) (u.2.2.1) (u.2.2.2.1) (u.2.2.2.2.1) (u.2.2.2.2.2.1) (u.2.2.2.2.2.2.1) (u.2.2.2.2.2.2.2.1) (u.2.2.2.2.2.2.2.2.1) (u.2.2.2.2.2.2.2.2.2.1) (u.2.2.2.2.2.2.2.2.2.2.1) (u.2.2.2.2.2.2.2.2.2.2.2.1) (u.2.2.2.2.2.2.2.2.2.2.2.2)) (fun u : Int32 × Int32 × Int32 × Int32 × Int32 × Int32 × Int32 × Int32 × Int32 × Int32 × Int32 × Int32 × Int32 => (fun (th2 : Int32) (hi2 : Int32) (ac2 : Int32) (tp2 : Int32) (ba2 : Int32) (en2 : Int32) (tA2 : Int32) (fl2 : Int32) (de2 : Int32) (iD2 : Int32) (iO2 : Int32) (tU2 : Int32) (q : Int32) => [bObj g o a th2 hi2 ac2 tp2 ba2 en2 tA2 fl2 de2 iD2 iO2 tU2]) (u.1) (u.2.1) (u.2.2.1) (u.2.2.2.1) (u.2.2.2.2.1) (u.2.2.2.2.2.1) (u.2.2.2.2.2.2.1) (u.2.2.2.2.2.2.2.1) (u.2.2.2.2.2.2.2.2.1) (u.2.2.2.2.2.2.2.2.2.1) (u.2.2.2.2.2.2.2.2.2.2.1) (u.2.2.2.2.2.2.2.2.2.2.2.1) (u.2.2.2.2.2.2.2.2.2.2.2.2)) := by
  refine zM.of (cc := cX12_falls) (maxL := 5) (rt := (some .int)) (by decide) rfl (Nat.le_of_ble_eq_true rfl) ?_
  intro p e s m args below meth c A ls St hr hlocks hin hK hT hA hP hD hS hl
  obtain ⟨hx, hb, hml, hown, hts⟩ := id St
  have hl : lv_has ls 5 [(0, .ref o), (1, .int n)] := hl
  refine lv_aload_n hx hb dX12_falls_0 rfl (lv_at hl 0 rfl) ?_
  refine lv_iload_n hx hb dX12_falls_1 rfl (lv_at hl 1 rfl) ?_
  refine lv_iconst (v := 0) hx hb dX12_falls_2 (by decide) ?_
  refine lv_bipush (v := 100) hx hb dX12_falls_3 (by decide) ?_
  refine mcallS (g := g) (As := [.int n, .int 0, .int 100]) (rest := [.ref o]) St hK hT hA hP hD hS hl.1 [] [0, 1] rfl rfl rfl (m_isIn l g n 0 100 ) (va_cwS 3 hts (zgL (zl3 k831 k832 k833) k826) rfl rfl rfl (by decide +kernel) ⟨Nat.le_of_ble_eq_true rfl, Nat.le_of_ble_eq_true rfl⟩) rfl rfl (Nat.le_of_ble_eq_true rfl) dX12_falls_5 ⟨(Nat.le_of_ble_eq_true rfl), (Nat.le_of_ble_eq_true rfl)⟩ (fun q_1 H locs hq2 hP hD hS => ?_)
  have hq2 : (q_1 = 1 ∧ ¬ (n : Int32) < 0 ∧ ¬ 100 < (n : Int32)) ∨ (q_1 = 0 ∧ ((n : Int32) < 0 ∨ 100 < (n : Int32))) := hq2
  have hP : va_P g.1 vwCl (List.flatten [bObj g o a th hi ac tp ba en tA fl de iD iO tU, bArr g a f]) H := hP
  have hD : va_D A (List.flatten [bObj g o a th hi ac tp ba en tA fl de iD iO tU, bArr g a f]) := hD
  refine W.widen (k := 0) (n := 0) (Nat.le_of_ble_eq_true rfl) (Nat.le_of_ble_eq_true rfl) ?_
  refine W.eq (g2 := F0 m 8 ls [.int q_1, .ref o]) rfl ?_
  rcases hq2 with ⟨rfl, hq2c⟩ | ⟨rfl, hq2c⟩
  · skip
    refine lv_if_ne (tgt := 15) hx hb dX12_falls_8 (by decide) (fun _ => ?_) (fun c3 => absurd c3 (by decide))
    refine lv_iconst (v := 0) hx hb dX12_falls_15 (by decide) ?_
    refine va_put (D := g.1) (ci := 10) (v := .int 0) (ty := .int) (C := RX12) (T := TX12) (N := 20) hx hb hts izRX12 tyX12 tyX12_ok nmX12 hown hK hP hD hS 0 rfl rfl 0 (by decide) (hts _ k825) (fun _ h9 => h9) rfl (by decide +kernel) rfl rfl (Nat.le_of_ble_eq_true rfl) dX12_falls_16 (fun H locs hP hD hS => ?_)
    have hP : va_P g.1 vwCl (List.flatten [[(o, .inr (10, [.int 0, .ref (a 0), .ref (a 1), .int hi, .ref (a 2), .ref (a 3), .int ac, .ref (a 4), .int tp, .int ba, .int en, .int tA, .int fl, .int de, .ref (a 5), .int iD, .int iO, .int tU, .ref (a 6), .ref (a 7)]))], bArr g a f]) H := hP
    have hD : va_D A (List.flatten [[(o, .inr (10, [.int 0, .ref (a 0), .ref (a 1), .int hi, .ref (a 2), .ref (a 3), .int ac, .ref (a 4), .int tp, .int ba, .int en, .int tA, .int fl, .int de, .ref (a 5), .int iD, .int iO, .int tU, .ref (a 6), .ref (a 7)]))], bArr g a f]) := hD
    refine lv_aload_n hx hb dX12_falls_19 rfl (lv_at hl 0 rfl) ?_
    refine va_get (D := g.1) (ci := 10) (v := .int 0) (C := RX12) (T := TX12) (N := 20) hx hb hts izRX12 hown hK hP 0 rfl rfl 0 (by decide) (hts _ k825) (fun _ h9 => h9) rfl dX12_falls_20 ?_
    refine lv_if_le (tgt := 28) hx hb dX12_falls_23 (by decide) (fun _ => ?_) (fun c4 => absurd (by decide) c4)
    refine lv_aload_n hx hb dX12_falls_28 rfl (lv_at hl 0 rfl) ?_
    refine lv_iconst (v := 2) hx hb dX12_falls_29 (by decide) ?_
    refine mcallV (g := g) (q0 := 0) (ci := 10) (As := [.int 2]) (rest := []) St hK hT hA hP hD hS hl.1 [0, 1] [] rfl rfl rfl (m_worksOf l g o a 0 hi ac tp ba en tA fl de iD iO tU f 2 (by assumption)) (cwV 1 hts (zgL (zl4 k1002 k1003 k1004 k833) k858) rfl rfl rfl (by decide +kernel) ⟨Nat.le_of_ble_eq_true rfl, Nat.le_of_ble_eq_true rfl⟩) rfl rfl rfl rfl (Nat.le_of_ble_eq_true rfl) dX12_falls_30 ⟨(Nat.le_of_ble_eq_true rfl), (Nat.le_of_ble_eq_true rfl)⟩ (fun _u H locs hq5 hP hD hS => ?_)
    have hP : va_P g.1 vwCl (List.flatten [bObj g o a 0 hi ac tp ba en tA fl de iD iO tU, bArr g a f]) H := hP
    have hD : va_D A (List.flatten [bObj g o a 0 hi ac tp ba en tA fl de iD iO tU, bArr g a f]) := hD
    refine W.widen (k := 0) (n := 0) (Nat.le_of_ble_eq_true rfl) (Nat.le_of_ble_eq_true rfl) ?_
    refine W.eq (g2 := F0 m 33 ls [.int 0]) rfl ?_
    refine lv_istore_n (lv' := [(2, .int 0), (0, .ref o), (1, .int n)]) hx hb dX12_falls_33 rfl hl (by decide) rfl (fun ls hl => ?_)
    refine lv_aload_n hx hb dX12_falls_34 rfl (lv_at hl 1 rfl) ?_
    refine mcallV (g := g) (q0 := 0) (ci := 10) (As := []) (rest := []) St hK hT hA hP hD hS hl.1 [0, 1] [] rfl rfl rfl (m_putsAside l g o a 0 hi ac tp ba en tA fl de iD iO tU f ) (cwV 0 hts (zgL (zl4 k968 k969 k970 k833) k965) rfl rfl rfl (by decide +kernel) ⟨Nat.le_of_ble_eq_true rfl, Nat.le_of_ble_eq_true rfl⟩) rfl rfl rfl rfl (Nat.le_of_ble_eq_true rfl) dX12_falls_35 ⟨(Nat.le_of_ble_eq_true rfl), (Nat.le_of_ble_eq_true rfl)⟩ (fun s2_6 H locs hq7 hP hD hS => ?_)
    have hq7 : ∀ k, k < 379 → s2_6 k = f 0 k := hq7
    have hP : va_P g.1 vwCl (List.flatten [bObj g o a 0 hi ac tp ba en tA fl de iD iO tU, bArr g a (zf [f 0, f 1, s2_6, f 3, f 4, f 5, f 6, f 7])]) H := hP
    have hD : va_D A (List.flatten [bObj g o a 0 hi ac tp ba en tA fl de iD iO tU, bArr g a (zf [f 0, f 1, s2_6, f 3, f 4, f 5, f 6, f 7])]) := hD
    refine W.widen (k := 0) (n := 0) (Nat.le_of_ble_eq_true rfl) (Nat.le_of_ble_eq_true rfl) ?_
    refine W.eq (g2 := F0 m 38 ls []) rfl ?_
    refine lv_aload_n hx hb dX12_falls_38 rfl (lv_at hl 1 rfl) ?_
    refine lv_iload_n hx hb dX12_falls_39 rfl (lv_at hl 2 rfl) ?_
    refine lv_iconst (v := 0) hx hb dX12_falls_40 (by decide) ?_
    refine mcallV (g := g) (q0 := 0) (ci := 10) (As := [.int n, .int 0]) (rest := []) St hK hT hA hP hD hS hl.1 [0, 1] [] rfl rfl rfl (m_goes l g o a 0 hi ac tp ba en tA fl de iD iO tU (zf [f 0, f 1, s2_6, f 3, f 4, f 5, f 6, f 7]) n 0 hm (zrg100 hq2c)) (cwV 2 hts (zgL (zl4 k1056 k1057 k1058 k833) k1027) rfl rfl rfl (by decide +kernel) ⟨Nat.le_of_ble_eq_true rfl, Nat.le_of_ble_eq_true rfl⟩) rfl rfl rfl rfl (Nat.le_of_ble_eq_true rfl) dX12_falls_41 ⟨(Nat.le_of_ble_eq_true rfl), (Nat.le_of_ble_eq_true rfl)⟩ (fun s2_8 H locs hq9 hP hD hS => ?_)
    have hq9 : zMo s2_8 := hq9
    have hP : va_P g.1 vwCl (List.flatten [bObj g o a 0 hi ac tp ba en tA fl de iD iO tU, bArr g a (zf [s2_8, (zf [f 0, f 1, s2_6, f 3, f 4, f 5, f 6, f 7]) 1, (zf [f 0, f 1, s2_6, f 3, f 4, f 5, f 6, f 7]) 2, (zf [f 0, f 1, s2_6, f 3, f 4, f 5, f 6, f 7]) 3, (zf [f 0, f 1, s2_6, f 3, f 4, f 5, f 6, f 7]) 4, (zf [f 0, f 1, s2_6, f 3, f 4, f 5, f 6, f 7]) 5, (zf [f 0, f 1, s2_6, f 3, f 4, f 5, f 6, f 7]) 6, (zf [f 0, f 1, s2_6, f 3, f 4, f 5, f 6, f 7]) 7])]) H := hP
    have hD : va_D A (List.flatten [bObj g o a 0 hi ac tp ba en tA fl de iD iO tU, bArr g a (zf [s2_8, (zf [f 0, f 1, s2_6, f 3, f 4, f 5, f 6, f 7]) 1, (zf [f 0, f 1, s2_6, f 3, f 4, f 5, f 6, f 7]) 2, (zf [f 0, f 1, s2_6, f 3, f 4, f 5, f 6, f 7]) 3, (zf [f 0, f 1, s2_6, f 3, f 4, f 5, f 6, f 7]) 4, (zf [f 0, f 1, s2_6, f 3, f 4, f 5, f 6, f 7]) 5, (zf [f 0, f 1, s2_6, f 3, f 4, f 5, f 6, f 7]) 6, (zf [f 0, f 1, s2_6, f 3, f 4, f 5, f 6, f 7]) 7])]) := hD
    refine W.widen (k := 0) (n := 0) (Nat.le_of_ble_eq_true rfl) (Nat.le_of_ble_eq_true rfl) ?_
    refine W.eq (g2 := F0 m 44 ls [.int 0]) rfl ?_
    have hm := hq9
    refine lv_istore_n (lv' := [(3, .int 0), (2, .int 0), (0, .ref o), (1, .int n)]) hx hb dX12_falls_44 rfl hl (by decide) rfl (fun ls hl => ?_)
    refine lv_aload_n hx hb dX12_falls_45 rfl (lv_at hl 2 rfl) ?_
    refine lv_iconst (v := 2) hx hb dX12_falls_46 (by decide) ?_
    refine mcallV (g := g) (q0 := 0) (ci := 10) (As := [.int 2]) (rest := []) St hK hT hA hP hD hS hl.1 [0, 1] [] rfl rfl rfl (m_worksOf l g o a 0 hi ac tp ba en tA fl de iD iO tU (zf [s2_8, (zf [f 0, f 1, s2_6, f 3, f 4, f 5, f 6, f 7]) 1, (zf [f 0, f 1, s2_6, f 3, f 4, f 5, f 6, f 7]) 2, (zf [f 0, f 1, s2_6, f 3, f 4, f 5, f 6, f 7]) 3, (zf [f 0, f 1, s2_6, f 3, f 4, f 5, f 6, f 7]) 4, (zf [f 0, f 1, s2_6, f 3, f 4, f 5, f 6, f 7]) 5, (zf [f 0, f 1, s2_6, f 3, f 4, f 5, f 6, f 7]) 6, (zf [f 0, f 1, s2_6, f 3, f 4, f 5, f 6, f 7]) 7]) 2 (by assumption)) (cwV 1 hts (zgL (zl4 k1002 k1003 k1004 k833) k858) rfl rfl rfl (by decide +kernel) ⟨Nat.le_of_ble_eq_true rfl, Nat.le_of_ble_eq_true rfl⟩) rfl rfl rfl rfl (Nat.le_of_ble_eq_true rfl) dX12_falls_47 ⟨(Nat.le_of_ble_eq_true rfl), (Nat.le_of_ble_eq_true rfl)⟩ (fun _u H locs hq10 hP hD hS => ?_)
    have hP : va_P g.1 vwCl (List.flatten [bObj g o a 0 hi ac tp ba en tA fl de iD iO tU, bArr g a (zf [s2_8, (zf [f 0, f 1, s2_6, f 3, f 4, f 5, f 6, f 7]) 1, (zf [f 0, f 1, s2_6, f 3, f 4, f 5, f 6, f 7]) 2, (zf [f 0, f 1, s2_6, f 3, f 4, f 5, f 6, f 7]) 3, (zf [f 0, f 1, s2_6, f 3, f 4, f 5, f 6, f 7]) 4, (zf [f 0, f 1, s2_6, f 3, f 4, f 5, f 6, f 7]) 5, (zf [f 0, f 1, s2_6, f 3, f 4, f 5, f 6, f 7]) 6, (zf [f 0, f 1, s2_6, f 3, f 4, f 5, f 6, f 7]) 7])]) H := hP
    have hD : va_D A (List.flatten [bObj g o a 0 hi ac tp ba en tA fl de iD iO tU, bArr g a (zf [s2_8, (zf [f 0, f 1, s2_6, f 3, f 4, f 5, f 6, f 7]) 1, (zf [f 0, f 1, s2_6, f 3, f 4, f 5, f 6, f 7]) 2, (zf [f 0, f 1, s2_6, f 3, f 4, f 5, f 6, f 7]) 3, (zf [f 0, f 1, s2_6, f 3, f 4, f 5, f 6, f 7]) 4, (zf [f 0, f 1, s2_6, f 3, f 4, f 5, f 6, f 7]) 5, (zf [f 0, f 1, s2_6, f 3, f 4, f 5, f 6, f 7]) 6, (zf [f 0, f 1, s2_6, f 3, f 4, f 5, f 6, f 7]) 7])]) := hD
    refine W.widen (k := 0) (n := 0) (Nat.le_of_ble_eq_true rfl) (Nat.le_of_ble_eq_true rfl) ?_
    refine W.eq (g2 := F0 m 50 ls [.int 0]) rfl ?_
    refine lv_iload_n hx hb dX12_falls_50 rfl (lv_at hl 1 rfl) ?_
    refine lv_iconst (v := (-1)) hx hb dX12_falls_51 (by decide) ?_
    refine lv_ixor hx hb dX12_falls_52 ?_
    refine ztop (r := (-1)) (by decide) ?_
    refine lv_iand hx hb dX12_falls_53 ?_
    refine ztop (r := 0) (by decide) ?_
    refine lv_istore (lv' := [(4, .int 0), (3, .int 0), (2, .int 0), (0, .ref o), (1, .int n)]) hx hb dX12_falls_54 hl (by decide) rfl (fun ls hl => ?_)
    refine lv_aload_n hx hb dX12_falls_56 rfl (lv_at hl 3 rfl) ?_
    refine mcallV (g := g) (q0 := 0) (ci := 10) (As := []) (rest := []) St hK hT hA hP hD hS hl.1 [0, 1] [] rfl rfl rfl (m_comesBack l g o a 0 hi ac tp ba en tA fl de iD iO tU (zf [s2_8, (zf [f 0, f 1, s2_6, f 3, f 4, f 5, f 6, f 7]) 1, (zf [f 0, f 1, s2_6, f 3, f 4, f 5, f 6, f 7]) 2, (zf [f 0, f 1, s2_6, f 3, f 4, f 5, f 6, f 7]) 3, (zf [f 0, f 1, s2_6, f 3, f 4, f 5, f 6, f 7]) 4, (zf [f 0, f 1, s2_6, f 3, f 4, f 5, f 6, f 7]) 5, (zf [f 0, f 1, s2_6, f 3, f 4, f 5, f 6, f 7]) 6, (zf [f 0, f 1, s2_6, f 3, f 4, f 5, f 6, f 7]) 7]) ) (cwV 0 hts (zgL (zl4 k977 k978 k979 k833) k966) rfl rfl rfl (by decide +kernel) ⟨Nat.le_of_ble_eq_true rfl, Nat.le_of_ble_eq_true rfl⟩) rfl rfl rfl rfl (Nat.le_of_ble_eq_true rfl) dX12_falls_57 ⟨(Nat.le_of_ble_eq_true rfl), (Nat.le_of_ble_eq_true rfl)⟩ (fun s2_11 H locs hq12 hP hD hS => ?_)
    have hq12 : ∀ k, k < 379 → s2_11 k = (zf [s2_8, (zf [f 0, f 1, s2_6, f 3, f 4, f 5, f 6, f 7]) 1, (zf [f 0, f 1, s2_6, f 3, f 4, f 5, f 6, f 7]) 2, (zf [f 0, f 1, s2_6, f 3, f 4, f 5, f 6, f 7]) 3, (zf [f 0, f 1, s2_6, f 3, f 4, f 5, f 6, f 7]) 4, (zf [f 0, f 1, s2_6, f 3, f 4, f 5, f 6, f 7]) 5, (zf [f 0, f 1, s2_6, f 3, f 4, f 5, f 6, f 7]) 6, (zf [f 0, f 1, s2_6, f 3, f 4, f 5, f 6, f 7]) 7]) 2 k := hq12
    have hP : va_P g.1 vwCl (List.flatten [bObj g o a 0 hi ac tp ba en tA fl de iD iO tU, bArr g a (zf [s2_11, (zf [s2_8, (zf [f 0, f 1, s2_6, f 3, f 4, f 5, f 6, f 7]) 1, (zf [f 0, f 1, s2_6, f 3, f 4, f 5, f 6, f 7]) 2, (zf [f 0, f 1, s2_6, f 3, f 4, f 5, f 6, f 7]) 3, (zf [f 0, f 1, s2_6, f 3, f 4, f 5, f 6, f 7]) 4, (zf [f 0, f 1, s2_6, f 3, f 4, f 5, f 6, f 7]) 5, (zf [f 0, f 1, s2_6, f 3, f 4, f 5, f 6, f 7]) 6, (zf [f 0, f 1, s2_6, f 3, f 4, f 5, f 6, f 7]) 7]) 1, (zf [s2_8, (zf [f 0, f 1, s2_6, f 3, f 4, f 5, f 6, f 7]) 1, (zf [f 0, f 1, s2_6, f 3, f 4, f 5, f 6, f 7]) 2, (zf [f 0, f 1, s2_6, f 3, f 4, f 5, f 6, f 7]) 3, (zf [f 0, f 1, s2_6, f 3, f 4, f 5, f 6, f 7]) 4, (zf [f 0, f 1, s2_6, f 3, f 4, f 5, f 6, f 7]) 5, (zf [f 0, f 1, s2_6, f 3, f 4, f 5, f 6, f 7]) 6, (zf [f 0, f 1, s2_6, f 3, f 4, f 5, f 6, f 7]) 7]) 2, (zf [s2_8, (zf [f 0, f 1, s2_6, f 3, f 4, f 5, f 6, f 7]) 1, (zf [f 0, f 1, s2_6, f 3, f 4, f 5, f 6, f 7]) 2, (zf [f 0, f 1, s2_6, f 3, f 4, f 5, f 6, f 7]) 3, (zf [f 0, f 1, s2_6, f 3, f 4, f 5, f 6, f 7]) 4, (zf [f 0, f 1, s2_6, f 3, f 4, f 5, f 6, f 7]) 5, (zf [f 0, f 1, s2_6, f 3, f 4, f 5, f 6, f 7]) 6, (zf [f 0, f 1, s2_6, f 3, f 4, f 5, f 6, f 7]) 7]) 3, (zf [s2_8, (zf [f 0, f 1, s2_6, f 3, f 4, f 5, f 6, f 7]) 1, (zf [f 0, f 1, s2_6, f 3, f 4, f 5, f 6, f 7]) 2, (zf [f 0, f 1, s2_6, f 3, f 4, f 5, f 6, f 7]) 3, (zf [f 0, f 1, s2_6, f 3, f 4, f 5, f 6, f 7]) 4, (zf [f 0, f 1, s2_6, f 3, f 4, f 5, f 6, f 7]) 5, (zf [f 0, f 1, s2_6, f 3, f 4, f 5, f 6, f 7]) 6, (zf [f 0, f 1, s2_6, f 3, f 4, f 5, f 6, f 7]) 7]) 4, (zf [s2_8, (zf [f 0, f 1, s2_6, f 3, f 4, f 5, f 6, f 7]) 1, (zf [f 0, f 1, s2_6, f 3, f 4, f 5, f 6, f 7]) 2, (zf [f 0, f 1, s2_6, f 3, f 4, f 5, f 6, f 7]) 3, (zf [f 0, f 1, s2_6, f 3, f 4, f 5, f 6, f 7]) 4, (zf [f 0, f 1, s2_6, f 3, f 4, f 5, f 6, f 7]) 5, (zf [f 0, f 1, s2_6, f 3, f 4, f 5, f 6, f 7]) 6, (zf [f 0, f 1, s2_6, f 3, f 4, f 5, f 6, f 7]) 7]) 5, (zf [s2_8, (zf [f 0, f 1, s2_6, f 3, f 4, f 5, f 6, f 7]) 1, (zf [f 0, f 1, s2_6, f 3, f 4, f 5, f 6, f 7]) 2, (zf [f 0, f 1, s2_6, f 3, f 4, f 5, f 6, f 7]) 3, (zf [f 0, f 1, s2_6, f 3, f 4, f 5, f 6, f 7]) 4, (zf [f 0, f 1, s2_6, f 3, f 4, f 5, f 6, f 7]) 5, (zf [f 0, f 1, s2_6, f 3, f 4, f 5, f 6, f 7]) 6, (zf [f 0, f 1, s2_6, f 3, f 4, f 5, f 6, f 7]) 7]) 6, (zf [s2_8, (zf [f 0, f 1, s2_6, f 3, f 4, f 5, f 6, f 7]) 1, (zf [f 0, f 1, s2_6, f 3, f 4, f 5, f 6, f 7]) 2, (zf [f 0, f 1, s2_6, f 3, f 4, f 5, f 6, f 7]) 3, (zf [f 0, f 1, s2_6, f 3, f 4, f 5, f 6, f 7]) 4, (zf [f 0, f 1, s2_6, f 3, f 4, f 5, f 6, f 7]) 5, (zf [f 0, f 1, s2_6, f 3, f 4, f 5, f 6, f 7]) 6, (zf [f 0, f 1, s2_6, f 3, f 4, f 5, f 6, f 7]) 7]) 7])]) H := hP
    have hD : va_D A (List.flatten [bObj g o a 0 hi ac tp ba en tA fl de iD iO tU, bArr g a (zf [s2_11, (zf [s2_8, (zf [f 0, f 1, s2_6, f 3, f 4, f 5, f 6, f 7]) 1, (zf [f 0, f 1, s2_6, f 3, f 4, f 5, f 6, f 7]) 2, (zf [f 0, f 1, s2_6, f 3, f 4, f 5, f 6, f 7]) 3, (zf [f 0, f 1, s2_6, f 3, f 4, f 5, f 6, f 7]) 4, (zf [f 0, f 1, s2_6, f 3, f 4, f 5, f 6, f 7]) 5, (zf [f 0, f 1, s2_6, f 3, f 4, f 5, f 6, f 7]) 6, (zf [f 0, f 1, s2_6, f 3, f 4, f 5, f 6, f 7]) 7]) 1, (zf [s2_8, (zf [f 0, f 1, s2_6, f 3, f 4, f 5, f 6, f 7]) 1, (zf [f 0, f 1, s2_6, f 3, f 4, f 5, f 6, f 7]) 2, (zf [f 0, f 1, s2_6, f 3, f 4, f 5, f 6, f 7]) 3, (zf [f 0, f 1, s2_6, f 3, f 4, f 5, f 6, f 7]) 4, (zf [f 0, f 1, s2_6, f 3, f 4, f 5, f 6, f 7]) 5, (zf [f 0, f 1, s2_6, f 3, f 4, f 5, f 6, f 7]) 6, (zf [f 0, f 1, s2_6, f 3, f 4, f 5, f 6, f 7]) 7]) 2, (zf [s2_8, (zf [f 0, f 1, s2_6, f 3, f 4, f 5, f 6, f 7]) 1, (zf [f 0, f 1, s2_6, f 3, f 4, f 5, f 6, f 7]) 2, (zf [f 0, f 1, s2_6, f 3, f 4, f 5, f 6, f 7]) 3, (zf [f 0, f 1, s2_6, f 3, f 4, f 5, f 6, f 7]) 4, (zf [f 0, f 1, s2_6, f 3, f 4, f 5, f 6, f 7]) 5, (zf [f 0, f 1, s2_6, f 3, f 4, f 5, f 6, f 7]) 6, (zf [f 0, f 1, s2_6, f 3, f 4, f 5, f 6, f 7]) 7]) 3, (zf [s2_8, (zf [f 0, f 1, s2_6, f 3, f 4, f 5, f 6, f 7]) 1, (zf [f 0, f 1, s2_6, f 3, f 4, f 5, f 6, f 7]) 2, (zf [f 0, f 1, s2_6, f 3, f 4, f 5, f 6, f 7]) 3, (zf [f 0, f 1, s2_6, f 3, f 4, f 5, f 6, f 7]) 4, (zf [f 0, f 1, s2_6, f 3, f 4, f 5, f 6, f 7]) 5, (zf [f 0, f 1, s2_6, f 3, f 4, f 5, f 6, f 7]) 6, (zf [f 0, f 1, s2_6, f 3, f 4, f 5, f 6, f 7]) 7]) 4, (zf [s2_8, (zf [f 0, f 1, s2_6, f 3, f 4, f 5, f 6, f 7]) 1, (zf [f 0, f 1, s2_6, f 3, f 4, f 5, f 6, f 7]) 2, (zf [f 0, f 1, s2_6, f 3, f 4, f 5, f 6, f 7]) 3, (zf [f 0, f 1, s2_6, f 3, f 4, f 5, f 6, f 7]) 4, (zf [f 0, f 1, s2_6, f 3, f 4, f 5, f 6, f 7]) 5, (zf [f 0, f 1, s2_6, f 3, f 4, f 5, f 6, f 7]) 6, (zf [f 0, f 1, s2_6, f 3, f 4, f 5, f 6, f 7]) 7]) 5, (zf [s2_8, (zf [f 0, f 1, s2_6, f 3, f 4, f 5, f 6, f 7]) 1, (zf [f 0, f 1, s2_6, f 3, f 4, f 5, f 6, f 7]) 2, (zf [f 0, f 1, s2_6, f 3, f 4, f 5, f 6, f 7]) 3, (zf [f 0, f 1, s2_6, f 3, f 4, f 5, f 6, f 7]) 4, (zf [f 0, f 1, s2_6, f 3, f 4, f 5, f 6, f 7]) 5, (zf [f 0, f 1, s2_6, f 3, f 4, f 5, f 6, f 7]) 6, (zf [f 0, f 1, s2_6, f 3, f 4, f 5, f 6, f 7]) 7]) 6, (zf [s2_8, (zf [f 0, f 1, s2_6, f 3, f 4, f 5, f 6, f 7]) 1, (zf [f 0, f 1, s2_6, f 3, f 4, f 5, f 6, f 7]) 2, (zf [f 0, f 1, s2_6, f 3, f 4, f 5, f 6, f 7]) 3, (zf [f 0, f 1, s2_6, f 3, f 4, f 5, f 6, f 7]) 4, (zf [f 0, f 1, s2_6, f 3, f 4, f 5, f 6, f 7]) 5, (zf [f 0, f 1, s2_6, f 3, f 4, f 5, f 6, f 7]) 6, (zf [f 0, f 1, s2_6, f 3, f 4, f 5, f 6, f 7]) 7]) 7])]) := hD
    refine W.widen (k := 0) (n := 0) (Nat.le_of_ble_eq_true rfl) (Nat.le_of_ble_eq_true rfl) ?_
    refine W.eq (g2 := F0 m 60 ls []) rfl ?_
    refine lv_iload hx hb dX12_falls_60 (lv_at hl 0 rfl) ?_
    have hP : va_P g.1 vwCl (List.flatten [bObj g o a 0 hi ac tp ba en tA fl de iD iO tU, bArr g a (zf [s2_11, (zf [s2_8, (zf [f 0, f 1, s2_6, f 3, f 4, f 5, f 6, f 7]) 1, (zf [f 0, f 1, s2_6, f 3, f 4, f 5, f 6, f 7]) 2, (zf [f 0, f 1, s2_6, f 3, f 4, f 5, f 6, f 7]) 3, (zf [f 0, f 1, s2_6, f 3, f 4, f 5, f 6, f 7]) 4, (zf [f 0, f 1, s2_6, f 3, f 4, f 5, f 6, f 7]) 5, (zf [f 0, f 1, s2_6, f 3, f 4, f 5, f 6, f 7]) 6, (zf [f 0, f 1, s2_6, f 3, f 4, f 5, f 6, f 7]) 7]) 1, (zf [s2_8, (zf [f 0, f 1, s2_6, f 3, f 4, f 5, f 6, f 7]) 1, (zf [f 0, f 1, s2_6, f 3, f 4, f 5, f 6, f 7]) 2, (zf [f 0, f 1, s2_6, f 3, f 4, f 5, f 6, f 7]) 3, (zf [f 0, f 1, s2_6, f 3, f 4, f 5, f 6, f 7]) 4, (zf [f 0, f 1, s2_6, f 3, f 4, f 5, f 6, f 7]) 5, (zf [f 0, f 1, s2_6, f 3, f 4, f 5, f 6, f 7]) 6, (zf [f 0, f 1, s2_6, f 3, f 4, f 5, f 6, f 7]) 7]) 2, (zf [s2_8, (zf [f 0, f 1, s2_6, f 3, f 4, f 5, f 6, f 7]) 1, (zf [f 0, f 1, s2_6, f 3, f 4, f 5, f 6, f 7]) 2, (zf [f 0, f 1, s2_6, f 3, f 4, f 5, f 6, f 7]) 3, (zf [f 0, f 1, s2_6, f 3, f 4, f 5, f 6, f 7]) 4, (zf [f 0, f 1, s2_6, f 3, f 4, f 5, f 6, f 7]) 5, (zf [f 0, f 1, s2_6, f 3, f 4, f 5, f 6, f 7]) 6, (zf [f 0, f 1, s2_6, f 3, f 4, f 5, f 6, f 7]) 7]) 3, (zf [s2_8, (zf [f 0, f 1, s2_6, f 3, f 4, f 5, f 6, f 7]) 1, (zf [f 0, f 1, s2_6, f 3, f 4, f 5, f 6, f 7]) 2, (zf [f 0, f 1, s2_6, f 3, f 4, f 5, f 6, f 7]) 3, (zf [f 0, f 1, s2_6, f 3, f 4, f 5, f 6, f 7]) 4, (zf [f 0, f 1, s2_6, f 3, f 4, f 5, f 6, f 7]) 5, (zf [f 0, f 1, s2_6, f 3, f 4, f 5, f 6, f 7]) 6, (zf [f 0, f 1, s2_6, f 3, f 4, f 5, f 6, f 7]) 7]) 4, (zf [s2_8, (zf [f 0, f 1, s2_6, f 3, f 4, f 5, f 6, f 7]) 1, (zf [f 0, f 1, s2_6, f 3, f 4, f 5, f 6, f 7]) 2, (zf [f 0, f 1, s2_6, f 3, f 4, f 5, f 6, f 7]) 3, (zf [f 0, f 1, s2_6, f 3, f 4, f 5, f 6, f 7]) 4, (zf [f 0, f 1, s2_6, f 3, f 4, f 5, f 6, f 7]) 5, (zf [f 0, f 1, s2_6, f 3, f 4, f 5, f 6, f 7]) 6, (zf [f 0, f 1, s2_6, f 3, f 4, f 5, f 6, f 7]) 7]) 5, (zf [s2_8, (zf [f 0, f 1, s2_6, f 3, f 4, f 5, f 6, f 7]) 1, (zf [f 0, f 1, s2_6, f 3, f 4, f 5, f 6, f 7]) 2, (zf [f 0, f 1, s2_6, f 3, f 4, f 5, f 6, f 7]) 3, (zf [f 0, f 1, s2_6, f 3, f 4, f 5, f 6, f 7]) 4, (zf [f 0, f 1, s2_6, f 3, f 4, f 5, f 6, f 7]) 5, (zf [f 0, f 1, s2_6, f 3, f 4, f 5, f 6, f 7]) 6, (zf [f 0, f 1, s2_6, f 3, f 4, f 5, f 6, f 7]) 7]) 6, (zf [s2_8, (zf [f 0, f 1, s2_6, f 3, f 4, f 5, f 6, f 7]) 1, (zf [f 0, f 1, s2_6, f 3, f 4, f 5, f 6, f 7]) 2, (zf [f 0, f 1, s2_6, f 3, f 4, f 5, f 6, f 7]) 3, (zf [f 0, f 1, s2_6, f 3, f 4, f 5, f 6, f 7]) 4, (zf [f 0, f 1, s2_6, f 3, f 4, f 5, f 6, f 7]) 5, (zf [f 0, f 1, s2_6, f 3, f 4, f 5, f 6, f 7]) 6, (zf [f 0, f 1, s2_6, f 3, f 4, f 5, f 6, f 7]) 7]) 7])]) H := hP
    have hD : va_D A (List.flatten [bObj g o a 0 hi ac tp ba en tA fl de iD iO tU, bArr g a (zf [s2_11, (zf [s2_8, (zf [f 0, f 1, s2_6, f 3, f 4, f 5, f 6, f 7]) 1, (zf [f 0, f 1, s2_6, f 3, f 4, f 5, f 6, f 7]) 2, (zf [f 0, f 1, s2_6, f 3, f 4, f 5, f 6, f 7]) 3, (zf [f 0, f 1, s2_6, f 3, f 4, f 5, f 6, f 7]) 4, (zf [f 0, f 1, s2_6, f 3, f 4, f 5, f 6, f 7]) 5, (zf [f 0, f 1, s2_6, f 3, f 4, f 5, f 6, f 7]) 6, (zf [f 0, f 1, s2_6, f 3, f 4, f 5, f 6, f 7]) 7]) 1, (zf [s2_8, (zf [f 0, f 1, s2_6, f 3, f 4, f 5, f 6, f 7]) 1, (zf [f 0, f 1, s2_6, f 3, f 4, f 5, f 6, f 7]) 2, (zf [f 0, f 1, s2_6, f 3, f 4, f 5, f 6, f 7]) 3, (zf [f 0, f 1, s2_6, f 3, f 4, f 5, f 6, f 7]) 4, (zf [f 0, f 1, s2_6, f 3, f 4, f 5, f 6, f 7]) 5, (zf [f 0, f 1, s2_6, f 3, f 4, f 5, f 6, f 7]) 6, (zf [f 0, f 1, s2_6, f 3, f 4, f 5, f 6, f 7]) 7]) 2, (zf [s2_8, (zf [f 0, f 1, s2_6, f 3, f 4, f 5, f 6, f 7]) 1, (zf [f 0, f 1, s2_6, f 3, f 4, f 5, f 6, f 7]) 2, (zf [f 0, f 1, s2_6, f 3, f 4, f 5, f 6, f 7]) 3, (zf [f 0, f 1, s2_6, f 3, f 4, f 5, f 6, f 7]) 4, (zf [f 0, f 1, s2_6, f 3, f 4, f 5, f 6, f 7]) 5, (zf [f 0, f 1, s2_6, f 3, f 4, f 5, f 6, f 7]) 6, (zf [f 0, f 1, s2_6, f 3, f 4, f 5, f 6, f 7]) 7]) 3, (zf [s2_8, (zf [f 0, f 1, s2_6, f 3, f 4, f 5, f 6, f 7]) 1, (zf [f 0, f 1, s2_6, f 3, f 4, f 5, f 6, f 7]) 2, (zf [f 0, f 1, s2_6, f 3, f 4, f 5, f 6, f 7]) 3, (zf [f 0, f 1, s2_6, f 3, f 4, f 5, f 6, f 7]) 4, (zf [f 0, f 1, s2_6, f 3, f 4, f 5, f 6, f 7]) 5, (zf [f 0, f 1, s2_6, f 3, f 4, f 5, f 6, f 7]) 6, (zf [f 0, f 1, s2_6, f 3, f 4, f 5, f 6, f 7]) 7]) 4, (zf [s2_8, (zf [f 0, f 1, s2_6, f 3, f 4, f 5, f 6, f 7]) 1, (zf [f 0, f 1, s2_6, f 3, f 4, f 5, f 6, f 7]) 2, (zf [f 0, f 1, s2_6, f 3, f 4, f 5, f 6, f 7]) 3, (zf [f 0, f 1, s2_6, f 3, f 4, f 5, f 6, f 7]) 4, (zf [f 0, f 1, s2_6, f 3, f 4, f 5, f 6, f 7]) 5, (zf [f 0, f 1, s2_6, f 3, f 4, f 5, f 6, f 7]) 6, (zf [f 0, f 1, s2_6, f 3, f 4, f 5, f 6, f 7]) 7]) 5, (zf [s2_8, (zf [f 0, f 1, s2_6, f 3, f 4, f 5, f 6, f 7]) 1, (zf [f 0, f 1, s2_6, f 3, f 4, f 5, f 6, f 7]) 2, (zf [f 0, f 1, s2_6, f 3, f 4, f 5, f 6, f 7]) 3, (zf [f 0, f 1, s2_6, f 3, f 4, f 5, f 6, f 7]) 4, (zf [f 0, f 1, s2_6, f 3, f 4, f 5, f 6, f 7]) 5, (zf [f 0, f 1, s2_6, f 3, f 4, f 5, f 6, f 7]) 6, (zf [f 0, f 1, s2_6, f 3, f 4, f 5, f 6, f 7]) 7]) 6, (zf [s2_8, (zf [f 0, f 1, s2_6, f 3, f 4, f 5, f 6, f 7]) 1, (zf [f 0, f 1, s2_6, f 3, f 4, f 5, f 6, f 7]) 2, (zf [f 0, f 1, s2_6, f 3, f 4, f 5, f 6, f 7]) 3, (zf [f 0, f 1, s2_6, f 3, f 4, f 5, f 6, f 7]) 4, (zf [f 0, f 1, s2_6, f 3, f 4, f 5, f 6, f 7]) 5, (zf [f 0, f 1, s2_6, f 3, f 4, f 5, f 6, f 7]) 6, (zf [f 0, f 1, s2_6, f 3, f 4, f 5, f 6, f 7]) 7]) 7])]) := hD
    obtain ⟨hP, hD⟩ := zord (g := g) (Bs' := [bObj g o a 0 hi ac tp ba en tA fl de iD iO tU]) [0] rfl rfl hP hD
    exact mret_i hx hb hr hlocks hS (Nat.le_of_ble_eq_true rfl) (Nat.le_of_ble_eq_true rfl) dX12_falls_62 (0, hi, ac, tp, ba, en, tA, fl, de, iD, iO, tU, 0) rfl (Or.inr ⟨rfl, hq2c, rfl⟩) hP hD
  · skip
    refine lv_if_ne (tgt := 15) hx hb dX12_falls_8 (by decide) (fun c13 => absurd (by decide) c13) (fun _ => ?_)
    refine lv_iconst (v := 1) hx hb dX12_falls_11 (by decide) ?_
    refine lv_goto (tgt := 16) hx hb dX12_falls_12 (by decide) ?_
    refine va_put (D := g.1) (ci := 10) (v := .int 1) (ty := .int) (C := RX12) (T := TX12) (N := 20) hx hb hts izRX12 tyX12 tyX12_ok nmX12 hown hK hP hD hS 0 rfl rfl 0 (by decide) (hts _ k825) (fun _ h9 => h9) rfl (by decide +kernel) rfl rfl (Nat.le_of_ble_eq_true rfl) dX12_falls_16 (fun H locs hP hD hS => ?_)
    have hP : va_P g.1 vwCl (List.flatten [[(o, .inr (10, [.int 1, .ref (a 0), .ref (a 1), .int hi, .ref (a 2), .ref (a 3), .int ac, .ref (a 4), .int tp, .int ba, .int en, .int tA, .int fl, .int de, .ref (a 5), .int iD, .int iO, .int tU, .ref (a 6), .ref (a 7)]))], bArr g a f]) H := hP
    have hD : va_D A (List.flatten [[(o, .inr (10, [.int 1, .ref (a 0), .ref (a 1), .int hi, .ref (a 2), .ref (a 3), .int ac, .ref (a 4), .int tp, .int ba, .int en, .int tA, .int fl, .int de, .ref (a 5), .int iD, .int iO, .int tU, .ref (a 6), .ref (a 7)]))], bArr g a f]) := hD
    refine lv_aload_n hx hb dX12_falls_19 rfl (lv_at hl 0 rfl) ?_
    refine va_get (D := g.1) (ci := 10) (v := .int 1) (C := RX12) (T := TX12) (N := 20) hx hb hts izRX12 hown hK hP 0 rfl rfl 0 (by decide) (hts _ k825) (fun _ h9 => h9) rfl dX12_falls_20 ?_
    refine lv_if_le (tgt := 28) hx hb dX12_falls_23 (by decide) (fun c14 => absurd c14 (by decide)) (fun _ => ?_)
    refine lv_iconst (v := 0) hx hb dX12_falls_26 (by decide) ?_
    have hP : va_P g.1 vwCl (List.flatten [bObj g o a 1 hi ac tp ba en tA fl de iD iO tU, bArr g a f]) H := hP
    have hD : va_D A (List.flatten [bObj g o a 1 hi ac tp ba en tA fl de iD iO tU, bArr g a f]) := hD
    obtain ⟨hP, hD⟩ := zord (g := g) (Bs' := [bObj g o a 1 hi ac tp ba en tA fl de iD iO tU]) [0] rfl rfl hP hD
    exact mret_i hx hb hr hlocks hS (Nat.le_of_ble_eq_true rfl) (Nat.le_of_ble_eq_true rfl) dX12_falls_27 (1, hi, ac, tp, ba, en, tA, fl, de, iD, iO, tU, 0) rfl (Or.inl ⟨rfl, hq2c⟩) hP hD
set_option maxRecDepth 100000 in
set_option maxHeartbeats 4000000 in
theorem m_days (l : Launch) (g : zG) (o : Nat) (a : Nat → Nat) (th : Int32) (hi : Int32) (tp : Int32) (ba : Int32) (en : Int32) (tA : Int32) (fl : Int32) (de : Int32) (iD : Int32) (iO : Int32) (tU : Int32) (f : Nat → Nat → Int32) (n : Int32) (hm : zMo (f 0)) : zM g l yX12_days (Cond.code yX12_days cX12_days 2 (some .int) :: zB) ({ frames := 2, cells := 0, slots := 0, locals := 48 } : Room) [.ref o, .int n] [bObj g o a th hi 0 tp ba en tA fl de iD iO tU, bArr g a f] (fun u : Int32 × Int32 × Int32 × Int32 × Int32 × Int32 × Int32 × Int32 × Int32 × Int32 × Int32 × Int32 × Int32 => (fun (th2 : Int32) (hi2 : Int32) (ac2 : Int32) (tp2 : Int32) (ba2 : Int32) (en2 : Int32) (tA2 : Int32) (fl2 : Int32) (de2 : Int32) (iD2 : Int32) (iO2 : Int32) (tU2 : Int32) (q : Int32) => some (.int q)) (u.1) (u.2.1) (u.2.2.1) (u.2.2.2.1) (u.2.2.2.2.1) (u.2.2.2.2.2.1) (u.2.2.2.2.2.2.1) (u.2.2.2.2.2.2.2.1) (u.2.2.2.2.2.2.2.2.1) (u.2.2.2.2.2.2.2.2.2.1) (u.2.2.2.2.2.2.2.2.2.2.1) (u.2.2.2.2.2.2.2.2.2.2.2.1) (u.2.2.2.2.2.2.2.2.2.2.2.2)) (fun u : Int32 × Int32 × Int32 × Int32 × Int32 × Int32 × Int32 × Int32 × Int32 × Int32 × Int32 × Int32 × Int32 => (fun (th2 : Int32) (hi2 : Int32) (ac2 : Int32) (tp2 : Int32) (ba2 : Int32) (en2 : Int32) (tA2 : Int32) (fl2 : Int32) (de2 : Int32) (iD2 : Int32) (iO2 : Int32) (tU2 : Int32) (q : Int32) => (th2 = 1 ∧ ((n : Int32) < 1 ∨ 60 < (n : Int32))) ∨ (th2 = 0 ∧ (¬ (n : Int32) < 1 ∧ ¬ 60 < (n : Int32)) ∧ q = 0)) (u.1) (u.2.1) (u.2.2.1) (u.2.2.2.1) (u.2.2.2.2.1) (u.2.2.2.2.2.1) (u.2.2.2.2.2.2.1) (u.2.2.2.2.2.2.2.1) (u.2.2.2.2.2.2.2.2.1) (u.2.2.2.2.2.2.2.2.2.1) (u.2.2.2.2.2.2.2.2.2.2.1) (u.2.2.2.2.2.2.2.2.2.2.2.1) (u.2.2.2.2.2.2.2.2.2.2.2.2)) (fun u : Int32 × Int32 × Int32 × Int32 × Int32 × Int32 × Int32 × Int32 × Int32 × Int32 × Int32 × Int32 × Int32 => (fun (th2 : Int32) (hi2 : Int32) (ac2 : Int32) (tp2 : Int32) (ba2 : Int32) (en2 : Int32) (tA2 : Int32) (fl2 : Int32) (de2 : Int32) (iD2 : Int32) (iO2 : Int32) (tU2 : Int32) (q : Int32) => [bObj g o a th2 hi2 ac2 tp2 ba2 en2 tA2 fl2 de2 iD2 iO2 tU2]) (u.1) (u.2.1) (u.2.2.1) (u.2.2.2.1) (u.2.2.2.2.1) (u.2.2.2.2.2.1) (u.2.2.2.2.2.2.1) (u.2.2.2.2.2.2.2.1) (u.2.2.2.2.2.2.2.2.1) (u.2.2.2.2.2.2.2.2.2.1) (u.2.2.2.2.2.2.2.2.2.2.1) (u.2.2.2.2.2.2.2.2.2.2.2.1) (u.2.2.2.2.2.2.2.2.2.2.2.2)) := by
  refine zM.of (cc := cX12_days) (maxL := 2) (rt := (some .int)) (by decide) rfl (Nat.le_of_ble_eq_true rfl) ?_
  intro p e s m args below meth c A ls St hr hlocks hin hK hT hA hP hD hS hl
  obtain ⟨hx, hb, hml, hown, hts⟩ := id St
  have hl : lv_has ls 2 [(0, .ref o), (1, .int n)] := hl
  refine lv_aload_n hx hb dX12_days_0 rfl (lv_at hl 0 rfl) ?_
  refine lv_iload_n hx hb dX12_days_1 rfl (lv_at hl 1 rfl) ?_
  refine lv_iconst (v := 1) hx hb dX12_days_2 (by decide) ?_
  refine lv_bipush (v := 60) hx hb dX12_days_3 (by decide) ?_
  refine mcallS (g := g) (As := [.int n, .int 1, .int 60]) (rest := [.ref o]) St hK hT hA hP hD hS hl.1 [] [0, 1] rfl rfl rfl (m_isIn l g n 1 60 ) (va_cwS 3 hts (zgL (zl3 k831 k832 k833) k826) rfl rfl rfl (by decide +kernel) ⟨Nat.le_of_ble_eq_true rfl, Nat.le_of_ble_eq_true rfl⟩) rfl rfl (Nat.le_of_ble_eq_true rfl) dX12_days_5 ⟨(Nat.le_of_ble_eq_true rfl), (Nat.le_of_ble_eq_true rfl)⟩ (fun q_1 H locs hq2 hP hD hS => ?_)
  have hq2 : (q_1 = 1 ∧ ¬ (n : Int32) < 1 ∧ ¬ 60 < (n : Int32)) ∨ (q_1 = 0 ∧ ((n : Int32) < 1 ∨ 60 < (n : Int32))) := hq2
  have hP : va_P g.1 vwCl (List.flatten [bObj g o a th hi 0 tp ba en tA fl de iD iO tU, bArr g a f]) H := hP
  have hD : va_D A (List.flatten [bObj g o a th hi 0 tp ba en tA fl de iD iO tU, bArr g a f]) := hD
  refine W.widen (k := 0) (n := 0) (Nat.le_of_ble_eq_true rfl) (Nat.le_of_ble_eq_true rfl) ?_
  refine W.eq (g2 := F0 m 8 ls [.int q_1, .ref o]) rfl ?_
  rcases hq2 with ⟨rfl, hq2c⟩ | ⟨rfl, hq2c⟩
  · skip
    refine lv_if_ne (tgt := 15) hx hb dX12_days_8 (by decide) (fun _ => ?_) (fun c3 => absurd c3 (by decide))
    refine lv_iconst (v := 0) hx hb dX12_days_15 (by decide) ?_
    refine va_put (D := g.1) (ci := 10) (v := .int 0) (ty := .int) (C := RX12) (T := TX12) (N := 20) hx hb hts izRX12 tyX12 tyX12_ok nmX12 hown hK hP hD hS 0 rfl rfl 0 (by decide) (hts _ k825) (fun _ h9 => h9) rfl (by decide +kernel) rfl rfl (Nat.le_of_ble_eq_true rfl) dX12_days_16 (fun H locs hP hD hS => ?_)
    have hP : va_P g.1 vwCl (List.flatten [[(o, .inr (10, [.int 0, .ref (a 0), .ref (a 1), .int hi, .ref (a 2), .ref (a 3), .int 0, .ref (a 4), .int tp, .int ba, .int en, .int tA, .int fl, .int de, .ref (a 5), .int iD, .int iO, .int tU, .ref (a 6), .ref (a 7)]))], bArr g a f]) H := hP
    have hD : va_D A (List.flatten [[(o, .inr (10, [.int 0, .ref (a 0), .ref (a 1), .int hi, .ref (a 2), .ref (a 3), .int 0, .ref (a 4), .int tp, .int ba, .int en, .int tA, .int fl, .int de, .ref (a 5), .int iD, .int iO, .int tU, .ref (a 6), .ref (a 7)]))], bArr g a f]) := hD
    refine lv_aload_n hx hb dX12_days_19 rfl (lv_at hl 0 rfl) ?_
    refine va_get (D := g.1) (ci := 10) (v := .int 0) (C := RX12) (T := TX12) (N := 20) hx hb hts izRX12 hown hK hP 0 rfl rfl 0 (by decide) (hts _ k825) (fun _ h9 => h9) rfl dX12_days_20 ?_
    refine lv_if_le (tgt := 28) hx hb dX12_days_23 (by decide) (fun _ => ?_) (fun c4 => absurd (by decide) c4)
    refine lv_aload_n hx hb dX12_days_28 rfl (lv_at hl 0 rfl) ?_
    refine mcallV (g := g) (q0 := 0) (ci := 10) (As := []) (rest := []) St hK hT hA hP hD hS hl.1 [0, 1] [] rfl rfl rfl (m_remembers0 l g o a 0 hi tp ba en tA fl de iD iO tU f ) (cwV 0 hts (zgL (zl4 k1046 k1047 k1048 k833) k1045) rfl rfl rfl (by decide +kernel) ⟨Nat.le_of_ble_eq_true rfl, Nat.le_of_ble_eq_true rfl⟩) rfl rfl rfl rfl (Nat.le_of_ble_eq_true rfl) dX12_days_29 ⟨(Nat.le_of_ble_eq_true rfl), (Nat.le_of_ble_eq_true rfl)⟩ (fun s2_5 H locs hq6 hP hD hS => ?_)
    have hP : va_P g.1 vwCl (List.flatten [bObj g o a 0 hi 1 tp ba en tA fl de iD iO tU, bArr g a (zf [f 0, f 1, f 2, s2_5, f 4, f 5, f 6, f 7])]) H := hP
    have hD : va_D A (List.flatten [bObj g o a 0 hi 1 tp ba en tA fl de iD iO tU, bArr g a (zf [f 0, f 1, f 2, s2_5, f 4, f 5, f 6, f 7])]) := hD
    refine W.widen (k := 0) (n := 0) (Nat.le_of_ble_eq_true rfl) (Nat.le_of_ble_eq_true rfl) ?_
    refine W.eq (g2 := F0 m 32 ls []) rfl ?_
    refine lv_aload_n hx hb dX12_days_32 rfl (lv_at hl 0 rfl) ?_
    refine lv_iload_n hx hb dX12_days_33 rfl (lv_at hl 1 rfl) ?_
    refine lv_iconst (v := 1) hx hb dX12_days_34 (by decide) ?_
    refine mcallV (g := g) (q0 := 0) (ci := 10) (As := [.int n, .int 1]) (rest := []) St hK hT hA hP hD hS hl.1 [0, 1] [] rfl rfl rfl (m_goes l g o a 0 hi 1 tp ba en tA fl de iD iO tU (zf [f 0, f 1, f 2, s2_5, f 4, f 5, f 6, f 7]) n 1 hm (zrg1 hq2c)) (cwV 2 hts (zgL (zl4 k1056 k1057 k1058 k833) k1027) rfl rfl rfl (by decide +kernel) ⟨Nat.le_of_ble_eq_true rfl, Nat.le_of_ble_eq_true rfl⟩) rfl rfl rfl rfl (Nat.le_of_ble_eq_true rfl) dX12_days_35 ⟨(Nat.le_of_ble_eq_true rfl), (Nat.le_of_ble_eq_true rfl)⟩ (fun s2_7 H locs hq8 hP hD hS => ?_)
    have hq8 : zMo s2_7 := hq8
    have hP : va_P g.1 vwCl (List.flatten [bObj g o a 0 hi 1 tp ba en tA fl de iD iO tU, bArr g a (zf [s2_7, (zf [f 0, f 1, f 2, s2_5, f 4, f 5, f 6, f 7]) 1, (zf [f 0, f 1, f 2, s2_5, f 4, f 5, f 6, f 7]) 2, (zf [f 0, f 1, f 2, s2_5, f 4, f 5, f 6, f 7]) 3, (zf [f 0, f 1, f 2, s2_5, f 4, f 5, f 6, f 7]) 4, (zf [f 0, f 1, f 2, s2_5, f 4, f 5, f 6, f 7]) 5, (zf [f 0, f 1, f 2, s2_5, f 4, f 5, f 6, f 7]) 6, (zf [f 0, f 1, f 2, s2_5, f 4, f 5, f 6, f 7]) 7])]) H := hP
    have hD : va_D A (List.flatten [bObj g o a 0 hi 1 tp ba en tA fl de iD iO tU, bArr g a (zf [s2_7, (zf [f 0, f 1, f 2, s2_5, f 4, f 5, f 6, f 7]) 1, (zf [f 0, f 1, f 2, s2_5, f 4, f 5, f 6, f 7]) 2, (zf [f 0, f 1, f 2, s2_5, f 4, f 5, f 6, f 7]) 3, (zf [f 0, f 1, f 2, s2_5, f 4, f 5, f 6, f 7]) 4, (zf [f 0, f 1, f 2, s2_5, f 4, f 5, f 6, f 7]) 5, (zf [f 0, f 1, f 2, s2_5, f 4, f 5, f 6, f 7]) 6, (zf [f 0, f 1, f 2, s2_5, f 4, f 5, f 6, f 7]) 7])]) := hD
    refine W.widen (k := 0) (n := 0) (Nat.le_of_ble_eq_true rfl) (Nat.le_of_ble_eq_true rfl) ?_
    refine W.eq (g2 := F0 m 38 ls [.int 0]) rfl ?_
    have hm := hq8
    have hP : va_P g.1 vwCl (List.flatten [bObj g o a 0 hi 1 tp ba en tA fl de iD iO tU, bArr g a (zf [s2_7, (zf [f 0, f 1, f 2, s2_5, f 4, f 5, f 6, f 7]) 1, (zf [f 0, f 1, f 2, s2_5, f 4, f 5, f 6, f 7]) 2, (zf [f 0, f 1, f 2, s2_5, f 4, f 5, f 6, f 7]) 3, (zf [f 0, f 1, f 2, s2_5, f 4, f 5, f 6, f 7]) 4, (zf [f 0, f 1, f 2, s2_5, f 4, f 5, f 6, f 7]) 5, (zf [f 0, f 1, f 2, s2_5, f 4, f 5, f 6, f 7]) 6, (zf [f 0, f 1, f 2, s2_5, f 4, f 5, f 6, f 7]) 7])]) H := hP
    have hD : va_D A (List.flatten [bObj g o a 0 hi 1 tp ba en tA fl de iD iO tU, bArr g a (zf [s2_7, (zf [f 0, f 1, f 2, s2_5, f 4, f 5, f 6, f 7]) 1, (zf [f 0, f 1, f 2, s2_5, f 4, f 5, f 6, f 7]) 2, (zf [f 0, f 1, f 2, s2_5, f 4, f 5, f 6, f 7]) 3, (zf [f 0, f 1, f 2, s2_5, f 4, f 5, f 6, f 7]) 4, (zf [f 0, f 1, f 2, s2_5, f 4, f 5, f 6, f 7]) 5, (zf [f 0, f 1, f 2, s2_5, f 4, f 5, f 6, f 7]) 6, (zf [f 0, f 1, f 2, s2_5, f 4, f 5, f 6, f 7]) 7])]) := hD
    obtain ⟨hP, hD⟩ := zord (g := g) (Bs' := [bObj g o a 0 hi 1 tp ba en tA fl de iD iO tU]) [0] rfl rfl hP hD
    exact mret_i hx hb hr hlocks hS (Nat.le_of_ble_eq_true rfl) (Nat.le_of_ble_eq_true rfl) dX12_days_38 (0, hi, 1, tp, ba, en, tA, fl, de, iD, iO, tU, 0) rfl (Or.inr ⟨rfl, hq2c, rfl⟩) hP hD
  · skip
    refine lv_if_ne (tgt := 15) hx hb dX12_days_8 (by decide) (fun c9 => absurd (by decide) c9) (fun _ => ?_)
    refine lv_iconst (v := 1) hx hb dX12_days_11 (by decide) ?_
    refine lv_goto (tgt := 16) hx hb dX12_days_12 (by decide) ?_
    refine va_put (D := g.1) (ci := 10) (v := .int 1) (ty := .int) (C := RX12) (T := TX12) (N := 20) hx hb hts izRX12 tyX12 tyX12_ok nmX12 hown hK hP hD hS 0 rfl rfl 0 (by decide) (hts _ k825) (fun _ h9 => h9) rfl (by decide +kernel) rfl rfl (Nat.le_of_ble_eq_true rfl) dX12_days_16 (fun H locs hP hD hS => ?_)
    have hP : va_P g.1 vwCl (List.flatten [[(o, .inr (10, [.int 1, .ref (a 0), .ref (a 1), .int hi, .ref (a 2), .ref (a 3), .int 0, .ref (a 4), .int tp, .int ba, .int en, .int tA, .int fl, .int de, .ref (a 5), .int iD, .int iO, .int tU, .ref (a 6), .ref (a 7)]))], bArr g a f]) H := hP
    have hD : va_D A (List.flatten [[(o, .inr (10, [.int 1, .ref (a 0), .ref (a 1), .int hi, .ref (a 2), .ref (a 3), .int 0, .ref (a 4), .int tp, .int ba, .int en, .int tA, .int fl, .int de, .ref (a 5), .int iD, .int iO, .int tU, .ref (a 6), .ref (a 7)]))], bArr g a f]) := hD
    refine lv_aload_n hx hb dX12_days_19 rfl (lv_at hl 0 rfl) ?_
    refine va_get (D := g.1) (ci := 10) (v := .int 1) (C := RX12) (T := TX12) (N := 20) hx hb hts izRX12 hown hK hP 0 rfl rfl 0 (by decide) (hts _ k825) (fun _ h9 => h9) rfl dX12_days_20 ?_
    refine lv_if_le (tgt := 28) hx hb dX12_days_23 (by decide) (fun c10 => absurd c10 (by decide)) (fun _ => ?_)
    refine lv_iconst (v := 0) hx hb dX12_days_26 (by decide) ?_
    have hP : va_P g.1 vwCl (List.flatten [bObj g o a 1 hi 0 tp ba en tA fl de iD iO tU, bArr g a f]) H := hP
    have hD : va_D A (List.flatten [bObj g o a 1 hi 0 tp ba en tA fl de iD iO tU, bArr g a f]) := hD
    obtain ⟨hP, hD⟩ := zord (g := g) (Bs' := [bObj g o a 1 hi 0 tp ba en tA fl de iD iO tU]) [0] rfl rfl hP hD
    exact mret_i hx hb hr hlocks hS (Nat.le_of_ble_eq_true rfl) (Nat.le_of_ble_eq_true rfl) dX12_days_27 (1, hi, 0, tp, ba, en, tA, fl, de, iD, iO, tU, 0) rfl (Or.inl ⟨rfl, hq2c⟩) hP hD
