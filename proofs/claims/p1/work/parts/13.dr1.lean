theorem zjge {n : Int32} {N j : Nat} (hn : n = nI N) (hN : N < 2 ^ 31) (c : n ≤ nI j) : N ≤ j := by
  rcases Nat.lt_or_ge j N with q | q
  · rw [hn] at c
    exact absurd c (nI_ge q hN)
  · exact q
theorem znegK : ∀ N, N < 21 → -(nI N) ≤ 0 := by decide
theorem zneg {n : Int32} {N : Nat} (hn : n = nI N) (h : N ≤ 20) : -n ≤ 0 := by rw [hn]; exact znegK N (by omega)
def zfn (r : Int32) : Int32 := if zod r 0 < 9900 then if zod r 1 < 9900 then if zod r 2 < 9900 then if zod r 3 < 9900 then if zod r 4 < 9900 then if zod r 5 < 9900 then if zod r 6 < 9900 then if zod r 7 < 9900 then if zod r 8 < 9900 then if zod r 9 < 9900 then if zod r 10 < 9900 then if zod r 11 < 9900 then if zod r 12 < 9900 then -1 else 12 else 11 else 10 else 9 else 8 else 7 else 6 else 5 else 4 else 3 else 2 else 1 else 0
def bDR (g : zG) (x : Nat) (ta : Nat) (o : Nat) (lo : Nat) (go : Nat) (tt : Nat) (lt : Nat) (mo : Nat) (fo : Nat) (ro : Nat) (fl9 : Int32) : va_W := [(x, .inr (9, [.ref ta, .ref o, .ref lo, .ref go, .ref tt, .ref lt, .ref mo, .ref fo, .ref ro, .int fl9]))]
set_option maxRecDepth 100000 in
set_option maxHeartbeats 4000000 in
theorem c_odds (l : Launch) (g : zG) (r : Int32) (ld : Int32) (t : Nat) (ht : t ≤ 20) (hld : ld = nI t) : zM g l yX5_odds (Cond.code yX5_odds cX5_odds 7 (some .int) :: zB) ({ frames := 0, cells := 0, slots := 0, locals := 0 } : Room) [.int r, .int ld] [] (fun (q : Int32) => some (.int q)) (fun (q : Int32) => q = zod r t) (fun (q : Int32) => []) := by
  refine zM.of (cc := cX5_odds) (maxL := 7) (rt := (some .int)) (by decide) rfl (Nat.le_of_ble_eq_true rfl) ?_
  intro p e s m args below meth c A ls St hr hlocks hin hK hT hA hP hD hS hl
  obtain ⟨hx, hb, hml, hown, hts⟩ := id St
  have hl : lv_has ls 7 [(0, .int r), (1, .int ld)] := hl
  refine lv_iload_n hx hb dX5_odds_0 rfl (lv_at hl 0 rfl) ?_
  refine lv_i2l (v := (r : Int32).toInt64) hx hb dX5_odds_1 rfl ?_
  refine ztopl (r := (r : Int32).toInt64 * lN (9 ^ 0)) (zod0 r) ?_
  refine lv_lstore_n (lv' := [(2, .long ((r : Int32).toInt64 * lN (9 ^ 0))), (0, .int r), (1, .int ld)]) hx hb dX5_odds_2 rfl hl (by decide) rfl (fun ls hl => ?_)
  refine lv_bipush (v := 100) hx hb dX5_odds_3 (by decide) ?_
  refine lv_iload_n hx hb dX5_odds_5 rfl (lv_at hl 1 rfl) ?_
  refine lv_isub hx hb dX5_odds_6 ?_
  refine lv_i2l (v := (100 - r : Int32).toInt64) hx hb dX5_odds_7 rfl ?_
  refine lv_lstore (lv' := [(4, .long ((100 - r : Int32).toInt64)), (2, .long ((r : Int32).toInt64 * lN (9 ^ 0))), (0, .int r), (1, .int ld)]) hx hb dX5_odds_8 hl (by decide) rfl (fun ls hl => ?_)
  refine lv_iconst (v := 0) hx hb dX5_odds_10 (by decide) ?_
  refine lv_istore (lv' := [(6, .int 0), (4, .long ((100 - r : Int32).toInt64)), (2, .long ((r : Int32).toInt64 * lN (9 ^ 0))), (0, .int r), (1, .int ld)]) hx hb dX5_odds_11 hl (by decide) rfl (fun ls hl => ?_)
  have hP : va_P g.1 vwCl (List.flatten []) s.heap := hP
  have hD : va_D A (List.flatten []) := hD
  have LP13 : ∀ (k : Nat) (j : Nat) (H : Heap) (locs : List Loc) (ls : Array Slot),(j ≤ t) → (t - j) < k → va_P g.1 vwCl (List.flatten []) H → va_D A (List.flatten []) → va_S A s.heap H locs → lv_has ls 7 [(0, .int r), (1, .int ld), (2, .long ((r : Int32).toInt64 * lN (9 ^ j))), (4, .long ((100 - r : Int32).toInt64)), (6, .int (nI j))] → W p l e ({ frames := 0, cells := 0, slots := 0, locals := 0 } : Room) s m args below meth c H locs (0) (0) (zF g (fun (q : Int32) => some (.int q)) (fun (q : Int32) => q = zod r t) (fun (q : Int32) => []) ({ frames := 0, cells := 0, slots := 0, locals := 0 } : Room) below args s A) (F0 m 13 ls []) := by
    intro k
    induction k with
    | zero => intro j H locs ls hj hk; exact absurd hk (Nat.not_lt_zero _)
    | succ k ih13 =>
      intro j H locs ls hj hk hP hD hS hl
      refine lv_iload hx hb dX5_odds_13 (lv_at hl 4 rfl) ?_
      refine lv_iload_n hx hb dX5_odds_15 rfl (lv_at hl 1 rfl) ?_
      refine lv_icmp_ge (tgt := 31) hx hb dX5_odds_16 (by decide) (fun cA => ?_) (fun cA => ?_)
      · skip
        have hjt : t = j := by have := zjge hld (by omega) cA; omega
        subst hjt
        refine lv_iconst (v := 0) hx hb dX5_odds_31 (by decide) ?_
        refine lv_istore (lv' := [(6, .int 0), (0, .int r), (1, .int ld), (2, .long ((r : Int32).toInt64 * lN (9 ^ t))), (4, .long ((100 - r : Int32).toInt64))]) hx hb dX5_odds_32 hl (by decide) rfl (fun ls hl => ?_)
        refine lv_iload hx hb dX5_odds_34 (lv_at hl 0 rfl) ?_
        refine lv_iload_n hx hb dX5_odds_36 rfl (lv_at hl 2 rfl) ?_
        refine lv_ineg hx hb dX5_odds_37 ?_
        refine lv_icmp_ge (tgt := 55) hx hb dX5_odds_38 (by decide) (fun _ => ?_) (fun c2 => absurd (zneg hld ht) c2)
        refine lv_lload_n hx hb dX5_odds_55 rfl (lv_at hl 3 rfl) ?_
        refine lv_lload hx hb dX5_odds_56 (lv_at hl 4 rfl) ?_
        refine lv_ladd hx hb dX5_odds_58 ?_
        refine lv_lconst (v := 0) hx hb dX5_odds_59 (by decide) ?_
        refine W.lcmp hx hb dX5_odds_60 ?_
        refine lv_if_gt (tgt := 68) hx hb dX5_odds_61 (by decide) (fun cB => ?_) (fun cB => ?_)
        · skip
          refine lv_ldc2 (v := 10000) hx hb hown (hts _ k285) dX5_odds_68 ?_
          refine lv_lload_n hx hb dX5_odds_71 rfl (lv_at hl 3 rfl) ?_
          refine lv_lmul hx hb dX5_odds_72 ?_
          refine lv_lload_n hx hb dX5_odds_73 rfl (lv_at hl 3 rfl) ?_
          refine lv_lload hx hb dX5_odds_74 (lv_at hl 4 rfl) ?_
          refine lv_ladd hx hb dX5_odds_76 ?_
          refine lv_ldiv hx hb dX5_odds_77 (zodZ cB) ?_
          refine lv_l2i (v := ((10000 * ((r : Int32).toInt64 * lN (9 ^ t))) / (((r : Int32).toInt64 * lN (9 ^ t)) + ((100 - r : Int32).toInt64)) : Int64).toInt32) hx hb dX5_odds_78 rfl ?_
          have hP : va_P g.1 vwCl (List.flatten []) H := hP
          have hD : va_D A (List.flatten []) := hD
          exact mret_i hx hb hr hlocks hS (Nat.le_of_ble_eq_true rfl) (Nat.le_of_ble_eq_true rfl) dX5_odds_79 (((10000 * ((r : Int32).toInt64 * lN (9 ^ t))) / (((r : Int32).toInt64 * lN (9 ^ t)) + ((100 - r : Int32).toInt64)) : Int64).toInt32) rfl ((if_pos cB).symm) hP hD
        · skip
          refine lv_iconst (v := 0) hx hb dX5_odds_64 (by decide) ?_
          refine lv_goto (tgt := 79) hx hb dX5_odds_65 (by decide) ?_
          have hP : va_P g.1 vwCl (List.flatten []) H := hP
          have hD : va_D A (List.flatten []) := hD
          exact mret_i hx hb hr hlocks hS (Nat.le_of_ble_eq_true rfl) (Nat.le_of_ble_eq_true rfl) dX5_odds_79 (0) rfl ((if_neg cB).symm) hP hD
      · skip
        have hlt : j < t := zjl hld (by omega) cA
        refine lv_lload_n hx hb dX5_odds_19 rfl (lv_at hl 2 rfl) ?_
        refine lv_ldc2 (v := 9) hx hb hown (hts _ k284) dX5_odds_20 ?_
        refine lv_lmul hx hb dX5_odds_23 ?_
        refine ztopl (r := (r : Int32).toInt64 * lN (9 ^ (j + 1))) (zodS r j) ?_
        refine lv_lstore_n (lv' := [(2, .long ((r : Int32).toInt64 * lN (9 ^ (j + 1)))), (0, .int r), (1, .int ld), (4, .long ((100 - r : Int32).toInt64)), (6, .int (nI j))]) hx hb dX5_odds_24 rfl hl (by decide) rfl (fun ls hl => ?_)
        refine lv_iinc (v := nI (j + 1)) (lv' := [(6, .int (nI (j + 1))), (2, .long ((r : Int32).toInt64 * lN (9 ^ (j + 1)))), (0, .int r), (1, .int ld), (4, .long ((100 - r : Int32).toInt64))]) hx hb dX5_odds_25 hl (k := 4) rfl (nI_1 j) (by decide) rfl (fun ls hl => ?_)
        refine lv_goto (tgt := 13) hx hb dX5_odds_28 (by decide) ?_
        have hP : va_P g.1 vwCl (List.flatten []) H := hP
        have hD : va_D A (List.flatten []) := hD
        exact ih13 (j + 1) H locs ls (by omega) (by omega) hP hD hS (lv_sub hl [2, 3, 1, 4, 0] rfl)
  exact LP13 (t + 1) 0 s.heap _ ls (by omega) (by omega) hP hD hS (lv_sub hl [3, 4, 2, 1, 0] rfl)
set_option maxRecDepth 100000 in
set_option maxHeartbeats 4000000 in
theorem c_fewestNeeded (l : Launch) (g : zG) (r : Int32)  : zM g l yX5_fewestNeeded (Cond.code yX5_fewestNeeded cX5_fewestNeeded 3 (some .int) :: zB) ({ frames := 1, cells := 0, slots := 0, locals := 26 } : Room) [.int r, .int 0] [] (fun (q : Int32) => some (.int q)) (fun (q : Int32) => q = zfn r) (fun (q : Int32) => []) := by
  refine zM.of (cc := cX5_fewestNeeded) (maxL := 3) (rt := (some .int)) (by decide) rfl (Nat.le_of_ble_eq_true rfl) ?_
  intro p e s m args below meth c A ls St hr hlocks hin hK hT hA hP hD hS hl
  obtain ⟨hx, hb, hml, hown, hts⟩ := id St
  have hl : lv_has ls 3 [(0, .int r), (1, .int 0)] := hl
  refine lv_iconst (v := 0) hx hb dX5_fewestNeeded_0 (by decide) ?_
  refine lv_istore_n (lv' := [(2, .int 0), (0, .int r), (1, .int 0)]) hx hb dX5_fewestNeeded_1 rfl hl (by decide) rfl (fun ls hl => ?_)
  refine lv_iload_n hx hb dX5_fewestNeeded_2 rfl (lv_at hl 0 rfl) ?_
  refine lv_bipush (v := 20) hx hb dX5_fewestNeeded_3 (by decide) ?_
  refine lv_icmp_gt (tgt := 37) hx hb dX5_fewestNeeded_5 (by decide) (fun c1 => absurd c1 (by decide)) (fun _ => ?_)
  refine lv_iload_n hx hb dX5_fewestNeeded_8 rfl (lv_at hl 2 rfl) ?_
  refine lv_iload_n hx hb dX5_fewestNeeded_9 rfl (lv_at hl 0 rfl) ?_
  refine lv_iadd hx hb dX5_fewestNeeded_10 ?_
  refine ztop (r := 0) (by decide) ?_
  refine lv_bipush (v := 12) hx hb dX5_fewestNeeded_11 (by decide) ?_
  refine lv_icmp_gt (tgt := 37) hx hb dX5_fewestNeeded_13 (by decide) (fun c2 => absurd c2 (by decide)) (fun _ => ?_)
  refine lv_iload_n hx hb dX5_fewestNeeded_16 rfl (lv_at hl 1 rfl) ?_
  refine lv_iload_n hx hb dX5_fewestNeeded_17 rfl (lv_at hl 2 rfl) ?_
  refine lv_iload_n hx hb dX5_fewestNeeded_18 rfl (lv_at hl 0 rfl) ?_
  refine lv_iadd hx hb dX5_fewestNeeded_19 ?_
  refine ztop (r := 0) (by decide) ?_
  refine mcallS (g := g) (As := [.int r, .int 0]) (rest := []) St hK hT hA hP hD hS hl.1 [] [] rfl rfl rfl (c_odds l g r 0 0 (by omega) rfl) (va_cwS 2 hts (zgL (zl3 k287 k288 k267) k283) rfl rfl rfl (by decide +kernel) ⟨Nat.le_of_ble_eq_true rfl, Nat.le_of_ble_eq_true rfl⟩) rfl rfl (Nat.le_of_ble_eq_true rfl) dX5_fewestNeeded_20 ⟨(Nat.le_of_ble_eq_true rfl), (Nat.le_of_ble_eq_true rfl)⟩ (fun q_3 H locs hq4 hP hD hS => ?_)
  have hq4 : q_3 = zod r 0 := hq4
  have hP : va_P g.1 vwCl (List.flatten []) H := hP
  have hD : va_D A (List.flatten []) := hD
  refine W.widen (k := 0) (n := 0) (Nat.le_of_ble_eq_true rfl) (Nat.le_of_ble_eq_true rfl) ?_
  refine W.eq (g2 := F0 m 23 ls [.int q_3]) rfl ?_
  subst hq4
  refine lv_sipush (v := 9900) hx hb dX5_fewestNeeded_23 (by decide) ?_
  refine lv_icmp_lt (tgt := 31) hx hb dX5_fewestNeeded_26 (by decide) (fun cN0 => ?_) (fun cN0 => ?_)
  · skip
    refine lv_iinc (v := 1) (lv' := [(2, .int 1), (0, .int r), (1, .int 0)]) hx hb dX5_fewestNeeded_31 hl (k := 0) rfl (by decide) (by decide) rfl (fun ls hl => ?_)
    refine lv_goto (tgt := 2) hx hb dX5_fewestNeeded_34 (by decide) ?_
    refine lv_iload_n hx hb dX5_fewestNeeded_2 rfl (lv_at hl 0 rfl) ?_
    refine lv_bipush (v := 20) hx hb dX5_fewestNeeded_3 (by decide) ?_
    refine lv_icmp_gt (tgt := 37) hx hb dX5_fewestNeeded_5 (by decide) (fun c6 => absurd c6 (by decide)) (fun _ => ?_)
    refine lv_iload_n hx hb dX5_fewestNeeded_8 rfl (lv_at hl 2 rfl) ?_
    refine lv_iload_n hx hb dX5_fewestNeeded_9 rfl (lv_at hl 0 rfl) ?_
    refine lv_iadd hx hb dX5_fewestNeeded_10 ?_
    refine ztop (r := 1) (by decide) ?_
    refine lv_bipush (v := 12) hx hb dX5_fewestNeeded_11 (by decide) ?_
    refine lv_icmp_gt (tgt := 37) hx hb dX5_fewestNeeded_13 (by decide) (fun c7 => absurd c7 (by decide)) (fun _ => ?_)
    refine lv_iload_n hx hb dX5_fewestNeeded_16 rfl (lv_at hl 1 rfl) ?_
    refine lv_iload_n hx hb dX5_fewestNeeded_17 rfl (lv_at hl 2 rfl) ?_
    refine lv_iload_n hx hb dX5_fewestNeeded_18 rfl (lv_at hl 0 rfl) ?_
    refine lv_iadd hx hb dX5_fewestNeeded_19 ?_
    refine ztop (r := 1) (by decide) ?_
    refine mcallS (g := g) (As := [.int r, .int 1]) (rest := []) St hK hT hA hP hD hS hl.1 [] [] rfl rfl rfl (c_odds l g r 1 1 (by omega) rfl) (va_cwS 2 hts (zgL (zl3 k287 k288 k267) k283) rfl rfl rfl (by decide +kernel) ⟨Nat.le_of_ble_eq_true rfl, Nat.le_of_ble_eq_true rfl⟩) rfl rfl (Nat.le_of_ble_eq_true rfl) dX5_fewestNeeded_20 ⟨(Nat.le_of_ble_eq_true rfl), (Nat.le_of_ble_eq_true rfl)⟩ (fun q_8 H locs hq9 hP hD hS => ?_)
    have hq9 : q_8 = zod r 1 := hq9
    have hP : va_P g.1 vwCl (List.flatten []) H := hP
    have hD : va_D A (List.flatten []) := hD
    refine W.widen (k := 0) (n := 0) (Nat.le_of_ble_eq_true rfl) (Nat.le_of_ble_eq_true rfl) ?_
    refine W.eq (g2 := F0 m 23 ls [.int q_8]) rfl ?_
    subst hq9
    refine lv_sipush (v := 9900) hx hb dX5_fewestNeeded_23 (by decide) ?_
    refine lv_icmp_lt (tgt := 31) hx hb dX5_fewestNeeded_26 (by decide) (fun cN1 => ?_) (fun cN1 => ?_)
    · skip
      refine lv_iinc (v := 2) (lv' := [(2, .int 2), (0, .int r), (1, .int 0)]) hx hb dX5_fewestNeeded_31 hl (k := 0) rfl (by decide) (by decide) rfl (fun ls hl => ?_)
      refine lv_goto (tgt := 2) hx hb dX5_fewestNeeded_34 (by decide) ?_
      refine lv_iload_n hx hb dX5_fewestNeeded_2 rfl (lv_at hl 0 rfl) ?_
      refine lv_bipush (v := 20) hx hb dX5_fewestNeeded_3 (by decide) ?_
      refine lv_icmp_gt (tgt := 37) hx hb dX5_fewestNeeded_5 (by decide) (fun c11 => absurd c11 (by decide)) (fun _ => ?_)
      refine lv_iload_n hx hb dX5_fewestNeeded_8 rfl (lv_at hl 2 rfl) ?_
      refine lv_iload_n hx hb dX5_fewestNeeded_9 rfl (lv_at hl 0 rfl) ?_
      refine lv_iadd hx hb dX5_fewestNeeded_10 ?_
      refine ztop (r := 2) (by decide) ?_
      refine lv_bipush (v := 12) hx hb dX5_fewestNeeded_11 (by decide) ?_
      refine lv_icmp_gt (tgt := 37) hx hb dX5_fewestNeeded_13 (by decide) (fun c12 => absurd c12 (by decide)) (fun _ => ?_)
      refine lv_iload_n hx hb dX5_fewestNeeded_16 rfl (lv_at hl 1 rfl) ?_
      refine lv_iload_n hx hb dX5_fewestNeeded_17 rfl (lv_at hl 2 rfl) ?_
      refine lv_iload_n hx hb dX5_fewestNeeded_18 rfl (lv_at hl 0 rfl) ?_
      refine lv_iadd hx hb dX5_fewestNeeded_19 ?_
      refine ztop (r := 2) (by decide) ?_
      refine mcallS (g := g) (As := [.int r, .int 2]) (rest := []) St hK hT hA hP hD hS hl.1 [] [] rfl rfl rfl (c_odds l g r 2 2 (by omega) rfl) (va_cwS 2 hts (zgL (zl3 k287 k288 k267) k283) rfl rfl rfl (by decide +kernel) ⟨Nat.le_of_ble_eq_true rfl, Nat.le_of_ble_eq_true rfl⟩) rfl rfl (Nat.le_of_ble_eq_true rfl) dX5_fewestNeeded_20 ⟨(Nat.le_of_ble_eq_true rfl), (Nat.le_of_ble_eq_true rfl)⟩ (fun q_13 H locs hq14 hP hD hS => ?_)
      have hq14 : q_13 = zod r 2 := hq14
      have hP : va_P g.1 vwCl (List.flatten []) H := hP
      have hD : va_D A (List.flatten []) := hD
      refine W.widen (k := 0) (n := 0) (Nat.le_of_ble_eq_true rfl) (Nat.le_of_ble_eq_true rfl) ?_
      refine W.eq (g2 := F0 m 23 ls [.int q_13]) rfl ?_
      subst hq14
      refine lv_sipush (v := 9900) hx hb dX5_fewestNeeded_23 (by decide) ?_
      refine lv_icmp_lt (tgt := 31) hx hb dX5_fewestNeeded_26 (by decide) (fun cN2 => ?_) (fun cN2 => ?_)
      · skip
        refine lv_iinc (v := 3) (lv' := [(2, .int 3), (0, .int r), (1, .int 0)]) hx hb dX5_fewestNeeded_31 hl (k := 0) rfl (by decide) (by decide) rfl (fun ls hl => ?_)
        refine lv_goto (tgt := 2) hx hb dX5_fewestNeeded_34 (by decide) ?_
        refine lv_iload_n hx hb dX5_fewestNeeded_2 rfl (lv_at hl 0 rfl) ?_
        refine lv_bipush (v := 20) hx hb dX5_fewestNeeded_3 (by decide) ?_
        refine lv_icmp_gt (tgt := 37) hx hb dX5_fewestNeeded_5 (by decide) (fun c16 => absurd c16 (by decide)) (fun _ => ?_)
        refine lv_iload_n hx hb dX5_fewestNeeded_8 rfl (lv_at hl 2 rfl) ?_
        refine lv_iload_n hx hb dX5_fewestNeeded_9 rfl (lv_at hl 0 rfl) ?_
        refine lv_iadd hx hb dX5_fewestNeeded_10 ?_
        refine ztop (r := 3) (by decide) ?_
        refine lv_bipush (v := 12) hx hb dX5_fewestNeeded_11 (by decide) ?_
        refine lv_icmp_gt (tgt := 37) hx hb dX5_fewestNeeded_13 (by decide) (fun c17 => absurd c17 (by decide)) (fun _ => ?_)
        refine lv_iload_n hx hb dX5_fewestNeeded_16 rfl (lv_at hl 1 rfl) ?_
        refine lv_iload_n hx hb dX5_fewestNeeded_17 rfl (lv_at hl 2 rfl) ?_
        refine lv_iload_n hx hb dX5_fewestNeeded_18 rfl (lv_at hl 0 rfl) ?_
        refine lv_iadd hx hb dX5_fewestNeeded_19 ?_
        refine ztop (r := 3) (by decide) ?_
        refine mcallS (g := g) (As := [.int r, .int 3]) (rest := []) St hK hT hA hP hD hS hl.1 [] [] rfl rfl rfl (c_odds l g r 3 3 (by omega) rfl) (va_cwS 2 hts (zgL (zl3 k287 k288 k267) k283) rfl rfl rfl (by decide +kernel) ⟨Nat.le_of_ble_eq_true rfl, Nat.le_of_ble_eq_true rfl⟩) rfl rfl (Nat.le_of_ble_eq_true rfl) dX5_fewestNeeded_20 ⟨(Nat.le_of_ble_eq_true rfl), (Nat.le_of_ble_eq_true rfl)⟩ (fun q_18 H locs hq19 hP hD hS => ?_)
        have hq19 : q_18 = zod r 3 := hq19
        have hP : va_P g.1 vwCl (List.flatten []) H := hP
        have hD : va_D A (List.flatten []) := hD
        refine W.widen (k := 0) (n := 0) (Nat.le_of_ble_eq_true rfl) (Nat.le_of_ble_eq_true rfl) ?_
        refine W.eq (g2 := F0 m 23 ls [.int q_18]) rfl ?_
        subst hq19
        refine lv_sipush (v := 9900) hx hb dX5_fewestNeeded_23 (by decide) ?_
        refine lv_icmp_lt (tgt := 31) hx hb dX5_fewestNeeded_26 (by decide) (fun cN3 => ?_) (fun cN3 => ?_)
        · skip
          refine lv_iinc (v := 4) (lv' := [(2, .int 4), (0, .int r), (1, .int 0)]) hx hb dX5_fewestNeeded_31 hl (k := 0) rfl (by decide) (by decide) rfl (fun ls hl => ?_)
          refine lv_goto (tgt := 2) hx hb dX5_fewestNeeded_34 (by decide) ?_
          refine lv_iload_n hx hb dX5_fewestNeeded_2 rfl (lv_at hl 0 rfl) ?_
          refine lv_bipush (v := 20) hx hb dX5_fewestNeeded_3 (by decide) ?_
          refine lv_icmp_gt (tgt := 37) hx hb dX5_fewestNeeded_5 (by decide) (fun c21 => absurd c21 (by decide)) (fun _ => ?_)
          refine lv_iload_n hx hb dX5_fewestNeeded_8 rfl (lv_at hl 2 rfl) ?_
          refine lv_iload_n hx hb dX5_fewestNeeded_9 rfl (lv_at hl 0 rfl) ?_
          refine lv_iadd hx hb dX5_fewestNeeded_10 ?_
          refine ztop (r := 4) (by decide) ?_
          refine lv_bipush (v := 12) hx hb dX5_fewestNeeded_11 (by decide) ?_
          refine lv_icmp_gt (tgt := 37) hx hb dX5_fewestNeeded_13 (by decide) (fun c22 => absurd c22 (by decide)) (fun _ => ?_)
          refine lv_iload_n hx hb dX5_fewestNeeded_16 rfl (lv_at hl 1 rfl) ?_
          refine lv_iload_n hx hb dX5_fewestNeeded_17 rfl (lv_at hl 2 rfl) ?_
          refine lv_iload_n hx hb dX5_fewestNeeded_18 rfl (lv_at hl 0 rfl) ?_
          refine lv_iadd hx hb dX5_fewestNeeded_19 ?_
          refine ztop (r := 4) (by decide) ?_
          refine mcallS (g := g) (As := [.int r, .int 4]) (rest := []) St hK hT hA hP hD hS hl.1 [] [] rfl rfl rfl (c_odds l g r 4 4 (by omega) rfl) (va_cwS 2 hts (zgL (zl3 k287 k288 k267) k283) rfl rfl rfl (by decide +kernel) ⟨Nat.le_of_ble_eq_true rfl, Nat.le_of_ble_eq_true rfl⟩) rfl rfl (Nat.le_of_ble_eq_true rfl) dX5_fewestNeeded_20 ⟨(Nat.le_of_ble_eq_true rfl), (Nat.le_of_ble_eq_true rfl)⟩ (fun q_23 H locs hq24 hP hD hS => ?_)
          have hq24 : q_23 = zod r 4 := hq24
          have hP : va_P g.1 vwCl (List.flatten []) H := hP
          have hD : va_D A (List.flatten []) := hD
          refine W.widen (k := 0) (n := 0) (Nat.le_of_ble_eq_true rfl) (Nat.le_of_ble_eq_true rfl) ?_
          refine W.eq (g2 := F0 m 23 ls [.int q_23]) rfl ?_
          subst hq24
          refine lv_sipush (v := 9900) hx hb dX5_fewestNeeded_23 (by decide) ?_
          refine lv_icmp_lt (tgt := 31) hx hb dX5_fewestNeeded_26 (by decide) (fun cN4 => ?_) (fun cN4 => ?_)
          · skip
            refine lv_iinc (v := 5) (lv' := [(2, .int 5), (0, .int r), (1, .int 0)]) hx hb dX5_fewestNeeded_31 hl (k := 0) rfl (by decide) (by decide) rfl (fun ls hl => ?_)
            refine lv_goto (tgt := 2) hx hb dX5_fewestNeeded_34 (by decide) ?_
            refine lv_iload_n hx hb dX5_fewestNeeded_2 rfl (lv_at hl 0 rfl) ?_
            refine lv_bipush (v := 20) hx hb dX5_fewestNeeded_3 (by decide) ?_
            refine lv_icmp_gt (tgt := 37) hx hb dX5_fewestNeeded_5 (by decide) (fun c26 => absurd c26 (by decide)) (fun _ => ?_)
            refine lv_iload_n hx hb dX5_fewestNeeded_8 rfl (lv_at hl 2 rfl) ?_
            refine lv_iload_n hx hb dX5_fewestNeeded_9 rfl (lv_at hl 0 rfl) ?_
            refine lv_iadd hx hb dX5_fewestNeeded_10 ?_
            refine ztop (r := 5) (by decide) ?_
            refine lv_bipush (v := 12) hx hb dX5_fewestNeeded_11 (by decide) ?_
            refine lv_icmp_gt (tgt := 37) hx hb dX5_fewestNeeded_13 (by decide) (fun c27 => absurd c27 (by decide)) (fun _ => ?_)
            refine lv_iload_n hx hb dX5_fewestNeeded_16 rfl (lv_at hl 1 rfl) ?_
            refine lv_iload_n hx hb dX5_fewestNeeded_17 rfl (lv_at hl 2 rfl) ?_
            refine lv_iload_n hx hb dX5_fewestNeeded_18 rfl (lv_at hl 0 rfl) ?_
            refine lv_iadd hx hb dX5_fewestNeeded_19 ?_
            refine ztop (r := 5) (by decide) ?_
            refine mcallS (g := g) (As := [.int r, .int 5]) (rest := []) St hK hT hA hP hD hS hl.1 [] [] rfl rfl rfl (c_odds l g r 5 5 (by omega) rfl) (va_cwS 2 hts (zgL (zl3 k287 k288 k267) k283) rfl rfl rfl (by decide +kernel) ⟨Nat.le_of_ble_eq_true rfl, Nat.le_of_ble_eq_true rfl⟩) rfl rfl (Nat.le_of_ble_eq_true rfl) dX5_fewestNeeded_20 ⟨(Nat.le_of_ble_eq_true rfl), (Nat.le_of_ble_eq_true rfl)⟩ (fun q_28 H locs hq29 hP hD hS => ?_)
            have hq29 : q_28 = zod r 5 := hq29
            have hP : va_P g.1 vwCl (List.flatten []) H := hP
            have hD : va_D A (List.flatten []) := hD
            refine W.widen (k := 0) (n := 0) (Nat.le_of_ble_eq_true rfl) (Nat.le_of_ble_eq_true rfl) ?_
            refine W.eq (g2 := F0 m 23 ls [.int q_28]) rfl ?_
            subst hq29
            refine lv_sipush (v := 9900) hx hb dX5_fewestNeeded_23 (by decide) ?_
            refine lv_icmp_lt (tgt := 31) hx hb dX5_fewestNeeded_26 (by decide) (fun cN5 => ?_) (fun cN5 => ?_)
            · skip
              refine lv_iinc (v := 6) (lv' := [(2, .int 6), (0, .int r), (1, .int 0)]) hx hb dX5_fewestNeeded_31 hl (k := 0) rfl (by decide) (by decide) rfl (fun ls hl => ?_)
              refine lv_goto (tgt := 2) hx hb dX5_fewestNeeded_34 (by decide) ?_
              refine lv_iload_n hx hb dX5_fewestNeeded_2 rfl (lv_at hl 0 rfl) ?_
              refine lv_bipush (v := 20) hx hb dX5_fewestNeeded_3 (by decide) ?_
              refine lv_icmp_gt (tgt := 37) hx hb dX5_fewestNeeded_5 (by decide) (fun c31 => absurd c31 (by decide)) (fun _ => ?_)
              refine lv_iload_n hx hb dX5_fewestNeeded_8 rfl (lv_at hl 2 rfl) ?_
              refine lv_iload_n hx hb dX5_fewestNeeded_9 rfl (lv_at hl 0 rfl) ?_
              refine lv_iadd hx hb dX5_fewestNeeded_10 ?_
              refine ztop (r := 6) (by decide) ?_
              refine lv_bipush (v := 12) hx hb dX5_fewestNeeded_11 (by decide) ?_
              refine lv_icmp_gt (tgt := 37) hx hb dX5_fewestNeeded_13 (by decide) (fun c32 => absurd c32 (by decide)) (fun _ => ?_)
              refine lv_iload_n hx hb dX5_fewestNeeded_16 rfl (lv_at hl 1 rfl) ?_
              refine lv_iload_n hx hb dX5_fewestNeeded_17 rfl (lv_at hl 2 rfl) ?_
              refine lv_iload_n hx hb dX5_fewestNeeded_18 rfl (lv_at hl 0 rfl) ?_
              refine lv_iadd hx hb dX5_fewestNeeded_19 ?_
              refine ztop (r := 6) (by decide) ?_
              refine mcallS (g := g) (As := [.int r, .int 6]) (rest := []) St hK hT hA hP hD hS hl.1 [] [] rfl rfl rfl (c_odds l g r 6 6 (by omega) rfl) (va_cwS 2 hts (zgL (zl3 k287 k288 k267) k283) rfl rfl rfl (by decide +kernel) ⟨Nat.le_of_ble_eq_true rfl, Nat.le_of_ble_eq_true rfl⟩) rfl rfl (Nat.le_of_ble_eq_true rfl) dX5_fewestNeeded_20 ⟨(Nat.le_of_ble_eq_true rfl), (Nat.le_of_ble_eq_true rfl)⟩ (fun q_33 H locs hq34 hP hD hS => ?_)
              have hq34 : q_33 = zod r 6 := hq34
              have hP : va_P g.1 vwCl (List.flatten []) H := hP
              have hD : va_D A (List.flatten []) := hD
              refine W.widen (k := 0) (n := 0) (Nat.le_of_ble_eq_true rfl) (Nat.le_of_ble_eq_true rfl) ?_
              refine W.eq (g2 := F0 m 23 ls [.int q_33]) rfl ?_
              subst hq34
              refine lv_sipush (v := 9900) hx hb dX5_fewestNeeded_23 (by decide) ?_
              refine lv_icmp_lt (tgt := 31) hx hb dX5_fewestNeeded_26 (by decide) (fun cN6 => ?_) (fun cN6 => ?_)
              · skip
                refine lv_iinc (v := 7) (lv' := [(2, .int 7), (0, .int r), (1, .int 0)]) hx hb dX5_fewestNeeded_31 hl (k := 0) rfl (by decide) (by decide) rfl (fun ls hl => ?_)
                refine lv_goto (tgt := 2) hx hb dX5_fewestNeeded_34 (by decide) ?_
                refine lv_iload_n hx hb dX5_fewestNeeded_2 rfl (lv_at hl 0 rfl) ?_
                refine lv_bipush (v := 20) hx hb dX5_fewestNeeded_3 (by decide) ?_
                refine lv_icmp_gt (tgt := 37) hx hb dX5_fewestNeeded_5 (by decide) (fun c36 => absurd c36 (by decide)) (fun _ => ?_)
                refine lv_iload_n hx hb dX5_fewestNeeded_8 rfl (lv_at hl 2 rfl) ?_
                refine lv_iload_n hx hb dX5_fewestNeeded_9 rfl (lv_at hl 0 rfl) ?_
                refine lv_iadd hx hb dX5_fewestNeeded_10 ?_
                refine ztop (r := 7) (by decide) ?_
                refine lv_bipush (v := 12) hx hb dX5_fewestNeeded_11 (by decide) ?_
                refine lv_icmp_gt (tgt := 37) hx hb dX5_fewestNeeded_13 (by decide) (fun c37 => absurd c37 (by decide)) (fun _ => ?_)
                refine lv_iload_n hx hb dX5_fewestNeeded_16 rfl (lv_at hl 1 rfl) ?_
                refine lv_iload_n hx hb dX5_fewestNeeded_17 rfl (lv_at hl 2 rfl) ?_
                refine lv_iload_n hx hb dX5_fewestNeeded_18 rfl (lv_at hl 0 rfl) ?_
                refine lv_iadd hx hb dX5_fewestNeeded_19 ?_
                refine ztop (r := 7) (by decide) ?_
                refine mcallS (g := g) (As := [.int r, .int 7]) (rest := []) St hK hT hA hP hD hS hl.1 [] [] rfl rfl rfl (c_odds l g r 7 7 (by omega) rfl) (va_cwS 2 hts (zgL (zl3 k287 k288 k267) k283) rfl rfl rfl (by decide +kernel) ⟨Nat.le_of_ble_eq_true rfl, Nat.le_of_ble_eq_true rfl⟩) rfl rfl (Nat.le_of_ble_eq_true rfl) dX5_fewestNeeded_20 ⟨(Nat.le_of_ble_eq_true rfl), (Nat.le_of_ble_eq_true rfl)⟩ (fun q_38 H locs hq39 hP hD hS => ?_)
                have hq39 : q_38 = zod r 7 := hq39
                have hP : va_P g.1 vwCl (List.flatten []) H := hP
                have hD : va_D A (List.flatten []) := hD
                refine W.widen (k := 0) (n := 0) (Nat.le_of_ble_eq_true rfl) (Nat.le_of_ble_eq_true rfl) ?_
                refine W.eq (g2 := F0 m 23 ls [.int q_38]) rfl ?_
                subst hq39
                refine lv_sipush (v := 9900) hx hb dX5_fewestNeeded_23 (by decide) ?_
                refine lv_icmp_lt (tgt := 31) hx hb dX5_fewestNeeded_26 (by decide) (fun cN7 => ?_) (fun cN7 => ?_)
                · skip
                  refine lv_iinc (v := 8) (lv' := [(2, .int 8), (0, .int r), (1, .int 0)]) hx hb dX5_fewestNeeded_31 hl (k := 0) rfl (by decide) (by decide) rfl (fun ls hl => ?_)
                  refine lv_goto (tgt := 2) hx hb dX5_fewestNeeded_34 (by decide) ?_
                  refine lv_iload_n hx hb dX5_fewestNeeded_2 rfl (lv_at hl 0 rfl) ?_
                  refine lv_bipush (v := 20) hx hb dX5_fewestNeeded_3 (by decide) ?_
                  refine lv_icmp_gt (tgt := 37) hx hb dX5_fewestNeeded_5 (by decide) (fun c41 => absurd c41 (by decide)) (fun _ => ?_)
                  refine lv_iload_n hx hb dX5_fewestNeeded_8 rfl (lv_at hl 2 rfl) ?_
                  refine lv_iload_n hx hb dX5_fewestNeeded_9 rfl (lv_at hl 0 rfl) ?_
                  refine lv_iadd hx hb dX5_fewestNeeded_10 ?_
                  refine ztop (r := 8) (by decide) ?_
                  refine lv_bipush (v := 12) hx hb dX5_fewestNeeded_11 (by decide) ?_
                  refine lv_icmp_gt (tgt := 37) hx hb dX5_fewestNeeded_13 (by decide) (fun c42 => absurd c42 (by decide)) (fun _ => ?_)
                  refine lv_iload_n hx hb dX5_fewestNeeded_16 rfl (lv_at hl 1 rfl) ?_
                  refine lv_iload_n hx hb dX5_fewestNeeded_17 rfl (lv_at hl 2 rfl) ?_
                  refine lv_iload_n hx hb dX5_fewestNeeded_18 rfl (lv_at hl 0 rfl) ?_
                  refine lv_iadd hx hb dX5_fewestNeeded_19 ?_
                  refine ztop (r := 8) (by decide) ?_
                  refine mcallS (g := g) (As := [.int r, .int 8]) (rest := []) St hK hT hA hP hD hS hl.1 [] [] rfl rfl rfl (c_odds l g r 8 8 (by omega) rfl) (va_cwS 2 hts (zgL (zl3 k287 k288 k267) k283) rfl rfl rfl (by decide +kernel) ⟨Nat.le_of_ble_eq_true rfl, Nat.le_of_ble_eq_true rfl⟩) rfl rfl (Nat.le_of_ble_eq_true rfl) dX5_fewestNeeded_20 ⟨(Nat.le_of_ble_eq_true rfl), (Nat.le_of_ble_eq_true rfl)⟩ (fun q_43 H locs hq44 hP hD hS => ?_)
                  have hq44 : q_43 = zod r 8 := hq44
                  have hP : va_P g.1 vwCl (List.flatten []) H := hP
                  have hD : va_D A (List.flatten []) := hD
                  refine W.widen (k := 0) (n := 0) (Nat.le_of_ble_eq_true rfl) (Nat.le_of_ble_eq_true rfl) ?_
                  refine W.eq (g2 := F0 m 23 ls [.int q_43]) rfl ?_
                  subst hq44
                  refine lv_sipush (v := 9900) hx hb dX5_fewestNeeded_23 (by decide) ?_
                  refine lv_icmp_lt (tgt := 31) hx hb dX5_fewestNeeded_26 (by decide) (fun cN8 => ?_) (fun cN8 => ?_)
                  · skip
                    refine lv_iinc (v := 9) (lv' := [(2, .int 9), (0, .int r), (1, .int 0)]) hx hb dX5_fewestNeeded_31 hl (k := 0) rfl (by decide) (by decide) rfl (fun ls hl => ?_)
                    refine lv_goto (tgt := 2) hx hb dX5_fewestNeeded_34 (by decide) ?_
                    refine lv_iload_n hx hb dX5_fewestNeeded_2 rfl (lv_at hl 0 rfl) ?_
                    refine lv_bipush (v := 20) hx hb dX5_fewestNeeded_3 (by decide) ?_
                    refine lv_icmp_gt (tgt := 37) hx hb dX5_fewestNeeded_5 (by decide) (fun c46 => absurd c46 (by decide)) (fun _ => ?_)
                    refine lv_iload_n hx hb dX5_fewestNeeded_8 rfl (lv_at hl 2 rfl) ?_
                    refine lv_iload_n hx hb dX5_fewestNeeded_9 rfl (lv_at hl 0 rfl) ?_
                    refine lv_iadd hx hb dX5_fewestNeeded_10 ?_
                    refine ztop (r := 9) (by decide) ?_
                    refine lv_bipush (v := 12) hx hb dX5_fewestNeeded_11 (by decide) ?_
                    refine lv_icmp_gt (tgt := 37) hx hb dX5_fewestNeeded_13 (by decide) (fun c47 => absurd c47 (by decide)) (fun _ => ?_)
                    refine lv_iload_n hx hb dX5_fewestNeeded_16 rfl (lv_at hl 1 rfl) ?_
                    refine lv_iload_n hx hb dX5_fewestNeeded_17 rfl (lv_at hl 2 rfl) ?_
                    refine lv_iload_n hx hb dX5_fewestNeeded_18 rfl (lv_at hl 0 rfl) ?_
                    refine lv_iadd hx hb dX5_fewestNeeded_19 ?_
                    refine ztop (r := 9) (by decide) ?_
                    refine mcallS (g := g) (As := [.int r, .int 9]) (rest := []) St hK hT hA hP hD hS hl.1 [] [] rfl rfl rfl (c_odds l g r 9 9 (by omega) rfl) (va_cwS 2 hts (zgL (zl3 k287 k288 k267) k283) rfl rfl rfl (by decide +kernel) ⟨Nat.le_of_ble_eq_true rfl, Nat.le_of_ble_eq_true rfl⟩) rfl rfl (Nat.le_of_ble_eq_true rfl) dX5_fewestNeeded_20 ⟨(Nat.le_of_ble_eq_true rfl), (Nat.le_of_ble_eq_true rfl)⟩ (fun q_48 H locs hq49 hP hD hS => ?_)
                    have hq49 : q_48 = zod r 9 := hq49
                    have hP : va_P g.1 vwCl (List.flatten []) H := hP
                    have hD : va_D A (List.flatten []) := hD
                    refine W.widen (k := 0) (n := 0) (Nat.le_of_ble_eq_true rfl) (Nat.le_of_ble_eq_true rfl) ?_
                    refine W.eq (g2 := F0 m 23 ls [.int q_48]) rfl ?_
                    subst hq49
                    refine lv_sipush (v := 9900) hx hb dX5_fewestNeeded_23 (by decide) ?_
                    refine lv_icmp_lt (tgt := 31) hx hb dX5_fewestNeeded_26 (by decide) (fun cN9 => ?_) (fun cN9 => ?_)
                    · skip
                      refine lv_iinc (v := 10) (lv' := [(2, .int 10), (0, .int r), (1, .int 0)]) hx hb dX5_fewestNeeded_31 hl (k := 0) rfl (by decide) (by decide) rfl (fun ls hl => ?_)
                      refine lv_goto (tgt := 2) hx hb dX5_fewestNeeded_34 (by decide) ?_
                      refine lv_iload_n hx hb dX5_fewestNeeded_2 rfl (lv_at hl 0 rfl) ?_
                      refine lv_bipush (v := 20) hx hb dX5_fewestNeeded_3 (by decide) ?_
                      refine lv_icmp_gt (tgt := 37) hx hb dX5_fewestNeeded_5 (by decide) (fun c51 => absurd c51 (by decide)) (fun _ => ?_)
                      refine lv_iload_n hx hb dX5_fewestNeeded_8 rfl (lv_at hl 2 rfl) ?_
                      refine lv_iload_n hx hb dX5_fewestNeeded_9 rfl (lv_at hl 0 rfl) ?_
                      refine lv_iadd hx hb dX5_fewestNeeded_10 ?_
                      refine ztop (r := 10) (by decide) ?_
                      refine lv_bipush (v := 12) hx hb dX5_fewestNeeded_11 (by decide) ?_
                      refine lv_icmp_gt (tgt := 37) hx hb dX5_fewestNeeded_13 (by decide) (fun c52 => absurd c52 (by decide)) (fun _ => ?_)
                      refine lv_iload_n hx hb dX5_fewestNeeded_16 rfl (lv_at hl 1 rfl) ?_
                      refine lv_iload_n hx hb dX5_fewestNeeded_17 rfl (lv_at hl 2 rfl) ?_
                      refine lv_iload_n hx hb dX5_fewestNeeded_18 rfl (lv_at hl 0 rfl) ?_
                      refine lv_iadd hx hb dX5_fewestNeeded_19 ?_
                      refine ztop (r := 10) (by decide) ?_
                      refine mcallS (g := g) (As := [.int r, .int 10]) (rest := []) St hK hT hA hP hD hS hl.1 [] [] rfl rfl rfl (c_odds l g r 10 10 (by omega) rfl) (va_cwS 2 hts (zgL (zl3 k287 k288 k267) k283) rfl rfl rfl (by decide +kernel) ⟨Nat.le_of_ble_eq_true rfl, Nat.le_of_ble_eq_true rfl⟩) rfl rfl (Nat.le_of_ble_eq_true rfl) dX5_fewestNeeded_20 ⟨(Nat.le_of_ble_eq_true rfl), (Nat.le_of_ble_eq_true rfl)⟩ (fun q_53 H locs hq54 hP hD hS => ?_)
                      have hq54 : q_53 = zod r 10 := hq54
                      have hP : va_P g.1 vwCl (List.flatten []) H := hP
                      have hD : va_D A (List.flatten []) := hD
                      refine W.widen (k := 0) (n := 0) (Nat.le_of_ble_eq_true rfl) (Nat.le_of_ble_eq_true rfl) ?_
                      refine W.eq (g2 := F0 m 23 ls [.int q_53]) rfl ?_
                      subst hq54
                      refine lv_sipush (v := 9900) hx hb dX5_fewestNeeded_23 (by decide) ?_
                      refine lv_icmp_lt (tgt := 31) hx hb dX5_fewestNeeded_26 (by decide) (fun cN10 => ?_) (fun cN10 => ?_)
                      · skip
                        refine lv_iinc (v := 11) (lv' := [(2, .int 11), (0, .int r), (1, .int 0)]) hx hb dX5_fewestNeeded_31 hl (k := 0) rfl (by decide) (by decide) rfl (fun ls hl => ?_)
                        refine lv_goto (tgt := 2) hx hb dX5_fewestNeeded_34 (by decide) ?_
                        refine lv_iload_n hx hb dX5_fewestNeeded_2 rfl (lv_at hl 0 rfl) ?_
                        refine lv_bipush (v := 20) hx hb dX5_fewestNeeded_3 (by decide) ?_
                        refine lv_icmp_gt (tgt := 37) hx hb dX5_fewestNeeded_5 (by decide) (fun c56 => absurd c56 (by decide)) (fun _ => ?_)
                        refine lv_iload_n hx hb dX5_fewestNeeded_8 rfl (lv_at hl 2 rfl) ?_
                        refine lv_iload_n hx hb dX5_fewestNeeded_9 rfl (lv_at hl 0 rfl) ?_
                        refine lv_iadd hx hb dX5_fewestNeeded_10 ?_
                        refine ztop (r := 11) (by decide) ?_
                        refine lv_bipush (v := 12) hx hb dX5_fewestNeeded_11 (by decide) ?_
                        refine lv_icmp_gt (tgt := 37) hx hb dX5_fewestNeeded_13 (by decide) (fun c57 => absurd c57 (by decide)) (fun _ => ?_)
                        refine lv_iload_n hx hb dX5_fewestNeeded_16 rfl (lv_at hl 1 rfl) ?_
                        refine lv_iload_n hx hb dX5_fewestNeeded_17 rfl (lv_at hl 2 rfl) ?_
                        refine lv_iload_n hx hb dX5_fewestNeeded_18 rfl (lv_at hl 0 rfl) ?_
                        refine lv_iadd hx hb dX5_fewestNeeded_19 ?_
                        refine ztop (r := 11) (by decide) ?_
                        refine mcallS (g := g) (As := [.int r, .int 11]) (rest := []) St hK hT hA hP hD hS hl.1 [] [] rfl rfl rfl (c_odds l g r 11 11 (by omega) rfl) (va_cwS 2 hts (zgL (zl3 k287 k288 k267) k283) rfl rfl rfl (by decide +kernel) ⟨Nat.le_of_ble_eq_true rfl, Nat.le_of_ble_eq_true rfl⟩) rfl rfl (Nat.le_of_ble_eq_true rfl) dX5_fewestNeeded_20 ⟨(Nat.le_of_ble_eq_true rfl), (Nat.le_of_ble_eq_true rfl)⟩ (fun q_58 H locs hq59 hP hD hS => ?_)
                        have hq59 : q_58 = zod r 11 := hq59
                        have hP : va_P g.1 vwCl (List.flatten []) H := hP
                        have hD : va_D A (List.flatten []) := hD
                        refine W.widen (k := 0) (n := 0) (Nat.le_of_ble_eq_true rfl) (Nat.le_of_ble_eq_true rfl) ?_
                        refine W.eq (g2 := F0 m 23 ls [.int q_58]) rfl ?_
                        subst hq59
                        refine lv_sipush (v := 9900) hx hb dX5_fewestNeeded_23 (by decide) ?_
                        refine lv_icmp_lt (tgt := 31) hx hb dX5_fewestNeeded_26 (by decide) (fun cN11 => ?_) (fun cN11 => ?_)
                        · skip
                          refine lv_iinc (v := 12) (lv' := [(2, .int 12), (0, .int r), (1, .int 0)]) hx hb dX5_fewestNeeded_31 hl (k := 0) rfl (by decide) (by decide) rfl (fun ls hl => ?_)
                          refine lv_goto (tgt := 2) hx hb dX5_fewestNeeded_34 (by decide) ?_
                          refine lv_iload_n hx hb dX5_fewestNeeded_2 rfl (lv_at hl 0 rfl) ?_
                          refine lv_bipush (v := 20) hx hb dX5_fewestNeeded_3 (by decide) ?_
                          refine lv_icmp_gt (tgt := 37) hx hb dX5_fewestNeeded_5 (by decide) (fun c61 => absurd c61 (by decide)) (fun _ => ?_)
                          refine lv_iload_n hx hb dX5_fewestNeeded_8 rfl (lv_at hl 2 rfl) ?_
                          refine lv_iload_n hx hb dX5_fewestNeeded_9 rfl (lv_at hl 0 rfl) ?_
                          refine lv_iadd hx hb dX5_fewestNeeded_10 ?_
                          refine ztop (r := 12) (by decide) ?_
                          refine lv_bipush (v := 12) hx hb dX5_fewestNeeded_11 (by decide) ?_
                          refine lv_icmp_gt (tgt := 37) hx hb dX5_fewestNeeded_13 (by decide) (fun c62 => absurd c62 (by decide)) (fun _ => ?_)
                          refine lv_iload_n hx hb dX5_fewestNeeded_16 rfl (lv_at hl 1 rfl) ?_
                          refine lv_iload_n hx hb dX5_fewestNeeded_17 rfl (lv_at hl 2 rfl) ?_
                          refine lv_iload_n hx hb dX5_fewestNeeded_18 rfl (lv_at hl 0 rfl) ?_
                          refine lv_iadd hx hb dX5_fewestNeeded_19 ?_
                          refine ztop (r := 12) (by decide) ?_
                          refine mcallS (g := g) (As := [.int r, .int 12]) (rest := []) St hK hT hA hP hD hS hl.1 [] [] rfl rfl rfl (c_odds l g r 12 12 (by omega) rfl) (va_cwS 2 hts (zgL (zl3 k287 k288 k267) k283) rfl rfl rfl (by decide +kernel) ⟨Nat.le_of_ble_eq_true rfl, Nat.le_of_ble_eq_true rfl⟩) rfl rfl (Nat.le_of_ble_eq_true rfl) dX5_fewestNeeded_20 ⟨(Nat.le_of_ble_eq_true rfl), (Nat.le_of_ble_eq_true rfl)⟩ (fun q_63 H locs hq64 hP hD hS => ?_)
                          have hq64 : q_63 = zod r 12 := hq64
                          have hP : va_P g.1 vwCl (List.flatten []) H := hP
                          have hD : va_D A (List.flatten []) := hD
                          refine W.widen (k := 0) (n := 0) (Nat.le_of_ble_eq_true rfl) (Nat.le_of_ble_eq_true rfl) ?_
                          refine W.eq (g2 := F0 m 23 ls [.int q_63]) rfl ?_
                          subst hq64
                          refine lv_sipush (v := 9900) hx hb dX5_fewestNeeded_23 (by decide) ?_
                          refine lv_icmp_lt (tgt := 31) hx hb dX5_fewestNeeded_26 (by decide) (fun cN12 => ?_) (fun cN12 => ?_)
                          · skip
                            refine lv_iinc (v := 13) (lv' := [(2, .int 13), (0, .int r), (1, .int 0)]) hx hb dX5_fewestNeeded_31 hl (k := 0) rfl (by decide) (by decide) rfl (fun ls hl => ?_)
                            refine lv_goto (tgt := 2) hx hb dX5_fewestNeeded_34 (by decide) ?_
                            refine lv_iload_n hx hb dX5_fewestNeeded_2 rfl (lv_at hl 0 rfl) ?_
                            refine lv_bipush (v := 20) hx hb dX5_fewestNeeded_3 (by decide) ?_
                            refine lv_icmp_gt (tgt := 37) hx hb dX5_fewestNeeded_5 (by decide) (fun c66 => absurd c66 (by decide)) (fun _ => ?_)
                            refine lv_iload_n hx hb dX5_fewestNeeded_8 rfl (lv_at hl 2 rfl) ?_
                            refine lv_iload_n hx hb dX5_fewestNeeded_9 rfl (lv_at hl 0 rfl) ?_
                            refine lv_iadd hx hb dX5_fewestNeeded_10 ?_
                            refine ztop (r := 13) (by decide) ?_
                            refine lv_bipush (v := 12) hx hb dX5_fewestNeeded_11 (by decide) ?_
                            refine lv_icmp_gt (tgt := 37) hx hb dX5_fewestNeeded_13 (by decide) (fun _ => ?_) (fun c67 => absurd (by decide) c67)
                            refine lv_iconst (v := (-1)) hx hb dX5_fewestNeeded_37 (by decide) ?_
                            have hP : va_P g.1 vwCl (List.flatten []) H := hP
                            have hD : va_D A (List.flatten []) := hD
                            exact mret_i hx hb hr hlocks hS (Nat.le_of_ble_eq_true rfl) (Nat.le_of_ble_eq_true rfl) dX5_fewestNeeded_38 (-1) rfl (by simp [zfn, cN0, cN1, cN2, cN3, cN4, cN5, cN6, cN7, cN8, cN9, cN10, cN11, cN12]) hP hD
                          · skip
                            refine lv_iload_n hx hb dX5_fewestNeeded_29 rfl (lv_at hl 0 rfl) ?_
                            have hP : va_P g.1 vwCl (List.flatten []) H := hP
                            have hD : va_D A (List.flatten []) := hD
                            exact mret_i hx hb hr hlocks hS (Nat.le_of_ble_eq_true rfl) (Nat.le_of_ble_eq_true rfl) dX5_fewestNeeded_30 (12) rfl (by simp [zfn, cN0, cN1, cN2, cN3, cN4, cN5, cN6, cN7, cN8, cN9, cN10, cN11, cN12]) hP hD
                        · skip
                          refine lv_iload_n hx hb dX5_fewestNeeded_29 rfl (lv_at hl 0 rfl) ?_
                          have hP : va_P g.1 vwCl (List.flatten []) H := hP
                          have hD : va_D A (List.flatten []) := hD
                          exact mret_i hx hb hr hlocks hS (Nat.le_of_ble_eq_true rfl) (Nat.le_of_ble_eq_true rfl) dX5_fewestNeeded_30 (11) rfl (by simp [zfn, cN0, cN1, cN2, cN3, cN4, cN5, cN6, cN7, cN8, cN9, cN10, cN11]) hP hD
                      · skip
                        refine lv_iload_n hx hb dX5_fewestNeeded_29 rfl (lv_at hl 0 rfl) ?_
                        have hP : va_P g.1 vwCl (List.flatten []) H := hP
                        have hD : va_D A (List.flatten []) := hD
                        exact mret_i hx hb hr hlocks hS (Nat.le_of_ble_eq_true rfl) (Nat.le_of_ble_eq_true rfl) dX5_fewestNeeded_30 (10) rfl (by simp [zfn, cN0, cN1, cN2, cN3, cN4, cN5, cN6, cN7, cN8, cN9, cN10]) hP hD
                    · skip
                      refine lv_iload_n hx hb dX5_fewestNeeded_29 rfl (lv_at hl 0 rfl) ?_
                      have hP : va_P g.1 vwCl (List.flatten []) H := hP
                      have hD : va_D A (List.flatten []) := hD
                      exact mret_i hx hb hr hlocks hS (Nat.le_of_ble_eq_true rfl) (Nat.le_of_ble_eq_true rfl) dX5_fewestNeeded_30 (9) rfl (by simp [zfn, cN0, cN1, cN2, cN3, cN4, cN5, cN6, cN7, cN8, cN9]) hP hD
                  · skip
                    refine lv_iload_n hx hb dX5_fewestNeeded_29 rfl (lv_at hl 0 rfl) ?_
                    have hP : va_P g.1 vwCl (List.flatten []) H := hP
                    have hD : va_D A (List.flatten []) := hD
                    exact mret_i hx hb hr hlocks hS (Nat.le_of_ble_eq_true rfl) (Nat.le_of_ble_eq_true rfl) dX5_fewestNeeded_30 (8) rfl (by simp [zfn, cN0, cN1, cN2, cN3, cN4, cN5, cN6, cN7, cN8]) hP hD
                · skip
                  refine lv_iload_n hx hb dX5_fewestNeeded_29 rfl (lv_at hl 0 rfl) ?_
                  have hP : va_P g.1 vwCl (List.flatten []) H := hP
                  have hD : va_D A (List.flatten []) := hD
                  exact mret_i hx hb hr hlocks hS (Nat.le_of_ble_eq_true rfl) (Nat.le_of_ble_eq_true rfl) dX5_fewestNeeded_30 (7) rfl (by simp [zfn, cN0, cN1, cN2, cN3, cN4, cN5, cN6, cN7]) hP hD
              · skip
                refine lv_iload_n hx hb dX5_fewestNeeded_29 rfl (lv_at hl 0 rfl) ?_
                have hP : va_P g.1 vwCl (List.flatten []) H := hP
                have hD : va_D A (List.flatten []) := hD
                exact mret_i hx hb hr hlocks hS (Nat.le_of_ble_eq_true rfl) (Nat.le_of_ble_eq_true rfl) dX5_fewestNeeded_30 (6) rfl (by simp [zfn, cN0, cN1, cN2, cN3, cN4, cN5, cN6]) hP hD
            · skip
              refine lv_iload_n hx hb dX5_fewestNeeded_29 rfl (lv_at hl 0 rfl) ?_
              have hP : va_P g.1 vwCl (List.flatten []) H := hP
              have hD : va_D A (List.flatten []) := hD
              exact mret_i hx hb hr hlocks hS (Nat.le_of_ble_eq_true rfl) (Nat.le_of_ble_eq_true rfl) dX5_fewestNeeded_30 (5) rfl (by simp [zfn, cN0, cN1, cN2, cN3, cN4, cN5]) hP hD
          · skip
            refine lv_iload_n hx hb dX5_fewestNeeded_29 rfl (lv_at hl 0 rfl) ?_
            have hP : va_P g.1 vwCl (List.flatten []) H := hP
            have hD : va_D A (List.flatten []) := hD
            exact mret_i hx hb hr hlocks hS (Nat.le_of_ble_eq_true rfl) (Nat.le_of_ble_eq_true rfl) dX5_fewestNeeded_30 (4) rfl (by simp [zfn, cN0, cN1, cN2, cN3, cN4]) hP hD
        · skip
          refine lv_iload_n hx hb dX5_fewestNeeded_29 rfl (lv_at hl 0 rfl) ?_
          have hP : va_P g.1 vwCl (List.flatten []) H := hP
          have hD : va_D A (List.flatten []) := hD
          exact mret_i hx hb hr hlocks hS (Nat.le_of_ble_eq_true rfl) (Nat.le_of_ble_eq_true rfl) dX5_fewestNeeded_30 (3) rfl (by simp [zfn, cN0, cN1, cN2, cN3]) hP hD
      · skip
        refine lv_iload_n hx hb dX5_fewestNeeded_29 rfl (lv_at hl 0 rfl) ?_
        have hP : va_P g.1 vwCl (List.flatten []) H := hP
        have hD : va_D A (List.flatten []) := hD
        exact mret_i hx hb hr hlocks hS (Nat.le_of_ble_eq_true rfl) (Nat.le_of_ble_eq_true rfl) dX5_fewestNeeded_30 (2) rfl (by simp [zfn, cN0, cN1, cN2]) hP hD
    · skip
      refine lv_iload_n hx hb dX5_fewestNeeded_29 rfl (lv_at hl 0 rfl) ?_
      have hP : va_P g.1 vwCl (List.flatten []) H := hP
      have hD : va_D A (List.flatten []) := hD
      exact mret_i hx hb hr hlocks hS (Nat.le_of_ble_eq_true rfl) (Nat.le_of_ble_eq_true rfl) dX5_fewestNeeded_30 (1) rfl (by simp [zfn, cN0, cN1]) hP hD
  · skip
    refine lv_iload_n hx hb dX5_fewestNeeded_29 rfl (lv_at hl 0 rfl) ?_
    have hP : va_P g.1 vwCl (List.flatten []) H := hP
    have hD : va_D A (List.flatten []) := hD
    exact mret_i hx hb hr hlocks hS (Nat.le_of_ble_eq_true rfl) (Nat.le_of_ble_eq_true rfl) dX5_fewestNeeded_30 (0) rfl (by simp [zfn, cN0]) hP hD
set_option maxRecDepth 100000 in
set_option maxHeartbeats 4000000 in
theorem c_countCircles (l : Launch) (g : zG) (o : Nat) (a : Nat → Nat) (tx : Int32) (ch : Int32) (jo : Int32) (tr : Int32) (dy : Int32) (sd : Int32) (f : Nat → Nat → Int32)  : zM g l yX8_countCircles (Cond.code yX8_countCircles cX8_countCircles 5 (some .int) :: zB) ({ frames := 0, cells := 0, slots := 0, locals := 0 } : Room) [.ref o] [bTown g o a 0 0 tx ch jo tr dy sd f] (fun _ : Unit => some (.int 0)) (fun _ : Unit => True) (fun _ : Unit => [bTown g o a 0 0 tx ch jo tr dy sd f]) := by
  refine zM.of (cc := cX8_countCircles) (maxL := 5) (rt := (some .int)) (by decide) rfl (Nat.le_of_ble_eq_true rfl) ?_
  intro p e s m args below meth c A ls St hr hlocks hin hK hT hA hP hD hS hl
  obtain ⟨hx, hb, hml, hown, hts⟩ := id St
  have hl : lv_has ls 5 [(0, .ref o)] := hl
  refine lv_iconst (v := 0) hx hb dX8_countCircles_0 (by decide) ?_
  refine lv_istore_n (lv' := [(1, .int 0), (0, .ref o)]) hx hb dX8_countCircles_1 rfl hl (by decide) rfl (fun ls hl => ?_)
  refine lv_iconst (v := 0) hx hb dX8_countCircles_2 (by decide) ?_
  refine lv_istore_n (lv' := [(2, .int 0), (1, .int 0), (0, .ref o)]) hx hb dX8_countCircles_3 rfl hl (by decide) rfl (fun ls hl => ?_)
  refine lv_iconst (v := 0) hx hb dX8_countCircles_4 (by decide) ?_
  refine lv_istore_n (lv' := [(3, .int 0), (2, .int 0), (1, .int 0), (0, .ref o)]) hx hb dX8_countCircles_5 rfl hl (by decide) rfl (fun ls hl => ?_)
  refine lv_iload_n hx hb dX8_countCircles_6 rfl (lv_at hl 0 rfl) ?_
  refine lv_aload_n hx hb dX8_countCircles_7 rfl (lv_at hl 3 rfl) ?_
  refine va_get (D := g.1) (ci := 7) (v := .int 0) (C := RX9) (T := TX9) (N := 19) hx hb hts izRX9 hown hK hP 0 rfl rfl 0 (by decide) (hts _ k479) (fun _ h9 => h9) rfl dX8_countCircles_8 ?_
  refine lv_icmp_ge (tgt := 48) hx hb dX8_countCircles_11 (by decide) (fun _ => ?_) (fun c1 => absurd (by decide) c1)
  refine lv_iload_n hx hb dX8_countCircles_48 rfl (lv_at hl 2 rfl) ?_
  have hP : va_P g.1 vwCl (List.flatten [bTown g o a 0 0 tx ch jo tr dy sd f]) s.heap := hP
  have hD : va_D A (List.flatten [bTown g o a 0 0 tx ch jo tr dy sd f]) := hD
  exact mret_i hx hb hr hlocks hS (Nat.le_of_ble_eq_true rfl) (Nat.le_of_ble_eq_true rfl) dX8_countCircles_49 () rfl trivial hP hD
set_option maxRecDepth 100000 in
set_option maxHeartbeats 4000000 in
theorem c_untied (l : Launch) (g : zG) (o : Nat) (a : Nat → Nat) (tx : Int32) (ch : Int32) (jo : Int32) (tr : Int32) (dy : Int32) (sd : Int32) (f : Nat → Nat → Int32)  : zM g l yX8_untied (Cond.code yX8_untied cX8_untied 3 (some .int) :: zB) ({ frames := 0, cells := 0, slots := 0, locals := 0 } : Room) [.ref o] [bTown g o a 0 0 tx ch jo tr dy sd f] (fun _ : Unit => some (.int 0)) (fun _ : Unit => True) (fun _ : Unit => [bTown g o a 0 0 tx ch jo tr dy sd f]) := by
  refine zM.of (cc := cX8_untied) (maxL := 3) (rt := (some .int)) (by decide) rfl (Nat.le_of_ble_eq_true rfl) ?_
  intro p e s m args below meth c A ls St hr hlocks hin hK hT hA hP hD hS hl
  obtain ⟨hx, hb, hml, hown, hts⟩ := id St
  have hl : lv_has ls 3 [(0, .ref o)] := hl
  refine lv_iconst (v := 0) hx hb dX8_untied_0 (by decide) ?_
  refine lv_istore_n (lv' := [(1, .int 0), (0, .ref o)]) hx hb dX8_untied_1 rfl hl (by decide) rfl (fun ls hl => ?_)
  refine lv_iconst (v := 0) hx hb dX8_untied_2 (by decide) ?_
  refine lv_istore_n (lv' := [(2, .int 0), (1, .int 0), (0, .ref o)]) hx hb dX8_untied_3 rfl hl (by decide) rfl (fun ls hl => ?_)
  refine lv_iload_n hx hb dX8_untied_4 rfl (lv_at hl 0 rfl) ?_
  refine lv_aload_n hx hb dX8_untied_5 rfl (lv_at hl 2 rfl) ?_
  refine va_get (D := g.1) (ci := 7) (v := .int 0) (C := RX9) (T := TX9) (N := 19) hx hb hts izRX9 hown hK hP 0 rfl rfl 0 (by decide) (hts _ k479) (fun _ h9 => h9) rfl dX8_untied_6 ?_
  refine lv_icmp_ge (tgt := 42) hx hb dX8_untied_9 (by decide) (fun _ => ?_) (fun c1 => absurd (by decide) c1)
  refine lv_iload_n hx hb dX8_untied_42 rfl (lv_at hl 1 rfl) ?_
  have hP : va_P g.1 vwCl (List.flatten [bTown g o a 0 0 tx ch jo tr dy sd f]) s.heap := hP
  have hD : va_D A (List.flatten [bTown g o a 0 0 tx ch jo tr dy sd f]) := hD
  exact mret_i hx hb hr hlocks hS (Nat.le_of_ble_eq_true rfl) (Nat.le_of_ble_eq_true rfl) dX8_untied_43 () rfl trivial hP hD
set_option maxRecDepth 20000 in
theorem hat_RX11_391_IndexOutOfBoundsExceptiona : ∀ w ∈ (vx_atS RX11 391 "java/lang/IndexOutOfBoundsException" zNm).filter goodWord, w ∈ zB := by decide +kernel
set_option maxRecDepth 20000 in
theorem hat_RX11_391_IndexOutOfBoundsExceptionb : ∀ w ∈ (vx_atS RX11 391 "java/lang/IndexOutOfBoundsException" zNm).filter (fun w => !goodWord w), w ∈ zBad "java/lang/IndexOutOfBoundsException" := by decide +kernel
set_option maxRecDepth 20000 in
theorem hat_RX11_391_IndexOutOfBoundsExceptionc : ∀ w ∈ Cond.classLink RX11 387 "java/lang/IndexOutOfBoundsException" :: Cond.initialized "java/lang/IndexOutOfBoundsException" :: vx_atS RX11 391 "java/lang/IndexOutOfBoundsException" zNm, vx_ot w = true := by decide +kernel
set_option maxRecDepth 100000 in
set_option maxHeartbeats 4000000 in
theorem c_needPerson (l : Launch) (hfl : l.stackTraces = false) (g : zG) (x : Nat) (ta : Nat) (o : Nat) (lo : Nat) (go : Nat) (tt : Nat) (lt : Nat) (mo : Nat) (fo : Nat) (ro : Nat) (fl9 : Int32) (a : Nat → Nat) (tx : Int32) (ch : Int32) (jo : Int32) (tr : Int32) (dy : Int32) (sd : Int32) (f : Nat → Nat → Int32) (n : Int32)  : zX g l yX11_needPerson (Cond.code yX11_needPerson cX11_needPerson 2 none :: zB) ({ frames := 6, cells := 1, slots := 6, locals := 82 } : Room) [.ref x, .int n] [bDR g x ta o lo go tt lt mo fo ro fl9, bTown g o a 0 0 tx ch jo tr dy sd f] (fun _ : Unit => none) (fun _ : Unit => False) (fun _ : Unit => []) (fun (E : String) (_ : Unit) => E = "java/lang/IndexOutOfBoundsException") (fun _ : Unit => []) := by
  refine zX.of (cc := cX11_needPerson) (maxL := 2) (rt := none) (by decide) rfl (Nat.le_of_ble_eq_true rfl) ?_
  intro p e s m args below meth c A ls St hr hlocks htab hin hK hT hA hP hD hS hl
  obtain ⟨hx, hb, hml, hown, hts⟩ := id St
  have hl : lv_has ls 2 [(0, .ref x), (1, .int n)] := hl
  refine lv_iload_n hx hb dX11_needPerson_0 rfl (lv_at hl 1 rfl) ?_
  refine lv_if_lt (tgt := 15) hx hb dX11_needPerson_1 (by decide) (fun cA => ?_) (fun cA => ?_)
  · skip
    obtain ⟨sa2, hsa2⟩ := hT.2.2.1 _ (List.mem_of_getElem? (i := 6) rfl)
    have hP : va_P g.1 vwCl (List.flatten [bDR g x ta o lo go tt lt mo fo ro fl9, bTown g o a 0 0 tx ch jo tr dy sd f]) s.heap := hP
    have hD : va_D A (List.flatten [bDR g x ta o lo go tt lt mo fo ro fl9, bTown g o a 0 0 tx ch jo tr dy sd f]) := hD
    obtain ⟨hP, hD⟩ := zord (g := g) (Bs' := []) [] rfl rfl hP hD
    exact vx_throwSW (A := A) (names := ["java/lang/RuntimeException", "java/lang/Exception"]) hx hb hfl hown (by decide +kernel) (by decide +kernel) (hts _ k582) (hts _ k583) hsa2 (zhat hat_RX11_391_IndexOutOfBoundsExceptiona hat_RX11_391_IndexOutOfBoundsExceptionb hts (hT.2.2.2.2.1 _ (List.mem_of_getElem? (i := 0) rfl))) hat_RX11_391_IndexOutOfBoundsExceptionc hT.1 hT.2.1 hS (by rw [hml]; exact hl.1) dX11_needPerson_15 dX11_needPerson_18 dX11_needPerson_19 dX11_needPerson_22 dX11_needPerson_25 (fun x hx => (htab x hx).elim) (Nat.le_of_ble_eq_true rfl) (Nat.le_of_ble_eq_true rfl) (Nat.le_of_ble_eq_true rfl) (Nat.le_of_ble_eq_true rfl) hlocks (fun t ht hz hk => ⟨⟨(), rfl, hP.kept (fun k q hq => hk q.1 (hP k q hq).lt), hD⟩, ⟨Nat.le_trans hS.1 hz, fun q h1 h2 => (hk q (Nat.lt_of_lt_of_le h1 hS.1)).trans (hS.2.1 q h1 h2)⟩⟩) hS.2.2 (Nat.le_of_ble_eq_true rfl) (Nat.le_of_ble_eq_true rfl)
  · skip
    refine lv_iload_n hx hb dX11_needPerson_4 rfl (lv_at hl 1 rfl) ?_
    refine lv_aload_n hx hb dX11_needPerson_5 rfl (lv_at hl 0 rfl) ?_
    refine va_get (D := g.1) (ci := 9) (v := .ref o) (C := RX11) (T := TX11) (N := 10) hx hb hts izRX11 hown hK hP 0 rfl rfl 1 (by decide) (hts _ k512) (fun _ h9 => h9) rfl dX11_needPerson_6 ?_
    refine va_get (D := g.1) (ci := 7) (v := .int 0) (C := RX9) (T := TX9) (N := 19) hx hb hts izRX9 hown hK hP 1 rfl rfl 0 (by decide) (hts _ k584) (fun _ h9 => h9) rfl dX11_needPerson_9 ?_
    refine lv_icmp_lt (tgt := 26) hx hb dX11_needPerson_12 (by decide) (fun c3 => absurd c3 cA) (fun _ => ?_)
    obtain ⟨sa4, hsa4⟩ := hT.2.2.1 _ (List.mem_of_getElem? (i := 6) rfl)
    have hP : va_P g.1 vwCl (List.flatten [bDR g x ta o lo go tt lt mo fo ro fl9, bTown g o a 0 0 tx ch jo tr dy sd f]) s.heap := hP
    have hD : va_D A (List.flatten [bDR g x ta o lo go tt lt mo fo ro fl9, bTown g o a 0 0 tx ch jo tr dy sd f]) := hD
    obtain ⟨hP, hD⟩ := zord (g := g) (Bs' := []) [] rfl rfl hP hD
    exact vx_throwSW (A := A) (names := ["java/lang/RuntimeException", "java/lang/Exception"]) hx hb hfl hown (by decide +kernel) (by decide +kernel) (hts _ k582) (hts _ k583) hsa4 (zhat hat_RX11_391_IndexOutOfBoundsExceptiona hat_RX11_391_IndexOutOfBoundsExceptionb hts (hT.2.2.2.2.1 _ (List.mem_of_getElem? (i := 0) rfl))) hat_RX11_391_IndexOutOfBoundsExceptionc hT.1 hT.2.1 hS (by rw [hml]; exact hl.1) dX11_needPerson_15 dX11_needPerson_18 dX11_needPerson_19 dX11_needPerson_22 dX11_needPerson_25 (fun x hx => (htab x hx).elim) (Nat.le_of_ble_eq_true rfl) (Nat.le_of_ble_eq_true rfl) (Nat.le_of_ble_eq_true rfl) (Nat.le_of_ble_eq_true rfl) hlocks (fun t ht hz hk => ⟨⟨(), rfl, hP.kept (fun k q hq => hk q.1 (hP k q hq).lt), hD⟩, ⟨Nat.le_trans hS.1 hz, fun q h1 h2 => (hk q (Nat.lt_of_lt_of_le h1 hS.1)).trans (hS.2.1 q h1 h2)⟩⟩) hS.2.2 (Nat.le_of_ble_eq_true rfl) (Nat.le_of_ble_eq_true rfl)
set_option maxRecDepth 100000 in
set_option maxHeartbeats 4000000 in
theorem c_needTwo (l : Launch) (hfl : l.stackTraces = false) (g : zG) (x : Nat) (ta : Nat) (o : Nat) (lo : Nat) (go : Nat) (tt : Nat) (lt : Nat) (mo : Nat) (fo : Nat) (ro : Nat) (fl9 : Int32) (a : Nat → Nat) (tx : Int32) (ch : Int32) (jo : Int32) (tr : Int32) (dy : Int32) (sd : Int32) (f : Nat → Nat → Int32) (n : Int32) (n2 : Int32)  : zX g l yX11_needTwo (Cond.code yX11_needTwo cX11_needTwo 3 none :: zB) ({ frames := 7, cells := 1, slots := 6, locals := 103 } : Room) [.ref x, .int n, .int n2] [bDR g x ta o lo go tt lt mo fo ro fl9, bTown g o a 0 0 tx ch jo tr dy sd f] (fun _ : Unit => none) (fun _ : Unit => False) (fun _ : Unit => []) (fun (E : String) (_ : Unit) => E = "java/lang/IndexOutOfBoundsException") (fun _ : Unit => []) := by
  refine zX.of (cc := cX11_needTwo) (maxL := 3) (rt := none) (by decide) rfl (Nat.le_of_ble_eq_true rfl) ?_
  intro p e s m args below meth c A ls St hr hlocks htab hin hK hT hA hP hD hS hl
  obtain ⟨hx, hb, hml, hown, hts⟩ := id St
  have hl : lv_has ls 3 [(0, .ref x), (1, .int n), (2, .int n2)] := hl
  refine lv_aload_n hx hb dX11_needTwo_0 rfl (lv_at hl 0 rfl) ?_
  refine lv_iload_n hx hb dX11_needTwo_1 rfl (lv_at hl 1 rfl) ?_
  refine xcallV (g := g) (q0 := 0) (ci := 9) (As := [.int n]) (rest := []) St hK hT hA hP hD hS hl.1 [0, 1] [] rfl rfl rfl (c_needPerson l hfl g x ta o lo go tt lt mo fo ro fl9 a tx ch jo tr dy sd f n ) (cwV 1 hts (zgL (zl4 k592 k593 k594 k595) k581) rfl rfl rfl (by decide +kernel) ⟨Nat.le_of_ble_eq_true rfl, Nat.le_of_ble_eq_true rfl⟩) rfl rfl rfl rfl (Nat.le_of_ble_eq_true rfl) dX11_needTwo_2 ⟨(Nat.le_of_ble_eq_true rfl), (Nat.le_of_ble_eq_true rfl)⟩ (fun E ce q9 u9 H locs hpx hP hD hS hce hcv hcl => ?_) (fun _u H locs hq1 hP hD hS => ?_)
  · skip
    have hpx : (fun (E : String) (_ : Unit) => E = "java/lang/IndexOutOfBoundsException") E u9 := hpx
    have hP : va_P g.1 vwCl (List.flatten []) H := hP
    have hD : va_D A (List.flatten []) := hD
    exact zout htab hlocks hS (Nat.le_of_ble_eq_true rfl) (Nat.le_of_ble_eq_true rfl) hce hcv hcl () hpx hP hD
  · skip
    have hq1 : False := hq1
    exact hq1.elim
set_option maxRecDepth 100000 in
set_option maxHeartbeats 4000000 in
theorem c_needWork (l : Launch) (hfl : l.stackTraces = false) (g : zG) (x : Nat) (ta : Nat) (o : Nat) (lo : Nat) (go : Nat) (tt : Nat) (lt : Nat) (mo : Nat) (fo : Nat) (ro : Nat) (fl9 : Int32) (a : Nat → Nat) (tx : Int32) (ch : Int32) (jo : Int32) (tr : Int32) (dy : Int32) (sd : Int32) (f : Nat → Nat → Int32) (n : Int32)  : zX g l yX11_needWork (Cond.code yX11_needWork cX11_needWork 2 none :: zB) ({ frames := 6, cells := 1, slots := 6, locals := 82 } : Room) [.ref x, .int n] [bDR g x ta o lo go tt lt mo fo ro fl9, bTown g o a 0 0 tx ch jo tr dy sd f] (fun _ : Unit => none) (fun _ : Unit => False) (fun _ : Unit => []) (fun (E : String) (_ : Unit) => E = "java/lang/IndexOutOfBoundsException") (fun _ : Unit => []) := by
  refine zX.of (cc := cX11_needWork) (maxL := 2) (rt := none) (by decide) rfl (Nat.le_of_ble_eq_true rfl) ?_
  intro p e s m args below meth c A ls St hr hlocks htab hin hK hT hA hP hD hS hl
  obtain ⟨hx, hb, hml, hown, hts⟩ := id St
  have hl : lv_has ls 2 [(0, .ref x), (1, .int n)] := hl
  refine lv_iload_n hx hb dX11_needWork_0 rfl (lv_at hl 1 rfl) ?_
  refine lv_if_lt (tgt := 15) hx hb dX11_needWork_1 (by decide) (fun cA => ?_) (fun cA => ?_)
  · skip
    obtain ⟨sa2, hsa2⟩ := hT.2.2.1 _ (List.mem_of_getElem? (i := 8) rfl)
    have hP : va_P g.1 vwCl (List.flatten [bDR g x ta o lo go tt lt mo fo ro fl9, bTown g o a 0 0 tx ch jo tr dy sd f]) s.heap := hP
    have hD : va_D A (List.flatten [bDR g x ta o lo go tt lt mo fo ro fl9, bTown g o a 0 0 tx ch jo tr dy sd f]) := hD
    obtain ⟨hP, hD⟩ := zord (g := g) (Bs' := []) [] rfl rfl hP hD
    exact vx_throwSW (A := A) (names := ["java/lang/RuntimeException", "java/lang/Exception"]) hx hb hfl hown (by decide +kernel) (by decide +kernel) (hts _ k582) (hts _ k583) hsa2 (zhat hat_RX11_391_IndexOutOfBoundsExceptiona hat_RX11_391_IndexOutOfBoundsExceptionb hts (hT.2.2.2.2.1 _ (List.mem_of_getElem? (i := 0) rfl))) hat_RX11_391_IndexOutOfBoundsExceptionc hT.1 hT.2.1 hS (by rw [hml]; exact hl.1) dX11_needWork_15 dX11_needWork_18 dX11_needWork_19 dX11_needWork_22 dX11_needWork_25 (fun x hx => (htab x hx).elim) (Nat.le_of_ble_eq_true rfl) (Nat.le_of_ble_eq_true rfl) (Nat.le_of_ble_eq_true rfl) (Nat.le_of_ble_eq_true rfl) hlocks (fun t ht hz hk => ⟨⟨(), rfl, hP.kept (fun k q hq => hk q.1 (hP k q hq).lt), hD⟩, ⟨Nat.le_trans hS.1 hz, fun q h1 h2 => (hk q (Nat.lt_of_lt_of_le h1 hS.1)).trans (hS.2.1 q h1 h2)⟩⟩) hS.2.2 (Nat.le_of_ble_eq_true rfl) (Nat.le_of_ble_eq_true rfl)
  · skip
    refine lv_iload_n hx hb dX11_needWork_4 rfl (lv_at hl 1 rfl) ?_
    refine lv_aload_n hx hb dX11_needWork_5 rfl (lv_at hl 0 rfl) ?_
    refine va_get (D := g.1) (ci := 9) (v := .ref o) (C := RX11) (T := TX11) (N := 10) hx hb hts izRX11 hown hK hP 0 rfl rfl 1 (by decide) (hts _ k512) (fun _ h9 => h9) rfl dX11_needWork_6 ?_
    refine va_get (D := g.1) (ci := 7) (v := .int 0) (C := RX9) (T := TX9) (N := 19) hx hb hts izRX9 hown hK hP 1 rfl rfl 1 (by decide) (hts _ k618) (fun _ h9 => h9) rfl dX11_needWork_9 ?_
    refine lv_icmp_lt (tgt := 26) hx hb dX11_needWork_12 (by decide) (fun c3 => absurd c3 cA) (fun _ => ?_)
    obtain ⟨sa4, hsa4⟩ := hT.2.2.1 _ (List.mem_of_getElem? (i := 8) rfl)
    have hP : va_P g.1 vwCl (List.flatten [bDR g x ta o lo go tt lt mo fo ro fl9, bTown g o a 0 0 tx ch jo tr dy sd f]) s.heap := hP
    have hD : va_D A (List.flatten [bDR g x ta o lo go tt lt mo fo ro fl9, bTown g o a 0 0 tx ch jo tr dy sd f]) := hD
    obtain ⟨hP, hD⟩ := zord (g := g) (Bs' := []) [] rfl rfl hP hD
    exact vx_throwSW (A := A) (names := ["java/lang/RuntimeException", "java/lang/Exception"]) hx hb hfl hown (by decide +kernel) (by decide +kernel) (hts _ k582) (hts _ k583) hsa4 (zhat hat_RX11_391_IndexOutOfBoundsExceptiona hat_RX11_391_IndexOutOfBoundsExceptionb hts (hT.2.2.2.2.1 _ (List.mem_of_getElem? (i := 0) rfl))) hat_RX11_391_IndexOutOfBoundsExceptionc hT.1 hT.2.1 hS (by rw [hml]; exact hl.1) dX11_needWork_15 dX11_needWork_18 dX11_needWork_19 dX11_needWork_22 dX11_needWork_25 (fun x hx => (htab x hx).elim) (Nat.le_of_ble_eq_true rfl) (Nat.le_of_ble_eq_true rfl) (Nat.le_of_ble_eq_true rfl) (Nat.le_of_ble_eq_true rfl) hlocks (fun t ht hz hk => ⟨⟨(), rfl, hP.kept (fun k q hq => hk q.1 (hP k q hq).lt), hD⟩, ⟨Nat.le_trans hS.1 hz, fun q h1 h2 => (hk q (Nat.lt_of_lt_of_le h1 hS.1)).trans (hS.2.1 q h1 h2)⟩⟩) hS.2.2 (Nat.le_of_ble_eq_true rfl) (Nat.le_of_ble_eq_true rfl)
set_option maxRecDepth 100000 in
set_option maxHeartbeats 4000000 in
theorem c_person (l : Launch) (hfl : l.stackTraces = false) (g : zG) (x : Nat) (ta : Nat) (o : Nat) (lo : Nat) (go : Nat) (tt : Nat) (lt : Nat) (mo : Nat) (fo : Nat) (ro : Nat) (fl9 : Int32) (o : Nat) (a : Nat → Nat) (tx : Int32) (ch : Int32) (jo : Int32) (tr : Int32) (dy : Int32) (sd : Int32) (f : Nat → Nat → Int32) (n1 : Int32) (n2 : Int32)  : zX g l yX11_person (Cond.code yX11_person cX11_person 3 (some .int) :: zB) ({ frames := 7, cells := 1, slots := 6, locals := 103 } : Room) [.ref x, .int n1, .int n2] [bDR g x ta o lo go tt lt mo fo ro fl9, bTown g o a 0 0 tx ch jo tr dy sd f] (fun (rr : Int32) => some (.int rr)) (fun (rr : Int32) => False) (fun (rr : Int32) => []) (fun (E : String) (_ : Unit) => E = "java/lang/IndexOutOfBoundsException") (fun _ : Unit => []) := by
  refine zX.of (cc := cX11_person) (maxL := 3) (rt := (some .int)) (by decide) rfl (Nat.le_of_ble_eq_true rfl) ?_
  intro p e s m args below meth c A ls St hr hlocks htab hin hK hT hA hP hD hS hl
  obtain ⟨hx, hb, hml, hown, hts⟩ := id St
  have hl : lv_has ls 3 [(0, .ref x), (1, .int n1), (2, .int n2)] := hl
  refine lv_aload_n hx hb dX11_person_0 rfl (lv_at hl 0 rfl) ?_
  refine lv_iload_n hx hb dX11_person_1 rfl (lv_at hl 1 rfl) ?_
  refine xcallV (g := g) (q0 := 0) (ci := 9) (As := [.int n1]) (rest := []) St hK hT hA hP hD hS hl.1 [0, 1] [] rfl rfl rfl (c_needPerson l hfl g x ta o lo go tt lt mo fo ro fl9 a tx ch jo tr dy sd f n1 ) (cwV 1 hts (zgL (zl4 k592 k593 k594 k595) k581) rfl rfl rfl (by decide +kernel) ⟨Nat.le_of_ble_eq_true rfl, Nat.le_of_ble_eq_true rfl⟩) rfl rfl rfl rfl (Nat.le_of_ble_eq_true rfl) dX11_person_2 ⟨(Nat.le_of_ble_eq_true rfl), (Nat.le_of_ble_eq_true rfl)⟩ (fun E ce q9 u9 H locs hpx hP hD hS hce hcv hcl => ?_) (fun _u H locs hq1 hP hD hS => ?_)
  · skip
    have hpx : (fun (E : String) (_ : Unit) => E = "java/lang/IndexOutOfBoundsException") E u9 := hpx
    have hP : va_P g.1 vwCl (List.flatten []) H := hP
    have hD : va_D A (List.flatten []) := hD
    exact zout htab hlocks hS (Nat.le_of_ble_eq_true rfl) (Nat.le_of_ble_eq_true rfl) hce hcv hcl () hpx hP hD
  · skip
    have hq1 : False := hq1
    exact hq1.elim
set_option maxRecDepth 100000 in
set_option maxHeartbeats 4000000 in
theorem c_trust (l : Launch) (hfl : l.stackTraces = false) (g : zG) (x : Nat) (ta : Nat) (o : Nat) (lo : Nat) (go : Nat) (tt : Nat) (lt : Nat) (mo : Nat) (fo : Nat) (ro : Nat) (fl9 : Int32) (o : Nat) (a : Nat → Nat) (tx : Int32) (ch : Int32) (jo : Int32) (tr : Int32) (dy : Int32) (sd : Int32) (f : Nat → Nat → Int32) (n1 : Int32) (n2 : Int32)  : zX g l yX11_trust (Cond.code yX11_trust cX11_trust 3 (some .int) :: zB) ({ frames := 8, cells := 1, slots := 6, locals := 125 } : Room) [.ref x, .int n1, .int n2] [bDR g x ta o lo go tt lt mo fo ro fl9, bTown g o a 0 0 tx ch jo tr dy sd f] (fun (rr : Int32) => some (.int rr)) (fun (rr : Int32) => False) (fun (rr : Int32) => []) (fun (E : String) (_ : Unit) => E = "java/lang/IndexOutOfBoundsException") (fun _ : Unit => []) := by
  refine zX.of (cc := cX11_trust) (maxL := 3) (rt := (some .int)) (by decide) rfl (Nat.le_of_ble_eq_true rfl) ?_
  intro p e s m args below meth c A ls St hr hlocks htab hin hK hT hA hP hD hS hl
  obtain ⟨hx, hb, hml, hown, hts⟩ := id St
  have hl : lv_has ls 3 [(0, .ref x), (1, .int n1), (2, .int n2)] := hl
  refine lv_aload_n hx hb dX11_trust_0 rfl (lv_at hl 0 rfl) ?_
  refine lv_iload_n hx hb dX11_trust_1 rfl (lv_at hl 1 rfl) ?_
  refine lv_iload_n hx hb dX11_trust_2 rfl (lv_at hl 2 rfl) ?_
  refine xcallV (g := g) (q0 := 0) (ci := 9) (As := [.int n1, .int n2]) (rest := []) St hK hT hA hP hD hS hl.1 [0, 1] [] rfl rfl rfl (c_needTwo l hfl g x ta o lo go tt lt mo fo ro fl9 a tx ch jo tr dy sd f n1 n2 ) (cwV 2 hts (zgL (zl4 k613 k614 k615 k595) k611) rfl rfl rfl (by decide +kernel) ⟨Nat.le_of_ble_eq_true rfl, Nat.le_of_ble_eq_true rfl⟩) rfl rfl rfl rfl (Nat.le_of_ble_eq_true rfl) dX11_trust_3 ⟨(Nat.le_of_ble_eq_true rfl), (Nat.le_of_ble_eq_true rfl)⟩ (fun E ce q9 u9 H locs hpx hP hD hS hce hcv hcl => ?_) (fun _u H locs hq1 hP hD hS => ?_)
  · skip
    have hpx : (fun (E : String) (_ : Unit) => E = "java/lang/IndexOutOfBoundsException") E u9 := hpx
    have hP : va_P g.1 vwCl (List.flatten []) H := hP
    have hD : va_D A (List.flatten []) := hD
    exact zout htab hlocks hS (Nat.le_of_ble_eq_true rfl) (Nat.le_of_ble_eq_true rfl) hce hcv hcl () hpx hP hD
  · skip
    have hq1 : False := hq1
    exact hq1.elim
set_option maxRecDepth 100000 in
set_option maxHeartbeats 4000000 in
theorem c_work (l : Launch) (hfl : l.stackTraces = false) (g : zG) (x : Nat) (ta : Nat) (o : Nat) (lo : Nat) (go : Nat) (tt : Nat) (lt : Nat) (mo : Nat) (fo : Nat) (ro : Nat) (fl9 : Int32) (o : Nat) (a : Nat → Nat) (tx : Int32) (ch : Int32) (jo : Int32) (tr : Int32) (dy : Int32) (sd : Int32) (f : Nat → Nat → Int32) (n1 : Int32) (n2 : Int32)  : zX g l yX11_work (Cond.code yX11_work cX11_work 3 (some .int) :: zB) ({ frames := 7, cells := 1, slots := 6, locals := 103 } : Room) [.ref x, .int n1, .int n2] [bDR g x ta o lo go tt lt mo fo ro fl9, bTown g o a 0 0 tx ch jo tr dy sd f] (fun (rr : Int32) => some (.int rr)) (fun (rr : Int32) => False) (fun (rr : Int32) => []) (fun (E : String) (_ : Unit) => E = "java/lang/IndexOutOfBoundsException") (fun _ : Unit => []) := by
  refine zX.of (cc := cX11_work) (maxL := 3) (rt := (some .int)) (by decide) rfl (Nat.le_of_ble_eq_true rfl) ?_
  intro p e s m args below meth c A ls St hr hlocks htab hin hK hT hA hP hD hS hl
  obtain ⟨hx, hb, hml, hown, hts⟩ := id St
  have hl : lv_has ls 3 [(0, .ref x), (1, .int n1), (2, .int n2)] := hl
  refine lv_aload_n hx hb dX11_work_0 rfl (lv_at hl 0 rfl) ?_
  refine lv_iload_n hx hb dX11_work_1 rfl (lv_at hl 1 rfl) ?_
  refine xcallV (g := g) (q0 := 0) (ci := 9) (As := [.int n1]) (rest := []) St hK hT hA hP hD hS hl.1 [0, 1] [] rfl rfl rfl (c_needWork l hfl g x ta o lo go tt lt mo fo ro fl9 a tx ch jo tr dy sd f n1 ) (cwV 1 hts (zgL (zl4 k624 k625 k626 k595) k617) rfl rfl rfl (by decide +kernel) ⟨Nat.le_of_ble_eq_true rfl, Nat.le_of_ble_eq_true rfl⟩) rfl rfl rfl rfl (Nat.le_of_ble_eq_true rfl) dX11_work_2 ⟨(Nat.le_of_ble_eq_true rfl), (Nat.le_of_ble_eq_true rfl)⟩ (fun E ce q9 u9 H locs hpx hP hD hS hce hcv hcl => ?_) (fun _u H locs hq1 hP hD hS => ?_)
  · skip
    have hpx : (fun (E : String) (_ : Unit) => E = "java/lang/IndexOutOfBoundsException") E u9 := hpx
    have hP : va_P g.1 vwCl (List.flatten []) H := hP
    have hD : va_D A (List.flatten []) := hD
    exact zout htab hlocks hS (Nat.le_of_ble_eq_true rfl) (Nat.le_of_ble_eq_true rfl) hce hcv hcl () hpx hP hD
  · skip
    have hq1 : False := hq1
    exact hq1.elim
set_option maxRecDepth 100000 in
set_option maxHeartbeats 4000000 in
theorem c_tell (l : Launch) (hfl : l.stackTraces = false) (g : zG) (x : Nat) (ta : Nat) (o : Nat) (lo : Nat) (go : Nat) (tt : Nat) (lt : Nat) (mo : Nat) (fo : Nat) (ro : Nat) (fl9 : Int32) (o : Nat) (a : Nat → Nat) (tx : Int32) (ch : Int32) (jo : Int32) (tr : Int32) (dy : Int32) (sd : Int32) (f : Nat → Nat → Int32) (n1 : Int32)  : zX g l yX11_tell (Cond.code yX11_tell cX11_tell 2 (some .int) :: zB) ({ frames := 7, cells := 1, slots := 6, locals := 103 } : Room) [.ref x, .int n1] [bDR g x ta o lo go tt lt mo fo ro fl9, bTown g o a 0 0 tx ch jo tr dy sd f] (fun (rr : Int32) => some (.int rr)) (fun (rr : Int32) => False) (fun (rr : Int32) => []) (fun (E : String) (_ : Unit) => E = "java/lang/IndexOutOfBoundsException") (fun _ : Unit => []) := by
  refine zX.of (cc := cX11_tell) (maxL := 2) (rt := (some .int)) (by decide) rfl (Nat.le_of_ble_eq_true rfl) ?_
  intro p e s m args below meth c A ls St hr hlocks htab hin hK hT hA hP hD hS hl
  obtain ⟨hx, hb, hml, hown, hts⟩ := id St
  have hl : lv_has ls 2 [(0, .ref x), (1, .int n1)] := hl
  refine lv_aload_n hx hb dX11_tell_0 rfl (lv_at hl 0 rfl) ?_
  refine lv_iload_n hx hb dX11_tell_1 rfl (lv_at hl 1 rfl) ?_
  refine xcallV (g := g) (q0 := 0) (ci := 9) (As := [.int n1]) (rest := []) St hK hT hA hP hD hS hl.1 [0, 1] [] rfl rfl rfl (c_needPerson l hfl g x ta o lo go tt lt mo fo ro fl9 a tx ch jo tr dy sd f n1 ) (cwV 1 hts (zgL (zl4 k592 k593 k594 k595) k581) rfl rfl rfl (by decide +kernel) ⟨Nat.le_of_ble_eq_true rfl, Nat.le_of_ble_eq_true rfl⟩) rfl rfl rfl rfl (Nat.le_of_ble_eq_true rfl) dX11_tell_2 ⟨(Nat.le_of_ble_eq_true rfl), (Nat.le_of_ble_eq_true rfl)⟩ (fun E ce q9 u9 H locs hpx hP hD hS hce hcv hcl => ?_) (fun _u H locs hq1 hP hD hS => ?_)
  · skip
    have hpx : (fun (E : String) (_ : Unit) => E = "java/lang/IndexOutOfBoundsException") E u9 := hpx
    have hP : va_P g.1 vwCl (List.flatten []) H := hP
    have hD : va_D A (List.flatten []) := hD
    exact zout htab hlocks hS (Nat.le_of_ble_eq_true rfl) (Nat.le_of_ble_eq_true rfl) hce hcv hcl () hpx hP hD
  · skip
    have hq1 : False := hq1
    exact hq1.elim
set_option maxRecDepth 100000 in
set_option maxHeartbeats 4000000 in
theorem c_tie (l : Launch) (hfl : l.stackTraces = false) (g : zG) (x : Nat) (ta : Nat) (o : Nat) (lo : Nat) (go : Nat) (tt : Nat) (lt : Nat) (mo : Nat) (fo : Nat) (ro : Nat) (fl9 : Int32) (o : Nat) (a : Nat → Nat) (tx : Int32) (ch : Int32) (jo : Int32) (tr : Int32) (dy : Int32) (sd : Int32) (f : Nat → Nat → Int32) (n1 : Int32) (n2 : Int32) (n3 : Int32)  : zX g l yX11_tie (Cond.code yX11_tie cX11_tie 5 (some .int) :: zB) ({ frames := 8, cells := 1, slots := 6, locals := 125 } : Room) [.ref x, .int n1, .int n2, .int n3] [bDR g x ta o lo go tt lt mo fo ro fl9, bTown g o a 0 0 tx ch jo tr dy sd f] (fun (rr : Int32) => some (.int rr)) (fun (rr : Int32) => False) (fun (rr : Int32) => []) (fun (E : String) (_ : Unit) => E = "java/lang/IndexOutOfBoundsException") (fun _ : Unit => []) := by
  refine zX.of (cc := cX11_tie) (maxL := 5) (rt := (some .int)) (by decide) rfl (Nat.le_of_ble_eq_true rfl) ?_
  intro p e s m args below meth c A ls St hr hlocks htab hin hK hT hA hP hD hS hl
  obtain ⟨hx, hb, hml, hown, hts⟩ := id St
  have hl : lv_has ls 5 [(0, .ref x), (1, .int n1), (2, .int n2), (3, .int n3)] := hl
  refine lv_aload_n hx hb dX11_tie_0 rfl (lv_at hl 0 rfl) ?_
  refine lv_iload_n hx hb dX11_tie_1 rfl (lv_at hl 1 rfl) ?_
  refine lv_iload_n hx hb dX11_tie_2 rfl (lv_at hl 2 rfl) ?_
  refine xcallV (g := g) (q0 := 0) (ci := 9) (As := [.int n1, .int n2]) (rest := []) St hK hT hA hP hD hS hl.1 [0, 1] [] rfl rfl rfl (c_needTwo l hfl g x ta o lo go tt lt mo fo ro fl9 a tx ch jo tr dy sd f n1 n2 ) (cwV 2 hts (zgL (zl4 k613 k614 k615 k595) k611) rfl rfl rfl (by decide +kernel) ⟨Nat.le_of_ble_eq_true rfl, Nat.le_of_ble_eq_true rfl⟩) rfl rfl rfl rfl (Nat.le_of_ble_eq_true rfl) dX11_tie_3 ⟨(Nat.le_of_ble_eq_true rfl), (Nat.le_of_ble_eq_true rfl)⟩ (fun E ce q9 u9 H locs hpx hP hD hS hce hcv hcl => ?_) (fun _u H locs hq1 hP hD hS => ?_)
  · skip
    have hpx : (fun (E : String) (_ : Unit) => E = "java/lang/IndexOutOfBoundsException") E u9 := hpx
    have hP : va_P g.1 vwCl (List.flatten []) H := hP
    have hD : va_D A (List.flatten []) := hD
    exact zout htab hlocks hS (Nat.le_of_ble_eq_true rfl) (Nat.le_of_ble_eq_true rfl) hce hcv hcl () hpx hP hD
  · skip
    have hq1 : False := hq1
    exact hq1.elim
set_option maxRecDepth 100000 in
set_option maxHeartbeats 4000000 in
theorem c_send (l : Launch) (hfl : l.stackTraces = false) (g : zG) (x : Nat) (ta : Nat) (o : Nat) (lo : Nat) (go : Nat) (tt : Nat) (lt : Nat) (mo : Nat) (fo : Nat) (ro : Nat) (fl9 : Int32) (o : Nat) (a : Nat → Nat) (tx : Int32) (ch : Int32) (jo : Int32) (tr : Int32) (dy : Int32) (sd : Int32) (f : Nat → Nat → Int32) (n1 : Int32)  : zX g l yX11_send (Cond.code yX11_send cX11_send 2 (some .int) :: zB) ({ frames := 7, cells := 1, slots := 6, locals := 103 } : Room) [.ref x, .int n1] [bDR g x ta o lo go tt lt mo fo ro fl9, bTown g o a 0 0 tx ch jo tr dy sd f] (fun (rr : Int32) => some (.int rr)) (fun (rr : Int32) => False) (fun (rr : Int32) => []) (fun (E : String) (_ : Unit) => E = "java/lang/IndexOutOfBoundsException") (fun _ : Unit => []) := by
  refine zX.of (cc := cX11_send) (maxL := 2) (rt := (some .int)) (by decide) rfl (Nat.le_of_ble_eq_true rfl) ?_
  intro p e s m args below meth c A ls St hr hlocks htab hin hK hT hA hP hD hS hl
  obtain ⟨hx, hb, hml, hown, hts⟩ := id St
  have hl : lv_has ls 2 [(0, .ref x), (1, .int n1)] := hl
  refine lv_aload_n hx hb dX11_send_0 rfl (lv_at hl 0 rfl) ?_
  refine lv_iload_n hx hb dX11_send_1 rfl (lv_at hl 1 rfl) ?_
  refine xcallV (g := g) (q0 := 0) (ci := 9) (As := [.int n1]) (rest := []) St hK hT hA hP hD hS hl.1 [0, 1] [] rfl rfl rfl (c_needPerson l hfl g x ta o lo go tt lt mo fo ro fl9 a tx ch jo tr dy sd f n1 ) (cwV 1 hts (zgL (zl4 k592 k593 k594 k595) k581) rfl rfl rfl (by decide +kernel) ⟨Nat.le_of_ble_eq_true rfl, Nat.le_of_ble_eq_true rfl⟩) rfl rfl rfl rfl (Nat.le_of_ble_eq_true rfl) dX11_send_2 ⟨(Nat.le_of_ble_eq_true rfl), (Nat.le_of_ble_eq_true rfl)⟩ (fun E ce q9 u9 H locs hpx hP hD hS hce hcv hcl => ?_) (fun _u H locs hq1 hP hD hS => ?_)
  · skip
    have hpx : (fun (E : String) (_ : Unit) => E = "java/lang/IndexOutOfBoundsException") E u9 := hpx
    have hP : va_P g.1 vwCl (List.flatten []) H := hP
    have hD : va_D A (List.flatten []) := hD
    exact zout htab hlocks hS (Nat.le_of_ble_eq_true rfl) (Nat.le_of_ble_eq_true rfl) hce hcv hcl () hpx hP hD
  · skip
    have hq1 : False := hq1
    exact hq1.elim
set_option maxRecDepth 100000 in
set_option maxHeartbeats 4000000 in
theorem c_buy (l : Launch) (hfl : l.stackTraces = false) (g : zG) (x : Nat) (ta : Nat) (o : Nat) (lo : Nat) (go : Nat) (tt : Nat) (lt : Nat) (mo : Nat) (fo : Nat) (ro : Nat) (fl9 : Int32) (o : Nat) (a : Nat → Nat) (tx : Int32) (ch : Int32) (jo : Int32) (tr : Int32) (dy : Int32) (sd : Int32) (f : Nat → Nat → Int32) (n1 : Int32) (n2 : Int32)  : zX g l yX11_buy (Cond.code yX11_buy cX11_buy 4 (some .int) :: zB) ({ frames := 7, cells := 1, slots := 6, locals := 103 } : Room) [.ref x, .int n1, .int n2] [bDR g x ta o lo go tt lt mo fo ro fl9, bTown g o a 0 0 tx ch jo tr dy sd f] (fun (rr : Int32) => some (.int rr)) (fun (rr : Int32) => False) (fun (rr : Int32) => []) (fun (E : String) (_ : Unit) => E = "java/lang/IndexOutOfBoundsException") (fun _ : Unit => []) := by
  refine zX.of (cc := cX11_buy) (maxL := 4) (rt := (some .int)) (by decide) rfl (Nat.le_of_ble_eq_true rfl) ?_
  intro p e s m args below meth c A ls St hr hlocks htab hin hK hT hA hP hD hS hl
  obtain ⟨hx, hb, hml, hown, hts⟩ := id St
  have hl : lv_has ls 4 [(0, .ref x), (1, .int n1), (2, .int n2)] := hl
  refine lv_aload_n hx hb dX11_buy_0 rfl (lv_at hl 0 rfl) ?_
  refine lv_iload_n hx hb dX11_buy_1 rfl (lv_at hl 1 rfl) ?_
  refine xcallV (g := g) (q0 := 0) (ci := 9) (As := [.int n1]) (rest := []) St hK hT hA hP hD hS hl.1 [0, 1] [] rfl rfl rfl (c_needPerson l hfl g x ta o lo go tt lt mo fo ro fl9 a tx ch jo tr dy sd f n1 ) (cwV 1 hts (zgL (zl4 k592 k593 k594 k595) k581) rfl rfl rfl (by decide +kernel) ⟨Nat.le_of_ble_eq_true rfl, Nat.le_of_ble_eq_true rfl⟩) rfl rfl rfl rfl (Nat.le_of_ble_eq_true rfl) dX11_buy_2 ⟨(Nat.le_of_ble_eq_true rfl), (Nat.le_of_ble_eq_true rfl)⟩ (fun E ce q9 u9 H locs hpx hP hD hS hce hcv hcl => ?_) (fun _u H locs hq1 hP hD hS => ?_)
  · skip
    have hpx : (fun (E : String) (_ : Unit) => E = "java/lang/IndexOutOfBoundsException") E u9 := hpx
    have hP : va_P g.1 vwCl (List.flatten []) H := hP
    have hD : va_D A (List.flatten []) := hD
    exact zout htab hlocks hS (Nat.le_of_ble_eq_true rfl) (Nat.le_of_ble_eq_true rfl) hce hcv hcl () hpx hP hD
  · skip
    have hq1 : False := hq1
    exact hq1.elim
set_option maxRecDepth 100000 in
set_option maxHeartbeats 4000000 in
theorem c_sell (l : Launch) (hfl : l.stackTraces = false) (g : zG) (x : Nat) (ta : Nat) (o : Nat) (lo : Nat) (go : Nat) (tt : Nat) (lt : Nat) (mo : Nat) (fo : Nat) (ro : Nat) (fl9 : Int32) (o : Nat) (a : Nat → Nat) (tx : Int32) (ch : Int32) (jo : Int32) (tr : Int32) (dy : Int32) (sd : Int32) (f : Nat → Nat → Int32) (n1 : Int32) (n2 : Int32)  : zX g l yX11_sell (Cond.code yX11_sell cX11_sell 4 (some .int) :: zB) ({ frames := 7, cells := 1, slots := 6, locals := 103 } : Room) [.ref x, .int n1, .int n2] [bDR g x ta o lo go tt lt mo fo ro fl9, bTown g o a 0 0 tx ch jo tr dy sd f] (fun (rr : Int32) => some (.int rr)) (fun (rr : Int32) => False) (fun (rr : Int32) => []) (fun (E : String) (_ : Unit) => E = "java/lang/IndexOutOfBoundsException") (fun _ : Unit => []) := by
  refine zX.of (cc := cX11_sell) (maxL := 4) (rt := (some .int)) (by decide) rfl (Nat.le_of_ble_eq_true rfl) ?_
  intro p e s m args below meth c A ls St hr hlocks htab hin hK hT hA hP hD hS hl
  obtain ⟨hx, hb, hml, hown, hts⟩ := id St
  have hl : lv_has ls 4 [(0, .ref x), (1, .int n1), (2, .int n2)] := hl
  refine lv_aload_n hx hb dX11_sell_0 rfl (lv_at hl 0 rfl) ?_
  refine lv_iload_n hx hb dX11_sell_1 rfl (lv_at hl 1 rfl) ?_
  refine xcallV (g := g) (q0 := 0) (ci := 9) (As := [.int n1]) (rest := []) St hK hT hA hP hD hS hl.1 [0, 1] [] rfl rfl rfl (c_needPerson l hfl g x ta o lo go tt lt mo fo ro fl9 a tx ch jo tr dy sd f n1 ) (cwV 1 hts (zgL (zl4 k592 k593 k594 k595) k581) rfl rfl rfl (by decide +kernel) ⟨Nat.le_of_ble_eq_true rfl, Nat.le_of_ble_eq_true rfl⟩) rfl rfl rfl rfl (Nat.le_of_ble_eq_true rfl) dX11_sell_2 ⟨(Nat.le_of_ble_eq_true rfl), (Nat.le_of_ble_eq_true rfl)⟩ (fun E ce q9 u9 H locs hpx hP hD hS hce hcv hcl => ?_) (fun _u H locs hq1 hP hD hS => ?_)
  · skip
    have hpx : (fun (E : String) (_ : Unit) => E = "java/lang/IndexOutOfBoundsException") E u9 := hpx
    have hP : va_P g.1 vwCl (List.flatten []) H := hP
    have hD : va_D A (List.flatten []) := hD
    exact zout htab hlocks hS (Nat.le_of_ble_eq_true rfl) (Nat.le_of_ble_eq_true rfl) hce hcv hcl () hpx hP hD
  · skip
    have hq1 : False := hq1
    exact hq1.elim
set_option maxRecDepth 100000 in
set_option maxHeartbeats 4000000 in
theorem c_dry (l : Launch) (hfl : l.stackTraces = false) (g : zG) (x : Nat) (ta : Nat) (o : Nat) (lo : Nat) (go : Nat) (tt : Nat) (lt : Nat) (mo : Nat) (fo : Nat) (ro : Nat) (fl9 : Int32) (o : Nat) (a : Nat → Nat) (tx : Int32) (ch : Int32) (jo : Int32) (tr : Int32) (dy : Int32) (sd : Int32) (f : Nat → Nat → Int32) (n1 : Int32) (n2 : Int32)  : zX g l yX11_dry (Cond.code yX11_dry cX11_dry 4 (some .boolean) :: zB) ({ frames := 7, cells := 1, slots := 6, locals := 103 } : Room) [.ref x, .int n1, .int n2] [bDR g x ta o lo go tt lt mo fo ro fl9, bTown g o a 0 0 tx ch jo tr dy sd f] (fun (rr : Int32) => some (.int rr)) (fun (rr : Int32) => False) (fun (rr : Int32) => []) (fun (E : String) (_ : Unit) => E = "java/lang/IndexOutOfBoundsException") (fun _ : Unit => []) := by
  refine zX.of (cc := cX11_dry) (maxL := 4) (rt := (some .boolean)) (by decide) rfl (Nat.le_of_ble_eq_true rfl) ?_
  intro p e s m args below meth c A ls St hr hlocks htab hin hK hT hA hP hD hS hl
  obtain ⟨hx, hb, hml, hown, hts⟩ := id St
  have hl : lv_has ls 4 [(0, .ref x), (1, .int n1), (2, .int n2)] := hl
  refine lv_aload_n hx hb dX11_dry_0 rfl (lv_at hl 0 rfl) ?_
  refine lv_iload_n hx hb dX11_dry_1 rfl (lv_at hl 1 rfl) ?_
  refine xcallV (g := g) (q0 := 0) (ci := 9) (As := [.int n1]) (rest := []) St hK hT hA hP hD hS hl.1 [0, 1] [] rfl rfl rfl (c_needPerson l hfl g x ta o lo go tt lt mo fo ro fl9 a tx ch jo tr dy sd f n1 ) (cwV 1 hts (zgL (zl4 k592 k593 k594 k595) k581) rfl rfl rfl (by decide +kernel) ⟨Nat.le_of_ble_eq_true rfl, Nat.le_of_ble_eq_true rfl⟩) rfl rfl rfl rfl (Nat.le_of_ble_eq_true rfl) dX11_dry_2 ⟨(Nat.le_of_ble_eq_true rfl), (Nat.le_of_ble_eq_true rfl)⟩ (fun E ce q9 u9 H locs hpx hP hD hS hce hcv hcl => ?_) (fun _u H locs hq1 hP hD hS => ?_)
  · skip
    have hpx : (fun (E : String) (_ : Unit) => E = "java/lang/IndexOutOfBoundsException") E u9 := hpx
    have hP : va_P g.1 vwCl (List.flatten []) H := hP
    have hD : va_D A (List.flatten []) := hD
    exact zout htab hlocks hS (Nat.le_of_ble_eq_true rfl) (Nat.le_of_ble_eq_true rfl) hce hcv hcl () hpx hP hD
  · skip
    have hq1 : False := hq1
    exact hq1.elim
set_option maxRecDepth 100000 in
set_option maxHeartbeats 4000000 in
theorem c_ahead (l : Launch) (hfl : l.stackTraces = false) (g : zG) (x : Nat) (ta : Nat) (o : Nat) (lo : Nat) (go : Nat) (tt : Nat) (lt : Nat) (mo : Nat) (fo : Nat) (ro : Nat) (fl9 : Int32) (o : Nat) (a : Nat → Nat) (tx : Int32) (ch : Int32) (jo : Int32) (tr : Int32) (dy : Int32) (sd : Int32) (f : Nat → Nat → Int32) (n1 : Int32) (n2 : Int32)  : zX g l yX11_ahead (Cond.code yX11_ahead cX11_ahead 3 (some .int) :: zB) ({ frames := 7, cells := 1, slots := 6, locals := 103 } : Room) [.ref x, .int n1, .int n2] [bDR g x ta o lo go tt lt mo fo ro fl9, bTown g o a 0 0 tx ch jo tr dy sd f] (fun (rr : Int32) => some (.int rr)) (fun (rr : Int32) => False) (fun (rr : Int32) => []) (fun (E : String) (_ : Unit) => E = "java/lang/IndexOutOfBoundsException") (fun _ : Unit => []) := by
  refine zX.of (cc := cX11_ahead) (maxL := 3) (rt := (some .int)) (by decide) rfl (Nat.le_of_ble_eq_true rfl) ?_
  intro p e s m args below meth c A ls St hr hlocks htab hin hK hT hA hP hD hS hl
  obtain ⟨hx, hb, hml, hown, hts⟩ := id St
  have hl : lv_has ls 3 [(0, .ref x), (1, .int n1), (2, .int n2)] := hl
  refine lv_aload_n hx hb dX11_ahead_0 rfl (lv_at hl 0 rfl) ?_
  refine lv_iload_n hx hb dX11_ahead_1 rfl (lv_at hl 1 rfl) ?_
  refine xcallV (g := g) (q0 := 0) (ci := 9) (As := [.int n1]) (rest := []) St hK hT hA hP hD hS hl.1 [0, 1] [] rfl rfl rfl (c_needPerson l hfl g x ta o lo go tt lt mo fo ro fl9 a tx ch jo tr dy sd f n1 ) (cwV 1 hts (zgL (zl4 k592 k593 k594 k595) k581) rfl rfl rfl (by decide +kernel) ⟨Nat.le_of_ble_eq_true rfl, Nat.le_of_ble_eq_true rfl⟩) rfl rfl rfl rfl (Nat.le_of_ble_eq_true rfl) dX11_ahead_2 ⟨(Nat.le_of_ble_eq_true rfl), (Nat.le_of_ble_eq_true rfl)⟩ (fun E ce q9 u9 H locs hpx hP hD hS hce hcv hcl => ?_) (fun _u H locs hq1 hP hD hS => ?_)
  · skip
    have hpx : (fun (E : String) (_ : Unit) => E = "java/lang/IndexOutOfBoundsException") E u9 := hpx
    have hP : va_P g.1 vwCl (List.flatten []) H := hP
    have hD : va_D A (List.flatten []) := hD
    exact zout htab hlocks hS (Nat.le_of_ble_eq_true rfl) (Nat.le_of_ble_eq_true rfl) hce hcv hcl () hpx hP hD
  · skip
    have hq1 : False := hq1
    exact hq1.elim
set_option maxRecDepth 100000 in
set_option maxHeartbeats 4000000 in
theorem c_sways (l : Launch) (hfl : l.stackTraces = false) (g : zG) (x : Nat) (ta : Nat) (o : Nat) (lo : Nat) (go : Nat) (tt : Nat) (lt : Nat) (mo : Nat) (fo : Nat) (ro : Nat) (fl9 : Int32) (o : Nat) (a : Nat → Nat) (tx : Int32) (ch : Int32) (jo : Int32) (tr : Int32) (dy : Int32) (sd : Int32) (f : Nat → Nat → Int32) (n1 : Int32) (n2 : Int32)  : zX g l yX11_sways (Cond.code yX11_sways cX11_sways 3 (some .int) :: zB) ({ frames := 7, cells := 1, slots := 6, locals := 103 } : Room) [.ref x, .int n1, .int n2] [bDR g x ta o lo go tt lt mo fo ro fl9, bTown g o a 0 0 tx ch jo tr dy sd f] (fun (rr : Int32) => some (.int rr)) (fun (rr : Int32) => False) (fun (rr : Int32) => []) (fun (E : String) (_ : Unit) => E = "java/lang/IndexOutOfBoundsException") (fun _ : Unit => []) := by
  refine zX.of (cc := cX11_sways) (maxL := 3) (rt := (some .int)) (by decide) rfl (Nat.le_of_ble_eq_true rfl) ?_
  intro p e s m args below meth c A ls St hr hlocks htab hin hK hT hA hP hD hS hl
  obtain ⟨hx, hb, hml, hown, hts⟩ := id St
  have hl : lv_has ls 3 [(0, .ref x), (1, .int n1), (2, .int n2)] := hl
  refine lv_aload_n hx hb dX11_sways_0 rfl (lv_at hl 0 rfl) ?_
  refine lv_iload_n hx hb dX11_sways_1 rfl (lv_at hl 1 rfl) ?_
  refine xcallV (g := g) (q0 := 0) (ci := 9) (As := [.int n1]) (rest := []) St hK hT hA hP hD hS hl.1 [0, 1] [] rfl rfl rfl (c_needPerson l hfl g x ta o lo go tt lt mo fo ro fl9 a tx ch jo tr dy sd f n1 ) (cwV 1 hts (zgL (zl4 k592 k593 k594 k595) k581) rfl rfl rfl (by decide +kernel) ⟨Nat.le_of_ble_eq_true rfl, Nat.le_of_ble_eq_true rfl⟩) rfl rfl rfl rfl (Nat.le_of_ble_eq_true rfl) dX11_sways_2 ⟨(Nat.le_of_ble_eq_true rfl), (Nat.le_of_ble_eq_true rfl)⟩ (fun E ce q9 u9 H locs hpx hP hD hS hce hcv hcl => ?_) (fun _u H locs hq1 hP hD hS => ?_)
  · skip
    have hpx : (fun (E : String) (_ : Unit) => E = "java/lang/IndexOutOfBoundsException") E u9 := hpx
    have hP : va_P g.1 vwCl (List.flatten []) H := hP
    have hD : va_D A (List.flatten []) := hD
    exact zout htab hlocks hS (Nat.le_of_ble_eq_true rfl) (Nat.le_of_ble_eq_true rfl) hce hcv hcl () hpx hP hD
  · skip
    have hq1 : False := hq1
    exact hq1.elim
set_option maxRecDepth 100000 in
set_option maxHeartbeats 4000000 in
theorem c_word (l : Launch) (hfl : l.stackTraces = false) (g : zG) (x : Nat) (ta : Nat) (o : Nat) (lo : Nat) (go : Nat) (tt : Nat) (lt : Nat) (mo : Nat) (fo : Nat) (ro : Nat) (fl9 : Int32) (o : Nat) (a : Nat → Nat) (tx : Int32) (ch : Int32) (jo : Int32) (tr : Int32) (dy : Int32) (sd : Int32) (f : Nat → Nat → Int32) (n1 : Int32)  : zX g l yX11_word (Cond.code yX11_word cX11_word 2 (some .int) :: zB) ({ frames := 7, cells := 1, slots := 6, locals := 103 } : Room) [.ref x, .int n1] [bDR g x ta o lo go tt lt mo fo ro fl9, bTown g o a 0 0 tx ch jo tr dy sd f] (fun (rr : Int32) => some (.int rr)) (fun (rr : Int32) => False) (fun (rr : Int32) => []) (fun (E : String) (_ : Unit) => E = "java/lang/IndexOutOfBoundsException") (fun _ : Unit => []) := by
  refine zX.of (cc := cX11_word) (maxL := 2) (rt := (some .int)) (by decide) rfl (Nat.le_of_ble_eq_true rfl) ?_
  intro p e s m args below meth c A ls St hr hlocks htab hin hK hT hA hP hD hS hl
  obtain ⟨hx, hb, hml, hown, hts⟩ := id St
  have hl : lv_has ls 2 [(0, .ref x), (1, .int n1)] := hl
  refine lv_aload_n hx hb dX11_word_0 rfl (lv_at hl 0 rfl) ?_
  refine lv_iload_n hx hb dX11_word_1 rfl (lv_at hl 1 rfl) ?_
  refine xcallV (g := g) (q0 := 0) (ci := 9) (As := [.int n1]) (rest := []) St hK hT hA hP hD hS hl.1 [0, 1] [] rfl rfl rfl (c_needPerson l hfl g x ta o lo go tt lt mo fo ro fl9 a tx ch jo tr dy sd f n1 ) (cwV 1 hts (zgL (zl4 k592 k593 k594 k595) k581) rfl rfl rfl (by decide +kernel) ⟨Nat.le_of_ble_eq_true rfl, Nat.le_of_ble_eq_true rfl⟩) rfl rfl rfl rfl (Nat.le_of_ble_eq_true rfl) dX11_word_2 ⟨(Nat.le_of_ble_eq_true rfl), (Nat.le_of_ble_eq_true rfl)⟩ (fun E ce q9 u9 H locs hpx hP hD hS hce hcv hcl => ?_) (fun _u H locs hq1 hP hD hS => ?_)
  · skip
    have hpx : (fun (E : String) (_ : Unit) => E = "java/lang/IndexOutOfBoundsException") E u9 := hpx
    have hP : va_P g.1 vwCl (List.flatten []) H := hP
    have hD : va_D A (List.flatten []) := hD
    exact zout htab hlocks hS (Nat.le_of_ble_eq_true rfl) (Nat.le_of_ble_eq_true rfl) hce hcv hcl () hpx hP hD
  · skip
    have hq1 : False := hq1
    exact hq1.elim
set_option maxRecDepth 100000 in
set_option maxHeartbeats 4000000 in
theorem c_steps (l : Launch) (hfl : l.stackTraces = false) (g : zG) (x : Nat) (ta : Nat) (o : Nat) (lo : Nat) (go : Nat) (tt : Nat) (lt : Nat) (mo : Nat) (fo : Nat) (ro : Nat) (fl9 : Int32) (o : Nat) (a : Nat → Nat) (tx : Int32) (ch : Int32) (jo : Int32) (tr : Int32) (dy : Int32) (sd : Int32) (f : Nat → Nat → Int32) (n1 : Int32) (n2 : Int32)  : zX g l yX11_steps (Cond.code yX11_steps cX11_steps 3 (some .int) :: zB) ({ frames := 8, cells := 1, slots := 6, locals := 125 } : Room) [.ref x, .int n1, .int n2] [bDR g x ta o lo go tt lt mo fo ro fl9, bTown g o a 0 0 tx ch jo tr dy sd f] (fun (rr : Int32) => some (.int rr)) (fun (rr : Int32) => False) (fun (rr : Int32) => []) (fun (E : String) (_ : Unit) => E = "java/lang/IndexOutOfBoundsException") (fun _ : Unit => []) := by
  refine zX.of (cc := cX11_steps) (maxL := 3) (rt := (some .int)) (by decide) rfl (Nat.le_of_ble_eq_true rfl) ?_
  intro p e s m args below meth c A ls St hr hlocks htab hin hK hT hA hP hD hS hl
  obtain ⟨hx, hb, hml, hown, hts⟩ := id St
  have hl : lv_has ls 3 [(0, .ref x), (1, .int n1), (2, .int n2)] := hl
  refine lv_aload_n hx hb dX11_steps_0 rfl (lv_at hl 0 rfl) ?_
  refine lv_iload_n hx hb dX11_steps_1 rfl (lv_at hl 1 rfl) ?_
  refine lv_iload_n hx hb dX11_steps_2 rfl (lv_at hl 2 rfl) ?_
  refine xcallV (g := g) (q0 := 0) (ci := 9) (As := [.int n1, .int n2]) (rest := []) St hK hT hA hP hD hS hl.1 [0, 1] [] rfl rfl rfl (c_needTwo l hfl g x ta o lo go tt lt mo fo ro fl9 a tx ch jo tr dy sd f n1 n2 ) (cwV 2 hts (zgL (zl4 k613 k614 k615 k595) k611) rfl rfl rfl (by decide +kernel) ⟨Nat.le_of_ble_eq_true rfl, Nat.le_of_ble_eq_true rfl⟩) rfl rfl rfl rfl (Nat.le_of_ble_eq_true rfl) dX11_steps_3 ⟨(Nat.le_of_ble_eq_true rfl), (Nat.le_of_ble_eq_true rfl)⟩ (fun E ce q9 u9 H locs hpx hP hD hS hce hcv hcl => ?_) (fun _u H locs hq1 hP hD hS => ?_)
  · skip
    have hpx : (fun (E : String) (_ : Unit) => E = "java/lang/IndexOutOfBoundsException") E u9 := hpx
    have hP : va_P g.1 vwCl (List.flatten []) H := hP
    have hD : va_D A (List.flatten []) := hD
    exact zout htab hlocks hS (Nat.le_of_ble_eq_true rfl) (Nat.le_of_ble_eq_true rfl) hce hcv hcl () hpx hP hD
  · skip
    have hq1 : False := hq1
    exact hq1.elim
set_option maxRecDepth 100000 in
set_option maxHeartbeats 4000000 in
theorem c_rests (l : Launch) (hfl : l.stackTraces = false) (g : zG) (x : Nat) (ta : Nat) (o : Nat) (lo : Nat) (go : Nat) (tt : Nat) (lt : Nat) (mo : Nat) (fo : Nat) (ro : Nat) (fl9 : Int32) (o : Nat) (a : Nat → Nat) (tx : Int32) (ch : Int32) (jo : Int32) (tr : Int32) (dy : Int32) (sd : Int32) (f : Nat → Nat → Int32) (n1 : Int32) (n2 : Int32)  : zX g l yX11_rests (Cond.code yX11_rests cX11_rests 3 (some .int) :: zB) ({ frames := 8, cells := 1, slots := 6, locals := 125 } : Room) [.ref x, .int n1, .int n2] [bDR g x ta o lo go tt lt mo fo ro fl9, bTown g o a 0 0 tx ch jo tr dy sd f] (fun (rr : Int32) => some (.int rr)) (fun (rr : Int32) => False) (fun (rr : Int32) => []) (fun (E : String) (_ : Unit) => E = "java/lang/IndexOutOfBoundsException") (fun _ : Unit => []) := by
  refine zX.of (cc := cX11_rests) (maxL := 3) (rt := (some .int)) (by decide) rfl (Nat.le_of_ble_eq_true rfl) ?_
  intro p e s m args below meth c A ls St hr hlocks htab hin hK hT hA hP hD hS hl
  obtain ⟨hx, hb, hml, hown, hts⟩ := id St
  have hl : lv_has ls 3 [(0, .ref x), (1, .int n1), (2, .int n2)] := hl
  refine lv_aload_n hx hb dX11_rests_0 rfl (lv_at hl 0 rfl) ?_
  refine lv_iload_n hx hb dX11_rests_1 rfl (lv_at hl 1 rfl) ?_
  refine lv_iload_n hx hb dX11_rests_2 rfl (lv_at hl 2 rfl) ?_
  refine xcallV (g := g) (q0 := 0) (ci := 9) (As := [.int n1, .int n2]) (rest := []) St hK hT hA hP hD hS hl.1 [0, 1] [] rfl rfl rfl (c_needTwo l hfl g x ta o lo go tt lt mo fo ro fl9 a tx ch jo tr dy sd f n1 n2 ) (cwV 2 hts (zgL (zl4 k613 k614 k615 k595) k611) rfl rfl rfl (by decide +kernel) ⟨Nat.le_of_ble_eq_true rfl, Nat.le_of_ble_eq_true rfl⟩) rfl rfl rfl rfl (Nat.le_of_ble_eq_true rfl) dX11_rests_3 ⟨(Nat.le_of_ble_eq_true rfl), (Nat.le_of_ble_eq_true rfl)⟩ (fun E ce q9 u9 H locs hpx hP hD hS hce hcv hcl => ?_) (fun _u H locs hq1 hP hD hS => ?_)
  · skip
    have hpx : (fun (E : String) (_ : Unit) => E = "java/lang/IndexOutOfBoundsException") E u9 := hpx
    have hP : va_P g.1 vwCl (List.flatten []) H := hP
    have hD : va_D A (List.flatten []) := hD
    exact zout htab hlocks hS (Nat.le_of_ble_eq_true rfl) (Nat.le_of_ble_eq_true rfl) hce hcv hcl () hpx hP hD
  · skip
    have hq1 : False := hq1
    exact hq1.elim
set_option maxRecDepth 100000 in
set_option maxHeartbeats 4000000 in
theorem c_last (l : Launch) (hfl : l.stackTraces = false) (g : zG) (x : Nat) (ta : Nat) (o : Nat) (lo : Nat) (go : Nat) (tt : Nat) (lt : Nat) (mo : Nat) (fo : Nat) (ro : Nat) (fl9 : Int32) (o : Nat) (a : Nat → Nat) (tx : Int32) (ch : Int32) (jo : Int32) (tr : Int32) (dy : Int32) (sd : Int32) (f : Nat → Nat → Int32) (n1 : Int32)  : zX g l yX11_last (Cond.code yX11_last cX11_last 2 (some .int) :: zB) ({ frames := 7, cells := 1, slots := 6, locals := 103 } : Room) [.ref x, .int n1] [bDR g x ta o lo go tt lt mo fo ro fl9, bTown g o a 0 0 tx ch jo tr dy sd f] (fun (rr : Int32) => some (.int rr)) (fun (rr : Int32) => False) (fun (rr : Int32) => []) (fun (E : String) (_ : Unit) => E = "java/lang/IndexOutOfBoundsException") (fun _ : Unit => []) := by
  refine zX.of (cc := cX11_last) (maxL := 2) (rt := (some .int)) (by decide) rfl (Nat.le_of_ble_eq_true rfl) ?_
  intro p e s m args below meth c A ls St hr hlocks htab hin hK hT hA hP hD hS hl
  obtain ⟨hx, hb, hml, hown, hts⟩ := id St
  have hl : lv_has ls 2 [(0, .ref x), (1, .int n1)] := hl
  refine lv_aload_n hx hb dX11_last_0 rfl (lv_at hl 0 rfl) ?_
  refine lv_iload_n hx hb dX11_last_1 rfl (lv_at hl 1 rfl) ?_
  refine xcallV (g := g) (q0 := 0) (ci := 9) (As := [.int n1]) (rest := []) St hK hT hA hP hD hS hl.1 [0, 1] [] rfl rfl rfl (c_needWork l hfl g x ta o lo go tt lt mo fo ro fl9 a tx ch jo tr dy sd f n1 ) (cwV 1 hts (zgL (zl4 k624 k625 k626 k595) k617) rfl rfl rfl (by decide +kernel) ⟨Nat.le_of_ble_eq_true rfl, Nat.le_of_ble_eq_true rfl⟩) rfl rfl rfl rfl (Nat.le_of_ble_eq_true rfl) dX11_last_2 ⟨(Nat.le_of_ble_eq_true rfl), (Nat.le_of_ble_eq_true rfl)⟩ (fun E ce q9 u9 H locs hpx hP hD hS hce hcv hcl => ?_) (fun _u H locs hq1 hP hD hS => ?_)
  · skip
    have hpx : (fun (E : String) (_ : Unit) => E = "java/lang/IndexOutOfBoundsException") E u9 := hpx
    have hP : va_P g.1 vwCl (List.flatten []) H := hP
    have hD : va_D A (List.flatten []) := hD
    exact zout htab hlocks hS (Nat.le_of_ble_eq_true rfl) (Nat.le_of_ble_eq_true rfl) hce hcv hcl () hpx hP hD
  · skip
    have hq1 : False := hq1
    exact hq1.elim
set_option maxRecDepth 100000 in
set_option maxHeartbeats 4000000 in
theorem c_led (l : Launch) (hfl : l.stackTraces = false) (g : zG) (x : Nat) (ta : Nat) (o : Nat) (lo : Nat) (go : Nat) (tt : Nat) (lt : Nat) (mo : Nat) (fo : Nat) (ro : Nat) (fl9 : Int32) (o : Nat) (a : Nat → Nat) (tx : Int32) (ch : Int32) (jo : Int32) (tr : Int32) (dy : Int32) (sd : Int32) (f : Nat → Nat → Int32) (n1 : Int32) (n2 : Int32)  : zX g l yX11_led (Cond.code yX11_led cX11_led 3 (some .int) :: zB) ({ frames := 7, cells := 1, slots := 6, locals := 103 } : Room) [.ref x, .int n1, .int n2] [bDR g x ta o lo go tt lt mo fo ro fl9, bTown g o a 0 0 tx ch jo tr dy sd f] (fun (rr : Int32) => some (.int rr)) (fun (rr : Int32) => False) (fun (rr : Int32) => []) (fun (E : String) (_ : Unit) => E = "java/lang/IndexOutOfBoundsException") (fun _ : Unit => []) := by
  refine zX.of (cc := cX11_led) (maxL := 3) (rt := (some .int)) (by decide) rfl (Nat.le_of_ble_eq_true rfl) ?_
  intro p e s m args below meth c A ls St hr hlocks htab hin hK hT hA hP hD hS hl
  obtain ⟨hx, hb, hml, hown, hts⟩ := id St
  have hl : lv_has ls 3 [(0, .ref x), (1, .int n1), (2, .int n2)] := hl
  refine lv_aload_n hx hb dX11_led_0 rfl (lv_at hl 0 rfl) ?_
  refine lv_iload_n hx hb dX11_led_1 rfl (lv_at hl 1 rfl) ?_
  refine xcallV (g := g) (q0 := 0) (ci := 9) (As := [.int n1]) (rest := []) St hK hT hA hP hD hS hl.1 [0, 1] [] rfl rfl rfl (c_needWork l hfl g x ta o lo go tt lt mo fo ro fl9 a tx ch jo tr dy sd f n1 ) (cwV 1 hts (zgL (zl4 k624 k625 k626 k595) k617) rfl rfl rfl (by decide +kernel) ⟨Nat.le_of_ble_eq_true rfl, Nat.le_of_ble_eq_true rfl⟩) rfl rfl rfl rfl (Nat.le_of_ble_eq_true rfl) dX11_led_2 ⟨(Nat.le_of_ble_eq_true rfl), (Nat.le_of_ble_eq_true rfl)⟩ (fun E ce q9 u9 H locs hpx hP hD hS hce hcv hcl => ?_) (fun _u H locs hq1 hP hD hS => ?_)
  · skip
    have hpx : (fun (E : String) (_ : Unit) => E = "java/lang/IndexOutOfBoundsException") E u9 := hpx
    have hP : va_P g.1 vwCl (List.flatten []) H := hP
    have hD : va_D A (List.flatten []) := hD
    exact zout htab hlocks hS (Nat.le_of_ble_eq_true rfl) (Nat.le_of_ble_eq_true rfl) hce hcv hcl () hpx hP hD
  · skip
    have hq1 : False := hq1
    exact hq1.elim
set_option maxRecDepth 100000 in
set_option maxHeartbeats 4000000 in
theorem c_plan (l : Launch) (hfl : l.stackTraces = false) (g : zG) (x : Nat) (ta : Nat) (o : Nat) (lo : Nat) (go : Nat) (tt : Nat) (lt : Nat) (mo : Nat) (fo : Nat) (ro : Nat) (fl9 : Int32) (o : Nat) (a : Nat → Nat) (tx : Int32) (ch : Int32) (jo : Int32) (tr : Int32) (dy : Int32) (sd : Int32) (f : Nat → Nat → Int32) (n1 : Int32)  : zX g l yX11_plan (Cond.code yX11_plan cX11_plan 2 none :: zB) ({ frames := 7, cells := 1, slots := 6, locals := 103 } : Room) [.ref x, .int n1] [bDR g x ta o lo go tt lt mo fo ro fl9, bTown g o a 0 0 tx ch jo tr dy sd f] (fun _ : Unit => none) (fun _ : Unit => False) (fun _ : Unit => []) (fun (E : String) (_ : Unit) => E = "java/lang/IndexOutOfBoundsException") (fun _ : Unit => []) := by
  refine zX.of (cc := cX11_plan) (maxL := 2) (rt := none) (by decide) rfl (Nat.le_of_ble_eq_true rfl) ?_
  intro p e s m args below meth c A ls St hr hlocks htab hin hK hT hA hP hD hS hl
  obtain ⟨hx, hb, hml, hown, hts⟩ := id St
  have hl : lv_has ls 2 [(0, .ref x), (1, .int n1)] := hl
  refine lv_aload_n hx hb dX11_plan_0 rfl (lv_at hl 0 rfl) ?_
  refine lv_iload_n hx hb dX11_plan_1 rfl (lv_at hl 1 rfl) ?_
  refine xcallV (g := g) (q0 := 0) (ci := 9) (As := [.int n1]) (rest := []) St hK hT hA hP hD hS hl.1 [0, 1] [] rfl rfl rfl (c_needWork l hfl g x ta o lo go tt lt mo fo ro fl9 a tx ch jo tr dy sd f n1 ) (cwV 1 hts (zgL (zl4 k624 k625 k626 k595) k617) rfl rfl rfl (by decide +kernel) ⟨Nat.le_of_ble_eq_true rfl, Nat.le_of_ble_eq_true rfl⟩) rfl rfl rfl rfl (Nat.le_of_ble_eq_true rfl) dX11_plan_2 ⟨(Nat.le_of_ble_eq_true rfl), (Nat.le_of_ble_eq_true rfl)⟩ (fun E ce q9 u9 H locs hpx hP hD hS hce hcv hcl => ?_) (fun _u H locs hq1 hP hD hS => ?_)
  · skip
    have hpx : (fun (E : String) (_ : Unit) => E = "java/lang/IndexOutOfBoundsException") E u9 := hpx
    have hP : va_P g.1 vwCl (List.flatten []) H := hP
    have hD : va_D A (List.flatten []) := hD
    exact zout htab hlocks hS (Nat.le_of_ble_eq_true rfl) (Nat.le_of_ble_eq_true rfl) hce hcv hcl () hpx hP hD
  · skip
    have hq1 : False := hq1
    exact hq1.elim
set_option maxRecDepth 20000 in
theorem hat_RX11_110_IllegalArgumentExceptiona : ∀ w ∈ (vx_atS RX11 110 "java/lang/IllegalArgumentException" zNm).filter goodWord, w ∈ zB := by decide +kernel
set_option maxRecDepth 20000 in
theorem hat_RX11_110_IllegalArgumentExceptionb : ∀ w ∈ (vx_atS RX11 110 "java/lang/IllegalArgumentException" zNm).filter (fun w => !goodWord w), w ∈ zBad "java/lang/IllegalArgumentException" := by decide +kernel
set_option maxRecDepth 20000 in
theorem hat_RX11_110_IllegalArgumentExceptionc : ∀ w ∈ Cond.classLink RX11 106 "java/lang/IllegalArgumentException" :: Cond.initialized "java/lang/IllegalArgumentException" :: vx_atS RX11 110 "java/lang/IllegalArgumentException" zNm, vx_ot w = true := by decide +kernel
set_option maxRecDepth 100000 in
set_option maxHeartbeats 4000000 in
theorem c_nw_0_100 (l : Launch) (hfl : l.stackTraces = false) (g : zG) (x : Nat) (ta : Nat) (o : Nat) (lo : Nat) (go : Nat) (tt : Nat) (lt : Nat) (mo : Nat) (fo : Nat) (ro : Nat) (fl9 : Int32) (n : Int32)  : zX g l yX11_needWithin (Cond.code yX11_needWithin cX11_needWithin 4 none :: zB) ({ frames := 6, cells := 1, slots := 6, locals := 82 } : Room) [.ref x, .int n, .int 0, .int 100] [bDR g x ta o lo go tt lt mo fo ro fl9] (fun _ : Unit => none) (fun _ : Unit => ¬ (n : Int32) < 0 ∧ ¬ 100 < (n : Int32)) (fun _ : Unit => [bDR g x ta o lo go tt lt mo fo ro fl9]) (fun (E : String) (_ : Unit) => E = "java/lang/IllegalArgumentException" ∧ ((n : Int32) < 0 ∨ 100 < (n : Int32))) (fun _ : Unit => []) := by
  refine zX.of (cc := cX11_needWithin) (maxL := 4) (rt := none) (by decide) rfl (Nat.le_of_ble_eq_true rfl) ?_
  intro p e s m args below meth c A ls St hr hlocks htab hin hK hT hA hP hD hS hl
  obtain ⟨hx, hb, hml, hown, hts⟩ := id St
  have hl : lv_has ls 4 [(0, .ref x), (1, .int n), (2, .int 0), (3, .int 100)] := hl
  refine lv_iload_n hx hb dX11_needWithin_0 rfl (lv_at hl 1 rfl) ?_
  refine lv_iload_n hx hb dX11_needWithin_1 rfl (lv_at hl 2 rfl) ?_
  refine lv_icmp_lt (tgt := 10) hx hb dX11_needWithin_2 (by decide) (fun cA => ?_) (fun cA => ?_)
  · skip
    obtain ⟨sa2, hsa2⟩ := hT.2.2.1 _ (List.mem_of_getElem? (i := 10) rfl)
    have hP : va_P g.1 vwCl (List.flatten [bDR g x ta o lo go tt lt mo fo ro fl9]) s.heap := hP
    have hD : va_D A (List.flatten [bDR g x ta o lo go tt lt mo fo ro fl9]) := hD
    obtain ⟨hP, hD⟩ := zord (g := g) (Bs' := []) [] rfl rfl hP hD
    exact vx_throwSW (A := A) (names := ["java/lang/RuntimeException", "java/lang/Exception"]) hx hb hfl hown (by decide +kernel) (by decide +kernel) (hts _ k550) (hts _ k551) hsa2 (zhat hat_RX11_110_IllegalArgumentExceptiona hat_RX11_110_IllegalArgumentExceptionb hts (hT.2.2.2.2.1 _ (List.mem_of_getElem? (i := 1) rfl))) hat_RX11_110_IllegalArgumentExceptionc hT.1 hT.2.1 hS (by rw [hml]; exact hl.1) dX11_needWithin_10 dX11_needWithin_13 dX11_needWithin_14 dX11_needWithin_17 dX11_needWithin_20 (fun x hx => (htab x hx).elim) (Nat.le_of_ble_eq_true rfl) (Nat.le_of_ble_eq_true rfl) (Nat.le_of_ble_eq_true rfl) (Nat.le_of_ble_eq_true rfl) hlocks (fun t ht hz hk => ⟨⟨(), ⟨rfl, Or.inl cA⟩, hP.kept (fun k q hq => hk q.1 (hP k q hq).lt), hD⟩, ⟨Nat.le_trans hS.1 hz, fun q h1 h2 => (hk q (Nat.lt_of_lt_of_le h1 hS.1)).trans (hS.2.1 q h1 h2)⟩⟩) hS.2.2 (Nat.le_of_ble_eq_true rfl) (Nat.le_of_ble_eq_true rfl)
  · skip
    refine lv_iload_n hx hb dX11_needWithin_5 rfl (lv_at hl 1 rfl) ?_
    refine lv_iload_n hx hb dX11_needWithin_6 rfl (lv_at hl 3 rfl) ?_
    refine lv_icmp_le (tgt := 21) hx hb dX11_needWithin_7 (by decide) (fun cB => ?_) (fun cB => ?_)
    · skip
      have hP : va_P g.1 vwCl (List.flatten [bDR g x ta o lo go tt lt mo fo ro fl9]) s.heap := hP
      have hD : va_D A (List.flatten [bDR g x ta o lo go tt lt mo fo ro fl9]) := hD
      exact zret_v hx hb hr hlocks hS (Nat.le_of_ble_eq_true rfl) (Nat.le_of_ble_eq_true rfl) dX11_needWithin_21 () rfl (⟨cA, Int32.not_lt.mpr cB⟩) hP hD
    · skip
      obtain ⟨sa4, hsa4⟩ := hT.2.2.1 _ (List.mem_of_getElem? (i := 10) rfl)
      have hP : va_P g.1 vwCl (List.flatten [bDR g x ta o lo go tt lt mo fo ro fl9]) s.heap := hP
      have hD : va_D A (List.flatten [bDR g x ta o lo go tt lt mo fo ro fl9]) := hD
      obtain ⟨hP, hD⟩ := zord (g := g) (Bs' := []) [] rfl rfl hP hD
      exact vx_throwSW (A := A) (names := ["java/lang/RuntimeException", "java/lang/Exception"]) hx hb hfl hown (by decide +kernel) (by decide +kernel) (hts _ k550) (hts _ k551) hsa4 (zhat hat_RX11_110_IllegalArgumentExceptiona hat_RX11_110_IllegalArgumentExceptionb hts (hT.2.2.2.2.1 _ (List.mem_of_getElem? (i := 1) rfl))) hat_RX11_110_IllegalArgumentExceptionc hT.1 hT.2.1 hS (by rw [hml]; exact hl.1) dX11_needWithin_10 dX11_needWithin_13 dX11_needWithin_14 dX11_needWithin_17 dX11_needWithin_20 (fun x hx => (htab x hx).elim) (Nat.le_of_ble_eq_true rfl) (Nat.le_of_ble_eq_true rfl) (Nat.le_of_ble_eq_true rfl) (Nat.le_of_ble_eq_true rfl) hlocks (fun t ht hz hk => ⟨⟨(), ⟨rfl, Or.inr (Int32.not_le.mp cB)⟩, hP.kept (fun k q hq => hk q.1 (hP k q hq).lt), hD⟩, ⟨Nat.le_trans hS.1 hz, fun q h1 h2 => (hk q (Nat.lt_of_lt_of_le h1 hS.1)).trans (hS.2.1 q h1 h2)⟩⟩) hS.2.2 (Nat.le_of_ble_eq_true rfl) (Nat.le_of_ble_eq_true rfl)
set_option maxRecDepth 100000 in
set_option maxHeartbeats 4000000 in
theorem c_nw_1_60 (l : Launch) (hfl : l.stackTraces = false) (g : zG) (x : Nat) (ta : Nat) (o : Nat) (lo : Nat) (go : Nat) (tt : Nat) (lt : Nat) (mo : Nat) (fo : Nat) (ro : Nat) (fl9 : Int32) (n : Int32)  : zX g l yX11_needWithin (Cond.code yX11_needWithin cX11_needWithin 4 none :: zB) ({ frames := 6, cells := 1, slots := 6, locals := 82 } : Room) [.ref x, .int n, .int 1, .int 60] [bDR g x ta o lo go tt lt mo fo ro fl9] (fun _ : Unit => none) (fun _ : Unit => ¬ (n : Int32) < 1 ∧ ¬ 60 < (n : Int32)) (fun _ : Unit => [bDR g x ta o lo go tt lt mo fo ro fl9]) (fun (E : String) (_ : Unit) => E = "java/lang/IllegalArgumentException" ∧ ((n : Int32) < 1 ∨ 60 < (n : Int32))) (fun _ : Unit => []) := by
  refine zX.of (cc := cX11_needWithin) (maxL := 4) (rt := none) (by decide) rfl (Nat.le_of_ble_eq_true rfl) ?_
  intro p e s m args below meth c A ls St hr hlocks htab hin hK hT hA hP hD hS hl
  obtain ⟨hx, hb, hml, hown, hts⟩ := id St
  have hl : lv_has ls 4 [(0, .ref x), (1, .int n), (2, .int 1), (3, .int 60)] := hl
  refine lv_iload_n hx hb dX11_needWithin_0 rfl (lv_at hl 1 rfl) ?_
  refine lv_iload_n hx hb dX11_needWithin_1 rfl (lv_at hl 2 rfl) ?_
  refine lv_icmp_lt (tgt := 10) hx hb dX11_needWithin_2 (by decide) (fun cA => ?_) (fun cA => ?_)
  · skip
    obtain ⟨sa2, hsa2⟩ := hT.2.2.1 _ (List.mem_of_getElem? (i := 10) rfl)
    have hP : va_P g.1 vwCl (List.flatten [bDR g x ta o lo go tt lt mo fo ro fl9]) s.heap := hP
    have hD : va_D A (List.flatten [bDR g x ta o lo go tt lt mo fo ro fl9]) := hD
    obtain ⟨hP, hD⟩ := zord (g := g) (Bs' := []) [] rfl rfl hP hD
    exact vx_throwSW (A := A) (names := ["java/lang/RuntimeException", "java/lang/Exception"]) hx hb hfl hown (by decide +kernel) (by decide +kernel) (hts _ k550) (hts _ k551) hsa2 (zhat hat_RX11_110_IllegalArgumentExceptiona hat_RX11_110_IllegalArgumentExceptionb hts (hT.2.2.2.2.1 _ (List.mem_of_getElem? (i := 1) rfl))) hat_RX11_110_IllegalArgumentExceptionc hT.1 hT.2.1 hS (by rw [hml]; exact hl.1) dX11_needWithin_10 dX11_needWithin_13 dX11_needWithin_14 dX11_needWithin_17 dX11_needWithin_20 (fun x hx => (htab x hx).elim) (Nat.le_of_ble_eq_true rfl) (Nat.le_of_ble_eq_true rfl) (Nat.le_of_ble_eq_true rfl) (Nat.le_of_ble_eq_true rfl) hlocks (fun t ht hz hk => ⟨⟨(), ⟨rfl, Or.inl cA⟩, hP.kept (fun k q hq => hk q.1 (hP k q hq).lt), hD⟩, ⟨Nat.le_trans hS.1 hz, fun q h1 h2 => (hk q (Nat.lt_of_lt_of_le h1 hS.1)).trans (hS.2.1 q h1 h2)⟩⟩) hS.2.2 (Nat.le_of_ble_eq_true rfl) (Nat.le_of_ble_eq_true rfl)
  · skip
    refine lv_iload_n hx hb dX11_needWithin_5 rfl (lv_at hl 1 rfl) ?_
    refine lv_iload_n hx hb dX11_needWithin_6 rfl (lv_at hl 3 rfl) ?_
    refine lv_icmp_le (tgt := 21) hx hb dX11_needWithin_7 (by decide) (fun cB => ?_) (fun cB => ?_)
    · skip
      have hP : va_P g.1 vwCl (List.flatten [bDR g x ta o lo go tt lt mo fo ro fl9]) s.heap := hP
      have hD : va_D A (List.flatten [bDR g x ta o lo go tt lt mo fo ro fl9]) := hD
      exact zret_v hx hb hr hlocks hS (Nat.le_of_ble_eq_true rfl) (Nat.le_of_ble_eq_true rfl) dX11_needWithin_21 () rfl (⟨cA, Int32.not_lt.mpr cB⟩) hP hD
    · skip
      obtain ⟨sa4, hsa4⟩ := hT.2.2.1 _ (List.mem_of_getElem? (i := 10) rfl)
      have hP : va_P g.1 vwCl (List.flatten [bDR g x ta o lo go tt lt mo fo ro fl9]) s.heap := hP
      have hD : va_D A (List.flatten [bDR g x ta o lo go tt lt mo fo ro fl9]) := hD
      obtain ⟨hP, hD⟩ := zord (g := g) (Bs' := []) [] rfl rfl hP hD
      exact vx_throwSW (A := A) (names := ["java/lang/RuntimeException", "java/lang/Exception"]) hx hb hfl hown (by decide +kernel) (by decide +kernel) (hts _ k550) (hts _ k551) hsa4 (zhat hat_RX11_110_IllegalArgumentExceptiona hat_RX11_110_IllegalArgumentExceptionb hts (hT.2.2.2.2.1 _ (List.mem_of_getElem? (i := 1) rfl))) hat_RX11_110_IllegalArgumentExceptionc hT.1 hT.2.1 hS (by rw [hml]; exact hl.1) dX11_needWithin_10 dX11_needWithin_13 dX11_needWithin_14 dX11_needWithin_17 dX11_needWithin_20 (fun x hx => (htab x hx).elim) (Nat.le_of_ble_eq_true rfl) (Nat.le_of_ble_eq_true rfl) (Nat.le_of_ble_eq_true rfl) (Nat.le_of_ble_eq_true rfl) hlocks (fun t ht hz hk => ⟨⟨(), ⟨rfl, Or.inr (Int32.not_le.mp cB)⟩, hP.kept (fun k q hq => hk q.1 (hP k q hq).lt), hD⟩, ⟨Nat.le_trans hS.1 hz, fun q h1 h2 => (hk q (Nat.lt_of_lt_of_le h1 hS.1)).trans (hS.2.1 q h1 h2)⟩⟩) hS.2.2 (Nat.le_of_ble_eq_true rfl) (Nat.le_of_ble_eq_true rfl)
set_option maxRecDepth 100000 in
set_option maxHeartbeats 4000000 in
theorem c_nw_0_60 (l : Launch) (hfl : l.stackTraces = false) (g : zG) (x : Nat) (ta : Nat) (o : Nat) (lo : Nat) (go : Nat) (tt : Nat) (lt : Nat) (mo : Nat) (fo : Nat) (ro : Nat) (fl9 : Int32) (n : Int32)  : zX g l yX11_needWithin (Cond.code yX11_needWithin cX11_needWithin 4 none :: zB) ({ frames := 6, cells := 1, slots := 6, locals := 82 } : Room) [.ref x, .int n, .int 0, .int 60] [bDR g x ta o lo go tt lt mo fo ro fl9] (fun _ : Unit => none) (fun _ : Unit => ¬ (n : Int32) < 0 ∧ ¬ 60 < (n : Int32)) (fun _ : Unit => [bDR g x ta o lo go tt lt mo fo ro fl9]) (fun (E : String) (_ : Unit) => E = "java/lang/IllegalArgumentException" ∧ ((n : Int32) < 0 ∨ 60 < (n : Int32))) (fun _ : Unit => []) := by
  refine zX.of (cc := cX11_needWithin) (maxL := 4) (rt := none) (by decide) rfl (Nat.le_of_ble_eq_true rfl) ?_
  intro p e s m args below meth c A ls St hr hlocks htab hin hK hT hA hP hD hS hl
  obtain ⟨hx, hb, hml, hown, hts⟩ := id St
  have hl : lv_has ls 4 [(0, .ref x), (1, .int n), (2, .int 0), (3, .int 60)] := hl
  refine lv_iload_n hx hb dX11_needWithin_0 rfl (lv_at hl 1 rfl) ?_
  refine lv_iload_n hx hb dX11_needWithin_1 rfl (lv_at hl 2 rfl) ?_
  refine lv_icmp_lt (tgt := 10) hx hb dX11_needWithin_2 (by decide) (fun cA => ?_) (fun cA => ?_)
  · skip
    obtain ⟨sa2, hsa2⟩ := hT.2.2.1 _ (List.mem_of_getElem? (i := 10) rfl)
    have hP : va_P g.1 vwCl (List.flatten [bDR g x ta o lo go tt lt mo fo ro fl9]) s.heap := hP
    have hD : va_D A (List.flatten [bDR g x ta o lo go tt lt mo fo ro fl9]) := hD
    obtain ⟨hP, hD⟩ := zord (g := g) (Bs' := []) [] rfl rfl hP hD
    exact vx_throwSW (A := A) (names := ["java/lang/RuntimeException", "java/lang/Exception"]) hx hb hfl hown (by decide +kernel) (by decide +kernel) (hts _ k550) (hts _ k551) hsa2 (zhat hat_RX11_110_IllegalArgumentExceptiona hat_RX11_110_IllegalArgumentExceptionb hts (hT.2.2.2.2.1 _ (List.mem_of_getElem? (i := 1) rfl))) hat_RX11_110_IllegalArgumentExceptionc hT.1 hT.2.1 hS (by rw [hml]; exact hl.1) dX11_needWithin_10 dX11_needWithin_13 dX11_needWithin_14 dX11_needWithin_17 dX11_needWithin_20 (fun x hx => (htab x hx).elim) (Nat.le_of_ble_eq_true rfl) (Nat.le_of_ble_eq_true rfl) (Nat.le_of_ble_eq_true rfl) (Nat.le_of_ble_eq_true rfl) hlocks (fun t ht hz hk => ⟨⟨(), ⟨rfl, Or.inl cA⟩, hP.kept (fun k q hq => hk q.1 (hP k q hq).lt), hD⟩, ⟨Nat.le_trans hS.1 hz, fun q h1 h2 => (hk q (Nat.lt_of_lt_of_le h1 hS.1)).trans (hS.2.1 q h1 h2)⟩⟩) hS.2.2 (Nat.le_of_ble_eq_true rfl) (Nat.le_of_ble_eq_true rfl)
  · skip
    refine lv_iload_n hx hb dX11_needWithin_5 rfl (lv_at hl 1 rfl) ?_
    refine lv_iload_n hx hb dX11_needWithin_6 rfl (lv_at hl 3 rfl) ?_
    refine lv_icmp_le (tgt := 21) hx hb dX11_needWithin_7 (by decide) (fun cB => ?_) (fun cB => ?_)
    · skip
      have hP : va_P g.1 vwCl (List.flatten [bDR g x ta o lo go tt lt mo fo ro fl9]) s.heap := hP
      have hD : va_D A (List.flatten [bDR g x ta o lo go tt lt mo fo ro fl9]) := hD
      exact zret_v hx hb hr hlocks hS (Nat.le_of_ble_eq_true rfl) (Nat.le_of_ble_eq_true rfl) dX11_needWithin_21 () rfl (⟨cA, Int32.not_lt.mpr cB⟩) hP hD
    · skip
      obtain ⟨sa4, hsa4⟩ := hT.2.2.1 _ (List.mem_of_getElem? (i := 10) rfl)
      have hP : va_P g.1 vwCl (List.flatten [bDR g x ta o lo go tt lt mo fo ro fl9]) s.heap := hP
      have hD : va_D A (List.flatten [bDR g x ta o lo go tt lt mo fo ro fl9]) := hD
      obtain ⟨hP, hD⟩ := zord (g := g) (Bs' := []) [] rfl rfl hP hD
      exact vx_throwSW (A := A) (names := ["java/lang/RuntimeException", "java/lang/Exception"]) hx hb hfl hown (by decide +kernel) (by decide +kernel) (hts _ k550) (hts _ k551) hsa4 (zhat hat_RX11_110_IllegalArgumentExceptiona hat_RX11_110_IllegalArgumentExceptionb hts (hT.2.2.2.2.1 _ (List.mem_of_getElem? (i := 1) rfl))) hat_RX11_110_IllegalArgumentExceptionc hT.1 hT.2.1 hS (by rw [hml]; exact hl.1) dX11_needWithin_10 dX11_needWithin_13 dX11_needWithin_14 dX11_needWithin_17 dX11_needWithin_20 (fun x hx => (htab x hx).elim) (Nat.le_of_ble_eq_true rfl) (Nat.le_of_ble_eq_true rfl) (Nat.le_of_ble_eq_true rfl) (Nat.le_of_ble_eq_true rfl) hlocks (fun t ht hz hk => ⟨⟨(), ⟨rfl, Or.inr (Int32.not_le.mp cB)⟩, hP.kept (fun k q hq => hk q.1 (hP k q hq).lt), hD⟩, ⟨Nat.le_trans hS.1 hz, fun q h1 h2 => (hk q (Nat.lt_of_lt_of_le h1 hS.1)).trans (hS.2.1 q h1 h2)⟩⟩) hS.2.2 (Nat.le_of_ble_eq_true rfl) (Nat.le_of_ble_eq_true rfl)
set_option maxRecDepth 100000 in
set_option maxHeartbeats 4000000 in
theorem c_nw_0_30 (l : Launch) (hfl : l.stackTraces = false) (g : zG) (x : Nat) (ta : Nat) (o : Nat) (lo : Nat) (go : Nat) (tt : Nat) (lt : Nat) (mo : Nat) (fo : Nat) (ro : Nat) (fl9 : Int32) (n : Int32)  : zX g l yX11_needWithin (Cond.code yX11_needWithin cX11_needWithin 4 none :: zB) ({ frames := 6, cells := 1, slots := 6, locals := 82 } : Room) [.ref x, .int n, .int 0, .int 30] [bDR g x ta o lo go tt lt mo fo ro fl9] (fun _ : Unit => none) (fun _ : Unit => ¬ (n : Int32) < 0 ∧ ¬ 30 < (n : Int32)) (fun _ : Unit => [bDR g x ta o lo go tt lt mo fo ro fl9]) (fun (E : String) (_ : Unit) => E = "java/lang/IllegalArgumentException" ∧ ((n : Int32) < 0 ∨ 30 < (n : Int32))) (fun _ : Unit => []) := by
  refine zX.of (cc := cX11_needWithin) (maxL := 4) (rt := none) (by decide) rfl (Nat.le_of_ble_eq_true rfl) ?_
  intro p e s m args below meth c A ls St hr hlocks htab hin hK hT hA hP hD hS hl
  obtain ⟨hx, hb, hml, hown, hts⟩ := id St
  have hl : lv_has ls 4 [(0, .ref x), (1, .int n), (2, .int 0), (3, .int 30)] := hl
  refine lv_iload_n hx hb dX11_needWithin_0 rfl (lv_at hl 1 rfl) ?_
  refine lv_iload_n hx hb dX11_needWithin_1 rfl (lv_at hl 2 rfl) ?_
  refine lv_icmp_lt (tgt := 10) hx hb dX11_needWithin_2 (by decide) (fun cA => ?_) (fun cA => ?_)
  · skip
    obtain ⟨sa2, hsa2⟩ := hT.2.2.1 _ (List.mem_of_getElem? (i := 10) rfl)
    have hP : va_P g.1 vwCl (List.flatten [bDR g x ta o lo go tt lt mo fo ro fl9]) s.heap := hP
    have hD : va_D A (List.flatten [bDR g x ta o lo go tt lt mo fo ro fl9]) := hD
    obtain ⟨hP, hD⟩ := zord (g := g) (Bs' := []) [] rfl rfl hP hD
    exact vx_throwSW (A := A) (names := ["java/lang/RuntimeException", "java/lang/Exception"]) hx hb hfl hown (by decide +kernel) (by decide +kernel) (hts _ k550) (hts _ k551) hsa2 (zhat hat_RX11_110_IllegalArgumentExceptiona hat_RX11_110_IllegalArgumentExceptionb hts (hT.2.2.2.2.1 _ (List.mem_of_getElem? (i := 1) rfl))) hat_RX11_110_IllegalArgumentExceptionc hT.1 hT.2.1 hS (by rw [hml]; exact hl.1) dX11_needWithin_10 dX11_needWithin_13 dX11_needWithin_14 dX11_needWithin_17 dX11_needWithin_20 (fun x hx => (htab x hx).elim) (Nat.le_of_ble_eq_true rfl) (Nat.le_of_ble_eq_true rfl) (Nat.le_of_ble_eq_true rfl) (Nat.le_of_ble_eq_true rfl) hlocks (fun t ht hz hk => ⟨⟨(), ⟨rfl, Or.inl cA⟩, hP.kept (fun k q hq => hk q.1 (hP k q hq).lt), hD⟩, ⟨Nat.le_trans hS.1 hz, fun q h1 h2 => (hk q (Nat.lt_of_lt_of_le h1 hS.1)).trans (hS.2.1 q h1 h2)⟩⟩) hS.2.2 (Nat.le_of_ble_eq_true rfl) (Nat.le_of_ble_eq_true rfl)
  · skip
    refine lv_iload_n hx hb dX11_needWithin_5 rfl (lv_at hl 1 rfl) ?_
    refine lv_iload_n hx hb dX11_needWithin_6 rfl (lv_at hl 3 rfl) ?_
    refine lv_icmp_le (tgt := 21) hx hb dX11_needWithin_7 (by decide) (fun cB => ?_) (fun cB => ?_)
    · skip
      have hP : va_P g.1 vwCl (List.flatten [bDR g x ta o lo go tt lt mo fo ro fl9]) s.heap := hP
      have hD : va_D A (List.flatten [bDR g x ta o lo go tt lt mo fo ro fl9]) := hD
      exact zret_v hx hb hr hlocks hS (Nat.le_of_ble_eq_true rfl) (Nat.le_of_ble_eq_true rfl) dX11_needWithin_21 () rfl (⟨cA, Int32.not_lt.mpr cB⟩) hP hD
    · skip
      obtain ⟨sa4, hsa4⟩ := hT.2.2.1 _ (List.mem_of_getElem? (i := 10) rfl)
      have hP : va_P g.1 vwCl (List.flatten [bDR g x ta o lo go tt lt mo fo ro fl9]) s.heap := hP
      have hD : va_D A (List.flatten [bDR g x ta o lo go tt lt mo fo ro fl9]) := hD
      obtain ⟨hP, hD⟩ := zord (g := g) (Bs' := []) [] rfl rfl hP hD
      exact vx_throwSW (A := A) (names := ["java/lang/RuntimeException", "java/lang/Exception"]) hx hb hfl hown (by decide +kernel) (by decide +kernel) (hts _ k550) (hts _ k551) hsa4 (zhat hat_RX11_110_IllegalArgumentExceptiona hat_RX11_110_IllegalArgumentExceptionb hts (hT.2.2.2.2.1 _ (List.mem_of_getElem? (i := 1) rfl))) hat_RX11_110_IllegalArgumentExceptionc hT.1 hT.2.1 hS (by rw [hml]; exact hl.1) dX11_needWithin_10 dX11_needWithin_13 dX11_needWithin_14 dX11_needWithin_17 dX11_needWithin_20 (fun x hx => (htab x hx).elim) (Nat.le_of_ble_eq_true rfl) (Nat.le_of_ble_eq_true rfl) (Nat.le_of_ble_eq_true rfl) (Nat.le_of_ble_eq_true rfl) hlocks (fun t ht hz hk => ⟨⟨(), ⟨rfl, Or.inr (Int32.not_le.mp cB)⟩, hP.kept (fun k q hq => hk q.1 (hP k q hq).lt), hD⟩, ⟨Nat.le_trans hS.1 hz, fun q h1 h2 => (hk q (Nat.lt_of_lt_of_le h1 hS.1)).trans (hS.2.1 q h1 h2)⟩⟩) hS.2.2 (Nat.le_of_ble_eq_true rfl) (Nat.le_of_ble_eq_true rfl)
set_option maxRecDepth 100000 in
set_option maxHeartbeats 4000000 in
theorem c_nw_1_792 (l : Launch) (hfl : l.stackTraces = false) (g : zG) (x : Nat) (ta : Nat) (o : Nat) (lo : Nat) (go : Nat) (tt : Nat) (lt : Nat) (mo : Nat) (fo : Nat) (ro : Nat) (fl9 : Int32) (n : Int32)  : zX g l yX11_needWithin (Cond.code yX11_needWithin cX11_needWithin 4 none :: zB) ({ frames := 6, cells := 1, slots := 6, locals := 82 } : Room) [.ref x, .int n, .int 1, .int 792] [bDR g x ta o lo go tt lt mo fo ro fl9] (fun _ : Unit => none) (fun _ : Unit => ¬ (n : Int32) < 1 ∧ ¬ 792 < (n : Int32)) (fun _ : Unit => [bDR g x ta o lo go tt lt mo fo ro fl9]) (fun (E : String) (_ : Unit) => E = "java/lang/IllegalArgumentException" ∧ ((n : Int32) < 1 ∨ 792 < (n : Int32))) (fun _ : Unit => []) := by
  refine zX.of (cc := cX11_needWithin) (maxL := 4) (rt := none) (by decide) rfl (Nat.le_of_ble_eq_true rfl) ?_
  intro p e s m args below meth c A ls St hr hlocks htab hin hK hT hA hP hD hS hl
  obtain ⟨hx, hb, hml, hown, hts⟩ := id St
  have hl : lv_has ls 4 [(0, .ref x), (1, .int n), (2, .int 1), (3, .int 792)] := hl
  refine lv_iload_n hx hb dX11_needWithin_0 rfl (lv_at hl 1 rfl) ?_
  refine lv_iload_n hx hb dX11_needWithin_1 rfl (lv_at hl 2 rfl) ?_
  refine lv_icmp_lt (tgt := 10) hx hb dX11_needWithin_2 (by decide) (fun cA => ?_) (fun cA => ?_)
  · skip
    obtain ⟨sa2, hsa2⟩ := hT.2.2.1 _ (List.mem_of_getElem? (i := 10) rfl)
    have hP : va_P g.1 vwCl (List.flatten [bDR g x ta o lo go tt lt mo fo ro fl9]) s.heap := hP
    have hD : va_D A (List.flatten [bDR g x ta o lo go tt lt mo fo ro fl9]) := hD
    obtain ⟨hP, hD⟩ := zord (g := g) (Bs' := []) [] rfl rfl hP hD
    exact vx_throwSW (A := A) (names := ["java/lang/RuntimeException", "java/lang/Exception"]) hx hb hfl hown (by decide +kernel) (by decide +kernel) (hts _ k550) (hts _ k551) hsa2 (zhat hat_RX11_110_IllegalArgumentExceptiona hat_RX11_110_IllegalArgumentExceptionb hts (hT.2.2.2.2.1 _ (List.mem_of_getElem? (i := 1) rfl))) hat_RX11_110_IllegalArgumentExceptionc hT.1 hT.2.1 hS (by rw [hml]; exact hl.1) dX11_needWithin_10 dX11_needWithin_13 dX11_needWithin_14 dX11_needWithin_17 dX11_needWithin_20 (fun x hx => (htab x hx).elim) (Nat.le_of_ble_eq_true rfl) (Nat.le_of_ble_eq_true rfl) (Nat.le_of_ble_eq_true rfl) (Nat.le_of_ble_eq_true rfl) hlocks (fun t ht hz hk => ⟨⟨(), ⟨rfl, Or.inl cA⟩, hP.kept (fun k q hq => hk q.1 (hP k q hq).lt), hD⟩, ⟨Nat.le_trans hS.1 hz, fun q h1 h2 => (hk q (Nat.lt_of_lt_of_le h1 hS.1)).trans (hS.2.1 q h1 h2)⟩⟩) hS.2.2 (Nat.le_of_ble_eq_true rfl) (Nat.le_of_ble_eq_true rfl)
  · skip
    refine lv_iload_n hx hb dX11_needWithin_5 rfl (lv_at hl 1 rfl) ?_
    refine lv_iload_n hx hb dX11_needWithin_6 rfl (lv_at hl 3 rfl) ?_
    refine lv_icmp_le (tgt := 21) hx hb dX11_needWithin_7 (by decide) (fun cB => ?_) (fun cB => ?_)
    · skip
      have hP : va_P g.1 vwCl (List.flatten [bDR g x ta o lo go tt lt mo fo ro fl9]) s.heap := hP
      have hD : va_D A (List.flatten [bDR g x ta o lo go tt lt mo fo ro fl9]) := hD
      exact zret_v hx hb hr hlocks hS (Nat.le_of_ble_eq_true rfl) (Nat.le_of_ble_eq_true rfl) dX11_needWithin_21 () rfl (⟨cA, Int32.not_lt.mpr cB⟩) hP hD
    · skip
      obtain ⟨sa4, hsa4⟩ := hT.2.2.1 _ (List.mem_of_getElem? (i := 10) rfl)
      have hP : va_P g.1 vwCl (List.flatten [bDR g x ta o lo go tt lt mo fo ro fl9]) s.heap := hP
      have hD : va_D A (List.flatten [bDR g x ta o lo go tt lt mo fo ro fl9]) := hD
      obtain ⟨hP, hD⟩ := zord (g := g) (Bs' := []) [] rfl rfl hP hD
      exact vx_throwSW (A := A) (names := ["java/lang/RuntimeException", "java/lang/Exception"]) hx hb hfl hown (by decide +kernel) (by decide +kernel) (hts _ k550) (hts _ k551) hsa4 (zhat hat_RX11_110_IllegalArgumentExceptiona hat_RX11_110_IllegalArgumentExceptionb hts (hT.2.2.2.2.1 _ (List.mem_of_getElem? (i := 1) rfl))) hat_RX11_110_IllegalArgumentExceptionc hT.1 hT.2.1 hS (by rw [hml]; exact hl.1) dX11_needWithin_10 dX11_needWithin_13 dX11_needWithin_14 dX11_needWithin_17 dX11_needWithin_20 (fun x hx => (htab x hx).elim) (Nat.le_of_ble_eq_true rfl) (Nat.le_of_ble_eq_true rfl) (Nat.le_of_ble_eq_true rfl) (Nat.le_of_ble_eq_true rfl) hlocks (fun t ht hz hk => ⟨⟨(), ⟨rfl, Or.inr (Int32.not_le.mp cB)⟩, hP.kept (fun k q hq => hk q.1 (hP k q hq).lt), hD⟩, ⟨Nat.le_trans hS.1 hz, fun q h1 h2 => (hk q (Nat.lt_of_lt_of_le h1 hS.1)).trans (hS.2.1 q h1 h2)⟩⟩) hS.2.2 (Nat.le_of_ble_eq_true rfl) (Nat.le_of_ble_eq_true rfl)
set_option maxRecDepth 100000 in
set_option maxHeartbeats 4000000 in
theorem c_nw_1_99 (l : Launch) (hfl : l.stackTraces = false) (g : zG) (x : Nat) (ta : Nat) (o : Nat) (lo : Nat) (go : Nat) (tt : Nat) (lt : Nat) (mo : Nat) (fo : Nat) (ro : Nat) (fl9 : Int32) (n : Int32)  : zX g l yX11_needWithin (Cond.code yX11_needWithin cX11_needWithin 4 none :: zB) ({ frames := 6, cells := 1, slots := 6, locals := 82 } : Room) [.ref x, .int n, .int 1, .int 99] [bDR g x ta o lo go tt lt mo fo ro fl9] (fun _ : Unit => none) (fun _ : Unit => ¬ (n : Int32) < 1 ∧ ¬ 99 < (n : Int32)) (fun _ : Unit => [bDR g x ta o lo go tt lt mo fo ro fl9]) (fun (E : String) (_ : Unit) => E = "java/lang/IllegalArgumentException" ∧ ((n : Int32) < 1 ∨ 99 < (n : Int32))) (fun _ : Unit => []) := by
  refine zX.of (cc := cX11_needWithin) (maxL := 4) (rt := none) (by decide) rfl (Nat.le_of_ble_eq_true rfl) ?_
  intro p e s m args below meth c A ls St hr hlocks htab hin hK hT hA hP hD hS hl
  obtain ⟨hx, hb, hml, hown, hts⟩ := id St
  have hl : lv_has ls 4 [(0, .ref x), (1, .int n), (2, .int 1), (3, .int 99)] := hl
  refine lv_iload_n hx hb dX11_needWithin_0 rfl (lv_at hl 1 rfl) ?_
  refine lv_iload_n hx hb dX11_needWithin_1 rfl (lv_at hl 2 rfl) ?_
  refine lv_icmp_lt (tgt := 10) hx hb dX11_needWithin_2 (by decide) (fun cA => ?_) (fun cA => ?_)
  · skip
    obtain ⟨sa2, hsa2⟩ := hT.2.2.1 _ (List.mem_of_getElem? (i := 10) rfl)
    have hP : va_P g.1 vwCl (List.flatten [bDR g x ta o lo go tt lt mo fo ro fl9]) s.heap := hP
    have hD : va_D A (List.flatten [bDR g x ta o lo go tt lt mo fo ro fl9]) := hD
    obtain ⟨hP, hD⟩ := zord (g := g) (Bs' := []) [] rfl rfl hP hD
    exact vx_throwSW (A := A) (names := ["java/lang/RuntimeException", "java/lang/Exception"]) hx hb hfl hown (by decide +kernel) (by decide +kernel) (hts _ k550) (hts _ k551) hsa2 (zhat hat_RX11_110_IllegalArgumentExceptiona hat_RX11_110_IllegalArgumentExceptionb hts (hT.2.2.2.2.1 _ (List.mem_of_getElem? (i := 1) rfl))) hat_RX11_110_IllegalArgumentExceptionc hT.1 hT.2.1 hS (by rw [hml]; exact hl.1) dX11_needWithin_10 dX11_needWithin_13 dX11_needWithin_14 dX11_needWithin_17 dX11_needWithin_20 (fun x hx => (htab x hx).elim) (Nat.le_of_ble_eq_true rfl) (Nat.le_of_ble_eq_true rfl) (Nat.le_of_ble_eq_true rfl) (Nat.le_of_ble_eq_true rfl) hlocks (fun t ht hz hk => ⟨⟨(), ⟨rfl, Or.inl cA⟩, hP.kept (fun k q hq => hk q.1 (hP k q hq).lt), hD⟩, ⟨Nat.le_trans hS.1 hz, fun q h1 h2 => (hk q (Nat.lt_of_lt_of_le h1 hS.1)).trans (hS.2.1 q h1 h2)⟩⟩) hS.2.2 (Nat.le_of_ble_eq_true rfl) (Nat.le_of_ble_eq_true rfl)
  · skip
    refine lv_iload_n hx hb dX11_needWithin_5 rfl (lv_at hl 1 rfl) ?_
    refine lv_iload_n hx hb dX11_needWithin_6 rfl (lv_at hl 3 rfl) ?_
    refine lv_icmp_le (tgt := 21) hx hb dX11_needWithin_7 (by decide) (fun cB => ?_) (fun cB => ?_)
    · skip
      have hP : va_P g.1 vwCl (List.flatten [bDR g x ta o lo go tt lt mo fo ro fl9]) s.heap := hP
      have hD : va_D A (List.flatten [bDR g x ta o lo go tt lt mo fo ro fl9]) := hD
      exact zret_v hx hb hr hlocks hS (Nat.le_of_ble_eq_true rfl) (Nat.le_of_ble_eq_true rfl) dX11_needWithin_21 () rfl (⟨cA, Int32.not_lt.mpr cB⟩) hP hD
    · skip
      obtain ⟨sa4, hsa4⟩ := hT.2.2.1 _ (List.mem_of_getElem? (i := 10) rfl)
      have hP : va_P g.1 vwCl (List.flatten [bDR g x ta o lo go tt lt mo fo ro fl9]) s.heap := hP
      have hD : va_D A (List.flatten [bDR g x ta o lo go tt lt mo fo ro fl9]) := hD
      obtain ⟨hP, hD⟩ := zord (g := g) (Bs' := []) [] rfl rfl hP hD
      exact vx_throwSW (A := A) (names := ["java/lang/RuntimeException", "java/lang/Exception"]) hx hb hfl hown (by decide +kernel) (by decide +kernel) (hts _ k550) (hts _ k551) hsa4 (zhat hat_RX11_110_IllegalArgumentExceptiona hat_RX11_110_IllegalArgumentExceptionb hts (hT.2.2.2.2.1 _ (List.mem_of_getElem? (i := 1) rfl))) hat_RX11_110_IllegalArgumentExceptionc hT.1 hT.2.1 hS (by rw [hml]; exact hl.1) dX11_needWithin_10 dX11_needWithin_13 dX11_needWithin_14 dX11_needWithin_17 dX11_needWithin_20 (fun x hx => (htab x hx).elim) (Nat.le_of_ble_eq_true rfl) (Nat.le_of_ble_eq_true rfl) (Nat.le_of_ble_eq_true rfl) (Nat.le_of_ble_eq_true rfl) hlocks (fun t ht hz hk => ⟨⟨(), ⟨rfl, Or.inr (Int32.not_le.mp cB)⟩, hP.kept (fun k q hq => hk q.1 (hP k q hq).lt), hD⟩, ⟨Nat.le_trans hS.1 hz, fun q h1 h2 => (hk q (Nat.lt_of_lt_of_le h1 hS.1)).trans (hS.2.1 q h1 h2)⟩⟩) hS.2.2 (Nat.le_of_ble_eq_true rfl) (Nat.le_of_ble_eq_true rfl)
set_option maxRecDepth 100000 in
set_option maxHeartbeats 4000000 in
theorem c_nw_0_12 (l : Launch) (hfl : l.stackTraces = false) (g : zG) (x : Nat) (ta : Nat) (o : Nat) (lo : Nat) (go : Nat) (tt : Nat) (lt : Nat) (mo : Nat) (fo : Nat) (ro : Nat) (fl9 : Int32) (n : Int32)  : zX g l yX11_needWithin (Cond.code yX11_needWithin cX11_needWithin 4 none :: zB) ({ frames := 6, cells := 1, slots := 6, locals := 82 } : Room) [.ref x, .int n, .int 0, .int 12] [bDR g x ta o lo go tt lt mo fo ro fl9] (fun _ : Unit => none) (fun _ : Unit => ¬ (n : Int32) < 0 ∧ ¬ 12 < (n : Int32)) (fun _ : Unit => [bDR g x ta o lo go tt lt mo fo ro fl9]) (fun (E : String) (_ : Unit) => E = "java/lang/IllegalArgumentException" ∧ ((n : Int32) < 0 ∨ 12 < (n : Int32))) (fun _ : Unit => []) := by
  refine zX.of (cc := cX11_needWithin) (maxL := 4) (rt := none) (by decide) rfl (Nat.le_of_ble_eq_true rfl) ?_
  intro p e s m args below meth c A ls St hr hlocks htab hin hK hT hA hP hD hS hl
  obtain ⟨hx, hb, hml, hown, hts⟩ := id St
  have hl : lv_has ls 4 [(0, .ref x), (1, .int n), (2, .int 0), (3, .int 12)] := hl
  refine lv_iload_n hx hb dX11_needWithin_0 rfl (lv_at hl 1 rfl) ?_
  refine lv_iload_n hx hb dX11_needWithin_1 rfl (lv_at hl 2 rfl) ?_
  refine lv_icmp_lt (tgt := 10) hx hb dX11_needWithin_2 (by decide) (fun cA => ?_) (fun cA => ?_)
  · skip
    obtain ⟨sa2, hsa2⟩ := hT.2.2.1 _ (List.mem_of_getElem? (i := 10) rfl)
    have hP : va_P g.1 vwCl (List.flatten [bDR g x ta o lo go tt lt mo fo ro fl9]) s.heap := hP
    have hD : va_D A (List.flatten [bDR g x ta o lo go tt lt mo fo ro fl9]) := hD
    obtain ⟨hP, hD⟩ := zord (g := g) (Bs' := []) [] rfl rfl hP hD
    exact vx_throwSW (A := A) (names := ["java/lang/RuntimeException", "java/lang/Exception"]) hx hb hfl hown (by decide +kernel) (by decide +kernel) (hts _ k550) (hts _ k551) hsa2 (zhat hat_RX11_110_IllegalArgumentExceptiona hat_RX11_110_IllegalArgumentExceptionb hts (hT.2.2.2.2.1 _ (List.mem_of_getElem? (i := 1) rfl))) hat_RX11_110_IllegalArgumentExceptionc hT.1 hT.2.1 hS (by rw [hml]; exact hl.1) dX11_needWithin_10 dX11_needWithin_13 dX11_needWithin_14 dX11_needWithin_17 dX11_needWithin_20 (fun x hx => (htab x hx).elim) (Nat.le_of_ble_eq_true rfl) (Nat.le_of_ble_eq_true rfl) (Nat.le_of_ble_eq_true rfl) (Nat.le_of_ble_eq_true rfl) hlocks (fun t ht hz hk => ⟨⟨(), ⟨rfl, Or.inl cA⟩, hP.kept (fun k q hq => hk q.1 (hP k q hq).lt), hD⟩, ⟨Nat.le_trans hS.1 hz, fun q h1 h2 => (hk q (Nat.lt_of_lt_of_le h1 hS.1)).trans (hS.2.1 q h1 h2)⟩⟩) hS.2.2 (Nat.le_of_ble_eq_true rfl) (Nat.le_of_ble_eq_true rfl)
  · skip
    refine lv_iload_n hx hb dX11_needWithin_5 rfl (lv_at hl 1 rfl) ?_
    refine lv_iload_n hx hb dX11_needWithin_6 rfl (lv_at hl 3 rfl) ?_
    refine lv_icmp_le (tgt := 21) hx hb dX11_needWithin_7 (by decide) (fun cB => ?_) (fun cB => ?_)
    · skip
      have hP : va_P g.1 vwCl (List.flatten [bDR g x ta o lo go tt lt mo fo ro fl9]) s.heap := hP
      have hD : va_D A (List.flatten [bDR g x ta o lo go tt lt mo fo ro fl9]) := hD
      exact zret_v hx hb hr hlocks hS (Nat.le_of_ble_eq_true rfl) (Nat.le_of_ble_eq_true rfl) dX11_needWithin_21 () rfl (⟨cA, Int32.not_lt.mpr cB⟩) hP hD
    · skip
      obtain ⟨sa4, hsa4⟩ := hT.2.2.1 _ (List.mem_of_getElem? (i := 10) rfl)
      have hP : va_P g.1 vwCl (List.flatten [bDR g x ta o lo go tt lt mo fo ro fl9]) s.heap := hP
      have hD : va_D A (List.flatten [bDR g x ta o lo go tt lt mo fo ro fl9]) := hD
      obtain ⟨hP, hD⟩ := zord (g := g) (Bs' := []) [] rfl rfl hP hD
      exact vx_throwSW (A := A) (names := ["java/lang/RuntimeException", "java/lang/Exception"]) hx hb hfl hown (by decide +kernel) (by decide +kernel) (hts _ k550) (hts _ k551) hsa4 (zhat hat_RX11_110_IllegalArgumentExceptiona hat_RX11_110_IllegalArgumentExceptionb hts (hT.2.2.2.2.1 _ (List.mem_of_getElem? (i := 1) rfl))) hat_RX11_110_IllegalArgumentExceptionc hT.1 hT.2.1 hS (by rw [hml]; exact hl.1) dX11_needWithin_10 dX11_needWithin_13 dX11_needWithin_14 dX11_needWithin_17 dX11_needWithin_20 (fun x hx => (htab x hx).elim) (Nat.le_of_ble_eq_true rfl) (Nat.le_of_ble_eq_true rfl) (Nat.le_of_ble_eq_true rfl) (Nat.le_of_ble_eq_true rfl) hlocks (fun t ht hz hk => ⟨⟨(), ⟨rfl, Or.inr (Int32.not_le.mp cB)⟩, hP.kept (fun k q hq => hk q.1 (hP k q hq).lt), hD⟩, ⟨Nat.le_trans hS.1 hz, fun q h1 h2 => (hk q (Nat.lt_of_lt_of_le h1 hS.1)).trans (hS.2.1 q h1 h2)⟩⟩) hS.2.2 (Nat.le_of_ble_eq_true rfl) (Nat.le_of_ble_eq_true rfl)
set_option maxRecDepth 100000 in
set_option maxHeartbeats 4000000 in
theorem c_nw_0_36 (l : Launch) (hfl : l.stackTraces = false) (g : zG) (x : Nat) (ta : Nat) (o : Nat) (lo : Nat) (go : Nat) (tt : Nat) (lt : Nat) (mo : Nat) (fo : Nat) (ro : Nat) (fl9 : Int32) (n : Int32)  : zX g l yX11_needWithin (Cond.code yX11_needWithin cX11_needWithin 4 none :: zB) ({ frames := 6, cells := 1, slots := 6, locals := 82 } : Room) [.ref x, .int n, .int 0, .int 36] [bDR g x ta o lo go tt lt mo fo ro fl9] (fun _ : Unit => none) (fun _ : Unit => ¬ (n : Int32) < 0 ∧ ¬ 36 < (n : Int32)) (fun _ : Unit => [bDR g x ta o lo go tt lt mo fo ro fl9]) (fun (E : String) (_ : Unit) => E = "java/lang/IllegalArgumentException" ∧ ((n : Int32) < 0 ∨ 36 < (n : Int32))) (fun _ : Unit => []) := by
  refine zX.of (cc := cX11_needWithin) (maxL := 4) (rt := none) (by decide) rfl (Nat.le_of_ble_eq_true rfl) ?_
  intro p e s m args below meth c A ls St hr hlocks htab hin hK hT hA hP hD hS hl
  obtain ⟨hx, hb, hml, hown, hts⟩ := id St
  have hl : lv_has ls 4 [(0, .ref x), (1, .int n), (2, .int 0), (3, .int 36)] := hl
  refine lv_iload_n hx hb dX11_needWithin_0 rfl (lv_at hl 1 rfl) ?_
  refine lv_iload_n hx hb dX11_needWithin_1 rfl (lv_at hl 2 rfl) ?_
  refine lv_icmp_lt (tgt := 10) hx hb dX11_needWithin_2 (by decide) (fun cA => ?_) (fun cA => ?_)
  · skip
    obtain ⟨sa2, hsa2⟩ := hT.2.2.1 _ (List.mem_of_getElem? (i := 10) rfl)
    have hP : va_P g.1 vwCl (List.flatten [bDR g x ta o lo go tt lt mo fo ro fl9]) s.heap := hP
    have hD : va_D A (List.flatten [bDR g x ta o lo go tt lt mo fo ro fl9]) := hD
    obtain ⟨hP, hD⟩ := zord (g := g) (Bs' := []) [] rfl rfl hP hD
    exact vx_throwSW (A := A) (names := ["java/lang/RuntimeException", "java/lang/Exception"]) hx hb hfl hown (by decide +kernel) (by decide +kernel) (hts _ k550) (hts _ k551) hsa2 (zhat hat_RX11_110_IllegalArgumentExceptiona hat_RX11_110_IllegalArgumentExceptionb hts (hT.2.2.2.2.1 _ (List.mem_of_getElem? (i := 1) rfl))) hat_RX11_110_IllegalArgumentExceptionc hT.1 hT.2.1 hS (by rw [hml]; exact hl.1) dX11_needWithin_10 dX11_needWithin_13 dX11_needWithin_14 dX11_needWithin_17 dX11_needWithin_20 (fun x hx => (htab x hx).elim) (Nat.le_of_ble_eq_true rfl) (Nat.le_of_ble_eq_true rfl) (Nat.le_of_ble_eq_true rfl) (Nat.le_of_ble_eq_true rfl) hlocks (fun t ht hz hk => ⟨⟨(), ⟨rfl, Or.inl cA⟩, hP.kept (fun k q hq => hk q.1 (hP k q hq).lt), hD⟩, ⟨Nat.le_trans hS.1 hz, fun q h1 h2 => (hk q (Nat.lt_of_lt_of_le h1 hS.1)).trans (hS.2.1 q h1 h2)⟩⟩) hS.2.2 (Nat.le_of_ble_eq_true rfl) (Nat.le_of_ble_eq_true rfl)
  · skip
    refine lv_iload_n hx hb dX11_needWithin_5 rfl (lv_at hl 1 rfl) ?_
    refine lv_iload_n hx hb dX11_needWithin_6 rfl (lv_at hl 3 rfl) ?_
    refine lv_icmp_le (tgt := 21) hx hb dX11_needWithin_7 (by decide) (fun cB => ?_) (fun cB => ?_)
    · skip
      have hP : va_P g.1 vwCl (List.flatten [bDR g x ta o lo go tt lt mo fo ro fl9]) s.heap := hP
      have hD : va_D A (List.flatten [bDR g x ta o lo go tt lt mo fo ro fl9]) := hD
      exact zret_v hx hb hr hlocks hS (Nat.le_of_ble_eq_true rfl) (Nat.le_of_ble_eq_true rfl) dX11_needWithin_21 () rfl (⟨cA, Int32.not_lt.mpr cB⟩) hP hD
    · skip
      obtain ⟨sa4, hsa4⟩ := hT.2.2.1 _ (List.mem_of_getElem? (i := 10) rfl)
      have hP : va_P g.1 vwCl (List.flatten [bDR g x ta o lo go tt lt mo fo ro fl9]) s.heap := hP
      have hD : va_D A (List.flatten [bDR g x ta o lo go tt lt mo fo ro fl9]) := hD
      obtain ⟨hP, hD⟩ := zord (g := g) (Bs' := []) [] rfl rfl hP hD
      exact vx_throwSW (A := A) (names := ["java/lang/RuntimeException", "java/lang/Exception"]) hx hb hfl hown (by decide +kernel) (by decide +kernel) (hts _ k550) (hts _ k551) hsa4 (zhat hat_RX11_110_IllegalArgumentExceptiona hat_RX11_110_IllegalArgumentExceptionb hts (hT.2.2.2.2.1 _ (List.mem_of_getElem? (i := 1) rfl))) hat_RX11_110_IllegalArgumentExceptionc hT.1 hT.2.1 hS (by rw [hml]; exact hl.1) dX11_needWithin_10 dX11_needWithin_13 dX11_needWithin_14 dX11_needWithin_17 dX11_needWithin_20 (fun x hx => (htab x hx).elim) (Nat.le_of_ble_eq_true rfl) (Nat.le_of_ble_eq_true rfl) (Nat.le_of_ble_eq_true rfl) (Nat.le_of_ble_eq_true rfl) hlocks (fun t ht hz hk => ⟨⟨(), ⟨rfl, Or.inr (Int32.not_le.mp cB)⟩, hP.kept (fun k q hq => hk q.1 (hP k q hq).lt), hD⟩, ⟨Nat.le_trans hS.1 hz, fun q h1 h2 => (hk q (Nat.lt_of_lt_of_le h1 hS.1)).trans (hS.2.1 q h1 h2)⟩⟩) hS.2.2 (Nat.le_of_ble_eq_true rfl) (Nat.le_of_ble_eq_true rfl)
