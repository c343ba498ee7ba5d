def bOut (g : zG) (oa : Nat) (fz : Nat → Int64) : va_W := [(oa, .inl (g.2 2, 1, .inr (.inl fz)))]
set_option maxRecDepth 100000 in
set_option maxHeartbeats 4000000 in
theorem l_person (l : Launch) (hfl : l.stackTraces = false) (g : zG) (x : Nat) (ta : Nat) (o : Nat) (lo : Nat) (go : Nat) (tt : Nat) (lt : Nat) (mo : Nat) (fo : Nat) (ro : Nat) (fl9 : Int32) (a : Nat → Nat) (pe : Int32) (wo : Int32) (tx : Int32) (ch : Int32) (jo : Int32) (tr : Int32) (dy : Int32) (sd : Int32) (f : Nat → Nat → Int32) (lc : Nat) (lz : Int32) (ll : Int32) (lm : Int32) (lg : Int32) (ld : Int32) (fc : Nat → Int32) (oa : Nat) (fz : Nat → Int64) (pp : Int32) (wh : Int32) (b_pe : 0 ≤ pe.toInt ∧ pe.toInt ≤ 8) (b_wo : 0 ≤ wo.toInt ∧ wo.toInt ≤ 6) (rf : zZ4 f) (b_lz : 0 ≤ lz.toInt ∧ lz.toInt ≤ 400) : zX' g l yL_person (Cond.codeWith yL_person cL_person 5 (some .int) [(0, 10, 13, 24), (0, 10, 17, 26)] :: zB) ({ frames := 8, cells := 2, slots := 12, locals := 129 } : Room) [.ref x, .int pp, .int wh, .ref oa] [bDR g x ta o lo go tt lt mo fo ro fl9, bTown g o a pe wo tx ch jo tr dy sd f, bLaw g lo lc lz ll lm lg ld fc, bOut g oa fz] (fun u : Int32 × Int32 × Int32 × (Nat → Int64) × Int32 => (fun (lm2 : Int32) (lg2 : Int32) (ld2 : Int32) (fz2 : Nat → Int64) (q : Int32) => some (.int q)) (u.1) (u.2.1) (u.2.2.1) (u.2.2.2.1) (u.2.2.2.2)) (fun u : Int32 × Int32 × Int32 × (Nat → Int64) × Int32 => (fun (lm2 : Int32) (lg2 : Int32) (ld2 : Int32) (fz2 : Nat → Int64) (q : Int32) => True) (u.1) (u.2.1) (u.2.2.1) (u.2.2.2.1) (u.2.2.2.2)) (fun u : Int32 × Int32 × Int32 × (Nat → Int64) × Int32 => (fun (lm2 : Int32) (lg2 : Int32) (ld2 : Int32) (fz2 : Nat → Int64) (q : Int32) => [bDR g x ta o lo go tt lt mo fo ro fl9, bTown g o a pe wo tx ch jo tr dy sd f, bLaw g lo lc lz ll lm2 lg2 ld2 fc, bOut g oa fz2]) (u.1) (u.2.1) (u.2.2.1) (u.2.2.2.1) (u.2.2.2.2)) zNo zN0 := by
  refine zX'.ofH (cc := cL_person) (maxL := 5) (rt := (some .int)) (by decide) rfl (Nat.le_of_ble_eq_true rfl) ?_
  intro p e s m args below meth c A ls St hr hlocks htab hin hK hT hA hP hD hS hl
  obtain ⟨hx, hb, hml, hown, hts⟩ := id St
  have hl : lv_has ls 5 [(0, .ref x), (1, .int pp), (2, .int wh), (3, .ref oa)] := hl
  refine lv_aload_n hx hb dL_person_0 rfl (lv_at hl 3 rfl) ?_
  refine lv_iconst (v := 0) hx hb dL_person_1 (by decide) ?_
  refine lv_aload_n hx hb dL_person_2 rfl (lv_at hl 0 rfl) ?_
  refine lv_iload_n hx hb dL_person_3 rfl (lv_at hl 1 rfl) ?_
  refine lv_iload_n hx hb dL_person_4 rfl (lv_at hl 2 rfl) ?_
  refine xcallV' (g := g) (q0 := 0) (ci := 9) (As := [.int pp, .int wh]) (rest := [.int 0, .ref oa]) St hK hT hA hP hD hS hl.1 [0, 1, 2] [3] rfl rfl rfl (c_x_person l hfl g x ta o lo go tt lt mo fo ro fl9 a pe wo tx ch jo tr dy sd f lc lz ll lm lg ld fc pp wh b_pe b_wo rf b_lz) (cwV 2 hts (zgL (zl4 k1167 k1168 k1169 k621) k632) rfl rfl rfl (by decide +kernel) ⟨Nat.le_of_ble_eq_true rfl, Nat.le_of_ble_eq_true rfl⟩) rfl rfl rfl rfl (Nat.le_of_ble_eq_true rfl) dL_person_5 ⟨(Nat.le_of_ble_eq_true rfl), (Nat.le_of_ble_eq_true rfl)⟩ (fun E ce q9 u9 H locs hpx hP hD hS hce hcv hcl => ?_) (fun u_ H locs hq5 hP hD hS => ?_)
  · skip
    obtain ⟨lm2_6, lg2_7, ld2_8⟩ := u9
    have hpx : (E = "java/lang/IndexOutOfBoundsException" ∨ E = "java/util/NoSuchElementException") := hpx
    have hP : va_P g.1 vwCl (List.flatten [bOut g oa fz, bDR g x ta o lo go tt lt mo fo ro fl9, bTown g o a pe wo tx ch jo tr dy sd f, bLaw g lo lc lz ll lm2_6 lg2_7 ld2_8 fc]) H := hP
    have hD : va_D A (List.flatten [bOut g oa fz, bDR g x ta o lo go tt lt mo fo ro fl9, bTown g o a pe wo tx ch jo tr dy sd f, bLaw g lo lc lz ll lm2_6 lg2_7 ld2_8 fc]) := hD
    rcases hpx with rfl | rfl
    · skip
      refine vx_catch hown [] ⟨0, 10, 13, 24⟩ [⟨0, 10, 17, 26⟩] (by rw [htab]; rfl) (fun z hz => absurd hz List.not_mem_nil) (by decide) (by decide) (hts _ k1165) ((hT.1.2.2.2.2.1 _ (List.mem_of_getElem? (i := 0) rfl)).use) hce hcv hcl ?_
      refine W.widen (k := 2) (n := 12) (Nat.le_of_ble_eq_true rfl) (Nat.le_of_ble_eq_true rfl) ?_
      refine lv_astore (lv' := [(4, .ref q9), (0, .ref x), (1, .int pp), (2, .int wh), (3, .ref oa)]) hx hb dL_person_13 hl (by decide) rfl (fun ls hl => ?_)
      refine lv_iconst (v := 1) hx hb dL_person_15 (by decide) ?_
      have hP : va_P g.1 vwCl (List.flatten [bOut g oa fz, bDR g x ta o lo go tt lt mo fo ro fl9, bTown g o a pe wo tx ch jo tr dy sd f, bLaw g lo lc lz ll lm2_6 lg2_7 ld2_8 fc]) H := hP
      have hD : va_D A (List.flatten [bOut g oa fz, bDR g x ta o lo go tt lt mo fo ro fl9, bTown g o a pe wo tx ch jo tr dy sd f, bLaw g lo lc lz ll lm2_6 lg2_7 ld2_8 fc]) := hD
      obtain ⟨hP, hD⟩ := zord (g := g) (Bs' := [bDR g x ta o lo go tt lt mo fo ro fl9, bTown g o a pe wo tx ch jo tr dy sd f, bLaw g lo lc lz ll lm2_6 lg2_7 ld2_8 fc, bOut g oa fz]) [1, 2, 3, 0] rfl rfl hP hD
      exact zret_i hx hb hr hlocks hS (Nat.le_of_ble_eq_true rfl) (Nat.le_of_ble_eq_true rfl) dL_person_16 (lm2_6, lg2_7, ld2_8, fz, (1 : Int32)) rfl trivial hP hD
    · skip
      refine vx_catch hown [⟨0, 10, 13, 24⟩] ⟨0, 10, 17, 26⟩ [] (by rw [htab]; rfl) (fun z hz => by
            rcases List.mem_cons.mp hz with rfl | hz; · exact Or.inr ⟨by decide, "java/lang/IndexOutOfBoundsException", hts _ k1165, hT.1.2.2.2.2.2.1 _ (List.mem_of_getElem? (i := 16) rfl)⟩
            cases hz) (by decide) (by decide) (hts _ k1166) ((hT.1.2.2.2.2.1 _ (List.mem_of_getElem? (i := 4) rfl)).use) hce hcv hcl ?_
      refine W.widen (k := 2) (n := 12) (Nat.le_of_ble_eq_true rfl) (Nat.le_of_ble_eq_true rfl) ?_
      refine lv_astore (lv' := [(4, .ref q9), (0, .ref x), (1, .int pp), (2, .int wh), (3, .ref oa)]) hx hb dL_person_17 hl (by decide) rfl (fun ls hl => ?_)
      refine lv_iconst (v := 2) hx hb dL_person_19 (by decide) ?_
      have hP : va_P g.1 vwCl (List.flatten [bOut g oa fz, bDR g x ta o lo go tt lt mo fo ro fl9, bTown g o a pe wo tx ch jo tr dy sd f, bLaw g lo lc lz ll lm2_6 lg2_7 ld2_8 fc]) H := hP
      have hD : va_D A (List.flatten [bOut g oa fz, bDR g x ta o lo go tt lt mo fo ro fl9, bTown g o a pe wo tx ch jo tr dy sd f, bLaw g lo lc lz ll lm2_6 lg2_7 ld2_8 fc]) := hD
      obtain ⟨hP, hD⟩ := zord (g := g) (Bs' := [bDR g x ta o lo go tt lt mo fo ro fl9, bTown g o a pe wo tx ch jo tr dy sd f, bLaw g lo lc lz ll lm2_6 lg2_7 ld2_8 fc, bOut g oa fz]) [1, 2, 3, 0] rfl rfl hP hD
      exact zret_i hx hb hr hlocks hS (Nat.le_of_ble_eq_true rfl) (Nat.le_of_ble_eq_true rfl) dL_person_20 (lm2_6, lg2_7, ld2_8, fz, (2 : Int32)) rfl trivial hP hD
  · skip
    obtain ⟨lm2_1, lg2_2, ld2_3, q_4⟩ := u_
    have hP : va_P g.1 vwCl (List.flatten [bOut g oa fz, bDR g x ta o lo go tt lt mo fo ro fl9, bTown g o a pe wo tx ch jo tr dy sd f, bLaw g lo lc lz ll lm2_1 lg2_2 ld2_3 fc]) H := hP
    have hD : va_D A (List.flatten [bOut g oa fz, bDR g x ta o lo go tt lt mo fo ro fl9, bTown g o a pe wo tx ch jo tr dy sd f, bLaw g lo lc lz ll lm2_1 lg2_2 ld2_3 fc]) := hD
    refine W.widen (k := 2) (n := 12) (Nat.le_of_ble_eq_true rfl) (Nat.le_of_ble_eq_true rfl) ?_
    refine W.eq (g2 := F0 m 8 ls [.int q_4, .int 0, .ref oa]) rfl ?_
    refine lv_i2l hx hb dL_person_8 rfl (zgl (fun y9 => ?_))
    refine va_last hx hb hK hP hD hS 0 2 rfl rfl (zin rfl) dL_person_9 (fun H locs hP hD hS => ?_)
    have hP : va_P g.1 vwCl (List.flatten [[(oa, .inl (g.2 2, 1, .inr (.inl (vp_updL fz 0 y9))))], bDR g x ta o lo go tt lt mo fo ro fl9, bTown g o a pe wo tx ch jo tr dy sd f, bLaw g lo lc lz ll lm2_1 lg2_2 ld2_3 fc]) H := hP
    have hD : va_D A (List.flatten [[(oa, .inl (g.2 2, 1, .inr (.inl (vp_updL fz 0 y9))))], bDR g x ta o lo go tt lt mo fo ro fl9, bTown g o a pe wo tx ch jo tr dy sd f, bLaw g lo lc lz ll lm2_1 lg2_2 ld2_3 fc]) := hD
    refine lv_goto (tgt := 21) hx hb dL_person_10 (by decide) ?_
    refine lv_iconst (v := 0) hx hb dL_person_21 (by decide) ?_
    have hP : va_P g.1 vwCl (List.flatten [bOut g oa (vp_updL fz 0 y9), bDR g x ta o lo go tt lt mo fo ro fl9, bTown g o a pe wo tx ch jo tr dy sd f, bLaw g lo lc lz ll lm2_1 lg2_2 ld2_3 fc]) H := hP
    have hD : va_D A (List.flatten [bOut g oa (vp_updL fz 0 y9), bDR g x ta o lo go tt lt mo fo ro fl9, bTown g o a pe wo tx ch jo tr dy sd f, bLaw g lo lc lz ll lm2_1 lg2_2 ld2_3 fc]) := hD
    obtain ⟨hP, hD⟩ := zord (g := g) (Bs' := [bDR g x ta o lo go tt lt mo fo ro fl9, bTown g o a pe wo tx ch jo tr dy sd f, bLaw g lo lc lz ll lm2_1 lg2_2 ld2_3 fc, bOut g oa (vp_updL fz 0 y9)]) [1, 2, 3, 0] rfl rfl hP hD
    exact zret_i hx hb hr hlocks hS (Nat.le_of_ble_eq_true rfl) (Nat.le_of_ble_eq_true rfl) dL_person_22 (lm2_1, lg2_2, ld2_3, vp_updL fz 0 y9, (0 : Int32)) rfl trivial hP hD
set_option maxRecDepth 100000 in
set_option maxHeartbeats 4000000 in
theorem l_trust (l : Launch) (hfl : l.stackTraces = false) (g : zG) (x : Nat) (ta : Nat) (o : Nat) (lo : Nat) (go : Nat) (tt : Nat) (lt : Nat) (mo : Nat) (fo : Nat) (ro : Nat) (fl9 : Int32) (a : Nat → Nat) (pe : Int32) (wo : Int32) (tx : Int32) (ch : Int32) (jo : Int32) (tr : Int32) (dy : Int32) (sd : Int32) (f : Nat → Nat → Int32) (oa : Nat) (fz : Nat → Int64) (pp : Int32) (oo : Int32) (b_pe : 0 ≤ pe.toInt ∧ pe.toInt ≤ 8) (b_wo : 0 ≤ wo.toInt ∧ wo.toInt ≤ 6) (rf : zZ4 f) : zX' g l yL_trust (Cond.codeWith yL_trust cL_trust 5 (some .int) [(0, 10, 13, 24), (0, 10, 17, 13)] :: zB) ({ frames := 9, cells := 3, slots := 18, locals := 147 } : Room) [.ref x, .int pp, .int oo, .ref oa] [bDR g x ta o lo go tt lt mo fo ro fl9, bTown g o a pe wo tx ch jo tr dy sd f, bOut g oa fz] (fun u : (Nat → Int64) × Int32 => (fun (fz2 : Nat → Int64) (q : Int32) => some (.int q)) (u.1) (u.2)) (fun u : (Nat → Int64) × Int32 => (fun (fz2 : Nat → Int64) (q : Int32) => True) (u.1) (u.2)) (fun u : (Nat → Int64) × Int32 => (fun (fz2 : Nat → Int64) (q : Int32) => [bDR g x ta o lo go tt lt mo fo ro fl9, bTown g o a pe wo tx ch jo tr dy sd f, bOut g oa fz2]) (u.1) (u.2)) zNo zN0 := by
  refine zX'.ofH (cc := cL_trust) (maxL := 5) (rt := (some .int)) (by decide) rfl (Nat.le_of_ble_eq_true rfl) ?_
  intro p e s m args below meth c A ls St hr hlocks htab hin hK hT hA hP hD hS hl
  obtain ⟨hx, hb, hml, hown, hts⟩ := id St
  have hl : lv_has ls 5 [(0, .ref x), (1, .int pp), (2, .int oo), (3, .ref oa)] := hl
  refine lv_aload_n hx hb dL_trust_0 rfl (lv_at hl 3 rfl) ?_
  refine lv_iconst (v := 0) hx hb dL_trust_1 (by decide) ?_
  refine lv_aload_n hx hb dL_trust_2 rfl (lv_at hl 0 rfl) ?_
  refine lv_iload_n hx hb dL_trust_3 rfl (lv_at hl 1 rfl) ?_
  refine lv_iload_n hx hb dL_trust_4 rfl (lv_at hl 2 rfl) ?_
  refine xcallV' (g := g) (q0 := 0) (ci := 9) (As := [.int pp, .int oo]) (rest := [.int 0, .ref oa]) St hK hT hA hP hD hS hl.1 [0, 1] [2] rfl rfl rfl (c_x_trust l hfl g x ta o lo go tt lt mo fo ro fl9 a pe wo tx ch jo tr dy sd f pp oo b_pe b_wo rf) (cwV 2 hts (zgL (zl4 k1171 k1172 k1173 k621) k634) rfl rfl rfl (by decide +kernel) ⟨Nat.le_of_ble_eq_true rfl, Nat.le_of_ble_eq_true rfl⟩) rfl rfl rfl rfl (Nat.le_of_ble_eq_true rfl) dL_trust_5 ⟨(Nat.le_of_ble_eq_true rfl), (Nat.le_of_ble_eq_true rfl)⟩ (fun E ce q9 u9 H locs hpx hP hD hS hce hcv hcl => ?_) (fun q_1 H locs hq2 hP hD hS => ?_)
  · skip
    have hpx : (E = "java/lang/IndexOutOfBoundsException" ∨ E = "java/lang/IllegalArgumentException") := hpx
    have hP : va_P g.1 vwCl (List.flatten [bOut g oa fz, bDR g x ta o lo go tt lt mo fo ro fl9, bTown g o a pe wo tx ch jo tr dy sd f]) H := hP
    have hD : va_D A (List.flatten [bOut g oa fz, bDR g x ta o lo go tt lt mo fo ro fl9, bTown g o a pe wo tx ch jo tr dy sd f]) := hD
    rcases hpx with rfl | rfl
    · skip
      refine vx_catch hown [] ⟨0, 10, 13, 24⟩ [⟨0, 10, 17, 13⟩] (by rw [htab]; rfl) (fun z hz => absurd hz List.not_mem_nil) (by decide) (by decide) (hts _ k1165) ((hT.1.2.2.2.2.1 _ (List.mem_of_getElem? (i := 0) rfl)).use) hce hcv hcl ?_
      refine W.widen (k := 3) (n := 18) (Nat.le_of_ble_eq_true rfl) (Nat.le_of_ble_eq_true rfl) ?_
      refine lv_astore (lv' := [(4, .ref q9), (0, .ref x), (1, .int pp), (2, .int oo), (3, .ref oa)]) hx hb dL_trust_13 hl (by decide) rfl (fun ls hl => ?_)
      refine lv_iconst (v := 1) hx hb dL_trust_15 (by decide) ?_
      have hP : va_P g.1 vwCl (List.flatten [bOut g oa fz, bDR g x ta o lo go tt lt mo fo ro fl9, bTown g o a pe wo tx ch jo tr dy sd f]) H := hP
      have hD : va_D A (List.flatten [bOut g oa fz, bDR g x ta o lo go tt lt mo fo ro fl9, bTown g o a pe wo tx ch jo tr dy sd f]) := hD
      obtain ⟨hP, hD⟩ := zord (g := g) (Bs' := [bDR g x ta o lo go tt lt mo fo ro fl9, bTown g o a pe wo tx ch jo tr dy sd f, bOut g oa fz]) [1, 2, 0] rfl rfl hP hD
      exact zret_i hx hb hr hlocks hS (Nat.le_of_ble_eq_true rfl) (Nat.le_of_ble_eq_true rfl) dL_trust_16 (fz, (1 : Int32)) rfl trivial hP hD
    · skip
      refine vx_catch hown [⟨0, 10, 13, 24⟩] ⟨0, 10, 17, 13⟩ [] (by rw [htab]; rfl) (fun z hz => by
            rcases List.mem_cons.mp hz with rfl | hz; · exact Or.inr ⟨by decide, "java/lang/IndexOutOfBoundsException", hts _ k1165, hT.1.2.2.2.2.2.1 _ (List.mem_of_getElem? (i := 4) rfl)⟩
            cases hz) (by decide) (by decide) (hts _ k1155) ((hT.1.2.2.2.2.1 _ (List.mem_of_getElem? (i := 1) rfl)).use) hce hcv hcl ?_
      refine W.widen (k := 3) (n := 18) (Nat.le_of_ble_eq_true rfl) (Nat.le_of_ble_eq_true rfl) ?_
      refine lv_astore (lv' := [(4, .ref q9), (0, .ref x), (1, .int pp), (2, .int oo), (3, .ref oa)]) hx hb dL_trust_17 hl (by decide) rfl (fun ls hl => ?_)
      refine lv_iconst (v := 2) hx hb dL_trust_19 (by decide) ?_
      have hP : va_P g.1 vwCl (List.flatten [bOut g oa fz, bDR g x ta o lo go tt lt mo fo ro fl9, bTown g o a pe wo tx ch jo tr dy sd f]) H := hP
      have hD : va_D A (List.flatten [bOut g oa fz, bDR g x ta o lo go tt lt mo fo ro fl9, bTown g o a pe wo tx ch jo tr dy sd f]) := hD
      obtain ⟨hP, hD⟩ := zord (g := g) (Bs' := [bDR g x ta o lo go tt lt mo fo ro fl9, bTown g o a pe wo tx ch jo tr dy sd f, bOut g oa fz]) [1, 2, 0] rfl rfl hP hD
      exact zret_i hx hb hr hlocks hS (Nat.le_of_ble_eq_true rfl) (Nat.le_of_ble_eq_true rfl) dL_trust_20 (fz, (2 : Int32)) rfl trivial hP hD
  · skip
    have hP : va_P g.1 vwCl (List.flatten [bOut g oa fz, bDR g x ta o lo go tt lt mo fo ro fl9, bTown g o a pe wo tx ch jo tr dy sd f]) H := hP
    have hD : va_D A (List.flatten [bOut g oa fz, bDR g x ta o lo go tt lt mo fo ro fl9, bTown g o a pe wo tx ch jo tr dy sd f]) := hD
    refine W.widen (k := 3) (n := 18) (Nat.le_of_ble_eq_true rfl) (Nat.le_of_ble_eq_true rfl) ?_
    refine W.eq (g2 := F0 m 8 ls [.int q_1, .int 0, .ref oa]) rfl ?_
    refine lv_i2l hx hb dL_trust_8 rfl (zgl (fun y3 => ?_))
    refine va_last hx hb hK hP hD hS 0 2 rfl rfl (zin rfl) dL_trust_9 (fun H locs hP hD hS => ?_)
    have hP : va_P g.1 vwCl (List.flatten [[(oa, .inl (g.2 2, 1, .inr (.inl (vp_updL fz 0 y3))))], bDR g x ta o lo go tt lt mo fo ro fl9, bTown g o a pe wo tx ch jo tr dy sd f]) H := hP
    have hD : va_D A (List.flatten [[(oa, .inl (g.2 2, 1, .inr (.inl (vp_updL fz 0 y3))))], bDR g x ta o lo go tt lt mo fo ro fl9, bTown g o a pe wo tx ch jo tr dy sd f]) := hD
    refine lv_goto (tgt := 21) hx hb dL_trust_10 (by decide) ?_
    refine lv_iconst (v := 0) hx hb dL_trust_21 (by decide) ?_
    have hP : va_P g.1 vwCl (List.flatten [bOut g oa (vp_updL fz 0 y3), bDR g x ta o lo go tt lt mo fo ro fl9, bTown g o a pe wo tx ch jo tr dy sd f]) H := hP
    have hD : va_D A (List.flatten [bOut g oa (vp_updL fz 0 y3), bDR g x ta o lo go tt lt mo fo ro fl9, bTown g o a pe wo tx ch jo tr dy sd f]) := hD
    obtain ⟨hP, hD⟩ := zord (g := g) (Bs' := [bDR g x ta o lo go tt lt mo fo ro fl9, bTown g o a pe wo tx ch jo tr dy sd f, bOut g oa (vp_updL fz 0 y3)]) [1, 2, 0] rfl rfl hP hD
    exact zret_i hx hb hr hlocks hS (Nat.le_of_ble_eq_true rfl) (Nat.le_of_ble_eq_true rfl) dL_trust_22 (vp_updL fz 0 y3, (0 : Int32)) rfl trivial hP hD
set_option maxRecDepth 100000 in
set_option maxHeartbeats 4000000 in
theorem l_work (l : Launch) (hfl : l.stackTraces = false) (g : zG) (x : Nat) (ta : Nat) (o : Nat) (lo : Nat) (go : Nat) (tt : Nat) (lt : Nat) (mo : Nat) (fo : Nat) (ro : Nat) (fl9 : Int32) (a : Nat → Nat) (pe : Int32) (wo : Int32) (tx : Int32) (ch : Int32) (jo : Int32) (tr : Int32) (dy : Int32) (sd : Int32) (f : Nat → Nat → Int32) (oa : Nat) (fz : Nat → Int64) (ww : Int32) (wh : Int32) (b_pe : 0 ≤ pe.toInt ∧ pe.toInt ≤ 8) (b_wo : 0 ≤ wo.toInt ∧ wo.toInt ≤ 6) (rf : zZ4 f) : zX' g l yL_work (Cond.codeWith yL_work cL_work 5 (some .int) [(0, 10, 13, 24), (0, 10, 17, 26)] :: zB) ({ frames := 8, cells := 2, slots := 12, locals := 125 } : Room) [.ref x, .int ww, .int wh, .ref oa] [bDR g x ta o lo go tt lt mo fo ro fl9, bTown g o a pe wo tx ch jo tr dy sd f, bOut g oa fz] (fun u : (Nat → Int64) × Int32 => (fun (fz2 : Nat → Int64) (q : Int32) => some (.int q)) (u.1) (u.2)) (fun u : (Nat → Int64) × Int32 => (fun (fz2 : Nat → Int64) (q : Int32) => True) (u.1) (u.2)) (fun u : (Nat → Int64) × Int32 => (fun (fz2 : Nat → Int64) (q : Int32) => [bDR g x ta o lo go tt lt mo fo ro fl9, bTown g o a pe wo tx ch jo tr dy sd f, bOut g oa fz2]) (u.1) (u.2)) zNo zN0 := by
  refine zX'.ofH (cc := cL_work) (maxL := 5) (rt := (some .int)) (by decide) rfl (Nat.le_of_ble_eq_true rfl) ?_
  intro p e s m args below meth c A ls St hr hlocks htab hin hK hT hA hP hD hS hl
  obtain ⟨hx, hb, hml, hown, hts⟩ := id St
  have hl : lv_has ls 5 [(0, .ref x), (1, .int ww), (2, .int wh), (3, .ref oa)] := hl
  refine lv_aload_n hx hb dL_work_0 rfl (lv_at hl 3 rfl) ?_
  refine lv_iconst (v := 0) hx hb dL_work_1 (by decide) ?_
  refine lv_aload_n hx hb dL_work_2 rfl (lv_at hl 0 rfl) ?_
  refine lv_iload_n hx hb dL_work_3 rfl (lv_at hl 1 rfl) ?_
  refine lv_iload_n hx hb dL_work_4 rfl (lv_at hl 2 rfl) ?_
  refine xcallV' (g := g) (q0 := 0) (ci := 9) (As := [.int ww, .int wh]) (rest := [.int 0, .ref oa]) St hK hT hA hP hD hS hl.1 [0, 1] [2] rfl rfl rfl (c_x_work l hfl g x ta o lo go tt lt mo fo ro fl9 a pe wo tx ch jo tr dy sd f ww wh b_pe b_wo rf) (cwV 2 hts (zgL (zl4 k1176 k1177 k1178 k621) k641) rfl rfl rfl (by decide +kernel) ⟨Nat.le_of_ble_eq_true rfl, Nat.le_of_ble_eq_true rfl⟩) rfl rfl rfl rfl (Nat.le_of_ble_eq_true rfl) dL_work_5 ⟨(Nat.le_of_ble_eq_true rfl), (Nat.le_of_ble_eq_true rfl)⟩ (fun E ce q9 u9 H locs hpx hP hD hS hce hcv hcl => ?_) (fun q_1 H locs hq2 hP hD hS => ?_)
  · skip
    have hpx : (E = "java/lang/IndexOutOfBoundsException" ∨ E = "java/util/NoSuchElementException") := hpx
    have hP : va_P g.1 vwCl (List.flatten [bOut g oa fz, bDR g x ta o lo go tt lt mo fo ro fl9, bTown g o a pe wo tx ch jo tr dy sd f]) H := hP
    have hD : va_D A (List.flatten [bOut g oa fz, bDR g x ta o lo go tt lt mo fo ro fl9, bTown g o a pe wo tx ch jo tr dy sd f]) := hD
    rcases hpx with rfl | rfl
    · skip
      refine vx_catch hown [] ⟨0, 10, 13, 24⟩ [⟨0, 10, 17, 26⟩] (by rw [htab]; rfl) (fun z hz => absurd hz List.not_mem_nil) (by decide) (by decide) (hts _ k1165) ((hT.1.2.2.2.2.1 _ (List.mem_of_getElem? (i := 0) rfl)).use) hce hcv hcl ?_
      refine W.widen (k := 2) (n := 12) (Nat.le_of_ble_eq_true rfl) (Nat.le_of_ble_eq_true rfl) ?_
      refine lv_astore (lv' := [(4, .ref q9), (0, .ref x), (1, .int ww), (2, .int wh), (3, .ref oa)]) hx hb dL_work_13 hl (by decide) rfl (fun ls hl => ?_)
      refine lv_iconst (v := 1) hx hb dL_work_15 (by decide) ?_
      have hP : va_P g.1 vwCl (List.flatten [bOut g oa fz, bDR g x ta o lo go tt lt mo fo ro fl9, bTown g o a pe wo tx ch jo tr dy sd f]) H := hP
      have hD : va_D A (List.flatten [bOut g oa fz, bDR g x ta o lo go tt lt mo fo ro fl9, bTown g o a pe wo tx ch jo tr dy sd f]) := hD
      obtain ⟨hP, hD⟩ := zord (g := g) (Bs' := [bDR g x ta o lo go tt lt mo fo ro fl9, bTown g o a pe wo tx ch jo tr dy sd f, bOut g oa fz]) [1, 2, 0] rfl rfl hP hD
      exact zret_i hx hb hr hlocks hS (Nat.le_of_ble_eq_true rfl) (Nat.le_of_ble_eq_true rfl) dL_work_16 (fz, (1 : Int32)) rfl trivial hP hD
    · skip
      refine vx_catch hown [⟨0, 10, 13, 24⟩] ⟨0, 10, 17, 26⟩ [] (by rw [htab]; rfl) (fun z hz => by
            rcases List.mem_cons.mp hz with rfl | hz; · exact Or.inr ⟨by decide, "java/lang/IndexOutOfBoundsException", hts _ k1165, hT.1.2.2.2.2.2.1 _ (List.mem_of_getElem? (i := 16) rfl)⟩
            cases hz) (by decide) (by decide) (hts _ k1166) ((hT.1.2.2.2.2.1 _ (List.mem_of_getElem? (i := 4) rfl)).use) hce hcv hcl ?_
      refine W.widen (k := 2) (n := 12) (Nat.le_of_ble_eq_true rfl) (Nat.le_of_ble_eq_true rfl) ?_
      refine lv_astore (lv' := [(4, .ref q9), (0, .ref x), (1, .int ww), (2, .int wh), (3, .ref oa)]) hx hb dL_work_17 hl (by decide) rfl (fun ls hl => ?_)
      refine lv_iconst (v := 2) hx hb dL_work_19 (by decide) ?_
      have hP : va_P g.1 vwCl (List.flatten [bOut g oa fz, bDR g x ta o lo go tt lt mo fo ro fl9, bTown g o a pe wo tx ch jo tr dy sd f]) H := hP
      have hD : va_D A (List.flatten [bOut g oa fz, bDR g x ta o lo go tt lt mo fo ro fl9, bTown g o a pe wo tx ch jo tr dy sd f]) := hD
      obtain ⟨hP, hD⟩ := zord (g := g) (Bs' := [bDR g x ta o lo go tt lt mo fo ro fl9, bTown g o a pe wo tx ch jo tr dy sd f, bOut g oa fz]) [1, 2, 0] rfl rfl hP hD
      exact zret_i hx hb hr hlocks hS (Nat.le_of_ble_eq_true rfl) (Nat.le_of_ble_eq_true rfl) dL_work_20 (fz, (2 : Int32)) rfl trivial hP hD
  · skip
    have hP : va_P g.1 vwCl (List.flatten [bOut g oa fz, bDR g x ta o lo go tt lt mo fo ro fl9, bTown g o a pe wo tx ch jo tr dy sd f]) H := hP
    have hD : va_D A (List.flatten [bOut g oa fz, bDR g x ta o lo go tt lt mo fo ro fl9, bTown g o a pe wo tx ch jo tr dy sd f]) := hD
    refine W.widen (k := 2) (n := 12) (Nat.le_of_ble_eq_true rfl) (Nat.le_of_ble_eq_true rfl) ?_
    refine W.eq (g2 := F0 m 8 ls [.int q_1, .int 0, .ref oa]) rfl ?_
    refine lv_i2l hx hb dL_work_8 rfl (zgl (fun y3 => ?_))
    refine va_last hx hb hK hP hD hS 0 2 rfl rfl (zin rfl) dL_work_9 (fun H locs hP hD hS => ?_)
    have hP : va_P g.1 vwCl (List.flatten [[(oa, .inl (g.2 2, 1, .inr (.inl (vp_updL fz 0 y3))))], bDR g x ta o lo go tt lt mo fo ro fl9, bTown g o a pe wo tx ch jo tr dy sd f]) H := hP
    have hD : va_D A (List.flatten [[(oa, .inl (g.2 2, 1, .inr (.inl (vp_updL fz 0 y3))))], bDR g x ta o lo go tt lt mo fo ro fl9, bTown g o a pe wo tx ch jo tr dy sd f]) := hD
    refine lv_goto (tgt := 21) hx hb dL_work_10 (by decide) ?_
    refine lv_iconst (v := 0) hx hb dL_work_21 (by decide) ?_
    have hP : va_P g.1 vwCl (List.flatten [bOut g oa (vp_updL fz 0 y3), bDR g x ta o lo go tt lt mo fo ro fl9, bTown g o a pe wo tx ch jo tr dy sd f]) H := hP
    have hD : va_D A (List.flatten [bOut g oa (vp_updL fz 0 y3), bDR g x ta o lo go tt lt mo fo ro fl9, bTown g o a pe wo tx ch jo tr dy sd f]) := hD
    obtain ⟨hP, hD⟩ := zord (g := g) (Bs' := [bDR g x ta o lo go tt lt mo fo ro fl9, bTown g o a pe wo tx ch jo tr dy sd f, bOut g oa (vp_updL fz 0 y3)]) [1, 2, 0] rfl rfl hP hD
    exact zret_i hx hb hr hlocks hS (Nat.le_of_ble_eq_true rfl) (Nat.le_of_ble_eq_true rfl) dL_work_22 (vp_updL fz 0 y3, (0 : Int32)) rfl trivial hP hD
set_option maxRecDepth 100000 in
set_option maxHeartbeats 4000000 in
theorem l_tell (l : Launch) (hfl : l.stackTraces = false) (g : zG) (x : Nat) (ta : Nat) (o : Nat) (lo : Nat) (go : Nat) (tt : Nat) (lt : Nat) (mo : Nat) (fo : Nat) (ro : Nat) (fl9 : Int32) (a : Nat → Nat) (pe : Int32) (wo : Int32) (tx : Int32) (ch : Int32) (jo : Int32) (tr : Int32) (dy : Int32) (sd : Int32) (f : Nat → Nat → Int32) (gr : Nat) (gz : Int32) (gn : Int32) (fr : Nat → Int32) (qT : Nat) (qL : Nat) (it : Nat) (il : Nat) (ig : Nat) (mh : Int32) (me : Int32) (mx : Int32) (fT : Nat → Option Nat) (fL : Nat → Option Nat) (PT : Nat → zTR) (PL : Nat → zLR) (oa : Nat) (fz : Nat → Int64) (pp : Int32) (b_pe : 0 ≤ pe.toInt ∧ pe.toInt ≤ 8) (b_wo : 0 ≤ wo.toInt ∧ wo.toInt ≤ 6) (rf : zZ4 f) (b_gz : 0 ≤ gz.toInt ∧ gz.toInt ≤ 60) (b_gn : 0 ≤ gn.toInt ∧ gn.toInt ≤ 59) (b_me : 0 ≤ me.toInt ∧ me.toInt ≤ 12) (b_mx : 0 ≤ mx.toInt ∧ mx.toInt ≤ 11) (hPT : zPT fT PT) (hPL : zPL fL PL) : zX' g l yL_tell (Cond.codeWith yL_tell cL_tell 4 (some .int) [(0, 9, 12, 24), (0, 9, 15, 38)] :: zB) ({ frames := 9, cells := 2, slots := 12, locals := 145 } : Room) [.ref x, .int pp, .ref oa] [bDR g x ta o lo go tt lt mo fo ro fl9, bTown g o a pe wo tx ch jo tr dy sd f, bLog g go gr gz gn fr, bMem g mo qT qL it il ig mh me mx fT fL, bPT g PT, bPL g PL, bOut g oa fz] (fun u : (Nat → Nat → Int32) × Int32 × Int32 × (Nat → zTR) × (Nat → zLR) × (Nat → Int64) × Int32 => (fun (f2 : Nat → Nat → Int32) (me2 : Int32) (mx2 : Int32) (PT2 : Nat → zTR) (PL2 : Nat → zLR) (fz2 : Nat → Int64) (q : Int32) => some (.int q)) (u.1) (u.2.1) (u.2.2.1) (u.2.2.2.1) (u.2.2.2.2.1) (u.2.2.2.2.2.1) (u.2.2.2.2.2.2)) (fun u : (Nat → Nat → Int32) × Int32 × Int32 × (Nat → zTR) × (Nat → zLR) × (Nat → Int64) × Int32 => (fun (f2 : Nat → Nat → Int32) (me2 : Int32) (mx2 : Int32) (PT2 : Nat → zTR) (PL2 : Nat → zLR) (fz2 : Nat → Int64) (q : Int32) => (zZ4 f2) ∧ (0 ≤ me2.toInt ∧ me2.toInt ≤ 12) ∧ (0 ≤ mx2.toInt ∧ mx2.toInt ≤ 11) ∧ (zPT fT PT2) ∧ (zPL fL PL2) ∧ (zRk PT PT2 me.toInt me2.toInt mx.toInt mx2.toInt pe.toInt wo.toInt tx.toInt)) (u.1) (u.2.1) (u.2.2.1) (u.2.2.2.1) (u.2.2.2.2.1) (u.2.2.2.2.2.1) (u.2.2.2.2.2.2)) (fun u : (Nat → Nat → Int32) × Int32 × Int32 × (Nat → zTR) × (Nat → zLR) × (Nat → Int64) × Int32 => (fun (f2 : Nat → Nat → Int32) (me2 : Int32) (mx2 : Int32) (PT2 : Nat → zTR) (PL2 : Nat → zLR) (fz2 : Nat → Int64) (q : Int32) => [bDR g x ta o lo go tt lt mo fo ro fl9, bTown g o a pe wo tx ch jo tr dy sd f2, bLog g go gr gz gn fr, bMem g mo qT qL it il ig mh me2 mx2 fT fL, bPT g PT2, bPL g PL2, bOut g oa fz2]) (u.1) (u.2.1) (u.2.2.1) (u.2.2.2.1) (u.2.2.2.2.1) (u.2.2.2.2.2.1) (u.2.2.2.2.2.2)) zNo zN0 := by
  refine zX'.ofH (cc := cL_tell) (maxL := 4) (rt := (some .int)) (by decide) rfl (Nat.le_of_ble_eq_true rfl) ?_
  intro p e s m args below meth c A ls St hr hlocks htab hin hK hT hA hP hD hS hl
  obtain ⟨hx, hb, hml, hown, hts⟩ := id St
  have hl : lv_has ls 4 [(0, .ref x), (1, .int pp), (2, .ref oa)] := hl
  refine lv_aload_n hx hb dL_tell_0 rfl (lv_at hl 2 rfl) ?_
  refine lv_iconst (v := 0) hx hb dL_tell_1 (by decide) ?_
  refine lv_aload_n hx hb dL_tell_2 rfl (lv_at hl 0 rfl) ?_
  refine lv_iload_n hx hb dL_tell_3 rfl (lv_at hl 1 rfl) ?_
  refine xcallV' (g := g) (q0 := 0) (ci := 9) (As := [.int pp]) (rest := [.int 0, .ref oa]) St hK hT hA hP hD hS hl.1 [0, 1, 2, 3, 4, 5] [6] rfl rfl rfl (c_x_tell l hfl g x ta o lo go tt lt mo fo ro fl9 a pe wo tx ch jo tr dy sd f gr gz gn fr qT qL it il ig mh me mx fT fL PT PL pp b_pe b_wo rf b_gz b_gn b_me b_mx hPT hPL) (cwV 1 hts (zgL (zl4 k1180 k1181 k1182 k621) k666) rfl rfl rfl (by decide +kernel) ⟨Nat.le_of_ble_eq_true rfl, Nat.le_of_ble_eq_true rfl⟩) rfl rfl rfl rfl (Nat.le_of_ble_eq_true rfl) dL_tell_4 ⟨(Nat.le_of_ble_eq_true rfl), (Nat.le_of_ble_eq_true rfl)⟩ (fun E ce q9 u9 H locs hpx hP hD hS hce hcv hcl => ?_) (fun u_ H locs hq7 hP hD hS => ?_)
  · skip
    obtain ⟨f2_8, me2_9, mx2_10, PT2_11, PL2_12⟩ := u9
    have hpx : (E = "java/lang/IndexOutOfBoundsException" ∨ E = "java/lang/IllegalStateException") ∧ (zZ4 f2_8) ∧ (0 ≤ me2_9.toInt ∧ me2_9.toInt ≤ 12) ∧ (0 ≤ mx2_10.toInt ∧ mx2_10.toInt ≤ 11) ∧ (zPT fT PT2_11) ∧ (zPL fL PL2_12) ∧ (zRk PT PT2_11 me.toInt me2_9.toInt mx.toInt mx2_10.toInt pe.toInt wo.toInt tx.toInt) := hpx
    have hP : va_P g.1 vwCl (List.flatten [bOut g oa fz, bDR g x ta o lo go tt lt mo fo ro fl9, bTown g o a pe wo tx ch jo tr dy sd f2_8, bLog g go gr gz gn fr, bMem g mo qT qL it il ig mh me2_9 mx2_10 fT fL, bPT g PT2_11, bPL g PL2_12]) H := hP
    have hD : va_D A (List.flatten [bOut g oa fz, bDR g x ta o lo go tt lt mo fo ro fl9, bTown g o a pe wo tx ch jo tr dy sd f2_8, bLog g go gr gz gn fr, bMem g mo qT qL it il ig mh me2_9 mx2_10 fT fL, bPT g PT2_11, bPL g PL2_12]) := hD
    obtain ⟨hE9, rf2_8, hy13, hy14, hy15, hy16, hy17⟩ := hpx
    rcases hE9 with rfl | rfl
    · skip
      refine vx_catch hown [] ⟨0, 9, 12, 24⟩ [⟨0, 9, 15, 38⟩] (by rw [htab]; rfl) (fun z hz => absurd hz List.not_mem_nil) (by decide) (by decide) (hts _ k1165) ((hT.1.2.2.2.2.1 _ (List.mem_of_getElem? (i := 0) rfl)).use) hce hcv hcl ?_
      refine W.widen (k := 2) (n := 12) (Nat.le_of_ble_eq_true rfl) (Nat.le_of_ble_eq_true rfl) ?_
      refine lv_astore_n (lv' := [(3, .ref q9), (0, .ref x), (1, .int pp), (2, .ref oa)]) hx hb dL_tell_12 rfl hl (by decide) rfl (fun ls hl => ?_)
      refine lv_iconst (v := 1) hx hb dL_tell_13 (by decide) ?_
      have hP : va_P g.1 vwCl (List.flatten [bOut g oa fz, bDR g x ta o lo go tt lt mo fo ro fl9, bTown g o a pe wo tx ch jo tr dy sd f2_8, bLog g go gr gz gn fr, bMem g mo qT qL it il ig mh me2_9 mx2_10 fT fL, bPT g PT2_11, bPL g PL2_12]) H := hP
      have hD : va_D A (List.flatten [bOut g oa fz, bDR g x ta o lo go tt lt mo fo ro fl9, bTown g o a pe wo tx ch jo tr dy sd f2_8, bLog g go gr gz gn fr, bMem g mo qT qL it il ig mh me2_9 mx2_10 fT fL, bPT g PT2_11, bPL g PL2_12]) := hD
      obtain ⟨hP, hD⟩ := zord (g := g) (Bs' := [bDR g x ta o lo go tt lt mo fo ro fl9, bTown g o a pe wo tx ch jo tr dy sd f2_8, bLog g go gr gz gn fr, bMem g mo qT qL it il ig mh me2_9 mx2_10 fT fL, bPT g PT2_11, bPL g PL2_12, bOut g oa fz]) [1, 2, 3, 4, 5, 6, 0] rfl rfl hP hD
      exact zret_i hx hb hr hlocks hS (Nat.le_of_ble_eq_true rfl) (Nat.le_of_ble_eq_true rfl) dL_tell_14 (f2_8, me2_9, mx2_10, PT2_11, PL2_12, fz, (1 : Int32)) rfl (show (zZ4 f2_8) ∧ (0 ≤ me2_9.toInt ∧ me2_9.toInt ≤ 12) ∧ (0 ≤ mx2_10.toInt ∧ mx2_10.toInt ≤ 11) ∧ (zPT fT PT2_11) ∧ (zPL fL PL2_12) ∧ (zRk PT PT2_11 me.toInt me2_9.toInt mx.toInt mx2_10.toInt pe.toInt wo.toInt tx.toInt) from ⟨rf2_8, hy13, hy14, hy15, hy16, hy17⟩) hP hD
    · skip
      refine vx_catch hown [⟨0, 9, 12, 24⟩] ⟨0, 9, 15, 38⟩ [] (by rw [htab]; rfl) (fun z hz => by
            rcases List.mem_cons.mp hz with rfl | hz; · exact Or.inr ⟨by decide, "java/lang/IndexOutOfBoundsException", hts _ k1165, hT.1.2.2.2.2.2.1 _ (List.mem_of_getElem? (i := 8) rfl)⟩
            cases hz) (by decide) (by decide) (hts _ k1179) ((hT.1.2.2.2.2.1 _ (List.mem_of_getElem? (i := 2) rfl)).use) hce hcv hcl ?_
      refine W.widen (k := 2) (n := 12) (Nat.le_of_ble_eq_true rfl) (Nat.le_of_ble_eq_true rfl) ?_
      refine lv_astore_n (lv' := [(3, .ref q9), (0, .ref x), (1, .int pp), (2, .ref oa)]) hx hb dL_tell_15 rfl hl (by decide) rfl (fun ls hl => ?_)
      refine lv_iconst (v := 2) hx hb dL_tell_16 (by decide) ?_
      have hP : va_P g.1 vwCl (List.flatten [bOut g oa fz, bDR g x ta o lo go tt lt mo fo ro fl9, bTown g o a pe wo tx ch jo tr dy sd f2_8, bLog g go gr gz gn fr, bMem g mo qT qL it il ig mh me2_9 mx2_10 fT fL, bPT g PT2_11, bPL g PL2_12]) H := hP
      have hD : va_D A (List.flatten [bOut g oa fz, bDR g x ta o lo go tt lt mo fo ro fl9, bTown g o a pe wo tx ch jo tr dy sd f2_8, bLog g go gr gz gn fr, bMem g mo qT qL it il ig mh me2_9 mx2_10 fT fL, bPT g PT2_11, bPL g PL2_12]) := hD
      obtain ⟨hP, hD⟩ := zord (g := g) (Bs' := [bDR g x ta o lo go tt lt mo fo ro fl9, bTown g o a pe wo tx ch jo tr dy sd f2_8, bLog g go gr gz gn fr, bMem g mo qT qL it il ig mh me2_9 mx2_10 fT fL, bPT g PT2_11, bPL g PL2_12, bOut g oa fz]) [1, 2, 3, 4, 5, 6, 0] rfl rfl hP hD
      exact zret_i hx hb hr hlocks hS (Nat.le_of_ble_eq_true rfl) (Nat.le_of_ble_eq_true rfl) dL_tell_17 (f2_8, me2_9, mx2_10, PT2_11, PL2_12, fz, (2 : Int32)) rfl (show (zZ4 f2_8) ∧ (0 ≤ me2_9.toInt ∧ me2_9.toInt ≤ 12) ∧ (0 ≤ mx2_10.toInt ∧ mx2_10.toInt ≤ 11) ∧ (zPT fT PT2_11) ∧ (zPL fL PL2_12) ∧ (zRk PT PT2_11 me.toInt me2_9.toInt mx.toInt mx2_10.toInt pe.toInt wo.toInt tx.toInt) from ⟨rf2_8, hy13, hy14, hy15, hy16, hy17⟩) hP hD
  · skip
    obtain ⟨f2_1, me2_2, mx2_3, PT2_4, PL2_5, q_6⟩ := u_
    replace hq7 : (zZ4 f2_1) ∧ (0 ≤ me2_2.toInt ∧ me2_2.toInt ≤ 12) ∧ (0 ≤ mx2_3.toInt ∧ mx2_3.toInt ≤ 11) ∧ (zPT fT PT2_4) ∧ (zPL fL PL2_5) ∧ (zRk PT PT2_4 me.toInt me2_2.toInt mx.toInt mx2_3.toInt pe.toInt wo.toInt tx.toInt) := hq7
    have hP : va_P g.1 vwCl (List.flatten [bOut g oa fz, bDR g x ta o lo go tt lt mo fo ro fl9, bTown g o a pe wo tx ch jo tr dy sd f2_1, bLog g go gr gz gn fr, bMem g mo qT qL it il ig mh me2_2 mx2_3 fT fL, bPT g PT2_4, bPL g PL2_5]) H := hP
    have hD : va_D A (List.flatten [bOut g oa fz, bDR g x ta o lo go tt lt mo fo ro fl9, bTown g o a pe wo tx ch jo tr dy sd f2_1, bLog g go gr gz gn fr, bMem g mo qT qL it il ig mh me2_2 mx2_3 fT fL, bPT g PT2_4, bPL g PL2_5]) := hD
    refine W.widen (k := 2) (n := 12) (Nat.le_of_ble_eq_true rfl) (Nat.le_of_ble_eq_true rfl) ?_
    refine W.eq (g2 := F0 m 7 ls [.int q_6, .int 0, .ref oa]) rfl ?_
    obtain ⟨rf2_1, hq7_1, hq7_2, hq7_3, hq7_4, hq7_5⟩ := hq7
    refine lv_i2l hx hb dL_tell_7 rfl (zgl (fun y18 => ?_))
    refine va_last hx hb hK hP hD hS 0 2 rfl rfl (zin rfl) dL_tell_8 (fun H locs hP hD hS => ?_)
    have hP : va_P g.1 vwCl (List.flatten [[(oa, .inl (g.2 2, 1, .inr (.inl (vp_updL fz 0 y18))))], bDR g x ta o lo go tt lt mo fo ro fl9, bTown g o a pe wo tx ch jo tr dy sd f2_1, bLog g go gr gz gn fr, bMem g mo qT qL it il ig mh me2_2 mx2_3 fT fL, bPT g PT2_4, bPL g PL2_5]) H := hP
    have hD : va_D A (List.flatten [[(oa, .inl (g.2 2, 1, .inr (.inl (vp_updL fz 0 y18))))], bDR g x ta o lo go tt lt mo fo ro fl9, bTown g o a pe wo tx ch jo tr dy sd f2_1, bLog g go gr gz gn fr, bMem g mo qT qL it il ig mh me2_2 mx2_3 fT fL, bPT g PT2_4, bPL g PL2_5]) := hD
    refine lv_goto (tgt := 18) hx hb dL_tell_9 (by decide) ?_
    refine lv_iconst (v := 0) hx hb dL_tell_18 (by decide) ?_
    have hP : va_P g.1 vwCl (List.flatten [bOut g oa (vp_updL fz 0 y18), bDR g x ta o lo go tt lt mo fo ro fl9, bTown g o a pe wo tx ch jo tr dy sd f2_1, bLog g go gr gz gn fr, bMem g mo qT qL it il ig mh me2_2 mx2_3 fT fL, bPT g PT2_4, bPL g PL2_5]) H := hP
    have hD : va_D A (List.flatten [bOut g oa (vp_updL fz 0 y18), bDR g x ta o lo go tt lt mo fo ro fl9, bTown g o a pe wo tx ch jo tr dy sd f2_1, bLog g go gr gz gn fr, bMem g mo qT qL it il ig mh me2_2 mx2_3 fT fL, bPT g PT2_4, bPL g PL2_5]) := hD
    obtain ⟨hP, hD⟩ := zord (g := g) (Bs' := [bDR g x ta o lo go tt lt mo fo ro fl9, bTown g o a pe wo tx ch jo tr dy sd f2_1, bLog g go gr gz gn fr, bMem g mo qT qL it il ig mh me2_2 mx2_3 fT fL, bPT g PT2_4, bPL g PL2_5, bOut g oa (vp_updL fz 0 y18)]) [1, 2, 3, 4, 5, 6, 0] rfl rfl hP hD
    exact zret_i hx hb hr hlocks hS (Nat.le_of_ble_eq_true rfl) (Nat.le_of_ble_eq_true rfl) dL_tell_19 (f2_1, me2_2, mx2_3, PT2_4, PL2_5, vp_updL fz 0 y18, (0 : Int32)) rfl (show (zZ4 f2_1) ∧ (0 ≤ me2_2.toInt ∧ me2_2.toInt ≤ 12) ∧ (0 ≤ mx2_3.toInt ∧ mx2_3.toInt ≤ 11) ∧ (zPT fT PT2_4) ∧ (zPL fL PL2_5) ∧ (zRk PT PT2_4 me.toInt me2_2.toInt mx.toInt mx2_3.toInt pe.toInt wo.toInt tx.toInt) from ⟨rf2_1, hq7_1, hq7_2, hq7_3, hq7_4, hq7_5⟩) hP hD
set_option maxRecDepth 100000 in
set_option maxHeartbeats 4000000 in
theorem l_tie (l : Launch) (hfl : l.stackTraces = false) (g : zG) (x : Nat) (ta : Nat) (o : Nat) (lo : Nat) (go : Nat) (tt : Nat) (lt : Nat) (mo : Nat) (fo : Nat) (ro : Nat) (fl9 : Int32) (a : Nat → Nat) (pe : Int32) (wo : Int32) (tx : Int32) (ch : Int32) (jo : Int32) (tr : Int32) (dy : Int32) (sd : Int32) (f : Nat → Nat → Int32) (gr : Nat) (gz : Int32) (gn : Int32) (fr : Nat → Int32) (qT : Nat) (qL : Nat) (it : Nat) (il : Nat) (ig : Nat) (mh : Int32) (me : Int32) (mx : Int32) (fT : Nat → Option Nat) (fL : Nat → Option Nat) (PT : Nat → zTR) (PL : Nat → zLR) (oa : Nat) (fz : Nat → Int64) (pp : Int32) (oo : Int32) (n : Int32) (b_pe : 0 ≤ pe.toInt ∧ pe.toInt ≤ 8) (b_wo : 0 ≤ wo.toInt ∧ wo.toInt ≤ 6) (rf : zZ4 f) (b_gz : 0 ≤ gz.toInt ∧ gz.toInt ≤ 60) (b_gn : 0 ≤ gn.toInt ∧ gn.toInt ≤ 59) (b_me : 0 ≤ me.toInt ∧ me.toInt ≤ 12) (b_mx : 0 ≤ mx.toInt ∧ mx.toInt ≤ 11) (hPT : zPT fT PT) (hPL : zPL fL PL) : zX' g l yL_tie (Cond.codeWith yL_tie cL_tie 6 (some .int) [(0, 12, 15, 24), (0, 12, 19, 13)] :: zB) ({ frames := 9, cells := 4, slots := 24, locals := 149 } : Room) [.ref x, .int pp, .int oo, .int n, .ref oa] [bDR g x ta o lo go tt lt mo fo ro fl9, bTown g o a pe wo tx ch jo tr dy sd f, bLog g go gr gz gn fr, bMem g mo qT qL it il ig mh me mx fT fL, bPT g PT, bPL g PL, bOut g oa fz] (fun u : (Nat → Nat → Int32) × Int32 × Int32 × (Nat → zTR) × (Nat → zLR) × (Nat → Int64) × Int32 => (fun (f2 : Nat → Nat → Int32) (me2 : Int32) (mx2 : Int32) (PT2 : Nat → zTR) (PL2 : Nat → zLR) (fz2 : Nat → Int64) (q : Int32) => some (.int q)) (u.1) (u.2.1) (u.2.2.1) (u.2.2.2.1) (u.2.2.2.2.1) (u.2.2.2.2.2.1) (u.2.2.2.2.2.2)) (fun u : (Nat → Nat → Int32) × Int32 × Int32 × (Nat → zTR) × (Nat → zLR) × (Nat → Int64) × Int32 => (fun (f2 : Nat → Nat → Int32) (me2 : Int32) (mx2 : Int32) (PT2 : Nat → zTR) (PL2 : Nat → zLR) (fz2 : Nat → Int64) (q : Int32) => (zZ4 f2) ∧ (0 ≤ me2.toInt ∧ me2.toInt ≤ 12) ∧ (0 ≤ mx2.toInt ∧ mx2.toInt ≤ 11) ∧ (zPT fT PT2) ∧ (zPL fL PL2) ∧ (zRk PT PT2 me.toInt me2.toInt mx.toInt mx2.toInt pe.toInt wo.toInt tx.toInt)) (u.1) (u.2.1) (u.2.2.1) (u.2.2.2.1) (u.2.2.2.2.1) (u.2.2.2.2.2.1) (u.2.2.2.2.2.2)) (fun u : (Nat → Nat → Int32) × Int32 × Int32 × (Nat → zTR) × (Nat → zLR) × (Nat → Int64) × Int32 => (fun (f2 : Nat → Nat → Int32) (me2 : Int32) (mx2 : Int32) (PT2 : Nat → zTR) (PL2 : Nat → zLR) (fz2 : Nat → Int64) (q : Int32) => [bDR g x ta o lo go tt lt mo fo ro fl9, bTown g o a pe wo tx ch jo tr dy sd f2, bLog g go gr gz gn fr, bMem g mo qT qL it il ig mh me2 mx2 fT fL, bPT g PT2, bPL g PL2, bOut g oa fz2]) (u.1) (u.2.1) (u.2.2.1) (u.2.2.2.1) (u.2.2.2.2.1) (u.2.2.2.2.2.1) (u.2.2.2.2.2.2)) zNo zN0 := by
  refine zX'.ofH (cc := cL_tie) (maxL := 6) (rt := (some .int)) (by decide) rfl (Nat.le_of_ble_eq_true rfl) ?_
  intro p e s m args below meth c A ls St hr hlocks htab hin hK hT hA hP hD hS hl
  obtain ⟨hx, hb, hml, hown, hts⟩ := id St
  have hl : lv_has ls 6 [(0, .ref x), (1, .int pp), (2, .int oo), (3, .int n), (4, .ref oa)] := hl
  refine lv_aload hx hb dL_tie_0 (lv_at hl 4 rfl) ?_
  refine lv_iconst (v := 0) hx hb dL_tie_2 (by decide) ?_
  refine lv_aload_n hx hb dL_tie_3 rfl (lv_at hl 0 rfl) ?_
  refine lv_iload_n hx hb dL_tie_4 rfl (lv_at hl 1 rfl) ?_
  refine lv_iload_n hx hb dL_tie_5 rfl (lv_at hl 2 rfl) ?_
  refine lv_iload_n hx hb dL_tie_6 rfl (lv_at hl 3 rfl) ?_
  refine xcallV' (g := g) (q0 := 0) (ci := 9) (As := [.int pp, .int oo, .int n]) (rest := [.int 0, .ref oa]) St hK hT hA hP hD hS hl.1 [0, 1, 2, 3, 4, 5] [6] rfl rfl rfl (c_x_tie l hfl g x ta o lo go tt lt mo fo ro fl9 a pe wo tx ch jo tr dy sd f gr gz gn fr qT qL it il ig mh me mx fT fL PT PL pp oo n b_pe b_wo rf b_gz b_gn b_me b_mx hPT hPL) (cwV 3 hts (zgL (zl4 k1184 k1185 k1186 k621) k672) rfl rfl rfl (by decide +kernel) ⟨Nat.le_of_ble_eq_true rfl, Nat.le_of_ble_eq_true rfl⟩) rfl rfl rfl rfl (Nat.le_of_ble_eq_true rfl) dL_tie_7 ⟨(Nat.le_of_ble_eq_true rfl), (Nat.le_of_ble_eq_true rfl)⟩ (fun E ce q9 u9 H locs hpx hP hD hS hce hcv hcl => ?_) (fun u_ H locs hq7 hP hD hS => ?_)
  · skip
    obtain ⟨f2_8, me2_9, mx2_10, PT2_11, PL2_12⟩ := u9
    have hpx : (E = "java/lang/IndexOutOfBoundsException" ∨ E = "java/lang/IllegalArgumentException") ∧ (zZ4 f2_8) ∧ (0 ≤ me2_9.toInt ∧ me2_9.toInt ≤ 12) ∧ (0 ≤ mx2_10.toInt ∧ mx2_10.toInt ≤ 11) ∧ (zPT fT PT2_11) ∧ (zPL fL PL2_12) ∧ (zRk PT PT2_11 me.toInt me2_9.toInt mx.toInt mx2_10.toInt pe.toInt wo.toInt tx.toInt) := hpx
    have hP : va_P g.1 vwCl (List.flatten [bOut g oa fz, bDR g x ta o lo go tt lt mo fo ro fl9, bTown g o a pe wo tx ch jo tr dy sd f2_8, bLog g go gr gz gn fr, bMem g mo qT qL it il ig mh me2_9 mx2_10 fT fL, bPT g PT2_11, bPL g PL2_12]) H := hP
    have hD : va_D A (List.flatten [bOut g oa fz, bDR g x ta o lo go tt lt mo fo ro fl9, bTown g o a pe wo tx ch jo tr dy sd f2_8, bLog g go gr gz gn fr, bMem g mo qT qL it il ig mh me2_9 mx2_10 fT fL, bPT g PT2_11, bPL g PL2_12]) := hD
    obtain ⟨hE9, rf2_8, hy13, hy14, hy15, hy16, hy17⟩ := hpx
    rcases hE9 with rfl | rfl
    · skip
      refine vx_catch hown [] ⟨0, 12, 15, 24⟩ [⟨0, 12, 19, 13⟩] (by rw [htab]; rfl) (fun z hz => absurd hz List.not_mem_nil) (by decide) (by decide) (hts _ k1165) ((hT.1.2.2.2.2.1 _ (List.mem_of_getElem? (i := 0) rfl)).use) hce hcv hcl ?_
      refine W.widen (k := 4) (n := 24) (Nat.le_of_ble_eq_true rfl) (Nat.le_of_ble_eq_true rfl) ?_
      refine lv_astore (lv' := [(5, .ref q9), (0, .ref x), (1, .int pp), (2, .int oo), (3, .int n), (4, .ref oa)]) hx hb dL_tie_15 hl (by decide) rfl (fun ls hl => ?_)
      refine lv_iconst (v := 1) hx hb dL_tie_17 (by decide) ?_
      have hP : va_P g.1 vwCl (List.flatten [bOut g oa fz, bDR g x ta o lo go tt lt mo fo ro fl9, bTown g o a pe wo tx ch jo tr dy sd f2_8, bLog g go gr gz gn fr, bMem g mo qT qL it il ig mh me2_9 mx2_10 fT fL, bPT g PT2_11, bPL g PL2_12]) H := hP
      have hD : va_D A (List.flatten [bOut g oa fz, bDR g x ta o lo go tt lt mo fo ro fl9, bTown g o a pe wo tx ch jo tr dy sd f2_8, bLog g go gr gz gn fr, bMem g mo qT qL it il ig mh me2_9 mx2_10 fT fL, bPT g PT2_11, bPL g PL2_12]) := hD
      obtain ⟨hP, hD⟩ := zord (g := g) (Bs' := [bDR g x ta o lo go tt lt mo fo ro fl9, bTown g o a pe wo tx ch jo tr dy sd f2_8, bLog g go gr gz gn fr, bMem g mo qT qL it il ig mh me2_9 mx2_10 fT fL, bPT g PT2_11, bPL g PL2_12, bOut g oa fz]) [1, 2, 3, 4, 5, 6, 0] rfl rfl hP hD
      exact zret_i hx hb hr hlocks hS (Nat.le_of_ble_eq_true rfl) (Nat.le_of_ble_eq_true rfl) dL_tie_18 (f2_8, me2_9, mx2_10, PT2_11, PL2_12, fz, (1 : Int32)) rfl (show (zZ4 f2_8) ∧ (0 ≤ me2_9.toInt ∧ me2_9.toInt ≤ 12) ∧ (0 ≤ mx2_10.toInt ∧ mx2_10.toInt ≤ 11) ∧ (zPT fT PT2_11) ∧ (zPL fL PL2_12) ∧ (zRk PT PT2_11 me.toInt me2_9.toInt mx.toInt mx2_10.toInt pe.toInt wo.toInt tx.toInt) from ⟨rf2_8, hy13, hy14, hy15, hy16, hy17⟩) hP hD
    · skip
      refine vx_catch hown [⟨0, 12, 15, 24⟩] ⟨0, 12, 19, 13⟩ [] (by rw [htab]; rfl) (fun z hz => by
            rcases List.mem_cons.mp hz with rfl | hz; · exact Or.inr ⟨by decide, "java/lang/IndexOutOfBoundsException", hts _ k1165, hT.1.2.2.2.2.2.1 _ (List.mem_of_getElem? (i := 4) rfl)⟩
            cases hz) (by decide) (by decide) (hts _ k1155) ((hT.1.2.2.2.2.1 _ (List.mem_of_getElem? (i := 1) rfl)).use) hce hcv hcl ?_
      refine W.widen (k := 4) (n := 24) (Nat.le_of_ble_eq_true rfl) (Nat.le_of_ble_eq_true rfl) ?_
      refine lv_astore (lv' := [(5, .ref q9), (0, .ref x), (1, .int pp), (2, .int oo), (3, .int n), (4, .ref oa)]) hx hb dL_tie_19 hl (by decide) rfl (fun ls hl => ?_)
      refine lv_iconst (v := 2) hx hb dL_tie_21 (by decide) ?_
      have hP : va_P g.1 vwCl (List.flatten [bOut g oa fz, bDR g x ta o lo go tt lt mo fo ro fl9, bTown g o a pe wo tx ch jo tr dy sd f2_8, bLog g go gr gz gn fr, bMem g mo qT qL it il ig mh me2_9 mx2_10 fT fL, bPT g PT2_11, bPL g PL2_12]) H := hP
      have hD : va_D A (List.flatten [bOut g oa fz, bDR g x ta o lo go tt lt mo fo ro fl9, bTown g o a pe wo tx ch jo tr dy sd f2_8, bLog g go gr gz gn fr, bMem g mo qT qL it il ig mh me2_9 mx2_10 fT fL, bPT g PT2_11, bPL g PL2_12]) := hD
      obtain ⟨hP, hD⟩ := zord (g := g) (Bs' := [bDR g x ta o lo go tt lt mo fo ro fl9, bTown g o a pe wo tx ch jo tr dy sd f2_8, bLog g go gr gz gn fr, bMem g mo qT qL it il ig mh me2_9 mx2_10 fT fL, bPT g PT2_11, bPL g PL2_12, bOut g oa fz]) [1, 2, 3, 4, 5, 6, 0] rfl rfl hP hD
      exact zret_i hx hb hr hlocks hS (Nat.le_of_ble_eq_true rfl) (Nat.le_of_ble_eq_true rfl) dL_tie_22 (f2_8, me2_9, mx2_10, PT2_11, PL2_12, fz, (2 : Int32)) rfl (show (zZ4 f2_8) ∧ (0 ≤ me2_9.toInt ∧ me2_9.toInt ≤ 12) ∧ (0 ≤ mx2_10.toInt ∧ mx2_10.toInt ≤ 11) ∧ (zPT fT PT2_11) ∧ (zPL fL PL2_12) ∧ (zRk PT PT2_11 me.toInt me2_9.toInt mx.toInt mx2_10.toInt pe.toInt wo.toInt tx.toInt) from ⟨rf2_8, hy13, hy14, hy15, hy16, hy17⟩) hP hD
  · skip
    obtain ⟨f2_1, me2_2, mx2_3, PT2_4, PL2_5, q_6⟩ := u_
    replace hq7 : (zZ4 f2_1) ∧ (0 ≤ me2_2.toInt ∧ me2_2.toInt ≤ 12) ∧ (0 ≤ mx2_3.toInt ∧ mx2_3.toInt ≤ 11) ∧ (zPT fT PT2_4) ∧ (zPL fL PL2_5) ∧ (zRk PT PT2_4 me.toInt me2_2.toInt mx.toInt mx2_3.toInt pe.toInt wo.toInt tx.toInt) := hq7
    have hP : va_P g.1 vwCl (List.flatten [bOut g oa fz, bDR g x ta o lo go tt lt mo fo ro fl9, bTown g o a pe wo tx ch jo tr dy sd f2_1, bLog g go gr gz gn fr, bMem g mo qT qL it il ig mh me2_2 mx2_3 fT fL, bPT g PT2_4, bPL g PL2_5]) H := hP
    have hD : va_D A (List.flatten [bOut g oa fz, bDR g x ta o lo go tt lt mo fo ro fl9, bTown g o a pe wo tx ch jo tr dy sd f2_1, bLog g go gr gz gn fr, bMem g mo qT qL it il ig mh me2_2 mx2_3 fT fL, bPT g PT2_4, bPL g PL2_5]) := hD
    refine W.widen (k := 4) (n := 24) (Nat.le_of_ble_eq_true rfl) (Nat.le_of_ble_eq_true rfl) ?_
    refine W.eq (g2 := F0 m 10 ls [.int q_6, .int 0, .ref oa]) rfl ?_
    obtain ⟨rf2_1, hq7_1, hq7_2, hq7_3, hq7_4, hq7_5⟩ := hq7
    refine lv_i2l hx hb dL_tie_10 rfl (zgl (fun y18 => ?_))
    refine va_last hx hb hK hP hD hS 0 2 rfl rfl (zin rfl) dL_tie_11 (fun H locs hP hD hS => ?_)
    have hP : va_P g.1 vwCl (List.flatten [[(oa, .inl (g.2 2, 1, .inr (.inl (vp_updL fz 0 y18))))], bDR g x ta o lo go tt lt mo fo ro fl9, bTown g o a pe wo tx ch jo tr dy sd f2_1, bLog g go gr gz gn fr, bMem g mo qT qL it il ig mh me2_2 mx2_3 fT fL, bPT g PT2_4, bPL g PL2_5]) H := hP
    have hD : va_D A (List.flatten [[(oa, .inl (g.2 2, 1, .inr (.inl (vp_updL fz 0 y18))))], bDR g x ta o lo go tt lt mo fo ro fl9, bTown g o a pe wo tx ch jo tr dy sd f2_1, bLog g go gr gz gn fr, bMem g mo qT qL it il ig mh me2_2 mx2_3 fT fL, bPT g PT2_4, bPL g PL2_5]) := hD
    refine lv_goto (tgt := 23) hx hb dL_tie_12 (by decide) ?_
    refine lv_iconst (v := 0) hx hb dL_tie_23 (by decide) ?_
    have hP : va_P g.1 vwCl (List.flatten [bOut g oa (vp_updL fz 0 y18), bDR g x ta o lo go tt lt mo fo ro fl9, bTown g o a pe wo tx ch jo tr dy sd f2_1, bLog g go gr gz gn fr, bMem g mo qT qL it il ig mh me2_2 mx2_3 fT fL, bPT g PT2_4, bPL g PL2_5]) H := hP
    have hD : va_D A (List.flatten [bOut g oa (vp_updL fz 0 y18), bDR g x ta o lo go tt lt mo fo ro fl9, bTown g o a pe wo tx ch jo tr dy sd f2_1, bLog g go gr gz gn fr, bMem g mo qT qL it il ig mh me2_2 mx2_3 fT fL, bPT g PT2_4, bPL g PL2_5]) := hD
    obtain ⟨hP, hD⟩ := zord (g := g) (Bs' := [bDR g x ta o lo go tt lt mo fo ro fl9, bTown g o a pe wo tx ch jo tr dy sd f2_1, bLog g go gr gz gn fr, bMem g mo qT qL it il ig mh me2_2 mx2_3 fT fL, bPT g PT2_4, bPL g PL2_5, bOut g oa (vp_updL fz 0 y18)]) [1, 2, 3, 4, 5, 6, 0] rfl rfl hP hD
    exact zret_i hx hb hr hlocks hS (Nat.le_of_ble_eq_true rfl) (Nat.le_of_ble_eq_true rfl) dL_tie_24 (f2_1, me2_2, mx2_3, PT2_4, PL2_5, vp_updL fz 0 y18, (0 : Int32)) rfl (show (zZ4 f2_1) ∧ (0 ≤ me2_2.toInt ∧ me2_2.toInt ≤ 12) ∧ (0 ≤ mx2_3.toInt ∧ mx2_3.toInt ≤ 11) ∧ (zPT fT PT2_4) ∧ (zPL fL PL2_5) ∧ (zRk PT PT2_4 me.toInt me2_2.toInt mx.toInt mx2_3.toInt pe.toInt wo.toInt tx.toInt) from ⟨rf2_1, hq7_1, hq7_2, hq7_3, hq7_4, hq7_5⟩) hP hD
set_option maxRecDepth 100000 in
set_option maxHeartbeats 4000000 in
theorem l_plan (l : Launch) (hfl : l.stackTraces = false) (g : zG) (x : Nat) (ta : Nat) (o : Nat) (lo : Nat) (go : Nat) (tt : Nat) (lt : Nat) (mo : Nat) (fo : Nat) (ro : Nat) (fl9 : Int32) (a : Nat → Nat) (pe : Int32) (wo : Int32) (tx : Int32) (ch : Int32) (jo : Int32) (tr : Int32) (dy : Int32) (sd : Int32) (f : Nat → Nat → Int32) (gr : Nat) (gz : Int32) (gn : Int32) (fr : Nat → Int32) (qT : Nat) (qL : Nat) (it : Nat) (il : Nat) (ig : Nat) (mh : Int32) (me : Int32) (mx : Int32) (fT : Nat → Option Nat) (fL : Nat → Option Nat) (PT : Nat → zTR) (PL : Nat → zLR) (ww : Int32) (b_pe : 0 ≤ pe.toInt ∧ pe.toInt ≤ 8) (b_wo : 0 ≤ wo.toInt ∧ wo.toInt ≤ 6) (rf : zZ4 f) (b_gz : 0 ≤ gz.toInt ∧ gz.toInt ≤ 60) (b_gn : 0 ≤ gn.toInt ∧ gn.toInt ≤ 59) (b_me : 0 ≤ me.toInt ∧ me.toInt ≤ 12) (b_mx : 0 ≤ mx.toInt ∧ mx.toInt ≤ 11) (hPT : zPT fT PT) (hPL : zPL fL PL) : zX' g l yL_plan (Cond.codeWith yL_plan cL_plan 3 (some .int) [(0, 5, 8, 24), (0, 5, 11, 38)] :: zB) ({ frames := 8, cells := 2, slots := 12, locals := 124 } : Room) [.ref x, .int ww] [bDR g x ta o lo go tt lt mo fo ro fl9, bTown g o a pe wo tx ch jo tr dy sd f, bLog g go gr gz gn fr, bMem g mo qT qL it il ig mh me mx fT fL, bPT g PT, bPL g PL] (fun u : (Nat → Nat → Int32) × Int32 × Int32 × (Nat → zTR) × (Nat → zLR) × Int32 => (fun (f2 : Nat → Nat → Int32) (me2 : Int32) (mx2 : Int32) (PT2 : Nat → zTR) (PL2 : Nat → zLR) (q : Int32) => some (.int q)) (u.1) (u.2.1) (u.2.2.1) (u.2.2.2.1) (u.2.2.2.2.1) (u.2.2.2.2.2)) (fun u : (Nat → Nat → Int32) × Int32 × Int32 × (Nat → zTR) × (Nat → zLR) × Int32 => (fun (f2 : Nat → Nat → Int32) (me2 : Int32) (mx2 : Int32) (PT2 : Nat → zTR) (PL2 : Nat → zLR) (q : Int32) => (zZ4 f2) ∧ (0 ≤ me2.toInt ∧ me2.toInt ≤ 12) ∧ (0 ≤ mx2.toInt ∧ mx2.toInt ≤ 11) ∧ (zPT fT PT2) ∧ (zPL fL PL2) ∧ (zRk PT PT2 me.toInt me2.toInt mx.toInt mx2.toInt pe.toInt wo.toInt tx.toInt)) (u.1) (u.2.1) (u.2.2.1) (u.2.2.2.1) (u.2.2.2.2.1) (u.2.2.2.2.2)) (fun u : (Nat → Nat → Int32) × Int32 × Int32 × (Nat → zTR) × (Nat → zLR) × Int32 => (fun (f2 : Nat → Nat → Int32) (me2 : Int32) (mx2 : Int32) (PT2 : Nat → zTR) (PL2 : Nat → zLR) (q : Int32) => [bDR g x ta o lo go tt lt mo fo ro fl9, bTown g o a pe wo tx ch jo tr dy sd f2, bLog g go gr gz gn fr, bMem g mo qT qL it il ig mh me2 mx2 fT fL, bPT g PT2, bPL g PL2]) (u.1) (u.2.1) (u.2.2.1) (u.2.2.2.1) (u.2.2.2.2.1) (u.2.2.2.2.2)) zNo zN0 := by
  refine zX'.ofH (cc := cL_plan) (maxL := 3) (rt := (some .int)) (by decide) rfl (Nat.le_of_ble_eq_true rfl) ?_
  intro p e s m args below meth c A ls St hr hlocks htab hin hK hT hA hP hD hS hl
  obtain ⟨hx, hb, hml, hown, hts⟩ := id St
  have hl : lv_has ls 3 [(0, .ref x), (1, .int ww)] := hl
  refine lv_aload_n hx hb dL_plan_0 rfl (lv_at hl 0 rfl) ?_
  refine lv_iload_n hx hb dL_plan_1 rfl (lv_at hl 1 rfl) ?_
  refine xcallV' (g := g) (q0 := 0) (ci := 9) (As := [.int ww]) (rest := []) St hK hT hA hP hD hS hl.1 [0, 1, 2, 3, 4, 5] [] rfl rfl rfl (c_x_plan l hfl g x ta o lo go tt lt mo fo ro fl9 a pe wo tx ch jo tr dy sd f gr gz gn fr qT qL it il ig mh me mx fT fL PT PL ww b_pe b_wo rf b_gz b_gn b_me b_mx hPT hPL) (cwV 1 hts (zgL (zl4 k1188 k1189 k1190 k621) k673) rfl rfl rfl (by decide +kernel) ⟨Nat.le_of_ble_eq_true rfl, Nat.le_of_ble_eq_true rfl⟩) rfl rfl rfl rfl (Nat.le_of_ble_eq_true rfl) dL_plan_2 ⟨(Nat.le_of_ble_eq_true rfl), (Nat.le_of_ble_eq_true rfl)⟩ (fun E ce q9 u9 H locs hpx hP hD hS hce hcv hcl => ?_) (fun u_ H locs hq6 hP hD hS => ?_)
  · skip
    obtain ⟨f2_7, me2_8, mx2_9, PT2_10, PL2_11⟩ := u9
    have hpx : (E = "java/lang/IndexOutOfBoundsException" ∨ E = "java/lang/IllegalStateException") ∧ (zZ4 f2_7) ∧ (0 ≤ me2_8.toInt ∧ me2_8.toInt ≤ 12) ∧ (0 ≤ mx2_9.toInt ∧ mx2_9.toInt ≤ 11) ∧ (zPT fT PT2_10) ∧ (zPL fL PL2_11) ∧ (zRk PT PT2_10 me.toInt me2_8.toInt mx.toInt mx2_9.toInt pe.toInt wo.toInt tx.toInt) := hpx
    have hP : va_P g.1 vwCl (List.flatten [bDR g x ta o lo go tt lt mo fo ro fl9, bTown g o a pe wo tx ch jo tr dy sd f2_7, bLog g go gr gz gn fr, bMem g mo qT qL it il ig mh me2_8 mx2_9 fT fL, bPT g PT2_10, bPL g PL2_11]) H := hP
    have hD : va_D A (List.flatten [bDR g x ta o lo go tt lt mo fo ro fl9, bTown g o a pe wo tx ch jo tr dy sd f2_7, bLog g go gr gz gn fr, bMem g mo qT qL it il ig mh me2_8 mx2_9 fT fL, bPT g PT2_10, bPL g PL2_11]) := hD
    obtain ⟨hE9, rf2_7, hy12, hy13, hy14, hy15, hy16⟩ := hpx
    rcases hE9 with rfl | rfl
    · skip
      refine vx_catch hown [] ⟨0, 5, 8, 24⟩ [⟨0, 5, 11, 38⟩] (by rw [htab]; rfl) (fun z hz => absurd hz List.not_mem_nil) (by decide) (by decide) (hts _ k1165) ((hT.1.2.2.2.2.1 _ (List.mem_of_getElem? (i := 0) rfl)).use) hce hcv hcl ?_
      refine W.widen (k := 2) (n := 12) (Nat.le_of_ble_eq_true rfl) (Nat.le_of_ble_eq_true rfl) ?_
      refine lv_astore_n (lv' := [(2, .ref q9), (0, .ref x), (1, .int ww)]) hx hb dL_plan_8 rfl hl (by decide) rfl (fun ls hl => ?_)
      refine lv_iconst (v := 1) hx hb dL_plan_9 (by decide) ?_
      have hP : va_P g.1 vwCl (List.flatten [bDR g x ta o lo go tt lt mo fo ro fl9, bTown g o a pe wo tx ch jo tr dy sd f2_7, bLog g go gr gz gn fr, bMem g mo qT qL it il ig mh me2_8 mx2_9 fT fL, bPT g PT2_10, bPL g PL2_11]) H := hP
      have hD : va_D A (List.flatten [bDR g x ta o lo go tt lt mo fo ro fl9, bTown g o a pe wo tx ch jo tr dy sd f2_7, bLog g go gr gz gn fr, bMem g mo qT qL it il ig mh me2_8 mx2_9 fT fL, bPT g PT2_10, bPL g PL2_11]) := hD
      exact zret_i hx hb hr hlocks hS (Nat.le_of_ble_eq_true rfl) (Nat.le_of_ble_eq_true rfl) dL_plan_10 (f2_7, me2_8, mx2_9, PT2_10, PL2_11, (1 : Int32)) rfl (show (zZ4 f2_7) ∧ (0 ≤ me2_8.toInt ∧ me2_8.toInt ≤ 12) ∧ (0 ≤ mx2_9.toInt ∧ mx2_9.toInt ≤ 11) ∧ (zPT fT PT2_10) ∧ (zPL fL PL2_11) ∧ (zRk PT PT2_10 me.toInt me2_8.toInt mx.toInt mx2_9.toInt pe.toInt wo.toInt tx.toInt) from ⟨rf2_7, hy12, hy13, hy14, hy15, hy16⟩) hP hD
    · skip
      refine vx_catch hown [⟨0, 5, 8, 24⟩] ⟨0, 5, 11, 38⟩ [] (by rw [htab]; rfl) (fun z hz => by
            rcases List.mem_cons.mp hz with rfl | hz; · exact Or.inr ⟨by decide, "java/lang/IndexOutOfBoundsException", hts _ k1165, hT.1.2.2.2.2.2.1 _ (List.mem_of_getElem? (i := 8) rfl)⟩
            cases hz) (by decide) (by decide) (hts _ k1179) ((hT.1.2.2.2.2.1 _ (List.mem_of_getElem? (i := 2) rfl)).use) hce hcv hcl ?_
      refine W.widen (k := 2) (n := 12) (Nat.le_of_ble_eq_true rfl) (Nat.le_of_ble_eq_true rfl) ?_
      refine lv_astore_n (lv' := [(2, .ref q9), (0, .ref x), (1, .int ww)]) hx hb dL_plan_11 rfl hl (by decide) rfl (fun ls hl => ?_)
      refine lv_iconst (v := 2) hx hb dL_plan_12 (by decide) ?_
      have hP : va_P g.1 vwCl (List.flatten [bDR g x ta o lo go tt lt mo fo ro fl9, bTown g o a pe wo tx ch jo tr dy sd f2_7, bLog g go gr gz gn fr, bMem g mo qT qL it il ig mh me2_8 mx2_9 fT fL, bPT g PT2_10, bPL g PL2_11]) H := hP
      have hD : va_D A (List.flatten [bDR g x ta o lo go tt lt mo fo ro fl9, bTown g o a pe wo tx ch jo tr dy sd f2_7, bLog g go gr gz gn fr, bMem g mo qT qL it il ig mh me2_8 mx2_9 fT fL, bPT g PT2_10, bPL g PL2_11]) := hD
      exact zret_i hx hb hr hlocks hS (Nat.le_of_ble_eq_true rfl) (Nat.le_of_ble_eq_true rfl) dL_plan_13 (f2_7, me2_8, mx2_9, PT2_10, PL2_11, (2 : Int32)) rfl (show (zZ4 f2_7) ∧ (0 ≤ me2_8.toInt ∧ me2_8.toInt ≤ 12) ∧ (0 ≤ mx2_9.toInt ∧ mx2_9.toInt ≤ 11) ∧ (zPT fT PT2_10) ∧ (zPL fL PL2_11) ∧ (zRk PT PT2_10 me.toInt me2_8.toInt mx.toInt mx2_9.toInt pe.toInt wo.toInt tx.toInt) from ⟨rf2_7, hy12, hy13, hy14, hy15, hy16⟩) hP hD
  · skip
    obtain ⟨f2_1, me2_2, mx2_3, PT2_4, PL2_5⟩ := u_
    replace hq6 : (zZ4 f2_1) ∧ (0 ≤ me2_2.toInt ∧ me2_2.toInt ≤ 12) ∧ (0 ≤ mx2_3.toInt ∧ mx2_3.toInt ≤ 11) ∧ (zPT fT PT2_4) ∧ (zPL fL PL2_5) ∧ (zRk PT PT2_4 me.toInt me2_2.toInt mx.toInt mx2_3.toInt pe.toInt wo.toInt tx.toInt) := hq6
    have hP : va_P g.1 vwCl (List.flatten [bDR g x ta o lo go tt lt mo fo ro fl9, bTown g o a pe wo tx ch jo tr dy sd f2_1, bLog g go gr gz gn fr, bMem g mo qT qL it il ig mh me2_2 mx2_3 fT fL, bPT g PT2_4, bPL g PL2_5]) H := hP
    have hD : va_D A (List.flatten [bDR g x ta o lo go tt lt mo fo ro fl9, bTown g o a pe wo tx ch jo tr dy sd f2_1, bLog g go gr gz gn fr, bMem g mo qT qL it il ig mh me2_2 mx2_3 fT fL, bPT g PT2_4, bPL g PL2_5]) := hD
    refine W.widen (k := 2) (n := 12) (Nat.le_of_ble_eq_true rfl) (Nat.le_of_ble_eq_true rfl) ?_
    refine W.eq (g2 := F0 m 5 ls []) rfl ?_
    obtain ⟨rf2_1, hq6_1, hq6_2, hq6_3, hq6_4, hq6_5⟩ := hq6
    refine lv_goto (tgt := 14) hx hb dL_plan_5 (by decide) ?_
    refine lv_iconst (v := 0) hx hb dL_plan_14 (by decide) ?_
    have hP : va_P g.1 vwCl (List.flatten [bDR g x ta o lo go tt lt mo fo ro fl9, bTown g o a pe wo tx ch jo tr dy sd f2_1, bLog g go gr gz gn fr, bMem g mo qT qL it il ig mh me2_2 mx2_3 fT fL, bPT g PT2_4, bPL g PL2_5]) H := hP
    have hD : va_D A (List.flatten [bDR g x ta o lo go tt lt mo fo ro fl9, bTown g o a pe wo tx ch jo tr dy sd f2_1, bLog g go gr gz gn fr, bMem g mo qT qL it il ig mh me2_2 mx2_3 fT fL, bPT g PT2_4, bPL g PL2_5]) := hD
    exact zret_i hx hb hr hlocks hS (Nat.le_of_ble_eq_true rfl) (Nat.le_of_ble_eq_true rfl) dL_plan_15 (f2_1, me2_2, mx2_3, PT2_4, PL2_5, (0 : Int32)) rfl (show (zZ4 f2_1) ∧ (0 ≤ me2_2.toInt ∧ me2_2.toInt ≤ 12) ∧ (0 ≤ mx2_3.toInt ∧ mx2_3.toInt ≤ 11) ∧ (zPT fT PT2_4) ∧ (zPL fL PL2_5) ∧ (zRk PT PT2_4 me.toInt me2_2.toInt mx.toInt mx2_3.toInt pe.toInt wo.toInt tx.toInt) from ⟨rf2_1, hq6_1, hq6_2, hq6_3, hq6_4, hq6_5⟩) hP hD
set_option maxRecDepth 100000 in
set_option maxHeartbeats 4000000 in
theorem l_send (l : Launch) (hfl : l.stackTraces = false) (g : zG) (x : Nat) (ta : Nat) (o : Nat) (lo : Nat) (go : Nat) (tt : Nat) (lt : Nat) (mo : Nat) (fo : Nat) (ro : Nat) (fl9 : Int32) (a : Nat → Nat) (pe : Int32) (wo : Int32) (tx : Int32) (ch : Int32) (jo : Int32) (tr : Int32) (dy : Int32) (sd : Int32) (f : Nat → Nat → Int32) (gr : Nat) (gz : Int32) (gn : Int32) (fr : Nat → Int32) (qT : Nat) (qL : Nat) (it : Nat) (il : Nat) (ig : Nat) (mh : Int32) (me : Int32) (mx : Int32) (fT : Nat → Option Nat) (fL : Nat → Option Nat) (PT : Nat → zTR) (PL : Nat → zLR) (oa : Nat) (fz : Nat → Int64) (pp : Int32) (b_pe : 0 ≤ pe.toInt ∧ pe.toInt ≤ 8) (b_wo : 0 ≤ wo.toInt ∧ wo.toInt ≤ 6) (rf : zZ4 f) (b_gz : 0 ≤ gz.toInt ∧ gz.toInt ≤ 60) (b_gn : 0 ≤ gn.toInt ∧ gn.toInt ≤ 59) (b_me : 0 ≤ me.toInt ∧ me.toInt ≤ 12) (b_mx : 0 ≤ mx.toInt ∧ mx.toInt ≤ 11) (hPT : zPT fT PT) (hPL : zPL fL PL) : zX' g l yL_send (Cond.codeWith yL_send cL_send 4 (some .int) [(0, 9, 12, 24), (0, 9, 15, 38)] :: zB) ({ frames := 9, cells := 2, slots := 12, locals := 145 } : Room) [.ref x, .int pp, .ref oa] [bDR g x ta o lo go tt lt mo fo ro fl9, bTown g o a pe wo tx ch jo tr dy sd f, bLog g go gr gz gn fr, bMem g mo qT qL it il ig mh me mx fT fL, bPT g PT, bPL g PL, bOut g oa fz] (fun u : (Nat → Nat → Int32) × Int32 × Int32 × (Nat → zTR) × (Nat → zLR) × (Nat → Int64) × Int32 => (fun (f2 : Nat → Nat → Int32) (me2 : Int32) (mx2 : Int32) (PT2 : Nat → zTR) (PL2 : Nat → zLR) (fz2 : Nat → Int64) (q : Int32) => some (.int q)) (u.1) (u.2.1) (u.2.2.1) (u.2.2.2.1) (u.2.2.2.2.1) (u.2.2.2.2.2.1) (u.2.2.2.2.2.2)) (fun u : (Nat → Nat → Int32) × Int32 × Int32 × (Nat → zTR) × (Nat → zLR) × (Nat → Int64) × Int32 => (fun (f2 : Nat → Nat → Int32) (me2 : Int32) (mx2 : Int32) (PT2 : Nat → zTR) (PL2 : Nat → zLR) (fz2 : Nat → Int64) (q : Int32) => (zZ4 f2) ∧ (0 ≤ me2.toInt ∧ me2.toInt ≤ 12) ∧ (0 ≤ mx2.toInt ∧ mx2.toInt ≤ 11) ∧ (zPT fT PT2) ∧ (zPL fL PL2) ∧ (zRk PT PT2 me.toInt me2.toInt mx.toInt mx2.toInt pe.toInt wo.toInt tx.toInt)) (u.1) (u.2.1) (u.2.2.1) (u.2.2.2.1) (u.2.2.2.2.1) (u.2.2.2.2.2.1) (u.2.2.2.2.2.2)) (fun u : (Nat → Nat → Int32) × Int32 × Int32 × (Nat → zTR) × (Nat → zLR) × (Nat → Int64) × Int32 => (fun (f2 : Nat → Nat → Int32) (me2 : Int32) (mx2 : Int32) (PT2 : Nat → zTR) (PL2 : Nat → zLR) (fz2 : Nat → Int64) (q : Int32) => [bDR g x ta o lo go tt lt mo fo ro fl9, bTown g o a pe wo tx ch jo tr dy sd f2, bLog g go gr gz gn fr, bMem g mo qT qL it il ig mh me2 mx2 fT fL, bPT g PT2, bPL g PL2, bOut g oa fz2]) (u.1) (u.2.1) (u.2.2.1) (u.2.2.2.1) (u.2.2.2.2.1) (u.2.2.2.2.2.1) (u.2.2.2.2.2.2)) zNo zN0 := by
  refine zX'.ofH (cc := cL_send) (maxL := 4) (rt := (some .int)) (by decide) rfl (Nat.le_of_ble_eq_true rfl) ?_
  intro p e s m args below meth c A ls St hr hlocks htab hin hK hT hA hP hD hS hl
  obtain ⟨hx, hb, hml, hown, hts⟩ := id St
  have hl : lv_has ls 4 [(0, .ref x), (1, .int pp), (2, .ref oa)] := hl
  refine lv_aload_n hx hb dL_send_0 rfl (lv_at hl 2 rfl) ?_
  refine lv_iconst (v := 0) hx hb dL_send_1 (by decide) ?_
  refine lv_aload_n hx hb dL_send_2 rfl (lv_at hl 0 rfl) ?_
  refine lv_iload_n hx hb dL_send_3 rfl (lv_at hl 1 rfl) ?_
  refine xcallV' (g := g) (q0 := 0) (ci := 9) (As := [.int pp]) (rest := [.int 0, .ref oa]) St hK hT hA hP hD hS hl.1 [0, 1, 2, 3, 4, 5] [6] rfl rfl rfl (c_x_send l hfl g x ta o lo go tt lt mo fo ro fl9 a pe wo tx ch jo tr dy sd f gr gz gn fr qT qL it il ig mh me mx fT fL PT PL pp b_pe b_wo rf b_gz b_gn b_me b_mx hPT hPL) (cwV 1 hts (zgL (zl4 k1192 k1193 k1194 k621) k676) rfl rfl rfl (by decide +kernel) ⟨Nat.le_of_ble_eq_true rfl, Nat.le_of_ble_eq_true rfl⟩) rfl rfl rfl rfl (Nat.le_of_ble_eq_true rfl) dL_send_4 ⟨(Nat.le_of_ble_eq_true rfl), (Nat.le_of_ble_eq_true rfl)⟩ (fun E ce q9 u9 H locs hpx hP hD hS hce hcv hcl => ?_) (fun u_ H locs hq7 hP hD hS => ?_)
  · skip
    obtain ⟨f2_8, me2_9, mx2_10, PT2_11, PL2_12⟩ := u9
    have hpx : (E = "java/lang/IndexOutOfBoundsException" ∨ E = "java/lang/IllegalStateException") ∧ (zZ4 f2_8) ∧ (0 ≤ me2_9.toInt ∧ me2_9.toInt ≤ 12) ∧ (0 ≤ mx2_10.toInt ∧ mx2_10.toInt ≤ 11) ∧ (zPT fT PT2_11) ∧ (zPL fL PL2_12) ∧ (zRk PT PT2_11 me.toInt me2_9.toInt mx.toInt mx2_10.toInt pe.toInt wo.toInt tx.toInt) := hpx
    have hP : va_P g.1 vwCl (List.flatten [bOut g oa fz, bDR g x ta o lo go tt lt mo fo ro fl9, bTown g o a pe wo tx ch jo tr dy sd f2_8, bLog g go gr gz gn fr, bMem g mo qT qL it il ig mh me2_9 mx2_10 fT fL, bPT g PT2_11, bPL g PL2_12]) H := hP
    have hD : va_D A (List.flatten [bOut g oa fz, bDR g x ta o lo go tt lt mo fo ro fl9, bTown g o a pe wo tx ch jo tr dy sd f2_8, bLog g go gr gz gn fr, bMem g mo qT qL it il ig mh me2_9 mx2_10 fT fL, bPT g PT2_11, bPL g PL2_12]) := hD
    obtain ⟨hE9, rf2_8, hy13, hy14, hy15, hy16, hy17⟩ := hpx
    rcases hE9 with rfl | rfl
    · skip
      refine vx_catch hown [] ⟨0, 9, 12, 24⟩ [⟨0, 9, 15, 38⟩] (by rw [htab]; rfl) (fun z hz => absurd hz List.not_mem_nil) (by decide) (by decide) (hts _ k1165) ((hT.1.2.2.2.2.1 _ (List.mem_of_getElem? (i := 0) rfl)).use) hce hcv hcl ?_
      refine W.widen (k := 2) (n := 12) (Nat.le_of_ble_eq_true rfl) (Nat.le_of_ble_eq_true rfl) ?_
      refine lv_astore_n (lv' := [(3, .ref q9), (0, .ref x), (1, .int pp), (2, .ref oa)]) hx hb dL_send_12 rfl hl (by decide) rfl (fun ls hl => ?_)
      refine lv_iconst (v := 1) hx hb dL_send_13 (by decide) ?_
      have hP : va_P g.1 vwCl (List.flatten [bOut g oa fz, bDR g x ta o lo go tt lt mo fo ro fl9, bTown g o a pe wo tx ch jo tr dy sd f2_8, bLog g go gr gz gn fr, bMem g mo qT qL it il ig mh me2_9 mx2_10 fT fL, bPT g PT2_11, bPL g PL2_12]) H := hP
      have hD : va_D A (List.flatten [bOut g oa fz, bDR g x ta o lo go tt lt mo fo ro fl9, bTown g o a pe wo tx ch jo tr dy sd f2_8, bLog g go gr gz gn fr, bMem g mo qT qL it il ig mh me2_9 mx2_10 fT fL, bPT g PT2_11, bPL g PL2_12]) := hD
      obtain ⟨hP, hD⟩ := zord (g := g) (Bs' := [bDR g x ta o lo go tt lt mo fo ro fl9, bTown g o a pe wo tx ch jo tr dy sd f2_8, bLog g go gr gz gn fr, bMem g mo qT qL it il ig mh me2_9 mx2_10 fT fL, bPT g PT2_11, bPL g PL2_12, bOut g oa fz]) [1, 2, 3, 4, 5, 6, 0] rfl rfl hP hD
      exact zret_i hx hb hr hlocks hS (Nat.le_of_ble_eq_true rfl) (Nat.le_of_ble_eq_true rfl) dL_send_14 (f2_8, me2_9, mx2_10, PT2_11, PL2_12, fz, (1 : Int32)) rfl (show (zZ4 f2_8) ∧ (0 ≤ me2_9.toInt ∧ me2_9.toInt ≤ 12) ∧ (0 ≤ mx2_10.toInt ∧ mx2_10.toInt ≤ 11) ∧ (zPT fT PT2_11) ∧ (zPL fL PL2_12) ∧ (zRk PT PT2_11 me.toInt me2_9.toInt mx.toInt mx2_10.toInt pe.toInt wo.toInt tx.toInt) from ⟨rf2_8, hy13, hy14, hy15, hy16, hy17⟩) hP hD
    · skip
      refine vx_catch hown [⟨0, 9, 12, 24⟩] ⟨0, 9, 15, 38⟩ [] (by rw [htab]; rfl) (fun z hz => by
            rcases List.mem_cons.mp hz with rfl | hz; · exact Or.inr ⟨by decide, "java/lang/IndexOutOfBoundsException", hts _ k1165, hT.1.2.2.2.2.2.1 _ (List.mem_of_getElem? (i := 8) rfl)⟩
            cases hz) (by decide) (by decide) (hts _ k1179) ((hT.1.2.2.2.2.1 _ (List.mem_of_getElem? (i := 2) rfl)).use) hce hcv hcl ?_
      refine W.widen (k := 2) (n := 12) (Nat.le_of_ble_eq_true rfl) (Nat.le_of_ble_eq_true rfl) ?_
      refine lv_astore_n (lv' := [(3, .ref q9), (0, .ref x), (1, .int pp), (2, .ref oa)]) hx hb dL_send_15 rfl hl (by decide) rfl (fun ls hl => ?_)
      refine lv_iconst (v := 2) hx hb dL_send_16 (by decide) ?_
      have hP : va_P g.1 vwCl (List.flatten [bOut g oa fz, bDR g x ta o lo go tt lt mo fo ro fl9, bTown g o a pe wo tx ch jo tr dy sd f2_8, bLog g go gr gz gn fr, bMem g mo qT qL it il ig mh me2_9 mx2_10 fT fL, bPT g PT2_11, bPL g PL2_12]) H := hP
      have hD : va_D A (List.flatten [bOut g oa fz, bDR g x ta o lo go tt lt mo fo ro fl9, bTown g o a pe wo tx ch jo tr dy sd f2_8, bLog g go gr gz gn fr, bMem g mo qT qL it il ig mh me2_9 mx2_10 fT fL, bPT g PT2_11, bPL g PL2_12]) := hD
      obtain ⟨hP, hD⟩ := zord (g := g) (Bs' := [bDR g x ta o lo go tt lt mo fo ro fl9, bTown g o a pe wo tx ch jo tr dy sd f2_8, bLog g go gr gz gn fr, bMem g mo qT qL it il ig mh me2_9 mx2_10 fT fL, bPT g PT2_11, bPL g PL2_12, bOut g oa fz]) [1, 2, 3, 4, 5, 6, 0] rfl rfl hP hD
      exact zret_i hx hb hr hlocks hS (Nat.le_of_ble_eq_true rfl) (Nat.le_of_ble_eq_true rfl) dL_send_17 (f2_8, me2_9, mx2_10, PT2_11, PL2_12, fz, (2 : Int32)) rfl (show (zZ4 f2_8) ∧ (0 ≤ me2_9.toInt ∧ me2_9.toInt ≤ 12) ∧ (0 ≤ mx2_10.toInt ∧ mx2_10.toInt ≤ 11) ∧ (zPT fT PT2_11) ∧ (zPL fL PL2_12) ∧ (zRk PT PT2_11 me.toInt me2_9.toInt mx.toInt mx2_10.toInt pe.toInt wo.toInt tx.toInt) from ⟨rf2_8, hy13, hy14, hy15, hy16, hy17⟩) hP hD
  · skip
    obtain ⟨f2_1, me2_2, mx2_3, PT2_4, PL2_5, q_6⟩ := u_
    replace hq7 : (zZ4 f2_1) ∧ (0 ≤ me2_2.toInt ∧ me2_2.toInt ≤ 12) ∧ (0 ≤ mx2_3.toInt ∧ mx2_3.toInt ≤ 11) ∧ (zPT fT PT2_4) ∧ (zPL fL PL2_5) ∧ (zRk PT PT2_4 me.toInt me2_2.toInt mx.toInt mx2_3.toInt pe.toInt wo.toInt tx.toInt) := hq7
    have hP : va_P g.1 vwCl (List.flatten [bOut g oa fz, bDR g x ta o lo go tt lt mo fo ro fl9, bTown g o a pe wo tx ch jo tr dy sd f2_1, bLog g go gr gz gn fr, bMem g mo qT qL it il ig mh me2_2 mx2_3 fT fL, bPT g PT2_4, bPL g PL2_5]) H := hP
    have hD : va_D A (List.flatten [bOut g oa fz, bDR g x ta o lo go tt lt mo fo ro fl9, bTown g o a pe wo tx ch jo tr dy sd f2_1, bLog g go gr gz gn fr, bMem g mo qT qL it il ig mh me2_2 mx2_3 fT fL, bPT g PT2_4, bPL g PL2_5]) := hD
    refine W.widen (k := 2) (n := 12) (Nat.le_of_ble_eq_true rfl) (Nat.le_of_ble_eq_true rfl) ?_
    refine W.eq (g2 := F0 m 7 ls [.int q_6, .int 0, .ref oa]) rfl ?_
    obtain ⟨rf2_1, hq7_1, hq7_2, hq7_3, hq7_4, hq7_5⟩ := hq7
    refine lv_i2l hx hb dL_send_7 rfl (zgl (fun y18 => ?_))
    refine va_last hx hb hK hP hD hS 0 2 rfl rfl (zin rfl) dL_send_8 (fun H locs hP hD hS => ?_)
    have hP : va_P g.1 vwCl (List.flatten [[(oa, .inl (g.2 2, 1, .inr (.inl (vp_updL fz 0 y18))))], bDR g x ta o lo go tt lt mo fo ro fl9, bTown g o a pe wo tx ch jo tr dy sd f2_1, bLog g go gr gz gn fr, bMem g mo qT qL it il ig mh me2_2 mx2_3 fT fL, bPT g PT2_4, bPL g PL2_5]) H := hP
    have hD : va_D A (List.flatten [[(oa, .inl (g.2 2, 1, .inr (.inl (vp_updL fz 0 y18))))], bDR g x ta o lo go tt lt mo fo ro fl9, bTown g o a pe wo tx ch jo tr dy sd f2_1, bLog g go gr gz gn fr, bMem g mo qT qL it il ig mh me2_2 mx2_3 fT fL, bPT g PT2_4, bPL g PL2_5]) := hD
    refine lv_goto (tgt := 18) hx hb dL_send_9 (by decide) ?_
    refine lv_iconst (v := 0) hx hb dL_send_18 (by decide) ?_
    have hP : va_P g.1 vwCl (List.flatten [bOut g oa (vp_updL fz 0 y18), bDR g x ta o lo go tt lt mo fo ro fl9, bTown g o a pe wo tx ch jo tr dy sd f2_1, bLog g go gr gz gn fr, bMem g mo qT qL it il ig mh me2_2 mx2_3 fT fL, bPT g PT2_4, bPL g PL2_5]) H := hP
    have hD : va_D A (List.flatten [bOut g oa (vp_updL fz 0 y18), bDR g x ta o lo go tt lt mo fo ro fl9, bTown g o a pe wo tx ch jo tr dy sd f2_1, bLog g go gr gz gn fr, bMem g mo qT qL it il ig mh me2_2 mx2_3 fT fL, bPT g PT2_4, bPL g PL2_5]) := hD
    obtain ⟨hP, hD⟩ := zord (g := g) (Bs' := [bDR g x ta o lo go tt lt mo fo ro fl9, bTown g o a pe wo tx ch jo tr dy sd f2_1, bLog g go gr gz gn fr, bMem g mo qT qL it il ig mh me2_2 mx2_3 fT fL, bPT g PT2_4, bPL g PL2_5, bOut g oa (vp_updL fz 0 y18)]) [1, 2, 3, 4, 5, 6, 0] rfl rfl hP hD
    exact zret_i hx hb hr hlocks hS (Nat.le_of_ble_eq_true rfl) (Nat.le_of_ble_eq_true rfl) dL_send_19 (f2_1, me2_2, mx2_3, PT2_4, PL2_5, vp_updL fz 0 y18, (0 : Int32)) rfl (show (zZ4 f2_1) ∧ (0 ≤ me2_2.toInt ∧ me2_2.toInt ≤ 12) ∧ (0 ≤ mx2_3.toInt ∧ mx2_3.toInt ≤ 11) ∧ (zPT fT PT2_4) ∧ (zPL fL PL2_5) ∧ (zRk PT PT2_4 me.toInt me2_2.toInt mx.toInt mx2_3.toInt pe.toInt wo.toInt tx.toInt) from ⟨rf2_1, hq7_1, hq7_2, hq7_3, hq7_4, hq7_5⟩) hP hD
set_option maxRecDepth 100000 in
set_option maxHeartbeats 4000000 in
theorem l_buy (l : Launch) (hfl : l.stackTraces = false) (g : zG) (x : Nat) (ta : Nat) (o : Nat) (lo : Nat) (go : Nat) (tt : Nat) (lt : Nat) (mo : Nat) (fo : Nat) (ro : Nat) (fl9 : Int32) (a : Nat → Nat) (pe : Int32) (wo : Int32) (tx : Int32) (ch : Int32) (jo : Int32) (tr : Int32) (dy : Int32) (sd : Int32) (f : Nat → Nat → Int32) (gr : Nat) (gz : Int32) (gn : Int32) (fr : Nat → Int32) (qT : Nat) (qL : Nat) (it : Nat) (il : Nat) (ig : Nat) (mh : Int32) (me : Int32) (mx : Int32) (fT : Nat → Option Nat) (fL : Nat → Option Nat) (PT : Nat → zTR) (PL : Nat → zLR) (oa : Nat) (fz : Nat → Int64) (pp : Int32) (n : Int32) (b_pe : 0 ≤ pe.toInt ∧ pe.toInt ≤ 8) (b_wo : 0 ≤ wo.toInt ∧ wo.toInt ≤ 6) (rf : zZ4 f) (b_gz : 0 ≤ gz.toInt ∧ gz.toInt ≤ 60) (b_gn : 0 ≤ gn.toInt ∧ gn.toInt ≤ 59) (b_me : 0 ≤ me.toInt ∧ me.toInt ≤ 12) (b_mx : 0 ≤ mx.toInt ∧ mx.toInt ≤ 11) (hPT : zPT fT PT) (hPL : zPL fL PL) : zX' g l yL_buy (Cond.codeWith yL_buy cL_buy 5 (some .int) [(0, 10, 13, 24), (0, 10, 17, 13), (0, 10, 21, 38)] :: zB) ({ frames := 8, cells := 3, slots := 18, locals := 128 } : Room) [.ref x, .int pp, .int n, .ref oa] [bDR g x ta o lo go tt lt mo fo ro fl9, bTown g o a pe wo tx ch jo tr dy sd f, bLog g go gr gz gn fr, bMem g mo qT qL it il ig mh me mx fT fL, bPT g PT, bPL g PL, bOut g oa fz] (fun u : (Nat → Nat → Int32) × Int32 × Int32 × Int32 × (Nat → zTR) × (Nat → zLR) × (Nat → Int64) × Int32 => (fun (f2 : Nat → Nat → Int32) (ch2 : Int32) (me2 : Int32) (mx2 : Int32) (PT2 : Nat → zTR) (PL2 : Nat → zLR) (fz2 : Nat → Int64) (q : Int32) => some (.int q)) (u.1) (u.2.1) (u.2.2.1) (u.2.2.2.1) (u.2.2.2.2.1) (u.2.2.2.2.2.1) (u.2.2.2.2.2.2.1) (u.2.2.2.2.2.2.2)) (fun u : (Nat → Nat → Int32) × Int32 × Int32 × Int32 × (Nat → zTR) × (Nat → zLR) × (Nat → Int64) × Int32 => (fun (f2 : Nat → Nat → Int32) (ch2 : Int32) (me2 : Int32) (mx2 : Int32) (PT2 : Nat → zTR) (PL2 : Nat → zLR) (fz2 : Nat → Int64) (q : Int32) => (zZ4 f2) ∧ (0 ≤ me2.toInt ∧ me2.toInt ≤ 12) ∧ (0 ≤ mx2.toInt ∧ mx2.toInt ≤ 11) ∧ (zPT fT PT2) ∧ (zPL fL PL2) ∧ (zRk PT PT2 me.toInt me2.toInt mx.toInt mx2.toInt pe.toInt wo.toInt tx.toInt)) (u.1) (u.2.1) (u.2.2.1) (u.2.2.2.1) (u.2.2.2.2.1) (u.2.2.2.2.2.1) (u.2.2.2.2.2.2.1) (u.2.2.2.2.2.2.2)) (fun u : (Nat → Nat → Int32) × Int32 × Int32 × Int32 × (Nat → zTR) × (Nat → zLR) × (Nat → Int64) × Int32 => (fun (f2 : Nat → Nat → Int32) (ch2 : Int32) (me2 : Int32) (mx2 : Int32) (PT2 : Nat → zTR) (PL2 : Nat → zLR) (fz2 : Nat → Int64) (q : Int32) => [bDR g x ta o lo go tt lt mo fo ro fl9, bTown g o a pe wo tx ch2 jo tr dy sd f2, bLog g go gr gz gn fr, bMem g mo qT qL it il ig mh me2 mx2 fT fL, bPT g PT2, bPL g PL2, bOut g oa fz2]) (u.1) (u.2.1) (u.2.2.1) (u.2.2.2.1) (u.2.2.2.2.1) (u.2.2.2.2.2.1) (u.2.2.2.2.2.2.1) (u.2.2.2.2.2.2.2)) zNo zN0 := by
  refine zX'.ofH (cc := cL_buy) (maxL := 5) (rt := (some .int)) (by decide) rfl (Nat.le_of_ble_eq_true rfl) ?_
  intro p e s m args below meth c A ls St hr hlocks htab hin hK hT hA hP hD hS hl
  obtain ⟨hx, hb, hml, hown, hts⟩ := id St
  have hl : lv_has ls 5 [(0, .ref x), (1, .int pp), (2, .int n), (3, .ref oa)] := hl
  refine lv_aload_n hx hb dL_buy_0 rfl (lv_at hl 3 rfl) ?_
  refine lv_iconst (v := 0) hx hb dL_buy_1 (by decide) ?_
  refine lv_aload_n hx hb dL_buy_2 rfl (lv_at hl 0 rfl) ?_
  refine lv_iload_n hx hb dL_buy_3 rfl (lv_at hl 1 rfl) ?_
  refine lv_iload_n hx hb dL_buy_4 rfl (lv_at hl 2 rfl) ?_
  refine xcallV' (g := g) (q0 := 0) (ci := 9) (As := [.int pp, .int n]) (rest := [.int 0, .ref oa]) St hK hT hA hP hD hS hl.1 [0, 1, 2, 3, 4, 5] [6] rfl rfl rfl (c_x_buy l hfl g x ta o lo go tt lt mo fo ro fl9 a pe wo tx ch jo tr dy sd f gr gz gn fr qT qL it il ig mh me mx fT fL PT PL pp n b_pe b_wo rf b_gz b_gn b_me b_mx hPT hPL) (cwV 2 hts (zgL (zl4 k1196 k1197 k1198 k621) k679) rfl rfl rfl (by decide +kernel) ⟨Nat.le_of_ble_eq_true rfl, Nat.le_of_ble_eq_true rfl⟩) rfl rfl rfl rfl (Nat.le_of_ble_eq_true rfl) dL_buy_5 ⟨(Nat.le_of_ble_eq_true rfl), (Nat.le_of_ble_eq_true rfl)⟩ (fun E ce q9 u9 H locs hpx hP hD hS hce hcv hcl => ?_) (fun u_ H locs hq8 hP hD hS => ?_)
  · skip
    obtain ⟨f2_9, ch2_10, me2_11, mx2_12, PT2_13, PL2_14⟩ := u9
    have hpx : (E = "java/lang/IndexOutOfBoundsException" ∨ E = "java/lang/IllegalArgumentException" ∨ E = "java/lang/IllegalStateException") ∧ (zZ4 f2_9) ∧ (0 ≤ me2_11.toInt ∧ me2_11.toInt ≤ 12) ∧ (0 ≤ mx2_12.toInt ∧ mx2_12.toInt ≤ 11) ∧ (zPT fT PT2_13) ∧ (zPL fL PL2_14) ∧ (zRk PT PT2_13 me.toInt me2_11.toInt mx.toInt mx2_12.toInt pe.toInt wo.toInt tx.toInt) := hpx
    have hP : va_P g.1 vwCl (List.flatten [bOut g oa fz, bDR g x ta o lo go tt lt mo fo ro fl9, bTown g o a pe wo tx ch2_10 jo tr dy sd f2_9, bLog g go gr gz gn fr, bMem g mo qT qL it il ig mh me2_11 mx2_12 fT fL, bPT g PT2_13, bPL g PL2_14]) H := hP
    have hD : va_D A (List.flatten [bOut g oa fz, bDR g x ta o lo go tt lt mo fo ro fl9, bTown g o a pe wo tx ch2_10 jo tr dy sd f2_9, bLog g go gr gz gn fr, bMem g mo qT qL it il ig mh me2_11 mx2_12 fT fL, bPT g PT2_13, bPL g PL2_14]) := hD
    obtain ⟨hE9, rf2_9, hy15, hy16, hy17, hy18, hy19⟩ := hpx
    rcases hE9 with rfl | rfl | rfl
    · skip
      refine vx_catch hown [] ⟨0, 10, 13, 24⟩ [⟨0, 10, 17, 13⟩, ⟨0, 10, 21, 38⟩] (by rw [htab]; rfl) (fun z hz => absurd hz List.not_mem_nil) (by decide) (by decide) (hts _ k1165) ((hT.1.2.2.2.2.1 _ (List.mem_of_getElem? (i := 0) rfl)).use) hce hcv hcl ?_
      refine W.widen (k := 3) (n := 18) (Nat.le_of_ble_eq_true rfl) (Nat.le_of_ble_eq_true rfl) ?_
      refine lv_astore (lv' := [(4, .ref q9), (0, .ref x), (1, .int pp), (2, .int n), (3, .ref oa)]) hx hb dL_buy_13 hl (by decide) rfl (fun ls hl => ?_)
      refine lv_iconst (v := 1) hx hb dL_buy_15 (by decide) ?_
      have hP : va_P g.1 vwCl (List.flatten [bOut g oa fz, bDR g x ta o lo go tt lt mo fo ro fl9, bTown g o a pe wo tx ch2_10 jo tr dy sd f2_9, bLog g go gr gz gn fr, bMem g mo qT qL it il ig mh me2_11 mx2_12 fT fL, bPT g PT2_13, bPL g PL2_14]) H := hP
      have hD : va_D A (List.flatten [bOut g oa fz, bDR g x ta o lo go tt lt mo fo ro fl9, bTown g o a pe wo tx ch2_10 jo tr dy sd f2_9, bLog g go gr gz gn fr, bMem g mo qT qL it il ig mh me2_11 mx2_12 fT fL, bPT g PT2_13, bPL g PL2_14]) := hD
      obtain ⟨hP, hD⟩ := zord (g := g) (Bs' := [bDR g x ta o lo go tt lt mo fo ro fl9, bTown g o a pe wo tx ch2_10 jo tr dy sd f2_9, bLog g go gr gz gn fr, bMem g mo qT qL it il ig mh me2_11 mx2_12 fT fL, bPT g PT2_13, bPL g PL2_14, bOut g oa fz]) [1, 2, 3, 4, 5, 6, 0] rfl rfl hP hD
      exact zret_i hx hb hr hlocks hS (Nat.le_of_ble_eq_true rfl) (Nat.le_of_ble_eq_true rfl) dL_buy_16 (f2_9, ch2_10, me2_11, mx2_12, PT2_13, PL2_14, fz, (1 : Int32)) rfl (show (zZ4 f2_9) ∧ (0 ≤ me2_11.toInt ∧ me2_11.toInt ≤ 12) ∧ (0 ≤ mx2_12.toInt ∧ mx2_12.toInt ≤ 11) ∧ (zPT fT PT2_13) ∧ (zPL fL PL2_14) ∧ (zRk PT PT2_13 me.toInt me2_11.toInt mx.toInt mx2_12.toInt pe.toInt wo.toInt tx.toInt) from ⟨rf2_9, hy15, hy16, hy17, hy18, hy19⟩) hP hD
    · skip
      refine vx_catch hown [⟨0, 10, 13, 24⟩] ⟨0, 10, 17, 13⟩ [⟨0, 10, 21, 38⟩] (by rw [htab]; rfl) (fun z hz => by
            rcases List.mem_cons.mp hz with rfl | hz; · exact Or.inr ⟨by decide, "java/lang/IndexOutOfBoundsException", hts _ k1165, hT.1.2.2.2.2.2.1 _ (List.mem_of_getElem? (i := 4) rfl)⟩
            cases hz) (by decide) (by decide) (hts _ k1155) ((hT.1.2.2.2.2.1 _ (List.mem_of_getElem? (i := 1) rfl)).use) hce hcv hcl ?_
      refine W.widen (k := 3) (n := 18) (Nat.le_of_ble_eq_true rfl) (Nat.le_of_ble_eq_true rfl) ?_
      refine lv_astore (lv' := [(4, .ref q9), (0, .ref x), (1, .int pp), (2, .int n), (3, .ref oa)]) hx hb dL_buy_17 hl (by decide) rfl (fun ls hl => ?_)
      refine lv_iconst (v := 2) hx hb dL_buy_19 (by decide) ?_
      have hP : va_P g.1 vwCl (List.flatten [bOut g oa fz, bDR g x ta o lo go tt lt mo fo ro fl9, bTown g o a pe wo tx ch2_10 jo tr dy sd f2_9, bLog g go gr gz gn fr, bMem g mo qT qL it il ig mh me2_11 mx2_12 fT fL, bPT g PT2_13, bPL g PL2_14]) H := hP
      have hD : va_D A (List.flatten [bOut g oa fz, bDR g x ta o lo go tt lt mo fo ro fl9, bTown g o a pe wo tx ch2_10 jo tr dy sd f2_9, bLog g go gr gz gn fr, bMem g mo qT qL it il ig mh me2_11 mx2_12 fT fL, bPT g PT2_13, bPL g PL2_14]) := hD
      obtain ⟨hP, hD⟩ := zord (g := g) (Bs' := [bDR g x ta o lo go tt lt mo fo ro fl9, bTown g o a pe wo tx ch2_10 jo tr dy sd f2_9, bLog g go gr gz gn fr, bMem g mo qT qL it il ig mh me2_11 mx2_12 fT fL, bPT g PT2_13, bPL g PL2_14, bOut g oa fz]) [1, 2, 3, 4, 5, 6, 0] rfl rfl hP hD
      exact zret_i hx hb hr hlocks hS (Nat.le_of_ble_eq_true rfl) (Nat.le_of_ble_eq_true rfl) dL_buy_20 (f2_9, ch2_10, me2_11, mx2_12, PT2_13, PL2_14, fz, (2 : Int32)) rfl (show (zZ4 f2_9) ∧ (0 ≤ me2_11.toInt ∧ me2_11.toInt ≤ 12) ∧ (0 ≤ mx2_12.toInt ∧ mx2_12.toInt ≤ 11) ∧ (zPT fT PT2_13) ∧ (zPL fL PL2_14) ∧ (zRk PT PT2_13 me.toInt me2_11.toInt mx.toInt mx2_12.toInt pe.toInt wo.toInt tx.toInt) from ⟨rf2_9, hy15, hy16, hy17, hy18, hy19⟩) hP hD
    · skip
      refine vx_catch hown [⟨0, 10, 13, 24⟩, ⟨0, 10, 17, 13⟩] ⟨0, 10, 21, 38⟩ [] (by rw [htab]; rfl) (fun z hz => by
            rcases List.mem_cons.mp hz with rfl | hz; · exact Or.inr ⟨by decide, "java/lang/IndexOutOfBoundsException", hts _ k1165, hT.1.2.2.2.2.2.1 _ (List.mem_of_getElem? (i := 8) rfl)⟩
            rcases List.mem_cons.mp hz with rfl | hz; · exact Or.inr ⟨by decide, "java/lang/IllegalArgumentException", hts _ k1155, hT.1.2.2.2.2.2.1 _ (List.mem_of_getElem? (i := 9) rfl)⟩
            cases hz) (by decide) (by decide) (hts _ k1179) ((hT.1.2.2.2.2.1 _ (List.mem_of_getElem? (i := 2) rfl)).use) hce hcv hcl ?_
      refine W.widen (k := 3) (n := 18) (Nat.le_of_ble_eq_true rfl) (Nat.le_of_ble_eq_true rfl) ?_
      refine lv_astore (lv' := [(4, .ref q9), (0, .ref x), (1, .int pp), (2, .int n), (3, .ref oa)]) hx hb dL_buy_21 hl (by decide) rfl (fun ls hl => ?_)
      refine lv_iconst (v := 3) hx hb dL_buy_23 (by decide) ?_
      have hP : va_P g.1 vwCl (List.flatten [bOut g oa fz, bDR g x ta o lo go tt lt mo fo ro fl9, bTown g o a pe wo tx ch2_10 jo tr dy sd f2_9, bLog g go gr gz gn fr, bMem g mo qT qL it il ig mh me2_11 mx2_12 fT fL, bPT g PT2_13, bPL g PL2_14]) H := hP
      have hD : va_D A (List.flatten [bOut g oa fz, bDR g x ta o lo go tt lt mo fo ro fl9, bTown g o a pe wo tx ch2_10 jo tr dy sd f2_9, bLog g go gr gz gn fr, bMem g mo qT qL it il ig mh me2_11 mx2_12 fT fL, bPT g PT2_13, bPL g PL2_14]) := hD
      obtain ⟨hP, hD⟩ := zord (g := g) (Bs' := [bDR g x ta o lo go tt lt mo fo ro fl9, bTown g o a pe wo tx ch2_10 jo tr dy sd f2_9, bLog g go gr gz gn fr, bMem g mo qT qL it il ig mh me2_11 mx2_12 fT fL, bPT g PT2_13, bPL g PL2_14, bOut g oa fz]) [1, 2, 3, 4, 5, 6, 0] rfl rfl hP hD
      exact zret_i hx hb hr hlocks hS (Nat.le_of_ble_eq_true rfl) (Nat.le_of_ble_eq_true rfl) dL_buy_24 (f2_9, ch2_10, me2_11, mx2_12, PT2_13, PL2_14, fz, (3 : Int32)) rfl (show (zZ4 f2_9) ∧ (0 ≤ me2_11.toInt ∧ me2_11.toInt ≤ 12) ∧ (0 ≤ mx2_12.toInt ∧ mx2_12.toInt ≤ 11) ∧ (zPT fT PT2_13) ∧ (zPL fL PL2_14) ∧ (zRk PT PT2_13 me.toInt me2_11.toInt mx.toInt mx2_12.toInt pe.toInt wo.toInt tx.toInt) from ⟨rf2_9, hy15, hy16, hy17, hy18, hy19⟩) hP hD
  · skip
    obtain ⟨f2_1, ch2_2, me2_3, mx2_4, PT2_5, PL2_6, q_7⟩ := u_
    replace hq8 : (zZ4 f2_1) ∧ (0 ≤ me2_3.toInt ∧ me2_3.toInt ≤ 12) ∧ (0 ≤ mx2_4.toInt ∧ mx2_4.toInt ≤ 11) ∧ (zPT fT PT2_5) ∧ (zPL fL PL2_6) ∧ (zRk PT PT2_5 me.toInt me2_3.toInt mx.toInt mx2_4.toInt pe.toInt wo.toInt tx.toInt) := hq8
    have hP : va_P g.1 vwCl (List.flatten [bOut g oa fz, bDR g x ta o lo go tt lt mo fo ro fl9, bTown g o a pe wo tx ch2_2 jo tr dy sd f2_1, bLog g go gr gz gn fr, bMem g mo qT qL it il ig mh me2_3 mx2_4 fT fL, bPT g PT2_5, bPL g PL2_6]) H := hP
    have hD : va_D A (List.flatten [bOut g oa fz, bDR g x ta o lo go tt lt mo fo ro fl9, bTown g o a pe wo tx ch2_2 jo tr dy sd f2_1, bLog g go gr gz gn fr, bMem g mo qT qL it il ig mh me2_3 mx2_4 fT fL, bPT g PT2_5, bPL g PL2_6]) := hD
    refine W.widen (k := 3) (n := 18) (Nat.le_of_ble_eq_true rfl) (Nat.le_of_ble_eq_true rfl) ?_
    refine W.eq (g2 := F0 m 8 ls [.int q_7, .int 0, .ref oa]) rfl ?_
    obtain ⟨rf2_1, hq8_1, hq8_2, hq8_3, hq8_4, hq8_5⟩ := hq8
    refine lv_i2l hx hb dL_buy_8 rfl (zgl (fun y20 => ?_))
    refine va_last hx hb hK hP hD hS 0 2 rfl rfl (zin rfl) dL_buy_9 (fun H locs hP hD hS => ?_)
    have hP : va_P g.1 vwCl (List.flatten [[(oa, .inl (g.2 2, 1, .inr (.inl (vp_updL fz 0 y20))))], bDR g x ta o lo go tt lt mo fo ro fl9, bTown g o a pe wo tx ch2_2 jo tr dy sd f2_1, bLog g go gr gz gn fr, bMem g mo qT qL it il ig mh me2_3 mx2_4 fT fL, bPT g PT2_5, bPL g PL2_6]) H := hP
    have hD : va_D A (List.flatten [[(oa, .inl (g.2 2, 1, .inr (.inl (vp_updL fz 0 y20))))], bDR g x ta o lo go tt lt mo fo ro fl9, bTown g o a pe wo tx ch2_2 jo tr dy sd f2_1, bLog g go gr gz gn fr, bMem g mo qT qL it il ig mh me2_3 mx2_4 fT fL, bPT g PT2_5, bPL g PL2_6]) := hD
    refine lv_goto (tgt := 25) hx hb dL_buy_10 (by decide) ?_
    refine lv_iconst (v := 0) hx hb dL_buy_25 (by decide) ?_
    have hP : va_P g.1 vwCl (List.flatten [bOut g oa (vp_updL fz 0 y20), bDR g x ta o lo go tt lt mo fo ro fl9, bTown g o a pe wo tx ch2_2 jo tr dy sd f2_1, bLog g go gr gz gn fr, bMem g mo qT qL it il ig mh me2_3 mx2_4 fT fL, bPT g PT2_5, bPL g PL2_6]) H := hP
    have hD : va_D A (List.flatten [bOut g oa (vp_updL fz 0 y20), bDR g x ta o lo go tt lt mo fo ro fl9, bTown g o a pe wo tx ch2_2 jo tr dy sd f2_1, bLog g go gr gz gn fr, bMem g mo qT qL it il ig mh me2_3 mx2_4 fT fL, bPT g PT2_5, bPL g PL2_6]) := hD
    obtain ⟨hP, hD⟩ := zord (g := g) (Bs' := [bDR g x ta o lo go tt lt mo fo ro fl9, bTown g o a pe wo tx ch2_2 jo tr dy sd f2_1, bLog g go gr gz gn fr, bMem g mo qT qL it il ig mh me2_3 mx2_4 fT fL, bPT g PT2_5, bPL g PL2_6, bOut g oa (vp_updL fz 0 y20)]) [1, 2, 3, 4, 5, 6, 0] rfl rfl hP hD
    exact zret_i hx hb hr hlocks hS (Nat.le_of_ble_eq_true rfl) (Nat.le_of_ble_eq_true rfl) dL_buy_26 (f2_1, ch2_2, me2_3, mx2_4, PT2_5, PL2_6, vp_updL fz 0 y20, (0 : Int32)) rfl (show (zZ4 f2_1) ∧ (0 ≤ me2_3.toInt ∧ me2_3.toInt ≤ 12) ∧ (0 ≤ mx2_4.toInt ∧ mx2_4.toInt ≤ 11) ∧ (zPT fT PT2_5) ∧ (zPL fL PL2_6) ∧ (zRk PT PT2_5 me.toInt me2_3.toInt mx.toInt mx2_4.toInt pe.toInt wo.toInt tx.toInt) from ⟨rf2_1, hq8_1, hq8_2, hq8_3, hq8_4, hq8_5⟩) hP hD
set_option maxRecDepth 100000 in
set_option maxHeartbeats 4000000 in
theorem l_sell (l : Launch) (hfl : l.stackTraces = false) (g : zG) (x : Nat) (ta : Nat) (o : Nat) (lo : Nat) (go : Nat) (tt : Nat) (lt : Nat) (mo : Nat) (fo : Nat) (ro : Nat) (fl9 : Int32) (a : Nat → Nat) (pe : Int32) (wo : Int32) (tx : Int32) (ch : Int32) (jo : Int32) (tr : Int32) (dy : Int32) (sd : Int32) (f : Nat → Nat → Int32) (gr : Nat) (gz : Int32) (gn : Int32) (fr : Nat → Int32) (qT : Nat) (qL : Nat) (it : Nat) (il : Nat) (ig : Nat) (mh : Int32) (me : Int32) (mx : Int32) (fT : Nat → Option Nat) (fL : Nat → Option Nat) (PT : Nat → zTR) (PL : Nat → zLR) (oa : Nat) (fz : Nat → Int64) (pp : Int32) (n : Int32) (b_pe : 0 ≤ pe.toInt ∧ pe.toInt ≤ 8) (b_wo : 0 ≤ wo.toInt ∧ wo.toInt ≤ 6) (rf : zZ4 f) (b_gz : 0 ≤ gz.toInt ∧ gz.toInt ≤ 60) (b_gn : 0 ≤ gn.toInt ∧ gn.toInt ≤ 59) (b_me : 0 ≤ me.toInt ∧ me.toInt ≤ 12) (b_mx : 0 ≤ mx.toInt ∧ mx.toInt ≤ 11) (hPT : zPT fT PT) (hPL : zPL fL PL) : zX' g l yL_sell (Cond.codeWith yL_sell cL_sell 5 (some .int) [(0, 10, 13, 24), (0, 10, 17, 13), (0, 10, 21, 38)] :: zB) ({ frames := 8, cells := 3, slots := 18, locals := 128 } : Room) [.ref x, .int pp, .int n, .ref oa] [bDR g x ta o lo go tt lt mo fo ro fl9, bTown g o a pe wo tx ch jo tr dy sd f, bLog g go gr gz gn fr, bMem g mo qT qL it il ig mh me mx fT fL, bPT g PT, bPL g PL, bOut g oa fz] (fun u : (Nat → Nat → Int32) × Int32 × Int32 × Int32 × (Nat → zTR) × (Nat → zLR) × (Nat → Int64) × Int32 => (fun (f2 : Nat → Nat → Int32) (ch2 : Int32) (me2 : Int32) (mx2 : Int32) (PT2 : Nat → zTR) (PL2 : Nat → zLR) (fz2 : Nat → Int64) (q : Int32) => some (.int q)) (u.1) (u.2.1) (u.2.2.1) (u.2.2.2.1) (u.2.2.2.2.1) (u.2.2.2.2.2.1) (u.2.2.2.2.2.2.1) (u.2.2.2.2.2.2.2)) (fun u : (Nat → Nat → Int32) × Int32 × Int32 × Int32 × (Nat → zTR) × (Nat → zLR) × (Nat → Int64) × Int32 => (fun (f2 : Nat → Nat → Int32) (ch2 : Int32) (me2 : Int32) (mx2 : Int32) (PT2 : Nat → zTR) (PL2 : Nat → zLR) (fz2 : Nat → Int64) (q : Int32) => (zZ4 f2) ∧ (0 ≤ me2.toInt ∧ me2.toInt ≤ 12) ∧ (0 ≤ mx2.toInt ∧ mx2.toInt ≤ 11) ∧ (zPT fT PT2) ∧ (zPL fL PL2) ∧ (zRk PT PT2 me.toInt me2.toInt mx.toInt mx2.toInt pe.toInt wo.toInt tx.toInt)) (u.1) (u.2.1) (u.2.2.1) (u.2.2.2.1) (u.2.2.2.2.1) (u.2.2.2.2.2.1) (u.2.2.2.2.2.2.1) (u.2.2.2.2.2.2.2)) (fun u : (Nat → Nat → Int32) × Int32 × Int32 × Int32 × (Nat → zTR) × (Nat → zLR) × (Nat → Int64) × Int32 => (fun (f2 : Nat → Nat → Int32) (ch2 : Int32) (me2 : Int32) (mx2 : Int32) (PT2 : Nat → zTR) (PL2 : Nat → zLR) (fz2 : Nat → Int64) (q : Int32) => [bDR g x ta o lo go tt lt mo fo ro fl9, bTown g o a pe wo tx ch2 jo tr dy sd f2, bLog g go gr gz gn fr, bMem g mo qT qL it il ig mh me2 mx2 fT fL, bPT g PT2, bPL g PL2, bOut g oa fz2]) (u.1) (u.2.1) (u.2.2.1) (u.2.2.2.1) (u.2.2.2.2.1) (u.2.2.2.2.2.1) (u.2.2.2.2.2.2.1) (u.2.2.2.2.2.2.2)) zNo zN0 := by
  refine zX'.ofH (cc := cL_sell) (maxL := 5) (rt := (some .int)) (by decide) rfl (Nat.le_of_ble_eq_true rfl) ?_
  intro p e s m args below meth c A ls St hr hlocks htab hin hK hT hA hP hD hS hl
  obtain ⟨hx, hb, hml, hown, hts⟩ := id St
  have hl : lv_has ls 5 [(0, .ref x), (1, .int pp), (2, .int n), (3, .ref oa)] := hl
  refine lv_aload_n hx hb dL_sell_0 rfl (lv_at hl 3 rfl) ?_
  refine lv_iconst (v := 0) hx hb dL_sell_1 (by decide) ?_
  refine lv_aload_n hx hb dL_sell_2 rfl (lv_at hl 0 rfl) ?_
  refine lv_iload_n hx hb dL_sell_3 rfl (lv_at hl 1 rfl) ?_
  refine lv_iload_n hx hb dL_sell_4 rfl (lv_at hl 2 rfl) ?_
  refine xcallV' (g := g) (q0 := 0) (ci := 9) (As := [.int pp, .int n]) (rest := [.int 0, .ref oa]) St hK hT hA hP hD hS hl.1 [0, 1, 2, 3, 4, 5] [6] rfl rfl rfl (c_x_sell l hfl g x ta o lo go tt lt mo fo ro fl9 a pe wo tx ch jo tr dy sd f gr gz gn fr qT qL it il ig mh me mx fT fL PT PL pp n b_pe b_wo rf b_gz b_gn b_me b_mx hPT hPL) (cwV 2 hts (zgL (zl4 k1200 k1201 k1202 k621) k680) rfl rfl rfl (by decide +kernel) ⟨Nat.le_of_ble_eq_true rfl, Nat.le_of_ble_eq_true rfl⟩) rfl rfl rfl rfl (Nat.le_of_ble_eq_true rfl) dL_sell_5 ⟨(Nat.le_of_ble_eq_true rfl), (Nat.le_of_ble_eq_true rfl)⟩ (fun E ce q9 u9 H locs hpx hP hD hS hce hcv hcl => ?_) (fun u_ H locs hq8 hP hD hS => ?_)
  · skip
    obtain ⟨f2_9, ch2_10, me2_11, mx2_12, PT2_13, PL2_14⟩ := u9
    have hpx : (E = "java/lang/IndexOutOfBoundsException" ∨ E = "java/lang/IllegalArgumentException" ∨ E = "java/lang/IllegalStateException") ∧ (zZ4 f2_9) ∧ (0 ≤ me2_11.toInt ∧ me2_11.toInt ≤ 12) ∧ (0 ≤ mx2_12.toInt ∧ mx2_12.toInt ≤ 11) ∧ (zPT fT PT2_13) ∧ (zPL fL PL2_14) ∧ (zRk PT PT2_13 me.toInt me2_11.toInt mx.toInt mx2_12.toInt pe.toInt wo.toInt tx.toInt) := hpx
    have hP : va_P g.1 vwCl (List.flatten [bOut g oa fz, bDR g x ta o lo go tt lt mo fo ro fl9, bTown g o a pe wo tx ch2_10 jo tr dy sd f2_9, bLog g go gr gz gn fr, bMem g mo qT qL it il ig mh me2_11 mx2_12 fT fL, bPT g PT2_13, bPL g PL2_14]) H := hP
    have hD : va_D A (List.flatten [bOut g oa fz, bDR g x ta o lo go tt lt mo fo ro fl9, bTown g o a pe wo tx ch2_10 jo tr dy sd f2_9, bLog g go gr gz gn fr, bMem g mo qT qL it il ig mh me2_11 mx2_12 fT fL, bPT g PT2_13, bPL g PL2_14]) := hD
    obtain ⟨hE9, rf2_9, hy15, hy16, hy17, hy18, hy19⟩ := hpx
    rcases hE9 with rfl | rfl | rfl
    · skip
      refine vx_catch hown [] ⟨0, 10, 13, 24⟩ [⟨0, 10, 17, 13⟩, ⟨0, 10, 21, 38⟩] (by rw [htab]; rfl) (fun z hz => absurd hz List.not_mem_nil) (by decide) (by decide) (hts _ k1165) ((hT.1.2.2.2.2.1 _ (List.mem_of_getElem? (i := 0) rfl)).use) hce hcv hcl ?_
      refine W.widen (k := 3) (n := 18) (Nat.le_of_ble_eq_true rfl) (Nat.le_of_ble_eq_true rfl) ?_
      refine lv_astore (lv' := [(4, .ref q9), (0, .ref x), (1, .int pp), (2, .int n), (3, .ref oa)]) hx hb dL_sell_13 hl (by decide) rfl (fun ls hl => ?_)
      refine lv_iconst (v := 1) hx hb dL_sell_15 (by decide) ?_
      have hP : va_P g.1 vwCl (List.flatten [bOut g oa fz, bDR g x ta o lo go tt lt mo fo ro fl9, bTown g o a pe wo tx ch2_10 jo tr dy sd f2_9, bLog g go gr gz gn fr, bMem g mo qT qL it il ig mh me2_11 mx2_12 fT fL, bPT g PT2_13, bPL g PL2_14]) H := hP
      have hD : va_D A (List.flatten [bOut g oa fz, bDR g x ta o lo go tt lt mo fo ro fl9, bTown g o a pe wo tx ch2_10 jo tr dy sd f2_9, bLog g go gr gz gn fr, bMem g mo qT qL it il ig mh me2_11 mx2_12 fT fL, bPT g PT2_13, bPL g PL2_14]) := hD
      obtain ⟨hP, hD⟩ := zord (g := g) (Bs' := [bDR g x ta o lo go tt lt mo fo ro fl9, bTown g o a pe wo tx ch2_10 jo tr dy sd f2_9, bLog g go gr gz gn fr, bMem g mo qT qL it il ig mh me2_11 mx2_12 fT fL, bPT g PT2_13, bPL g PL2_14, bOut g oa fz]) [1, 2, 3, 4, 5, 6, 0] rfl rfl hP hD
      exact zret_i hx hb hr hlocks hS (Nat.le_of_ble_eq_true rfl) (Nat.le_of_ble_eq_true rfl) dL_sell_16 (f2_9, ch2_10, me2_11, mx2_12, PT2_13, PL2_14, fz, (1 : Int32)) rfl (show (zZ4 f2_9) ∧ (0 ≤ me2_11.toInt ∧ me2_11.toInt ≤ 12) ∧ (0 ≤ mx2_12.toInt ∧ mx2_12.toInt ≤ 11) ∧ (zPT fT PT2_13) ∧ (zPL fL PL2_14) ∧ (zRk PT PT2_13 me.toInt me2_11.toInt mx.toInt mx2_12.toInt pe.toInt wo.toInt tx.toInt) from ⟨rf2_9, hy15, hy16, hy17, hy18, hy19⟩) hP hD
    · skip
      refine vx_catch hown [⟨0, 10, 13, 24⟩] ⟨0, 10, 17, 13⟩ [⟨0, 10, 21, 38⟩] (by rw [htab]; rfl) (fun z hz => by
            rcases List.mem_cons.mp hz with rfl | hz; · exact Or.inr ⟨by decide, "java/lang/IndexOutOfBoundsException", hts _ k1165, hT.1.2.2.2.2.2.1 _ (List.mem_of_getElem? (i := 4) rfl)⟩
            cases hz) (by decide) (by decide) (hts _ k1155) ((hT.1.2.2.2.2.1 _ (List.mem_of_getElem? (i := 1) rfl)).use) hce hcv hcl ?_
      refine W.widen (k := 3) (n := 18) (Nat.le_of_ble_eq_true rfl) (Nat.le_of_ble_eq_true rfl) ?_
      refine lv_astore (lv' := [(4, .ref q9), (0, .ref x), (1, .int pp), (2, .int n), (3, .ref oa)]) hx hb dL_sell_17 hl (by decide) rfl (fun ls hl => ?_)
      refine lv_iconst (v := 2) hx hb dL_sell_19 (by decide) ?_
      have hP : va_P g.1 vwCl (List.flatten [bOut g oa fz, bDR g x ta o lo go tt lt mo fo ro fl9, bTown g o a pe wo tx ch2_10 jo tr dy sd f2_9, bLog g go gr gz gn fr, bMem g mo qT qL it il ig mh me2_11 mx2_12 fT fL, bPT g PT2_13, bPL g PL2_14]) H := hP
      have hD : va_D A (List.flatten [bOut g oa fz, bDR g x ta o lo go tt lt mo fo ro fl9, bTown g o a pe wo tx ch2_10 jo tr dy sd f2_9, bLog g go gr gz gn fr, bMem g mo qT qL it il ig mh me2_11 mx2_12 fT fL, bPT g PT2_13, bPL g PL2_14]) := hD
      obtain ⟨hP, hD⟩ := zord (g := g) (Bs' := [bDR g x ta o lo go tt lt mo fo ro fl9, bTown g o a pe wo tx ch2_10 jo tr dy sd f2_9, bLog g go gr gz gn fr, bMem g mo qT qL it il ig mh me2_11 mx2_12 fT fL, bPT g PT2_13, bPL g PL2_14, bOut g oa fz]) [1, 2, 3, 4, 5, 6, 0] rfl rfl hP hD
      exact zret_i hx hb hr hlocks hS (Nat.le_of_ble_eq_true rfl) (Nat.le_of_ble_eq_true rfl) dL_sell_20 (f2_9, ch2_10, me2_11, mx2_12, PT2_13, PL2_14, fz, (2 : Int32)) rfl (show (zZ4 f2_9) ∧ (0 ≤ me2_11.toInt ∧ me2_11.toInt ≤ 12) ∧ (0 ≤ mx2_12.toInt ∧ mx2_12.toInt ≤ 11) ∧ (zPT fT PT2_13) ∧ (zPL fL PL2_14) ∧ (zRk PT PT2_13 me.toInt me2_11.toInt mx.toInt mx2_12.toInt pe.toInt wo.toInt tx.toInt) from ⟨rf2_9, hy15, hy16, hy17, hy18, hy19⟩) hP hD
    · skip
      refine vx_catch hown [⟨0, 10, 13, 24⟩, ⟨0, 10, 17, 13⟩] ⟨0, 10, 21, 38⟩ [] (by rw [htab]; rfl) (fun z hz => by
            rcases List.mem_cons.mp hz with rfl | hz; · exact Or.inr ⟨by decide, "java/lang/IndexOutOfBoundsException", hts _ k1165, hT.1.2.2.2.2.2.1 _ (List.mem_of_getElem? (i := 8) rfl)⟩
            rcases List.mem_cons.mp hz with rfl | hz; · exact Or.inr ⟨by decide, "java/lang/IllegalArgumentException", hts _ k1155, hT.1.2.2.2.2.2.1 _ (List.mem_of_getElem? (i := 9) rfl)⟩
            cases hz) (by decide) (by decide) (hts _ k1179) ((hT.1.2.2.2.2.1 _ (List.mem_of_getElem? (i := 2) rfl)).use) hce hcv hcl ?_
      refine W.widen (k := 3) (n := 18) (Nat.le_of_ble_eq_true rfl) (Nat.le_of_ble_eq_true rfl) ?_
      refine lv_astore (lv' := [(4, .ref q9), (0, .ref x), (1, .int pp), (2, .int n), (3, .ref oa)]) hx hb dL_sell_21 hl (by decide) rfl (fun ls hl => ?_)
      refine lv_iconst (v := 3) hx hb dL_sell_23 (by decide) ?_
      have hP : va_P g.1 vwCl (List.flatten [bOut g oa fz, bDR g x ta o lo go tt lt mo fo ro fl9, bTown g o a pe wo tx ch2_10 jo tr dy sd f2_9, bLog g go gr gz gn fr, bMem g mo qT qL it il ig mh me2_11 mx2_12 fT fL, bPT g PT2_13, bPL g PL2_14]) H := hP
      have hD : va_D A (List.flatten [bOut g oa fz, bDR g x ta o lo go tt lt mo fo ro fl9, bTown g o a pe wo tx ch2_10 jo tr dy sd f2_9, bLog g go gr gz gn fr, bMem g mo qT qL it il ig mh me2_11 mx2_12 fT fL, bPT g PT2_13, bPL g PL2_14]) := hD
      obtain ⟨hP, hD⟩ := zord (g := g) (Bs' := [bDR g x ta o lo go tt lt mo fo ro fl9, bTown g o a pe wo tx ch2_10 jo tr dy sd f2_9, bLog g go gr gz gn fr, bMem g mo qT qL it il ig mh me2_11 mx2_12 fT fL, bPT g PT2_13, bPL g PL2_14, bOut g oa fz]) [1, 2, 3, 4, 5, 6, 0] rfl rfl hP hD
      exact zret_i hx hb hr hlocks hS (Nat.le_of_ble_eq_true rfl) (Nat.le_of_ble_eq_true rfl) dL_sell_24 (f2_9, ch2_10, me2_11, mx2_12, PT2_13, PL2_14, fz, (3 : Int32)) rfl (show (zZ4 f2_9) ∧ (0 ≤ me2_11.toInt ∧ me2_11.toInt ≤ 12) ∧ (0 ≤ mx2_12.toInt ∧ mx2_12.toInt ≤ 11) ∧ (zPT fT PT2_13) ∧ (zPL fL PL2_14) ∧ (zRk PT PT2_13 me.toInt me2_11.toInt mx.toInt mx2_12.toInt pe.toInt wo.toInt tx.toInt) from ⟨rf2_9, hy15, hy16, hy17, hy18, hy19⟩) hP hD
  · skip
    obtain ⟨f2_1, ch2_2, me2_3, mx2_4, PT2_5, PL2_6, q_7⟩ := u_
    replace hq8 : (zZ4 f2_1) ∧ (0 ≤ me2_3.toInt ∧ me2_3.toInt ≤ 12) ∧ (0 ≤ mx2_4.toInt ∧ mx2_4.toInt ≤ 11) ∧ (zPT fT PT2_5) ∧ (zPL fL PL2_6) ∧ (zRk PT PT2_5 me.toInt me2_3.toInt mx.toInt mx2_4.toInt pe.toInt wo.toInt tx.toInt) := hq8
    have hP : va_P g.1 vwCl (List.flatten [bOut g oa fz, bDR g x ta o lo go tt lt mo fo ro fl9, bTown g o a pe wo tx ch2_2 jo tr dy sd f2_1, bLog g go gr gz gn fr, bMem g mo qT qL it il ig mh me2_3 mx2_4 fT fL, bPT g PT2_5, bPL g PL2_6]) H := hP
    have hD : va_D A (List.flatten [bOut g oa fz, bDR g x ta o lo go tt lt mo fo ro fl9, bTown g o a pe wo tx ch2_2 jo tr dy sd f2_1, bLog g go gr gz gn fr, bMem g mo qT qL it il ig mh me2_3 mx2_4 fT fL, bPT g PT2_5, bPL g PL2_6]) := hD
    refine W.widen (k := 3) (n := 18) (Nat.le_of_ble_eq_true rfl) (Nat.le_of_ble_eq_true rfl) ?_
    refine W.eq (g2 := F0 m 8 ls [.int q_7, .int 0, .ref oa]) rfl ?_
    obtain ⟨rf2_1, hq8_1, hq8_2, hq8_3, hq8_4, hq8_5⟩ := hq8
    refine lv_i2l hx hb dL_sell_8 rfl (zgl (fun y20 => ?_))
    refine va_last hx hb hK hP hD hS 0 2 rfl rfl (zin rfl) dL_sell_9 (fun H locs hP hD hS => ?_)
    have hP : va_P g.1 vwCl (List.flatten [[(oa, .inl (g.2 2, 1, .inr (.inl (vp_updL fz 0 y20))))], bDR g x ta o lo go tt lt mo fo ro fl9, bTown g o a pe wo tx ch2_2 jo tr dy sd f2_1, bLog g go gr gz gn fr, bMem g mo qT qL it il ig mh me2_3 mx2_4 fT fL, bPT g PT2_5, bPL g PL2_6]) H := hP
    have hD : va_D A (List.flatten [[(oa, .inl (g.2 2, 1, .inr (.inl (vp_updL fz 0 y20))))], bDR g x ta o lo go tt lt mo fo ro fl9, bTown g o a pe wo tx ch2_2 jo tr dy sd f2_1, bLog g go gr gz gn fr, bMem g mo qT qL it il ig mh me2_3 mx2_4 fT fL, bPT g PT2_5, bPL g PL2_6]) := hD
    refine lv_goto (tgt := 25) hx hb dL_sell_10 (by decide) ?_
    refine lv_iconst (v := 0) hx hb dL_sell_25 (by decide) ?_
    have hP : va_P g.1 vwCl (List.flatten [bOut g oa (vp_updL fz 0 y20), bDR g x ta o lo go tt lt mo fo ro fl9, bTown g o a pe wo tx ch2_2 jo tr dy sd f2_1, bLog g go gr gz gn fr, bMem g mo qT qL it il ig mh me2_3 mx2_4 fT fL, bPT g PT2_5, bPL g PL2_6]) H := hP
    have hD : va_D A (List.flatten [bOut g oa (vp_updL fz 0 y20), bDR g x ta o lo go tt lt mo fo ro fl9, bTown g o a pe wo tx ch2_2 jo tr dy sd f2_1, bLog g go gr gz gn fr, bMem g mo qT qL it il ig mh me2_3 mx2_4 fT fL, bPT g PT2_5, bPL g PL2_6]) := hD
    obtain ⟨hP, hD⟩ := zord (g := g) (Bs' := [bDR g x ta o lo go tt lt mo fo ro fl9, bTown g o a pe wo tx ch2_2 jo tr dy sd f2_1, bLog g go gr gz gn fr, bMem g mo qT qL it il ig mh me2_3 mx2_4 fT fL, bPT g PT2_5, bPL g PL2_6, bOut g oa (vp_updL fz 0 y20)]) [1, 2, 3, 4, 5, 6, 0] rfl rfl hP hD
    exact zret_i hx hb hr hlocks hS (Nat.le_of_ble_eq_true rfl) (Nat.le_of_ble_eq_true rfl) dL_sell_26 (f2_1, ch2_2, me2_3, mx2_4, PT2_5, PL2_6, vp_updL fz 0 y20, (0 : Int32)) rfl (show (zZ4 f2_1) ∧ (0 ≤ me2_3.toInt ∧ me2_3.toInt ≤ 12) ∧ (0 ≤ mx2_4.toInt ∧ mx2_4.toInt ≤ 11) ∧ (zPT fT PT2_5) ∧ (zPL fL PL2_6) ∧ (zRk PT PT2_5 me.toInt me2_3.toInt mx.toInt mx2_4.toInt pe.toInt wo.toInt tx.toInt) from ⟨rf2_1, hq8_1, hq8_2, hq8_3, hq8_4, hq8_5⟩) hP hD
set_option maxRecDepth 100000 in
set_option maxHeartbeats 4000000 in
theorem l_dry (l : Launch) (hfl : l.stackTraces = false) (g : zG) (x : Nat) (ta : Nat) (o : Nat) (lo : Nat) (go : Nat) (tt : Nat) (lt : Nat) (mo : Nat) (fo : Nat) (ro : Nat) (fl9 : Int32) (a : Nat → Nat) (pe : Int32) (wo : Int32) (tx : Int32) (ch : Int32) (jo : Int32) (tr : Int32) (dy : Int32) (sd : Int32) (f : Nat → Nat → Int32) (gr : Nat) (gz : Int32) (gn : Int32) (fr : Nat → Int32) (qT : Nat) (qL : Nat) (it : Nat) (il : Nat) (ig : Nat) (mh : Int32) (me : Int32) (mx : Int32) (fT : Nat → Option Nat) (fL : Nat → Option Nat) (PT : Nat → zTR) (PL : Nat → zLR) (oa : Nat) (fz : Nat → Int64) (pp : Int32) (is : Int32) (b_pe : 0 ≤ pe.toInt ∧ pe.toInt ≤ 8) (b_wo : 0 ≤ wo.toInt ∧ wo.toInt ≤ 6) (rf : zZ4 f) (b_gz : 0 ≤ gz.toInt ∧ gz.toInt ≤ 60) (b_gn : 0 ≤ gn.toInt ∧ gn.toInt ≤ 59) (b_me : 0 ≤ me.toInt ∧ me.toInt ≤ 12) (b_mx : 0 ≤ mx.toInt ∧ mx.toInt ≤ 11) (hPT : zPT fT PT) (hPL : zPL fL PL) (his : is = 0 ∨ is = 1) : zX' g l yL_dry (Cond.codeWith yL_dry cL_dry 5 (some .int) [(0, 17, 20, 24)] :: zB) ({ frames := 8, cells := 1, slots := 6, locals := 126 } : Room) [.ref x, .int pp, .int is, .ref oa] [bDR g x ta o lo go tt lt mo fo ro fl9, bTown g o a pe wo tx ch jo tr dy sd f, bLog g go gr gz gn fr, bMem g mo qT qL it il ig mh me mx fT fL, bPT g PT, bPL g PL, bOut g oa fz] (fun u : (Nat → Nat → Int32) × Int32 × Int32 × (Nat → zTR) × (Nat → zLR) × (Nat → Int64) × Int32 => (fun (f2 : Nat → Nat → Int32) (me2 : Int32) (mx2 : Int32) (PT2 : Nat → zTR) (PL2 : Nat → zLR) (fz2 : Nat → Int64) (q : Int32) => some (.int q)) (u.1) (u.2.1) (u.2.2.1) (u.2.2.2.1) (u.2.2.2.2.1) (u.2.2.2.2.2.1) (u.2.2.2.2.2.2)) (fun u : (Nat → Nat → Int32) × Int32 × Int32 × (Nat → zTR) × (Nat → zLR) × (Nat → Int64) × Int32 => (fun (f2 : Nat → Nat → Int32) (me2 : Int32) (mx2 : Int32) (PT2 : Nat → zTR) (PL2 : Nat → zLR) (fz2 : Nat → Int64) (q : Int32) => (zZ4 f2) ∧ (0 ≤ me2.toInt ∧ me2.toInt ≤ 12) ∧ (0 ≤ mx2.toInt ∧ mx2.toInt ≤ 11) ∧ (zPT fT PT2) ∧ (zPL fL PL2) ∧ (zRk PT PT2 me.toInt me2.toInt mx.toInt mx2.toInt pe.toInt wo.toInt tx.toInt)) (u.1) (u.2.1) (u.2.2.1) (u.2.2.2.1) (u.2.2.2.2.1) (u.2.2.2.2.2.1) (u.2.2.2.2.2.2)) (fun u : (Nat → Nat → Int32) × Int32 × Int32 × (Nat → zTR) × (Nat → zLR) × (Nat → Int64) × Int32 => (fun (f2 : Nat → Nat → Int32) (me2 : Int32) (mx2 : Int32) (PT2 : Nat → zTR) (PL2 : Nat → zLR) (fz2 : Nat → Int64) (q : Int32) => [bDR g x ta o lo go tt lt mo fo ro fl9, bTown g o a pe wo tx ch jo tr dy sd f2, bLog g go gr gz gn fr, bMem g mo qT qL it il ig mh me2 mx2 fT fL, bPT g PT2, bPL g PL2, bOut g oa fz2]) (u.1) (u.2.1) (u.2.2.1) (u.2.2.2.1) (u.2.2.2.2.1) (u.2.2.2.2.2.1) (u.2.2.2.2.2.2)) zNo zN0 := by
  refine zX'.ofH (cc := cL_dry) (maxL := 5) (rt := (some .int)) (by decide) rfl (Nat.le_of_ble_eq_true rfl) ?_
  intro p e s m args below meth c A ls St hr hlocks htab hin hK hT hA hP hD hS hl
  obtain ⟨hx, hb, hml, hown, hts⟩ := id St
  have hl : lv_has ls 5 [(0, .ref x), (1, .int pp), (2, .int is), (3, .ref oa)] := hl
  refine lv_aload_n hx hb dL_dry_0 rfl (lv_at hl 3 rfl) ?_
  refine lv_iconst (v := 0) hx hb dL_dry_1 (by decide) ?_
  refine lv_aload_n hx hb dL_dry_2 rfl (lv_at hl 0 rfl) ?_
  refine lv_iload_n hx hb dL_dry_3 rfl (lv_at hl 1 rfl) ?_
  refine lv_iload_n hx hb dL_dry_4 rfl (lv_at hl 2 rfl) ?_
  refine xcallV' (g := g) (q0 := 0) (ci := 9) (As := [.int pp, .int is]) (rest := [.int 0, .ref oa]) St hK hT hA hP hD hS hl.1 [0, 1, 2, 3, 4, 5] [6] rfl rfl rfl (c_x_dry l hfl g x ta o lo go tt lt mo fo ro fl9 a pe wo tx ch jo tr dy sd f gr gz gn fr qT qL it il ig mh me mx fT fL PT PL pp is b_pe b_wo rf b_gz b_gn b_me b_mx hPT hPL his) (cwV 2 hts (zgL (zl4 k1204 k1205 k1206 k621) k681) rfl rfl rfl (by decide +kernel) ⟨Nat.le_of_ble_eq_true rfl, Nat.le_of_ble_eq_true rfl⟩) rfl rfl rfl rfl (Nat.le_of_ble_eq_true rfl) dL_dry_5 ⟨(Nat.le_of_ble_eq_true rfl), (Nat.le_of_ble_eq_true rfl)⟩ (fun E ce q9 u9 H locs hpx hP hD hS hce hcv hcl => ?_) (fun u_ H locs hq7 hP hD hS => ?_)
  · skip
    obtain ⟨f2_8, me2_9, mx2_10, PT2_11, PL2_12⟩ := u9
    have hpx : (E = "java/lang/IndexOutOfBoundsException") ∧ (zZ4 f2_8) ∧ (0 ≤ me2_9.toInt ∧ me2_9.toInt ≤ 12) ∧ (0 ≤ mx2_10.toInt ∧ mx2_10.toInt ≤ 11) ∧ (zPT fT PT2_11) ∧ (zPL fL PL2_12) ∧ (zRk PT PT2_11 me.toInt me2_9.toInt mx.toInt mx2_10.toInt pe.toInt wo.toInt tx.toInt) := hpx
    have hP : va_P g.1 vwCl (List.flatten [bOut g oa fz, bDR g x ta o lo go tt lt mo fo ro fl9, bTown g o a pe wo tx ch jo tr dy sd f2_8, bLog g go gr gz gn fr, bMem g mo qT qL it il ig mh me2_9 mx2_10 fT fL, bPT g PT2_11, bPL g PL2_12]) H := hP
    have hD : va_D A (List.flatten [bOut g oa fz, bDR g x ta o lo go tt lt mo fo ro fl9, bTown g o a pe wo tx ch jo tr dy sd f2_8, bLog g go gr gz gn fr, bMem g mo qT qL it il ig mh me2_9 mx2_10 fT fL, bPT g PT2_11, bPL g PL2_12]) := hD
    obtain ⟨hE9, rf2_8, hy13, hy14, hy15, hy16, hy17⟩ := hpx
    obtain rfl := hE9
    refine vx_catch hown [] ⟨0, 17, 20, 24⟩ [] (by rw [htab]; rfl) (fun z hz => absurd hz List.not_mem_nil) (by decide) (by decide) (hts _ k1165) ((hT.1.2.2.2.2.1 _ (List.mem_of_getElem? (i := 0) rfl)).use) hce hcv hcl ?_
    refine W.widen (k := 1) (n := 6) (Nat.le_of_ble_eq_true rfl) (Nat.le_of_ble_eq_true rfl) ?_
    refine lv_astore (lv' := [(4, .ref q9), (0, .ref x), (1, .int pp), (2, .int is), (3, .ref oa)]) hx hb dL_dry_20 hl (by decide) rfl (fun ls hl => ?_)
    refine lv_iconst (v := 1) hx hb dL_dry_22 (by decide) ?_
    have hP : va_P g.1 vwCl (List.flatten [bOut g oa fz, bDR g x ta o lo go tt lt mo fo ro fl9, bTown g o a pe wo tx ch jo tr dy sd f2_8, bLog g go gr gz gn fr, bMem g mo qT qL it il ig mh me2_9 mx2_10 fT fL, bPT g PT2_11, bPL g PL2_12]) H := hP
    have hD : va_D A (List.flatten [bOut g oa fz, bDR g x ta o lo go tt lt mo fo ro fl9, bTown g o a pe wo tx ch jo tr dy sd f2_8, bLog g go gr gz gn fr, bMem g mo qT qL it il ig mh me2_9 mx2_10 fT fL, bPT g PT2_11, bPL g PL2_12]) := hD
    obtain ⟨hP, hD⟩ := zord (g := g) (Bs' := [bDR g x ta o lo go tt lt mo fo ro fl9, bTown g o a pe wo tx ch jo tr dy sd f2_8, bLog g go gr gz gn fr, bMem g mo qT qL it il ig mh me2_9 mx2_10 fT fL, bPT g PT2_11, bPL g PL2_12, bOut g oa fz]) [1, 2, 3, 4, 5, 6, 0] rfl rfl hP hD
    exact zret_i hx hb hr hlocks hS (Nat.le_of_ble_eq_true rfl) (Nat.le_of_ble_eq_true rfl) dL_dry_23 (f2_8, me2_9, mx2_10, PT2_11, PL2_12, fz, (1 : Int32)) rfl (show (zZ4 f2_8) ∧ (0 ≤ me2_9.toInt ∧ me2_9.toInt ≤ 12) ∧ (0 ≤ mx2_10.toInt ∧ mx2_10.toInt ≤ 11) ∧ (zPT fT PT2_11) ∧ (zPL fL PL2_12) ∧ (zRk PT PT2_11 me.toInt me2_9.toInt mx.toInt mx2_10.toInt pe.toInt wo.toInt tx.toInt) from ⟨rf2_8, hy13, hy14, hy15, hy16, hy17⟩) hP hD
  · skip
    obtain ⟨f2_1, me2_2, mx2_3, PT2_4, PL2_5, q_6⟩ := u_
    replace hq7 : (zZ4 f2_1) ∧ (0 ≤ me2_2.toInt ∧ me2_2.toInt ≤ 12) ∧ (0 ≤ mx2_3.toInt ∧ mx2_3.toInt ≤ 11) ∧ (zPT fT PT2_4) ∧ (zPL fL PL2_5) ∧ (zRk PT PT2_4 me.toInt me2_2.toInt mx.toInt mx2_3.toInt pe.toInt wo.toInt tx.toInt) ∧ (q_6 = 0 ∨ q_6 = 1) := hq7
    have hP : va_P g.1 vwCl (List.flatten [bOut g oa fz, bDR g x ta o lo go tt lt mo fo ro fl9, bTown g o a pe wo tx ch jo tr dy sd f2_1, bLog g go gr gz gn fr, bMem g mo qT qL it il ig mh me2_2 mx2_3 fT fL, bPT g PT2_4, bPL g PL2_5]) H := hP
    have hD : va_D A (List.flatten [bOut g oa fz, bDR g x ta o lo go tt lt mo fo ro fl9, bTown g o a pe wo tx ch jo tr dy sd f2_1, bLog g go gr gz gn fr, bMem g mo qT qL it il ig mh me2_2 mx2_3 fT fL, bPT g PT2_4, bPL g PL2_5]) := hD
    refine W.widen (k := 1) (n := 6) (Nat.le_of_ble_eq_true rfl) (Nat.le_of_ble_eq_true rfl) ?_
    refine W.eq (g2 := F0 m 8 ls [.int q_6, .int 0, .ref oa]) rfl ?_
    obtain ⟨rf2_1, hq7_1, hq7_2, hq7_3, hq7_4, hq7_5, hq7_6⟩ := hq7
    rcases hq7_6 with rfl | rfl
    · skip
      refine lv_if_eq (tgt := 15) hx hb dL_dry_8 (by decide) (fun _ => ?_) (fun c18 => absurd (by decide) c18)
      refine lv_lconst (v := 0) hx hb dL_dry_15 (by decide) ?_
      refine va_last hx hb hK hP hD hS 0 2 rfl rfl (zin rfl) dL_dry_16 (fun H locs hP hD hS => ?_)
      have hP : va_P g.1 vwCl (List.flatten [[(oa, .inl (g.2 2, 1, .inr (.inl (vp_updL fz 0 0))))], bDR g x ta o lo go tt lt mo fo ro fl9, bTown g o a pe wo tx ch jo tr dy sd f2_1, bLog g go gr gz gn fr, bMem g mo qT qL it il ig mh me2_2 mx2_3 fT fL, bPT g PT2_4, bPL g PL2_5]) H := hP
      have hD : va_D A (List.flatten [[(oa, .inl (g.2 2, 1, .inr (.inl (vp_updL fz 0 0))))], bDR g x ta o lo go tt lt mo fo ro fl9, bTown g o a pe wo tx ch jo tr dy sd f2_1, bLog g go gr gz gn fr, bMem g mo qT qL it il ig mh me2_2 mx2_3 fT fL, bPT g PT2_4, bPL g PL2_5]) := hD
      refine lv_goto (tgt := 24) hx hb dL_dry_17 (by decide) ?_
      refine lv_iconst (v := 0) hx hb dL_dry_24 (by decide) ?_
      have hP : va_P g.1 vwCl (List.flatten [bOut g oa (vp_updL fz 0 0), bDR g x ta o lo go tt lt mo fo ro fl9, bTown g o a pe wo tx ch jo tr dy sd f2_1, bLog g go gr gz gn fr, bMem g mo qT qL it il ig mh me2_2 mx2_3 fT fL, bPT g PT2_4, bPL g PL2_5]) H := hP
      have hD : va_D A (List.flatten [bOut g oa (vp_updL fz 0 0), bDR g x ta o lo go tt lt mo fo ro fl9, bTown g o a pe wo tx ch jo tr dy sd f2_1, bLog g go gr gz gn fr, bMem g mo qT qL it il ig mh me2_2 mx2_3 fT fL, bPT g PT2_4, bPL g PL2_5]) := hD
      obtain ⟨hP, hD⟩ := zord (g := g) (Bs' := [bDR g x ta o lo go tt lt mo fo ro fl9, bTown g o a pe wo tx ch jo tr dy sd f2_1, bLog g go gr gz gn fr, bMem g mo qT qL it il ig mh me2_2 mx2_3 fT fL, bPT g PT2_4, bPL g PL2_5, bOut g oa (vp_updL fz 0 0)]) [1, 2, 3, 4, 5, 6, 0] rfl rfl hP hD
      exact zret_i hx hb hr hlocks hS (Nat.le_of_ble_eq_true rfl) (Nat.le_of_ble_eq_true rfl) dL_dry_25 (f2_1, me2_2, mx2_3, PT2_4, PL2_5, vp_updL fz 0 0, (0 : Int32)) rfl (show (zZ4 f2_1) ∧ (0 ≤ me2_2.toInt ∧ me2_2.toInt ≤ 12) ∧ (0 ≤ mx2_3.toInt ∧ mx2_3.toInt ≤ 11) ∧ (zPT fT PT2_4) ∧ (zPL fL PL2_5) ∧ (zRk PT PT2_4 me.toInt me2_2.toInt mx.toInt mx2_3.toInt pe.toInt wo.toInt tx.toInt) from ⟨rf2_1, hq7_1, hq7_2, hq7_3, hq7_4, hq7_5⟩) hP hD
    · skip
      refine lv_if_eq (tgt := 15) hx hb dL_dry_8 (by decide) (fun c19 => absurd c19 (by decide)) (fun _ => ?_)
      refine lv_lconst (v := 1) hx hb dL_dry_11 (by decide) ?_
      refine lv_goto (tgt := 16) hx hb dL_dry_12 (by decide) ?_
      refine va_last hx hb hK hP hD hS 0 2 rfl rfl (zin rfl) dL_dry_16 (fun H locs hP hD hS => ?_)
      have hP : va_P g.1 vwCl (List.flatten [[(oa, .inl (g.2 2, 1, .inr (.inl (vp_updL fz 0 1))))], bDR g x ta o lo go tt lt mo fo ro fl9, bTown g o a pe wo tx ch jo tr dy sd f2_1, bLog g go gr gz gn fr, bMem g mo qT qL it il ig mh me2_2 mx2_3 fT fL, bPT g PT2_4, bPL g PL2_5]) H := hP
      have hD : va_D A (List.flatten [[(oa, .inl (g.2 2, 1, .inr (.inl (vp_updL fz 0 1))))], bDR g x ta o lo go tt lt mo fo ro fl9, bTown g o a pe wo tx ch jo tr dy sd f2_1, bLog g go gr gz gn fr, bMem g mo qT qL it il ig mh me2_2 mx2_3 fT fL, bPT g PT2_4, bPL g PL2_5]) := hD
      refine lv_goto (tgt := 24) hx hb dL_dry_17 (by decide) ?_
      refine lv_iconst (v := 0) hx hb dL_dry_24 (by decide) ?_
      have hP : va_P g.1 vwCl (List.flatten [bOut g oa (vp_updL fz 0 1), bDR g x ta o lo go tt lt mo fo ro fl9, bTown g o a pe wo tx ch jo tr dy sd f2_1, bLog g go gr gz gn fr, bMem g mo qT qL it il ig mh me2_2 mx2_3 fT fL, bPT g PT2_4, bPL g PL2_5]) H := hP
      have hD : va_D A (List.flatten [bOut g oa (vp_updL fz 0 1), bDR g x ta o lo go tt lt mo fo ro fl9, bTown g o a pe wo tx ch jo tr dy sd f2_1, bLog g go gr gz gn fr, bMem g mo qT qL it il ig mh me2_2 mx2_3 fT fL, bPT g PT2_4, bPL g PL2_5]) := hD
      obtain ⟨hP, hD⟩ := zord (g := g) (Bs' := [bDR g x ta o lo go tt lt mo fo ro fl9, bTown g o a pe wo tx ch jo tr dy sd f2_1, bLog g go gr gz gn fr, bMem g mo qT qL it il ig mh me2_2 mx2_3 fT fL, bPT g PT2_4, bPL g PL2_5, bOut g oa (vp_updL fz 0 1)]) [1, 2, 3, 4, 5, 6, 0] rfl rfl hP hD
      exact zret_i hx hb hr hlocks hS (Nat.le_of_ble_eq_true rfl) (Nat.le_of_ble_eq_true rfl) dL_dry_25 (f2_1, me2_2, mx2_3, PT2_4, PL2_5, vp_updL fz 0 1, (0 : Int32)) rfl (show (zZ4 f2_1) ∧ (0 ≤ me2_2.toInt ∧ me2_2.toInt ≤ 12) ∧ (0 ≤ mx2_3.toInt ∧ mx2_3.toInt ≤ 11) ∧ (zPT fT PT2_4) ∧ (zPL fL PL2_5) ∧ (zRk PT PT2_4 me.toInt me2_2.toInt mx.toInt mx2_3.toInt pe.toInt wo.toInt tx.toInt) from ⟨rf2_1, hq7_1, hq7_2, hq7_3, hq7_4, hq7_5⟩) hP hD
set_option maxRecDepth 100000 in
set_option maxHeartbeats 4000000 in
theorem l_days (l : Launch) (hfl : l.stackTraces = false) (g : zG) (x : Nat) (ta : Nat) (o : Nat) (lo : Nat) (go : Nat) (tt : Nat) (lt : Nat) (mo : Nat) (fo : Nat) (ro : Nat) (fl9 : Int32) (a : Nat → Nat) (pe : Int32) (wo : Int32) (tx : Int32) (ch : Int32) (jo : Int32) (tr : Int32) (dy : Int32) (sd : Int32) (f : Nat → Nat → Int32) (lc : Nat) (lz : Int32) (ll : Int32) (lm : Int32) (lg : Int32) (ld : Int32) (fc : Nat → Int32) (gr : Nat) (gz : Int32) (gn : Int32) (fr : Nat → Int32) (qT : Nat) (qL : Nat) (it : Nat) (il : Nat) (ig : Nat) (mh : Int32) (me : Int32) (mx : Int32) (fT : Nat → Option Nat) (fL : Nat → Option Nat) (PT : Nat → zTR) (PL : Nat → zLR) (oa : Nat) (fz : Nat → Int64) (n : Int32) (b_pe : 0 ≤ pe.toInt ∧ pe.toInt ≤ 8) (b_wo : 0 ≤ wo.toInt ∧ wo.toInt ≤ 6) (rf : zZ4 f) (b_lz : 0 ≤ lz.toInt ∧ lz.toInt ≤ 400) (b_gz : 0 ≤ gz.toInt ∧ gz.toInt ≤ 60) (b_gn : 0 ≤ gn.toInt ∧ gn.toInt ≤ 59) (b_me : 0 ≤ me.toInt ∧ me.toInt ≤ 12) (b_mx : 0 ≤ mx.toInt ∧ mx.toInt ≤ 11) (hPT : zPT fT PT) (hPL : zPL fL PL) : zX' g l yL_days (Cond.codeWith yL_days cL_days 4 (some .int) [(0, 9, 12, 13)] :: zB) ({ frames := 8, cells := 1, slots := 6, locals := 151 } : Room) [.ref x, .int n, .ref oa] [bDR g x ta o lo go tt lt mo fo ro fl9, bTown g o a pe wo tx ch jo tr dy sd f, bLaw g lo lc lz ll lm lg ld fc, bLog g go gr gz gn fr, bMem g mo qT qL it il ig mh me mx fT fL, bPT g PT, bPL g PL, bOut g oa fz] (fun u : Int32 × Int32 × Int32 × (Nat → Nat → Int32) × Int32 × Int32 × Int32 × Int32 × Int32 × (Nat → Int32) × Int32 × Int32 × (Nat → zTR) × (Nat → zLR) × (Nat → Int64) × Int32 => (fun (ch2 : Int32) (dy2 : Int32) (sd2 : Int32) (f2 : Nat → Nat → Int32) (lm2 : Int32) (lg2 : Int32) (ld2 : Int32) (gz2 : Int32) (gn2 : Int32) (fr2 : Nat → Int32) (me2 : Int32) (mx2 : Int32) (PT2 : Nat → zTR) (PL2 : Nat → zLR) (fz2 : Nat → Int64) (q : Int32) => some (.int q)) (u.1) (u.2.1) (u.2.2.1) (u.2.2.2.1) (u.2.2.2.2.1) (u.2.2.2.2.2.1) (u.2.2.2.2.2.2.1) (u.2.2.2.2.2.2.2.1) (u.2.2.2.2.2.2.2.2.1) (u.2.2.2.2.2.2.2.2.2.1) (u.2.2.2.2.2.2.2.2.2.2.1) (u.2.2.2.2.2.2.2.2.2.2.2.1) (u.2.2.2.2.2.2.2.2.2.2.2.2.1) (u.2.2.2.2.2.2.2.2.2.2.2.2.2.1) (u.2.2.2.2.2.2.2.2.2.2.2.2.2.2.1) (u.2.2.2.2.2.2.2.2.2.2.2.2.2.2.2)) (fun u : Int32 × Int32 × Int32 × (Nat → Nat → Int32) × Int32 × Int32 × Int32 × Int32 × Int32 × (Nat → Int32) × Int32 × Int32 × (Nat → zTR) × (Nat → zLR) × (Nat → Int64) × Int32 => (fun (ch2 : Int32) (dy2 : Int32) (sd2 : Int32) (f2 : Nat → Nat → Int32) (lm2 : Int32) (lg2 : Int32) (ld2 : Int32) (gz2 : Int32) (gn2 : Int32) (fr2 : Nat → Int32) (me2 : Int32) (mx2 : Int32) (PT2 : Nat → zTR) (PL2 : Nat → zLR) (fz2 : Nat → Int64) (q : Int32) => (zZ4 f2) ∧ (0 ≤ gz2.toInt ∧ gz2.toInt ≤ 60) ∧ (0 ≤ gn2.toInt ∧ gn2.toInt ≤ 59) ∧ (0 ≤ me2.toInt ∧ me2.toInt ≤ 12) ∧ (0 ≤ mx2.toInt ∧ mx2.toInt ≤ 11) ∧ (zPT fT PT2) ∧ (zPL fL PL2) ∧ (zRk PT PT2 me.toInt me2.toInt mx.toInt mx2.toInt pe.toInt wo.toInt tx.toInt)) (u.1) (u.2.1) (u.2.2.1) (u.2.2.2.1) (u.2.2.2.2.1) (u.2.2.2.2.2.1) (u.2.2.2.2.2.2.1) (u.2.2.2.2.2.2.2.1) (u.2.2.2.2.2.2.2.2.1) (u.2.2.2.2.2.2.2.2.2.1) (u.2.2.2.2.2.2.2.2.2.2.1) (u.2.2.2.2.2.2.2.2.2.2.2.1) (u.2.2.2.2.2.2.2.2.2.2.2.2.1) (u.2.2.2.2.2.2.2.2.2.2.2.2.2.1) (u.2.2.2.2.2.2.2.2.2.2.2.2.2.2.1) (u.2.2.2.2.2.2.2.2.2.2.2.2.2.2.2)) (fun u : Int32 × Int32 × Int32 × (Nat → Nat → Int32) × Int32 × Int32 × Int32 × Int32 × Int32 × (Nat → Int32) × Int32 × Int32 × (Nat → zTR) × (Nat → zLR) × (Nat → Int64) × Int32 => (fun (ch2 : Int32) (dy2 : Int32) (sd2 : Int32) (f2 : Nat → Nat → Int32) (lm2 : Int32) (lg2 : Int32) (ld2 : Int32) (gz2 : Int32) (gn2 : Int32) (fr2 : Nat → Int32) (me2 : Int32) (mx2 : Int32) (PT2 : Nat → zTR) (PL2 : Nat → zLR) (fz2 : Nat → Int64) (q : Int32) => [bDR g x ta o lo go tt lt mo fo ro fl9, bTown g o a pe wo tx ch2 jo tr dy2 sd2 f2, bLaw g lo lc lz ll lm2 lg2 ld2 fc, bLog g go gr gz2 gn2 fr2, bMem g mo qT qL it il ig mh me2 mx2 fT fL, bPT g PT2, bPL g PL2, bOut g oa fz2]) (u.1) (u.2.1) (u.2.2.1) (u.2.2.2.1) (u.2.2.2.2.1) (u.2.2.2.2.2.1) (u.2.2.2.2.2.2.1) (u.2.2.2.2.2.2.2.1) (u.2.2.2.2.2.2.2.2.1) (u.2.2.2.2.2.2.2.2.2.1) (u.2.2.2.2.2.2.2.2.2.2.1) (u.2.2.2.2.2.2.2.2.2.2.2.1) (u.2.2.2.2.2.2.2.2.2.2.2.2.1) (u.2.2.2.2.2.2.2.2.2.2.2.2.2.1) (u.2.2.2.2.2.2.2.2.2.2.2.2.2.2.1) (u.2.2.2.2.2.2.2.2.2.2.2.2.2.2.2)) zNo zN0 := by
  refine zX'.ofH (cc := cL_days) (maxL := 4) (rt := (some .int)) (by decide) rfl (Nat.le_of_ble_eq_true rfl) ?_
  intro p e s m args below meth c A ls St hr hlocks htab hin hK hT hA hP hD hS hl
  obtain ⟨hx, hb, hml, hown, hts⟩ := id St
  have hl : lv_has ls 4 [(0, .ref x), (1, .int n), (2, .ref oa)] := hl
  refine lv_aload_n hx hb dL_days_0 rfl (lv_at hl 2 rfl) ?_
  refine lv_iconst (v := 0) hx hb dL_days_1 (by decide) ?_
  refine lv_aload_n hx hb dL_days_2 rfl (lv_at hl 0 rfl) ?_
  refine lv_iload_n hx hb dL_days_3 rfl (lv_at hl 1 rfl) ?_
  refine xcallV' (g := g) (q0 := 0) (ci := 9) (As := [.int n]) (rest := [.int 0, .ref oa]) St hK hT hA hP hD hS hl.1 [0, 1, 2, 3, 4, 5, 6] [7] rfl rfl rfl (c_x_days l hfl g x ta o lo go tt lt mo fo ro fl9 a pe wo tx ch jo tr dy sd f lc lz ll lm lg ld fc gr gz gn fr qT qL it il ig mh me mx fT fL PT PL n b_pe b_wo rf b_lz b_gz b_gn b_me b_mx hPT hPL) (cwV 1 hts (zgL (zl4 k1208 k1209 k1210 k621) k683) rfl rfl rfl (by decide +kernel) ⟨Nat.le_of_ble_eq_true rfl, Nat.le_of_ble_eq_true rfl⟩) rfl rfl rfl rfl (Nat.le_of_ble_eq_true rfl) dL_days_4 ⟨(Nat.le_of_ble_eq_true rfl), (Nat.le_of_ble_eq_true rfl)⟩ (fun E ce q9 u9 H locs hpx hP hD hS hce hcv hcl => ?_) (fun u_ H locs hq16 hP hD hS => ?_)
  · skip
    obtain ⟨ch2_17, dy2_18, sd2_19, f2_20, lm2_21, lg2_22, ld2_23, gz2_24, gn2_25, fr2_26, me2_27, mx2_28, PT2_29, PL2_30⟩ := u9
    have hpx : (E = "java/lang/IllegalArgumentException") ∧ (zZ4 f2_20) ∧ (0 ≤ gz2_24.toInt ∧ gz2_24.toInt ≤ 60) ∧ (0 ≤ gn2_25.toInt ∧ gn2_25.toInt ≤ 59) ∧ (0 ≤ me2_27.toInt ∧ me2_27.toInt ≤ 12) ∧ (0 ≤ mx2_28.toInt ∧ mx2_28.toInt ≤ 11) ∧ (zPT fT PT2_29) ∧ (zPL fL PL2_30) ∧ (zRk PT PT2_29 me.toInt me2_27.toInt mx.toInt mx2_28.toInt pe.toInt wo.toInt tx.toInt) := hpx
    have hP : va_P g.1 vwCl (List.flatten [bOut g oa fz, bDR g x ta o lo go tt lt mo fo ro fl9, bTown g o a pe wo tx ch2_17 jo tr dy2_18 sd2_19 f2_20, bLaw g lo lc lz ll lm2_21 lg2_22 ld2_23 fc, bLog g go gr gz2_24 gn2_25 fr2_26, bMem g mo qT qL it il ig mh me2_27 mx2_28 fT fL, bPT g PT2_29, bPL g PL2_30]) H := hP
    have hD : va_D A (List.flatten [bOut g oa fz, bDR g x ta o lo go tt lt mo fo ro fl9, bTown g o a pe wo tx ch2_17 jo tr dy2_18 sd2_19 f2_20, bLaw g lo lc lz ll lm2_21 lg2_22 ld2_23 fc, bLog g go gr gz2_24 gn2_25 fr2_26, bMem g mo qT qL it il ig mh me2_27 mx2_28 fT fL, bPT g PT2_29, bPL g PL2_30]) := hD
    obtain ⟨hE9, rf2_20, hy31, hy32, hy33, hy34, hy35, hy36, hy37⟩ := hpx
    obtain rfl := hE9
    refine vx_catch hown [] ⟨0, 9, 12, 13⟩ [] (by rw [htab]; rfl) (fun z hz => absurd hz List.not_mem_nil) (by decide) (by decide) (hts _ k1155) ((hT.1.2.2.2.2.1 _ (List.mem_of_getElem? (i := 1) rfl)).use) hce hcv hcl ?_
    refine W.widen (k := 1) (n := 6) (Nat.le_of_ble_eq_true rfl) (Nat.le_of_ble_eq_true rfl) ?_
    refine lv_astore_n (lv' := [(3, .ref q9), (0, .ref x), (1, .int n), (2, .ref oa)]) hx hb dL_days_12 rfl hl (by decide) rfl (fun ls hl => ?_)
    refine lv_iconst (v := 1) hx hb dL_days_13 (by decide) ?_
    have hP : va_P g.1 vwCl (List.flatten [bOut g oa fz, bDR g x ta o lo go tt lt mo fo ro fl9, bTown g o a pe wo tx ch2_17 jo tr dy2_18 sd2_19 f2_20, bLaw g lo lc lz ll lm2_21 lg2_22 ld2_23 fc, bLog g go gr gz2_24 gn2_25 fr2_26, bMem g mo qT qL it il ig mh me2_27 mx2_28 fT fL, bPT g PT2_29, bPL g PL2_30]) H := hP
    have hD : va_D A (List.flatten [bOut g oa fz, bDR g x ta o lo go tt lt mo fo ro fl9, bTown g o a pe wo tx ch2_17 jo tr dy2_18 sd2_19 f2_20, bLaw g lo lc lz ll lm2_21 lg2_22 ld2_23 fc, bLog g go gr gz2_24 gn2_25 fr2_26, bMem g mo qT qL it il ig mh me2_27 mx2_28 fT fL, bPT g PT2_29, bPL g PL2_30]) := hD
    obtain ⟨hP, hD⟩ := zord (g := g) (Bs' := [bDR g x ta o lo go tt lt mo fo ro fl9, bTown g o a pe wo tx ch2_17 jo tr dy2_18 sd2_19 f2_20, bLaw g lo lc lz ll lm2_21 lg2_22 ld2_23 fc, bLog g go gr gz2_24 gn2_25 fr2_26, bMem g mo qT qL it il ig mh me2_27 mx2_28 fT fL, bPT g PT2_29, bPL g PL2_30, bOut g oa fz]) [1, 2, 3, 4, 5, 6, 7, 0] rfl rfl hP hD
    exact zret_i hx hb hr hlocks hS (Nat.le_of_ble_eq_true rfl) (Nat.le_of_ble_eq_true rfl) dL_days_14 (ch2_17, dy2_18, sd2_19, f2_20, lm2_21, lg2_22, ld2_23, gz2_24, gn2_25, fr2_26, me2_27, mx2_28, PT2_29, PL2_30, fz, (1 : Int32)) rfl (show (zZ4 f2_20) ∧ (0 ≤ gz2_24.toInt ∧ gz2_24.toInt ≤ 60) ∧ (0 ≤ gn2_25.toInt ∧ gn2_25.toInt ≤ 59) ∧ (0 ≤ me2_27.toInt ∧ me2_27.toInt ≤ 12) ∧ (0 ≤ mx2_28.toInt ∧ mx2_28.toInt ≤ 11) ∧ (zPT fT PT2_29) ∧ (zPL fL PL2_30) ∧ (zRk PT PT2_29 me.toInt me2_27.toInt mx.toInt mx2_28.toInt pe.toInt wo.toInt tx.toInt) from ⟨rf2_20, hy31, hy32, hy33, hy34, hy35, hy36, hy37⟩) hP hD
  · skip
    obtain ⟨ch2_1, dy2_2, sd2_3, f2_4, lm2_5, lg2_6, ld2_7, gz2_8, gn2_9, fr2_10, me2_11, mx2_12, PT2_13, PL2_14, q_15⟩ := u_
    replace hq16 : (zZ4 f2_4) ∧ (0 ≤ gz2_8.toInt ∧ gz2_8.toInt ≤ 60) ∧ (0 ≤ gn2_9.toInt ∧ gn2_9.toInt ≤ 59) ∧ (0 ≤ me2_11.toInt ∧ me2_11.toInt ≤ 12) ∧ (0 ≤ mx2_12.toInt ∧ mx2_12.toInt ≤ 11) ∧ (zPT fT PT2_13) ∧ (zPL fL PL2_14) ∧ (zRk PT PT2_13 me.toInt me2_11.toInt mx.toInt mx2_12.toInt pe.toInt wo.toInt tx.toInt) := hq16
    have hP : va_P g.1 vwCl (List.flatten [bOut g oa fz, bDR g x ta o lo go tt lt mo fo ro fl9, bTown g o a pe wo tx ch2_1 jo tr dy2_2 sd2_3 f2_4, bLaw g lo lc lz ll lm2_5 lg2_6 ld2_7 fc, bLog g go gr gz2_8 gn2_9 fr2_10, bMem g mo qT qL it il ig mh me2_11 mx2_12 fT fL, bPT g PT2_13, bPL g PL2_14]) H := hP
    have hD : va_D A (List.flatten [bOut g oa fz, bDR g x ta o lo go tt lt mo fo ro fl9, bTown g o a pe wo tx ch2_1 jo tr dy2_2 sd2_3 f2_4, bLaw g lo lc lz ll lm2_5 lg2_6 ld2_7 fc, bLog g go gr gz2_8 gn2_9 fr2_10, bMem g mo qT qL it il ig mh me2_11 mx2_12 fT fL, bPT g PT2_13, bPL g PL2_14]) := hD
    refine W.widen (k := 1) (n := 6) (Nat.le_of_ble_eq_true rfl) (Nat.le_of_ble_eq_true rfl) ?_
    refine W.eq (g2 := F0 m 7 ls [.int q_15, .int 0, .ref oa]) rfl ?_
    obtain ⟨rf2_4, hq16_1, hq16_2, hq16_3, hq16_4, hq16_5, hq16_6, hq16_7⟩ := hq16
    refine lv_i2l hx hb dL_days_7 rfl (zgl (fun y38 => ?_))
    refine va_last hx hb hK hP hD hS 0 2 rfl rfl (zin rfl) dL_days_8 (fun H locs hP hD hS => ?_)
    have hP : va_P g.1 vwCl (List.flatten [[(oa, .inl (g.2 2, 1, .inr (.inl (vp_updL fz 0 y38))))], bDR g x ta o lo go tt lt mo fo ro fl9, bTown g o a pe wo tx ch2_1 jo tr dy2_2 sd2_3 f2_4, bLaw g lo lc lz ll lm2_5 lg2_6 ld2_7 fc, bLog g go gr gz2_8 gn2_9 fr2_10, bMem g mo qT qL it il ig mh me2_11 mx2_12 fT fL, bPT g PT2_13, bPL g PL2_14]) H := hP
    have hD : va_D A (List.flatten [[(oa, .inl (g.2 2, 1, .inr (.inl (vp_updL fz 0 y38))))], bDR g x ta o lo go tt lt mo fo ro fl9, bTown g o a pe wo tx ch2_1 jo tr dy2_2 sd2_3 f2_4, bLaw g lo lc lz ll lm2_5 lg2_6 ld2_7 fc, bLog g go gr gz2_8 gn2_9 fr2_10, bMem g mo qT qL it il ig mh me2_11 mx2_12 fT fL, bPT g PT2_13, bPL g PL2_14]) := hD
    refine lv_goto (tgt := 15) hx hb dL_days_9 (by decide) ?_
    refine lv_iconst (v := 0) hx hb dL_days_15 (by decide) ?_
    have hP : va_P g.1 vwCl (List.flatten [bOut g oa (vp_updL fz 0 y38), bDR g x ta o lo go tt lt mo fo ro fl9, bTown g o a pe wo tx ch2_1 jo tr dy2_2 sd2_3 f2_4, bLaw g lo lc lz ll lm2_5 lg2_6 ld2_7 fc, bLog g go gr gz2_8 gn2_9 fr2_10, bMem g mo qT qL it il ig mh me2_11 mx2_12 fT fL, bPT g PT2_13, bPL g PL2_14]) H := hP
    have hD : va_D A (List.flatten [bOut g oa (vp_updL fz 0 y38), bDR g x ta o lo go tt lt mo fo ro fl9, bTown g o a pe wo tx ch2_1 jo tr dy2_2 sd2_3 f2_4, bLaw g lo lc lz ll lm2_5 lg2_6 ld2_7 fc, bLog g go gr gz2_8 gn2_9 fr2_10, bMem g mo qT qL it il ig mh me2_11 mx2_12 fT fL, bPT g PT2_13, bPL g PL2_14]) := hD
    obtain ⟨hP, hD⟩ := zord (g := g) (Bs' := [bDR g x ta o lo go tt lt mo fo ro fl9, bTown g o a pe wo tx ch2_1 jo tr dy2_2 sd2_3 f2_4, bLaw g lo lc lz ll lm2_5 lg2_6 ld2_7 fc, bLog g go gr gz2_8 gn2_9 fr2_10, bMem g mo qT qL it il ig mh me2_11 mx2_12 fT fL, bPT g PT2_13, bPL g PL2_14, bOut g oa (vp_updL fz 0 y38)]) [1, 2, 3, 4, 5, 6, 7, 0] rfl rfl hP hD
    exact zret_i hx hb hr hlocks hS (Nat.le_of_ble_eq_true rfl) (Nat.le_of_ble_eq_true rfl) dL_days_16 (ch2_1, dy2_2, sd2_3, f2_4, lm2_5, lg2_6, ld2_7, gz2_8, gn2_9, fr2_10, me2_11, mx2_12, PT2_13, PL2_14, vp_updL fz 0 y38, (0 : Int32)) rfl (show (zZ4 f2_4) ∧ (0 ≤ gz2_8.toInt ∧ gz2_8.toInt ≤ 60) ∧ (0 ≤ gn2_9.toInt ∧ gn2_9.toInt ≤ 59) ∧ (0 ≤ me2_11.toInt ∧ me2_11.toInt ≤ 12) ∧ (0 ≤ mx2_12.toInt ∧ mx2_12.toInt ≤ 11) ∧ (zPT fT PT2_13) ∧ (zPL fL PL2_14) ∧ (zRk PT PT2_13 me.toInt me2_11.toInt mx.toInt mx2_12.toInt pe.toInt wo.toInt tx.toInt) from ⟨rf2_4, hq16_1, hq16_2, hq16_3, hq16_4, hq16_5, hq16_6, hq16_7⟩) hP hD
set_option maxRecDepth 100000 in
set_option maxHeartbeats 4000000 in
theorem l_ahead (l : Launch) (hfl : l.stackTraces = false) (g : zG) (x : Nat) (ta : Nat) (o : Nat) (lo : Nat) (go : Nat) (tt : Nat) (lt : Nat) (mo : Nat) (fo : Nat) (ro : Nat) (fl9 : Int32) (a : Nat → Nat) (pe : Int32) (wo : Int32) (tx : Int32) (ch : Int32) (jo : Int32) (tr : Int32) (dy : Int32) (sd : Int32) (f : Nat → Nat → Int32) (lc : Nat) (lz : Int32) (ll : Int32) (lm : Int32) (lg : Int32) (ld : Int32) (fc : Nat → Int32) (oD : Nat) (aD : Nat → Nat) (peD : Int32) (woD : Int32) (txD : Int32) (chD : Int32) (joD : Int32) (trD : Int32) (dyD : Int32) (sdD : Int32) (fD : Nat → Nat → Int32) (oa : Nat) (fz : Nat → Int64) (pp : Int32) (n : Int32) (b_pe : 0 ≤ pe.toInt ∧ pe.toInt ≤ 8) (b_wo : 0 ≤ wo.toInt ∧ wo.toInt ≤ 6) (rf : zZ4 f) (b_lz : 0 ≤ lz.toInt ∧ lz.toInt ≤ 400) (b_peD : 0 ≤ peD.toInt ∧ peD.toInt ≤ 8) (b_woD : 0 ≤ woD.toInt ∧ woD.toInt ≤ 6) (rfD : zZ4 fD) : zX' g l yL_ahead (Cond.codeWith yL_ahead cL_ahead 5 (some .int) [(0, 10, 13, 24), (0, 10, 17, 13)] :: zB) ({ frames := 8, cells := 2, slots := 12, locals := 174 } : Room) [.ref x, .int pp, .int n, .ref oa] [bDR g x ta o lo go tt lt mo fo ro fl9, bFo g fo o lo oD, bTown g o a pe wo tx ch jo tr dy sd f, bLaw g lo lc lz ll lm lg ld fc, bTown g oD aD peD woD txD chD joD trD dyD sdD fD, bOut g oa fz] (fun u : Int32 × Int32 × Int32 × Int32 × Int32 × Int32 × Int32 × Int32 × Int32 × Int32 × Int32 × (Nat → Nat → Int32) × (Nat → Int64) × Int32 => (fun (lm2 : Int32) (lg2 : Int32) (ld2 : Int32) (peD2 : Int32) (woD2 : Int32) (txD2 : Int32) (chD2 : Int32) (joD2 : Int32) (trD2 : Int32) (dyD2 : Int32) (sdD2 : Int32) (fD2 : Nat → Nat → Int32) (fz2 : Nat → Int64) (q : Int32) => some (.int q)) (u.1) (u.2.1) (u.2.2.1) (u.2.2.2.1) (u.2.2.2.2.1) (u.2.2.2.2.2.1) (u.2.2.2.2.2.2.1) (u.2.2.2.2.2.2.2.1) (u.2.2.2.2.2.2.2.2.1) (u.2.2.2.2.2.2.2.2.2.1) (u.2.2.2.2.2.2.2.2.2.2.1) (u.2.2.2.2.2.2.2.2.2.2.2.1) (u.2.2.2.2.2.2.2.2.2.2.2.2.1) (u.2.2.2.2.2.2.2.2.2.2.2.2.2)) (fun u : Int32 × Int32 × Int32 × Int32 × Int32 × Int32 × Int32 × Int32 × Int32 × Int32 × Int32 × (Nat → Nat → Int32) × (Nat → Int64) × Int32 => (fun (lm2 : Int32) (lg2 : Int32) (ld2 : Int32) (peD2 : Int32) (woD2 : Int32) (txD2 : Int32) (chD2 : Int32) (joD2 : Int32) (trD2 : Int32) (dyD2 : Int32) (sdD2 : Int32) (fD2 : Nat → Nat → Int32) (fz2 : Nat → Int64) (q : Int32) => (0 ≤ peD2.toInt ∧ peD2.toInt ≤ 8) ∧ (0 ≤ woD2.toInt ∧ woD2.toInt ≤ 6) ∧ (zZ4 fD2)) (u.1) (u.2.1) (u.2.2.1) (u.2.2.2.1) (u.2.2.2.2.1) (u.2.2.2.2.2.1) (u.2.2.2.2.2.2.1) (u.2.2.2.2.2.2.2.1) (u.2.2.2.2.2.2.2.2.1) (u.2.2.2.2.2.2.2.2.2.1) (u.2.2.2.2.2.2.2.2.2.2.1) (u.2.2.2.2.2.2.2.2.2.2.2.1) (u.2.2.2.2.2.2.2.2.2.2.2.2.1) (u.2.2.2.2.2.2.2.2.2.2.2.2.2)) (fun u : Int32 × Int32 × Int32 × Int32 × Int32 × Int32 × Int32 × Int32 × Int32 × Int32 × Int32 × (Nat → Nat → Int32) × (Nat → Int64) × Int32 => (fun (lm2 : Int32) (lg2 : Int32) (ld2 : Int32) (peD2 : Int32) (woD2 : Int32) (txD2 : Int32) (chD2 : Int32) (joD2 : Int32) (trD2 : Int32) (dyD2 : Int32) (sdD2 : Int32) (fD2 : Nat → Nat → Int32) (fz2 : Nat → Int64) (q : Int32) => [bDR g x ta o lo go tt lt mo fo ro fl9, bFo g fo o lo oD, bTown g o a pe wo tx ch jo tr dy sd f, bLaw g lo lc lz ll lm2 lg2 ld2 fc, bTown g oD aD peD2 woD2 txD2 chD2 joD2 trD2 dyD2 sdD2 fD2, bOut g oa fz2]) (u.1) (u.2.1) (u.2.2.1) (u.2.2.2.1) (u.2.2.2.2.1) (u.2.2.2.2.2.1) (u.2.2.2.2.2.2.1) (u.2.2.2.2.2.2.2.1) (u.2.2.2.2.2.2.2.2.1) (u.2.2.2.2.2.2.2.2.2.1) (u.2.2.2.2.2.2.2.2.2.2.1) (u.2.2.2.2.2.2.2.2.2.2.2.1) (u.2.2.2.2.2.2.2.2.2.2.2.2.1) (u.2.2.2.2.2.2.2.2.2.2.2.2.2)) zNo zN0 := by
  refine zX'.ofH (cc := cL_ahead) (maxL := 5) (rt := (some .int)) (by decide) rfl (Nat.le_of_ble_eq_true rfl) ?_
  intro p e s m args below meth c A ls St hr hlocks htab hin hK hT hA hP hD hS hl
  obtain ⟨hx, hb, hml, hown, hts⟩ := id St
  have hl : lv_has ls 5 [(0, .ref x), (1, .int pp), (2, .int n), (3, .ref oa)] := hl
  refine lv_aload_n hx hb dL_ahead_0 rfl (lv_at hl 3 rfl) ?_
  refine lv_iconst (v := 0) hx hb dL_ahead_1 (by decide) ?_
  refine lv_aload_n hx hb dL_ahead_2 rfl (lv_at hl 0 rfl) ?_
  refine lv_iload_n hx hb dL_ahead_3 rfl (lv_at hl 1 rfl) ?_
  refine lv_iload_n hx hb dL_ahead_4 rfl (lv_at hl 2 rfl) ?_
  refine xcallV' (g := g) (q0 := 0) (ci := 9) (As := [.int pp, .int n]) (rest := [.int 0, .ref oa]) St hK hT hA hP hD hS hl.1 [0, 1, 2, 3, 4] [5] rfl rfl rfl (c_x_ahead l hfl g x ta o lo go tt lt mo fo ro fl9 a pe wo tx ch jo tr dy sd f lc lz ll lm lg ld fc oD aD peD woD txD chD joD trD dyD sdD fD pp n b_pe b_wo rf b_lz b_peD b_woD rfD) (cwV 2 hts (zgL (zl4 k1212 k1213 k1214 k621) k686) rfl rfl rfl (by decide +kernel) ⟨Nat.le_of_ble_eq_true rfl, Nat.le_of_ble_eq_true rfl⟩) rfl rfl rfl rfl (Nat.le_of_ble_eq_true rfl) dL_ahead_5 ⟨(Nat.le_of_ble_eq_true rfl), (Nat.le_of_ble_eq_true rfl)⟩ (fun E ce q9 u9 H locs hpx hP hD hS hce hcv hcl => ?_) (fun u_ H locs hq14 hP hD hS => ?_)
  · skip
    obtain ⟨lm2_15, lg2_16, ld2_17, peD2_18, woD2_19, txD2_20, chD2_21, joD2_22, trD2_23, dyD2_24, sdD2_25, fD2_26⟩ := u9
    have hpx : (E = "java/lang/IndexOutOfBoundsException" ∨ E = "java/lang/IllegalArgumentException") ∧ (0 ≤ peD2_18.toInt ∧ peD2_18.toInt ≤ 8) ∧ (0 ≤ woD2_19.toInt ∧ woD2_19.toInt ≤ 6) ∧ (zZ4 fD2_26) := hpx
    have hP : va_P g.1 vwCl (List.flatten [bOut g oa fz, bDR g x ta o lo go tt lt mo fo ro fl9, bFo g fo o lo oD, bTown g o a pe wo tx ch jo tr dy sd f, bLaw g lo lc lz ll lm2_15 lg2_16 ld2_17 fc, bTown g oD aD peD2_18 woD2_19 txD2_20 chD2_21 joD2_22 trD2_23 dyD2_24 sdD2_25 fD2_26]) H := hP
    have hD : va_D A (List.flatten [bOut g oa fz, bDR g x ta o lo go tt lt mo fo ro fl9, bFo g fo o lo oD, bTown g o a pe wo tx ch jo tr dy sd f, bLaw g lo lc lz ll lm2_15 lg2_16 ld2_17 fc, bTown g oD aD peD2_18 woD2_19 txD2_20 chD2_21 joD2_22 trD2_23 dyD2_24 sdD2_25 fD2_26]) := hD
    obtain ⟨hE9, hy27, hy28, rfD2_26⟩ := hpx
    rcases hE9 with rfl | rfl
    · skip
      refine vx_catch hown [] ⟨0, 10, 13, 24⟩ [⟨0, 10, 17, 13⟩] (by rw [htab]; rfl) (fun z hz => absurd hz List.not_mem_nil) (by decide) (by decide) (hts _ k1165) ((hT.1.2.2.2.2.1 _ (List.mem_of_getElem? (i := 0) rfl)).use) hce hcv hcl ?_
      refine W.widen (k := 2) (n := 12) (Nat.le_of_ble_eq_true rfl) (Nat.le_of_ble_eq_true rfl) ?_
      refine lv_astore (lv' := [(4, .ref q9), (0, .ref x), (1, .int pp), (2, .int n), (3, .ref oa)]) hx hb dL_ahead_13 hl (by decide) rfl (fun ls hl => ?_)
      refine lv_iconst (v := 1) hx hb dL_ahead_15 (by decide) ?_
      have hP : va_P g.1 vwCl (List.flatten [bOut g oa fz, bDR g x ta o lo go tt lt mo fo ro fl9, bFo g fo o lo oD, bTown g o a pe wo tx ch jo tr dy sd f, bLaw g lo lc lz ll lm2_15 lg2_16 ld2_17 fc, bTown g oD aD peD2_18 woD2_19 txD2_20 chD2_21 joD2_22 trD2_23 dyD2_24 sdD2_25 fD2_26]) H := hP
      have hD : va_D A (List.flatten [bOut g oa fz, bDR g x ta o lo go tt lt mo fo ro fl9, bFo g fo o lo oD, bTown g o a pe wo tx ch jo tr dy sd f, bLaw g lo lc lz ll lm2_15 lg2_16 ld2_17 fc, bTown g oD aD peD2_18 woD2_19 txD2_20 chD2_21 joD2_22 trD2_23 dyD2_24 sdD2_25 fD2_26]) := hD
      obtain ⟨hP, hD⟩ := zord (g := g) (Bs' := [bDR g x ta o lo go tt lt mo fo ro fl9, bFo g fo o lo oD, bTown g o a pe wo tx ch jo tr dy sd f, bLaw g lo lc lz ll lm2_15 lg2_16 ld2_17 fc, bTown g oD aD peD2_18 woD2_19 txD2_20 chD2_21 joD2_22 trD2_23 dyD2_24 sdD2_25 fD2_26, bOut g oa fz]) [1, 2, 3, 4, 5, 0] rfl rfl hP hD
      exact zret_i hx hb hr hlocks hS (Nat.le_of_ble_eq_true rfl) (Nat.le_of_ble_eq_true rfl) dL_ahead_16 (lm2_15, lg2_16, ld2_17, peD2_18, woD2_19, txD2_20, chD2_21, joD2_22, trD2_23, dyD2_24, sdD2_25, fD2_26, fz, (1 : Int32)) rfl (show (0 ≤ peD2_18.toInt ∧ peD2_18.toInt ≤ 8) ∧ (0 ≤ woD2_19.toInt ∧ woD2_19.toInt ≤ 6) ∧ (zZ4 fD2_26) from ⟨hy27, hy28, rfD2_26⟩) hP hD
    · skip
      refine vx_catch hown [⟨0, 10, 13, 24⟩] ⟨0, 10, 17, 13⟩ [] (by rw [htab]; rfl) (fun z hz => by
            rcases List.mem_cons.mp hz with rfl | hz; · exact Or.inr ⟨by decide, "java/lang/IndexOutOfBoundsException", hts _ k1165, hT.1.2.2.2.2.2.1 _ (List.mem_of_getElem? (i := 4) rfl)⟩
            cases hz) (by decide) (by decide) (hts _ k1155) ((hT.1.2.2.2.2.1 _ (List.mem_of_getElem? (i := 1) rfl)).use) hce hcv hcl ?_
      refine W.widen (k := 2) (n := 12) (Nat.le_of_ble_eq_true rfl) (Nat.le_of_ble_eq_true rfl) ?_
      refine lv_astore (lv' := [(4, .ref q9), (0, .ref x), (1, .int pp), (2, .int n), (3, .ref oa)]) hx hb dL_ahead_17 hl (by decide) rfl (fun ls hl => ?_)
      refine lv_iconst (v := 2) hx hb dL_ahead_19 (by decide) ?_
      have hP : va_P g.1 vwCl (List.flatten [bOut g oa fz, bDR g x ta o lo go tt lt mo fo ro fl9, bFo g fo o lo oD, bTown g o a pe wo tx ch jo tr dy sd f, bLaw g lo lc lz ll lm2_15 lg2_16 ld2_17 fc, bTown g oD aD peD2_18 woD2_19 txD2_20 chD2_21 joD2_22 trD2_23 dyD2_24 sdD2_25 fD2_26]) H := hP
      have hD : va_D A (List.flatten [bOut g oa fz, bDR g x ta o lo go tt lt mo fo ro fl9, bFo g fo o lo oD, bTown g o a pe wo tx ch jo tr dy sd f, bLaw g lo lc lz ll lm2_15 lg2_16 ld2_17 fc, bTown g oD aD peD2_18 woD2_19 txD2_20 chD2_21 joD2_22 trD2_23 dyD2_24 sdD2_25 fD2_26]) := hD
      obtain ⟨hP, hD⟩ := zord (g := g) (Bs' := [bDR g x ta o lo go tt lt mo fo ro fl9, bFo g fo o lo oD, bTown g o a pe wo tx ch jo tr dy sd f, bLaw g lo lc lz ll lm2_15 lg2_16 ld2_17 fc, bTown g oD aD peD2_18 woD2_19 txD2_20 chD2_21 joD2_22 trD2_23 dyD2_24 sdD2_25 fD2_26, bOut g oa fz]) [1, 2, 3, 4, 5, 0] rfl rfl hP hD
      exact zret_i hx hb hr hlocks hS (Nat.le_of_ble_eq_true rfl) (Nat.le_of_ble_eq_true rfl) dL_ahead_20 (lm2_15, lg2_16, ld2_17, peD2_18, woD2_19, txD2_20, chD2_21, joD2_22, trD2_23, dyD2_24, sdD2_25, fD2_26, fz, (2 : Int32)) rfl (show (0 ≤ peD2_18.toInt ∧ peD2_18.toInt ≤ 8) ∧ (0 ≤ woD2_19.toInt ∧ woD2_19.toInt ≤ 6) ∧ (zZ4 fD2_26) from ⟨hy27, hy28, rfD2_26⟩) hP hD
  · skip
    obtain ⟨lm2_1, lg2_2, ld2_3, peD2_4, woD2_5, txD2_6, chD2_7, joD2_8, trD2_9, dyD2_10, sdD2_11, fD2_12, q_13⟩ := u_
    replace hq14 : (0 ≤ peD2_4.toInt ∧ peD2_4.toInt ≤ 8) ∧ (0 ≤ woD2_5.toInt ∧ woD2_5.toInt ≤ 6) ∧ (zZ4 fD2_12) := hq14
    have hP : va_P g.1 vwCl (List.flatten [bOut g oa fz, bDR g x ta o lo go tt lt mo fo ro fl9, bFo g fo o lo oD, bTown g o a pe wo tx ch jo tr dy sd f, bLaw g lo lc lz ll lm2_1 lg2_2 ld2_3 fc, bTown g oD aD peD2_4 woD2_5 txD2_6 chD2_7 joD2_8 trD2_9 dyD2_10 sdD2_11 fD2_12]) H := hP
    have hD : va_D A (List.flatten [bOut g oa fz, bDR g x ta o lo go tt lt mo fo ro fl9, bFo g fo o lo oD, bTown g o a pe wo tx ch jo tr dy sd f, bLaw g lo lc lz ll lm2_1 lg2_2 ld2_3 fc, bTown g oD aD peD2_4 woD2_5 txD2_6 chD2_7 joD2_8 trD2_9 dyD2_10 sdD2_11 fD2_12]) := hD
    refine W.widen (k := 2) (n := 12) (Nat.le_of_ble_eq_true rfl) (Nat.le_of_ble_eq_true rfl) ?_
    refine W.eq (g2 := F0 m 8 ls [.int q_13, .int 0, .ref oa]) rfl ?_
    obtain ⟨hq14_0, hq14_1, rfD2_12⟩ := hq14
    refine lv_i2l hx hb dL_ahead_8 rfl (zgl (fun y29 => ?_))
    refine va_last hx hb hK hP hD hS 0 2 rfl rfl (zin rfl) dL_ahead_9 (fun H locs hP hD hS => ?_)
    have hP : va_P g.1 vwCl (List.flatten [[(oa, .inl (g.2 2, 1, .inr (.inl (vp_updL fz 0 y29))))], bDR g x ta o lo go tt lt mo fo ro fl9, bFo g fo o lo oD, bTown g o a pe wo tx ch jo tr dy sd f, bLaw g lo lc lz ll lm2_1 lg2_2 ld2_3 fc, bTown g oD aD peD2_4 woD2_5 txD2_6 chD2_7 joD2_8 trD2_9 dyD2_10 sdD2_11 fD2_12]) H := hP
    have hD : va_D A (List.flatten [[(oa, .inl (g.2 2, 1, .inr (.inl (vp_updL fz 0 y29))))], bDR g x ta o lo go tt lt mo fo ro fl9, bFo g fo o lo oD, bTown g o a pe wo tx ch jo tr dy sd f, bLaw g lo lc lz ll lm2_1 lg2_2 ld2_3 fc, bTown g oD aD peD2_4 woD2_5 txD2_6 chD2_7 joD2_8 trD2_9 dyD2_10 sdD2_11 fD2_12]) := hD
    refine lv_goto (tgt := 21) hx hb dL_ahead_10 (by decide) ?_
    refine lv_iconst (v := 0) hx hb dL_ahead_21 (by decide) ?_
    have hP : va_P g.1 vwCl (List.flatten [bOut g oa (vp_updL fz 0 y29), bDR g x ta o lo go tt lt mo fo ro fl9, bFo g fo o lo oD, bTown g o a pe wo tx ch jo tr dy sd f, bLaw g lo lc lz ll lm2_1 lg2_2 ld2_3 fc, bTown g oD aD peD2_4 woD2_5 txD2_6 chD2_7 joD2_8 trD2_9 dyD2_10 sdD2_11 fD2_12]) H := hP
    have hD : va_D A (List.flatten [bOut g oa (vp_updL fz 0 y29), bDR g x ta o lo go tt lt mo fo ro fl9, bFo g fo o lo oD, bTown g o a pe wo tx ch jo tr dy sd f, bLaw g lo lc lz ll lm2_1 lg2_2 ld2_3 fc, bTown g oD aD peD2_4 woD2_5 txD2_6 chD2_7 joD2_8 trD2_9 dyD2_10 sdD2_11 fD2_12]) := hD
    obtain ⟨hP, hD⟩ := zord (g := g) (Bs' := [bDR g x ta o lo go tt lt mo fo ro fl9, bFo g fo o lo oD, bTown g o a pe wo tx ch jo tr dy sd f, bLaw g lo lc lz ll lm2_1 lg2_2 ld2_3 fc, bTown g oD aD peD2_4 woD2_5 txD2_6 chD2_7 joD2_8 trD2_9 dyD2_10 sdD2_11 fD2_12, bOut g oa (vp_updL fz 0 y29)]) [1, 2, 3, 4, 5, 0] rfl rfl hP hD
    exact zret_i hx hb hr hlocks hS (Nat.le_of_ble_eq_true rfl) (Nat.le_of_ble_eq_true rfl) dL_ahead_22 (lm2_1, lg2_2, ld2_3, peD2_4, woD2_5, txD2_6, chD2_7, joD2_8, trD2_9, dyD2_10, sdD2_11, fD2_12, vp_updL fz 0 y29, (0 : Int32)) rfl (show (0 ≤ peD2_4.toInt ∧ peD2_4.toInt ≤ 8) ∧ (0 ≤ woD2_5.toInt ∧ woD2_5.toInt ≤ 6) ∧ (zZ4 fD2_12) from ⟨hq14_0, hq14_1, rfD2_12⟩) hP hD
set_option maxRecDepth 100000 in
set_option maxHeartbeats 4000000 in
theorem l_then (l : Launch) (hfl : l.stackTraces = false) (g : zG) (x : Nat) (ta : Nat) (o : Nat) (lo : Nat) (go : Nat) (tt : Nat) (lt : Nat) (mo : Nat) (fo : Nat) (ro : Nat) (fl9 : Int32) (a : Nat → Nat) (pe : Int32) (wo : Int32) (tx : Int32) (ch : Int32) (jo : Int32) (tr : Int32) (dy : Int32) (sd : Int32) (f : Nat → Nat → Int32) (lc : Nat) (lz : Int32) (ll : Int32) (lm : Int32) (lg : Int32) (ld : Int32) (fc : Nat → Int32) (oD : Nat) (aD : Nat → Nat) (peD : Int32) (woD : Int32) (txD : Int32) (chD : Int32) (joD : Int32) (trD : Int32) (dyD : Int32) (sdD : Int32) (fD : Nat → Nat → Int32) (oa : Nat) (fz : Nat → Int64) (n : Int32) (c9 : Int32) (b_pe : 0 ≤ pe.toInt ∧ pe.toInt ≤ 8) (b_wo : 0 ≤ wo.toInt ∧ wo.toInt ≤ 6) (rf : zZ4 f) (b_lz : 0 ≤ lz.toInt ∧ lz.toInt ≤ 400) (b_peD : 0 ≤ peD.toInt ∧ peD.toInt ≤ 8) (b_woD : 0 ≤ woD.toInt ∧ woD.toInt ≤ 6) (rfD : zZ4 fD) : zX' g l yL_then (Cond.codeWith yL_then cL_then 5 (some .int) [(0, 10, 13, 13)] :: zB) ({ frames := 8, cells := 1, slots := 6, locals := 175 } : Room) [.ref x, .int n, .int c9, .ref oa] [bDR g x ta o lo go tt lt mo fo ro fl9, bFo g fo o lo oD, bTown g o a pe wo tx ch jo tr dy sd f, bLaw g lo lc lz ll lm lg ld fc, bTown g oD aD peD woD txD chD joD trD dyD sdD fD, bOut g oa fz] (fun u : Int32 × Int32 × Int32 × Int32 × Int32 × Int32 × Int32 × Int32 × Int32 × Int32 × Int32 × (Nat → Nat → Int32) × (Nat → Int64) × Int32 => (fun (lm2 : Int32) (lg2 : Int32) (ld2 : Int32) (peD2 : Int32) (woD2 : Int32) (txD2 : Int32) (chD2 : Int32) (joD2 : Int32) (trD2 : Int32) (dyD2 : Int32) (sdD2 : Int32) (fD2 : Nat → Nat → Int32) (fz2 : Nat → Int64) (q : Int32) => some (.int q)) (u.1) (u.2.1) (u.2.2.1) (u.2.2.2.1) (u.2.2.2.2.1) (u.2.2.2.2.2.1) (u.2.2.2.2.2.2.1) (u.2.2.2.2.2.2.2.1) (u.2.2.2.2.2.2.2.2.1) (u.2.2.2.2.2.2.2.2.2.1) (u.2.2.2.2.2.2.2.2.2.2.1) (u.2.2.2.2.2.2.2.2.2.2.2.1) (u.2.2.2.2.2.2.2.2.2.2.2.2.1) (u.2.2.2.2.2.2.2.2.2.2.2.2.2)) (fun u : Int32 × Int32 × Int32 × Int32 × Int32 × Int32 × Int32 × Int32 × Int32 × Int32 × Int32 × (Nat → Nat → Int32) × (Nat → Int64) × Int32 => (fun (lm2 : Int32) (lg2 : Int32) (ld2 : Int32) (peD2 : Int32) (woD2 : Int32) (txD2 : Int32) (chD2 : Int32) (joD2 : Int32) (trD2 : Int32) (dyD2 : Int32) (sdD2 : Int32) (fD2 : Nat → Nat → Int32) (fz2 : Nat → Int64) (q : Int32) => (0 ≤ peD2.toInt ∧ peD2.toInt ≤ 8) ∧ (0 ≤ woD2.toInt ∧ woD2.toInt ≤ 6) ∧ (zZ4 fD2)) (u.1) (u.2.1) (u.2.2.1) (u.2.2.2.1) (u.2.2.2.2.1) (u.2.2.2.2.2.1) (u.2.2.2.2.2.2.1) (u.2.2.2.2.2.2.2.1) (u.2.2.2.2.2.2.2.2.1) (u.2.2.2.2.2.2.2.2.2.1) (u.2.2.2.2.2.2.2.2.2.2.1) (u.2.2.2.2.2.2.2.2.2.2.2.1) (u.2.2.2.2.2.2.2.2.2.2.2.2.1) (u.2.2.2.2.2.2.2.2.2.2.2.2.2)) (fun u : Int32 × Int32 × Int32 × Int32 × Int32 × Int32 × Int32 × Int32 × Int32 × Int32 × Int32 × (Nat → Nat → Int32) × (Nat → Int64) × Int32 => (fun (lm2 : Int32) (lg2 : Int32) (ld2 : Int32) (peD2 : Int32) (woD2 : Int32) (txD2 : Int32) (chD2 : Int32) (joD2 : Int32) (trD2 : Int32) (dyD2 : Int32) (sdD2 : Int32) (fD2 : Nat → Nat → Int32) (fz2 : Nat → Int64) (q : Int32) => [bDR g x ta o lo go tt lt mo fo ro fl9, bFo g fo o lo oD, bTown g o a pe wo tx ch jo tr dy sd f, bLaw g lo lc lz ll lm2 lg2 ld2 fc, bTown g oD aD peD2 woD2 txD2 chD2 joD2 trD2 dyD2 sdD2 fD2, bOut g oa fz2]) (u.1) (u.2.1) (u.2.2.1) (u.2.2.2.1) (u.2.2.2.2.1) (u.2.2.2.2.2.1) (u.2.2.2.2.2.2.1) (u.2.2.2.2.2.2.2.1) (u.2.2.2.2.2.2.2.2.1) (u.2.2.2.2.2.2.2.2.2.1) (u.2.2.2.2.2.2.2.2.2.2.1) (u.2.2.2.2.2.2.2.2.2.2.2.1) (u.2.2.2.2.2.2.2.2.2.2.2.2.1) (u.2.2.2.2.2.2.2.2.2.2.2.2.2)) zNo zN0 := by
  refine zX'.ofH (cc := cL_then) (maxL := 5) (rt := (some .int)) (by decide) rfl (Nat.le_of_ble_eq_true rfl) ?_
  intro p e s m args below meth c A ls St hr hlocks htab hin hK hT hA hP hD hS hl
  obtain ⟨hx, hb, hml, hown, hts⟩ := id St
  have hl : lv_has ls 5 [(0, .ref x), (1, .int n), (2, .int c9), (3, .ref oa)] := hl
  refine lv_aload_n hx hb dL_then_0 rfl (lv_at hl 3 rfl) ?_
  refine lv_iconst (v := 0) hx hb dL_then_1 (by decide) ?_
  refine lv_aload_n hx hb dL_then_2 rfl (lv_at hl 0 rfl) ?_
  refine lv_iload_n hx hb dL_then_3 rfl (lv_at hl 1 rfl) ?_
  refine lv_iload_n hx hb dL_then_4 rfl (lv_at hl 2 rfl) ?_
  refine xcallV' (g := g) (q0 := 0) (ci := 9) (As := [.int n, .int c9]) (rest := [.int 0, .ref oa]) St hK hT hA hP hD hS hl.1 [0, 1, 2, 3, 4] [5] rfl rfl rfl (c_x_then l hfl g x ta o lo go tt lt mo fo ro fl9 a pe wo tx ch jo tr dy sd f lc lz ll lm lg ld fc oD aD peD woD txD chD joD trD dyD sdD fD n c9 b_pe b_wo rf b_lz b_peD b_woD rfD) (cwV 2 hts (zgL (zl4 k1216 k1217 k1218 k621) k687) rfl rfl rfl (by decide +kernel) ⟨Nat.le_of_ble_eq_true rfl, Nat.le_of_ble_eq_true rfl⟩) rfl rfl rfl rfl (Nat.le_of_ble_eq_true rfl) dL_then_5 ⟨(Nat.le_of_ble_eq_true rfl), (Nat.le_of_ble_eq_true rfl)⟩ (fun E ce q9 u9 H locs hpx hP hD hS hce hcv hcl => ?_) (fun u_ H locs hq14 hP hD hS => ?_)
  · skip
    obtain ⟨lm2_15, lg2_16, ld2_17, peD2_18, woD2_19, txD2_20, chD2_21, joD2_22, trD2_23, dyD2_24, sdD2_25, fD2_26⟩ := u9
    have hpx : (E = "java/lang/IllegalArgumentException") ∧ (0 ≤ peD2_18.toInt ∧ peD2_18.toInt ≤ 8) ∧ (0 ≤ woD2_19.toInt ∧ woD2_19.toInt ≤ 6) ∧ (zZ4 fD2_26) := hpx
    have hP : va_P g.1 vwCl (List.flatten [bOut g oa fz, bDR g x ta o lo go tt lt mo fo ro fl9, bFo g fo o lo oD, bTown g o a pe wo tx ch jo tr dy sd f, bLaw g lo lc lz ll lm2_15 lg2_16 ld2_17 fc, bTown g oD aD peD2_18 woD2_19 txD2_20 chD2_21 joD2_22 trD2_23 dyD2_24 sdD2_25 fD2_26]) H := hP
    have hD : va_D A (List.flatten [bOut g oa fz, bDR g x ta o lo go tt lt mo fo ro fl9, bFo g fo o lo oD, bTown g o a pe wo tx ch jo tr dy sd f, bLaw g lo lc lz ll lm2_15 lg2_16 ld2_17 fc, bTown g oD aD peD2_18 woD2_19 txD2_20 chD2_21 joD2_22 trD2_23 dyD2_24 sdD2_25 fD2_26]) := hD
    obtain ⟨hE9, hy27, hy28, rfD2_26⟩ := hpx
    obtain rfl := hE9
    refine vx_catch hown [] ⟨0, 10, 13, 13⟩ [] (by rw [htab]; rfl) (fun z hz => absurd hz List.not_mem_nil) (by decide) (by decide) (hts _ k1155) ((hT.1.2.2.2.2.1 _ (List.mem_of_getElem? (i := 1) rfl)).use) hce hcv hcl ?_
    refine W.widen (k := 1) (n := 6) (Nat.le_of_ble_eq_true rfl) (Nat.le_of_ble_eq_true rfl) ?_
    refine lv_astore (lv' := [(4, .ref q9), (0, .ref x), (1, .int n), (2, .int c9), (3, .ref oa)]) hx hb dL_then_13 hl (by decide) rfl (fun ls hl => ?_)
    refine lv_iconst (v := 1) hx hb dL_then_15 (by decide) ?_
    have hP : va_P g.1 vwCl (List.flatten [bOut g oa fz, bDR g x ta o lo go tt lt mo fo ro fl9, bFo g fo o lo oD, bTown g o a pe wo tx ch jo tr dy sd f, bLaw g lo lc lz ll lm2_15 lg2_16 ld2_17 fc, bTown g oD aD peD2_18 woD2_19 txD2_20 chD2_21 joD2_22 trD2_23 dyD2_24 sdD2_25 fD2_26]) H := hP
    have hD : va_D A (List.flatten [bOut g oa fz, bDR g x ta o lo go tt lt mo fo ro fl9, bFo g fo o lo oD, bTown g o a pe wo tx ch jo tr dy sd f, bLaw g lo lc lz ll lm2_15 lg2_16 ld2_17 fc, bTown g oD aD peD2_18 woD2_19 txD2_20 chD2_21 joD2_22 trD2_23 dyD2_24 sdD2_25 fD2_26]) := hD
    obtain ⟨hP, hD⟩ := zord (g := g) (Bs' := [bDR g x ta o lo go tt lt mo fo ro fl9, bFo g fo o lo oD, bTown g o a pe wo tx ch jo tr dy sd f, bLaw g lo lc lz ll lm2_15 lg2_16 ld2_17 fc, bTown g oD aD peD2_18 woD2_19 txD2_20 chD2_21 joD2_22 trD2_23 dyD2_24 sdD2_25 fD2_26, bOut g oa fz]) [1, 2, 3, 4, 5, 0] rfl rfl hP hD
    exact zret_i hx hb hr hlocks hS (Nat.le_of_ble_eq_true rfl) (Nat.le_of_ble_eq_true rfl) dL_then_16 (lm2_15, lg2_16, ld2_17, peD2_18, woD2_19, txD2_20, chD2_21, joD2_22, trD2_23, dyD2_24, sdD2_25, fD2_26, fz, (1 : Int32)) rfl (show (0 ≤ peD2_18.toInt ∧ peD2_18.toInt ≤ 8) ∧ (0 ≤ woD2_19.toInt ∧ woD2_19.toInt ≤ 6) ∧ (zZ4 fD2_26) from ⟨hy27, hy28, rfD2_26⟩) hP hD
  · skip
    obtain ⟨lm2_1, lg2_2, ld2_3, peD2_4, woD2_5, txD2_6, chD2_7, joD2_8, trD2_9, dyD2_10, sdD2_11, fD2_12, q_13⟩ := u_
    replace hq14 : (0 ≤ peD2_4.toInt ∧ peD2_4.toInt ≤ 8) ∧ (0 ≤ woD2_5.toInt ∧ woD2_5.toInt ≤ 6) ∧ (zZ4 fD2_12) := hq14
    have hP : va_P g.1 vwCl (List.flatten [bOut g oa fz, bDR g x ta o lo go tt lt mo fo ro fl9, bFo g fo o lo oD, bTown g o a pe wo tx ch jo tr dy sd f, bLaw g lo lc lz ll lm2_1 lg2_2 ld2_3 fc, bTown g oD aD peD2_4 woD2_5 txD2_6 chD2_7 joD2_8 trD2_9 dyD2_10 sdD2_11 fD2_12]) H := hP
    have hD : va_D A (List.flatten [bOut g oa fz, bDR g x ta o lo go tt lt mo fo ro fl9, bFo g fo o lo oD, bTown g o a pe wo tx ch jo tr dy sd f, bLaw g lo lc lz ll lm2_1 lg2_2 ld2_3 fc, bTown g oD aD peD2_4 woD2_5 txD2_6 chD2_7 joD2_8 trD2_9 dyD2_10 sdD2_11 fD2_12]) := hD
    refine W.widen (k := 1) (n := 6) (Nat.le_of_ble_eq_true rfl) (Nat.le_of_ble_eq_true rfl) ?_
    refine W.eq (g2 := F0 m 8 ls [.int q_13, .int 0, .ref oa]) rfl ?_
    obtain ⟨hq14_0, hq14_1, rfD2_12⟩ := hq14
    refine lv_i2l hx hb dL_then_8 rfl (zgl (fun y29 => ?_))
    refine va_last hx hb hK hP hD hS 0 2 rfl rfl (zin rfl) dL_then_9 (fun H locs hP hD hS => ?_)
    have hP : va_P g.1 vwCl (List.flatten [[(oa, .inl (g.2 2, 1, .inr (.inl (vp_updL fz 0 y29))))], bDR g x ta o lo go tt lt mo fo ro fl9, bFo g fo o lo oD, bTown g o a pe wo tx ch jo tr dy sd f, bLaw g lo lc lz ll lm2_1 lg2_2 ld2_3 fc, bTown g oD aD peD2_4 woD2_5 txD2_6 chD2_7 joD2_8 trD2_9 dyD2_10 sdD2_11 fD2_12]) H := hP
    have hD : va_D A (List.flatten [[(oa, .inl (g.2 2, 1, .inr (.inl (vp_updL fz 0 y29))))], bDR g x ta o lo go tt lt mo fo ro fl9, bFo g fo o lo oD, bTown g o a pe wo tx ch jo tr dy sd f, bLaw g lo lc lz ll lm2_1 lg2_2 ld2_3 fc, bTown g oD aD peD2_4 woD2_5 txD2_6 chD2_7 joD2_8 trD2_9 dyD2_10 sdD2_11 fD2_12]) := hD
    refine lv_goto (tgt := 17) hx hb dL_then_10 (by decide) ?_
    refine lv_iconst (v := 0) hx hb dL_then_17 (by decide) ?_
    have hP : va_P g.1 vwCl (List.flatten [bOut g oa (vp_updL fz 0 y29), bDR g x ta o lo go tt lt mo fo ro fl9, bFo g fo o lo oD, bTown g o a pe wo tx ch jo tr dy sd f, bLaw g lo lc lz ll lm2_1 lg2_2 ld2_3 fc, bTown g oD aD peD2_4 woD2_5 txD2_6 chD2_7 joD2_8 trD2_9 dyD2_10 sdD2_11 fD2_12]) H := hP
    have hD : va_D A (List.flatten [bOut g oa (vp_updL fz 0 y29), bDR g x ta o lo go tt lt mo fo ro fl9, bFo g fo o lo oD, bTown g o a pe wo tx ch jo tr dy sd f, bLaw g lo lc lz ll lm2_1 lg2_2 ld2_3 fc, bTown g oD aD peD2_4 woD2_5 txD2_6 chD2_7 joD2_8 trD2_9 dyD2_10 sdD2_11 fD2_12]) := hD
    obtain ⟨hP, hD⟩ := zord (g := g) (Bs' := [bDR g x ta o lo go tt lt mo fo ro fl9, bFo g fo o lo oD, bTown g o a pe wo tx ch jo tr dy sd f, bLaw g lo lc lz ll lm2_1 lg2_2 ld2_3 fc, bTown g oD aD peD2_4 woD2_5 txD2_6 chD2_7 joD2_8 trD2_9 dyD2_10 sdD2_11 fD2_12, bOut g oa (vp_updL fz 0 y29)]) [1, 2, 3, 4, 5, 0] rfl rfl hP hD
    exact zret_i hx hb hr hlocks hS (Nat.le_of_ble_eq_true rfl) (Nat.le_of_ble_eq_true rfl) dL_then_18 (lm2_1, lg2_2, ld2_3, peD2_4, woD2_5, txD2_6, chD2_7, joD2_8, trD2_9, dyD2_10, sdD2_11, fD2_12, vp_updL fz 0 y29, (0 : Int32)) rfl (show (0 ≤ peD2_4.toInt ∧ peD2_4.toInt ≤ 8) ∧ (0 ≤ woD2_5.toInt ∧ woD2_5.toInt ≤ 6) ∧ (zZ4 fD2_12) from ⟨hq14_0, hq14_1, rfD2_12⟩) hP hD
set_option maxRecDepth 100000 in
set_option maxHeartbeats 4000000 in
theorem l_sways (l : Launch) (hfl : l.stackTraces = false) (g : zG) (x : Nat) (ta : Nat) (o : Nat) (lo : Nat) (go : Nat) (tt : Nat) (lt : Nat) (mo : Nat) (fo : Nat) (ro : Nat) (fl9 : Int32) (a : Nat → Nat) (pe : Int32) (wo : Int32) (tx : Int32) (ch : Int32) (jo : Int32) (tr : Int32) (dy : Int32) (sd : Int32) (f : Nat → Nat → Int32) (lc : Nat) (lz : Int32) (ll : Int32) (lm : Int32) (lg : Int32) (ld : Int32) (fc : Nat → Int32) (oD : Nat) (aD : Nat → Nat) (peD : Int32) (woD : Int32) (txD : Int32) (chD : Int32) (joD : Int32) (trD : Int32) (dyD : Int32) (sdD : Int32) (fD : Nat → Nat → Int32) (oa : Nat) (fz : Nat → Int64) (pp : Int32) (n : Int32) (b_pe : 0 ≤ pe.toInt ∧ pe.toInt ≤ 8) (b_wo : 0 ≤ wo.toInt ∧ wo.toInt ≤ 6) (rf : zZ4 f) (b_lz : 0 ≤ lz.toInt ∧ lz.toInt ≤ 400) (b_peD : 0 ≤ peD.toInt ∧ peD.toInt ≤ 8) (b_woD : 0 ≤ woD.toInt ∧ woD.toInt ≤ 6) (rfD : zZ4 fD) : zX' g l yL_sways (Cond.codeWith yL_sways cL_sways 5 (some .int) [(0, 10, 13, 24), (0, 10, 17, 13)] :: zB) ({ frames := 8, cells := 2, slots := 12, locals := 174 } : Room) [.ref x, .int pp, .int n, .ref oa] [bDR g x ta o lo go tt lt mo fo ro fl9, bFo g fo o lo oD, bTown g o a pe wo tx ch jo tr dy sd f, bLaw g lo lc lz ll lm lg ld fc, bTown g oD aD peD woD txD chD joD trD dyD sdD fD, bOut g oa fz] (fun u : Int32 × Int32 × Int32 × Int32 × Int32 × Int32 × Int32 × Int32 × Int32 × Int32 × Int32 × (Nat → Nat → Int32) × (Nat → Int64) × Int32 => (fun (lm2 : Int32) (lg2 : Int32) (ld2 : Int32) (peD2 : Int32) (woD2 : Int32) (txD2 : Int32) (chD2 : Int32) (joD2 : Int32) (trD2 : Int32) (dyD2 : Int32) (sdD2 : Int32) (fD2 : Nat → Nat → Int32) (fz2 : Nat → Int64) (q : Int32) => some (.int q)) (u.1) (u.2.1) (u.2.2.1) (u.2.2.2.1) (u.2.2.2.2.1) (u.2.2.2.2.2.1) (u.2.2.2.2.2.2.1) (u.2.2.2.2.2.2.2.1) (u.2.2.2.2.2.2.2.2.1) (u.2.2.2.2.2.2.2.2.2.1) (u.2.2.2.2.2.2.2.2.2.2.1) (u.2.2.2.2.2.2.2.2.2.2.2.1) (u.2.2.2.2.2.2.2.2.2.2.2.2.1) (u.2.2.2.2.2.2.2.2.2.2.2.2.2)) (fun u : Int32 × Int32 × Int32 × Int32 × Int32 × Int32 × Int32 × Int32 × Int32 × Int32 × Int32 × (Nat → Nat → Int32) × (Nat → Int64) × Int32 => (fun (lm2 : Int32) (lg2 : Int32) (ld2 : Int32) (peD2 : Int32) (woD2 : Int32) (txD2 : Int32) (chD2 : Int32) (joD2 : Int32) (trD2 : Int32) (dyD2 : Int32) (sdD2 : Int32) (fD2 : Nat → Nat → Int32) (fz2 : Nat → Int64) (q : Int32) => (0 ≤ peD2.toInt ∧ peD2.toInt ≤ 8) ∧ (0 ≤ woD2.toInt ∧ woD2.toInt ≤ 6) ∧ (zZ4 fD2)) (u.1) (u.2.1) (u.2.2.1) (u.2.2.2.1) (u.2.2.2.2.1) (u.2.2.2.2.2.1) (u.2.2.2.2.2.2.1) (u.2.2.2.2.2.2.2.1) (u.2.2.2.2.2.2.2.2.1) (u.2.2.2.2.2.2.2.2.2.1) (u.2.2.2.2.2.2.2.2.2.2.1) (u.2.2.2.2.2.2.2.2.2.2.2.1) (u.2.2.2.2.2.2.2.2.2.2.2.2.1) (u.2.2.2.2.2.2.2.2.2.2.2.2.2)) (fun u : Int32 × Int32 × Int32 × Int32 × Int32 × Int32 × Int32 × Int32 × Int32 × Int32 × Int32 × (Nat → Nat → Int32) × (Nat → Int64) × Int32 => (fun (lm2 : Int32) (lg2 : Int32) (ld2 : Int32) (peD2 : Int32) (woD2 : Int32) (txD2 : Int32) (chD2 : Int32) (joD2 : Int32) (trD2 : Int32) (dyD2 : Int32) (sdD2 : Int32) (fD2 : Nat → Nat → Int32) (fz2 : Nat → Int64) (q : Int32) => [bDR g x ta o lo go tt lt mo fo ro fl9, bFo g fo o lo oD, bTown g o a pe wo tx ch jo tr dy sd f, bLaw g lo lc lz ll lm2 lg2 ld2 fc, bTown g oD aD peD2 woD2 txD2 chD2 joD2 trD2 dyD2 sdD2 fD2, bOut g oa fz2]) (u.1) (u.2.1) (u.2.2.1) (u.2.2.2.1) (u.2.2.2.2.1) (u.2.2.2.2.2.1) (u.2.2.2.2.2.2.1) (u.2.2.2.2.2.2.2.1) (u.2.2.2.2.2.2.2.2.1) (u.2.2.2.2.2.2.2.2.2.1) (u.2.2.2.2.2.2.2.2.2.2.1) (u.2.2.2.2.2.2.2.2.2.2.2.1) (u.2.2.2.2.2.2.2.2.2.2.2.2.1) (u.2.2.2.2.2.2.2.2.2.2.2.2.2)) zNo zN0 := by
  refine zX'.ofH (cc := cL_sways) (maxL := 5) (rt := (some .int)) (by decide) rfl (Nat.le_of_ble_eq_true rfl) ?_
  intro p e s m args below meth c A ls St hr hlocks htab hin hK hT hA hP hD hS hl
  obtain ⟨hx, hb, hml, hown, hts⟩ := id St
  have hl : lv_has ls 5 [(0, .ref x), (1, .int pp), (2, .int n), (3, .ref oa)] := hl
  refine lv_aload_n hx hb dL_sways_0 rfl (lv_at hl 3 rfl) ?_
  refine lv_iconst (v := 0) hx hb dL_sways_1 (by decide) ?_
  refine lv_aload_n hx hb dL_sways_2 rfl (lv_at hl 0 rfl) ?_
  refine lv_iload_n hx hb dL_sways_3 rfl (lv_at hl 1 rfl) ?_
  refine lv_iload_n hx hb dL_sways_4 rfl (lv_at hl 2 rfl) ?_
  refine xcallV' (g := g) (q0 := 0) (ci := 9) (As := [.int pp, .int n]) (rest := [.int 0, .ref oa]) St hK hT hA hP hD hS hl.1 [0, 1, 2, 3, 4] [5] rfl rfl rfl (c_x_sways l hfl g x ta o lo go tt lt mo fo ro fl9 a pe wo tx ch jo tr dy sd f lc lz ll lm lg ld fc oD aD peD woD txD chD joD trD dyD sdD fD pp n b_pe b_wo rf b_lz b_peD b_woD rfD) (cwV 2 hts (zgL (zl4 k1220 k1221 k1222 k621) k688) rfl rfl rfl (by decide +kernel) ⟨Nat.le_of_ble_eq_true rfl, Nat.le_of_ble_eq_true rfl⟩) rfl rfl rfl rfl (Nat.le_of_ble_eq_true rfl) dL_sways_5 ⟨(Nat.le_of_ble_eq_true rfl), (Nat.le_of_ble_eq_true rfl)⟩ (fun E ce q9 u9 H locs hpx hP hD hS hce hcv hcl => ?_) (fun u_ H locs hq14 hP hD hS => ?_)
  · skip
    obtain ⟨lm2_15, lg2_16, ld2_17, peD2_18, woD2_19, txD2_20, chD2_21, joD2_22, trD2_23, dyD2_24, sdD2_25, fD2_26⟩ := u9
    have hpx : (E = "java/lang/IndexOutOfBoundsException" ∨ E = "java/lang/IllegalArgumentException") ∧ (0 ≤ peD2_18.toInt ∧ peD2_18.toInt ≤ 8) ∧ (0 ≤ woD2_19.toInt ∧ woD2_19.toInt ≤ 6) ∧ (zZ4 fD2_26) := hpx
    have hP : va_P g.1 vwCl (List.flatten [bOut g oa fz, bDR g x ta o lo go tt lt mo fo ro fl9, bFo g fo o lo oD, bTown g o a pe wo tx ch jo tr dy sd f, bLaw g lo lc lz ll lm2_15 lg2_16 ld2_17 fc, bTown g oD aD peD2_18 woD2_19 txD2_20 chD2_21 joD2_22 trD2_23 dyD2_24 sdD2_25 fD2_26]) H := hP
    have hD : va_D A (List.flatten [bOut g oa fz, bDR g x ta o lo go tt lt mo fo ro fl9, bFo g fo o lo oD, bTown g o a pe wo tx ch jo tr dy sd f, bLaw g lo lc lz ll lm2_15 lg2_16 ld2_17 fc, bTown g oD aD peD2_18 woD2_19 txD2_20 chD2_21 joD2_22 trD2_23 dyD2_24 sdD2_25 fD2_26]) := hD
    obtain ⟨hE9, hy27, hy28, rfD2_26⟩ := hpx
    rcases hE9 with rfl | rfl
    · skip
      refine vx_catch hown [] ⟨0, 10, 13, 24⟩ [⟨0, 10, 17, 13⟩] (by rw [htab]; rfl) (fun z hz => absurd hz List.not_mem_nil) (by decide) (by decide) (hts _ k1165) ((hT.1.2.2.2.2.1 _ (List.mem_of_getElem? (i := 0) rfl)).use) hce hcv hcl ?_
      refine W.widen (k := 2) (n := 12) (Nat.le_of_ble_eq_true rfl) (Nat.le_of_ble_eq_true rfl) ?_
      refine lv_astore (lv' := [(4, .ref q9), (0, .ref x), (1, .int pp), (2, .int n), (3, .ref oa)]) hx hb dL_sways_13 hl (by decide) rfl (fun ls hl => ?_)
      refine lv_iconst (v := 1) hx hb dL_sways_15 (by decide) ?_
      have hP : va_P g.1 vwCl (List.flatten [bOut g oa fz, bDR g x ta o lo go tt lt mo fo ro fl9, bFo g fo o lo oD, bTown g o a pe wo tx ch jo tr dy sd f, bLaw g lo lc lz ll lm2_15 lg2_16 ld2_17 fc, bTown g oD aD peD2_18 woD2_19 txD2_20 chD2_21 joD2_22 trD2_23 dyD2_24 sdD2_25 fD2_26]) H := hP
      have hD : va_D A (List.flatten [bOut g oa fz, bDR g x ta o lo go tt lt mo fo ro fl9, bFo g fo o lo oD, bTown g o a pe wo tx ch jo tr dy sd f, bLaw g lo lc lz ll lm2_15 lg2_16 ld2_17 fc, bTown g oD aD peD2_18 woD2_19 txD2_20 chD2_21 joD2_22 trD2_23 dyD2_24 sdD2_25 fD2_26]) := hD
      obtain ⟨hP, hD⟩ := zord (g := g) (Bs' := [bDR g x ta o lo go tt lt mo fo ro fl9, bFo g fo o lo oD, bTown g o a pe wo tx ch jo tr dy sd f, bLaw g lo lc lz ll lm2_15 lg2_16 ld2_17 fc, bTown g oD aD peD2_18 woD2_19 txD2_20 chD2_21 joD2_22 trD2_23 dyD2_24 sdD2_25 fD2_26, bOut g oa fz]) [1, 2, 3, 4, 5, 0] rfl rfl hP hD
      exact zret_i hx hb hr hlocks hS (Nat.le_of_ble_eq_true rfl) (Nat.le_of_ble_eq_true rfl) dL_sways_16 (lm2_15, lg2_16, ld2_17, peD2_18, woD2_19, txD2_20, chD2_21, joD2_22, trD2_23, dyD2_24, sdD2_25, fD2_26, fz, (1 : Int32)) rfl (show (0 ≤ peD2_18.toInt ∧ peD2_18.toInt ≤ 8) ∧ (0 ≤ woD2_19.toInt ∧ woD2_19.toInt ≤ 6) ∧ (zZ4 fD2_26) from ⟨hy27, hy28, rfD2_26⟩) hP hD
    · skip
      refine vx_catch hown [⟨0, 10, 13, 24⟩] ⟨0, 10, 17, 13⟩ [] (by rw [htab]; rfl) (fun z hz => by
            rcases List.mem_cons.mp hz with rfl | hz; · exact Or.inr ⟨by decide, "java/lang/IndexOutOfBoundsException", hts _ k1165, hT.1.2.2.2.2.2.1 _ (List.mem_of_getElem? (i := 4) rfl)⟩
            cases hz) (by decide) (by decide) (hts _ k1155) ((hT.1.2.2.2.2.1 _ (List.mem_of_getElem? (i := 1) rfl)).use) hce hcv hcl ?_
      refine W.widen (k := 2) (n := 12) (Nat.le_of_ble_eq_true rfl) (Nat.le_of_ble_eq_true rfl) ?_
      refine lv_astore (lv' := [(4, .ref q9), (0, .ref x), (1, .int pp), (2, .int n), (3, .ref oa)]) hx hb dL_sways_17 hl (by decide) rfl (fun ls hl => ?_)
      refine lv_iconst (v := 2) hx hb dL_sways_19 (by decide) ?_
      have hP : va_P g.1 vwCl (List.flatten [bOut g oa fz, bDR g x ta o lo go tt lt mo fo ro fl9, bFo g fo o lo oD, bTown g o a pe wo tx ch jo tr dy sd f, bLaw g lo lc lz ll lm2_15 lg2_16 ld2_17 fc, bTown g oD aD peD2_18 woD2_19 txD2_20 chD2_21 joD2_22 trD2_23 dyD2_24 sdD2_25 fD2_26]) H := hP
      have hD : va_D A (List.flatten [bOut g oa fz, bDR g x ta o lo go tt lt mo fo ro fl9, bFo g fo o lo oD, bTown g o a pe wo tx ch jo tr dy sd f, bLaw g lo lc lz ll lm2_15 lg2_16 ld2_17 fc, bTown g oD aD peD2_18 woD2_19 txD2_20 chD2_21 joD2_22 trD2_23 dyD2_24 sdD2_25 fD2_26]) := hD
      obtain ⟨hP, hD⟩ := zord (g := g) (Bs' := [bDR g x ta o lo go tt lt mo fo ro fl9, bFo g fo o lo oD, bTown g o a pe wo tx ch jo tr dy sd f, bLaw g lo lc lz ll lm2_15 lg2_16 ld2_17 fc, bTown g oD aD peD2_18 woD2_19 txD2_20 chD2_21 joD2_22 trD2_23 dyD2_24 sdD2_25 fD2_26, bOut g oa fz]) [1, 2, 3, 4, 5, 0] rfl rfl hP hD
      exact zret_i hx hb hr hlocks hS (Nat.le_of_ble_eq_true rfl) (Nat.le_of_ble_eq_true rfl) dL_sways_20 (lm2_15, lg2_16, ld2_17, peD2_18, woD2_19, txD2_20, chD2_21, joD2_22, trD2_23, dyD2_24, sdD2_25, fD2_26, fz, (2 : Int32)) rfl (show (0 ≤ peD2_18.toInt ∧ peD2_18.toInt ≤ 8) ∧ (0 ≤ woD2_19.toInt ∧ woD2_19.toInt ≤ 6) ∧ (zZ4 fD2_26) from ⟨hy27, hy28, rfD2_26⟩) hP hD
  · skip
    obtain ⟨lm2_1, lg2_2, ld2_3, peD2_4, woD2_5, txD2_6, chD2_7, joD2_8, trD2_9, dyD2_10, sdD2_11, fD2_12, q_13⟩ := u_
    replace hq14 : (0 ≤ peD2_4.toInt ∧ peD2_4.toInt ≤ 8) ∧ (0 ≤ woD2_5.toInt ∧ woD2_5.toInt ≤ 6) ∧ (zZ4 fD2_12) := hq14
    have hP : va_P g.1 vwCl (List.flatten [bOut g oa fz, bDR g x ta o lo go tt lt mo fo ro fl9, bFo g fo o lo oD, bTown g o a pe wo tx ch jo tr dy sd f, bLaw g lo lc lz ll lm2_1 lg2_2 ld2_3 fc, bTown g oD aD peD2_4 woD2_5 txD2_6 chD2_7 joD2_8 trD2_9 dyD2_10 sdD2_11 fD2_12]) H := hP
    have hD : va_D A (List.flatten [bOut g oa fz, bDR g x ta o lo go tt lt mo fo ro fl9, bFo g fo o lo oD, bTown g o a pe wo tx ch jo tr dy sd f, bLaw g lo lc lz ll lm2_1 lg2_2 ld2_3 fc, bTown g oD aD peD2_4 woD2_5 txD2_6 chD2_7 joD2_8 trD2_9 dyD2_10 sdD2_11 fD2_12]) := hD
    refine W.widen (k := 2) (n := 12) (Nat.le_of_ble_eq_true rfl) (Nat.le_of_ble_eq_true rfl) ?_
    refine W.eq (g2 := F0 m 8 ls [.int q_13, .int 0, .ref oa]) rfl ?_
    obtain ⟨hq14_0, hq14_1, rfD2_12⟩ := hq14
    refine lv_i2l hx hb dL_sways_8 rfl (zgl (fun y29 => ?_))
    refine va_last hx hb hK hP hD hS 0 2 rfl rfl (zin rfl) dL_sways_9 (fun H locs hP hD hS => ?_)
    have hP : va_P g.1 vwCl (List.flatten [[(oa, .inl (g.2 2, 1, .inr (.inl (vp_updL fz 0 y29))))], bDR g x ta o lo go tt lt mo fo ro fl9, bFo g fo o lo oD, bTown g o a pe wo tx ch jo tr dy sd f, bLaw g lo lc lz ll lm2_1 lg2_2 ld2_3 fc, bTown g oD aD peD2_4 woD2_5 txD2_6 chD2_7 joD2_8 trD2_9 dyD2_10 sdD2_11 fD2_12]) H := hP
    have hD : va_D A (List.flatten [[(oa, .inl (g.2 2, 1, .inr (.inl (vp_updL fz 0 y29))))], bDR g x ta o lo go tt lt mo fo ro fl9, bFo g fo o lo oD, bTown g o a pe wo tx ch jo tr dy sd f, bLaw g lo lc lz ll lm2_1 lg2_2 ld2_3 fc, bTown g oD aD peD2_4 woD2_5 txD2_6 chD2_7 joD2_8 trD2_9 dyD2_10 sdD2_11 fD2_12]) := hD
    refine lv_goto (tgt := 21) hx hb dL_sways_10 (by decide) ?_
    refine lv_iconst (v := 0) hx hb dL_sways_21 (by decide) ?_
    have hP : va_P g.1 vwCl (List.flatten [bOut g oa (vp_updL fz 0 y29), bDR g x ta o lo go tt lt mo fo ro fl9, bFo g fo o lo oD, bTown g o a pe wo tx ch jo tr dy sd f, bLaw g lo lc lz ll lm2_1 lg2_2 ld2_3 fc, bTown g oD aD peD2_4 woD2_5 txD2_6 chD2_7 joD2_8 trD2_9 dyD2_10 sdD2_11 fD2_12]) H := hP
    have hD : va_D A (List.flatten [bOut g oa (vp_updL fz 0 y29), bDR g x ta o lo go tt lt mo fo ro fl9, bFo g fo o lo oD, bTown g o a pe wo tx ch jo tr dy sd f, bLaw g lo lc lz ll lm2_1 lg2_2 ld2_3 fc, bTown g oD aD peD2_4 woD2_5 txD2_6 chD2_7 joD2_8 trD2_9 dyD2_10 sdD2_11 fD2_12]) := hD
    obtain ⟨hP, hD⟩ := zord (g := g) (Bs' := [bDR g x ta o lo go tt lt mo fo ro fl9, bFo g fo o lo oD, bTown g o a pe wo tx ch jo tr dy sd f, bLaw g lo lc lz ll lm2_1 lg2_2 ld2_3 fc, bTown g oD aD peD2_4 woD2_5 txD2_6 chD2_7 joD2_8 trD2_9 dyD2_10 sdD2_11 fD2_12, bOut g oa (vp_updL fz 0 y29)]) [1, 2, 3, 4, 5, 0] rfl rfl hP hD
    exact zret_i hx hb hr hlocks hS (Nat.le_of_ble_eq_true rfl) (Nat.le_of_ble_eq_true rfl) dL_sways_22 (lm2_1, lg2_2, ld2_3, peD2_4, woD2_5, txD2_6, chD2_7, joD2_8, trD2_9, dyD2_10, sdD2_11, fD2_12, vp_updL fz 0 y29, (0 : Int32)) rfl (show (0 ≤ peD2_4.toInt ∧ peD2_4.toInt ≤ 8) ∧ (0 ≤ woD2_5.toInt ∧ woD2_5.toInt ≤ 6) ∧ (zZ4 fD2_12) from ⟨hq14_0, hq14_1, rfD2_12⟩) hP hD
set_option maxRecDepth 100000 in
set_option maxHeartbeats 4000000 in
theorem l_guru (l : Launch) (hfl : l.stackTraces = false) (g : zG) (x : Nat) (ta : Nat) (o : Nat) (lo : Nat) (go : Nat) (tt : Nat) (lt : Nat) (mo : Nat) (fo : Nat) (ro : Nat) (fl9 : Int32) (a : Nat → Nat) (pe : Int32) (wo : Int32) (tx : Int32) (ch : Int32) (jo : Int32) (tr : Int32) (dy : Int32) (sd : Int32) (f : Nat → Nat → Int32) (lc : Nat) (lz : Int32) (ll : Int32) (lm : Int32) (lg : Int32) (ld : Int32) (fc : Nat → Int32) (oD : Nat) (aD : Nat → Nat) (peD : Int32) (woD : Int32) (txD : Int32) (chD : Int32) (joD : Int32) (trD : Int32) (dyD : Int32) (sdD : Int32) (fD : Nat → Nat → Int32) (oa : Nat) (fz : Nat → Int64) (n : Int32) (b_pe : 0 ≤ pe.toInt ∧ pe.toInt ≤ 8) (b_wo : 0 ≤ wo.toInt ∧ wo.toInt ≤ 6) (rf : zZ4 f) (b_lz : 0 ≤ lz.toInt ∧ lz.toInt ≤ 400) (b_peD : 0 ≤ peD.toInt ∧ peD.toInt ≤ 8) (b_woD : 0 ≤ woD.toInt ∧ woD.toInt ≤ 6) (rfD : zZ4 fD) : zX' g l yL_guru (Cond.codeWith yL_guru cL_guru 4 (some .int) [(0, 9, 12, 13)] :: zB) ({ frames := 9, cells := 1, slots := 6, locals := 198 } : Room) [.ref x, .int n, .ref oa] [bDR g x ta o lo go tt lt mo fo ro fl9, bFo g fo o lo oD, bTown g o a pe wo tx ch jo tr dy sd f, bLaw g lo lc lz ll lm lg ld fc, bTown g oD aD peD woD txD chD joD trD dyD sdD fD, bOut g oa fz] (fun u : Int32 × Int32 × Int32 × Int32 × Int32 × Int32 × Int32 × Int32 × Int32 × Int32 × Int32 × (Nat → Nat → Int32) × (Nat → Int64) × Int32 => (fun (lm2 : Int32) (lg2 : Int32) (ld2 : Int32) (peD2 : Int32) (woD2 : Int32) (txD2 : Int32) (chD2 : Int32) (joD2 : Int32) (trD2 : Int32) (dyD2 : Int32) (sdD2 : Int32) (fD2 : Nat → Nat → Int32) (fz2 : Nat → Int64) (q : Int32) => some (.int q)) (u.1) (u.2.1) (u.2.2.1) (u.2.2.2.1) (u.2.2.2.2.1) (u.2.2.2.2.2.1) (u.2.2.2.2.2.2.1) (u.2.2.2.2.2.2.2.1) (u.2.2.2.2.2.2.2.2.1) (u.2.2.2.2.2.2.2.2.2.1) (u.2.2.2.2.2.2.2.2.2.2.1) (u.2.2.2.2.2.2.2.2.2.2.2.1) (u.2.2.2.2.2.2.2.2.2.2.2.2.1) (u.2.2.2.2.2.2.2.2.2.2.2.2.2)) (fun u : Int32 × Int32 × Int32 × Int32 × Int32 × Int32 × Int32 × Int32 × Int32 × Int32 × Int32 × (Nat → Nat → Int32) × (Nat → Int64) × Int32 => (fun (lm2 : Int32) (lg2 : Int32) (ld2 : Int32) (peD2 : Int32) (woD2 : Int32) (txD2 : Int32) (chD2 : Int32) (joD2 : Int32) (trD2 : Int32) (dyD2 : Int32) (sdD2 : Int32) (fD2 : Nat → Nat → Int32) (fz2 : Nat → Int64) (q : Int32) => (0 ≤ peD2.toInt ∧ peD2.toInt ≤ 8) ∧ (0 ≤ woD2.toInt ∧ woD2.toInt ≤ 6) ∧ (zZ4 fD2)) (u.1) (u.2.1) (u.2.2.1) (u.2.2.2.1) (u.2.2.2.2.1) (u.2.2.2.2.2.1) (u.2.2.2.2.2.2.1) (u.2.2.2.2.2.2.2.1) (u.2.2.2.2.2.2.2.2.1) (u.2.2.2.2.2.2.2.2.2.1) (u.2.2.2.2.2.2.2.2.2.2.1) (u.2.2.2.2.2.2.2.2.2.2.2.1) (u.2.2.2.2.2.2.2.2.2.2.2.2.1) (u.2.2.2.2.2.2.2.2.2.2.2.2.2)) (fun u : Int32 × Int32 × Int32 × Int32 × Int32 × Int32 × Int32 × Int32 × Int32 × Int32 × Int32 × (Nat → Nat → Int32) × (Nat → Int64) × Int32 => (fun (lm2 : Int32) (lg2 : Int32) (ld2 : Int32) (peD2 : Int32) (woD2 : Int32) (txD2 : Int32) (chD2 : Int32) (joD2 : Int32) (trD2 : Int32) (dyD2 : Int32) (sdD2 : Int32) (fD2 : Nat → Nat → Int32) (fz2 : Nat → Int64) (q : Int32) => [bDR g x ta o lo go tt lt mo fo ro fl9, bFo g fo o lo oD, bTown g o a pe wo tx ch jo tr dy sd f, bLaw g lo lc lz ll lm2 lg2 ld2 fc, bTown g oD aD peD2 woD2 txD2 chD2 joD2 trD2 dyD2 sdD2 fD2, bOut g oa fz2]) (u.1) (u.2.1) (u.2.2.1) (u.2.2.2.1) (u.2.2.2.2.1) (u.2.2.2.2.2.1) (u.2.2.2.2.2.2.1) (u.2.2.2.2.2.2.2.1) (u.2.2.2.2.2.2.2.2.1) (u.2.2.2.2.2.2.2.2.2.1) (u.2.2.2.2.2.2.2.2.2.2.1) (u.2.2.2.2.2.2.2.2.2.2.2.1) (u.2.2.2.2.2.2.2.2.2.2.2.2.1) (u.2.2.2.2.2.2.2.2.2.2.2.2.2)) zNo zN0 := by
  refine zX'.ofH (cc := cL_guru) (maxL := 4) (rt := (some .int)) (by decide) rfl (Nat.le_of_ble_eq_true rfl) ?_
  intro p e s m args below meth c A ls St hr hlocks htab hin hK hT hA hP hD hS hl
  obtain ⟨hx, hb, hml, hown, hts⟩ := id St
  have hl : lv_has ls 4 [(0, .ref x), (1, .int n), (2, .ref oa)] := hl
  refine lv_aload_n hx hb dL_guru_0 rfl (lv_at hl 2 rfl) ?_
  refine lv_iconst (v := 0) hx hb dL_guru_1 (by decide) ?_
  refine lv_aload_n hx hb dL_guru_2 rfl (lv_at hl 0 rfl) ?_
  refine lv_iload_n hx hb dL_guru_3 rfl (lv_at hl 1 rfl) ?_
  refine xcallV' (g := g) (q0 := 0) (ci := 9) (As := [.int n]) (rest := [.int 0, .ref oa]) St hK hT hA hP hD hS hl.1 [0, 1, 2, 3, 4] [5] rfl rfl rfl (c_x_guru l hfl g x ta o lo go tt lt mo fo ro fl9 a pe wo tx ch jo tr dy sd f lc lz ll lm lg ld fc oD aD peD woD txD chD joD trD dyD sdD fD n b_pe b_wo rf b_lz b_peD b_woD rfD) (cwV 1 hts (zgL (zl4 k1224 k1225 k1226 k621) k692) rfl rfl rfl (by decide +kernel) ⟨Nat.le_of_ble_eq_true rfl, Nat.le_of_ble_eq_true rfl⟩) rfl rfl rfl rfl (Nat.le_of_ble_eq_true rfl) dL_guru_4 ⟨(Nat.le_of_ble_eq_true rfl), (Nat.le_of_ble_eq_true rfl)⟩ (fun E ce q9 u9 H locs hpx hP hD hS hce hcv hcl => ?_) (fun u_ H locs hq14 hP hD hS => ?_)
  · skip
    obtain ⟨lm2_15, lg2_16, ld2_17, peD2_18, woD2_19, txD2_20, chD2_21, joD2_22, trD2_23, dyD2_24, sdD2_25, fD2_26⟩ := u9
    have hpx : (E = "java/lang/IllegalArgumentException") ∧ (0 ≤ peD2_18.toInt ∧ peD2_18.toInt ≤ 8) ∧ (0 ≤ woD2_19.toInt ∧ woD2_19.toInt ≤ 6) ∧ (zZ4 fD2_26) := hpx
    have hP : va_P g.1 vwCl (List.flatten [bOut g oa fz, bDR g x ta o lo go tt lt mo fo ro fl9, bFo g fo o lo oD, bTown g o a pe wo tx ch jo tr dy sd f, bLaw g lo lc lz ll lm2_15 lg2_16 ld2_17 fc, bTown g oD aD peD2_18 woD2_19 txD2_20 chD2_21 joD2_22 trD2_23 dyD2_24 sdD2_25 fD2_26]) H := hP
    have hD : va_D A (List.flatten [bOut g oa fz, bDR g x ta o lo go tt lt mo fo ro fl9, bFo g fo o lo oD, bTown g o a pe wo tx ch jo tr dy sd f, bLaw g lo lc lz ll lm2_15 lg2_16 ld2_17 fc, bTown g oD aD peD2_18 woD2_19 txD2_20 chD2_21 joD2_22 trD2_23 dyD2_24 sdD2_25 fD2_26]) := hD
    obtain ⟨hE9, hy27, hy28, rfD2_26⟩ := hpx
    obtain rfl := hE9
    refine vx_catch hown [] ⟨0, 9, 12, 13⟩ [] (by rw [htab]; rfl) (fun z hz => absurd hz List.not_mem_nil) (by decide) (by decide) (hts _ k1155) ((hT.1.2.2.2.2.1 _ (List.mem_of_getElem? (i := 1) rfl)).use) hce hcv hcl ?_
    refine W.widen (k := 1) (n := 6) (Nat.le_of_ble_eq_true rfl) (Nat.le_of_ble_eq_true rfl) ?_
    refine lv_astore_n (lv' := [(3, .ref q9), (0, .ref x), (1, .int n), (2, .ref oa)]) hx hb dL_guru_12 rfl hl (by decide) rfl (fun ls hl => ?_)
    refine lv_iconst (v := 1) hx hb dL_guru_13 (by decide) ?_
    have hP : va_P g.1 vwCl (List.flatten [bOut g oa fz, bDR g x ta o lo go tt lt mo fo ro fl9, bFo g fo o lo oD, bTown g o a pe wo tx ch jo tr dy sd f, bLaw g lo lc lz ll lm2_15 lg2_16 ld2_17 fc, bTown g oD aD peD2_18 woD2_19 txD2_20 chD2_21 joD2_22 trD2_23 dyD2_24 sdD2_25 fD2_26]) H := hP
    have hD : va_D A (List.flatten [bOut g oa fz, bDR g x ta o lo go tt lt mo fo ro fl9, bFo g fo o lo oD, bTown g o a pe wo tx ch jo tr dy sd f, bLaw g lo lc lz ll lm2_15 lg2_16 ld2_17 fc, bTown g oD aD peD2_18 woD2_19 txD2_20 chD2_21 joD2_22 trD2_23 dyD2_24 sdD2_25 fD2_26]) := hD
    obtain ⟨hP, hD⟩ := zord (g := g) (Bs' := [bDR g x ta o lo go tt lt mo fo ro fl9, bFo g fo o lo oD, bTown g o a pe wo tx ch jo tr dy sd f, bLaw g lo lc lz ll lm2_15 lg2_16 ld2_17 fc, bTown g oD aD peD2_18 woD2_19 txD2_20 chD2_21 joD2_22 trD2_23 dyD2_24 sdD2_25 fD2_26, bOut g oa fz]) [1, 2, 3, 4, 5, 0] rfl rfl hP hD
    exact zret_i hx hb hr hlocks hS (Nat.le_of_ble_eq_true rfl) (Nat.le_of_ble_eq_true rfl) dL_guru_14 (lm2_15, lg2_16, ld2_17, peD2_18, woD2_19, txD2_20, chD2_21, joD2_22, trD2_23, dyD2_24, sdD2_25, fD2_26, fz, (1 : Int32)) rfl (show (0 ≤ peD2_18.toInt ∧ peD2_18.toInt ≤ 8) ∧ (0 ≤ woD2_19.toInt ∧ woD2_19.toInt ≤ 6) ∧ (zZ4 fD2_26) from ⟨hy27, hy28, rfD2_26⟩) hP hD
  · skip
    obtain ⟨lm2_1, lg2_2, ld2_3, peD2_4, woD2_5, txD2_6, chD2_7, joD2_8, trD2_9, dyD2_10, sdD2_11, fD2_12, q_13⟩ := u_
    replace hq14 : (0 ≤ peD2_4.toInt ∧ peD2_4.toInt ≤ 8) ∧ (0 ≤ woD2_5.toInt ∧ woD2_5.toInt ≤ 6) ∧ (zZ4 fD2_12) := hq14
    have hP : va_P g.1 vwCl (List.flatten [bOut g oa fz, bDR g x ta o lo go tt lt mo fo ro fl9, bFo g fo o lo oD, bTown g o a pe wo tx ch jo tr dy sd f, bLaw g lo lc lz ll lm2_1 lg2_2 ld2_3 fc, bTown g oD aD peD2_4 woD2_5 txD2_6 chD2_7 joD2_8 trD2_9 dyD2_10 sdD2_11 fD2_12]) H := hP
    have hD : va_D A (List.flatten [bOut g oa fz, bDR g x ta o lo go tt lt mo fo ro fl9, bFo g fo o lo oD, bTown g o a pe wo tx ch jo tr dy sd f, bLaw g lo lc lz ll lm2_1 lg2_2 ld2_3 fc, bTown g oD aD peD2_4 woD2_5 txD2_6 chD2_7 joD2_8 trD2_9 dyD2_10 sdD2_11 fD2_12]) := hD
    refine W.widen (k := 1) (n := 6) (Nat.le_of_ble_eq_true rfl) (Nat.le_of_ble_eq_true rfl) ?_
    refine W.eq (g2 := F0 m 7 ls [.int q_13, .int 0, .ref oa]) rfl ?_
    obtain ⟨hq14_0, hq14_1, rfD2_12⟩ := hq14
    refine lv_i2l hx hb dL_guru_7 rfl (zgl (fun y29 => ?_))
    refine va_last hx hb hK hP hD hS 0 2 rfl rfl (zin rfl) dL_guru_8 (fun H locs hP hD hS => ?_)
    have hP : va_P g.1 vwCl (List.flatten [[(oa, .inl (g.2 2, 1, .inr (.inl (vp_updL fz 0 y29))))], bDR g x ta o lo go tt lt mo fo ro fl9, bFo g fo o lo oD, bTown g o a pe wo tx ch jo tr dy sd f, bLaw g lo lc lz ll lm2_1 lg2_2 ld2_3 fc, bTown g oD aD peD2_4 woD2_5 txD2_6 chD2_7 joD2_8 trD2_9 dyD2_10 sdD2_11 fD2_12]) H := hP
    have hD : va_D A (List.flatten [[(oa, .inl (g.2 2, 1, .inr (.inl (vp_updL fz 0 y29))))], bDR g x ta o lo go tt lt mo fo ro fl9, bFo g fo o lo oD, bTown g o a pe wo tx ch jo tr dy sd f, bLaw g lo lc lz ll lm2_1 lg2_2 ld2_3 fc, bTown g oD aD peD2_4 woD2_5 txD2_6 chD2_7 joD2_8 trD2_9 dyD2_10 sdD2_11 fD2_12]) := hD
    refine lv_goto (tgt := 15) hx hb dL_guru_9 (by decide) ?_
    refine lv_iconst (v := 0) hx hb dL_guru_15 (by decide) ?_
    have hP : va_P g.1 vwCl (List.flatten [bOut g oa (vp_updL fz 0 y29), bDR g x ta o lo go tt lt mo fo ro fl9, bFo g fo o lo oD, bTown g o a pe wo tx ch jo tr dy sd f, bLaw g lo lc lz ll lm2_1 lg2_2 ld2_3 fc, bTown g oD aD peD2_4 woD2_5 txD2_6 chD2_7 joD2_8 trD2_9 dyD2_10 sdD2_11 fD2_12]) H := hP
    have hD : va_D A (List.flatten [bOut g oa (vp_updL fz 0 y29), bDR g x ta o lo go tt lt mo fo ro fl9, bFo g fo o lo oD, bTown g o a pe wo tx ch jo tr dy sd f, bLaw g lo lc lz ll lm2_1 lg2_2 ld2_3 fc, bTown g oD aD peD2_4 woD2_5 txD2_6 chD2_7 joD2_8 trD2_9 dyD2_10 sdD2_11 fD2_12]) := hD
    obtain ⟨hP, hD⟩ := zord (g := g) (Bs' := [bDR g x ta o lo go tt lt mo fo ro fl9, bFo g fo o lo oD, bTown g o a pe wo tx ch jo tr dy sd f, bLaw g lo lc lz ll lm2_1 lg2_2 ld2_3 fc, bTown g oD aD peD2_4 woD2_5 txD2_6 chD2_7 joD2_8 trD2_9 dyD2_10 sdD2_11 fD2_12, bOut g oa (vp_updL fz 0 y29)]) [1, 2, 3, 4, 5, 0] rfl rfl hP hD
    exact zret_i hx hb hr hlocks hS (Nat.le_of_ble_eq_true rfl) (Nat.le_of_ble_eq_true rfl) dL_guru_16 (lm2_1, lg2_2, ld2_3, peD2_4, woD2_5, txD2_6, chD2_7, joD2_8, trD2_9, dyD2_10, sdD2_11, fD2_12, vp_updL fz 0 y29, (0 : Int32)) rfl (show (0 ≤ peD2_4.toInt ∧ peD2_4.toInt ≤ 8) ∧ (0 ≤ woD2_5.toInt ∧ woD2_5.toInt ≤ 6) ∧ (zZ4 fD2_12) from ⟨hq14_0, hq14_1, rfD2_12⟩) hP hD
set_option maxRecDepth 100000 in
set_option maxHeartbeats 4000000 in
theorem l_must (l : Launch) (hfl : l.stackTraces = false) (g : zG) (x : Nat) (ta : Nat) (o : Nat) (lo : Nat) (go : Nat) (tt : Nat) (lt : Nat) (mo : Nat) (fo : Nat) (ro : Nat) (fl9 : Int32) (a : Nat → Nat) (pe : Int32) (wo : Int32) (tx : Int32) (ch : Int32) (jo : Int32) (tr : Int32) (dy : Int32) (sd : Int32) (f : Nat → Nat → Int32) (lc : Nat) (lz : Int32) (ll : Int32) (lm : Int32) (lg : Int32) (ld : Int32) (fc : Nat → Int32) (oD : Nat) (aD : Nat → Nat) (peD : Int32) (woD : Int32) (txD : Int32) (chD : Int32) (joD : Int32) (trD : Int32) (dyD : Int32) (sdD : Int32) (fD : Nat → Nat → Int32) (oa : Nat) (fz : Nat → Int64) (xx : Int32) (n : Int32) (b_pe : 0 ≤ pe.toInt ∧ pe.toInt ≤ 8) (b_wo : 0 ≤ wo.toInt ∧ wo.toInt ≤ 6) (rf : zZ4 f) (b_lz : 0 ≤ lz.toInt ∧ lz.toInt ≤ 400) (b_peD : 0 ≤ peD.toInt ∧ peD.toInt ≤ 8) (b_woD : 0 ≤ woD.toInt ∧ woD.toInt ≤ 6) (rfD : zZ4 fD) : zX' g l yL_must (Cond.codeWith yL_must cL_must 5 (some .int) [(0, 10, 13, 13)] :: zB) ({ frames := 9, cells := 2, slots := 12, locals := 199 } : Room) [.ref x, .int xx, .int n, .ref oa] [bDR g x ta o lo go tt lt mo fo ro fl9, bFo g fo o lo oD, bTown g o a pe wo tx ch jo tr dy sd f, bLaw g lo lc lz ll lm lg ld fc, bTown g oD aD peD woD txD chD joD trD dyD sdD fD, bOut g oa fz] (fun u : Int32 × Int32 × Int32 × Int32 × Int32 × Int32 × Int32 × Int32 × Int32 × Int32 × Int32 × (Nat → Nat → Int32) × (Nat → Int64) × Int32 => (fun (lm2 : Int32) (lg2 : Int32) (ld2 : Int32) (peD2 : Int32) (woD2 : Int32) (txD2 : Int32) (chD2 : Int32) (joD2 : Int32) (trD2 : Int32) (dyD2 : Int32) (sdD2 : Int32) (fD2 : Nat → Nat → Int32) (fz2 : Nat → Int64) (q : Int32) => some (.int q)) (u.1) (u.2.1) (u.2.2.1) (u.2.2.2.1) (u.2.2.2.2.1) (u.2.2.2.2.2.1) (u.2.2.2.2.2.2.1) (u.2.2.2.2.2.2.2.1) (u.2.2.2.2.2.2.2.2.1) (u.2.2.2.2.2.2.2.2.2.1) (u.2.2.2.2.2.2.2.2.2.2.1) (u.2.2.2.2.2.2.2.2.2.2.2.1) (u.2.2.2.2.2.2.2.2.2.2.2.2.1) (u.2.2.2.2.2.2.2.2.2.2.2.2.2)) (fun u : Int32 × Int32 × Int32 × Int32 × Int32 × Int32 × Int32 × Int32 × Int32 × Int32 × Int32 × (Nat → Nat → Int32) × (Nat → Int64) × Int32 => (fun (lm2 : Int32) (lg2 : Int32) (ld2 : Int32) (peD2 : Int32) (woD2 : Int32) (txD2 : Int32) (chD2 : Int32) (joD2 : Int32) (trD2 : Int32) (dyD2 : Int32) (sdD2 : Int32) (fD2 : Nat → Nat → Int32) (fz2 : Nat → Int64) (q : Int32) => (0 ≤ peD2.toInt ∧ peD2.toInt ≤ 8) ∧ (0 ≤ woD2.toInt ∧ woD2.toInt ≤ 6) ∧ (zZ4 fD2)) (u.1) (u.2.1) (u.2.2.1) (u.2.2.2.1) (u.2.2.2.2.1) (u.2.2.2.2.2.1) (u.2.2.2.2.2.2.1) (u.2.2.2.2.2.2.2.1) (u.2.2.2.2.2.2.2.2.1) (u.2.2.2.2.2.2.2.2.2.1) (u.2.2.2.2.2.2.2.2.2.2.1) (u.2.2.2.2.2.2.2.2.2.2.2.1) (u.2.2.2.2.2.2.2.2.2.2.2.2.1) (u.2.2.2.2.2.2.2.2.2.2.2.2.2)) (fun u : Int32 × Int32 × Int32 × Int32 × Int32 × Int32 × Int32 × Int32 × Int32 × Int32 × Int32 × (Nat → Nat → Int32) × (Nat → Int64) × Int32 => (fun (lm2 : Int32) (lg2 : Int32) (ld2 : Int32) (peD2 : Int32) (woD2 : Int32) (txD2 : Int32) (chD2 : Int32) (joD2 : Int32) (trD2 : Int32) (dyD2 : Int32) (sdD2 : Int32) (fD2 : Nat → Nat → Int32) (fz2 : Nat → Int64) (q : Int32) => [bDR g x ta o lo go tt lt mo fo ro fl9, bFo g fo o lo oD, bTown g o a pe wo tx ch jo tr dy sd f, bLaw g lo lc lz ll lm2 lg2 ld2 fc, bTown g oD aD peD2 woD2 txD2 chD2 joD2 trD2 dyD2 sdD2 fD2, bOut g oa fz2]) (u.1) (u.2.1) (u.2.2.1) (u.2.2.2.1) (u.2.2.2.2.1) (u.2.2.2.2.2.1) (u.2.2.2.2.2.2.1) (u.2.2.2.2.2.2.2.1) (u.2.2.2.2.2.2.2.2.1) (u.2.2.2.2.2.2.2.2.2.1) (u.2.2.2.2.2.2.2.2.2.2.1) (u.2.2.2.2.2.2.2.2.2.2.2.1) (u.2.2.2.2.2.2.2.2.2.2.2.2.1) (u.2.2.2.2.2.2.2.2.2.2.2.2.2)) zNo zN0 := by
  refine zX'.ofH (cc := cL_must) (maxL := 5) (rt := (some .int)) (by decide) rfl (Nat.le_of_ble_eq_true rfl) ?_
  intro p e s m args below meth c A ls St hr hlocks htab hin hK hT hA hP hD hS hl
  obtain ⟨hx, hb, hml, hown, hts⟩ := id St
  have hl : lv_has ls 5 [(0, .ref x), (1, .int xx), (2, .int n), (3, .ref oa)] := hl
  refine lv_aload_n hx hb dL_must_0 rfl (lv_at hl 3 rfl) ?_
  refine lv_iconst (v := 0) hx hb dL_must_1 (by decide) ?_
  refine lv_aload_n hx hb dL_must_2 rfl (lv_at hl 0 rfl) ?_
  refine lv_iload_n hx hb dL_must_3 rfl (lv_at hl 1 rfl) ?_
  refine lv_iload_n hx hb dL_must_4 rfl (lv_at hl 2 rfl) ?_
  refine xcallV' (g := g) (q0 := 0) (ci := 9) (As := [.int xx, .int n]) (rest := [.int 0, .ref oa]) St hK hT hA hP hD hS hl.1 [0, 1, 2, 3, 4] [5] rfl rfl rfl (c_x_must l hfl g x ta o lo go tt lt mo fo ro fl9 a pe wo tx ch jo tr dy sd f lc lz ll lm lg ld fc oD aD peD woD txD chD joD trD dyD sdD fD xx n b_pe b_wo rf b_lz b_peD b_woD rfD) (cwV 2 hts (zgL (zl4 k1228 k1229 k1230 k621) k696) rfl rfl rfl (by decide +kernel) ⟨Nat.le_of_ble_eq_true rfl, Nat.le_of_ble_eq_true rfl⟩) rfl rfl rfl rfl (Nat.le_of_ble_eq_true rfl) dL_must_5 ⟨(Nat.le_of_ble_eq_true rfl), (Nat.le_of_ble_eq_true rfl)⟩ (fun E ce q9 u9 H locs hpx hP hD hS hce hcv hcl => ?_) (fun u_ H locs hq14 hP hD hS => ?_)
  · skip
    obtain ⟨lm2_15, lg2_16, ld2_17, peD2_18, woD2_19, txD2_20, chD2_21, joD2_22, trD2_23, dyD2_24, sdD2_25, fD2_26⟩ := u9
    have hpx : (E = "java/lang/IllegalArgumentException") ∧ (0 ≤ peD2_18.toInt ∧ peD2_18.toInt ≤ 8) ∧ (0 ≤ woD2_19.toInt ∧ woD2_19.toInt ≤ 6) ∧ (zZ4 fD2_26) := hpx
    have hP : va_P g.1 vwCl (List.flatten [bOut g oa fz, bDR g x ta o lo go tt lt mo fo ro fl9, bFo g fo o lo oD, bTown g o a pe wo tx ch jo tr dy sd f, bLaw g lo lc lz ll lm2_15 lg2_16 ld2_17 fc, bTown g oD aD peD2_18 woD2_19 txD2_20 chD2_21 joD2_22 trD2_23 dyD2_24 sdD2_25 fD2_26]) H := hP
    have hD : va_D A (List.flatten [bOut g oa fz, bDR g x ta o lo go tt lt mo fo ro fl9, bFo g fo o lo oD, bTown g o a pe wo tx ch jo tr dy sd f, bLaw g lo lc lz ll lm2_15 lg2_16 ld2_17 fc, bTown g oD aD peD2_18 woD2_19 txD2_20 chD2_21 joD2_22 trD2_23 dyD2_24 sdD2_25 fD2_26]) := hD
    obtain ⟨hE9, hy27, hy28, rfD2_26⟩ := hpx
    obtain rfl := hE9
    refine vx_catch hown [] ⟨0, 10, 13, 13⟩ [] (by rw [htab]; rfl) (fun z hz => absurd hz List.not_mem_nil) (by decide) (by decide) (hts _ k1155) ((hT.1.2.2.2.2.1 _ (List.mem_of_getElem? (i := 1) rfl)).use) hce hcv hcl ?_
    refine W.widen (k := 2) (n := 12) (Nat.le_of_ble_eq_true rfl) (Nat.le_of_ble_eq_true rfl) ?_
    refine lv_astore (lv' := [(4, .ref q9), (0, .ref x), (1, .int xx), (2, .int n), (3, .ref oa)]) hx hb dL_must_13 hl (by decide) rfl (fun ls hl => ?_)
    refine lv_iconst (v := 1) hx hb dL_must_15 (by decide) ?_
    have hP : va_P g.1 vwCl (List.flatten [bOut g oa fz, bDR g x ta o lo go tt lt mo fo ro fl9, bFo g fo o lo oD, bTown g o a pe wo tx ch jo tr dy sd f, bLaw g lo lc lz ll lm2_15 lg2_16 ld2_17 fc, bTown g oD aD peD2_18 woD2_19 txD2_20 chD2_21 joD2_22 trD2_23 dyD2_24 sdD2_25 fD2_26]) H := hP
    have hD : va_D A (List.flatten [bOut g oa fz, bDR g x ta o lo go tt lt mo fo ro fl9, bFo g fo o lo oD, bTown g o a pe wo tx ch jo tr dy sd f, bLaw g lo lc lz ll lm2_15 lg2_16 ld2_17 fc, bTown g oD aD peD2_18 woD2_19 txD2_20 chD2_21 joD2_22 trD2_23 dyD2_24 sdD2_25 fD2_26]) := hD
    obtain ⟨hP, hD⟩ := zord (g := g) (Bs' := [bDR g x ta o lo go tt lt mo fo ro fl9, bFo g fo o lo oD, bTown g o a pe wo tx ch jo tr dy sd f, bLaw g lo lc lz ll lm2_15 lg2_16 ld2_17 fc, bTown g oD aD peD2_18 woD2_19 txD2_20 chD2_21 joD2_22 trD2_23 dyD2_24 sdD2_25 fD2_26, bOut g oa fz]) [1, 2, 3, 4, 5, 0] rfl rfl hP hD
    exact zret_i hx hb hr hlocks hS (Nat.le_of_ble_eq_true rfl) (Nat.le_of_ble_eq_true rfl) dL_must_16 (lm2_15, lg2_16, ld2_17, peD2_18, woD2_19, txD2_20, chD2_21, joD2_22, trD2_23, dyD2_24, sdD2_25, fD2_26, fz, (1 : Int32)) rfl (show (0 ≤ peD2_18.toInt ∧ peD2_18.toInt ≤ 8) ∧ (0 ≤ woD2_19.toInt ∧ woD2_19.toInt ≤ 6) ∧ (zZ4 fD2_26) from ⟨hy27, hy28, rfD2_26⟩) hP hD
  · skip
    obtain ⟨lm2_1, lg2_2, ld2_3, peD2_4, woD2_5, txD2_6, chD2_7, joD2_8, trD2_9, dyD2_10, sdD2_11, fD2_12, q_13⟩ := u_
    replace hq14 : (0 ≤ peD2_4.toInt ∧ peD2_4.toInt ≤ 8) ∧ (0 ≤ woD2_5.toInt ∧ woD2_5.toInt ≤ 6) ∧ (zZ4 fD2_12) := hq14
    have hP : va_P g.1 vwCl (List.flatten [bOut g oa fz, bDR g x ta o lo go tt lt mo fo ro fl9, bFo g fo o lo oD, bTown g o a pe wo tx ch jo tr dy sd f, bLaw g lo lc lz ll lm2_1 lg2_2 ld2_3 fc, bTown g oD aD peD2_4 woD2_5 txD2_6 chD2_7 joD2_8 trD2_9 dyD2_10 sdD2_11 fD2_12]) H := hP
    have hD : va_D A (List.flatten [bOut g oa fz, bDR g x ta o lo go tt lt mo fo ro fl9, bFo g fo o lo oD, bTown g o a pe wo tx ch jo tr dy sd f, bLaw g lo lc lz ll lm2_1 lg2_2 ld2_3 fc, bTown g oD aD peD2_4 woD2_5 txD2_6 chD2_7 joD2_8 trD2_9 dyD2_10 sdD2_11 fD2_12]) := hD
    refine W.widen (k := 2) (n := 12) (Nat.le_of_ble_eq_true rfl) (Nat.le_of_ble_eq_true rfl) ?_
    refine W.eq (g2 := F0 m 8 ls [.int q_13, .int 0, .ref oa]) rfl ?_
    obtain ⟨hq14_0, hq14_1, rfD2_12⟩ := hq14
    refine lv_i2l hx hb dL_must_8 rfl (zgl (fun y29 => ?_))
    refine va_last hx hb hK hP hD hS 0 2 rfl rfl (zin rfl) dL_must_9 (fun H locs hP hD hS => ?_)
    have hP : va_P g.1 vwCl (List.flatten [[(oa, .inl (g.2 2, 1, .inr (.inl (vp_updL fz 0 y29))))], bDR g x ta o lo go tt lt mo fo ro fl9, bFo g fo o lo oD, bTown g o a pe wo tx ch jo tr dy sd f, bLaw g lo lc lz ll lm2_1 lg2_2 ld2_3 fc, bTown g oD aD peD2_4 woD2_5 txD2_6 chD2_7 joD2_8 trD2_9 dyD2_10 sdD2_11 fD2_12]) H := hP
    have hD : va_D A (List.flatten [[(oa, .inl (g.2 2, 1, .inr (.inl (vp_updL fz 0 y29))))], bDR g x ta o lo go tt lt mo fo ro fl9, bFo g fo o lo oD, bTown g o a pe wo tx ch jo tr dy sd f, bLaw g lo lc lz ll lm2_1 lg2_2 ld2_3 fc, bTown g oD aD peD2_4 woD2_5 txD2_6 chD2_7 joD2_8 trD2_9 dyD2_10 sdD2_11 fD2_12]) := hD
    refine lv_goto (tgt := 17) hx hb dL_must_10 (by decide) ?_
    refine lv_iconst (v := 0) hx hb dL_must_17 (by decide) ?_
    have hP : va_P g.1 vwCl (List.flatten [bOut g oa (vp_updL fz 0 y29), bDR g x ta o lo go tt lt mo fo ro fl9, bFo g fo o lo oD, bTown g o a pe wo tx ch jo tr dy sd f, bLaw g lo lc lz ll lm2_1 lg2_2 ld2_3 fc, bTown g oD aD peD2_4 woD2_5 txD2_6 chD2_7 joD2_8 trD2_9 dyD2_10 sdD2_11 fD2_12]) H := hP
    have hD : va_D A (List.flatten [bOut g oa (vp_updL fz 0 y29), bDR g x ta o lo go tt lt mo fo ro fl9, bFo g fo o lo oD, bTown g o a pe wo tx ch jo tr dy sd f, bLaw g lo lc lz ll lm2_1 lg2_2 ld2_3 fc, bTown g oD aD peD2_4 woD2_5 txD2_6 chD2_7 joD2_8 trD2_9 dyD2_10 sdD2_11 fD2_12]) := hD
    obtain ⟨hP, hD⟩ := zord (g := g) (Bs' := [bDR g x ta o lo go tt lt mo fo ro fl9, bFo g fo o lo oD, bTown g o a pe wo tx ch jo tr dy sd f, bLaw g lo lc lz ll lm2_1 lg2_2 ld2_3 fc, bTown g oD aD peD2_4 woD2_5 txD2_6 chD2_7 joD2_8 trD2_9 dyD2_10 sdD2_11 fD2_12, bOut g oa (vp_updL fz 0 y29)]) [1, 2, 3, 4, 5, 0] rfl rfl hP hD
    exact zret_i hx hb hr hlocks hS (Nat.le_of_ble_eq_true rfl) (Nat.le_of_ble_eq_true rfl) dL_must_18 (lm2_1, lg2_2, ld2_3, peD2_4, woD2_5, txD2_6, chD2_7, joD2_8, trD2_9, dyD2_10, sdD2_11, fD2_12, vp_updL fz 0 y29, (0 : Int32)) rfl (show (0 ≤ peD2_4.toInt ∧ peD2_4.toInt ≤ 8) ∧ (0 ≤ woD2_5.toInt ∧ woD2_5.toInt ≤ 6) ∧ (zZ4 fD2_12) from ⟨hq14_0, hq14_1, rfD2_12⟩) hP hD
set_option maxRecDepth 100000 in
set_option maxHeartbeats 4000000 in
theorem l_reaches (l : Launch) (hfl : l.stackTraces = false) (g : zG) (x : Nat) (ta : Nat) (o : Nat) (lo : Nat) (go : Nat) (tt : Nat) (lt : Nat) (mo : Nat) (fo : Nat) (ro : Nat) (fl9 : Int32) (a : Nat → Nat) (pe : Int32) (wo : Int32) (tx : Int32) (ch : Int32) (jo : Int32) (tr : Int32) (dy : Int32) (sd : Int32) (f : Nat → Nat → Int32) (lc : Nat) (lz : Int32) (ll : Int32) (lm : Int32) (lg : Int32) (ld : Int32) (fc : Nat → Int32) (oD : Nat) (aD : Nat → Nat) (peD : Int32) (woD : Int32) (txD : Int32) (chD : Int32) (joD : Int32) (trD : Int32) (dyD : Int32) (sdD : Int32) (fD : Nat → Nat → Int32) (oa : Nat) (fz : Nat → Int64) (xx : Int32) (b_pe : 0 ≤ pe.toInt ∧ pe.toInt ≤ 8) (b_wo : 0 ≤ wo.toInt ∧ wo.toInt ≤ 6) (rf : zZ4 f) (b_lz : 0 ≤ lz.toInt ∧ lz.toInt ≤ 400) (b_peD : 0 ≤ peD.toInt ∧ peD.toInt ≤ 8) (b_woD : 0 ≤ woD.toInt ∧ woD.toInt ≤ 6) (rfD : zZ4 fD) : zX' g l yL_reaches (Cond.codeWith yL_reaches cL_reaches 4 (some .int) [(0, 9, 12, 13)] :: zB) ({ frames := 8, cells := 1, slots := 6, locals := 171 } : Room) [.ref x, .int xx, .ref oa] [bDR g x ta o lo go tt lt mo fo ro fl9, bFo g fo o lo oD, bTown g o a pe wo tx ch jo tr dy sd f, bLaw g lo lc lz ll lm lg ld fc, bTown g oD aD peD woD txD chD joD trD dyD sdD fD, bOut g oa fz] (fun u : Int32 × Int32 × Int32 × Int32 × Int32 × Int32 × Int32 × Int32 × Int32 × Int32 × Int32 × (Nat → Nat → Int32) × (Nat → Int64) × Int32 => (fun (lm2 : Int32) (lg2 : Int32) (ld2 : Int32) (peD2 : Int32) (woD2 : Int32) (txD2 : Int32) (chD2 : Int32) (joD2 : Int32) (trD2 : Int32) (dyD2 : Int32) (sdD2 : Int32) (fD2 : Nat → Nat → Int32) (fz2 : Nat → Int64) (q : Int32) => some (.int q)) (u.1) (u.2.1) (u.2.2.1) (u.2.2.2.1) (u.2.2.2.2.1) (u.2.2.2.2.2.1) (u.2.2.2.2.2.2.1) (u.2.2.2.2.2.2.2.1) (u.2.2.2.2.2.2.2.2.1) (u.2.2.2.2.2.2.2.2.2.1) (u.2.2.2.2.2.2.2.2.2.2.1) (u.2.2.2.2.2.2.2.2.2.2.2.1) (u.2.2.2.2.2.2.2.2.2.2.2.2.1) (u.2.2.2.2.2.2.2.2.2.2.2.2.2)) (fun u : Int32 × Int32 × Int32 × Int32 × Int32 × Int32 × Int32 × Int32 × Int32 × Int32 × Int32 × (Nat → Nat → Int32) × (Nat → Int64) × Int32 => (fun (lm2 : Int32) (lg2 : Int32) (ld2 : Int32) (peD2 : Int32) (woD2 : Int32) (txD2 : Int32) (chD2 : Int32) (joD2 : Int32) (trD2 : Int32) (dyD2 : Int32) (sdD2 : Int32) (fD2 : Nat → Nat → Int32) (fz2 : Nat → Int64) (q : Int32) => (0 ≤ peD2.toInt ∧ peD2.toInt ≤ 8) ∧ (0 ≤ woD2.toInt ∧ woD2.toInt ≤ 6) ∧ (zZ4 fD2)) (u.1) (u.2.1) (u.2.2.1) (u.2.2.2.1) (u.2.2.2.2.1) (u.2.2.2.2.2.1) (u.2.2.2.2.2.2.1) (u.2.2.2.2.2.2.2.1) (u.2.2.2.2.2.2.2.2.1) (u.2.2.2.2.2.2.2.2.2.1) (u.2.2.2.2.2.2.2.2.2.2.1) (u.2.2.2.2.2.2.2.2.2.2.2.1) (u.2.2.2.2.2.2.2.2.2.2.2.2.1) (u.2.2.2.2.2.2.2.2.2.2.2.2.2)) (fun u : Int32 × Int32 × Int32 × Int32 × Int32 × Int32 × Int32 × Int32 × Int32 × Int32 × Int32 × (Nat → Nat → Int32) × (Nat → Int64) × Int32 => (fun (lm2 : Int32) (lg2 : Int32) (ld2 : Int32) (peD2 : Int32) (woD2 : Int32) (txD2 : Int32) (chD2 : Int32) (joD2 : Int32) (trD2 : Int32) (dyD2 : Int32) (sdD2 : Int32) (fD2 : Nat → Nat → Int32) (fz2 : Nat → Int64) (q : Int32) => [bDR g x ta o lo go tt lt mo fo ro fl9, bFo g fo o lo oD, bTown g o a pe wo tx ch jo tr dy sd f, bLaw g lo lc lz ll lm2 lg2 ld2 fc, bTown g oD aD peD2 woD2 txD2 chD2 joD2 trD2 dyD2 sdD2 fD2, bOut g oa fz2]) (u.1) (u.2.1) (u.2.2.1) (u.2.2.2.1) (u.2.2.2.2.1) (u.2.2.2.2.2.1) (u.2.2.2.2.2.2.1) (u.2.2.2.2.2.2.2.1) (u.2.2.2.2.2.2.2.2.1) (u.2.2.2.2.2.2.2.2.2.1) (u.2.2.2.2.2.2.2.2.2.2.1) (u.2.2.2.2.2.2.2.2.2.2.2.1) (u.2.2.2.2.2.2.2.2.2.2.2.2.1) (u.2.2.2.2.2.2.2.2.2.2.2.2.2)) zNo zN0 := by
  refine zX'.ofH (cc := cL_reaches) (maxL := 4) (rt := (some .int)) (by decide) rfl (Nat.le_of_ble_eq_true rfl) ?_
  intro p e s m args below meth c A ls St hr hlocks htab hin hK hT hA hP hD hS hl
  obtain ⟨hx, hb, hml, hown, hts⟩ := id St
  have hl : lv_has ls 4 [(0, .ref x), (1, .int xx), (2, .ref oa)] := hl
  refine lv_aload_n hx hb dL_reaches_0 rfl (lv_at hl 2 rfl) ?_
  refine lv_iconst (v := 0) hx hb dL_reaches_1 (by decide) ?_
  refine lv_aload_n hx hb dL_reaches_2 rfl (lv_at hl 0 rfl) ?_
  refine lv_iload_n hx hb dL_reaches_3 rfl (lv_at hl 1 rfl) ?_
  refine xcallV' (g := g) (q0 := 0) (ci := 9) (As := [.int xx]) (rest := [.int 0, .ref oa]) St hK hT hA hP hD hS hl.1 [0, 1, 2, 3, 4] [5] rfl rfl rfl (c_x_reaches l hfl g x ta o lo go tt lt mo fo ro fl9 a pe wo tx ch jo tr dy sd f lc lz ll lm lg ld fc oD aD peD woD txD chD joD trD dyD sdD fD xx b_pe b_wo rf b_lz b_peD b_woD rfD) (cwV 1 hts (zgL (zl4 k1232 k1233 k1234 k621) k700) rfl rfl rfl (by decide +kernel) ⟨Nat.le_of_ble_eq_true rfl, Nat.le_of_ble_eq_true rfl⟩) rfl rfl rfl rfl (Nat.le_of_ble_eq_true rfl) dL_reaches_4 ⟨(Nat.le_of_ble_eq_true rfl), (Nat.le_of_ble_eq_true rfl)⟩ (fun E ce q9 u9 H locs hpx hP hD hS hce hcv hcl => ?_) (fun u_ H locs hq14 hP hD hS => ?_)
  · skip
    obtain ⟨lm2_15, lg2_16, ld2_17, peD2_18, woD2_19, txD2_20, chD2_21, joD2_22, trD2_23, dyD2_24, sdD2_25, fD2_26⟩ := u9
    have hpx : (E = "java/lang/IllegalArgumentException") ∧ (0 ≤ peD2_18.toInt ∧ peD2_18.toInt ≤ 8) ∧ (0 ≤ woD2_19.toInt ∧ woD2_19.toInt ≤ 6) ∧ (zZ4 fD2_26) := hpx
    have hP : va_P g.1 vwCl (List.flatten [bOut g oa fz, bDR g x ta o lo go tt lt mo fo ro fl9, bFo g fo o lo oD, bTown g o a pe wo tx ch jo tr dy sd f, bLaw g lo lc lz ll lm2_15 lg2_16 ld2_17 fc, bTown g oD aD peD2_18 woD2_19 txD2_20 chD2_21 joD2_22 trD2_23 dyD2_24 sdD2_25 fD2_26]) H := hP
    have hD : va_D A (List.flatten [bOut g oa fz, bDR g x ta o lo go tt lt mo fo ro fl9, bFo g fo o lo oD, bTown g o a pe wo tx ch jo tr dy sd f, bLaw g lo lc lz ll lm2_15 lg2_16 ld2_17 fc, bTown g oD aD peD2_18 woD2_19 txD2_20 chD2_21 joD2_22 trD2_23 dyD2_24 sdD2_25 fD2_26]) := hD
    obtain ⟨hE9, hy27, hy28, rfD2_26⟩ := hpx
    obtain rfl := hE9
    refine vx_catch hown [] ⟨0, 9, 12, 13⟩ [] (by rw [htab]; rfl) (fun z hz => absurd hz List.not_mem_nil) (by decide) (by decide) (hts _ k1155) ((hT.1.2.2.2.2.1 _ (List.mem_of_getElem? (i := 1) rfl)).use) hce hcv hcl ?_
    refine W.widen (k := 1) (n := 6) (Nat.le_of_ble_eq_true rfl) (Nat.le_of_ble_eq_true rfl) ?_
    refine lv_astore_n (lv' := [(3, .ref q9), (0, .ref x), (1, .int xx), (2, .ref oa)]) hx hb dL_reaches_12 rfl hl (by decide) rfl (fun ls hl => ?_)
    refine lv_iconst (v := 1) hx hb dL_reaches_13 (by decide) ?_
    have hP : va_P g.1 vwCl (List.flatten [bOut g oa fz, bDR g x ta o lo go tt lt mo fo ro fl9, bFo g fo o lo oD, bTown g o a pe wo tx ch jo tr dy sd f, bLaw g lo lc lz ll lm2_15 lg2_16 ld2_17 fc, bTown g oD aD peD2_18 woD2_19 txD2_20 chD2_21 joD2_22 trD2_23 dyD2_24 sdD2_25 fD2_26]) H := hP
    have hD : va_D A (List.flatten [bOut g oa fz, bDR g x ta o lo go tt lt mo fo ro fl9, bFo g fo o lo oD, bTown g o a pe wo tx ch jo tr dy sd f, bLaw g lo lc lz ll lm2_15 lg2_16 ld2_17 fc, bTown g oD aD peD2_18 woD2_19 txD2_20 chD2_21 joD2_22 trD2_23 dyD2_24 sdD2_25 fD2_26]) := hD
    obtain ⟨hP, hD⟩ := zord (g := g) (Bs' := [bDR g x ta o lo go tt lt mo fo ro fl9, bFo g fo o lo oD, bTown g o a pe wo tx ch jo tr dy sd f, bLaw g lo lc lz ll lm2_15 lg2_16 ld2_17 fc, bTown g oD aD peD2_18 woD2_19 txD2_20 chD2_21 joD2_22 trD2_23 dyD2_24 sdD2_25 fD2_26, bOut g oa fz]) [1, 2, 3, 4, 5, 0] rfl rfl hP hD
    exact zret_i hx hb hr hlocks hS (Nat.le_of_ble_eq_true rfl) (Nat.le_of_ble_eq_true rfl) dL_reaches_14 (lm2_15, lg2_16, ld2_17, peD2_18, woD2_19, txD2_20, chD2_21, joD2_22, trD2_23, dyD2_24, sdD2_25, fD2_26, fz, (1 : Int32)) rfl (show (0 ≤ peD2_18.toInt ∧ peD2_18.toInt ≤ 8) ∧ (0 ≤ woD2_19.toInt ∧ woD2_19.toInt ≤ 6) ∧ (zZ4 fD2_26) from ⟨hy27, hy28, rfD2_26⟩) hP hD
  · skip
    obtain ⟨lm2_1, lg2_2, ld2_3, peD2_4, woD2_5, txD2_6, chD2_7, joD2_8, trD2_9, dyD2_10, sdD2_11, fD2_12, q_13⟩ := u_
    replace hq14 : (0 ≤ peD2_4.toInt ∧ peD2_4.toInt ≤ 8) ∧ (0 ≤ woD2_5.toInt ∧ woD2_5.toInt ≤ 6) ∧ (zZ4 fD2_12) := hq14
    have hP : va_P g.1 vwCl (List.flatten [bOut g oa fz, bDR g x ta o lo go tt lt mo fo ro fl9, bFo g fo o lo oD, bTown g o a pe wo tx ch jo tr dy sd f, bLaw g lo lc lz ll lm2_1 lg2_2 ld2_3 fc, bTown g oD aD peD2_4 woD2_5 txD2_6 chD2_7 joD2_8 trD2_9 dyD2_10 sdD2_11 fD2_12]) H := hP
    have hD : va_D A (List.flatten [bOut g oa fz, bDR g x ta o lo go tt lt mo fo ro fl9, bFo g fo o lo oD, bTown g o a pe wo tx ch jo tr dy sd f, bLaw g lo lc lz ll lm2_1 lg2_2 ld2_3 fc, bTown g oD aD peD2_4 woD2_5 txD2_6 chD2_7 joD2_8 trD2_9 dyD2_10 sdD2_11 fD2_12]) := hD
    refine W.widen (k := 1) (n := 6) (Nat.le_of_ble_eq_true rfl) (Nat.le_of_ble_eq_true rfl) ?_
    refine W.eq (g2 := F0 m 7 ls [.int q_13, .int 0, .ref oa]) rfl ?_
    obtain ⟨hq14_0, hq14_1, rfD2_12⟩ := hq14
    refine lv_i2l hx hb dL_reaches_7 rfl (zgl (fun y29 => ?_))
    refine va_last hx hb hK hP hD hS 0 2 rfl rfl (zin rfl) dL_reaches_8 (fun H locs hP hD hS => ?_)
    have hP : va_P g.1 vwCl (List.flatten [[(oa, .inl (g.2 2, 1, .inr (.inl (vp_updL fz 0 y29))))], bDR g x ta o lo go tt lt mo fo ro fl9, bFo g fo o lo oD, bTown g o a pe wo tx ch jo tr dy sd f, bLaw g lo lc lz ll lm2_1 lg2_2 ld2_3 fc, bTown g oD aD peD2_4 woD2_5 txD2_6 chD2_7 joD2_8 trD2_9 dyD2_10 sdD2_11 fD2_12]) H := hP
    have hD : va_D A (List.flatten [[(oa, .inl (g.2 2, 1, .inr (.inl (vp_updL fz 0 y29))))], bDR g x ta o lo go tt lt mo fo ro fl9, bFo g fo o lo oD, bTown g o a pe wo tx ch jo tr dy sd f, bLaw g lo lc lz ll lm2_1 lg2_2 ld2_3 fc, bTown g oD aD peD2_4 woD2_5 txD2_6 chD2_7 joD2_8 trD2_9 dyD2_10 sdD2_11 fD2_12]) := hD
    refine lv_goto (tgt := 15) hx hb dL_reaches_9 (by decide) ?_
    refine lv_iconst (v := 0) hx hb dL_reaches_15 (by decide) ?_
    have hP : va_P g.1 vwCl (List.flatten [bOut g oa (vp_updL fz 0 y29), bDR g x ta o lo go tt lt mo fo ro fl9, bFo g fo o lo oD, bTown g o a pe wo tx ch jo tr dy sd f, bLaw g lo lc lz ll lm2_1 lg2_2 ld2_3 fc, bTown g oD aD peD2_4 woD2_5 txD2_6 chD2_7 joD2_8 trD2_9 dyD2_10 sdD2_11 fD2_12]) H := hP
    have hD : va_D A (List.flatten [bOut g oa (vp_updL fz 0 y29), bDR g x ta o lo go tt lt mo fo ro fl9, bFo g fo o lo oD, bTown g o a pe wo tx ch jo tr dy sd f, bLaw g lo lc lz ll lm2_1 lg2_2 ld2_3 fc, bTown g oD aD peD2_4 woD2_5 txD2_6 chD2_7 joD2_8 trD2_9 dyD2_10 sdD2_11 fD2_12]) := hD
    obtain ⟨hP, hD⟩ := zord (g := g) (Bs' := [bDR g x ta o lo go tt lt mo fo ro fl9, bFo g fo o lo oD, bTown g o a pe wo tx ch jo tr dy sd f, bLaw g lo lc lz ll lm2_1 lg2_2 ld2_3 fc, bTown g oD aD peD2_4 woD2_5 txD2_6 chD2_7 joD2_8 trD2_9 dyD2_10 sdD2_11 fD2_12, bOut g oa (vp_updL fz 0 y29)]) [1, 2, 3, 4, 5, 0] rfl rfl hP hD
    exact zret_i hx hb hr hlocks hS (Nat.le_of_ble_eq_true rfl) (Nat.le_of_ble_eq_true rfl) dL_reaches_16 (lm2_1, lg2_2, ld2_3, peD2_4, woD2_5, txD2_6, chD2_7, joD2_8, trD2_9, dyD2_10, sdD2_11, fD2_12, vp_updL fz 0 y29, (0 : Int32)) rfl (show (0 ≤ peD2_4.toInt ∧ peD2_4.toInt ≤ 8) ∧ (0 ≤ woD2_5.toInt ∧ woD2_5.toInt ≤ 6) ∧ (zZ4 fD2_12) from ⟨hq14_0, hq14_1, rfD2_12⟩) hP hD
set_option maxRecDepth 100000 in
set_option maxHeartbeats 4000000 in
theorem l_dearest (l : Launch) (hfl : l.stackTraces = false) (g : zG) (x : Nat) (ta : Nat) (o : Nat) (lo : Nat) (go : Nat) (tt : Nat) (lt : Nat) (mo : Nat) (fo : Nat) (ro : Nat) (fl9 : Int32) (a : Nat → Nat) (pe : Int32) (wo : Int32) (tx : Int32) (ch : Int32) (jo : Int32) (tr : Int32) (dy : Int32) (sd : Int32) (f : Nat → Nat → Int32) (lc : Nat) (lz : Int32) (ll : Int32) (lm : Int32) (lg : Int32) (ld : Int32) (fc : Nat → Int32) (oD : Nat) (aD : Nat → Nat) (peD : Int32) (woD : Int32) (txD : Int32) (chD : Int32) (joD : Int32) (trD : Int32) (dyD : Int32) (sdD : Int32) (fD : Nat → Nat → Int32) (oa : Nat) (fz : Nat → Int64) (n : Int32) (mu : Int32) (b_pe : 0 ≤ pe.toInt ∧ pe.toInt ≤ 8) (b_wo : 0 ≤ wo.toInt ∧ wo.toInt ≤ 6) (rf : zZ4 f) (b_lz : 0 ≤ lz.toInt ∧ lz.toInt ≤ 400) (b_peD : 0 ≤ peD.toInt ∧ peD.toInt ≤ 8) (b_woD : 0 ≤ woD.toInt ∧ woD.toInt ≤ 6) (rfD : zZ4 fD) : zX' g l yL_dearest (Cond.codeWith yL_dearest cL_dearest 5 (some .int) [(0, 10, 13, 13)] :: zB) ({ frames := 8, cells := 1, slots := 6, locals := 175 } : Room) [.ref x, .int n, .int mu, .ref oa] [bDR g x ta o lo go tt lt mo fo ro fl9, bFo g fo o lo oD, bTown g o a pe wo tx ch jo tr dy sd f, bLaw g lo lc lz ll lm lg ld fc, bTown g oD aD peD woD txD chD joD trD dyD sdD fD, bOut g oa fz] (fun u : Int32 × Int32 × Int32 × Int32 × Int32 × Int32 × Int32 × Int32 × Int32 × Int32 × Int32 × (Nat → Nat → Int32) × (Nat → Int64) × Int32 => (fun (lm2 : Int32) (lg2 : Int32) (ld2 : Int32) (peD2 : Int32) (woD2 : Int32) (txD2 : Int32) (chD2 : Int32) (joD2 : Int32) (trD2 : Int32) (dyD2 : Int32) (sdD2 : Int32) (fD2 : Nat → Nat → Int32) (fz2 : Nat → Int64) (q : Int32) => some (.int q)) (u.1) (u.2.1) (u.2.2.1) (u.2.2.2.1) (u.2.2.2.2.1) (u.2.2.2.2.2.1) (u.2.2.2.2.2.2.1) (u.2.2.2.2.2.2.2.1) (u.2.2.2.2.2.2.2.2.1) (u.2.2.2.2.2.2.2.2.2.1) (u.2.2.2.2.2.2.2.2.2.2.1) (u.2.2.2.2.2.2.2.2.2.2.2.1) (u.2.2.2.2.2.2.2.2.2.2.2.2.1) (u.2.2.2.2.2.2.2.2.2.2.2.2.2)) (fun u : Int32 × Int32 × Int32 × Int32 × Int32 × Int32 × Int32 × Int32 × Int32 × Int32 × Int32 × (Nat → Nat → Int32) × (Nat → Int64) × Int32 => (fun (lm2 : Int32) (lg2 : Int32) (ld2 : Int32) (peD2 : Int32) (woD2 : Int32) (txD2 : Int32) (chD2 : Int32) (joD2 : Int32) (trD2 : Int32) (dyD2 : Int32) (sdD2 : Int32) (fD2 : Nat → Nat → Int32) (fz2 : Nat → Int64) (q : Int32) => (0 ≤ peD2.toInt ∧ peD2.toInt ≤ 8) ∧ (0 ≤ woD2.toInt ∧ woD2.toInt ≤ 6) ∧ (zZ4 fD2)) (u.1) (u.2.1) (u.2.2.1) (u.2.2.2.1) (u.2.2.2.2.1) (u.2.2.2.2.2.1) (u.2.2.2.2.2.2.1) (u.2.2.2.2.2.2.2.1) (u.2.2.2.2.2.2.2.2.1) (u.2.2.2.2.2.2.2.2.2.1) (u.2.2.2.2.2.2.2.2.2.2.1) (u.2.2.2.2.2.2.2.2.2.2.2.1) (u.2.2.2.2.2.2.2.2.2.2.2.2.1) (u.2.2.2.2.2.2.2.2.2.2.2.2.2)) (fun u : Int32 × Int32 × Int32 × Int32 × Int32 × Int32 × Int32 × Int32 × Int32 × Int32 × Int32 × (Nat → Nat → Int32) × (Nat → Int64) × Int32 => (fun (lm2 : Int32) (lg2 : Int32) (ld2 : Int32) (peD2 : Int32) (woD2 : Int32) (txD2 : Int32) (chD2 : Int32) (joD2 : Int32) (trD2 : Int32) (dyD2 : Int32) (sdD2 : Int32) (fD2 : Nat → Nat → Int32) (fz2 : Nat → Int64) (q : Int32) => [bDR g x ta o lo go tt lt mo fo ro fl9, bFo g fo o lo oD, bTown g o a pe wo tx ch jo tr dy sd f, bLaw g lo lc lz ll lm2 lg2 ld2 fc, bTown g oD aD peD2 woD2 txD2 chD2 joD2 trD2 dyD2 sdD2 fD2, bOut g oa fz2]) (u.1) (u.2.1) (u.2.2.1) (u.2.2.2.1) (u.2.2.2.2.1) (u.2.2.2.2.2.1) (u.2.2.2.2.2.2.1) (u.2.2.2.2.2.2.2.1) (u.2.2.2.2.2.2.2.2.1) (u.2.2.2.2.2.2.2.2.2.1) (u.2.2.2.2.2.2.2.2.2.2.1) (u.2.2.2.2.2.2.2.2.2.2.2.1) (u.2.2.2.2.2.2.2.2.2.2.2.2.1) (u.2.2.2.2.2.2.2.2.2.2.2.2.2)) zNo zN0 := by
  refine zX'.ofH (cc := cL_dearest) (maxL := 5) (rt := (some .int)) (by decide) rfl (Nat.le_of_ble_eq_true rfl) ?_
  intro p e s m args below meth c A ls St hr hlocks htab hin hK hT hA hP hD hS hl
  obtain ⟨hx, hb, hml, hown, hts⟩ := id St
  have hl : lv_has ls 5 [(0, .ref x), (1, .int n), (2, .int mu), (3, .ref oa)] := hl
  refine lv_aload_n hx hb dL_dearest_0 rfl (lv_at hl 3 rfl) ?_
  refine lv_iconst (v := 0) hx hb dL_dearest_1 (by decide) ?_
  refine lv_aload_n hx hb dL_dearest_2 rfl (lv_at hl 0 rfl) ?_
  refine lv_iload_n hx hb dL_dearest_3 rfl (lv_at hl 1 rfl) ?_
  refine lv_iload_n hx hb dL_dearest_4 rfl (lv_at hl 2 rfl) ?_
  refine xcallV' (g := g) (q0 := 0) (ci := 9) (As := [.int n, .int mu]) (rest := [.int 0, .ref oa]) St hK hT hA hP hD hS hl.1 [0, 1, 2, 3, 4] [5] rfl rfl rfl (c_x_dearest l hfl g x ta o lo go tt lt mo fo ro fl9 a pe wo tx ch jo tr dy sd f lc lz ll lm lg ld fc oD aD peD woD txD chD joD trD dyD sdD fD n mu b_pe b_wo rf b_lz b_peD b_woD rfD) (cwV 2 hts (zgL (zl4 k1236 k1237 k1238 k621) k710) rfl rfl rfl (by decide +kernel) ⟨Nat.le_of_ble_eq_true rfl, Nat.le_of_ble_eq_true rfl⟩) rfl rfl rfl rfl (Nat.le_of_ble_eq_true rfl) dL_dearest_5 ⟨(Nat.le_of_ble_eq_true rfl), (Nat.le_of_ble_eq_true rfl)⟩ (fun E ce q9 u9 H locs hpx hP hD hS hce hcv hcl => ?_) (fun u_ H locs hq14 hP hD hS => ?_)
  · skip
    obtain ⟨lm2_15, lg2_16, ld2_17, peD2_18, woD2_19, txD2_20, chD2_21, joD2_22, trD2_23, dyD2_24, sdD2_25, fD2_26⟩ := u9
    have hpx : (E = "java/lang/IllegalArgumentException") ∧ (0 ≤ peD2_18.toInt ∧ peD2_18.toInt ≤ 8) ∧ (0 ≤ woD2_19.toInt ∧ woD2_19.toInt ≤ 6) ∧ (zZ4 fD2_26) := hpx
    have hP : va_P g.1 vwCl (List.flatten [bOut g oa fz, bDR g x ta o lo go tt lt mo fo ro fl9, bFo g fo o lo oD, bTown g o a pe wo tx ch jo tr dy sd f, bLaw g lo lc lz ll lm2_15 lg2_16 ld2_17 fc, bTown g oD aD peD2_18 woD2_19 txD2_20 chD2_21 joD2_22 trD2_23 dyD2_24 sdD2_25 fD2_26]) H := hP
    have hD : va_D A (List.flatten [bOut g oa fz, bDR g x ta o lo go tt lt mo fo ro fl9, bFo g fo o lo oD, bTown g o a pe wo tx ch jo tr dy sd f, bLaw g lo lc lz ll lm2_15 lg2_16 ld2_17 fc, bTown g oD aD peD2_18 woD2_19 txD2_20 chD2_21 joD2_22 trD2_23 dyD2_24 sdD2_25 fD2_26]) := hD
    obtain ⟨hE9, hy27, hy28, rfD2_26⟩ := hpx
    obtain rfl := hE9
    refine vx_catch hown [] ⟨0, 10, 13, 13⟩ [] (by rw [htab]; rfl) (fun z hz => absurd hz List.not_mem_nil) (by decide) (by decide) (hts _ k1155) ((hT.1.2.2.2.2.1 _ (List.mem_of_getElem? (i := 1) rfl)).use) hce hcv hcl ?_
    refine W.widen (k := 1) (n := 6) (Nat.le_of_ble_eq_true rfl) (Nat.le_of_ble_eq_true rfl) ?_
    refine lv_astore (lv' := [(4, .ref q9), (0, .ref x), (1, .int n), (2, .int mu), (3, .ref oa)]) hx hb dL_dearest_13 hl (by decide) rfl (fun ls hl => ?_)
    refine lv_iconst (v := 1) hx hb dL_dearest_15 (by decide) ?_
    have hP : va_P g.1 vwCl (List.flatten [bOut g oa fz, bDR g x ta o lo go tt lt mo fo ro fl9, bFo g fo o lo oD, bTown g o a pe wo tx ch jo tr dy sd f, bLaw g lo lc lz ll lm2_15 lg2_16 ld2_17 fc, bTown g oD aD peD2_18 woD2_19 txD2_20 chD2_21 joD2_22 trD2_23 dyD2_24 sdD2_25 fD2_26]) H := hP
    have hD : va_D A (List.flatten [bOut g oa fz, bDR g x ta o lo go tt lt mo fo ro fl9, bFo g fo o lo oD, bTown g o a pe wo tx ch jo tr dy sd f, bLaw g lo lc lz ll lm2_15 lg2_16 ld2_17 fc, bTown g oD aD peD2_18 woD2_19 txD2_20 chD2_21 joD2_22 trD2_23 dyD2_24 sdD2_25 fD2_26]) := hD
    obtain ⟨hP, hD⟩ := zord (g := g) (Bs' := [bDR g x ta o lo go tt lt mo fo ro fl9, bFo g fo o lo oD, bTown g o a pe wo tx ch jo tr dy sd f, bLaw g lo lc lz ll lm2_15 lg2_16 ld2_17 fc, bTown g oD aD peD2_18 woD2_19 txD2_20 chD2_21 joD2_22 trD2_23 dyD2_24 sdD2_25 fD2_26, bOut g oa fz]) [1, 2, 3, 4, 5, 0] rfl rfl hP hD
    exact zret_i hx hb hr hlocks hS (Nat.le_of_ble_eq_true rfl) (Nat.le_of_ble_eq_true rfl) dL_dearest_16 (lm2_15, lg2_16, ld2_17, peD2_18, woD2_19, txD2_20, chD2_21, joD2_22, trD2_23, dyD2_24, sdD2_25, fD2_26, fz, (1 : Int32)) rfl (show (0 ≤ peD2_18.toInt ∧ peD2_18.toInt ≤ 8) ∧ (0 ≤ woD2_19.toInt ∧ woD2_19.toInt ≤ 6) ∧ (zZ4 fD2_26) from ⟨hy27, hy28, rfD2_26⟩) hP hD
  · skip
    obtain ⟨lm2_1, lg2_2, ld2_3, peD2_4, woD2_5, txD2_6, chD2_7, joD2_8, trD2_9, dyD2_10, sdD2_11, fD2_12, q_13⟩ := u_
    replace hq14 : (0 ≤ peD2_4.toInt ∧ peD2_4.toInt ≤ 8) ∧ (0 ≤ woD2_5.toInt ∧ woD2_5.toInt ≤ 6) ∧ (zZ4 fD2_12) := hq14
    have hP : va_P g.1 vwCl (List.flatten [bOut g oa fz, bDR g x ta o lo go tt lt mo fo ro fl9, bFo g fo o lo oD, bTown g o a pe wo tx ch jo tr dy sd f, bLaw g lo lc lz ll lm2_1 lg2_2 ld2_3 fc, bTown g oD aD peD2_4 woD2_5 txD2_6 chD2_7 joD2_8 trD2_9 dyD2_10 sdD2_11 fD2_12]) H := hP
    have hD : va_D A (List.flatten [bOut g oa fz, bDR g x ta o lo go tt lt mo fo ro fl9, bFo g fo o lo oD, bTown g o a pe wo tx ch jo tr dy sd f, bLaw g lo lc lz ll lm2_1 lg2_2 ld2_3 fc, bTown g oD aD peD2_4 woD2_5 txD2_6 chD2_7 joD2_8 trD2_9 dyD2_10 sdD2_11 fD2_12]) := hD
    refine W.widen (k := 1) (n := 6) (Nat.le_of_ble_eq_true rfl) (Nat.le_of_ble_eq_true rfl) ?_
    refine W.eq (g2 := F0 m 8 ls [.int q_13, .int 0, .ref oa]) rfl ?_
    obtain ⟨hq14_0, hq14_1, rfD2_12⟩ := hq14
    refine lv_i2l hx hb dL_dearest_8 rfl (zgl (fun y29 => ?_))
    refine va_last hx hb hK hP hD hS 0 2 rfl rfl (zin rfl) dL_dearest_9 (fun H locs hP hD hS => ?_)
    have hP : va_P g.1 vwCl (List.flatten [[(oa, .inl (g.2 2, 1, .inr (.inl (vp_updL fz 0 y29))))], bDR g x ta o lo go tt lt mo fo ro fl9, bFo g fo o lo oD, bTown g o a pe wo tx ch jo tr dy sd f, bLaw g lo lc lz ll lm2_1 lg2_2 ld2_3 fc, bTown g oD aD peD2_4 woD2_5 txD2_6 chD2_7 joD2_8 trD2_9 dyD2_10 sdD2_11 fD2_12]) H := hP
    have hD : va_D A (List.flatten [[(oa, .inl (g.2 2, 1, .inr (.inl (vp_updL fz 0 y29))))], bDR g x ta o lo go tt lt mo fo ro fl9, bFo g fo o lo oD, bTown g o a pe wo tx ch jo tr dy sd f, bLaw g lo lc lz ll lm2_1 lg2_2 ld2_3 fc, bTown g oD aD peD2_4 woD2_5 txD2_6 chD2_7 joD2_8 trD2_9 dyD2_10 sdD2_11 fD2_12]) := hD
    refine lv_goto (tgt := 17) hx hb dL_dearest_10 (by decide) ?_
    refine lv_iconst (v := 0) hx hb dL_dearest_17 (by decide) ?_
    have hP : va_P g.1 vwCl (List.flatten [bOut g oa (vp_updL fz 0 y29), bDR g x ta o lo go tt lt mo fo ro fl9, bFo g fo o lo oD, bTown g o a pe wo tx ch jo tr dy sd f, bLaw g lo lc lz ll lm2_1 lg2_2 ld2_3 fc, bTown g oD aD peD2_4 woD2_5 txD2_6 chD2_7 joD2_8 trD2_9 dyD2_10 sdD2_11 fD2_12]) H := hP
    have hD : va_D A (List.flatten [bOut g oa (vp_updL fz 0 y29), bDR g x ta o lo go tt lt mo fo ro fl9, bFo g fo o lo oD, bTown g o a pe wo tx ch jo tr dy sd f, bLaw g lo lc lz ll lm2_1 lg2_2 ld2_3 fc, bTown g oD aD peD2_4 woD2_5 txD2_6 chD2_7 joD2_8 trD2_9 dyD2_10 sdD2_11 fD2_12]) := hD
    obtain ⟨hP, hD⟩ := zord (g := g) (Bs' := [bDR g x ta o lo go tt lt mo fo ro fl9, bFo g fo o lo oD, bTown g o a pe wo tx ch jo tr dy sd f, bLaw g lo lc lz ll lm2_1 lg2_2 ld2_3 fc, bTown g oD aD peD2_4 woD2_5 txD2_6 chD2_7 joD2_8 trD2_9 dyD2_10 sdD2_11 fD2_12, bOut g oa (vp_updL fz 0 y29)]) [1, 2, 3, 4, 5, 0] rfl rfl hP hD
    exact zret_i hx hb hr hlocks hS (Nat.le_of_ble_eq_true rfl) (Nat.le_of_ble_eq_true rfl) dL_dearest_18 (lm2_1, lg2_2, ld2_3, peD2_4, woD2_5, txD2_6, chD2_7, joD2_8, trD2_9, dyD2_10, sdD2_11, fD2_12, vp_updL fz 0 y29, (0 : Int32)) rfl (show (0 ≤ peD2_4.toInt ∧ peD2_4.toInt ≤ 8) ∧ (0 ≤ woD2_5.toInt ∧ woD2_5.toInt ≤ 6) ∧ (zZ4 fD2_12) from ⟨hq14_0, hq14_1, rfD2_12⟩) hP hD
set_option maxRecDepth 100000 in
set_option maxHeartbeats 4000000 in
theorem l_falls (l : Launch) (hfl : l.stackTraces = false) (g : zG) (x : Nat) (ta : Nat) (o : Nat) (lo : Nat) (go : Nat) (tt : Nat) (lt : Nat) (mo : Nat) (fo : Nat) (ro : Nat) (fl9 : Int32) (a : Nat → Nat) (pe : Int32) (wo : Int32) (tx : Int32) (ch : Int32) (jo : Int32) (tr : Int32) (dy : Int32) (sd : Int32) (f : Nat → Nat → Int32) (lc : Nat) (lz : Int32) (ll : Int32) (lm : Int32) (lg : Int32) (ld : Int32) (fc : Nat → Int32) (oD : Nat) (aD : Nat → Nat) (peD : Int32) (woD : Int32) (txD : Int32) (chD : Int32) (joD : Int32) (trD : Int32) (dyD : Int32) (sdD : Int32) (fD : Nat → Nat → Int32) (oa : Nat) (fz : Nat → Int64) (n : Int32) (b_pe : 0 ≤ pe.toInt ∧ pe.toInt ≤ 8) (b_wo : 0 ≤ wo.toInt ∧ wo.toInt ≤ 6) (rf : zZ4 f) (b_lz : 0 ≤ lz.toInt ∧ lz.toInt ≤ 400) (b_peD : 0 ≤ peD.toInt ∧ peD.toInt ≤ 8) (b_woD : 0 ≤ woD.toInt ∧ woD.toInt ≤ 6) (rfD : zZ4 fD) : zX' g l yL_falls (Cond.codeWith yL_falls cL_falls 4 (some .int) [(0, 9, 12, 13)] :: zB) ({ frames := 8, cells := 1, slots := 6, locals := 173 } : Room) [.ref x, .int n, .ref oa] [bDR g x ta o lo go tt lt mo fo ro fl9, bFo g fo o lo oD, bTown g o a pe wo tx ch jo tr dy sd f, bLaw g lo lc lz ll lm lg ld fc, bTown g oD aD peD woD txD chD joD trD dyD sdD fD, bOut g oa fz] (fun u : Int32 × Int32 × Int32 × Int32 × Int32 × Int32 × Int32 × Int32 × Int32 × Int32 × Int32 × (Nat → Nat → Int32) × (Nat → Int64) × Int32 => (fun (lm2 : Int32) (lg2 : Int32) (ld2 : Int32) (peD2 : Int32) (woD2 : Int32) (txD2 : Int32) (chD2 : Int32) (joD2 : Int32) (trD2 : Int32) (dyD2 : Int32) (sdD2 : Int32) (fD2 : Nat → Nat → Int32) (fz2 : Nat → Int64) (q : Int32) => some (.int q)) (u.1) (u.2.1) (u.2.2.1) (u.2.2.2.1) (u.2.2.2.2.1) (u.2.2.2.2.2.1) (u.2.2.2.2.2.2.1) (u.2.2.2.2.2.2.2.1) (u.2.2.2.2.2.2.2.2.1) (u.2.2.2.2.2.2.2.2.2.1) (u.2.2.2.2.2.2.2.2.2.2.1) (u.2.2.2.2.2.2.2.2.2.2.2.1) (u.2.2.2.2.2.2.2.2.2.2.2.2.1) (u.2.2.2.2.2.2.2.2.2.2.2.2.2)) (fun u : Int32 × Int32 × Int32 × Int32 × Int32 × Int32 × Int32 × Int32 × Int32 × Int32 × Int32 × (Nat → Nat → Int32) × (Nat → Int64) × Int32 => (fun (lm2 : Int32) (lg2 : Int32) (ld2 : Int32) (peD2 : Int32) (woD2 : Int32) (txD2 : Int32) (chD2 : Int32) (joD2 : Int32) (trD2 : Int32) (dyD2 : Int32) (sdD2 : Int32) (fD2 : Nat → Nat → Int32) (fz2 : Nat → Int64) (q : Int32) => (0 ≤ peD2.toInt ∧ peD2.toInt ≤ 8) ∧ (0 ≤ woD2.toInt ∧ woD2.toInt ≤ 6) ∧ (zZ4 fD2)) (u.1) (u.2.1) (u.2.2.1) (u.2.2.2.1) (u.2.2.2.2.1) (u.2.2.2.2.2.1) (u.2.2.2.2.2.2.1) (u.2.2.2.2.2.2.2.1) (u.2.2.2.2.2.2.2.2.1) (u.2.2.2.2.2.2.2.2.2.1) (u.2.2.2.2.2.2.2.2.2.2.1) (u.2.2.2.2.2.2.2.2.2.2.2.1) (u.2.2.2.2.2.2.2.2.2.2.2.2.1) (u.2.2.2.2.2.2.2.2.2.2.2.2.2)) (fun u : Int32 × Int32 × Int32 × Int32 × Int32 × Int32 × Int32 × Int32 × Int32 × Int32 × Int32 × (Nat → Nat → Int32) × (Nat → Int64) × Int32 => (fun (lm2 : Int32) (lg2 : Int32) (ld2 : Int32) (peD2 : Int32) (woD2 : Int32) (txD2 : Int32) (chD2 : Int32) (joD2 : Int32) (trD2 : Int32) (dyD2 : Int32) (sdD2 : Int32) (fD2 : Nat → Nat → Int32) (fz2 : Nat → Int64) (q : Int32) => [bDR g x ta o lo go tt lt mo fo ro fl9, bFo g fo o lo oD, bTown g o a pe wo tx ch jo tr dy sd f, bLaw g lo lc lz ll lm2 lg2 ld2 fc, bTown g oD aD peD2 woD2 txD2 chD2 joD2 trD2 dyD2 sdD2 fD2, bOut g oa fz2]) (u.1) (u.2.1) (u.2.2.1) (u.2.2.2.1) (u.2.2.2.2.1) (u.2.2.2.2.2.1) (u.2.2.2.2.2.2.1) (u.2.2.2.2.2.2.2.1) (u.2.2.2.2.2.2.2.2.1) (u.2.2.2.2.2.2.2.2.2.1) (u.2.2.2.2.2.2.2.2.2.2.1) (u.2.2.2.2.2.2.2.2.2.2.2.1) (u.2.2.2.2.2.2.2.2.2.2.2.2.1) (u.2.2.2.2.2.2.2.2.2.2.2.2.2)) zNo zN0 := by
  refine zX'.ofH (cc := cL_falls) (maxL := 4) (rt := (some .int)) (by decide) rfl (Nat.le_of_ble_eq_true rfl) ?_
  intro p e s m args below meth c A ls St hr hlocks htab hin hK hT hA hP hD hS hl
  obtain ⟨hx, hb, hml, hown, hts⟩ := id St
  have hl : lv_has ls 4 [(0, .ref x), (1, .int n), (2, .ref oa)] := hl
  refine lv_aload_n hx hb dL_falls_0 rfl (lv_at hl 2 rfl) ?_
  refine lv_iconst (v := 0) hx hb dL_falls_1 (by decide) ?_
  refine lv_aload_n hx hb dL_falls_2 rfl (lv_at hl 0 rfl) ?_
  refine lv_iload_n hx hb dL_falls_3 rfl (lv_at hl 1 rfl) ?_
  refine xcallV' (g := g) (q0 := 0) (ci := 9) (As := [.int n]) (rest := [.int 0, .ref oa]) St hK hT hA hP hD hS hl.1 [0, 1, 2, 3, 4] [5] rfl rfl rfl (c_x_falls l hfl g x ta o lo go tt lt mo fo ro fl9 a pe wo tx ch jo tr dy sd f lc lz ll lm lg ld fc oD aD peD woD txD chD joD trD dyD sdD fD n b_pe b_wo rf b_lz b_peD b_woD rfD) (cwV 1 hts (zgL (zl4 k1240 k1241 k1242 k621) k712) rfl rfl rfl (by decide +kernel) ⟨Nat.le_of_ble_eq_true rfl, Nat.le_of_ble_eq_true rfl⟩) rfl rfl rfl rfl (Nat.le_of_ble_eq_true rfl) dL_falls_4 ⟨(Nat.le_of_ble_eq_true rfl), (Nat.le_of_ble_eq_true rfl)⟩ (fun E ce q9 u9 H locs hpx hP hD hS hce hcv hcl => ?_) (fun u_ H locs hq14 hP hD hS => ?_)
  · skip
    obtain ⟨lm2_15, lg2_16, ld2_17, peD2_18, woD2_19, txD2_20, chD2_21, joD2_22, trD2_23, dyD2_24, sdD2_25, fD2_26⟩ := u9
    have hpx : (E = "java/lang/IllegalArgumentException") ∧ (0 ≤ peD2_18.toInt ∧ peD2_18.toInt ≤ 8) ∧ (0 ≤ woD2_19.toInt ∧ woD2_19.toInt ≤ 6) ∧ (zZ4 fD2_26) := hpx
    have hP : va_P g.1 vwCl (List.flatten [bOut g oa fz, bDR g x ta o lo go tt lt mo fo ro fl9, bFo g fo o lo oD, bTown g o a pe wo tx ch jo tr dy sd f, bLaw g lo lc lz ll lm2_15 lg2_16 ld2_17 fc, bTown g oD aD peD2_18 woD2_19 txD2_20 chD2_21 joD2_22 trD2_23 dyD2_24 sdD2_25 fD2_26]) H := hP
    have hD : va_D A (List.flatten [bOut g oa fz, bDR g x ta o lo go tt lt mo fo ro fl9, bFo g fo o lo oD, bTown g o a pe wo tx ch jo tr dy sd f, bLaw g lo lc lz ll lm2_15 lg2_16 ld2_17 fc, bTown g oD aD peD2_18 woD2_19 txD2_20 chD2_21 joD2_22 trD2_23 dyD2_24 sdD2_25 fD2_26]) := hD
    obtain ⟨hE9, hy27, hy28, rfD2_26⟩ := hpx
    obtain rfl := hE9
    refine vx_catch hown [] ⟨0, 9, 12, 13⟩ [] (by rw [htab]; rfl) (fun z hz => absurd hz List.not_mem_nil) (by decide) (by decide) (hts _ k1155) ((hT.1.2.2.2.2.1 _ (List.mem_of_getElem? (i := 1) rfl)).use) hce hcv hcl ?_
    refine W.widen (k := 1) (n := 6) (Nat.le_of_ble_eq_true rfl) (Nat.le_of_ble_eq_true rfl) ?_
    refine lv_astore_n (lv' := [(3, .ref q9), (0, .ref x), (1, .int n), (2, .ref oa)]) hx hb dL_falls_12 rfl hl (by decide) rfl (fun ls hl => ?_)
    refine lv_iconst (v := 1) hx hb dL_falls_13 (by decide) ?_
    have hP : va_P g.1 vwCl (List.flatten [bOut g oa fz, bDR g x ta o lo go tt lt mo fo ro fl9, bFo g fo o lo oD, bTown g o a pe wo tx ch jo tr dy sd f, bLaw g lo lc lz ll lm2_15 lg2_16 ld2_17 fc, bTown g oD aD peD2_18 woD2_19 txD2_20 chD2_21 joD2_22 trD2_23 dyD2_24 sdD2_25 fD2_26]) H := hP
    have hD : va_D A (List.flatten [bOut g oa fz, bDR g x ta o lo go tt lt mo fo ro fl9, bFo g fo o lo oD, bTown g o a pe wo tx ch jo tr dy sd f, bLaw g lo lc lz ll lm2_15 lg2_16 ld2_17 fc, bTown g oD aD peD2_18 woD2_19 txD2_20 chD2_21 joD2_22 trD2_23 dyD2_24 sdD2_25 fD2_26]) := hD
    obtain ⟨hP, hD⟩ := zord (g := g) (Bs' := [bDR g x ta o lo go tt lt mo fo ro fl9, bFo g fo o lo oD, bTown g o a pe wo tx ch jo tr dy sd f, bLaw g lo lc lz ll lm2_15 lg2_16 ld2_17 fc, bTown g oD aD peD2_18 woD2_19 txD2_20 chD2_21 joD2_22 trD2_23 dyD2_24 sdD2_25 fD2_26, bOut g oa fz]) [1, 2, 3, 4, 5, 0] rfl rfl hP hD
    exact zret_i hx hb hr hlocks hS (Nat.le_of_ble_eq_true rfl) (Nat.le_of_ble_eq_true rfl) dL_falls_14 (lm2_15, lg2_16, ld2_17, peD2_18, woD2_19, txD2_20, chD2_21, joD2_22, trD2_23, dyD2_24, sdD2_25, fD2_26, fz, (1 : Int32)) rfl (show (0 ≤ peD2_18.toInt ∧ peD2_18.toInt ≤ 8) ∧ (0 ≤ woD2_19.toInt ∧ woD2_19.toInt ≤ 6) ∧ (zZ4 fD2_26) from ⟨hy27, hy28, rfD2_26⟩) hP hD
  · skip
    obtain ⟨lm2_1, lg2_2, ld2_3, peD2_4, woD2_5, txD2_6, chD2_7, joD2_8, trD2_9, dyD2_10, sdD2_11, fD2_12, q_13⟩ := u_
    replace hq14 : (0 ≤ peD2_4.toInt ∧ peD2_4.toInt ≤ 8) ∧ (0 ≤ woD2_5.toInt ∧ woD2_5.toInt ≤ 6) ∧ (zZ4 fD2_12) := hq14
    have hP : va_P g.1 vwCl (List.flatten [bOut g oa fz, bDR g x ta o lo go tt lt mo fo ro fl9, bFo g fo o lo oD, bTown g o a pe wo tx ch jo tr dy sd f, bLaw g lo lc lz ll lm2_1 lg2_2 ld2_3 fc, bTown g oD aD peD2_4 woD2_5 txD2_6 chD2_7 joD2_8 trD2_9 dyD2_10 sdD2_11 fD2_12]) H := hP
    have hD : va_D A (List.flatten [bOut g oa fz, bDR g x ta o lo go tt lt mo fo ro fl9, bFo g fo o lo oD, bTown g o a pe wo tx ch jo tr dy sd f, bLaw g lo lc lz ll lm2_1 lg2_2 ld2_3 fc, bTown g oD aD peD2_4 woD2_5 txD2_6 chD2_7 joD2_8 trD2_9 dyD2_10 sdD2_11 fD2_12]) := hD
    refine W.widen (k := 1) (n := 6) (Nat.le_of_ble_eq_true rfl) (Nat.le_of_ble_eq_true rfl) ?_
    refine W.eq (g2 := F0 m 7 ls [.int q_13, .int 0, .ref oa]) rfl ?_
    obtain ⟨hq14_0, hq14_1, rfD2_12⟩ := hq14
    refine lv_i2l hx hb dL_falls_7 rfl (zgl (fun y29 => ?_))
    refine va_last hx hb hK hP hD hS 0 2 rfl rfl (zin rfl) dL_falls_8 (fun H locs hP hD hS => ?_)
    have hP : va_P g.1 vwCl (List.flatten [[(oa, .inl (g.2 2, 1, .inr (.inl (vp_updL fz 0 y29))))], bDR g x ta o lo go tt lt mo fo ro fl9, bFo g fo o lo oD, bTown g o a pe wo tx ch jo tr dy sd f, bLaw g lo lc lz ll lm2_1 lg2_2 ld2_3 fc, bTown g oD aD peD2_4 woD2_5 txD2_6 chD2_7 joD2_8 trD2_9 dyD2_10 sdD2_11 fD2_12]) H := hP
    have hD : va_D A (List.flatten [[(oa, .inl (g.2 2, 1, .inr (.inl (vp_updL fz 0 y29))))], bDR g x ta o lo go tt lt mo fo ro fl9, bFo g fo o lo oD, bTown g o a pe wo tx ch jo tr dy sd f, bLaw g lo lc lz ll lm2_1 lg2_2 ld2_3 fc, bTown g oD aD peD2_4 woD2_5 txD2_6 chD2_7 joD2_8 trD2_9 dyD2_10 sdD2_11 fD2_12]) := hD
    refine lv_goto (tgt := 15) hx hb dL_falls_9 (by decide) ?_
    refine lv_iconst (v := 0) hx hb dL_falls_15 (by decide) ?_
    have hP : va_P g.1 vwCl (List.flatten [bOut g oa (vp_updL fz 0 y29), bDR g x ta o lo go tt lt mo fo ro fl9, bFo g fo o lo oD, bTown g o a pe wo tx ch jo tr dy sd f, bLaw g lo lc lz ll lm2_1 lg2_2 ld2_3 fc, bTown g oD aD peD2_4 woD2_5 txD2_6 chD2_7 joD2_8 trD2_9 dyD2_10 sdD2_11 fD2_12]) H := hP
    have hD : va_D A (List.flatten [bOut g oa (vp_updL fz 0 y29), bDR g x ta o lo go tt lt mo fo ro fl9, bFo g fo o lo oD, bTown g o a pe wo tx ch jo tr dy sd f, bLaw g lo lc lz ll lm2_1 lg2_2 ld2_3 fc, bTown g oD aD peD2_4 woD2_5 txD2_6 chD2_7 joD2_8 trD2_9 dyD2_10 sdD2_11 fD2_12]) := hD
    obtain ⟨hP, hD⟩ := zord (g := g) (Bs' := [bDR g x ta o lo go tt lt mo fo ro fl9, bFo g fo o lo oD, bTown g o a pe wo tx ch jo tr dy sd f, bLaw g lo lc lz ll lm2_1 lg2_2 ld2_3 fc, bTown g oD aD peD2_4 woD2_5 txD2_6 chD2_7 joD2_8 trD2_9 dyD2_10 sdD2_11 fD2_12, bOut g oa (vp_updL fz 0 y29)]) [1, 2, 3, 4, 5, 0] rfl rfl hP hD
    exact zret_i hx hb hr hlocks hS (Nat.le_of_ble_eq_true rfl) (Nat.le_of_ble_eq_true rfl) dL_falls_16 (lm2_1, lg2_2, ld2_3, peD2_4, woD2_5, txD2_6, chD2_7, joD2_8, trD2_9, dyD2_10, sdD2_11, fD2_12, vp_updL fz 0 y29, (0 : Int32)) rfl (show (0 ≤ peD2_4.toInt ∧ peD2_4.toInt ≤ 8) ∧ (0 ≤ woD2_5.toInt ∧ woD2_5.toInt ≤ 6) ∧ (zZ4 fD2_12) from ⟨hq14_0, hq14_1, rfD2_12⟩) hP hD
set_option maxRecDepth 100000 in
set_option maxHeartbeats 4000000 in
theorem l_river (l : Launch) (hfl : l.stackTraces = false) (g : zG) (x : Nat) (ta : Nat) (o : Nat) (lo : Nat) (go : Nat) (tt : Nat) (lt : Nat) (mo : Nat) (fo : Nat) (ro : Nat) (fl9 : Int32) (ab : Nat) (sz : Int32) (ln : Int32) (kd : Int32) (bg : Int32) (nx : Int32) (ft : Int32) (fb : Nat → Int32) (oa : Nat) (fz : Nat → Int64) (r9 : Int32) (b_sz : 0 ≤ sz.toInt ∧ sz.toInt ≤ 400) : zX' g l yL_river (Cond.codeWith yL_river cL_river 4 (some .int) [(0, 9, 12, 13)] :: zB) ({ frames := 9, cells := 3, slots := 18, locals := 149 } : Room) [.ref x, .int r9, .ref oa] [bDR g x ta o lo go tt lt mo fo ro fl9, bTape g ta ab sz ln kd bg nx ft fb, bOut g oa fz] (fun u : (Nat → Int64) × Int32 => (fun (fz2 : Nat → Int64) (q : Int32) => some (.int q)) (u.1) (u.2)) (fun u : (Nat → Int64) × Int32 => (fun (fz2 : Nat → Int64) (q : Int32) => True) (u.1) (u.2)) (fun u : (Nat → Int64) × Int32 => (fun (fz2 : Nat → Int64) (q : Int32) => [bDR g x ta o lo go tt lt mo fo ro fl9, bTape g ta ab 0 ln kd bg nx ft fb, bOut g oa fz2]) (u.1) (u.2)) zNo zN0 := by
  refine zX'.ofH (cc := cL_river) (maxL := 4) (rt := (some .int)) (by decide) rfl (Nat.le_of_ble_eq_true rfl) ?_
  intro p e s m args below meth c A ls St hr hlocks htab hin hK hT hA hP hD hS hl
  obtain ⟨hx, hb, hml, hown, hts⟩ := id St
  have hl : lv_has ls 4 [(0, .ref x), (1, .int r9), (2, .ref oa)] := hl
  refine lv_aload_n hx hb dL_river_0 rfl (lv_at hl 2 rfl) ?_
  refine lv_iconst (v := 0) hx hb dL_river_1 (by decide) ?_
  refine lv_aload_n hx hb dL_river_2 rfl (lv_at hl 0 rfl) ?_
  refine lv_iload_n hx hb dL_river_3 rfl (lv_at hl 1 rfl) ?_
  refine xcallV' (g := g) (q0 := 0) (ci := 9) (As := [.int r9]) (rest := [.int 0, .ref oa]) St hK hT hA hP hD hS hl.1 [0, 1] [2] rfl rfl rfl (c_x_river l hfl g x ta o lo go tt lt mo fo ro fl9 ab sz ln kd bg nx ft fb r9 b_sz) (cwV 1 hts (zgL (zl4 k1244 k1245 k1246 k621) k729) rfl rfl rfl (by decide +kernel) ⟨Nat.le_of_ble_eq_true rfl, Nat.le_of_ble_eq_true rfl⟩) rfl rfl rfl rfl (Nat.le_of_ble_eq_true rfl) dL_river_4 ⟨(Nat.le_of_ble_eq_true rfl), (Nat.le_of_ble_eq_true rfl)⟩ (fun E ce q9 u9 H locs hpx hP hD hS hce hcv hcl => ?_) (fun q_1 H locs hq2 hP hD hS => ?_)
  · skip
    have hpx : (E = "java/lang/IllegalArgumentException") ∧ (¬ ((0 ≤ r9.toInt ∧ r9.toInt ≤ 100) ∧ sz.toInt ≤ 12 ∧ zAl fb sz.toInt)) := hpx
    have hP : va_P g.1 vwCl (List.flatten [bOut g oa fz, bDR g x ta o lo go tt lt mo fo ro fl9, bTape g ta ab 0 ln kd bg nx ft fb]) H := hP
    have hD : va_D A (List.flatten [bOut g oa fz, bDR g x ta o lo go tt lt mo fo ro fl9, bTape g ta ab 0 ln kd bg nx ft fb]) := hD
    obtain ⟨hE9, hy3⟩ := hpx
    obtain rfl := hE9
    refine vx_catch hown [] ⟨0, 9, 12, 13⟩ [] (by rw [htab]; rfl) (fun z hz => absurd hz List.not_mem_nil) (by decide) (by decide) (hts _ k1155) ((hT.1.2.2.2.2.1 _ (List.mem_of_getElem? (i := 1) rfl)).use) hce hcv hcl ?_
    refine W.widen (k := 3) (n := 18) (Nat.le_of_ble_eq_true rfl) (Nat.le_of_ble_eq_true rfl) ?_
    refine lv_astore_n (lv' := [(3, .ref q9), (0, .ref x), (1, .int r9), (2, .ref oa)]) hx hb dL_river_12 rfl hl (by decide) rfl (fun ls hl => ?_)
    refine lv_iconst (v := 1) hx hb dL_river_13 (by decide) ?_
    have hP : va_P g.1 vwCl (List.flatten [bOut g oa fz, bDR g x ta o lo go tt lt mo fo ro fl9, bTape g ta ab 0 ln kd bg nx ft fb]) H := hP
    have hD : va_D A (List.flatten [bOut g oa fz, bDR g x ta o lo go tt lt mo fo ro fl9, bTape g ta ab 0 ln kd bg nx ft fb]) := hD
    obtain ⟨hP, hD⟩ := zord (g := g) (Bs' := [bDR g x ta o lo go tt lt mo fo ro fl9, bTape g ta ab 0 ln kd bg nx ft fb, bOut g oa fz]) [1, 2, 0] rfl rfl hP hD
    exact zret_i hx hb hr hlocks hS (Nat.le_of_ble_eq_true rfl) (Nat.le_of_ble_eq_true rfl) dL_river_14 (fz, (1 : Int32)) rfl trivial hP hD
  · skip
    replace hq2 : ((0 ≤ r9.toInt ∧ r9.toInt ≤ 100) ∧ sz.toInt ≤ 12 ∧ zAl fb sz.toInt) ∧ (q_1 = zod r9 (zLd fb sz.toInt.toNat)) := hq2
    have hP : va_P g.1 vwCl (List.flatten [bOut g oa fz, bDR g x ta o lo go tt lt mo fo ro fl9, bTape g ta ab 0 ln kd bg nx ft fb]) H := hP
    have hD : va_D A (List.flatten [bOut g oa fz, bDR g x ta o lo go tt lt mo fo ro fl9, bTape g ta ab 0 ln kd bg nx ft fb]) := hD
    refine W.widen (k := 3) (n := 18) (Nat.le_of_ble_eq_true rfl) (Nat.le_of_ble_eq_true rfl) ?_
    refine W.eq (g2 := F0 m 7 ls [.int q_1, .int 0, .ref oa]) rfl ?_
    obtain ⟨hq2_0, hq2_1⟩ := hq2
    refine lv_i2l hx hb dL_river_7 rfl (zgl (fun y4 => ?_))
    refine va_last hx hb hK hP hD hS 0 2 rfl rfl (zin rfl) dL_river_8 (fun H locs hP hD hS => ?_)
    have hP : va_P g.1 vwCl (List.flatten [[(oa, .inl (g.2 2, 1, .inr (.inl (vp_updL fz 0 y4))))], bDR g x ta o lo go tt lt mo fo ro fl9, bTape g ta ab 0 ln kd bg nx ft fb]) H := hP
    have hD : va_D A (List.flatten [[(oa, .inl (g.2 2, 1, .inr (.inl (vp_updL fz 0 y4))))], bDR g x ta o lo go tt lt mo fo ro fl9, bTape g ta ab 0 ln kd bg nx ft fb]) := hD
    refine lv_goto (tgt := 15) hx hb dL_river_9 (by decide) ?_
    refine lv_iconst (v := 0) hx hb dL_river_15 (by decide) ?_
    have hP : va_P g.1 vwCl (List.flatten [bOut g oa (vp_updL fz 0 y4), bDR g x ta o lo go tt lt mo fo ro fl9, bTape g ta ab 0 ln kd bg nx ft fb]) H := hP
    have hD : va_D A (List.flatten [bOut g oa (vp_updL fz 0 y4), bDR g x ta o lo go tt lt mo fo ro fl9, bTape g ta ab 0 ln kd bg nx ft fb]) := hD
    obtain ⟨hP, hD⟩ := zord (g := g) (Bs' := [bDR g x ta o lo go tt lt mo fo ro fl9, bTape g ta ab 0 ln kd bg nx ft fb, bOut g oa (vp_updL fz 0 y4)]) [1, 2, 0] rfl rfl hP hD
    exact zret_i hx hb hr hlocks hS (Nat.le_of_ble_eq_true rfl) (Nat.le_of_ble_eq_true rfl) dL_river_16 (vp_updL fz 0 y4, (0 : Int32)) rfl trivial hP hD
set_option maxRecDepth 100000 in
set_option maxHeartbeats 4000000 in
theorem l_more (l : Launch) (hfl : l.stackTraces = false) (g : zG) (x : Nat) (ta : Nat) (o : Nat) (lo : Nat) (go : Nat) (tt : Nat) (lt : Nat) (mo : Nat) (fo : Nat) (ro : Nat) (fl9 : Int32) (ab : Nat) (sz : Int32) (ln : Int32) (kd : Int32) (bg : Int32) (nx : Int32) (ft : Int32) (fb : Nat → Int32) (oa : Nat) (fz : Nat → Int64) (r9 : Int32) (b_sz : 0 ≤ sz.toInt ∧ sz.toInt ≤ 400) : zX' g l yL_more (Cond.codeWith yL_more cL_more 4 (some .int) [(0, 9, 12, 13)] :: zB) ({ frames := 9, cells := 3, slots := 18, locals := 149 } : Room) [.ref x, .int r9, .ref oa] [bDR g x ta o lo go tt lt mo fo ro fl9, bTape g ta ab sz ln kd bg nx ft fb, bOut g oa fz] (fun u : (Nat → Int64) × Int32 => (fun (fz2 : Nat → Int64) (q : Int32) => some (.int q)) (u.1) (u.2)) (fun u : (Nat → Int64) × Int32 => (fun (fz2 : Nat → Int64) (q : Int32) => True) (u.1) (u.2)) (fun u : (Nat → Int64) × Int32 => (fun (fz2 : Nat → Int64) (q : Int32) => [bDR g x ta o lo go tt lt mo fo ro fl9, bTape g ta ab 0 ln kd bg nx ft fb, bOut g oa fz2]) (u.1) (u.2)) zNo zN0 := by
  refine zX'.ofH (cc := cL_more) (maxL := 4) (rt := (some .int)) (by decide) rfl (Nat.le_of_ble_eq_true rfl) ?_
  intro p e s m args below meth c A ls St hr hlocks htab hin hK hT hA hP hD hS hl
  obtain ⟨hx, hb, hml, hown, hts⟩ := id St
  have hl : lv_has ls 4 [(0, .ref x), (1, .int r9), (2, .ref oa)] := hl
  refine lv_aload_n hx hb dL_more_0 rfl (lv_at hl 2 rfl) ?_
  refine lv_iconst (v := 0) hx hb dL_more_1 (by decide) ?_
  refine lv_aload_n hx hb dL_more_2 rfl (lv_at hl 0 rfl) ?_
  refine lv_iload_n hx hb dL_more_3 rfl (lv_at hl 1 rfl) ?_
  refine xcallV' (g := g) (q0 := 0) (ci := 9) (As := [.int r9]) (rest := [.int 0, .ref oa]) St hK hT hA hP hD hS hl.1 [0, 1] [2] rfl rfl rfl (c_x_more l hfl g x ta o lo go tt lt mo fo ro fl9 ab sz ln kd bg nx ft fb r9 b_sz) (cwV 1 hts (zgL (zl4 k1248 k1249 k1250 k621) k732) rfl rfl rfl (by decide +kernel) ⟨Nat.le_of_ble_eq_true rfl, Nat.le_of_ble_eq_true rfl⟩) rfl rfl rfl rfl (Nat.le_of_ble_eq_true rfl) dL_more_4 ⟨(Nat.le_of_ble_eq_true rfl), (Nat.le_of_ble_eq_true rfl)⟩ (fun E ce q9 u9 H locs hpx hP hD hS hce hcv hcl => ?_) (fun q_1 H locs hq2 hP hD hS => ?_)
  · skip
    have hpx : (E = "java/lang/IllegalArgumentException") ∧ (¬ ((0 ≤ r9.toInt ∧ r9.toInt ≤ 100) ∧ sz.toInt ≤ 12 ∧ zAl fb sz.toInt)) := hpx
    have hP : va_P g.1 vwCl (List.flatten [bOut g oa fz, bDR g x ta o lo go tt lt mo fo ro fl9, bTape g ta ab 0 ln kd bg nx ft fb]) H := hP
    have hD : va_D A (List.flatten [bOut g oa fz, bDR g x ta o lo go tt lt mo fo ro fl9, bTape g ta ab 0 ln kd bg nx ft fb]) := hD
    obtain ⟨hE9, hy3⟩ := hpx
    obtain rfl := hE9
    refine vx_catch hown [] ⟨0, 9, 12, 13⟩ [] (by rw [htab]; rfl) (fun z hz => absurd hz List.not_mem_nil) (by decide) (by decide) (hts _ k1155) ((hT.1.2.2.2.2.1 _ (List.mem_of_getElem? (i := 1) rfl)).use) hce hcv hcl ?_
    refine W.widen (k := 3) (n := 18) (Nat.le_of_ble_eq_true rfl) (Nat.le_of_ble_eq_true rfl) ?_
    refine lv_astore_n (lv' := [(3, .ref q9), (0, .ref x), (1, .int r9), (2, .ref oa)]) hx hb dL_more_12 rfl hl (by decide) rfl (fun ls hl => ?_)
    refine lv_iconst (v := 1) hx hb dL_more_13 (by decide) ?_
    have hP : va_P g.1 vwCl (List.flatten [bOut g oa fz, bDR g x ta o lo go tt lt mo fo ro fl9, bTape g ta ab 0 ln kd bg nx ft fb]) H := hP
    have hD : va_D A (List.flatten [bOut g oa fz, bDR g x ta o lo go tt lt mo fo ro fl9, bTape g ta ab 0 ln kd bg nx ft fb]) := hD
    obtain ⟨hP, hD⟩ := zord (g := g) (Bs' := [bDR g x ta o lo go tt lt mo fo ro fl9, bTape g ta ab 0 ln kd bg nx ft fb, bOut g oa fz]) [1, 2, 0] rfl rfl hP hD
    exact zret_i hx hb hr hlocks hS (Nat.le_of_ble_eq_true rfl) (Nat.le_of_ble_eq_true rfl) dL_more_14 (fz, (1 : Int32)) rfl trivial hP hD
  · skip
    replace hq2 : ((0 ≤ r9.toInt ∧ r9.toInt ≤ 100) ∧ sz.toInt ≤ 12 ∧ zAl fb sz.toInt) ∧ (zfew r9 (zLd fb sz.toInt.toNat) q_1.toInt) := hq2
    have hP : va_P g.1 vwCl (List.flatten [bOut g oa fz, bDR g x ta o lo go tt lt mo fo ro fl9, bTape g ta ab 0 ln kd bg nx ft fb]) H := hP
    have hD : va_D A (List.flatten [bOut g oa fz, bDR g x ta o lo go tt lt mo fo ro fl9, bTape g ta ab 0 ln kd bg nx ft fb]) := hD
    refine W.widen (k := 3) (n := 18) (Nat.le_of_ble_eq_true rfl) (Nat.le_of_ble_eq_true rfl) ?_
    refine W.eq (g2 := F0 m 7 ls [.int q_1, .int 0, .ref oa]) rfl ?_
    obtain ⟨hq2_0, hq2_1⟩ := hq2
    refine lv_i2l hx hb dL_more_7 rfl (zgl (fun y4 => ?_))
    refine va_last hx hb hK hP hD hS 0 2 rfl rfl (zin rfl) dL_more_8 (fun H locs hP hD hS => ?_)
    have hP : va_P g.1 vwCl (List.flatten [[(oa, .inl (g.2 2, 1, .inr (.inl (vp_updL fz 0 y4))))], bDR g x ta o lo go tt lt mo fo ro fl9, bTape g ta ab 0 ln kd bg nx ft fb]) H := hP
    have hD : va_D A (List.flatten [[(oa, .inl (g.2 2, 1, .inr (.inl (vp_updL fz 0 y4))))], bDR g x ta o lo go tt lt mo fo ro fl9, bTape g ta ab 0 ln kd bg nx ft fb]) := hD
    refine lv_goto (tgt := 15) hx hb dL_more_9 (by decide) ?_
    refine lv_iconst (v := 0) hx hb dL_more_15 (by decide) ?_
    have hP : va_P g.1 vwCl (List.flatten [bOut g oa (vp_updL fz 0 y4), bDR g x ta o lo go tt lt mo fo ro fl9, bTape g ta ab 0 ln kd bg nx ft fb]) H := hP
    have hD : va_D A (List.flatten [bOut g oa (vp_updL fz 0 y4), bDR g x ta o lo go tt lt mo fo ro fl9, bTape g ta ab 0 ln kd bg nx ft fb]) := hD
    obtain ⟨hP, hD⟩ := zord (g := g) (Bs' := [bDR g x ta o lo go tt lt mo fo ro fl9, bTape g ta ab 0 ln kd bg nx ft fb, bOut g oa (vp_updL fz 0 y4)]) [1, 2, 0] rfl rfl hP hD
    exact zret_i hx hb hr hlocks hS (Nat.le_of_ble_eq_true rfl) (Nat.le_of_ble_eq_true rfl) dL_more_16 (vp_updL fz 0 y4, (0 : Int32)) rfl trivial hP hD
set_option maxRecDepth 100000 in
set_option maxHeartbeats 4000000 in
theorem l_liars (l : Launch) (hfl : l.stackTraces = false) (g : zG) (x : Nat) (ta : Nat) (o : Nat) (lo : Nat) (go : Nat) (tt : Nat) (lt : Nat) (mo : Nat) (fo : Nat) (ro : Nat) (fl9 : Int32) (a : Nat → Nat) (pe : Int32) (wo : Int32) (tx : Int32) (ch : Int32) (jo : Int32) (tr : Int32) (dy : Int32) (sd : Int32) (f : Nat → Nat → Int32) (ab : Nat) (sz : Int32) (ln : Int32) (kd : Int32) (bg : Int32) (nx : Int32) (ft : Int32) (fb : Nat → Int32) (rw : Nat) (ri : Int32) (rt : Int32) (rb : Nat → Int32) (oa : Nat) (fz : Nat → Int64) (su : Int32) (b_pe : 0 ≤ pe.toInt ∧ pe.toInt ≤ 8) (b_wo : 0 ≤ wo.toInt ∧ wo.toInt ≤ 6) (rf : zZ4 f) (b_sz : 0 ≤ sz.toInt ∧ sz.toInt ≤ 400) (b_ri : 0 ≤ ri.toInt ∧ ri.toInt ≤ 8) : zX' g l yL_liars (Cond.codeWith yL_liars cL_liars 4 (some .int) [(0, 9, 12, 13)] :: zB) ({ frames := 9, cells := 2, slots := 12, locals := 148 } : Room) [.ref x, .int su, .ref oa] [bDR g x ta o lo go tt lt mo fo ro fl9, bTown g o a pe wo tx ch jo tr dy sd f, bTape g ta ab sz ln kd bg nx ft fb, bRi g ro rw ri rt rb, bOut g oa fz] (fun u : Int32 × Int32 × (Nat → Int32) × (Nat → Int64) × Int32 => (fun (ri2 : Int32) (rt2 : Int32) (rb2 : Nat → Int32) (fz2 : Nat → Int64) (q : Int32) => some (.int q)) (u.1) (u.2.1) (u.2.2.1) (u.2.2.2.1) (u.2.2.2.2)) (fun u : Int32 × Int32 × (Nat → Int32) × (Nat → Int64) × Int32 => (fun (ri2 : Int32) (rt2 : Int32) (rb2 : Nat → Int32) (fz2 : Nat → Int64) (q : Int32) => (0 ≤ ri2.toInt ∧ ri2.toInt ≤ 8)) (u.1) (u.2.1) (u.2.2.1) (u.2.2.2.1) (u.2.2.2.2)) (fun u : Int32 × Int32 × (Nat → Int32) × (Nat → Int64) × Int32 => (fun (ri2 : Int32) (rt2 : Int32) (rb2 : Nat → Int32) (fz2 : Nat → Int64) (q : Int32) => [bDR g x ta o lo go tt lt mo fo ro fl9, bTown g o a pe wo tx ch jo tr dy sd f, bTape g ta ab 0 ln kd bg nx ft fb, bRi g ro rw ri2 rt2 rb2, bOut g oa fz2]) (u.1) (u.2.1) (u.2.2.1) (u.2.2.2.1) (u.2.2.2.2)) zNo zN0 := by
  refine zX'.ofH (cc := cL_liars) (maxL := 4) (rt := (some .int)) (by decide) rfl (Nat.le_of_ble_eq_true rfl) ?_
  intro p e s m args below meth c A ls St hr hlocks htab hin hK hT hA hP hD hS hl
  obtain ⟨hx, hb, hml, hown, hts⟩ := id St
  have hl : lv_has ls 4 [(0, .ref x), (1, .int su), (2, .ref oa)] := hl
  refine lv_aload_n hx hb dL_liars_0 rfl (lv_at hl 2 rfl) ?_
  refine lv_iconst (v := 0) hx hb dL_liars_1 (by decide) ?_
  refine lv_aload_n hx hb dL_liars_2 rfl (lv_at hl 0 rfl) ?_
  refine lv_iload_n hx hb dL_liars_3 rfl (lv_at hl 1 rfl) ?_
  refine xcallV' (g := g) (q0 := 0) (ci := 9) (As := [.int su]) (rest := [.int 0, .ref oa]) St hK hT hA hP hD hS hl.1 [0, 1, 2, 3] [4] rfl rfl rfl (c_x_liars l hfl g x ta o lo go tt lt mo fo ro fl9 a pe wo tx ch jo tr dy sd f ab sz ln kd bg nx ft fb rw ri rt rb su b_pe b_wo rf b_sz b_ri) (cwV 1 hts (zgL (zl4 k1252 k1253 k1254 k621) k747) rfl rfl rfl (by decide +kernel) ⟨Nat.le_of_ble_eq_true rfl, Nat.le_of_ble_eq_true rfl⟩) rfl rfl rfl rfl (Nat.le_of_ble_eq_true rfl) dL_liars_4 ⟨(Nat.le_of_ble_eq_true rfl), (Nat.le_of_ble_eq_true rfl)⟩ (fun E ce q9 u9 H locs hpx hP hD hS hce hcv hcl => ?_) (fun u_ H locs hq5 hP hD hS => ?_)
  · skip
    obtain ⟨ri2_6, rt2_7, rb2_8⟩ := u9
    have hpx : (E = "java/lang/IllegalArgumentException") ∧ (0 ≤ ri2_6.toInt ∧ ri2_6.toInt ≤ 8) := hpx
    have hP : va_P g.1 vwCl (List.flatten [bOut g oa fz, bDR g x ta o lo go tt lt mo fo ro fl9, bTown g o a pe wo tx ch jo tr dy sd f, bTape g ta ab 0 ln kd bg nx ft fb, bRi g ro rw ri2_6 rt2_7 rb2_8]) H := hP
    have hD : va_D A (List.flatten [bOut g oa fz, bDR g x ta o lo go tt lt mo fo ro fl9, bTown g o a pe wo tx ch jo tr dy sd f, bTape g ta ab 0 ln kd bg nx ft fb, bRi g ro rw ri2_6 rt2_7 rb2_8]) := hD
    obtain ⟨hE9, hy9⟩ := hpx
    obtain rfl := hE9
    refine vx_catch hown [] ⟨0, 9, 12, 13⟩ [] (by rw [htab]; rfl) (fun z hz => absurd hz List.not_mem_nil) (by decide) (by decide) (hts _ k1155) ((hT.1.2.2.2.2.1 _ (List.mem_of_getElem? (i := 1) rfl)).use) hce hcv hcl ?_
    refine W.widen (k := 2) (n := 12) (Nat.le_of_ble_eq_true rfl) (Nat.le_of_ble_eq_true rfl) ?_
    refine lv_astore_n (lv' := [(3, .ref q9), (0, .ref x), (1, .int su), (2, .ref oa)]) hx hb dL_liars_12 rfl hl (by decide) rfl (fun ls hl => ?_)
    refine lv_iconst (v := 1) hx hb dL_liars_13 (by decide) ?_
    have hP : va_P g.1 vwCl (List.flatten [bOut g oa fz, bDR g x ta o lo go tt lt mo fo ro fl9, bTown g o a pe wo tx ch jo tr dy sd f, bTape g ta ab 0 ln kd bg nx ft fb, bRi g ro rw ri2_6 rt2_7 rb2_8]) H := hP
    have hD : va_D A (List.flatten [bOut g oa fz, bDR g x ta o lo go tt lt mo fo ro fl9, bTown g o a pe wo tx ch jo tr dy sd f, bTape g ta ab 0 ln kd bg nx ft fb, bRi g ro rw ri2_6 rt2_7 rb2_8]) := hD
    obtain ⟨hP, hD⟩ := zord (g := g) (Bs' := [bDR g x ta o lo go tt lt mo fo ro fl9, bTown g o a pe wo tx ch jo tr dy sd f, bTape g ta ab 0 ln kd bg nx ft fb, bRi g ro rw ri2_6 rt2_7 rb2_8, bOut g oa fz]) [1, 2, 3, 4, 0] rfl rfl hP hD
    exact zret_i hx hb hr hlocks hS (Nat.le_of_ble_eq_true rfl) (Nat.le_of_ble_eq_true rfl) dL_liars_14 (ri2_6, rt2_7, rb2_8, fz, (1 : Int32)) rfl (show (0 ≤ ri2_6.toInt ∧ ri2_6.toInt ≤ 8) from hy9) hP hD
  · skip
    obtain ⟨ri2_1, rt2_2, rb2_3, q_4⟩ := u_
    replace hq5 : (0 ≤ ri2_1.toInt ∧ ri2_1.toInt ≤ 8) := hq5
    have hP : va_P g.1 vwCl (List.flatten [bOut g oa fz, bDR g x ta o lo go tt lt mo fo ro fl9, bTown g o a pe wo tx ch jo tr dy sd f, bTape g ta ab 0 ln kd bg nx ft fb, bRi g ro rw ri2_1 rt2_2 rb2_3]) H := hP
    have hD : va_D A (List.flatten [bOut g oa fz, bDR g x ta o lo go tt lt mo fo ro fl9, bTown g o a pe wo tx ch jo tr dy sd f, bTape g ta ab 0 ln kd bg nx ft fb, bRi g ro rw ri2_1 rt2_2 rb2_3]) := hD
    refine W.widen (k := 2) (n := 12) (Nat.le_of_ble_eq_true rfl) (Nat.le_of_ble_eq_true rfl) ?_
    refine W.eq (g2 := F0 m 7 ls [.int q_4, .int 0, .ref oa]) rfl ?_
    refine lv_i2l hx hb dL_liars_7 rfl (zgl (fun y10 => ?_))
    refine va_last hx hb hK hP hD hS 0 2 rfl rfl (zin rfl) dL_liars_8 (fun H locs hP hD hS => ?_)
    have hP : va_P g.1 vwCl (List.flatten [[(oa, .inl (g.2 2, 1, .inr (.inl (vp_updL fz 0 y10))))], bDR g x ta o lo go tt lt mo fo ro fl9, bTown g o a pe wo tx ch jo tr dy sd f, bTape g ta ab 0 ln kd bg nx ft fb, bRi g ro rw ri2_1 rt2_2 rb2_3]) H := hP
    have hD : va_D A (List.flatten [[(oa, .inl (g.2 2, 1, .inr (.inl (vp_updL fz 0 y10))))], bDR g x ta o lo go tt lt mo fo ro fl9, bTown g o a pe wo tx ch jo tr dy sd f, bTape g ta ab 0 ln kd bg nx ft fb, bRi g ro rw ri2_1 rt2_2 rb2_3]) := hD
    refine lv_goto (tgt := 15) hx hb dL_liars_9 (by decide) ?_
    refine lv_iconst (v := 0) hx hb dL_liars_15 (by decide) ?_
    have hP : va_P g.1 vwCl (List.flatten [bOut g oa (vp_updL fz 0 y10), bDR g x ta o lo go tt lt mo fo ro fl9, bTown g o a pe wo tx ch jo tr dy sd f, bTape g ta ab 0 ln kd bg nx ft fb, bRi g ro rw ri2_1 rt2_2 rb2_3]) H := hP
    have hD : va_D A (List.flatten [bOut g oa (vp_updL fz 0 y10), bDR g x ta o lo go tt lt mo fo ro fl9, bTown g o a pe wo tx ch jo tr dy sd f, bTape g ta ab 0 ln kd bg nx ft fb, bRi g ro rw ri2_1 rt2_2 rb2_3]) := hD
    obtain ⟨hP, hD⟩ := zord (g := g) (Bs' := [bDR g x ta o lo go tt lt mo fo ro fl9, bTown g o a pe wo tx ch jo tr dy sd f, bTape g ta ab 0 ln kd bg nx ft fb, bRi g ro rw ri2_1 rt2_2 rb2_3, bOut g oa (vp_updL fz 0 y10)]) [1, 2, 3, 4, 0] rfl rfl hP hD
    exact zret_i hx hb hr hlocks hS (Nat.le_of_ble_eq_true rfl) (Nat.le_of_ble_eq_true rfl) dL_liars_16 (ri2_1, rt2_2, rb2_3, vp_updL fz 0 y10, (0 : Int32)) rfl (show (0 ≤ ri2_1.toInt ∧ ri2_1.toInt ≤ 8) from hq5) hP hD
set_option maxRecDepth 100000 in
set_option maxHeartbeats 4000000 in
theorem l_word (l : Launch) (hfl : l.stackTraces = false) (g : zG) (x : Nat) (ta : Nat) (o : Nat) (lo : Nat) (go : Nat) (tt : Nat) (lt : Nat) (mo : Nat) (fo : Nat) (ro : Nat) (fl9 : Int32) (a : Nat → Nat) (pe : Int32) (wo : Int32) (tx : Int32) (ch : Int32) (jo : Int32) (tr : Int32) (dy : Int32) (sd : Int32) (f : Nat → Nat → Int32) (oa : Nat) (fz : Nat → Int64) (pp : Int32) (b_pe : 0 ≤ pe.toInt ∧ pe.toInt ≤ 8) (b_wo : 0 ≤ wo.toInt ∧ wo.toInt ≤ 6) (rf : zZ4 f) : zX' g l yL_word (Cond.codeWith yL_word cL_word 4 (some .int) [(0, 9, 12, 24)] :: zB) ({ frames := 8, cells := 1, slots := 6, locals := 124 } : Room) [.ref x, .int pp, .ref oa] [bDR g x ta o lo go tt lt mo fo ro fl9, bTown g o a pe wo tx ch jo tr dy sd f, bOut g oa fz] (fun u : (Nat → Int64) × Int32 => (fun (fz2 : Nat → Int64) (q : Int32) => some (.int q)) (u.1) (u.2)) (fun u : (Nat → Int64) × Int32 => (fun (fz2 : Nat → Int64) (q : Int32) => True) (u.1) (u.2)) (fun u : (Nat → Int64) × Int32 => (fun (fz2 : Nat → Int64) (q : Int32) => [bDR g x ta o lo go tt lt mo fo ro fl9, bTown g o a pe wo tx ch jo tr dy sd f, bOut g oa fz2]) (u.1) (u.2)) zNo zN0 := by
  refine zX'.ofH (cc := cL_word) (maxL := 4) (rt := (some .int)) (by decide) rfl (Nat.le_of_ble_eq_true rfl) ?_
  intro p e s m args below meth c A ls St hr hlocks htab hin hK hT hA hP hD hS hl
  obtain ⟨hx, hb, hml, hown, hts⟩ := id St
  have hl : lv_has ls 4 [(0, .ref x), (1, .int pp), (2, .ref oa)] := hl
  refine lv_aload_n hx hb dL_word_0 rfl (lv_at hl 2 rfl) ?_
  refine lv_iconst (v := 0) hx hb dL_word_1 (by decide) ?_
  refine lv_aload_n hx hb dL_word_2 rfl (lv_at hl 0 rfl) ?_
  refine lv_iload_n hx hb dL_word_3 rfl (lv_at hl 1 rfl) ?_
  refine xcallV' (g := g) (q0 := 0) (ci := 9) (As := [.int pp]) (rest := [.int 0, .ref oa]) St hK hT hA hP hD hS hl.1 [0, 1] [2] rfl rfl rfl (c_x_word l hfl g x ta o lo go tt lt mo fo ro fl9 a pe wo tx ch jo tr dy sd f pp b_pe b_wo rf) (cwV 1 hts (zgL (zl4 k1260 k1261 k1262 k621) k752) rfl rfl rfl (by decide +kernel) ⟨Nat.le_of_ble_eq_true rfl, Nat.le_of_ble_eq_true rfl⟩) rfl rfl rfl rfl (Nat.le_of_ble_eq_true rfl) dL_word_4 ⟨(Nat.le_of_ble_eq_true rfl), (Nat.le_of_ble_eq_true rfl)⟩ (fun E ce q9 u9 H locs hpx hP hD hS hce hcv hcl => ?_) (fun q_1 H locs hq2 hP hD hS => ?_)
  · skip
    have hpx : (E = "java/lang/IndexOutOfBoundsException") := hpx
    have hP : va_P g.1 vwCl (List.flatten [bOut g oa fz, bDR g x ta o lo go tt lt mo fo ro fl9, bTown g o a pe wo tx ch jo tr dy sd f]) H := hP
    have hD : va_D A (List.flatten [bOut g oa fz, bDR g x ta o lo go tt lt mo fo ro fl9, bTown g o a pe wo tx ch jo tr dy sd f]) := hD
    obtain rfl := hpx
    refine vx_catch hown [] ⟨0, 9, 12, 24⟩ [] (by rw [htab]; rfl) (fun z hz => absurd hz List.not_mem_nil) (by decide) (by decide) (hts _ k1165) ((hT.1.2.2.2.2.1 _ (List.mem_of_getElem? (i := 0) rfl)).use) hce hcv hcl ?_
    refine W.widen (k := 1) (n := 6) (Nat.le_of_ble_eq_true rfl) (Nat.le_of_ble_eq_true rfl) ?_
    refine lv_astore_n (lv' := [(3, .ref q9), (0, .ref x), (1, .int pp), (2, .ref oa)]) hx hb dL_word_12 rfl hl (by decide) rfl (fun ls hl => ?_)
    refine lv_iconst (v := 1) hx hb dL_word_13 (by decide) ?_
    have hP : va_P g.1 vwCl (List.flatten [bOut g oa fz, bDR g x ta o lo go tt lt mo fo ro fl9, bTown g o a pe wo tx ch jo tr dy sd f]) H := hP
    have hD : va_D A (List.flatten [bOut g oa fz, bDR g x ta o lo go tt lt mo fo ro fl9, bTown g o a pe wo tx ch jo tr dy sd f]) := hD
    obtain ⟨hP, hD⟩ := zord (g := g) (Bs' := [bDR g x ta o lo go tt lt mo fo ro fl9, bTown g o a pe wo tx ch jo tr dy sd f, bOut g oa fz]) [1, 2, 0] rfl rfl hP hD
    exact zret_i hx hb hr hlocks hS (Nat.le_of_ble_eq_true rfl) (Nat.le_of_ble_eq_true rfl) dL_word_14 (fz, (1 : Int32)) rfl trivial hP hD
  · skip
    have hP : va_P g.1 vwCl (List.flatten [bOut g oa fz, bDR g x ta o lo go tt lt mo fo ro fl9, bTown g o a pe wo tx ch jo tr dy sd f]) H := hP
    have hD : va_D A (List.flatten [bOut g oa fz, bDR g x ta o lo go tt lt mo fo ro fl9, bTown g o a pe wo tx ch jo tr dy sd f]) := hD
    refine W.widen (k := 1) (n := 6) (Nat.le_of_ble_eq_true rfl) (Nat.le_of_ble_eq_true rfl) ?_
    refine W.eq (g2 := F0 m 7 ls [.int q_1, .int 0, .ref oa]) rfl ?_
    refine lv_i2l hx hb dL_word_7 rfl (zgl (fun y3 => ?_))
    refine va_last hx hb hK hP hD hS 0 2 rfl rfl (zin rfl) dL_word_8 (fun H locs hP hD hS => ?_)
    have hP : va_P g.1 vwCl (List.flatten [[(oa, .inl (g.2 2, 1, .inr (.inl (vp_updL fz 0 y3))))], bDR g x ta o lo go tt lt mo fo ro fl9, bTown g o a pe wo tx ch jo tr dy sd f]) H := hP
    have hD : va_D A (List.flatten [[(oa, .inl (g.2 2, 1, .inr (.inl (vp_updL fz 0 y3))))], bDR g x ta o lo go tt lt mo fo ro fl9, bTown g o a pe wo tx ch jo tr dy sd f]) := hD
    refine lv_goto (tgt := 15) hx hb dL_word_9 (by decide) ?_
    refine lv_iconst (v := 0) hx hb dL_word_15 (by decide) ?_
    have hP : va_P g.1 vwCl (List.flatten [bOut g oa (vp_updL fz 0 y3), bDR g x ta o lo go tt lt mo fo ro fl9, bTown g o a pe wo tx ch jo tr dy sd f]) H := hP
    have hD : va_D A (List.flatten [bOut g oa (vp_updL fz 0 y3), bDR g x ta o lo go tt lt mo fo ro fl9, bTown g o a pe wo tx ch jo tr dy sd f]) := hD
    obtain ⟨hP, hD⟩ := zord (g := g) (Bs' := [bDR g x ta o lo go tt lt mo fo ro fl9, bTown g o a pe wo tx ch jo tr dy sd f, bOut g oa (vp_updL fz 0 y3)]) [1, 2, 0] rfl rfl hP hD
    exact zret_i hx hb hr hlocks hS (Nat.le_of_ble_eq_true rfl) (Nat.le_of_ble_eq_true rfl) dL_word_16 (vp_updL fz 0 y3, (0 : Int32)) rfl trivial hP hD
set_option maxRecDepth 100000 in
set_option maxHeartbeats 4000000 in
theorem l_steps (l : Launch) (hfl : l.stackTraces = false) (g : zG) (x : Nat) (ta : Nat) (o : Nat) (lo : Nat) (go : Nat) (tt : Nat) (lt : Nat) (mo : Nat) (fo : Nat) (ro : Nat) (fl9 : Int32) (a : Nat → Nat) (pe : Int32) (wo : Int32) (tx : Int32) (ch : Int32) (jo : Int32) (tr : Int32) (dy : Int32) (sd : Int32) (f : Nat → Nat → Int32) (oa : Nat) (fz : Nat → Int64) (pp : Int32) (oo : Int32) (b_pe : 0 ≤ pe.toInt ∧ pe.toInt ≤ 8) (b_wo : 0 ≤ wo.toInt ∧ wo.toInt ≤ 6) (rf : zZ4 f) : zX' g l yL_steps (Cond.codeWith yL_steps cL_steps 5 (some .int) [(0, 10, 13, 24), (0, 10, 17, 13)] :: zB) ({ frames := 9, cells := 3, slots := 18, locals := 147 } : Room) [.ref x, .int pp, .int oo, .ref oa] [bDR g x ta o lo go tt lt mo fo ro fl9, bTown g o a pe wo tx ch jo tr dy sd f, bOut g oa fz] (fun u : (Nat → Int64) × Int32 => (fun (fz2 : Nat → Int64) (q : Int32) => some (.int q)) (u.1) (u.2)) (fun u : (Nat → Int64) × Int32 => (fun (fz2 : Nat → Int64) (q : Int32) => True) (u.1) (u.2)) (fun u : (Nat → Int64) × Int32 => (fun (fz2 : Nat → Int64) (q : Int32) => [bDR g x ta o lo go tt lt mo fo ro fl9, bTown g o a pe wo tx ch jo tr dy sd f, bOut g oa fz2]) (u.1) (u.2)) zNo zN0 := by
  refine zX'.ofH (cc := cL_steps) (maxL := 5) (rt := (some .int)) (by decide) rfl (Nat.le_of_ble_eq_true rfl) ?_
  intro p e s m args below meth c A ls St hr hlocks htab hin hK hT hA hP hD hS hl
  obtain ⟨hx, hb, hml, hown, hts⟩ := id St
  have hl : lv_has ls 5 [(0, .ref x), (1, .int pp), (2, .int oo), (3, .ref oa)] := hl
  refine lv_aload_n hx hb dL_steps_0 rfl (lv_at hl 3 rfl) ?_
  refine lv_iconst (v := 0) hx hb dL_steps_1 (by decide) ?_
  refine lv_aload_n hx hb dL_steps_2 rfl (lv_at hl 0 rfl) ?_
  refine lv_iload_n hx hb dL_steps_3 rfl (lv_at hl 1 rfl) ?_
  refine lv_iload_n hx hb dL_steps_4 rfl (lv_at hl 2 rfl) ?_
  refine xcallV' (g := g) (q0 := 0) (ci := 9) (As := [.int pp, .int oo]) (rest := [.int 0, .ref oa]) St hK hT hA hP hD hS hl.1 [0, 1] [2] rfl rfl rfl (c_x_steps l hfl g x ta o lo go tt lt mo fo ro fl9 a pe wo tx ch jo tr dy sd f pp oo b_pe b_wo rf) (cwV 2 hts (zgL (zl4 k1264 k1265 k1266 k621) k756) rfl rfl rfl (by decide +kernel) ⟨Nat.le_of_ble_eq_true rfl, Nat.le_of_ble_eq_true rfl⟩) rfl rfl rfl rfl (Nat.le_of_ble_eq_true rfl) dL_steps_5 ⟨(Nat.le_of_ble_eq_true rfl), (Nat.le_of_ble_eq_true rfl)⟩ (fun E ce q9 u9 H locs hpx hP hD hS hce hcv hcl => ?_) (fun q_1 H locs hq2 hP hD hS => ?_)
  · skip
    have hpx : (E = "java/lang/IndexOutOfBoundsException" ∨ E = "java/lang/IllegalArgumentException") := hpx
    have hP : va_P g.1 vwCl (List.flatten [bOut g oa fz, bDR g x ta o lo go tt lt mo fo ro fl9, bTown g o a pe wo tx ch jo tr dy sd f]) H := hP
    have hD : va_D A (List.flatten [bOut g oa fz, bDR g x ta o lo go tt lt mo fo ro fl9, bTown g o a pe wo tx ch jo tr dy sd f]) := hD
    rcases hpx with rfl | rfl
    · skip
      refine vx_catch hown [] ⟨0, 10, 13, 24⟩ [⟨0, 10, 17, 13⟩] (by rw [htab]; rfl) (fun z hz => absurd hz List.not_mem_nil) (by decide) (by decide) (hts _ k1165) ((hT.1.2.2.2.2.1 _ (List.mem_of_getElem? (i := 0) rfl)).use) hce hcv hcl ?_
      refine W.widen (k := 3) (n := 18) (Nat.le_of_ble_eq_true rfl) (Nat.le_of_ble_eq_true rfl) ?_
      refine lv_astore (lv' := [(4, .ref q9), (0, .ref x), (1, .int pp), (2, .int oo), (3, .ref oa)]) hx hb dL_steps_13 hl (by decide) rfl (fun ls hl => ?_)
      refine lv_iconst (v := 1) hx hb dL_steps_15 (by decide) ?_
      have hP : va_P g.1 vwCl (List.flatten [bOut g oa fz, bDR g x ta o lo go tt lt mo fo ro fl9, bTown g o a pe wo tx ch jo tr dy sd f]) H := hP
      have hD : va_D A (List.flatten [bOut g oa fz, bDR g x ta o lo go tt lt mo fo ro fl9, bTown g o a pe wo tx ch jo tr dy sd f]) := hD
      obtain ⟨hP, hD⟩ := zord (g := g) (Bs' := [bDR g x ta o lo go tt lt mo fo ro fl9, bTown g o a pe wo tx ch jo tr dy sd f, bOut g oa fz]) [1, 2, 0] rfl rfl hP hD
      exact zret_i hx hb hr hlocks hS (Nat.le_of_ble_eq_true rfl) (Nat.le_of_ble_eq_true rfl) dL_steps_16 (fz, (1 : Int32)) rfl trivial hP hD
    · skip
      refine vx_catch hown [⟨0, 10, 13, 24⟩] ⟨0, 10, 17, 13⟩ [] (by rw [htab]; rfl) (fun z hz => by
            rcases List.mem_cons.mp hz with rfl | hz; · exact Or.inr ⟨by decide, "java/lang/IndexOutOfBoundsException", hts _ k1165, hT.1.2.2.2.2.2.1 _ (List.mem_of_getElem? (i := 4) rfl)⟩
            cases hz) (by decide) (by decide) (hts _ k1155) ((hT.1.2.2.2.2.1 _ (List.mem_of_getElem? (i := 1) rfl)).use) hce hcv hcl ?_
      refine W.widen (k := 3) (n := 18) (Nat.le_of_ble_eq_true rfl) (Nat.le_of_ble_eq_true rfl) ?_
      refine lv_astore (lv' := [(4, .ref q9), (0, .ref x), (1, .int pp), (2, .int oo), (3, .ref oa)]) hx hb dL_steps_17 hl (by decide) rfl (fun ls hl => ?_)
      refine lv_iconst (v := 2) hx hb dL_steps_19 (by decide) ?_
      have hP : va_P g.1 vwCl (List.flatten [bOut g oa fz, bDR g x ta o lo go tt lt mo fo ro fl9, bTown g o a pe wo tx ch jo tr dy sd f]) H := hP
      have hD : va_D A (List.flatten [bOut g oa fz, bDR g x ta o lo go tt lt mo fo ro fl9, bTown g o a pe wo tx ch jo tr dy sd f]) := hD
      obtain ⟨hP, hD⟩ := zord (g := g) (Bs' := [bDR g x ta o lo go tt lt mo fo ro fl9, bTown g o a pe wo tx ch jo tr dy sd f, bOut g oa fz]) [1, 2, 0] rfl rfl hP hD
      exact zret_i hx hb hr hlocks hS (Nat.le_of_ble_eq_true rfl) (Nat.le_of_ble_eq_true rfl) dL_steps_20 (fz, (2 : Int32)) rfl trivial hP hD
  · skip
    have hP : va_P g.1 vwCl (List.flatten [bOut g oa fz, bDR g x ta o lo go tt lt mo fo ro fl9, bTown g o a pe wo tx ch jo tr dy sd f]) H := hP
    have hD : va_D A (List.flatten [bOut g oa fz, bDR g x ta o lo go tt lt mo fo ro fl9, bTown g o a pe wo tx ch jo tr dy sd f]) := hD
    refine W.widen (k := 3) (n := 18) (Nat.le_of_ble_eq_true rfl) (Nat.le_of_ble_eq_true rfl) ?_
    refine W.eq (g2 := F0 m 8 ls [.int q_1, .int 0, .ref oa]) rfl ?_
    refine lv_i2l hx hb dL_steps_8 rfl (zgl (fun y3 => ?_))
    refine va_last hx hb hK hP hD hS 0 2 rfl rfl (zin rfl) dL_steps_9 (fun H locs hP hD hS => ?_)
    have hP : va_P g.1 vwCl (List.flatten [[(oa, .inl (g.2 2, 1, .inr (.inl (vp_updL fz 0 y3))))], bDR g x ta o lo go tt lt mo fo ro fl9, bTown g o a pe wo tx ch jo tr dy sd f]) H := hP
    have hD : va_D A (List.flatten [[(oa, .inl (g.2 2, 1, .inr (.inl (vp_updL fz 0 y3))))], bDR g x ta o lo go tt lt mo fo ro fl9, bTown g o a pe wo tx ch jo tr dy sd f]) := hD
    refine lv_goto (tgt := 21) hx hb dL_steps_10 (by decide) ?_
    refine lv_iconst (v := 0) hx hb dL_steps_21 (by decide) ?_
    have hP : va_P g.1 vwCl (List.flatten [bOut g oa (vp_updL fz 0 y3), bDR g x ta o lo go tt lt mo fo ro fl9, bTown g o a pe wo tx ch jo tr dy sd f]) H := hP
    have hD : va_D A (List.flatten [bOut g oa (vp_updL fz 0 y3), bDR g x ta o lo go tt lt mo fo ro fl9, bTown g o a pe wo tx ch jo tr dy sd f]) := hD
    obtain ⟨hP, hD⟩ := zord (g := g) (Bs' := [bDR g x ta o lo go tt lt mo fo ro fl9, bTown g o a pe wo tx ch jo tr dy sd f, bOut g oa (vp_updL fz 0 y3)]) [1, 2, 0] rfl rfl hP hD
    exact zret_i hx hb hr hlocks hS (Nat.le_of_ble_eq_true rfl) (Nat.le_of_ble_eq_true rfl) dL_steps_22 (vp_updL fz 0 y3, (0 : Int32)) rfl trivial hP hD
set_option maxRecDepth 100000 in
set_option maxHeartbeats 4000000 in
theorem l_rests (l : Launch) (hfl : l.stackTraces = false) (g : zG) (x : Nat) (ta : Nat) (o : Nat) (lo : Nat) (go : Nat) (tt : Nat) (lt : Nat) (mo : Nat) (fo : Nat) (ro : Nat) (fl9 : Int32) (a : Nat → Nat) (pe : Int32) (wo : Int32) (tx : Int32) (ch : Int32) (jo : Int32) (tr : Int32) (dy : Int32) (sd : Int32) (f : Nat → Nat → Int32) (oa : Nat) (fz : Nat → Int64) (pp : Int32) (oo : Int32) (b_pe : 0 ≤ pe.toInt ∧ pe.toInt ≤ 8) (b_wo : 0 ≤ wo.toInt ∧ wo.toInt ≤ 6) (rf : zZ4 f) : zX' g l yL_rests (Cond.codeWith yL_rests cL_rests 5 (some .int) [(0, 10, 13, 24), (0, 10, 17, 13)] :: zB) ({ frames := 9, cells := 3, slots := 18, locals := 147 } : Room) [.ref x, .int pp, .int oo, .ref oa] [bDR g x ta o lo go tt lt mo fo ro fl9, bTown g o a pe wo tx ch jo tr dy sd f, bOut g oa fz] (fun u : (Nat → Int64) × Int32 => (fun (fz2 : Nat → Int64) (q : Int32) => some (.int q)) (u.1) (u.2)) (fun u : (Nat → Int64) × Int32 => (fun (fz2 : Nat → Int64) (q : Int32) => True) (u.1) (u.2)) (fun u : (Nat → Int64) × Int32 => (fun (fz2 : Nat → Int64) (q : Int32) => [bDR g x ta o lo go tt lt mo fo ro fl9, bTown g o a pe wo tx ch jo tr dy sd f, bOut g oa fz2]) (u.1) (u.2)) zNo zN0 := by
  refine zX'.ofH (cc := cL_rests) (maxL := 5) (rt := (some .int)) (by decide) rfl (Nat.le_of_ble_eq_true rfl) ?_
  intro p e s m args below meth c A ls St hr hlocks htab hin hK hT hA hP hD hS hl
  obtain ⟨hx, hb, hml, hown, hts⟩ := id St
  have hl : lv_has ls 5 [(0, .ref x), (1, .int pp), (2, .int oo), (3, .ref oa)] := hl
  refine lv_aload_n hx hb dL_rests_0 rfl (lv_at hl 3 rfl) ?_
  refine lv_iconst (v := 0) hx hb dL_rests_1 (by decide) ?_
  refine lv_aload_n hx hb dL_rests_2 rfl (lv_at hl 0 rfl) ?_
  refine lv_iload_n hx hb dL_rests_3 rfl (lv_at hl 1 rfl) ?_
  refine lv_iload_n hx hb dL_rests_4 rfl (lv_at hl 2 rfl) ?_
  refine xcallV' (g := g) (q0 := 0) (ci := 9) (As := [.int pp, .int oo]) (rest := [.int 0, .ref oa]) St hK hT hA hP hD hS hl.1 [0, 1] [2] rfl rfl rfl (c_x_rests l hfl g x ta o lo go tt lt mo fo ro fl9 a pe wo tx ch jo tr dy sd f pp oo b_pe b_wo rf) (cwV 2 hts (zgL (zl4 k1268 k1269 k1270 k621) k765) rfl rfl rfl (by decide +kernel) ⟨Nat.le_of_ble_eq_true rfl, Nat.le_of_ble_eq_true rfl⟩) rfl rfl rfl rfl (Nat.le_of_ble_eq_true rfl) dL_rests_5 ⟨(Nat.le_of_ble_eq_true rfl), (Nat.le_of_ble_eq_true rfl)⟩ (fun E ce q9 u9 H locs hpx hP hD hS hce hcv hcl => ?_) (fun q_1 H locs hq2 hP hD hS => ?_)
  · skip
    have hpx : (E = "java/lang/IndexOutOfBoundsException" ∨ E = "java/lang/IllegalArgumentException") := hpx
    have hP : va_P g.1 vwCl (List.flatten [bOut g oa fz, bDR g x ta o lo go tt lt mo fo ro fl9, bTown g o a pe wo tx ch jo tr dy sd f]) H := hP
    have hD : va_D A (List.flatten [bOut g oa fz, bDR g x ta o lo go tt lt mo fo ro fl9, bTown g o a pe wo tx ch jo tr dy sd f]) := hD
    rcases hpx with rfl | rfl
    · skip
      refine vx_catch hown [] ⟨0, 10, 13, 24⟩ [⟨0, 10, 17, 13⟩] (by rw [htab]; rfl) (fun z hz => absurd hz List.not_mem_nil) (by decide) (by decide) (hts _ k1165) ((hT.1.2.2.2.2.1 _ (List.mem_of_getElem? (i := 0) rfl)).use) hce hcv hcl ?_
      refine W.widen (k := 3) (n := 18) (Nat.le_of_ble_eq_true rfl) (Nat.le_of_ble_eq_true rfl) ?_
      refine lv_astore (lv' := [(4, .ref q9), (0, .ref x), (1, .int pp), (2, .int oo), (3, .ref oa)]) hx hb dL_rests_13 hl (by decide) rfl (fun ls hl => ?_)
      refine lv_iconst (v := 1) hx hb dL_rests_15 (by decide) ?_
      have hP : va_P g.1 vwCl (List.flatten [bOut g oa fz, bDR g x ta o lo go tt lt mo fo ro fl9, bTown g o a pe wo tx ch jo tr dy sd f]) H := hP
      have hD : va_D A (List.flatten [bOut g oa fz, bDR g x ta o lo go tt lt mo fo ro fl9, bTown g o a pe wo tx ch jo tr dy sd f]) := hD
      obtain ⟨hP, hD⟩ := zord (g := g) (Bs' := [bDR g x ta o lo go tt lt mo fo ro fl9, bTown g o a pe wo tx ch jo tr dy sd f, bOut g oa fz]) [1, 2, 0] rfl rfl hP hD
      exact zret_i hx hb hr hlocks hS (Nat.le_of_ble_eq_true rfl) (Nat.le_of_ble_eq_true rfl) dL_rests_16 (fz, (1 : Int32)) rfl trivial hP hD
    · skip
      refine vx_catch hown [⟨0, 10, 13, 24⟩] ⟨0, 10, 17, 13⟩ [] (by rw [htab]; rfl) (fun z hz => by
            rcases List.mem_cons.mp hz with rfl | hz; · exact Or.inr ⟨by decide, "java/lang/IndexOutOfBoundsException", hts _ k1165, hT.1.2.2.2.2.2.1 _ (List.mem_of_getElem? (i := 4) rfl)⟩
            cases hz) (by decide) (by decide) (hts _ k1155) ((hT.1.2.2.2.2.1 _ (List.mem_of_getElem? (i := 1) rfl)).use) hce hcv hcl ?_
      refine W.widen (k := 3) (n := 18) (Nat.le_of_ble_eq_true rfl) (Nat.le_of_ble_eq_true rfl) ?_
      refine lv_astore (lv' := [(4, .ref q9), (0, .ref x), (1, .int pp), (2, .int oo), (3, .ref oa)]) hx hb dL_rests_17 hl (by decide) rfl (fun ls hl => ?_)
      refine lv_iconst (v := 2) hx hb dL_rests_19 (by decide) ?_
      have hP : va_P g.1 vwCl (List.flatten [bOut g oa fz, bDR g x ta o lo go tt lt mo fo ro fl9, bTown g o a pe wo tx ch jo tr dy sd f]) H := hP
      have hD : va_D A (List.flatten [bOut g oa fz, bDR g x ta o lo go tt lt mo fo ro fl9, bTown g o a pe wo tx ch jo tr dy sd f]) := hD
      obtain ⟨hP, hD⟩ := zord (g := g) (Bs' := [bDR g x ta o lo go tt lt mo fo ro fl9, bTown g o a pe wo tx ch jo tr dy sd f, bOut g oa fz]) [1, 2, 0] rfl rfl hP hD
      exact zret_i hx hb hr hlocks hS (Nat.le_of_ble_eq_true rfl) (Nat.le_of_ble_eq_true rfl) dL_rests_20 (fz, (2 : Int32)) rfl trivial hP hD
  · skip
    have hP : va_P g.1 vwCl (List.flatten [bOut g oa fz, bDR g x ta o lo go tt lt mo fo ro fl9, bTown g o a pe wo tx ch jo tr dy sd f]) H := hP
    have hD : va_D A (List.flatten [bOut g oa fz, bDR g x ta o lo go tt lt mo fo ro fl9, bTown g o a pe wo tx ch jo tr dy sd f]) := hD
    refine W.widen (k := 3) (n := 18) (Nat.le_of_ble_eq_true rfl) (Nat.le_of_ble_eq_true rfl) ?_
    refine W.eq (g2 := F0 m 8 ls [.int q_1, .int 0, .ref oa]) rfl ?_
    refine lv_i2l hx hb dL_rests_8 rfl (zgl (fun y3 => ?_))
    refine va_last hx hb hK hP hD hS 0 2 rfl rfl (zin rfl) dL_rests_9 (fun H locs hP hD hS => ?_)
    have hP : va_P g.1 vwCl (List.flatten [[(oa, .inl (g.2 2, 1, .inr (.inl (vp_updL fz 0 y3))))], bDR g x ta o lo go tt lt mo fo ro fl9, bTown g o a pe wo tx ch jo tr dy sd f]) H := hP
    have hD : va_D A (List.flatten [[(oa, .inl (g.2 2, 1, .inr (.inl (vp_updL fz 0 y3))))], bDR g x ta o lo go tt lt mo fo ro fl9, bTown g o a pe wo tx ch jo tr dy sd f]) := hD
    refine lv_goto (tgt := 21) hx hb dL_rests_10 (by decide) ?_
    refine lv_iconst (v := 0) hx hb dL_rests_21 (by decide) ?_
    have hP : va_P g.1 vwCl (List.flatten [bOut g oa (vp_updL fz 0 y3), bDR g x ta o lo go tt lt mo fo ro fl9, bTown g o a pe wo tx ch jo tr dy sd f]) H := hP
    have hD : va_D A (List.flatten [bOut g oa (vp_updL fz 0 y3), bDR g x ta o lo go tt lt mo fo ro fl9, bTown g o a pe wo tx ch jo tr dy sd f]) := hD
    obtain ⟨hP, hD⟩ := zord (g := g) (Bs' := [bDR g x ta o lo go tt lt mo fo ro fl9, bTown g o a pe wo tx ch jo tr dy sd f, bOut g oa (vp_updL fz 0 y3)]) [1, 2, 0] rfl rfl hP hD
    exact zret_i hx hb hr hlocks hS (Nat.le_of_ble_eq_true rfl) (Nat.le_of_ble_eq_true rfl) dL_rests_22 (vp_updL fz 0 y3, (0 : Int32)) rfl trivial hP hD
set_option maxRecDepth 100000 in
set_option maxHeartbeats 4000000 in
theorem l_last (l : Launch) (hfl : l.stackTraces = false) (g : zG) (x : Nat) (ta : Nat) (o : Nat) (lo : Nat) (go : Nat) (tt : Nat) (lt : Nat) (mo : Nat) (fo : Nat) (ro : Nat) (fl9 : Int32) (a : Nat → Nat) (pe : Int32) (wo : Int32) (tx : Int32) (ch : Int32) (jo : Int32) (tr : Int32) (dy : Int32) (sd : Int32) (f : Nat → Nat → Int32) (lc : Nat) (lz : Int32) (ll : Int32) (lm : Int32) (lg : Int32) (ld : Int32) (fc : Nat → Int32) (oD : Nat) (aD : Nat → Nat) (peD : Int32) (woD : Int32) (txD : Int32) (chD : Int32) (joD : Int32) (trD : Int32) (dyD : Int32) (sdD : Int32) (fD : Nat → Nat → Int32) (oa : Nat) (fz : Nat → Int64) (ww : Int32) (b_pe : 0 ≤ pe.toInt ∧ pe.toInt ≤ 8) (b_wo : 0 ≤ wo.toInt ∧ wo.toInt ≤ 6) (rf : zZ4 f) (b_lz : 0 ≤ lz.toInt ∧ lz.toInt ≤ 400) (b_peD : 0 ≤ peD.toInt ∧ peD.toInt ≤ 8) (b_woD : 0 ≤ woD.toInt ∧ woD.toInt ≤ 6) (rfD : zZ4 fD) : zX' g l yL_last (Cond.codeWith yL_last cL_last 4 (some .int) [(0, 9, 12, 24)] :: zB) ({ frames := 8, cells := 1, slots := 6, locals := 171 } : Room) [.ref x, .int ww, .ref oa] [bDR g x ta o lo go tt lt mo fo ro fl9, bFo g fo o lo oD, bTown g o a pe wo tx ch jo tr dy sd f, bLaw g lo lc lz ll lm lg ld fc, bTown g oD aD peD woD txD chD joD trD dyD sdD fD, bOut g oa fz] (fun u : Int32 × Int32 × Int32 × Int32 × Int32 × Int32 × Int32 × Int32 × Int32 × Int32 × Int32 × (Nat → Nat → Int32) × (Nat → Int64) × Int32 => (fun (lm2 : Int32) (lg2 : Int32) (ld2 : Int32) (peD2 : Int32) (woD2 : Int32) (txD2 : Int32) (chD2 : Int32) (joD2 : Int32) (trD2 : Int32) (dyD2 : Int32) (sdD2 : Int32) (fD2 : Nat → Nat → Int32) (fz2 : Nat → Int64) (q : Int32) => some (.int q)) (u.1) (u.2.1) (u.2.2.1) (u.2.2.2.1) (u.2.2.2.2.1) (u.2.2.2.2.2.1) (u.2.2.2.2.2.2.1) (u.2.2.2.2.2.2.2.1) (u.2.2.2.2.2.2.2.2.1) (u.2.2.2.2.2.2.2.2.2.1) (u.2.2.2.2.2.2.2.2.2.2.1) (u.2.2.2.2.2.2.2.2.2.2.2.1) (u.2.2.2.2.2.2.2.2.2.2.2.2.1) (u.2.2.2.2.2.2.2.2.2.2.2.2.2)) (fun u : Int32 × Int32 × Int32 × Int32 × Int32 × Int32 × Int32 × Int32 × Int32 × Int32 × Int32 × (Nat → Nat → Int32) × (Nat → Int64) × Int32 => (fun (lm2 : Int32) (lg2 : Int32) (ld2 : Int32) (peD2 : Int32) (woD2 : Int32) (txD2 : Int32) (chD2 : Int32) (joD2 : Int32) (trD2 : Int32) (dyD2 : Int32) (sdD2 : Int32) (fD2 : Nat → Nat → Int32) (fz2 : Nat → Int64) (q : Int32) => (0 ≤ peD2.toInt ∧ peD2.toInt ≤ 8) ∧ (0 ≤ woD2.toInt ∧ woD2.toInt ≤ 6) ∧ (zZ4 fD2)) (u.1) (u.2.1) (u.2.2.1) (u.2.2.2.1) (u.2.2.2.2.1) (u.2.2.2.2.2.1) (u.2.2.2.2.2.2.1) (u.2.2.2.2.2.2.2.1) (u.2.2.2.2.2.2.2.2.1) (u.2.2.2.2.2.2.2.2.2.1) (u.2.2.2.2.2.2.2.2.2.2.1) (u.2.2.2.2.2.2.2.2.2.2.2.1) (u.2.2.2.2.2.2.2.2.2.2.2.2.1) (u.2.2.2.2.2.2.2.2.2.2.2.2.2)) (fun u : Int32 × Int32 × Int32 × Int32 × Int32 × Int32 × Int32 × Int32 × Int32 × Int32 × Int32 × (Nat → Nat → Int32) × (Nat → Int64) × Int32 => (fun (lm2 : Int32) (lg2 : Int32) (ld2 : Int32) (peD2 : Int32) (woD2 : Int32) (txD2 : Int32) (chD2 : Int32) (joD2 : Int32) (trD2 : Int32) (dyD2 : Int32) (sdD2 : Int32) (fD2 : Nat → Nat → Int32) (fz2 : Nat → Int64) (q : Int32) => [bDR g x ta o lo go tt lt mo fo ro fl9, bFo g fo o lo oD, bTown g o a pe wo tx ch jo tr dy sd f, bLaw g lo lc lz ll lm2 lg2 ld2 fc, bTown g oD aD peD2 woD2 txD2 chD2 joD2 trD2 dyD2 sdD2 fD2, bOut g oa fz2]) (u.1) (u.2.1) (u.2.2.1) (u.2.2.2.1) (u.2.2.2.2.1) (u.2.2.2.2.2.1) (u.2.2.2.2.2.2.1) (u.2.2.2.2.2.2.2.1) (u.2.2.2.2.2.2.2.2.1) (u.2.2.2.2.2.2.2.2.2.1) (u.2.2.2.2.2.2.2.2.2.2.1) (u.2.2.2.2.2.2.2.2.2.2.2.1) (u.2.2.2.2.2.2.2.2.2.2.2.2.1) (u.2.2.2.2.2.2.2.2.2.2.2.2.2)) zNo zN0 := by
  refine zX'.ofH (cc := cL_last) (maxL := 4) (rt := (some .int)) (by decide) rfl (Nat.le_of_ble_eq_true rfl) ?_
  intro p e s m args below meth c A ls St hr hlocks htab hin hK hT hA hP hD hS hl
  obtain ⟨hx, hb, hml, hown, hts⟩ := id St
  have hl : lv_has ls 4 [(0, .ref x), (1, .int ww), (2, .ref oa)] := hl
  refine lv_aload_n hx hb dL_last_0 rfl (lv_at hl 2 rfl) ?_
  refine lv_iconst (v := 0) hx hb dL_last_1 (by decide) ?_
  refine lv_aload_n hx hb dL_last_2 rfl (lv_at hl 0 rfl) ?_
  refine lv_iload_n hx hb dL_last_3 rfl (lv_at hl 1 rfl) ?_
  refine xcallV' (g := g) (q0 := 0) (ci := 9) (As := [.int ww]) (rest := [.int 0, .ref oa]) St hK hT hA hP hD hS hl.1 [0, 1, 2, 3, 4] [5] rfl rfl rfl (c_x_last l hfl g x ta o lo go tt lt mo fo ro fl9 a pe wo tx ch jo tr dy sd f lc lz ll lm lg ld fc oD aD peD woD txD chD joD trD dyD sdD fD ww b_pe b_wo rf b_lz b_peD b_woD rfD) (cwV 1 hts (zgL (zl4 k1272 k1273 k1274 k621) k771) rfl rfl rfl (by decide +kernel) ⟨Nat.le_of_ble_eq_true rfl, Nat.le_of_ble_eq_true rfl⟩) rfl rfl rfl rfl (Nat.le_of_ble_eq_true rfl) dL_last_4 ⟨(Nat.le_of_ble_eq_true rfl), (Nat.le_of_ble_eq_true rfl)⟩ (fun E ce q9 u9 H locs hpx hP hD hS hce hcv hcl => ?_) (fun u_ H locs hq14 hP hD hS => ?_)
  · skip
    obtain ⟨lm2_15, lg2_16, ld2_17, peD2_18, woD2_19, txD2_20, chD2_21, joD2_22, trD2_23, dyD2_24, sdD2_25, fD2_26⟩ := u9
    have hpx : (E = "java/lang/IndexOutOfBoundsException") ∧ (0 ≤ peD2_18.toInt ∧ peD2_18.toInt ≤ 8) ∧ (0 ≤ woD2_19.toInt ∧ woD2_19.toInt ≤ 6) ∧ (zZ4 fD2_26) := hpx
    have hP : va_P g.1 vwCl (List.flatten [bOut g oa fz, bDR g x ta o lo go tt lt mo fo ro fl9, bFo g fo o lo oD, bTown g o a pe wo tx ch jo tr dy sd f, bLaw g lo lc lz ll lm2_15 lg2_16 ld2_17 fc, bTown g oD aD peD2_18 woD2_19 txD2_20 chD2_21 joD2_22 trD2_23 dyD2_24 sdD2_25 fD2_26]) H := hP
    have hD : va_D A (List.flatten [bOut g oa fz, bDR g x ta o lo go tt lt mo fo ro fl9, bFo g fo o lo oD, bTown g o a pe wo tx ch jo tr dy sd f, bLaw g lo lc lz ll lm2_15 lg2_16 ld2_17 fc, bTown g oD aD peD2_18 woD2_19 txD2_20 chD2_21 joD2_22 trD2_23 dyD2_24 sdD2_25 fD2_26]) := hD
    obtain ⟨hE9, hy27, hy28, rfD2_26⟩ := hpx
    obtain rfl := hE9
    refine vx_catch hown [] ⟨0, 9, 12, 24⟩ [] (by rw [htab]; rfl) (fun z hz => absurd hz List.not_mem_nil) (by decide) (by decide) (hts _ k1165) ((hT.1.2.2.2.2.1 _ (List.mem_of_getElem? (i := 0) rfl)).use) hce hcv hcl ?_
    refine W.widen (k := 1) (n := 6) (Nat.le_of_ble_eq_true rfl) (Nat.le_of_ble_eq_true rfl) ?_
    refine lv_astore_n (lv' := [(3, .ref q9), (0, .ref x), (1, .int ww), (2, .ref oa)]) hx hb dL_last_12 rfl hl (by decide) rfl (fun ls hl => ?_)
    refine lv_iconst (v := 1) hx hb dL_last_13 (by decide) ?_
    have hP : va_P g.1 vwCl (List.flatten [bOut g oa fz, bDR g x ta o lo go tt lt mo fo ro fl9, bFo g fo o lo oD, bTown g o a pe wo tx ch jo tr dy sd f, bLaw g lo lc lz ll lm2_15 lg2_16 ld2_17 fc, bTown g oD aD peD2_18 woD2_19 txD2_20 chD2_21 joD2_22 trD2_23 dyD2_24 sdD2_25 fD2_26]) H := hP
    have hD : va_D A (List.flatten [bOut g oa fz, bDR g x ta o lo go tt lt mo fo ro fl9, bFo g fo o lo oD, bTown g o a pe wo tx ch jo tr dy sd f, bLaw g lo lc lz ll lm2_15 lg2_16 ld2_17 fc, bTown g oD aD peD2_18 woD2_19 txD2_20 chD2_21 joD2_22 trD2_23 dyD2_24 sdD2_25 fD2_26]) := hD
    obtain ⟨hP, hD⟩ := zord (g := g) (Bs' := [bDR g x ta o lo go tt lt mo fo ro fl9, bFo g fo o lo oD, bTown g o a pe wo tx ch jo tr dy sd f, bLaw g lo lc lz ll lm2_15 lg2_16 ld2_17 fc, bTown g oD aD peD2_18 woD2_19 txD2_20 chD2_21 joD2_22 trD2_23 dyD2_24 sdD2_25 fD2_26, bOut g oa fz]) [1, 2, 3, 4, 5, 0] rfl rfl hP hD
    exact zret_i hx hb hr hlocks hS (Nat.le_of_ble_eq_true rfl) (Nat.le_of_ble_eq_true rfl) dL_last_14 (lm2_15, lg2_16, ld2_17, peD2_18, woD2_19, txD2_20, chD2_21, joD2_22, trD2_23, dyD2_24, sdD2_25, fD2_26, fz, (1 : Int32)) rfl (show (0 ≤ peD2_18.toInt ∧ peD2_18.toInt ≤ 8) ∧ (0 ≤ woD2_19.toInt ∧ woD2_19.toInt ≤ 6) ∧ (zZ4 fD2_26) from ⟨hy27, hy28, rfD2_26⟩) hP hD
  · skip
    obtain ⟨lm2_1, lg2_2, ld2_3, peD2_4, woD2_5, txD2_6, chD2_7, joD2_8, trD2_9, dyD2_10, sdD2_11, fD2_12, q_13⟩ := u_
    replace hq14 : (0 ≤ peD2_4.toInt ∧ peD2_4.toInt ≤ 8) ∧ (0 ≤ woD2_5.toInt ∧ woD2_5.toInt ≤ 6) ∧ (zZ4 fD2_12) := hq14
    have hP : va_P g.1 vwCl (List.flatten [bOut g oa fz, bDR g x ta o lo go tt lt mo fo ro fl9, bFo g fo o lo oD, bTown g o a pe wo tx ch jo tr dy sd f, bLaw g lo lc lz ll lm2_1 lg2_2 ld2_3 fc, bTown g oD aD peD2_4 woD2_5 txD2_6 chD2_7 joD2_8 trD2_9 dyD2_10 sdD2_11 fD2_12]) H := hP
    have hD : va_D A (List.flatten [bOut g oa fz, bDR g x ta o lo go tt lt mo fo ro fl9, bFo g fo o lo oD, bTown g o a pe wo tx ch jo tr dy sd f, bLaw g lo lc lz ll lm2_1 lg2_2 ld2_3 fc, bTown g oD aD peD2_4 woD2_5 txD2_6 chD2_7 joD2_8 trD2_9 dyD2_10 sdD2_11 fD2_12]) := hD
    refine W.widen (k := 1) (n := 6) (Nat.le_of_ble_eq_true rfl) (Nat.le_of_ble_eq_true rfl) ?_
    refine W.eq (g2 := F0 m 7 ls [.int q_13, .int 0, .ref oa]) rfl ?_
    obtain ⟨hq14_0, hq14_1, rfD2_12⟩ := hq14
    refine lv_i2l hx hb dL_last_7 rfl (zgl (fun y29 => ?_))
    refine va_last hx hb hK hP hD hS 0 2 rfl rfl (zin rfl) dL_last_8 (fun H locs hP hD hS => ?_)
    have hP : va_P g.1 vwCl (List.flatten [[(oa, .inl (g.2 2, 1, .inr (.inl (vp_updL fz 0 y29))))], bDR g x ta o lo go tt lt mo fo ro fl9, bFo g fo o lo oD, bTown g o a pe wo tx ch jo tr dy sd f, bLaw g lo lc lz ll lm2_1 lg2_2 ld2_3 fc, bTown g oD aD peD2_4 woD2_5 txD2_6 chD2_7 joD2_8 trD2_9 dyD2_10 sdD2_11 fD2_12]) H := hP
    have hD : va_D A (List.flatten [[(oa, .inl (g.2 2, 1, .inr (.inl (vp_updL fz 0 y29))))], bDR g x ta o lo go tt lt mo fo ro fl9, bFo g fo o lo oD, bTown g o a pe wo tx ch jo tr dy sd f, bLaw g lo lc lz ll lm2_1 lg2_2 ld2_3 fc, bTown g oD aD peD2_4 woD2_5 txD2_6 chD2_7 joD2_8 trD2_9 dyD2_10 sdD2_11 fD2_12]) := hD
    refine lv_goto (tgt := 15) hx hb dL_last_9 (by decide) ?_
    refine lv_iconst (v := 0) hx hb dL_last_15 (by decide) ?_
    have hP : va_P g.1 vwCl (List.flatten [bOut g oa (vp_updL fz 0 y29), bDR g x ta o lo go tt lt mo fo ro fl9, bFo g fo o lo oD, bTown g o a pe wo tx ch jo tr dy sd f, bLaw g lo lc lz ll lm2_1 lg2_2 ld2_3 fc, bTown g oD aD peD2_4 woD2_5 txD2_6 chD2_7 joD2_8 trD2_9 dyD2_10 sdD2_11 fD2_12]) H := hP
    have hD : va_D A (List.flatten [bOut g oa (vp_updL fz 0 y29), bDR g x ta o lo go tt lt mo fo ro fl9, bFo g fo o lo oD, bTown g o a pe wo tx ch jo tr dy sd f, bLaw g lo lc lz ll lm2_1 lg2_2 ld2_3 fc, bTown g oD aD peD2_4 woD2_5 txD2_6 chD2_7 joD2_8 trD2_9 dyD2_10 sdD2_11 fD2_12]) := hD
    obtain ⟨hP, hD⟩ := zord (g := g) (Bs' := [bDR g x ta o lo go tt lt mo fo ro fl9, bFo g fo o lo oD, bTown g o a pe wo tx ch jo tr dy sd f, bLaw g lo lc lz ll lm2_1 lg2_2 ld2_3 fc, bTown g oD aD peD2_4 woD2_5 txD2_6 chD2_7 joD2_8 trD2_9 dyD2_10 sdD2_11 fD2_12, bOut g oa (vp_updL fz 0 y29)]) [1, 2, 3, 4, 5, 0] rfl rfl hP hD
    exact zret_i hx hb hr hlocks hS (Nat.le_of_ble_eq_true rfl) (Nat.le_of_ble_eq_true rfl) dL_last_16 (lm2_1, lg2_2, ld2_3, peD2_4, woD2_5, txD2_6, chD2_7, joD2_8, trD2_9, dyD2_10, sdD2_11, fD2_12, vp_updL fz 0 y29, (0 : Int32)) rfl (show (0 ≤ peD2_4.toInt ∧ peD2_4.toInt ≤ 8) ∧ (0 ≤ woD2_5.toInt ∧ woD2_5.toInt ≤ 6) ∧ (zZ4 fD2_12) from ⟨hq14_0, hq14_1, rfD2_12⟩) hP hD
