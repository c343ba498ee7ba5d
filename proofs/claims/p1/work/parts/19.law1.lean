set_option maxRecDepth 100000 in
set_option maxHeartbeats 4000000 in
theorem l_town (l : Launch) (g : zG) (x : Nat) (ta : Nat) (o : Nat) (lo : Nat) (go : Nat) (tt : Nat) (lt : Nat) (mo : Nat) (fo : Nat) (ro : Nat) (fl9 : Int32) (a : Nat → Nat) (ch : Int32) (jo : Int32) (tr : Int32) (dy : Int32) (sd : Int32) (f : Nat → Nat → Int32) (ab : Nat) (len : Int32) (knd : Int32) (beg : Int32) (nxt : Int32) (flt : Int32) (fb : Nat → Int32) (qT : Nat) (qL : Nat) (it : Nat) (il : Nat) (ig : Nat) (mh : Int32) (me : Int32) (mx : Int32) (fT : Nat → Option Nat) (fL : Nat → Option Nat) (td : Nat) (a2 : Nat → Nat) (pe2 : Int32) (wo2 : Int32) (tx2 : Int32) (ch2 : Int32) (jo2 : Int32) (tr2 : Int32) (dy2 : Int32) (sd2 : Int32) (f2 : Nat → Nat → Int32) (oa : Nat) (fz : Nat → Int64) (hz : zZ (f 4)) : zX g l yL_town (Cond.codeWith yL_town cL_town 3 (some .int) [(0, 8, 11, 13), (0, 8, 14, 15)] :: zB) ({ frames := 3, cells := 0, slots := 0, locals := 82 } : Room) [.ref x, .ref oa] [bDR g x ta o lo go tt lt mo fo ro fl9, bTown g o a 0 0 0 ch jo tr dy sd f, bTape g ta ab 0 len knd beg nxt flt fb, [(tt, .inr (8, [.ref ta, .ref td]))], bTown g td a2 pe2 wo2 tx2 ch2 jo2 tr2 dy2 sd2 f2, bMem g mo qT qL it il ig mh me mx fT fL, [(oa, .inl (g.2 2, 1, .inr (.inl fz)))]] (fun u : Int32 × (Nat → Int64) => (fun (r : Int32) (fz2 : Nat → Int64) => some (.int r)) (u.1) (u.2)) (fun u : Int32 × (Nat → Int64) => (fun (r : Int32) (fz2 : Nat → Int64) => r = 0 ∧ fz2 0 = (1 : Int32).toInt64) (u.1) (u.2)) (fun u : Int32 × (Nat → Int64) => (fun (r : Int32) (fz2 : Nat → Int64) => [[(oa, .inl (g.2 2, 1, .inr (.inl fz2)))]]) (u.1) (u.2)) zNo zN0 := by
  refine zX.ofH (cc := cL_town) (maxL := 3) (rt := (some .int)) (by decide) rfl (Nat.le_of_ble_eq_true rfl) ?_
  intro p e s m args below meth c A ls St hr hlocks htab hin hK hT hA hP hD hS hl
  obtain ⟨hx, hb, hml, hown, hts⟩ := id St
  have hl : lv_has ls 3 [(0, .ref x), (1, .ref oa)] := hl
  refine lv_aload_n hx hb dL_town_0 rfl (lv_at hl 1 rfl) ?_
  refine lv_iconst (v := 0) hx hb dL_town_1 (by decide) ?_
  refine lv_aload_n hx hb dL_town_2 rfl (lv_at hl 0 rfl) ?_
  refine mcallV (g := g) (q0 := 0) (ci := 9) (As := []) (rest := [.int 0, .ref oa]) St hK hT hA hP hD hS hl.1 [0, 1, 2, 3, 4, 5] [6] rfl rfl rfl (c_town l g x ta o lo go tt lt mo fo ro fl9 a ch jo tr dy sd f ab len knd beg nxt flt fb qT qL it il ig mh me mx fT fL td a2 pe2 wo2 tx2 ch2 jo2 tr2 dy2 sd2 f2 (by assumption)) (cwV 0 hts (zgL (zl4 k1155 k1156 k1157 k595) k569) rfl rfl rfl (by decide +kernel) ⟨Nat.le_of_ble_eq_true rfl, Nat.le_of_ble_eq_true rfl⟩) rfl rfl rfl rfl (Nat.le_of_ble_eq_true rfl) dL_town_3 ⟨(Nat.le_of_ble_eq_true rfl), (Nat.le_of_ble_eq_true rfl)⟩ (fun _u H locs hq1 hP hD hS => ?_)
  have hP : va_P g.1 vwCl (List.flatten [[(oa, .inl (g.2 2, 1, .inr (.inl fz)))]]) H := hP
  have hD : va_D A (List.flatten [[(oa, .inl (g.2 2, 1, .inr (.inl fz)))]]) := hD
  refine W.widen (k := 0) (n := 0) (Nat.le_of_ble_eq_true rfl) (Nat.le_of_ble_eq_true rfl) ?_
  refine W.eq (g2 := F0 m 6 ls [.int 1, .int 0, .ref oa]) rfl ?_
  refine lv_i2l (v := (1 : Int32).toInt64) hx hb dL_town_6 rfl ?_
  refine ztopl (r := 1) (by decide) ?_
  refine va_last hx hb hK hP hD hS 0 2 rfl rfl (zin rfl) dL_town_7 (fun H locs hP hD hS => ?_)
  have hP : va_P g.1 vwCl (List.flatten [[(oa, .inl (g.2 2, 1, .inr (.inl (vp_updL fz 0 1))))]]) H := hP
  have hD : va_D A (List.flatten [[(oa, .inl (g.2 2, 1, .inr (.inl (vp_updL fz 0 1))))]]) := hD
  refine lv_goto (tgt := 17) hx hb dL_town_8 (by decide) ?_
  refine lv_iconst (v := 0) hx hb dL_town_17 (by decide) ?_
  have hP : va_P g.1 vwCl (List.flatten [[(oa, .inl (g.2 2, 1, .inr (.inl (vp_updL fz 0 1))))]]) H := hP
  have hD : va_D A (List.flatten [[(oa, .inl (g.2 2, 1, .inr (.inl (vp_updL fz 0 1))))]]) := hD
  exact zret_i hx hb hr hlocks hS (Nat.le_of_ble_eq_true rfl) (Nat.le_of_ble_eq_true rfl) dL_town_18 (0, vp_updL fz 0 1) rfl (⟨rfl, rfl⟩) hP hD
set_option maxRecDepth 100000 in
set_option maxHeartbeats 4000000 in
theorem l_law (l : Launch) (g : zG) (x : Nat) (ta : Nat) (o : Nat) (lo : Nat) (go : Nat) (tt : Nat) (lt : Nat) (mo : Nat) (fo : Nat) (ro : Nat) (fl9 : Int32) (a : Nat → Nat) (tx : Int32) (ch : Int32) (jo : Int32) (tr : Int32) (dy : Int32) (sd : Int32) (f : Nat → Nat → Int32) (ac : Nat) (ls0 : Int32) (ll : Int32) (lm : Int32) (lg : Int32) (ld : Int32) (fc : Nat → Int32) (ab : Nat) (len : Int32) (knd : Int32) (beg : Int32) (nxt : Int32) (flt : Int32) (fb : Nat → Int32) (qT : Nat) (qL : Nat) (it : Nat) (il : Nat) (ig : Nat) (mh : Int32) (me : Int32) (mx : Int32) (fT : Nat → Option Nat) (fL : Nat → Option Nat) (ldr : Nat) (ac2 : Nat) (ls02 : Int32) (ll2 : Int32) (lm2 : Int32) (lg2 : Int32) (ld2 : Int32) (fc2 : Nat → Int32) (oa : Nat) (fz : Nat → Int64)  : zX g l yL_law (Cond.codeWith yL_law cL_law 3 (some .int) [(0, 8, 11, 13)] :: zB) ({ frames := 3, cells := 0, slots := 0, locals := 82 } : Room) [.ref x, .ref oa] [bDR g x ta o lo go tt lt mo fo ro fl9, bTown g o a 0 0 tx ch jo tr dy sd f, bTape g ta ab 0 len knd beg nxt flt fb, bLaw g lo ac ls0 ll lm lg ld fc, [(lt, .inr (2, [.ref ta, .ref ldr]))], bLaw g ldr ac2 ls02 ll2 lm2 lg2 ld2 fc2, bMem g mo qT qL it il ig mh me mx fT fL, [(oa, .inl (g.2 2, 1, .inr (.inl fz)))]] (fun u : Int32 × (Nat → Int64) => (fun (r : Int32) (fz2 : Nat → Int64) => some (.int r)) (u.1) (u.2)) (fun u : Int32 × (Nat → Int64) => (fun (r : Int32) (fz2 : Nat → Int64) => r = 0 ∧ fz2 0 = (0 : Int32).toInt64) (u.1) (u.2)) (fun u : Int32 × (Nat → Int64) => (fun (r : Int32) (fz2 : Nat → Int64) => [[(oa, .inl (g.2 2, 1, .inr (.inl fz2)))]]) (u.1) (u.2)) zNo zN0 := by
  refine zX.ofH (cc := cL_law) (maxL := 3) (rt := (some .int)) (by decide) rfl (Nat.le_of_ble_eq_true rfl) ?_
  intro p e s m args below meth c A ls St hr hlocks htab hin hK hT hA hP hD hS hl
  obtain ⟨hx, hb, hml, hown, hts⟩ := id St
  have hl : lv_has ls 3 [(0, .ref x), (1, .ref oa)] := hl
  refine lv_aload_n hx hb dL_law_0 rfl (lv_at hl 1 rfl) ?_
  refine lv_iconst (v := 0) hx hb dL_law_1 (by decide) ?_
  refine lv_aload_n hx hb dL_law_2 rfl (lv_at hl 0 rfl) ?_
  refine mcallV (g := g) (q0 := 0) (ci := 9) (As := []) (rest := [.int 0, .ref oa]) St hK hT hA hP hD hS hl.1 [0, 1, 2, 3, 4, 5, 6] [7] rfl rfl rfl (c_law l g x ta o lo go tt lt mo fo ro fl9 a tx ch jo tr dy sd f ac ls0 ll lm lg ld fc ab len knd beg nxt flt fb qT qL it il ig mh me mx fT fL ldr ac2 ls02 ll2 lm2 lg2 ld2 fc2 ) (cwV 0 hts (zgL (zl4 k1159 k1160 k1161 k595) k579) rfl rfl rfl (by decide +kernel) ⟨Nat.le_of_ble_eq_true rfl, Nat.le_of_ble_eq_true rfl⟩) rfl rfl rfl rfl (Nat.le_of_ble_eq_true rfl) dL_law_3 ⟨(Nat.le_of_ble_eq_true rfl), (Nat.le_of_ble_eq_true rfl)⟩ (fun _u H locs hq1 hP hD hS => ?_)
  have hP : va_P g.1 vwCl (List.flatten [[(oa, .inl (g.2 2, 1, .inr (.inl fz)))]]) H := hP
  have hD : va_D A (List.flatten [[(oa, .inl (g.2 2, 1, .inr (.inl fz)))]]) := hD
  refine W.widen (k := 0) (n := 0) (Nat.le_of_ble_eq_true rfl) (Nat.le_of_ble_eq_true rfl) ?_
  refine W.eq (g2 := F0 m 6 ls [.int 0, .int 0, .ref oa]) rfl ?_
  refine lv_i2l (v := (0 : Int32).toInt64) hx hb dL_law_6 rfl ?_
  refine ztopl (r := 0) (by decide) ?_
  refine va_last hx hb hK hP hD hS 0 2 rfl rfl (zin rfl) dL_law_7 (fun H locs hP hD hS => ?_)
  have hP : va_P g.1 vwCl (List.flatten [[(oa, .inl (g.2 2, 1, .inr (.inl (vp_updL fz 0 0))))]]) H := hP
  have hD : va_D A (List.flatten [[(oa, .inl (g.2 2, 1, .inr (.inl (vp_updL fz 0 0))))]]) := hD
  refine lv_goto (tgt := 14) hx hb dL_law_8 (by decide) ?_
  refine lv_iconst (v := 0) hx hb dL_law_14 (by decide) ?_
  have hP : va_P g.1 vwCl (List.flatten [[(oa, .inl (g.2 2, 1, .inr (.inl (vp_updL fz 0 0))))]]) H := hP
  have hD : va_D A (List.flatten [[(oa, .inl (g.2 2, 1, .inr (.inl (vp_updL fz 0 0))))]]) := hD
  exact zret_i hx hb hr hlocks hS (Nat.le_of_ble_eq_true rfl) (Nat.le_of_ble_eq_true rfl) dL_law_15 (0, vp_updL fz 0 0) rfl (⟨rfl, rfl⟩) hP hD
set_option maxRecDepth 100000 in
set_option maxHeartbeats 4000000 in
theorem l_person (l : Launch) (hfl : l.stackTraces = false) (g : zG) (x : Nat) (ta : Nat) (o : Nat) (lo : Nat) (go : Nat) (tt : Nat) (lt : Nat) (mo : Nat) (fo : Nat) (ro : Nat) (fl9 : Int32) (o : Nat) (a : Nat → Nat) (tx : Int32) (ch : Int32) (jo : Int32) (tr : Int32) (dy : Int32) (sd : Int32) (f : Nat → Nat → Int32) (n1 : Int32) (n2 : Int32) (oa : Nat) (fz : Nat → Int64)  : zX g l yL_person (Cond.codeWith yL_person cL_person 5 (some .int) [(0, 10, 13, 24), (0, 10, 17, 26)] :: zB) ({ frames := 8, cells := 1, slots := 6, locals := 125 } : Room) [.ref x, .int n1, .int n2, .ref oa] [bDR g x ta o lo go tt lt mo fo ro fl9, bTown g o a 0 0 tx ch jo tr dy sd f, [(oa, .inl (g.2 2, 1, .inr (.inl fz)))]] (fun u : Int32 × (Nat → Int64) => (fun (r : Int32) (fz2 : Nat → Int64) => some (.int r)) (u.1) (u.2)) (fun u : Int32 × (Nat → Int64) => (fun (r : Int32) (fz2 : Nat → Int64) => r = 1) (u.1) (u.2)) (fun u : Int32 × (Nat → Int64) => (fun (r : Int32) (fz2 : Nat → Int64) => [[(oa, .inl (g.2 2, 1, .inr (.inl fz2)))]]) (u.1) (u.2)) zNo zN0 := by
  refine zX.ofH (cc := cL_person) (maxL := 5) (rt := (some .int)) (by decide) rfl (Nat.le_of_ble_eq_true rfl) ?_
  intro p e s m args below meth c A ls St hr hlocks htab hin hK hT hA hP hD hS hl
  obtain ⟨hx, hb, hml, hown, hts⟩ := id St
  have hl : lv_has ls 5 [(0, .ref x), (1, .int n1), (2, .int n2), (3, .ref oa)] := hl
  refine lv_aload_n hx hb dL_person_0 rfl (lv_at hl 3 rfl) ?_
  refine lv_iconst (v := 0) hx hb dL_person_1 (by decide) ?_
  refine lv_aload_n hx hb dL_person_2 rfl (lv_at hl 0 rfl) ?_
  refine lv_iload_n hx hb dL_person_3 rfl (lv_at hl 1 rfl) ?_
  refine lv_iload_n hx hb dL_person_4 rfl (lv_at hl 2 rfl) ?_
  refine xcallV (g := g) (q0 := 0) (ci := 9) (As := [.int n1, .int n2]) (rest := [.int 0, .ref oa]) St hK hT hA hP hD hS hl.1 [0, 1] [2] rfl rfl rfl (c_person l hfl g x ta o lo go tt lt mo fo ro fl9 o a tx ch jo tr dy sd f n1 n2 ) (cwV 2 hts (zgL (zl4 k1165 k1166 k1167 k595) k610) rfl rfl rfl (by decide +kernel) ⟨Nat.le_of_ble_eq_true rfl, Nat.le_of_ble_eq_true rfl⟩) rfl rfl rfl rfl (Nat.le_of_ble_eq_true rfl) dL_person_5 ⟨(Nat.le_of_ble_eq_true rfl), (Nat.le_of_ble_eq_true rfl)⟩ (fun E ce q9 u9 H locs hpx hP hD hS hce hcv hcl => ?_) (fun rr_1 H locs hq2 hP hD hS => ?_)
  · skip
    have hpx : (fun (E : String) (_ : Unit) => E = "java/lang/IndexOutOfBoundsException") E u9 := hpx
    have hP : va_P g.1 vwCl (List.flatten [[(oa, .inl (g.2 2, 1, .inr (.inl fz)))]]) H := hP
    have hD : va_D A (List.flatten [[(oa, .inl (g.2 2, 1, .inr (.inl fz)))]]) := hD
    obtain rfl := hpx
    refine vx_catch hown [] ⟨0, 10, 13, 24⟩ [⟨0, 10, 17, 26⟩] (by rw [htab]; rfl) (fun z hz => absurd hz List.not_mem_nil) (by decide) (by decide) (hts _ k1163) ((hT.2.2.2.2.1 _ (List.mem_of_getElem? (i := 0) rfl)).use) hce hcv hcl ?_
    refine W.widen (k := 1) (n := 6) (Nat.le_of_ble_eq_true rfl) (Nat.le_of_ble_eq_true rfl) ?_
    refine lv_astore (lv' := [(4, .ref q9), (0, .ref x), (1, .int n1), (2, .int n2), (3, .ref oa)]) hx hb dL_person_13 hl (by decide) rfl (fun ls hl => ?_)
    refine lv_iconst (v := 1) hx hb dL_person_15 (by decide) ?_
    have hP : va_P g.1 vwCl (List.flatten [[(oa, .inl (g.2 2, 1, .inr (.inl fz)))]]) H := hP
    have hD : va_D A (List.flatten [[(oa, .inl (g.2 2, 1, .inr (.inl fz)))]]) := hD
    exact zret_i hx hb hr hlocks hS (Nat.le_of_ble_eq_true rfl) (Nat.le_of_ble_eq_true rfl) dL_person_16 (1, fz) rfl rfl hP hD
  · skip
    have hq2 : False := hq2
    exact hq2.elim
set_option maxRecDepth 100000 in
set_option maxHeartbeats 4000000 in
theorem l_trust (l : Launch) (hfl : l.stackTraces = false) (g : zG) (x : Nat) (ta : Nat) (o : Nat) (lo : Nat) (go : Nat) (tt : Nat) (lt : Nat) (mo : Nat) (fo : Nat) (ro : Nat) (fl9 : Int32) (o : Nat) (a : Nat → Nat) (tx : Int32) (ch : Int32) (jo : Int32) (tr : Int32) (dy : Int32) (sd : Int32) (f : Nat → Nat → Int32) (n1 : Int32) (n2 : Int32) (oa : Nat) (fz : Nat → Int64)  : zX g l yL_trust (Cond.codeWith yL_trust cL_trust 5 (some .int) [(0, 10, 13, 24), (0, 10, 17, 13)] :: zB) ({ frames := 9, cells := 1, slots := 6, locals := 147 } : Room) [.ref x, .int n1, .int n2, .ref oa] [bDR g x ta o lo go tt lt mo fo ro fl9, bTown g o a 0 0 tx ch jo tr dy sd f, [(oa, .inl (g.2 2, 1, .inr (.inl fz)))]] (fun u : Int32 × (Nat → Int64) => (fun (r : Int32) (fz2 : Nat → Int64) => some (.int r)) (u.1) (u.2)) (fun u : Int32 × (Nat → Int64) => (fun (r : Int32) (fz2 : Nat → Int64) => r = 1) (u.1) (u.2)) (fun u : Int32 × (Nat → Int64) => (fun (r : Int32) (fz2 : Nat → Int64) => [[(oa, .inl (g.2 2, 1, .inr (.inl fz2)))]]) (u.1) (u.2)) zNo zN0 := by
  refine zX.ofH (cc := cL_trust) (maxL := 5) (rt := (some .int)) (by decide) rfl (Nat.le_of_ble_eq_true rfl) ?_
  intro p e s m args below meth c A ls St hr hlocks htab hin hK hT hA hP hD hS hl
  obtain ⟨hx, hb, hml, hown, hts⟩ := id St
  have hl : lv_has ls 5 [(0, .ref x), (1, .int n1), (2, .int n2), (3, .ref oa)] := hl
  refine lv_aload_n hx hb dL_trust_0 rfl (lv_at hl 3 rfl) ?_
  refine lv_iconst (v := 0) hx hb dL_trust_1 (by decide) ?_
  refine lv_aload_n hx hb dL_trust_2 rfl (lv_at hl 0 rfl) ?_
  refine lv_iload_n hx hb dL_trust_3 rfl (lv_at hl 1 rfl) ?_
  refine lv_iload_n hx hb dL_trust_4 rfl (lv_at hl 2 rfl) ?_
  refine xcallV (g := g) (q0 := 0) (ci := 9) (As := [.int n1, .int n2]) (rest := [.int 0, .ref oa]) St hK hT hA hP hD hS hl.1 [0, 1] [2] rfl rfl rfl (c_trust l hfl g x ta o lo go tt lt mo fo ro fl9 o a tx ch jo tr dy sd f n1 n2 ) (cwV 2 hts (zgL (zl4 k1169 k1170 k1171 k595) k612) rfl rfl rfl (by decide +kernel) ⟨Nat.le_of_ble_eq_true rfl, Nat.le_of_ble_eq_true rfl⟩) rfl rfl rfl rfl (Nat.le_of_ble_eq_true rfl) dL_trust_5 ⟨(Nat.le_of_ble_eq_true rfl), (Nat.le_of_ble_eq_true rfl)⟩ (fun E ce q9 u9 H locs hpx hP hD hS hce hcv hcl => ?_) (fun rr_1 H locs hq2 hP hD hS => ?_)
  · skip
    have hpx : (fun (E : String) (_ : Unit) => E = "java/lang/IndexOutOfBoundsException") E u9 := hpx
    have hP : va_P g.1 vwCl (List.flatten [[(oa, .inl (g.2 2, 1, .inr (.inl fz)))]]) H := hP
    have hD : va_D A (List.flatten [[(oa, .inl (g.2 2, 1, .inr (.inl fz)))]]) := hD
    obtain rfl := hpx
    refine vx_catch hown [] ⟨0, 10, 13, 24⟩ [⟨0, 10, 17, 13⟩] (by rw [htab]; rfl) (fun z hz => absurd hz List.not_mem_nil) (by decide) (by decide) (hts _ k1163) ((hT.2.2.2.2.1 _ (List.mem_of_getElem? (i := 0) rfl)).use) hce hcv hcl ?_
    refine W.widen (k := 1) (n := 6) (Nat.le_of_ble_eq_true rfl) (Nat.le_of_ble_eq_true rfl) ?_
    refine lv_astore (lv' := [(4, .ref q9), (0, .ref x), (1, .int n1), (2, .int n2), (3, .ref oa)]) hx hb dL_trust_13 hl (by decide) rfl (fun ls hl => ?_)
    refine lv_iconst (v := 1) hx hb dL_trust_15 (by decide) ?_
    have hP : va_P g.1 vwCl (List.flatten [[(oa, .inl (g.2 2, 1, .inr (.inl fz)))]]) H := hP
    have hD : va_D A (List.flatten [[(oa, .inl (g.2 2, 1, .inr (.inl fz)))]]) := hD
    exact zret_i hx hb hr hlocks hS (Nat.le_of_ble_eq_true rfl) (Nat.le_of_ble_eq_true rfl) dL_trust_16 (1, fz) rfl rfl hP hD
  · skip
    have hq2 : False := hq2
    exact hq2.elim
set_option maxRecDepth 100000 in
set_option maxHeartbeats 4000000 in
theorem l_work (l : Launch) (hfl : l.stackTraces = false) (g : zG) (x : Nat) (ta : Nat) (o : Nat) (lo : Nat) (go : Nat) (tt : Nat) (lt : Nat) (mo : Nat) (fo : Nat) (ro : Nat) (fl9 : Int32) (o : Nat) (a : Nat → Nat) (tx : Int32) (ch : Int32) (jo : Int32) (tr : Int32) (dy : Int32) (sd : Int32) (f : Nat → Nat → Int32) (n1 : Int32) (n2 : Int32) (oa : Nat) (fz : Nat → Int64)  : zX g l yL_work (Cond.codeWith yL_work cL_work 5 (some .int) [(0, 10, 13, 24), (0, 10, 17, 26)] :: zB) ({ frames := 8, cells := 1, slots := 6, locals := 125 } : Room) [.ref x, .int n1, .int n2, .ref oa] [bDR g x ta o lo go tt lt mo fo ro fl9, bTown g o a 0 0 tx ch jo tr dy sd f, [(oa, .inl (g.2 2, 1, .inr (.inl fz)))]] (fun u : Int32 × (Nat → Int64) => (fun (r : Int32) (fz2 : Nat → Int64) => some (.int r)) (u.1) (u.2)) (fun u : Int32 × (Nat → Int64) => (fun (r : Int32) (fz2 : Nat → Int64) => r = 1) (u.1) (u.2)) (fun u : Int32 × (Nat → Int64) => (fun (r : Int32) (fz2 : Nat → Int64) => [[(oa, .inl (g.2 2, 1, .inr (.inl fz2)))]]) (u.1) (u.2)) zNo zN0 := by
  refine zX.ofH (cc := cL_work) (maxL := 5) (rt := (some .int)) (by decide) rfl (Nat.le_of_ble_eq_true rfl) ?_
  intro p e s m args below meth c A ls St hr hlocks htab hin hK hT hA hP hD hS hl
  obtain ⟨hx, hb, hml, hown, hts⟩ := id St
  have hl : lv_has ls 5 [(0, .ref x), (1, .int n1), (2, .int n2), (3, .ref oa)] := hl
  refine lv_aload_n hx hb dL_work_0 rfl (lv_at hl 3 rfl) ?_
  refine lv_iconst (v := 0) hx hb dL_work_1 (by decide) ?_
  refine lv_aload_n hx hb dL_work_2 rfl (lv_at hl 0 rfl) ?_
  refine lv_iload_n hx hb dL_work_3 rfl (lv_at hl 1 rfl) ?_
  refine lv_iload_n hx hb dL_work_4 rfl (lv_at hl 2 rfl) ?_
  refine xcallV (g := g) (q0 := 0) (ci := 9) (As := [.int n1, .int n2]) (rest := [.int 0, .ref oa]) St hK hT hA hP hD hS hl.1 [0, 1] [2] rfl rfl rfl (c_work l hfl g x ta o lo go tt lt mo fo ro fl9 o a tx ch jo tr dy sd f n1 n2 ) (cwV 2 hts (zgL (zl4 k1174 k1175 k1176 k595) k619) rfl rfl rfl (by decide +kernel) ⟨Nat.le_of_ble_eq_true rfl, Nat.le_of_ble_eq_true rfl⟩) rfl rfl rfl rfl (Nat.le_of_ble_eq_true rfl) dL_work_5 ⟨(Nat.le_of_ble_eq_true rfl), (Nat.le_of_ble_eq_true rfl)⟩ (fun E ce q9 u9 H locs hpx hP hD hS hce hcv hcl => ?_) (fun rr_1 H locs hq2 hP hD hS => ?_)
  · skip
    have hpx : (fun (E : String) (_ : Unit) => E = "java/lang/IndexOutOfBoundsException") E u9 := hpx
    have hP : va_P g.1 vwCl (List.flatten [[(oa, .inl (g.2 2, 1, .inr (.inl fz)))]]) H := hP
    have hD : va_D A (List.flatten [[(oa, .inl (g.2 2, 1, .inr (.inl fz)))]]) := hD
    obtain rfl := hpx
    refine vx_catch hown [] ⟨0, 10, 13, 24⟩ [⟨0, 10, 17, 26⟩] (by rw [htab]; rfl) (fun z hz => absurd hz List.not_mem_nil) (by decide) (by decide) (hts _ k1163) ((hT.2.2.2.2.1 _ (List.mem_of_getElem? (i := 0) rfl)).use) hce hcv hcl ?_
    refine W.widen (k := 1) (n := 6) (Nat.le_of_ble_eq_true rfl) (Nat.le_of_ble_eq_true rfl) ?_
    refine lv_astore (lv' := [(4, .ref q9), (0, .ref x), (1, .int n1), (2, .int n2), (3, .ref oa)]) hx hb dL_work_13 hl (by decide) rfl (fun ls hl => ?_)
    refine lv_iconst (v := 1) hx hb dL_work_15 (by decide) ?_
    have hP : va_P g.1 vwCl (List.flatten [[(oa, .inl (g.2 2, 1, .inr (.inl fz)))]]) H := hP
    have hD : va_D A (List.flatten [[(oa, .inl (g.2 2, 1, .inr (.inl fz)))]]) := hD
    exact zret_i hx hb hr hlocks hS (Nat.le_of_ble_eq_true rfl) (Nat.le_of_ble_eq_true rfl) dL_work_16 (1, fz) rfl rfl hP hD
  · skip
    have hq2 : False := hq2
    exact hq2.elim
set_option maxRecDepth 100000 in
set_option maxHeartbeats 4000000 in
theorem l_tell (l : Launch) (hfl : l.stackTraces = false) (g : zG) (x : Nat) (ta : Nat) (o : Nat) (lo : Nat) (go : Nat) (tt : Nat) (lt : Nat) (mo : Nat) (fo : Nat) (ro : Nat) (fl9 : Int32) (o : Nat) (a : Nat → Nat) (tx : Int32) (ch : Int32) (jo : Int32) (tr : Int32) (dy : Int32) (sd : Int32) (f : Nat → Nat → Int32) (n1 : Int32) (oa : Nat) (fz : Nat → Int64)  : zX g l yL_tell (Cond.codeWith yL_tell cL_tell 4 (some .int) [(0, 9, 12, 24), (0, 9, 15, 38)] :: zB) ({ frames := 8, cells := 1, slots := 6, locals := 124 } : Room) [.ref x, .int n1, .ref oa] [bDR g x ta o lo go tt lt mo fo ro fl9, bTown g o a 0 0 tx ch jo tr dy sd f, [(oa, .inl (g.2 2, 1, .inr (.inl fz)))]] (fun u : Int32 × (Nat → Int64) => (fun (r : Int32) (fz2 : Nat → Int64) => some (.int r)) (u.1) (u.2)) (fun u : Int32 × (Nat → Int64) => (fun (r : Int32) (fz2 : Nat → Int64) => r = 1) (u.1) (u.2)) (fun u : Int32 × (Nat → Int64) => (fun (r : Int32) (fz2 : Nat → Int64) => [[(oa, .inl (g.2 2, 1, .inr (.inl fz2)))]]) (u.1) (u.2)) zNo zN0 := by
  refine zX.ofH (cc := cL_tell) (maxL := 4) (rt := (some .int)) (by decide) rfl (Nat.le_of_ble_eq_true rfl) ?_
  intro p e s m args below meth c A ls St hr hlocks htab hin hK hT hA hP hD hS hl
  obtain ⟨hx, hb, hml, hown, hts⟩ := id St
  have hl : lv_has ls 4 [(0, .ref x), (1, .int n1), (2, .ref oa)] := hl
  refine lv_aload_n hx hb dL_tell_0 rfl (lv_at hl 2 rfl) ?_
  refine lv_iconst (v := 0) hx hb dL_tell_1 (by decide) ?_
  refine lv_aload_n hx hb dL_tell_2 rfl (lv_at hl 0 rfl) ?_
  refine lv_iload_n hx hb dL_tell_3 rfl (lv_at hl 1 rfl) ?_
  refine xcallV (g := g) (q0 := 0) (ci := 9) (As := [.int n1]) (rest := [.int 0, .ref oa]) St hK hT hA hP hD hS hl.1 [0, 1] [2] rfl rfl rfl (c_tell l hfl g x ta o lo go tt lt mo fo ro fl9 o a tx ch jo tr dy sd f n1 ) (cwV 1 hts (zgL (zl4 k1178 k1179 k1180 k595) k644) rfl rfl rfl (by decide +kernel) ⟨Nat.le_of_ble_eq_true rfl, Nat.le_of_ble_eq_true rfl⟩) rfl rfl rfl rfl (Nat.le_of_ble_eq_true rfl) dL_tell_4 ⟨(Nat.le_of_ble_eq_true rfl), (Nat.le_of_ble_eq_true rfl)⟩ (fun E ce q9 u9 H locs hpx hP hD hS hce hcv hcl => ?_) (fun rr_1 H locs hq2 hP hD hS => ?_)
  · skip
    have hpx : (fun (E : String) (_ : Unit) => E = "java/lang/IndexOutOfBoundsException") E u9 := hpx
    have hP : va_P g.1 vwCl (List.flatten [[(oa, .inl (g.2 2, 1, .inr (.inl fz)))]]) H := hP
    have hD : va_D A (List.flatten [[(oa, .inl (g.2 2, 1, .inr (.inl fz)))]]) := hD
    obtain rfl := hpx
    refine vx_catch hown [] ⟨0, 9, 12, 24⟩ [⟨0, 9, 15, 38⟩] (by rw [htab]; rfl) (fun z hz => absurd hz List.not_mem_nil) (by decide) (by decide) (hts _ k1163) ((hT.2.2.2.2.1 _ (List.mem_of_getElem? (i := 0) rfl)).use) hce hcv hcl ?_
    refine W.widen (k := 1) (n := 6) (Nat.le_of_ble_eq_true rfl) (Nat.le_of_ble_eq_true rfl) ?_
    refine lv_astore_n (lv' := [(3, .ref q9), (0, .ref x), (1, .int n1), (2, .ref oa)]) hx hb dL_tell_12 rfl hl (by decide) rfl (fun ls hl => ?_)
    refine lv_iconst (v := 1) hx hb dL_tell_13 (by decide) ?_
    have hP : va_P g.1 vwCl (List.flatten [[(oa, .inl (g.2 2, 1, .inr (.inl fz)))]]) H := hP
    have hD : va_D A (List.flatten [[(oa, .inl (g.2 2, 1, .inr (.inl fz)))]]) := hD
    exact zret_i hx hb hr hlocks hS (Nat.le_of_ble_eq_true rfl) (Nat.le_of_ble_eq_true rfl) dL_tell_14 (1, fz) rfl rfl hP hD
  · skip
    have hq2 : False := hq2
    exact hq2.elim
set_option maxRecDepth 100000 in
set_option maxHeartbeats 4000000 in
theorem l_tie (l : Launch) (hfl : l.stackTraces = false) (g : zG) (x : Nat) (ta : Nat) (o : Nat) (lo : Nat) (go : Nat) (tt : Nat) (lt : Nat) (mo : Nat) (fo : Nat) (ro : Nat) (fl9 : Int32) (o : Nat) (a : Nat → Nat) (tx : Int32) (ch : Int32) (jo : Int32) (tr : Int32) (dy : Int32) (sd : Int32) (f : Nat → Nat → Int32) (n1 : Int32) (n2 : Int32) (n3 : Int32) (oa : Nat) (fz : Nat → Int64)  : zX g l yL_tie (Cond.codeWith yL_tie cL_tie 6 (some .int) [(0, 12, 15, 24), (0, 12, 19, 13)] :: zB) ({ frames := 9, cells := 1, slots := 6, locals := 149 } : Room) [.ref x, .int n1, .int n2, .int n3, .ref oa] [bDR g x ta o lo go tt lt mo fo ro fl9, bTown g o a 0 0 tx ch jo tr dy sd f, [(oa, .inl (g.2 2, 1, .inr (.inl fz)))]] (fun u : Int32 × (Nat → Int64) => (fun (r : Int32) (fz2 : Nat → Int64) => some (.int r)) (u.1) (u.2)) (fun u : Int32 × (Nat → Int64) => (fun (r : Int32) (fz2 : Nat → Int64) => r = 1) (u.1) (u.2)) (fun u : Int32 × (Nat → Int64) => (fun (r : Int32) (fz2 : Nat → Int64) => [[(oa, .inl (g.2 2, 1, .inr (.inl fz2)))]]) (u.1) (u.2)) zNo zN0 := by
  refine zX.ofH (cc := cL_tie) (maxL := 6) (rt := (some .int)) (by decide) rfl (Nat.le_of_ble_eq_true rfl) ?_
  intro p e s m args below meth c A ls St hr hlocks htab hin hK hT hA hP hD hS hl
  obtain ⟨hx, hb, hml, hown, hts⟩ := id St
  have hl : lv_has ls 6 [(0, .ref x), (1, .int n1), (2, .int n2), (3, .int n3), (4, .ref oa)] := hl
  refine lv_aload hx hb dL_tie_0 (lv_at hl 4 rfl) ?_
  refine lv_iconst (v := 0) hx hb dL_tie_2 (by decide) ?_
  refine lv_aload_n hx hb dL_tie_3 rfl (lv_at hl 0 rfl) ?_
  refine lv_iload_n hx hb dL_tie_4 rfl (lv_at hl 1 rfl) ?_
  refine lv_iload_n hx hb dL_tie_5 rfl (lv_at hl 2 rfl) ?_
  refine lv_iload_n hx hb dL_tie_6 rfl (lv_at hl 3 rfl) ?_
  refine xcallV (g := g) (q0 := 0) (ci := 9) (As := [.int n1, .int n2, .int n3]) (rest := [.int 0, .ref oa]) St hK hT hA hP hD hS hl.1 [0, 1] [2] rfl rfl rfl (c_tie l hfl g x ta o lo go tt lt mo fo ro fl9 o a tx ch jo tr dy sd f n1 n2 n3 ) (cwV 3 hts (zgL (zl4 k1182 k1183 k1184 k595) k650) rfl rfl rfl (by decide +kernel) ⟨Nat.le_of_ble_eq_true rfl, Nat.le_of_ble_eq_true rfl⟩) rfl rfl rfl rfl (Nat.le_of_ble_eq_true rfl) dL_tie_7 ⟨(Nat.le_of_ble_eq_true rfl), (Nat.le_of_ble_eq_true rfl)⟩ (fun E ce q9 u9 H locs hpx hP hD hS hce hcv hcl => ?_) (fun rr_1 H locs hq2 hP hD hS => ?_)
  · skip
    have hpx : (fun (E : String) (_ : Unit) => E = "java/lang/IndexOutOfBoundsException") E u9 := hpx
    have hP : va_P g.1 vwCl (List.flatten [[(oa, .inl (g.2 2, 1, .inr (.inl fz)))]]) H := hP
    have hD : va_D A (List.flatten [[(oa, .inl (g.2 2, 1, .inr (.inl fz)))]]) := hD
    obtain rfl := hpx
    refine vx_catch hown [] ⟨0, 12, 15, 24⟩ [⟨0, 12, 19, 13⟩] (by rw [htab]; rfl) (fun z hz => absurd hz List.not_mem_nil) (by decide) (by decide) (hts _ k1163) ((hT.2.2.2.2.1 _ (List.mem_of_getElem? (i := 0) rfl)).use) hce hcv hcl ?_
    refine W.widen (k := 1) (n := 6) (Nat.le_of_ble_eq_true rfl) (Nat.le_of_ble_eq_true rfl) ?_
    refine lv_astore (lv' := [(5, .ref q9), (0, .ref x), (1, .int n1), (2, .int n2), (3, .int n3), (4, .ref oa)]) hx hb dL_tie_15 hl (by decide) rfl (fun ls hl => ?_)
    refine lv_iconst (v := 1) hx hb dL_tie_17 (by decide) ?_
    have hP : va_P g.1 vwCl (List.flatten [[(oa, .inl (g.2 2, 1, .inr (.inl fz)))]]) H := hP
    have hD : va_D A (List.flatten [[(oa, .inl (g.2 2, 1, .inr (.inl fz)))]]) := hD
    exact zret_i hx hb hr hlocks hS (Nat.le_of_ble_eq_true rfl) (Nat.le_of_ble_eq_true rfl) dL_tie_18 (1, fz) rfl rfl hP hD
  · skip
    have hq2 : False := hq2
    exact hq2.elim
set_option maxRecDepth 100000 in
set_option maxHeartbeats 4000000 in
theorem l_plan (l : Launch) (hfl : l.stackTraces = false) (g : zG) (x : Nat) (ta : Nat) (o : Nat) (lo : Nat) (go : Nat) (tt : Nat) (lt : Nat) (mo : Nat) (fo : Nat) (ro : Nat) (fl9 : Int32) (o : Nat) (a : Nat → Nat) (tx : Int32) (ch : Int32) (jo : Int32) (tr : Int32) (dy : Int32) (sd : Int32) (f : Nat → Nat → Int32) (n1 : Int32)  : zX g l yL_plan (Cond.codeWith yL_plan cL_plan 3 (some .int) [(0, 5, 8, 24), (0, 5, 11, 38)] :: zB) ({ frames := 8, cells := 1, slots := 6, locals := 124 } : Room) [.ref x, .int n1] [bDR g x ta o lo go tt lt mo fo ro fl9, bTown g o a 0 0 tx ch jo tr dy sd f] (fun (r : Int32) => some (.int r)) (fun (r : Int32) => r = 1) (fun (r : Int32) => []) zNo zN0 := by
  refine zX.ofH (cc := cL_plan) (maxL := 3) (rt := (some .int)) (by decide) rfl (Nat.le_of_ble_eq_true rfl) ?_
  intro p e s m args below meth c A ls St hr hlocks htab hin hK hT hA hP hD hS hl
  obtain ⟨hx, hb, hml, hown, hts⟩ := id St
  have hl : lv_has ls 3 [(0, .ref x), (1, .int n1)] := hl
  refine lv_aload_n hx hb dL_plan_0 rfl (lv_at hl 0 rfl) ?_
  refine lv_iload_n hx hb dL_plan_1 rfl (lv_at hl 1 rfl) ?_
  refine xcallV (g := g) (q0 := 0) (ci := 9) (As := [.int n1]) (rest := []) St hK hT hA hP hD hS hl.1 [0, 1] [] rfl rfl rfl (c_plan l hfl g x ta o lo go tt lt mo fo ro fl9 o a tx ch jo tr dy sd f n1 ) (cwV 1 hts (zgL (zl4 k1186 k1187 k1188 k595) k651) rfl rfl rfl (by decide +kernel) ⟨Nat.le_of_ble_eq_true rfl, Nat.le_of_ble_eq_true rfl⟩) rfl rfl rfl rfl (Nat.le_of_ble_eq_true rfl) dL_plan_2 ⟨(Nat.le_of_ble_eq_true rfl), (Nat.le_of_ble_eq_true rfl)⟩ (fun E ce q9 u9 H locs hpx hP hD hS hce hcv hcl => ?_) (fun _u H locs hq1 hP hD hS => ?_)
  · skip
    have hpx : (fun (E : String) (_ : Unit) => E = "java/lang/IndexOutOfBoundsException") E u9 := hpx
    have hP : va_P g.1 vwCl (List.flatten []) H := hP
    have hD : va_D A (List.flatten []) := hD
    obtain rfl := hpx
    refine vx_catch hown [] ⟨0, 5, 8, 24⟩ [⟨0, 5, 11, 38⟩] (by rw [htab]; rfl) (fun z hz => absurd hz List.not_mem_nil) (by decide) (by decide) (hts _ k1163) ((hT.2.2.2.2.1 _ (List.mem_of_getElem? (i := 0) rfl)).use) hce hcv hcl ?_
    refine W.widen (k := 1) (n := 6) (Nat.le_of_ble_eq_true rfl) (Nat.le_of_ble_eq_true rfl) ?_
    refine lv_astore_n (lv' := [(2, .ref q9), (0, .ref x), (1, .int n1)]) hx hb dL_plan_8 rfl hl (by decide) rfl (fun ls hl => ?_)
    refine lv_iconst (v := 1) hx hb dL_plan_9 (by decide) ?_
    have hP : va_P g.1 vwCl (List.flatten []) H := hP
    have hD : va_D A (List.flatten []) := hD
    exact zret_i hx hb hr hlocks hS (Nat.le_of_ble_eq_true rfl) (Nat.le_of_ble_eq_true rfl) dL_plan_10 (1) rfl rfl hP hD
  · skip
    have hq1 : False := hq1
    exact hq1.elim
set_option maxRecDepth 100000 in
set_option maxHeartbeats 4000000 in
theorem l_send (l : Launch) (hfl : l.stackTraces = false) (g : zG) (x : Nat) (ta : Nat) (o : Nat) (lo : Nat) (go : Nat) (tt : Nat) (lt : Nat) (mo : Nat) (fo : Nat) (ro : Nat) (fl9 : Int32) (o : Nat) (a : Nat → Nat) (tx : Int32) (ch : Int32) (jo : Int32) (tr : Int32) (dy : Int32) (sd : Int32) (f : Nat → Nat → Int32) (n1 : Int32) (oa : Nat) (fz : Nat → Int64)  : zX g l yL_send (Cond.codeWith yL_send cL_send 4 (some .int) [(0, 9, 12, 24), (0, 9, 15, 38)] :: zB) ({ frames := 8, cells := 1, slots := 6, locals := 124 } : Room) [.ref x, .int n1, .ref oa] [bDR g x ta o lo go tt lt mo fo ro fl9, bTown g o a 0 0 tx ch jo tr dy sd f, [(oa, .inl (g.2 2, 1, .inr (.inl fz)))]] (fun u : Int32 × (Nat → Int64) => (fun (r : Int32) (fz2 : Nat → Int64) => some (.int r)) (u.1) (u.2)) (fun u : Int32 × (Nat → Int64) => (fun (r : Int32) (fz2 : Nat → Int64) => r = 1) (u.1) (u.2)) (fun u : Int32 × (Nat → Int64) => (fun (r : Int32) (fz2 : Nat → Int64) => [[(oa, .inl (g.2 2, 1, .inr (.inl fz2)))]]) (u.1) (u.2)) zNo zN0 := by
  refine zX.ofH (cc := cL_send) (maxL := 4) (rt := (some .int)) (by decide) rfl (Nat.le_of_ble_eq_true rfl) ?_
  intro p e s m args below meth c A ls St hr hlocks htab hin hK hT hA hP hD hS hl
  obtain ⟨hx, hb, hml, hown, hts⟩ := id St
  have hl : lv_has ls 4 [(0, .ref x), (1, .int n1), (2, .ref oa)] := hl
  refine lv_aload_n hx hb dL_send_0 rfl (lv_at hl 2 rfl) ?_
  refine lv_iconst (v := 0) hx hb dL_send_1 (by decide) ?_
  refine lv_aload_n hx hb dL_send_2 rfl (lv_at hl 0 rfl) ?_
  refine lv_iload_n hx hb dL_send_3 rfl (lv_at hl 1 rfl) ?_
  refine xcallV (g := g) (q0 := 0) (ci := 9) (As := [.int n1]) (rest := [.int 0, .ref oa]) St hK hT hA hP hD hS hl.1 [0, 1] [2] rfl rfl rfl (c_send l hfl g x ta o lo go tt lt mo fo ro fl9 o a tx ch jo tr dy sd f n1 ) (cwV 1 hts (zgL (zl4 k1190 k1191 k1192 k595) k654) rfl rfl rfl (by decide +kernel) ⟨Nat.le_of_ble_eq_true rfl, Nat.le_of_ble_eq_true rfl⟩) rfl rfl rfl rfl (Nat.le_of_ble_eq_true rfl) dL_send_4 ⟨(Nat.le_of_ble_eq_true rfl), (Nat.le_of_ble_eq_true rfl)⟩ (fun E ce q9 u9 H locs hpx hP hD hS hce hcv hcl => ?_) (fun rr_1 H locs hq2 hP hD hS => ?_)
  · skip
    have hpx : (fun (E : String) (_ : Unit) => E = "java/lang/IndexOutOfBoundsException") E u9 := hpx
    have hP : va_P g.1 vwCl (List.flatten [[(oa, .inl (g.2 2, 1, .inr (.inl fz)))]]) H := hP
    have hD : va_D A (List.flatten [[(oa, .inl (g.2 2, 1, .inr (.inl fz)))]]) := hD
    obtain rfl := hpx
    refine vx_catch hown [] ⟨0, 9, 12, 24⟩ [⟨0, 9, 15, 38⟩] (by rw [htab]; rfl) (fun z hz => absurd hz List.not_mem_nil) (by decide) (by decide) (hts _ k1163) ((hT.2.2.2.2.1 _ (List.mem_of_getElem? (i := 0) rfl)).use) hce hcv hcl ?_
    refine W.widen (k := 1) (n := 6) (Nat.le_of_ble_eq_true rfl) (Nat.le_of_ble_eq_true rfl) ?_
    refine lv_astore_n (lv' := [(3, .ref q9), (0, .ref x), (1, .int n1), (2, .ref oa)]) hx hb dL_send_12 rfl hl (by decide) rfl (fun ls hl => ?_)
    refine lv_iconst (v := 1) hx hb dL_send_13 (by decide) ?_
    have hP : va_P g.1 vwCl (List.flatten [[(oa, .inl (g.2 2, 1, .inr (.inl fz)))]]) H := hP
    have hD : va_D A (List.flatten [[(oa, .inl (g.2 2, 1, .inr (.inl fz)))]]) := hD
    exact zret_i hx hb hr hlocks hS (Nat.le_of_ble_eq_true rfl) (Nat.le_of_ble_eq_true rfl) dL_send_14 (1, fz) rfl rfl hP hD
  · skip
    have hq2 : False := hq2
    exact hq2.elim
set_option maxRecDepth 100000 in
set_option maxHeartbeats 4000000 in
theorem l_buy (l : Launch) (hfl : l.stackTraces = false) (g : zG) (x : Nat) (ta : Nat) (o : Nat) (lo : Nat) (go : Nat) (tt : Nat) (lt : Nat) (mo : Nat) (fo : Nat) (ro : Nat) (fl9 : Int32) (o : Nat) (a : Nat → Nat) (tx : Int32) (ch : Int32) (jo : Int32) (tr : Int32) (dy : Int32) (sd : Int32) (f : Nat → Nat → Int32) (n1 : Int32) (n2 : Int32) (oa : Nat) (fz : Nat → Int64)  : zX g l yL_buy (Cond.codeWith yL_buy cL_buy 5 (some .int) [(0, 10, 13, 24), (0, 10, 17, 13), (0, 10, 21, 38)] :: zB) ({ frames := 8, cells := 1, slots := 6, locals := 126 } : Room) [.ref x, .int n1, .int n2, .ref oa] [bDR g x ta o lo go tt lt mo fo ro fl9, bTown g o a 0 0 tx ch jo tr dy sd f, [(oa, .inl (g.2 2, 1, .inr (.inl fz)))]] (fun u : Int32 × (Nat → Int64) => (fun (r : Int32) (fz2 : Nat → Int64) => some (.int r)) (u.1) (u.2)) (fun u : Int32 × (Nat → Int64) => (fun (r : Int32) (fz2 : Nat → Int64) => r = 1) (u.1) (u.2)) (fun u : Int32 × (Nat → Int64) => (fun (r : Int32) (fz2 : Nat → Int64) => [[(oa, .inl (g.2 2, 1, .inr (.inl fz2)))]]) (u.1) (u.2)) zNo zN0 := by
  refine zX.ofH (cc := cL_buy) (maxL := 5) (rt := (some .int)) (by decide) rfl (Nat.le_of_ble_eq_true rfl) ?_
  intro p e s m args below meth c A ls St hr hlocks htab hin hK hT hA hP hD hS hl
  obtain ⟨hx, hb, hml, hown, hts⟩ := id St
  have hl : lv_has ls 5 [(0, .ref x), (1, .int n1), (2, .int n2), (3, .ref oa)] := hl
  refine lv_aload_n hx hb dL_buy_0 rfl (lv_at hl 3 rfl) ?_
  refine lv_iconst (v := 0) hx hb dL_buy_1 (by decide) ?_
  refine lv_aload_n hx hb dL_buy_2 rfl (lv_at hl 0 rfl) ?_
  refine lv_iload_n hx hb dL_buy_3 rfl (lv_at hl 1 rfl) ?_
  refine lv_iload_n hx hb dL_buy_4 rfl (lv_at hl 2 rfl) ?_
  refine xcallV (g := g) (q0 := 0) (ci := 9) (As := [.int n1, .int n2]) (rest := [.int 0, .ref oa]) St hK hT hA hP hD hS hl.1 [0, 1] [2] rfl rfl rfl (c_buy l hfl g x ta o lo go tt lt mo fo ro fl9 o a tx ch jo tr dy sd f n1 n2 ) (cwV 2 hts (zgL (zl4 k1194 k1195 k1196 k595) k657) rfl rfl rfl (by decide +kernel) ⟨Nat.le_of_ble_eq_true rfl, Nat.le_of_ble_eq_true rfl⟩) rfl rfl rfl rfl (Nat.le_of_ble_eq_true rfl) dL_buy_5 ⟨(Nat.le_of_ble_eq_true rfl), (Nat.le_of_ble_eq_true rfl)⟩ (fun E ce q9 u9 H locs hpx hP hD hS hce hcv hcl => ?_) (fun rr_1 H locs hq2 hP hD hS => ?_)
  · skip
    have hpx : (fun (E : String) (_ : Unit) => E = "java/lang/IndexOutOfBoundsException") E u9 := hpx
    have hP : va_P g.1 vwCl (List.flatten [[(oa, .inl (g.2 2, 1, .inr (.inl fz)))]]) H := hP
    have hD : va_D A (List.flatten [[(oa, .inl (g.2 2, 1, .inr (.inl fz)))]]) := hD
    obtain rfl := hpx
    refine vx_catch hown [] ⟨0, 10, 13, 24⟩ [⟨0, 10, 17, 13⟩, ⟨0, 10, 21, 38⟩] (by rw [htab]; rfl) (fun z hz => absurd hz List.not_mem_nil) (by decide) (by decide) (hts _ k1163) ((hT.2.2.2.2.1 _ (List.mem_of_getElem? (i := 0) rfl)).use) hce hcv hcl ?_
    refine W.widen (k := 1) (n := 6) (Nat.le_of_ble_eq_true rfl) (Nat.le_of_ble_eq_true rfl) ?_
    refine lv_astore (lv' := [(4, .ref q9), (0, .ref x), (1, .int n1), (2, .int n2), (3, .ref oa)]) hx hb dL_buy_13 hl (by decide) rfl (fun ls hl => ?_)
    refine lv_iconst (v := 1) hx hb dL_buy_15 (by decide) ?_
    have hP : va_P g.1 vwCl (List.flatten [[(oa, .inl (g.2 2, 1, .inr (.inl fz)))]]) H := hP
    have hD : va_D A (List.flatten [[(oa, .inl (g.2 2, 1, .inr (.inl fz)))]]) := hD
    exact zret_i hx hb hr hlocks hS (Nat.le_of_ble_eq_true rfl) (Nat.le_of_ble_eq_true rfl) dL_buy_16 (1, fz) rfl rfl hP hD
  · skip
    have hq2 : False := hq2
    exact hq2.elim
set_option maxRecDepth 100000 in
set_option maxHeartbeats 4000000 in
theorem l_sell (l : Launch) (hfl : l.stackTraces = false) (g : zG) (x : Nat) (ta : Nat) (o : Nat) (lo : Nat) (go : Nat) (tt : Nat) (lt : Nat) (mo : Nat) (fo : Nat) (ro : Nat) (fl9 : Int32) (o : Nat) (a : Nat → Nat) (tx : Int32) (ch : Int32) (jo : Int32) (tr : Int32) (dy : Int32) (sd : Int32) (f : Nat → Nat → Int32) (n1 : Int32) (n2 : Int32) (oa : Nat) (fz : Nat → Int64)  : zX g l yL_sell (Cond.codeWith yL_sell cL_sell 5 (some .int) [(0, 10, 13, 24), (0, 10, 17, 13), (0, 10, 21, 38)] :: zB) ({ frames := 8, cells := 1, slots := 6, locals := 126 } : Room) [.ref x, .int n1, .int n2, .ref oa] [bDR g x ta o lo go tt lt mo fo ro fl9, bTown g o a 0 0 tx ch jo tr dy sd f, [(oa, .inl (g.2 2, 1, .inr (.inl fz)))]] (fun u : Int32 × (Nat → Int64) => (fun (r : Int32) (fz2 : Nat → Int64) => some (.int r)) (u.1) (u.2)) (fun u : Int32 × (Nat → Int64) => (fun (r : Int32) (fz2 : Nat → Int64) => r = 1) (u.1) (u.2)) (fun u : Int32 × (Nat → Int64) => (fun (r : Int32) (fz2 : Nat → Int64) => [[(oa, .inl (g.2 2, 1, .inr (.inl fz2)))]]) (u.1) (u.2)) zNo zN0 := by
  refine zX.ofH (cc := cL_sell) (maxL := 5) (rt := (some .int)) (by decide) rfl (Nat.le_of_ble_eq_true rfl) ?_
  intro p e s m args below meth c A ls St hr hlocks htab hin hK hT hA hP hD hS hl
  obtain ⟨hx, hb, hml, hown, hts⟩ := id St
  have hl : lv_has ls 5 [(0, .ref x), (1, .int n1), (2, .int n2), (3, .ref oa)] := hl
  refine lv_aload_n hx hb dL_sell_0 rfl (lv_at hl 3 rfl) ?_
  refine lv_iconst (v := 0) hx hb dL_sell_1 (by decide) ?_
  refine lv_aload_n hx hb dL_sell_2 rfl (lv_at hl 0 rfl) ?_
  refine lv_iload_n hx hb dL_sell_3 rfl (lv_at hl 1 rfl) ?_
  refine lv_iload_n hx hb dL_sell_4 rfl (lv_at hl 2 rfl) ?_
  refine xcallV (g := g) (q0 := 0) (ci := 9) (As := [.int n1, .int n2]) (rest := [.int 0, .ref oa]) St hK hT hA hP hD hS hl.1 [0, 1] [2] rfl rfl rfl (c_sell l hfl g x ta o lo go tt lt mo fo ro fl9 o a tx ch jo tr dy sd f n1 n2 ) (cwV 2 hts (zgL (zl4 k1198 k1199 k1200 k595) k658) rfl rfl rfl (by decide +kernel) ⟨Nat.le_of_ble_eq_true rfl, Nat.le_of_ble_eq_true rfl⟩) rfl rfl rfl rfl (Nat.le_of_ble_eq_true rfl) dL_sell_5 ⟨(Nat.le_of_ble_eq_true rfl), (Nat.le_of_ble_eq_true rfl)⟩ (fun E ce q9 u9 H locs hpx hP hD hS hce hcv hcl => ?_) (fun rr_1 H locs hq2 hP hD hS => ?_)
  · skip
    have hpx : (fun (E : String) (_ : Unit) => E = "java/lang/IndexOutOfBoundsException") E u9 := hpx
    have hP : va_P g.1 vwCl (List.flatten [[(oa, .inl (g.2 2, 1, .inr (.inl fz)))]]) H := hP
    have hD : va_D A (List.flatten [[(oa, .inl (g.2 2, 1, .inr (.inl fz)))]]) := hD
    obtain rfl := hpx
    refine vx_catch hown [] ⟨0, 10, 13, 24⟩ [⟨0, 10, 17, 13⟩, ⟨0, 10, 21, 38⟩] (by rw [htab]; rfl) (fun z hz => absurd hz List.not_mem_nil) (by decide) (by decide) (hts _ k1163) ((hT.2.2.2.2.1 _ (List.mem_of_getElem? (i := 0) rfl)).use) hce hcv hcl ?_
    refine W.widen (k := 1) (n := 6) (Nat.le_of_ble_eq_true rfl) (Nat.le_of_ble_eq_true rfl) ?_
    refine lv_astore (lv' := [(4, .ref q9), (0, .ref x), (1, .int n1), (2, .int n2), (3, .ref oa)]) hx hb dL_sell_13 hl (by decide) rfl (fun ls hl => ?_)
    refine lv_iconst (v := 1) hx hb dL_sell_15 (by decide) ?_
    have hP : va_P g.1 vwCl (List.flatten [[(oa, .inl (g.2 2, 1, .inr (.inl fz)))]]) H := hP
    have hD : va_D A (List.flatten [[(oa, .inl (g.2 2, 1, .inr (.inl fz)))]]) := hD
    exact zret_i hx hb hr hlocks hS (Nat.le_of_ble_eq_true rfl) (Nat.le_of_ble_eq_true rfl) dL_sell_16 (1, fz) rfl rfl hP hD
  · skip
    have hq2 : False := hq2
    exact hq2.elim
set_option maxRecDepth 100000 in
set_option maxHeartbeats 4000000 in
theorem l_dry (l : Launch) (hfl : l.stackTraces = false) (g : zG) (x : Nat) (ta : Nat) (o : Nat) (lo : Nat) (go : Nat) (tt : Nat) (lt : Nat) (mo : Nat) (fo : Nat) (ro : Nat) (fl9 : Int32) (o : Nat) (a : Nat → Nat) (tx : Int32) (ch : Int32) (jo : Int32) (tr : Int32) (dy : Int32) (sd : Int32) (f : Nat → Nat → Int32) (n1 : Int32) (n2 : Int32) (oa : Nat) (fz : Nat → Int64)  : zX g l yL_dry (Cond.codeWith yL_dry cL_dry 5 (some .int) [(0, 17, 20, 24)] :: zB) ({ frames := 8, cells := 1, slots := 6, locals := 126 } : Room) [.ref x, .int n1, .int n2, .ref oa] [bDR g x ta o lo go tt lt mo fo ro fl9, bTown g o a 0 0 tx ch jo tr dy sd f, [(oa, .inl (g.2 2, 1, .inr (.inl fz)))]] (fun u : Int32 × (Nat → Int64) => (fun (r : Int32) (fz2 : Nat → Int64) => some (.int r)) (u.1) (u.2)) (fun u : Int32 × (Nat → Int64) => (fun (r : Int32) (fz2 : Nat → Int64) => r = 1) (u.1) (u.2)) (fun u : Int32 × (Nat → Int64) => (fun (r : Int32) (fz2 : Nat → Int64) => [[(oa, .inl (g.2 2, 1, .inr (.inl fz2)))]]) (u.1) (u.2)) zNo zN0 := by
  refine zX.ofH (cc := cL_dry) (maxL := 5) (rt := (some .int)) (by decide) rfl (Nat.le_of_ble_eq_true rfl) ?_
  intro p e s m args below meth c A ls St hr hlocks htab hin hK hT hA hP hD hS hl
  obtain ⟨hx, hb, hml, hown, hts⟩ := id St
  have hl : lv_has ls 5 [(0, .ref x), (1, .int n1), (2, .int n2), (3, .ref oa)] := hl
  refine lv_aload_n hx hb dL_dry_0 rfl (lv_at hl 3 rfl) ?_
  refine lv_iconst (v := 0) hx hb dL_dry_1 (by decide) ?_
  refine lv_aload_n hx hb dL_dry_2 rfl (lv_at hl 0 rfl) ?_
  refine lv_iload_n hx hb dL_dry_3 rfl (lv_at hl 1 rfl) ?_
  refine lv_iload_n hx hb dL_dry_4 rfl (lv_at hl 2 rfl) ?_
  refine xcallV (g := g) (q0 := 0) (ci := 9) (As := [.int n1, .int n2]) (rest := [.int 0, .ref oa]) St hK hT hA hP hD hS hl.1 [0, 1] [2] rfl rfl rfl (c_dry l hfl g x ta o lo go tt lt mo fo ro fl9 o a tx ch jo tr dy sd f n1 n2 ) (cwV 2 hts (zgL (zl4 k1202 k1203 k1204 k595) k659) rfl rfl rfl (by decide +kernel) ⟨Nat.le_of_ble_eq_true rfl, Nat.le_of_ble_eq_true rfl⟩) rfl rfl rfl rfl (Nat.le_of_ble_eq_true rfl) dL_dry_5 ⟨(Nat.le_of_ble_eq_true rfl), (Nat.le_of_ble_eq_true rfl)⟩ (fun E ce q9 u9 H locs hpx hP hD hS hce hcv hcl => ?_) (fun rr_1 H locs hq2 hP hD hS => ?_)
  · skip
    have hpx : (fun (E : String) (_ : Unit) => E = "java/lang/IndexOutOfBoundsException") E u9 := hpx
    have hP : va_P g.1 vwCl (List.flatten [[(oa, .inl (g.2 2, 1, .inr (.inl fz)))]]) H := hP
    have hD : va_D A (List.flatten [[(oa, .inl (g.2 2, 1, .inr (.inl fz)))]]) := hD
    obtain rfl := hpx
    refine vx_catch hown [] ⟨0, 17, 20, 24⟩ [] (by rw [htab]; rfl) (fun z hz => absurd hz List.not_mem_nil) (by decide) (by decide) (hts _ k1163) ((hT.2.2.2.2.1 _ (List.mem_of_getElem? (i := 0) rfl)).use) hce hcv hcl ?_
    refine W.widen (k := 1) (n := 6) (Nat.le_of_ble_eq_true rfl) (Nat.le_of_ble_eq_true rfl) ?_
    refine lv_astore (lv' := [(4, .ref q9), (0, .ref x), (1, .int n1), (2, .int n2), (3, .ref oa)]) hx hb dL_dry_20 hl (by decide) rfl (fun ls hl => ?_)
    refine lv_iconst (v := 1) hx hb dL_dry_22 (by decide) ?_
    have hP : va_P g.1 vwCl (List.flatten [[(oa, .inl (g.2 2, 1, .inr (.inl fz)))]]) H := hP
    have hD : va_D A (List.flatten [[(oa, .inl (g.2 2, 1, .inr (.inl fz)))]]) := hD
    exact zret_i hx hb hr hlocks hS (Nat.le_of_ble_eq_true rfl) (Nat.le_of_ble_eq_true rfl) dL_dry_23 (1, fz) rfl rfl hP hD
  · skip
    have hq2 : False := hq2
    exact hq2.elim
set_option maxRecDepth 100000 in
set_option maxHeartbeats 4000000 in
theorem l_days (l : Launch) (hfl : l.stackTraces = false) (g : zG) (x : Nat) (ta : Nat) (o : Nat) (lo : Nat) (go : Nat) (tt : Nat) (lt : Nat) (mo : Nat) (fo : Nat) (ro : Nat) (fl9 : Int32) (a : Nat → Nat) (tx : Int32) (ch : Int32) (jo : Int32) (tr : Int32) (dy : Int32) (sd : Int32) (f : Nat → Nat → Int32) (ac : Nat) (ls0 : Int32) (ll : Int32) (lm : Int32) (lg : Int32) (ld : Int32) (fc : Nat → Int32) (ar : Nat) (gs : Int32) (gn : Int32) (fr : Nat → Int32) (qT : Nat) (qL : Nat) (it : Nat) (il : Nat) (ig : Nat) (mh : Int32) (fT : Nat → Option Nat) (fL : Nat → Option Nat) (t0 : Nat) (a2 : Nat → Nat) (pe2 : Int32) (wo2 : Int32) (tx2 : Int32) (ch2 : Int32) (jo2 : Int32) (tr2 : Int32) (dy2 : Int32) (sd2 : Int32) (f2 : Nat → Nat → Int32) (l0 : Nat) (ar2 : Nat) (gs2 : Int32) (gn2 : Int32) (fr2 : Nat → Int32) (n : Int32) (oa : Nat) (fz : Nat → Int64) (hz : zZ (f 4)) (hT0 : fT 0 = some t0) (hL0 : fL 0 = some l0) : zX g l yL_days (Cond.codeWith yL_days cL_days 4 (some .int) [(0, 9, 12, 13)] :: zB) ({ frames := 8, cells := 1, slots := 6, locals := 128 } : Room) [.ref x, .int n, .ref oa] [bDR g x ta o lo go tt lt mo fo ro fl9, bTown g o a 0 0 tx ch jo tr dy sd f, bLaw g lo ac ls0 ll lm lg ld fc, bLog g go ar gs gn fr, bMem g mo qT qL it il ig mh 0 0 fT fL, bTown g t0 a2 pe2 wo2 tx2 ch2 jo2 tr2 dy2 sd2 f2, bLog g l0 ar2 gs2 gn2 fr2, [(oa, .inl (g.2 2, 1, .inr (.inl fz)))]] (fun u : Int32 × (Nat → Int64) => (fun (r : Int32) (fz2 : Nat → Int64) => some (.int r)) (u.1) (u.2)) (fun u : Int32 × (Nat → Int64) => (fun (r : Int32) (fz2 : Nat → Int64) => (r = 1 ∧ (n < 1 ∨ 60 < n)) ∨ (r = 0 ∧ (¬ n < 1 ∧ ¬ 60 < n) ∧ fz2 0 = (0 : Int32).toInt64)) (u.1) (u.2)) (fun u : Int32 × (Nat → Int64) => (fun (r : Int32) (fz2 : Nat → Int64) => [[(oa, .inl (g.2 2, 1, .inr (.inl fz2)))]]) (u.1) (u.2)) zNo zN0 := by
  refine zX.ofH (cc := cL_days) (maxL := 4) (rt := (some .int)) (by decide) rfl (Nat.le_of_ble_eq_true rfl) ?_
  intro p e s m args below meth c A ls St hr hlocks htab hin hK hT hA hP hD hS hl
  obtain ⟨hx, hb, hml, hown, hts⟩ := id St
  have hl : lv_has ls 4 [(0, .ref x), (1, .int n), (2, .ref oa)] := hl
  refine lv_aload_n hx hb dL_days_0 rfl (lv_at hl 2 rfl) ?_
  refine lv_iconst (v := 0) hx hb dL_days_1 (by decide) ?_
  refine lv_aload_n hx hb dL_days_2 rfl (lv_at hl 0 rfl) ?_
  refine lv_iload_n hx hb dL_days_3 rfl (lv_at hl 1 rfl) ?_
  refine xcallV (g := g) (q0 := 0) (ci := 9) (As := [.int n]) (rest := [.int 0, .ref oa]) St hK hT hA hP hD hS hl.1 [0, 1, 2, 3, 4, 5, 6] [7] rfl rfl rfl (c_days l hfl g x ta o lo go tt lt mo fo ro fl9 a tx ch jo tr dy sd f ac ls0 ll lm lg ld fc ar gs gn fr qT qL it il ig mh fT fL t0 a2 pe2 wo2 tx2 ch2 jo2 tr2 dy2 sd2 f2 l0 ar2 gs2 gn2 fr2 n (by assumption) (by assumption) (by assumption)) (cwV 1 hts (zgL (zl4 k1206 k1207 k1208 k595) k661) rfl rfl rfl (by decide +kernel) ⟨Nat.le_of_ble_eq_true rfl, Nat.le_of_ble_eq_true rfl⟩) rfl rfl rfl rfl (Nat.le_of_ble_eq_true rfl) dL_days_4 ⟨(Nat.le_of_ble_eq_true rfl), (Nat.le_of_ble_eq_true rfl)⟩ (fun E ce q9 u9 H locs hpx hP hD hS hce hcv hcl => ?_) (fun _u H locs hq1 hP hD hS => ?_)
  · skip
    have hpx : (fun (E : String) (_ : Unit) => E = "java/lang/IllegalArgumentException" ∧ (n < 1 ∨ 60 < n)) E u9 := hpx
    have hP : va_P g.1 vwCl (List.flatten [[(oa, .inl (g.2 2, 1, .inr (.inl fz)))]]) H := hP
    have hD : va_D A (List.flatten [[(oa, .inl (g.2 2, 1, .inr (.inl fz)))]]) := hD
    obtain ⟨rfl, hpy⟩ := hpx
    refine vx_catch hown [] ⟨0, 9, 12, 13⟩ [] (by rw [htab]; rfl) (fun z hz => absurd hz List.not_mem_nil) (by decide) (by decide) (hts _ k1153) ((hT.2.2.2.2.1 _ (List.mem_of_getElem? (i := 1) rfl)).use) hce hcv hcl ?_
    refine W.widen (k := 1) (n := 6) (Nat.le_of_ble_eq_true rfl) (Nat.le_of_ble_eq_true rfl) ?_
    refine lv_astore_n (lv' := [(3, .ref q9), (0, .ref x), (1, .int n), (2, .ref oa)]) hx hb dL_days_12 rfl hl (by decide) rfl (fun ls hl => ?_)
    refine lv_iconst (v := 1) hx hb dL_days_13 (by decide) ?_
    have hP : va_P g.1 vwCl (List.flatten [[(oa, .inl (g.2 2, 1, .inr (.inl fz)))]]) H := hP
    have hD : va_D A (List.flatten [[(oa, .inl (g.2 2, 1, .inr (.inl fz)))]]) := hD
    exact zret_i hx hb hr hlocks hS (Nat.le_of_ble_eq_true rfl) (Nat.le_of_ble_eq_true rfl) dL_days_14 (1, fz) rfl (Or.inl ⟨rfl, hpy⟩) hP hD
  · skip
    have hq1 : ¬ n < 1 ∧ ¬ 60 < n := hq1
    have hP : va_P g.1 vwCl (List.flatten [[(oa, .inl (g.2 2, 1, .inr (.inl fz)))]]) H := hP
    have hD : va_D A (List.flatten [[(oa, .inl (g.2 2, 1, .inr (.inl fz)))]]) := hD
    refine W.widen (k := 1) (n := 6) (Nat.le_of_ble_eq_true rfl) (Nat.le_of_ble_eq_true rfl) ?_
    refine W.eq (g2 := F0 m 7 ls [.int 0, .int 0, .ref oa]) rfl ?_
    refine lv_i2l (v := (0 : Int32).toInt64) hx hb dL_days_7 rfl ?_
    refine ztopl (r := 0) (by decide) ?_
    refine va_last hx hb hK hP hD hS 0 2 rfl rfl (zin rfl) dL_days_8 (fun H locs hP hD hS => ?_)
    have hP : va_P g.1 vwCl (List.flatten [[(oa, .inl (g.2 2, 1, .inr (.inl (vp_updL fz 0 0))))]]) H := hP
    have hD : va_D A (List.flatten [[(oa, .inl (g.2 2, 1, .inr (.inl (vp_updL fz 0 0))))]]) := hD
    refine lv_goto (tgt := 15) hx hb dL_days_9 (by decide) ?_
    refine lv_iconst (v := 0) hx hb dL_days_15 (by decide) ?_
    have hP : va_P g.1 vwCl (List.flatten [[(oa, .inl (g.2 2, 1, .inr (.inl (vp_updL fz 0 0))))]]) H := hP
    have hD : va_D A (List.flatten [[(oa, .inl (g.2 2, 1, .inr (.inl (vp_updL fz 0 0))))]]) := hD
    exact zret_i hx hb hr hlocks hS (Nat.le_of_ble_eq_true rfl) (Nat.le_of_ble_eq_true rfl) dL_days_16 (0, vp_updL fz 0 0) rfl (Or.inr ⟨rfl, hq1, rfl⟩) hP hD
set_option maxRecDepth 100000 in
set_option maxHeartbeats 4000000 in
theorem l_ahead (l : Launch) (hfl : l.stackTraces = false) (g : zG) (x : Nat) (ta : Nat) (o : Nat) (lo : Nat) (go : Nat) (tt : Nat) (lt : Nat) (mo : Nat) (fo : Nat) (ro : Nat) (fl9 : Int32) (o : Nat) (a : Nat → Nat) (tx : Int32) (ch : Int32) (jo : Int32) (tr : Int32) (dy : Int32) (sd : Int32) (f : Nat → Nat → Int32) (n1 : Int32) (n2 : Int32) (oa : Nat) (fz : Nat → Int64)  : zX g l yL_ahead (Cond.codeWith yL_ahead cL_ahead 5 (some .int) [(0, 10, 13, 24), (0, 10, 17, 13)] :: zB) ({ frames := 8, cells := 1, slots := 6, locals := 125 } : Room) [.ref x, .int n1, .int n2, .ref oa] [bDR g x ta o lo go tt lt mo fo ro fl9, bTown g o a 0 0 tx ch jo tr dy sd f, [(oa, .inl (g.2 2, 1, .inr (.inl fz)))]] (fun u : Int32 × (Nat → Int64) => (fun (r : Int32) (fz2 : Nat → Int64) => some (.int r)) (u.1) (u.2)) (fun u : Int32 × (Nat → Int64) => (fun (r : Int32) (fz2 : Nat → Int64) => r = 1) (u.1) (u.2)) (fun u : Int32 × (Nat → Int64) => (fun (r : Int32) (fz2 : Nat → Int64) => [[(oa, .inl (g.2 2, 1, .inr (.inl fz2)))]]) (u.1) (u.2)) zNo zN0 := by
  refine zX.ofH (cc := cL_ahead) (maxL := 5) (rt := (some .int)) (by decide) rfl (Nat.le_of_ble_eq_true rfl) ?_
  intro p e s m args below meth c A ls St hr hlocks htab hin hK hT hA hP hD hS hl
  obtain ⟨hx, hb, hml, hown, hts⟩ := id St
  have hl : lv_has ls 5 [(0, .ref x), (1, .int n1), (2, .int n2), (3, .ref oa)] := hl
  refine lv_aload_n hx hb dL_ahead_0 rfl (lv_at hl 3 rfl) ?_
  refine lv_iconst (v := 0) hx hb dL_ahead_1 (by decide) ?_
  refine lv_aload_n hx hb dL_ahead_2 rfl (lv_at hl 0 rfl) ?_
  refine lv_iload_n hx hb dL_ahead_3 rfl (lv_at hl 1 rfl) ?_
  refine lv_iload_n hx hb dL_ahead_4 rfl (lv_at hl 2 rfl) ?_
  refine xcallV (g := g) (q0 := 0) (ci := 9) (As := [.int n1, .int n2]) (rest := [.int 0, .ref oa]) St hK hT hA hP hD hS hl.1 [0, 1] [2] rfl rfl rfl (c_ahead l hfl g x ta o lo go tt lt mo fo ro fl9 o a tx ch jo tr dy sd f n1 n2 ) (cwV 2 hts (zgL (zl4 k1210 k1211 k1212 k595) k664) rfl rfl rfl (by decide +kernel) ⟨Nat.le_of_ble_eq_true rfl, Nat.le_of_ble_eq_true rfl⟩) rfl rfl rfl rfl (Nat.le_of_ble_eq_true rfl) dL_ahead_5 ⟨(Nat.le_of_ble_eq_true rfl), (Nat.le_of_ble_eq_true rfl)⟩ (fun E ce q9 u9 H locs hpx hP hD hS hce hcv hcl => ?_) (fun rr_1 H locs hq2 hP hD hS => ?_)
  · skip
    have hpx : (fun (E : String) (_ : Unit) => E = "java/lang/IndexOutOfBoundsException") E u9 := hpx
    have hP : va_P g.1 vwCl (List.flatten [[(oa, .inl (g.2 2, 1, .inr (.inl fz)))]]) H := hP
    have hD : va_D A (List.flatten [[(oa, .inl (g.2 2, 1, .inr (.inl fz)))]]) := hD
    obtain rfl := hpx
    refine vx_catch hown [] ⟨0, 10, 13, 24⟩ [⟨0, 10, 17, 13⟩] (by rw [htab]; rfl) (fun z hz => absurd hz List.not_mem_nil) (by decide) (by decide) (hts _ k1163) ((hT.2.2.2.2.1 _ (List.mem_of_getElem? (i := 0) rfl)).use) hce hcv hcl ?_
    refine W.widen (k := 1) (n := 6) (Nat.le_of_ble_eq_true rfl) (Nat.le_of_ble_eq_true rfl) ?_
    refine lv_astore (lv' := [(4, .ref q9), (0, .ref x), (1, .int n1), (2, .int n2), (3, .ref oa)]) hx hb dL_ahead_13 hl (by decide) rfl (fun ls hl => ?_)
    refine lv_iconst (v := 1) hx hb dL_ahead_15 (by decide) ?_
    have hP : va_P g.1 vwCl (List.flatten [[(oa, .inl (g.2 2, 1, .inr (.inl fz)))]]) H := hP
    have hD : va_D A (List.flatten [[(oa, .inl (g.2 2, 1, .inr (.inl fz)))]]) := hD
    exact zret_i hx hb hr hlocks hS (Nat.le_of_ble_eq_true rfl) (Nat.le_of_ble_eq_true rfl) dL_ahead_16 (1, fz) rfl rfl hP hD
  · skip
    have hq2 : False := hq2
    exact hq2.elim
set_option maxRecDepth 100000 in
set_option maxHeartbeats 4000000 in
theorem l_then (l : Launch) (hfl : l.stackTraces = false) (g : zG) (x : Nat) (ta : Nat) (o : Nat) (lo : Nat) (go : Nat) (tt : Nat) (lt : Nat) (mo : Nat) (fo : Nat) (ro : Nat) (fl9 : Int32) (a : Nat → Nat) (tx : Int32) (ch : Int32) (jo : Int32) (tr : Int32) (dy : Int32) (sd : Int32) (f : Nat → Nat → Int32) (ac : Nat) (ls0 : Int32) (ll : Int32) (lm : Int32) (lg : Int32) (ld : Int32) (fc : Nat → Int32) (od : Nat) (ad : Nat → Nat) (ped : Int32) (wod : Int32) (txd : Int32) (chd : Int32) (jod : Int32) (trd : Int32) (dyd : Int32) (sdd : Int32) (fd : Nat → Nat → Int32) (n : Int32) (c9 : Int32) (oa : Nat) (fz : Nat → Int64) (hz : zZ (f 4)) : zX g l yL_then (Cond.codeWith yL_then cL_then 5 (some .int) [(0, 10, 13, 13)] :: zB) ({ frames := 8, cells := 1, slots := 6, locals := 135 } : Room) [.ref x, .int n, .int c9, .ref oa] [bDR g x ta o lo go tt lt mo fo ro fl9, bTown g o a 0 0 tx ch jo tr dy sd f, [(fo, .inr (0, [.ref o, .ref lo, .ref od]))], bLaw g lo ac ls0 ll lm lg ld fc, bTown g od ad ped wod txd chd jod trd dyd sdd fd, [(oa, .inl (g.2 2, 1, .inr (.inl fz)))]] (fun u : Int32 × (Nat → Int64) × Int32 => (fun (r : Int32) (fz2 : Nat → Int64) (q : Int32) => some (.int r)) (u.1) (u.2.1) (u.2.2)) (fun u : Int32 × (Nat → Int64) × Int32 => (fun (r : Int32) (fz2 : Nat → Int64) (q : Int32) => (r = 1 ∧ (n < 0 ∨ 100 < n)) ∨ (r = 0 ∧ ((¬ n < 0 ∧ ¬ 100 < n) ∧ q = if c9 = 0 then 0 else ch) ∧ fz2 0 = (q : Int32).toInt64)) (u.1) (u.2.1) (u.2.2)) (fun u : Int32 × (Nat → Int64) × Int32 => (fun (r : Int32) (fz2 : Nat → Int64) (q : Int32) => [[(oa, .inl (g.2 2, 1, .inr (.inl fz2)))]]) (u.1) (u.2.1) (u.2.2)) zNo zN0 := by
  refine zX.ofH (cc := cL_then) (maxL := 5) (rt := (some .int)) (by decide) rfl (Nat.le_of_ble_eq_true rfl) ?_
  intro p e s m args below meth c A ls St hr hlocks htab hin hK hT hA hP hD hS hl
  obtain ⟨hx, hb, hml, hown, hts⟩ := id St
  have hl : lv_has ls 5 [(0, .ref x), (1, .int n), (2, .int c9), (3, .ref oa)] := hl
  refine lv_aload_n hx hb dL_then_0 rfl (lv_at hl 3 rfl) ?_
  refine lv_iconst (v := 0) hx hb dL_then_1 (by decide) ?_
  refine lv_aload_n hx hb dL_then_2 rfl (lv_at hl 0 rfl) ?_
  refine lv_iload_n hx hb dL_then_3 rfl (lv_at hl 1 rfl) ?_
  refine lv_iload_n hx hb dL_then_4 rfl (lv_at hl 2 rfl) ?_
  refine xcallV (g := g) (q0 := 0) (ci := 9) (As := [.int n, .int c9]) (rest := [.int 0, .ref oa]) St hK hT hA hP hD hS hl.1 [0, 1, 2, 3, 4] [5] rfl rfl rfl (c_then l hfl g x ta o lo go tt lt mo fo ro fl9 a tx ch jo tr dy sd f ac ls0 ll lm lg ld fc od ad ped wod txd chd jod trd dyd sdd fd n c9 (by assumption)) (cwV 2 hts (zgL (zl4 k1214 k1215 k1216 k595) k665) rfl rfl rfl (by decide +kernel) ⟨Nat.le_of_ble_eq_true rfl, Nat.le_of_ble_eq_true rfl⟩) rfl rfl rfl rfl (Nat.le_of_ble_eq_true rfl) dL_then_5 ⟨(Nat.le_of_ble_eq_true rfl), (Nat.le_of_ble_eq_true rfl)⟩ (fun E ce q9 u9 H locs hpx hP hD hS hce hcv hcl => ?_) (fun q_1 H locs hq2 hP hD hS => ?_)
  · skip
    have hpx : (fun (E : String) (_ : Unit) => E = "java/lang/IllegalArgumentException" ∧ (n < 0 ∨ 100 < n)) E u9 := hpx
    have hP : va_P g.1 vwCl (List.flatten [[(oa, .inl (g.2 2, 1, .inr (.inl fz)))]]) H := hP
    have hD : va_D A (List.flatten [[(oa, .inl (g.2 2, 1, .inr (.inl fz)))]]) := hD
    obtain ⟨rfl, hpy⟩ := hpx
    refine vx_catch hown [] ⟨0, 10, 13, 13⟩ [] (by rw [htab]; rfl) (fun z hz => absurd hz List.not_mem_nil) (by decide) (by decide) (hts _ k1153) ((hT.2.2.2.2.1 _ (List.mem_of_getElem? (i := 1) rfl)).use) hce hcv hcl ?_
    refine W.widen (k := 1) (n := 6) (Nat.le_of_ble_eq_true rfl) (Nat.le_of_ble_eq_true rfl) ?_
    refine lv_astore (lv' := [(4, .ref q9), (0, .ref x), (1, .int n), (2, .int c9), (3, .ref oa)]) hx hb dL_then_13 hl (by decide) rfl (fun ls hl => ?_)
    refine lv_iconst (v := 1) hx hb dL_then_15 (by decide) ?_
    have hP : va_P g.1 vwCl (List.flatten [[(oa, .inl (g.2 2, 1, .inr (.inl fz)))]]) H := hP
    have hD : va_D A (List.flatten [[(oa, .inl (g.2 2, 1, .inr (.inl fz)))]]) := hD
    exact zret_i hx hb hr hlocks hS (Nat.le_of_ble_eq_true rfl) (Nat.le_of_ble_eq_true rfl) dL_then_16 (1, fz, 0) rfl (Or.inl ⟨rfl, hpy⟩) hP hD
  · skip
    have hq2 : (¬ n < 0 ∧ ¬ 100 < n) ∧ q_1 = if c9 = 0 then 0 else ch := hq2
    have hP : va_P g.1 vwCl (List.flatten [[(oa, .inl (g.2 2, 1, .inr (.inl fz)))]]) H := hP
    have hD : va_D A (List.flatten [[(oa, .inl (g.2 2, 1, .inr (.inl fz)))]]) := hD
    refine W.widen (k := 1) (n := 6) (Nat.le_of_ble_eq_true rfl) (Nat.le_of_ble_eq_true rfl) ?_
    refine W.eq (g2 := F0 m 8 ls [.int q_1, .int 0, .ref oa]) rfl ?_
    refine lv_i2l (v := (q_1 : Int32).toInt64) hx hb dL_then_8 rfl ?_
    refine va_last hx hb hK hP hD hS 0 2 rfl rfl (zin rfl) dL_then_9 (fun H locs hP hD hS => ?_)
    have hP : va_P g.1 vwCl (List.flatten [[(oa, .inl (g.2 2, 1, .inr (.inl (vp_updL fz 0 ((q_1 : Int32).toInt64)))))]]) H := hP
    have hD : va_D A (List.flatten [[(oa, .inl (g.2 2, 1, .inr (.inl (vp_updL fz 0 ((q_1 : Int32).toInt64)))))]]) := hD
    refine lv_goto (tgt := 17) hx hb dL_then_10 (by decide) ?_
    refine lv_iconst (v := 0) hx hb dL_then_17 (by decide) ?_
    have hP : va_P g.1 vwCl (List.flatten [[(oa, .inl (g.2 2, 1, .inr (.inl (vp_updL fz 0 ((q_1 : Int32).toInt64)))))]]) H := hP
    have hD : va_D A (List.flatten [[(oa, .inl (g.2 2, 1, .inr (.inl (vp_updL fz 0 ((q_1 : Int32).toInt64)))))]]) := hD
    exact zret_i hx hb hr hlocks hS (Nat.le_of_ble_eq_true rfl) (Nat.le_of_ble_eq_true rfl) dL_then_18 (0, vp_updL fz 0 ((q_1 : Int32).toInt64), q_1) rfl (Or.inr ⟨rfl, hq2, rfl⟩) hP hD
set_option maxRecDepth 100000 in
set_option maxHeartbeats 4000000 in
theorem l_sways (l : Launch) (hfl : l.stackTraces = false) (g : zG) (x : Nat) (ta : Nat) (o : Nat) (lo : Nat) (go : Nat) (tt : Nat) (lt : Nat) (mo : Nat) (fo : Nat) (ro : Nat) (fl9 : Int32) (o : Nat) (a : Nat → Nat) (tx : Int32) (ch : Int32) (jo : Int32) (tr : Int32) (dy : Int32) (sd : Int32) (f : Nat → Nat → Int32) (n1 : Int32) (n2 : Int32) (oa : Nat) (fz : Nat → Int64)  : zX g l yL_sways (Cond.codeWith yL_sways cL_sways 5 (some .int) [(0, 10, 13, 24), (0, 10, 17, 13)] :: zB) ({ frames := 8, cells := 1, slots := 6, locals := 125 } : Room) [.ref x, .int n1, .int n2, .ref oa] [bDR g x ta o lo go tt lt mo fo ro fl9, bTown g o a 0 0 tx ch jo tr dy sd f, [(oa, .inl (g.2 2, 1, .inr (.inl fz)))]] (fun u : Int32 × (Nat → Int64) => (fun (r : Int32) (fz2 : Nat → Int64) => some (.int r)) (u.1) (u.2)) (fun u : Int32 × (Nat → Int64) => (fun (r : Int32) (fz2 : Nat → Int64) => r = 1) (u.1) (u.2)) (fun u : Int32 × (Nat → Int64) => (fun (r : Int32) (fz2 : Nat → Int64) => [[(oa, .inl (g.2 2, 1, .inr (.inl fz2)))]]) (u.1) (u.2)) zNo zN0 := by
  refine zX.ofH (cc := cL_sways) (maxL := 5) (rt := (some .int)) (by decide) rfl (Nat.le_of_ble_eq_true rfl) ?_
  intro p e s m args below meth c A ls St hr hlocks htab hin hK hT hA hP hD hS hl
  obtain ⟨hx, hb, hml, hown, hts⟩ := id St
  have hl : lv_has ls 5 [(0, .ref x), (1, .int n1), (2, .int n2), (3, .ref oa)] := hl
  refine lv_aload_n hx hb dL_sways_0 rfl (lv_at hl 3 rfl) ?_
  refine lv_iconst (v := 0) hx hb dL_sways_1 (by decide) ?_
  refine lv_aload_n hx hb dL_sways_2 rfl (lv_at hl 0 rfl) ?_
  refine lv_iload_n hx hb dL_sways_3 rfl (lv_at hl 1 rfl) ?_
  refine lv_iload_n hx hb dL_sways_4 rfl (lv_at hl 2 rfl) ?_
  refine xcallV (g := g) (q0 := 0) (ci := 9) (As := [.int n1, .int n2]) (rest := [.int 0, .ref oa]) St hK hT hA hP hD hS hl.1 [0, 1] [2] rfl rfl rfl (c_sways l hfl g x ta o lo go tt lt mo fo ro fl9 o a tx ch jo tr dy sd f n1 n2 ) (cwV 2 hts (zgL (zl4 k1218 k1219 k1220 k595) k666) rfl rfl rfl (by decide +kernel) ⟨Nat.le_of_ble_eq_true rfl, Nat.le_of_ble_eq_true rfl⟩) rfl rfl rfl rfl (Nat.le_of_ble_eq_true rfl) dL_sways_5 ⟨(Nat.le_of_ble_eq_true rfl), (Nat.le_of_ble_eq_true rfl)⟩ (fun E ce q9 u9 H locs hpx hP hD hS hce hcv hcl => ?_) (fun rr_1 H locs hq2 hP hD hS => ?_)
  · skip
    have hpx : (fun (E : String) (_ : Unit) => E = "java/lang/IndexOutOfBoundsException") E u9 := hpx
    have hP : va_P g.1 vwCl (List.flatten [[(oa, .inl (g.2 2, 1, .inr (.inl fz)))]]) H := hP
    have hD : va_D A (List.flatten [[(oa, .inl (g.2 2, 1, .inr (.inl fz)))]]) := hD
    obtain rfl := hpx
    refine vx_catch hown [] ⟨0, 10, 13, 24⟩ [⟨0, 10, 17, 13⟩] (by rw [htab]; rfl) (fun z hz => absurd hz List.not_mem_nil) (by decide) (by decide) (hts _ k1163) ((hT.2.2.2.2.1 _ (List.mem_of_getElem? (i := 0) rfl)).use) hce hcv hcl ?_
    refine W.widen (k := 1) (n := 6) (Nat.le_of_ble_eq_true rfl) (Nat.le_of_ble_eq_true rfl) ?_
    refine lv_astore (lv' := [(4, .ref q9), (0, .ref x), (1, .int n1), (2, .int n2), (3, .ref oa)]) hx hb dL_sways_13 hl (by decide) rfl (fun ls hl => ?_)
    refine lv_iconst (v := 1) hx hb dL_sways_15 (by decide) ?_
    have hP : va_P g.1 vwCl (List.flatten [[(oa, .inl (g.2 2, 1, .inr (.inl fz)))]]) H := hP
    have hD : va_D A (List.flatten [[(oa, .inl (g.2 2, 1, .inr (.inl fz)))]]) := hD
    exact zret_i hx hb hr hlocks hS (Nat.le_of_ble_eq_true rfl) (Nat.le_of_ble_eq_true rfl) dL_sways_16 (1, fz) rfl rfl hP hD
  · skip
    have hq2 : False := hq2
    exact hq2.elim
set_option maxRecDepth 100000 in
set_option maxHeartbeats 4000000 in
theorem l_guru (l : Launch) (hfl : l.stackTraces = false) (g : zG) (x : Nat) (ta : Nat) (o : Nat) (lo : Nat) (go : Nat) (tt : Nat) (lt : Nat) (mo : Nat) (fo : Nat) (ro : Nat) (fl9 : Int32) (a : Nat → Nat) (tx : Int32) (ch : Int32) (jo : Int32) (tr : Int32) (dy : Int32) (sd : Int32) (f : Nat → Nat → Int32) (ac : Nat) (ls0 : Int32) (ll : Int32) (lm : Int32) (lg : Int32) (ld : Int32) (fc : Nat → Int32) (od : Nat) (ad : Nat → Nat) (ped : Int32) (wod : Int32) (txd : Int32) (chd : Int32) (jod : Int32) (trd : Int32) (dyd : Int32) (sdd : Int32) (fd : Nat → Nat → Int32) (n : Int32) (oa : Nat) (fz : Nat → Int64) (hz : zZ (f 4)) : zX g l yL_guru (Cond.codeWith yL_guru cL_guru 4 (some .int) [(0, 9, 12, 13)] :: zB) ({ frames := 8, cells := 1, slots := 6, locals := 126 } : Room) [.ref x, .int n, .ref oa] [bDR g x ta o lo go tt lt mo fo ro fl9, bTown g o a 0 0 tx ch jo tr dy sd f, [(fo, .inr (0, [.ref o, .ref lo, .ref od]))], bLaw g lo ac ls0 ll lm lg ld fc, bTown g od ad ped wod txd chd jod trd dyd sdd fd, [(oa, .inl (g.2 2, 1, .inr (.inl fz)))]] (fun u : Int32 × (Nat → Int64) => (fun (r : Int32) (fz2 : Nat → Int64) => some (.int r)) (u.1) (u.2)) (fun u : Int32 × (Nat → Int64) => (fun (r : Int32) (fz2 : Nat → Int64) => (r = 1 ∧ (n < 0 ∨ 30 < n)) ∨ (r = 0 ∧ (¬ n < 0 ∧ ¬ 30 < n) ∧ fz2 0 = ((-1) : Int32).toInt64)) (u.1) (u.2)) (fun u : Int32 × (Nat → Int64) => (fun (r : Int32) (fz2 : Nat → Int64) => [[(oa, .inl (g.2 2, 1, .inr (.inl fz2)))]]) (u.1) (u.2)) zNo zN0 := by
  refine zX.ofH (cc := cL_guru) (maxL := 4) (rt := (some .int)) (by decide) rfl (Nat.le_of_ble_eq_true rfl) ?_
  intro p e s m args below meth c A ls St hr hlocks htab hin hK hT hA hP hD hS hl
  obtain ⟨hx, hb, hml, hown, hts⟩ := id St
  have hl : lv_has ls 4 [(0, .ref x), (1, .int n), (2, .ref oa)] := hl
  refine lv_aload_n hx hb dL_guru_0 rfl (lv_at hl 2 rfl) ?_
  refine lv_iconst (v := 0) hx hb dL_guru_1 (by decide) ?_
  refine lv_aload_n hx hb dL_guru_2 rfl (lv_at hl 0 rfl) ?_
  refine lv_iload_n hx hb dL_guru_3 rfl (lv_at hl 1 rfl) ?_
  refine xcallV (g := g) (q0 := 0) (ci := 9) (As := [.int n]) (rest := [.int 0, .ref oa]) St hK hT hA hP hD hS hl.1 [0, 1, 2, 3, 4] [5] rfl rfl rfl (c_guru l hfl g x ta o lo go tt lt mo fo ro fl9 a tx ch jo tr dy sd f ac ls0 ll lm lg ld fc od ad ped wod txd chd jod trd dyd sdd fd n (by assumption)) (cwV 1 hts (zgL (zl4 k1222 k1223 k1224 k595) k670) rfl rfl rfl (by decide +kernel) ⟨Nat.le_of_ble_eq_true rfl, Nat.le_of_ble_eq_true rfl⟩) rfl rfl rfl rfl (Nat.le_of_ble_eq_true rfl) dL_guru_4 ⟨(Nat.le_of_ble_eq_true rfl), (Nat.le_of_ble_eq_true rfl)⟩ (fun E ce q9 u9 H locs hpx hP hD hS hce hcv hcl => ?_) (fun _u H locs hq1 hP hD hS => ?_)
  · skip
    have hpx : (fun (E : String) (_ : Unit) => E = "java/lang/IllegalArgumentException" ∧ (n < 0 ∨ 30 < n)) E u9 := hpx
    have hP : va_P g.1 vwCl (List.flatten [[(oa, .inl (g.2 2, 1, .inr (.inl fz)))]]) H := hP
    have hD : va_D A (List.flatten [[(oa, .inl (g.2 2, 1, .inr (.inl fz)))]]) := hD
    obtain ⟨rfl, hpy⟩ := hpx
    refine vx_catch hown [] ⟨0, 9, 12, 13⟩ [] (by rw [htab]; rfl) (fun z hz => absurd hz List.not_mem_nil) (by decide) (by decide) (hts _ k1153) ((hT.2.2.2.2.1 _ (List.mem_of_getElem? (i := 1) rfl)).use) hce hcv hcl ?_
    refine W.widen (k := 1) (n := 6) (Nat.le_of_ble_eq_true rfl) (Nat.le_of_ble_eq_true rfl) ?_
    refine lv_astore_n (lv' := [(3, .ref q9), (0, .ref x), (1, .int n), (2, .ref oa)]) hx hb dL_guru_12 rfl hl (by decide) rfl (fun ls hl => ?_)
    refine lv_iconst (v := 1) hx hb dL_guru_13 (by decide) ?_
    have hP : va_P g.1 vwCl (List.flatten [[(oa, .inl (g.2 2, 1, .inr (.inl fz)))]]) H := hP
    have hD : va_D A (List.flatten [[(oa, .inl (g.2 2, 1, .inr (.inl fz)))]]) := hD
    exact zret_i hx hb hr hlocks hS (Nat.le_of_ble_eq_true rfl) (Nat.le_of_ble_eq_true rfl) dL_guru_14 (1, fz) rfl (Or.inl ⟨rfl, hpy⟩) hP hD
  · skip
    have hq1 : ¬ n < 0 ∧ ¬ 30 < n := hq1
    have hP : va_P g.1 vwCl (List.flatten [[(oa, .inl (g.2 2, 1, .inr (.inl fz)))]]) H := hP
    have hD : va_D A (List.flatten [[(oa, .inl (g.2 2, 1, .inr (.inl fz)))]]) := hD
    refine W.widen (k := 1) (n := 6) (Nat.le_of_ble_eq_true rfl) (Nat.le_of_ble_eq_true rfl) ?_
    refine W.eq (g2 := F0 m 7 ls [.int (-1), .int 0, .ref oa]) rfl ?_
    refine lv_i2l (v := ((-1) : Int32).toInt64) hx hb dL_guru_7 rfl ?_
    refine ztopl (r := (-1)) (by decide) ?_
    refine va_last hx hb hK hP hD hS 0 2 rfl rfl (zin rfl) dL_guru_8 (fun H locs hP hD hS => ?_)
    have hP : va_P g.1 vwCl (List.flatten [[(oa, .inl (g.2 2, 1, .inr (.inl (vp_updL fz 0 (-1)))))]]) H := hP
    have hD : va_D A (List.flatten [[(oa, .inl (g.2 2, 1, .inr (.inl (vp_updL fz 0 (-1)))))]]) := hD
    refine lv_goto (tgt := 15) hx hb dL_guru_9 (by decide) ?_
    refine lv_iconst (v := 0) hx hb dL_guru_15 (by decide) ?_
    have hP : va_P g.1 vwCl (List.flatten [[(oa, .inl (g.2 2, 1, .inr (.inl (vp_updL fz 0 (-1)))))]]) H := hP
    have hD : va_D A (List.flatten [[(oa, .inl (g.2 2, 1, .inr (.inl (vp_updL fz 0 (-1)))))]]) := hD
    exact zret_i hx hb hr hlocks hS (Nat.le_of_ble_eq_true rfl) (Nat.le_of_ble_eq_true rfl) dL_guru_16 (0, vp_updL fz 0 (-1)) rfl (Or.inr ⟨rfl, hq1, rfl⟩) hP hD
set_option maxRecDepth 100000 in
set_option maxHeartbeats 4000000 in
theorem l_must (l : Launch) (hfl : l.stackTraces = false) (g : zG) (x : Nat) (ta : Nat) (o : Nat) (lo : Nat) (go : Nat) (tt : Nat) (lt : Nat) (mo : Nat) (fo : Nat) (ro : Nat) (fl9 : Int32) (a : Nat → Nat) (tx : Int32) (ch : Int32) (jo : Int32) (tr : Int32) (dy : Int32) (sd : Int32) (f : Nat → Nat → Int32) (ac : Nat) (ls0 : Int32) (ll : Int32) (lm : Int32) (lg : Int32) (ld : Int32) (fc : Nat → Int32) (od : Nat) (ad : Nat → Nat) (ped : Int32) (wod : Int32) (txd : Int32) (chd : Int32) (jod : Int32) (trd : Int32) (dyd : Int32) (sdd : Int32) (fd : Nat → Nat → Int32) (xx : Int32) (n : Int32) (oa : Nat) (fz : Nat → Int64) (hz : zZ (f 4)) : zX g l yL_must (Cond.codeWith yL_must cL_must 5 (some .int) [(0, 10, 13, 13)] :: zB) ({ frames := 8, cells := 2, slots := 12, locals := 159 } : Room) [.ref x, .int xx, .int n, .ref oa] [bDR g x ta o lo go tt lt mo fo ro fl9, bTown g o a 0 0 tx ch jo tr dy sd f, [(fo, .inr (0, [.ref o, .ref lo, .ref od]))], bLaw g lo ac ls0 ll lm lg ld fc, bTown g od ad ped wod txd chd jod trd dyd sdd fd, [(oa, .inl (g.2 2, 1, .inr (.inl fz)))]] (fun u : Int32 × (Nat → Int64) => (fun (r : Int32) (fz2 : Nat → Int64) => some (.int r)) (u.1) (u.2)) (fun u : Int32 × (Nat → Int64) => (fun (r : Int32) (fz2 : Nat → Int64) => (r = 1 ∧ ((xx < 1 ∨ 792 < xx) ∨ (n < 0 ∨ 30 < n))) ∨ (r = 0 ∧ ((¬ xx < 1 ∧ ¬ 792 < xx) ∧ (¬ n < 0 ∧ ¬ 30 < n)) ∧ fz2 0 = ((-1) : Int32).toInt64)) (u.1) (u.2)) (fun u : Int32 × (Nat → Int64) => (fun (r : Int32) (fz2 : Nat → Int64) => [[(oa, .inl (g.2 2, 1, .inr (.inl fz2)))]]) (u.1) (u.2)) zNo zN0 := by
  refine zX.ofH (cc := cL_must) (maxL := 5) (rt := (some .int)) (by decide) rfl (Nat.le_of_ble_eq_true rfl) ?_
  intro p e s m args below meth c A ls St hr hlocks htab hin hK hT hA hP hD hS hl
  obtain ⟨hx, hb, hml, hown, hts⟩ := id St
  have hl : lv_has ls 5 [(0, .ref x), (1, .int xx), (2, .int n), (3, .ref oa)] := hl
  refine lv_aload_n hx hb dL_must_0 rfl (lv_at hl 3 rfl) ?_
  refine lv_iconst (v := 0) hx hb dL_must_1 (by decide) ?_
  refine lv_aload_n hx hb dL_must_2 rfl (lv_at hl 0 rfl) ?_
  refine lv_iload_n hx hb dL_must_3 rfl (lv_at hl 1 rfl) ?_
  refine lv_iload_n hx hb dL_must_4 rfl (lv_at hl 2 rfl) ?_
  refine xcallV (g := g) (q0 := 0) (ci := 9) (As := [.int xx, .int n]) (rest := [.int 0, .ref oa]) St hK hT hA hP hD hS hl.1 [0, 1, 2, 3, 4] [5] rfl rfl rfl (c_must l hfl g x ta o lo go tt lt mo fo ro fl9 a tx ch jo tr dy sd f ac ls0 ll lm lg ld fc od ad ped wod txd chd jod trd dyd sdd fd xx n (by assumption)) (cwV 2 hts (zgL (zl4 k1226 k1227 k1228 k595) k674) rfl rfl rfl (by decide +kernel) ⟨Nat.le_of_ble_eq_true rfl, Nat.le_of_ble_eq_true rfl⟩) rfl rfl rfl rfl (Nat.le_of_ble_eq_true rfl) dL_must_5 ⟨(Nat.le_of_ble_eq_true rfl), (Nat.le_of_ble_eq_true rfl)⟩ (fun E ce q9 u9 H locs hpx hP hD hS hce hcv hcl => ?_) (fun _u H locs hq1 hP hD hS => ?_)
  · skip
    have hpx : (fun (E : String) (_ : Unit) => E = "java/lang/IllegalArgumentException" ∧ ((xx < 1 ∨ 792 < xx) ∨ (n < 0 ∨ 30 < n))) E u9 := hpx
    have hP : va_P g.1 vwCl (List.flatten [[(oa, .inl (g.2 2, 1, .inr (.inl fz)))]]) H := hP
    have hD : va_D A (List.flatten [[(oa, .inl (g.2 2, 1, .inr (.inl fz)))]]) := hD
    obtain ⟨rfl, hpy⟩ := hpx
    refine vx_catch hown [] ⟨0, 10, 13, 13⟩ [] (by rw [htab]; rfl) (fun z hz => absurd hz List.not_mem_nil) (by decide) (by decide) (hts _ k1153) ((hT.2.2.2.2.1 _ (List.mem_of_getElem? (i := 1) rfl)).use) hce hcv hcl ?_
    refine W.widen (k := 2) (n := 12) (Nat.le_of_ble_eq_true rfl) (Nat.le_of_ble_eq_true rfl) ?_
    refine lv_astore (lv' := [(4, .ref q9), (0, .ref x), (1, .int xx), (2, .int n), (3, .ref oa)]) hx hb dL_must_13 hl (by decide) rfl (fun ls hl => ?_)
    refine lv_iconst (v := 1) hx hb dL_must_15 (by decide) ?_
    have hP : va_P g.1 vwCl (List.flatten [[(oa, .inl (g.2 2, 1, .inr (.inl fz)))]]) H := hP
    have hD : va_D A (List.flatten [[(oa, .inl (g.2 2, 1, .inr (.inl fz)))]]) := hD
    exact zret_i hx hb hr hlocks hS (Nat.le_of_ble_eq_true rfl) (Nat.le_of_ble_eq_true rfl) dL_must_16 (1, fz) rfl (Or.inl ⟨rfl, hpy⟩) hP hD
  · skip
    have hq1 : (¬ xx < 1 ∧ ¬ 792 < xx) ∧ (¬ n < 0 ∧ ¬ 30 < n) := hq1
    have hP : va_P g.1 vwCl (List.flatten [[(oa, .inl (g.2 2, 1, .inr (.inl fz)))]]) H := hP
    have hD : va_D A (List.flatten [[(oa, .inl (g.2 2, 1, .inr (.inl fz)))]]) := hD
    refine W.widen (k := 2) (n := 12) (Nat.le_of_ble_eq_true rfl) (Nat.le_of_ble_eq_true rfl) ?_
    refine W.eq (g2 := F0 m 8 ls [.int (-1), .int 0, .ref oa]) rfl ?_
    refine lv_i2l (v := ((-1) : Int32).toInt64) hx hb dL_must_8 rfl ?_
    refine ztopl (r := (-1)) (by decide) ?_
    refine va_last hx hb hK hP hD hS 0 2 rfl rfl (zin rfl) dL_must_9 (fun H locs hP hD hS => ?_)
    have hP : va_P g.1 vwCl (List.flatten [[(oa, .inl (g.2 2, 1, .inr (.inl (vp_updL fz 0 (-1)))))]]) H := hP
    have hD : va_D A (List.flatten [[(oa, .inl (g.2 2, 1, .inr (.inl (vp_updL fz 0 (-1)))))]]) := hD
    refine lv_goto (tgt := 17) hx hb dL_must_10 (by decide) ?_
    refine lv_iconst (v := 0) hx hb dL_must_17 (by decide) ?_
    have hP : va_P g.1 vwCl (List.flatten [[(oa, .inl (g.2 2, 1, .inr (.inl (vp_updL fz 0 (-1)))))]]) H := hP
    have hD : va_D A (List.flatten [[(oa, .inl (g.2 2, 1, .inr (.inl (vp_updL fz 0 (-1)))))]]) := hD
    exact zret_i hx hb hr hlocks hS (Nat.le_of_ble_eq_true rfl) (Nat.le_of_ble_eq_true rfl) dL_must_18 (0, vp_updL fz 0 (-1)) rfl (Or.inr ⟨rfl, hq1, rfl⟩) hP hD
set_option maxRecDepth 100000 in
set_option maxHeartbeats 4000000 in
theorem l_reaches (l : Launch) (hfl : l.stackTraces = false) (g : zG) (x : Nat) (ta : Nat) (o : Nat) (lo : Nat) (go : Nat) (tt : Nat) (lt : Nat) (mo : Nat) (fo : Nat) (ro : Nat) (fl9 : Int32) (a : Nat → Nat) (tx : Int32) (ch : Int32) (jo : Int32) (tr : Int32) (dy : Int32) (sd : Int32) (f : Nat → Nat → Int32) (ac : Nat) (ls0 : Int32) (ll : Int32) (lm : Int32) (lg : Int32) (ld : Int32) (fc : Nat → Int32) (od : Nat) (ad : Nat → Nat) (ped : Int32) (wod : Int32) (txd : Int32) (chd : Int32) (jod : Int32) (trd : Int32) (dyd : Int32) (sdd : Int32) (fd : Nat → Nat → Int32) (xx : Int32) (oa : Nat) (fz : Nat → Int64) (hz : zZ (f 4)) : zX g l yL_reaches (Cond.codeWith yL_reaches cL_reaches 4 (some .int) [(0, 9, 12, 13)] :: zB) ({ frames := 8, cells := 1, slots := 6, locals := 131 } : Room) [.ref x, .int xx, .ref oa] [bDR g x ta o lo go tt lt mo fo ro fl9, bTown g o a 0 0 tx ch jo tr dy sd f, [(fo, .inr (0, [.ref o, .ref lo, .ref od]))], bLaw g lo ac ls0 ll lm lg ld fc, bTown g od ad ped wod txd chd jod trd dyd sdd fd, [(oa, .inl (g.2 2, 1, .inr (.inl fz)))]] (fun u : Int32 × (Nat → Int64) => (fun (r : Int32) (fz2 : Nat → Int64) => some (.int r)) (u.1) (u.2)) (fun u : Int32 × (Nat → Int64) => (fun (r : Int32) (fz2 : Nat → Int64) => (r = 1 ∧ (xx < 1 ∨ 792 < xx)) ∨ (r = 0 ∧ (¬ xx < 1 ∧ ¬ 792 < xx) ∧ fz2 0 = ((-1) : Int32).toInt64)) (u.1) (u.2)) (fun u : Int32 × (Nat → Int64) => (fun (r : Int32) (fz2 : Nat → Int64) => [[(oa, .inl (g.2 2, 1, .inr (.inl fz2)))]]) (u.1) (u.2)) zNo zN0 := by
  refine zX.ofH (cc := cL_reaches) (maxL := 4) (rt := (some .int)) (by decide) rfl (Nat.le_of_ble_eq_true rfl) ?_
  intro p e s m args below meth c A ls St hr hlocks htab hin hK hT hA hP hD hS hl
  obtain ⟨hx, hb, hml, hown, hts⟩ := id St
  have hl : lv_has ls 4 [(0, .ref x), (1, .int xx), (2, .ref oa)] := hl
  refine lv_aload_n hx hb dL_reaches_0 rfl (lv_at hl 2 rfl) ?_
  refine lv_iconst (v := 0) hx hb dL_reaches_1 (by decide) ?_
  refine lv_aload_n hx hb dL_reaches_2 rfl (lv_at hl 0 rfl) ?_
  refine lv_iload_n hx hb dL_reaches_3 rfl (lv_at hl 1 rfl) ?_
  refine xcallV (g := g) (q0 := 0) (ci := 9) (As := [.int xx]) (rest := [.int 0, .ref oa]) St hK hT hA hP hD hS hl.1 [0, 1, 2, 3, 4] [5] rfl rfl rfl (c_reaches l hfl g x ta o lo go tt lt mo fo ro fl9 a tx ch jo tr dy sd f ac ls0 ll lm lg ld fc od ad ped wod txd chd jod trd dyd sdd fd xx (by assumption)) (cwV 1 hts (zgL (zl4 k1230 k1231 k1232 k595) k678) rfl rfl rfl (by decide +kernel) ⟨Nat.le_of_ble_eq_true rfl, Nat.le_of_ble_eq_true rfl⟩) rfl rfl rfl rfl (Nat.le_of_ble_eq_true rfl) dL_reaches_4 ⟨(Nat.le_of_ble_eq_true rfl), (Nat.le_of_ble_eq_true rfl)⟩ (fun E ce q9 u9 H locs hpx hP hD hS hce hcv hcl => ?_) (fun _u H locs hq1 hP hD hS => ?_)
  · skip
    have hpx : (fun (E : String) (_ : Unit) => E = "java/lang/IllegalArgumentException" ∧ (xx < 1 ∨ 792 < xx)) E u9 := hpx
    have hP : va_P g.1 vwCl (List.flatten [[(oa, .inl (g.2 2, 1, .inr (.inl fz)))]]) H := hP
    have hD : va_D A (List.flatten [[(oa, .inl (g.2 2, 1, .inr (.inl fz)))]]) := hD
    obtain ⟨rfl, hpy⟩ := hpx
    refine vx_catch hown [] ⟨0, 9, 12, 13⟩ [] (by rw [htab]; rfl) (fun z hz => absurd hz List.not_mem_nil) (by decide) (by decide) (hts _ k1153) ((hT.2.2.2.2.1 _ (List.mem_of_getElem? (i := 1) rfl)).use) hce hcv hcl ?_
    refine W.widen (k := 1) (n := 6) (Nat.le_of_ble_eq_true rfl) (Nat.le_of_ble_eq_true rfl) ?_
    refine lv_astore_n (lv' := [(3, .ref q9), (0, .ref x), (1, .int xx), (2, .ref oa)]) hx hb dL_reaches_12 rfl hl (by decide) rfl (fun ls hl => ?_)
    refine lv_iconst (v := 1) hx hb dL_reaches_13 (by decide) ?_
    have hP : va_P g.1 vwCl (List.flatten [[(oa, .inl (g.2 2, 1, .inr (.inl fz)))]]) H := hP
    have hD : va_D A (List.flatten [[(oa, .inl (g.2 2, 1, .inr (.inl fz)))]]) := hD
    exact zret_i hx hb hr hlocks hS (Nat.le_of_ble_eq_true rfl) (Nat.le_of_ble_eq_true rfl) dL_reaches_14 (1, fz) rfl (Or.inl ⟨rfl, hpy⟩) hP hD
  · skip
    have hq1 : ¬ xx < 1 ∧ ¬ 792 < xx := hq1
    have hP : va_P g.1 vwCl (List.flatten [[(oa, .inl (g.2 2, 1, .inr (.inl fz)))]]) H := hP
    have hD : va_D A (List.flatten [[(oa, .inl (g.2 2, 1, .inr (.inl fz)))]]) := hD
    refine W.widen (k := 1) (n := 6) (Nat.le_of_ble_eq_true rfl) (Nat.le_of_ble_eq_true rfl) ?_
    refine W.eq (g2 := F0 m 7 ls [.int (-1), .int 0, .ref oa]) rfl ?_
    refine lv_i2l (v := ((-1) : Int32).toInt64) hx hb dL_reaches_7 rfl ?_
    refine ztopl (r := (-1)) (by decide) ?_
    refine va_last hx hb hK hP hD hS 0 2 rfl rfl (zin rfl) dL_reaches_8 (fun H locs hP hD hS => ?_)
    have hP : va_P g.1 vwCl (List.flatten [[(oa, .inl (g.2 2, 1, .inr (.inl (vp_updL fz 0 (-1)))))]]) H := hP
    have hD : va_D A (List.flatten [[(oa, .inl (g.2 2, 1, .inr (.inl (vp_updL fz 0 (-1)))))]]) := hD
    refine lv_goto (tgt := 15) hx hb dL_reaches_9 (by decide) ?_
    refine lv_iconst (v := 0) hx hb dL_reaches_15 (by decide) ?_
    have hP : va_P g.1 vwCl (List.flatten [[(oa, .inl (g.2 2, 1, .inr (.inl (vp_updL fz 0 (-1)))))]]) H := hP
    have hD : va_D A (List.flatten [[(oa, .inl (g.2 2, 1, .inr (.inl (vp_updL fz 0 (-1)))))]]) := hD
    exact zret_i hx hb hr hlocks hS (Nat.le_of_ble_eq_true rfl) (Nat.le_of_ble_eq_true rfl) dL_reaches_16 (0, vp_updL fz 0 (-1)) rfl (Or.inr ⟨rfl, hq1, rfl⟩) hP hD
set_option maxRecDepth 100000 in
set_option maxHeartbeats 4000000 in
theorem l_dearest (l : Launch) (hfl : l.stackTraces = false) (g : zG) (x : Nat) (ta : Nat) (o : Nat) (lo : Nat) (go : Nat) (tt : Nat) (lt : Nat) (mo : Nat) (fo : Nat) (ro : Nat) (fl9 : Int32) (a : Nat → Nat) (tx : Int32) (ch : Int32) (jo : Int32) (tr : Int32) (dy : Int32) (sd : Int32) (f : Nat → Nat → Int32) (ac : Nat) (ls0 : Int32) (ll : Int32) (lm : Int32) (lg : Int32) (ld : Int32) (fc : Nat → Int32) (od : Nat) (ad : Nat → Nat) (ped : Int32) (wod : Int32) (txd : Int32) (chd : Int32) (jod : Int32) (trd : Int32) (dyd : Int32) (sdd : Int32) (fd : Nat → Nat → Int32) (n : Int32) (mu : Int32) (oa : Nat) (fz : Nat → Int64) (hz : zZ (f 4)) : zX g l yL_dearest (Cond.codeWith yL_dearest cL_dearest 5 (some .int) [(0, 10, 13, 13)] :: zB) ({ frames := 8, cells := 1, slots := 6, locals := 135 } : Room) [.ref x, .int n, .int mu, .ref oa] [bDR g x ta o lo go tt lt mo fo ro fl9, bTown g o a 0 0 tx ch jo tr dy sd f, [(fo, .inr (0, [.ref o, .ref lo, .ref od]))], bLaw g lo ac ls0 ll lm lg ld fc, bTown g od ad ped wod txd chd jod trd dyd sdd fd, [(oa, .inl (g.2 2, 1, .inr (.inl fz)))]] (fun u : Int32 × (Nat → Int64) × Int32 => (fun (r : Int32) (fz2 : Nat → Int64) (q : Int32) => some (.int r)) (u.1) (u.2.1) (u.2.2)) (fun u : Int32 × (Nat → Int64) × Int32 => (fun (r : Int32) (fz2 : Nat → Int64) (q : Int32) => (r = 1 ∧ (n < 0 ∨ 100 < n)) ∨ (r = 0 ∧ ((¬ n < 0 ∧ ¬ 100 < n) ∧ q = if mu = 0 then 0 else 1) ∧ fz2 0 = (q : Int32).toInt64)) (u.1) (u.2.1) (u.2.2)) (fun u : Int32 × (Nat → Int64) × Int32 => (fun (r : Int32) (fz2 : Nat → Int64) (q : Int32) => [[(oa, .inl (g.2 2, 1, .inr (.inl fz2)))]]) (u.1) (u.2.1) (u.2.2)) zNo zN0 := by
  refine zX.ofH (cc := cL_dearest) (maxL := 5) (rt := (some .int)) (by decide) rfl (Nat.le_of_ble_eq_true rfl) ?_
  intro p e s m args below meth c A ls St hr hlocks htab hin hK hT hA hP hD hS hl
  obtain ⟨hx, hb, hml, hown, hts⟩ := id St
  have hl : lv_has ls 5 [(0, .ref x), (1, .int n), (2, .int mu), (3, .ref oa)] := hl
  refine lv_aload_n hx hb dL_dearest_0 rfl (lv_at hl 3 rfl) ?_
  refine lv_iconst (v := 0) hx hb dL_dearest_1 (by decide) ?_
  refine lv_aload_n hx hb dL_dearest_2 rfl (lv_at hl 0 rfl) ?_
  refine lv_iload_n hx hb dL_dearest_3 rfl (lv_at hl 1 rfl) ?_
  refine lv_iload_n hx hb dL_dearest_4 rfl (lv_at hl 2 rfl) ?_
  refine xcallV (g := g) (q0 := 0) (ci := 9) (As := [.int n, .int mu]) (rest := [.int 0, .ref oa]) St hK hT hA hP hD hS hl.1 [0, 1, 2, 3, 4] [5] rfl rfl rfl (c_dearest l hfl g x ta o lo go tt lt mo fo ro fl9 a tx ch jo tr dy sd f ac ls0 ll lm lg ld fc od ad ped wod txd chd jod trd dyd sdd fd n mu (by assumption)) (cwV 2 hts (zgL (zl4 k1234 k1235 k1236 k595) k688) rfl rfl rfl (by decide +kernel) ⟨Nat.le_of_ble_eq_true rfl, Nat.le_of_ble_eq_true rfl⟩) rfl rfl rfl rfl (Nat.le_of_ble_eq_true rfl) dL_dearest_5 ⟨(Nat.le_of_ble_eq_true rfl), (Nat.le_of_ble_eq_true rfl)⟩ (fun E ce q9 u9 H locs hpx hP hD hS hce hcv hcl => ?_) (fun q_1 H locs hq2 hP hD hS => ?_)
  · skip
    have hpx : (fun (E : String) (_ : Unit) => E = "java/lang/IllegalArgumentException" ∧ (n < 0 ∨ 100 < n)) E u9 := hpx
    have hP : va_P g.1 vwCl (List.flatten [[(oa, .inl (g.2 2, 1, .inr (.inl fz)))]]) H := hP
    have hD : va_D A (List.flatten [[(oa, .inl (g.2 2, 1, .inr (.inl fz)))]]) := hD
    obtain ⟨rfl, hpy⟩ := hpx
    refine vx_catch hown [] ⟨0, 10, 13, 13⟩ [] (by rw [htab]; rfl) (fun z hz => absurd hz List.not_mem_nil) (by decide) (by decide) (hts _ k1153) ((hT.2.2.2.2.1 _ (List.mem_of_getElem? (i := 1) rfl)).use) hce hcv hcl ?_
    refine W.widen (k := 1) (n := 6) (Nat.le_of_ble_eq_true rfl) (Nat.le_of_ble_eq_true rfl) ?_
    refine lv_astore (lv' := [(4, .ref q9), (0, .ref x), (1, .int n), (2, .int mu), (3, .ref oa)]) hx hb dL_dearest_13 hl (by decide) rfl (fun ls hl => ?_)
    refine lv_iconst (v := 1) hx hb dL_dearest_15 (by decide) ?_
    have hP : va_P g.1 vwCl (List.flatten [[(oa, .inl (g.2 2, 1, .inr (.inl fz)))]]) H := hP
    have hD : va_D A (List.flatten [[(oa, .inl (g.2 2, 1, .inr (.inl fz)))]]) := hD
    exact zret_i hx hb hr hlocks hS (Nat.le_of_ble_eq_true rfl) (Nat.le_of_ble_eq_true rfl) dL_dearest_16 (1, fz, 0) rfl (Or.inl ⟨rfl, hpy⟩) hP hD
  · skip
    have hq2 : (¬ n < 0 ∧ ¬ 100 < n) ∧ q_1 = if mu = 0 then 0 else 1 := hq2
    have hP : va_P g.1 vwCl (List.flatten [[(oa, .inl (g.2 2, 1, .inr (.inl fz)))]]) H := hP
    have hD : va_D A (List.flatten [[(oa, .inl (g.2 2, 1, .inr (.inl fz)))]]) := hD
    refine W.widen (k := 1) (n := 6) (Nat.le_of_ble_eq_true rfl) (Nat.le_of_ble_eq_true rfl) ?_
    refine W.eq (g2 := F0 m 8 ls [.int q_1, .int 0, .ref oa]) rfl ?_
    refine lv_i2l (v := (q_1 : Int32).toInt64) hx hb dL_dearest_8 rfl ?_
    refine va_last hx hb hK hP hD hS 0 2 rfl rfl (zin rfl) dL_dearest_9 (fun H locs hP hD hS => ?_)
    have hP : va_P g.1 vwCl (List.flatten [[(oa, .inl (g.2 2, 1, .inr (.inl (vp_updL fz 0 ((q_1 : Int32).toInt64)))))]]) H := hP
    have hD : va_D A (List.flatten [[(oa, .inl (g.2 2, 1, .inr (.inl (vp_updL fz 0 ((q_1 : Int32).toInt64)))))]]) := hD
    refine lv_goto (tgt := 17) hx hb dL_dearest_10 (by decide) ?_
    refine lv_iconst (v := 0) hx hb dL_dearest_17 (by decide) ?_
    have hP : va_P g.1 vwCl (List.flatten [[(oa, .inl (g.2 2, 1, .inr (.inl (vp_updL fz 0 ((q_1 : Int32).toInt64)))))]]) H := hP
    have hD : va_D A (List.flatten [[(oa, .inl (g.2 2, 1, .inr (.inl (vp_updL fz 0 ((q_1 : Int32).toInt64)))))]]) := hD
    exact zret_i hx hb hr hlocks hS (Nat.le_of_ble_eq_true rfl) (Nat.le_of_ble_eq_true rfl) dL_dearest_18 (0, vp_updL fz 0 ((q_1 : Int32).toInt64), q_1) rfl (Or.inr ⟨rfl, hq2, rfl⟩) hP hD
set_option maxRecDepth 100000 in
set_option maxHeartbeats 4000000 in
theorem l_falls (l : Launch) (hfl : l.stackTraces = false) (g : zG) (x : Nat) (ta : Nat) (o : Nat) (lo : Nat) (go : Nat) (tt : Nat) (lt : Nat) (mo : Nat) (fo : Nat) (ro : Nat) (fl9 : Int32) (a : Nat → Nat) (tx : Int32) (ch : Int32) (jo : Int32) (tr : Int32) (dy : Int32) (sd : Int32) (f : Nat → Nat → Int32) (ac : Nat) (ls0 : Int32) (ll : Int32) (lm : Int32) (lg : Int32) (ld : Int32) (fc : Nat → Int32) (od : Nat) (ad : Nat → Nat) (ped : Int32) (wod : Int32) (txd : Int32) (chd : Int32) (jod : Int32) (trd : Int32) (dyd : Int32) (sdd : Int32) (fd : Nat → Nat → Int32) (n : Int32) (oa : Nat) (fz : Nat → Int64) (hz : zZ (f 4)) : zX g l yL_falls (Cond.codeWith yL_falls cL_falls 4 (some .int) [(0, 9, 12, 13)] :: zB) ({ frames := 8, cells := 1, slots := 6, locals := 133 } : Room) [.ref x, .int n, .ref oa] [bDR g x ta o lo go tt lt mo fo ro fl9, bTown g o a 0 0 tx ch jo tr dy sd f, [(fo, .inr (0, [.ref o, .ref lo, .ref od]))], bLaw g lo ac ls0 ll lm lg ld fc, bTown g od ad ped wod txd chd jod trd dyd sdd fd, [(oa, .inl (g.2 2, 1, .inr (.inl fz)))]] (fun u : Int32 × (Nat → Int64) => (fun (r : Int32) (fz2 : Nat → Int64) => some (.int r)) (u.1) (u.2)) (fun u : Int32 × (Nat → Int64) => (fun (r : Int32) (fz2 : Nat → Int64) => (r = 1 ∧ (n < 0 ∨ 100 < n)) ∨ (r = 0 ∧ (¬ n < 0 ∧ ¬ 100 < n) ∧ fz2 0 = (0 : Int32).toInt64)) (u.1) (u.2)) (fun u : Int32 × (Nat → Int64) => (fun (r : Int32) (fz2 : Nat → Int64) => [[(oa, .inl (g.2 2, 1, .inr (.inl fz2)))]]) (u.1) (u.2)) zNo zN0 := by
  refine zX.ofH (cc := cL_falls) (maxL := 4) (rt := (some .int)) (by decide) rfl (Nat.le_of_ble_eq_true rfl) ?_
  intro p e s m args below meth c A ls St hr hlocks htab hin hK hT hA hP hD hS hl
  obtain ⟨hx, hb, hml, hown, hts⟩ := id St
  have hl : lv_has ls 4 [(0, .ref x), (1, .int n), (2, .ref oa)] := hl
  refine lv_aload_n hx hb dL_falls_0 rfl (lv_at hl 2 rfl) ?_
  refine lv_iconst (v := 0) hx hb dL_falls_1 (by decide) ?_
  refine lv_aload_n hx hb dL_falls_2 rfl (lv_at hl 0 rfl) ?_
  refine lv_iload_n hx hb dL_falls_3 rfl (lv_at hl 1 rfl) ?_
  refine xcallV (g := g) (q0 := 0) (ci := 9) (As := [.int n]) (rest := [.int 0, .ref oa]) St hK hT hA hP hD hS hl.1 [0, 1, 2, 3, 4] [5] rfl rfl rfl (c_falls l hfl g x ta o lo go tt lt mo fo ro fl9 a tx ch jo tr dy sd f ac ls0 ll lm lg ld fc od ad ped wod txd chd jod trd dyd sdd fd n (by assumption)) (cwV 1 hts (zgL (zl4 k1238 k1239 k1240 k595) k690) rfl rfl rfl (by decide +kernel) ⟨Nat.le_of_ble_eq_true rfl, Nat.le_of_ble_eq_true rfl⟩) rfl rfl rfl rfl (Nat.le_of_ble_eq_true rfl) dL_falls_4 ⟨(Nat.le_of_ble_eq_true rfl), (Nat.le_of_ble_eq_true rfl)⟩ (fun E ce q9 u9 H locs hpx hP hD hS hce hcv hcl => ?_) (fun _u H locs hq1 hP hD hS => ?_)
  · skip
    have hpx : (fun (E : String) (_ : Unit) => E = "java/lang/IllegalArgumentException" ∧ (n < 0 ∨ 100 < n)) E u9 := hpx
    have hP : va_P g.1 vwCl (List.flatten [[(oa, .inl (g.2 2, 1, .inr (.inl fz)))]]) H := hP
    have hD : va_D A (List.flatten [[(oa, .inl (g.2 2, 1, .inr (.inl fz)))]]) := hD
    obtain ⟨rfl, hpy⟩ := hpx
    refine vx_catch hown [] ⟨0, 9, 12, 13⟩ [] (by rw [htab]; rfl) (fun z hz => absurd hz List.not_mem_nil) (by decide) (by decide) (hts _ k1153) ((hT.2.2.2.2.1 _ (List.mem_of_getElem? (i := 1) rfl)).use) hce hcv hcl ?_
    refine W.widen (k := 1) (n := 6) (Nat.le_of_ble_eq_true rfl) (Nat.le_of_ble_eq_true rfl) ?_
    refine lv_astore_n (lv' := [(3, .ref q9), (0, .ref x), (1, .int n), (2, .ref oa)]) hx hb dL_falls_12 rfl hl (by decide) rfl (fun ls hl => ?_)
    refine lv_iconst (v := 1) hx hb dL_falls_13 (by decide) ?_
    have hP : va_P g.1 vwCl (List.flatten [[(oa, .inl (g.2 2, 1, .inr (.inl fz)))]]) H := hP
    have hD : va_D A (List.flatten [[(oa, .inl (g.2 2, 1, .inr (.inl fz)))]]) := hD
    exact zret_i hx hb hr hlocks hS (Nat.le_of_ble_eq_true rfl) (Nat.le_of_ble_eq_true rfl) dL_falls_14 (1, fz) rfl (Or.inl ⟨rfl, hpy⟩) hP hD
  · skip
    have hq1 : ¬ n < 0 ∧ ¬ 100 < n := hq1
    have hP : va_P g.1 vwCl (List.flatten [[(oa, .inl (g.2 2, 1, .inr (.inl fz)))]]) H := hP
    have hD : va_D A (List.flatten [[(oa, .inl (g.2 2, 1, .inr (.inl fz)))]]) := hD
    refine W.widen (k := 1) (n := 6) (Nat.le_of_ble_eq_true rfl) (Nat.le_of_ble_eq_true rfl) ?_
    refine W.eq (g2 := F0 m 7 ls [.int 0, .int 0, .ref oa]) rfl ?_
    refine lv_i2l (v := (0 : Int32).toInt64) hx hb dL_falls_7 rfl ?_
    refine ztopl (r := 0) (by decide) ?_
    refine va_last hx hb hK hP hD hS 0 2 rfl rfl (zin rfl) dL_falls_8 (fun H locs hP hD hS => ?_)
    have hP : va_P g.1 vwCl (List.flatten [[(oa, .inl (g.2 2, 1, .inr (.inl (vp_updL fz 0 0))))]]) H := hP
    have hD : va_D A (List.flatten [[(oa, .inl (g.2 2, 1, .inr (.inl (vp_updL fz 0 0))))]]) := hD
    refine lv_goto (tgt := 15) hx hb dL_falls_9 (by decide) ?_
    refine lv_iconst (v := 0) hx hb dL_falls_15 (by decide) ?_
    have hP : va_P g.1 vwCl (List.flatten [[(oa, .inl (g.2 2, 1, .inr (.inl (vp_updL fz 0 0))))]]) H := hP
    have hD : va_D A (List.flatten [[(oa, .inl (g.2 2, 1, .inr (.inl (vp_updL fz 0 0))))]]) := hD
    exact zret_i hx hb hr hlocks hS (Nat.le_of_ble_eq_true rfl) (Nat.le_of_ble_eq_true rfl) dL_falls_16 (0, vp_updL fz 0 0) rfl (Or.inr ⟨rfl, hq1, rfl⟩) hP hD
set_option maxRecDepth 100000 in
set_option maxHeartbeats 4000000 in
theorem l_river (l : Launch) (hfl : l.stackTraces = false) (g : zG) (x : Nat) (ta : Nat) (o : Nat) (lo : Nat) (go : Nat) (tt : Nat) (lt : Nat) (mo : Nat) (fo : Nat) (ro : Nat) (fl9 : Int32) (ab : Nat) (len : Int32) (knd : Int32) (beg : Int32) (nxt : Int32) (flt : Int32) (fb : Nat → Int32) (r : Int32) (oa : Nat) (fz : Nat → Int64)  : zX g l yL_river (Cond.codeWith yL_river cL_river 4 (some .int) [(0, 9, 12, 13)] :: zB) ({ frames := 9, cells := 2, slots := 12, locals := 149 } : Room) [.ref x, .int r, .ref oa] [bDR g x ta o lo go tt lt mo fo ro fl9, bTape g ta ab 0 len knd beg nxt flt fb, [(oa, .inl (g.2 2, 1, .inr (.inl fz)))]] (fun u : Int32 × (Nat → Int64) × Int32 => (fun (rr0 : Int32) (fz2 : Nat → Int64) (q : Int32) => some (.int rr0)) (u.1) (u.2.1) (u.2.2)) (fun u : Int32 × (Nat → Int64) × Int32 => (fun (rr0 : Int32) (fz2 : Nat → Int64) (q : Int32) => (rr0 = 1 ∧ (r < 0 ∨ 100 < r)) ∨ (rr0 = 0 ∧ ((¬ r < 0 ∧ ¬ 100 < r) ∧ q = zod r 0) ∧ fz2 0 = (q : Int32).toInt64)) (u.1) (u.2.1) (u.2.2)) (fun u : Int32 × (Nat → Int64) × Int32 => (fun (rr0 : Int32) (fz2 : Nat → Int64) (q : Int32) => [[(oa, .inl (g.2 2, 1, .inr (.inl fz2)))]]) (u.1) (u.2.1) (u.2.2)) zNo zN0 := by
  refine zX.ofH (cc := cL_river) (maxL := 4) (rt := (some .int)) (by decide) rfl (Nat.le_of_ble_eq_true rfl) ?_
  intro p e s m args below meth c A ls St hr hlocks htab hin hK hT hA hP hD hS hl
  obtain ⟨hx, hb, hml, hown, hts⟩ := id St
  have hl : lv_has ls 4 [(0, .ref x), (1, .int r), (2, .ref oa)] := hl
  refine lv_aload_n hx hb dL_river_0 rfl (lv_at hl 2 rfl) ?_
  refine lv_iconst (v := 0) hx hb dL_river_1 (by decide) ?_
  refine lv_aload_n hx hb dL_river_2 rfl (lv_at hl 0 rfl) ?_
  refine lv_iload_n hx hb dL_river_3 rfl (lv_at hl 1 rfl) ?_
  refine xcallV (g := g) (q0 := 0) (ci := 9) (As := [.int r]) (rest := [.int 0, .ref oa]) St hK hT hA hP hD hS hl.1 [0, 1] [2] rfl rfl rfl (c_river l hfl g x ta o lo go tt lt mo fo ro fl9 ab len knd beg nxt flt fb r ) (cwV 1 hts (zgL (zl4 k1242 k1243 k1244 k595) k707) rfl rfl rfl (by decide +kernel) ⟨Nat.le_of_ble_eq_true rfl, Nat.le_of_ble_eq_true rfl⟩) rfl rfl rfl rfl (Nat.le_of_ble_eq_true rfl) dL_river_4 ⟨(Nat.le_of_ble_eq_true rfl), (Nat.le_of_ble_eq_true rfl)⟩ (fun E ce q9 u9 H locs hpx hP hD hS hce hcv hcl => ?_) (fun q_1 H locs hq2 hP hD hS => ?_)
  · skip
    have hpx : (fun (E : String) (_ : Unit) => E = "java/lang/IllegalArgumentException" ∧ (r < 0 ∨ 100 < r)) E u9 := hpx
    have hP : va_P g.1 vwCl (List.flatten [[(oa, .inl (g.2 2, 1, .inr (.inl fz)))]]) H := hP
    have hD : va_D A (List.flatten [[(oa, .inl (g.2 2, 1, .inr (.inl fz)))]]) := hD
    obtain ⟨rfl, hpy⟩ := hpx
    refine vx_catch hown [] ⟨0, 9, 12, 13⟩ [] (by rw [htab]; rfl) (fun z hz => absurd hz List.not_mem_nil) (by decide) (by decide) (hts _ k1153) ((hT.2.2.2.2.1 _ (List.mem_of_getElem? (i := 1) rfl)).use) hce hcv hcl ?_
    refine W.widen (k := 2) (n := 12) (Nat.le_of_ble_eq_true rfl) (Nat.le_of_ble_eq_true rfl) ?_
    refine lv_astore_n (lv' := [(3, .ref q9), (0, .ref x), (1, .int r), (2, .ref oa)]) hx hb dL_river_12 rfl hl (by decide) rfl (fun ls hl => ?_)
    refine lv_iconst (v := 1) hx hb dL_river_13 (by decide) ?_
    have hP : va_P g.1 vwCl (List.flatten [[(oa, .inl (g.2 2, 1, .inr (.inl fz)))]]) H := hP
    have hD : va_D A (List.flatten [[(oa, .inl (g.2 2, 1, .inr (.inl fz)))]]) := hD
    exact zret_i hx hb hr hlocks hS (Nat.le_of_ble_eq_true rfl) (Nat.le_of_ble_eq_true rfl) dL_river_14 (1, fz, 0) rfl (Or.inl ⟨rfl, hpy⟩) hP hD
  · skip
    have hq2 : (¬ r < 0 ∧ ¬ 100 < r) ∧ q_1 = zod r 0 := hq2
    have hP : va_P g.1 vwCl (List.flatten [[(oa, .inl (g.2 2, 1, .inr (.inl fz)))]]) H := hP
    have hD : va_D A (List.flatten [[(oa, .inl (g.2 2, 1, .inr (.inl fz)))]]) := hD
    refine W.widen (k := 2) (n := 12) (Nat.le_of_ble_eq_true rfl) (Nat.le_of_ble_eq_true rfl) ?_
    refine W.eq (g2 := F0 m 7 ls [.int q_1, .int 0, .ref oa]) rfl ?_
    refine lv_i2l (v := (q_1 : Int32).toInt64) hx hb dL_river_7 rfl ?_
    refine va_last hx hb hK hP hD hS 0 2 rfl rfl (zin rfl) dL_river_8 (fun H locs hP hD hS => ?_)
    have hP : va_P g.1 vwCl (List.flatten [[(oa, .inl (g.2 2, 1, .inr (.inl (vp_updL fz 0 ((q_1 : Int32).toInt64)))))]]) H := hP
    have hD : va_D A (List.flatten [[(oa, .inl (g.2 2, 1, .inr (.inl (vp_updL fz 0 ((q_1 : Int32).toInt64)))))]]) := hD
    refine lv_goto (tgt := 15) hx hb dL_river_9 (by decide) ?_
    refine lv_iconst (v := 0) hx hb dL_river_15 (by decide) ?_
    have hP : va_P g.1 vwCl (List.flatten [[(oa, .inl (g.2 2, 1, .inr (.inl (vp_updL fz 0 ((q_1 : Int32).toInt64)))))]]) H := hP
    have hD : va_D A (List.flatten [[(oa, .inl (g.2 2, 1, .inr (.inl (vp_updL fz 0 ((q_1 : Int32).toInt64)))))]]) := hD
    exact zret_i hx hb hr hlocks hS (Nat.le_of_ble_eq_true rfl) (Nat.le_of_ble_eq_true rfl) dL_river_16 (0, vp_updL fz 0 ((q_1 : Int32).toInt64), q_1) rfl (Or.inr ⟨rfl, hq2, rfl⟩) hP hD
set_option maxRecDepth 100000 in
set_option maxHeartbeats 4000000 in
theorem l_more (l : Launch) (hfl : l.stackTraces = false) (g : zG) (x : Nat) (ta : Nat) (o : Nat) (lo : Nat) (go : Nat) (tt : Nat) (lt : Nat) (mo : Nat) (fo : Nat) (ro : Nat) (fl9 : Int32) (ab : Nat) (len : Int32) (knd : Int32) (beg : Int32) (nxt : Int32) (flt : Int32) (fb : Nat → Int32) (r : Int32) (oa : Nat) (fz : Nat → Int64)  : zX g l yL_more (Cond.codeWith yL_more cL_more 4 (some .int) [(0, 9, 12, 13)] :: zB) ({ frames := 9, cells := 2, slots := 12, locals := 149 } : Room) [.ref x, .int r, .ref oa] [bDR g x ta o lo go tt lt mo fo ro fl9, bTape g ta ab 0 len knd beg nxt flt fb, [(oa, .inl (g.2 2, 1, .inr (.inl fz)))]] (fun u : Int32 × (Nat → Int64) × Int32 => (fun (rr0 : Int32) (fz2 : Nat → Int64) (q : Int32) => some (.int rr0)) (u.1) (u.2.1) (u.2.2)) (fun u : Int32 × (Nat → Int64) × Int32 => (fun (rr0 : Int32) (fz2 : Nat → Int64) (q : Int32) => (rr0 = 1 ∧ (r < 0 ∨ 100 < r)) ∨ (rr0 = 0 ∧ ((¬ r < 0 ∧ ¬ 100 < r) ∧ q = zfn r) ∧ fz2 0 = (q : Int32).toInt64)) (u.1) (u.2.1) (u.2.2)) (fun u : Int32 × (Nat → Int64) × Int32 => (fun (rr0 : Int32) (fz2 : Nat → Int64) (q : Int32) => [[(oa, .inl (g.2 2, 1, .inr (.inl fz2)))]]) (u.1) (u.2.1) (u.2.2)) zNo zN0 := by
  refine zX.ofH (cc := cL_more) (maxL := 4) (rt := (some .int)) (by decide) rfl (Nat.le_of_ble_eq_true rfl) ?_
  intro p e s m args below meth c A ls St hr hlocks htab hin hK hT hA hP hD hS hl
  obtain ⟨hx, hb, hml, hown, hts⟩ := id St
  have hl : lv_has ls 4 [(0, .ref x), (1, .int r), (2, .ref oa)] := hl
  refine lv_aload_n hx hb dL_more_0 rfl (lv_at hl 2 rfl) ?_
  refine lv_iconst (v := 0) hx hb dL_more_1 (by decide) ?_
  refine lv_aload_n hx hb dL_more_2 rfl (lv_at hl 0 rfl) ?_
  refine lv_iload_n hx hb dL_more_3 rfl (lv_at hl 1 rfl) ?_
  refine xcallV (g := g) (q0 := 0) (ci := 9) (As := [.int r]) (rest := [.int 0, .ref oa]) St hK hT hA hP hD hS hl.1 [0, 1] [2] rfl rfl rfl (c_more l hfl g x ta o lo go tt lt mo fo ro fl9 ab len knd beg nxt flt fb r ) (cwV 1 hts (zgL (zl4 k1246 k1247 k1248 k595) k710) rfl rfl rfl (by decide +kernel) ⟨Nat.le_of_ble_eq_true rfl, Nat.le_of_ble_eq_true rfl⟩) rfl rfl rfl rfl (Nat.le_of_ble_eq_true rfl) dL_more_4 ⟨(Nat.le_of_ble_eq_true rfl), (Nat.le_of_ble_eq_true rfl)⟩ (fun E ce q9 u9 H locs hpx hP hD hS hce hcv hcl => ?_) (fun q_1 H locs hq2 hP hD hS => ?_)
  · skip
    have hpx : (fun (E : String) (_ : Unit) => E = "java/lang/IllegalArgumentException" ∧ (r < 0 ∨ 100 < r)) E u9 := hpx
    have hP : va_P g.1 vwCl (List.flatten [[(oa, .inl (g.2 2, 1, .inr (.inl fz)))]]) H := hP
    have hD : va_D A (List.flatten [[(oa, .inl (g.2 2, 1, .inr (.inl fz)))]]) := hD
    obtain ⟨rfl, hpy⟩ := hpx
    refine vx_catch hown [] ⟨0, 9, 12, 13⟩ [] (by rw [htab]; rfl) (fun z hz => absurd hz List.not_mem_nil) (by decide) (by decide) (hts _ k1153) ((hT.2.2.2.2.1 _ (List.mem_of_getElem? (i := 1) rfl)).use) hce hcv hcl ?_
    refine W.widen (k := 2) (n := 12) (Nat.le_of_ble_eq_true rfl) (Nat.le_of_ble_eq_true rfl) ?_
    refine lv_astore_n (lv' := [(3, .ref q9), (0, .ref x), (1, .int r), (2, .ref oa)]) hx hb dL_more_12 rfl hl (by decide) rfl (fun ls hl => ?_)
    refine lv_iconst (v := 1) hx hb dL_more_13 (by decide) ?_
    have hP : va_P g.1 vwCl (List.flatten [[(oa, .inl (g.2 2, 1, .inr (.inl fz)))]]) H := hP
    have hD : va_D A (List.flatten [[(oa, .inl (g.2 2, 1, .inr (.inl fz)))]]) := hD
    exact zret_i hx hb hr hlocks hS (Nat.le_of_ble_eq_true rfl) (Nat.le_of_ble_eq_true rfl) dL_more_14 (1, fz, 0) rfl (Or.inl ⟨rfl, hpy⟩) hP hD
  · skip
    have hq2 : (¬ r < 0 ∧ ¬ 100 < r) ∧ q_1 = zfn r := hq2
    have hP : va_P g.1 vwCl (List.flatten [[(oa, .inl (g.2 2, 1, .inr (.inl fz)))]]) H := hP
    have hD : va_D A (List.flatten [[(oa, .inl (g.2 2, 1, .inr (.inl fz)))]]) := hD
    refine W.widen (k := 2) (n := 12) (Nat.le_of_ble_eq_true rfl) (Nat.le_of_ble_eq_true rfl) ?_
    refine W.eq (g2 := F0 m 7 ls [.int q_1, .int 0, .ref oa]) rfl ?_
    refine lv_i2l (v := (q_1 : Int32).toInt64) hx hb dL_more_7 rfl ?_
    refine va_last hx hb hK hP hD hS 0 2 rfl rfl (zin rfl) dL_more_8 (fun H locs hP hD hS => ?_)
    have hP : va_P g.1 vwCl (List.flatten [[(oa, .inl (g.2 2, 1, .inr (.inl (vp_updL fz 0 ((q_1 : Int32).toInt64)))))]]) H := hP
    have hD : va_D A (List.flatten [[(oa, .inl (g.2 2, 1, .inr (.inl (vp_updL fz 0 ((q_1 : Int32).toInt64)))))]]) := hD
    refine lv_goto (tgt := 15) hx hb dL_more_9 (by decide) ?_
    refine lv_iconst (v := 0) hx hb dL_more_15 (by decide) ?_
    have hP : va_P g.1 vwCl (List.flatten [[(oa, .inl (g.2 2, 1, .inr (.inl (vp_updL fz 0 ((q_1 : Int32).toInt64)))))]]) H := hP
    have hD : va_D A (List.flatten [[(oa, .inl (g.2 2, 1, .inr (.inl (vp_updL fz 0 ((q_1 : Int32).toInt64)))))]]) := hD
    exact zret_i hx hb hr hlocks hS (Nat.le_of_ble_eq_true rfl) (Nat.le_of_ble_eq_true rfl) dL_more_16 (0, vp_updL fz 0 ((q_1 : Int32).toInt64), q_1) rfl (Or.inr ⟨rfl, hq2, rfl⟩) hP hD
set_option maxRecDepth 100000 in
set_option maxHeartbeats 4000000 in
theorem l_liars (l : Launch) (hfl : l.stackTraces = false) (g : zG) (x : Nat) (ta : Nat) (o : Nat) (lo : Nat) (go : Nat) (tt : Nat) (lt : Nat) (mo : Nat) (fo : Nat) (ro : Nat) (fl9 : Int32) (a : Nat → Nat) (tx : Int32) (ch : Int32) (jo : Int32) (tr : Int32) (dy : Int32) (sd : Int32) (f : Nat → Nat → Int32) (ab : Nat) (len : Int32) (knd : Int32) (beg : Int32) (nxt : Int32) (flt : Int32) (fb : Nat → Int32) (af : Nat) (pp : Int32) (ft : Int32) (ff : Nat → Int32) (su : Int32) (oa : Nat) (fz : Nat → Int64)  : zX g l yL_liars (Cond.codeWith yL_liars cL_liars 4 (some .int) [(0, 9, 12, 13)] :: zB) ({ frames := 9, cells := 1, slots := 6, locals := 148 } : Room) [.ref x, .int su, .ref oa] [bDR g x ta o lo go tt lt mo fo ro fl9, bTown g o a 0 0 tx ch jo tr dy sd f, bTape g ta ab 0 len knd beg nxt flt fb, bRid g ro af pp ft ff, [(oa, .inl (g.2 2, 1, .inr (.inl fz)))]] (fun u : Int32 × (Nat → Int64) × Int32 => (fun (r : Int32) (fz2 : Nat → Int64) (q : Int32) => some (.int r)) (u.1) (u.2.1) (u.2.2)) (fun u : Int32 × (Nat → Int64) × Int32 => (fun (r : Int32) (fz2 : Nat → Int64) (q : Int32) => r = 0 ∧ (q = if su = 0 then 1 else 0) ∧ fz2 0 = (q : Int32).toInt64) (u.1) (u.2.1) (u.2.2)) (fun u : Int32 × (Nat → Int64) × Int32 => (fun (r : Int32) (fz2 : Nat → Int64) (q : Int32) => [[(oa, .inl (g.2 2, 1, .inr (.inl fz2)))]]) (u.1) (u.2.1) (u.2.2)) zNo zN0 := by
  refine zX.ofH (cc := cL_liars) (maxL := 4) (rt := (some .int)) (by decide) rfl (Nat.le_of_ble_eq_true rfl) ?_
  intro p e s m args below meth c A ls St hr hlocks htab hin hK hT hA hP hD hS hl
  obtain ⟨hx, hb, hml, hown, hts⟩ := id St
  have hl : lv_has ls 4 [(0, .ref x), (1, .int su), (2, .ref oa)] := hl
  refine lv_aload_n hx hb dL_liars_0 rfl (lv_at hl 2 rfl) ?_
  refine lv_iconst (v := 0) hx hb dL_liars_1 (by decide) ?_
  refine lv_aload_n hx hb dL_liars_2 rfl (lv_at hl 0 rfl) ?_
  refine lv_iload_n hx hb dL_liars_3 rfl (lv_at hl 1 rfl) ?_
  refine mcallV (g := g) (q0 := 0) (ci := 9) (As := [.int su]) (rest := [.int 0, .ref oa]) St hK hT hA hP hD hS hl.1 [0, 1, 2, 3] [4] rfl rfl rfl (c_liars l hfl g x ta o lo go tt lt mo fo ro fl9 a tx ch jo tr dy sd f ab len knd beg nxt flt fb af pp ft ff su ) (cwV 1 hts (zgL (zl4 k1250 k1251 k1252 k595) k725) rfl rfl rfl (by decide +kernel) ⟨Nat.le_of_ble_eq_true rfl, Nat.le_of_ble_eq_true rfl⟩) rfl rfl rfl rfl (Nat.le_of_ble_eq_true rfl) dL_liars_4 ⟨(Nat.le_of_ble_eq_true rfl), (Nat.le_of_ble_eq_true rfl)⟩ (fun q_1 H locs hq2 hP hD hS => ?_)
  have hq2 : q_1 = if su = 0 then 1 else 0 := hq2
  have hP : va_P g.1 vwCl (List.flatten [[(oa, .inl (g.2 2, 1, .inr (.inl fz)))]]) H := hP
  have hD : va_D A (List.flatten [[(oa, .inl (g.2 2, 1, .inr (.inl fz)))]]) := hD
  refine W.widen (k := 1) (n := 6) (Nat.le_of_ble_eq_true rfl) (Nat.le_of_ble_eq_true rfl) ?_
  refine W.eq (g2 := F0 m 7 ls [.int q_1, .int 0, .ref oa]) rfl ?_
  refine lv_i2l (v := (q_1 : Int32).toInt64) hx hb dL_liars_7 rfl ?_
  refine va_last hx hb hK hP hD hS 0 2 rfl rfl (zin rfl) dL_liars_8 (fun H locs hP hD hS => ?_)
  have hP : va_P g.1 vwCl (List.flatten [[(oa, .inl (g.2 2, 1, .inr (.inl (vp_updL fz 0 ((q_1 : Int32).toInt64)))))]]) H := hP
  have hD : va_D A (List.flatten [[(oa, .inl (g.2 2, 1, .inr (.inl (vp_updL fz 0 ((q_1 : Int32).toInt64)))))]]) := hD
  refine lv_goto (tgt := 15) hx hb dL_liars_9 (by decide) ?_
  refine lv_iconst (v := 0) hx hb dL_liars_15 (by decide) ?_
  have hP : va_P g.1 vwCl (List.flatten [[(oa, .inl (g.2 2, 1, .inr (.inl (vp_updL fz 0 ((q_1 : Int32).toInt64)))))]]) H := hP
  have hD : va_D A (List.flatten [[(oa, .inl (g.2 2, 1, .inr (.inl (vp_updL fz 0 ((q_1 : Int32).toInt64)))))]]) := hD
  exact zret_i hx hb hr hlocks hS (Nat.le_of_ble_eq_true rfl) (Nat.le_of_ble_eq_true rfl) dL_liars_16 (0, vp_updL fz 0 ((q_1 : Int32).toInt64), q_1) rfl (⟨rfl, hq2, rfl⟩) hP hD
set_option maxRecDepth 100000 in
set_option maxHeartbeats 4000000 in
theorem l_ask (l : Launch) (hfl : l.stackTraces = false) (g : zG) (x : Nat) (ta : Nat) (o : Nat) (lo : Nat) (go : Nat) (tt : Nat) (lt : Nat) (mo : Nat) (fo : Nat) (ro : Nat) (fl9 : Int32) (a : Nat → Nat) (tx : Int32) (ch : Int32) (jo : Int32) (tr : Int32) (dy : Int32) (sd : Int32) (f : Nat → Nat → Int32) (ab : Nat) (len : Int32) (knd : Int32) (beg : Int32) (nxt : Int32) (flt : Int32) (fb : Nat → Int32) (af : Nat) (pp : Int32) (ft : Int32) (ff : Nat → Int32) (oa : Nat) (fz : Nat → Int64)  : zX g l yL_ask (Cond.codeWith yL_ask cL_ask 3 (some .int) [(0, 8, 11, 13)] :: zB) ({ frames := 9, cells := 1, slots := 6, locals := 147 } : Room) [.ref x, .ref oa] [bDR g x ta o lo go tt lt mo fo ro fl9, bTown g o a 0 0 tx ch jo tr dy sd f, bTape g ta ab 0 len knd beg nxt flt fb, bRid g ro af pp ft ff, [(oa, .inl (g.2 2, 1, .inr (.inl fz)))]] (fun u : Int32 × (Nat → Int64) => (fun (r : Int32) (fz2 : Nat → Int64) => some (.int r)) (u.1) (u.2)) (fun u : Int32 × (Nat → Int64) => (fun (r : Int32) (fz2 : Nat → Int64) => r = 0 ∧ fz2 0 = ((-1) : Int32).toInt64) (u.1) (u.2)) (fun u : Int32 × (Nat → Int64) => (fun (r : Int32) (fz2 : Nat → Int64) => [[(oa, .inl (g.2 2, 1, .inr (.inl fz2)))]]) (u.1) (u.2)) zNo zN0 := by
  refine zX.ofH (cc := cL_ask) (maxL := 3) (rt := (some .int)) (by decide) rfl (Nat.le_of_ble_eq_true rfl) ?_
  intro p e s m args below meth c A ls St hr hlocks htab hin hK hT hA hP hD hS hl
  obtain ⟨hx, hb, hml, hown, hts⟩ := id St
  have hl : lv_has ls 3 [(0, .ref x), (1, .ref oa)] := hl
  refine lv_aload_n hx hb dL_ask_0 rfl (lv_at hl 1 rfl) ?_
  refine lv_iconst (v := 0) hx hb dL_ask_1 (by decide) ?_
  refine lv_aload_n hx hb dL_ask_2 rfl (lv_at hl 0 rfl) ?_
  refine mcallV (g := g) (q0 := 0) (ci := 9) (As := []) (rest := [.int 0, .ref oa]) St hK hT hA hP hD hS hl.1 [0, 1, 2, 3] [4] rfl rfl rfl (c_ask l hfl g x ta o lo go tt lt mo fo ro fl9 a tx ch jo tr dy sd f ab len knd beg nxt flt fb af pp ft ff ) (cwV 0 hts (zgL (zl4 k1254 k1255 k1256 k595) k729) rfl rfl rfl (by decide +kernel) ⟨Nat.le_of_ble_eq_true rfl, Nat.le_of_ble_eq_true rfl⟩) rfl rfl rfl rfl (Nat.le_of_ble_eq_true rfl) dL_ask_3 ⟨(Nat.le_of_ble_eq_true rfl), (Nat.le_of_ble_eq_true rfl)⟩ (fun _u H locs hq1 hP hD hS => ?_)
  have hP : va_P g.1 vwCl (List.flatten [[(oa, .inl (g.2 2, 1, .inr (.inl fz)))]]) H := hP
  have hD : va_D A (List.flatten [[(oa, .inl (g.2 2, 1, .inr (.inl fz)))]]) := hD
  refine W.widen (k := 1) (n := 6) (Nat.le_of_ble_eq_true rfl) (Nat.le_of_ble_eq_true rfl) ?_
  refine W.eq (g2 := F0 m 6 ls [.int (-1), .int 0, .ref oa]) rfl ?_
  refine lv_i2l (v := ((-1) : Int32).toInt64) hx hb dL_ask_6 rfl ?_
  refine ztopl (r := (-1)) (by decide) ?_
  refine va_last hx hb hK hP hD hS 0 2 rfl rfl (zin rfl) dL_ask_7 (fun H locs hP hD hS => ?_)
  have hP : va_P g.1 vwCl (List.flatten [[(oa, .inl (g.2 2, 1, .inr (.inl (vp_updL fz 0 (-1)))))]]) H := hP
  have hD : va_D A (List.flatten [[(oa, .inl (g.2 2, 1, .inr (.inl (vp_updL fz 0 (-1)))))]]) := hD
  refine lv_goto (tgt := 14) hx hb dL_ask_8 (by decide) ?_
  refine lv_iconst (v := 0) hx hb dL_ask_14 (by decide) ?_
  have hP : va_P g.1 vwCl (List.flatten [[(oa, .inl (g.2 2, 1, .inr (.inl (vp_updL fz 0 (-1)))))]]) H := hP
  have hD : va_D A (List.flatten [[(oa, .inl (g.2 2, 1, .inr (.inl (vp_updL fz 0 (-1)))))]]) := hD
  exact zret_i hx hb hr hlocks hS (Nat.le_of_ble_eq_true rfl) (Nat.le_of_ble_eq_true rfl) dL_ask_15 (0, vp_updL fz 0 (-1)) rfl (⟨rfl, rfl⟩) hP hD
set_option maxRecDepth 100000 in
set_option maxHeartbeats 4000000 in
theorem l_word (l : Launch) (hfl : l.stackTraces = false) (g : zG) (x : Nat) (ta : Nat) (o : Nat) (lo : Nat) (go : Nat) (tt : Nat) (lt : Nat) (mo : Nat) (fo : Nat) (ro : Nat) (fl9 : Int32) (o : Nat) (a : Nat → Nat) (tx : Int32) (ch : Int32) (jo : Int32) (tr : Int32) (dy : Int32) (sd : Int32) (f : Nat → Nat → Int32) (n1 : Int32) (oa : Nat) (fz : Nat → Int64)  : zX g l yL_word (Cond.codeWith yL_word cL_word 4 (some .int) [(0, 9, 12, 24)] :: zB) ({ frames := 8, cells := 1, slots := 6, locals := 124 } : Room) [.ref x, .int n1, .ref oa] [bDR g x ta o lo go tt lt mo fo ro fl9, bTown g o a 0 0 tx ch jo tr dy sd f, [(oa, .inl (g.2 2, 1, .inr (.inl fz)))]] (fun u : Int32 × (Nat → Int64) => (fun (r : Int32) (fz2 : Nat → Int64) => some (.int r)) (u.1) (u.2)) (fun u : Int32 × (Nat → Int64) => (fun (r : Int32) (fz2 : Nat → Int64) => r = 1) (u.1) (u.2)) (fun u : Int32 × (Nat → Int64) => (fun (r : Int32) (fz2 : Nat → Int64) => [[(oa, .inl (g.2 2, 1, .inr (.inl fz2)))]]) (u.1) (u.2)) zNo zN0 := by
  refine zX.ofH (cc := cL_word) (maxL := 4) (rt := (some .int)) (by decide) rfl (Nat.le_of_ble_eq_true rfl) ?_
  intro p e s m args below meth c A ls St hr hlocks htab hin hK hT hA hP hD hS hl
  obtain ⟨hx, hb, hml, hown, hts⟩ := id St
  have hl : lv_has ls 4 [(0, .ref x), (1, .int n1), (2, .ref oa)] := hl
  refine lv_aload_n hx hb dL_word_0 rfl (lv_at hl 2 rfl) ?_
  refine lv_iconst (v := 0) hx hb dL_word_1 (by decide) ?_
  refine lv_aload_n hx hb dL_word_2 rfl (lv_at hl 0 rfl) ?_
  refine lv_iload_n hx hb dL_word_3 rfl (lv_at hl 1 rfl) ?_
  refine xcallV (g := g) (q0 := 0) (ci := 9) (As := [.int n1]) (rest := [.int 0, .ref oa]) St hK hT hA hP hD hS hl.1 [0, 1] [2] rfl rfl rfl (c_word l hfl g x ta o lo go tt lt mo fo ro fl9 o a tx ch jo tr dy sd f n1 ) (cwV 1 hts (zgL (zl4 k1258 k1259 k1260 k595) k730) rfl rfl rfl (by decide +kernel) ⟨Nat.le_of_ble_eq_true rfl, Nat.le_of_ble_eq_true rfl⟩) rfl rfl rfl rfl (Nat.le_of_ble_eq_true rfl) dL_word_4 ⟨(Nat.le_of_ble_eq_true rfl), (Nat.le_of_ble_eq_true rfl)⟩ (fun E ce q9 u9 H locs hpx hP hD hS hce hcv hcl => ?_) (fun rr_1 H locs hq2 hP hD hS => ?_)
  · skip
    have hpx : (fun (E : String) (_ : Unit) => E = "java/lang/IndexOutOfBoundsException") E u9 := hpx
    have hP : va_P g.1 vwCl (List.flatten [[(oa, .inl (g.2 2, 1, .inr (.inl fz)))]]) H := hP
    have hD : va_D A (List.flatten [[(oa, .inl (g.2 2, 1, .inr (.inl fz)))]]) := hD
    obtain rfl := hpx
    refine vx_catch hown [] ⟨0, 9, 12, 24⟩ [] (by rw [htab]; rfl) (fun z hz => absurd hz List.not_mem_nil) (by decide) (by decide) (hts _ k1163) ((hT.2.2.2.2.1 _ (List.mem_of_getElem? (i := 0) rfl)).use) hce hcv hcl ?_
    refine W.widen (k := 1) (n := 6) (Nat.le_of_ble_eq_true rfl) (Nat.le_of_ble_eq_true rfl) ?_
    refine lv_astore_n (lv' := [(3, .ref q9), (0, .ref x), (1, .int n1), (2, .ref oa)]) hx hb dL_word_12 rfl hl (by decide) rfl (fun ls hl => ?_)
    refine lv_iconst (v := 1) hx hb dL_word_13 (by decide) ?_
    have hP : va_P g.1 vwCl (List.flatten [[(oa, .inl (g.2 2, 1, .inr (.inl fz)))]]) H := hP
    have hD : va_D A (List.flatten [[(oa, .inl (g.2 2, 1, .inr (.inl fz)))]]) := hD
    exact zret_i hx hb hr hlocks hS (Nat.le_of_ble_eq_true rfl) (Nat.le_of_ble_eq_true rfl) dL_word_14 (1, fz) rfl rfl hP hD
  · skip
    have hq2 : False := hq2
    exact hq2.elim
set_option maxRecDepth 100000 in
set_option maxHeartbeats 4000000 in
theorem l_steps (l : Launch) (hfl : l.stackTraces = false) (g : zG) (x : Nat) (ta : Nat) (o : Nat) (lo : Nat) (go : Nat) (tt : Nat) (lt : Nat) (mo : Nat) (fo : Nat) (ro : Nat) (fl9 : Int32) (o : Nat) (a : Nat → Nat) (tx : Int32) (ch : Int32) (jo : Int32) (tr : Int32) (dy : Int32) (sd : Int32) (f : Nat → Nat → Int32) (n1 : Int32) (n2 : Int32) (oa : Nat) (fz : Nat → Int64)  : zX g l yL_steps (Cond.codeWith yL_steps cL_steps 5 (some .int) [(0, 10, 13, 24), (0, 10, 17, 13)] :: zB) ({ frames := 9, cells := 1, slots := 6, locals := 147 } : Room) [.ref x, .int n1, .int n2, .ref oa] [bDR g x ta o lo go tt lt mo fo ro fl9, bTown g o a 0 0 tx ch jo tr dy sd f, [(oa, .inl (g.2 2, 1, .inr (.inl fz)))]] (fun u : Int32 × (Nat → Int64) => (fun (r : Int32) (fz2 : Nat → Int64) => some (.int r)) (u.1) (u.2)) (fun u : Int32 × (Nat → Int64) => (fun (r : Int32) (fz2 : Nat → Int64) => r = 1) (u.1) (u.2)) (fun u : Int32 × (Nat → Int64) => (fun (r : Int32) (fz2 : Nat → Int64) => [[(oa, .inl (g.2 2, 1, .inr (.inl fz2)))]]) (u.1) (u.2)) zNo zN0 := by
  refine zX.ofH (cc := cL_steps) (maxL := 5) (rt := (some .int)) (by decide) rfl (Nat.le_of_ble_eq_true rfl) ?_
  intro p e s m args below meth c A ls St hr hlocks htab hin hK hT hA hP hD hS hl
  obtain ⟨hx, hb, hml, hown, hts⟩ := id St
  have hl : lv_has ls 5 [(0, .ref x), (1, .int n1), (2, .int n2), (3, .ref oa)] := hl
  refine lv_aload_n hx hb dL_steps_0 rfl (lv_at hl 3 rfl) ?_
  refine lv_iconst (v := 0) hx hb dL_steps_1 (by decide) ?_
  refine lv_aload_n hx hb dL_steps_2 rfl (lv_at hl 0 rfl) ?_
  refine lv_iload_n hx hb dL_steps_3 rfl (lv_at hl 1 rfl) ?_
  refine lv_iload_n hx hb dL_steps_4 rfl (lv_at hl 2 rfl) ?_
  refine xcallV (g := g) (q0 := 0) (ci := 9) (As := [.int n1, .int n2]) (rest := [.int 0, .ref oa]) St hK hT hA hP hD hS hl.1 [0, 1] [2] rfl rfl rfl (c_steps l hfl g x ta o lo go tt lt mo fo ro fl9 o a tx ch jo tr dy sd f n1 n2 ) (cwV 2 hts (zgL (zl4 k1262 k1263 k1264 k595) k735) rfl rfl rfl (by decide +kernel) ⟨Nat.le_of_ble_eq_true rfl, Nat.le_of_ble_eq_true rfl⟩) rfl rfl rfl rfl (Nat.le_of_ble_eq_true rfl) dL_steps_5 ⟨(Nat.le_of_ble_eq_true rfl), (Nat.le_of_ble_eq_true rfl)⟩ (fun E ce q9 u9 H locs hpx hP hD hS hce hcv hcl => ?_) (fun rr_1 H locs hq2 hP hD hS => ?_)
  · skip
    have hpx : (fun (E : String) (_ : Unit) => E = "java/lang/IndexOutOfBoundsException") E u9 := hpx
    have hP : va_P g.1 vwCl (List.flatten [[(oa, .inl (g.2 2, 1, .inr (.inl fz)))]]) H := hP
    have hD : va_D A (List.flatten [[(oa, .inl (g.2 2, 1, .inr (.inl fz)))]]) := hD
    obtain rfl := hpx
    refine vx_catch hown [] ⟨0, 10, 13, 24⟩ [⟨0, 10, 17, 13⟩] (by rw [htab]; rfl) (fun z hz => absurd hz List.not_mem_nil) (by decide) (by decide) (hts _ k1163) ((hT.2.2.2.2.1 _ (List.mem_of_getElem? (i := 0) rfl)).use) hce hcv hcl ?_
    refine W.widen (k := 1) (n := 6) (Nat.le_of_ble_eq_true rfl) (Nat.le_of_ble_eq_true rfl) ?_
    refine lv_astore (lv' := [(4, .ref q9), (0, .ref x), (1, .int n1), (2, .int n2), (3, .ref oa)]) hx hb dL_steps_13 hl (by decide) rfl (fun ls hl => ?_)
    refine lv_iconst (v := 1) hx hb dL_steps_15 (by decide) ?_
    have hP : va_P g.1 vwCl (List.flatten [[(oa, .inl (g.2 2, 1, .inr (.inl fz)))]]) H := hP
    have hD : va_D A (List.flatten [[(oa, .inl (g.2 2, 1, .inr (.inl fz)))]]) := hD
    exact zret_i hx hb hr hlocks hS (Nat.le_of_ble_eq_true rfl) (Nat.le_of_ble_eq_true rfl) dL_steps_16 (1, fz) rfl rfl hP hD
  · skip
    have hq2 : False := hq2
    exact hq2.elim
set_option maxRecDepth 100000 in
set_option maxHeartbeats 4000000 in
theorem l_rests (l : Launch) (hfl : l.stackTraces = false) (g : zG) (x : Nat) (ta : Nat) (o : Nat) (lo : Nat) (go : Nat) (tt : Nat) (lt : Nat) (mo : Nat) (fo : Nat) (ro : Nat) (fl9 : Int32) (o : Nat) (a : Nat → Nat) (tx : Int32) (ch : Int32) (jo : Int32) (tr : Int32) (dy : Int32) (sd : Int32) (f : Nat → Nat → Int32) (n1 : Int32) (n2 : Int32) (oa : Nat) (fz : Nat → Int64)  : zX g l yL_rests (Cond.codeWith yL_rests cL_rests 5 (some .int) [(0, 10, 13, 24), (0, 10, 17, 13)] :: zB) ({ frames := 9, cells := 1, slots := 6, locals := 147 } : Room) [.ref x, .int n1, .int n2, .ref oa] [bDR g x ta o lo go tt lt mo fo ro fl9, bTown g o a 0 0 tx ch jo tr dy sd f, [(oa, .inl (g.2 2, 1, .inr (.inl fz)))]] (fun u : Int32 × (Nat → Int64) => (fun (r : Int32) (fz2 : Nat → Int64) => some (.int r)) (u.1) (u.2)) (fun u : Int32 × (Nat → Int64) => (fun (r : Int32) (fz2 : Nat → Int64) => r = 1) (u.1) (u.2)) (fun u : Int32 × (Nat → Int64) => (fun (r : Int32) (fz2 : Nat → Int64) => [[(oa, .inl (g.2 2, 1, .inr (.inl fz2)))]]) (u.1) (u.2)) zNo zN0 := by
  refine zX.ofH (cc := cL_rests) (maxL := 5) (rt := (some .int)) (by decide) rfl (Nat.le_of_ble_eq_true rfl) ?_
  intro p e s m args below meth c A ls St hr hlocks htab hin hK hT hA hP hD hS hl
  obtain ⟨hx, hb, hml, hown, hts⟩ := id St
  have hl : lv_has ls 5 [(0, .ref x), (1, .int n1), (2, .int n2), (3, .ref oa)] := hl
  refine lv_aload_n hx hb dL_rests_0 rfl (lv_at hl 3 rfl) ?_
  refine lv_iconst (v := 0) hx hb dL_rests_1 (by decide) ?_
  refine lv_aload_n hx hb dL_rests_2 rfl (lv_at hl 0 rfl) ?_
  refine lv_iload_n hx hb dL_rests_3 rfl (lv_at hl 1 rfl) ?_
  refine lv_iload_n hx hb dL_rests_4 rfl (lv_at hl 2 rfl) ?_
  refine xcallV (g := g) (q0 := 0) (ci := 9) (As := [.int n1, .int n2]) (rest := [.int 0, .ref oa]) St hK hT hA hP hD hS hl.1 [0, 1] [2] rfl rfl rfl (c_rests l hfl g x ta o lo go tt lt mo fo ro fl9 o a tx ch jo tr dy sd f n1 n2 ) (cwV 2 hts (zgL (zl4 k1266 k1267 k1268 k595) k754) rfl rfl rfl (by decide +kernel) ⟨Nat.le_of_ble_eq_true rfl, Nat.le_of_ble_eq_true rfl⟩) rfl rfl rfl rfl (Nat.le_of_ble_eq_true rfl) dL_rests_5 ⟨(Nat.le_of_ble_eq_true rfl), (Nat.le_of_ble_eq_true rfl)⟩ (fun E ce q9 u9 H locs hpx hP hD hS hce hcv hcl => ?_) (fun rr_1 H locs hq2 hP hD hS => ?_)
  · skip
    have hpx : (fun (E : String) (_ : Unit) => E = "java/lang/IndexOutOfBoundsException") E u9 := hpx
    have hP : va_P g.1 vwCl (List.flatten [[(oa, .inl (g.2 2, 1, .inr (.inl fz)))]]) H := hP
    have hD : va_D A (List.flatten [[(oa, .inl (g.2 2, 1, .inr (.inl fz)))]]) := hD
    obtain rfl := hpx
    refine vx_catch hown [] ⟨0, 10, 13, 24⟩ [⟨0, 10, 17, 13⟩] (by rw [htab]; rfl) (fun z hz => absurd hz List.not_mem_nil) (by decide) (by decide) (hts _ k1163) ((hT.2.2.2.2.1 _ (List.mem_of_getElem? (i := 0) rfl)).use) hce hcv hcl ?_
    refine W.widen (k := 1) (n := 6) (Nat.le_of_ble_eq_true rfl) (Nat.le_of_ble_eq_true rfl) ?_
    refine lv_astore (lv' := [(4, .ref q9), (0, .ref x), (1, .int n1), (2, .int n2), (3, .ref oa)]) hx hb dL_rests_13 hl (by decide) rfl (fun ls hl => ?_)
    refine lv_iconst (v := 1) hx hb dL_rests_15 (by decide) ?_
    have hP : va_P g.1 vwCl (List.flatten [[(oa, .inl (g.2 2, 1, .inr (.inl fz)))]]) H := hP
    have hD : va_D A (List.flatten [[(oa, .inl (g.2 2, 1, .inr (.inl fz)))]]) := hD
    exact zret_i hx hb hr hlocks hS (Nat.le_of_ble_eq_true rfl) (Nat.le_of_ble_eq_true rfl) dL_rests_16 (1, fz) rfl rfl hP hD
  · skip
    have hq2 : False := hq2
    exact hq2.elim
set_option maxRecDepth 100000 in
set_option maxHeartbeats 4000000 in
theorem l_last (l : Launch) (hfl : l.stackTraces = false) (g : zG) (x : Nat) (ta : Nat) (o : Nat) (lo : Nat) (go : Nat) (tt : Nat) (lt : Nat) (mo : Nat) (fo : Nat) (ro : Nat) (fl9 : Int32) (o : Nat) (a : Nat → Nat) (tx : Int32) (ch : Int32) (jo : Int32) (tr : Int32) (dy : Int32) (sd : Int32) (f : Nat → Nat → Int32) (n1 : Int32) (oa : Nat) (fz : Nat → Int64)  : zX g l yL_last (Cond.codeWith yL_last cL_last 4 (some .int) [(0, 9, 12, 24)] :: zB) ({ frames := 8, cells := 1, slots := 6, locals := 124 } : Room) [.ref x, .int n1, .ref oa] [bDR g x ta o lo go tt lt mo fo ro fl9, bTown g o a 0 0 tx ch jo tr dy sd f, [(oa, .inl (g.2 2, 1, .inr (.inl fz)))]] (fun u : Int32 × (Nat → Int64) => (fun (r : Int32) (fz2 : Nat → Int64) => some (.int r)) (u.1) (u.2)) (fun u : Int32 × (Nat → Int64) => (fun (r : Int32) (fz2 : Nat → Int64) => r = 1) (u.1) (u.2)) (fun u : Int32 × (Nat → Int64) => (fun (r : Int32) (fz2 : Nat → Int64) => [[(oa, .inl (g.2 2, 1, .inr (.inl fz2)))]]) (u.1) (u.2)) zNo zN0 := by
  refine zX.ofH (cc := cL_last) (maxL := 4) (rt := (some .int)) (by decide) rfl (Nat.le_of_ble_eq_true rfl) ?_
  intro p e s m args below meth c A ls St hr hlocks htab hin hK hT hA hP hD hS hl
  obtain ⟨hx, hb, hml, hown, hts⟩ := id St
  have hl : lv_has ls 4 [(0, .ref x), (1, .int n1), (2, .ref oa)] := hl
  refine lv_aload_n hx hb dL_last_0 rfl (lv_at hl 2 rfl) ?_
  refine lv_iconst (v := 0) hx hb dL_last_1 (by decide) ?_
  refine lv_aload_n hx hb dL_last_2 rfl (lv_at hl 0 rfl) ?_
  refine lv_iload_n hx hb dL_last_3 rfl (lv_at hl 1 rfl) ?_
  refine xcallV (g := g) (q0 := 0) (ci := 9) (As := [.int n1]) (rest := [.int 0, .ref oa]) St hK hT hA hP hD hS hl.1 [0, 1] [2] rfl rfl rfl (c_last l hfl g x ta o lo go tt lt mo fo ro fl9 o a tx ch jo tr dy sd f n1 ) (cwV 1 hts (zgL (zl4 k1270 k1271 k1272 k595) k762) rfl rfl rfl (by decide +kernel) ⟨Nat.le_of_ble_eq_true rfl, Nat.le_of_ble_eq_true rfl⟩) rfl rfl rfl rfl (Nat.le_of_ble_eq_true rfl) dL_last_4 ⟨(Nat.le_of_ble_eq_true rfl), (Nat.le_of_ble_eq_true rfl)⟩ (fun E ce q9 u9 H locs hpx hP hD hS hce hcv hcl => ?_) (fun rr_1 H locs hq2 hP hD hS => ?_)
  · skip
    have hpx : (fun (E : String) (_ : Unit) => E = "java/lang/IndexOutOfBoundsException") E u9 := hpx
    have hP : va_P g.1 vwCl (List.flatten [[(oa, .inl (g.2 2, 1, .inr (.inl fz)))]]) H := hP
    have hD : va_D A (List.flatten [[(oa, .inl (g.2 2, 1, .inr (.inl fz)))]]) := hD
    obtain rfl := hpx
    refine vx_catch hown [] ⟨0, 9, 12, 24⟩ [] (by rw [htab]; rfl) (fun z hz => absurd hz List.not_mem_nil) (by decide) (by decide) (hts _ k1163) ((hT.2.2.2.2.1 _ (List.mem_of_getElem? (i := 0) rfl)).use) hce hcv hcl ?_
    refine W.widen (k := 1) (n := 6) (Nat.le_of_ble_eq_true rfl) (Nat.le_of_ble_eq_true rfl) ?_
    refine lv_astore_n (lv' := [(3, .ref q9), (0, .ref x), (1, .int n1), (2, .ref oa)]) hx hb dL_last_12 rfl hl (by decide) rfl (fun ls hl => ?_)
    refine lv_iconst (v := 1) hx hb dL_last_13 (by decide) ?_
    have hP : va_P g.1 vwCl (List.flatten [[(oa, .inl (g.2 2, 1, .inr (.inl fz)))]]) H := hP
    have hD : va_D A (List.flatten [[(oa, .inl (g.2 2, 1, .inr (.inl fz)))]]) := hD
    exact zret_i hx hb hr hlocks hS (Nat.le_of_ble_eq_true rfl) (Nat.le_of_ble_eq_true rfl) dL_last_14 (1, fz) rfl rfl hP hD
  · skip
    have hq2 : False := hq2
    exact hq2.elim
set_option maxRecDepth 100000 in
set_option maxHeartbeats 4000000 in
theorem l_trial (l : Launch) (hfl : l.stackTraces = false) (g : zG) (x : Nat) (ta : Nat) (o : Nat) (lo : Nat) (go : Nat) (tt : Nat) (lt : Nat) (mo : Nat) (fo : Nat) (ro : Nat) (fl9 : Int32) (a : Nat → Nat) (tx : Int32) (ch : Int32) (jo : Int32) (tr : Int32) (dy : Int32) (sd : Int32) (f : Nat → Nat → Int32) (ac : Nat) (ls0 : Int32) (ll : Int32) (lm : Int32) (lg : Int32) (ld : Int32) (fc : Nat → Int32) (od : Nat) (ad : Nat → Nat) (ped : Int32) (wod : Int32) (txd : Int32) (chd : Int32) (jod : Int32) (trd : Int32) (dyd : Int32) (sdd : Int32) (fd : Nat → Nat → Int32) (n : Int32) (c9 : Int32) (oa : Nat) (fz : Nat → Int64) (hz : zZ (f 4)) : zX g l yL_trial (Cond.codeWith yL_trial cL_trial 5 (some .int) [(0, 10, 13, 13)] :: zB) ({ frames := 8, cells := 1, slots := 6, locals := 134 } : Room) [.ref x, .int n, .int c9, .ref oa] [bDR g x ta o lo go tt lt mo fo ro fl9, bTown g o a 0 0 tx ch jo tr dy sd f, [(fo, .inr (0, [.ref o, .ref lo, .ref od]))], bLaw g lo ac ls0 ll lm lg ld fc, bTown g od ad ped wod txd chd jod trd dyd sdd fd, [(oa, .inl (g.2 2, 1, .inr (.inl fz)))]] (fun u : Int32 × (Nat → Int64) × Int32 => (fun (r : Int32) (fz2 : Nat → Int64) (q : Int32) => some (.int r)) (u.1) (u.2.1) (u.2.2)) (fun u : Int32 × (Nat → Int64) × Int32 => (fun (r : Int32) (fz2 : Nat → Int64) (q : Int32) => (r = 1 ∧ (n < 0 ∨ 60 < n)) ∨ (r = 0 ∧ ((¬ n < 0 ∧ ¬ 60 < n) ∧ q = if c9 = 0 then 0 else ch) ∧ fz2 0 = (q : Int32).toInt64)) (u.1) (u.2.1) (u.2.2)) (fun u : Int32 × (Nat → Int64) × Int32 => (fun (r : Int32) (fz2 : Nat → Int64) (q : Int32) => [[(oa, .inl (g.2 2, 1, .inr (.inl fz2)))]]) (u.1) (u.2.1) (u.2.2)) zNo zN0 := by
  refine zX.ofH (cc := cL_trial) (maxL := 5) (rt := (some .int)) (by decide) rfl (Nat.le_of_ble_eq_true rfl) ?_
  intro p e s m args below meth c A ls St hr hlocks htab hin hK hT hA hP hD hS hl
  obtain ⟨hx, hb, hml, hown, hts⟩ := id St
  have hl : lv_has ls 5 [(0, .ref x), (1, .int n), (2, .int c9), (3, .ref oa)] := hl
  refine lv_aload_n hx hb dL_trial_0 rfl (lv_at hl 3 rfl) ?_
  refine lv_iconst (v := 0) hx hb dL_trial_1 (by decide) ?_
  refine lv_aload_n hx hb dL_trial_2 rfl (lv_at hl 0 rfl) ?_
  refine lv_iload_n hx hb dL_trial_3 rfl (lv_at hl 1 rfl) ?_
  refine lv_iload_n hx hb dL_trial_4 rfl (lv_at hl 2 rfl) ?_
  refine xcallV (g := g) (q0 := 0) (ci := 9) (As := [.int n, .int c9]) (rest := [.int 0, .ref oa]) St hK hT hA hP hD hS hl.1 [0, 1, 2, 3, 4] [5] rfl rfl rfl (c_trial l hfl g x ta o lo go tt lt mo fo ro fl9 a tx ch jo tr dy sd f ac ls0 ll lm lg ld fc od ad ped wod txd chd jod trd dyd sdd fd n c9 (by assumption)) (cwV 2 hts (zgL (zl4 k1274 k1275 k1276 k595) k769) rfl rfl rfl (by decide +kernel) ⟨Nat.le_of_ble_eq_true rfl, Nat.le_of_ble_eq_true rfl⟩) rfl rfl rfl rfl (Nat.le_of_ble_eq_true rfl) dL_trial_5 ⟨(Nat.le_of_ble_eq_true rfl), (Nat.le_of_ble_eq_true rfl)⟩ (fun E ce q9 u9 H locs hpx hP hD hS hce hcv hcl => ?_) (fun q_1 H locs hq2 hP hD hS => ?_)
  · skip
    have hpx : (fun (E : String) (_ : Unit) => E = "java/lang/IllegalArgumentException" ∧ (n < 0 ∨ 60 < n)) E u9 := hpx
    have hP : va_P g.1 vwCl (List.flatten [[(oa, .inl (g.2 2, 1, .inr (.inl fz)))]]) H := hP
    have hD : va_D A (List.flatten [[(oa, .inl (g.2 2, 1, .inr (.inl fz)))]]) := hD
    obtain ⟨rfl, hpy⟩ := hpx
    refine vx_catch hown [] ⟨0, 10, 13, 13⟩ [] (by rw [htab]; rfl) (fun z hz => absurd hz List.not_mem_nil) (by decide) (by decide) (hts _ k1153) ((hT.2.2.2.2.1 _ (List.mem_of_getElem? (i := 1) rfl)).use) hce hcv hcl ?_
    refine W.widen (k := 1) (n := 6) (Nat.le_of_ble_eq_true rfl) (Nat.le_of_ble_eq_true rfl) ?_
    refine lv_astore (lv' := [(4, .ref q9), (0, .ref x), (1, .int n), (2, .int c9), (3, .ref oa)]) hx hb dL_trial_13 hl (by decide) rfl (fun ls hl => ?_)
    refine lv_iconst (v := 1) hx hb dL_trial_15 (by decide) ?_
    have hP : va_P g.1 vwCl (List.flatten [[(oa, .inl (g.2 2, 1, .inr (.inl fz)))]]) H := hP
    have hD : va_D A (List.flatten [[(oa, .inl (g.2 2, 1, .inr (.inl fz)))]]) := hD
    exact zret_i hx hb hr hlocks hS (Nat.le_of_ble_eq_true rfl) (Nat.le_of_ble_eq_true rfl) dL_trial_16 (1, fz, 0) rfl (Or.inl ⟨rfl, hpy⟩) hP hD
  · skip
    have hq2 : (¬ n < 0 ∧ ¬ 60 < n) ∧ q_1 = if c9 = 0 then 0 else ch := hq2
    have hP : va_P g.1 vwCl (List.flatten [[(oa, .inl (g.2 2, 1, .inr (.inl fz)))]]) H := hP
    have hD : va_D A (List.flatten [[(oa, .inl (g.2 2, 1, .inr (.inl fz)))]]) := hD
    refine W.widen (k := 1) (n := 6) (Nat.le_of_ble_eq_true rfl) (Nat.le_of_ble_eq_true rfl) ?_
    refine W.eq (g2 := F0 m 8 ls [.int q_1, .int 0, .ref oa]) rfl ?_
    refine lv_i2l (v := (q_1 : Int32).toInt64) hx hb dL_trial_8 rfl ?_
    refine va_last hx hb hK hP hD hS 0 2 rfl rfl (zin rfl) dL_trial_9 (fun H locs hP hD hS => ?_)
    have hP : va_P g.1 vwCl (List.flatten [[(oa, .inl (g.2 2, 1, .inr (.inl (vp_updL fz 0 ((q_1 : Int32).toInt64)))))]]) H := hP
    have hD : va_D A (List.flatten [[(oa, .inl (g.2 2, 1, .inr (.inl (vp_updL fz 0 ((q_1 : Int32).toInt64)))))]]) := hD
    refine lv_goto (tgt := 17) hx hb dL_trial_10 (by decide) ?_
    refine lv_iconst (v := 0) hx hb dL_trial_17 (by decide) ?_
    have hP : va_P g.1 vwCl (List.flatten [[(oa, .inl (g.2 2, 1, .inr (.inl (vp_updL fz 0 ((q_1 : Int32).toInt64)))))]]) H := hP
    have hD : va_D A (List.flatten [[(oa, .inl (g.2 2, 1, .inr (.inl (vp_updL fz 0 ((q_1 : Int32).toInt64)))))]]) := hD
    exact zret_i hx hb hr hlocks hS (Nat.le_of_ble_eq_true rfl) (Nat.le_of_ble_eq_true rfl) dL_trial_18 (0, vp_updL fz 0 ((q_1 : Int32).toInt64), q_1) rfl (Or.inr ⟨rfl, hq2, rfl⟩) hP hD
set_option maxRecDepth 100000 in
set_option maxHeartbeats 4000000 in
theorem l_span (l : Launch) (hfl : l.stackTraces = false) (g : zG) (x : Nat) (ta : Nat) (o : Nat) (lo : Nat) (go : Nat) (tt : Nat) (lt : Nat) (mo : Nat) (fo : Nat) (ro : Nat) (fl9 : Int32) (a : Nat → Nat) (tx : Int32) (ch : Int32) (jo : Int32) (tr : Int32) (dy : Int32) (sd : Int32) (f : Nat → Nat → Int32) (ac : Nat) (ls0 : Int32) (ll : Int32) (lm : Int32) (lg : Int32) (ld : Int32) (fc : Nat → Int32) (od : Nat) (ad : Nat → Nat) (ped : Int32) (wod : Int32) (txd : Int32) (chd : Int32) (jod : Int32) (trd : Int32) (dyd : Int32) (sdd : Int32) (fd : Nat → Nat → Int32) (n : Int32) (m9 : Int32) (oa : Nat) (fz : Nat → Int64) (hz : zZ (f 4)) : zX g l yL_span (Cond.codeWith yL_span cL_span 5 (some .int) [(0, 10, 13, 13)] :: zB) ({ frames := 8, cells := 1, slots := 6, locals := 158 } : Room) [.ref x, .int n, .int m9, .ref oa] [bDR g x ta o lo go tt lt mo fo ro fl9, bTown g o a 0 0 tx ch jo tr dy sd f, [(fo, .inr (0, [.ref o, .ref lo, .ref od]))], bLaw g lo ac ls0 ll lm lg ld fc, bTown g od ad ped wod txd chd jod trd dyd sdd fd, [(oa, .inl (g.2 2, 1, .inr (.inl fz)))]] (fun u : Int32 × (Nat → Int64) => (fun (r : Int32) (fz2 : Nat → Int64) => some (.int r)) (u.1) (u.2)) (fun u : Int32 × (Nat → Int64) => (fun (r : Int32) (fz2 : Nat → Int64) => (r = 1 ∧ (n < 0 ∨ 60 < n)) ∨ (r = 0 ∧ (¬ n < 0 ∧ ¬ 60 < n) ∧ fz2 0 = (0 : Int32).toInt64)) (u.1) (u.2)) (fun u : Int32 × (Nat → Int64) => (fun (r : Int32) (fz2 : Nat → Int64) => [[(oa, .inl (g.2 2, 1, .inr (.inl fz2)))]]) (u.1) (u.2)) zNo zN0 := by
  refine zX.ofH (cc := cL_span) (maxL := 5) (rt := (some .int)) (by decide) rfl (Nat.le_of_ble_eq_true rfl) ?_
  intro p e s m args below meth c A ls St hr hlocks htab hin hK hT hA hP hD hS hl
  obtain ⟨hx, hb, hml, hown, hts⟩ := id St
  have hl : lv_has ls 5 [(0, .ref x), (1, .int n), (2, .int m9), (3, .ref oa)] := hl
  refine lv_aload_n hx hb dL_span_0 rfl (lv_at hl 3 rfl) ?_
  refine lv_iconst (v := 0) hx hb dL_span_1 (by decide) ?_
  refine lv_aload_n hx hb dL_span_2 rfl (lv_at hl 0 rfl) ?_
  refine lv_iload_n hx hb dL_span_3 rfl (lv_at hl 1 rfl) ?_
  refine lv_iload_n hx hb dL_span_4 rfl (lv_at hl 2 rfl) ?_
  refine xcallV (g := g) (q0 := 0) (ci := 9) (As := [.int n, .int m9]) (rest := [.int 0, .ref oa]) St hK hT hA hP hD hS hl.1 [0, 1, 2, 3, 4] [5] rfl rfl rfl (c_span l hfl g x ta o lo go tt lt mo fo ro fl9 a tx ch jo tr dy sd f ac ls0 ll lm lg ld fc od ad ped wod txd chd jod trd dyd sdd fd n m9 (by assumption)) (cwV 2 hts (zgL (zl4 k1278 k1279 k1280 k595) k773) rfl rfl rfl (by decide +kernel) ⟨Nat.le_of_ble_eq_true rfl, Nat.le_of_ble_eq_true rfl⟩) rfl rfl rfl rfl (Nat.le_of_ble_eq_true rfl) dL_span_5 ⟨(Nat.le_of_ble_eq_true rfl), (Nat.le_of_ble_eq_true rfl)⟩ (fun E ce q9 u9 H locs hpx hP hD hS hce hcv hcl => ?_) (fun _u H locs hq1 hP hD hS => ?_)
  · skip
    have hpx : (fun (E : String) (_ : Unit) => E = "java/lang/IllegalArgumentException" ∧ (n < 0 ∨ 60 < n)) E u9 := hpx
    have hP : va_P g.1 vwCl (List.flatten [[(oa, .inl (g.2 2, 1, .inr (.inl fz)))]]) H := hP
    have hD : va_D A (List.flatten [[(oa, .inl (g.2 2, 1, .inr (.inl fz)))]]) := hD
    obtain ⟨rfl, hpy⟩ := hpx
    refine vx_catch hown [] ⟨0, 10, 13, 13⟩ [] (by rw [htab]; rfl) (fun z hz => absurd hz List.not_mem_nil) (by decide) (by decide) (hts _ k1153) ((hT.2.2.2.2.1 _ (List.mem_of_getElem? (i := 1) rfl)).use) hce hcv hcl ?_
    refine W.widen (k := 1) (n := 6) (Nat.le_of_ble_eq_true rfl) (Nat.le_of_ble_eq_true rfl) ?_
    refine lv_astore (lv' := [(4, .ref q9), (0, .ref x), (1, .int n), (2, .int m9), (3, .ref oa)]) hx hb dL_span_13 hl (by decide) rfl (fun ls hl => ?_)
    refine lv_iconst (v := 1) hx hb dL_span_15 (by decide) ?_
    have hP : va_P g.1 vwCl (List.flatten [[(oa, .inl (g.2 2, 1, .inr (.inl fz)))]]) H := hP
    have hD : va_D A (List.flatten [[(oa, .inl (g.2 2, 1, .inr (.inl fz)))]]) := hD
    exact zret_i hx hb hr hlocks hS (Nat.le_of_ble_eq_true rfl) (Nat.le_of_ble_eq_true rfl) dL_span_16 (1, fz) rfl (Or.inl ⟨rfl, hpy⟩) hP hD
  · skip
    have hq1 : ¬ n < 0 ∧ ¬ 60 < n := hq1
    have hP : va_P g.1 vwCl (List.flatten [[(oa, .inl (g.2 2, 1, .inr (.inl fz)))]]) H := hP
    have hD : va_D A (List.flatten [[(oa, .inl (g.2 2, 1, .inr (.inl fz)))]]) := hD
    refine W.widen (k := 1) (n := 6) (Nat.le_of_ble_eq_true rfl) (Nat.le_of_ble_eq_true rfl) ?_
    refine W.eq (g2 := F0 m 8 ls [.int 0, .int 0, .ref oa]) rfl ?_
    refine lv_i2l (v := (0 : Int32).toInt64) hx hb dL_span_8 rfl ?_
    refine ztopl (r := 0) (by decide) ?_
    refine va_last hx hb hK hP hD hS 0 2 rfl rfl (zin rfl) dL_span_9 (fun H locs hP hD hS => ?_)
    have hP : va_P g.1 vwCl (List.flatten [[(oa, .inl (g.2 2, 1, .inr (.inl (vp_updL fz 0 0))))]]) H := hP
    have hD : va_D A (List.flatten [[(oa, .inl (g.2 2, 1, .inr (.inl (vp_updL fz 0 0))))]]) := hD
    refine lv_goto (tgt := 17) hx hb dL_span_10 (by decide) ?_
    refine lv_iconst (v := 0) hx hb dL_span_17 (by decide) ?_
    have hP : va_P g.1 vwCl (List.flatten [[(oa, .inl (g.2 2, 1, .inr (.inl (vp_updL fz 0 0))))]]) H := hP
    have hD : va_D A (List.flatten [[(oa, .inl (g.2 2, 1, .inr (.inl (vp_updL fz 0 0))))]]) := hD
    exact zret_i hx hb hr hlocks hS (Nat.le_of_ble_eq_true rfl) (Nat.le_of_ble_eq_true rfl) dL_span_18 (0, vp_updL fz 0 0) rfl (Or.inr ⟨rfl, hq1, rfl⟩) hP hD
set_option maxRecDepth 100000 in
set_option maxHeartbeats 4000000 in
theorem l_led (l : Launch) (hfl : l.stackTraces = false) (g : zG) (x : Nat) (ta : Nat) (o : Nat) (lo : Nat) (go : Nat) (tt : Nat) (lt : Nat) (mo : Nat) (fo : Nat) (ro : Nat) (fl9 : Int32) (o : Nat) (a : Nat → Nat) (tx : Int32) (ch : Int32) (jo : Int32) (tr : Int32) (dy : Int32) (sd : Int32) (f : Nat → Nat → Int32) (n1 : Int32) (n2 : Int32) (oa : Nat) (fz : Nat → Int64)  : zX g l yL_led (Cond.codeWith yL_led cL_led 5 (some .int) [(0, 10, 13, 24)] :: zB) ({ frames := 8, cells := 1, slots := 6, locals := 125 } : Room) [.ref x, .int n1, .int n2, .ref oa] [bDR g x ta o lo go tt lt mo fo ro fl9, bTown g o a 0 0 tx ch jo tr dy sd f, [(oa, .inl (g.2 2, 1, .inr (.inl fz)))]] (fun u : Int32 × (Nat → Int64) => (fun (r : Int32) (fz2 : Nat → Int64) => some (.int r)) (u.1) (u.2)) (fun u : Int32 × (Nat → Int64) => (fun (r : Int32) (fz2 : Nat → Int64) => r = 1) (u.1) (u.2)) (fun u : Int32 × (Nat → Int64) => (fun (r : Int32) (fz2 : Nat → Int64) => [[(oa, .inl (g.2 2, 1, .inr (.inl fz2)))]]) (u.1) (u.2)) zNo zN0 := by
  refine zX.ofH (cc := cL_led) (maxL := 5) (rt := (some .int)) (by decide) rfl (Nat.le_of_ble_eq_true rfl) ?_
  intro p e s m args below meth c A ls St hr hlocks htab hin hK hT hA hP hD hS hl
  obtain ⟨hx, hb, hml, hown, hts⟩ := id St
  have hl : lv_has ls 5 [(0, .ref x), (1, .int n1), (2, .int n2), (3, .ref oa)] := hl
  refine lv_aload_n hx hb dL_led_0 rfl (lv_at hl 3 rfl) ?_
  refine lv_iconst (v := 0) hx hb dL_led_1 (by decide) ?_
  refine lv_aload_n hx hb dL_led_2 rfl (lv_at hl 0 rfl) ?_
  refine lv_iload_n hx hb dL_led_3 rfl (lv_at hl 1 rfl) ?_
  refine lv_iload_n hx hb dL_led_4 rfl (lv_at hl 2 rfl) ?_
  refine xcallV (g := g) (q0 := 0) (ci := 9) (As := [.int n1, .int n2]) (rest := [.int 0, .ref oa]) St hK hT hA hP hD hS hl.1 [0, 1] [2] rfl rfl rfl (c_led l hfl g x ta o lo go tt lt mo fo ro fl9 o a tx ch jo tr dy sd f n1 n2 ) (cwV 2 hts (zgL (zl4 k1282 k1283 k1284 k595) k789) rfl rfl rfl (by decide +kernel) ⟨Nat.le_of_ble_eq_true rfl, Nat.le_of_ble_eq_true rfl⟩) rfl rfl rfl rfl (Nat.le_of_ble_eq_true rfl) dL_led_5 ⟨(Nat.le_of_ble_eq_true rfl), (Nat.le_of_ble_eq_true rfl)⟩ (fun E ce q9 u9 H locs hpx hP hD hS hce hcv hcl => ?_) (fun rr_1 H locs hq2 hP hD hS => ?_)
  · skip
    have hpx : (fun (E : String) (_ : Unit) => E = "java/lang/IndexOutOfBoundsException") E u9 := hpx
    have hP : va_P g.1 vwCl (List.flatten [[(oa, .inl (g.2 2, 1, .inr (.inl fz)))]]) H := hP
    have hD : va_D A (List.flatten [[(oa, .inl (g.2 2, 1, .inr (.inl fz)))]]) := hD
    obtain rfl := hpx
    refine vx_catch hown [] ⟨0, 10, 13, 24⟩ [] (by rw [htab]; rfl) (fun z hz => absurd hz List.not_mem_nil) (by decide) (by decide) (hts _ k1163) ((hT.2.2.2.2.1 _ (List.mem_of_getElem? (i := 0) rfl)).use) hce hcv hcl ?_
    refine W.widen (k := 1) (n := 6) (Nat.le_of_ble_eq_true rfl) (Nat.le_of_ble_eq_true rfl) ?_
    refine lv_astore (lv' := [(4, .ref q9), (0, .ref x), (1, .int n1), (2, .int n2), (3, .ref oa)]) hx hb dL_led_13 hl (by decide) rfl (fun ls hl => ?_)
    refine lv_iconst (v := 1) hx hb dL_led_15 (by decide) ?_
    have hP : va_P g.1 vwCl (List.flatten [[(oa, .inl (g.2 2, 1, .inr (.inl fz)))]]) H := hP
    have hD : va_D A (List.flatten [[(oa, .inl (g.2 2, 1, .inr (.inl fz)))]]) := hD
    exact zret_i hx hb hr hlocks hS (Nat.le_of_ble_eq_true rfl) (Nat.le_of_ble_eq_true rfl) dL_led_16 (1, fz) rfl rfl hP hD
  · skip
    have hq2 : False := hq2
    exact hq2.elim
