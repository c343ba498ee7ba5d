set_option maxRecDepth 100000 in
set_option maxHeartbeats 4000000 in
theorem c_x_back (l : Launch) (g : zG) (x : Nat) (ta : Nat) (o : Nat) (lo : Nat) (go : Nat) (tt : Nat) (lt : Nat) (mo : Nat) (fo : Nat) (ro : Nat) (fl9 : Int32) (a : Nat → Nat) (pe : Int32) (wo : Int32) (tx : Int32) (ch : Int32) (jo : Int32) (tr : Int32) (dy : Int32) (sd : Int32) (f : Nat → Nat → Int32) (lc : Nat) (lz : Int32) (ll : Int32) (lm : Int32) (lg : Int32) (ld : Int32) (fc : Nat → Int32) (gr : Nat) (gz : Int32) (gn : Int32) (fr : Nat → Int32) (qT : Nat) (qL : Nat) (it : Nat) (il : Nat) (ig : Nat) (mh : Int32) (me : Int32) (mx : Int32) (fT : Nat → Option Nat) (fL : Nat → Option Nat) (aI : Nat → Nat) (peI : Int32) (woI : Int32) (txI : Int32) (chI : Int32) (joI : Int32) (trI : Int32) (dyI : Int32) (sdI : Int32) (fI : Nat → Nat → Int32) (lcI : Nat) (lzI : Int32) (llI : Int32) (lmI : Int32) (lgI : Int32) (ldI : Int32) (fcI : Nat → Int32) (grI : Nat) (gzI : Int32) (gnI : Int32) (frI : Nat → Int32) (b_pe : 0 ≤ pe.toInt ∧ pe.toInt ≤ 8) (b_wo : 0 ≤ wo.toInt ∧ wo.toInt ≤ 6) (rf : zZ4 f) (b_lz : 0 ≤ lz.toInt ∧ lz.toInt ≤ 400) (b_gz : 0 ≤ gz.toInt ∧ gz.toInt ≤ 60) (b_gn : 0 ≤ gn.toInt ∧ gn.toInt ≤ 59) (b_me : 0 ≤ me.toInt ∧ me.toInt ≤ 12) (b_mx : 0 ≤ mx.toInt ∧ mx.toInt ≤ 11) (b_peI : 0 ≤ peI.toInt ∧ peI.toInt ≤ 8) (b_woI : 0 ≤ woI.toInt ∧ woI.toInt ≤ 6) (rfI : zZ4 fI) (b_lzI : 0 ≤ lzI.toInt ∧ lzI.toInt ≤ 400) (b_gzI : 0 ≤ gzI.toInt ∧ gzI.toInt ≤ 60) (b_gnI : 0 ≤ gnI.toInt ∧ gnI.toInt ≤ 59) : zM' g l yX11_back (Cond.code yX11_back cX11_back 1 (some .boolean) :: zB) ({ frames := 3, cells := 0, slots := 0, locals := 84 } : Room) [.ref x] [bDR g x ta o lo go tt lt mo fo ro fl9, bTown g o a pe wo tx ch jo tr dy sd f, bLaw g lo lc lz ll lm lg ld fc, bLog g go gr gz gn fr, bMem g mo qT qL it il ig mh me mx fT fL, bTown g it aI peI woI txI chI joI trI dyI sdI fI, bLaw g il lcI lzI llI lmI lgI ldI fcI, bLog g ig grI gzI gnI frI] (fun u : Int32 × Int32 × Int32 × Int32 × Int32 × Int32 × Int32 × Int32 × (Nat → Nat → Int32) × Int32 × Int32 × (Nat → Int32) × Int32 × Int32 × (Nat → Int32) × Int32 × Int32 => (fun (pe2 : Int32) (wo2 : Int32) (tx2 : Int32) (ch2 : Int32) (jo2 : Int32) (tr2 : Int32) (dy2 : Int32) (sd2 : Int32) (f2 : Nat → Nat → Int32) (lz2 : Int32) (ll2 : Int32) (fc2 : Nat → Int32) (gz2 : Int32) (gn2 : Int32) (fr2 : Nat → Int32) (me2 : Int32) (q : Int32) => some (.int q)) (u.1) (u.2.1) (u.2.2.1) (u.2.2.2.1) (u.2.2.2.2.1) (u.2.2.2.2.2.1) (u.2.2.2.2.2.2.1) (u.2.2.2.2.2.2.2.1) (u.2.2.2.2.2.2.2.2.1) (u.2.2.2.2.2.2.2.2.2.1) (u.2.2.2.2.2.2.2.2.2.2.1) (u.2.2.2.2.2.2.2.2.2.2.2.1) (u.2.2.2.2.2.2.2.2.2.2.2.2.1) (u.2.2.2.2.2.2.2.2.2.2.2.2.2.1) (u.2.2.2.2.2.2.2.2.2.2.2.2.2.2.1) (u.2.2.2.2.2.2.2.2.2.2.2.2.2.2.2.1) (u.2.2.2.2.2.2.2.2.2.2.2.2.2.2.2.2)) (fun u : Int32 × Int32 × Int32 × Int32 × Int32 × Int32 × Int32 × Int32 × (Nat → Nat → Int32) × Int32 × Int32 × (Nat → Int32) × Int32 × Int32 × (Nat → Int32) × Int32 × Int32 => (fun (pe2 : Int32) (wo2 : Int32) (tx2 : Int32) (ch2 : Int32) (jo2 : Int32) (tr2 : Int32) (dy2 : Int32) (sd2 : Int32) (f2 : Nat → Nat → Int32) (lz2 : Int32) (ll2 : Int32) (fc2 : Nat → Int32) (gz2 : Int32) (gn2 : Int32) (fr2 : Nat → Int32) (me2 : Int32) (q : Int32) => (0 ≤ pe2.toInt ∧ pe2.toInt ≤ 8) ∧ (0 ≤ wo2.toInt ∧ wo2.toInt ≤ 6) ∧ (zZ4 f2) ∧ (0 ≤ lz2.toInt ∧ lz2.toInt ≤ 400) ∧ (0 ≤ gz2.toInt ∧ gz2.toInt ≤ 60) ∧ (0 ≤ gn2.toInt ∧ gn2.toInt ≤ 59) ∧ (0 ≤ me2.toInt ∧ me2.toInt ≤ 12) ∧ (q = 1 ∧ ¬ mh.toInt = 0 ∨ q = 0 ∧ mh.toInt = 0)) (u.1) (u.2.1) (u.2.2.1) (u.2.2.2.1) (u.2.2.2.2.1) (u.2.2.2.2.2.1) (u.2.2.2.2.2.2.1) (u.2.2.2.2.2.2.2.1) (u.2.2.2.2.2.2.2.2.1) (u.2.2.2.2.2.2.2.2.2.1) (u.2.2.2.2.2.2.2.2.2.2.1) (u.2.2.2.2.2.2.2.2.2.2.2.1) (u.2.2.2.2.2.2.2.2.2.2.2.2.1) (u.2.2.2.2.2.2.2.2.2.2.2.2.2.1) (u.2.2.2.2.2.2.2.2.2.2.2.2.2.2.1) (u.2.2.2.2.2.2.2.2.2.2.2.2.2.2.2.1) (u.2.2.2.2.2.2.2.2.2.2.2.2.2.2.2.2)) (fun u : Int32 × Int32 × Int32 × Int32 × Int32 × Int32 × Int32 × Int32 × (Nat → Nat → Int32) × Int32 × Int32 × (Nat → Int32) × Int32 × Int32 × (Nat → Int32) × Int32 × Int32 => (fun (pe2 : Int32) (wo2 : Int32) (tx2 : Int32) (ch2 : Int32) (jo2 : Int32) (tr2 : Int32) (dy2 : Int32) (sd2 : Int32) (f2 : Nat → Nat → Int32) (lz2 : Int32) (ll2 : Int32) (fc2 : Nat → Int32) (gz2 : Int32) (gn2 : Int32) (fr2 : Nat → Int32) (me2 : Int32) (q : Int32) => [bDR g x ta o lo go tt lt mo fo ro fl9, bTown g o a pe2 wo2 tx2 ch2 jo2 tr2 dy2 sd2 f2, bLaw g lo lc lz2 ll2 lm lg ld fc2, bLog g go gr gz2 gn2 fr2, bMem g mo qT qL it il ig mh me2 mx fT fL, bTown g it aI peI woI txI chI joI trI dyI sdI fI, bLaw g il lcI lzI llI lmI lgI ldI fcI, bLog g ig grI gzI gnI frI]) (u.1) (u.2.1) (u.2.2.1) (u.2.2.2.1) (u.2.2.2.2.1) (u.2.2.2.2.2.1) (u.2.2.2.2.2.2.1) (u.2.2.2.2.2.2.2.1) (u.2.2.2.2.2.2.2.2.1) (u.2.2.2.2.2.2.2.2.2.1) (u.2.2.2.2.2.2.2.2.2.2.1) (u.2.2.2.2.2.2.2.2.2.2.2.1) (u.2.2.2.2.2.2.2.2.2.2.2.2.1) (u.2.2.2.2.2.2.2.2.2.2.2.2.2.1) (u.2.2.2.2.2.2.2.2.2.2.2.2.2.2.1) (u.2.2.2.2.2.2.2.2.2.2.2.2.2.2.2.1) (u.2.2.2.2.2.2.2.2.2.2.2.2.2.2.2.2)) := by
  refine zM'.of (cc := cX11_back) (maxL := 1) (rt := (some .boolean)) (by decide) rfl (Nat.le_of_ble_eq_true rfl) ?_
  intro p e s m args below meth c A ls St hr hlocks hin hK hT hA hP hD hS hl
  obtain ⟨hx, hb, hml, hown, hts⟩ := id St
  have hl : lv_has ls 1 [(0, .ref x)] := hl
  refine lv_aload_n hx hb dX11_back_0 rfl (lv_at hl 0 rfl) ?_
  refine va_get (D := g.1) (ci := 9) (v := .ref mo) (C := RX11) (T := TX11) (N := 10) hx hb hts izRX11 hown hK hP 0 rfl rfl 6 (by decide) (hts _ k551) (fun _ h9 => h9) rfl dX11_back_1 ?_
  refine lv_aload_n hx hb dX11_back_4 rfl (lv_at hl 0 rfl) ?_
  refine va_get (D := g.1) (ci := 9) (v := .ref o) (C := RX11) (T := TX11) (N := 10) hx hb hts izRX11 hown hK hP 0 rfl rfl 1 (by decide) (hts _ k538) (fun _ h9 => h9) rfl dX11_back_5 ?_
  refine lv_aload_n hx hb dX11_back_8 rfl (lv_at hl 0 rfl) ?_
  refine va_get (D := g.1) (ci := 9) (v := .ref lo) (C := RX11) (T := TX11) (N := 10) hx hb hts izRX11 hown hK hP 0 rfl rfl 2 (by decide) (hts _ k540) (fun _ h9 => h9) rfl dX11_back_9 ?_
  refine lv_aload_n hx hb dX11_back_12 rfl (lv_at hl 0 rfl) ?_
  refine va_get (D := g.1) (ci := 9) (v := .ref go) (C := RX11) (T := TX11) (N := 10) hx hb hts izRX11 hown hK hP 0 rfl rfl 3 (by decide) (hts _ k542) (fun _ h9 => h9) rfl dX11_back_13 ?_
  refine mcallV' (g := g) (q0 := 0) (ci := 4) (As := [.ref o, .ref lo, .ref go]) (rest := []) St hK hT hA hP hD hS hl.1 [4, 1, 2, 3, 5, 6, 7] [0] rfl rfl rfl (c_m_giveBackImage l g mo qT qL it il ig mh me mx fT fL o a pe wo tx ch jo tr dy sd f lo lc lz ll lm lg ld fc go gr gz gn fr aI peI woI txI chI joI trI dyI sdI fI lcI lzI llI lmI lgI ldI fcI grI gzI gnI frI b_me b_mx b_pe b_wo rf b_lz b_gz b_gn b_peI b_woI rfI b_lzI b_gzI b_gnI) (cwV 3 hts (zgL (zl4 k801 k802 k803 k378) k379) rfl rfl rfl (by decide +kernel) ⟨Nat.le_of_ble_eq_true rfl, Nat.le_of_ble_eq_true rfl⟩) rfl rfl rfl rfl (Nat.le_of_ble_eq_true rfl) dX11_back_16 ⟨(Nat.le_of_ble_eq_true rfl), (Nat.le_of_ble_eq_true rfl)⟩ (fun u_ H locs hq18 hP hD hS => ?_)
  obtain ⟨me2_1, pe2_2, wo2_3, tx2_4, ch2_5, jo2_6, tr2_7, dy2_8, sd2_9, f2_10, lz2_11, ll2_12, fc2_13, gz2_14, gn2_15, fr2_16, q_17⟩ := u_
  replace hq18 : (0 ≤ me2_1.toInt ∧ me2_1.toInt ≤ 12) ∧ (0 ≤ pe2_2.toInt ∧ pe2_2.toInt ≤ 8) ∧ (0 ≤ wo2_3.toInt ∧ wo2_3.toInt ≤ 6) ∧ (zZ4 f2_10) ∧ (0 ≤ lz2_11.toInt ∧ lz2_11.toInt ≤ 400) ∧ (0 ≤ gz2_14.toInt ∧ gz2_14.toInt ≤ 60) ∧ (0 ≤ gn2_15.toInt ∧ gn2_15.toInt ≤ 59) ∧ (q_17 = 1 ∧ ¬ mh.toInt = 0 ∨ q_17 = 0 ∧ mh.toInt = 0) := hq18
  have hP : va_P g.1 vwCl (List.flatten [bDR g x ta o lo go tt lt mo fo ro fl9, bMem g mo qT qL it il ig mh me2_1 mx fT fL, bTown g o a pe2_2 wo2_3 tx2_4 ch2_5 jo2_6 tr2_7 dy2_8 sd2_9 f2_10, bLaw g lo lc lz2_11 ll2_12 lm lg ld fc2_13, bLog g go gr gz2_14 gn2_15 fr2_16, bTown g it aI peI woI txI chI joI trI dyI sdI fI, bLaw g il lcI lzI llI lmI lgI ldI fcI, bLog g ig grI gzI gnI frI]) H := hP
  have hD : va_D A (List.flatten [bDR g x ta o lo go tt lt mo fo ro fl9, bMem g mo qT qL it il ig mh me2_1 mx fT fL, bTown g o a pe2_2 wo2_3 tx2_4 ch2_5 jo2_6 tr2_7 dy2_8 sd2_9 f2_10, bLaw g lo lc lz2_11 ll2_12 lm lg ld fc2_13, bLog g go gr gz2_14 gn2_15 fr2_16, bTown g it aI peI woI txI chI joI trI dyI sdI fI, bLaw g il lcI lzI llI lmI lgI ldI fcI, bLog g ig grI gzI gnI frI]) := hD
  refine W.widen (k := 0) (n := 0) (Nat.le_of_ble_eq_true rfl) (Nat.le_of_ble_eq_true rfl) ?_
  refine W.eq (g2 := F0 m 19 ls [.int q_17]) rfl ?_
  obtain ⟨hq18_0, hq18_1, hq18_2, rf2_10, hq18_4, hq18_5, hq18_6, hq18_7⟩ := hq18
  rcases hq18_7 with ⟨rfl, hq18_k⟩ | ⟨rfl, hq18_k⟩
  · skip
    have hP : va_P g.1 vwCl (List.flatten [bDR g x ta o lo go tt lt mo fo ro fl9, bMem g mo qT qL it il ig mh me2_1 mx fT fL, bTown g o a pe2_2 wo2_3 tx2_4 ch2_5 jo2_6 tr2_7 dy2_8 sd2_9 f2_10, bLaw g lo lc lz2_11 ll2_12 lm lg ld fc2_13, bLog g go gr gz2_14 gn2_15 fr2_16, bTown g it aI peI woI txI chI joI trI dyI sdI fI, bLaw g il lcI lzI llI lmI lgI ldI fcI, bLog g ig grI gzI gnI frI]) H := hP
    have hD : va_D A (List.flatten [bDR g x ta o lo go tt lt mo fo ro fl9, bMem g mo qT qL it il ig mh me2_1 mx fT fL, bTown g o a pe2_2 wo2_3 tx2_4 ch2_5 jo2_6 tr2_7 dy2_8 sd2_9 f2_10, bLaw g lo lc lz2_11 ll2_12 lm lg ld fc2_13, bLog g go gr gz2_14 gn2_15 fr2_16, bTown g it aI peI woI txI chI joI trI dyI sdI fI, bLaw g il lcI lzI llI lmI lgI ldI fcI, bLog g ig grI gzI gnI frI]) := hD
    obtain ⟨hP, hD⟩ := zord (g := g) (Bs' := [bDR g x ta o lo go tt lt mo fo ro fl9, bTown g o a pe2_2 wo2_3 tx2_4 ch2_5 jo2_6 tr2_7 dy2_8 sd2_9 f2_10, bLaw g lo lc lz2_11 ll2_12 lm lg ld fc2_13, bLog g go gr gz2_14 gn2_15 fr2_16, bMem g mo qT qL it il ig mh me2_1 mx fT fL, bTown g it aI peI woI txI chI joI trI dyI sdI fI, bLaw g il lcI lzI llI lmI lgI ldI fcI, bLog g ig grI gzI gnI frI]) [0, 2, 3, 4, 1, 5, 6, 7] rfl rfl hP hD
    exact mret_z hx hb hr hlocks hS (Nat.le_of_ble_eq_true rfl) (Nat.le_of_ble_eq_true rfl) dX11_back_19 (pe2_2, wo2_3, tx2_4, ch2_5, jo2_6, tr2_7, dy2_8, sd2_9, f2_10, lz2_11, ll2_12, fc2_13, gz2_14, gn2_15, fr2_16, me2_1, (1 : Int32)) rfl (by decide) (show (0 ≤ pe2_2.toInt ∧ pe2_2.toInt ≤ 8) ∧ (0 ≤ wo2_3.toInt ∧ wo2_3.toInt ≤ 6) ∧ (zZ4 f2_10) ∧ (0 ≤ lz2_11.toInt ∧ lz2_11.toInt ≤ 400) ∧ (0 ≤ gz2_14.toInt ∧ gz2_14.toInt ≤ 60) ∧ (0 ≤ gn2_15.toInt ∧ gn2_15.toInt ≤ 59) ∧ (0 ≤ me2_1.toInt ∧ me2_1.toInt ≤ 12) ∧ (1 = 1 ∧ ¬ mh.toInt = 0 ∨ 1 = 0 ∧ mh.toInt = 0) from ⟨(by first | assumption | omega | decide), (by first | assumption | omega | decide), (by first | assumption | omega | decide), (by first | assumption | omega | decide), (by first | assumption | omega | decide), (by first | assumption | omega | decide), (by first | assumption | omega | decide), (by first | exact Or.inl ⟨rfl, by omega⟩ | exact Or.inr ⟨rfl, by omega⟩)⟩) hP hD
  · skip
    have hP : va_P g.1 vwCl (List.flatten [bDR g x ta o lo go tt lt mo fo ro fl9, bMem g mo qT qL it il ig mh me2_1 mx fT fL, bTown g o a pe2_2 wo2_3 tx2_4 ch2_5 jo2_6 tr2_7 dy2_8 sd2_9 f2_10, bLaw g lo lc lz2_11 ll2_12 lm lg ld fc2_13, bLog g go gr gz2_14 gn2_15 fr2_16, bTown g it aI peI woI txI chI joI trI dyI sdI fI, bLaw g il lcI lzI llI lmI lgI ldI fcI, bLog g ig grI gzI gnI frI]) H := hP
    have hD : va_D A (List.flatten [bDR g x ta o lo go tt lt mo fo ro fl9, bMem g mo qT qL it il ig mh me2_1 mx fT fL, bTown g o a pe2_2 wo2_3 tx2_4 ch2_5 jo2_6 tr2_7 dy2_8 sd2_9 f2_10, bLaw g lo lc lz2_11 ll2_12 lm lg ld fc2_13, bLog g go gr gz2_14 gn2_15 fr2_16, bTown g it aI peI woI txI chI joI trI dyI sdI fI, bLaw g il lcI lzI llI lmI lgI ldI fcI, bLog g ig grI gzI gnI frI]) := hD
    obtain ⟨hP, hD⟩ := zord (g := g) (Bs' := [bDR g x ta o lo go tt lt mo fo ro fl9, bTown g o a pe2_2 wo2_3 tx2_4 ch2_5 jo2_6 tr2_7 dy2_8 sd2_9 f2_10, bLaw g lo lc lz2_11 ll2_12 lm lg ld fc2_13, bLog g go gr gz2_14 gn2_15 fr2_16, bMem g mo qT qL it il ig mh me2_1 mx fT fL, bTown g it aI peI woI txI chI joI trI dyI sdI fI, bLaw g il lcI lzI llI lmI lgI ldI fcI, bLog g ig grI gzI gnI frI]) [0, 2, 3, 4, 1, 5, 6, 7] rfl rfl hP hD
    exact mret_z hx hb hr hlocks hS (Nat.le_of_ble_eq_true rfl) (Nat.le_of_ble_eq_true rfl) dX11_back_19 (pe2_2, wo2_3, tx2_4, ch2_5, jo2_6, tr2_7, dy2_8, sd2_9, f2_10, lz2_11, ll2_12, fc2_13, gz2_14, gn2_15, fr2_16, me2_1, (0 : Int32)) rfl (by decide) (show (0 ≤ pe2_2.toInt ∧ pe2_2.toInt ≤ 8) ∧ (0 ≤ wo2_3.toInt ∧ wo2_3.toInt ≤ 6) ∧ (zZ4 f2_10) ∧ (0 ≤ lz2_11.toInt ∧ lz2_11.toInt ≤ 400) ∧ (0 ≤ gz2_14.toInt ∧ gz2_14.toInt ≤ 60) ∧ (0 ≤ gn2_15.toInt ∧ gn2_15.toInt ≤ 59) ∧ (0 ≤ me2_1.toInt ∧ me2_1.toInt ≤ 12) ∧ (0 = 1 ∧ ¬ mh.toInt = 0 ∨ 0 = 0 ∧ mh.toInt = 0) from ⟨(by first | assumption | omega | decide), (by first | assumption | omega | decide), (by first | assumption | omega | decide), (by first | assumption | omega | decide), (by first | assumption | omega | decide), (by first | assumption | omega | decide), (by first | assumption | omega | decide), (by first | exact Or.inl ⟨rfl, by omega⟩ | exact Or.inr ⟨rfl, by omega⟩)⟩) hP hD
set_option maxRecDepth 100000 in
set_option maxHeartbeats 4000000 in
theorem c_x_count (l : Launch) (g : zG) (x : Nat) (ta : Nat) (o : Nat) (lo : Nat) (go : Nat) (tt : Nat) (lt : Nat) (mo : Nat) (fo : Nat) (ro : Nat) (fl9 : Int32) (a : Nat → Nat) (pe : Int32) (wo : Int32) (tx : Int32) (ch : Int32) (jo : Int32) (tr : Int32) (dy : Int32) (sd : Int32) (f : Nat → Nat → Int32) (lc : Nat) (lz : Int32) (ll : Int32) (lm : Int32) (lg : Int32) (ld : Int32) (fc : Nat → Int32) (gr : Nat) (gz : Int32) (gn : Int32) (fr : Nat → Int32) (qT : Nat) (qL : Nat) (it : Nat) (il : Nat) (ig : Nat) (mh : Int32) (me : Int32) (mx : Int32) (fT : Nat → Option Nat) (fL : Nat → Option Nat) (wh : Int32) (b_pe : 0 ≤ pe.toInt ∧ pe.toInt ≤ 8) (b_wo : 0 ≤ wo.toInt ∧ wo.toInt ≤ 6) (rf : zZ4 f) (b_lz : 0 ≤ lz.toInt ∧ lz.toInt ≤ 400) (b_gz : 0 ≤ gz.toInt ∧ gz.toInt ≤ 60) (b_gn : 0 ≤ gn.toInt ∧ gn.toInt ≤ 59) (b_me : 0 ≤ me.toInt ∧ me.toInt ≤ 12) (b_mx : 0 ≤ mx.toInt ∧ mx.toInt ≤ 11) : zM' g l yX11_count (Cond.code yX11_count cX11_count 2 (some .int) :: zB) ({ frames := 2, cells := 0, slots := 0, locals := 43 } : Room) [.ref x, .int wh] [bDR g x ta o lo go tt lt mo fo ro fl9, bTown g o a pe wo tx ch jo tr dy sd f, bLaw g lo lc lz ll lm lg ld fc, bLog g go gr gz gn fr, bMem g mo qT qL it il ig mh me mx fT fL] (fun (q : Int32) => some (.int q)) (fun (q : Int32) => True) (fun (q : Int32) => [bDR g x ta o lo go tt lt mo fo ro fl9, bTown g o a pe wo tx ch jo tr dy sd f, bLaw g lo lc lz ll lm lg ld fc, bLog g go gr gz gn fr, bMem g mo qT qL it il ig mh me mx fT fL]) := by
  refine zM'.of (cc := cX11_count) (maxL := 2) (rt := (some .int)) (by decide) rfl (Nat.le_of_ble_eq_true rfl) ?_
  intro p e s m args below meth c A ls St hr hlocks hin hK hT hA hP hD hS hl
  obtain ⟨hx, hb, hml, hown, hts⟩ := id St
  have hl : lv_has ls 2 [(0, .ref x), (1, .int wh)] := hl
  refine lv_iload_n hx hb dX11_count_0 rfl (lv_at hl 1 rfl) ?_
  by_cases hsw0 : wh = 0
  · subst hsw0
    refine lv_tableIn (x := 0) (off := 67) (tgt := 68) hx hb dX11_count_1 (by decide) (by decide) rfl (by decide) ?_
    refine lv_aload_n hx hb dX11_count_68 rfl (lv_at hl 0 rfl) ?_
    refine va_get (D := g.1) (ci := 9) (v := .ref o) (C := RX11) (T := TX11) (N := 10) hx hb hts izRX11 hown hK hP 0 rfl rfl 1 (by decide) (hts _ k538) (fun _ h9 => h9) rfl dX11_count_69 ?_
    refine va_get (D := g.1) (ci := 7) (v := .int pe) (C := RX9) (T := TX9) (N := 19) hx hb hts izRX9 hown hK hP 1 rfl rfl 0 (by decide) (hts _ k610) (fun _ h9 => h9) rfl dX11_count_72 ?_
    have hP : va_P g.1 vwCl (List.flatten [bDR g x ta o lo go tt lt mo fo ro fl9, bTown g o a pe wo tx ch jo tr dy sd f, bLaw g lo lc lz ll lm lg ld fc, bLog g go gr gz gn fr, bMem g mo qT qL it il ig mh me mx fT fL]) s.heap := hP
    have hD : va_D A (List.flatten [bDR g x ta o lo go tt lt mo fo ro fl9, bTown g o a pe wo tx ch jo tr dy sd f, bLaw g lo lc lz ll lm lg ld fc, bLog g go gr gz gn fr, bMem g mo qT qL it il ig mh me mx fT fL]) := hD
    exact mret_i hx hb hr hlocks hS (Nat.le_of_ble_eq_true rfl) (Nat.le_of_ble_eq_true rfl) dX11_count_75 (pe) rfl trivial hP hD
  by_cases hsw1 : wh = 1
  · subst hsw1
    refine lv_tableIn (x := 1) (off := 75) (tgt := 76) hx hb dX11_count_1 (by decide) (by decide) rfl (by decide) ?_
    refine lv_aload_n hx hb dX11_count_76 rfl (lv_at hl 0 rfl) ?_
    refine va_get (D := g.1) (ci := 9) (v := .ref o) (C := RX11) (T := TX11) (N := 10) hx hb hts izRX11 hown hK hP 0 rfl rfl 1 (by decide) (hts _ k538) (fun _ h9 => h9) rfl dX11_count_77 ?_
    refine va_get (D := g.1) (ci := 7) (v := .int wo) (C := RX9) (T := TX9) (N := 19) hx hb hts izRX9 hown hK hP 1 rfl rfl 1 (by decide) (hts _ k640) (fun _ h9 => h9) rfl dX11_count_80 ?_
    have hP : va_P g.1 vwCl (List.flatten [bDR g x ta o lo go tt lt mo fo ro fl9, bTown g o a pe wo tx ch jo tr dy sd f, bLaw g lo lc lz ll lm lg ld fc, bLog g go gr gz gn fr, bMem g mo qT qL it il ig mh me mx fT fL]) s.heap := hP
    have hD : va_D A (List.flatten [bDR g x ta o lo go tt lt mo fo ro fl9, bTown g o a pe wo tx ch jo tr dy sd f, bLaw g lo lc lz ll lm lg ld fc, bLog g go gr gz gn fr, bMem g mo qT qL it il ig mh me mx fT fL]) := hD
    exact mret_i hx hb hr hlocks hS (Nat.le_of_ble_eq_true rfl) (Nat.le_of_ble_eq_true rfl) dX11_count_83 (wo) rfl trivial hP hD
  by_cases hsw2 : wh = 2
  · subst hsw2
    refine lv_tableIn (x := 2) (off := 83) (tgt := 84) hx hb dX11_count_1 (by decide) (by decide) rfl (by decide) ?_
    refine lv_aload_n hx hb dX11_count_84 rfl (lv_at hl 0 rfl) ?_
    refine va_get (D := g.1) (ci := 9) (v := .ref o) (C := RX11) (T := TX11) (N := 10) hx hb hts izRX11 hown hK hP 0 rfl rfl 1 (by decide) (hts _ k538) (fun _ h9 => h9) rfl dX11_count_85 ?_
    refine va_get (D := g.1) (ci := 7) (v := .int tx) (C := RX9) (T := TX9) (N := 19) hx hb hts izRX9 hown hK hP 1 rfl rfl 2 (by decide) (hts _ k582) (fun _ h9 => h9) rfl dX11_count_88 ?_
    have hP : va_P g.1 vwCl (List.flatten [bDR g x ta o lo go tt lt mo fo ro fl9, bTown g o a pe wo tx ch jo tr dy sd f, bLaw g lo lc lz ll lm lg ld fc, bLog g go gr gz gn fr, bMem g mo qT qL it il ig mh me mx fT fL]) s.heap := hP
    have hD : va_D A (List.flatten [bDR g x ta o lo go tt lt mo fo ro fl9, bTown g o a pe wo tx ch jo tr dy sd f, bLaw g lo lc lz ll lm lg ld fc, bLog g go gr gz gn fr, bMem g mo qT qL it il ig mh me mx fT fL]) := hD
    exact mret_i hx hb hr hlocks hS (Nat.le_of_ble_eq_true rfl) (Nat.le_of_ble_eq_true rfl) dX11_count_91 (tx) rfl trivial hP hD
  by_cases hsw3 : wh = 3
  · subst hsw3
    refine lv_tableIn (x := 3) (off := 91) (tgt := 92) hx hb dX11_count_1 (by decide) (by decide) rfl (by decide) ?_
    refine lv_aload_n hx hb dX11_count_92 rfl (lv_at hl 0 rfl) ?_
    refine va_get (D := g.1) (ci := 9) (v := .ref lo) (C := RX11) (T := TX11) (N := 10) hx hb hts izRX11 hown hK hP 0 rfl rfl 2 (by decide) (hts _ k540) (fun _ h9 => h9) rfl dX11_count_93 ?_
    refine va_get (D := g.1) (ci := 1) (v := .int ll) (C := RX1) (T := TX1) (N := 6) hx hb hts izRX1 hown hK hP 13 rfl rfl 2 (by decide) (hts _ k597) (fun _ h9 => h9) rfl dX11_count_96 ?_
    have hP : va_P g.1 vwCl (List.flatten [bDR g x ta o lo go tt lt mo fo ro fl9, bTown g o a pe wo tx ch jo tr dy sd f, bLaw g lo lc lz ll lm lg ld fc, bLog g go gr gz gn fr, bMem g mo qT qL it il ig mh me mx fT fL]) s.heap := hP
    have hD : va_D A (List.flatten [bDR g x ta o lo go tt lt mo fo ro fl9, bTown g o a pe wo tx ch jo tr dy sd f, bLaw g lo lc lz ll lm lg ld fc, bLog g go gr gz gn fr, bMem g mo qT qL it il ig mh me mx fT fL]) := hD
    exact mret_i hx hb hr hlocks hS (Nat.le_of_ble_eq_true rfl) (Nat.le_of_ble_eq_true rfl) dX11_count_99 (ll) rfl trivial hP hD
  by_cases hsw4 : wh = 4
  · subst hsw4
    refine lv_tableIn (x := 4) (off := 99) (tgt := 100) hx hb dX11_count_1 (by decide) (by decide) rfl (by decide) ?_
    refine lv_aload_n hx hb dX11_count_100 rfl (lv_at hl 0 rfl) ?_
    refine va_get (D := g.1) (ci := 9) (v := .ref o) (C := RX11) (T := TX11) (N := 10) hx hb hts izRX11 hown hK hP 0 rfl rfl 1 (by decide) (hts _ k538) (fun _ h9 => h9) rfl dX11_count_101 ?_
    refine va_get (D := g.1) (ci := 7) (v := .int dy) (C := RX9) (T := TX9) (N := 19) hx hb hts izRX9 hown hK hP 1 rfl rfl 6 (by decide) (hts _ k674) (fun _ h9 => h9) rfl dX11_count_104 ?_
    have hP : va_P g.1 vwCl (List.flatten [bDR g x ta o lo go tt lt mo fo ro fl9, bTown g o a pe wo tx ch jo tr dy sd f, bLaw g lo lc lz ll lm lg ld fc, bLog g go gr gz gn fr, bMem g mo qT qL it il ig mh me mx fT fL]) s.heap := hP
    have hD : va_D A (List.flatten [bDR g x ta o lo go tt lt mo fo ro fl9, bTown g o a pe wo tx ch jo tr dy sd f, bLaw g lo lc lz ll lm lg ld fc, bLog g go gr gz gn fr, bMem g mo qT qL it il ig mh me mx fT fL]) := hD
    exact mret_i hx hb hr hlocks hS (Nat.le_of_ble_eq_true rfl) (Nat.le_of_ble_eq_true rfl) dX11_count_107 (dy) rfl trivial hP hD
  by_cases hsw5 : wh = 5
  · subst hsw5
    refine lv_tableIn (x := 5) (off := 107) (tgt := 108) hx hb dX11_count_1 (by decide) (by decide) rfl (by decide) ?_
    refine lv_aload_n hx hb dX11_count_108 rfl (lv_at hl 0 rfl) ?_
    refine va_get (D := g.1) (ci := 9) (v := .ref o) (C := RX11) (T := TX11) (N := 10) hx hb hts izRX11 hown hK hP 0 rfl rfl 1 (by decide) (hts _ k538) (fun _ h9 => h9) rfl dX11_count_109 ?_
    refine va_get (D := g.1) (ci := 7) (v := .int ch) (C := RX9) (T := TX9) (N := 19) hx hb hts izRX9 hown hK hP 1 rfl rfl 3 (by decide) (hts _ k677) (fun _ h9 => h9) rfl dX11_count_112 ?_
    have hP : va_P g.1 vwCl (List.flatten [bDR g x ta o lo go tt lt mo fo ro fl9, bTown g o a pe wo tx ch jo tr dy sd f, bLaw g lo lc lz ll lm lg ld fc, bLog g go gr gz gn fr, bMem g mo qT qL it il ig mh me mx fT fL]) s.heap := hP
    have hD : va_D A (List.flatten [bDR g x ta o lo go tt lt mo fo ro fl9, bTown g o a pe wo tx ch jo tr dy sd f, bLaw g lo lc lz ll lm lg ld fc, bLog g go gr gz gn fr, bMem g mo qT qL it il ig mh me mx fT fL]) := hD
    exact mret_i hx hb hr hlocks hS (Nat.le_of_ble_eq_true rfl) (Nat.le_of_ble_eq_true rfl) dX11_count_115 (ch) rfl trivial hP hD
  by_cases hsw6 : wh = 6
  · subst hsw6
    refine lv_tableIn (x := 6) (off := 115) (tgt := 116) hx hb dX11_count_1 (by decide) (by decide) rfl (by decide) ?_
    refine lv_aload_n hx hb dX11_count_116 rfl (lv_at hl 0 rfl) ?_
    refine va_get (D := g.1) (ci := 9) (v := .ref o) (C := RX11) (T := TX11) (N := 10) hx hb hts izRX11 hown hK hP 0 rfl rfl 1 (by decide) (hts _ k538) (fun _ h9 => h9) rfl dX11_count_117 ?_
    refine mcallV' (g := g) (q0 := 0) (ci := 7) (As := []) (rest := []) St hK hT hA hP hD hS hl.1 [1] [0, 2, 3, 4] rfl rfl rfl (c_believed l g o a pe wo tx ch jo tr dy sd f b_pe b_wo rf) (cwV 0 hts (zgL (zl4 k807 k69 k70 k24) k60) rfl rfl rfl (by decide +kernel) ⟨Nat.le_of_ble_eq_true rfl, Nat.le_of_ble_eq_true rfl⟩) rfl rfl rfl rfl (Nat.le_of_ble_eq_true rfl) dX11_count_120 ⟨(Nat.le_of_ble_eq_true rfl), (Nat.le_of_ble_eq_true rfl)⟩ (fun q_1 H locs hq2 hP hD hS => ?_)
    have hP : va_P g.1 vwCl (List.flatten [bDR g x ta o lo go tt lt mo fo ro fl9, bLaw g lo lc lz ll lm lg ld fc, bLog g go gr gz gn fr, bMem g mo qT qL it il ig mh me mx fT fL, bTown g o a pe wo tx ch jo tr dy sd f]) H := hP
    have hD : va_D A (List.flatten [bDR g x ta o lo go tt lt mo fo ro fl9, bLaw g lo lc lz ll lm lg ld fc, bLog g go gr gz gn fr, bMem g mo qT qL it il ig mh me mx fT fL, bTown g o a pe wo tx ch jo tr dy sd f]) := hD
    refine W.widen (k := 0) (n := 0) (Nat.le_of_ble_eq_true rfl) (Nat.le_of_ble_eq_true rfl) ?_
    refine W.eq (g2 := F0 m 123 ls [.int q_1]) rfl ?_
    have hP : va_P g.1 vwCl (List.flatten [bDR g x ta o lo go tt lt mo fo ro fl9, bLaw g lo lc lz ll lm lg ld fc, bLog g go gr gz gn fr, bMem g mo qT qL it il ig mh me mx fT fL, bTown g o a pe wo tx ch jo tr dy sd f]) H := hP
    have hD : va_D A (List.flatten [bDR g x ta o lo go tt lt mo fo ro fl9, bLaw g lo lc lz ll lm lg ld fc, bLog g go gr gz gn fr, bMem g mo qT qL it il ig mh me mx fT fL, bTown g o a pe wo tx ch jo tr dy sd f]) := hD
    obtain ⟨hP, hD⟩ := zord (g := g) (Bs' := [bDR g x ta o lo go tt lt mo fo ro fl9, bTown g o a pe wo tx ch jo tr dy sd f, bLaw g lo lc lz ll lm lg ld fc, bLog g go gr gz gn fr, bMem g mo qT qL it il ig mh me mx fT fL]) [0, 4, 1, 2, 3] rfl rfl hP hD
    exact mret_i hx hb hr hlocks hS (Nat.le_of_ble_eq_true rfl) (Nat.le_of_ble_eq_true rfl) dX11_count_123 (q_1) rfl trivial hP hD
  by_cases hsw7 : wh = 7
  · subst hsw7
    refine lv_tableIn (x := 7) (off := 123) (tgt := 124) hx hb dX11_count_1 (by decide) (by decide) rfl (by decide) ?_
    refine lv_aload_n hx hb dX11_count_124 rfl (lv_at hl 0 rfl) ?_
    refine va_get (D := g.1) (ci := 9) (v := .ref o) (C := RX11) (T := TX11) (N := 10) hx hb hts izRX11 hown hK hP 0 rfl rfl 1 (by decide) (hts _ k538) (fun _ h9 => h9) rfl dX11_count_125 ?_
    refine mcallV' (g := g) (q0 := 0) (ci := 7) (As := []) (rest := []) St hK hT hA hP hD hS hl.1 [1] [0, 2, 3, 4] rfl rfl rfl (c_peopleHere l g o a pe wo tx ch jo tr dy sd f b_pe b_wo rf) (cwV 0 hts (zgL (zl4 k808 k63 k64 k24) k52) rfl rfl rfl (by decide +kernel) ⟨Nat.le_of_ble_eq_true rfl, Nat.le_of_ble_eq_true rfl⟩) rfl rfl rfl rfl (Nat.le_of_ble_eq_true rfl) dX11_count_128 ⟨(Nat.le_of_ble_eq_true rfl), (Nat.le_of_ble_eq_true rfl)⟩ (fun q_3 H locs hq4 hP hD hS => ?_)
    have hP : va_P g.1 vwCl (List.flatten [bDR g x ta o lo go tt lt mo fo ro fl9, bLaw g lo lc lz ll lm lg ld fc, bLog g go gr gz gn fr, bMem g mo qT qL it il ig mh me mx fT fL, bTown g o a pe wo tx ch jo tr dy sd f]) H := hP
    have hD : va_D A (List.flatten [bDR g x ta o lo go tt lt mo fo ro fl9, bLaw g lo lc lz ll lm lg ld fc, bLog g go gr gz gn fr, bMem g mo qT qL it il ig mh me mx fT fL, bTown g o a pe wo tx ch jo tr dy sd f]) := hD
    refine W.widen (k := 0) (n := 0) (Nat.le_of_ble_eq_true rfl) (Nat.le_of_ble_eq_true rfl) ?_
    refine W.eq (g2 := F0 m 131 ls [.int q_3]) rfl ?_
    have hP : va_P g.1 vwCl (List.flatten [bDR g x ta o lo go tt lt mo fo ro fl9, bLaw g lo lc lz ll lm lg ld fc, bLog g go gr gz gn fr, bMem g mo qT qL it il ig mh me mx fT fL, bTown g o a pe wo tx ch jo tr dy sd f]) H := hP
    have hD : va_D A (List.flatten [bDR g x ta o lo go tt lt mo fo ro fl9, bLaw g lo lc lz ll lm lg ld fc, bLog g go gr gz gn fr, bMem g mo qT qL it il ig mh me mx fT fL, bTown g o a pe wo tx ch jo tr dy sd f]) := hD
    obtain ⟨hP, hD⟩ := zord (g := g) (Bs' := [bDR g x ta o lo go tt lt mo fo ro fl9, bTown g o a pe wo tx ch jo tr dy sd f, bLaw g lo lc lz ll lm lg ld fc, bLog g go gr gz gn fr, bMem g mo qT qL it il ig mh me mx fT fL]) [0, 4, 1, 2, 3] rfl rfl hP hD
    exact mret_i hx hb hr hlocks hS (Nat.le_of_ble_eq_true rfl) (Nat.le_of_ble_eq_true rfl) dX11_count_131 (q_3) rfl trivial hP hD
  by_cases hsw8 : wh = 8
  · subst hsw8
    refine lv_tableIn (x := 8) (off := 131) (tgt := 132) hx hb dX11_count_1 (by decide) (by decide) rfl (by decide) ?_
    refine lv_aload_n hx hb dX11_count_132 rfl (lv_at hl 0 rfl) ?_
    refine va_get (D := g.1) (ci := 9) (v := .ref o) (C := RX11) (T := TX11) (N := 10) hx hb hts izRX11 hown hK hP 0 rfl rfl 1 (by decide) (hts _ k538) (fun _ h9 => h9) rfl dX11_count_133 ?_
    refine lv_iconst (v := 1) hx hb dX11_count_136 (by decide) ?_
    refine mcallV' (g := g) (q0 := 0) (ci := 7) (As := [.int 1]) (rest := []) St hK hT hA hP hD hS hl.1 [1] [0, 2, 3, 4] rfl rfl rfl (c_worksIn l g o a pe wo tx ch jo tr dy sd f 1 b_pe b_wo rf) (cwV 1 hts (zgL (zl4 k711 k80 k81 k24) k71) rfl rfl rfl (by decide +kernel) ⟨Nat.le_of_ble_eq_true rfl, Nat.le_of_ble_eq_true rfl⟩) rfl rfl rfl rfl (Nat.le_of_ble_eq_true rfl) dX11_count_137 ⟨(Nat.le_of_ble_eq_true rfl), (Nat.le_of_ble_eq_true rfl)⟩ (fun q_5 H locs hq6 hP hD hS => ?_)
    have hP : va_P g.1 vwCl (List.flatten [bDR g x ta o lo go tt lt mo fo ro fl9, bLaw g lo lc lz ll lm lg ld fc, bLog g go gr gz gn fr, bMem g mo qT qL it il ig mh me mx fT fL, bTown g o a pe wo tx ch jo tr dy sd f]) H := hP
    have hD : va_D A (List.flatten [bDR g x ta o lo go tt lt mo fo ro fl9, bLaw g lo lc lz ll lm lg ld fc, bLog g go gr gz gn fr, bMem g mo qT qL it il ig mh me mx fT fL, bTown g o a pe wo tx ch jo tr dy sd f]) := hD
    refine W.widen (k := 0) (n := 0) (Nat.le_of_ble_eq_true rfl) (Nat.le_of_ble_eq_true rfl) ?_
    refine W.eq (g2 := F0 m 140 ls [.int q_5]) rfl ?_
    have hP : va_P g.1 vwCl (List.flatten [bDR g x ta o lo go tt lt mo fo ro fl9, bLaw g lo lc lz ll lm lg ld fc, bLog g go gr gz gn fr, bMem g mo qT qL it il ig mh me mx fT fL, bTown g o a pe wo tx ch jo tr dy sd f]) H := hP
    have hD : va_D A (List.flatten [bDR g x ta o lo go tt lt mo fo ro fl9, bLaw g lo lc lz ll lm lg ld fc, bLog g go gr gz gn fr, bMem g mo qT qL it il ig mh me mx fT fL, bTown g o a pe wo tx ch jo tr dy sd f]) := hD
    obtain ⟨hP, hD⟩ := zord (g := g) (Bs' := [bDR g x ta o lo go tt lt mo fo ro fl9, bTown g o a pe wo tx ch jo tr dy sd f, bLaw g lo lc lz ll lm lg ld fc, bLog g go gr gz gn fr, bMem g mo qT qL it il ig mh me mx fT fL]) [0, 4, 1, 2, 3] rfl rfl hP hD
    exact mret_i hx hb hr hlocks hS (Nat.le_of_ble_eq_true rfl) (Nat.le_of_ble_eq_true rfl) dX11_count_140 (q_5) rfl trivial hP hD
  by_cases hsw9 : wh = 9
  · subst hsw9
    refine lv_tableIn (x := 9) (off := 140) (tgt := 141) hx hb dX11_count_1 (by decide) (by decide) rfl (by decide) ?_
    refine lv_aload_n hx hb dX11_count_141 rfl (lv_at hl 0 rfl) ?_
    refine va_get (D := g.1) (ci := 9) (v := .ref o) (C := RX11) (T := TX11) (N := 10) hx hb hts izRX11 hown hK hP 0 rfl rfl 1 (by decide) (hts _ k538) (fun _ h9 => h9) rfl dX11_count_142 ?_
    refine lv_iconst (v := 2) hx hb dX11_count_145 (by decide) ?_
    refine mcallV' (g := g) (q0 := 0) (ci := 7) (As := [.int 2]) (rest := []) St hK hT hA hP hD hS hl.1 [1] [0, 2, 3, 4] rfl rfl rfl (c_worksIn l g o a pe wo tx ch jo tr dy sd f 2 b_pe b_wo rf) (cwV 1 hts (zgL (zl4 k711 k80 k81 k24) k71) rfl rfl rfl (by decide +kernel) ⟨Nat.le_of_ble_eq_true rfl, Nat.le_of_ble_eq_true rfl⟩) rfl rfl rfl rfl (Nat.le_of_ble_eq_true rfl) dX11_count_146 ⟨(Nat.le_of_ble_eq_true rfl), (Nat.le_of_ble_eq_true rfl)⟩ (fun q_7 H locs hq8 hP hD hS => ?_)
    have hP : va_P g.1 vwCl (List.flatten [bDR g x ta o lo go tt lt mo fo ro fl9, bLaw g lo lc lz ll lm lg ld fc, bLog g go gr gz gn fr, bMem g mo qT qL it il ig mh me mx fT fL, bTown g o a pe wo tx ch jo tr dy sd f]) H := hP
    have hD : va_D A (List.flatten [bDR g x ta o lo go tt lt mo fo ro fl9, bLaw g lo lc lz ll lm lg ld fc, bLog g go gr gz gn fr, bMem g mo qT qL it il ig mh me mx fT fL, bTown g o a pe wo tx ch jo tr dy sd f]) := hD
    refine W.widen (k := 0) (n := 0) (Nat.le_of_ble_eq_true rfl) (Nat.le_of_ble_eq_true rfl) ?_
    refine W.eq (g2 := F0 m 149 ls [.int q_7]) rfl ?_
    have hP : va_P g.1 vwCl (List.flatten [bDR g x ta o lo go tt lt mo fo ro fl9, bLaw g lo lc lz ll lm lg ld fc, bLog g go gr gz gn fr, bMem g mo qT qL it il ig mh me mx fT fL, bTown g o a pe wo tx ch jo tr dy sd f]) H := hP
    have hD : va_D A (List.flatten [bDR g x ta o lo go tt lt mo fo ro fl9, bLaw g lo lc lz ll lm lg ld fc, bLog g go gr gz gn fr, bMem g mo qT qL it il ig mh me mx fT fL, bTown g o a pe wo tx ch jo tr dy sd f]) := hD
    obtain ⟨hP, hD⟩ := zord (g := g) (Bs' := [bDR g x ta o lo go tt lt mo fo ro fl9, bTown g o a pe wo tx ch jo tr dy sd f, bLaw g lo lc lz ll lm lg ld fc, bLog g go gr gz gn fr, bMem g mo qT qL it il ig mh me mx fT fL]) [0, 4, 1, 2, 3] rfl rfl hP hD
    exact mret_i hx hb hr hlocks hS (Nat.le_of_ble_eq_true rfl) (Nat.le_of_ble_eq_true rfl) dX11_count_149 (q_7) rfl trivial hP hD
  by_cases hsw10 : wh = 10
  · subst hsw10
    refine lv_tableIn (x := 10) (off := 149) (tgt := 150) hx hb dX11_count_1 (by decide) (by decide) rfl (by decide) ?_
    refine lv_aload_n hx hb dX11_count_150 rfl (lv_at hl 0 rfl) ?_
    refine va_get (D := g.1) (ci := 9) (v := .ref o) (C := RX11) (T := TX11) (N := 10) hx hb hts izRX11 hown hK hP 0 rfl rfl 1 (by decide) (hts _ k538) (fun _ h9 => h9) rfl dX11_count_151 ?_
    refine mcallV' (g := g) (q0 := 0) (ci := 7) (As := []) (rest := []) St hK hT hA hP hD hS hl.1 [1] [0, 2, 3, 4] rfl rfl rfl (c_sharesOfAll l g o a pe wo tx ch jo tr dy sd f b_pe b_wo rf) (cwV 0 hts (zgL (zl4 k809 k810 k811 k24) k518) rfl rfl rfl (by decide +kernel) ⟨Nat.le_of_ble_eq_true rfl, Nat.le_of_ble_eq_true rfl⟩) rfl rfl rfl rfl (Nat.le_of_ble_eq_true rfl) dX11_count_154 ⟨(Nat.le_of_ble_eq_true rfl), (Nat.le_of_ble_eq_true rfl)⟩ (fun q_9 H locs hq10 hP hD hS => ?_)
    have hP : va_P g.1 vwCl (List.flatten [bDR g x ta o lo go tt lt mo fo ro fl9, bLaw g lo lc lz ll lm lg ld fc, bLog g go gr gz gn fr, bMem g mo qT qL it il ig mh me mx fT fL, bTown g o a pe wo tx ch jo tr dy sd f]) H := hP
    have hD : va_D A (List.flatten [bDR g x ta o lo go tt lt mo fo ro fl9, bLaw g lo lc lz ll lm lg ld fc, bLog g go gr gz gn fr, bMem g mo qT qL it il ig mh me mx fT fL, bTown g o a pe wo tx ch jo tr dy sd f]) := hD
    refine W.widen (k := 0) (n := 0) (Nat.le_of_ble_eq_true rfl) (Nat.le_of_ble_eq_true rfl) ?_
    refine W.eq (g2 := F0 m 157 ls [.int q_9]) rfl ?_
    have hP : va_P g.1 vwCl (List.flatten [bDR g x ta o lo go tt lt mo fo ro fl9, bLaw g lo lc lz ll lm lg ld fc, bLog g go gr gz gn fr, bMem g mo qT qL it il ig mh me mx fT fL, bTown g o a pe wo tx ch jo tr dy sd f]) H := hP
    have hD : va_D A (List.flatten [bDR g x ta o lo go tt lt mo fo ro fl9, bLaw g lo lc lz ll lm lg ld fc, bLog g go gr gz gn fr, bMem g mo qT qL it il ig mh me mx fT fL, bTown g o a pe wo tx ch jo tr dy sd f]) := hD
    obtain ⟨hP, hD⟩ := zord (g := g) (Bs' := [bDR g x ta o lo go tt lt mo fo ro fl9, bTown g o a pe wo tx ch jo tr dy sd f, bLaw g lo lc lz ll lm lg ld fc, bLog g go gr gz gn fr, bMem g mo qT qL it il ig mh me mx fT fL]) [0, 4, 1, 2, 3] rfl rfl hP hD
    exact mret_i hx hb hr hlocks hS (Nat.le_of_ble_eq_true rfl) (Nat.le_of_ble_eq_true rfl) dX11_count_157 (q_9) rfl trivial hP hD
  by_cases hsw11 : wh = 11
  · subst hsw11
    refine lv_tableIn (x := 11) (off := 157) (tgt := 158) hx hb dX11_count_1 (by decide) (by decide) rfl (by decide) ?_
    refine lv_aload_n hx hb dX11_count_158 rfl (lv_at hl 0 rfl) ?_
    refine va_get (D := g.1) (ci := 9) (v := .ref go) (C := RX11) (T := TX11) (N := 10) hx hb hts izRX11 hown hK hP 0 rfl rfl 3 (by decide) (hts _ k542) (fun _ h9 => h9) rfl dX11_count_159 ?_
    refine va_get (D := g.1) (ci := 3) (v := .int gz) (C := RX3) (T := TX3) (N := 3) hx hb hts izRX3 hown hK hP 15 rfl rfl 1 (by decide) (hts _ k805) (fun _ h9 => h9) rfl dX11_count_162 ?_
    have hP : va_P g.1 vwCl (List.flatten [bDR g x ta o lo go tt lt mo fo ro fl9, bTown g o a pe wo tx ch jo tr dy sd f, bLaw g lo lc lz ll lm lg ld fc, bLog g go gr gz gn fr, bMem g mo qT qL it il ig mh me mx fT fL]) s.heap := hP
    have hD : va_D A (List.flatten [bDR g x ta o lo go tt lt mo fo ro fl9, bTown g o a pe wo tx ch jo tr dy sd f, bLaw g lo lc lz ll lm lg ld fc, bLog g go gr gz gn fr, bMem g mo qT qL it il ig mh me mx fT fL]) := hD
    exact mret_i hx hb hr hlocks hS (Nat.le_of_ble_eq_true rfl) (Nat.le_of_ble_eq_true rfl) dX11_count_165 (gz) rfl trivial hP hD
  by_cases hsw12 : wh = 12
  · subst hsw12
    refine lv_tableIn (x := 12) (off := 165) (tgt := 166) hx hb dX11_count_1 (by decide) (by decide) rfl (by decide) ?_
    refine lv_aload_n hx hb dX11_count_166 rfl (lv_at hl 0 rfl) ?_
    refine va_get (D := g.1) (ci := 9) (v := .ref mo) (C := RX11) (T := TX11) (N := 10) hx hb hts izRX11 hown hK hP 0 rfl rfl 6 (by decide) (hts _ k551) (fun _ h9 => h9) rfl dX11_count_167 ?_
    refine va_get (D := g.1) (ci := 4) (v := .int me) (C := RX4) (T := TX4) (N := 8) hx hb hts izRX4 hown hK hP 17 rfl rfl 6 (by decide) (hts _ k806) (fun _ h9 => h9) rfl dX11_count_170 ?_
    have hP : va_P g.1 vwCl (List.flatten [bDR g x ta o lo go tt lt mo fo ro fl9, bTown g o a pe wo tx ch jo tr dy sd f, bLaw g lo lc lz ll lm lg ld fc, bLog g go gr gz gn fr, bMem g mo qT qL it il ig mh me mx fT fL]) s.heap := hP
    have hD : va_D A (List.flatten [bDR g x ta o lo go tt lt mo fo ro fl9, bTown g o a pe wo tx ch jo tr dy sd f, bLaw g lo lc lz ll lm lg ld fc, bLog g go gr gz gn fr, bMem g mo qT qL it il ig mh me mx fT fL]) := hD
    exact mret_i hx hb hr hlocks hS (Nat.le_of_ble_eq_true rfl) (Nat.le_of_ble_eq_true rfl) dX11_count_173 (me) rfl trivial hP hD
  refine lv_tableOut (tgt := 174) hx hb dX11_count_1 (by have := lv_neT hsw0 (show Int32.toInt 0 = 0 from by decide); have := lv_neT hsw1 (show Int32.toInt 1 = 1 from by decide); have := lv_neT hsw2 (show Int32.toInt 2 = 2 from by decide); have := lv_neT hsw3 (show Int32.toInt 3 = 3 from by decide); have := lv_neT hsw4 (show Int32.toInt 4 = 4 from by decide); have := lv_neT hsw5 (show Int32.toInt 5 = 5 from by decide); have := lv_neT hsw6 (show Int32.toInt 6 = 6 from by decide); have := lv_neT hsw7 (show Int32.toInt 7 = 7 from by decide); have := lv_neT hsw8 (show Int32.toInt 8 = 8 from by decide); have := lv_neT hsw9 (show Int32.toInt 9 = 9 from by decide); have := lv_neT hsw10 (show Int32.toInt 10 = 10 from by decide); have := lv_neT hsw11 (show Int32.toInt 11 = 11 from by decide); have := lv_neT hsw12 (show Int32.toInt 12 = 12 from by decide); omega) (by decide) ?_
  refine lv_iconst (v := (-1)) hx hb dX11_count_174 (by decide) ?_
  have hP : va_P g.1 vwCl (List.flatten [bDR g x ta o lo go tt lt mo fo ro fl9, bTown g o a pe wo tx ch jo tr dy sd f, bLaw g lo lc lz ll lm lg ld fc, bLog g go gr gz gn fr, bMem g mo qT qL it il ig mh me mx fT fL]) s.heap := hP
  have hD : va_D A (List.flatten [bDR g x ta o lo go tt lt mo fo ro fl9, bTown g o a pe wo tx ch jo tr dy sd f, bLaw g lo lc lz ll lm lg ld fc, bLog g go gr gz gn fr, bMem g mo qT qL it il ig mh me mx fT fL]) := hD
  exact mret_i hx hb hr hlocks hS (Nat.le_of_ble_eq_true rfl) (Nat.le_of_ble_eq_true rfl) dX11_count_175 (-1) rfl trivial hP hD
