theorem zst1 {x k : Int32} {n : Int} (hk : k.toInt = n) (h : n ≤ x.toInt) (hne : ¬ x = k) : n + 1 ≤ x.toInt := by
  have : ¬ x.toInt = n := fun e => hne (Int32.toInt_inj.mp (e.trans hk.symm))
  omega
set_option maxRecDepth 100000 in
set_option maxHeartbeats 16000000 in
/-- the law: turn after turn -/
theorem w_loop {p : Program} {e : Env} {s : State} {m : MethodId} {below : List Frame} {meth : Method} {c : Code} (l : Launch) (hfl : l.stackTraces = false) (g : zG) {b L : Nat} {xs : Nat → Int32} {A : Nat → Prop} (hbA : ¬ A b) (hA : ∀ q, s.heap.size ≤ q → A q) (St : CallFix p m c cL_law_ 7 s #[Value.ref b] zB RL) (hX : va_X b L xs s s.heap) (hbl : b < s.heap.size) (hK : zK g s) (hT : zTh' g A s) (hr : meth.sig.returnType = ret) (hlocks : meth.locks = false) (hAe : A = fun q => s.heap.size ≤ q) (hL : L ≤ 3072) : ∀ (kf : Nat) (i : Int32) (cc ss : Nat), (0 ≤ i.toInt ∧ i.toInt ≤ 3072) → 3072 < i.toInt + 6 * (kf : Int) → cc + 8 * kf ≤ 600000 → ss + 48 * kf ≤ 7290000 → zCont p l e s m below meth c g A b i cc ss (lw_Z below #[Value.ref b] s) 23 := by
  obtain ⟨hx, hb, hml, hown, hts⟩ := id St
  intro kf
  induction kf with
  | zero => intro i cc ss hi hk _ _; exact absurd hk (by omega)
  | succ kf ih =>
    intro i cc ss hi hk hcc hss x ta o lo go tt lt mo fo ro fl9 ab sz ln kd bg nx ft fb a pe wo tx ch jo tr dy sd f lc lz ll lm lg ld fc gr gz gn fr oY aY peY woY txY chY joY trY dyY sdY fY loV lcV lzV llV lmV lgV ldV fcV qT qL it il ig mh me mx fT fL aI peI woI txI chI joI trI dyI sdI fI lcI lzI llI lmI lgI ldI fcI grI gzI gnI frI oD aD peD woD txD chD joD trD dyD sdD fD rw ri rt rb oa fz PT PL oM aM thM hiM acM tpM baM enM tAM flM deM iDM iOM tUM fmM fkM faM fcM ftM ffM fbM fiM b_sz b_pe b_wo rf b_lz b_gz b_gn b_me b_mx b_peI b_woI rfI b_lzI b_gzI b_gnI b_peD b_woD rfD b_ri hRT himg hcq hlw hwn hma hig hflt hPT hPL rfmM rfkM rfaM rfcM hacM htpM hiDM hiOM hst H locs ls hP hD hS hl
    refine lv_iload hx hb dL_law__23 (lv_at hl 4 rfl) ?_
    refine lv_aload_n hx hb dL_law__25 rfl (lv_at hl 0 rfl) ?_
    refine va_slen hx hb hX hbl hbA hS dL_law__26 ?_
    refine zgv (i := (L : Int)) (nI_toInt (by omega)) (fun x_1 hx_1 => ?_)
    refine lv_bipush (v := 6) hx hb dL_law__27 (by decide) ?_
    refine lv_isub hx hb dL_law__29 ?_
    refine zgv (zsub (i := x_1.toInt) (j := 6) rfl (by decide) (by omega)) (fun x_2 hx_2 => ?_)
    refine lv_icmp_gt (tgt := 1858) hx hb dL_law__30 (by decide) (fun _ => ?_) (fun cb9 => ?_)
    · skip
      refine lv_iconst (v := 1) hx hb dL_law__1858 (by decide) ?_
      refine va_forget (fun q hq => by have h9 := hS.2.2 q hq; rw [hAe] at h9; exact h9) ?_
      refine W.widen (k := 601024) (n := 7293034) (by omega) (by omega) ?_
      exact lw_ret hx hb hr hlocks dL_law__1859
    · skip
      have hiL : i.toInt + 6 ≤ (L : Int) := by have h9 := zle (Int32.not_lt.mp cb9) (rfl : i.toInt = i.toInt) (rfl : x_2.toInt = x_2.toInt); omega
      have hi6 : 0 ≤ i.toInt ∧ i.toInt ≤ 3066 := ⟨hi.1, by omega⟩
      refine lv_aload_n hx hb dL_law__33 rfl (lv_at hl 0 rfl) ?_
      refine lv_iload hx hb dL_law__34 (lv_at hl 4 rfl) ?_
      refine va_sld hx hb hX hbl hbA hS (zinI (by omega) (by omega)) dL_law__36 ?_
      refine zg (fun x_3 => ?_)
      refine lv_bipush (v := 63) hx hb dL_law__37 (by decide) ?_
      refine lv_iand hx hb dL_law__39 ?_
      refine zgb (zand63 _) (fun x_4 hx_4 => ?_)
      have K9 : zCont p l e s m below meth c g A b i (cc + 8) (ss + 48) (lw_Z below #[Value.ref b] s) 1852 := by
        intro x ta o lo go tt lt mo fo ro fl9 ab sz ln kd bg nx ft fb a pe wo tx ch jo tr dy sd f lc lz ll lm lg ld fc gr gz gn fr oY aY peY woY txY chY joY trY dyY sdY fY loV lcV lzV llV lmV lgV ldV fcV qT qL it il ig mh me mx fT fL aI peI woI txI chI joI trI dyI sdI fI lcI lzI llI lmI lgI ldI fcI grI gzI gnI frI oD aD peD woD txD chD joD trD dyD sdD fD rw ri rt rb oa fz PT PL oM aM thM hiM acM tpM baM enM tAM flM deM iDM iOM tUM fmM fkM faM fcM ftM ffM fbM fiM b_sz b_pe b_wo rf b_lz b_gz b_gn b_me b_mx b_peI b_woI rfI b_lzI b_gzI b_gnI b_peD b_woD rfD b_ri hRT himg hcq hlw hwn hma hig hflt hPT hPL rfmM rfkM rfaM rfcM hacM htpM hiDM hiOM hst H locs ls hP hD hS hl
        refine ziinc (j := i.toInt + 6) (lv' := fun v9 => [(4, .int v9), (0, .ref b), (1, .ref x), (2, .ref oM), (3, .ref oa)]) hx hb dL_law__1852 hl (k := 4) rfl (by decide) (fun _ => rfl) (zadd (i := i.toInt) (j := 6) rfl (by decide) (by omega)) (fun i9 ls hi9 hl => ?_)
        refine lv_goto (tgt := 23) hx hb dL_law__1855 (by decide) ?_
        exact ih i9 (cc + 8) (ss + 48) ⟨by omega, by omega⟩ (by omega) (by omega) (by omega) x ta o lo go tt lt mo fo ro fl9 ab sz ln kd bg nx ft fb a pe wo tx ch jo tr dy sd f lc lz ll lm lg ld fc gr gz gn fr oY aY peY woY txY chY joY trY dyY sdY fY loV lcV lzV llV lmV lgV ldV fcV qT qL it il ig mh me mx fT fL aI peI woI txI chI joI trI dyI sdI fI lcI lzI llI lmI lgI ldI fcI grI gzI gnI frI oD aD peD woD txD chD joD trD dyD sdD fD rw ri rt rb oa fz PT PL oM aM thM hiM acM tpM baM enM tAM flM deM iDM iOM tUM fmM fkM faM fcM ftM ffM fbM fiM b_sz b_pe b_wo rf b_lz b_gz b_gn b_me b_mx b_peI b_woI rfI b_lzI b_gzI b_gnI b_peD b_woD rfD b_ri hRT himg hcq hlw hwn hma hig hflt hPT hPL rfmM rfkM rfaM rfcM hacM htpM hiDM hiOM hst H _ ls hP hD hS (lv_sub hl [1, 2, 3, 4, 0] rfl)
      have g0 : (0 : Int) ≤ x_4.toInt := hx_4.1
      by_cases hk0 : x_4 = 0
      · subst hk0
        refine lv_tableIn (x := 0) (off := 216) (tgt := 256) hx hb dL_law__40 (by decide) (by decide) rfl (by decide) ?_
        exact w_0 l hfl g hbA hA St hX hbl hK hT i cc ss (by omega) (by omega) hi6 hiL K9 x ta o lo go tt lt mo fo ro fl9 ab sz ln kd bg nx ft fb a pe wo tx ch jo tr dy sd f lc lz ll lm lg ld fc gr gz gn fr oY aY peY woY txY chY joY trY dyY sdY fY loV lcV lzV llV lmV lgV ldV fcV qT qL it il ig mh me mx fT fL aI peI woI txI chI joI trI dyI sdI fI lcI lzI llI lmI lgI ldI fcI grI gzI gnI frI oD aD peD woD txD chD joD trD dyD sdD fD rw ri rt rb oa fz PT PL oM aM thM hiM acM tpM baM enM tAM flM deM iDM iOM tUM fmM fkM faM fcM ftM ffM fbM fiM b_sz b_pe b_wo rf b_lz b_gz b_gn b_me b_mx b_peI b_woI rfI b_lzI b_gzI b_gnI b_peD b_woD rfD b_ri hRT himg hcq hlw hwn hma hig hflt hPT hPL rfmM rfkM rfaM rfcM hacM htpM hiDM hiOM hst H _ ls hP hD hS (lv_sub hl [0, 1, 2, 3, 4] rfl)
      have g1 : (1 : Int) ≤ x_4.toInt := zst1 (k := 0) (by decide) g0 hk0
      by_cases hk1 : x_4 = 1
      · subst hk1
        refine lv_tableIn (x := 1) (off := 289) (tgt := 329) hx hb dL_law__40 (by decide) (by decide) rfl (by decide) ?_
        exact w_1 l hfl g hbA hA St hX hbl hK hT i cc ss (by omega) (by omega) hi6 hiL K9 x ta o lo go tt lt mo fo ro fl9 ab sz ln kd bg nx ft fb a pe wo tx ch jo tr dy sd f lc lz ll lm lg ld fc gr gz gn fr oY aY peY woY txY chY joY trY dyY sdY fY loV lcV lzV llV lmV lgV ldV fcV qT qL it il ig mh me mx fT fL aI peI woI txI chI joI trI dyI sdI fI lcI lzI llI lmI lgI ldI fcI grI gzI gnI frI oD aD peD woD txD chD joD trD dyD sdD fD rw ri rt rb oa fz PT PL oM aM thM hiM acM tpM baM enM tAM flM deM iDM iOM tUM fmM fkM faM fcM ftM ffM fbM fiM b_sz b_pe b_wo rf b_lz b_gz b_gn b_me b_mx b_peI b_woI rfI b_lzI b_gzI b_gnI b_peD b_woD rfD b_ri hRT himg hcq hlw hwn hma hig hflt hPT hPL rfmM rfkM rfaM rfcM hacM htpM hiDM hiOM hst H _ ls hP hD hS (lv_sub hl [0, 1, 2, 3, 4] rfl)
      have g2 : (2 : Int) ≤ x_4.toInt := zst1 (k := 1) (by decide) g1 hk1
      by_cases hk2 : x_4 = 2
      · subst hk2
        refine lv_tableIn (x := 2) (off := 314) (tgt := 354) hx hb dL_law__40 (by decide) (by decide) rfl (by decide) ?_
        exact w_2 l hfl g hbA hA St hX hbl hK hT i cc ss (by omega) (by omega) hi6 hiL K9 x ta o lo go tt lt mo fo ro fl9 ab sz ln kd bg nx ft fb a pe wo tx ch jo tr dy sd f lc lz ll lm lg ld fc gr gz gn fr oY aY peY woY txY chY joY trY dyY sdY fY loV lcV lzV llV lmV lgV ldV fcV qT qL it il ig mh me mx fT fL aI peI woI txI chI joI trI dyI sdI fI lcI lzI llI lmI lgI ldI fcI grI gzI gnI frI oD aD peD woD txD chD joD trD dyD sdD fD rw ri rt rb oa fz PT PL oM aM thM hiM acM tpM baM enM tAM flM deM iDM iOM tUM fmM fkM faM fcM ftM ffM fbM fiM b_sz b_pe b_wo rf b_lz b_gz b_gn b_me b_mx b_peI b_woI rfI b_lzI b_gzI b_gnI b_peD b_woD rfD b_ri hRT himg hcq hlw hwn hma hig hflt hPT hPL rfmM rfkM rfaM rfcM hacM htpM hiDM hiOM hst H _ ls hP hD hS (lv_sub hl [0, 1, 2, 3, 4] rfl)
      have g3 : (3 : Int) ≤ x_4.toInt := zst1 (k := 2) (by decide) g2 hk2
      by_cases hk3 : x_4 = 3
      · subst hk3
        refine lv_tableIn (x := 3) (off := 330) (tgt := 370) hx hb dL_law__40 (by decide) (by decide) rfl (by decide) ?_
        exact w_3 l hfl g hbA hA St hX hbl hK hT i cc ss (by omega) (by omega) hi6 hiL K9 x ta o lo go tt lt mo fo ro fl9 ab sz ln kd bg nx ft fb a pe wo tx ch jo tr dy sd f lc lz ll lm lg ld fc gr gz gn fr oY aY peY woY txY chY joY trY dyY sdY fY loV lcV lzV llV lmV lgV ldV fcV qT qL it il ig mh me mx fT fL aI peI woI txI chI joI trI dyI sdI fI lcI lzI llI lmI lgI ldI fcI grI gzI gnI frI oD aD peD woD txD chD joD trD dyD sdD fD rw ri rt rb oa fz PT PL oM aM thM hiM acM tpM baM enM tAM flM deM iDM iOM tUM fmM fkM faM fcM ftM ffM fbM fiM b_sz b_pe b_wo rf b_lz b_gz b_gn b_me b_mx b_peI b_woI rfI b_lzI b_gzI b_gnI b_peD b_woD rfD b_ri hRT himg hcq hlw hwn hma hig hflt hPT hPL rfmM rfkM rfaM rfcM hacM htpM hiDM hiOM hst H _ ls hP hD hS (lv_sub hl [0, 1, 2, 3, 4] rfl)
      have g4 : (4 : Int) ≤ x_4.toInt := zst1 (k := 3) (by decide) g3 hk3
      by_cases hk4 : x_4 = 4
      · subst hk4
        refine lv_tableIn (x := 4) (off := 346) (tgt := 386) hx hb dL_law__40 (by decide) (by decide) rfl (by decide) ?_
        exact w_4 l hfl g hbA hA St hX hbl hK hT i cc ss (by omega) (by omega) hi6 hiL K9 x ta o lo go tt lt mo fo ro fl9 ab sz ln kd bg nx ft fb a pe wo tx ch jo tr dy sd f lc lz ll lm lg ld fc gr gz gn fr oY aY peY woY txY chY joY trY dyY sdY fY loV lcV lzV llV lmV lgV ldV fcV qT qL it il ig mh me mx fT fL aI peI woI txI chI joI trI dyI sdI fI lcI lzI llI lmI lgI ldI fcI grI gzI gnI frI oD aD peD woD txD chD joD trD dyD sdD fD rw ri rt rb oa fz PT PL oM aM thM hiM acM tpM baM enM tAM flM deM iDM iOM tUM fmM fkM faM fcM ftM ffM fbM fiM b_sz b_pe b_wo rf b_lz b_gz b_gn b_me b_mx b_peI b_woI rfI b_lzI b_gzI b_gnI b_peD b_woD rfD b_ri hRT himg hcq hlw hwn hma hig hflt hPT hPL rfmM rfkM rfaM rfcM hacM htpM hiDM hiOM hst H _ ls hP hD hS (lv_sub hl [0, 1, 2, 3, 4] rfl)
      have g5 : (5 : Int) ≤ x_4.toInt := zst1 (k := 4) (by decide) g4 hk4
      by_cases hk5 : x_4 = 5
      · subst hk5
        refine lv_tableIn (x := 5) (off := 359) (tgt := 399) hx hb dL_law__40 (by decide) (by decide) rfl (by decide) ?_
        exact w_5 l hfl g hbA hA St hX hbl hK hT i cc ss (by omega) (by omega) hi6 hiL K9 x ta o lo go tt lt mo fo ro fl9 ab sz ln kd bg nx ft fb a pe wo tx ch jo tr dy sd f lc lz ll lm lg ld fc gr gz gn fr oY aY peY woY txY chY joY trY dyY sdY fY loV lcV lzV llV lmV lgV ldV fcV qT qL it il ig mh me mx fT fL aI peI woI txI chI joI trI dyI sdI fI lcI lzI llI lmI lgI ldI fcI grI gzI gnI frI oD aD peD woD txD chD joD trD dyD sdD fD rw ri rt rb oa fz PT PL oM aM thM hiM acM tpM baM enM tAM flM deM iDM iOM tUM fmM fkM faM fcM ftM ffM fbM fiM b_sz b_pe b_wo rf b_lz b_gz b_gn b_me b_mx b_peI b_woI rfI b_lzI b_gzI b_gnI b_peD b_woD rfD b_ri hRT himg hcq hlw hwn hma hig hflt hPT hPL rfmM rfkM rfaM rfcM hacM htpM hiDM hiOM hst H _ ls hP hD hS (lv_sub hl [0, 1, 2, 3, 4] rfl)
      have g6 : (6 : Int) ≤ x_4.toInt := zst1 (k := 5) (by decide) g5 hk5
      by_cases hk6 : x_4 = 6
      · subst hk6
        refine lv_tableIn (x := 6) (off := 399) (tgt := 439) hx hb dL_law__40 (by decide) (by decide) rfl (by decide) ?_
        exact w_6 l hfl g hbA hA St hX hbl hK hT i cc ss (by omega) (by omega) hi6 hiL K9 x ta o lo go tt lt mo fo ro fl9 ab sz ln kd bg nx ft fb a pe wo tx ch jo tr dy sd f lc lz ll lm lg ld fc gr gz gn fr oY aY peY woY txY chY joY trY dyY sdY fY loV lcV lzV llV lmV lgV ldV fcV qT qL it il ig mh me mx fT fL aI peI woI txI chI joI trI dyI sdI fI lcI lzI llI lmI lgI ldI fcI grI gzI gnI frI oD aD peD woD txD chD joD trD dyD sdD fD rw ri rt rb oa fz PT PL oM aM thM hiM acM tpM baM enM tAM flM deM iDM iOM tUM fmM fkM faM fcM ftM ffM fbM fiM b_sz b_pe b_wo rf b_lz b_gz b_gn b_me b_mx b_peI b_woI rfI b_lzI b_gzI b_gnI b_peD b_woD rfD b_ri hRT himg hcq hlw hwn hma hig hflt hPT hPL rfmM rfkM rfaM rfcM hacM htpM hiDM hiOM hst H _ ls hP hD hS (lv_sub hl [0, 1, 2, 3, 4] rfl)
      have g7 : (7 : Int) ≤ x_4.toInt := zst1 (k := 6) (by decide) g6 hk6
      by_cases hk7 : x_4 = 7
      · subst hk7
        refine lv_tableIn (x := 7) (off := 439) (tgt := 479) hx hb dL_law__40 (by decide) (by decide) rfl (by decide) ?_
        exact w_7 l hfl g hbA hA St hX hbl hK hT i cc ss (by omega) (by omega) hi6 hiL K9 x ta o lo go tt lt mo fo ro fl9 ab sz ln kd bg nx ft fb a pe wo tx ch jo tr dy sd f lc lz ll lm lg ld fc gr gz gn fr oY aY peY woY txY chY joY trY dyY sdY fY loV lcV lzV llV lmV lgV ldV fcV qT qL it il ig mh me mx fT fL aI peI woI txI chI joI trI dyI sdI fI lcI lzI llI lmI lgI ldI fcI grI gzI gnI frI oD aD peD woD txD chD joD trD dyD sdD fD rw ri rt rb oa fz PT PL oM aM thM hiM acM tpM baM enM tAM flM deM iDM iOM tUM fmM fkM faM fcM ftM ffM fbM fiM b_sz b_pe b_wo rf b_lz b_gz b_gn b_me b_mx b_peI b_woI rfI b_lzI b_gzI b_gnI b_peD b_woD rfD b_ri hRT himg hcq hlw hwn hma hig hflt hPT hPL rfmM rfkM rfaM rfcM hacM htpM hiDM hiOM hst H _ ls hP hD hS (lv_sub hl [0, 1, 2, 3, 4] rfl)
      have g8 : (8 : Int) ≤ x_4.toInt := zst1 (k := 7) (by decide) g7 hk7
      by_cases hk8 : x_4 = 8
      · subst hk8
        refine lv_tableIn (x := 8) (off := 479) (tgt := 519) hx hb dL_law__40 (by decide) (by decide) rfl (by decide) ?_
        exact w_8 l hfl g hbA hA St hX hbl hK hT i cc ss (by omega) (by omega) hi6 hiL K9 x ta o lo go tt lt mo fo ro fl9 ab sz ln kd bg nx ft fb a pe wo tx ch jo tr dy sd f lc lz ll lm lg ld fc gr gz gn fr oY aY peY woY txY chY joY trY dyY sdY fY loV lcV lzV llV lmV lgV ldV fcV qT qL it il ig mh me mx fT fL aI peI woI txI chI joI trI dyI sdI fI lcI lzI llI lmI lgI ldI fcI grI gzI gnI frI oD aD peD woD txD chD joD trD dyD sdD fD rw ri rt rb oa fz PT PL oM aM thM hiM acM tpM baM enM tAM flM deM iDM iOM tUM fmM fkM faM fcM ftM ffM fbM fiM b_sz b_pe b_wo rf b_lz b_gz b_gn b_me b_mx b_peI b_woI rfI b_lzI b_gzI b_gnI b_peD b_woD rfD b_ri hRT himg hcq hlw hwn hma hig hflt hPT hPL rfmM rfkM rfaM rfcM hacM htpM hiDM hiOM hst H _ ls hP hD hS (lv_sub hl [0, 1, 2, 3, 4] rfl)
      have g9 : (9 : Int) ≤ x_4.toInt := zst1 (k := 8) (by decide) g8 hk8
      by_cases hk9 : x_4 = 9
      · subst hk9
        refine lv_tableIn (x := 9) (off := 492) (tgt := 532) hx hb dL_law__40 (by decide) (by decide) rfl (by decide) ?_
        exact w_9 l hfl g hbA hA St hX hbl hK hT i cc ss (by omega) (by omega) hi6 hiL K9 x ta o lo go tt lt mo fo ro fl9 ab sz ln kd bg nx ft fb a pe wo tx ch jo tr dy sd f lc lz ll lm lg ld fc gr gz gn fr oY aY peY woY txY chY joY trY dyY sdY fY loV lcV lzV llV lmV lgV ldV fcV qT qL it il ig mh me mx fT fL aI peI woI txI chI joI trI dyI sdI fI lcI lzI llI lmI lgI ldI fcI grI gzI gnI frI oD aD peD woD txD chD joD trD dyD sdD fD rw ri rt rb oa fz PT PL oM aM thM hiM acM tpM baM enM tAM flM deM iDM iOM tUM fmM fkM faM fcM ftM ffM fbM fiM b_sz b_pe b_wo rf b_lz b_gz b_gn b_me b_mx b_peI b_woI rfI b_lzI b_gzI b_gnI b_peD b_woD rfD b_ri hRT himg hcq hlw hwn hma hig hflt hPT hPL rfmM rfkM rfaM rfcM hacM htpM hiDM hiOM hst H _ ls hP hD hS (lv_sub hl [0, 1, 2, 3, 4] rfl)
      have g10 : (10 : Int) ≤ x_4.toInt := zst1 (k := 9) (by decide) g9 hk9
      by_cases hk10 : x_4 = 10
      · subst hk10
        refine lv_tableIn (x := 10) (off := 520) (tgt := 560) hx hb dL_law__40 (by decide) (by decide) rfl (by decide) ?_
        exact w_10 l hfl g hbA hA St hX hbl hK hT i cc ss (by omega) (by omega) hi6 hiL K9 x ta o lo go tt lt mo fo ro fl9 ab sz ln kd bg nx ft fb a pe wo tx ch jo tr dy sd f lc lz ll lm lg ld fc gr gz gn fr oY aY peY woY txY chY joY trY dyY sdY fY loV lcV lzV llV lmV lgV ldV fcV qT qL it il ig mh me mx fT fL aI peI woI txI chI joI trI dyI sdI fI lcI lzI llI lmI lgI ldI fcI grI gzI gnI frI oD aD peD woD txD chD joD trD dyD sdD fD rw ri rt rb oa fz PT PL oM aM thM hiM acM tpM baM enM tAM flM deM iDM iOM tUM fmM fkM faM fcM ftM ffM fbM fiM b_sz b_pe b_wo rf b_lz b_gz b_gn b_me b_mx b_peI b_woI rfI b_lzI b_gzI b_gnI b_peD b_woD rfD b_ri hRT himg hcq hlw hwn hma hig hflt hPT hPL rfmM rfkM rfaM rfcM hacM htpM hiDM hiOM hst H _ ls hP hD hS (lv_sub hl [0, 1, 2, 3, 4] rfl)
      have g11 : (11 : Int) ≤ x_4.toInt := zst1 (k := 10) (by decide) g10 hk10
      by_cases hk11 : x_4 = 11
      · subst hk11
        refine lv_tableIn (x := 11) (off := 572) (tgt := 612) hx hb dL_law__40 (by decide) (by decide) rfl (by decide) ?_
        exact w_11 l hfl g hbA hA St hX hbl hK hT i cc ss (by omega) (by omega) hi6 hiL K9 x ta o lo go tt lt mo fo ro fl9 ab sz ln kd bg nx ft fb a pe wo tx ch jo tr dy sd f lc lz ll lm lg ld fc gr gz gn fr oY aY peY woY txY chY joY trY dyY sdY fY loV lcV lzV llV lmV lgV ldV fcV qT qL it il ig mh me mx fT fL aI peI woI txI chI joI trI dyI sdI fI lcI lzI llI lmI lgI ldI fcI grI gzI gnI frI oD aD peD woD txD chD joD trD dyD sdD fD rw ri rt rb oa fz PT PL oM aM thM hiM acM tpM baM enM tAM flM deM iDM iOM tUM fmM fkM faM fcM ftM ffM fbM fiM b_sz b_pe b_wo rf b_lz b_gz b_gn b_me b_mx b_peI b_woI rfI b_lzI b_gzI b_gnI b_peD b_woD rfD b_ri hRT himg hcq hlw hwn hma hig hflt hPT hPL rfmM rfkM rfaM rfcM hacM htpM hiDM hiOM hst H _ ls hP hD hS (lv_sub hl [0, 1, 2, 3, 4] rfl)
      have g12 : (12 : Int) ≤ x_4.toInt := zst1 (k := 11) (by decide) g11 hk11
      by_cases hk12 : x_4 = 12
      · subst hk12
        refine lv_tableIn (x := 12) (off := 597) (tgt := 637) hx hb dL_law__40 (by decide) (by decide) rfl (by decide) ?_
        exact w_12 l hfl g hbA hA St hX hbl hK hT i cc ss (by omega) (by omega) hi6 hiL K9 x ta o lo go tt lt mo fo ro fl9 ab sz ln kd bg nx ft fb a pe wo tx ch jo tr dy sd f lc lz ll lm lg ld fc gr gz gn fr oY aY peY woY txY chY joY trY dyY sdY fY loV lcV lzV llV lmV lgV ldV fcV qT qL it il ig mh me mx fT fL aI peI woI txI chI joI trI dyI sdI fI lcI lzI llI lmI lgI ldI fcI grI gzI gnI frI oD aD peD woD txD chD joD trD dyD sdD fD rw ri rt rb oa fz PT PL oM aM thM hiM acM tpM baM enM tAM flM deM iDM iOM tUM fmM fkM faM fcM ftM ffM fbM fiM b_sz b_pe b_wo rf b_lz b_gz b_gn b_me b_mx b_peI b_woI rfI b_lzI b_gzI b_gnI b_peD b_woD rfD b_ri hRT himg hcq hlw hwn hma hig hflt hPT hPL rfmM rfkM rfaM rfcM hacM htpM hiDM hiOM hst H _ ls hP hD hS (lv_sub hl [0, 1, 2, 3, 4] rfl)
      have g13 : (13 : Int) ≤ x_4.toInt := zst1 (k := 12) (by decide) g12 hk12
      by_cases hk13 : x_4 = 13
      · subst hk13
        refine lv_tableIn (x := 13) (off := 625) (tgt := 665) hx hb dL_law__40 (by decide) (by decide) rfl (by decide) ?_
        exact w_13 l hfl g hbA hA St hX hbl hK hT i cc ss (by omega) (by omega) hi6 hiL K9 x ta o lo go tt lt mo fo ro fl9 ab sz ln kd bg nx ft fb a pe wo tx ch jo tr dy sd f lc lz ll lm lg ld fc gr gz gn fr oY aY peY woY txY chY joY trY dyY sdY fY loV lcV lzV llV lmV lgV ldV fcV qT qL it il ig mh me mx fT fL aI peI woI txI chI joI trI dyI sdI fI lcI lzI llI lmI lgI ldI fcI grI gzI gnI frI oD aD peD woD txD chD joD trD dyD sdD fD rw ri rt rb oa fz PT PL oM aM thM hiM acM tpM baM enM tAM flM deM iDM iOM tUM fmM fkM faM fcM ftM ffM fbM fiM b_sz b_pe b_wo rf b_lz b_gz b_gn b_me b_mx b_peI b_woI rfI b_lzI b_gzI b_gnI b_peD b_woD rfD b_ri hRT himg hcq hlw hwn hma hig hflt hPT hPL rfmM rfkM rfaM rfcM hacM htpM hiDM hiOM hst H _ ls hP hD hS (lv_sub hl [0, 1, 2, 3, 4] rfl)
      have g14 : (14 : Int) ≤ x_4.toInt := zst1 (k := 13) (by decide) g13 hk13
      by_cases hk14 : x_4 = 14
      · subst hk14
        refine lv_tableIn (x := 14) (off := 665) (tgt := 705) hx hb dL_law__40 (by decide) (by decide) rfl (by decide) ?_
        exact w_14 l hfl g hbA hA St hX hbl hK hT i cc ss (by omega) (by omega) hi6 hiL K9 x ta o lo go tt lt mo fo ro fl9 ab sz ln kd bg nx ft fb a pe wo tx ch jo tr dy sd f lc lz ll lm lg ld fc gr gz gn fr oY aY peY woY txY chY joY trY dyY sdY fY loV lcV lzV llV lmV lgV ldV fcV qT qL it il ig mh me mx fT fL aI peI woI txI chI joI trI dyI sdI fI lcI lzI llI lmI lgI ldI fcI grI gzI gnI frI oD aD peD woD txD chD joD trD dyD sdD fD rw ri rt rb oa fz PT PL oM aM thM hiM acM tpM baM enM tAM flM deM iDM iOM tUM fmM fkM faM fcM ftM ffM fbM fiM b_sz b_pe b_wo rf b_lz b_gz b_gn b_me b_mx b_peI b_woI rfI b_lzI b_gzI b_gnI b_peD b_woD rfD b_ri hRT himg hcq hlw hwn hma hig hflt hPT hPL rfmM rfkM rfaM rfcM hacM htpM hiDM hiOM hst H _ ls hP hD hS (lv_sub hl [0, 1, 2, 3, 4] rfl)
      have g15 : (15 : Int) ≤ x_4.toInt := zst1 (k := 14) (by decide) g14 hk14
      by_cases hk15 : x_4 = 15
      · subst hk15
        refine lv_tableIn (x := 15) (off := 705) (tgt := 745) hx hb dL_law__40 (by decide) (by decide) rfl (by decide) ?_
        exact w_15 l hfl g hbA hA St hX hbl hK hT i cc ss (by omega) (by omega) hi6 hiL K9 x ta o lo go tt lt mo fo ro fl9 ab sz ln kd bg nx ft fb a pe wo tx ch jo tr dy sd f lc lz ll lm lg ld fc gr gz gn fr oY aY peY woY txY chY joY trY dyY sdY fY loV lcV lzV llV lmV lgV ldV fcV qT qL it il ig mh me mx fT fL aI peI woI txI chI joI trI dyI sdI fI lcI lzI llI lmI lgI ldI fcI grI gzI gnI frI oD aD peD woD txD chD joD trD dyD sdD fD rw ri rt rb oa fz PT PL oM aM thM hiM acM tpM baM enM tAM flM deM iDM iOM tUM fmM fkM faM fcM ftM ffM fbM fiM b_sz b_pe b_wo rf b_lz b_gz b_gn b_me b_mx b_peI b_woI rfI b_lzI b_gzI b_gnI b_peD b_woD rfD b_ri hRT himg hcq hlw hwn hma hig hflt hPT hPL rfmM rfkM rfaM rfcM hacM htpM hiDM hiOM hst H _ ls hP hD hS (lv_sub hl [0, 1, 2, 3, 4] rfl)
      have g16 : (16 : Int) ≤ x_4.toInt := zst1 (k := 15) (by decide) g15 hk15
      by_cases hk16 : x_4 = 16
      · subst hk16
        refine lv_tableIn (x := 16) (off := 761) (tgt := 801) hx hb dL_law__40 (by decide) (by decide) rfl (by decide) ?_
        exact w_16 l hfl g hbA hA St hX hbl hK hT i cc ss (by omega) (by omega) hi6 hiL K9 x ta o lo go tt lt mo fo ro fl9 ab sz ln kd bg nx ft fb a pe wo tx ch jo tr dy sd f lc lz ll lm lg ld fc gr gz gn fr oY aY peY woY txY chY joY trY dyY sdY fY loV lcV lzV llV lmV lgV ldV fcV qT qL it il ig mh me mx fT fL aI peI woI txI chI joI trI dyI sdI fI lcI lzI llI lmI lgI ldI fcI grI gzI gnI frI oD aD peD woD txD chD joD trD dyD sdD fD rw ri rt rb oa fz PT PL oM aM thM hiM acM tpM baM enM tAM flM deM iDM iOM tUM fmM fkM faM fcM ftM ffM fbM fiM b_sz b_pe b_wo rf b_lz b_gz b_gn b_me b_mx b_peI b_woI rfI b_lzI b_gzI b_gnI b_peD b_woD rfD b_ri hRT himg hcq hlw hwn hma hig hflt hPT hPL rfmM rfkM rfaM rfcM hacM htpM hiDM hiOM hst H _ ls hP hD hS (lv_sub hl [0, 1, 2, 3, 4] rfl)
      have g17 : (17 : Int) ≤ x_4.toInt := zst1 (k := 16) (by decide) g16 hk16
      by_cases hk17 : x_4 = 17
      · subst hk17
        refine lv_tableIn (x := 17) (off := 789) (tgt := 829) hx hb dL_law__40 (by decide) (by decide) rfl (by decide) ?_
        exact w_17 l hfl g hbA hA St hX hbl hK hT i cc ss (by omega) (by omega) hi6 hiL K9 x ta o lo go tt lt mo fo ro fl9 ab sz ln kd bg nx ft fb a pe wo tx ch jo tr dy sd f lc lz ll lm lg ld fc gr gz gn fr oY aY peY woY txY chY joY trY dyY sdY fY loV lcV lzV llV lmV lgV ldV fcV qT qL it il ig mh me mx fT fL aI peI woI txI chI joI trI dyI sdI fI lcI lzI llI lmI lgI ldI fcI grI gzI gnI frI oD aD peD woD txD chD joD trD dyD sdD fD rw ri rt rb oa fz PT PL oM aM thM hiM acM tpM baM enM tAM flM deM iDM iOM tUM fmM fkM faM fcM ftM ffM fbM fiM b_sz b_pe b_wo rf b_lz b_gz b_gn b_me b_mx b_peI b_woI rfI b_lzI b_gzI b_gnI b_peD b_woD rfD b_ri hRT himg hcq hlw hwn hma hig hflt hPT hPL rfmM rfkM rfaM rfcM hacM htpM hiDM hiOM hst H _ ls hP hD hS (lv_sub hl [0, 1, 2, 3, 4] rfl)
      have g18 : (18 : Int) ≤ x_4.toInt := zst1 (k := 17) (by decide) g17 hk17
      by_cases hk18 : x_4 = 18
      · subst hk18
        refine lv_tableIn (x := 18) (off := 829) (tgt := 869) hx hb dL_law__40 (by decide) (by decide) rfl (by decide) ?_
        exact w_18 l hfl g hbA hA St hX hbl hK hT i cc ss (by omega) (by omega) hi6 hiL K9 x ta o lo go tt lt mo fo ro fl9 ab sz ln kd bg nx ft fb a pe wo tx ch jo tr dy sd f lc lz ll lm lg ld fc gr gz gn fr oY aY peY woY txY chY joY trY dyY sdY fY loV lcV lzV llV lmV lgV ldV fcV qT qL it il ig mh me mx fT fL aI peI woI txI chI joI trI dyI sdI fI lcI lzI llI lmI lgI ldI fcI grI gzI gnI frI oD aD peD woD txD chD joD trD dyD sdD fD rw ri rt rb oa fz PT PL oM aM thM hiM acM tpM baM enM tAM flM deM iDM iOM tUM fmM fkM faM fcM ftM ffM fbM fiM b_sz b_pe b_wo rf b_lz b_gz b_gn b_me b_mx b_peI b_woI rfI b_lzI b_gzI b_gnI b_peD b_woD rfD b_ri hRT himg hcq hlw hwn hma hig hflt hPT hPL rfmM rfkM rfaM rfcM hacM htpM hiDM hiOM hst H _ ls hP hD hS (lv_sub hl [0, 1, 2, 3, 4] rfl)
      have g19 : (19 : Int) ≤ x_4.toInt := zst1 (k := 18) (by decide) g18 hk18
      by_cases hk19 : x_4 = 19
      · subst hk19
        refine lv_tableIn (x := 19) (off := 885) (tgt := 925) hx hb dL_law__40 (by decide) (by decide) rfl (by decide) ?_
        exact w_19 l hfl g hbA hA St hX hbl hK hT i cc ss (by omega) (by omega) hi6 hiL K9 x ta o lo go tt lt mo fo ro fl9 ab sz ln kd bg nx ft fb a pe wo tx ch jo tr dy sd f lc lz ll lm lg ld fc gr gz gn fr oY aY peY woY txY chY joY trY dyY sdY fY loV lcV lzV llV lmV lgV ldV fcV qT qL it il ig mh me mx fT fL aI peI woI txI chI joI trI dyI sdI fI lcI lzI llI lmI lgI ldI fcI grI gzI gnI frI oD aD peD woD txD chD joD trD dyD sdD fD rw ri rt rb oa fz PT PL oM aM thM hiM acM tpM baM enM tAM flM deM iDM iOM tUM fmM fkM faM fcM ftM ffM fbM fiM b_sz b_pe b_wo rf b_lz b_gz b_gn b_me b_mx b_peI b_woI rfI b_lzI b_gzI b_gnI b_peD b_woD rfD b_ri hRT himg hcq hlw hwn hma hig hflt hPT hPL rfmM rfkM rfaM rfcM hacM htpM hiDM hiOM hst H _ ls hP hD hS (lv_sub hl [0, 1, 2, 3, 4] rfl)
      have g20 : (20 : Int) ≤ x_4.toInt := zst1 (k := 19) (by decide) g19 hk19
      by_cases hk20 : x_4 = 20
      · subst hk20
        refine lv_tableIn (x := 20) (off := 925) (tgt := 965) hx hb dL_law__40 (by decide) (by decide) rfl (by decide) ?_
        exact w_20 l hfl g hbA hA St hX hbl hK hT i cc ss (by omega) (by omega) hi6 hiL K9 x ta o lo go tt lt mo fo ro fl9 ab sz ln kd bg nx ft fb a pe wo tx ch jo tr dy sd f lc lz ll lm lg ld fc gr gz gn fr oY aY peY woY txY chY joY trY dyY sdY fY loV lcV lzV llV lmV lgV ldV fcV qT qL it il ig mh me mx fT fL aI peI woI txI chI joI trI dyI sdI fI lcI lzI llI lmI lgI ldI fcI grI gzI gnI frI oD aD peD woD txD chD joD trD dyD sdD fD rw ri rt rb oa fz PT PL oM aM thM hiM acM tpM baM enM tAM flM deM iDM iOM tUM fmM fkM faM fcM ftM ffM fbM fiM b_sz b_pe b_wo rf b_lz b_gz b_gn b_me b_mx b_peI b_woI rfI b_lzI b_gzI b_gnI b_peD b_woD rfD b_ri hRT himg hcq hlw hwn hma hig hflt hPT hPL rfmM rfkM rfaM rfcM hacM htpM hiDM hiOM hst H _ ls hP hD hS (lv_sub hl [0, 1, 2, 3, 4] rfl)
      have g21 : (21 : Int) ≤ x_4.toInt := zst1 (k := 20) (by decide) g20 hk20
      by_cases hk21 : x_4 = 21
      · subst hk21
        refine lv_tableIn (x := 21) (off := 953) (tgt := 993) hx hb dL_law__40 (by decide) (by decide) rfl (by decide) ?_
        exact w_21 l hfl g hbA hA St hX hbl hK hT i cc ss (by omega) (by omega) hi6 hiL K9 x ta o lo go tt lt mo fo ro fl9 ab sz ln kd bg nx ft fb a pe wo tx ch jo tr dy sd f lc lz ll lm lg ld fc gr gz gn fr oY aY peY woY txY chY joY trY dyY sdY fY loV lcV lzV llV lmV lgV ldV fcV qT qL it il ig mh me mx fT fL aI peI woI txI chI joI trI dyI sdI fI lcI lzI llI lmI lgI ldI fcI grI gzI gnI frI oD aD peD woD txD chD joD trD dyD sdD fD rw ri rt rb oa fz PT PL oM aM thM hiM acM tpM baM enM tAM flM deM iDM iOM tUM fmM fkM faM fcM ftM ffM fbM fiM b_sz b_pe b_wo rf b_lz b_gz b_gn b_me b_mx b_peI b_woI rfI b_lzI b_gzI b_gnI b_peD b_woD rfD b_ri hRT himg hcq hlw hwn hma hig hflt hPT hPL rfmM rfkM rfaM rfcM hacM htpM hiDM hiOM hst H _ ls hP hD hS (lv_sub hl [0, 1, 2, 3, 4] rfl)
      have g22 : (22 : Int) ≤ x_4.toInt := zst1 (k := 21) (by decide) g21 hk21
      by_cases hk22 : x_4 = 22
      · subst hk22
        refine lv_tableIn (x := 22) (off := 993) (tgt := 1033) hx hb dL_law__40 (by decide) (by decide) rfl (by decide) ?_
        exact w_22 l hfl g hbA hA St hX hbl hK hT i cc ss (by omega) (by omega) hi6 hiL K9 x ta o lo go tt lt mo fo ro fl9 ab sz ln kd bg nx ft fb a pe wo tx ch jo tr dy sd f lc lz ll lm lg ld fc gr gz gn fr oY aY peY woY txY chY joY trY dyY sdY fY loV lcV lzV llV lmV lgV ldV fcV qT qL it il ig mh me mx fT fL aI peI woI txI chI joI trI dyI sdI fI lcI lzI llI lmI lgI ldI fcI grI gzI gnI frI oD aD peD woD txD chD joD trD dyD sdD fD rw ri rt rb oa fz PT PL oM aM thM hiM acM tpM baM enM tAM flM deM iDM iOM tUM fmM fkM faM fcM ftM ffM fbM fiM b_sz b_pe b_wo rf b_lz b_gz b_gn b_me b_mx b_peI b_woI rfI b_lzI b_gzI b_gnI b_peD b_woD rfD b_ri hRT himg hcq hlw hwn hma hig hflt hPT hPL rfmM rfkM rfaM rfcM hacM htpM hiDM hiOM hst H _ ls hP hD hS (lv_sub hl [0, 1, 2, 3, 4] rfl)
      have g23 : (23 : Int) ≤ x_4.toInt := zst1 (k := 22) (by decide) g22 hk22
      by_cases hk23 : x_4 = 23
      · subst hk23
        refine lv_tableIn (x := 23) (off := 1049) (tgt := 1089) hx hb dL_law__40 (by decide) (by decide) rfl (by decide) ?_
        exact w_23 l hfl g hbA hA St hX hbl hK hT i cc ss (by omega) (by omega) hi6 hiL K9 x ta o lo go tt lt mo fo ro fl9 ab sz ln kd bg nx ft fb a pe wo tx ch jo tr dy sd f lc lz ll lm lg ld fc gr gz gn fr oY aY peY woY txY chY joY trY dyY sdY fY loV lcV lzV llV lmV lgV ldV fcV qT qL it il ig mh me mx fT fL aI peI woI txI chI joI trI dyI sdI fI lcI lzI llI lmI lgI ldI fcI grI gzI gnI frI oD aD peD woD txD chD joD trD dyD sdD fD rw ri rt rb oa fz PT PL oM aM thM hiM acM tpM baM enM tAM flM deM iDM iOM tUM fmM fkM faM fcM ftM ffM fbM fiM b_sz b_pe b_wo rf b_lz b_gz b_gn b_me b_mx b_peI b_woI rfI b_lzI b_gzI b_gnI b_peD b_woD rfD b_ri hRT himg hcq hlw hwn hma hig hflt hPT hPL rfmM rfkM rfaM rfcM hacM htpM hiDM hiOM hst H _ ls hP hD hS (lv_sub hl [0, 1, 2, 3, 4] rfl)
      have g24 : (24 : Int) ≤ x_4.toInt := zst1 (k := 23) (by decide) g23 hk23
      by_cases hk24 : x_4 = 24
      · subst hk24
        refine lv_tableIn (x := 24) (off := 1062) (tgt := 1102) hx hb dL_law__40 (by decide) (by decide) rfl (by decide) ?_
        exact w_24 l hfl g hbA hA St hX hbl hK hT i cc ss (by omega) (by omega) hi6 hiL K9 x ta o lo go tt lt mo fo ro fl9 ab sz ln kd bg nx ft fb a pe wo tx ch jo tr dy sd f lc lz ll lm lg ld fc gr gz gn fr oY aY peY woY txY chY joY trY dyY sdY fY loV lcV lzV llV lmV lgV ldV fcV qT qL it il ig mh me mx fT fL aI peI woI txI chI joI trI dyI sdI fI lcI lzI llI lmI lgI ldI fcI grI gzI gnI frI oD aD peD woD txD chD joD trD dyD sdD fD rw ri rt rb oa fz PT PL oM aM thM hiM acM tpM baM enM tAM flM deM iDM iOM tUM fmM fkM faM fcM ftM ffM fbM fiM b_sz b_pe b_wo rf b_lz b_gz b_gn b_me b_mx b_peI b_woI rfI b_lzI b_gzI b_gnI b_peD b_woD rfD b_ri hRT himg hcq hlw hwn hma hig hflt hPT hPL rfmM rfkM rfaM rfcM hacM htpM hiDM hiOM hst H _ ls hP hD hS (lv_sub hl [0, 1, 2, 3, 4] rfl)
      have g25 : (25 : Int) ≤ x_4.toInt := zst1 (k := 24) (by decide) g24 hk24
      by_cases hk25 : x_4 = 25
      · subst hk25
        refine lv_tableIn (x := 25) (off := 1075) (tgt := 1115) hx hb dL_law__40 (by decide) (by decide) rfl (by decide) ?_
        exact w_25 l hfl g hbA hA St hX hbl hK hT i cc ss (by omega) (by omega) hi6 hiL K9 x ta o lo go tt lt mo fo ro fl9 ab sz ln kd bg nx ft fb a pe wo tx ch jo tr dy sd f lc lz ll lm lg ld fc gr gz gn fr oY aY peY woY txY chY joY trY dyY sdY fY loV lcV lzV llV lmV lgV ldV fcV qT qL it il ig mh me mx fT fL aI peI woI txI chI joI trI dyI sdI fI lcI lzI llI lmI lgI ldI fcI grI gzI gnI frI oD aD peD woD txD chD joD trD dyD sdD fD rw ri rt rb oa fz PT PL oM aM thM hiM acM tpM baM enM tAM flM deM iDM iOM tUM fmM fkM faM fcM ftM ffM fbM fiM b_sz b_pe b_wo rf b_lz b_gz b_gn b_me b_mx b_peI b_woI rfI b_lzI b_gzI b_gnI b_peD b_woD rfD b_ri hRT himg hcq hlw hwn hma hig hflt hPT hPL rfmM rfkM rfaM rfcM hacM htpM hiDM hiOM hst H _ ls hP hD hS (lv_sub hl [0, 1, 2, 3, 4] rfl)
      have g26 : (26 : Int) ≤ x_4.toInt := zst1 (k := 25) (by decide) g25 hk25
      by_cases hk26 : x_4 = 26
      · subst hk26
        refine lv_tableIn (x := 26) (off := 1131) (tgt := 1171) hx hb dL_law__40 (by decide) (by decide) rfl (by decide) ?_
        exact w_26 l hfl g hbA hA St hX hbl hK hT i cc ss (by omega) (by omega) hi6 hiL K9 x ta o lo go tt lt mo fo ro fl9 ab sz ln kd bg nx ft fb a pe wo tx ch jo tr dy sd f lc lz ll lm lg ld fc gr gz gn fr oY aY peY woY txY chY joY trY dyY sdY fY loV lcV lzV llV lmV lgV ldV fcV qT qL it il ig mh me mx fT fL aI peI woI txI chI joI trI dyI sdI fI lcI lzI llI lmI lgI ldI fcI grI gzI gnI frI oD aD peD woD txD chD joD trD dyD sdD fD rw ri rt rb oa fz PT PL oM aM thM hiM acM tpM baM enM tAM flM deM iDM iOM tUM fmM fkM faM fcM ftM ffM fbM fiM b_sz b_pe b_wo rf b_lz b_gz b_gn b_me b_mx b_peI b_woI rfI b_lzI b_gzI b_gnI b_peD b_woD rfD b_ri hRT himg hcq hlw hwn hma hig hflt hPT hPL rfmM rfkM rfaM rfcM hacM htpM hiDM hiOM hst H _ ls hP hD hS (lv_sub hl [0, 1, 2, 3, 4] rfl)
      have g27 : (27 : Int) ≤ x_4.toInt := zst1 (k := 26) (by decide) g26 hk26
      by_cases hk27 : x_4 = 27
      · subst hk27
        refine lv_tableIn (x := 27) (off := 1159) (tgt := 1199) hx hb dL_law__40 (by decide) (by decide) rfl (by decide) ?_
        exact w_27 l hfl g hbA hA St hX hbl hK hT i cc ss (by omega) (by omega) hi6 hiL K9 x ta o lo go tt lt mo fo ro fl9 ab sz ln kd bg nx ft fb a pe wo tx ch jo tr dy sd f lc lz ll lm lg ld fc gr gz gn fr oY aY peY woY txY chY joY trY dyY sdY fY loV lcV lzV llV lmV lgV ldV fcV qT qL it il ig mh me mx fT fL aI peI woI txI chI joI trI dyI sdI fI lcI lzI llI lmI lgI ldI fcI grI gzI gnI frI oD aD peD woD txD chD joD trD dyD sdD fD rw ri rt rb oa fz PT PL oM aM thM hiM acM tpM baM enM tAM flM deM iDM iOM tUM fmM fkM faM fcM ftM ffM fbM fiM b_sz b_pe b_wo rf b_lz b_gz b_gn b_me b_mx b_peI b_woI rfI b_lzI b_gzI b_gnI b_peD b_woD rfD b_ri hRT himg hcq hlw hwn hma hig hflt hPT hPL rfmM rfkM rfaM rfcM hacM htpM hiDM hiOM hst H _ ls hP hD hS (lv_sub hl [0, 1, 2, 3, 4] rfl)
      have g28 : (28 : Int) ≤ x_4.toInt := zst1 (k := 27) (by decide) g27 hk27
      by_cases hk28 : x_4 = 28
      · subst hk28
        refine lv_tableIn (x := 28) (off := 1200) (tgt := 1240) hx hb dL_law__40 (by decide) (by decide) rfl (by decide) ?_
        exact w_28 l hfl g hbA hA St hX hbl hK hT i cc ss (by omega) (by omega) hi6 hiL K9 x ta o lo go tt lt mo fo ro fl9 ab sz ln kd bg nx ft fb a pe wo tx ch jo tr dy sd f lc lz ll lm lg ld fc gr gz gn fr oY aY peY woY txY chY joY trY dyY sdY fY loV lcV lzV llV lmV lgV ldV fcV qT qL it il ig mh me mx fT fL aI peI woI txI chI joI trI dyI sdI fI lcI lzI llI lmI lgI ldI fcI grI gzI gnI frI oD aD peD woD txD chD joD trD dyD sdD fD rw ri rt rb oa fz PT PL oM aM thM hiM acM tpM baM enM tAM flM deM iDM iOM tUM fmM fkM faM fcM ftM ffM fbM fiM b_sz b_pe b_wo rf b_lz b_gz b_gn b_me b_mx b_peI b_woI rfI b_lzI b_gzI b_gnI b_peD b_woD rfD b_ri hRT himg hcq hlw hwn hma hig hflt hPT hPL rfmM rfkM rfaM rfcM hacM htpM hiDM hiOM hst H _ ls hP hD hS (lv_sub hl [0, 1, 2, 3, 4] rfl)
      have g29 : (29 : Int) ≤ x_4.toInt := zst1 (k := 28) (by decide) g28 hk28
      by_cases hk29 : x_4 = 29
      · subst hk29
        refine lv_tableIn (x := 29) (off := 1228) (tgt := 1268) hx hb dL_law__40 (by decide) (by decide) rfl (by decide) ?_
        exact w_29 l hfl g hbA hA St hX hbl hK hT i cc ss (by omega) (by omega) hi6 hiL K9 x ta o lo go tt lt mo fo ro fl9 ab sz ln kd bg nx ft fb a pe wo tx ch jo tr dy sd f lc lz ll lm lg ld fc gr gz gn fr oY aY peY woY txY chY joY trY dyY sdY fY loV lcV lzV llV lmV lgV ldV fcV qT qL it il ig mh me mx fT fL aI peI woI txI chI joI trI dyI sdI fI lcI lzI llI lmI lgI ldI fcI grI gzI gnI frI oD aD peD woD txD chD joD trD dyD sdD fD rw ri rt rb oa fz PT PL oM aM thM hiM acM tpM baM enM tAM flM deM iDM iOM tUM fmM fkM faM fcM ftM ffM fbM fiM b_sz b_pe b_wo rf b_lz b_gz b_gn b_me b_mx b_peI b_woI rfI b_lzI b_gzI b_gnI b_peD b_woD rfD b_ri hRT himg hcq hlw hwn hma hig hflt hPT hPL rfmM rfkM rfaM rfcM hacM htpM hiDM hiOM hst H _ ls hP hD hS (lv_sub hl [0, 1, 2, 3, 4] rfl)
      have g30 : (30 : Int) ≤ x_4.toInt := zst1 (k := 29) (by decide) g29 hk29
      by_cases hk30 : x_4 = 30
      · subst hk30
        refine lv_tableIn (x := 30) (off := 1256) (tgt := 1296) hx hb dL_law__40 (by decide) (by decide) rfl (by decide) ?_
        exact w_30 l hfl g hbA hA St hX hbl hK hT i cc ss (by omega) (by omega) hi6 hiL K9 x ta o lo go tt lt mo fo ro fl9 ab sz ln kd bg nx ft fb a pe wo tx ch jo tr dy sd f lc lz ll lm lg ld fc gr gz gn fr oY aY peY woY txY chY joY trY dyY sdY fY loV lcV lzV llV lmV lgV ldV fcV qT qL it il ig mh me mx fT fL aI peI woI txI chI joI trI dyI sdI fI lcI lzI llI lmI lgI ldI fcI grI gzI gnI frI oD aD peD woD txD chD joD trD dyD sdD fD rw ri rt rb oa fz PT PL oM aM thM hiM acM tpM baM enM tAM flM deM iDM iOM tUM fmM fkM faM fcM ftM ffM fbM fiM b_sz b_pe b_wo rf b_lz b_gz b_gn b_me b_mx b_peI b_woI rfI b_lzI b_gzI b_gnI b_peD b_woD rfD b_ri hRT himg hcq hlw hwn hma hig hflt hPT hPL rfmM rfkM rfaM rfcM hacM htpM hiDM hiOM hst H _ ls hP hD hS (lv_sub hl [0, 1, 2, 3, 4] rfl)
      have g31 : (31 : Int) ≤ x_4.toInt := zst1 (k := 30) (by decide) g30 hk30
      by_cases hk31 : x_4 = 31
      · subst hk31
        refine lv_tableIn (x := 31) (off := 1300) (tgt := 1340) hx hb dL_law__40 (by decide) (by decide) rfl (by decide) ?_
        exact w_31 l hfl g hbA hA St hX hbl hK hT i cc ss (by omega) (by omega) hi6 hiL K9 x ta o lo go tt lt mo fo ro fl9 ab sz ln kd bg nx ft fb a pe wo tx ch jo tr dy sd f lc lz ll lm lg ld fc gr gz gn fr oY aY peY woY txY chY joY trY dyY sdY fY loV lcV lzV llV lmV lgV ldV fcV qT qL it il ig mh me mx fT fL aI peI woI txI chI joI trI dyI sdI fI lcI lzI llI lmI lgI ldI fcI grI gzI gnI frI oD aD peD woD txD chD joD trD dyD sdD fD rw ri rt rb oa fz PT PL oM aM thM hiM acM tpM baM enM tAM flM deM iDM iOM tUM fmM fkM faM fcM ftM ffM fbM fiM b_sz b_pe b_wo rf b_lz b_gz b_gn b_me b_mx b_peI b_woI rfI b_lzI b_gzI b_gnI b_peD b_woD rfD b_ri hRT himg hcq hlw hwn hma hig hflt hPT hPL rfmM rfkM rfaM rfcM hacM htpM hiDM hiOM hst H _ ls hP hD hS (lv_sub hl [0, 1, 2, 3, 4] rfl)
      have g32 : (32 : Int) ≤ x_4.toInt := zst1 (k := 31) (by decide) g31 hk31
      by_cases hk32 : x_4 = 32
      · subst hk32
        refine lv_tableIn (x := 32) (off := 1316) (tgt := 1356) hx hb dL_law__40 (by decide) (by decide) rfl (by decide) ?_
        exact w_32 l hfl g hbA hA St hX hbl hK hT i cc ss (by omega) (by omega) hi6 hiL K9 x ta o lo go tt lt mo fo ro fl9 ab sz ln kd bg nx ft fb a pe wo tx ch jo tr dy sd f lc lz ll lm lg ld fc gr gz gn fr oY aY peY woY txY chY joY trY dyY sdY fY loV lcV lzV llV lmV lgV ldV fcV qT qL it il ig mh me mx fT fL aI peI woI txI chI joI trI dyI sdI fI lcI lzI llI lmI lgI ldI fcI grI gzI gnI frI oD aD peD woD txD chD joD trD dyD sdD fD rw ri rt rb oa fz PT PL oM aM thM hiM acM tpM baM enM tAM flM deM iDM iOM tUM fmM fkM faM fcM ftM ffM fbM fiM b_sz b_pe b_wo rf b_lz b_gz b_gn b_me b_mx b_peI b_woI rfI b_lzI b_gzI b_gnI b_peD b_woD rfD b_ri hRT himg hcq hlw hwn hma hig hflt hPT hPL rfmM rfkM rfaM rfcM hacM htpM hiDM hiOM hst H _ ls hP hD hS (lv_sub hl [0, 1, 2, 3, 4] rfl)
      have g33 : (33 : Int) ≤ x_4.toInt := zst1 (k := 32) (by decide) g32 hk32
      by_cases hk33 : x_4 = 33
      · subst hk33
        refine lv_tableIn (x := 33) (off := 1344) (tgt := 1384) hx hb dL_law__40 (by decide) (by decide) rfl (by decide) ?_
        exact w_33 l hfl g hbA hA St hX hbl hK hT i cc ss (by omega) (by omega) hi6 hiL K9 x ta o lo go tt lt mo fo ro fl9 ab sz ln kd bg nx ft fb a pe wo tx ch jo tr dy sd f lc lz ll lm lg ld fc gr gz gn fr oY aY peY woY txY chY joY trY dyY sdY fY loV lcV lzV llV lmV lgV ldV fcV qT qL it il ig mh me mx fT fL aI peI woI txI chI joI trI dyI sdI fI lcI lzI llI lmI lgI ldI fcI grI gzI gnI frI oD aD peD woD txD chD joD trD dyD sdD fD rw ri rt rb oa fz PT PL oM aM thM hiM acM tpM baM enM tAM flM deM iDM iOM tUM fmM fkM faM fcM ftM ffM fbM fiM b_sz b_pe b_wo rf b_lz b_gz b_gn b_me b_mx b_peI b_woI rfI b_lzI b_gzI b_gnI b_peD b_woD rfD b_ri hRT himg hcq hlw hwn hma hig hflt hPT hPL rfmM rfkM rfaM rfcM hacM htpM hiDM hiOM hst H _ ls hP hD hS (lv_sub hl [0, 1, 2, 3, 4] rfl)
      have g34 : (34 : Int) ≤ x_4.toInt := zst1 (k := 33) (by decide) g33 hk33
      by_cases hk34 : x_4 = 34
      · subst hk34
        refine lv_tableIn (x := 34) (off := 1384) (tgt := 1424) hx hb dL_law__40 (by decide) (by decide) rfl (by decide) ?_
        exact w_34 l hfl g hbA hA St hX hbl hK hT i cc ss (by omega) (by omega) hi6 hiL K9 x ta o lo go tt lt mo fo ro fl9 ab sz ln kd bg nx ft fb a pe wo tx ch jo tr dy sd f lc lz ll lm lg ld fc gr gz gn fr oY aY peY woY txY chY joY trY dyY sdY fY loV lcV lzV llV lmV lgV ldV fcV qT qL it il ig mh me mx fT fL aI peI woI txI chI joI trI dyI sdI fI lcI lzI llI lmI lgI ldI fcI grI gzI gnI frI oD aD peD woD txD chD joD trD dyD sdD fD rw ri rt rb oa fz PT PL oM aM thM hiM acM tpM baM enM tAM flM deM iDM iOM tUM fmM fkM faM fcM ftM ffM fbM fiM b_sz b_pe b_wo rf b_lz b_gz b_gn b_me b_mx b_peI b_woI rfI b_lzI b_gzI b_gnI b_peD b_woD rfD b_ri hRT himg hcq hlw hwn hma hig hflt hPT hPL rfmM rfkM rfaM rfcM hacM htpM hiDM hiOM hst H _ ls hP hD hS (lv_sub hl [0, 1, 2, 3, 4] rfl)
      have g35 : (35 : Int) ≤ x_4.toInt := zst1 (k := 34) (by decide) g34 hk34
      by_cases hk35 : x_4 = 35
      · subst hk35
        refine lv_tableIn (x := 35) (off := 1397) (tgt := 1437) hx hb dL_law__40 (by decide) (by decide) rfl (by decide) ?_
        exact w_35 l hfl g hbA hA St hX hbl hK hT i cc ss (by omega) (by omega) hi6 hiL K9 x ta o lo go tt lt mo fo ro fl9 ab sz ln kd bg nx ft fb a pe wo tx ch jo tr dy sd f lc lz ll lm lg ld fc gr gz gn fr oY aY peY woY txY chY joY trY dyY sdY fY loV lcV lzV llV lmV lgV ldV fcV qT qL it il ig mh me mx fT fL aI peI woI txI chI joI trI dyI sdI fI lcI lzI llI lmI lgI ldI fcI grI gzI gnI frI oD aD peD woD txD chD joD trD dyD sdD fD rw ri rt rb oa fz PT PL oM aM thM hiM acM tpM baM enM tAM flM deM iDM iOM tUM fmM fkM faM fcM ftM ffM fbM fiM b_sz b_pe b_wo rf b_lz b_gz b_gn b_me b_mx b_peI b_woI rfI b_lzI b_gzI b_gnI b_peD b_woD rfD b_ri hRT himg hcq hlw hwn hma hig hflt hPT hPL rfmM rfkM rfaM rfcM hacM htpM hiDM hiOM hst H _ ls hP hD hS (lv_sub hl [0, 1, 2, 3, 4] rfl)
      have g36 : (36 : Int) ≤ x_4.toInt := zst1 (k := 35) (by decide) g35 hk35
      by_cases hk36 : x_4 = 36
      · subst hk36
        refine lv_tableIn (x := 36) (off := 1410) (tgt := 1450) hx hb dL_law__40 (by decide) (by decide) rfl (by decide) ?_
        exact w_36 l hfl g hbA hA St hX hbl hK hT i cc ss (by omega) (by omega) hi6 hiL K9 x ta o lo go tt lt mo fo ro fl9 ab sz ln kd bg nx ft fb a pe wo tx ch jo tr dy sd f lc lz ll lm lg ld fc gr gz gn fr oY aY peY woY txY chY joY trY dyY sdY fY loV lcV lzV llV lmV lgV ldV fcV qT qL it il ig mh me mx fT fL aI peI woI txI chI joI trI dyI sdI fI lcI lzI llI lmI lgI ldI fcI grI gzI gnI frI oD aD peD woD txD chD joD trD dyD sdD fD rw ri rt rb oa fz PT PL oM aM thM hiM acM tpM baM enM tAM flM deM iDM iOM tUM fmM fkM faM fcM ftM ffM fbM fiM b_sz b_pe b_wo rf b_lz b_gz b_gn b_me b_mx b_peI b_woI rfI b_lzI b_gzI b_gnI b_peD b_woD rfD b_ri hRT himg hcq hlw hwn hma hig hflt hPT hPL rfmM rfkM rfaM rfcM hacM htpM hiDM hiOM hst H _ ls hP hD hS (lv_sub hl [0, 1, 2, 3, 4] rfl)
      have g37 : (37 : Int) ≤ x_4.toInt := zst1 (k := 36) (by decide) g36 hk36
      by_cases hk37 : x_4 = 37
      · subst hk37
        refine lv_tableIn (x := 37) (off := 1450) (tgt := 1490) hx hb dL_law__40 (by decide) (by decide) rfl (by decide) ?_
        exact w_37 l hfl g hbA hA St hX hbl hK hT i cc ss (by omega) (by omega) hi6 hiL K9 x ta o lo go tt lt mo fo ro fl9 ab sz ln kd bg nx ft fb a pe wo tx ch jo tr dy sd f lc lz ll lm lg ld fc gr gz gn fr oY aY peY woY txY chY joY trY dyY sdY fY loV lcV lzV llV lmV lgV ldV fcV qT qL it il ig mh me mx fT fL aI peI woI txI chI joI trI dyI sdI fI lcI lzI llI lmI lgI ldI fcI grI gzI gnI frI oD aD peD woD txD chD joD trD dyD sdD fD rw ri rt rb oa fz PT PL oM aM thM hiM acM tpM baM enM tAM flM deM iDM iOM tUM fmM fkM faM fcM ftM ffM fbM fiM b_sz b_pe b_wo rf b_lz b_gz b_gn b_me b_mx b_peI b_woI rfI b_lzI b_gzI b_gnI b_peD b_woD rfD b_ri hRT himg hcq hlw hwn hma hig hflt hPT hPL rfmM rfkM rfaM rfcM hacM htpM hiDM hiOM hst H _ ls hP hD hS (lv_sub hl [0, 1, 2, 3, 4] rfl)
      have g38 : (38 : Int) ≤ x_4.toInt := zst1 (k := 37) (by decide) g37 hk37
      by_cases hk38 : x_4 = 38
      · subst hk38
        refine lv_tableIn (x := 38) (off := 1463) (tgt := 1503) hx hb dL_law__40 (by decide) (by decide) rfl (by decide) ?_
        exact w_38 l hfl g hbA hA St hX hbl hK hT i cc ss (by omega) (by omega) hi6 hiL K9 x ta o lo go tt lt mo fo ro fl9 ab sz ln kd bg nx ft fb a pe wo tx ch jo tr dy sd f lc lz ll lm lg ld fc gr gz gn fr oY aY peY woY txY chY joY trY dyY sdY fY loV lcV lzV llV lmV lgV ldV fcV qT qL it il ig mh me mx fT fL aI peI woI txI chI joI trI dyI sdI fI lcI lzI llI lmI lgI ldI fcI grI gzI gnI frI oD aD peD woD txD chD joD trD dyD sdD fD rw ri rt rb oa fz PT PL oM aM thM hiM acM tpM baM enM tAM flM deM iDM iOM tUM fmM fkM faM fcM ftM ffM fbM fiM b_sz b_pe b_wo rf b_lz b_gz b_gn b_me b_mx b_peI b_woI rfI b_lzI b_gzI b_gnI b_peD b_woD rfD b_ri hRT himg hcq hlw hwn hma hig hflt hPT hPL rfmM rfkM rfaM rfcM hacM htpM hiDM hiOM hst H _ ls hP hD hS (lv_sub hl [0, 1, 2, 3, 4] rfl)
      have g39 : (39 : Int) ≤ x_4.toInt := zst1 (k := 38) (by decide) g38 hk38
      by_cases hk39 : x_4 = 39
      · subst hk39
        refine lv_tableIn (x := 39) (off := 1476) (tgt := 1516) hx hb dL_law__40 (by decide) (by decide) rfl (by decide) ?_
        exact w_39 l hfl g hbA hA St hX hbl hK hT i cc ss (by omega) (by omega) hi6 hiL K9 x ta o lo go tt lt mo fo ro fl9 ab sz ln kd bg nx ft fb a pe wo tx ch jo tr dy sd f lc lz ll lm lg ld fc gr gz gn fr oY aY peY woY txY chY joY trY dyY sdY fY loV lcV lzV llV lmV lgV ldV fcV qT qL it il ig mh me mx fT fL aI peI woI txI chI joI trI dyI sdI fI lcI lzI llI lmI lgI ldI fcI grI gzI gnI frI oD aD peD woD txD chD joD trD dyD sdD fD rw ri rt rb oa fz PT PL oM aM thM hiM acM tpM baM enM tAM flM deM iDM iOM tUM fmM fkM faM fcM ftM ffM fbM fiM b_sz b_pe b_wo rf b_lz b_gz b_gn b_me b_mx b_peI b_woI rfI b_lzI b_gzI b_gnI b_peD b_woD rfD b_ri hRT himg hcq hlw hwn hma hig hflt hPT hPL rfmM rfkM rfaM rfcM hacM htpM hiDM hiOM hst H _ ls hP hD hS (lv_sub hl [0, 1, 2, 3, 4] rfl)
      have g40 : (40 : Int) ≤ x_4.toInt := zst1 (k := 39) (by decide) g39 hk39
      by_cases hk40 : x_4 = 40
      · subst hk40
        refine lv_tableIn (x := 40) (off := 1504) (tgt := 1544) hx hb dL_law__40 (by decide) (by decide) rfl (by decide) ?_
        exact w_40 l hfl g hbA hA St hX hbl hK hT i cc ss (by omega) (by omega) hi6 hiL K9 x ta o lo go tt lt mo fo ro fl9 ab sz ln kd bg nx ft fb a pe wo tx ch jo tr dy sd f lc lz ll lm lg ld fc gr gz gn fr oY aY peY woY txY chY joY trY dyY sdY fY loV lcV lzV llV lmV lgV ldV fcV qT qL it il ig mh me mx fT fL aI peI woI txI chI joI trI dyI sdI fI lcI lzI llI lmI lgI ldI fcI grI gzI gnI frI oD aD peD woD txD chD joD trD dyD sdD fD rw ri rt rb oa fz PT PL oM aM thM hiM acM tpM baM enM tAM flM deM iDM iOM tUM fmM fkM faM fcM ftM ffM fbM fiM b_sz b_pe b_wo rf b_lz b_gz b_gn b_me b_mx b_peI b_woI rfI b_lzI b_gzI b_gnI b_peD b_woD rfD b_ri hRT himg hcq hlw hwn hma hig hflt hPT hPL rfmM rfkM rfaM rfcM hacM htpM hiDM hiOM hst H _ ls hP hD hS (lv_sub hl [0, 1, 2, 3, 4] rfl)
      have g41 : (41 : Int) ≤ x_4.toInt := zst1 (k := 40) (by decide) g40 hk40
      by_cases hk41 : x_4 = 41
      · subst hk41
        refine lv_tableIn (x := 41) (off := 1517) (tgt := 1557) hx hb dL_law__40 (by decide) (by decide) rfl (by decide) ?_
        exact w_41 l hfl g hbA hA St hX hbl hK hT i cc ss (by omega) (by omega) hi6 hiL K9 x ta o lo go tt lt mo fo ro fl9 ab sz ln kd bg nx ft fb a pe wo tx ch jo tr dy sd f lc lz ll lm lg ld fc gr gz gn fr oY aY peY woY txY chY joY trY dyY sdY fY loV lcV lzV llV lmV lgV ldV fcV qT qL it il ig mh me mx fT fL aI peI woI txI chI joI trI dyI sdI fI lcI lzI llI lmI lgI ldI fcI grI gzI gnI frI oD aD peD woD txD chD joD trD dyD sdD fD rw ri rt rb oa fz PT PL oM aM thM hiM acM tpM baM enM tAM flM deM iDM iOM tUM fmM fkM faM fcM ftM ffM fbM fiM b_sz b_pe b_wo rf b_lz b_gz b_gn b_me b_mx b_peI b_woI rfI b_lzI b_gzI b_gnI b_peD b_woD rfD b_ri hRT himg hcq hlw hwn hma hig hflt hPT hPL rfmM rfkM rfaM rfcM hacM htpM hiDM hiOM hst H _ ls hP hD hS (lv_sub hl [0, 1, 2, 3, 4] rfl)
      have g42 : (42 : Int) ≤ x_4.toInt := zst1 (k := 41) (by decide) g41 hk41
      by_cases hk42 : x_4 = 42
      · subst hk42
        refine lv_tableIn (x := 42) (off := 1573) (tgt := 1613) hx hb dL_law__40 (by decide) (by decide) rfl (by decide) ?_
        exact w_42 l hfl g hbA hA St hX hbl hK hT i cc ss (by omega) (by omega) hi6 hiL K9 x ta o lo go tt lt mo fo ro fl9 ab sz ln kd bg nx ft fb a pe wo tx ch jo tr dy sd f lc lz ll lm lg ld fc gr gz gn fr oY aY peY woY txY chY joY trY dyY sdY fY loV lcV lzV llV lmV lgV ldV fcV qT qL it il ig mh me mx fT fL aI peI woI txI chI joI trI dyI sdI fI lcI lzI llI lmI lgI ldI fcI grI gzI gnI frI oD aD peD woD txD chD joD trD dyD sdD fD rw ri rt rb oa fz PT PL oM aM thM hiM acM tpM baM enM tAM flM deM iDM iOM tUM fmM fkM faM fcM ftM ffM fbM fiM b_sz b_pe b_wo rf b_lz b_gz b_gn b_me b_mx b_peI b_woI rfI b_lzI b_gzI b_gnI b_peD b_woD rfD b_ri hRT himg hcq hlw hwn hma hig hflt hPT hPL rfmM rfkM rfaM rfcM hacM htpM hiDM hiOM hst H _ ls hP hD hS (lv_sub hl [0, 1, 2, 3, 4] rfl)
      have g43 : (43 : Int) ≤ x_4.toInt := zst1 (k := 42) (by decide) g42 hk42
      by_cases hk43 : x_4 = 43
      · subst hk43
        refine lv_tableIn (x := 43) (off := 1629) (tgt := 1669) hx hb dL_law__40 (by decide) (by decide) rfl (by decide) ?_
        exact w_43 l hfl g hbA hA St hX hbl hK hT i cc ss (by omega) (by omega) hi6 hiL K9 x ta o lo go tt lt mo fo ro fl9 ab sz ln kd bg nx ft fb a pe wo tx ch jo tr dy sd f lc lz ll lm lg ld fc gr gz gn fr oY aY peY woY txY chY joY trY dyY sdY fY loV lcV lzV llV lmV lgV ldV fcV qT qL it il ig mh me mx fT fL aI peI woI txI chI joI trI dyI sdI fI lcI lzI llI lmI lgI ldI fcI grI gzI gnI frI oD aD peD woD txD chD joD trD dyD sdD fD rw ri rt rb oa fz PT PL oM aM thM hiM acM tpM baM enM tAM flM deM iDM iOM tUM fmM fkM faM fcM ftM ffM fbM fiM b_sz b_pe b_wo rf b_lz b_gz b_gn b_me b_mx b_peI b_woI rfI b_lzI b_gzI b_gnI b_peD b_woD rfD b_ri hRT himg hcq hlw hwn hma hig hflt hPT hPL rfmM rfkM rfaM rfcM hacM htpM hiDM hiOM hst H _ ls hP hD hS (lv_sub hl [0, 1, 2, 3, 4] rfl)
      have g44 : (44 : Int) ≤ x_4.toInt := zst1 (k := 43) (by decide) g43 hk43
      by_cases hk44 : x_4 = 44
      · subst hk44
        refine lv_tableIn (x := 44) (off := 1685) (tgt := 1725) hx hb dL_law__40 (by decide) (by decide) rfl (by decide) ?_
        exact w_44 l hfl g hbA hA St hX hbl hK hT i cc ss (by omega) (by omega) hi6 hiL K9 x ta o lo go tt lt mo fo ro fl9 ab sz ln kd bg nx ft fb a pe wo tx ch jo tr dy sd f lc lz ll lm lg ld fc gr gz gn fr oY aY peY woY txY chY joY trY dyY sdY fY loV lcV lzV llV lmV lgV ldV fcV qT qL it il ig mh me mx fT fL aI peI woI txI chI joI trI dyI sdI fI lcI lzI llI lmI lgI ldI fcI grI gzI gnI frI oD aD peD woD txD chD joD trD dyD sdD fD rw ri rt rb oa fz PT PL oM aM thM hiM acM tpM baM enM tAM flM deM iDM iOM tUM fmM fkM faM fcM ftM ffM fbM fiM b_sz b_pe b_wo rf b_lz b_gz b_gn b_me b_mx b_peI b_woI rfI b_lzI b_gzI b_gnI b_peD b_woD rfD b_ri hRT himg hcq hlw hwn hma hig hflt hPT hPL rfmM rfkM rfaM rfcM hacM htpM hiDM hiOM hst H _ ls hP hD hS (lv_sub hl [0, 1, 2, 3, 4] rfl)
      have g45 : (45 : Int) ≤ x_4.toInt := zst1 (k := 44) (by decide) g44 hk44
      by_cases hk45 : x_4 = 45
      · subst hk45
        refine lv_tableIn (x := 45) (off := 1725) (tgt := 1765) hx hb dL_law__40 (by decide) (by decide) rfl (by decide) ?_
        exact w_45 l hfl g hbA hA St hX hbl hK hT i cc ss (by omega) (by omega) hi6 hiL K9 x ta o lo go tt lt mo fo ro fl9 ab sz ln kd bg nx ft fb a pe wo tx ch jo tr dy sd f lc lz ll lm lg ld fc gr gz gn fr oY aY peY woY txY chY joY trY dyY sdY fY loV lcV lzV llV lmV lgV ldV fcV qT qL it il ig mh me mx fT fL aI peI woI txI chI joI trI dyI sdI fI lcI lzI llI lmI lgI ldI fcI grI gzI gnI frI oD aD peD woD txD chD joD trD dyD sdD fD rw ri rt rb oa fz PT PL oM aM thM hiM acM tpM baM enM tAM flM deM iDM iOM tUM fmM fkM faM fcM ftM ffM fbM fiM b_sz b_pe b_wo rf b_lz b_gz b_gn b_me b_mx b_peI b_woI rfI b_lzI b_gzI b_gnI b_peD b_woD rfD b_ri hRT himg hcq hlw hwn hma hig hflt hPT hPL rfmM rfkM rfaM rfcM hacM htpM hiDM hiOM hst H _ ls hP hD hS (lv_sub hl [0, 1, 2, 3, 4] rfl)
      have g46 : (46 : Int) ≤ x_4.toInt := zst1 (k := 45) (by decide) g45 hk45
      by_cases hk46 : x_4 = 46
      · subst hk46
        refine lv_tableIn (x := 46) (off := 1750) (tgt := 1790) hx hb dL_law__40 (by decide) (by decide) rfl (by decide) ?_
        exact w_46 l hfl g hbA hA St hX hbl hK hT i cc ss (by omega) (by omega) hi6 hiL K9 x ta o lo go tt lt mo fo ro fl9 ab sz ln kd bg nx ft fb a pe wo tx ch jo tr dy sd f lc lz ll lm lg ld fc gr gz gn fr oY aY peY woY txY chY joY trY dyY sdY fY loV lcV lzV llV lmV lgV ldV fcV qT qL it il ig mh me mx fT fL aI peI woI txI chI joI trI dyI sdI fI lcI lzI llI lmI lgI ldI fcI grI gzI gnI frI oD aD peD woD txD chD joD trD dyD sdD fD rw ri rt rb oa fz PT PL oM aM thM hiM acM tpM baM enM tAM flM deM iDM iOM tUM fmM fkM faM fcM ftM ffM fbM fiM b_sz b_pe b_wo rf b_lz b_gz b_gn b_me b_mx b_peI b_woI rfI b_lzI b_gzI b_gnI b_peD b_woD rfD b_ri hRT himg hcq hlw hwn hma hig hflt hPT hPL rfmM rfkM rfaM rfcM hacM htpM hiDM hiOM hst H _ ls hP hD hS (lv_sub hl [0, 1, 2, 3, 4] rfl)
      have g47 : (47 : Int) ≤ x_4.toInt := zst1 (k := 46) (by decide) g46 hk46
      by_cases hk47 : x_4 = 47
      · subst hk47
        refine lv_tableIn (x := 47) (off := 1763) (tgt := 1803) hx hb dL_law__40 (by decide) (by decide) rfl (by decide) ?_
        exact w_47 l hfl g hbA hA St hX hbl hK hT i cc ss (by omega) (by omega) hi6 hiL K9 x ta o lo go tt lt mo fo ro fl9 ab sz ln kd bg nx ft fb a pe wo tx ch jo tr dy sd f lc lz ll lm lg ld fc gr gz gn fr oY aY peY woY txY chY joY trY dyY sdY fY loV lcV lzV llV lmV lgV ldV fcV qT qL it il ig mh me mx fT fL aI peI woI txI chI joI trI dyI sdI fI lcI lzI llI lmI lgI ldI fcI grI gzI gnI frI oD aD peD woD txD chD joD trD dyD sdD fD rw ri rt rb oa fz PT PL oM aM thM hiM acM tpM baM enM tAM flM deM iDM iOM tUM fmM fkM faM fcM ftM ffM fbM fiM b_sz b_pe b_wo rf b_lz b_gz b_gn b_me b_mx b_peI b_woI rfI b_lzI b_gzI b_gnI b_peD b_woD rfD b_ri hRT himg hcq hlw hwn hma hig hflt hPT hPL rfmM rfkM rfaM rfcM hacM htpM hiDM hiOM hst H _ ls hP hD hS (lv_sub hl [0, 1, 2, 3, 4] rfl)
      have g48 : (48 : Int) ≤ x_4.toInt := zst1 (k := 47) (by decide) g47 hk47
      by_cases hk48 : x_4 = 48
      · subst hk48
        refine lv_tableIn (x := 48) (off := 1774) (tgt := 1814) hx hb dL_law__40 (by decide) (by decide) rfl (by decide) ?_
        exact w_48 l hfl g hbA hA St hX hbl hK hT i cc ss (by omega) (by omega) hi6 hiL K9 x ta o lo go tt lt mo fo ro fl9 ab sz ln kd bg nx ft fb a pe wo tx ch jo tr dy sd f lc lz ll lm lg ld fc gr gz gn fr oY aY peY woY txY chY joY trY dyY sdY fY loV lcV lzV llV lmV lgV ldV fcV qT qL it il ig mh me mx fT fL aI peI woI txI chI joI trI dyI sdI fI lcI lzI llI lmI lgI ldI fcI grI gzI gnI frI oD aD peD woD txD chD joD trD dyD sdD fD rw ri rt rb oa fz PT PL oM aM thM hiM acM tpM baM enM tAM flM deM iDM iOM tUM fmM fkM faM fcM ftM ffM fbM fiM b_sz b_pe b_wo rf b_lz b_gz b_gn b_me b_mx b_peI b_woI rfI b_lzI b_gzI b_gnI b_peD b_woD rfD b_ri hRT himg hcq hlw hwn hma hig hflt hPT hPL rfmM rfkM rfaM rfcM hacM htpM hiDM hiOM hst H _ ls hP hD hS (lv_sub hl [0, 1, 2, 3, 4] rfl)
      have g49 : (49 : Int) ≤ x_4.toInt := zst1 (k := 48) (by decide) g48 hk48
      by_cases hk49 : x_4 = 49
      · subst hk49
        refine lv_tableIn (x := 49) (off := 1787) (tgt := 1827) hx hb dL_law__40 (by decide) (by decide) rfl (by decide) ?_
        exact w_49 l hfl g hbA hA St hX hbl hK hT i cc ss (by omega) (by omega) hi6 hiL K9 x ta o lo go tt lt mo fo ro fl9 ab sz ln kd bg nx ft fb a pe wo tx ch jo tr dy sd f lc lz ll lm lg ld fc gr gz gn fr oY aY peY woY txY chY joY trY dyY sdY fY loV lcV lzV llV lmV lgV ldV fcV qT qL it il ig mh me mx fT fL aI peI woI txI chI joI trI dyI sdI fI lcI lzI llI lmI lgI ldI fcI grI gzI gnI frI oD aD peD woD txD chD joD trD dyD sdD fD rw ri rt rb oa fz PT PL oM aM thM hiM acM tpM baM enM tAM flM deM iDM iOM tUM fmM fkM faM fcM ftM ffM fbM fiM b_sz b_pe b_wo rf b_lz b_gz b_gn b_me b_mx b_peI b_woI rfI b_lzI b_gzI b_gnI b_peD b_woD rfD b_ri hRT himg hcq hlw hwn hma hig hflt hPT hPL rfmM rfkM rfaM rfcM hacM htpM hiDM hiOM hst H _ ls hP hD hS (lv_sub hl [0, 1, 2, 3, 4] rfl)
      have g50 : (50 : Int) ≤ x_4.toInt := zst1 (k := 49) (by decide) g49 hk49
      refine lv_tableOut (tgt := 1852) hx hb dL_law__40 (Or.inr (Int.lt_of_lt_of_le (by decide) g50)) (by decide) ?_
      refine W.widen (k := cc + 8) (n := ss + 48) (by omega) (by omega) ?_
      exact K9 x ta o lo go tt lt mo fo ro fl9 ab sz ln kd bg nx ft fb a pe wo tx ch jo tr dy sd f lc lz ll lm lg ld fc gr gz gn fr oY aY peY woY txY chY joY trY dyY sdY fY loV lcV lzV llV lmV lgV ldV fcV qT qL it il ig mh me mx fT fL aI peI woI txI chI joI trI dyI sdI fI lcI lzI llI lmI lgI ldI fcI grI gzI gnI frI oD aD peD woD txD chD joD trD dyD sdD fD rw ri rt rb oa fz PT PL oM aM thM hiM acM tpM baM enM tAM flM deM iDM iOM tUM fmM fkM faM fcM ftM ffM fbM fiM b_sz b_pe b_wo rf b_lz b_gz b_gn b_me b_mx b_peI b_woI rfI b_lzI b_gzI b_gnI b_peD b_woD rfD b_ri hRT himg hcq hlw hwn hma hig hflt hPT hPL rfmM rfkM rfaM rfcM hacM htpM hiDM hiOM hst H _ ls hP hD hS (lv_sub hl [0, 1, 2, 3, 4] rfl)
