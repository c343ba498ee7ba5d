set_option maxRecDepth 100000 in
set_option maxHeartbeats 4000000 in
theorem c_price (l : Launch) (g : zG) (x : Nat) (ta : Nat) (o : Nat) (lo : Nat) (go : Nat) (tt : Nat) (lt : Nat) (mo : Nat) (fo : Nat) (ro : Nat) (fl9 : Int32) (a : Nat → Nat) (tx : Int32) (ch : Int32) (jo : Int32) (tr : Int32) (dy : Int32) (sd : Int32) (f : Nat → Nat → Int32)  : zM g l yX11_price (Cond.code yX11_price cX11_price 1 (some .int) :: zB) ({ frames := 3, cells := 0, slots := 0, locals := 64 } : Room) [.ref x] [bDR g x ta o lo go tt lt mo fo ro fl9, bTown g o a 0 0 tx ch jo tr dy sd f] (fun _ : Unit => some (.int 1)) (fun _ : Unit => True) (fun _ : Unit => []) := by
  refine zM.of (cc := cX11_price) (maxL := 1) (rt := (some .int)) (by decide) rfl (Nat.le_of_ble_eq_true rfl) ?_
  intro p e s m args below meth c A ls St hr hlocks hin hK hT hA hP hD hS hl
  obtain ⟨hx, hb, hml, hown, hts⟩ := id St
  have hl : lv_has ls 1 [(0, .ref x)] := hl
  refine lv_aload_n hx hb dX11_price_0 rfl (lv_at hl 0 rfl) ?_
  refine va_get (D := g.1) (ci := 9) (v := .ref o) (C := RX11) (T := TX11) (N := 10) hx hb hts izRX11 hown hK hP 0 rfl rfl 1 (by decide) (hts _ k512) (fun _ h9 => h9) rfl dX11_price_1 ?_
  refine mcallV (g := g) (q0 := 0) (ci := 7) (As := []) (rest := []) St hK hT hA hP hD hS hl.1 [1] [0] rfl rfl rfl (c_sharePrice l g o a tx ch jo tr dy sd f ) (cwV 0 hts (zgL (zl4 k627 k186 k187 k24) k184) rfl rfl rfl (by decide +kernel) ⟨Nat.le_of_ble_eq_true rfl, Nat.le_of_ble_eq_true rfl⟩) rfl rfl rfl rfl (Nat.le_of_ble_eq_true rfl) dX11_price_4 ⟨(Nat.le_of_ble_eq_true rfl), (Nat.le_of_ble_eq_true rfl)⟩ (fun _u H locs hq1 hP hD hS => ?_)
  have hP : va_P g.1 vwCl (List.flatten [bDR g x ta o lo go tt lt mo fo ro fl9, bTown g o a 0 0 tx ch jo tr dy sd f]) H := hP
  have hD : va_D A (List.flatten [bDR g x ta o lo go tt lt mo fo ro fl9, bTown g o a 0 0 tx ch jo tr dy sd f]) := hD
  refine W.widen (k := 0) (n := 0) (Nat.le_of_ble_eq_true rfl) (Nat.le_of_ble_eq_true rfl) ?_
  refine W.eq (g2 := F0 m 7 ls [.int 1]) rfl ?_
  have hP : va_P g.1 vwCl (List.flatten [bDR g x ta o lo go tt lt mo fo ro fl9, bTown g o a 0 0 tx ch jo tr dy sd f]) H := hP
  have hD : va_D A (List.flatten [bDR g x ta o lo go tt lt mo fo ro fl9, bTown g o a 0 0 tx ch jo tr dy sd f]) := hD
  obtain ⟨hP, hD⟩ := zord (g := g) (Bs' := []) [] rfl rfl hP hD
  exact mret_i hx hb hr hlocks hS (Nat.le_of_ble_eq_true rfl) (Nat.le_of_ble_eq_true rfl) dX11_price_7 () rfl trivial hP hD
set_option maxRecDepth 100000 in
set_option maxHeartbeats 4000000 in
theorem c_doubts (l : Launch) (g : zG) (x : Nat) (ta : Nat) (o : Nat) (lo : Nat) (go : Nat) (tt : Nat) (lt : Nat) (mo : Nat) (fo : Nat) (ro : Nat) (fl9 : Int32) (a : Nat → Nat) (tx : Int32) (ch : Int32) (jo : Int32) (tr : Int32) (dy : Int32) (sd : Int32) (f : Nat → Nat → Int32)  : zM g l yX11_doubts (Cond.code yX11_doubts cX11_doubts 1 (some .int) :: zB) ({ frames := 1, cells := 0, slots := 0, locals := 22 } : Room) [.ref x] [bDR g x ta o lo go tt lt mo fo ro fl9, bTown g o a 0 0 tx ch jo tr dy sd f] (fun _ : Unit => some (.int 0)) (fun _ : Unit => True) (fun _ : Unit => []) := by
  refine zM.of (cc := cX11_doubts) (maxL := 1) (rt := (some .int)) (by decide) rfl (Nat.le_of_ble_eq_true rfl) ?_
  intro p e s m args below meth c A ls St hr hlocks hin hK hT hA hP hD hS hl
  obtain ⟨hx, hb, hml, hown, hts⟩ := id St
  have hl : lv_has ls 1 [(0, .ref x)] := hl
  refine lv_aload_n hx hb dX11_doubts_0 rfl (lv_at hl 0 rfl) ?_
  refine va_get (D := g.1) (ci := 9) (v := .ref o) (C := RX11) (T := TX11) (N := 10) hx hb hts izRX11 hown hK hP 0 rfl rfl 1 (by decide) (hts _ k512) (fun _ h9 => h9) rfl dX11_doubts_1 ?_
  refine mcallV (g := g) (q0 := 0) (ci := 7) (As := []) (rest := []) St hK hT hA hP hD hS hl.1 [1] [0] rfl rfl rfl (c_doubters l g o a tx ch jo tr dy sd f ) (cwV 0 hts (zgL (zl4 k680 k178 k179 k24) k175) rfl rfl rfl (by decide +kernel) ⟨Nat.le_of_ble_eq_true rfl, Nat.le_of_ble_eq_true rfl⟩) rfl rfl rfl rfl (Nat.le_of_ble_eq_true rfl) dX11_doubts_4 ⟨(Nat.le_of_ble_eq_true rfl), (Nat.le_of_ble_eq_true rfl)⟩ (fun _u H locs hq1 hP hD hS => ?_)
  have hP : va_P g.1 vwCl (List.flatten [bDR g x ta o lo go tt lt mo fo ro fl9, bTown g o a 0 0 tx ch jo tr dy sd f]) H := hP
  have hD : va_D A (List.flatten [bDR g x ta o lo go tt lt mo fo ro fl9, bTown g o a 0 0 tx ch jo tr dy sd f]) := hD
  refine W.widen (k := 0) (n := 0) (Nat.le_of_ble_eq_true rfl) (Nat.le_of_ble_eq_true rfl) ?_
  refine W.eq (g2 := F0 m 7 ls [.int 0]) rfl ?_
  have hP : va_P g.1 vwCl (List.flatten [bDR g x ta o lo go tt lt mo fo ro fl9, bTown g o a 0 0 tx ch jo tr dy sd f]) H := hP
  have hD : va_D A (List.flatten [bDR g x ta o lo go tt lt mo fo ro fl9, bTown g o a 0 0 tx ch jo tr dy sd f]) := hD
  obtain ⟨hP, hD⟩ := zord (g := g) (Bs' := []) [] rfl rfl hP hD
  exact mret_i hx hb hr hlocks hS (Nat.le_of_ble_eq_true rfl) (Nat.le_of_ble_eq_true rfl) dX11_doubts_7 () rfl trivial hP hD
set_option maxRecDepth 100000 in
set_option maxHeartbeats 4000000 in
theorem c_circles (l : Launch) (g : zG) (x : Nat) (ta : Nat) (o : Nat) (lo : Nat) (go : Nat) (tt : Nat) (lt : Nat) (mo : Nat) (fo : Nat) (ro : Nat) (fl9 : Int32) (a : Nat → Nat) (tx : Int32) (ch : Int32) (jo : Int32) (tr : Int32) (dy : Int32) (sd : Int32) (f : Nat → Nat → Int32)  : zM g l yX11_circles (Cond.code yX11_circles cX11_circles 1 (some .int) :: zB) ({ frames := 1, cells := 0, slots := 0, locals := 24 } : Room) [.ref x] [bDR g x ta o lo go tt lt mo fo ro fl9, bTown g o a 0 0 tx ch jo tr dy sd f] (fun _ : Unit => some (.int 0)) (fun _ : Unit => True) (fun _ : Unit => []) := by
  refine zM.of (cc := cX11_circles) (maxL := 1) (rt := (some .int)) (by decide) rfl (Nat.le_of_ble_eq_true rfl) ?_
  intro p e s m args below meth c A ls St hr hlocks hin hK hT hA hP hD hS hl
  obtain ⟨hx, hb, hml, hown, hts⟩ := id St
  have hl : lv_has ls 1 [(0, .ref x)] := hl
  refine lv_aload_n hx hb dX11_circles_0 rfl (lv_at hl 0 rfl) ?_
  refine va_get (D := g.1) (ci := 9) (v := .ref o) (C := RX11) (T := TX11) (N := 10) hx hb hts izRX11 hown hK hP 0 rfl rfl 1 (by decide) (hts _ k512) (fun _ h9 => h9) rfl dX11_circles_1 ?_
  refine mcallS (g := g) (As := [.ref o]) (rest := []) St hK hT hA hP hD hS hl.1 [1] [0] rfl rfl rfl (c_countCircles l g o a tx ch jo tr dy sd f ) (va_cwS 1 hts (zgL (zl3 k737 k738 k482) k478) rfl rfl rfl (by decide +kernel) ⟨Nat.le_of_ble_eq_true rfl, Nat.le_of_ble_eq_true rfl⟩) rfl rfl (Nat.le_of_ble_eq_true rfl) dX11_circles_4 ⟨(Nat.le_of_ble_eq_true rfl), (Nat.le_of_ble_eq_true rfl)⟩ (fun _u H locs hq1 hP hD hS => ?_)
  have hP : va_P g.1 vwCl (List.flatten [bDR g x ta o lo go tt lt mo fo ro fl9, bTown g o a 0 0 tx ch jo tr dy sd f]) H := hP
  have hD : va_D A (List.flatten [bDR g x ta o lo go tt lt mo fo ro fl9, bTown g o a 0 0 tx ch jo tr dy sd f]) := hD
  refine W.widen (k := 0) (n := 0) (Nat.le_of_ble_eq_true rfl) (Nat.le_of_ble_eq_true rfl) ?_
  refine W.eq (g2 := F0 m 7 ls [.int 0]) rfl ?_
  have hP : va_P g.1 vwCl (List.flatten [bDR g x ta o lo go tt lt mo fo ro fl9, bTown g o a 0 0 tx ch jo tr dy sd f]) H := hP
  have hD : va_D A (List.flatten [bDR g x ta o lo go tt lt mo fo ro fl9, bTown g o a 0 0 tx ch jo tr dy sd f]) := hD
  obtain ⟨hP, hD⟩ := zord (g := g) (Bs' := []) [] rfl rfl hP hD
  exact mret_i hx hb hr hlocks hS (Nat.le_of_ble_eq_true rfl) (Nat.le_of_ble_eq_true rfl) dX11_circles_7 () rfl trivial hP hD
set_option maxRecDepth 100000 in
set_option maxHeartbeats 4000000 in
theorem c_hermits (l : Launch) (g : zG) (x : Nat) (ta : Nat) (o : Nat) (lo : Nat) (go : Nat) (tt : Nat) (lt : Nat) (mo : Nat) (fo : Nat) (ro : Nat) (fl9 : Int32) (a : Nat → Nat) (tx : Int32) (ch : Int32) (jo : Int32) (tr : Int32) (dy : Int32) (sd : Int32) (f : Nat → Nat → Int32)  : zM g l yX11_hermits (Cond.code yX11_hermits cX11_hermits 1 (some .int) :: zB) ({ frames := 1, cells := 0, slots := 0, locals := 22 } : Room) [.ref x] [bDR g x ta o lo go tt lt mo fo ro fl9, bTown g o a 0 0 tx ch jo tr dy sd f] (fun _ : Unit => some (.int 0)) (fun _ : Unit => True) (fun _ : Unit => []) := by
  refine zM.of (cc := cX11_hermits) (maxL := 1) (rt := (some .int)) (by decide) rfl (Nat.le_of_ble_eq_true rfl) ?_
  intro p e s m args below meth c A ls St hr hlocks hin hK hT hA hP hD hS hl
  obtain ⟨hx, hb, hml, hown, hts⟩ := id St
  have hl : lv_has ls 1 [(0, .ref x)] := hl
  refine lv_aload_n hx hb dX11_hermits_0 rfl (lv_at hl 0 rfl) ?_
  refine va_get (D := g.1) (ci := 9) (v := .ref o) (C := RX11) (T := TX11) (N := 10) hx hb hts izRX11 hown hK hP 0 rfl rfl 1 (by decide) (hts _ k512) (fun _ h9 => h9) rfl dX11_hermits_1 ?_
  refine mcallS (g := g) (As := [.ref o]) (rest := []) St hK hT hA hP hD hS hl.1 [1] [0] rfl rfl rfl (c_untied l g o a tx ch jo tr dy sd f ) (va_cwS 1 hts (zgL (zl3 k740 k741 k482) k491) rfl rfl rfl (by decide +kernel) ⟨Nat.le_of_ble_eq_true rfl, Nat.le_of_ble_eq_true rfl⟩) rfl rfl (Nat.le_of_ble_eq_true rfl) dX11_hermits_4 ⟨(Nat.le_of_ble_eq_true rfl), (Nat.le_of_ble_eq_true rfl)⟩ (fun _u H locs hq1 hP hD hS => ?_)
  have hP : va_P g.1 vwCl (List.flatten [bDR g x ta o lo go tt lt mo fo ro fl9, bTown g o a 0 0 tx ch jo tr dy sd f]) H := hP
  have hD : va_D A (List.flatten [bDR g x ta o lo go tt lt mo fo ro fl9, bTown g o a 0 0 tx ch jo tr dy sd f]) := hD
  refine W.widen (k := 0) (n := 0) (Nat.le_of_ble_eq_true rfl) (Nat.le_of_ble_eq_true rfl) ?_
  refine W.eq (g2 := F0 m 7 ls [.int 0]) rfl ?_
  have hP : va_P g.1 vwCl (List.flatten [bDR g x ta o lo go tt lt mo fo ro fl9, bTown g o a 0 0 tx ch jo tr dy sd f]) H := hP
  have hD : va_D A (List.flatten [bDR g x ta o lo go tt lt mo fo ro fl9, bTown g o a 0 0 tx ch jo tr dy sd f]) := hD
  obtain ⟨hP, hD⟩ := zord (g := g) (Bs' := []) [] rfl rfl hP hD
  exact mret_i hx hb hr hlocks hS (Nat.le_of_ble_eq_true rfl) (Nat.le_of_ble_eq_true rfl) dX11_hermits_7 () rfl trivial hP hD
set_option maxRecDepth 100000 in
set_option maxHeartbeats 4000000 in
theorem c_richest (l : Launch) (g : zG) (x : Nat) (ta : Nat) (o : Nat) (lo : Nat) (go : Nat) (tt : Nat) (lt : Nat) (mo : Nat) (fo : Nat) (ro : Nat) (fl9 : Int32) (a : Nat → Nat) (tx : Int32) (ch : Int32) (jo : Int32) (tr : Int32) (dy : Int32) (sd : Int32) (f : Nat → Nat → Int32)  : zM g l yX11_richest (Cond.code yX11_richest cX11_richest 3 (some .int) :: zB) ({ frames := 0, cells := 0, slots := 0, locals := 0 } : Room) [.ref x] [bDR g x ta o lo go tt lt mo fo ro fl9, bTown g o a 0 0 tx ch jo tr dy sd f] (fun _ : Unit => some (.int (-1))) (fun _ : Unit => True) (fun _ : Unit => []) := by
  refine zM.of (cc := cX11_richest) (maxL := 3) (rt := (some .int)) (by decide) rfl (Nat.le_of_ble_eq_true rfl) ?_
  intro p e s m args below meth c A ls St hr hlocks hin hK hT hA hP hD hS hl
  obtain ⟨hx, hb, hml, hown, hts⟩ := id St
  have hl : lv_has ls 3 [(0, .ref x)] := hl
  refine lv_iconst (v := (-1)) hx hb dX11_richest_0 (by decide) ?_
  refine lv_istore_n (lv' := [(1, .int (-1)), (0, .ref x)]) hx hb dX11_richest_1 rfl hl (by decide) rfl (fun ls hl => ?_)
  refine lv_iconst (v := 0) hx hb dX11_richest_2 (by decide) ?_
  refine lv_istore_n (lv' := [(2, .int 0), (1, .int (-1)), (0, .ref x)]) hx hb dX11_richest_3 rfl hl (by decide) rfl (fun ls hl => ?_)
  refine lv_iload_n hx hb dX11_richest_4 rfl (lv_at hl 0 rfl) ?_
  refine lv_aload_n hx hb dX11_richest_5 rfl (lv_at hl 2 rfl) ?_
  refine va_get (D := g.1) (ci := 9) (v := .ref o) (C := RX11) (T := TX11) (N := 10) hx hb hts izRX11 hown hK hP 0 rfl rfl 1 (by decide) (hts _ k512) (fun _ h9 => h9) rfl dX11_richest_6 ?_
  refine va_get (D := g.1) (ci := 7) (v := .int 0) (C := RX9) (T := TX9) (N := 19) hx hb hts izRX9 hown hK hP 1 rfl rfl 0 (by decide) (hts _ k584) (fun _ h9 => h9) rfl dX11_richest_9 ?_
  refine lv_icmp_ge (tgt := 47) hx hb dX11_richest_12 (by decide) (fun _ => ?_) (fun c1 => absurd (by decide) c1)
  refine lv_iload_n hx hb dX11_richest_47 rfl (lv_at hl 1 rfl) ?_
  have hP : va_P g.1 vwCl (List.flatten [bDR g x ta o lo go tt lt mo fo ro fl9, bTown g o a 0 0 tx ch jo tr dy sd f]) s.heap := hP
  have hD : va_D A (List.flatten [bDR g x ta o lo go tt lt mo fo ro fl9, bTown g o a 0 0 tx ch jo tr dy sd f]) := hD
  obtain ⟨hP, hD⟩ := zord (g := g) (Bs' := []) [] rfl rfl hP hD
  exact mret_i hx hb hr hlocks hS (Nat.le_of_ble_eq_true rfl) (Nat.le_of_ble_eq_true rfl) dX11_richest_48 () rfl trivial hP hD
set_option maxRecDepth 100000 in
set_option maxHeartbeats 4000000 in
theorem c_firmest (l : Launch) (g : zG) (x : Nat) (ta : Nat) (o : Nat) (lo : Nat) (go : Nat) (tt : Nat) (lt : Nat) (mo : Nat) (fo : Nat) (ro : Nat) (fl9 : Int32) (a : Nat → Nat) (tx : Int32) (ch : Int32) (jo : Int32) (tr : Int32) (dy : Int32) (sd : Int32) (f : Nat → Nat → Int32)  : zM g l yX11_firmest (Cond.code yX11_firmest cX11_firmest 3 (some .int) :: zB) ({ frames := 0, cells := 0, slots := 0, locals := 0 } : Room) [.ref x] [bDR g x ta o lo go tt lt mo fo ro fl9, bTown g o a 0 0 tx ch jo tr dy sd f] (fun _ : Unit => some (.int (-1))) (fun _ : Unit => True) (fun _ : Unit => []) := by
  refine zM.of (cc := cX11_firmest) (maxL := 3) (rt := (some .int)) (by decide) rfl (Nat.le_of_ble_eq_true rfl) ?_
  intro p e s m args below meth c A ls St hr hlocks hin hK hT hA hP hD hS hl
  obtain ⟨hx, hb, hml, hown, hts⟩ := id St
  have hl : lv_has ls 3 [(0, .ref x)] := hl
  refine lv_iconst (v := (-1)) hx hb dX11_firmest_0 (by decide) ?_
  refine lv_istore_n (lv' := [(1, .int (-1)), (0, .ref x)]) hx hb dX11_firmest_1 rfl hl (by decide) rfl (fun ls hl => ?_)
  refine lv_iconst (v := 0) hx hb dX11_firmest_2 (by decide) ?_
  refine lv_istore_n (lv' := [(2, .int 0), (1, .int (-1)), (0, .ref x)]) hx hb dX11_firmest_3 rfl hl (by decide) rfl (fun ls hl => ?_)
  refine lv_iload_n hx hb dX11_firmest_4 rfl (lv_at hl 0 rfl) ?_
  refine lv_aload_n hx hb dX11_firmest_5 rfl (lv_at hl 2 rfl) ?_
  refine va_get (D := g.1) (ci := 9) (v := .ref o) (C := RX11) (T := TX11) (N := 10) hx hb hts izRX11 hown hK hP 0 rfl rfl 1 (by decide) (hts _ k512) (fun _ h9 => h9) rfl dX11_firmest_6 ?_
  refine va_get (D := g.1) (ci := 7) (v := .int 0) (C := RX9) (T := TX9) (N := 19) hx hb hts izRX9 hown hK hP 1 rfl rfl 0 (by decide) (hts _ k584) (fun _ h9 => h9) rfl dX11_firmest_9 ?_
  refine lv_icmp_ge (tgt := 60) hx hb dX11_firmest_12 (by decide) (fun _ => ?_) (fun c1 => absurd (by decide) c1)
  refine lv_iload_n hx hb dX11_firmest_60 rfl (lv_at hl 1 rfl) ?_
  have hP : va_P g.1 vwCl (List.flatten [bDR g x ta o lo go tt lt mo fo ro fl9, bTown g o a 0 0 tx ch jo tr dy sd f]) s.heap := hP
  have hD : va_D A (List.flatten [bDR g x ta o lo go tt lt mo fo ro fl9, bTown g o a 0 0 tx ch jo tr dy sd f]) := hD
  obtain ⟨hP, hD⟩ := zord (g := g) (Bs' := []) [] rfl rfl hP hD
  exact mret_i hx hb hr hlocks hS (Nat.le_of_ble_eq_true rfl) (Nat.le_of_ble_eq_true rfl) dX11_firmest_61 () rfl trivial hP hD
set_option maxRecDepth 100000 in
set_option maxHeartbeats 4000000 in
theorem c_home (l : Launch) (g : zG) (x : Nat) (ta : Nat) (o : Nat) (lo : Nat) (go : Nat) (tt : Nat) (lt : Nat) (mo : Nat) (fo : Nat) (ro : Nat) (fl9 : Int32) (a : Nat → Nat) (tx : Int32) (ch : Int32) (jo : Int32) (tr : Int32) (dy : Int32) (sd : Int32) (f : Nat → Nat → Int32)  : zM g l yX11_home (Cond.code yX11_home cX11_home 1 (some .int) :: zB) ({ frames := 1, cells := 0, slots := 0, locals := 22 } : Room) [.ref x] [bDR g x ta o lo go tt lt mo fo ro fl9, bTown g o a 0 0 tx ch jo tr dy sd f] (fun _ : Unit => some (.int (-1))) (fun _ : Unit => True) (fun _ : Unit => []) := by
  refine zM.of (cc := cX11_home) (maxL := 1) (rt := (some .int)) (by decide) rfl (Nat.le_of_ble_eq_true rfl) ?_
  intro p e s m args below meth c A ls St hr hlocks hin hK hT hA hP hD hS hl
  obtain ⟨hx, hb, hml, hown, hts⟩ := id St
  have hl : lv_has ls 1 [(0, .ref x)] := hl
  refine lv_aload_n hx hb dX11_home_0 rfl (lv_at hl 0 rfl) ?_
  refine va_get (D := g.1) (ci := 9) (v := .ref o) (C := RX11) (T := TX11) (N := 10) hx hb hts izRX11 hown hK hP 0 rfl rfl 1 (by decide) (hts _ k512) (fun _ h9 => h9) rfl dX11_home_1 ?_
  refine mcallV (g := g) (q0 := 0) (ci := 7) (As := []) (rest := []) St hK hT hA hP hD hS hl.1 [1] [0] rfl rfl rfl (c_firstComing l g o a tx ch jo tr dy sd f ) (cwV 0 hts (zgL (zl4 k764 k765 k766 k24) k494) rfl rfl rfl (by decide +kernel) ⟨Nat.le_of_ble_eq_true rfl, Nat.le_of_ble_eq_true rfl⟩) rfl rfl rfl rfl (Nat.le_of_ble_eq_true rfl) dX11_home_4 ⟨(Nat.le_of_ble_eq_true rfl), (Nat.le_of_ble_eq_true rfl)⟩ (fun _u H locs hq1 hP hD hS => ?_)
  have hP : va_P g.1 vwCl (List.flatten [bDR g x ta o lo go tt lt mo fo ro fl9, bTown g o a 0 0 tx ch jo tr dy sd f]) H := hP
  have hD : va_D A (List.flatten [bDR g x ta o lo go tt lt mo fo ro fl9, bTown g o a 0 0 tx ch jo tr dy sd f]) := hD
  refine W.widen (k := 0) (n := 0) (Nat.le_of_ble_eq_true rfl) (Nat.le_of_ble_eq_true rfl) ?_
  refine W.eq (g2 := F0 m 7 ls [.int (-1)]) rfl ?_
  have hP : va_P g.1 vwCl (List.flatten [bDR g x ta o lo go tt lt mo fo ro fl9, bTown g o a 0 0 tx ch jo tr dy sd f]) H := hP
  have hD : va_D A (List.flatten [bDR g x ta o lo go tt lt mo fo ro fl9, bTown g o a 0 0 tx ch jo tr dy sd f]) := hD
  obtain ⟨hP, hD⟩ := zord (g := g) (Bs' := []) [] rfl rfl hP hD
  exact mret_i hx hb hr hlocks hS (Nat.le_of_ble_eq_true rfl) (Nat.le_of_ble_eq_true rfl) dX11_home_7 () rfl trivial hP hD
set_option maxRecDepth 100000 in
set_option maxHeartbeats 4000000 in
theorem c_chosen (l : Launch) (g : zG) (x : Nat) (ta : Nat) (o : Nat) (lo : Nat) (go : Nat) (tt : Nat) (lt : Nat) (mo : Nat) (fo : Nat) (ro : Nat) (fl9 : Int32) (a : Nat → Nat) (tx : Int32) (ch : Int32) (jo : Int32) (tr : Int32) (dy : Int32) (sd : Int32) (f : Nat → Nat → Int32) (n1 : Int32)  : zM g l yX11_chosen (Cond.code yX11_chosen cX11_chosen 3 (some .int) :: zB) ({ frames := 1, cells := 0, slots := 0, locals := 23 } : Room) [.ref x, .int n1] [bDR g x ta o lo go tt lt mo fo ro fl9, bTown g o a 0 0 tx ch jo tr dy sd f] (fun _ : Unit => some (.int 0)) (fun _ : Unit => True) (fun _ : Unit => []) := by
  refine zM.of (cc := cX11_chosen) (maxL := 3) (rt := (some .int)) (by decide) rfl (Nat.le_of_ble_eq_true rfl) ?_
  intro p e s m args below meth c A ls St hr hlocks hin hK hT hA hP hD hS hl
  obtain ⟨hx, hb, hml, hown, hts⟩ := id St
  have hl : lv_has ls 3 [(0, .ref x), (1, .int n1)] := hl
  refine lv_aload_n hx hb dX11_chosen_0 rfl (lv_at hl 0 rfl) ?_
  refine va_get (D := g.1) (ci := 9) (v := .ref o) (C := RX11) (T := TX11) (N := 10) hx hb hts izRX11 hown hK hP 0 rfl rfl 1 (by decide) (hts _ k512) (fun _ h9 => h9) rfl dX11_chosen_1 ?_
  refine mcallV (g := g) (q0 := 0) (ci := 7) (As := []) (rest := []) St hK hT hA hP hD hS hl.1 [1] [0] rfl rfl rfl (c_bestWorks l g o a tx ch jo tr dy sd f ) (cwV 0 hts (zgL (zl4 k691 k692 k693 k24) k503) rfl rfl rfl (by decide +kernel) ⟨Nat.le_of_ble_eq_true rfl, Nat.le_of_ble_eq_true rfl⟩) rfl rfl rfl rfl (Nat.le_of_ble_eq_true rfl) dX11_chosen_4 ⟨(Nat.le_of_ble_eq_true rfl), (Nat.le_of_ble_eq_true rfl)⟩ (fun _u H locs hq1 hP hD hS => ?_)
  have hP : va_P g.1 vwCl (List.flatten [bDR g x ta o lo go tt lt mo fo ro fl9, bTown g o a 0 0 tx ch jo tr dy sd f]) H := hP
  have hD : va_D A (List.flatten [bDR g x ta o lo go tt lt mo fo ro fl9, bTown g o a 0 0 tx ch jo tr dy sd f]) := hD
  refine W.widen (k := 0) (n := 0) (Nat.le_of_ble_eq_true rfl) (Nat.le_of_ble_eq_true rfl) ?_
  refine W.eq (g2 := F0 m 7 ls [.int 0]) rfl ?_
  refine lv_istore_n (lv' := [(2, .int 0), (0, .ref x), (1, .int n1)]) hx hb dX11_chosen_7 rfl hl (by decide) rfl (fun ls hl => ?_)
  refine lv_iload_n hx hb dX11_chosen_8 rfl (lv_at hl 2 rfl) ?_
  refine lv_if_eq (tgt := 23) hx hb dX11_chosen_9 (by decide) (fun c2 => ?_) (fun c2 => ?_)
  · skip
    refine lv_iload_n hx hb dX11_chosen_23 rfl (lv_at hl 0 rfl) ?_
    have hP : va_P g.1 vwCl (List.flatten [bDR g x ta o lo go tt lt mo fo ro fl9, bTown g o a 0 0 tx ch jo tr dy sd f]) H := hP
    have hD : va_D A (List.flatten [bDR g x ta o lo go tt lt mo fo ro fl9, bTown g o a 0 0 tx ch jo tr dy sd f]) := hD
    obtain ⟨hP, hD⟩ := zord (g := g) (Bs' := []) [] rfl rfl hP hD
    exact mret_i hx hb hr hlocks hS (Nat.le_of_ble_eq_true rfl) (Nat.le_of_ble_eq_true rfl) dX11_chosen_24 () rfl trivial hP hD
  · skip
    refine lv_aload_n hx hb dX11_chosen_12 rfl (lv_at hl 1 rfl) ?_
    refine va_get (D := g.1) (ci := 9) (v := .ref o) (C := RX11) (T := TX11) (N := 10) hx hb hts izRX11 hown hK hP 0 rfl rfl 1 (by decide) (hts _ k512) (fun _ h9 => h9) rfl dX11_chosen_13 ?_
    refine lv_iload_n hx hb dX11_chosen_16 rfl (lv_at hl 0 rfl) ?_
    refine mcallV (g := g) (q0 := 0) (ci := 7) (As := [.int 0]) (rest := []) St hK hT hA hP hD hS hl.1 [1] [0] rfl rfl rfl (c_gainOf l g o a tx ch jo tr dy sd f 0 ) (cwV 1 hts (zgL (zl4 k694 k501 k502 k24) k495) rfl rfl rfl (by decide +kernel) ⟨Nat.le_of_ble_eq_true rfl, Nat.le_of_ble_eq_true rfl⟩) rfl rfl rfl rfl (Nat.le_of_ble_eq_true rfl) dX11_chosen_17 ⟨(Nat.le_of_ble_eq_true rfl), (Nat.le_of_ble_eq_true rfl)⟩ (fun _u H locs hq3 hP hD hS => ?_)
    have hP : va_P g.1 vwCl (List.flatten [bDR g x ta o lo go tt lt mo fo ro fl9, bTown g o a 0 0 tx ch jo tr dy sd f]) H := hP
    have hD : va_D A (List.flatten [bDR g x ta o lo go tt lt mo fo ro fl9, bTown g o a 0 0 tx ch jo tr dy sd f]) := hD
    refine W.widen (k := 0) (n := 0) (Nat.le_of_ble_eq_true rfl) (Nat.le_of_ble_eq_true rfl) ?_
    refine W.eq (g2 := F0 m 20 ls [.int 0]) rfl ?_
    refine lv_goto (tgt := 24) hx hb dX11_chosen_20 (by decide) ?_
    have hP : va_P g.1 vwCl (List.flatten [bDR g x ta o lo go tt lt mo fo ro fl9, bTown g o a 0 0 tx ch jo tr dy sd f]) H := hP
    have hD : va_D A (List.flatten [bDR g x ta o lo go tt lt mo fo ro fl9, bTown g o a 0 0 tx ch jo tr dy sd f]) := hD
    obtain ⟨hP, hD⟩ := zord (g := g) (Bs' := []) [] rfl rfl hP hD
    exact mret_i hx hb hr hlocks hS (Nat.le_of_ble_eq_true rfl) (Nat.le_of_ble_eq_true rfl) dX11_chosen_24 () rfl trivial hP hD
set_option maxRecDepth 100000 in
set_option maxHeartbeats 4000000 in
theorem c_fault (l : Launch) (g : zG) (x : Nat) (ta : Nat) (o : Nat) (lo : Nat) (go : Nat) (tt : Nat) (lt : Nat) (mo : Nat) (fo : Nat) (ro : Nat) (fl9 : Int32) (a : Nat → Nat) (tx : Int32) (ch : Int32) (jo : Int32) (tr : Int32) (dy : Int32) (sd : Int32) (f : Nat → Nat → Int32)  : zM g l yX11_fault (Cond.code yX11_fault cX11_fault 1 (some .int) :: zB) ({ frames := 0, cells := 0, slots := 0, locals := 0 } : Room) [.ref x] [bDR g x ta o lo go tt lt mo fo ro fl9, bTown g o a 0 0 tx ch jo tr dy sd f] (fun _ : Unit => some (.int fl9)) (fun _ : Unit => True) (fun _ : Unit => []) := by
  refine zM.of (cc := cX11_fault) (maxL := 1) (rt := (some .int)) (by decide) rfl (Nat.le_of_ble_eq_true rfl) ?_
  intro p e s m args below meth c A ls St hr hlocks hin hK hT hA hP hD hS hl
  obtain ⟨hx, hb, hml, hown, hts⟩ := id St
  have hl : lv_has ls 1 [(0, .ref x)] := hl
  refine lv_aload_n hx hb dX11_fault_0 rfl (lv_at hl 0 rfl) ?_
  refine va_get (D := g.1) (ci := 9) (v := .int fl9) (C := RX11) (T := TX11) (N := 10) hx hb hts izRX11 hown hK hP 0 rfl rfl 9 (by decide) (hts _ k532) (fun _ h9 => h9) rfl dX11_fault_1 ?_
  have hP : va_P g.1 vwCl (List.flatten [bDR g x ta o lo go tt lt mo fo ro fl9, bTown g o a 0 0 tx ch jo tr dy sd f]) s.heap := hP
  have hD : va_D A (List.flatten [bDR g x ta o lo go tt lt mo fo ro fl9, bTown g o a 0 0 tx ch jo tr dy sd f]) := hD
  obtain ⟨hP, hD⟩ := zord (g := g) (Bs' := []) [] rfl rfl hP hD
  exact mret_i hx hb hr hlocks hS (Nat.le_of_ble_eq_true rfl) (Nat.le_of_ble_eq_true rfl) dX11_fault_4 () rfl trivial hP hD
set_option maxRecDepth 100000 in
set_option maxHeartbeats 4000000 in
theorem c_seed (l : Launch) (g : zG) (x : Nat) (ta : Nat) (o : Nat) (lo : Nat) (go : Nat) (tt : Nat) (lt : Nat) (mo : Nat) (fo : Nat) (ro : Nat) (fl9 : Int32) (a : Nat → Nat) (tx : Int32) (ch : Int32) (jo : Int32) (tr : Int32) (dy : Int32) (sd : Int32) (f : Nat → Nat → Int32) (n1 : Int32)  : zM g l yX11_seed (Cond.code yX11_seed cX11_seed 3 (some .int) :: zB) ({ frames := 0, cells := 0, slots := 0, locals := 0 } : Room) [.ref x, .int n1] [bDR g x ta o lo go tt lt mo fo ro fl9, bTown g o a 0 0 tx ch jo tr dy sd f] (fun _ : Unit => some (.int sd)) (fun _ : Unit => True) (fun _ : Unit => []) := by
  refine zM.of (cc := cX11_seed) (maxL := 3) (rt := (some .int)) (by decide) rfl (Nat.le_of_ble_eq_true rfl) ?_
  intro p e s m args below meth c A ls St hr hlocks hin hK hT hA hP hD hS hl
  obtain ⟨hx, hb, hml, hown, hts⟩ := id St
  have hl : lv_has ls 3 [(0, .ref x), (1, .int n1)] := hl
  refine lv_aload_n hx hb dX11_seed_0 rfl (lv_at hl 0 rfl) ?_
  refine va_get (D := g.1) (ci := 9) (v := .ref o) (C := RX11) (T := TX11) (N := 10) hx hb hts izRX11 hown hK hP 0 rfl rfl 1 (by decide) (hts _ k512) (fun _ h9 => h9) rfl dX11_seed_1 ?_
  refine va_get (D := g.1) (ci := 7) (v := .int sd) (C := RX9) (T := TX9) (N := 19) hx hb hts izRX9 hown hK hP 1 rfl rfl 7 (by decide) (hts _ k767) (fun _ h9 => h9) rfl dX11_seed_4 ?_
  refine lv_istore_n (lv' := [(2, .int sd), (0, .ref x), (1, .int n1)]) hx hb dX11_seed_7 rfl hl (by decide) rfl (fun ls hl => ?_)
  refine lv_aload_n hx hb dX11_seed_8 rfl (lv_at hl 1 rfl) ?_
  refine va_get (D := g.1) (ci := 9) (v := .ref o) (C := RX11) (T := TX11) (N := 10) hx hb hts izRX11 hown hK hP 0 rfl rfl 1 (by decide) (hts _ k512) (fun _ h9 => h9) rfl dX11_seed_9 ?_
  refine lv_iload_n hx hb dX11_seed_12 rfl (lv_at hl 2 rfl) ?_
  refine va_put (D := g.1) (ci := 7) (v := .int n1) (ty := .int) (C := RX9) (T := TX9) (N := 19) hx hb hts izRX9 tyX9 tyX9_ok nmX9 hown hK hP hD hS 1 rfl rfl 7 (by decide) (hts _ k767) (fun _ h9 => h9) rfl (by decide +kernel) rfl rfl (Nat.le_of_ble_eq_true rfl) dX11_seed_13 (fun H locs hP hD hS => ?_)
  have hP : va_P g.1 vwCl (List.flatten [bDR g x ta o lo go tt lt mo fo ro fl9, [(o, .inr (7, [.int 0, .int 0, .int tx, .int ch, .int jo, .int tr, .int dy, .int n1, .ref (a 0), .ref (a 1), .ref (a 2), .ref (a 3), .ref (a 4), .ref (a 5), .ref (a 6), .ref (a 7), .ref (a 8), .ref (a 9), .ref (a 10)])), (a 0, .inl (g.2 0, 8, .inl (f 0))), (a 1, .inl (g.2 0, 8, .inl (f 1))), (a 2, .inl (g.2 0, 8, .inl (f 2))), (a 3, .inl (g.2 0, 8, .inl (f 3))), (a 4, .inl (g.2 1, 8, .inl (f 4))), (a 5, .inl (g.2 0, 64, .inl (f 5))), (a 6, .inl (g.2 0, 6, .inl (f 6))), (a 7, .inl (g.2 0, 6, .inl (f 7))), (a 8, .inl (g.2 0, 6, .inl (f 8))), (a 9, .inl (g.2 0, 6, .inl (f 9))), (a 10, .inl (g.2 0, 8, .inl (f 10)))]]) H := hP
  have hD : va_D A (List.flatten [bDR g x ta o lo go tt lt mo fo ro fl9, [(o, .inr (7, [.int 0, .int 0, .int tx, .int ch, .int jo, .int tr, .int dy, .int n1, .ref (a 0), .ref (a 1), .ref (a 2), .ref (a 3), .ref (a 4), .ref (a 5), .ref (a 6), .ref (a 7), .ref (a 8), .ref (a 9), .ref (a 10)])), (a 0, .inl (g.2 0, 8, .inl (f 0))), (a 1, .inl (g.2 0, 8, .inl (f 1))), (a 2, .inl (g.2 0, 8, .inl (f 2))), (a 3, .inl (g.2 0, 8, .inl (f 3))), (a 4, .inl (g.2 1, 8, .inl (f 4))), (a 5, .inl (g.2 0, 64, .inl (f 5))), (a 6, .inl (g.2 0, 6, .inl (f 6))), (a 7, .inl (g.2 0, 6, .inl (f 7))), (a 8, .inl (g.2 0, 6, .inl (f 8))), (a 9, .inl (g.2 0, 6, .inl (f 9))), (a 10, .inl (g.2 0, 8, .inl (f 10)))]]) := hD
  refine lv_iload_n hx hb dX11_seed_16 rfl (lv_at hl 0 rfl) ?_
  have hP : va_P g.1 vwCl (List.flatten [bDR g x ta o lo go tt lt mo fo ro fl9, [(o, .inr (7, [.int 0, .int 0, .int tx, .int ch, .int jo, .int tr, .int dy, .int n1, .ref (a 0), .ref (a 1), .ref (a 2), .ref (a 3), .ref (a 4), .ref (a 5), .ref (a 6), .ref (a 7), .ref (a 8), .ref (a 9), .ref (a 10)])), (a 0, .inl (g.2 0, 8, .inl (f 0))), (a 1, .inl (g.2 0, 8, .inl (f 1))), (a 2, .inl (g.2 0, 8, .inl (f 2))), (a 3, .inl (g.2 0, 8, .inl (f 3))), (a 4, .inl (g.2 1, 8, .inl (f 4))), (a 5, .inl (g.2 0, 64, .inl (f 5))), (a 6, .inl (g.2 0, 6, .inl (f 6))), (a 7, .inl (g.2 0, 6, .inl (f 7))), (a 8, .inl (g.2 0, 6, .inl (f 8))), (a 9, .inl (g.2 0, 6, .inl (f 9))), (a 10, .inl (g.2 0, 8, .inl (f 10)))]]) H := hP
  have hD : va_D A (List.flatten [bDR g x ta o lo go tt lt mo fo ro fl9, [(o, .inr (7, [.int 0, .int 0, .int tx, .int ch, .int jo, .int tr, .int dy, .int n1, .ref (a 0), .ref (a 1), .ref (a 2), .ref (a 3), .ref (a 4), .ref (a 5), .ref (a 6), .ref (a 7), .ref (a 8), .ref (a 9), .ref (a 10)])), (a 0, .inl (g.2 0, 8, .inl (f 0))), (a 1, .inl (g.2 0, 8, .inl (f 1))), (a 2, .inl (g.2 0, 8, .inl (f 2))), (a 3, .inl (g.2 0, 8, .inl (f 3))), (a 4, .inl (g.2 1, 8, .inl (f 4))), (a 5, .inl (g.2 0, 64, .inl (f 5))), (a 6, .inl (g.2 0, 6, .inl (f 6))), (a 7, .inl (g.2 0, 6, .inl (f 7))), (a 8, .inl (g.2 0, 6, .inl (f 8))), (a 9, .inl (g.2 0, 6, .inl (f 9))), (a 10, .inl (g.2 0, 8, .inl (f 10)))]]) := hD
  obtain ⟨hP, hD⟩ := zord (g := g) (Bs' := []) [] rfl rfl hP hD
  exact mret_i hx hb hr hlocks hS (Nat.le_of_ble_eq_true rfl) (Nat.le_of_ble_eq_true rfl) dX11_seed_17 () rfl trivial hP hD
set_option maxRecDepth 100000 in
set_option maxHeartbeats 4000000 in
theorem c_undo (l : Launch) (g : zG) (x : Nat) (ta : Nat) (o : Nat) (lo : Nat) (go : Nat) (tt : Nat) (lt : Nat) (mo : Nat) (fo : Nat) (ro : Nat) (fl9 : Int32) (a : Nat → Nat) (tx : Int32) (ch : Int32) (jo : Int32) (tr : Int32) (dy : Int32) (sd : Int32) (f : Nat → Nat → Int32) (qT : Nat) (qL : Nat) (it : Nat) (il : Nat) (ig : Nat) (mh : Int32) (mx : Int32) (fT : Nat → Option Nat) (fL : Nat → Option Nat)  : zM g l yX11_undo (Cond.code yX11_undo cX11_undo 1 (some .boolean) :: zB) ({ frames := 1, cells := 0, slots := 0, locals := 22 } : Room) [.ref x] [bDR g x ta o lo go tt lt mo fo ro fl9, bTown g o a 0 0 tx ch jo tr dy sd f, bMem g mo qT qL it il ig mh 0 mx fT fL] (fun _ : Unit => some (.int 0)) (fun _ : Unit => True) (fun _ : Unit => []) := by
  refine zM.of (cc := cX11_undo) (maxL := 1) (rt := (some .boolean)) (by decide) rfl (Nat.le_of_ble_eq_true rfl) ?_
  intro p e s m args below meth c A ls St hr hlocks hin hK hT hA hP hD hS hl
  obtain ⟨hx, hb, hml, hown, hts⟩ := id St
  have hl : lv_has ls 1 [(0, .ref x)] := hl
  refine lv_aload_n hx hb dX11_undo_0 rfl (lv_at hl 0 rfl) ?_
  refine va_get (D := g.1) (ci := 9) (v := .ref mo) (C := RX11) (T := TX11) (N := 10) hx hb hts izRX11 hown hK hP 0 rfl rfl 6 (by decide) (hts _ k525) (fun _ h9 => h9) rfl dX11_undo_1 ?_
  refine lv_aload_n hx hb dX11_undo_4 rfl (lv_at hl 0 rfl) ?_
  refine va_get (D := g.1) (ci := 9) (v := .ref o) (C := RX11) (T := TX11) (N := 10) hx hb hts izRX11 hown hK hP 0 rfl rfl 1 (by decide) (hts _ k512) (fun _ h9 => h9) rfl dX11_undo_5 ?_
  refine lv_aload_n hx hb dX11_undo_8 rfl (lv_at hl 0 rfl) ?_
  refine va_get (D := g.1) (ci := 9) (v := .ref go) (C := RX11) (T := TX11) (N := 10) hx hb hts izRX11 hown hK hP 0 rfl rfl 3 (by decide) (hts _ k516) (fun _ h9 => h9) rfl dX11_undo_9 ?_
  refine mcallV (g := g) (q0 := 0) (ci := 4) (As := [.ref o, .ref go]) (rest := []) St hK hT hA hP hD hS hl.1 [2] [0, 1] rfl rfl rfl (c_recall0 l g mo qT qL it il ig mh mx fT fL o go ) (cwV 2 hts (zgL (zl4 k793 k794 k795 k257) k248) rfl rfl rfl (by decide +kernel) ⟨Nat.le_of_ble_eq_true rfl, Nat.le_of_ble_eq_true rfl⟩) rfl rfl rfl rfl (Nat.le_of_ble_eq_true rfl) dX11_undo_12 ⟨(Nat.le_of_ble_eq_true rfl), (Nat.le_of_ble_eq_true rfl)⟩ (fun _u H locs hq1 hP hD hS => ?_)
  have hP : va_P g.1 vwCl (List.flatten [bDR g x ta o lo go tt lt mo fo ro fl9, bTown g o a 0 0 tx ch jo tr dy sd f, bMem g mo qT qL it il ig mh 0 mx fT fL]) H := hP
  have hD : va_D A (List.flatten [bDR g x ta o lo go tt lt mo fo ro fl9, bTown g o a 0 0 tx ch jo tr dy sd f, bMem g mo qT qL it il ig mh 0 mx fT fL]) := hD
  refine W.widen (k := 0) (n := 0) (Nat.le_of_ble_eq_true rfl) (Nat.le_of_ble_eq_true rfl) ?_
  refine W.eq (g2 := F0 m 15 ls [.int 0]) rfl ?_
  have hP : va_P g.1 vwCl (List.flatten [bDR g x ta o lo go tt lt mo fo ro fl9, bTown g o a 0 0 tx ch jo tr dy sd f, bMem g mo qT qL it il ig mh 0 mx fT fL]) H := hP
  have hD : va_D A (List.flatten [bDR g x ta o lo go tt lt mo fo ro fl9, bTown g o a 0 0 tx ch jo tr dy sd f, bMem g mo qT qL it il ig mh 0 mx fT fL]) := hD
  obtain ⟨hP, hD⟩ := zord (g := g) (Bs' := []) [] rfl rfl hP hD
  exact mret_z hx hb hr hlocks hS (Nat.le_of_ble_eq_true rfl) (Nat.le_of_ble_eq_true rfl) dX11_undo_15 () rfl (by decide) trivial hP hD
set_option maxRecDepth 100000 in
set_option maxHeartbeats 4000000 in
theorem c_back (l : Launch) (g : zG) (x : Nat) (ta : Nat) (o : Nat) (lo : Nat) (go : Nat) (tt : Nat) (lt : Nat) (mo : Nat) (fo : Nat) (ro : Nat) (fl9 : Int32) (a : Nat → Nat) (tx : Int32) (ch : Int32) (jo : Int32) (tr : Int32) (dy : Int32) (sd : Int32) (f : Nat → Nat → Int32) (qT : Nat) (qL : Nat) (it : Nat) (il : Nat) (ig : Nat) (me : Int32) (mx : Int32) (fT : Nat → Option Nat) (fL : Nat → Option Nat)  : zM g l yX11_back (Cond.code yX11_back cX11_back 1 (some .boolean) :: zB) ({ frames := 1, cells := 0, slots := 0, locals := 23 } : Room) [.ref x] [bDR g x ta o lo go tt lt mo fo ro fl9, bTown g o a 0 0 tx ch jo tr dy sd f, bMem g mo qT qL it il ig 0 me mx fT fL] (fun _ : Unit => some (.int 0)) (fun _ : Unit => True) (fun _ : Unit => []) := by
  refine zM.of (cc := cX11_back) (maxL := 1) (rt := (some .boolean)) (by decide) rfl (Nat.le_of_ble_eq_true rfl) ?_
  intro p e s m args below meth c A ls St hr hlocks hin hK hT hA hP hD hS hl
  obtain ⟨hx, hb, hml, hown, hts⟩ := id St
  have hl : lv_has ls 1 [(0, .ref x)] := hl
  refine lv_aload_n hx hb dX11_back_0 rfl (lv_at hl 0 rfl) ?_
  refine va_get (D := g.1) (ci := 9) (v := .ref mo) (C := RX11) (T := TX11) (N := 10) hx hb hts izRX11 hown hK hP 0 rfl rfl 6 (by decide) (hts _ k525) (fun _ h9 => h9) rfl dX11_back_1 ?_
  refine lv_aload_n hx hb dX11_back_4 rfl (lv_at hl 0 rfl) ?_
  refine va_get (D := g.1) (ci := 9) (v := .ref o) (C := RX11) (T := TX11) (N := 10) hx hb hts izRX11 hown hK hP 0 rfl rfl 1 (by decide) (hts _ k512) (fun _ h9 => h9) rfl dX11_back_5 ?_
  refine lv_aload_n hx hb dX11_back_8 rfl (lv_at hl 0 rfl) ?_
  refine va_get (D := g.1) (ci := 9) (v := .ref lo) (C := RX11) (T := TX11) (N := 10) hx hb hts izRX11 hown hK hP 0 rfl rfl 2 (by decide) (hts _ k514) (fun _ h9 => h9) rfl dX11_back_9 ?_
  refine lv_aload_n hx hb dX11_back_12 rfl (lv_at hl 0 rfl) ?_
  refine va_get (D := g.1) (ci := 9) (v := .ref go) (C := RX11) (T := TX11) (N := 10) hx hb hts izRX11 hown hK hP 0 rfl rfl 3 (by decide) (hts _ k516) (fun _ h9 => h9) rfl dX11_back_13 ?_
  refine mcallV (g := g) (q0 := 0) (ci := 4) (As := [.ref o, .ref lo, .ref go]) (rest := []) St hK hT hA hP hD hS hl.1 [2] [0, 1] rfl rfl rfl (c_giveBack0 l g mo qT qL it il ig me mx fT fL o lo go ) (cwV 3 hts (zgL (zl4 k801 k802 k803 k257) k258) rfl rfl rfl (by decide +kernel) ⟨Nat.le_of_ble_eq_true rfl, Nat.le_of_ble_eq_true rfl⟩) rfl rfl rfl rfl (Nat.le_of_ble_eq_true rfl) dX11_back_16 ⟨(Nat.le_of_ble_eq_true rfl), (Nat.le_of_ble_eq_true rfl)⟩ (fun _u H locs hq1 hP hD hS => ?_)
  have hP : va_P g.1 vwCl (List.flatten [bDR g x ta o lo go tt lt mo fo ro fl9, bTown g o a 0 0 tx ch jo tr dy sd f, bMem g mo qT qL it il ig 0 me mx fT fL]) H := hP
  have hD : va_D A (List.flatten [bDR g x ta o lo go tt lt mo fo ro fl9, bTown g o a 0 0 tx ch jo tr dy sd f, bMem g mo qT qL it il ig 0 me mx fT fL]) := hD
  refine W.widen (k := 0) (n := 0) (Nat.le_of_ble_eq_true rfl) (Nat.le_of_ble_eq_true rfl) ?_
  refine W.eq (g2 := F0 m 19 ls [.int 0]) rfl ?_
  have hP : va_P g.1 vwCl (List.flatten [bDR g x ta o lo go tt lt mo fo ro fl9, bTown g o a 0 0 tx ch jo tr dy sd f, bMem g mo qT qL it il ig 0 me mx fT fL]) H := hP
  have hD : va_D A (List.flatten [bDR g x ta o lo go tt lt mo fo ro fl9, bTown g o a 0 0 tx ch jo tr dy sd f, bMem g mo qT qL it il ig 0 me mx fT fL]) := hD
  obtain ⟨hP, hD⟩ := zord (g := g) (Bs' := []) [] rfl rfl hP hD
  exact mret_z hx hb hr hlocks hS (Nat.le_of_ble_eq_true rfl) (Nat.le_of_ble_eq_true rfl) dX11_back_19 () rfl (by decide) trivial hP hD
set_option maxRecDepth 100000 in
set_option maxHeartbeats 4000000 in
theorem c_image (l : Launch) (g : zG) (x : Nat) (ta : Nat) (o : Nat) (lo : Nat) (go : Nat) (tt : Nat) (lt : Nat) (mo : Nat) (fo : Nat) (ro : Nat) (fl9 : Int32) (a : Nat → Nat) (tx : Int32) (ch : Int32) (jo : Int32) (tr : Int32) (dy : Int32) (sd : Int32) (f : Nat → Nat → Int32) (qT : Nat) (qL : Nat) (it : Nat) (il : Nat) (ig : Nat) (mh : Int32) (me : Int32) (mx : Int32) (fT : Nat → Option Nat) (fL : Nat → Option Nat) (ac : Nat) (ls0 : Int32) (ll : Int32) (lm : Int32) (lg : Int32) (ld : Int32) (fc : Nat → Int32) (ar : Nat) (gs : Int32) (gn : Int32) (fr : Nat → Int32) (a2 : Nat → Nat) (pe2 : Int32) (wo2 : Int32) (tx2 : Int32) (ch2 : Int32) (jo2 : Int32) (tr2 : Int32) (dy2 : Int32) (sd2 : Int32) (f2 : Nat → Nat → Int32) (ac2 : Nat) (ls02 : Int32) (ll2 : Int32) (lm2 : Int32) (lg2 : Int32) (ld2 : Int32) (fc2 : Nat → Int32) (ar2 : Nat) (gs2 : Int32) (gn2 : Int32) (fr2 : Nat → Int32) (hz : zZ (f 4)) : zM g l yX11_image (Cond.code yX11_image cX11_image 1 none :: zB) ({ frames := 3, cells := 0, slots := 0, locals := 84 } : Room) [.ref x] [bDR g x ta o lo go tt lt mo fo ro fl9, bTown g o a 0 0 tx ch jo tr dy sd f, bMem g mo qT qL it il ig mh me mx fT fL, bLaw g lo ac ls0 ll lm lg ld fc, bLog g go ar gs gn fr, bTown g it a2 pe2 wo2 tx2 ch2 jo2 tr2 dy2 sd2 f2, bLaw g il ac2 ls02 ll2 lm2 lg2 ld2 fc2, bLog g ig ar2 gs2 gn2 fr2] (fun _ : Unit => none) (fun _ : Unit => True) (fun _ : Unit => []) := by
  refine zM.of (cc := cX11_image) (maxL := 1) (rt := none) (by decide) rfl (Nat.le_of_ble_eq_true rfl) ?_
  intro p e s m args below meth c A ls St hr hlocks hin hK hT hA hP hD hS hl
  obtain ⟨hx, hb, hml, hown, hts⟩ := id St
  have hl : lv_has ls 1 [(0, .ref x)] := hl
  refine lv_aload_n hx hb dX11_image_0 rfl (lv_at hl 0 rfl) ?_
  refine va_get (D := g.1) (ci := 9) (v := .ref mo) (C := RX11) (T := TX11) (N := 10) hx hb hts izRX11 hown hK hP 0 rfl rfl 6 (by decide) (hts _ k525) (fun _ h9 => h9) rfl dX11_image_1 ?_
  refine lv_aload_n hx hb dX11_image_4 rfl (lv_at hl 0 rfl) ?_
  refine va_get (D := g.1) (ci := 9) (v := .ref o) (C := RX11) (T := TX11) (N := 10) hx hb hts izRX11 hown hK hP 0 rfl rfl 1 (by decide) (hts _ k512) (fun _ h9 => h9) rfl dX11_image_5 ?_
  refine lv_aload_n hx hb dX11_image_8 rfl (lv_at hl 0 rfl) ?_
  refine va_get (D := g.1) (ci := 9) (v := .ref lo) (C := RX11) (T := TX11) (N := 10) hx hb hts izRX11 hown hK hP 0 rfl rfl 2 (by decide) (hts _ k514) (fun _ h9 => h9) rfl dX11_image_9 ?_
  refine lv_aload_n hx hb dX11_image_12 rfl (lv_at hl 0 rfl) ?_
  refine va_get (D := g.1) (ci := 9) (v := .ref go) (C := RX11) (T := TX11) (N := 10) hx hb hts izRX11 hown hK hP 0 rfl rfl 3 (by decide) (hts _ k516) (fun _ h9 => h9) rfl dX11_image_13 ?_
  refine mcallV (g := g) (q0 := 0) (ci := 4) (As := [.ref o, .ref lo, .ref go]) (rest := []) St hK hT hA hP hD hS hl.1 [2, 1, 3, 4, 5, 6, 7] [0] rfl rfl rfl (c_keepImage l g mo qT qL it il ig mh me mx fT fL o a 0 0 tx ch jo tr dy sd f lo ac ls0 ll lm lg ld fc go ar gs gn fr a2 pe2 wo2 tx2 ch2 jo2 tr2 dy2 sd2 f2 ac2 ls02 ll2 lm2 lg2 ld2 fc2 ar2 gs2 gn2 fr2 (by assumption)) (cwV 3 hts (zgL (zl4 k797 k798 k799 k257) k253) rfl rfl rfl (by decide +kernel) ⟨Nat.le_of_ble_eq_true rfl, Nat.le_of_ble_eq_true rfl⟩) rfl rfl rfl rfl (Nat.le_of_ble_eq_true rfl) dX11_image_16 ⟨(Nat.le_of_ble_eq_true rfl), (Nat.le_of_ble_eq_true rfl)⟩ (fun _u H locs hq1 hP hD hS => ?_)
  have hP : va_P g.1 vwCl (List.flatten [bDR g x ta o lo go tt lt mo fo ro fl9, bMem g mo qT qL it il ig 1 me mx fT fL, bTown g o a 0 0 tx ch jo tr dy sd f, bLaw g lo ac ls0 ll lm lg ld fc, bLog g go ar gs gn fr]) H := hP
  have hD : va_D A (List.flatten [bDR g x ta o lo go tt lt mo fo ro fl9, bMem g mo qT qL it il ig 1 me mx fT fL, bTown g o a 0 0 tx ch jo tr dy sd f, bLaw g lo ac ls0 ll lm lg ld fc, bLog g go ar gs gn fr]) := hD
  refine W.widen (k := 0) (n := 0) (Nat.le_of_ble_eq_true rfl) (Nat.le_of_ble_eq_true rfl) ?_
  refine W.eq (g2 := F0 m 19 ls []) rfl ?_
  have hP : va_P g.1 vwCl (List.flatten [bDR g x ta o lo go tt lt mo fo ro fl9, bMem g mo qT qL it il ig 1 me mx fT fL, bTown g o a 0 0 tx ch jo tr dy sd f, bLaw g lo ac ls0 ll lm lg ld fc, bLog g go ar gs gn fr]) H := hP
  have hD : va_D A (List.flatten [bDR g x ta o lo go tt lt mo fo ro fl9, bMem g mo qT qL it il ig 1 me mx fT fL, bTown g o a 0 0 tx ch jo tr dy sd f, bLaw g lo ac ls0 ll lm lg ld fc, bLog g go ar gs gn fr]) := hD
  obtain ⟨hP, hD⟩ := zord (g := g) (Bs' := []) [] rfl rfl hP hD
  exact mret_v hx hb hr hlocks hS (Nat.le_of_ble_eq_true rfl) (Nat.le_of_ble_eq_true rfl) dX11_image_19 () rfl trivial hP hD
set_option maxRecDepth 100000 in
set_option maxHeartbeats 4000000 in
theorem c_count (l : Launch) (g : zG) (x : Nat) (ta : Nat) (o : Nat) (lo : Nat) (go : Nat) (tt : Nat) (lt : Nat) (mo : Nat) (fo : Nat) (ro : Nat) (fl9 : Int32) (a : Nat → Nat) (jo : Int32) (tr : Int32) (sd : Int32) (f : Nat → Nat → Int32) (ac : Nat) (ls0 : Int32) (lm : Int32) (lg : Int32) (ld : Int32) (fc : Nat → Int32) (ar : Nat) (gn : Int32) (fr : Nat → Int32) (qT : Nat) (qL : Nat) (it : Nat) (il : Nat) (ig : Nat) (mh : Int32) (mx : Int32) (fT : Nat → Option Nat) (fL : Nat → Option Nat) (wh : Int32)  : zM g l yX11_count (Cond.code yX11_count cX11_count 2 (some .int) :: zB) ({ frames := 1, cells := 0, slots := 0, locals := 23 } : Room) [.ref x, .int wh] [bDR g x ta o lo go tt lt mo fo ro fl9, bTown g o a 0 0 0 20 jo tr 0 sd f, bLaw g lo ac ls0 (-1) lm lg ld fc, bLog g go ar 0 gn fr, bMem g mo qT qL it il ig mh 0 mx fT fL] (fun (q : Int32) => some (.int q)) (fun (q : Int32) => q = zcount wh) (fun (q : Int32) => []) := by
  refine zM.of (cc := cX11_count) (maxL := 2) (rt := (some .int)) (by decide) rfl (Nat.le_of_ble_eq_true rfl) ?_
  intro p e s m args below meth c A ls St hr hlocks hin hK hT hA hP hD hS hl
  obtain ⟨hx, hb, hml, hown, hts⟩ := id St
  have hl : lv_has ls 2 [(0, .ref x), (1, .int wh)] := hl
  refine lv_iload_n hx hb dX11_count_0 rfl (lv_at hl 1 rfl) ?_
  by_cases hsw0 : wh = 0
  · subst hsw0
    refine lv_tableIn (x := 0) (off := 67) (tgt := 68) hx hb dX11_count_1 (by decide) (by decide) rfl (by decide) ?_
    refine lv_aload_n hx hb dX11_count_68 rfl (lv_at hl 0 rfl) ?_
    refine va_get (D := g.1) (ci := 9) (v := .ref o) (C := RX11) (T := TX11) (N := 10) hx hb hts izRX11 hown hK hP 0 rfl rfl 1 (by decide) (hts _ k512) (fun _ h9 => h9) rfl dX11_count_69 ?_
    refine va_get (D := g.1) (ci := 7) (v := .int 0) (C := RX9) (T := TX9) (N := 19) hx hb hts izRX9 hown hK hP 1 rfl rfl 0 (by decide) (hts _ k584) (fun _ h9 => h9) rfl dX11_count_72 ?_
    have hP : va_P g.1 vwCl (List.flatten [bDR g x ta o lo go tt lt mo fo ro fl9, bTown g o a 0 0 0 20 jo tr 0 sd f, bLaw g lo ac ls0 (-1) lm lg ld fc, bLog g go ar 0 gn fr, bMem g mo qT qL it il ig mh 0 mx fT fL]) s.heap := hP
    have hD : va_D A (List.flatten [bDR g x ta o lo go tt lt mo fo ro fl9, bTown g o a 0 0 0 20 jo tr 0 sd f, bLaw g lo ac ls0 (-1) lm lg ld fc, bLog g go ar 0 gn fr, bMem g mo qT qL it il ig mh 0 mx fT fL]) := hD
    obtain ⟨hP, hD⟩ := zord (g := g) (Bs' := []) [] rfl rfl hP hD
    exact mret_i hx hb hr hlocks hS (Nat.le_of_ble_eq_true rfl) (Nat.le_of_ble_eq_true rfl) dX11_count_75 (0) rfl rfl hP hD
  by_cases hsw1 : wh = 1
  · subst hsw1
    refine lv_tableIn (x := 1) (off := 75) (tgt := 76) hx hb dX11_count_1 (by decide) (by decide) rfl (by decide) ?_
    refine lv_aload_n hx hb dX11_count_76 rfl (lv_at hl 0 rfl) ?_
    refine va_get (D := g.1) (ci := 9) (v := .ref o) (C := RX11) (T := TX11) (N := 10) hx hb hts izRX11 hown hK hP 0 rfl rfl 1 (by decide) (hts _ k512) (fun _ h9 => h9) rfl dX11_count_77 ?_
    refine va_get (D := g.1) (ci := 7) (v := .int 0) (C := RX9) (T := TX9) (N := 19) hx hb hts izRX9 hown hK hP 1 rfl rfl 1 (by decide) (hts _ k618) (fun _ h9 => h9) rfl dX11_count_80 ?_
    have hP : va_P g.1 vwCl (List.flatten [bDR g x ta o lo go tt lt mo fo ro fl9, bTown g o a 0 0 0 20 jo tr 0 sd f, bLaw g lo ac ls0 (-1) lm lg ld fc, bLog g go ar 0 gn fr, bMem g mo qT qL it il ig mh 0 mx fT fL]) s.heap := hP
    have hD : va_D A (List.flatten [bDR g x ta o lo go tt lt mo fo ro fl9, bTown g o a 0 0 0 20 jo tr 0 sd f, bLaw g lo ac ls0 (-1) lm lg ld fc, bLog g go ar 0 gn fr, bMem g mo qT qL it il ig mh 0 mx fT fL]) := hD
    obtain ⟨hP, hD⟩ := zord (g := g) (Bs' := []) [] rfl rfl hP hD
    exact mret_i hx hb hr hlocks hS (Nat.le_of_ble_eq_true rfl) (Nat.le_of_ble_eq_true rfl) dX11_count_83 (0) rfl rfl hP hD
  by_cases hsw2 : wh = 2
  · subst hsw2
    refine lv_tableIn (x := 2) (off := 83) (tgt := 84) hx hb dX11_count_1 (by decide) (by decide) rfl (by decide) ?_
    refine lv_aload_n hx hb dX11_count_84 rfl (lv_at hl 0 rfl) ?_
    refine va_get (D := g.1) (ci := 9) (v := .ref o) (C := RX11) (T := TX11) (N := 10) hx hb hts izRX11 hown hK hP 0 rfl rfl 1 (by decide) (hts _ k512) (fun _ h9 => h9) rfl dX11_count_85 ?_
    refine va_get (D := g.1) (ci := 7) (v := .int 0) (C := RX9) (T := TX9) (N := 19) hx hb hts izRX9 hown hK hP 1 rfl rfl 2 (by decide) (hts _ k556) (fun _ h9 => h9) rfl dX11_count_88 ?_
    have hP : va_P g.1 vwCl (List.flatten [bDR g x ta o lo go tt lt mo fo ro fl9, bTown g o a 0 0 0 20 jo tr 0 sd f, bLaw g lo ac ls0 (-1) lm lg ld fc, bLog g go ar 0 gn fr, bMem g mo qT qL it il ig mh 0 mx fT fL]) s.heap := hP
    have hD : va_D A (List.flatten [bDR g x ta o lo go tt lt mo fo ro fl9, bTown g o a 0 0 0 20 jo tr 0 sd f, bLaw g lo ac ls0 (-1) lm lg ld fc, bLog g go ar 0 gn fr, bMem g mo qT qL it il ig mh 0 mx fT fL]) := hD
    obtain ⟨hP, hD⟩ := zord (g := g) (Bs' := []) [] rfl rfl hP hD
    exact mret_i hx hb hr hlocks hS (Nat.le_of_ble_eq_true rfl) (Nat.le_of_ble_eq_true rfl) dX11_count_91 (0) rfl rfl hP hD
  by_cases hsw3 : wh = 3
  · subst hsw3
    refine lv_tableIn (x := 3) (off := 91) (tgt := 92) hx hb dX11_count_1 (by decide) (by decide) rfl (by decide) ?_
    refine lv_aload_n hx hb dX11_count_92 rfl (lv_at hl 0 rfl) ?_
    refine va_get (D := g.1) (ci := 9) (v := .ref lo) (C := RX11) (T := TX11) (N := 10) hx hb hts izRX11 hown hK hP 0 rfl rfl 2 (by decide) (hts _ k514) (fun _ h9 => h9) rfl dX11_count_93 ?_
    refine va_get (D := g.1) (ci := 1) (v := .int (-1)) (C := RX1) (T := TX1) (N := 6) hx hb hts izRX1 hown hK hP 13 rfl rfl 2 (by decide) (hts _ k571) (fun _ h9 => h9) rfl dX11_count_96 ?_
    have hP : va_P g.1 vwCl (List.flatten [bDR g x ta o lo go tt lt mo fo ro fl9, bTown g o a 0 0 0 20 jo tr 0 sd f, bLaw g lo ac ls0 (-1) lm lg ld fc, bLog g go ar 0 gn fr, bMem g mo qT qL it il ig mh 0 mx fT fL]) s.heap := hP
    have hD : va_D A (List.flatten [bDR g x ta o lo go tt lt mo fo ro fl9, bTown g o a 0 0 0 20 jo tr 0 sd f, bLaw g lo ac ls0 (-1) lm lg ld fc, bLog g go ar 0 gn fr, bMem g mo qT qL it il ig mh 0 mx fT fL]) := hD
    obtain ⟨hP, hD⟩ := zord (g := g) (Bs' := []) [] rfl rfl hP hD
    exact mret_i hx hb hr hlocks hS (Nat.le_of_ble_eq_true rfl) (Nat.le_of_ble_eq_true rfl) dX11_count_99 (-1) rfl rfl hP hD
  by_cases hsw4 : wh = 4
  · subst hsw4
    refine lv_tableIn (x := 4) (off := 99) (tgt := 100) hx hb dX11_count_1 (by decide) (by decide) rfl (by decide) ?_
    refine lv_aload_n hx hb dX11_count_100 rfl (lv_at hl 0 rfl) ?_
    refine va_get (D := g.1) (ci := 9) (v := .ref o) (C := RX11) (T := TX11) (N := 10) hx hb hts izRX11 hown hK hP 0 rfl rfl 1 (by decide) (hts _ k512) (fun _ h9 => h9) rfl dX11_count_101 ?_
    refine va_get (D := g.1) (ci := 7) (v := .int 0) (C := RX9) (T := TX9) (N := 19) hx hb hts izRX9 hown hK hP 1 rfl rfl 6 (by decide) (hts _ k652) (fun _ h9 => h9) rfl dX11_count_104 ?_
    have hP : va_P g.1 vwCl (List.flatten [bDR g x ta o lo go tt lt mo fo ro fl9, bTown g o a 0 0 0 20 jo tr 0 sd f, bLaw g lo ac ls0 (-1) lm lg ld fc, bLog g go ar 0 gn fr, bMem g mo qT qL it il ig mh 0 mx fT fL]) s.heap := hP
    have hD : va_D A (List.flatten [bDR g x ta o lo go tt lt mo fo ro fl9, bTown g o a 0 0 0 20 jo tr 0 sd f, bLaw g lo ac ls0 (-1) lm lg ld fc, bLog g go ar 0 gn fr, bMem g mo qT qL it il ig mh 0 mx fT fL]) := hD
    obtain ⟨hP, hD⟩ := zord (g := g) (Bs' := []) [] rfl rfl hP hD
    exact mret_i hx hb hr hlocks hS (Nat.le_of_ble_eq_true rfl) (Nat.le_of_ble_eq_true rfl) dX11_count_107 (0) rfl rfl hP hD
  by_cases hsw5 : wh = 5
  · subst hsw5
    refine lv_tableIn (x := 5) (off := 107) (tgt := 108) hx hb dX11_count_1 (by decide) (by decide) rfl (by decide) ?_
    refine lv_aload_n hx hb dX11_count_108 rfl (lv_at hl 0 rfl) ?_
    refine va_get (D := g.1) (ci := 9) (v := .ref o) (C := RX11) (T := TX11) (N := 10) hx hb hts izRX11 hown hK hP 0 rfl rfl 1 (by decide) (hts _ k512) (fun _ h9 => h9) rfl dX11_count_109 ?_
    refine va_get (D := g.1) (ci := 7) (v := .int 20) (C := RX9) (T := TX9) (N := 19) hx hb hts izRX9 hown hK hP 1 rfl rfl 3 (by decide) (hts _ k655) (fun _ h9 => h9) rfl dX11_count_112 ?_
    have hP : va_P g.1 vwCl (List.flatten [bDR g x ta o lo go tt lt mo fo ro fl9, bTown g o a 0 0 0 20 jo tr 0 sd f, bLaw g lo ac ls0 (-1) lm lg ld fc, bLog g go ar 0 gn fr, bMem g mo qT qL it il ig mh 0 mx fT fL]) s.heap := hP
    have hD : va_D A (List.flatten [bDR g x ta o lo go tt lt mo fo ro fl9, bTown g o a 0 0 0 20 jo tr 0 sd f, bLaw g lo ac ls0 (-1) lm lg ld fc, bLog g go ar 0 gn fr, bMem g mo qT qL it il ig mh 0 mx fT fL]) := hD
    obtain ⟨hP, hD⟩ := zord (g := g) (Bs' := []) [] rfl rfl hP hD
    exact mret_i hx hb hr hlocks hS (Nat.le_of_ble_eq_true rfl) (Nat.le_of_ble_eq_true rfl) dX11_count_115 (20) rfl rfl hP hD
  by_cases hsw6 : wh = 6
  · subst hsw6
    refine lv_tableIn (x := 6) (off := 115) (tgt := 116) hx hb dX11_count_1 (by decide) (by decide) rfl (by decide) ?_
    refine lv_aload_n hx hb dX11_count_116 rfl (lv_at hl 0 rfl) ?_
    refine va_get (D := g.1) (ci := 9) (v := .ref o) (C := RX11) (T := TX11) (N := 10) hx hb hts izRX11 hown hK hP 0 rfl rfl 1 (by decide) (hts _ k512) (fun _ h9 => h9) rfl dX11_count_117 ?_
    refine mcallV (g := g) (q0 := 0) (ci := 7) (As := []) (rest := []) St hK hT hA hP hD hS hl.1 [1] [0, 2, 3, 4] rfl rfl rfl (c_believed l g o a 0 20 jo tr 0 sd f ) (cwV 0 hts (zgL (zl4 k807 k57 k58 k24) k48) rfl rfl rfl (by decide +kernel) ⟨Nat.le_of_ble_eq_true rfl, Nat.le_of_ble_eq_true rfl⟩) rfl rfl rfl rfl (Nat.le_of_ble_eq_true rfl) dX11_count_120 ⟨(Nat.le_of_ble_eq_true rfl), (Nat.le_of_ble_eq_true rfl)⟩ (fun _u H locs hq1 hP hD hS => ?_)
    have hP : va_P g.1 vwCl (List.flatten [bDR g x ta o lo go tt lt mo fo ro fl9, bLaw g lo ac ls0 (-1) lm lg ld fc, bLog g go ar 0 gn fr, bMem g mo qT qL it il ig mh 0 mx fT fL, bTown g o a 0 0 0 20 jo tr 0 sd f]) H := hP
    have hD : va_D A (List.flatten [bDR g x ta o lo go tt lt mo fo ro fl9, bLaw g lo ac ls0 (-1) lm lg ld fc, bLog g go ar 0 gn fr, bMem g mo qT qL it il ig mh 0 mx fT fL, bTown g o a 0 0 0 20 jo tr 0 sd f]) := hD
    refine W.widen (k := 0) (n := 0) (Nat.le_of_ble_eq_true rfl) (Nat.le_of_ble_eq_true rfl) ?_
    refine W.eq (g2 := F0 m 123 ls [.int 0]) rfl ?_
    have hP : va_P g.1 vwCl (List.flatten [bDR g x ta o lo go tt lt mo fo ro fl9, bLaw g lo ac ls0 (-1) lm lg ld fc, bLog g go ar 0 gn fr, bMem g mo qT qL it il ig mh 0 mx fT fL, bTown g o a 0 0 0 20 jo tr 0 sd f]) H := hP
    have hD : va_D A (List.flatten [bDR g x ta o lo go tt lt mo fo ro fl9, bLaw g lo ac ls0 (-1) lm lg ld fc, bLog g go ar 0 gn fr, bMem g mo qT qL it il ig mh 0 mx fT fL, bTown g o a 0 0 0 20 jo tr 0 sd f]) := hD
    obtain ⟨hP, hD⟩ := zord (g := g) (Bs' := []) [] rfl rfl hP hD
    exact mret_i hx hb hr hlocks hS (Nat.le_of_ble_eq_true rfl) (Nat.le_of_ble_eq_true rfl) dX11_count_123 (0) rfl rfl hP hD
  by_cases hsw7 : wh = 7
  · subst hsw7
    refine lv_tableIn (x := 7) (off := 123) (tgt := 124) hx hb dX11_count_1 (by decide) (by decide) rfl (by decide) ?_
    refine lv_aload_n hx hb dX11_count_124 rfl (lv_at hl 0 rfl) ?_
    refine va_get (D := g.1) (ci := 9) (v := .ref o) (C := RX11) (T := TX11) (N := 10) hx hb hts izRX11 hown hK hP 0 rfl rfl 1 (by decide) (hts _ k512) (fun _ h9 => h9) rfl dX11_count_125 ?_
    refine mcallV (g := g) (q0 := 0) (ci := 7) (As := []) (rest := []) St hK hT hA hP hD hS hl.1 [1] [0, 2, 3, 4] rfl rfl rfl (c_peopleHere l g o a 0 20 jo tr 0 sd f ) (cwV 0 hts (zgL (zl4 k808 k51 k52 k24) k39) rfl rfl rfl (by decide +kernel) ⟨Nat.le_of_ble_eq_true rfl, Nat.le_of_ble_eq_true rfl⟩) rfl rfl rfl rfl (Nat.le_of_ble_eq_true rfl) dX11_count_128 ⟨(Nat.le_of_ble_eq_true rfl), (Nat.le_of_ble_eq_true rfl)⟩ (fun _u H locs hq2 hP hD hS => ?_)
    have hP : va_P g.1 vwCl (List.flatten [bDR g x ta o lo go tt lt mo fo ro fl9, bLaw g lo ac ls0 (-1) lm lg ld fc, bLog g go ar 0 gn fr, bMem g mo qT qL it il ig mh 0 mx fT fL, bTown g o a 0 0 0 20 jo tr 0 sd f]) H := hP
    have hD : va_D A (List.flatten [bDR g x ta o lo go tt lt mo fo ro fl9, bLaw g lo ac ls0 (-1) lm lg ld fc, bLog g go ar 0 gn fr, bMem g mo qT qL it il ig mh 0 mx fT fL, bTown g o a 0 0 0 20 jo tr 0 sd f]) := hD
    refine W.widen (k := 0) (n := 0) (Nat.le_of_ble_eq_true rfl) (Nat.le_of_ble_eq_true rfl) ?_
    refine W.eq (g2 := F0 m 131 ls [.int 0]) rfl ?_
    have hP : va_P g.1 vwCl (List.flatten [bDR g x ta o lo go tt lt mo fo ro fl9, bLaw g lo ac ls0 (-1) lm lg ld fc, bLog g go ar 0 gn fr, bMem g mo qT qL it il ig mh 0 mx fT fL, bTown g o a 0 0 0 20 jo tr 0 sd f]) H := hP
    have hD : va_D A (List.flatten [bDR g x ta o lo go tt lt mo fo ro fl9, bLaw g lo ac ls0 (-1) lm lg ld fc, bLog g go ar 0 gn fr, bMem g mo qT qL it il ig mh 0 mx fT fL, bTown g o a 0 0 0 20 jo tr 0 sd f]) := hD
    obtain ⟨hP, hD⟩ := zord (g := g) (Bs' := []) [] rfl rfl hP hD
    exact mret_i hx hb hr hlocks hS (Nat.le_of_ble_eq_true rfl) (Nat.le_of_ble_eq_true rfl) dX11_count_131 (0) rfl rfl hP hD
  by_cases hsw8 : wh = 8
  · subst hsw8
    refine lv_tableIn (x := 8) (off := 131) (tgt := 132) hx hb dX11_count_1 (by decide) (by decide) rfl (by decide) ?_
    refine lv_aload_n hx hb dX11_count_132 rfl (lv_at hl 0 rfl) ?_
    refine va_get (D := g.1) (ci := 9) (v := .ref o) (C := RX11) (T := TX11) (N := 10) hx hb hts izRX11 hown hK hP 0 rfl rfl 1 (by decide) (hts _ k512) (fun _ h9 => h9) rfl dX11_count_133 ?_
    refine lv_iconst (v := 1) hx hb dX11_count_136 (by decide) ?_
    refine mcallV (g := g) (q0 := 0) (ci := 7) (As := [.int 1]) (rest := []) St hK hT hA hP hD hS hl.1 [1] [0, 2, 3, 4] rfl rfl rfl (c_worksIn l g o a 0 20 jo tr 0 sd f 1 ) (cwV 1 hts (zgL (zl4 k689 k68 k69 k24) k59) rfl rfl rfl (by decide +kernel) ⟨Nat.le_of_ble_eq_true rfl, Nat.le_of_ble_eq_true rfl⟩) rfl rfl rfl rfl (Nat.le_of_ble_eq_true rfl) dX11_count_137 ⟨(Nat.le_of_ble_eq_true rfl), (Nat.le_of_ble_eq_true rfl)⟩ (fun _u H locs hq3 hP hD hS => ?_)
    have hP : va_P g.1 vwCl (List.flatten [bDR g x ta o lo go tt lt mo fo ro fl9, bLaw g lo ac ls0 (-1) lm lg ld fc, bLog g go ar 0 gn fr, bMem g mo qT qL it il ig mh 0 mx fT fL, bTown g o a 0 0 0 20 jo tr 0 sd f]) H := hP
    have hD : va_D A (List.flatten [bDR g x ta o lo go tt lt mo fo ro fl9, bLaw g lo ac ls0 (-1) lm lg ld fc, bLog g go ar 0 gn fr, bMem g mo qT qL it il ig mh 0 mx fT fL, bTown g o a 0 0 0 20 jo tr 0 sd f]) := hD
    refine W.widen (k := 0) (n := 0) (Nat.le_of_ble_eq_true rfl) (Nat.le_of_ble_eq_true rfl) ?_
    refine W.eq (g2 := F0 m 140 ls [.int 0]) rfl ?_
    have hP : va_P g.1 vwCl (List.flatten [bDR g x ta o lo go tt lt mo fo ro fl9, bLaw g lo ac ls0 (-1) lm lg ld fc, bLog g go ar 0 gn fr, bMem g mo qT qL it il ig mh 0 mx fT fL, bTown g o a 0 0 0 20 jo tr 0 sd f]) H := hP
    have hD : va_D A (List.flatten [bDR g x ta o lo go tt lt mo fo ro fl9, bLaw g lo ac ls0 (-1) lm lg ld fc, bLog g go ar 0 gn fr, bMem g mo qT qL it il ig mh 0 mx fT fL, bTown g o a 0 0 0 20 jo tr 0 sd f]) := hD
    obtain ⟨hP, hD⟩ := zord (g := g) (Bs' := []) [] rfl rfl hP hD
    exact mret_i hx hb hr hlocks hS (Nat.le_of_ble_eq_true rfl) (Nat.le_of_ble_eq_true rfl) dX11_count_140 (0) rfl rfl hP hD
  by_cases hsw9 : wh = 9
  · subst hsw9
    refine lv_tableIn (x := 9) (off := 140) (tgt := 141) hx hb dX11_count_1 (by decide) (by decide) rfl (by decide) ?_
    refine lv_aload_n hx hb dX11_count_141 rfl (lv_at hl 0 rfl) ?_
    refine va_get (D := g.1) (ci := 9) (v := .ref o) (C := RX11) (T := TX11) (N := 10) hx hb hts izRX11 hown hK hP 0 rfl rfl 1 (by decide) (hts _ k512) (fun _ h9 => h9) rfl dX11_count_142 ?_
    refine lv_iconst (v := 2) hx hb dX11_count_145 (by decide) ?_
    refine mcallV (g := g) (q0 := 0) (ci := 7) (As := [.int 2]) (rest := []) St hK hT hA hP hD hS hl.1 [1] [0, 2, 3, 4] rfl rfl rfl (c_worksIn l g o a 0 20 jo tr 0 sd f 2 ) (cwV 1 hts (zgL (zl4 k689 k68 k69 k24) k59) rfl rfl rfl (by decide +kernel) ⟨Nat.le_of_ble_eq_true rfl, Nat.le_of_ble_eq_true rfl⟩) rfl rfl rfl rfl (Nat.le_of_ble_eq_true rfl) dX11_count_146 ⟨(Nat.le_of_ble_eq_true rfl), (Nat.le_of_ble_eq_true rfl)⟩ (fun _u H locs hq4 hP hD hS => ?_)
    have hP : va_P g.1 vwCl (List.flatten [bDR g x ta o lo go tt lt mo fo ro fl9, bLaw g lo ac ls0 (-1) lm lg ld fc, bLog g go ar 0 gn fr, bMem g mo qT qL it il ig mh 0 mx fT fL, bTown g o a 0 0 0 20 jo tr 0 sd f]) H := hP
    have hD : va_D A (List.flatten [bDR g x ta o lo go tt lt mo fo ro fl9, bLaw g lo ac ls0 (-1) lm lg ld fc, bLog g go ar 0 gn fr, bMem g mo qT qL it il ig mh 0 mx fT fL, bTown g o a 0 0 0 20 jo tr 0 sd f]) := hD
    refine W.widen (k := 0) (n := 0) (Nat.le_of_ble_eq_true rfl) (Nat.le_of_ble_eq_true rfl) ?_
    refine W.eq (g2 := F0 m 149 ls [.int 0]) rfl ?_
    have hP : va_P g.1 vwCl (List.flatten [bDR g x ta o lo go tt lt mo fo ro fl9, bLaw g lo ac ls0 (-1) lm lg ld fc, bLog g go ar 0 gn fr, bMem g mo qT qL it il ig mh 0 mx fT fL, bTown g o a 0 0 0 20 jo tr 0 sd f]) H := hP
    have hD : va_D A (List.flatten [bDR g x ta o lo go tt lt mo fo ro fl9, bLaw g lo ac ls0 (-1) lm lg ld fc, bLog g go ar 0 gn fr, bMem g mo qT qL it il ig mh 0 mx fT fL, bTown g o a 0 0 0 20 jo tr 0 sd f]) := hD
    obtain ⟨hP, hD⟩ := zord (g := g) (Bs' := []) [] rfl rfl hP hD
    exact mret_i hx hb hr hlocks hS (Nat.le_of_ble_eq_true rfl) (Nat.le_of_ble_eq_true rfl) dX11_count_149 (0) rfl rfl hP hD
  by_cases hsw10 : wh = 10
  · subst hsw10
    refine lv_tableIn (x := 10) (off := 149) (tgt := 150) hx hb dX11_count_1 (by decide) (by decide) rfl (by decide) ?_
    refine lv_aload_n hx hb dX11_count_150 rfl (lv_at hl 0 rfl) ?_
    refine va_get (D := g.1) (ci := 9) (v := .ref o) (C := RX11) (T := TX11) (N := 10) hx hb hts izRX11 hown hK hP 0 rfl rfl 1 (by decide) (hts _ k512) (fun _ h9 => h9) rfl dX11_count_151 ?_
    refine mcallV (g := g) (q0 := 0) (ci := 7) (As := []) (rest := []) St hK hT hA hP hD hS hl.1 [1] [0, 2, 3, 4] rfl rfl rfl (c_sharesOfAll l g o a 0 20 jo tr 0 sd f ) (cwV 0 hts (zgL (zl4 k809 k810 k811 k24) k493) rfl rfl rfl (by decide +kernel) ⟨Nat.le_of_ble_eq_true rfl, Nat.le_of_ble_eq_true rfl⟩) rfl rfl rfl rfl (Nat.le_of_ble_eq_true rfl) dX11_count_154 ⟨(Nat.le_of_ble_eq_true rfl), (Nat.le_of_ble_eq_true rfl)⟩ (fun _u H locs hq5 hP hD hS => ?_)
    have hP : va_P g.1 vwCl (List.flatten [bDR g x ta o lo go tt lt mo fo ro fl9, bLaw g lo ac ls0 (-1) lm lg ld fc, bLog g go ar 0 gn fr, bMem g mo qT qL it il ig mh 0 mx fT fL, bTown g o a 0 0 0 20 jo tr 0 sd f]) H := hP
    have hD : va_D A (List.flatten [bDR g x ta o lo go tt lt mo fo ro fl9, bLaw g lo ac ls0 (-1) lm lg ld fc, bLog g go ar 0 gn fr, bMem g mo qT qL it il ig mh 0 mx fT fL, bTown g o a 0 0 0 20 jo tr 0 sd f]) := hD
    refine W.widen (k := 0) (n := 0) (Nat.le_of_ble_eq_true rfl) (Nat.le_of_ble_eq_true rfl) ?_
    refine W.eq (g2 := F0 m 157 ls [.int 0]) rfl ?_
    have hP : va_P g.1 vwCl (List.flatten [bDR g x ta o lo go tt lt mo fo ro fl9, bLaw g lo ac ls0 (-1) lm lg ld fc, bLog g go ar 0 gn fr, bMem g mo qT qL it il ig mh 0 mx fT fL, bTown g o a 0 0 0 20 jo tr 0 sd f]) H := hP
    have hD : va_D A (List.flatten [bDR g x ta o lo go tt lt mo fo ro fl9, bLaw g lo ac ls0 (-1) lm lg ld fc, bLog g go ar 0 gn fr, bMem g mo qT qL it il ig mh 0 mx fT fL, bTown g o a 0 0 0 20 jo tr 0 sd f]) := hD
    obtain ⟨hP, hD⟩ := zord (g := g) (Bs' := []) [] rfl rfl hP hD
    exact mret_i hx hb hr hlocks hS (Nat.le_of_ble_eq_true rfl) (Nat.le_of_ble_eq_true rfl) dX11_count_157 (0) rfl rfl hP hD
  by_cases hsw11 : wh = 11
  · subst hsw11
    refine lv_tableIn (x := 11) (off := 157) (tgt := 158) hx hb dX11_count_1 (by decide) (by decide) rfl (by decide) ?_
    refine lv_aload_n hx hb dX11_count_158 rfl (lv_at hl 0 rfl) ?_
    refine va_get (D := g.1) (ci := 9) (v := .ref go) (C := RX11) (T := TX11) (N := 10) hx hb hts izRX11 hown hK hP 0 rfl rfl 3 (by decide) (hts _ k516) (fun _ h9 => h9) rfl dX11_count_159 ?_
    refine va_get (D := g.1) (ci := 3) (v := .int 0) (C := RX3) (T := TX3) (N := 3) hx hb hts izRX3 hown hK hP 15 rfl rfl 1 (by decide) (hts _ k805) (fun _ h9 => h9) rfl dX11_count_162 ?_
    have hP : va_P g.1 vwCl (List.flatten [bDR g x ta o lo go tt lt mo fo ro fl9, bTown g o a 0 0 0 20 jo tr 0 sd f, bLaw g lo ac ls0 (-1) lm lg ld fc, bLog g go ar 0 gn fr, bMem g mo qT qL it il ig mh 0 mx fT fL]) s.heap := hP
    have hD : va_D A (List.flatten [bDR g x ta o lo go tt lt mo fo ro fl9, bTown g o a 0 0 0 20 jo tr 0 sd f, bLaw g lo ac ls0 (-1) lm lg ld fc, bLog g go ar 0 gn fr, bMem g mo qT qL it il ig mh 0 mx fT fL]) := hD
    obtain ⟨hP, hD⟩ := zord (g := g) (Bs' := []) [] rfl rfl hP hD
    exact mret_i hx hb hr hlocks hS (Nat.le_of_ble_eq_true rfl) (Nat.le_of_ble_eq_true rfl) dX11_count_165 (0) rfl rfl hP hD
  by_cases hsw12 : wh = 12
  · subst hsw12
    refine lv_tableIn (x := 12) (off := 165) (tgt := 166) hx hb dX11_count_1 (by decide) (by decide) rfl (by decide) ?_
    refine lv_aload_n hx hb dX11_count_166 rfl (lv_at hl 0 rfl) ?_
    refine va_get (D := g.1) (ci := 9) (v := .ref mo) (C := RX11) (T := TX11) (N := 10) hx hb hts izRX11 hown hK hP 0 rfl rfl 6 (by decide) (hts _ k525) (fun _ h9 => h9) rfl dX11_count_167 ?_
    refine va_get (D := g.1) (ci := 4) (v := .int 0) (C := RX4) (T := TX4) (N := 8) hx hb hts izRX4 hown hK hP 17 rfl rfl 6 (by decide) (hts _ k806) (fun _ h9 => h9) rfl dX11_count_170 ?_
    have hP : va_P g.1 vwCl (List.flatten [bDR g x ta o lo go tt lt mo fo ro fl9, bTown g o a 0 0 0 20 jo tr 0 sd f, bLaw g lo ac ls0 (-1) lm lg ld fc, bLog g go ar 0 gn fr, bMem g mo qT qL it il ig mh 0 mx fT fL]) s.heap := hP
    have hD : va_D A (List.flatten [bDR g x ta o lo go tt lt mo fo ro fl9, bTown g o a 0 0 0 20 jo tr 0 sd f, bLaw g lo ac ls0 (-1) lm lg ld fc, bLog g go ar 0 gn fr, bMem g mo qT qL it il ig mh 0 mx fT fL]) := hD
    obtain ⟨hP, hD⟩ := zord (g := g) (Bs' := []) [] rfl rfl hP hD
    exact mret_i hx hb hr hlocks hS (Nat.le_of_ble_eq_true rfl) (Nat.le_of_ble_eq_true rfl) dX11_count_173 (0) rfl rfl hP hD
  refine lv_tableOut (tgt := 174) hx hb dX11_count_1 (by have := lv_neT hsw0 (show Int32.toInt 0 = 0 from by decide); have := lv_neT hsw1 (show Int32.toInt 1 = 1 from by decide); have := lv_neT hsw2 (show Int32.toInt 2 = 2 from by decide); have := lv_neT hsw3 (show Int32.toInt 3 = 3 from by decide); have := lv_neT hsw4 (show Int32.toInt 4 = 4 from by decide); have := lv_neT hsw5 (show Int32.toInt 5 = 5 from by decide); have := lv_neT hsw6 (show Int32.toInt 6 = 6 from by decide); have := lv_neT hsw7 (show Int32.toInt 7 = 7 from by decide); have := lv_neT hsw8 (show Int32.toInt 8 = 8 from by decide); have := lv_neT hsw9 (show Int32.toInt 9 = 9 from by decide); have := lv_neT hsw10 (show Int32.toInt 10 = 10 from by decide); have := lv_neT hsw11 (show Int32.toInt 11 = 11 from by decide); have := lv_neT hsw12 (show Int32.toInt 12 = 12 from by decide); omega) (by decide) ?_
  refine lv_iconst (v := (-1)) hx hb dX11_count_174 (by decide) ?_
  have hP : va_P g.1 vwCl (List.flatten [bDR g x ta o lo go tt lt mo fo ro fl9, bTown g o a 0 0 0 20 jo tr 0 sd f, bLaw g lo ac ls0 (-1) lm lg ld fc, bLog g go ar 0 gn fr, bMem g mo qT qL it il ig mh 0 mx fT fL]) s.heap := hP
  have hD : va_D A (List.flatten [bDR g x ta o lo go tt lt mo fo ro fl9, bTown g o a 0 0 0 20 jo tr 0 sd f, bLaw g lo ac ls0 (-1) lm lg ld fc, bLog g go ar 0 gn fr, bMem g mo qT qL it il ig mh 0 mx fT fL]) := hD
  obtain ⟨hP, hD⟩ := zord (g := g) (Bs' := []) [] rfl rfl hP hD
  exact mret_i hx hb hr hlocks hS (Nat.le_of_ble_eq_true rfl) (Nat.le_of_ble_eq_true rfl) dX11_count_175 (-1) rfl (by simp [zcount, hsw0, hsw1, hsw2, hsw3, hsw4, hsw5, hsw6, hsw7, hsw8, hsw9, hsw10, hsw11, hsw12]) hP hD
set_option maxRecDepth 100000 in
set_option maxHeartbeats 4000000 in
theorem c_feed (l : Launch) (g : zG) (x : Nat) (ta : Nat) (o : Nat) (lo : Nat) (go : Nat) (tt : Nat) (lt : Nat) (mo : Nat) (fo : Nat) (ro : Nat) (fl9 : Int32) (ab : Nat) (len : Int32) (knd : Int32) (beg : Int32) (nxt : Int32) (flt : Int32) (fb : Nat → Int32) (v1 : Int32) (v2 : Int32) (v3 : Int32) (v4 : Int32) (v5 : Int32)  : zM g l yX11_feed (Cond.code yX11_feed cX11_feed 6 (some .int) :: zB) ({ frames := 1, cells := 0, slots := 0, locals := 22 } : Room) [.ref x, .int v1, .int v2, .int v3, .int v4, .int v5] [bDR g x ta o lo go tt lt mo fo ro fl9, bTape g ta ab 0 len knd beg nxt flt fb] (fun _ : Unit => some (.int 20)) (fun _ : Unit => True) (fun _ : Unit => []) := by
  refine zM.of (cc := cX11_feed) (maxL := 6) (rt := (some .int)) (by decide) rfl (Nat.le_of_ble_eq_true rfl) ?_
  intro p e s m args below meth c A ls St hr hlocks hin hK hT hA hP hD hS hl
  obtain ⟨hx, hb, hml, hown, hts⟩ := id St
  have hl : lv_has ls 6 [(0, .ref x), (1, .int v1), (2, .int v2), (3, .int v3), (4, .int v4), (5, .int v5)] := hl
  refine lv_aload_n hx hb dX11_feed_0 rfl (lv_at hl 0 rfl) ?_
  refine va_get (D := g.1) (ci := 9) (v := .ref ta) (C := RX11) (T := TX11) (N := 10) hx hb hts izRX11 hown hK hP 0 rfl rfl 0 (by decide) (hts _ k510) (fun _ h9 => h9) rfl dX11_feed_1 ?_
  refine va_get (D := g.1) (ci := 6) (v := .int 0) (C := RX6) (T := TX6) (N := 7) hx hb hts izRX6 hown hK hP 1 rfl rfl 1 (by decide) (hts _ k545) (fun _ h9 => h9) rfl dX11_feed_4 ?_
  refine lv_sipush (v := 380) hx hb dX11_feed_7 (by decide) ?_
  refine lv_icmp_le (tgt := 15) hx hb dX11_feed_10 (by decide) (fun _ => ?_) (fun c1 => absurd (by decide) c1)
  refine lv_aload_n hx hb dX11_feed_15 rfl (lv_at hl 0 rfl) ?_
  refine va_get (D := g.1) (ci := 9) (v := .ref ta) (C := RX11) (T := TX11) (N := 10) hx hb hts izRX11 hown hK hP 0 rfl rfl 0 (by decide) (hts _ k510) (fun _ h9 => h9) rfl dX11_feed_16 ?_
  refine lv_iload_n hx hb dX11_feed_19 rfl (lv_at hl 1 rfl) ?_
  refine mcallV (g := g) (q0 := 0) (ci := 6) (As := [.int v1]) (rest := []) St hK hT hA hP hD hS hl.1 [1] [0] rfl rfl rfl (c_Tape_add0 l g ta ab len knd beg nxt flt fb v1 ) (cwV 1 hts (zgL (zl4 k546 k547 k548 k303) k292) rfl rfl rfl (by decide +kernel) ⟨Nat.le_of_ble_eq_true rfl, Nat.le_of_ble_eq_true rfl⟩) rfl rfl rfl rfl (Nat.le_of_ble_eq_true rfl) dX11_feed_20 ⟨(Nat.le_of_ble_eq_true rfl), (Nat.le_of_ble_eq_true rfl)⟩ (fun fb2_2 H locs hq3 hP hD hS => ?_)
  have hP : va_P g.1 vwCl (List.flatten [bDR g x ta o lo go tt lt mo fo ro fl9, bTape g ta ab 4 len knd beg nxt flt fb2_2]) H := hP
  have hD : va_D A (List.flatten [bDR g x ta o lo go tt lt mo fo ro fl9, bTape g ta ab 4 len knd beg nxt flt fb2_2]) := hD
  refine W.widen (k := 0) (n := 0) (Nat.le_of_ble_eq_true rfl) (Nat.le_of_ble_eq_true rfl) ?_
  refine W.eq (g2 := F0 m 23 ls []) rfl ?_
  refine lv_aload_n hx hb dX11_feed_23 rfl (lv_at hl 0 rfl) ?_
  refine va_get (D := g.1) (ci := 9) (v := .ref ta) (C := RX11) (T := TX11) (N := 10) hx hb hts izRX11 hown hK hP 0 rfl rfl 0 (by decide) (hts _ k510) (fun _ h9 => h9) rfl dX11_feed_24 ?_
  refine lv_iload_n hx hb dX11_feed_27 rfl (lv_at hl 2 rfl) ?_
  refine mcallV (g := g) (q0 := 0) (ci := 6) (As := [.int v2]) (rest := []) St hK hT hA hP hD hS hl.1 [1] [0] rfl rfl rfl (c_Tape_add4 l g ta ab len knd beg nxt flt fb2_2 v2 ) (cwV 1 hts (zgL (zl4 k546 k547 k548 k303) k292) rfl rfl rfl (by decide +kernel) ⟨Nat.le_of_ble_eq_true rfl, Nat.le_of_ble_eq_true rfl⟩) rfl rfl rfl rfl (Nat.le_of_ble_eq_true rfl) dX11_feed_28 ⟨(Nat.le_of_ble_eq_true rfl), (Nat.le_of_ble_eq_true rfl)⟩ (fun fb2_4 H locs hq5 hP hD hS => ?_)
  have hP : va_P g.1 vwCl (List.flatten [bDR g x ta o lo go tt lt mo fo ro fl9, bTape g ta ab 8 len knd beg nxt flt fb2_4]) H := hP
  have hD : va_D A (List.flatten [bDR g x ta o lo go tt lt mo fo ro fl9, bTape g ta ab 8 len knd beg nxt flt fb2_4]) := hD
  refine W.widen (k := 0) (n := 0) (Nat.le_of_ble_eq_true rfl) (Nat.le_of_ble_eq_true rfl) ?_
  refine W.eq (g2 := F0 m 31 ls []) rfl ?_
  refine lv_aload_n hx hb dX11_feed_31 rfl (lv_at hl 0 rfl) ?_
  refine va_get (D := g.1) (ci := 9) (v := .ref ta) (C := RX11) (T := TX11) (N := 10) hx hb hts izRX11 hown hK hP 0 rfl rfl 0 (by decide) (hts _ k510) (fun _ h9 => h9) rfl dX11_feed_32 ?_
  refine lv_iload_n hx hb dX11_feed_35 rfl (lv_at hl 3 rfl) ?_
  refine mcallV (g := g) (q0 := 0) (ci := 6) (As := [.int v3]) (rest := []) St hK hT hA hP hD hS hl.1 [1] [0] rfl rfl rfl (c_Tape_add8 l g ta ab len knd beg nxt flt fb2_4 v3 ) (cwV 1 hts (zgL (zl4 k546 k547 k548 k303) k292) rfl rfl rfl (by decide +kernel) ⟨Nat.le_of_ble_eq_true rfl, Nat.le_of_ble_eq_true rfl⟩) rfl rfl rfl rfl (Nat.le_of_ble_eq_true rfl) dX11_feed_36 ⟨(Nat.le_of_ble_eq_true rfl), (Nat.le_of_ble_eq_true rfl)⟩ (fun fb2_6 H locs hq7 hP hD hS => ?_)
  have hP : va_P g.1 vwCl (List.flatten [bDR g x ta o lo go tt lt mo fo ro fl9, bTape g ta ab 12 len knd beg nxt flt fb2_6]) H := hP
  have hD : va_D A (List.flatten [bDR g x ta o lo go tt lt mo fo ro fl9, bTape g ta ab 12 len knd beg nxt flt fb2_6]) := hD
  refine W.widen (k := 0) (n := 0) (Nat.le_of_ble_eq_true rfl) (Nat.le_of_ble_eq_true rfl) ?_
  refine W.eq (g2 := F0 m 39 ls []) rfl ?_
  refine lv_aload_n hx hb dX11_feed_39 rfl (lv_at hl 0 rfl) ?_
  refine va_get (D := g.1) (ci := 9) (v := .ref ta) (C := RX11) (T := TX11) (N := 10) hx hb hts izRX11 hown hK hP 0 rfl rfl 0 (by decide) (hts _ k510) (fun _ h9 => h9) rfl dX11_feed_40 ?_
  refine lv_iload hx hb dX11_feed_43 (lv_at hl 4 rfl) ?_
  refine mcallV (g := g) (q0 := 0) (ci := 6) (As := [.int v4]) (rest := []) St hK hT hA hP hD hS hl.1 [1] [0] rfl rfl rfl (c_Tape_add12 l g ta ab len knd beg nxt flt fb2_6 v4 ) (cwV 1 hts (zgL (zl4 k546 k547 k548 k303) k292) rfl rfl rfl (by decide +kernel) ⟨Nat.le_of_ble_eq_true rfl, Nat.le_of_ble_eq_true rfl⟩) rfl rfl rfl rfl (Nat.le_of_ble_eq_true rfl) dX11_feed_45 ⟨(Nat.le_of_ble_eq_true rfl), (Nat.le_of_ble_eq_true rfl)⟩ (fun fb2_8 H locs hq9 hP hD hS => ?_)
  have hP : va_P g.1 vwCl (List.flatten [bDR g x ta o lo go tt lt mo fo ro fl9, bTape g ta ab 16 len knd beg nxt flt fb2_8]) H := hP
  have hD : va_D A (List.flatten [bDR g x ta o lo go tt lt mo fo ro fl9, bTape g ta ab 16 len knd beg nxt flt fb2_8]) := hD
  refine W.widen (k := 0) (n := 0) (Nat.le_of_ble_eq_true rfl) (Nat.le_of_ble_eq_true rfl) ?_
  refine W.eq (g2 := F0 m 48 ls []) rfl ?_
  refine lv_aload_n hx hb dX11_feed_48 rfl (lv_at hl 0 rfl) ?_
  refine va_get (D := g.1) (ci := 9) (v := .ref ta) (C := RX11) (T := TX11) (N := 10) hx hb hts izRX11 hown hK hP 0 rfl rfl 0 (by decide) (hts _ k510) (fun _ h9 => h9) rfl dX11_feed_49 ?_
  refine lv_iload hx hb dX11_feed_52 (lv_at hl 5 rfl) ?_
  refine mcallV (g := g) (q0 := 0) (ci := 6) (As := [.int v5]) (rest := []) St hK hT hA hP hD hS hl.1 [1] [0] rfl rfl rfl (c_Tape_add16 l g ta ab len knd beg nxt flt fb2_8 v5 ) (cwV 1 hts (zgL (zl4 k546 k547 k548 k303) k292) rfl rfl rfl (by decide +kernel) ⟨Nat.le_of_ble_eq_true rfl, Nat.le_of_ble_eq_true rfl⟩) rfl rfl rfl rfl (Nat.le_of_ble_eq_true rfl) dX11_feed_54 ⟨(Nat.le_of_ble_eq_true rfl), (Nat.le_of_ble_eq_true rfl)⟩ (fun fb2_10 H locs hq11 hP hD hS => ?_)
  have hP : va_P g.1 vwCl (List.flatten [bDR g x ta o lo go tt lt mo fo ro fl9, bTape g ta ab 20 len knd beg nxt flt fb2_10]) H := hP
  have hD : va_D A (List.flatten [bDR g x ta o lo go tt lt mo fo ro fl9, bTape g ta ab 20 len knd beg nxt flt fb2_10]) := hD
  refine W.widen (k := 0) (n := 0) (Nat.le_of_ble_eq_true rfl) (Nat.le_of_ble_eq_true rfl) ?_
  refine W.eq (g2 := F0 m 57 ls []) rfl ?_
  refine lv_aload_n hx hb dX11_feed_57 rfl (lv_at hl 0 rfl) ?_
  refine va_get (D := g.1) (ci := 9) (v := .ref ta) (C := RX11) (T := TX11) (N := 10) hx hb hts izRX11 hown hK hP 0 rfl rfl 0 (by decide) (hts _ k510) (fun _ h9 => h9) rfl dX11_feed_58 ?_
  refine va_get (D := g.1) (ci := 6) (v := .int 20) (C := RX6) (T := TX6) (N := 7) hx hb hts izRX6 hown hK hP 1 rfl rfl 1 (by decide) (hts _ k545) (fun _ h9 => h9) rfl dX11_feed_61 ?_
  have hP : va_P g.1 vwCl (List.flatten [bDR g x ta o lo go tt lt mo fo ro fl9, bTape g ta ab 20 len knd beg nxt flt fb2_10]) H := hP
  have hD : va_D A (List.flatten [bDR g x ta o lo go tt lt mo fo ro fl9, bTape g ta ab 20 len knd beg nxt flt fb2_10]) := hD
  obtain ⟨hP, hD⟩ := zord (g := g) (Bs' := []) [] rfl rfl hP hD
  exact mret_i hx hb hr hlocks hS (Nat.le_of_ble_eq_true rfl) (Nat.le_of_ble_eq_true rfl) dX11_feed_64 () rfl trivial hP hD
set_option maxRecDepth 100000 in
set_option maxHeartbeats 4000000 in
theorem c_end (l : Launch) (g : zG) (x : Nat) (ta : Nat) (o : Nat) (lo : Nat) (go : Nat) (tt : Nat) (lt : Nat) (mo : Nat) (fo : Nat) (ro : Nat) (fl9 : Int32) (ab : Nat) (len : Int32) (knd : Int32) (beg : Int32) (nxt : Int32) (flt : Int32) (fb : Nat → Int32) (n : Int32)  : zM g l yX11_end (Cond.code yX11_end cX11_end 2 (some .boolean) :: zB) ({ frames := 0, cells := 0, slots := 0, locals := 0 } : Room) [.ref x, .int n] [bDR g x ta o lo go tt lt mo fo ro fl9, bTape g ta ab 0 len knd beg nxt flt fb] (fun (q : Int32) => some (.int q)) (fun (q : Int32) => q = if n < 0 ∨ 0 < n then 0 else 1) (fun (q : Int32) => []) := by
  refine zM.of (cc := cX11_end) (maxL := 2) (rt := (some .boolean)) (by decide) rfl (Nat.le_of_ble_eq_true rfl) ?_
  intro p e s m args below meth c A ls St hr hlocks hin hK hT hA hP hD hS hl
  obtain ⟨hx, hb, hml, hown, hts⟩ := id St
  have hl : lv_has ls 2 [(0, .ref x), (1, .int n)] := hl
  refine lv_iload_n hx hb dX11_end_0 rfl (lv_at hl 1 rfl) ?_
  refine lv_if_lt (tgt := 15) hx hb dX11_end_1 (by decide) (fun cA => ?_) (fun cA => ?_)
  · skip
    refine lv_iconst (v := 0) hx hb dX11_end_15 (by decide) ?_
    have hP : va_P g.1 vwCl (List.flatten [bDR g x ta o lo go tt lt mo fo ro fl9, bTape g ta ab 0 len knd beg nxt flt fb]) s.heap := hP
    have hD : va_D A (List.flatten [bDR g x ta o lo go tt lt mo fo ro fl9, bTape g ta ab 0 len knd beg nxt flt fb]) := hD
    obtain ⟨hP, hD⟩ := zord (g := g) (Bs' := []) [] rfl rfl hP hD
    exact mret_z hx hb hr hlocks hS (Nat.le_of_ble_eq_true rfl) (Nat.le_of_ble_eq_true rfl) dX11_end_16 (0) rfl (by decide) ((if_pos (Or.inl cA)).symm) hP hD
  · skip
    refine lv_iload_n hx hb dX11_end_4 rfl (lv_at hl 1 rfl) ?_
    refine lv_aload_n hx hb dX11_end_5 rfl (lv_at hl 0 rfl) ?_
    refine va_get (D := g.1) (ci := 9) (v := .ref ta) (C := RX11) (T := TX11) (N := 10) hx hb hts izRX11 hown hK hP 0 rfl rfl 0 (by decide) (hts _ k510) (fun _ h9 => h9) rfl dX11_end_6 ?_
    refine va_get (D := g.1) (ci := 6) (v := .int 0) (C := RX6) (T := TX6) (N := 7) hx hb hts izRX6 hown hK hP 1 rfl rfl 1 (by decide) (hts _ k545) (fun _ h9 => h9) rfl dX11_end_9 ?_
    refine lv_icmp_le (tgt := 17) hx hb dX11_end_12 (by decide) (fun cB => ?_) (fun cB => ?_)
    · skip
      refine lv_aload_n hx hb dX11_end_17 rfl (lv_at hl 0 rfl) ?_
      refine va_get (D := g.1) (ci := 9) (v := .ref ta) (C := RX11) (T := TX11) (N := 10) hx hb hts izRX11 hown hK hP 0 rfl rfl 0 (by decide) (hts _ k510) (fun _ h9 => h9) rfl dX11_end_18 ?_
      refine lv_iload_n hx hb dX11_end_21 rfl (lv_at hl 1 rfl) ?_
      refine va_put (D := g.1) (ci := 6) (v := .int n) (ty := .int) (C := RX6) (T := TX6) (N := 7) hx hb hts izRX6 tyX6 tyX6_ok nmX6 hown hK hP hD hS 1 rfl rfl 1 (by decide) (hts _ k545) (fun _ h9 => h9) rfl (by decide +kernel) rfl rfl (Nat.le_of_ble_eq_true rfl) dX11_end_22 (fun H locs hP hD hS => ?_)
      have hP : va_P g.1 vwCl (List.flatten [bDR g x ta o lo go tt lt mo fo ro fl9, [(ta, .inr (6, [.ref ab, .int n, .int len, .int knd, .int beg, .int nxt, .int flt])), (ab, .inl (g.2 0, 400, .inl fb))]]) H := hP
      have hD : va_D A (List.flatten [bDR g x ta o lo go tt lt mo fo ro fl9, [(ta, .inr (6, [.ref ab, .int n, .int len, .int knd, .int beg, .int nxt, .int flt])), (ab, .inl (g.2 0, 400, .inl fb))]]) := hD
      refine lv_iconst (v := 1) hx hb dX11_end_25 (by decide) ?_
      have hP : va_P g.1 vwCl (List.flatten [bDR g x ta o lo go tt lt mo fo ro fl9, [(ta, .inr (6, [.ref ab, .int n, .int len, .int knd, .int beg, .int nxt, .int flt])), (ab, .inl (g.2 0, 400, .inl fb))]]) H := hP
      have hD : va_D A (List.flatten [bDR g x ta o lo go tt lt mo fo ro fl9, [(ta, .inr (6, [.ref ab, .int n, .int len, .int knd, .int beg, .int nxt, .int flt])), (ab, .inl (g.2 0, 400, .inl fb))]]) := hD
      obtain ⟨hP, hD⟩ := zord (g := g) (Bs' := []) [] rfl rfl hP hD
      exact mret_z hx hb hr hlocks hS (Nat.le_of_ble_eq_true rfl) (Nat.le_of_ble_eq_true rfl) dX11_end_26 (1) rfl (by decide) ((if_neg (fun h => h.elim cA (Int32.not_lt.mpr cB))).symm) hP hD
    · skip
      refine lv_iconst (v := 0) hx hb dX11_end_15 (by decide) ?_
      have hP : va_P g.1 vwCl (List.flatten [bDR g x ta o lo go tt lt mo fo ro fl9, bTape g ta ab 0 len knd beg nxt flt fb]) s.heap := hP
      have hD : va_D A (List.flatten [bDR g x ta o lo go tt lt mo fo ro fl9, bTape g ta ab 0 len knd beg nxt flt fb]) := hD
      obtain ⟨hP, hD⟩ := zord (g := g) (Bs' := []) [] rfl rfl hP hD
      exact mret_z hx hb hr hlocks hS (Nat.le_of_ble_eq_true rfl) (Nat.le_of_ble_eq_true rfl) dX11_end_16 (0) rfl (by decide) ((if_pos (Or.inr (Int32.not_le.mp cB))).symm) hP hD
set_option maxRecDepth 100000 in
set_option maxHeartbeats 4000000 in
theorem c_town (l : Launch) (g : zG) (x : Nat) (ta : Nat) (o : Nat) (lo : Nat) (go : Nat) (tt : Nat) (lt : Nat) (mo : Nat) (fo : Nat) (ro : Nat) (fl9 : Int32) (a : Nat → Nat) (ch : Int32) (jo : Int32) (tr : Int32) (dy : Int32) (sd : Int32) (f : Nat → Nat → Int32) (ab : Nat) (len : Int32) (knd : Int32) (beg : Int32) (nxt : Int32) (flt : Int32) (fb : Nat → Int32) (qT : Nat) (qL : Nat) (it : Nat) (il : Nat) (ig : Nat) (mh : Int32) (me : Int32) (mx : Int32) (fT : Nat → Option Nat) (fL : Nat → Option Nat) (td : Nat) (a2 : Nat → Nat) (pe2 : Int32) (wo2 : Int32) (tx2 : Int32) (ch2 : Int32) (jo2 : Int32) (tr2 : Int32) (dy2 : Int32) (sd2 : Int32) (f2 : Nat → Nat → Int32) (hz : zZ (f 4)) : zM g l yX11_town (Cond.code yX11_town cX11_town 2 (some .int) :: zB) ({ frames := 2, cells := 0, slots := 0, locals := 61 } : Room) [.ref x] [bDR g x ta o lo go tt lt mo fo ro fl9, bTown g o a 0 0 0 ch jo tr dy sd f, bTape g ta ab 0 len knd beg nxt flt fb, [(tt, .inr (8, [.ref ta, .ref td]))], bTown g td a2 pe2 wo2 tx2 ch2 jo2 tr2 dy2 sd2 f2, bMem g mo qT qL it il ig mh me mx fT fL] (fun _ : Unit => some (.int 1)) (fun _ : Unit => True) (fun _ : Unit => []) := by
  refine zM.of (cc := cX11_town) (maxL := 2) (rt := (some .int)) (by decide) rfl (Nat.le_of_ble_eq_true rfl) ?_
  intro p e s m args below meth c A ls St hr hlocks hin hK hT hA hP hD hS hl
  obtain ⟨hx, hb, hml, hown, hts⟩ := id St
  have hl : lv_has ls 2 [(0, .ref x)] := hl
  refine lv_aload_n hx hb dX11_town_0 rfl (lv_at hl 0 rfl) ?_
  refine va_get (D := g.1) (ci := 9) (v := .ref ta) (C := RX11) (T := TX11) (N := 10) hx hb hts izRX11 hown hK hP 0 rfl rfl 0 (by decide) (hts _ k510) (fun _ h9 => h9) rfl dX11_town_1 ?_
  refine lv_aload_n hx hb dX11_town_4 rfl (lv_at hl 0 rfl) ?_
  refine va_get (D := g.1) (ci := 9) (v := .ref ta) (C := RX11) (T := TX11) (N := 10) hx hb hts izRX11 hown hK hP 0 rfl rfl 0 (by decide) (hts _ k510) (fun _ h9 => h9) rfl dX11_town_5 ?_
  refine mcallV (g := g) (q0 := 0) (ci := 6) (As := []) (rest := [.ref ta]) St hK hT hA hP hD hS hl.1 [2] [0, 1, 3, 4, 5] rfl rfl rfl (c_useUp l g ta ab len knd beg nxt flt fb ) (cwV 0 hts (zgL (zl4 k557 k558 k559 k303) k294) rfl rfl rfl (by decide +kernel) ⟨Nat.le_of_ble_eq_true rfl, Nat.le_of_ble_eq_true rfl⟩) rfl rfl rfl rfl (Nat.le_of_ble_eq_true rfl) dX11_town_8 ⟨(Nat.le_of_ble_eq_true rfl), (Nat.le_of_ble_eq_true rfl)⟩ (fun _u H locs hq1 hP hD hS => ?_)
  have hP : va_P g.1 vwCl (List.flatten [bDR g x ta o lo go tt lt mo fo ro fl9, bTown g o a 0 0 0 ch jo tr dy sd f, [(tt, .inr (8, [.ref ta, .ref td]))], bTown g td a2 pe2 wo2 tx2 ch2 jo2 tr2 dy2 sd2 f2, bMem g mo qT qL it il ig mh me mx fT fL, bTape g ta ab 0 len knd beg nxt flt fb]) H := hP
  have hD : va_D A (List.flatten [bDR g x ta o lo go tt lt mo fo ro fl9, bTown g o a 0 0 0 ch jo tr dy sd f, [(tt, .inr (8, [.ref ta, .ref td]))], bTown g td a2 pe2 wo2 tx2 ch2 jo2 tr2 dy2 sd2 f2, bMem g mo qT qL it il ig mh me mx fT fL, bTape g ta ab 0 len knd beg nxt flt fb]) := hD
  refine W.widen (k := 0) (n := 0) (Nat.le_of_ble_eq_true rfl) (Nat.le_of_ble_eq_true rfl) ?_
  refine W.eq (g2 := F0 m 11 ls [.int 0, .ref ta]) rfl ?_
  refine mcallV (g := g) (q0 := 0) (ci := 6) (As := [.int 0]) (rest := []) St hK hT hA hP hD hS hl.1 [5] [0, 1, 2, 3, 4] rfl rfl rfl (c_open0 l g ta ab len knd beg nxt flt fb ) (cwV 1 hts (zgL (zl4 k560 k561 k562 k303) k298) rfl rfl rfl (by decide +kernel) ⟨Nat.le_of_ble_eq_true rfl, Nat.le_of_ble_eq_true rfl⟩) rfl rfl rfl rfl (Nat.le_of_ble_eq_true rfl) dX11_town_11 ⟨(Nat.le_of_ble_eq_true rfl), (Nat.le_of_ble_eq_true rfl)⟩ (fun _u H locs hq2 hP hD hS => ?_)
  have hP : va_P g.1 vwCl (List.flatten [bDR g x ta o lo go tt lt mo fo ro fl9, bTown g o a 0 0 0 ch jo tr dy sd f, [(tt, .inr (8, [.ref ta, .ref td]))], bTown g td a2 pe2 wo2 tx2 ch2 jo2 tr2 dy2 sd2 f2, bMem g mo qT qL it il ig mh me mx fT fL, bTape g ta ab 0 0 0 0 0 (-1) fb]) H := hP
  have hD : va_D A (List.flatten [bDR g x ta o lo go tt lt mo fo ro fl9, bTown g o a 0 0 0 ch jo tr dy sd f, [(tt, .inr (8, [.ref ta, .ref td]))], bTown g td a2 pe2 wo2 tx2 ch2 jo2 tr2 dy2 sd2 f2, bMem g mo qT qL it il ig mh me mx fT fL, bTape g ta ab 0 0 0 0 0 (-1) fb]) := hD
  refine W.widen (k := 0) (n := 0) (Nat.le_of_ble_eq_true rfl) (Nat.le_of_ble_eq_true rfl) ?_
  refine W.eq (g2 := F0 m 14 ls []) rfl ?_
  refine lv_aload_n hx hb dX11_town_14 rfl (lv_at hl 0 rfl) ?_
  refine va_get (D := g.1) (ci := 9) (v := .ref tt) (C := RX11) (T := TX11) (N := 10) hx hb hts izRX11 hown hK hP 0 rfl rfl 4 (by decide) (hts _ k519) (fun _ h9 => h9) rfl dX11_town_15 ?_
  refine va_get (D := g.1) (ci := 8) (v := .ref td) (C := RX10) (T := TX10) (N := 2) hx hb hts izRX10 hown hK hP 13 rfl rfl 1 (by decide) (hts _ k554) (fun _ h9 => h9) rfl dX11_town_18 ?_
  refine lv_aload_n hx hb dX11_town_21 rfl (lv_at hl 0 rfl) ?_
  refine va_get (D := g.1) (ci := 9) (v := .ref o) (C := RX11) (T := TX11) (N := 10) hx hb hts izRX11 hown hK hP 0 rfl rfl 1 (by decide) (hts _ k512) (fun _ h9 => h9) rfl dX11_town_22 ?_
  refine mcallV (g := g) (q0 := 0) (ci := 7) (As := [.ref o]) (rest := []) St hK hT hA hP hD hS hl.1 [3, 1] [0, 2, 4, 5] rfl rfl rfl (c_Town_copyFrom l g td a2 pe2 wo2 tx2 ch2 jo2 tr2 dy2 sd2 f2 o a 0 0 0 ch jo tr dy sd f (by assumption)) (cwV 1 hts (zgL (zl4 k563 k157 k158 k24) k30) rfl rfl rfl (by decide +kernel) ⟨Nat.le_of_ble_eq_true rfl, Nat.le_of_ble_eq_true rfl⟩) rfl rfl rfl rfl (Nat.le_of_ble_eq_true rfl) dX11_town_25 ⟨(Nat.le_of_ble_eq_true rfl), (Nat.le_of_ble_eq_true rfl)⟩ (fun h_3 H locs hq4 hP hD hS => ?_)
  have hq4 : zZ (h_3 4) := hq4
  have hP : va_P g.1 vwCl (List.flatten [bDR g x ta o lo go tt lt mo fo ro fl9, [(tt, .inr (8, [.ref ta, .ref td]))], bMem g mo qT qL it il ig mh me mx fT fL, bTape g ta ab 0 0 0 0 0 (-1) fb, bTown g td a2 0 0 0 ch jo tr dy sd h_3, bTown g o a 0 0 0 ch jo tr dy sd f]) H := hP
  have hD : va_D A (List.flatten [bDR g x ta o lo go tt lt mo fo ro fl9, [(tt, .inr (8, [.ref ta, .ref td]))], bMem g mo qT qL it il ig mh me mx fT fL, bTape g ta ab 0 0 0 0 0 (-1) fb, bTown g td a2 0 0 0 ch jo tr dy sd h_3, bTown g o a 0 0 0 ch jo tr dy sd f]) := hD
  refine W.widen (k := 0) (n := 0) (Nat.le_of_ble_eq_true rfl) (Nat.le_of_ble_eq_true rfl) ?_
  refine W.eq (g2 := F0 m 28 ls []) rfl ?_
  refine lv_aload_n hx hb dX11_town_28 rfl (lv_at hl 0 rfl) ?_
  refine va_get (D := g.1) (ci := 9) (v := .ref tt) (C := RX11) (T := TX11) (N := 10) hx hb hts izRX11 hown hK hP 0 rfl rfl 4 (by decide) (hts _ k519) (fun _ h9 => h9) rfl dX11_town_29 ?_
  refine lv_bipush (v := 14) hx hb dX11_town_32 (by decide) ?_
  refine mcallU (g := g) (q0 := 0) (ci := 8) (As := [.int 14]) (rest := []) St hK hT hA hP hD hS hl.1 [1, 3] [0, 2, 4, 5] rfl rfl rfl (c_readLinesT l g tt ta td ab 14 0 0 0 0 (-1) fb ) (va_cwU (x := ⟨"DryRiver$TownText", "readLines", "(I)I"⟩) 1 hts (zgL (zl5 k564 k565 k566 k567 k209) k477) rfl rfl rfl rfl (by decide +kernel) ⟨Nat.le_of_ble_eq_true rfl, Nat.le_of_ble_eq_true rfl⟩) rfl rfl rfl rfl (Nat.le_of_ble_eq_true rfl) dX11_town_34 ⟨(Nat.le_of_ble_eq_true rfl), (Nat.le_of_ble_eq_true rfl)⟩ (fun _u H locs hq5 hP hD hS => ?_)
  have hP : va_P g.1 vwCl (List.flatten [bDR g x ta o lo go tt lt mo fo ro fl9, bMem g mo qT qL it il ig mh me mx fT fL, bTown g td a2 0 0 0 ch jo tr dy sd h_3, bTown g o a 0 0 0 ch jo tr dy sd f, [(tt, .inr (8, [.ref ta, .ref td]))], bTape g ta ab 0 0 0 0 0 (-1) fb]) H := hP
  have hD : va_D A (List.flatten [bDR g x ta o lo go tt lt mo fo ro fl9, bMem g mo qT qL it il ig mh me mx fT fL, bTown g td a2 0 0 0 ch jo tr dy sd h_3, bTown g o a 0 0 0 ch jo tr dy sd f, [(tt, .inr (8, [.ref ta, .ref td]))], bTape g ta ab 0 0 0 0 0 (-1) fb]) := hD
  refine W.widen (k := 0) (n := 0) (Nat.le_of_ble_eq_true rfl) (Nat.le_of_ble_eq_true rfl) ?_
  refine W.eq (g2 := F0 m 37 ls [.int 0]) rfl ?_
  refine lv_istore_n (lv' := [(1, .int 0), (0, .ref x)]) hx hb dX11_town_37 rfl hl (by decide) rfl (fun ls hl => ?_)
  refine lv_aload_n hx hb dX11_town_38 rfl (lv_at hl 1 rfl) ?_
  refine lv_aload_n hx hb dX11_town_39 rfl (lv_at hl 1 rfl) ?_
  refine va_get (D := g.1) (ci := 9) (v := .ref ta) (C := RX11) (T := TX11) (N := 10) hx hb hts izRX11 hown hK hP 0 rfl rfl 0 (by decide) (hts _ k510) (fun _ h9 => h9) rfl dX11_town_40 ?_
  refine va_get (D := g.1) (ci := 6) (v := .int (-1)) (C := RX6) (T := TX6) (N := 7) hx hb hts izRX6 hown hK hP 29 rfl rfl 6 (by decide) (hts _ k555) (fun _ h9 => h9) rfl dX11_town_43 ?_
  refine va_put (D := g.1) (ci := 9) (v := .int (-1)) (ty := .int) (C := RX11) (T := TX11) (N := 10) hx hb hts izRX11 tyX11 tyX11_ok nmX11 hown hK hP hD hS 0 rfl rfl 9 (by decide) (hts _ k532) (fun _ h9 => h9) rfl (by decide +kernel) rfl rfl (Nat.le_of_ble_eq_true rfl) dX11_town_46 (fun H locs hP hD hS => ?_)
  have hP : va_P g.1 vwCl (List.flatten [[(x, .inr (9, [.ref ta, .ref o, .ref lo, .ref go, .ref tt, .ref lt, .ref mo, .ref fo, .ref ro, .int (-1)]))], bMem g mo qT qL it il ig mh me mx fT fL, bTown g td a2 0 0 0 ch jo tr dy sd h_3, bTown g o a 0 0 0 ch jo tr dy sd f, [(tt, .inr (8, [.ref ta, .ref td]))], bTape g ta ab 0 0 0 0 0 (-1) fb]) H := hP
  have hD : va_D A (List.flatten [[(x, .inr (9, [.ref ta, .ref o, .ref lo, .ref go, .ref tt, .ref lt, .ref mo, .ref fo, .ref ro, .int (-1)]))], bMem g mo qT qL it il ig mh me mx fT fL, bTown g td a2 0 0 0 ch jo tr dy sd h_3, bTown g o a 0 0 0 ch jo tr dy sd f, [(tt, .inr (8, [.ref ta, .ref td]))], bTape g ta ab 0 0 0 0 0 (-1) fb]) := hD
  refine lv_iload_n hx hb dX11_town_49 rfl (lv_at hl 0 rfl) ?_
  refine lv_iconst (v := (-1)) hx hb dX11_town_50 (by decide) ?_
  refine lv_icmp_ne (tgt := 64) hx hb dX11_town_51 (by decide) (fun _ => ?_) (fun c6 => absurd c6 (by decide))
  refine lv_aload_n hx hb dX11_town_64 rfl (lv_at hl 1 rfl) ?_
  refine va_get (D := g.1) (ci := 9) (v := .ref o) (C := RX11) (T := TX11) (N := 10) hx hb hts izRX11 hown hK hP 0 rfl rfl 1 (by decide) (hts _ k512) (fun _ h9 => h9) rfl dX11_town_65 ?_
  refine va_get (D := g.1) (ci := 7) (v := .int 0) (C := RX9) (T := TX9) (N := 19) hx hb hts izRX9 hown hK hP 16 rfl rfl 2 (by decide) (hts _ k556) (fun _ h9 => h9) rfl dX11_town_68 ?_
  refine lv_bipush (v := 12) hx hb dX11_town_71 (by decide) ?_
  refine lv_icmp_lt (tgt := 86) hx hb dX11_town_73 (by decide) (fun _ => ?_) (fun c7 => absurd (by decide) c7)
  refine lv_aload_n hx hb dX11_town_86 rfl (lv_at hl 1 rfl) ?_
  refine va_get (D := g.1) (ci := 9) (v := .ref o) (C := RX11) (T := TX11) (N := 10) hx hb hts izRX11 hown hK hP 0 rfl rfl 1 (by decide) (hts _ k512) (fun _ h9 => h9) rfl dX11_town_87 ?_
  refine lv_aload_n hx hb dX11_town_90 rfl (lv_at hl 1 rfl) ?_
  refine va_get (D := g.1) (ci := 9) (v := .ref tt) (C := RX11) (T := TX11) (N := 10) hx hb hts izRX11 hown hK hP 0 rfl rfl 4 (by decide) (hts _ k519) (fun _ h9 => h9) rfl dX11_town_91 ?_
  refine va_get (D := g.1) (ci := 8) (v := .ref td) (C := RX10) (T := TX10) (N := 2) hx hb hts izRX10 hown hK hP 28 rfl rfl 1 (by decide) (hts _ k554) (fun _ h9 => h9) rfl dX11_town_94 ?_
  refine mcallV (g := g) (q0 := 0) (ci := 7) (As := [.ref td]) (rest := []) St hK hT hA hP hD hS hl.1 [3, 2] [0, 1, 4, 5] rfl rfl rfl (c_Town_copyFrom l g o a 0 0 0 ch jo tr dy sd f td a2 0 0 0 ch jo tr dy sd h_3 (by assumption)) (cwV 1 hts (zgL (zl4 k563 k157 k158 k24) k30) rfl rfl rfl (by decide +kernel) ⟨Nat.le_of_ble_eq_true rfl, Nat.le_of_ble_eq_true rfl⟩) rfl rfl rfl rfl (Nat.le_of_ble_eq_true rfl) dX11_town_97 ⟨(Nat.le_of_ble_eq_true rfl), (Nat.le_of_ble_eq_true rfl)⟩ (fun h_8 H locs hq9 hP hD hS => ?_)
  have hq9 : zZ (h_8 4) := hq9
  have hP : va_P g.1 vwCl (List.flatten [[(x, .inr (9, [.ref ta, .ref o, .ref lo, .ref go, .ref tt, .ref lt, .ref mo, .ref fo, .ref ro, .int (-1)]))], bMem g mo qT qL it il ig mh me mx fT fL, [(tt, .inr (8, [.ref ta, .ref td]))], bTape g ta ab 0 0 0 0 0 (-1) fb, bTown g o a 0 0 0 ch jo tr dy sd h_8, bTown g td a2 0 0 0 ch jo tr dy sd h_3]) H := hP
  have hD : va_D A (List.flatten [[(x, .inr (9, [.ref ta, .ref o, .ref lo, .ref go, .ref tt, .ref lt, .ref mo, .ref fo, .ref ro, .int (-1)]))], bMem g mo qT qL it il ig mh me mx fT fL, [(tt, .inr (8, [.ref ta, .ref td]))], bTape g ta ab 0 0 0 0 0 (-1) fb, bTown g o a 0 0 0 ch jo tr dy sd h_8, bTown g td a2 0 0 0 ch jo tr dy sd h_3]) := hD
  refine W.widen (k := 0) (n := 0) (Nat.le_of_ble_eq_true rfl) (Nat.le_of_ble_eq_true rfl) ?_
  refine W.eq (g2 := F0 m 100 ls []) rfl ?_
  refine lv_aload_n hx hb dX11_town_100 rfl (lv_at hl 1 rfl) ?_
  refine va_get (D := g.1) (ci := 9) (v := .ref o) (C := RX11) (T := TX11) (N := 10) hx hb hts izRX11 hown hK hP 0 rfl rfl 1 (by decide) (hts _ k512) (fun _ h9 => h9) rfl dX11_town_101 ?_
  refine lv_dup hx hb dX11_town_104 rfl ?_
  refine va_get (D := g.1) (ci := 7) (v := .int 0) (C := RX9) (T := TX9) (N := 19) hx hb hts izRX9 hown hK hP 7 rfl rfl 2 (by decide) (hts _ k556) (fun _ h9 => h9) rfl dX11_town_105 ?_
  refine lv_iconst (v := 1) hx hb dX11_town_108 (by decide) ?_
  refine lv_iadd hx hb dX11_town_109 ?_
  refine ztop (r := 1) (by decide) ?_
  refine va_put (D := g.1) (ci := 7) (v := .int 1) (ty := .int) (C := RX9) (T := TX9) (N := 19) hx hb hts izRX9 tyX9 tyX9_ok nmX9 hown hK hP hD hS 7 rfl rfl 2 (by decide) (hts _ k556) (fun _ h9 => h9) rfl (by decide +kernel) rfl rfl (Nat.le_of_ble_eq_true rfl) dX11_town_110 (fun H locs hP hD hS => ?_)
  have hP : va_P g.1 vwCl (List.flatten [[(x, .inr (9, [.ref ta, .ref o, .ref lo, .ref go, .ref tt, .ref lt, .ref mo, .ref fo, .ref ro, .int (-1)]))], bMem g mo qT qL it il ig mh me mx fT fL, [(tt, .inr (8, [.ref ta, .ref td]))], bTape g ta ab 0 0 0 0 0 (-1) fb, [(o, .inr (7, [.int 0, .int 0, .int 1, .int ch, .int jo, .int tr, .int dy, .int sd, .ref (a 0), .ref (a 1), .ref (a 2), .ref (a 3), .ref (a 4), .ref (a 5), .ref (a 6), .ref (a 7), .ref (a 8), .ref (a 9), .ref (a 10)])), (a 0, .inl (g.2 0, 8, .inl (h_8 0))), (a 1, .inl (g.2 0, 8, .inl (h_8 1))), (a 2, .inl (g.2 0, 8, .inl (h_8 2))), (a 3, .inl (g.2 0, 8, .inl (h_8 3))), (a 4, .inl (g.2 1, 8, .inl (h_8 4))), (a 5, .inl (g.2 0, 64, .inl (h_8 5))), (a 6, .inl (g.2 0, 6, .inl (h_8 6))), (a 7, .inl (g.2 0, 6, .inl (h_8 7))), (a 8, .inl (g.2 0, 6, .inl (h_8 8))), (a 9, .inl (g.2 0, 6, .inl (h_8 9))), (a 10, .inl (g.2 0, 8, .inl (h_8 10)))], bTown g td a2 0 0 0 ch jo tr dy sd h_3]) H := hP
  have hD : va_D A (List.flatten [[(x, .inr (9, [.ref ta, .ref o, .ref lo, .ref go, .ref tt, .ref lt, .ref mo, .ref fo, .ref ro, .int (-1)]))], bMem g mo qT qL it il ig mh me mx fT fL, [(tt, .inr (8, [.ref ta, .ref td]))], bTape g ta ab 0 0 0 0 0 (-1) fb, [(o, .inr (7, [.int 0, .int 0, .int 1, .int ch, .int jo, .int tr, .int dy, .int sd, .ref (a 0), .ref (a 1), .ref (a 2), .ref (a 3), .ref (a 4), .ref (a 5), .ref (a 6), .ref (a 7), .ref (a 8), .ref (a 9), .ref (a 10)])), (a 0, .inl (g.2 0, 8, .inl (h_8 0))), (a 1, .inl (g.2 0, 8, .inl (h_8 1))), (a 2, .inl (g.2 0, 8, .inl (h_8 2))), (a 3, .inl (g.2 0, 8, .inl (h_8 3))), (a 4, .inl (g.2 1, 8, .inl (h_8 4))), (a 5, .inl (g.2 0, 64, .inl (h_8 5))), (a 6, .inl (g.2 0, 6, .inl (h_8 6))), (a 7, .inl (g.2 0, 6, .inl (h_8 7))), (a 8, .inl (g.2 0, 6, .inl (h_8 8))), (a 9, .inl (g.2 0, 6, .inl (h_8 9))), (a 10, .inl (g.2 0, 8, .inl (h_8 10)))], bTown g td a2 0 0 0 ch jo tr dy sd h_3]) := hD
  refine lv_aload_n hx hb dX11_town_113 rfl (lv_at hl 1 rfl) ?_
  refine va_get (D := g.1) (ci := 9) (v := .ref mo) (C := RX11) (T := TX11) (N := 10) hx hb hts izRX11 hown hK hP 0 rfl rfl 6 (by decide) (hts _ k525) (fun _ h9 => h9) rfl dX11_town_114 ?_
  refine mcallV (g := g) (q0 := 0) (ci := 4) (As := []) (rest := []) St hK hT hA hP hD hS hl.1 [1] [0, 2, 3, 4, 5] rfl rfl rfl (c_forget l g mo qT qL it il ig mh me mx fT fL ) (cwV 0 hts (zgL (zl4 k568 k255 k256 k257) k238) rfl rfl rfl (by decide +kernel) ⟨Nat.le_of_ble_eq_true rfl, Nat.le_of_ble_eq_true rfl⟩) rfl rfl rfl rfl (Nat.le_of_ble_eq_true rfl) dX11_town_117 ⟨(Nat.le_of_ble_eq_true rfl), (Nat.le_of_ble_eq_true rfl)⟩ (fun _u H locs hq10 hP hD hS => ?_)
  have hP : va_P g.1 vwCl (List.flatten [[(x, .inr (9, [.ref ta, .ref o, .ref lo, .ref go, .ref tt, .ref lt, .ref mo, .ref fo, .ref ro, .int (-1)]))], [(tt, .inr (8, [.ref ta, .ref td]))], bTape g ta ab 0 0 0 0 0 (-1) fb, [(o, .inr (7, [.int 0, .int 0, .int 1, .int ch, .int jo, .int tr, .int dy, .int sd, .ref (a 0), .ref (a 1), .ref (a 2), .ref (a 3), .ref (a 4), .ref (a 5), .ref (a 6), .ref (a 7), .ref (a 8), .ref (a 9), .ref (a 10)])), (a 0, .inl (g.2 0, 8, .inl (h_8 0))), (a 1, .inl (g.2 0, 8, .inl (h_8 1))), (a 2, .inl (g.2 0, 8, .inl (h_8 2))), (a 3, .inl (g.2 0, 8, .inl (h_8 3))), (a 4, .inl (g.2 1, 8, .inl (h_8 4))), (a 5, .inl (g.2 0, 64, .inl (h_8 5))), (a 6, .inl (g.2 0, 6, .inl (h_8 6))), (a 7, .inl (g.2 0, 6, .inl (h_8 7))), (a 8, .inl (g.2 0, 6, .inl (h_8 8))), (a 9, .inl (g.2 0, 6, .inl (h_8 9))), (a 10, .inl (g.2 0, 8, .inl (h_8 10)))], bTown g td a2 0 0 0 ch jo tr dy sd h_3, bMem g mo qT qL it il ig mh 0 mx fT fL]) H := hP
  have hD : va_D A (List.flatten [[(x, .inr (9, [.ref ta, .ref o, .ref lo, .ref go, .ref tt, .ref lt, .ref mo, .ref fo, .ref ro, .int (-1)]))], [(tt, .inr (8, [.ref ta, .ref td]))], bTape g ta ab 0 0 0 0 0 (-1) fb, [(o, .inr (7, [.int 0, .int 0, .int 1, .int ch, .int jo, .int tr, .int dy, .int sd, .ref (a 0), .ref (a 1), .ref (a 2), .ref (a 3), .ref (a 4), .ref (a 5), .ref (a 6), .ref (a 7), .ref (a 8), .ref (a 9), .ref (a 10)])), (a 0, .inl (g.2 0, 8, .inl (h_8 0))), (a 1, .inl (g.2 0, 8, .inl (h_8 1))), (a 2, .inl (g.2 0, 8, .inl (h_8 2))), (a 3, .inl (g.2 0, 8, .inl (h_8 3))), (a 4, .inl (g.2 1, 8, .inl (h_8 4))), (a 5, .inl (g.2 0, 64, .inl (h_8 5))), (a 6, .inl (g.2 0, 6, .inl (h_8 6))), (a 7, .inl (g.2 0, 6, .inl (h_8 7))), (a 8, .inl (g.2 0, 6, .inl (h_8 8))), (a 9, .inl (g.2 0, 6, .inl (h_8 9))), (a 10, .inl (g.2 0, 8, .inl (h_8 10)))], bTown g td a2 0 0 0 ch jo tr dy sd h_3, bMem g mo qT qL it il ig mh 0 mx fT fL]) := hD
  refine W.widen (k := 0) (n := 0) (Nat.le_of_ble_eq_true rfl) (Nat.le_of_ble_eq_true rfl) ?_
  refine W.eq (g2 := F0 m 120 ls []) rfl ?_
  refine lv_aload_n hx hb dX11_town_120 rfl (lv_at hl 1 rfl) ?_
  refine va_get (D := g.1) (ci := 9) (v := .ref o) (C := RX11) (T := TX11) (N := 10) hx hb hts izRX11 hown hK hP 0 rfl rfl 1 (by decide) (hts _ k512) (fun _ h9 => h9) rfl dX11_town_121 ?_
  refine va_get (D := g.1) (ci := 7) (v := .int 1) (C := RX9) (T := TX9) (N := 19) hx hb hts izRX9 hown hK hP 4 rfl rfl 2 (by decide) (hts _ k556) (fun _ h9 => h9) rfl dX11_town_124 ?_
  have hP : va_P g.1 vwCl (List.flatten [[(x, .inr (9, [.ref ta, .ref o, .ref lo, .ref go, .ref tt, .ref lt, .ref mo, .ref fo, .ref ro, .int (-1)]))], [(tt, .inr (8, [.ref ta, .ref td]))], bTape g ta ab 0 0 0 0 0 (-1) fb, [(o, .inr (7, [.int 0, .int 0, .int 1, .int ch, .int jo, .int tr, .int dy, .int sd, .ref (a 0), .ref (a 1), .ref (a 2), .ref (a 3), .ref (a 4), .ref (a 5), .ref (a 6), .ref (a 7), .ref (a 8), .ref (a 9), .ref (a 10)])), (a 0, .inl (g.2 0, 8, .inl (h_8 0))), (a 1, .inl (g.2 0, 8, .inl (h_8 1))), (a 2, .inl (g.2 0, 8, .inl (h_8 2))), (a 3, .inl (g.2 0, 8, .inl (h_8 3))), (a 4, .inl (g.2 1, 8, .inl (h_8 4))), (a 5, .inl (g.2 0, 64, .inl (h_8 5))), (a 6, .inl (g.2 0, 6, .inl (h_8 6))), (a 7, .inl (g.2 0, 6, .inl (h_8 7))), (a 8, .inl (g.2 0, 6, .inl (h_8 8))), (a 9, .inl (g.2 0, 6, .inl (h_8 9))), (a 10, .inl (g.2 0, 8, .inl (h_8 10)))], bTown g td a2 0 0 0 ch jo tr dy sd h_3, bMem g mo qT qL it il ig mh 0 mx fT fL]) H := hP
  have hD : va_D A (List.flatten [[(x, .inr (9, [.ref ta, .ref o, .ref lo, .ref go, .ref tt, .ref lt, .ref mo, .ref fo, .ref ro, .int (-1)]))], [(tt, .inr (8, [.ref ta, .ref td]))], bTape g ta ab 0 0 0 0 0 (-1) fb, [(o, .inr (7, [.int 0, .int 0, .int 1, .int ch, .int jo, .int tr, .int dy, .int sd, .ref (a 0), .ref (a 1), .ref (a 2), .ref (a 3), .ref (a 4), .ref (a 5), .ref (a 6), .ref (a 7), .ref (a 8), .ref (a 9), .ref (a 10)])), (a 0, .inl (g.2 0, 8, .inl (h_8 0))), (a 1, .inl (g.2 0, 8, .inl (h_8 1))), (a 2, .inl (g.2 0, 8, .inl (h_8 2))), (a 3, .inl (g.2 0, 8, .inl (h_8 3))), (a 4, .inl (g.2 1, 8, .inl (h_8 4))), (a 5, .inl (g.2 0, 64, .inl (h_8 5))), (a 6, .inl (g.2 0, 6, .inl (h_8 6))), (a 7, .inl (g.2 0, 6, .inl (h_8 7))), (a 8, .inl (g.2 0, 6, .inl (h_8 8))), (a 9, .inl (g.2 0, 6, .inl (h_8 9))), (a 10, .inl (g.2 0, 8, .inl (h_8 10)))], bTown g td a2 0 0 0 ch jo tr dy sd h_3, bMem g mo qT qL it il ig mh 0 mx fT fL]) := hD
  obtain ⟨hP, hD⟩ := zord (g := g) (Bs' := []) [] rfl rfl hP hD
  exact mret_i hx hb hr hlocks hS (Nat.le_of_ble_eq_true rfl) (Nat.le_of_ble_eq_true rfl) dX11_town_127 () rfl trivial hP hD
set_option maxRecDepth 100000 in
set_option maxHeartbeats 4000000 in
theorem c_law (l : Launch) (g : zG) (x : Nat) (ta : Nat) (o : Nat) (lo : Nat) (go : Nat) (tt : Nat) (lt : Nat) (mo : Nat) (fo : Nat) (ro : Nat) (fl9 : Int32) (a : Nat → Nat) (tx : Int32) (ch : Int32) (jo : Int32) (tr : Int32) (dy : Int32) (sd : Int32) (f : Nat → Nat → Int32) (ac : Nat) (ls0 : Int32) (ll : Int32) (lm : Int32) (lg : Int32) (ld : Int32) (fc : Nat → Int32) (ab : Nat) (len : Int32) (knd : Int32) (beg : Int32) (nxt : Int32) (flt : Int32) (fb : Nat → Int32) (qT : Nat) (qL : Nat) (it : Nat) (il : Nat) (ig : Nat) (mh : Int32) (me : Int32) (mx : Int32) (fT : Nat → Option Nat) (fL : Nat → Option Nat) (ldr : Nat) (ac2 : Nat) (ls02 : Int32) (ll2 : Int32) (lm2 : Int32) (lg2 : Int32) (ld2 : Int32) (fc2 : Nat → Int32)  : zM g l yX11_law (Cond.code yX11_law cX11_law 2 (some .int) :: zB) ({ frames := 2, cells := 0, slots := 0, locals := 61 } : Room) [.ref x] [bDR g x ta o lo go tt lt mo fo ro fl9, bTown g o a 0 0 tx ch jo tr dy sd f, bTape g ta ab 0 len knd beg nxt flt fb, bLaw g lo ac ls0 ll lm lg ld fc, [(lt, .inr (2, [.ref ta, .ref ldr]))], bLaw g ldr ac2 ls02 ll2 lm2 lg2 ld2 fc2, bMem g mo qT qL it il ig mh me mx fT fL] (fun _ : Unit => some (.int 0)) (fun _ : Unit => True) (fun _ : Unit => []) := by
  refine zM.of (cc := cX11_law) (maxL := 2) (rt := (some .int)) (by decide) rfl (Nat.le_of_ble_eq_true rfl) ?_
  intro p e s m args below meth c A ls St hr hlocks hin hK hT hA hP hD hS hl
  obtain ⟨hx, hb, hml, hown, hts⟩ := id St
  have hl : lv_has ls 2 [(0, .ref x)] := hl
  refine lv_aload_n hx hb dX11_law_0 rfl (lv_at hl 0 rfl) ?_
  refine va_get (D := g.1) (ci := 9) (v := .ref ta) (C := RX11) (T := TX11) (N := 10) hx hb hts izRX11 hown hK hP 0 rfl rfl 0 (by decide) (hts _ k510) (fun _ h9 => h9) rfl dX11_law_1 ?_
  refine lv_aload_n hx hb dX11_law_4 rfl (lv_at hl 0 rfl) ?_
  refine va_get (D := g.1) (ci := 9) (v := .ref ta) (C := RX11) (T := TX11) (N := 10) hx hb hts izRX11 hown hK hP 0 rfl rfl 0 (by decide) (hts _ k510) (fun _ h9 => h9) rfl dX11_law_5 ?_
  refine mcallV (g := g) (q0 := 0) (ci := 6) (As := []) (rest := [.ref ta]) St hK hT hA hP hD hS hl.1 [2] [0, 1, 3, 4, 5, 6] rfl rfl rfl (c_useUp l g ta ab len knd beg nxt flt fb ) (cwV 0 hts (zgL (zl4 k557 k558 k559 k303) k294) rfl rfl rfl (by decide +kernel) ⟨Nat.le_of_ble_eq_true rfl, Nat.le_of_ble_eq_true rfl⟩) rfl rfl rfl rfl (Nat.le_of_ble_eq_true rfl) dX11_law_8 ⟨(Nat.le_of_ble_eq_true rfl), (Nat.le_of_ble_eq_true rfl)⟩ (fun _u H locs hq1 hP hD hS => ?_)
  have hP : va_P g.1 vwCl (List.flatten [bDR g x ta o lo go tt lt mo fo ro fl9, bTown g o a 0 0 tx ch jo tr dy sd f, bLaw g lo ac ls0 ll lm lg ld fc, [(lt, .inr (2, [.ref ta, .ref ldr]))], bLaw g ldr ac2 ls02 ll2 lm2 lg2 ld2 fc2, bMem g mo qT qL it il ig mh me mx fT fL, bTape g ta ab 0 len knd beg nxt flt fb]) H := hP
  have hD : va_D A (List.flatten [bDR g x ta o lo go tt lt mo fo ro fl9, bTown g o a 0 0 tx ch jo tr dy sd f, bLaw g lo ac ls0 ll lm lg ld fc, [(lt, .inr (2, [.ref ta, .ref ldr]))], bLaw g ldr ac2 ls02 ll2 lm2 lg2 ld2 fc2, bMem g mo qT qL it il ig mh me mx fT fL, bTape g ta ab 0 len knd beg nxt flt fb]) := hD
  refine W.widen (k := 0) (n := 0) (Nat.le_of_ble_eq_true rfl) (Nat.le_of_ble_eq_true rfl) ?_
  refine W.eq (g2 := F0 m 11 ls [.int 0, .ref ta]) rfl ?_
  refine mcallV (g := g) (q0 := 0) (ci := 6) (As := [.int 0]) (rest := []) St hK hT hA hP hD hS hl.1 [6] [0, 1, 2, 3, 4, 5] rfl rfl rfl (c_open0 l g ta ab len knd beg nxt flt fb ) (cwV 1 hts (zgL (zl4 k560 k561 k562 k303) k298) rfl rfl rfl (by decide +kernel) ⟨Nat.le_of_ble_eq_true rfl, Nat.le_of_ble_eq_true rfl⟩) rfl rfl rfl rfl (Nat.le_of_ble_eq_true rfl) dX11_law_11 ⟨(Nat.le_of_ble_eq_true rfl), (Nat.le_of_ble_eq_true rfl)⟩ (fun _u H locs hq2 hP hD hS => ?_)
  have hP : va_P g.1 vwCl (List.flatten [bDR g x ta o lo go tt lt mo fo ro fl9, bTown g o a 0 0 tx ch jo tr dy sd f, bLaw g lo ac ls0 ll lm lg ld fc, [(lt, .inr (2, [.ref ta, .ref ldr]))], bLaw g ldr ac2 ls02 ll2 lm2 lg2 ld2 fc2, bMem g mo qT qL it il ig mh me mx fT fL, bTape g ta ab 0 0 0 0 0 (-1) fb]) H := hP
  have hD : va_D A (List.flatten [bDR g x ta o lo go tt lt mo fo ro fl9, bTown g o a 0 0 tx ch jo tr dy sd f, bLaw g lo ac ls0 ll lm lg ld fc, [(lt, .inr (2, [.ref ta, .ref ldr]))], bLaw g ldr ac2 ls02 ll2 lm2 lg2 ld2 fc2, bMem g mo qT qL it il ig mh me mx fT fL, bTape g ta ab 0 0 0 0 0 (-1) fb]) := hD
  refine W.widen (k := 0) (n := 0) (Nat.le_of_ble_eq_true rfl) (Nat.le_of_ble_eq_true rfl) ?_
  refine W.eq (g2 := F0 m 14 ls []) rfl ?_
  refine lv_aload_n hx hb dX11_law_14 rfl (lv_at hl 0 rfl) ?_
  refine va_get (D := g.1) (ci := 9) (v := .ref lt) (C := RX11) (T := TX11) (N := 10) hx hb hts izRX11 hown hK hP 0 rfl rfl 5 (by decide) (hts _ k522) (fun _ h9 => h9) rfl dX11_law_15 ?_
  refine va_get (D := g.1) (ci := 2) (v := .ref ldr) (C := RX2) (T := TX2) (N := 2) hx hb hts izRX2 hown hK hP 15 rfl rfl 1 (by decide) (hts _ k570) (fun _ h9 => h9) rfl dX11_law_18 ?_
  refine mcallV (g := g) (q0 := 0) (ci := 1) (As := []) (rest := []) St hK hT hA hP hD hS hl.1 [4] [0, 1, 2, 3, 5, 6] rfl rfl rfl (c_Law_clear l g ldr ac2 ls02 ll2 lm2 lg2 ld2 fc2 ) (cwV 0 hts (zgL (zl4 k572 k573 k574 k73) k197) rfl rfl rfl (by decide +kernel) ⟨Nat.le_of_ble_eq_true rfl, Nat.le_of_ble_eq_true rfl⟩) rfl rfl rfl rfl (Nat.le_of_ble_eq_true rfl) dX11_law_21 ⟨(Nat.le_of_ble_eq_true rfl), (Nat.le_of_ble_eq_true rfl)⟩ (fun _u H locs hq3 hP hD hS => ?_)
  have hP : va_P g.1 vwCl (List.flatten [bDR g x ta o lo go tt lt mo fo ro fl9, bTown g o a 0 0 tx ch jo tr dy sd f, bLaw g lo ac ls0 ll lm lg ld fc, [(lt, .inr (2, [.ref ta, .ref ldr]))], bMem g mo qT qL it il ig mh me mx fT fL, bTape g ta ab 0 0 0 0 0 (-1) fb, bLaw g ldr ac2 0 (-1) lm2 lg2 ld2 fc2]) H := hP
  have hD : va_D A (List.flatten [bDR g x ta o lo go tt lt mo fo ro fl9, bTown g o a 0 0 tx ch jo tr dy sd f, bLaw g lo ac ls0 ll lm lg ld fc, [(lt, .inr (2, [.ref ta, .ref ldr]))], bMem g mo qT qL it il ig mh me mx fT fL, bTape g ta ab 0 0 0 0 0 (-1) fb, bLaw g ldr ac2 0 (-1) lm2 lg2 ld2 fc2]) := hD
  refine W.widen (k := 0) (n := 0) (Nat.le_of_ble_eq_true rfl) (Nat.le_of_ble_eq_true rfl) ?_
  refine W.eq (g2 := F0 m 24 ls []) rfl ?_
  refine lv_aload_n hx hb dX11_law_24 rfl (lv_at hl 0 rfl) ?_
  refine va_get (D := g.1) (ci := 9) (v := .ref lt) (C := RX11) (T := TX11) (N := 10) hx hb hts izRX11 hown hK hP 0 rfl rfl 5 (by decide) (hts _ k522) (fun _ h9 => h9) rfl dX11_law_25 ?_
  refine lv_bipush (v := 12) hx hb dX11_law_28 (by decide) ?_
  refine mcallU (g := g) (q0 := 0) (ci := 2) (As := [.int 12]) (rest := []) St hK hT hA hP hD hS hl.1 [3, 5] [0, 1, 2, 4, 6] rfl rfl rfl (c_readLinesL l g lt ta ldr ab 12 0 0 0 0 (-1) fb ) (va_cwU (x := ⟨"DryRiver$LawText", "readLines", "(I)I"⟩) 1 hts (zgL (zl5 k575 k576 k577 k567 k209) k477) rfl rfl rfl rfl (by decide +kernel) ⟨Nat.le_of_ble_eq_true rfl, Nat.le_of_ble_eq_true rfl⟩) rfl rfl rfl rfl (Nat.le_of_ble_eq_true rfl) dX11_law_30 ⟨(Nat.le_of_ble_eq_true rfl), (Nat.le_of_ble_eq_true rfl)⟩ (fun _u H locs hq4 hP hD hS => ?_)
  have hP : va_P g.1 vwCl (List.flatten [bDR g x ta o lo go tt lt mo fo ro fl9, bTown g o a 0 0 tx ch jo tr dy sd f, bLaw g lo ac ls0 ll lm lg ld fc, bMem g mo qT qL it il ig mh me mx fT fL, bLaw g ldr ac2 0 (-1) lm2 lg2 ld2 fc2, [(lt, .inr (2, [.ref ta, .ref ldr]))], bTape g ta ab 0 0 0 0 0 (-1) fb]) H := hP
  have hD : va_D A (List.flatten [bDR g x ta o lo go tt lt mo fo ro fl9, bTown g o a 0 0 tx ch jo tr dy sd f, bLaw g lo ac ls0 ll lm lg ld fc, bMem g mo qT qL it il ig mh me mx fT fL, bLaw g ldr ac2 0 (-1) lm2 lg2 ld2 fc2, [(lt, .inr (2, [.ref ta, .ref ldr]))], bTape g ta ab 0 0 0 0 0 (-1) fb]) := hD
  refine W.widen (k := 0) (n := 0) (Nat.le_of_ble_eq_true rfl) (Nat.le_of_ble_eq_true rfl) ?_
  refine W.eq (g2 := F0 m 33 ls [.int 0]) rfl ?_
  refine lv_istore_n (lv' := [(1, .int 0), (0, .ref x)]) hx hb dX11_law_33 rfl hl (by decide) rfl (fun ls hl => ?_)
  refine lv_aload_n hx hb dX11_law_34 rfl (lv_at hl 1 rfl) ?_
  refine lv_aload_n hx hb dX11_law_35 rfl (lv_at hl 1 rfl) ?_
  refine va_get (D := g.1) (ci := 9) (v := .ref ta) (C := RX11) (T := TX11) (N := 10) hx hb hts izRX11 hown hK hP 0 rfl rfl 0 (by decide) (hts _ k510) (fun _ h9 => h9) rfl dX11_law_36 ?_
  refine va_get (D := g.1) (ci := 6) (v := .int (-1)) (C := RX6) (T := TX6) (N := 7) hx hb hts izRX6 hown hK hP 21 rfl rfl 6 (by decide) (hts _ k555) (fun _ h9 => h9) rfl dX11_law_39 ?_
  refine va_put (D := g.1) (ci := 9) (v := .int (-1)) (ty := .int) (C := RX11) (T := TX11) (N := 10) hx hb hts izRX11 tyX11 tyX11_ok nmX11 hown hK hP hD hS 0 rfl rfl 9 (by decide) (hts _ k532) (fun _ h9 => h9) rfl (by decide +kernel) rfl rfl (Nat.le_of_ble_eq_true rfl) dX11_law_42 (fun H locs hP hD hS => ?_)
  have hP : va_P g.1 vwCl (List.flatten [[(x, .inr (9, [.ref ta, .ref o, .ref lo, .ref go, .ref tt, .ref lt, .ref mo, .ref fo, .ref ro, .int (-1)]))], bTown g o a 0 0 tx ch jo tr dy sd f, bLaw g lo ac ls0 ll lm lg ld fc, bMem g mo qT qL it il ig mh me mx fT fL, bLaw g ldr ac2 0 (-1) lm2 lg2 ld2 fc2, [(lt, .inr (2, [.ref ta, .ref ldr]))], bTape g ta ab 0 0 0 0 0 (-1) fb]) H := hP
  have hD : va_D A (List.flatten [[(x, .inr (9, [.ref ta, .ref o, .ref lo, .ref go, .ref tt, .ref lt, .ref mo, .ref fo, .ref ro, .int (-1)]))], bTown g o a 0 0 tx ch jo tr dy sd f, bLaw g lo ac ls0 ll lm lg ld fc, bMem g mo qT qL it il ig mh me mx fT fL, bLaw g ldr ac2 0 (-1) lm2 lg2 ld2 fc2, [(lt, .inr (2, [.ref ta, .ref ldr]))], bTape g ta ab 0 0 0 0 0 (-1) fb]) := hD
  refine lv_iload_n hx hb dX11_law_45 rfl (lv_at hl 0 rfl) ?_
  refine lv_iconst (v := (-1)) hx hb dX11_law_46 (by decide) ?_
  refine lv_icmp_ne (tgt := 60) hx hb dX11_law_47 (by decide) (fun _ => ?_) (fun c5 => absurd c5 (by decide))
  refine lv_aload_n hx hb dX11_law_60 rfl (lv_at hl 1 rfl) ?_
  refine va_get (D := g.1) (ci := 9) (v := .ref lt) (C := RX11) (T := TX11) (N := 10) hx hb hts izRX11 hown hK hP 0 rfl rfl 5 (by decide) (hts _ k522) (fun _ h9 => h9) rfl dX11_law_61 ?_
  refine va_get (D := g.1) (ci := 2) (v := .ref ldr) (C := RX2) (T := TX2) (N := 2) hx hb hts izRX2 hown hK hP 20 rfl rfl 1 (by decide) (hts _ k570) (fun _ h9 => h9) rfl dX11_law_64 ?_
  refine lv_iload_n hx hb dX11_law_67 rfl (lv_at hl 0 rfl) ?_
  refine va_put (D := g.1) (ci := 1) (v := .int 0) (ty := .int) (C := RX1) (T := TX1) (N := 6) hx hb hts izRX1 tyX1 tyX1_ok nmX1 hown hK hP hD hS 18 rfl rfl 2 (by decide) (hts _ k571) (fun _ h9 => h9) rfl (by decide +kernel) rfl rfl (Nat.le_of_ble_eq_true rfl) dX11_law_68 (fun H locs hP hD hS => ?_)
  have hP : va_P g.1 vwCl (List.flatten [[(x, .inr (9, [.ref ta, .ref o, .ref lo, .ref go, .ref tt, .ref lt, .ref mo, .ref fo, .ref ro, .int (-1)]))], bTown g o a 0 0 tx ch jo tr dy sd f, bLaw g lo ac ls0 ll lm lg ld fc, bMem g mo qT qL it il ig mh me mx fT fL, [(ldr, .inr (1, [.ref ac2, .int 0, .int 0, .int lm2, .int lg2, .int ld2])), (ac2, .inl (g.2 0, 400, .inl fc2))], [(lt, .inr (2, [.ref ta, .ref ldr]))], bTape g ta ab 0 0 0 0 0 (-1) fb]) H := hP
  have hD : va_D A (List.flatten [[(x, .inr (9, [.ref ta, .ref o, .ref lo, .ref go, .ref tt, .ref lt, .ref mo, .ref fo, .ref ro, .int (-1)]))], bTown g o a 0 0 tx ch jo tr dy sd f, bLaw g lo ac ls0 ll lm lg ld fc, bMem g mo qT qL it il ig mh me mx fT fL, [(ldr, .inr (1, [.ref ac2, .int 0, .int 0, .int lm2, .int lg2, .int ld2])), (ac2, .inl (g.2 0, 400, .inl fc2))], [(lt, .inr (2, [.ref ta, .ref ldr]))], bTape g ta ab 0 0 0 0 0 (-1) fb]) := hD
  refine lv_aload_n hx hb dX11_law_71 rfl (lv_at hl 1 rfl) ?_
  refine va_get (D := g.1) (ci := 9) (v := .ref lo) (C := RX11) (T := TX11) (N := 10) hx hb hts izRX11 hown hK hP 0 rfl rfl 2 (by decide) (hts _ k514) (fun _ h9 => h9) rfl dX11_law_72 ?_
  refine lv_aload_n hx hb dX11_law_75 rfl (lv_at hl 1 rfl) ?_
  refine va_get (D := g.1) (ci := 9) (v := .ref lt) (C := RX11) (T := TX11) (N := 10) hx hb hts izRX11 hown hK hP 0 rfl rfl 5 (by decide) (hts _ k522) (fun _ h9 => h9) rfl dX11_law_76 ?_
  refine va_get (D := g.1) (ci := 2) (v := .ref ldr) (C := RX2) (T := TX2) (N := 2) hx hb hts izRX2 hown hK hP 20 rfl rfl 1 (by decide) (hts _ k570) (fun _ h9 => h9) rfl dX11_law_79 ?_
  refine mcallV (g := g) (q0 := 0) (ci := 1) (As := [.ref ldr]) (rest := []) St hK hT hA hP hD hS hl.1 [2, 4] [0, 1, 3, 5, 6] rfl rfl rfl (c_Law_copyFrom l g lo ac ls0 ll lm lg ld fc ldr ac2 0 0 lm2 lg2 ld2 fc2 ) (cwV 1 hts (zgL (zl4 k578 k251 k252 k73) k198) rfl rfl rfl (by decide +kernel) ⟨Nat.le_of_ble_eq_true rfl, Nat.le_of_ble_eq_true rfl⟩) rfl rfl rfl rfl (Nat.le_of_ble_eq_true rfl) dX11_law_82 ⟨(Nat.le_of_ble_eq_true rfl), (Nat.le_of_ble_eq_true rfl)⟩ (fun h_6 H locs hq7 hP hD hS => ?_)
  have hP : va_P g.1 vwCl (List.flatten [[(x, .inr (9, [.ref ta, .ref o, .ref lo, .ref go, .ref tt, .ref lt, .ref mo, .ref fo, .ref ro, .int (-1)]))], bTown g o a 0 0 tx ch jo tr dy sd f, bMem g mo qT qL it il ig mh me mx fT fL, [(lt, .inr (2, [.ref ta, .ref ldr]))], bTape g ta ab 0 0 0 0 0 (-1) fb, bLaw g lo ac 0 0 lm lg ld h_6, bLaw g ldr ac2 0 0 lm2 lg2 ld2 fc2]) H := hP
  have hD : va_D A (List.flatten [[(x, .inr (9, [.ref ta, .ref o, .ref lo, .ref go, .ref tt, .ref lt, .ref mo, .ref fo, .ref ro, .int (-1)]))], bTown g o a 0 0 tx ch jo tr dy sd f, bMem g mo qT qL it il ig mh me mx fT fL, [(lt, .inr (2, [.ref ta, .ref ldr]))], bTape g ta ab 0 0 0 0 0 (-1) fb, bLaw g lo ac 0 0 lm lg ld h_6, bLaw g ldr ac2 0 0 lm2 lg2 ld2 fc2]) := hD
  refine W.widen (k := 0) (n := 0) (Nat.le_of_ble_eq_true rfl) (Nat.le_of_ble_eq_true rfl) ?_
  refine W.eq (g2 := F0 m 85 ls []) rfl ?_
  refine lv_aload_n hx hb dX11_law_85 rfl (lv_at hl 1 rfl) ?_
  refine va_get (D := g.1) (ci := 9) (v := .ref mo) (C := RX11) (T := TX11) (N := 10) hx hb hts izRX11 hown hK hP 0 rfl rfl 6 (by decide) (hts _ k525) (fun _ h9 => h9) rfl dX11_law_86 ?_
  refine mcallV (g := g) (q0 := 0) (ci := 4) (As := []) (rest := []) St hK hT hA hP hD hS hl.1 [2] [0, 1, 3, 4, 5, 6] rfl rfl rfl (c_forget l g mo qT qL it il ig mh me mx fT fL ) (cwV 0 hts (zgL (zl4 k568 k255 k256 k257) k238) rfl rfl rfl (by decide +kernel) ⟨Nat.le_of_ble_eq_true rfl, Nat.le_of_ble_eq_true rfl⟩) rfl rfl rfl rfl (Nat.le_of_ble_eq_true rfl) dX11_law_89 ⟨(Nat.le_of_ble_eq_true rfl), (Nat.le_of_ble_eq_true rfl)⟩ (fun _u H locs hq8 hP hD hS => ?_)
  have hP : va_P g.1 vwCl (List.flatten [[(x, .inr (9, [.ref ta, .ref o, .ref lo, .ref go, .ref tt, .ref lt, .ref mo, .ref fo, .ref ro, .int (-1)]))], bTown g o a 0 0 tx ch jo tr dy sd f, [(lt, .inr (2, [.ref ta, .ref ldr]))], bTape g ta ab 0 0 0 0 0 (-1) fb, bLaw g lo ac 0 0 lm lg ld h_6, bLaw g ldr ac2 0 0 lm2 lg2 ld2 fc2, bMem g mo qT qL it il ig mh 0 mx fT fL]) H := hP
  have hD : va_D A (List.flatten [[(x, .inr (9, [.ref ta, .ref o, .ref lo, .ref go, .ref tt, .ref lt, .ref mo, .ref fo, .ref ro, .int (-1)]))], bTown g o a 0 0 tx ch jo tr dy sd f, [(lt, .inr (2, [.ref ta, .ref ldr]))], bTape g ta ab 0 0 0 0 0 (-1) fb, bLaw g lo ac 0 0 lm lg ld h_6, bLaw g ldr ac2 0 0 lm2 lg2 ld2 fc2, bMem g mo qT qL it il ig mh 0 mx fT fL]) := hD
  refine W.widen (k := 0) (n := 0) (Nat.le_of_ble_eq_true rfl) (Nat.le_of_ble_eq_true rfl) ?_
  refine W.eq (g2 := F0 m 92 ls []) rfl ?_
  refine lv_iload_n hx hb dX11_law_92 rfl (lv_at hl 0 rfl) ?_
  have hP : va_P g.1 vwCl (List.flatten [[(x, .inr (9, [.ref ta, .ref o, .ref lo, .ref go, .ref tt, .ref lt, .ref mo, .ref fo, .ref ro, .int (-1)]))], bTown g o a 0 0 tx ch jo tr dy sd f, [(lt, .inr (2, [.ref ta, .ref ldr]))], bTape g ta ab 0 0 0 0 0 (-1) fb, bLaw g lo ac 0 0 lm lg ld h_6, bLaw g ldr ac2 0 0 lm2 lg2 ld2 fc2, bMem g mo qT qL it il ig mh 0 mx fT fL]) H := hP
  have hD : va_D A (List.flatten [[(x, .inr (9, [.ref ta, .ref o, .ref lo, .ref go, .ref tt, .ref lt, .ref mo, .ref fo, .ref ro, .int (-1)]))], bTown g o a 0 0 tx ch jo tr dy sd f, [(lt, .inr (2, [.ref ta, .ref ldr]))], bTape g ta ab 0 0 0 0 0 (-1) fb, bLaw g lo ac 0 0 lm lg ld h_6, bLaw g ldr ac2 0 0 lm2 lg2 ld2 fc2, bMem g mo qT qL it il ig mh 0 mx fT fL]) := hD
  obtain ⟨hP, hD⟩ := zord (g := g) (Bs' := []) [] rfl rfl hP hD
  exact mret_i hx hb hr hlocks hS (Nat.le_of_ble_eq_true rfl) (Nat.le_of_ble_eq_true rfl) dX11_law_93 () rfl trivial hP hD
set_option maxRecDepth 100000 in
set_option maxHeartbeats 4000000 in
theorem c_then (l : Launch) (hfl : l.stackTraces = false) (g : zG) (x : Nat) (ta : Nat) (o : Nat) (lo : Nat) (go : Nat) (tt : Nat) (lt : Nat) (mo : Nat) (fo : Nat) (ro : Nat) (fl9 : Int32) (a : Nat → Nat) (tx : Int32) (ch : Int32) (jo : Int32) (tr : Int32) (dy : Int32) (sd : Int32) (f : Nat → Nat → Int32) (ac : Nat) (ls0 : Int32) (ll : Int32) (lm : Int32) (lg : Int32) (ld : Int32) (fc : Nat → Int32) (od : Nat) (ad : Nat → Nat) (ped : Int32) (wod : Int32) (txd : Int32) (chd : Int32) (jod : Int32) (trd : Int32) (dyd : Int32) (sdd : Int32) (fd : Nat → Nat → Int32) (n : Int32) (c9 : Int32) (hz : zZ (f 4)) : zX g l yX11_then (Cond.code yX11_then cX11_then 4 (some .int) :: zB) ({ frames := 7, cells := 1, slots := 6, locals := 112 } : Room) [.ref x, .int n, .int c9] [bDR g x ta o lo go tt lt mo fo ro fl9, bTown g o a 0 0 tx ch jo tr dy sd f, [(fo, .inr (0, [.ref o, .ref lo, .ref od]))], bLaw g lo ac ls0 ll lm lg ld fc, bTown g od ad ped wod txd chd jod trd dyd sdd fd] (fun (q : Int32) => some (.int q)) (fun (q : Int32) => (¬ n < 0 ∧ ¬ 100 < n) ∧ q = if c9 = 0 then 0 else ch) (fun (q : Int32) => []) (fun (E : String) (_ : Unit) => E = "java/lang/IllegalArgumentException" ∧ (n < 0 ∨ 100 < n)) (fun _ : Unit => []) := by
  refine zX.of (cc := cX11_then) (maxL := 4) (rt := (some .int)) (by decide) rfl (Nat.le_of_ble_eq_true rfl) ?_
  intro p e s m args below meth c A ls St hr hlocks htab hin hK hT hA hP hD hS hl
  obtain ⟨hx, hb, hml, hown, hts⟩ := id St
  have hl : lv_has ls 4 [(0, .ref x), (1, .int n), (2, .int c9)] := hl
  refine lv_aload_n hx hb dX11_then_0 rfl (lv_at hl 0 rfl) ?_
  refine lv_iload_n hx hb dX11_then_1 rfl (lv_at hl 1 rfl) ?_
  refine lv_iconst (v := 0) hx hb dX11_then_2 (by decide) ?_
  refine lv_bipush (v := 100) hx hb dX11_then_3 (by decide) ?_
  refine xcallV (g := g) (q0 := 0) (ci := 9) (As := [.int n, .int 0, .int 100]) (rest := []) St hK hT hA hP hD hS hl.1 [0] [1, 2, 3, 4] rfl rfl rfl (c_nw_0_100 l hfl g x ta o lo go tt lt mo fo ro fl9 n ) (cwV 3 hts (zgL (zl4 k646 k647 k648 k595) k645) rfl rfl rfl (by decide +kernel) ⟨Nat.le_of_ble_eq_true rfl, Nat.le_of_ble_eq_true rfl⟩) rfl rfl rfl rfl (Nat.le_of_ble_eq_true rfl) dX11_then_5 ⟨(Nat.le_of_ble_eq_true rfl), (Nat.le_of_ble_eq_true rfl)⟩ (fun E ce q9 u9 H locs hpx hP hD hS hce hcv hcl => ?_) (fun _u H locs hq1 hP hD hS => ?_)
  · skip
    have hpx : (fun (E : String) (_ : Unit) => E = "java/lang/IllegalArgumentException" ∧ ((n : Int32) < 0 ∨ 100 < (n : Int32))) E u9 := hpx
    have hP : va_P g.1 vwCl (List.flatten [bTown g o a 0 0 tx ch jo tr dy sd f, [(fo, .inr (0, [.ref o, .ref lo, .ref od]))], bLaw g lo ac ls0 ll lm lg ld fc, bTown g od ad ped wod txd chd jod trd dyd sdd fd]) H := hP
    have hD : va_D A (List.flatten [bTown g o a 0 0 tx ch jo tr dy sd f, [(fo, .inr (0, [.ref o, .ref lo, .ref od]))], bLaw g lo ac ls0 ll lm lg ld fc, bTown g od ad ped wod txd chd jod trd dyd sdd fd]) := hD
    have hP : va_P g.1 vwCl (List.flatten [bTown g o a 0 0 tx ch jo tr dy sd f, [(fo, .inr (0, [.ref o, .ref lo, .ref od]))], bLaw g lo ac ls0 ll lm lg ld fc, bTown g od ad ped wod txd chd jod trd dyd sdd fd]) H := hP
    have hD : va_D A (List.flatten [bTown g o a 0 0 tx ch jo tr dy sd f, [(fo, .inr (0, [.ref o, .ref lo, .ref od]))], bLaw g lo ac ls0 ll lm lg ld fc, bTown g od ad ped wod txd chd jod trd dyd sdd fd]) := hD
    obtain ⟨hP, hD⟩ := zord (g := g) (Bs' := []) [] rfl rfl hP hD
    exact zout htab hlocks hS (Nat.le_of_ble_eq_true rfl) (Nat.le_of_ble_eq_true rfl) hce hcv hcl () hpx hP hD
  · skip
    have hq1 : ¬ (n : Int32) < 0 ∧ ¬ 100 < (n : Int32) := hq1
    have hP : va_P g.1 vwCl (List.flatten [bTown g o a 0 0 tx ch jo tr dy sd f, [(fo, .inr (0, [.ref o, .ref lo, .ref od]))], bLaw g lo ac ls0 ll lm lg ld fc, bTown g od ad ped wod txd chd jod trd dyd sdd fd, bDR g x ta o lo go tt lt mo fo ro fl9]) H := hP
    have hD : va_D A (List.flatten [bTown g o a 0 0 tx ch jo tr dy sd f, [(fo, .inr (0, [.ref o, .ref lo, .ref od]))], bLaw g lo ac ls0 ll lm lg ld fc, bTown g od ad ped wod txd chd jod trd dyd sdd fd, bDR g x ta o lo go tt lt mo fo ro fl9]) := hD
    refine W.widen (k := 1) (n := 6) (Nat.le_of_ble_eq_true rfl) (Nat.le_of_ble_eq_true rfl) ?_
    refine W.eq (g2 := F0 m 8 ls []) rfl ?_
    refine lv_aload_n hx hb dX11_then_8 rfl (lv_at hl 0 rfl) ?_
    refine va_get (D := g.1) (ci := 9) (v := .ref fo) (C := RX11) (T := TX11) (N := 10) hx hb hts izRX11 hown hK hP 27 rfl rfl 7 (by decide) (hts _ k528) (fun _ h9 => h9) rfl dX11_then_9 ?_
    refine lv_iconst (v := 0) hx hb dX11_then_12 (by decide) ?_
    refine lv_iconst (v := 0) hx hb dX11_then_13 (by decide) ?_
    refine lv_iload_n hx hb dX11_then_14 rfl (lv_at hl 1 rfl) ?_
    refine mcallV (g := g) (q0 := 0) (ci := 0) (As := [.int 0, .int 0, .int n]) (rest := []) St hK hT hA hP hD hS hl.1 [1, 0, 2, 3] [4] rfl rfl rfl (c_lookAhead l g fo o a tx ch jo tr dy sd f lo ac ls0 ll lm lg ld fc od ad ped wod txd chd jod trd dyd sdd fd 0 0 n (by assumption) (zrg100 hq1)) (cwV 3 hts (zgL (zl4 k663 k167 k168 k169) k164) rfl rfl rfl (by decide +kernel) ⟨Nat.le_of_ble_eq_true rfl, Nat.le_of_ble_eq_true rfl⟩) rfl rfl rfl rfl (Nat.le_of_ble_eq_true rfl) dX11_then_15 ⟨(Nat.le_of_ble_eq_true rfl), (Nat.le_of_ble_eq_true rfl)⟩ (fun u_ H locs hq7 hP hD hS => ?_)
    obtain ⟨dy3_2, h3_3, m3_4, g3_5, d3_6⟩ := u_
    have hP : va_P g.1 vwCl (List.flatten [bDR g x ta o lo go tt lt mo fo ro fl9, [(fo, .inr (0, [.ref o, .ref lo, .ref od]))], bTown g o a 0 0 tx ch jo tr dy sd f, bLaw g lo ac ls0 ll m3_4 g3_5 d3_6 fc, bTown g od ad 0 0 tx ch jo tr dy3_2 sd h3_3]) H := hP
    have hD : va_D A (List.flatten [bDR g x ta o lo go tt lt mo fo ro fl9, [(fo, .inr (0, [.ref o, .ref lo, .ref od]))], bTown g o a 0 0 tx ch jo tr dy sd f, bLaw g lo ac ls0 ll m3_4 g3_5 d3_6 fc, bTown g od ad 0 0 tx ch jo tr dy3_2 sd h3_3]) := hD
    refine W.widen (k := 1) (n := 6) (Nat.le_of_ble_eq_true rfl) (Nat.le_of_ble_eq_true rfl) ?_
    refine W.eq (g2 := F0 m 18 ls [.int 0]) rfl ?_
    refine lv_istore_n (lv' := [(3, .int 0), (0, .ref x), (1, .int n), (2, .int c9)]) hx hb dX11_then_18 rfl hl (by decide) rfl (fun ls hl => ?_)
    refine lv_iload_n hx hb dX11_then_19 rfl (lv_at hl 3 rfl) ?_
    refine lv_if_eq (tgt := 36) hx hb dX11_then_20 (by decide) (fun cB => ?_) (fun cB => ?_)
    · skip
      refine lv_iload_n hx hb dX11_then_36 rfl (lv_at hl 0 rfl) ?_
      have hP : va_P g.1 vwCl (List.flatten [bDR g x ta o lo go tt lt mo fo ro fl9, [(fo, .inr (0, [.ref o, .ref lo, .ref od]))], bTown g o a 0 0 tx ch jo tr dy sd f, bLaw g lo ac ls0 ll m3_4 g3_5 d3_6 fc, bTown g od ad 0 0 tx ch jo tr dy3_2 sd h3_3]) H := hP
      have hD : va_D A (List.flatten [bDR g x ta o lo go tt lt mo fo ro fl9, [(fo, .inr (0, [.ref o, .ref lo, .ref od]))], bTown g o a 0 0 tx ch jo tr dy sd f, bLaw g lo ac ls0 ll m3_4 g3_5 d3_6 fc, bTown g od ad 0 0 tx ch jo tr dy3_2 sd h3_3]) := hD
      obtain ⟨hP, hD⟩ := zord (g := g) (Bs' := []) [] rfl rfl hP hD
      exact zret_i hx hb hr hlocks hS (Nat.le_of_ble_eq_true rfl) (Nat.le_of_ble_eq_true rfl) dX11_then_37 (0) rfl (⟨hq1, (if_pos cB).symm⟩) hP hD
    · skip
      refine lv_aload_n hx hb dX11_then_23 rfl (lv_at hl 1 rfl) ?_
      refine va_get (D := g.1) (ci := 9) (v := .ref fo) (C := RX11) (T := TX11) (N := 10) hx hb hts izRX11 hown hK hP 0 rfl rfl 7 (by decide) (hts _ k528) (fun _ h9 => h9) rfl dX11_then_24 ?_
      refine va_get (D := g.1) (ci := 0) (v := .ref od) (C := RX0) (T := TX0) (N := 3) hx hb hts izRX0 hown hK hP 1 rfl rfl 2 (by decide) (hts _ k662) (fun _ h9 => h9) rfl dX11_then_27 ?_
      refine va_get (D := g.1) (ci := 7) (v := .int ch) (C := RX9) (T := TX9) (N := 19) hx hb hts izRX9 hown hK hP 16 rfl rfl 3 (by decide) (hts _ k655) (fun _ h9 => h9) rfl dX11_then_30 ?_
      refine lv_goto (tgt := 37) hx hb dX11_then_33 (by decide) ?_
      have hP : va_P g.1 vwCl (List.flatten [bDR g x ta o lo go tt lt mo fo ro fl9, [(fo, .inr (0, [.ref o, .ref lo, .ref od]))], bTown g o a 0 0 tx ch jo tr dy sd f, bLaw g lo ac ls0 ll m3_4 g3_5 d3_6 fc, bTown g od ad 0 0 tx ch jo tr dy3_2 sd h3_3]) H := hP
      have hD : va_D A (List.flatten [bDR g x ta o lo go tt lt mo fo ro fl9, [(fo, .inr (0, [.ref o, .ref lo, .ref od]))], bTown g o a 0 0 tx ch jo tr dy sd f, bLaw g lo ac ls0 ll m3_4 g3_5 d3_6 fc, bTown g od ad 0 0 tx ch jo tr dy3_2 sd h3_3]) := hD
      obtain ⟨hP, hD⟩ := zord (g := g) (Bs' := []) [] rfl rfl hP hD
      exact zret_i hx hb hr hlocks hS (Nat.le_of_ble_eq_true rfl) (Nat.le_of_ble_eq_true rfl) dX11_then_37 (ch) rfl (⟨hq1, (if_neg cB).symm⟩) hP hD
set_option maxRecDepth 100000 in
set_option maxHeartbeats 4000000 in
theorem c_guru (l : Launch) (hfl : l.stackTraces = false) (g : zG) (x : Nat) (ta : Nat) (o : Nat) (lo : Nat) (go : Nat) (tt : Nat) (lt : Nat) (mo : Nat) (fo : Nat) (ro : Nat) (fl9 : Int32) (a : Nat → Nat) (tx : Int32) (ch : Int32) (jo : Int32) (tr : Int32) (dy : Int32) (sd : Int32) (f : Nat → Nat → Int32) (ac : Nat) (ls0 : Int32) (ll : Int32) (lm : Int32) (lg : Int32) (ld : Int32) (fc : Nat → Int32) (od : Nat) (ad : Nat → Nat) (ped : Int32) (wod : Int32) (txd : Int32) (chd : Int32) (jod : Int32) (trd : Int32) (dyd : Int32) (sdd : Int32) (fd : Nat → Nat → Int32) (n : Int32) (hz : zZ (f 4)) : zX g l yX11_guru (Cond.code yX11_guru cX11_guru 2 (some .int) :: zB) ({ frames := 7, cells := 1, slots := 6, locals := 105 } : Room) [.ref x, .int n] [bDR g x ta o lo go tt lt mo fo ro fl9, bTown g o a 0 0 tx ch jo tr dy sd f, [(fo, .inr (0, [.ref o, .ref lo, .ref od]))], bLaw g lo ac ls0 ll lm lg ld fc, bTown g od ad ped wod txd chd jod trd dyd sdd fd] (fun _ : Unit => some (.int (-1))) (fun _ : Unit => ¬ n < 0 ∧ ¬ 30 < n) (fun _ : Unit => []) (fun (E : String) (_ : Unit) => E = "java/lang/IllegalArgumentException" ∧ (n < 0 ∨ 30 < n)) (fun _ : Unit => []) := by
  refine zX.of (cc := cX11_guru) (maxL := 2) (rt := (some .int)) (by decide) rfl (Nat.le_of_ble_eq_true rfl) ?_
  intro p e s m args below meth c A ls St hr hlocks htab hin hK hT hA hP hD hS hl
  obtain ⟨hx, hb, hml, hown, hts⟩ := id St
  have hl : lv_has ls 2 [(0, .ref x), (1, .int n)] := hl
  refine lv_aload_n hx hb dX11_guru_0 rfl (lv_at hl 0 rfl) ?_
  refine lv_iload_n hx hb dX11_guru_1 rfl (lv_at hl 1 rfl) ?_
  refine lv_iconst (v := 0) hx hb dX11_guru_2 (by decide) ?_
  refine lv_bipush (v := 30) hx hb dX11_guru_3 (by decide) ?_
  refine xcallV (g := g) (q0 := 0) (ci := 9) (As := [.int n, .int 0, .int 30]) (rest := []) St hK hT hA hP hD hS hl.1 [0] [1, 2, 3, 4] rfl rfl rfl (c_nw_0_30 l hfl g x ta o lo go tt lt mo fo ro fl9 n ) (cwV 3 hts (zgL (zl4 k646 k647 k648 k595) k645) rfl rfl rfl (by decide +kernel) ⟨Nat.le_of_ble_eq_true rfl, Nat.le_of_ble_eq_true rfl⟩) rfl rfl rfl rfl (Nat.le_of_ble_eq_true rfl) dX11_guru_5 ⟨(Nat.le_of_ble_eq_true rfl), (Nat.le_of_ble_eq_true rfl)⟩ (fun E ce q9 u9 H locs hpx hP hD hS hce hcv hcl => ?_) (fun _u H locs hq1 hP hD hS => ?_)
  · skip
    have hpx : (fun (E : String) (_ : Unit) => E = "java/lang/IllegalArgumentException" ∧ ((n : Int32) < 0 ∨ 30 < (n : Int32))) E u9 := hpx
    have hP : va_P g.1 vwCl (List.flatten [bTown g o a 0 0 tx ch jo tr dy sd f, [(fo, .inr (0, [.ref o, .ref lo, .ref od]))], bLaw g lo ac ls0 ll lm lg ld fc, bTown g od ad ped wod txd chd jod trd dyd sdd fd]) H := hP
    have hD : va_D A (List.flatten [bTown g o a 0 0 tx ch jo tr dy sd f, [(fo, .inr (0, [.ref o, .ref lo, .ref od]))], bLaw g lo ac ls0 ll lm lg ld fc, bTown g od ad ped wod txd chd jod trd dyd sdd fd]) := hD
    have hP : va_P g.1 vwCl (List.flatten [bTown g o a 0 0 tx ch jo tr dy sd f, [(fo, .inr (0, [.ref o, .ref lo, .ref od]))], bLaw g lo ac ls0 ll lm lg ld fc, bTown g od ad ped wod txd chd jod trd dyd sdd fd]) H := hP
    have hD : va_D A (List.flatten [bTown g o a 0 0 tx ch jo tr dy sd f, [(fo, .inr (0, [.ref o, .ref lo, .ref od]))], bLaw g lo ac ls0 ll lm lg ld fc, bTown g od ad ped wod txd chd jod trd dyd sdd fd]) := hD
    obtain ⟨hP, hD⟩ := zord (g := g) (Bs' := []) [] rfl rfl hP hD
    exact zout htab hlocks hS (Nat.le_of_ble_eq_true rfl) (Nat.le_of_ble_eq_true rfl) hce hcv hcl () hpx hP hD
  · skip
    have hq1 : ¬ (n : Int32) < 0 ∧ ¬ 30 < (n : Int32) := hq1
    have hP : va_P g.1 vwCl (List.flatten [bTown g o a 0 0 tx ch jo tr dy sd f, [(fo, .inr (0, [.ref o, .ref lo, .ref od]))], bLaw g lo ac ls0 ll lm lg ld fc, bTown g od ad ped wod txd chd jod trd dyd sdd fd, bDR g x ta o lo go tt lt mo fo ro fl9]) H := hP
    have hD : va_D A (List.flatten [bTown g o a 0 0 tx ch jo tr dy sd f, [(fo, .inr (0, [.ref o, .ref lo, .ref od]))], bLaw g lo ac ls0 ll lm lg ld fc, bTown g od ad ped wod txd chd jod trd dyd sdd fd, bDR g x ta o lo go tt lt mo fo ro fl9]) := hD
    refine W.widen (k := 1) (n := 6) (Nat.le_of_ble_eq_true rfl) (Nat.le_of_ble_eq_true rfl) ?_
    refine W.eq (g2 := F0 m 8 ls []) rfl ?_
    refine lv_aload_n hx hb dX11_guru_8 rfl (lv_at hl 0 rfl) ?_
    refine va_get (D := g.1) (ci := 9) (v := .ref fo) (C := RX11) (T := TX11) (N := 10) hx hb hts izRX11 hown hK hP 27 rfl rfl 7 (by decide) (hts _ k528) (fun _ h9 => h9) rfl dX11_guru_9 ?_
    refine lv_iload_n hx hb dX11_guru_12 rfl (lv_at hl 1 rfl) ?_
    refine mcallV (g := g) (q0 := 0) (ci := 0) (As := [.int n]) (rest := []) St hK hT hA hP hD hS hl.1 [1, 0, 2, 3] [4] rfl rfl rfl (c_strongest l g fo o a tx ch jo tr dy sd f lo ac ls0 ll lm lg ld fc od ad ped wod txd chd jod trd dyd sdd fd n (by assumption)) (cwV 1 hts (zgL (zl4 k667 k668 k669 k169) k170) rfl rfl rfl (by decide +kernel) ⟨Nat.le_of_ble_eq_true rfl, Nat.le_of_ble_eq_true rfl⟩) rfl rfl rfl rfl (Nat.le_of_ble_eq_true rfl) dX11_guru_13 ⟨(Nat.le_of_ble_eq_true rfl), (Nat.le_of_ble_eq_true rfl)⟩ (fun _u H locs hq2 hP hD hS => ?_)
    have hP : va_P g.1 vwCl (List.flatten [bDR g x ta o lo go tt lt mo fo ro fl9, [(fo, .inr (0, [.ref o, .ref lo, .ref od]))], bTown g o a 0 0 tx ch jo tr dy sd f, bLaw g lo ac ls0 ll lm lg ld fc, bTown g od ad ped wod txd chd jod trd dyd sdd fd]) H := hP
    have hD : va_D A (List.flatten [bDR g x ta o lo go tt lt mo fo ro fl9, [(fo, .inr (0, [.ref o, .ref lo, .ref od]))], bTown g o a 0 0 tx ch jo tr dy sd f, bLaw g lo ac ls0 ll lm lg ld fc, bTown g od ad ped wod txd chd jod trd dyd sdd fd]) := hD
    refine W.widen (k := 1) (n := 6) (Nat.le_of_ble_eq_true rfl) (Nat.le_of_ble_eq_true rfl) ?_
    refine W.eq (g2 := F0 m 16 ls [.int (-1)]) rfl ?_
    have hP : va_P g.1 vwCl (List.flatten [bDR g x ta o lo go tt lt mo fo ro fl9, [(fo, .inr (0, [.ref o, .ref lo, .ref od]))], bTown g o a 0 0 tx ch jo tr dy sd f, bLaw g lo ac ls0 ll lm lg ld fc, bTown g od ad ped wod txd chd jod trd dyd sdd fd]) H := hP
    have hD : va_D A (List.flatten [bDR g x ta o lo go tt lt mo fo ro fl9, [(fo, .inr (0, [.ref o, .ref lo, .ref od]))], bTown g o a 0 0 tx ch jo tr dy sd f, bLaw g lo ac ls0 ll lm lg ld fc, bTown g od ad ped wod txd chd jod trd dyd sdd fd]) := hD
    obtain ⟨hP, hD⟩ := zord (g := g) (Bs' := []) [] rfl rfl hP hD
    exact zret_i hx hb hr hlocks hS (Nat.le_of_ble_eq_true rfl) (Nat.le_of_ble_eq_true rfl) dX11_guru_16 () rfl hq1 hP hD
set_option maxRecDepth 100000 in
set_option maxHeartbeats 4000000 in
theorem c_must (l : Launch) (hfl : l.stackTraces = false) (g : zG) (x : Nat) (ta : Nat) (o : Nat) (lo : Nat) (go : Nat) (tt : Nat) (lt : Nat) (mo : Nat) (fo : Nat) (ro : Nat) (fl9 : Int32) (a : Nat → Nat) (tx : Int32) (ch : Int32) (jo : Int32) (tr : Int32) (dy : Int32) (sd : Int32) (f : Nat → Nat → Int32) (ac : Nat) (ls0 : Int32) (ll : Int32) (lm : Int32) (lg : Int32) (ld : Int32) (fc : Nat → Int32) (od : Nat) (ad : Nat → Nat) (ped : Int32) (wod : Int32) (txd : Int32) (chd : Int32) (jod : Int32) (trd : Int32) (dyd : Int32) (sdd : Int32) (fd : Nat → Nat → Int32) (xx : Int32) (n : Int32) (hz : zZ (f 4)) : zX g l yX11_must (Cond.code yX11_must cX11_must 3 (some .int) :: zB) ({ frames := 7, cells := 2, slots := 12, locals := 137 } : Room) [.ref x, .int xx, .int n] [bDR g x ta o lo go tt lt mo fo ro fl9, bTown g o a 0 0 tx ch jo tr dy sd f, [(fo, .inr (0, [.ref o, .ref lo, .ref od]))], bLaw g lo ac ls0 ll lm lg ld fc, bTown g od ad ped wod txd chd jod trd dyd sdd fd] (fun _ : Unit => some (.int (-1))) (fun _ : Unit => (¬ xx < 1 ∧ ¬ 792 < xx) ∧ (¬ n < 0 ∧ ¬ 30 < n)) (fun _ : Unit => []) (fun (E : String) (_ : Unit) => E = "java/lang/IllegalArgumentException" ∧ ((xx < 1 ∨ 792 < xx) ∨ (n < 0 ∨ 30 < n))) (fun _ : Unit => []) := by
  refine zX.of (cc := cX11_must) (maxL := 3) (rt := (some .int)) (by decide) rfl (Nat.le_of_ble_eq_true rfl) ?_
  intro p e s m args below meth c A ls St hr hlocks htab hin hK hT hA hP hD hS hl
  obtain ⟨hx, hb, hml, hown, hts⟩ := id St
  have hl : lv_has ls 3 [(0, .ref x), (1, .int xx), (2, .int n)] := hl
  refine lv_aload_n hx hb dX11_must_0 rfl (lv_at hl 0 rfl) ?_
  refine lv_iload_n hx hb dX11_must_1 rfl (lv_at hl 1 rfl) ?_
  refine lv_iconst (v := 1) hx hb dX11_must_2 (by decide) ?_
  refine lv_sipush (v := 792) hx hb dX11_must_3 (by decide) ?_
  refine xcallV (g := g) (q0 := 0) (ci := 9) (As := [.int xx, .int 1, .int 792]) (rest := []) St hK hT hA hP hD hS hl.1 [0] [1, 2, 3, 4] rfl rfl rfl (c_nw_1_792 l hfl g x ta o lo go tt lt mo fo ro fl9 xx ) (cwV 3 hts (zgL (zl4 k646 k647 k648 k595) k645) rfl rfl rfl (by decide +kernel) ⟨Nat.le_of_ble_eq_true rfl, Nat.le_of_ble_eq_true rfl⟩) rfl rfl rfl rfl (Nat.le_of_ble_eq_true rfl) dX11_must_6 ⟨(Nat.le_of_ble_eq_true rfl), (Nat.le_of_ble_eq_true rfl)⟩ (fun E ce q9 u9 H locs hpx hP hD hS hce hcv hcl => ?_) (fun _u H locs hq1 hP hD hS => ?_)
  · skip
    have hpx : (fun (E : String) (_ : Unit) => E = "java/lang/IllegalArgumentException" ∧ ((xx : Int32) < 1 ∨ 792 < (xx : Int32))) E u9 := hpx
    have hP : va_P g.1 vwCl (List.flatten [bTown g o a 0 0 tx ch jo tr dy sd f, [(fo, .inr (0, [.ref o, .ref lo, .ref od]))], bLaw g lo ac ls0 ll lm lg ld fc, bTown g od ad ped wod txd chd jod trd dyd sdd fd]) H := hP
    have hD : va_D A (List.flatten [bTown g o a 0 0 tx ch jo tr dy sd f, [(fo, .inr (0, [.ref o, .ref lo, .ref od]))], bLaw g lo ac ls0 ll lm lg ld fc, bTown g od ad ped wod txd chd jod trd dyd sdd fd]) := hD
    have hP : va_P g.1 vwCl (List.flatten [bTown g o a 0 0 tx ch jo tr dy sd f, [(fo, .inr (0, [.ref o, .ref lo, .ref od]))], bLaw g lo ac ls0 ll lm lg ld fc, bTown g od ad ped wod txd chd jod trd dyd sdd fd]) H := hP
    have hD : va_D A (List.flatten [bTown g o a 0 0 tx ch jo tr dy sd f, [(fo, .inr (0, [.ref o, .ref lo, .ref od]))], bLaw g lo ac ls0 ll lm lg ld fc, bTown g od ad ped wod txd chd jod trd dyd sdd fd]) := hD
    obtain ⟨hP, hD⟩ := zord (g := g) (Bs' := []) [] rfl rfl hP hD
    exact zout htab hlocks hS (Nat.le_of_ble_eq_true rfl) (Nat.le_of_ble_eq_true rfl) hce hcv hcl () (⟨hpx.1, Or.inl hpx.2⟩) hP hD
  · skip
    have hq1 : ¬ (xx : Int32) < 1 ∧ ¬ 792 < (xx : Int32) := hq1
    have hP : va_P g.1 vwCl (List.flatten [bTown g o a 0 0 tx ch jo tr dy sd f, [(fo, .inr (0, [.ref o, .ref lo, .ref od]))], bLaw g lo ac ls0 ll lm lg ld fc, bTown g od ad ped wod txd chd jod trd dyd sdd fd, bDR g x ta o lo go tt lt mo fo ro fl9]) H := hP
    have hD : va_D A (List.flatten [bTown g o a 0 0 tx ch jo tr dy sd f, [(fo, .inr (0, [.ref o, .ref lo, .ref od]))], bLaw g lo ac ls0 ll lm lg ld fc, bTown g od ad ped wod txd chd jod trd dyd sdd fd, bDR g x ta o lo go tt lt mo fo ro fl9]) := hD
    refine W.widen (k := 1) (n := 6) (Nat.le_of_ble_eq_true rfl) (Nat.le_of_ble_eq_true rfl) ?_
    refine W.eq (g2 := F0 m 9 ls []) rfl ?_
    refine lv_aload_n hx hb dX11_must_9 rfl (lv_at hl 0 rfl) ?_
    refine lv_iload_n hx hb dX11_must_10 rfl (lv_at hl 2 rfl) ?_
    refine lv_iconst (v := 0) hx hb dX11_must_11 (by decide) ?_
    refine lv_bipush (v := 30) hx hb dX11_must_12 (by decide) ?_
    refine xcallV (g := g) (q0 := 0) (ci := 9) (As := [.int n, .int 0, .int 30]) (rest := []) St hK hT hA hP hD hS hl.1 [4] [0, 1, 2, 3] rfl rfl rfl (c_nw_0_30 l hfl g x ta o lo go tt lt mo fo ro fl9 n ) (cwV 3 hts (zgL (zl4 k646 k647 k648 k595) k645) rfl rfl rfl (by decide +kernel) ⟨Nat.le_of_ble_eq_true rfl, Nat.le_of_ble_eq_true rfl⟩) rfl rfl rfl rfl (Nat.le_of_ble_eq_true rfl) dX11_must_14 ⟨(Nat.le_of_ble_eq_true rfl), (Nat.le_of_ble_eq_true rfl)⟩ (fun E ce q9 u9 H locs hpx hP hD hS hce hcv hcl => ?_) (fun _u H locs hq2 hP hD hS => ?_)
    · skip
      have hpx : (fun (E : String) (_ : Unit) => E = "java/lang/IllegalArgumentException" ∧ ((n : Int32) < 0 ∨ 30 < (n : Int32))) E u9 := hpx
      have hP : va_P g.1 vwCl (List.flatten [bTown g o a 0 0 tx ch jo tr dy sd f, [(fo, .inr (0, [.ref o, .ref lo, .ref od]))], bLaw g lo ac ls0 ll lm lg ld fc, bTown g od ad ped wod txd chd jod trd dyd sdd fd]) H := hP
      have hD : va_D A (List.flatten [bTown g o a 0 0 tx ch jo tr dy sd f, [(fo, .inr (0, [.ref o, .ref lo, .ref od]))], bLaw g lo ac ls0 ll lm lg ld fc, bTown g od ad ped wod txd chd jod trd dyd sdd fd]) := hD
      have hP : va_P g.1 vwCl (List.flatten [bTown g o a 0 0 tx ch jo tr dy sd f, [(fo, .inr (0, [.ref o, .ref lo, .ref od]))], bLaw g lo ac ls0 ll lm lg ld fc, bTown g od ad ped wod txd chd jod trd dyd sdd fd]) H := hP
      have hD : va_D A (List.flatten [bTown g o a 0 0 tx ch jo tr dy sd f, [(fo, .inr (0, [.ref o, .ref lo, .ref od]))], bLaw g lo ac ls0 ll lm lg ld fc, bTown g od ad ped wod txd chd jod trd dyd sdd fd]) := hD
      obtain ⟨hP, hD⟩ := zord (g := g) (Bs' := []) [] rfl rfl hP hD
      exact zout htab hlocks hS (Nat.le_of_ble_eq_true rfl) (Nat.le_of_ble_eq_true rfl) hce hcv hcl () (⟨hpx.1, Or.inr hpx.2⟩) hP hD
    · skip
      have hq2 : ¬ (n : Int32) < 0 ∧ ¬ 30 < (n : Int32) := hq2
      have hP : va_P g.1 vwCl (List.flatten [bTown g o a 0 0 tx ch jo tr dy sd f, [(fo, .inr (0, [.ref o, .ref lo, .ref od]))], bLaw g lo ac ls0 ll lm lg ld fc, bTown g od ad ped wod txd chd jod trd dyd sdd fd, bDR g x ta o lo go tt lt mo fo ro fl9]) H := hP
      have hD : va_D A (List.flatten [bTown g o a 0 0 tx ch jo tr dy sd f, [(fo, .inr (0, [.ref o, .ref lo, .ref od]))], bLaw g lo ac ls0 ll lm lg ld fc, bTown g od ad ped wod txd chd jod trd dyd sdd fd, bDR g x ta o lo go tt lt mo fo ro fl9]) := hD
      refine W.widen (k := 2) (n := 12) (Nat.le_of_ble_eq_true rfl) (Nat.le_of_ble_eq_true rfl) ?_
      refine W.eq (g2 := F0 m 17 ls []) rfl ?_
      refine lv_aload_n hx hb dX11_must_17 rfl (lv_at hl 0 rfl) ?_
      refine va_get (D := g.1) (ci := 9) (v := .ref fo) (C := RX11) (T := TX11) (N := 10) hx hb hts izRX11 hown hK hP 27 rfl rfl 7 (by decide) (hts _ k528) (fun _ h9 => h9) rfl dX11_must_18 ?_
      refine lv_iload_n hx hb dX11_must_21 rfl (lv_at hl 1 rfl) ?_
      refine lv_iload_n hx hb dX11_must_22 rfl (lv_at hl 2 rfl) ?_
      refine mcallV (g := g) (q0 := 0) (ci := 0) (As := [.int xx, .int n]) (rest := []) St hK hT hA hP hD hS hl.1 [1, 0, 2, 3] [4] rfl rfl rfl (c_fewestTold l g fo o a tx ch jo tr dy sd f lo ac ls0 ll lm lg ld fc od ad ped wod txd chd jod trd dyd sdd fd xx n (by assumption) (zrg30 hq2) (zgt0 hq1)) (cwV 2 hts (zgL (zl4 k671 k672 k673 k169) k173) rfl rfl rfl (by decide +kernel) ⟨Nat.le_of_ble_eq_true rfl, Nat.le_of_ble_eq_true rfl⟩) rfl rfl rfl rfl (Nat.le_of_ble_eq_true rfl) dX11_must_23 ⟨(Nat.le_of_ble_eq_true rfl), (Nat.le_of_ble_eq_true rfl)⟩ (fun _u H locs hq3 hP hD hS => ?_)
      have hP : va_P g.1 vwCl (List.flatten [bDR g x ta o lo go tt lt mo fo ro fl9]) H := hP
      have hD : va_D A (List.flatten [bDR g x ta o lo go tt lt mo fo ro fl9]) := hD
      refine W.widen (k := 2) (n := 12) (Nat.le_of_ble_eq_true rfl) (Nat.le_of_ble_eq_true rfl) ?_
      refine W.eq (g2 := F0 m 26 ls [.int (-1)]) rfl ?_
      have hP : va_P g.1 vwCl (List.flatten [bDR g x ta o lo go tt lt mo fo ro fl9]) H := hP
      have hD : va_D A (List.flatten [bDR g x ta o lo go tt lt mo fo ro fl9]) := hD
      obtain ⟨hP, hD⟩ := zord (g := g) (Bs' := []) [] rfl rfl hP hD
      exact zret_i hx hb hr hlocks hS (Nat.le_of_ble_eq_true rfl) (Nat.le_of_ble_eq_true rfl) dX11_must_26 () rfl (⟨hq1, hq2⟩) hP hD
set_option maxRecDepth 100000 in
set_option maxHeartbeats 4000000 in
theorem c_reaches (l : Launch) (hfl : l.stackTraces = false) (g : zG) (x : Nat) (ta : Nat) (o : Nat) (lo : Nat) (go : Nat) (tt : Nat) (lt : Nat) (mo : Nat) (fo : Nat) (ro : Nat) (fl9 : Int32) (a : Nat → Nat) (tx : Int32) (ch : Int32) (jo : Int32) (tr : Int32) (dy : Int32) (sd : Int32) (f : Nat → Nat → Int32) (ac : Nat) (ls0 : Int32) (ll : Int32) (lm : Int32) (lg : Int32) (ld : Int32) (fc : Nat → Int32) (od : Nat) (ad : Nat → Nat) (ped : Int32) (wod : Int32) (txd : Int32) (chd : Int32) (jod : Int32) (trd : Int32) (dyd : Int32) (sdd : Int32) (fd : Nat → Nat → Int32) (xx : Int32) (hz : zZ (f 4)) : zX g l yX11_reaches (Cond.code yX11_reaches cX11_reaches 2 (some .int) :: zB) ({ frames := 7, cells := 1, slots := 6, locals := 110 } : Room) [.ref x, .int xx] [bDR g x ta o lo go tt lt mo fo ro fl9, bTown g o a 0 0 tx ch jo tr dy sd f, [(fo, .inr (0, [.ref o, .ref lo, .ref od]))], bLaw g lo ac ls0 ll lm lg ld fc, bTown g od ad ped wod txd chd jod trd dyd sdd fd] (fun _ : Unit => some (.int (-1))) (fun _ : Unit => ¬ xx < 1 ∧ ¬ 792 < xx) (fun _ : Unit => []) (fun (E : String) (_ : Unit) => E = "java/lang/IllegalArgumentException" ∧ (xx < 1 ∨ 792 < xx)) (fun _ : Unit => []) := by
  refine zX.of (cc := cX11_reaches) (maxL := 2) (rt := (some .int)) (by decide) rfl (Nat.le_of_ble_eq_true rfl) ?_
  intro p e s m args below meth c A ls St hr hlocks htab hin hK hT hA hP hD hS hl
  obtain ⟨hx, hb, hml, hown, hts⟩ := id St
  have hl : lv_has ls 2 [(0, .ref x), (1, .int xx)] := hl
  refine lv_aload_n hx hb dX11_reaches_0 rfl (lv_at hl 0 rfl) ?_
  refine lv_iload_n hx hb dX11_reaches_1 rfl (lv_at hl 1 rfl) ?_
  refine lv_iconst (v := 1) hx hb dX11_reaches_2 (by decide) ?_
  refine lv_sipush (v := 792) hx hb dX11_reaches_3 (by decide) ?_
  refine xcallV (g := g) (q0 := 0) (ci := 9) (As := [.int xx, .int 1, .int 792]) (rest := []) St hK hT hA hP hD hS hl.1 [0] [1, 2, 3, 4] rfl rfl rfl (c_nw_1_792 l hfl g x ta o lo go tt lt mo fo ro fl9 xx ) (cwV 3 hts (zgL (zl4 k646 k647 k648 k595) k645) rfl rfl rfl (by decide +kernel) ⟨Nat.le_of_ble_eq_true rfl, Nat.le_of_ble_eq_true rfl⟩) rfl rfl rfl rfl (Nat.le_of_ble_eq_true rfl) dX11_reaches_6 ⟨(Nat.le_of_ble_eq_true rfl), (Nat.le_of_ble_eq_true rfl)⟩ (fun E ce q9 u9 H locs hpx hP hD hS hce hcv hcl => ?_) (fun _u H locs hq1 hP hD hS => ?_)
  · skip
    have hpx : (fun (E : String) (_ : Unit) => E = "java/lang/IllegalArgumentException" ∧ ((xx : Int32) < 1 ∨ 792 < (xx : Int32))) E u9 := hpx
    have hP : va_P g.1 vwCl (List.flatten [bTown g o a 0 0 tx ch jo tr dy sd f, [(fo, .inr (0, [.ref o, .ref lo, .ref od]))], bLaw g lo ac ls0 ll lm lg ld fc, bTown g od ad ped wod txd chd jod trd dyd sdd fd]) H := hP
    have hD : va_D A (List.flatten [bTown g o a 0 0 tx ch jo tr dy sd f, [(fo, .inr (0, [.ref o, .ref lo, .ref od]))], bLaw g lo ac ls0 ll lm lg ld fc, bTown g od ad ped wod txd chd jod trd dyd sdd fd]) := hD
    have hP : va_P g.1 vwCl (List.flatten [bTown g o a 0 0 tx ch jo tr dy sd f, [(fo, .inr (0, [.ref o, .ref lo, .ref od]))], bLaw g lo ac ls0 ll lm lg ld fc, bTown g od ad ped wod txd chd jod trd dyd sdd fd]) H := hP
    have hD : va_D A (List.flatten [bTown g o a 0 0 tx ch jo tr dy sd f, [(fo, .inr (0, [.ref o, .ref lo, .ref od]))], bLaw g lo ac ls0 ll lm lg ld fc, bTown g od ad ped wod txd chd jod trd dyd sdd fd]) := hD
    obtain ⟨hP, hD⟩ := zord (g := g) (Bs' := []) [] rfl rfl hP hD
    exact zout htab hlocks hS (Nat.le_of_ble_eq_true rfl) (Nat.le_of_ble_eq_true rfl) hce hcv hcl () hpx hP hD
  · skip
    have hq1 : ¬ (xx : Int32) < 1 ∧ ¬ 792 < (xx : Int32) := hq1
    have hP : va_P g.1 vwCl (List.flatten [bTown g o a 0 0 tx ch jo tr dy sd f, [(fo, .inr (0, [.ref o, .ref lo, .ref od]))], bLaw g lo ac ls0 ll lm lg ld fc, bTown g od ad ped wod txd chd jod trd dyd sdd fd, bDR g x ta o lo go tt lt mo fo ro fl9]) H := hP
    have hD : va_D A (List.flatten [bTown g o a 0 0 tx ch jo tr dy sd f, [(fo, .inr (0, [.ref o, .ref lo, .ref od]))], bLaw g lo ac ls0 ll lm lg ld fc, bTown g od ad ped wod txd chd jod trd dyd sdd fd, bDR g x ta o lo go tt lt mo fo ro fl9]) := hD
    refine W.widen (k := 1) (n := 6) (Nat.le_of_ble_eq_true rfl) (Nat.le_of_ble_eq_true rfl) ?_
    refine W.eq (g2 := F0 m 9 ls []) rfl ?_
    refine lv_aload_n hx hb dX11_reaches_9 rfl (lv_at hl 0 rfl) ?_
    refine va_get (D := g.1) (ci := 9) (v := .ref fo) (C := RX11) (T := TX11) (N := 10) hx hb hts izRX11 hown hK hP 27 rfl rfl 7 (by decide) (hts _ k528) (fun _ h9 => h9) rfl dX11_reaches_10 ?_
    refine lv_iload_n hx hb dX11_reaches_13 rfl (lv_at hl 1 rfl) ?_
    refine mcallV (g := g) (q0 := 0) (ci := 0) (As := [.int xx]) (rest := []) St hK hT hA hP hD hS hl.1 [1, 0, 2, 3] [4] rfl rfl rfl (c_firstBelieved l g fo o a tx ch jo tr dy sd f lo ac ls0 ll lm lg ld fc od ad ped wod txd chd jod trd dyd sdd fd xx (by assumption) (zgt0 hq1)) (cwV 1 hts (zgL (zl4 k675 k676 k677 k169) k174) rfl rfl rfl (by decide +kernel) ⟨Nat.le_of_ble_eq_true rfl, Nat.le_of_ble_eq_true rfl⟩) rfl rfl rfl rfl (Nat.le_of_ble_eq_true rfl) dX11_reaches_14 ⟨(Nat.le_of_ble_eq_true rfl), (Nat.le_of_ble_eq_true rfl)⟩ (fun _u H locs hq2 hP hD hS => ?_)
    have hP : va_P g.1 vwCl (List.flatten [bDR g x ta o lo go tt lt mo fo ro fl9]) H := hP
    have hD : va_D A (List.flatten [bDR g x ta o lo go tt lt mo fo ro fl9]) := hD
    refine W.widen (k := 1) (n := 6) (Nat.le_of_ble_eq_true rfl) (Nat.le_of_ble_eq_true rfl) ?_
    refine W.eq (g2 := F0 m 17 ls [.int (-1)]) rfl ?_
    have hP : va_P g.1 vwCl (List.flatten [bDR g x ta o lo go tt lt mo fo ro fl9]) H := hP
    have hD : va_D A (List.flatten [bDR g x ta o lo go tt lt mo fo ro fl9]) := hD
    obtain ⟨hP, hD⟩ := zord (g := g) (Bs' := []) [] rfl rfl hP hD
    exact zret_i hx hb hr hlocks hS (Nat.le_of_ble_eq_true rfl) (Nat.le_of_ble_eq_true rfl) dX11_reaches_17 () rfl hq1 hP hD
set_option maxRecDepth 100000 in
set_option maxHeartbeats 4000000 in
theorem c_ruin (l : Launch) (g : zG) (x : Nat) (ta : Nat) (o : Nat) (lo : Nat) (go : Nat) (tt : Nat) (lt : Nat) (mo : Nat) (fo : Nat) (ro : Nat) (fl9 : Int32) (a : Nat → Nat) (tx : Int32) (ch : Int32) (jo : Int32) (tr : Int32) (dy : Int32) (sd : Int32) (f : Nat → Nat → Int32) (ac : Nat) (ls0 : Int32) (ll : Int32) (lm : Int32) (lg : Int32) (ld : Int32) (fc : Nat → Int32) (od : Nat) (ad : Nat → Nat) (ped : Int32) (wod : Int32) (txd : Int32) (chd : Int32) (jod : Int32) (trd : Int32) (dyd : Int32) (sdd : Int32) (fd : Nat → Nat → Int32) (hz : zZ (f 4)) : zM g l yX11_ruin (Cond.code yX11_ruin cX11_ruin 1 (some .int) :: zB) ({ frames := 5, cells := 0, slots := 0, locals := 109 } : Room) [.ref x] [bDR g x ta o lo go tt lt mo fo ro fl9, bTown g o a 0 0 tx ch jo tr dy sd f, [(fo, .inr (0, [.ref o, .ref lo, .ref od]))], bLaw g lo ac ls0 ll lm lg ld fc, bTown g od ad ped wod txd chd jod trd dyd sdd fd] (fun _ : Unit => some (.int (-1))) (fun _ : Unit => True) (fun _ : Unit => []) := by
  refine zM.of (cc := cX11_ruin) (maxL := 1) (rt := (some .int)) (by decide) rfl (Nat.le_of_ble_eq_true rfl) ?_
  intro p e s m args below meth c A ls St hr hlocks hin hK hT hA hP hD hS hl
  obtain ⟨hx, hb, hml, hown, hts⟩ := id St
  have hl : lv_has ls 1 [(0, .ref x)] := hl
  refine lv_aload_n hx hb dX11_ruin_0 rfl (lv_at hl 0 rfl) ?_
  refine va_get (D := g.1) (ci := 9) (v := .ref fo) (C := RX11) (T := TX11) (N := 10) hx hb hts izRX11 hown hK hP 0 rfl rfl 7 (by decide) (hts _ k528) (fun _ h9 => h9) rfl dX11_ruin_1 ?_
  refine mcallV (g := g) (q0 := 0) (ci := 0) (As := []) (rest := []) St hK hT hA hP hD hS hl.1 [2, 1, 3, 4] [0] rfl rfl rfl (c_firstRuin l g fo o a tx ch jo tr dy sd f lo ac ls0 ll lm lg ld fc od ad ped wod txd chd jod trd dyd sdd fd (by assumption)) (cwV 0 hts (zgL (zl4 k681 k682 k683 k169) k183) rfl rfl rfl (by decide +kernel) ⟨Nat.le_of_ble_eq_true rfl, Nat.le_of_ble_eq_true rfl⟩) rfl rfl rfl rfl (Nat.le_of_ble_eq_true rfl) dX11_ruin_4 ⟨(Nat.le_of_ble_eq_true rfl), (Nat.le_of_ble_eq_true rfl)⟩ (fun _u H locs hq1 hP hD hS => ?_)
  have hP : va_P g.1 vwCl (List.flatten [bDR g x ta o lo go tt lt mo fo ro fl9]) H := hP
  have hD : va_D A (List.flatten [bDR g x ta o lo go tt lt mo fo ro fl9]) := hD
  refine W.widen (k := 0) (n := 0) (Nat.le_of_ble_eq_true rfl) (Nat.le_of_ble_eq_true rfl) ?_
  refine W.eq (g2 := F0 m 7 ls [.int (-1)]) rfl ?_
  have hP : va_P g.1 vwCl (List.flatten [bDR g x ta o lo go tt lt mo fo ro fl9]) H := hP
  have hD : va_D A (List.flatten [bDR g x ta o lo go tt lt mo fo ro fl9]) := hD
  obtain ⟨hP, hD⟩ := zord (g := g) (Bs' := []) [] rfl rfl hP hD
  exact mret_i hx hb hr hlocks hS (Nat.le_of_ble_eq_true rfl) (Nat.le_of_ble_eq_true rfl) dX11_ruin_7 () rfl trivial hP hD
set_option maxRecDepth 100000 in
set_option maxHeartbeats 4000000 in
theorem c_dearest (l : Launch) (hfl : l.stackTraces = false) (g : zG) (x : Nat) (ta : Nat) (o : Nat) (lo : Nat) (go : Nat) (tt : Nat) (lt : Nat) (mo : Nat) (fo : Nat) (ro : Nat) (fl9 : Int32) (a : Nat → Nat) (tx : Int32) (ch : Int32) (jo : Int32) (tr : Int32) (dy : Int32) (sd : Int32) (f : Nat → Nat → Int32) (ac : Nat) (ls0 : Int32) (ll : Int32) (lm : Int32) (lg : Int32) (ld : Int32) (fc : Nat → Int32) (od : Nat) (ad : Nat → Nat) (ped : Int32) (wod : Int32) (txd : Int32) (chd : Int32) (jod : Int32) (trd : Int32) (dyd : Int32) (sdd : Int32) (fd : Nat → Nat → Int32) (n : Int32) (mu : Int32) (hz : zZ (f 4)) : zX g l yX11_dearest (Cond.code yX11_dearest cX11_dearest 3 (some .int) :: zB) ({ frames := 7, cells := 1, slots := 6, locals := 113 } : Room) [.ref x, .int n, .int mu] [bDR g x ta o lo go tt lt mo fo ro fl9, bTown g o a 0 0 tx ch jo tr dy sd f, [(fo, .inr (0, [.ref o, .ref lo, .ref od]))], bLaw g lo ac ls0 ll lm lg ld fc, bTown g od ad ped wod txd chd jod trd dyd sdd fd] (fun (q : Int32) => some (.int q)) (fun (q : Int32) => (¬ n < 0 ∧ ¬ 100 < n) ∧ q = if mu = 0 then 0 else 1) (fun (q : Int32) => []) (fun (E : String) (_ : Unit) => E = "java/lang/IllegalArgumentException" ∧ (n < 0 ∨ 100 < n)) (fun _ : Unit => []) := by
  refine zX.of (cc := cX11_dearest) (maxL := 3) (rt := (some .int)) (by decide) rfl (Nat.le_of_ble_eq_true rfl) ?_
  intro p e s m args below meth c A ls St hr hlocks htab hin hK hT hA hP hD hS hl
  obtain ⟨hx, hb, hml, hown, hts⟩ := id St
  have hl : lv_has ls 3 [(0, .ref x), (1, .int n), (2, .int mu)] := hl
  refine lv_aload_n hx hb dX11_dearest_0 rfl (lv_at hl 0 rfl) ?_
  refine lv_iload_n hx hb dX11_dearest_1 rfl (lv_at hl 1 rfl) ?_
  refine lv_iconst (v := 0) hx hb dX11_dearest_2 (by decide) ?_
  refine lv_bipush (v := 100) hx hb dX11_dearest_3 (by decide) ?_
  refine xcallV (g := g) (q0 := 0) (ci := 9) (As := [.int n, .int 0, .int 100]) (rest := []) St hK hT hA hP hD hS hl.1 [0] [1, 2, 3, 4] rfl rfl rfl (c_nw_0_100 l hfl g x ta o lo go tt lt mo fo ro fl9 n ) (cwV 3 hts (zgL (zl4 k646 k647 k648 k595) k645) rfl rfl rfl (by decide +kernel) ⟨Nat.le_of_ble_eq_true rfl, Nat.le_of_ble_eq_true rfl⟩) rfl rfl rfl rfl (Nat.le_of_ble_eq_true rfl) dX11_dearest_5 ⟨(Nat.le_of_ble_eq_true rfl), (Nat.le_of_ble_eq_true rfl)⟩ (fun E ce q9 u9 H locs hpx hP hD hS hce hcv hcl => ?_) (fun _u H locs hq1 hP hD hS => ?_)
  · skip
    have hpx : (fun (E : String) (_ : Unit) => E = "java/lang/IllegalArgumentException" ∧ ((n : Int32) < 0 ∨ 100 < (n : Int32))) E u9 := hpx
    have hP : va_P g.1 vwCl (List.flatten [bTown g o a 0 0 tx ch jo tr dy sd f, [(fo, .inr (0, [.ref o, .ref lo, .ref od]))], bLaw g lo ac ls0 ll lm lg ld fc, bTown g od ad ped wod txd chd jod trd dyd sdd fd]) H := hP
    have hD : va_D A (List.flatten [bTown g o a 0 0 tx ch jo tr dy sd f, [(fo, .inr (0, [.ref o, .ref lo, .ref od]))], bLaw g lo ac ls0 ll lm lg ld fc, bTown g od ad ped wod txd chd jod trd dyd sdd fd]) := hD
    have hP : va_P g.1 vwCl (List.flatten [bTown g o a 0 0 tx ch jo tr dy sd f, [(fo, .inr (0, [.ref o, .ref lo, .ref od]))], bLaw g lo ac ls0 ll lm lg ld fc, bTown g od ad ped wod txd chd jod trd dyd sdd fd]) H := hP
    have hD : va_D A (List.flatten [bTown g o a 0 0 tx ch jo tr dy sd f, [(fo, .inr (0, [.ref o, .ref lo, .ref od]))], bLaw g lo ac ls0 ll lm lg ld fc, bTown g od ad ped wod txd chd jod trd dyd sdd fd]) := hD
    obtain ⟨hP, hD⟩ := zord (g := g) (Bs' := []) [] rfl rfl hP hD
    exact zout htab hlocks hS (Nat.le_of_ble_eq_true rfl) (Nat.le_of_ble_eq_true rfl) hce hcv hcl () hpx hP hD
  · skip
    have hq1 : ¬ (n : Int32) < 0 ∧ ¬ 100 < (n : Int32) := hq1
    have hP : va_P g.1 vwCl (List.flatten [bTown g o a 0 0 tx ch jo tr dy sd f, [(fo, .inr (0, [.ref o, .ref lo, .ref od]))], bLaw g lo ac ls0 ll lm lg ld fc, bTown g od ad ped wod txd chd jod trd dyd sdd fd, bDR g x ta o lo go tt lt mo fo ro fl9]) H := hP
    have hD : va_D A (List.flatten [bTown g o a 0 0 tx ch jo tr dy sd f, [(fo, .inr (0, [.ref o, .ref lo, .ref od]))], bLaw g lo ac ls0 ll lm lg ld fc, bTown g od ad ped wod txd chd jod trd dyd sdd fd, bDR g x ta o lo go tt lt mo fo ro fl9]) := hD
    refine W.widen (k := 1) (n := 6) (Nat.le_of_ble_eq_true rfl) (Nat.le_of_ble_eq_true rfl) ?_
    refine W.eq (g2 := F0 m 8 ls []) rfl ?_
    refine lv_aload_n hx hb dX11_dearest_8 rfl (lv_at hl 0 rfl) ?_
    refine va_get (D := g.1) (ci := 9) (v := .ref fo) (C := RX11) (T := TX11) (N := 10) hx hb hts izRX11 hown hK hP 27 rfl rfl 7 (by decide) (hts _ k528) (fun _ h9 => h9) rfl dX11_dearest_9 ?_
    refine lv_iload_n hx hb dX11_dearest_12 rfl (lv_at hl 1 rfl) ?_
    refine lv_iload_n hx hb dX11_dearest_13 rfl (lv_at hl 2 rfl) ?_
    refine mcallV (g := g) (q0 := 0) (ci := 0) (As := [.int n, .int mu]) (rest := []) St hK hT hA hP hD hS hl.1 [1, 0, 2, 3] [4] rfl rfl rfl (c_greatestPrice l g fo o a tx ch jo tr dy sd f lo ac ls0 ll lm lg ld fc od ad ped wod txd chd jod trd dyd sdd fd n mu (by assumption) (zrg100 hq1)) (cwV 2 hts (zgL (zl4 k685 k686 k687 k169) k188) rfl rfl rfl (by decide +kernel) ⟨Nat.le_of_ble_eq_true rfl, Nat.le_of_ble_eq_true rfl⟩) rfl rfl rfl rfl (Nat.le_of_ble_eq_true rfl) dX11_dearest_14 ⟨(Nat.le_of_ble_eq_true rfl), (Nat.le_of_ble_eq_true rfl)⟩ (fun r_2 H locs hq3 hP hD hS => ?_)
    have hq3 : r_2 = if mu = 0 then 0 else 1 := hq3
    have hP : va_P g.1 vwCl (List.flatten [bDR g x ta o lo go tt lt mo fo ro fl9]) H := hP
    have hD : va_D A (List.flatten [bDR g x ta o lo go tt lt mo fo ro fl9]) := hD
    refine W.widen (k := 1) (n := 6) (Nat.le_of_ble_eq_true rfl) (Nat.le_of_ble_eq_true rfl) ?_
    refine W.eq (g2 := F0 m 17 ls [.int r_2]) rfl ?_
    have hP : va_P g.1 vwCl (List.flatten [bDR g x ta o lo go tt lt mo fo ro fl9]) H := hP
    have hD : va_D A (List.flatten [bDR g x ta o lo go tt lt mo fo ro fl9]) := hD
    obtain ⟨hP, hD⟩ := zord (g := g) (Bs' := []) [] rfl rfl hP hD
    exact zret_i hx hb hr hlocks hS (Nat.le_of_ble_eq_true rfl) (Nat.le_of_ble_eq_true rfl) dX11_dearest_17 (r_2) rfl (⟨hq1, hq3⟩) hP hD
set_option maxRecDepth 100000 in
set_option maxHeartbeats 4000000 in
theorem c_falls (l : Launch) (hfl : l.stackTraces = false) (g : zG) (x : Nat) (ta : Nat) (o : Nat) (lo : Nat) (go : Nat) (tt : Nat) (lt : Nat) (mo : Nat) (fo : Nat) (ro : Nat) (fl9 : Int32) (a : Nat → Nat) (tx : Int32) (ch : Int32) (jo : Int32) (tr : Int32) (dy : Int32) (sd : Int32) (f : Nat → Nat → Int32) (ac : Nat) (ls0 : Int32) (ll : Int32) (lm : Int32) (lg : Int32) (ld : Int32) (fc : Nat → Int32) (od : Nat) (ad : Nat → Nat) (ped : Int32) (wod : Int32) (txd : Int32) (chd : Int32) (jod : Int32) (trd : Int32) (dyd : Int32) (sdd : Int32) (fd : Nat → Nat → Int32) (n : Int32) (hz : zZ (f 4)) : zX g l yX11_falls (Cond.code yX11_falls cX11_falls 2 (some .int) :: zB) ({ frames := 7, cells := 1, slots := 6, locals := 112 } : Room) [.ref x, .int n] [bDR g x ta o lo go tt lt mo fo ro fl9, bTown g o a 0 0 tx ch jo tr dy sd f, [(fo, .inr (0, [.ref o, .ref lo, .ref od]))], bLaw g lo ac ls0 ll lm lg ld fc, bTown g od ad ped wod txd chd jod trd dyd sdd fd] (fun _ : Unit => some (.int 0)) (fun _ : Unit => ¬ n < 0 ∧ ¬ 100 < n) (fun _ : Unit => []) (fun (E : String) (_ : Unit) => E = "java/lang/IllegalArgumentException" ∧ (n < 0 ∨ 100 < n)) (fun _ : Unit => []) := by
  refine zX.of (cc := cX11_falls) (maxL := 2) (rt := (some .int)) (by decide) rfl (Nat.le_of_ble_eq_true rfl) ?_
  intro p e s m args below meth c A ls St hr hlocks htab hin hK hT hA hP hD hS hl
  obtain ⟨hx, hb, hml, hown, hts⟩ := id St
  have hl : lv_has ls 2 [(0, .ref x), (1, .int n)] := hl
  refine lv_aload_n hx hb dX11_falls_0 rfl (lv_at hl 0 rfl) ?_
  refine lv_iload_n hx hb dX11_falls_1 rfl (lv_at hl 1 rfl) ?_
  refine lv_iconst (v := 0) hx hb dX11_falls_2 (by decide) ?_
  refine lv_bipush (v := 100) hx hb dX11_falls_3 (by decide) ?_
  refine xcallV (g := g) (q0 := 0) (ci := 9) (As := [.int n, .int 0, .int 100]) (rest := []) St hK hT hA hP hD hS hl.1 [0] [1, 2, 3, 4] rfl rfl rfl (c_nw_0_100 l hfl g x ta o lo go tt lt mo fo ro fl9 n ) (cwV 3 hts (zgL (zl4 k646 k647 k648 k595) k645) rfl rfl rfl (by decide +kernel) ⟨Nat.le_of_ble_eq_true rfl, Nat.le_of_ble_eq_true rfl⟩) rfl rfl rfl rfl (Nat.le_of_ble_eq_true rfl) dX11_falls_5 ⟨(Nat.le_of_ble_eq_true rfl), (Nat.le_of_ble_eq_true rfl)⟩ (fun E ce q9 u9 H locs hpx hP hD hS hce hcv hcl => ?_) (fun _u H locs hq1 hP hD hS => ?_)
  · skip
    have hpx : (fun (E : String) (_ : Unit) => E = "java/lang/IllegalArgumentException" ∧ ((n : Int32) < 0 ∨ 100 < (n : Int32))) E u9 := hpx
    have hP : va_P g.1 vwCl (List.flatten [bTown g o a 0 0 tx ch jo tr dy sd f, [(fo, .inr (0, [.ref o, .ref lo, .ref od]))], bLaw g lo ac ls0 ll lm lg ld fc, bTown g od ad ped wod txd chd jod trd dyd sdd fd]) H := hP
    have hD : va_D A (List.flatten [bTown g o a 0 0 tx ch jo tr dy sd f, [(fo, .inr (0, [.ref o, .ref lo, .ref od]))], bLaw g lo ac ls0 ll lm lg ld fc, bTown g od ad ped wod txd chd jod trd dyd sdd fd]) := hD
    have hP : va_P g.1 vwCl (List.flatten [bTown g o a 0 0 tx ch jo tr dy sd f, [(fo, .inr (0, [.ref o, .ref lo, .ref od]))], bLaw g lo ac ls0 ll lm lg ld fc, bTown g od ad ped wod txd chd jod trd dyd sdd fd]) H := hP
    have hD : va_D A (List.flatten [bTown g o a 0 0 tx ch jo tr dy sd f, [(fo, .inr (0, [.ref o, .ref lo, .ref od]))], bLaw g lo ac ls0 ll lm lg ld fc, bTown g od ad ped wod txd chd jod trd dyd sdd fd]) := hD
    obtain ⟨hP, hD⟩ := zord (g := g) (Bs' := []) [] rfl rfl hP hD
    exact zout htab hlocks hS (Nat.le_of_ble_eq_true rfl) (Nat.le_of_ble_eq_true rfl) hce hcv hcl () hpx hP hD
  · skip
    have hq1 : ¬ (n : Int32) < 0 ∧ ¬ 100 < (n : Int32) := hq1
    have hP : va_P g.1 vwCl (List.flatten [bTown g o a 0 0 tx ch jo tr dy sd f, [(fo, .inr (0, [.ref o, .ref lo, .ref od]))], bLaw g lo ac ls0 ll lm lg ld fc, bTown g od ad ped wod txd chd jod trd dyd sdd fd, bDR g x ta o lo go tt lt mo fo ro fl9]) H := hP
    have hD : va_D A (List.flatten [bTown g o a 0 0 tx ch jo tr dy sd f, [(fo, .inr (0, [.ref o, .ref lo, .ref od]))], bLaw g lo ac ls0 ll lm lg ld fc, bTown g od ad ped wod txd chd jod trd dyd sdd fd, bDR g x ta o lo go tt lt mo fo ro fl9]) := hD
    refine W.widen (k := 1) (n := 6) (Nat.le_of_ble_eq_true rfl) (Nat.le_of_ble_eq_true rfl) ?_
    refine W.eq (g2 := F0 m 8 ls []) rfl ?_
    refine lv_aload_n hx hb dX11_falls_8 rfl (lv_at hl 0 rfl) ?_
    refine va_get (D := g.1) (ci := 9) (v := .ref fo) (C := RX11) (T := TX11) (N := 10) hx hb hts izRX11 hown hK hP 27 rfl rfl 7 (by decide) (hts _ k528) (fun _ h9 => h9) rfl dX11_falls_9 ?_
    refine lv_iconst (v := 0) hx hb dX11_falls_12 (by decide) ?_
    refine lv_iconst (v := 0) hx hb dX11_falls_13 (by decide) ?_
    refine lv_iload_n hx hb dX11_falls_14 rfl (lv_at hl 1 rfl) ?_
    refine mcallV (g := g) (q0 := 0) (ci := 0) (As := [.int 0, .int 0, .int n]) (rest := []) St hK hT hA hP hD hS hl.1 [1, 0, 2, 3] [4] rfl rfl rfl (c_lookAhead l g fo o a tx ch jo tr dy sd f lo ac ls0 ll lm lg ld fc od ad ped wod txd chd jod trd dyd sdd fd 0 0 n (by assumption) (zrg100 hq1)) (cwV 3 hts (zgL (zl4 k663 k167 k168 k169) k164) rfl rfl rfl (by decide +kernel) ⟨Nat.le_of_ble_eq_true rfl, Nat.le_of_ble_eq_true rfl⟩) rfl rfl rfl rfl (Nat.le_of_ble_eq_true rfl) dX11_falls_15 ⟨(Nat.le_of_ble_eq_true rfl), (Nat.le_of_ble_eq_true rfl)⟩ (fun u_ H locs hq7 hP hD hS => ?_)
    obtain ⟨dy3_2, h3_3, m3_4, g3_5, d3_6⟩ := u_
    have hP : va_P g.1 vwCl (List.flatten [bDR g x ta o lo go tt lt mo fo ro fl9, [(fo, .inr (0, [.ref o, .ref lo, .ref od]))], bTown g o a 0 0 tx ch jo tr dy sd f, bLaw g lo ac ls0 ll m3_4 g3_5 d3_6 fc, bTown g od ad 0 0 tx ch jo tr dy3_2 sd h3_3]) H := hP
    have hD : va_D A (List.flatten [bDR g x ta o lo go tt lt mo fo ro fl9, [(fo, .inr (0, [.ref o, .ref lo, .ref od]))], bTown g o a 0 0 tx ch jo tr dy sd f, bLaw g lo ac ls0 ll m3_4 g3_5 d3_6 fc, bTown g od ad 0 0 tx ch jo tr dy3_2 sd h3_3]) := hD
    refine W.widen (k := 1) (n := 6) (Nat.le_of_ble_eq_true rfl) (Nat.le_of_ble_eq_true rfl) ?_
    refine W.eq (g2 := F0 m 18 ls [.int 0]) rfl ?_
    refine lv_pop hx hb dX11_falls_18 rfl ?_
    refine lv_aload_n hx hb dX11_falls_19 rfl (lv_at hl 0 rfl) ?_
    refine va_get (D := g.1) (ci := 9) (v := .ref fo) (C := RX11) (T := TX11) (N := 10) hx hb hts izRX11 hown hK hP 0 rfl rfl 7 (by decide) (hts _ k528) (fun _ h9 => h9) rfl dX11_falls_20 ?_
    refine va_get (D := g.1) (ci := 0) (v := .ref od) (C := RX0) (T := TX0) (N := 3) hx hb hts izRX0 hown hK hP 1 rfl rfl 2 (by decide) (hts _ k662) (fun _ h9 => h9) rfl dX11_falls_23 ?_
    refine lv_iconst (v := 2) hx hb dX11_falls_26 (by decide) ?_
    refine mcallV (g := g) (q0 := 0) (ci := 7) (As := [.int 2]) (rest := []) St hK hT hA hP hD hS hl.1 [4] [0, 1, 2, 3] rfl rfl rfl (c_worksIn l g od ad tx ch jo tr dy3_2 sd h3_3 2 ) (cwV 1 hts (zgL (zl4 k689 k68 k69 k24) k59) rfl rfl rfl (by decide +kernel) ⟨Nat.le_of_ble_eq_true rfl, Nat.le_of_ble_eq_true rfl⟩) rfl rfl rfl rfl (Nat.le_of_ble_eq_true rfl) dX11_falls_27 ⟨(Nat.le_of_ble_eq_true rfl), (Nat.le_of_ble_eq_true rfl)⟩ (fun _u H locs hq8 hP hD hS => ?_)
    have hP : va_P g.1 vwCl (List.flatten [bDR g x ta o lo go tt lt mo fo ro fl9, [(fo, .inr (0, [.ref o, .ref lo, .ref od]))], bTown g o a 0 0 tx ch jo tr dy sd f, bLaw g lo ac ls0 ll m3_4 g3_5 d3_6 fc, bTown g od ad 0 0 tx ch jo tr dy3_2 sd h3_3]) H := hP
    have hD : va_D A (List.flatten [bDR g x ta o lo go tt lt mo fo ro fl9, [(fo, .inr (0, [.ref o, .ref lo, .ref od]))], bTown g o a 0 0 tx ch jo tr dy sd f, bLaw g lo ac ls0 ll m3_4 g3_5 d3_6 fc, bTown g od ad 0 0 tx ch jo tr dy3_2 sd h3_3]) := hD
    refine W.widen (k := 1) (n := 6) (Nat.le_of_ble_eq_true rfl) (Nat.le_of_ble_eq_true rfl) ?_
    refine W.eq (g2 := F0 m 30 ls [.int 0]) rfl ?_
    refine lv_aload_n hx hb dX11_falls_30 rfl (lv_at hl 0 rfl) ?_
    refine va_get (D := g.1) (ci := 9) (v := .ref o) (C := RX11) (T := TX11) (N := 10) hx hb hts izRX11 hown hK hP 0 rfl rfl 1 (by decide) (hts _ k512) (fun _ h9 => h9) rfl dX11_falls_31 ?_
    refine lv_iconst (v := 2) hx hb dX11_falls_34 (by decide) ?_
    refine mcallV (g := g) (q0 := 0) (ci := 7) (As := [.int 2]) (rest := [.int 0]) St hK hT hA hP hD hS hl.1 [2] [0, 1, 3, 4] rfl rfl rfl (c_worksIn l g o a tx ch jo tr dy sd f 2 ) (cwV 1 hts (zgL (zl4 k689 k68 k69 k24) k59) rfl rfl rfl (by decide +kernel) ⟨Nat.le_of_ble_eq_true rfl, Nat.le_of_ble_eq_true rfl⟩) rfl rfl rfl rfl (Nat.le_of_ble_eq_true rfl) dX11_falls_35 ⟨(Nat.le_of_ble_eq_true rfl), (Nat.le_of_ble_eq_true rfl)⟩ (fun _u H locs hq9 hP hD hS => ?_)
    have hP : va_P g.1 vwCl (List.flatten [bDR g x ta o lo go tt lt mo fo ro fl9, [(fo, .inr (0, [.ref o, .ref lo, .ref od]))], bLaw g lo ac ls0 ll m3_4 g3_5 d3_6 fc, bTown g od ad 0 0 tx ch jo tr dy3_2 sd h3_3, bTown g o a 0 0 tx ch jo tr dy sd f]) H := hP
    have hD : va_D A (List.flatten [bDR g x ta o lo go tt lt mo fo ro fl9, [(fo, .inr (0, [.ref o, .ref lo, .ref od]))], bLaw g lo ac ls0 ll m3_4 g3_5 d3_6 fc, bTown g od ad 0 0 tx ch jo tr dy3_2 sd h3_3, bTown g o a 0 0 tx ch jo tr dy sd f]) := hD
    refine W.widen (k := 1) (n := 6) (Nat.le_of_ble_eq_true rfl) (Nat.le_of_ble_eq_true rfl) ?_
    refine W.eq (g2 := F0 m 38 ls [.int 0, .int 0]) rfl ?_
    refine lv_iconst (v := (-1)) hx hb dX11_falls_38 (by decide) ?_
    refine lv_ixor hx hb dX11_falls_39 ?_
    refine ztop (r := (-1)) (by decide) ?_
    refine lv_iand hx hb dX11_falls_40 ?_
    refine ztop (r := 0) (by decide) ?_
    have hP : va_P g.1 vwCl (List.flatten [bDR g x ta o lo go tt lt mo fo ro fl9, [(fo, .inr (0, [.ref o, .ref lo, .ref od]))], bLaw g lo ac ls0 ll m3_4 g3_5 d3_6 fc, bTown g od ad 0 0 tx ch jo tr dy3_2 sd h3_3, bTown g o a 0 0 tx ch jo tr dy sd f]) H := hP
    have hD : va_D A (List.flatten [bDR g x ta o lo go tt lt mo fo ro fl9, [(fo, .inr (0, [.ref o, .ref lo, .ref od]))], bLaw g lo ac ls0 ll m3_4 g3_5 d3_6 fc, bTown g od ad 0 0 tx ch jo tr dy3_2 sd h3_3, bTown g o a 0 0 tx ch jo tr dy sd f]) := hD
    obtain ⟨hP, hD⟩ := zord (g := g) (Bs' := []) [] rfl rfl hP hD
    exact zret_i hx hb hr hlocks hS (Nat.le_of_ble_eq_true rfl) (Nat.le_of_ble_eq_true rfl) dX11_falls_41 () rfl hq1 hP hD
set_option maxRecDepth 100000 in
set_option maxHeartbeats 4000000 in
theorem c_trial (l : Launch) (hfl : l.stackTraces = false) (g : zG) (x : Nat) (ta : Nat) (o : Nat) (lo : Nat) (go : Nat) (tt : Nat) (lt : Nat) (mo : Nat) (fo : Nat) (ro : Nat) (fl9 : Int32) (a : Nat → Nat) (tx : Int32) (ch : Int32) (jo : Int32) (tr : Int32) (dy : Int32) (sd : Int32) (f : Nat → Nat → Int32) (ac : Nat) (ls0 : Int32) (ll : Int32) (lm : Int32) (lg : Int32) (ld : Int32) (fc : Nat → Int32) (od : Nat) (ad : Nat → Nat) (ped : Int32) (wod : Int32) (txd : Int32) (chd : Int32) (jod : Int32) (trd : Int32) (dyd : Int32) (sdd : Int32) (fd : Nat → Nat → Int32) (n : Int32) (c9 : Int32) (hz : zZ (f 4)) : zX g l yX11_trial (Cond.code yX11_trial cX11_trial 4 (some .int) :: zB) ({ frames := 7, cells := 1, slots := 6, locals := 111 } : Room) [.ref x, .int n, .int c9] [bDR g x ta o lo go tt lt mo fo ro fl9, bTown g o a 0 0 tx ch jo tr dy sd f, [(fo, .inr (0, [.ref o, .ref lo, .ref od]))], bLaw g lo ac ls0 ll lm lg ld fc, bTown g od ad ped wod txd chd jod trd dyd sdd fd] (fun (q : Int32) => some (.int q)) (fun (q : Int32) => (¬ n < 0 ∧ ¬ 60 < n) ∧ q = if c9 = 0 then 0 else ch) (fun (q : Int32) => []) (fun (E : String) (_ : Unit) => E = "java/lang/IllegalArgumentException" ∧ (n < 0 ∨ 60 < n)) (fun _ : Unit => []) := by
  refine zX.of (cc := cX11_trial) (maxL := 4) (rt := (some .int)) (by decide) rfl (Nat.le_of_ble_eq_true rfl) ?_
  intro p e s m args below meth c A ls St hr hlocks htab hin hK hT hA hP hD hS hl
  obtain ⟨hx, hb, hml, hown, hts⟩ := id St
  have hl : lv_has ls 4 [(0, .ref x), (1, .int n), (2, .int c9)] := hl
  refine lv_aload_n hx hb dX11_trial_0 rfl (lv_at hl 0 rfl) ?_
  refine lv_iload_n hx hb dX11_trial_1 rfl (lv_at hl 1 rfl) ?_
  refine lv_iconst (v := 0) hx hb dX11_trial_2 (by decide) ?_
  refine lv_bipush (v := 60) hx hb dX11_trial_3 (by decide) ?_
  refine xcallV (g := g) (q0 := 0) (ci := 9) (As := [.int n, .int 0, .int 60]) (rest := []) St hK hT hA hP hD hS hl.1 [0] [1, 2, 3, 4] rfl rfl rfl (c_nw_0_60 l hfl g x ta o lo go tt lt mo fo ro fl9 n ) (cwV 3 hts (zgL (zl4 k646 k647 k648 k595) k645) rfl rfl rfl (by decide +kernel) ⟨Nat.le_of_ble_eq_true rfl, Nat.le_of_ble_eq_true rfl⟩) rfl rfl rfl rfl (Nat.le_of_ble_eq_true rfl) dX11_trial_5 ⟨(Nat.le_of_ble_eq_true rfl), (Nat.le_of_ble_eq_true rfl)⟩ (fun E ce q9 u9 H locs hpx hP hD hS hce hcv hcl => ?_) (fun _u H locs hq1 hP hD hS => ?_)
  · skip
    have hpx : (fun (E : String) (_ : Unit) => E = "java/lang/IllegalArgumentException" ∧ ((n : Int32) < 0 ∨ 60 < (n : Int32))) E u9 := hpx
    have hP : va_P g.1 vwCl (List.flatten [bTown g o a 0 0 tx ch jo tr dy sd f, [(fo, .inr (0, [.ref o, .ref lo, .ref od]))], bLaw g lo ac ls0 ll lm lg ld fc, bTown g od ad ped wod txd chd jod trd dyd sdd fd]) H := hP
    have hD : va_D A (List.flatten [bTown g o a 0 0 tx ch jo tr dy sd f, [(fo, .inr (0, [.ref o, .ref lo, .ref od]))], bLaw g lo ac ls0 ll lm lg ld fc, bTown g od ad ped wod txd chd jod trd dyd sdd fd]) := hD
    have hP : va_P g.1 vwCl (List.flatten [bTown g o a 0 0 tx ch jo tr dy sd f, [(fo, .inr (0, [.ref o, .ref lo, .ref od]))], bLaw g lo ac ls0 ll lm lg ld fc, bTown g od ad ped wod txd chd jod trd dyd sdd fd]) H := hP
    have hD : va_D A (List.flatten [bTown g o a 0 0 tx ch jo tr dy sd f, [(fo, .inr (0, [.ref o, .ref lo, .ref od]))], bLaw g lo ac ls0 ll lm lg ld fc, bTown g od ad ped wod txd chd jod trd dyd sdd fd]) := hD
    obtain ⟨hP, hD⟩ := zord (g := g) (Bs' := []) [] rfl rfl hP hD
    exact zout htab hlocks hS (Nat.le_of_ble_eq_true rfl) (Nat.le_of_ble_eq_true rfl) hce hcv hcl () hpx hP hD
  · skip
    have hq1 : ¬ (n : Int32) < 0 ∧ ¬ 60 < (n : Int32) := hq1
    have hP : va_P g.1 vwCl (List.flatten [bTown g o a 0 0 tx ch jo tr dy sd f, [(fo, .inr (0, [.ref o, .ref lo, .ref od]))], bLaw g lo ac ls0 ll lm lg ld fc, bTown g od ad ped wod txd chd jod trd dyd sdd fd, bDR g x ta o lo go tt lt mo fo ro fl9]) H := hP
    have hD : va_D A (List.flatten [bTown g o a 0 0 tx ch jo tr dy sd f, [(fo, .inr (0, [.ref o, .ref lo, .ref od]))], bLaw g lo ac ls0 ll lm lg ld fc, bTown g od ad ped wod txd chd jod trd dyd sdd fd, bDR g x ta o lo go tt lt mo fo ro fl9]) := hD
    refine W.widen (k := 1) (n := 6) (Nat.le_of_ble_eq_true rfl) (Nat.le_of_ble_eq_true rfl) ?_
    refine W.eq (g2 := F0 m 8 ls []) rfl ?_
    refine lv_aload_n hx hb dX11_trial_8 rfl (lv_at hl 0 rfl) ?_
    refine va_get (D := g.1) (ci := 9) (v := .ref fo) (C := RX11) (T := TX11) (N := 10) hx hb hts izRX11 hown hK hP 27 rfl rfl 7 (by decide) (hts _ k528) (fun _ h9 => h9) rfl dX11_trial_9 ?_
    refine lv_aload_n hx hb dX11_trial_12 rfl (lv_at hl 0 rfl) ?_
    refine va_get (D := g.1) (ci := 9) (v := .ref o) (C := RX11) (T := TX11) (N := 10) hx hb hts izRX11 hown hK hP 27 rfl rfl 1 (by decide) (hts _ k512) (fun _ h9 => h9) rfl dX11_trial_13 ?_
    refine va_get (D := g.1) (ci := 7) (v := .int sd) (C := RX9) (T := TX9) (N := 19) hx hb hts izRX9 hown hK hP 0 rfl rfl 7 (by decide) (hts _ k767) (fun _ h9 => h9) rfl dX11_trial_16 ?_
    refine lv_iload_n hx hb dX11_trial_19 rfl (lv_at hl 1 rfl) ?_
    refine mcallV (g := g) (q0 := 0) (ci := 0) (As := [.int sd, .int n]) (rest := []) St hK hT hA hP hD hS hl.1 [1, 0, 2, 3] [4] rfl rfl rfl (c_tryOut l g fo o a tx ch jo tr dy sd f lo ac ls0 ll lm lg ld fc od ad ped wod txd chd jod trd dyd sdd fd sd n (by assumption) (zrg60 hq1)) (cwV 2 hts (zgL (zl4 k768 k192 k193 k169) k190) rfl rfl rfl (by decide +kernel) ⟨Nat.le_of_ble_eq_true rfl, Nat.le_of_ble_eq_true rfl⟩) rfl rfl rfl rfl (Nat.le_of_ble_eq_true rfl) dX11_trial_20 ⟨(Nat.le_of_ble_eq_true rfl), (Nat.le_of_ble_eq_true rfl)⟩ (fun u_ H locs hq7 hP hD hS => ?_)
    obtain ⟨dy3_2, h3_3, m3_4, g3_5, d3_6⟩ := u_
    have hP : va_P g.1 vwCl (List.flatten [bDR g x ta o lo go tt lt mo fo ro fl9, [(fo, .inr (0, [.ref o, .ref lo, .ref od]))], bTown g o a 0 0 tx ch jo tr dy sd f, bLaw g lo ac ls0 ll m3_4 g3_5 d3_6 fc, bTown g od ad 0 0 tx ch jo tr dy3_2 sd h3_3]) H := hP
    have hD : va_D A (List.flatten [bDR g x ta o lo go tt lt mo fo ro fl9, [(fo, .inr (0, [.ref o, .ref lo, .ref od]))], bTown g o a 0 0 tx ch jo tr dy sd f, bLaw g lo ac ls0 ll m3_4 g3_5 d3_6 fc, bTown g od ad 0 0 tx ch jo tr dy3_2 sd h3_3]) := hD
    refine W.widen (k := 1) (n := 6) (Nat.le_of_ble_eq_true rfl) (Nat.le_of_ble_eq_true rfl) ?_
    refine W.eq (g2 := F0 m 23 ls [.int 0]) rfl ?_
    refine lv_istore_n (lv' := [(3, .int 0), (0, .ref x), (1, .int n), (2, .int c9)]) hx hb dX11_trial_23 rfl hl (by decide) rfl (fun ls hl => ?_)
    refine lv_iload_n hx hb dX11_trial_24 rfl (lv_at hl 3 rfl) ?_
    refine lv_if_eq (tgt := 41) hx hb dX11_trial_25 (by decide) (fun cB => ?_) (fun cB => ?_)
    · skip
      refine lv_iload_n hx hb dX11_trial_41 rfl (lv_at hl 0 rfl) ?_
      have hP : va_P g.1 vwCl (List.flatten [bDR g x ta o lo go tt lt mo fo ro fl9, [(fo, .inr (0, [.ref o, .ref lo, .ref od]))], bTown g o a 0 0 tx ch jo tr dy sd f, bLaw g lo ac ls0 ll m3_4 g3_5 d3_6 fc, bTown g od ad 0 0 tx ch jo tr dy3_2 sd h3_3]) H := hP
      have hD : va_D A (List.flatten [bDR g x ta o lo go tt lt mo fo ro fl9, [(fo, .inr (0, [.ref o, .ref lo, .ref od]))], bTown g o a 0 0 tx ch jo tr dy sd f, bLaw g lo ac ls0 ll m3_4 g3_5 d3_6 fc, bTown g od ad 0 0 tx ch jo tr dy3_2 sd h3_3]) := hD
      obtain ⟨hP, hD⟩ := zord (g := g) (Bs' := []) [] rfl rfl hP hD
      exact zret_i hx hb hr hlocks hS (Nat.le_of_ble_eq_true rfl) (Nat.le_of_ble_eq_true rfl) dX11_trial_42 (0) rfl (⟨hq1, (if_pos cB).symm⟩) hP hD
    · skip
      refine lv_aload_n hx hb dX11_trial_28 rfl (lv_at hl 1 rfl) ?_
      refine va_get (D := g.1) (ci := 9) (v := .ref fo) (C := RX11) (T := TX11) (N := 10) hx hb hts izRX11 hown hK hP 0 rfl rfl 7 (by decide) (hts _ k528) (fun _ h9 => h9) rfl dX11_trial_29 ?_
      refine va_get (D := g.1) (ci := 0) (v := .ref od) (C := RX0) (T := TX0) (N := 3) hx hb hts izRX0 hown hK hP 1 rfl rfl 2 (by decide) (hts _ k662) (fun _ h9 => h9) rfl dX11_trial_32 ?_
      refine va_get (D := g.1) (ci := 7) (v := .int ch) (C := RX9) (T := TX9) (N := 19) hx hb hts izRX9 hown hK hP 16 rfl rfl 3 (by decide) (hts _ k655) (fun _ h9 => h9) rfl dX11_trial_35 ?_
      refine lv_goto (tgt := 42) hx hb dX11_trial_38 (by decide) ?_
      have hP : va_P g.1 vwCl (List.flatten [bDR g x ta o lo go tt lt mo fo ro fl9, [(fo, .inr (0, [.ref o, .ref lo, .ref od]))], bTown g o a 0 0 tx ch jo tr dy sd f, bLaw g lo ac ls0 ll m3_4 g3_5 d3_6 fc, bTown g od ad 0 0 tx ch jo tr dy3_2 sd h3_3]) H := hP
      have hD : va_D A (List.flatten [bDR g x ta o lo go tt lt mo fo ro fl9, [(fo, .inr (0, [.ref o, .ref lo, .ref od]))], bTown g o a 0 0 tx ch jo tr dy sd f, bLaw g lo ac ls0 ll m3_4 g3_5 d3_6 fc, bTown g od ad 0 0 tx ch jo tr dy3_2 sd h3_3]) := hD
      obtain ⟨hP, hD⟩ := zord (g := g) (Bs' := []) [] rfl rfl hP hD
      exact zret_i hx hb hr hlocks hS (Nat.le_of_ble_eq_true rfl) (Nat.le_of_ble_eq_true rfl) dX11_trial_42 (ch) rfl (⟨hq1, (if_neg cB).symm⟩) hP hD
set_option maxRecDepth 100000 in
set_option maxHeartbeats 4000000 in
theorem c_span (l : Launch) (hfl : l.stackTraces = false) (g : zG) (x : Nat) (ta : Nat) (o : Nat) (lo : Nat) (go : Nat) (tt : Nat) (lt : Nat) (mo : Nat) (fo : Nat) (ro : Nat) (fl9 : Int32) (a : Nat → Nat) (tx : Int32) (ch : Int32) (jo : Int32) (tr : Int32) (dy : Int32) (sd : Int32) (f : Nat → Nat → Int32) (ac : Nat) (ls0 : Int32) (ll : Int32) (lm : Int32) (lg : Int32) (ld : Int32) (fc : Nat → Int32) (od : Nat) (ad : Nat → Nat) (ped : Int32) (wod : Int32) (txd : Int32) (chd : Int32) (jod : Int32) (trd : Int32) (dyd : Int32) (sdd : Int32) (fd : Nat → Nat → Int32) (n : Int32) (m9 : Int32) (hz : zZ (f 4)) : zX g l yX11_span (Cond.code yX11_span cX11_span 3 (some .int) :: zB) ({ frames := 7, cells := 1, slots := 6, locals := 136 } : Room) [.ref x, .int n, .int m9] [bDR g x ta o lo go tt lt mo fo ro fl9, bTown g o a 0 0 tx ch jo tr dy sd f, [(fo, .inr (0, [.ref o, .ref lo, .ref od]))], bLaw g lo ac ls0 ll lm lg ld fc, bTown g od ad ped wod txd chd jod trd dyd sdd fd] (fun _ : Unit => some (.int 0)) (fun _ : Unit => ¬ n < 0 ∧ ¬ 60 < n) (fun _ : Unit => []) (fun (E : String) (_ : Unit) => E = "java/lang/IllegalArgumentException" ∧ (n < 0 ∨ 60 < n)) (fun _ : Unit => []) := by
  refine zX.of (cc := cX11_span) (maxL := 3) (rt := (some .int)) (by decide) rfl (Nat.le_of_ble_eq_true rfl) ?_
  intro p e s m args below meth c A ls St hr hlocks htab hin hK hT hA hP hD hS hl
  obtain ⟨hx, hb, hml, hown, hts⟩ := id St
  have hl : lv_has ls 3 [(0, .ref x), (1, .int n), (2, .int m9)] := hl
  refine lv_aload_n hx hb dX11_span_0 rfl (lv_at hl 0 rfl) ?_
  refine lv_iload_n hx hb dX11_span_1 rfl (lv_at hl 1 rfl) ?_
  refine lv_iconst (v := 0) hx hb dX11_span_2 (by decide) ?_
  refine lv_bipush (v := 60) hx hb dX11_span_3 (by decide) ?_
  refine xcallV (g := g) (q0 := 0) (ci := 9) (As := [.int n, .int 0, .int 60]) (rest := []) St hK hT hA hP hD hS hl.1 [0] [1, 2, 3, 4] rfl rfl rfl (c_nw_0_60 l hfl g x ta o lo go tt lt mo fo ro fl9 n ) (cwV 3 hts (zgL (zl4 k646 k647 k648 k595) k645) rfl rfl rfl (by decide +kernel) ⟨Nat.le_of_ble_eq_true rfl, Nat.le_of_ble_eq_true rfl⟩) rfl rfl rfl rfl (Nat.le_of_ble_eq_true rfl) dX11_span_5 ⟨(Nat.le_of_ble_eq_true rfl), (Nat.le_of_ble_eq_true rfl)⟩ (fun E ce q9 u9 H locs hpx hP hD hS hce hcv hcl => ?_) (fun _u H locs hq1 hP hD hS => ?_)
  · skip
    have hpx : (fun (E : String) (_ : Unit) => E = "java/lang/IllegalArgumentException" ∧ ((n : Int32) < 0 ∨ 60 < (n : Int32))) E u9 := hpx
    have hP : va_P g.1 vwCl (List.flatten [bTown g o a 0 0 tx ch jo tr dy sd f, [(fo, .inr (0, [.ref o, .ref lo, .ref od]))], bLaw g lo ac ls0 ll lm lg ld fc, bTown g od ad ped wod txd chd jod trd dyd sdd fd]) H := hP
    have hD : va_D A (List.flatten [bTown g o a 0 0 tx ch jo tr dy sd f, [(fo, .inr (0, [.ref o, .ref lo, .ref od]))], bLaw g lo ac ls0 ll lm lg ld fc, bTown g od ad ped wod txd chd jod trd dyd sdd fd]) := hD
    have hP : va_P g.1 vwCl (List.flatten [bTown g o a 0 0 tx ch jo tr dy sd f, [(fo, .inr (0, [.ref o, .ref lo, .ref od]))], bLaw g lo ac ls0 ll lm lg ld fc, bTown g od ad ped wod txd chd jod trd dyd sdd fd]) H := hP
    have hD : va_D A (List.flatten [bTown g o a 0 0 tx ch jo tr dy sd f, [(fo, .inr (0, [.ref o, .ref lo, .ref od]))], bLaw g lo ac ls0 ll lm lg ld fc, bTown g od ad ped wod txd chd jod trd dyd sdd fd]) := hD
    obtain ⟨hP, hD⟩ := zord (g := g) (Bs' := []) [] rfl rfl hP hD
    exact zout htab hlocks hS (Nat.le_of_ble_eq_true rfl) (Nat.le_of_ble_eq_true rfl) hce hcv hcl () hpx hP hD
  · skip
    have hq1 : ¬ (n : Int32) < 0 ∧ ¬ 60 < (n : Int32) := hq1
    have hP : va_P g.1 vwCl (List.flatten [bTown g o a 0 0 tx ch jo tr dy sd f, [(fo, .inr (0, [.ref o, .ref lo, .ref od]))], bLaw g lo ac ls0 ll lm lg ld fc, bTown g od ad ped wod txd chd jod trd dyd sdd fd, bDR g x ta o lo go tt lt mo fo ro fl9]) H := hP
    have hD : va_D A (List.flatten [bTown g o a 0 0 tx ch jo tr dy sd f, [(fo, .inr (0, [.ref o, .ref lo, .ref od]))], bLaw g lo ac ls0 ll lm lg ld fc, bTown g od ad ped wod txd chd jod trd dyd sdd fd, bDR g x ta o lo go tt lt mo fo ro fl9]) := hD
    refine W.widen (k := 1) (n := 6) (Nat.le_of_ble_eq_true rfl) (Nat.le_of_ble_eq_true rfl) ?_
    refine W.eq (g2 := F0 m 8 ls []) rfl ?_
    refine lv_aload_n hx hb dX11_span_8 rfl (lv_at hl 0 rfl) ?_
    refine va_get (D := g.1) (ci := 9) (v := .ref fo) (C := RX11) (T := TX11) (N := 10) hx hb hts izRX11 hown hK hP 27 rfl rfl 7 (by decide) (hts _ k528) (fun _ h9 => h9) rfl dX11_span_9 ?_
    refine lv_iload_n hx hb dX11_span_12 rfl (lv_at hl 1 rfl) ?_
    refine lv_iload_n hx hb dX11_span_13 rfl (lv_at hl 2 rfl) ?_
    refine mcallV (g := g) (q0 := 0) (ci := 0) (As := [.int n, .int m9]) (rest := []) St hK hT hA hP hD hS hl.1 [1, 0, 2, 3] [4] rfl rfl rfl (c_utmostOfSeeds l g fo o a tx ch jo tr dy sd f lo ac ls0 ll lm lg ld fc od ad ped wod txd chd jod trd dyd sdd fd n m9 (by assumption) (zrg60 hq1)) (cwV 2 hts (zgL (zl4 k770 k771 k772 k169) k194) rfl rfl rfl (by decide +kernel) ⟨Nat.le_of_ble_eq_true rfl, Nat.le_of_ble_eq_true rfl⟩) rfl rfl rfl rfl (Nat.le_of_ble_eq_true rfl) dX11_span_14 ⟨(Nat.le_of_ble_eq_true rfl), (Nat.le_of_ble_eq_true rfl)⟩ (fun _u H locs hq2 hP hD hS => ?_)
    have hP : va_P g.1 vwCl (List.flatten [bDR g x ta o lo go tt lt mo fo ro fl9]) H := hP
    have hD : va_D A (List.flatten [bDR g x ta o lo go tt lt mo fo ro fl9]) := hD
    refine W.widen (k := 1) (n := 6) (Nat.le_of_ble_eq_true rfl) (Nat.le_of_ble_eq_true rfl) ?_
    refine W.eq (g2 := F0 m 17 ls [.int 0]) rfl ?_
    have hP : va_P g.1 vwCl (List.flatten [bDR g x ta o lo go tt lt mo fo ro fl9]) H := hP
    have hD : va_D A (List.flatten [bDR g x ta o lo go tt lt mo fo ro fl9]) := hD
    obtain ⟨hP, hD⟩ := zord (g := g) (Bs' := []) [] rfl rfl hP hD
    exact zret_i hx hb hr hlocks hS (Nat.le_of_ble_eq_true rfl) (Nat.le_of_ble_eq_true rfl) dX11_span_17 () rfl hq1 hP hD
set_option maxRecDepth 100000 in
set_option maxHeartbeats 4000000 in
theorem c_days (l : Launch) (hfl : l.stackTraces = false) (g : zG) (x : Nat) (ta : Nat) (o : Nat) (lo : Nat) (go : Nat) (tt : Nat) (lt : Nat) (mo : Nat) (fo : Nat) (ro : Nat) (fl9 : Int32) (a : Nat → Nat) (tx : Int32) (ch : Int32) (jo : Int32) (tr : Int32) (dy : Int32) (sd : Int32) (f : Nat → Nat → Int32) (ac : Nat) (ls0 : Int32) (ll : Int32) (lm : Int32) (lg : Int32) (ld : Int32) (fc : Nat → Int32) (ar : Nat) (gs : Int32) (gn : Int32) (fr : Nat → Int32) (qT : Nat) (qL : Nat) (it : Nat) (il : Nat) (ig : Nat) (mh : Int32) (fT : Nat → Option Nat) (fL : Nat → Option Nat) (t0 : Nat) (a2 : Nat → Nat) (pe2 : Int32) (wo2 : Int32) (tx2 : Int32) (ch2 : Int32) (jo2 : Int32) (tr2 : Int32) (dy2 : Int32) (sd2 : Int32) (f2 : Nat → Nat → Int32) (l0 : Nat) (ar2 : Nat) (gs2 : Int32) (gn2 : Int32) (fr2 : Nat → Int32) (n : Int32) (hz : zZ (f 4)) (hT0 : fT 0 = some t0) (hL0 : fL 0 = some l0) : zX g l yX11_days (Cond.code yX11_days cX11_days 4 (some .int) :: zB) ({ frames := 7, cells := 1, slots := 6, locals := 105 } : Room) [.ref x, .int n] [bDR g x ta o lo go tt lt mo fo ro fl9, bTown g o a 0 0 tx ch jo tr dy sd f, bLaw g lo ac ls0 ll lm lg ld fc, bLog g go ar gs gn fr, bMem g mo qT qL it il ig mh 0 0 fT fL, bTown g t0 a2 pe2 wo2 tx2 ch2 jo2 tr2 dy2 sd2 f2, bLog g l0 ar2 gs2 gn2 fr2] (fun _ : Unit => some (.int 0)) (fun _ : Unit => ¬ n < 1 ∧ ¬ 60 < n) (fun _ : Unit => []) (fun (E : String) (_ : Unit) => E = "java/lang/IllegalArgumentException" ∧ (n < 1 ∨ 60 < n)) (fun _ : Unit => []) := by
  refine zX.of (cc := cX11_days) (maxL := 4) (rt := (some .int)) (by decide) rfl (Nat.le_of_ble_eq_true rfl) ?_
  intro p e s m args below meth c A ls St hr hlocks htab hin hK hT hA hP hD hS hl
  obtain ⟨hx, hb, hml, hown, hts⟩ := id St
  have hl : lv_has ls 4 [(0, .ref x), (1, .int n)] := hl
  refine lv_aload_n hx hb dX11_days_0 rfl (lv_at hl 0 rfl) ?_
  refine lv_iload_n hx hb dX11_days_1 rfl (lv_at hl 1 rfl) ?_
  refine lv_iconst (v := 1) hx hb dX11_days_2 (by decide) ?_
  refine lv_bipush (v := 60) hx hb dX11_days_3 (by decide) ?_
  refine xcallV (g := g) (q0 := 0) (ci := 9) (As := [.int n, .int 1, .int 60]) (rest := []) St hK hT hA hP hD hS hl.1 [0] [1, 2, 3, 4, 5, 6] rfl rfl rfl (c_nw_1_60 l hfl g x ta o lo go tt lt mo fo ro fl9 n ) (cwV 3 hts (zgL (zl4 k646 k647 k648 k595) k645) rfl rfl rfl (by decide +kernel) ⟨Nat.le_of_ble_eq_true rfl, Nat.le_of_ble_eq_true rfl⟩) rfl rfl rfl rfl (Nat.le_of_ble_eq_true rfl) dX11_days_5 ⟨(Nat.le_of_ble_eq_true rfl), (Nat.le_of_ble_eq_true rfl)⟩ (fun E ce q9 u9 H locs hpx hP hD hS hce hcv hcl => ?_) (fun _u H locs hq1 hP hD hS => ?_)
  · skip
    have hpx : (fun (E : String) (_ : Unit) => E = "java/lang/IllegalArgumentException" ∧ ((n : Int32) < 1 ∨ 60 < (n : Int32))) E u9 := hpx
    have hP : va_P g.1 vwCl (List.flatten [bTown g o a 0 0 tx ch jo tr dy sd f, bLaw g lo ac ls0 ll lm lg ld fc, bLog g go ar gs gn fr, bMem g mo qT qL it il ig mh 0 0 fT fL, bTown g t0 a2 pe2 wo2 tx2 ch2 jo2 tr2 dy2 sd2 f2, bLog g l0 ar2 gs2 gn2 fr2]) H := hP
    have hD : va_D A (List.flatten [bTown g o a 0 0 tx ch jo tr dy sd f, bLaw g lo ac ls0 ll lm lg ld fc, bLog g go ar gs gn fr, bMem g mo qT qL it il ig mh 0 0 fT fL, bTown g t0 a2 pe2 wo2 tx2 ch2 jo2 tr2 dy2 sd2 f2, bLog g l0 ar2 gs2 gn2 fr2]) := hD
    have hP : va_P g.1 vwCl (List.flatten [bTown g o a 0 0 tx ch jo tr dy sd f, bLaw g lo ac ls0 ll lm lg ld fc, bLog g go ar gs gn fr, bMem g mo qT qL it il ig mh 0 0 fT fL, bTown g t0 a2 pe2 wo2 tx2 ch2 jo2 tr2 dy2 sd2 f2, bLog g l0 ar2 gs2 gn2 fr2]) H := hP
    have hD : va_D A (List.flatten [bTown g o a 0 0 tx ch jo tr dy sd f, bLaw g lo ac ls0 ll lm lg ld fc, bLog g go ar gs gn fr, bMem g mo qT qL it il ig mh 0 0 fT fL, bTown g t0 a2 pe2 wo2 tx2 ch2 jo2 tr2 dy2 sd2 f2, bLog g l0 ar2 gs2 gn2 fr2]) := hD
    obtain ⟨hP, hD⟩ := zord (g := g) (Bs' := []) [] rfl rfl hP hD
    exact zout htab hlocks hS (Nat.le_of_ble_eq_true rfl) (Nat.le_of_ble_eq_true rfl) hce hcv hcl () hpx hP hD
  · skip
    have hq1 : ¬ (n : Int32) < 1 ∧ ¬ 60 < (n : Int32) := hq1
    have hP : va_P g.1 vwCl (List.flatten [bTown g o a 0 0 tx ch jo tr dy sd f, bLaw g lo ac ls0 ll lm lg ld fc, bLog g go ar gs gn fr, bMem g mo qT qL it il ig mh 0 0 fT fL, bTown g t0 a2 pe2 wo2 tx2 ch2 jo2 tr2 dy2 sd2 f2, bLog g l0 ar2 gs2 gn2 fr2, bDR g x ta o lo go tt lt mo fo ro fl9]) H := hP
    have hD : va_D A (List.flatten [bTown g o a 0 0 tx ch jo tr dy sd f, bLaw g lo ac ls0 ll lm lg ld fc, bLog g go ar gs gn fr, bMem g mo qT qL it il ig mh 0 0 fT fL, bTown g t0 a2 pe2 wo2 tx2 ch2 jo2 tr2 dy2 sd2 f2, bLog g l0 ar2 gs2 gn2 fr2, bDR g x ta o lo go tt lt mo fo ro fl9]) := hD
    refine W.widen (k := 1) (n := 6) (Nat.le_of_ble_eq_true rfl) (Nat.le_of_ble_eq_true rfl) ?_
    refine W.eq (g2 := F0 m 8 ls []) rfl ?_
    obtain ⟨N, hN, hn⟩ := zrg1 hq1
    refine lv_aload_n hx hb dX11_days_8 rfl (lv_at hl 0 rfl) ?_
    refine va_get (D := g.1) (ci := 9) (v := .ref mo) (C := RX11) (T := TX11) (N := 10) hx hb hts izRX11 hown hK hP 33 rfl rfl 6 (by decide) (hts _ k525) (fun _ h9 => h9) rfl dX11_days_9 ?_
    refine lv_aload_n hx hb dX11_days_12 rfl (lv_at hl 0 rfl) ?_
    refine va_get (D := g.1) (ci := 9) (v := .ref o) (C := RX11) (T := TX11) (N := 10) hx hb hts izRX11 hown hK hP 33 rfl rfl 1 (by decide) (hts _ k512) (fun _ h9 => h9) rfl dX11_days_13 ?_
    refine lv_aload_n hx hb dX11_days_16 rfl (lv_at hl 0 rfl) ?_
    refine va_get (D := g.1) (ci := 9) (v := .ref go) (C := RX11) (T := TX11) (N := 10) hx hb hts izRX11 hown hK hP 33 rfl rfl 3 (by decide) (hts _ k516) (fun _ h9 => h9) rfl dX11_days_17 ?_
    refine mcallV (g := g) (q0 := 0) (ci := 4) (As := [.ref o, .ref go]) (rest := []) St hK hT hA hP hD hS hl.1 [3, 0, 2, 4, 5] [1, 6] rfl rfl rfl (c_remember0 l g mo qT qL it il ig mh fT fL o a 0 0 tx ch jo tr dy sd f go ar gs gn fr t0 a2 pe2 wo2 tx2 ch2 jo2 tr2 dy2 sd2 f2 l0 ar2 gs2 gn2 fr2 (by assumption) (by assumption) (by assumption)) (cwV 2 hts (zgL (zl4 k640 k641 k642 k257) k246) rfl rfl rfl (by decide +kernel) ⟨Nat.le_of_ble_eq_true rfl, Nat.le_of_ble_eq_true rfl⟩) rfl rfl rfl rfl (Nat.le_of_ble_eq_true rfl) dX11_days_20 ⟨(Nat.le_of_ble_eq_true rfl), (Nat.le_of_ble_eq_true rfl)⟩ (fun _u H locs hq2 hP hD hS => ?_)
    have hP : va_P g.1 vwCl (List.flatten [bLaw g lo ac ls0 ll lm lg ld fc, bDR g x ta o lo go tt lt mo fo ro fl9, bMem g mo qT qL it il ig mh 1 1 fT fL, bTown g o a 0 0 tx ch jo tr dy sd f, bLog g go ar gs gn fr]) H := hP
    have hD : va_D A (List.flatten [bLaw g lo ac ls0 ll lm lg ld fc, bDR g x ta o lo go tt lt mo fo ro fl9, bMem g mo qT qL it il ig mh 1 1 fT fL, bTown g o a 0 0 tx ch jo tr dy sd f, bLog g go ar gs gn fr]) := hD
    refine W.widen (k := 1) (n := 6) (Nat.le_of_ble_eq_true rfl) (Nat.le_of_ble_eq_true rfl) ?_
    refine W.eq (g2 := F0 m 23 ls []) rfl ?_
    refine lv_iconst (v := 0) hx hb dX11_days_23 (by decide) ?_
    refine lv_istore_n (lv' := [(2, .int 0), (0, .ref x), (1, .int n)]) hx hb dX11_days_24 rfl hl (by decide) rfl (fun ls hl => ?_)
    refine lv_iconst (v := 0) hx hb dX11_days_25 (by decide) ?_
    refine lv_istore_n (lv' := [(3, .int 0), (2, .int 0), (0, .ref x), (1, .int n)]) hx hb dX11_days_26 rfl hl (by decide) rfl (fun ls hl => ?_)
    have hP : va_P g.1 vwCl (List.flatten [bLaw g lo ac ls0 ll lm lg ld fc, bDR g x ta o lo go tt lt mo fo ro fl9, bMem g mo qT qL it il ig mh 1 1 fT fL, bTown g o a 0 0 tx ch jo tr dy sd f, bLog g go ar gs gn fr]) H := hP
    have hD : va_D A (List.flatten [bLaw g lo ac ls0 ll lm lg ld fc, bDR g x ta o lo go tt lt mo fo ro fl9, bMem g mo qT qL it il ig mh 1 1 fT fL, bTown g o a 0 0 tx ch jo tr dy sd f, bLog g go ar gs gn fr]) := hD
    obtain ⟨hP, hD⟩ := zord (g := g) (Bs' := [bDR g x ta o lo go tt lt mo fo ro fl9, bTown g o a 0 0 tx ch jo tr dy sd f, bLaw g lo ac ls0 ll lm lg ld fc, bLog g go ar gs gn fr]) [1, 3, 0, 4] rfl rfl hP hD
    have LP27 : ∀ (k : Nat) (j : Nat) (dy3 : Int32) (h3 : Nat → Nat → Int32) (m3 : Int32) (g3 : Int32) (d3 : Int32) (H : Heap) (locs : List Loc) (ls : Array Slot),(j ≤ N) → (N - j) < k → va_P g.1 vwCl (List.flatten [bDR g x ta o lo go tt lt mo fo ro fl9, bTown g o a 0 0 tx ch jo tr dy3 sd h3, bLaw g lo ac ls0 ll m3 g3 d3 fc, bLog g go ar gs gn fr]) H → va_D A (List.flatten [bDR g x ta o lo go tt lt mo fo ro fl9, bTown g o a 0 0 tx ch jo tr dy3 sd h3, bLaw g lo ac ls0 ll m3 g3 d3 fc, bLog g go ar gs gn fr]) → va_S A s.heap H locs → lv_has ls 4 [(0, .ref x), (1, .int n), (2, .int 0), (3, .int (nI j))] → W p l e ({ frames := 7, cells := 1, slots := 6, locals := 105 } : Room) s m args below meth c H locs (1) (6) (zE g (fun _ : Unit => some (.int 0)) (fun _ : Unit => ¬ n < 1 ∧ ¬ 60 < n) (fun _ : Unit => []) (fun (E : String) (_ : Unit) => E = "java/lang/IllegalArgumentException" ∧ (n < 1 ∨ 60 < n)) (fun _ : Unit => []) ({ frames := 7, cells := 1, slots := 6, locals := 105 } : Room) below args s A) (F0 m 27 ls []) := by
      intro k
      induction k with
      | zero => intro j dy3 h3 m3 g3 d3 H locs ls hj hk; exact absurd hk (Nat.not_lt_zero _)
      | succ k ih27 =>
        intro j dy3 h3 m3 g3 d3 H locs ls hj hk hP hD hS hl
        refine lv_iload_n hx hb dX11_days_27 rfl (lv_at hl 3 rfl) ?_
        refine lv_iload_n hx hb dX11_days_28 rfl (lv_at hl 1 rfl) ?_
        refine lv_icmp_ge (tgt := 57) hx hb dX11_days_29 (by decide) (fun cA => ?_) (fun cA => ?_)
        · skip
          refine lv_iload_n hx hb dX11_days_57 rfl (lv_at hl 2 rfl) ?_
          have hP : va_P g.1 vwCl (List.flatten [bDR g x ta o lo go tt lt mo fo ro fl9, bTown g o a 0 0 tx ch jo tr dy3 sd h3, bLaw g lo ac ls0 ll m3 g3 d3 fc, bLog g go ar gs gn fr]) H := hP
          have hD : va_D A (List.flatten [bDR g x ta o lo go tt lt mo fo ro fl9, bTown g o a 0 0 tx ch jo tr dy3 sd h3, bLaw g lo ac ls0 ll m3 g3 d3 fc, bLog g go ar gs gn fr]) := hD
          obtain ⟨hP, hD⟩ := zord (g := g) (Bs' := []) [] rfl rfl hP hD
          exact zret_i hx hb hr hlocks hS (Nat.le_of_ble_eq_true rfl) (Nat.le_of_ble_eq_true rfl) dX11_days_58 () rfl hq1 hP hD
        · skip
          have hlt := zjl hn (by omega) cA
          refine lv_iload_n hx hb dX11_days_32 rfl (lv_at hl 2 rfl) ?_
          refine lv_aload_n hx hb dX11_days_33 rfl (lv_at hl 0 rfl) ?_
          refine va_get (D := g.1) (ci := 9) (v := .ref o) (C := RX11) (T := TX11) (N := 10) hx hb hts izRX11 hown hK hP 0 rfl rfl 1 (by decide) (hts _ k512) (fun _ h9 => h9) rfl dX11_days_34 ?_
          refine lv_aload_n hx hb dX11_days_37 rfl (lv_at hl 0 rfl) ?_
          refine va_get (D := g.1) (ci := 9) (v := .ref lo) (C := RX11) (T := TX11) (N := 10) hx hb hts izRX11 hown hK hP 0 rfl rfl 2 (by decide) (hts _ k514) (fun _ h9 => h9) rfl dX11_days_38 ?_
          refine lv_iconst (v := 1) hx hb dX11_days_41 (by decide) ?_
          refine lv_aload_n hx hb dX11_days_42 rfl (lv_at hl 0 rfl) ?_
          refine va_get (D := g.1) (ci := 9) (v := .ref go) (C := RX11) (T := TX11) (N := 10) hx hb hts izRX11 hown hK hP 0 rfl rfl 3 (by decide) (hts _ k516) (fun _ h9 => h9) rfl dX11_days_43 ?_
          refine mcallV (g := g) (q0 := 0) (ci := 7) (As := [.ref lo, .int 1, .ref go]) (rest := [.int 0]) St hK hT hA hP hD hS hl.1 [1, 2] [0, 3] rfl rfl rfl (c_passDay l g o a tx ch jo tr dy3 sd h3 lo ac ls0 ll m3 g3 d3 fc 1 go ) (cwV 3 hts (zgL (zl4 k660 k161 k162 k24) k154) rfl rfl rfl (by decide +kernel) ⟨Nat.le_of_ble_eq_true rfl, Nat.le_of_ble_eq_true rfl⟩) rfl rfl rfl rfl (Nat.le_of_ble_eq_true rfl) dX11_days_46 ⟨(Nat.le_of_ble_eq_true rfl), (Nat.le_of_ble_eq_true rfl)⟩ (fun u_ H locs hq6 hP hD hS => ?_)
          obtain ⟨dy2_4, f2_5⟩ := u_
          have hq6 : f2_5 4 = h3 4 := hq6
          have hP : va_P g.1 vwCl (List.flatten [bDR g x ta o lo go tt lt mo fo ro fl9, bLog g go ar gs gn fr, bTown g o a 0 0 tx ch jo tr dy2_4 sd f2_5, bLaw g lo ac ls0 ll 0 0 dy3 fc]) H := hP
          have hD : va_D A (List.flatten [bDR g x ta o lo go tt lt mo fo ro fl9, bLog g go ar gs gn fr, bTown g o a 0 0 tx ch jo tr dy2_4 sd f2_5, bLaw g lo ac ls0 ll 0 0 dy3 fc]) := hD
          refine W.widen (k := 1) (n := 6) (Nat.le_of_ble_eq_true rfl) (Nat.le_of_ble_eq_true rfl) ?_
          refine W.eq (g2 := F0 m 49 ls [.int 0, .int 0]) rfl ?_
          refine lv_iadd hx hb dX11_days_49 ?_
          refine ztop (r := 0) (by decide) ?_
          refine lv_istore_n (lv' := [(2, .int 0), (0, .ref x), (1, .int n), (3, .int (nI j))]) hx hb dX11_days_50 rfl hl (by decide) rfl (fun ls hl => ?_)
          refine lv_iinc (v := nI (j + 1)) (lv' := [(3, .int (nI (j + 1))), (2, .int 0), (0, .ref x), (1, .int n)]) hx hb dX11_days_51 hl (k := 3) rfl (nI_1 j) (by decide) rfl (fun ls hl => ?_)
          refine lv_goto (tgt := 27) hx hb dX11_days_54 (by decide) ?_
          have hP : va_P g.1 vwCl (List.flatten [bDR g x ta o lo go tt lt mo fo ro fl9, bLog g go ar gs gn fr, bTown g o a 0 0 tx ch jo tr dy2_4 sd f2_5, bLaw g lo ac ls0 ll 0 0 dy3 fc]) H := hP
          have hD : va_D A (List.flatten [bDR g x ta o lo go tt lt mo fo ro fl9, bLog g go ar gs gn fr, bTown g o a 0 0 tx ch jo tr dy2_4 sd f2_5, bLaw g lo ac ls0 ll 0 0 dy3 fc]) := hD
          obtain ⟨hP, hD⟩ := zord (g := g) (Bs' := [bDR g x ta o lo go tt lt mo fo ro fl9, bTown g o a 0 0 tx ch jo tr dy2_4 sd f2_5, bLaw g lo ac ls0 ll 0 0 dy3 fc, bLog g go ar gs gn fr]) [0, 2, 3, 1] rfl rfl hP hD
          exact ih27 (j + 1) dy2_4 f2_5 0 0 dy3 H locs ls (by omega) (by omega) hP hD hS (lv_sub hl [2, 3, 1, 0] rfl)
    exact LP27 (N + 1) 0 dy f lm lg ld H _ ls (by omega) (by omega) hP hD hS (lv_sub hl [2, 3, 1, 0] rfl)
set_option maxRecDepth 100000 in
set_option maxHeartbeats 4000000 in
theorem c_needTales0 (l : Launch) (hfl : l.stackTraces = false) (g : zG) (x : Nat) (ta : Nat) (o : Nat) (lo : Nat) (go : Nat) (tt : Nat) (lt : Nat) (mo : Nat) (fo : Nat) (ro : Nat) (fl9 : Int32) (ab : Nat) (len : Int32) (knd : Int32) (beg : Int32) (nxt : Int32) (flt : Int32) (fb : Nat → Int32) (r : Int32)  : zX g l yX11_needTales (Cond.code yX11_needTales cX11_needTales 3 none :: zB) ({ frames := 7, cells := 2, slots := 12, locals := 105 } : Room) [.ref x, .int 0, .int r] [bDR g x ta o lo go tt lt mo fo ro fl9, bTape g ta ab 0 len knd beg nxt flt fb] (fun _ : Unit => none) (fun _ : Unit => ¬ r < 0 ∧ ¬ 100 < r) (fun _ : Unit => [bDR g x ta o lo go tt lt mo fo ro fl9, bTape g ta ab 0 len knd beg nxt flt fb]) (fun (E : String) (_ : Unit) => E = "java/lang/IllegalArgumentException" ∧ (r < 0 ∨ 100 < r)) (fun _ : Unit => []) := by
  refine zX.of (cc := cX11_needTales) (maxL := 3) (rt := none) (by decide) rfl (Nat.le_of_ble_eq_true rfl) ?_
  intro p e s m args below meth c A ls St hr hlocks htab hin hK hT hA hP hD hS hl
  obtain ⟨hx, hb, hml, hown, hts⟩ := id St
  have hl : lv_has ls 3 [(0, .ref x), (1, .int 0), (2, .int r)] := hl
  refine lv_aload_n hx hb dX11_needTales_0 rfl (lv_at hl 0 rfl) ?_
  refine lv_iload_n hx hb dX11_needTales_1 rfl (lv_at hl 2 rfl) ?_
  refine lv_iconst (v := 0) hx hb dX11_needTales_2 (by decide) ?_
  refine lv_bipush (v := 100) hx hb dX11_needTales_3 (by decide) ?_
  refine xcallV (g := g) (q0 := 0) (ci := 9) (As := [.int r, .int 0, .int 100]) (rest := []) St hK hT hA hP hD hS hl.1 [0] [1] rfl rfl rfl (c_nw_0_100 l hfl g x ta o lo go tt lt mo fo ro fl9 r ) (cwV 3 hts (zgL (zl4 k646 k647 k648 k595) k645) rfl rfl rfl (by decide +kernel) ⟨Nat.le_of_ble_eq_true rfl, Nat.le_of_ble_eq_true rfl⟩) rfl rfl rfl rfl (Nat.le_of_ble_eq_true rfl) dX11_needTales_5 ⟨(Nat.le_of_ble_eq_true rfl), (Nat.le_of_ble_eq_true rfl)⟩ (fun E ce q9 u9 H locs hpx hP hD hS hce hcv hcl => ?_) (fun _u H locs hq1 hP hD hS => ?_)
  · skip
    have hpx : (fun (E : String) (_ : Unit) => E = "java/lang/IllegalArgumentException" ∧ ((r : Int32) < 0 ∨ 100 < (r : Int32))) E u9 := hpx
    have hP : va_P g.1 vwCl (List.flatten [bTape g ta ab 0 len knd beg nxt flt fb]) H := hP
    have hD : va_D A (List.flatten [bTape g ta ab 0 len knd beg nxt flt fb]) := hD
    have hP : va_P g.1 vwCl (List.flatten [bTape g ta ab 0 len knd beg nxt flt fb]) H := hP
    have hD : va_D A (List.flatten [bTape g ta ab 0 len knd beg nxt flt fb]) := hD
    obtain ⟨hP, hD⟩ := zord (g := g) (Bs' := []) [] rfl rfl hP hD
    exact zout htab hlocks hS (Nat.le_of_ble_eq_true rfl) (Nat.le_of_ble_eq_true rfl) hce hcv hcl () hpx hP hD
  · skip
    have hq1 : ¬ (r : Int32) < 0 ∧ ¬ 100 < (r : Int32) := hq1
    have hP : va_P g.1 vwCl (List.flatten [bTape g ta ab 0 len knd beg nxt flt fb, bDR g x ta o lo go tt lt mo fo ro fl9]) H := hP
    have hD : va_D A (List.flatten [bTape g ta ab 0 len knd beg nxt flt fb, bDR g x ta o lo go tt lt mo fo ro fl9]) := hD
    refine W.widen (k := 1) (n := 6) (Nat.le_of_ble_eq_true rfl) (Nat.le_of_ble_eq_true rfl) ?_
    refine W.eq (g2 := F0 m 8 ls []) rfl ?_
    refine lv_aload_n hx hb dX11_needTales_8 rfl (lv_at hl 0 rfl) ?_
    refine lv_iload_n hx hb dX11_needTales_9 rfl (lv_at hl 1 rfl) ?_
    refine lv_iconst (v := 0) hx hb dX11_needTales_10 (by decide) ?_
    refine lv_bipush (v := 12) hx hb dX11_needTales_11 (by decide) ?_
    refine xcallV (g := g) (q0 := 0) (ci := 9) (As := [.int 0, .int 0, .int 12]) (rest := []) St hK hT hA hP hD hS hl.1 [1] [0] rfl rfl rfl (c_nw_0_12 l hfl g x ta o lo go tt lt mo fo ro fl9 0 ) (cwV 3 hts (zgL (zl4 k646 k647 k648 k595) k645) rfl rfl rfl (by decide +kernel) ⟨Nat.le_of_ble_eq_true rfl, Nat.le_of_ble_eq_true rfl⟩) rfl rfl rfl rfl (Nat.le_of_ble_eq_true rfl) dX11_needTales_13 ⟨(Nat.le_of_ble_eq_true rfl), (Nat.le_of_ble_eq_true rfl)⟩ (fun E ce q9 u9 H locs hpx hP hD hS hce hcv hcl => ?_) (fun _u H locs hq2 hP hD hS => ?_)
    · skip
      have hpx : (fun (E : String) (_ : Unit) => E = "java/lang/IllegalArgumentException" ∧ ((0 : Int32) < 0 ∨ 12 < (0 : Int32))) E u9 := hpx
      have hP : va_P g.1 vwCl (List.flatten [bTape g ta ab 0 len knd beg nxt flt fb]) H := hP
      have hD : va_D A (List.flatten [bTape g ta ab 0 len knd beg nxt flt fb]) := hD
      have hP : va_P g.1 vwCl (List.flatten [bTape g ta ab 0 len knd beg nxt flt fb]) H := hP
      have hD : va_D A (List.flatten [bTape g ta ab 0 len knd beg nxt flt fb]) := hD
      obtain ⟨hP, hD⟩ := zord (g := g) (Bs' := []) [] rfl rfl hP hD
      exact zout htab hlocks hS (Nat.le_of_ble_eq_true rfl) (Nat.le_of_ble_eq_true rfl) hce hcv hcl () (absurd hpx.2 (by decide)) hP hD
    · skip
      have hq2 : ¬ (0 : Int32) < 0 ∧ ¬ 12 < (0 : Int32) := hq2
      have hP : va_P g.1 vwCl (List.flatten [bTape g ta ab 0 len knd beg nxt flt fb, bDR g x ta o lo go tt lt mo fo ro fl9]) H := hP
      have hD : va_D A (List.flatten [bTape g ta ab 0 len knd beg nxt flt fb, bDR g x ta o lo go tt lt mo fo ro fl9]) := hD
      refine W.widen (k := 2) (n := 12) (Nat.le_of_ble_eq_true rfl) (Nat.le_of_ble_eq_true rfl) ?_
      refine W.eq (g2 := F0 m 16 ls []) rfl ?_
      refine lv_aload_n hx hb dX11_needTales_16 rfl (lv_at hl 0 rfl) ?_
      refine va_get (D := g.1) (ci := 9) (v := .ref ta) (C := RX11) (T := TX11) (N := 10) hx hb hts izRX11 hown hK hP 2 rfl rfl 0 (by decide) (hts _ k510) (fun _ h9 => h9) rfl dX11_needTales_17 ?_
      refine lv_iload_n hx hb dX11_needTales_20 rfl (lv_at hl 1 rfl) ?_
      refine mcallV (g := g) (q0 := 0) (ci := 6) (As := [.int 0]) (rest := []) St hK hT hA hP hD hS hl.1 [0] [1] rfl rfl rfl (c_holdsTales0 l g ta ab len knd beg nxt flt fb ) (cwV 1 hts (zgL (zl4 k697 k698 k699 k303) k295) rfl rfl rfl (by decide +kernel) ⟨Nat.le_of_ble_eq_true rfl, Nat.le_of_ble_eq_true rfl⟩) rfl rfl rfl rfl (Nat.le_of_ble_eq_true rfl) dX11_needTales_21 ⟨(Nat.le_of_ble_eq_true rfl), (Nat.le_of_ble_eq_true rfl)⟩ (fun _u H locs hq3 hP hD hS => ?_)
      have hP : va_P g.1 vwCl (List.flatten [bDR g x ta o lo go tt lt mo fo ro fl9, bTape g ta ab 0 len knd beg nxt flt fb]) H := hP
      have hD : va_D A (List.flatten [bDR g x ta o lo go tt lt mo fo ro fl9, bTape g ta ab 0 len knd beg nxt flt fb]) := hD
      refine W.widen (k := 2) (n := 12) (Nat.le_of_ble_eq_true rfl) (Nat.le_of_ble_eq_true rfl) ?_
      refine W.eq (g2 := F0 m 24 ls [.int 1]) rfl ?_
      refine lv_if_ne (tgt := 38) hx hb dX11_needTales_24 (by decide) (fun _ => ?_) (fun c4 => absurd c4 (by decide))
      have hP : va_P g.1 vwCl (List.flatten [bDR g x ta o lo go tt lt mo fo ro fl9, bTape g ta ab 0 len knd beg nxt flt fb]) H := hP
      have hD : va_D A (List.flatten [bDR g x ta o lo go tt lt mo fo ro fl9, bTape g ta ab 0 len knd beg nxt flt fb]) := hD
      exact zret_v hx hb hr hlocks hS (Nat.le_of_ble_eq_true rfl) (Nat.le_of_ble_eq_true rfl) dX11_needTales_38 () rfl hq1 hP hD
set_option maxRecDepth 100000 in
set_option maxHeartbeats 4000000 in
theorem c_needSaid0 (l : Launch) (hfl : l.stackTraces = false) (g : zG) (x : Nat) (ta : Nat) (o : Nat) (lo : Nat) (go : Nat) (tt : Nat) (lt : Nat) (mo : Nat) (fo : Nat) (ro : Nat) (fl9 : Int32) (a : Nat → Nat) (tx : Int32) (ch : Int32) (jo : Int32) (tr : Int32) (dy : Int32) (sd : Int32) (f : Nat → Nat → Int32) (ab : Nat) (len : Int32) (knd : Int32) (beg : Int32) (nxt : Int32) (flt : Int32) (fb : Nat → Int32)  : zM g l yX11_needSaid (Cond.code yX11_needSaid cX11_needSaid 2 none :: zB) ({ frames := 7, cells := 1, slots := 6, locals := 105 } : Room) [.ref x, .int 0] [bDR g x ta o lo go tt lt mo fo ro fl9, bTown g o a 0 0 tx ch jo tr dy sd f, bTape g ta ab 0 len knd beg nxt flt fb] (fun _ : Unit => none) (fun _ : Unit => True) (fun _ : Unit => [bDR g x ta o lo go tt lt mo fo ro fl9, bTown g o a 0 0 tx ch jo tr dy sd f, bTape g ta ab 0 len knd beg nxt flt fb]) := by
  refine zM.of (cc := cX11_needSaid) (maxL := 2) (rt := none) (by decide) rfl (Nat.le_of_ble_eq_true rfl) ?_
  intro p e s m args below meth c A ls St hr hlocks hin hK hT hA hP hD hS hl
  obtain ⟨hx, hb, hml, hown, hts⟩ := id St
  have hl : lv_has ls 2 [(0, .ref x), (1, .int 0)] := hl
  refine lv_aload_n hx hb dX11_needSaid_0 rfl (lv_at hl 0 rfl) ?_
  refine lv_iload_n hx hb dX11_needSaid_1 rfl (lv_at hl 1 rfl) ?_
  refine lv_iconst (v := 0) hx hb dX11_needSaid_2 (by decide) ?_
  refine lv_bipush (v := 36) hx hb dX11_needSaid_3 (by decide) ?_
  refine xcallV (g := g) (q0 := 0) (ci := 9) (As := [.int 0, .int 0, .int 36]) (rest := []) St hK hT hA hP hD hS hl.1 [0] [1, 2] rfl rfl rfl (c_nw_0_36 l hfl g x ta o lo go tt lt mo fo ro fl9 0 ) (cwV 3 hts (zgL (zl4 k646 k647 k648 k595) k645) rfl rfl rfl (by decide +kernel) ⟨Nat.le_of_ble_eq_true rfl, Nat.le_of_ble_eq_true rfl⟩) rfl rfl rfl rfl (Nat.le_of_ble_eq_true rfl) dX11_needSaid_5 ⟨(Nat.le_of_ble_eq_true rfl), (Nat.le_of_ble_eq_true rfl)⟩ (fun E ce q9 u9 H locs hpx hP hD hS hce hcv hcl => ?_) (fun _u H locs hq1 hP hD hS => ?_)
  · skip
    have hpx : (fun (E : String) (_ : Unit) => E = "java/lang/IllegalArgumentException" ∧ ((0 : Int32) < 0 ∨ 36 < (0 : Int32))) E u9 := hpx
    have hP : va_P g.1 vwCl (List.flatten [bTown g o a 0 0 tx ch jo tr dy sd f, bTape g ta ab 0 len knd beg nxt flt fb]) H := hP
    have hD : va_D A (List.flatten [bTown g o a 0 0 tx ch jo tr dy sd f, bTape g ta ab 0 len knd beg nxt flt fb]) := hD
    exact absurd hpx (fun h => absurd h.2 (by decide))
  · skip
    have hq1 : ¬ (0 : Int32) < 0 ∧ ¬ 36 < (0 : Int32) := hq1
    have hP : va_P g.1 vwCl (List.flatten [bTown g o a 0 0 tx ch jo tr dy sd f, bTape g ta ab 0 len knd beg nxt flt fb, bDR g x ta o lo go tt lt mo fo ro fl9]) H := hP
    have hD : va_D A (List.flatten [bTown g o a 0 0 tx ch jo tr dy sd f, bTape g ta ab 0 len knd beg nxt flt fb, bDR g x ta o lo go tt lt mo fo ro fl9]) := hD
    refine W.widen (k := 1) (n := 6) (Nat.le_of_ble_eq_true rfl) (Nat.le_of_ble_eq_true rfl) ?_
    refine W.eq (g2 := F0 m 8 ls []) rfl ?_
    refine lv_aload_n hx hb dX11_needSaid_8 rfl (lv_at hl 0 rfl) ?_
    refine va_get (D := g.1) (ci := 9) (v := .ref ta) (C := RX11) (T := TX11) (N := 10) hx hb hts izRX11 hown hK hP 14 rfl rfl 0 (by decide) (hts _ k510) (fun _ h9 => h9) rfl dX11_needSaid_9 ?_
    refine lv_iload_n hx hb dX11_needSaid_12 rfl (lv_at hl 1 rfl) ?_
    refine lv_aload_n hx hb dX11_needSaid_13 rfl (lv_at hl 0 rfl) ?_
    refine va_get (D := g.1) (ci := 9) (v := .ref o) (C := RX11) (T := TX11) (N := 10) hx hb hts izRX11 hown hK hP 14 rfl rfl 1 (by decide) (hts _ k512) (fun _ h9 => h9) rfl dX11_needSaid_14 ?_
    refine va_get (D := g.1) (ci := 7) (v := .int 0) (C := RX9) (T := TX9) (N := 19) hx hb hts izRX9 hown hK hP 0 rfl rfl 0 (by decide) (hts _ k584) (fun _ h9 => h9) rfl dX11_needSaid_17 ?_
    refine mcallV (g := g) (q0 := 0) (ci := 6) (As := [.int 0, .int 0]) (rest := []) St hK hT hA hP hD hS hl.1 [1] [0, 2] rfl rfl rfl (c_holdsSaid0 l g ta ab len knd beg nxt flt fb ) (cwV 2 hts (zgL (zl4 k712 k713 k714 k303) k297) rfl rfl rfl (by decide +kernel) ⟨Nat.le_of_ble_eq_true rfl, Nat.le_of_ble_eq_true rfl⟩) rfl rfl rfl rfl (Nat.le_of_ble_eq_true rfl) dX11_needSaid_20 ⟨(Nat.le_of_ble_eq_true rfl), (Nat.le_of_ble_eq_true rfl)⟩ (fun _u H locs hq2 hP hD hS => ?_)
    have hP : va_P g.1 vwCl (List.flatten [bTown g o a 0 0 tx ch jo tr dy sd f, bDR g x ta o lo go tt lt mo fo ro fl9, bTape g ta ab 0 len knd beg nxt flt fb]) H := hP
    have hD : va_D A (List.flatten [bTown g o a 0 0 tx ch jo tr dy sd f, bDR g x ta o lo go tt lt mo fo ro fl9, bTape g ta ab 0 len knd beg nxt flt fb]) := hD
    refine W.widen (k := 1) (n := 6) (Nat.le_of_ble_eq_true rfl) (Nat.le_of_ble_eq_true rfl) ?_
    refine W.eq (g2 := F0 m 23 ls [.int 1]) rfl ?_
    refine lv_if_ne (tgt := 37) hx hb dX11_needSaid_23 (by decide) (fun _ => ?_) (fun c3 => absurd c3 (by decide))
    have hP : va_P g.1 vwCl (List.flatten [bTown g o a 0 0 tx ch jo tr dy sd f, bDR g x ta o lo go tt lt mo fo ro fl9, bTape g ta ab 0 len knd beg nxt flt fb]) H := hP
    have hD : va_D A (List.flatten [bTown g o a 0 0 tx ch jo tr dy sd f, bDR g x ta o lo go tt lt mo fo ro fl9, bTape g ta ab 0 len knd beg nxt flt fb]) := hD
    obtain ⟨hP, hD⟩ := zord (g := g) (Bs' := [bDR g x ta o lo go tt lt mo fo ro fl9, bTown g o a 0 0 tx ch jo tr dy sd f, bTape g ta ab 0 len knd beg nxt flt fb]) [1, 0, 2] rfl rfl hP hD
    exact mret_v hx hb hr hlocks hS (Nat.le_of_ble_eq_true rfl) (Nat.le_of_ble_eq_true rfl) dX11_needSaid_37 () rfl trivial hP hD
set_option maxRecDepth 100000 in
set_option maxHeartbeats 4000000 in
theorem c_river (l : Launch) (hfl : l.stackTraces = false) (g : zG) (x : Nat) (ta : Nat) (o : Nat) (lo : Nat) (go : Nat) (tt : Nat) (lt : Nat) (mo : Nat) (fo : Nat) (ro : Nat) (fl9 : Int32) (ab : Nat) (len : Int32) (knd : Int32) (beg : Int32) (nxt : Int32) (flt : Int32) (fb : Nat → Int32) (r : Int32)  : zX g l yX11_river (Cond.code yX11_river cX11_river 3 (some .int) :: zB) ({ frames := 8, cells := 2, slots := 12, locals := 127 } : Room) [.ref x, .int r] [bDR g x ta o lo go tt lt mo fo ro fl9, bTape g ta ab 0 len knd beg nxt flt fb] (fun (q : Int32) => some (.int q)) (fun (q : Int32) => (¬ r < 0 ∧ ¬ 100 < r) ∧ q = zod r 0) (fun (q : Int32) => []) (fun (E : String) (_ : Unit) => E = "java/lang/IllegalArgumentException" ∧ (r < 0 ∨ 100 < r)) (fun _ : Unit => []) := by
  refine zX.of (cc := cX11_river) (maxL := 3) (rt := (some .int)) (by decide) rfl (Nat.le_of_ble_eq_true rfl) ?_
  intro p e s m args below meth c A ls St hr hlocks htab hin hK hT hA hP hD hS hl
  obtain ⟨hx, hb, hml, hown, hts⟩ := id St
  have hl : lv_has ls 3 [(0, .ref x), (1, .int r)] := hl
  refine lv_aload_n hx hb dX11_river_0 rfl (lv_at hl 0 rfl) ?_
  refine va_get (D := g.1) (ci := 9) (v := .ref ta) (C := RX11) (T := TX11) (N := 10) hx hb hts izRX11 hown hK hP 0 rfl rfl 0 (by decide) (hts _ k510) (fun _ h9 => h9) rfl dX11_river_1 ?_
  refine mcallV (g := g) (q0 := 0) (ci := 6) (As := []) (rest := []) St hK hT hA hP hD hS hl.1 [1] [0] rfl rfl rfl (c_useUp l g ta ab len knd beg nxt flt fb ) (cwV 0 hts (zgL (zl4 k557 k558 k559 k303) k294) rfl rfl rfl (by decide +kernel) ⟨Nat.le_of_ble_eq_true rfl, Nat.le_of_ble_eq_true rfl⟩) rfl rfl rfl rfl (Nat.le_of_ble_eq_true rfl) dX11_river_4 ⟨(Nat.le_of_ble_eq_true rfl), (Nat.le_of_ble_eq_true rfl)⟩ (fun _u H locs hq1 hP hD hS => ?_)
  have hP : va_P g.1 vwCl (List.flatten [bDR g x ta o lo go tt lt mo fo ro fl9, bTape g ta ab 0 len knd beg nxt flt fb]) H := hP
  have hD : va_D A (List.flatten [bDR g x ta o lo go tt lt mo fo ro fl9, bTape g ta ab 0 len knd beg nxt flt fb]) := hD
  refine W.widen (k := 0) (n := 0) (Nat.le_of_ble_eq_true rfl) (Nat.le_of_ble_eq_true rfl) ?_
  refine W.eq (g2 := F0 m 7 ls [.int 0]) rfl ?_
  refine lv_istore_n (lv' := [(2, .int 0), (0, .ref x), (1, .int r)]) hx hb dX11_river_7 rfl hl (by decide) rfl (fun ls hl => ?_)
  refine lv_aload_n hx hb dX11_river_8 rfl (lv_at hl 1 rfl) ?_
  refine lv_iload_n hx hb dX11_river_9 rfl (lv_at hl 0 rfl) ?_
  refine lv_iload_n hx hb dX11_river_10 rfl (lv_at hl 2 rfl) ?_
  refine xcallV (g := g) (q0 := 0) (ci := 9) (As := [.int 0, .int r]) (rest := []) St hK hT hA hP hD hS hl.1 [0, 1] [] rfl rfl rfl (c_needTales0 l hfl g x ta o lo go tt lt mo fo ro fl9 ab len knd beg nxt flt fb r ) (cwV 2 hts (zgL (zl4 k700 k701 k702 k595) k696) rfl rfl rfl (by decide +kernel) ⟨Nat.le_of_ble_eq_true rfl, Nat.le_of_ble_eq_true rfl⟩) rfl rfl rfl rfl (Nat.le_of_ble_eq_true rfl) dX11_river_11 ⟨(Nat.le_of_ble_eq_true rfl), (Nat.le_of_ble_eq_true rfl)⟩ (fun E ce q9 u9 H locs hpx hP hD hS hce hcv hcl => ?_) (fun _u H locs hq2 hP hD hS => ?_)
  · skip
    have hpx : (fun (E : String) (_ : Unit) => E = "java/lang/IllegalArgumentException" ∧ (r < 0 ∨ 100 < r)) E u9 := hpx
    have hP : va_P g.1 vwCl (List.flatten []) H := hP
    have hD : va_D A (List.flatten []) := hD
    exact zout htab hlocks hS (Nat.le_of_ble_eq_true rfl) (Nat.le_of_ble_eq_true rfl) hce hcv hcl () hpx hP hD
  · skip
    have hq2 : ¬ r < 0 ∧ ¬ 100 < r := hq2
    have hP : va_P g.1 vwCl (List.flatten [bDR g x ta o lo go tt lt mo fo ro fl9, bTape g ta ab 0 len knd beg nxt flt fb]) H := hP
    have hD : va_D A (List.flatten [bDR g x ta o lo go tt lt mo fo ro fl9, bTape g ta ab 0 len knd beg nxt flt fb]) := hD
    refine W.widen (k := 2) (n := 12) (Nat.le_of_ble_eq_true rfl) (Nat.le_of_ble_eq_true rfl) ?_
    refine W.eq (g2 := F0 m 14 ls []) rfl ?_
    refine lv_iload_n hx hb dX11_river_14 rfl (lv_at hl 2 rfl) ?_
    refine lv_aload_n hx hb dX11_river_15 rfl (lv_at hl 1 rfl) ?_
    refine va_get (D := g.1) (ci := 9) (v := .ref ta) (C := RX11) (T := TX11) (N := 10) hx hb hts izRX11 hown hK hP 0 rfl rfl 0 (by decide) (hts _ k510) (fun _ h9 => h9) rfl dX11_river_16 ?_
    refine lv_iload_n hx hb dX11_river_19 rfl (lv_at hl 0 rfl) ?_
    refine mcallV (g := g) (q0 := 0) (ci := 6) (As := [.int 0]) (rest := [.int r]) St hK hT hA hP hD hS hl.1 [1] [0] rfl rfl rfl (c_lead0 l g ta ab len knd beg nxt flt fb ) (cwV 1 hts (zgL (zl4 k703 k704 k705 k303) k296) rfl rfl rfl (by decide +kernel) ⟨Nat.le_of_ble_eq_true rfl, Nat.le_of_ble_eq_true rfl⟩) rfl rfl rfl rfl (Nat.le_of_ble_eq_true rfl) dX11_river_20 ⟨(Nat.le_of_ble_eq_true rfl), (Nat.le_of_ble_eq_true rfl)⟩ (fun _u H locs hq3 hP hD hS => ?_)
    have hP : va_P g.1 vwCl (List.flatten [bDR g x ta o lo go tt lt mo fo ro fl9, bTape g ta ab 0 len knd beg nxt flt fb]) H := hP
    have hD : va_D A (List.flatten [bDR g x ta o lo go tt lt mo fo ro fl9, bTape g ta ab 0 len knd beg nxt flt fb]) := hD
    refine W.widen (k := 2) (n := 12) (Nat.le_of_ble_eq_true rfl) (Nat.le_of_ble_eq_true rfl) ?_
    refine W.eq (g2 := F0 m 23 ls [.int 0, .int r]) rfl ?_
    refine mcallS (g := g) (As := [.int r, .int 0]) (rest := []) St hK hT hA hP hD hS hl.1 [] [0, 1] rfl rfl rfl (c_odds l g r 0 0 (by omega) rfl) (va_cwS 2 hts (zgL (zl3 k706 k288 k267) k283) rfl rfl rfl (by decide +kernel) ⟨Nat.le_of_ble_eq_true rfl, Nat.le_of_ble_eq_true rfl⟩) rfl rfl (Nat.le_of_ble_eq_true rfl) dX11_river_23 ⟨(Nat.le_of_ble_eq_true rfl), (Nat.le_of_ble_eq_true rfl)⟩ (fun q_4 H locs hq5 hP hD hS => ?_)
    have hq5 : q_4 = zod r 0 := hq5
    have hP : va_P g.1 vwCl (List.flatten [bDR g x ta o lo go tt lt mo fo ro fl9, bTape g ta ab 0 len knd beg nxt flt fb]) H := hP
    have hD : va_D A (List.flatten [bDR g x ta o lo go tt lt mo fo ro fl9, bTape g ta ab 0 len knd beg nxt flt fb]) := hD
    refine W.widen (k := 2) (n := 12) (Nat.le_of_ble_eq_true rfl) (Nat.le_of_ble_eq_true rfl) ?_
    refine W.eq (g2 := F0 m 26 ls [.int q_4]) rfl ?_
    have hP : va_P g.1 vwCl (List.flatten [bDR g x ta o lo go tt lt mo fo ro fl9, bTape g ta ab 0 len knd beg nxt flt fb]) H := hP
    have hD : va_D A (List.flatten [bDR g x ta o lo go tt lt mo fo ro fl9, bTape g ta ab 0 len knd beg nxt flt fb]) := hD
    obtain ⟨hP, hD⟩ := zord (g := g) (Bs' := []) [] rfl rfl hP hD
    exact zret_i hx hb hr hlocks hS (Nat.le_of_ble_eq_true rfl) (Nat.le_of_ble_eq_true rfl) dX11_river_26 (q_4) rfl (⟨hq2, hq5⟩) hP hD
set_option maxRecDepth 100000 in
set_option maxHeartbeats 4000000 in
theorem c_more (l : Launch) (hfl : l.stackTraces = false) (g : zG) (x : Nat) (ta : Nat) (o : Nat) (lo : Nat) (go : Nat) (tt : Nat) (lt : Nat) (mo : Nat) (fo : Nat) (ro : Nat) (fl9 : Int32) (ab : Nat) (len : Int32) (knd : Int32) (beg : Int32) (nxt : Int32) (flt : Int32) (fb : Nat → Int32) (r : Int32)  : zX g l yX11_more (Cond.code yX11_more cX11_more 3 (some .int) :: zB) ({ frames := 8, cells := 2, slots := 12, locals := 127 } : Room) [.ref x, .int r] [bDR g x ta o lo go tt lt mo fo ro fl9, bTape g ta ab 0 len knd beg nxt flt fb] (fun (q : Int32) => some (.int q)) (fun (q : Int32) => (¬ r < 0 ∧ ¬ 100 < r) ∧ q = zfn r) (fun (q : Int32) => []) (fun (E : String) (_ : Unit) => E = "java/lang/IllegalArgumentException" ∧ (r < 0 ∨ 100 < r)) (fun _ : Unit => []) := by
  refine zX.of (cc := cX11_more) (maxL := 3) (rt := (some .int)) (by decide) rfl (Nat.le_of_ble_eq_true rfl) ?_
  intro p e s m args below meth c A ls St hr hlocks htab hin hK hT hA hP hD hS hl
  obtain ⟨hx, hb, hml, hown, hts⟩ := id St
  have hl : lv_has ls 3 [(0, .ref x), (1, .int r)] := hl
  refine lv_aload_n hx hb dX11_more_0 rfl (lv_at hl 0 rfl) ?_
  refine va_get (D := g.1) (ci := 9) (v := .ref ta) (C := RX11) (T := TX11) (N := 10) hx hb hts izRX11 hown hK hP 0 rfl rfl 0 (by decide) (hts _ k510) (fun _ h9 => h9) rfl dX11_more_1 ?_
  refine mcallV (g := g) (q0 := 0) (ci := 6) (As := []) (rest := []) St hK hT hA hP hD hS hl.1 [1] [0] rfl rfl rfl (c_useUp l g ta ab len knd beg nxt flt fb ) (cwV 0 hts (zgL (zl4 k557 k558 k559 k303) k294) rfl rfl rfl (by decide +kernel) ⟨Nat.le_of_ble_eq_true rfl, Nat.le_of_ble_eq_true rfl⟩) rfl rfl rfl rfl (Nat.le_of_ble_eq_true rfl) dX11_more_4 ⟨(Nat.le_of_ble_eq_true rfl), (Nat.le_of_ble_eq_true rfl)⟩ (fun _u H locs hq1 hP hD hS => ?_)
  have hP : va_P g.1 vwCl (List.flatten [bDR g x ta o lo go tt lt mo fo ro fl9, bTape g ta ab 0 len knd beg nxt flt fb]) H := hP
  have hD : va_D A (List.flatten [bDR g x ta o lo go tt lt mo fo ro fl9, bTape g ta ab 0 len knd beg nxt flt fb]) := hD
  refine W.widen (k := 0) (n := 0) (Nat.le_of_ble_eq_true rfl) (Nat.le_of_ble_eq_true rfl) ?_
  refine W.eq (g2 := F0 m 7 ls [.int 0]) rfl ?_
  refine lv_istore_n (lv' := [(2, .int 0), (0, .ref x), (1, .int r)]) hx hb dX11_more_7 rfl hl (by decide) rfl (fun ls hl => ?_)
  refine lv_aload_n hx hb dX11_more_8 rfl (lv_at hl 1 rfl) ?_
  refine lv_iload_n hx hb dX11_more_9 rfl (lv_at hl 0 rfl) ?_
  refine lv_iload_n hx hb dX11_more_10 rfl (lv_at hl 2 rfl) ?_
  refine xcallV (g := g) (q0 := 0) (ci := 9) (As := [.int 0, .int r]) (rest := []) St hK hT hA hP hD hS hl.1 [0, 1] [] rfl rfl rfl (c_needTales0 l hfl g x ta o lo go tt lt mo fo ro fl9 ab len knd beg nxt flt fb r ) (cwV 2 hts (zgL (zl4 k700 k701 k702 k595) k696) rfl rfl rfl (by decide +kernel) ⟨Nat.le_of_ble_eq_true rfl, Nat.le_of_ble_eq_true rfl⟩) rfl rfl rfl rfl (Nat.le_of_ble_eq_true rfl) dX11_more_11 ⟨(Nat.le_of_ble_eq_true rfl), (Nat.le_of_ble_eq_true rfl)⟩ (fun E ce q9 u9 H locs hpx hP hD hS hce hcv hcl => ?_) (fun _u H locs hq2 hP hD hS => ?_)
  · skip
    have hpx : (fun (E : String) (_ : Unit) => E = "java/lang/IllegalArgumentException" ∧ (r < 0 ∨ 100 < r)) E u9 := hpx
    have hP : va_P g.1 vwCl (List.flatten []) H := hP
    have hD : va_D A (List.flatten []) := hD
    exact zout htab hlocks hS (Nat.le_of_ble_eq_true rfl) (Nat.le_of_ble_eq_true rfl) hce hcv hcl () hpx hP hD
  · skip
    have hq2 : ¬ r < 0 ∧ ¬ 100 < r := hq2
    have hP : va_P g.1 vwCl (List.flatten [bDR g x ta o lo go tt lt mo fo ro fl9, bTape g ta ab 0 len knd beg nxt flt fb]) H := hP
    have hD : va_D A (List.flatten [bDR g x ta o lo go tt lt mo fo ro fl9, bTape g ta ab 0 len knd beg nxt flt fb]) := hD
    refine W.widen (k := 2) (n := 12) (Nat.le_of_ble_eq_true rfl) (Nat.le_of_ble_eq_true rfl) ?_
    refine W.eq (g2 := F0 m 14 ls []) rfl ?_
    refine lv_iload_n hx hb dX11_more_14 rfl (lv_at hl 2 rfl) ?_
    refine lv_aload_n hx hb dX11_more_15 rfl (lv_at hl 1 rfl) ?_
    refine va_get (D := g.1) (ci := 9) (v := .ref ta) (C := RX11) (T := TX11) (N := 10) hx hb hts izRX11 hown hK hP 0 rfl rfl 0 (by decide) (hts _ k510) (fun _ h9 => h9) rfl dX11_more_16 ?_
    refine lv_iload_n hx hb dX11_more_19 rfl (lv_at hl 0 rfl) ?_
    refine mcallV (g := g) (q0 := 0) (ci := 6) (As := [.int 0]) (rest := [.int r]) St hK hT hA hP hD hS hl.1 [1] [0] rfl rfl rfl (c_lead0 l g ta ab len knd beg nxt flt fb ) (cwV 1 hts (zgL (zl4 k703 k704 k705 k303) k296) rfl rfl rfl (by decide +kernel) ⟨Nat.le_of_ble_eq_true rfl, Nat.le_of_ble_eq_true rfl⟩) rfl rfl rfl rfl (Nat.le_of_ble_eq_true rfl) dX11_more_20 ⟨(Nat.le_of_ble_eq_true rfl), (Nat.le_of_ble_eq_true rfl)⟩ (fun _u H locs hq3 hP hD hS => ?_)
    have hP : va_P g.1 vwCl (List.flatten [bDR g x ta o lo go tt lt mo fo ro fl9, bTape g ta ab 0 len knd beg nxt flt fb]) H := hP
    have hD : va_D A (List.flatten [bDR g x ta o lo go tt lt mo fo ro fl9, bTape g ta ab 0 len knd beg nxt flt fb]) := hD
    refine W.widen (k := 2) (n := 12) (Nat.le_of_ble_eq_true rfl) (Nat.le_of_ble_eq_true rfl) ?_
    refine W.eq (g2 := F0 m 23 ls [.int 0, .int r]) rfl ?_
    refine mcallS (g := g) (As := [.int r, .int 0]) (rest := []) St hK hT hA hP hD hS hl.1 [] [0, 1] rfl rfl rfl (c_fewestNeeded l g r ) (va_cwS 2 hts (zgL (zl3 k708 k709 k267) k286) rfl rfl rfl (by decide +kernel) ⟨Nat.le_of_ble_eq_true rfl, Nat.le_of_ble_eq_true rfl⟩) rfl rfl (Nat.le_of_ble_eq_true rfl) dX11_more_23 ⟨(Nat.le_of_ble_eq_true rfl), (Nat.le_of_ble_eq_true rfl)⟩ (fun q_4 H locs hq5 hP hD hS => ?_)
    have hq5 : q_4 = zfn r := hq5
    have hP : va_P g.1 vwCl (List.flatten [bDR g x ta o lo go tt lt mo fo ro fl9, bTape g ta ab 0 len knd beg nxt flt fb]) H := hP
    have hD : va_D A (List.flatten [bDR g x ta o lo go tt lt mo fo ro fl9, bTape g ta ab 0 len knd beg nxt flt fb]) := hD
    refine W.widen (k := 2) (n := 12) (Nat.le_of_ble_eq_true rfl) (Nat.le_of_ble_eq_true rfl) ?_
    refine W.eq (g2 := F0 m 26 ls [.int q_4]) rfl ?_
    have hP : va_P g.1 vwCl (List.flatten [bDR g x ta o lo go tt lt mo fo ro fl9, bTape g ta ab 0 len knd beg nxt flt fb]) H := hP
    have hD : va_D A (List.flatten [bDR g x ta o lo go tt lt mo fo ro fl9, bTape g ta ab 0 len knd beg nxt flt fb]) := hD
    obtain ⟨hP, hD⟩ := zord (g := g) (Bs' := []) [] rfl rfl hP hD
    exact zret_i hx hb hr hlocks hS (Nat.le_of_ble_eq_true rfl) (Nat.le_of_ble_eq_true rfl) dX11_more_26 (q_4) rfl (⟨hq2, hq5⟩) hP hD
set_option maxRecDepth 100000 in
set_option maxHeartbeats 4000000 in
theorem c_liars (l : Launch) (hfl : l.stackTraces = false) (g : zG) (x : Nat) (ta : Nat) (o : Nat) (lo : Nat) (go : Nat) (tt : Nat) (lt : Nat) (mo : Nat) (fo : Nat) (ro : Nat) (fl9 : Int32) (a : Nat → Nat) (tx : Int32) (ch : Int32) (jo : Int32) (tr : Int32) (dy : Int32) (sd : Int32) (f : Nat → Nat → Int32) (ab : Nat) (len : Int32) (knd : Int32) (beg : Int32) (nxt : Int32) (flt : Int32) (fb : Nat → Int32) (af : Nat) (pp : Int32) (ft : Int32) (ff : Nat → Int32) (su : Int32)  : zM g l yX11_liars (Cond.code yX11_liars cX11_liars 3 (some .int) :: zB) ({ frames := 8, cells := 1, slots := 6, locals := 126 } : Room) [.ref x, .int su] [bDR g x ta o lo go tt lt mo fo ro fl9, bTown g o a 0 0 tx ch jo tr dy sd f, bTape g ta ab 0 len knd beg nxt flt fb, bRid g ro af pp ft ff] (fun (q : Int32) => some (.int q)) (fun (q : Int32) => q = if su = 0 then 1 else 0) (fun (q : Int32) => []) := by
  refine zM.of (cc := cX11_liars) (maxL := 3) (rt := (some .int)) (by decide) rfl (Nat.le_of_ble_eq_true rfl) ?_
  intro p e s m args below meth c A ls St hr hlocks hin hK hT hA hP hD hS hl
  obtain ⟨hx, hb, hml, hown, hts⟩ := id St
  have hl : lv_has ls 3 [(0, .ref x), (1, .int su)] := hl
  refine lv_aload_n hx hb dX11_liars_0 rfl (lv_at hl 0 rfl) ?_
  refine va_get (D := g.1) (ci := 9) (v := .ref ta) (C := RX11) (T := TX11) (N := 10) hx hb hts izRX11 hown hK hP 0 rfl rfl 0 (by decide) (hts _ k510) (fun _ h9 => h9) rfl dX11_liars_1 ?_
  refine mcallV (g := g) (q0 := 0) (ci := 6) (As := []) (rest := []) St hK hT hA hP hD hS hl.1 [2] [0, 1, 3] rfl rfl rfl (c_useUp l g ta ab len knd beg nxt flt fb ) (cwV 0 hts (zgL (zl4 k557 k558 k559 k303) k294) rfl rfl rfl (by decide +kernel) ⟨Nat.le_of_ble_eq_true rfl, Nat.le_of_ble_eq_true rfl⟩) rfl rfl rfl rfl (Nat.le_of_ble_eq_true rfl) dX11_liars_4 ⟨(Nat.le_of_ble_eq_true rfl), (Nat.le_of_ble_eq_true rfl)⟩ (fun _u H locs hq1 hP hD hS => ?_)
  have hP : va_P g.1 vwCl (List.flatten [bDR g x ta o lo go tt lt mo fo ro fl9, bTown g o a 0 0 tx ch jo tr dy sd f, bRid g ro af pp ft ff, bTape g ta ab 0 len knd beg nxt flt fb]) H := hP
  have hD : va_D A (List.flatten [bDR g x ta o lo go tt lt mo fo ro fl9, bTown g o a 0 0 tx ch jo tr dy sd f, bRid g ro af pp ft ff, bTape g ta ab 0 len knd beg nxt flt fb]) := hD
  refine W.widen (k := 0) (n := 0) (Nat.le_of_ble_eq_true rfl) (Nat.le_of_ble_eq_true rfl) ?_
  refine W.eq (g2 := F0 m 7 ls [.int 0]) rfl ?_
  refine lv_istore_n (lv' := [(2, .int 0), (0, .ref x), (1, .int su)]) hx hb dX11_liars_7 rfl hl (by decide) rfl (fun ls hl => ?_)
  refine lv_aload_n hx hb dX11_liars_8 rfl (lv_at hl 1 rfl) ?_
  refine lv_iload_n hx hb dX11_liars_9 rfl (lv_at hl 0 rfl) ?_
  refine mcallV (g := g) (q0 := 0) (ci := 9) (As := [.int 0]) (rest := []) St hK hT hA hP hD hS hl.1 [0, 1, 3] [2] rfl rfl rfl (c_needSaid0 l hfl g x ta o lo go tt lt mo fo ro fl9 a tx ch jo tr dy sd f ab len knd beg nxt flt fb ) (cwV 1 hts (zgL (zl4 k716 k717 k718 k595) k711) rfl rfl rfl (by decide +kernel) ⟨Nat.le_of_ble_eq_true rfl, Nat.le_of_ble_eq_true rfl⟩) rfl rfl rfl rfl (Nat.le_of_ble_eq_true rfl) dX11_liars_10 ⟨(Nat.le_of_ble_eq_true rfl), (Nat.le_of_ble_eq_true rfl)⟩ (fun _u H locs hq2 hP hD hS => ?_)
  have hP : va_P g.1 vwCl (List.flatten [bRid g ro af pp ft ff, bDR g x ta o lo go tt lt mo fo ro fl9, bTown g o a 0 0 tx ch jo tr dy sd f, bTape g ta ab 0 len knd beg nxt flt fb]) H := hP
  have hD : va_D A (List.flatten [bRid g ro af pp ft ff, bDR g x ta o lo go tt lt mo fo ro fl9, bTown g o a 0 0 tx ch jo tr dy sd f, bTape g ta ab 0 len knd beg nxt flt fb]) := hD
  refine W.widen (k := 1) (n := 6) (Nat.le_of_ble_eq_true rfl) (Nat.le_of_ble_eq_true rfl) ?_
  refine W.eq (g2 := F0 m 13 ls []) rfl ?_
  refine lv_aload_n hx hb dX11_liars_13 rfl (lv_at hl 1 rfl) ?_
  refine va_get (D := g.1) (ci := 9) (v := .ref ro) (C := RX11) (T := TX11) (N := 10) hx hb hts izRX11 hown hK hP 2 rfl rfl 8 (by decide) (hts _ k531) (fun _ h9 => h9) rfl dX11_liars_14 ?_
  refine lv_aload_n hx hb dX11_liars_17 rfl (lv_at hl 1 rfl) ?_
  refine va_get (D := g.1) (ci := 9) (v := .ref ta) (C := RX11) (T := TX11) (N := 10) hx hb hts izRX11 hown hK hP 2 rfl rfl 0 (by decide) (hts _ k510) (fun _ h9 => h9) rfl dX11_liars_18 ?_
  refine lv_iload_n hx hb dX11_liars_21 rfl (lv_at hl 0 rfl) ?_
  refine lv_aload_n hx hb dX11_liars_22 rfl (lv_at hl 1 rfl) ?_
  refine va_get (D := g.1) (ci := 9) (v := .ref o) (C := RX11) (T := TX11) (N := 10) hx hb hts izRX11 hown hK hP 2 rfl rfl 1 (by decide) (hts _ k512) (fun _ h9 => h9) rfl dX11_liars_23 ?_
  refine va_get (D := g.1) (ci := 7) (v := .int 0) (C := RX9) (T := TX9) (N := 19) hx hb hts izRX9 hown hK hP 3 rfl rfl 0 (by decide) (hts _ k584) (fun _ h9 => h9) rfl dX11_liars_26 ?_
  refine mcallV (g := g) (q0 := 0) (ci := 5) (As := [.ref ta, .int 0, .int 0]) (rest := []) St hK hT hA hP hD hS hl.1 [0, 3] [1, 2] rfl rfl rfl (c_hear0 l g ro af pp ft ff ta ab 0 len knd beg nxt flt fb ) (cwV 3 hts (zgL (zl4 k719 k720 k721 k267) k269) rfl rfl rfl (by decide +kernel) ⟨Nat.le_of_ble_eq_true rfl, Nat.le_of_ble_eq_true rfl⟩) rfl rfl rfl rfl (Nat.le_of_ble_eq_true rfl) dX11_liars_29 ⟨(Nat.le_of_ble_eq_true rfl), (Nat.le_of_ble_eq_true rfl)⟩ (fun f3_3 H locs hq4 hP hD hS => ?_)
  have hq4 : f3_3 0 = 1 := hq4
  have hP : va_P g.1 vwCl (List.flatten [bDR g x ta o lo go tt lt mo fo ro fl9, bTown g o a 0 0 tx ch jo tr dy sd f, bRid g ro af 0 1 f3_3, bTape g ta ab 0 len knd beg nxt flt fb]) H := hP
  have hD : va_D A (List.flatten [bDR g x ta o lo go tt lt mo fo ro fl9, bTown g o a 0 0 tx ch jo tr dy sd f, bRid g ro af 0 1 f3_3, bTape g ta ab 0 len knd beg nxt flt fb]) := hD
  refine W.widen (k := 1) (n := 6) (Nat.le_of_ble_eq_true rfl) (Nat.le_of_ble_eq_true rfl) ?_
  refine W.eq (g2 := F0 m 32 ls []) rfl ?_
  refine lv_iload_n hx hb dX11_liars_32 rfl (lv_at hl 2 rfl) ?_
  refine lv_if_eq (tgt := 46) hx hb dX11_liars_33 (by decide) (fun cB => ?_) (fun cB => ?_)
  · skip
    refine lv_aload_n hx hb dX11_liars_46 rfl (lv_at hl 1 rfl) ?_
    refine va_get (D := g.1) (ci := 9) (v := .ref ro) (C := RX11) (T := TX11) (N := 10) hx hb hts izRX11 hown hK hP 0 rfl rfl 8 (by decide) (hts _ k531) (fun _ h9 => h9) rfl dX11_liars_47 ?_
    refine va_get (D := g.1) (ci := 5) (v := .int 1) (C := RX5) (T := TX5) (N := 3) hx hb hts izRX5 hown hK hP 13 rfl rfl 2 (by decide) (hts _ k715) (fun _ h9 => h9) rfl dX11_liars_50 ?_
    have hP : va_P g.1 vwCl (List.flatten [bDR g x ta o lo go tt lt mo fo ro fl9, bTown g o a 0 0 tx ch jo tr dy sd f, bRid g ro af 0 1 f3_3, bTape g ta ab 0 len knd beg nxt flt fb]) H := hP
    have hD : va_D A (List.flatten [bDR g x ta o lo go tt lt mo fo ro fl9, bTown g o a 0 0 tx ch jo tr dy sd f, bRid g ro af 0 1 f3_3, bTape g ta ab 0 len knd beg nxt flt fb]) := hD
    obtain ⟨hP, hD⟩ := zord (g := g) (Bs' := []) [] rfl rfl hP hD
    exact mret_i hx hb hr hlocks hS (Nat.le_of_ble_eq_true rfl) (Nat.le_of_ble_eq_true rfl) dX11_liars_53 (1) rfl ((if_pos cB).symm) hP hD
  · skip
    refine lv_aload_n hx hb dX11_liars_36 rfl (lv_at hl 1 rfl) ?_
    refine va_get (D := g.1) (ci := 9) (v := .ref ro) (C := RX11) (T := TX11) (N := 10) hx hb hts izRX11 hown hK hP 0 rfl rfl 8 (by decide) (hts _ k531) (fun _ h9 => h9) rfl dX11_liars_37 ?_
    refine mcallV (g := g) (q0 := 0) (ci := 5) (As := []) (rest := []) St hK hT hA hP hD hS hl.1 [2] [0, 1, 3] rfl rfl rfl (c_honestInAll0 l g ro af f3_3 (by assumption)) (cwV 0 hts (zgL (zl4 k722 k723 k724 k267) k276) rfl rfl rfl (by decide +kernel) ⟨Nat.le_of_ble_eq_true rfl, Nat.le_of_ble_eq_true rfl⟩) rfl rfl rfl rfl (Nat.le_of_ble_eq_true rfl) dX11_liars_40 ⟨(Nat.le_of_ble_eq_true rfl), (Nat.le_of_ble_eq_true rfl)⟩ (fun _u H locs hq6 hP hD hS => ?_)
    have hP : va_P g.1 vwCl (List.flatten [bDR g x ta o lo go tt lt mo fo ro fl9, bTown g o a 0 0 tx ch jo tr dy sd f, bTape g ta ab 0 len knd beg nxt flt fb, bRid g ro af 0 1 f3_3]) H := hP
    have hD : va_D A (List.flatten [bDR g x ta o lo go tt lt mo fo ro fl9, bTown g o a 0 0 tx ch jo tr dy sd f, bTape g ta ab 0 len knd beg nxt flt fb, bRid g ro af 0 1 f3_3]) := hD
    refine W.widen (k := 1) (n := 6) (Nat.le_of_ble_eq_true rfl) (Nat.le_of_ble_eq_true rfl) ?_
    refine W.eq (g2 := F0 m 43 ls [.int 0]) rfl ?_
    refine lv_goto (tgt := 53) hx hb dX11_liars_43 (by decide) ?_
    have hP : va_P g.1 vwCl (List.flatten [bDR g x ta o lo go tt lt mo fo ro fl9, bTown g o a 0 0 tx ch jo tr dy sd f, bTape g ta ab 0 len knd beg nxt flt fb, bRid g ro af 0 1 f3_3]) H := hP
    have hD : va_D A (List.flatten [bDR g x ta o lo go tt lt mo fo ro fl9, bTown g o a 0 0 tx ch jo tr dy sd f, bTape g ta ab 0 len knd beg nxt flt fb, bRid g ro af 0 1 f3_3]) := hD
    obtain ⟨hP, hD⟩ := zord (g := g) (Bs' := []) [] rfl rfl hP hD
    exact mret_i hx hb hr hlocks hS (Nat.le_of_ble_eq_true rfl) (Nat.le_of_ble_eq_true rfl) dX11_liars_53 (0) rfl ((if_neg cB).symm) hP hD
set_option maxRecDepth 100000 in
set_option maxHeartbeats 4000000 in
theorem c_ask (l : Launch) (hfl : l.stackTraces = false) (g : zG) (x : Nat) (ta : Nat) (o : Nat) (lo : Nat) (go : Nat) (tt : Nat) (lt : Nat) (mo : Nat) (fo : Nat) (ro : Nat) (fl9 : Int32) (a : Nat → Nat) (tx : Int32) (ch : Int32) (jo : Int32) (tr : Int32) (dy : Int32) (sd : Int32) (f : Nat → Nat → Int32) (ab : Nat) (len : Int32) (knd : Int32) (beg : Int32) (nxt : Int32) (flt : Int32) (fb : Nat → Int32) (af : Nat) (pp : Int32) (ft : Int32) (ff : Nat → Int32)  : zM g l yX11_ask (Cond.code yX11_ask cX11_ask 2 (some .int) :: zB) ({ frames := 8, cells := 1, slots := 6, locals := 126 } : Room) [.ref x] [bDR g x ta o lo go tt lt mo fo ro fl9, bTown g o a 0 0 tx ch jo tr dy sd f, bTape g ta ab 0 len knd beg nxt flt fb, bRid g ro af pp ft ff] (fun _ : Unit => some (.int (-1))) (fun _ : Unit => True) (fun _ : Unit => []) := by
  refine zM.of (cc := cX11_ask) (maxL := 2) (rt := (some .int)) (by decide) rfl (Nat.le_of_ble_eq_true rfl) ?_
  intro p e s m args below meth c A ls St hr hlocks hin hK hT hA hP hD hS hl
  obtain ⟨hx, hb, hml, hown, hts⟩ := id St
  have hl : lv_has ls 2 [(0, .ref x)] := hl
  refine lv_aload_n hx hb dX11_ask_0 rfl (lv_at hl 0 rfl) ?_
  refine va_get (D := g.1) (ci := 9) (v := .ref ta) (C := RX11) (T := TX11) (N := 10) hx hb hts izRX11 hown hK hP 0 rfl rfl 0 (by decide) (hts _ k510) (fun _ h9 => h9) rfl dX11_ask_1 ?_
  refine mcallV (g := g) (q0 := 0) (ci := 6) (As := []) (rest := []) St hK hT hA hP hD hS hl.1 [2] [0, 1, 3] rfl rfl rfl (c_useUp l g ta ab len knd beg nxt flt fb ) (cwV 0 hts (zgL (zl4 k557 k558 k559 k303) k294) rfl rfl rfl (by decide +kernel) ⟨Nat.le_of_ble_eq_true rfl, Nat.le_of_ble_eq_true rfl⟩) rfl rfl rfl rfl (Nat.le_of_ble_eq_true rfl) dX11_ask_4 ⟨(Nat.le_of_ble_eq_true rfl), (Nat.le_of_ble_eq_true rfl)⟩ (fun _u H locs hq1 hP hD hS => ?_)
  have hP : va_P g.1 vwCl (List.flatten [bDR g x ta o lo go tt lt mo fo ro fl9, bTown g o a 0 0 tx ch jo tr dy sd f, bRid g ro af pp ft ff, bTape g ta ab 0 len knd beg nxt flt fb]) H := hP
  have hD : va_D A (List.flatten [bDR g x ta o lo go tt lt mo fo ro fl9, bTown g o a 0 0 tx ch jo tr dy sd f, bRid g ro af pp ft ff, bTape g ta ab 0 len knd beg nxt flt fb]) := hD
  refine W.widen (k := 0) (n := 0) (Nat.le_of_ble_eq_true rfl) (Nat.le_of_ble_eq_true rfl) ?_
  refine W.eq (g2 := F0 m 7 ls [.int 0]) rfl ?_
  refine lv_istore_n (lv' := [(1, .int 0), (0, .ref x)]) hx hb dX11_ask_7 rfl hl (by decide) rfl (fun ls hl => ?_)
  refine lv_aload_n hx hb dX11_ask_8 rfl (lv_at hl 1 rfl) ?_
  refine lv_iload_n hx hb dX11_ask_9 rfl (lv_at hl 0 rfl) ?_
  refine mcallV (g := g) (q0 := 0) (ci := 9) (As := [.int 0]) (rest := []) St hK hT hA hP hD hS hl.1 [0, 1, 3] [2] rfl rfl rfl (c_needSaid0 l hfl g x ta o lo go tt lt mo fo ro fl9 a tx ch jo tr dy sd f ab len knd beg nxt flt fb ) (cwV 1 hts (zgL (zl4 k716 k717 k718 k595) k711) rfl rfl rfl (by decide +kernel) ⟨Nat.le_of_ble_eq_true rfl, Nat.le_of_ble_eq_true rfl⟩) rfl rfl rfl rfl (Nat.le_of_ble_eq_true rfl) dX11_ask_10 ⟨(Nat.le_of_ble_eq_true rfl), (Nat.le_of_ble_eq_true rfl)⟩ (fun _u H locs hq2 hP hD hS => ?_)
  have hP : va_P g.1 vwCl (List.flatten [bRid g ro af pp ft ff, bDR g x ta o lo go tt lt mo fo ro fl9, bTown g o a 0 0 tx ch jo tr dy sd f, bTape g ta ab 0 len knd beg nxt flt fb]) H := hP
  have hD : va_D A (List.flatten [bRid g ro af pp ft ff, bDR g x ta o lo go tt lt mo fo ro fl9, bTown g o a 0 0 tx ch jo tr dy sd f, bTape g ta ab 0 len knd beg nxt flt fb]) := hD
  refine W.widen (k := 1) (n := 6) (Nat.le_of_ble_eq_true rfl) (Nat.le_of_ble_eq_true rfl) ?_
  refine W.eq (g2 := F0 m 13 ls []) rfl ?_
  refine lv_aload_n hx hb dX11_ask_13 rfl (lv_at hl 1 rfl) ?_
  refine va_get (D := g.1) (ci := 9) (v := .ref ro) (C := RX11) (T := TX11) (N := 10) hx hb hts izRX11 hown hK hP 2 rfl rfl 8 (by decide) (hts _ k531) (fun _ h9 => h9) rfl dX11_ask_14 ?_
  refine lv_aload_n hx hb dX11_ask_17 rfl (lv_at hl 1 rfl) ?_
  refine va_get (D := g.1) (ci := 9) (v := .ref ta) (C := RX11) (T := TX11) (N := 10) hx hb hts izRX11 hown hK hP 2 rfl rfl 0 (by decide) (hts _ k510) (fun _ h9 => h9) rfl dX11_ask_18 ?_
  refine lv_iload_n hx hb dX11_ask_21 rfl (lv_at hl 0 rfl) ?_
  refine lv_aload_n hx hb dX11_ask_22 rfl (lv_at hl 1 rfl) ?_
  refine va_get (D := g.1) (ci := 9) (v := .ref o) (C := RX11) (T := TX11) (N := 10) hx hb hts izRX11 hown hK hP 2 rfl rfl 1 (by decide) (hts _ k512) (fun _ h9 => h9) rfl dX11_ask_23 ?_
  refine va_get (D := g.1) (ci := 7) (v := .int 0) (C := RX9) (T := TX9) (N := 19) hx hb hts izRX9 hown hK hP 3 rfl rfl 0 (by decide) (hts _ k584) (fun _ h9 => h9) rfl dX11_ask_26 ?_
  refine mcallV (g := g) (q0 := 0) (ci := 5) (As := [.ref ta, .int 0, .int 0]) (rest := []) St hK hT hA hP hD hS hl.1 [0, 3] [1, 2] rfl rfl rfl (c_hear0 l g ro af pp ft ff ta ab 0 len knd beg nxt flt fb ) (cwV 3 hts (zgL (zl4 k719 k720 k721 k267) k269) rfl rfl rfl (by decide +kernel) ⟨Nat.le_of_ble_eq_true rfl, Nat.le_of_ble_eq_true rfl⟩) rfl rfl rfl rfl (Nat.le_of_ble_eq_true rfl) dX11_ask_29 ⟨(Nat.le_of_ble_eq_true rfl), (Nat.le_of_ble_eq_true rfl)⟩ (fun f3_3 H locs hq4 hP hD hS => ?_)
  have hq4 : f3_3 0 = 1 := hq4
  have hP : va_P g.1 vwCl (List.flatten [bDR g x ta o lo go tt lt mo fo ro fl9, bTown g o a 0 0 tx ch jo tr dy sd f, bRid g ro af 0 1 f3_3, bTape g ta ab 0 len knd beg nxt flt fb]) H := hP
  have hD : va_D A (List.flatten [bDR g x ta o lo go tt lt mo fo ro fl9, bTown g o a 0 0 tx ch jo tr dy sd f, bRid g ro af 0 1 f3_3, bTape g ta ab 0 len knd beg nxt flt fb]) := hD
  refine W.widen (k := 1) (n := 6) (Nat.le_of_ble_eq_true rfl) (Nat.le_of_ble_eq_true rfl) ?_
  refine W.eq (g2 := F0 m 32 ls []) rfl ?_
  refine lv_aload_n hx hb dX11_ask_32 rfl (lv_at hl 1 rfl) ?_
  refine va_get (D := g.1) (ci := 9) (v := .ref ro) (C := RX11) (T := TX11) (N := 10) hx hb hts izRX11 hown hK hP 0 rfl rfl 8 (by decide) (hts _ k531) (fun _ h9 => h9) rfl dX11_ask_33 ?_
  refine mcallV (g := g) (q0 := 0) (ci := 5) (As := []) (rest := []) St hK hT hA hP hD hS hl.1 [2] [0, 1, 3] rfl rfl rfl (c_bestQuestion0 l g ro af 1 f3_3 ) (cwV 0 hts (zgL (zl4 k726 k727 k728 k267) k277) rfl rfl rfl (by decide +kernel) ⟨Nat.le_of_ble_eq_true rfl, Nat.le_of_ble_eq_true rfl⟩) rfl rfl rfl rfl (Nat.le_of_ble_eq_true rfl) dX11_ask_36 ⟨(Nat.le_of_ble_eq_true rfl), (Nat.le_of_ble_eq_true rfl)⟩ (fun _u H locs hq5 hP hD hS => ?_)
  have hP : va_P g.1 vwCl (List.flatten [bDR g x ta o lo go tt lt mo fo ro fl9, bTown g o a 0 0 tx ch jo tr dy sd f, bTape g ta ab 0 len knd beg nxt flt fb, bRid g ro af 0 1 f3_3]) H := hP
  have hD : va_D A (List.flatten [bDR g x ta o lo go tt lt mo fo ro fl9, bTown g o a 0 0 tx ch jo tr dy sd f, bTape g ta ab 0 len knd beg nxt flt fb, bRid g ro af 0 1 f3_3]) := hD
  refine W.widen (k := 1) (n := 6) (Nat.le_of_ble_eq_true rfl) (Nat.le_of_ble_eq_true rfl) ?_
  refine W.eq (g2 := F0 m 39 ls [.int (-1)]) rfl ?_
  have hP : va_P g.1 vwCl (List.flatten [bDR g x ta o lo go tt lt mo fo ro fl9, bTown g o a 0 0 tx ch jo tr dy sd f, bTape g ta ab 0 len knd beg nxt flt fb, bRid g ro af 0 1 f3_3]) H := hP
  have hD : va_D A (List.flatten [bDR g x ta o lo go tt lt mo fo ro fl9, bTown g o a 0 0 tx ch jo tr dy sd f, bTape g ta ab 0 len knd beg nxt flt fb, bRid g ro af 0 1 f3_3]) := hD
  obtain ⟨hP, hD⟩ := zord (g := g) (Bs' := []) [] rfl rfl hP hD
  exact mret_i hx hb hr hlocks hS (Nat.le_of_ble_eq_true rfl) (Nat.le_of_ble_eq_true rfl) dX11_ask_39 () rfl trivial hP hD
set_option maxRecDepth 100000 in
set_option maxHeartbeats 4000000 in
/-- new DryRiver() -/
theorem c_DR_init (l : Launch) (g : zG) (x : Nat)  : zM g l yX11_init (Cond.code yX11_init cX11_init 1 none :: zB) ({ frames := 3, cells := 236, slots := 7805, locals := 55 } : Room) [.ref x] [[(x, .inr (9, [.null, .null, .null, .null, .null, .null, .null, .null, .null, .int 0]))]] (fun u : Nat × Nat × Nat × Nat × Nat × Nat × Nat × Nat × Nat × Nat × Nat × Nat × Nat × (Nat → Nat) × (Nat → Nat) × Nat × Nat × Nat × Nat × Nat × Nat × Nat × (Nat → Option Nat) × (Nat → Option Nat) × (Nat → Nat) × Nat × Nat × Nat × (Nat → Nat) × Nat × Nat × Nat × (Nat → Nat) × Nat => (fun (ta : Nat) (o : Nat) (lo : Nat) (go : Nat) (tt : Nat) (lt : Nat) (mo : Nat) (fo : Nat) (ro : Nat) (ab : Nat) (ac : Nat) (ar : Nat) (td : Nat) (a : Nat → Nat) (tda : Nat → Nat) (ldr : Nat) (lda : Nat) (qT : Nat) (qL : Nat) (it : Nat) (il : Nat) (ig : Nat) (fT : Nat → Option Nat) (fL : Nat → Option Nat) (ia : Nat → Nat) (ic : Nat) (ir : Nat) (t0 : Nat) (ta0 : Nat → Nat) (l0 : Nat) (la0 : Nat) (od : Nat) (ad : Nat → Nat) (af : Nat) => none) (u.1) (u.2.1) (u.2.2.1) (u.2.2.2.1) (u.2.2.2.2.1) (u.2.2.2.2.2.1) (u.2.2.2.2.2.2.1) (u.2.2.2.2.2.2.2.1) (u.2.2.2.2.2.2.2.2.1) (u.2.2.2.2.2.2.2.2.2.1) (u.2.2.2.2.2.2.2.2.2.2.1) (u.2.2.2.2.2.2.2.2.2.2.2.1) (u.2.2.2.2.2.2.2.2.2.2.2.2.1) (u.2.2.2.2.2.2.2.2.2.2.2.2.2.1) (u.2.2.2.2.2.2.2.2.2.2.2.2.2.2.1) (u.2.2.2.2.2.2.2.2.2.2.2.2.2.2.2.1) (u.2.2.2.2.2.2.2.2.2.2.2.2.2.2.2.2.1) (u.2.2.2.2.2.2.2.2.2.2.2.2.2.2.2.2.2.1) (u.2.2.2.2.2.2.2.2.2.2.2.2.2.2.2.2.2.2.1) (u.2.2.2.2.2.2.2.2.2.2.2.2.2.2.2.2.2.2.2.1) (u.2.2.2.2.2.2.2.2.2.2.2.2.2.2.2.2.2.2.2.2.1) (u.2.2.2.2.2.2.2.2.2.2.2.2.2.2.2.2.2.2.2.2.2.1) (u.2.2.2.2.2.2.2.2.2.2.2.2.2.2.2.2.2.2.2.2.2.2.1) (u.2.2.2.2.2.2.2.2.2.2.2.2.2.2.2.2.2.2.2.2.2.2.2.1) (u.2.2.2.2.2.2.2.2.2.2.2.2.2.2.2.2.2.2.2.2.2.2.2.2.1) (u.2.2.2.2.2.2.2.2.2.2.2.2.2.2.2.2.2.2.2.2.2.2.2.2.2.1) (u.2.2.2.2.2.2.2.2.2.2.2.2.2.2.2.2.2.2.2.2.2.2.2.2.2.2.1) (u.2.2.2.2.2.2.2.2.2.2.2.2.2.2.2.2.2.2.2.2.2.2.2.2.2.2.2.1) (u.2.2.2.2.2.2.2.2.2.2.2.2.2.2.2.2.2.2.2.2.2.2.2.2.2.2.2.2.1) (u.2.2.2.2.2.2.2.2.2.2.2.2.2.2.2.2.2.2.2.2.2.2.2.2.2.2.2.2.2.1) (u.2.2.2.2.2.2.2.2.2.2.2.2.2.2.2.2.2.2.2.2.2.2.2.2.2.2.2.2.2.2.1) (u.2.2.2.2.2.2.2.2.2.2.2.2.2.2.2.2.2.2.2.2.2.2.2.2.2.2.2.2.2.2.2.1) (u.2.2.2.2.2.2.2.2.2.2.2.2.2.2.2.2.2.2.2.2.2.2.2.2.2.2.2.2.2.2.2.2.1) (u.2.2.2.2.2.2.2.2.2.2.2.2.2.2.2.2.2.2.2.2.2.2.2.2.2.2.2.2.2.2.2.2.2)) (fun u : Nat × Nat × Nat × Nat × Nat × Nat × Nat × Nat × Nat × Nat × Nat × Nat × Nat × (Nat → Nat) × (Nat → Nat) × Nat × Nat × Nat × Nat × Nat × Nat × Nat × (Nat → Option Nat) × (Nat → Option Nat) × (Nat → Nat) × Nat × Nat × Nat × (Nat → Nat) × Nat × Nat × Nat × (Nat → Nat) × Nat => (fun (ta : Nat) (o : Nat) (lo : Nat) (go : Nat) (tt : Nat) (lt : Nat) (mo : Nat) (fo : Nat) (ro : Nat) (ab : Nat) (ac : Nat) (ar : Nat) (td : Nat) (a : Nat → Nat) (tda : Nat → Nat) (ldr : Nat) (lda : Nat) (qT : Nat) (qL : Nat) (it : Nat) (il : Nat) (ig : Nat) (fT : Nat → Option Nat) (fL : Nat → Option Nat) (ia : Nat → Nat) (ic : Nat) (ir : Nat) (t0 : Nat) (ta0 : Nat → Nat) (l0 : Nat) (la0 : Nat) (od : Nat) (ad : Nat → Nat) (af : Nat) => fT 0 = some t0 ∧ fL 0 = some l0) (u.1) (u.2.1) (u.2.2.1) (u.2.2.2.1) (u.2.2.2.2.1) (u.2.2.2.2.2.1) (u.2.2.2.2.2.2.1) (u.2.2.2.2.2.2.2.1) (u.2.2.2.2.2.2.2.2.1) (u.2.2.2.2.2.2.2.2.2.1) (u.2.2.2.2.2.2.2.2.2.2.1) (u.2.2.2.2.2.2.2.2.2.2.2.1) (u.2.2.2.2.2.2.2.2.2.2.2.2.1) (u.2.2.2.2.2.2.2.2.2.2.2.2.2.1) (u.2.2.2.2.2.2.2.2.2.2.2.2.2.2.1) (u.2.2.2.2.2.2.2.2.2.2.2.2.2.2.2.1) (u.2.2.2.2.2.2.2.2.2.2.2.2.2.2.2.2.1) (u.2.2.2.2.2.2.2.2.2.2.2.2.2.2.2.2.2.1) (u.2.2.2.2.2.2.2.2.2.2.2.2.2.2.2.2.2.2.1) (u.2.2.2.2.2.2.2.2.2.2.2.2.2.2.2.2.2.2.2.1) (u.2.2.2.2.2.2.2.2.2.2.2.2.2.2.2.2.2.2.2.2.1) (u.2.2.2.2.2.2.2.2.2.2.2.2.2.2.2.2.2.2.2.2.2.1) (u.2.2.2.2.2.2.2.2.2.2.2.2.2.2.2.2.2.2.2.2.2.2.1) (u.2.2.2.2.2.2.2.2.2.2.2.2.2.2.2.2.2.2.2.2.2.2.2.1) (u.2.2.2.2.2.2.2.2.2.2.2.2.2.2.2.2.2.2.2.2.2.2.2.2.1) (u.2.2.2.2.2.2.2.2.2.2.2.2.2.2.2.2.2.2.2.2.2.2.2.2.2.1) (u.2.2.2.2.2.2.2.2.2.2.2.2.2.2.2.2.2.2.2.2.2.2.2.2.2.2.1) (u.2.2.2.2.2.2.2.2.2.2.2.2.2.2.2.2.2.2.2.2.2.2.2.2.2.2.2.1) (u.2.2.2.2.2.2.2.2.2.2.2.2.2.2.2.2.2.2.2.2.2.2.2.2.2.2.2.2.1) (u.2.2.2.2.2.2.2.2.2.2.2.2.2.2.2.2.2.2.2.2.2.2.2.2.2.2.2.2.2.1) (u.2.2.2.2.2.2.2.2.2.2.2.2.2.2.2.2.2.2.2.2.2.2.2.2.2.2.2.2.2.2.1) (u.2.2.2.2.2.2.2.2.2.2.2.2.2.2.2.2.2.2.2.2.2.2.2.2.2.2.2.2.2.2.2.1) (u.2.2.2.2.2.2.2.2.2.2.2.2.2.2.2.2.2.2.2.2.2.2.2.2.2.2.2.2.2.2.2.2.1) (u.2.2.2.2.2.2.2.2.2.2.2.2.2.2.2.2.2.2.2.2.2.2.2.2.2.2.2.2.2.2.2.2.2)) (fun u : Nat × Nat × Nat × Nat × Nat × Nat × Nat × Nat × Nat × Nat × Nat × Nat × Nat × (Nat → Nat) × (Nat → Nat) × Nat × Nat × Nat × Nat × Nat × Nat × Nat × (Nat → Option Nat) × (Nat → Option Nat) × (Nat → Nat) × Nat × Nat × Nat × (Nat → Nat) × Nat × Nat × Nat × (Nat → Nat) × Nat => (fun (ta : Nat) (o : Nat) (lo : Nat) (go : Nat) (tt : Nat) (lt : Nat) (mo : Nat) (fo : Nat) (ro : Nat) (ab : Nat) (ac : Nat) (ar : Nat) (td : Nat) (a : Nat → Nat) (tda : Nat → Nat) (ldr : Nat) (lda : Nat) (qT : Nat) (qL : Nat) (it : Nat) (il : Nat) (ig : Nat) (fT : Nat → Option Nat) (fL : Nat → Option Nat) (ia : Nat → Nat) (ic : Nat) (ir : Nat) (t0 : Nat) (ta0 : Nat → Nat) (l0 : Nat) (la0 : Nat) (od : Nat) (ad : Nat → Nat) (af : Nat) => [bDR g x ta o lo go tt lt mo fo ro (-1), bTape g ta ab 0 0 0 0 0 (-1) (fun _ => 0), bTown g o a 0 0 0 20 6 50 0 1 (fun _ _ => 0), bLaw g lo ac 0 (-1) 0 0 0 (fun _ => 0), bLog g go ar 0 0 (fun _ => 0), [(tt, .inr (8, [.ref ta, .ref td]))], bTown g td tda 0 0 0 20 6 50 0 1 (fun _ _ => 0), [(lt, .inr (2, [.ref ta, .ref ldr]))], bLaw g ldr lda 0 (-1) 0 0 0 (fun _ => 0), bMem g mo qT qL it il ig 0 0 0 fT fL, bTown g it ia 0 0 0 20 6 50 0 1 (fun _ _ => 0), bLaw g il ic 0 (-1) 0 0 0 (fun _ => 0), bLog g ig ir 0 0 (fun _ => 0), bTown g t0 ta0 0 0 0 20 6 50 0 1 (fun _ _ => 0), bLog g l0 la0 0 0 (fun _ => 0), [(fo, .inr (0, [.ref o, .ref lo, .ref od]))], bTown g od ad 0 0 0 20 6 50 0 1 (fun _ _ => 0), bRid g ro af 0 0 (fun _ => 0)]) (u.1) (u.2.1) (u.2.2.1) (u.2.2.2.1) (u.2.2.2.2.1) (u.2.2.2.2.2.1) (u.2.2.2.2.2.2.1) (u.2.2.2.2.2.2.2.1) (u.2.2.2.2.2.2.2.2.1) (u.2.2.2.2.2.2.2.2.2.1) (u.2.2.2.2.2.2.2.2.2.2.1) (u.2.2.2.2.2.2.2.2.2.2.2.1) (u.2.2.2.2.2.2.2.2.2.2.2.2.1) (u.2.2.2.2.2.2.2.2.2.2.2.2.2.1) (u.2.2.2.2.2.2.2.2.2.2.2.2.2.2.1) (u.2.2.2.2.2.2.2.2.2.2.2.2.2.2.2.1) (u.2.2.2.2.2.2.2.2.2.2.2.2.2.2.2.2.1) (u.2.2.2.2.2.2.2.2.2.2.2.2.2.2.2.2.2.1) (u.2.2.2.2.2.2.2.2.2.2.2.2.2.2.2.2.2.2.1) (u.2.2.2.2.2.2.2.2.2.2.2.2.2.2.2.2.2.2.2.1) (u.2.2.2.2.2.2.2.2.2.2.2.2.2.2.2.2.2.2.2.2.1) (u.2.2.2.2.2.2.2.2.2.2.2.2.2.2.2.2.2.2.2.2.2.1) (u.2.2.2.2.2.2.2.2.2.2.2.2.2.2.2.2.2.2.2.2.2.2.1) (u.2.2.2.2.2.2.2.2.2.2.2.2.2.2.2.2.2.2.2.2.2.2.2.1) (u.2.2.2.2.2.2.2.2.2.2.2.2.2.2.2.2.2.2.2.2.2.2.2.2.1) (u.2.2.2.2.2.2.2.2.2.2.2.2.2.2.2.2.2.2.2.2.2.2.2.2.2.1) (u.2.2.2.2.2.2.2.2.2.2.2.2.2.2.2.2.2.2.2.2.2.2.2.2.2.2.1) (u.2.2.2.2.2.2.2.2.2.2.2.2.2.2.2.2.2.2.2.2.2.2.2.2.2.2.2.1) (u.2.2.2.2.2.2.2.2.2.2.2.2.2.2.2.2.2.2.2.2.2.2.2.2.2.2.2.2.1) (u.2.2.2.2.2.2.2.2.2.2.2.2.2.2.2.2.2.2.2.2.2.2.2.2.2.2.2.2.2.1) (u.2.2.2.2.2.2.2.2.2.2.2.2.2.2.2.2.2.2.2.2.2.2.2.2.2.2.2.2.2.2.1) (u.2.2.2.2.2.2.2.2.2.2.2.2.2.2.2.2.2.2.2.2.2.2.2.2.2.2.2.2.2.2.2.1) (u.2.2.2.2.2.2.2.2.2.2.2.2.2.2.2.2.2.2.2.2.2.2.2.2.2.2.2.2.2.2.2.2.1) (u.2.2.2.2.2.2.2.2.2.2.2.2.2.2.2.2.2.2.2.2.2.2.2.2.2.2.2.2.2.2.2.2.2)) := by
  refine zM.of (cc := cX11_init) (maxL := 1) (rt := none) (by decide) rfl (Nat.le_of_ble_eq_true rfl) ?_
  intro p e s m args below meth c A ls St hr hlocks hin hK hT hA hP hD hS hl
  obtain ⟨hx, hb, hml, hown, hts⟩ := id St
  have hl : lv_has ls 1 [(0, .ref x)] := hl
  refine lv_aload_n hx hb dX11_init_0 rfl (lv_at hl 0 rfl) ?_
  refine W.objInit hx hb hown (hts (.methodLink RX11 1 objectInit) k507) (hts (.instanceMethod objectInit) k2) (hts (.code objectInit ⟨#[0xb1]⟩ 1 none) k3) rfl (by rw [hml]; exact hl.1) rfl dX11_init_1 (Nat.le_of_ble_eq_true rfl) (Nat.le_of_ble_eq_true rfl) ?_
  refine W.eq (g2 := F0 m 4 ls []) rfl ?_
  refine lv_aload_n hx hb dX11_init_4 rfl (lv_at hl 0 rfl) ?_
  refine znew (g := g) (ci := 6) (fs := [.null, .int 0, .int 0, .int 0, .int 0, .int 0, .int 0]) (C := RX6) (T := TX6) (N := 7) hx hb hts izRX6 tyX6 tyX6_ok hown (hts _ k508) (hts _ k509) (hts _ k303) hK hP hD hS hA rfl (fun j hj => by rcases (show j = 0 ∨ j = 1 ∨ j = 2 ∨ j = 3 ∨ j = 4 ∨ j = 5 ∨ j = 6 by omega) with rfl | rfl | rfl | rfl | rfl | rfl | rfl <;> rfl) (Nat.le_of_ble_eq_true rfl) (Nat.le_of_ble_eq_true rfl) dX11_init_5 (fun q1 H hP hD hS => ?_)
  have hP : va_P g.1 vwCl (List.flatten [[(x, .inr (9, [.null, .null, .null, .null, .null, .null, .null, .null, .null, .int 0]))], [(q1, .inr (6, [.null, .int 0, .int 0, .int 0, .int 0, .int 0, .int 0]))]]) H := hP
  have hD : va_D A (List.flatten [[(x, .inr (9, [.null, .null, .null, .null, .null, .null, .null, .null, .null, .int 0]))], [(q1, .inr (6, [.null, .int 0, .int 0, .int 0, .int 0, .int 0, .int 0]))]]) := hD
  refine W.widen (k := 1) (n := 7) (Nat.le_of_ble_eq_true rfl) (Nat.le_of_ble_eq_true rfl) ?_
  refine lv_dup hx hb dX11_init_8 rfl ?_
  refine mcallIN (g := g) (As := []) (rest := [.ref q1, .ref x]) St hK hT hA hP hD hS hl.1 [1] [0] rfl rfl rfl (c_Tape_init l g q1 ) ⟨va_cnB (host := "DryRiver") 0 hts (zgI k289) rfl rfl rfl (hT.2.2.2.1 _ (List.mem_of_getElem? (i := 6) rfl)) (hts _ k303) (by decide +kernel) ⟨Nat.le_of_ble_eq_true rfl, Nat.le_of_ble_eq_true rfl⟩, rfl, hts _ k533⟩ rfl rfl (Nat.le_of_ble_eq_true rfl) dX11_init_9 ⟨(Nat.le_of_ble_eq_true rfl), (Nat.le_of_ble_eq_true rfl)⟩ (fun ab_2 H locs hq3 hP hD hS => ?_)
  have hP : va_P g.1 vwCl (List.flatten [[(x, .inr (9, [.null, .null, .null, .null, .null, .null, .null, .null, .null, .int 0]))], bTape g q1 ab_2 0 0 0 0 0 (-1) (fun _ => 0)]) H := hP
  have hD : va_D A (List.flatten [[(x, .inr (9, [.null, .null, .null, .null, .null, .null, .null, .null, .null, .int 0]))], bTape g q1 ab_2 0 0 0 0 0 (-1) (fun _ => 0)]) := hD
  refine W.widen (k := 2) (n := 407) (Nat.le_of_ble_eq_true rfl) (Nat.le_of_ble_eq_true rfl) ?_
  refine W.eq (g2 := F0 m 12 ls [.ref q1, .ref x]) rfl ?_
  refine va_putF (D := g.1) (ci := 9) (v := .ref q1) (ty := tyX11 0) (C := RX11) (T := TX11) (N := 10) hx hb hts izRX11 tyX11 tyX11_ok nmX11 hown hK hP hD hS 0 rfl rfl 0 (by decide) (hts _ k510) (fun _ h9 => h9) rfl hin rfl (by decide +kernel) rfl rfl (Nat.le_of_ble_eq_true rfl) dX11_init_12 (fun H locs hP hD hS => ?_)
  have hP : va_P g.1 vwCl (List.flatten [[(x, .inr (9, [.ref q1, .null, .null, .null, .null, .null, .null, .null, .null, .int 0]))], bTape g q1 ab_2 0 0 0 0 0 (-1) (fun _ => 0)]) H := hP
  have hD : va_D A (List.flatten [[(x, .inr (9, [.ref q1, .null, .null, .null, .null, .null, .null, .null, .null, .int 0]))], bTape g q1 ab_2 0 0 0 0 0 (-1) (fun _ => 0)]) := hD
  refine lv_aload_n hx hb dX11_init_15 rfl (lv_at hl 0 rfl) ?_
  refine znew (g := g) (ci := 7) (fs := [.int 0, .int 0, .int 0, .int 0, .int 0, .int 0, .int 0, .int 0, .null, .null, .null, .null, .null, .null, .null, .null, .null, .null, .null]) (C := RX9) (T := TX9) (N := 19) hx hb hts izRX9 tyX9 tyX9_ok hown (hts _ k511) (hts _ k23) (hts _ k24) hK hP hD hS hA rfl (fun j hj => by rcases (show j = 0 ∨ j = 1 ∨ j = 2 ∨ j = 3 ∨ j = 4 ∨ j = 5 ∨ j = 6 ∨ j = 7 ∨ j = 8 ∨ j = 9 ∨ j = 10 ∨ j = 11 ∨ j = 12 ∨ j = 13 ∨ j = 14 ∨ j = 15 ∨ j = 16 ∨ j = 17 ∨ j = 18 by omega) with rfl | rfl | rfl | rfl | rfl | rfl | rfl | rfl | rfl | rfl | rfl | rfl | rfl | rfl | rfl | rfl | rfl | rfl | rfl <;> rfl) (Nat.le_of_ble_eq_true rfl) (Nat.le_of_ble_eq_true rfl) dX11_init_16 (fun q4 H hP hD hS => ?_)
  have hP : va_P g.1 vwCl (List.flatten [[(x, .inr (9, [.ref q1, .null, .null, .null, .null, .null, .null, .null, .null, .int 0]))], bTape g q1 ab_2 0 0 0 0 0 (-1) (fun _ => 0), [(q4, .inr (7, [.int 0, .int 0, .int 0, .int 0, .int 0, .int 0, .int 0, .int 0, .null, .null, .null, .null, .null, .null, .null, .null, .null, .null, .null]))]]) H := hP
  have hD : va_D A (List.flatten [[(x, .inr (9, [.ref q1, .null, .null, .null, .null, .null, .null, .null, .null, .int 0]))], bTape g q1 ab_2 0 0 0 0 0 (-1) (fun _ => 0), [(q4, .inr (7, [.int 0, .int 0, .int 0, .int 0, .int 0, .int 0, .int 0, .int 0, .null, .null, .null, .null, .null, .null, .null, .null, .null, .null, .null]))]]) := hD
  refine W.widen (k := 3) (n := 426) (Nat.le_of_ble_eq_true rfl) (Nat.le_of_ble_eq_true rfl) ?_
  refine lv_dup hx hb dX11_init_19 rfl ?_
  refine mcallIN (g := g) (As := []) (rest := [.ref q4, .ref x]) St hK hT hA hP hD hS hl.1 [2] [0, 1] rfl rfl rfl (c_Town_init l g q4 ) ⟨va_cnB (host := "DryRiver") 0 hts (zgI k0) rfl rfl rfl (hT.2.2.2.1 _ (List.mem_of_getElem? (i := 7) rfl)) (hts _ k24) (by decide +kernel) ⟨Nat.le_of_ble_eq_true rfl, Nat.le_of_ble_eq_true rfl⟩, rfl, hts _ k28⟩ rfl rfl (Nat.le_of_ble_eq_true rfl) dX11_init_20 ⟨(Nat.le_of_ble_eq_true rfl), (Nat.le_of_ble_eq_true rfl)⟩ (fun a_5 H locs hq6 hP hD hS => ?_)
  have hP : va_P g.1 vwCl (List.flatten [[(x, .inr (9, [.ref q1, .null, .null, .null, .null, .null, .null, .null, .null, .int 0]))], bTape g q1 ab_2 0 0 0 0 0 (-1) (fun _ => 0), bTown g q4 a_5 0 0 0 20 6 50 0 1 (fun _ _ => 0)]) H := hP
  have hD : va_D A (List.flatten [[(x, .inr (9, [.ref q1, .null, .null, .null, .null, .null, .null, .null, .null, .int 0]))], bTape g q1 ab_2 0 0 0 0 0 (-1) (fun _ => 0), bTown g q4 a_5 0 0 0 20 6 50 0 1 (fun _ _ => 0)]) := hD
  refine W.widen (k := 14) (n := 562) (Nat.le_of_ble_eq_true rfl) (Nat.le_of_ble_eq_true rfl) ?_
  refine W.eq (g2 := F0 m 23 ls [.ref q4, .ref x]) rfl ?_
  refine va_putF (D := g.1) (ci := 9) (v := .ref q4) (ty := tyX11 1) (C := RX11) (T := TX11) (N := 10) hx hb hts izRX11 tyX11 tyX11_ok nmX11 hown hK hP hD hS 0 rfl rfl 1 (by decide) (hts _ k512) (fun _ h9 => h9) rfl hin rfl (by decide +kernel) rfl rfl (Nat.le_of_ble_eq_true rfl) dX11_init_23 (fun H locs hP hD hS => ?_)
  have hP : va_P g.1 vwCl (List.flatten [[(x, .inr (9, [.ref q1, .ref q4, .null, .null, .null, .null, .null, .null, .null, .int 0]))], bTape g q1 ab_2 0 0 0 0 0 (-1) (fun _ => 0), bTown g q4 a_5 0 0 0 20 6 50 0 1 (fun _ _ => 0)]) H := hP
  have hD : va_D A (List.flatten [[(x, .inr (9, [.ref q1, .ref q4, .null, .null, .null, .null, .null, .null, .null, .int 0]))], bTape g q1 ab_2 0 0 0 0 0 (-1) (fun _ => 0), bTown g q4 a_5 0 0 0 20 6 50 0 1 (fun _ _ => 0)]) := hD
  refine lv_aload_n hx hb dX11_init_26 rfl (lv_at hl 0 rfl) ?_
  refine znew (g := g) (ci := 1) (fs := [.null, .int 0, .int 0, .int 0, .int 0, .int 0]) (C := RX1) (T := TX1) (N := 6) hx hb hts izRX1 tyX1 tyX1_ok hown (hts _ k513) (hts _ k205) (hts _ k73) hK hP hD hS hA rfl (fun j hj => by rcases (show j = 0 ∨ j = 1 ∨ j = 2 ∨ j = 3 ∨ j = 4 ∨ j = 5 by omega) with rfl | rfl | rfl | rfl | rfl | rfl <;> rfl) (Nat.le_of_ble_eq_true rfl) (Nat.le_of_ble_eq_true rfl) dX11_init_27 (fun q7 H hP hD hS => ?_)
  have hP : va_P g.1 vwCl (List.flatten [[(x, .inr (9, [.ref q1, .ref q4, .null, .null, .null, .null, .null, .null, .null, .int 0]))], bTape g q1 ab_2 0 0 0 0 0 (-1) (fun _ => 0), bTown g q4 a_5 0 0 0 20 6 50 0 1 (fun _ _ => 0), [(q7, .inr (1, [.null, .int 0, .int 0, .int 0, .int 0, .int 0]))]]) H := hP
  have hD : va_D A (List.flatten [[(x, .inr (9, [.ref q1, .ref q4, .null, .null, .null, .null, .null, .null, .null, .int 0]))], bTape g q1 ab_2 0 0 0 0 0 (-1) (fun _ => 0), bTown g q4 a_5 0 0 0 20 6 50 0 1 (fun _ _ => 0), [(q7, .inr (1, [.null, .int 0, .int 0, .int 0, .int 0, .int 0]))]]) := hD
  refine W.widen (k := 15) (n := 568) (Nat.le_of_ble_eq_true rfl) (Nat.le_of_ble_eq_true rfl) ?_
  refine lv_dup hx hb dX11_init_30 rfl ?_
  refine mcallIN (g := g) (As := []) (rest := [.ref q7, .ref x]) St hK hT hA hP hD hS hl.1 [3] [0, 1, 2] rfl rfl rfl (c_Law_init l g q7 ) ⟨va_cnB (host := "DryRiver") 0 hts (zgI k195) rfl rfl rfl (hT.2.2.2.1 _ (List.mem_of_getElem? (i := 8) rfl)) (hts _ k73) (by decide +kernel) ⟨Nat.le_of_ble_eq_true rfl, Nat.le_of_ble_eq_true rfl⟩, rfl, hts _ k210⟩ rfl rfl (Nat.le_of_ble_eq_true rfl) dX11_init_31 ⟨(Nat.le_of_ble_eq_true rfl), (Nat.le_of_ble_eq_true rfl)⟩ (fun ac_8 H locs hq9 hP hD hS => ?_)
  have hP : va_P g.1 vwCl (List.flatten [[(x, .inr (9, [.ref q1, .ref q4, .null, .null, .null, .null, .null, .null, .null, .int 0]))], bTape g q1 ab_2 0 0 0 0 0 (-1) (fun _ => 0), bTown g q4 a_5 0 0 0 20 6 50 0 1 (fun _ _ => 0), bLaw g q7 ac_8 0 (-1) 0 0 0 (fun _ => 0)]) H := hP
  have hD : va_D A (List.flatten [[(x, .inr (9, [.ref q1, .ref q4, .null, .null, .null, .null, .null, .null, .null, .int 0]))], bTape g q1 ab_2 0 0 0 0 0 (-1) (fun _ => 0), bTown g q4 a_5 0 0 0 20 6 50 0 1 (fun _ _ => 0), bLaw g q7 ac_8 0 (-1) 0 0 0 (fun _ => 0)]) := hD
  refine W.widen (k := 16) (n := 968) (Nat.le_of_ble_eq_true rfl) (Nat.le_of_ble_eq_true rfl) ?_
  refine W.eq (g2 := F0 m 34 ls [.ref q7, .ref x]) rfl ?_
  refine va_putF (D := g.1) (ci := 9) (v := .ref q7) (ty := tyX11 2) (C := RX11) (T := TX11) (N := 10) hx hb hts izRX11 tyX11 tyX11_ok nmX11 hown hK hP hD hS 0 rfl rfl 2 (by decide) (hts _ k514) (fun _ h9 => h9) rfl hin rfl (by decide +kernel) rfl rfl (Nat.le_of_ble_eq_true rfl) dX11_init_34 (fun H locs hP hD hS => ?_)
  have hP : va_P g.1 vwCl (List.flatten [[(x, .inr (9, [.ref q1, .ref q4, .ref q7, .null, .null, .null, .null, .null, .null, .int 0]))], bTape g q1 ab_2 0 0 0 0 0 (-1) (fun _ => 0), bTown g q4 a_5 0 0 0 20 6 50 0 1 (fun _ _ => 0), bLaw g q7 ac_8 0 (-1) 0 0 0 (fun _ => 0)]) H := hP
  have hD : va_D A (List.flatten [[(x, .inr (9, [.ref q1, .ref q4, .ref q7, .null, .null, .null, .null, .null, .null, .int 0]))], bTape g q1 ab_2 0 0 0 0 0 (-1) (fun _ => 0), bTown g q4 a_5 0 0 0 20 6 50 0 1 (fun _ _ => 0), bLaw g q7 ac_8 0 (-1) 0 0 0 (fun _ => 0)]) := hD
  refine lv_aload_n hx hb dX11_init_37 rfl (lv_at hl 0 rfl) ?_
  refine znew (g := g) (ci := 3) (fs := [.null, .int 0, .int 0]) (C := RX3) (T := TX3) (N := 3) hx hb hts izRX3 tyX3 tyX3_ok hown (hts _ k515) (hts _ k234) (hts _ k121) hK hP hD hS hA rfl (fun j hj => by rcases (show j = 0 ∨ j = 1 ∨ j = 2 by omega) with rfl | rfl | rfl <;> rfl) (Nat.le_of_ble_eq_true rfl) (Nat.le_of_ble_eq_true rfl) dX11_init_38 (fun q10 H hP hD hS => ?_)
  have hP : va_P g.1 vwCl (List.flatten [[(x, .inr (9, [.ref q1, .ref q4, .ref q7, .null, .null, .null, .null, .null, .null, .int 0]))], bTape g q1 ab_2 0 0 0 0 0 (-1) (fun _ => 0), bTown g q4 a_5 0 0 0 20 6 50 0 1 (fun _ _ => 0), bLaw g q7 ac_8 0 (-1) 0 0 0 (fun _ => 0), [(q10, .inr (3, [.null, .int 0, .int 0]))]]) H := hP
  have hD : va_D A (List.flatten [[(x, .inr (9, [.ref q1, .ref q4, .ref q7, .null, .null, .null, .null, .null, .null, .int 0]))], bTape g q1 ab_2 0 0 0 0 0 (-1) (fun _ => 0), bTown g q4 a_5 0 0 0 20 6 50 0 1 (fun _ _ => 0), bLaw g q7 ac_8 0 (-1) 0 0 0 (fun _ => 0), [(q10, .inr (3, [.null, .int 0, .int 0]))]]) := hD
  refine W.widen (k := 17) (n := 971) (Nat.le_of_ble_eq_true rfl) (Nat.le_of_ble_eq_true rfl) ?_
  refine lv_dup hx hb dX11_init_41 rfl ?_
  refine mcallIN (g := g) (As := []) (rest := [.ref q10, .ref x]) St hK hT hA hP hD hS hl.1 [4] [0, 1, 2, 3] rfl rfl rfl (c_Log_init l g q10 ) ⟨va_cnB (host := "DryRiver") 0 hts (zgI k217) rfl rfl rfl (hT.2.2.2.1 _ (List.mem_of_getElem? (i := 9) rfl)) (hts _ k121) (by decide +kernel) ⟨Nat.le_of_ble_eq_true rfl, Nat.le_of_ble_eq_true rfl⟩, rfl, hts _ k236⟩ rfl rfl (Nat.le_of_ble_eq_true rfl) dX11_init_42 ⟨(Nat.le_of_ble_eq_true rfl), (Nat.le_of_ble_eq_true rfl)⟩ (fun ar_11 H locs hq12 hP hD hS => ?_)
  have hP : va_P g.1 vwCl (List.flatten [[(x, .inr (9, [.ref q1, .ref q4, .ref q7, .null, .null, .null, .null, .null, .null, .int 0]))], bTape g q1 ab_2 0 0 0 0 0 (-1) (fun _ => 0), bTown g q4 a_5 0 0 0 20 6 50 0 1 (fun _ _ => 0), bLaw g q7 ac_8 0 (-1) 0 0 0 (fun _ => 0), bLog g q10 ar_11 0 0 (fun _ => 0)]) H := hP
  have hD : va_D A (List.flatten [[(x, .inr (9, [.ref q1, .ref q4, .ref q7, .null, .null, .null, .null, .null, .null, .int 0]))], bTape g q1 ab_2 0 0 0 0 0 (-1) (fun _ => 0), bTown g q4 a_5 0 0 0 20 6 50 0 1 (fun _ _ => 0), bLaw g q7 ac_8 0 (-1) 0 0 0 (fun _ => 0), bLog g q10 ar_11 0 0 (fun _ => 0)]) := hD
  refine W.widen (k := 18) (n := 1211) (Nat.le_of_ble_eq_true rfl) (Nat.le_of_ble_eq_true rfl) ?_
  refine W.eq (g2 := F0 m 45 ls [.ref q10, .ref x]) rfl ?_
  refine va_putF (D := g.1) (ci := 9) (v := .ref q10) (ty := tyX11 3) (C := RX11) (T := TX11) (N := 10) hx hb hts izRX11 tyX11 tyX11_ok nmX11 hown hK hP hD hS 0 rfl rfl 3 (by decide) (hts _ k516) (fun _ h9 => h9) rfl hin rfl (by decide +kernel) rfl rfl (Nat.le_of_ble_eq_true rfl) dX11_init_45 (fun H locs hP hD hS => ?_)
  have hP : va_P g.1 vwCl (List.flatten [[(x, .inr (9, [.ref q1, .ref q4, .ref q7, .ref q10, .null, .null, .null, .null, .null, .int 0]))], bTape g q1 ab_2 0 0 0 0 0 (-1) (fun _ => 0), bTown g q4 a_5 0 0 0 20 6 50 0 1 (fun _ _ => 0), bLaw g q7 ac_8 0 (-1) 0 0 0 (fun _ => 0), bLog g q10 ar_11 0 0 (fun _ => 0)]) H := hP
  have hD : va_D A (List.flatten [[(x, .inr (9, [.ref q1, .ref q4, .ref q7, .ref q10, .null, .null, .null, .null, .null, .int 0]))], bTape g q1 ab_2 0 0 0 0 0 (-1) (fun _ => 0), bTown g q4 a_5 0 0 0 20 6 50 0 1 (fun _ _ => 0), bLaw g q7 ac_8 0 (-1) 0 0 0 (fun _ => 0), bLog g q10 ar_11 0 0 (fun _ => 0)]) := hD
  refine lv_aload_n hx hb dX11_init_48 rfl (lv_at hl 0 rfl) ?_
  refine znew (g := g) (ci := 8) (fs := [.null, .null]) (C := RX10) (T := TX10) (N := 2) hx hb hts izRX10 tyX10 tyX10_ok hown (hts _ k517) (hts _ k518) (hts _ k416) hK hP hD hS hA rfl (fun j hj => by rcases (show j = 0 ∨ j = 1 by omega) with rfl | rfl <;> rfl) (Nat.le_of_ble_eq_true rfl) (Nat.le_of_ble_eq_true rfl) dX11_init_49 (fun q13 H hP hD hS => ?_)
  have hP : va_P g.1 vwCl (List.flatten [[(x, .inr (9, [.ref q1, .ref q4, .ref q7, .ref q10, .null, .null, .null, .null, .null, .int 0]))], bTape g q1 ab_2 0 0 0 0 0 (-1) (fun _ => 0), bTown g q4 a_5 0 0 0 20 6 50 0 1 (fun _ _ => 0), bLaw g q7 ac_8 0 (-1) 0 0 0 (fun _ => 0), bLog g q10 ar_11 0 0 (fun _ => 0), [(q13, .inr (8, [.null, .null]))]]) H := hP
  have hD : va_D A (List.flatten [[(x, .inr (9, [.ref q1, .ref q4, .ref q7, .ref q10, .null, .null, .null, .null, .null, .int 0]))], bTape g q1 ab_2 0 0 0 0 0 (-1) (fun _ => 0), bTown g q4 a_5 0 0 0 20 6 50 0 1 (fun _ _ => 0), bLaw g q7 ac_8 0 (-1) 0 0 0 (fun _ => 0), bLog g q10 ar_11 0 0 (fun _ => 0), [(q13, .inr (8, [.null, .null]))]]) := hD
  refine W.widen (k := 19) (n := 1213) (Nat.le_of_ble_eq_true rfl) (Nat.le_of_ble_eq_true rfl) ?_
  refine lv_dup hx hb dX11_init_52 rfl ?_
  refine lv_aload_n hx hb dX11_init_53 rfl (lv_at hl 0 rfl) ?_
  refine va_get (D := g.1) (ci := 9) (v := .ref q1) (C := RX11) (T := TX11) (N := 10) hx hb hts izRX11 hown hK hP 0 rfl rfl 0 (by decide) (hts _ k510) (fun _ h9 => h9) rfl dX11_init_54 ?_
  refine mcallI (g := g) (As := [.ref q1]) (rest := [.ref q13, .ref x]) St hK hT hA hP hD hS hl.1 [5] [0, 1, 2, 3, 4] rfl rfl rfl (c_TownText_init l g q13 q1 ) (cwI 1 hts (zgI k506) rfl rfl rfl (hts _ k416) (hts _ k534) (hts _ k535) rfl (by decide +kernel) ⟨Nat.le_of_ble_eq_true rfl, Nat.le_of_ble_eq_true rfl⟩) rfl rfl (Nat.le_of_ble_eq_true rfl) dX11_init_57 ⟨(Nat.le_of_ble_eq_true rfl), (Nat.le_of_ble_eq_true rfl)⟩ (fun u_ H locs hq16 hP hD hS => ?_)
  obtain ⟨dr_14, a_15⟩ := u_
  have hP : va_P g.1 vwCl (List.flatten [[(x, .inr (9, [.ref q1, .ref q4, .ref q7, .ref q10, .null, .null, .null, .null, .null, .int 0]))], bTape g q1 ab_2 0 0 0 0 0 (-1) (fun _ => 0), bTown g q4 a_5 0 0 0 20 6 50 0 1 (fun _ _ => 0), bLaw g q7 ac_8 0 (-1) 0 0 0 (fun _ => 0), bLog g q10 ar_11 0 0 (fun _ => 0), [(q13, .inr (8, [.ref q1, .ref dr_14]))], bTown g dr_14 a_15 0 0 0 20 6 50 0 1 (fun _ _ => 0)]) H := hP
  have hD : va_D A (List.flatten [[(x, .inr (9, [.ref q1, .ref q4, .ref q7, .ref q10, .null, .null, .null, .null, .null, .int 0]))], bTape g q1 ab_2 0 0 0 0 0 (-1) (fun _ => 0), bTown g q4 a_5 0 0 0 20 6 50 0 1 (fun _ _ => 0), bLaw g q7 ac_8 0 (-1) 0 0 0 (fun _ => 0), bLog g q10 ar_11 0 0 (fun _ => 0), [(q13, .inr (8, [.ref q1, .ref dr_14]))], bTown g dr_14 a_15 0 0 0 20 6 50 0 1 (fun _ _ => 0)]) := hD
  refine W.widen (k := 31) (n := 1368) (Nat.le_of_ble_eq_true rfl) (Nat.le_of_ble_eq_true rfl) ?_
  refine W.eq (g2 := F0 m 60 ls [.ref q13, .ref x]) rfl ?_
  refine va_putF (D := g.1) (ci := 9) (v := .ref q13) (ty := tyX11 4) (C := RX11) (T := TX11) (N := 10) hx hb hts izRX11 tyX11 tyX11_ok nmX11 hown hK hP hD hS 0 rfl rfl 4 (by decide) (hts _ k519) (fun _ h9 => h9) rfl hin rfl (by decide +kernel) rfl rfl (Nat.le_of_ble_eq_true rfl) dX11_init_60 (fun H locs hP hD hS => ?_)
  have hP : va_P g.1 vwCl (List.flatten [[(x, .inr (9, [.ref q1, .ref q4, .ref q7, .ref q10, .ref q13, .null, .null, .null, .null, .int 0]))], bTape g q1 ab_2 0 0 0 0 0 (-1) (fun _ => 0), bTown g q4 a_5 0 0 0 20 6 50 0 1 (fun _ _ => 0), bLaw g q7 ac_8 0 (-1) 0 0 0 (fun _ => 0), bLog g q10 ar_11 0 0 (fun _ => 0), [(q13, .inr (8, [.ref q1, .ref dr_14]))], bTown g dr_14 a_15 0 0 0 20 6 50 0 1 (fun _ _ => 0)]) H := hP
  have hD : va_D A (List.flatten [[(x, .inr (9, [.ref q1, .ref q4, .ref q7, .ref q10, .ref q13, .null, .null, .null, .null, .int 0]))], bTape g q1 ab_2 0 0 0 0 0 (-1) (fun _ => 0), bTown g q4 a_5 0 0 0 20 6 50 0 1 (fun _ _ => 0), bLaw g q7 ac_8 0 (-1) 0 0 0 (fun _ => 0), bLog g q10 ar_11 0 0 (fun _ => 0), [(q13, .inr (8, [.ref q1, .ref dr_14]))], bTown g dr_14 a_15 0 0 0 20 6 50 0 1 (fun _ _ => 0)]) := hD
  refine lv_aload_n hx hb dX11_init_63 rfl (lv_at hl 0 rfl) ?_
  refine znew (g := g) (ci := 2) (fs := [.null, .null]) (C := RX2) (T := TX2) (N := 2) hx hb hts izRX2 tyX2 tyX2_ok hown (hts _ k520) (hts _ k521) (hts _ k309) hK hP hD hS hA rfl (fun j hj => by rcases (show j = 0 ∨ j = 1 by omega) with rfl | rfl <;> rfl) (Nat.le_of_ble_eq_true rfl) (Nat.le_of_ble_eq_true rfl) dX11_init_64 (fun q17 H hP hD hS => ?_)
  have hP : va_P g.1 vwCl (List.flatten [[(x, .inr (9, [.ref q1, .ref q4, .ref q7, .ref q10, .ref q13, .null, .null, .null, .null, .int 0]))], bTape g q1 ab_2 0 0 0 0 0 (-1) (fun _ => 0), bTown g q4 a_5 0 0 0 20 6 50 0 1 (fun _ _ => 0), bLaw g q7 ac_8 0 (-1) 0 0 0 (fun _ => 0), bLog g q10 ar_11 0 0 (fun _ => 0), [(q13, .inr (8, [.ref q1, .ref dr_14]))], bTown g dr_14 a_15 0 0 0 20 6 50 0 1 (fun _ _ => 0), [(q17, .inr (2, [.null, .null]))]]) H := hP
  have hD : va_D A (List.flatten [[(x, .inr (9, [.ref q1, .ref q4, .ref q7, .ref q10, .ref q13, .null, .null, .null, .null, .int 0]))], bTape g q1 ab_2 0 0 0 0 0 (-1) (fun _ => 0), bTown g q4 a_5 0 0 0 20 6 50 0 1 (fun _ _ => 0), bLaw g q7 ac_8 0 (-1) 0 0 0 (fun _ => 0), bLog g q10 ar_11 0 0 (fun _ => 0), [(q13, .inr (8, [.ref q1, .ref dr_14]))], bTown g dr_14 a_15 0 0 0 20 6 50 0 1 (fun _ _ => 0), [(q17, .inr (2, [.null, .null]))]]) := hD
  refine W.widen (k := 32) (n := 1370) (Nat.le_of_ble_eq_true rfl) (Nat.le_of_ble_eq_true rfl) ?_
  refine lv_dup hx hb dX11_init_67 rfl ?_
  refine lv_aload_n hx hb dX11_init_68 rfl (lv_at hl 0 rfl) ?_
  refine va_get (D := g.1) (ci := 9) (v := .ref q1) (C := RX11) (T := TX11) (N := 10) hx hb hts izRX11 hown hK hP 0 rfl rfl 0 (by decide) (hts _ k510) (fun _ h9 => h9) rfl dX11_init_69 ?_
  refine mcallI (g := g) (As := [.ref q1]) (rest := [.ref q17, .ref x]) St hK hT hA hP hD hS hl.1 [7] [0, 1, 2, 3, 4, 5, 6] rfl rfl rfl (c_LawText_init l g q17 q1 ) (cwI 1 hts (zgI k203) rfl rfl rfl (hts _ k309) (hts _ k536) (hts _ k537) rfl (by decide +kernel) ⟨Nat.le_of_ble_eq_true rfl, Nat.le_of_ble_eq_true rfl⟩) rfl rfl (Nat.le_of_ble_eq_true rfl) dX11_init_72 ⟨(Nat.le_of_ble_eq_true rfl), (Nat.le_of_ble_eq_true rfl)⟩ (fun u_ H locs hq20 hP hD hS => ?_)
  obtain ⟨dr_18, ac_19⟩ := u_
  have hP : va_P g.1 vwCl (List.flatten [[(x, .inr (9, [.ref q1, .ref q4, .ref q7, .ref q10, .ref q13, .null, .null, .null, .null, .int 0]))], bTape g q1 ab_2 0 0 0 0 0 (-1) (fun _ => 0), bTown g q4 a_5 0 0 0 20 6 50 0 1 (fun _ _ => 0), bLaw g q7 ac_8 0 (-1) 0 0 0 (fun _ => 0), bLog g q10 ar_11 0 0 (fun _ => 0), [(q13, .inr (8, [.ref q1, .ref dr_14]))], bTown g dr_14 a_15 0 0 0 20 6 50 0 1 (fun _ _ => 0), [(q17, .inr (2, [.ref q1, .ref dr_18]))], bLaw g dr_18 ac_19 0 (-1) 0 0 0 (fun _ => 0)]) H := hP
  have hD : va_D A (List.flatten [[(x, .inr (9, [.ref q1, .ref q4, .ref q7, .ref q10, .ref q13, .null, .null, .null, .null, .int 0]))], bTape g q1 ab_2 0 0 0 0 0 (-1) (fun _ => 0), bTown g q4 a_5 0 0 0 20 6 50 0 1 (fun _ _ => 0), bLaw g q7 ac_8 0 (-1) 0 0 0 (fun _ => 0), bLog g q10 ar_11 0 0 (fun _ => 0), [(q13, .inr (8, [.ref q1, .ref dr_14]))], bTown g dr_14 a_15 0 0 0 20 6 50 0 1 (fun _ _ => 0), [(q17, .inr (2, [.ref q1, .ref dr_18]))], bLaw g dr_18 ac_19 0 (-1) 0 0 0 (fun _ => 0)]) := hD
  refine W.widen (k := 34) (n := 1776) (Nat.le_of_ble_eq_true rfl) (Nat.le_of_ble_eq_true rfl) ?_
  refine W.eq (g2 := F0 m 75 ls [.ref q17, .ref x]) rfl ?_
  refine va_putF (D := g.1) (ci := 9) (v := .ref q17) (ty := tyX11 5) (C := RX11) (T := TX11) (N := 10) hx hb hts izRX11 tyX11 tyX11_ok nmX11 hown hK hP hD hS 0 rfl rfl 5 (by decide) (hts _ k522) (fun _ h9 => h9) rfl hin rfl (by decide +kernel) rfl rfl (Nat.le_of_ble_eq_true rfl) dX11_init_75 (fun H locs hP hD hS => ?_)
  have hP : va_P g.1 vwCl (List.flatten [[(x, .inr (9, [.ref q1, .ref q4, .ref q7, .ref q10, .ref q13, .ref q17, .null, .null, .null, .int 0]))], bTape g q1 ab_2 0 0 0 0 0 (-1) (fun _ => 0), bTown g q4 a_5 0 0 0 20 6 50 0 1 (fun _ _ => 0), bLaw g q7 ac_8 0 (-1) 0 0 0 (fun _ => 0), bLog g q10 ar_11 0 0 (fun _ => 0), [(q13, .inr (8, [.ref q1, .ref dr_14]))], bTown g dr_14 a_15 0 0 0 20 6 50 0 1 (fun _ _ => 0), [(q17, .inr (2, [.ref q1, .ref dr_18]))], bLaw g dr_18 ac_19 0 (-1) 0 0 0 (fun _ => 0)]) H := hP
  have hD : va_D A (List.flatten [[(x, .inr (9, [.ref q1, .ref q4, .ref q7, .ref q10, .ref q13, .ref q17, .null, .null, .null, .int 0]))], bTape g q1 ab_2 0 0 0 0 0 (-1) (fun _ => 0), bTown g q4 a_5 0 0 0 20 6 50 0 1 (fun _ _ => 0), bLaw g q7 ac_8 0 (-1) 0 0 0 (fun _ => 0), bLog g q10 ar_11 0 0 (fun _ => 0), [(q13, .inr (8, [.ref q1, .ref dr_14]))], bTown g dr_14 a_15 0 0 0 20 6 50 0 1 (fun _ _ => 0), [(q17, .inr (2, [.ref q1, .ref dr_18]))], bLaw g dr_18 ac_19 0 (-1) 0 0 0 (fun _ => 0)]) := hD
  refine lv_aload_n hx hb dX11_init_78 rfl (lv_at hl 0 rfl) ?_
  refine znew (g := g) (ci := 4) (fs := [.null, .null, .null, .null, .null, .int 0, .int 0, .int 0]) (C := RX4) (T := TX4) (N := 8) hx hb hts izRX4 tyX4 tyX4_ok hown (hts _ k523) (hts _ k524) (hts _ k257) hK hP hD hS hA rfl (fun j hj => by rcases (show j = 0 ∨ j = 1 ∨ j = 2 ∨ j = 3 ∨ j = 4 ∨ j = 5 ∨ j = 6 ∨ j = 7 by omega) with rfl | rfl | rfl | rfl | rfl | rfl | rfl | rfl <;> rfl) (Nat.le_of_ble_eq_true rfl) (Nat.le_of_ble_eq_true rfl) dX11_init_79 (fun q21 H hP hD hS => ?_)
  have hP : va_P g.1 vwCl (List.flatten [[(x, .inr (9, [.ref q1, .ref q4, .ref q7, .ref q10, .ref q13, .ref q17, .null, .null, .null, .int 0]))], bTape g q1 ab_2 0 0 0 0 0 (-1) (fun _ => 0), bTown g q4 a_5 0 0 0 20 6 50 0 1 (fun _ _ => 0), bLaw g q7 ac_8 0 (-1) 0 0 0 (fun _ => 0), bLog g q10 ar_11 0 0 (fun _ => 0), [(q13, .inr (8, [.ref q1, .ref dr_14]))], bTown g dr_14 a_15 0 0 0 20 6 50 0 1 (fun _ _ => 0), [(q17, .inr (2, [.ref q1, .ref dr_18]))], bLaw g dr_18 ac_19 0 (-1) 0 0 0 (fun _ => 0), [(q21, .inr (4, [.null, .null, .null, .null, .null, .int 0, .int 0, .int 0]))]]) H := hP
  have hD : va_D A (List.flatten [[(x, .inr (9, [.ref q1, .ref q4, .ref q7, .ref q10, .ref q13, .ref q17, .null, .null, .null, .int 0]))], bTape g q1 ab_2 0 0 0 0 0 (-1) (fun _ => 0), bTown g q4 a_5 0 0 0 20 6 50 0 1 (fun _ _ => 0), bLaw g q7 ac_8 0 (-1) 0 0 0 (fun _ => 0), bLog g q10 ar_11 0 0 (fun _ => 0), [(q13, .inr (8, [.ref q1, .ref dr_14]))], bTown g dr_14 a_15 0 0 0 20 6 50 0 1 (fun _ _ => 0), [(q17, .inr (2, [.ref q1, .ref dr_18]))], bLaw g dr_18 ac_19 0 (-1) 0 0 0 (fun _ => 0), [(q21, .inr (4, [.null, .null, .null, .null, .null, .int 0, .int 0, .int 0]))]]) := hD
  refine W.widen (k := 35) (n := 1784) (Nat.le_of_ble_eq_true rfl) (Nat.le_of_ble_eq_true rfl) ?_
  refine lv_dup hx hb dX11_init_82 rfl ?_
  refine mcallI (g := g) (As := []) (rest := [.ref q21, .ref x]) St hK hT hA hP hD hS hl.1 [9] [0, 1, 2, 3, 4, 5, 6, 7, 8] rfl rfl rfl (c_Memory_init l g q21 ) (cwI 0 hts (zgI k237) rfl rfl rfl (hts _ k257) (hts _ k538) (hts _ k539) rfl (by decide +kernel) ⟨Nat.le_of_ble_eq_true rfl, Nat.le_of_ble_eq_true rfl⟩) rfl rfl (Nat.le_of_ble_eq_true rfl) dX11_init_83 ⟨(Nat.le_of_ble_eq_true rfl), (Nat.le_of_ble_eq_true rfl)⟩ (fun u_ H locs hq36 hP hD hS => ?_)
  obtain ⟨qT_22, qL_23, it_24, il_25, ig_26, fT_27, fL_28, ia_29, ic_30, ir_31, t0_32, ta0_33, l0_34, la0_35⟩ := u_
  have hq36 : fT_27 0 = some t0_32 ∧ fL_28 0 = some l0_34 := hq36
  have hP : va_P g.1 vwCl (List.flatten [[(x, .inr (9, [.ref q1, .ref q4, .ref q7, .ref q10, .ref q13, .ref q17, .null, .null, .null, .int 0]))], bTape g q1 ab_2 0 0 0 0 0 (-1) (fun _ => 0), bTown g q4 a_5 0 0 0 20 6 50 0 1 (fun _ _ => 0), bLaw g q7 ac_8 0 (-1) 0 0 0 (fun _ => 0), bLog g q10 ar_11 0 0 (fun _ => 0), [(q13, .inr (8, [.ref q1, .ref dr_14]))], bTown g dr_14 a_15 0 0 0 20 6 50 0 1 (fun _ _ => 0), [(q17, .inr (2, [.ref q1, .ref dr_18]))], bLaw g dr_18 ac_19 0 (-1) 0 0 0 (fun _ => 0), bMem g q21 qT_22 qL_23 it_24 il_25 ig_26 0 0 0 fT_27 fL_28, bTown g it_24 ia_29 0 0 0 20 6 50 0 1 (fun _ _ => 0), bLaw g il_25 ic_30 0 (-1) 0 0 0 (fun _ => 0), bLog g ig_26 ir_31 0 0 (fun _ => 0), bTown g t0_32 ta0_33 0 0 0 20 6 50 0 1 (fun _ _ => 0), bLog g l0_34 la0_35 0 0 (fun _ => 0)]) H := hP
  have hD : va_D A (List.flatten [[(x, .inr (9, [.ref q1, .ref q4, .ref q7, .ref q10, .ref q13, .ref q17, .null, .null, .null, .int 0]))], bTape g q1 ab_2 0 0 0 0 0 (-1) (fun _ => 0), bTown g q4 a_5 0 0 0 20 6 50 0 1 (fun _ _ => 0), bLaw g q7 ac_8 0 (-1) 0 0 0 (fun _ => 0), bLog g q10 ar_11 0 0 (fun _ => 0), [(q13, .inr (8, [.ref q1, .ref dr_14]))], bTown g dr_14 a_15 0 0 0 20 6 50 0 1 (fun _ _ => 0), [(q17, .inr (2, [.ref q1, .ref dr_18]))], bLaw g dr_18 ac_19 0 (-1) 0 0 0 (fun _ => 0), bMem g q21 qT_22 qL_23 it_24 il_25 ig_26 0 0 0 fT_27 fL_28, bTown g it_24 ia_29 0 0 0 20 6 50 0 1 (fun _ _ => 0), bLaw g il_25 ic_30 0 (-1) 0 0 0 (fun _ => 0), bLog g ig_26 ir_31 0 0 (fun _ => 0), bTown g t0_32 ta0_33 0 0 0 20 6 50 0 1 (fun _ _ => 0), bLog g l0_34 la0_35 0 0 (fun _ => 0)]) := hD
  refine W.widen (k := 221) (n := 7388) (Nat.le_of_ble_eq_true rfl) (Nat.le_of_ble_eq_true rfl) ?_
  refine W.eq (g2 := F0 m 86 ls [.ref q21, .ref x]) rfl ?_
  refine va_putF (D := g.1) (ci := 9) (v := .ref q21) (ty := tyX11 6) (C := RX11) (T := TX11) (N := 10) hx hb hts izRX11 tyX11 tyX11_ok nmX11 hown hK hP hD hS 0 rfl rfl 6 (by decide) (hts _ k525) (fun _ h9 => h9) rfl hin rfl (by decide +kernel) rfl rfl (Nat.le_of_ble_eq_true rfl) dX11_init_86 (fun H locs hP hD hS => ?_)
  have hP : va_P g.1 vwCl (List.flatten [[(x, .inr (9, [.ref q1, .ref q4, .ref q7, .ref q10, .ref q13, .ref q17, .ref q21, .null, .null, .int 0]))], bTape g q1 ab_2 0 0 0 0 0 (-1) (fun _ => 0), bTown g q4 a_5 0 0 0 20 6 50 0 1 (fun _ _ => 0), bLaw g q7 ac_8 0 (-1) 0 0 0 (fun _ => 0), bLog g q10 ar_11 0 0 (fun _ => 0), [(q13, .inr (8, [.ref q1, .ref dr_14]))], bTown g dr_14 a_15 0 0 0 20 6 50 0 1 (fun _ _ => 0), [(q17, .inr (2, [.ref q1, .ref dr_18]))], bLaw g dr_18 ac_19 0 (-1) 0 0 0 (fun _ => 0), bMem g q21 qT_22 qL_23 it_24 il_25 ig_26 0 0 0 fT_27 fL_28, bTown g it_24 ia_29 0 0 0 20 6 50 0 1 (fun _ _ => 0), bLaw g il_25 ic_30 0 (-1) 0 0 0 (fun _ => 0), bLog g ig_26 ir_31 0 0 (fun _ => 0), bTown g t0_32 ta0_33 0 0 0 20 6 50 0 1 (fun _ _ => 0), bLog g l0_34 la0_35 0 0 (fun _ => 0)]) H := hP
  have hD : va_D A (List.flatten [[(x, .inr (9, [.ref q1, .ref q4, .ref q7, .ref q10, .ref q13, .ref q17, .ref q21, .null, .null, .int 0]))], bTape g q1 ab_2 0 0 0 0 0 (-1) (fun _ => 0), bTown g q4 a_5 0 0 0 20 6 50 0 1 (fun _ _ => 0), bLaw g q7 ac_8 0 (-1) 0 0 0 (fun _ => 0), bLog g q10 ar_11 0 0 (fun _ => 0), [(q13, .inr (8, [.ref q1, .ref dr_14]))], bTown g dr_14 a_15 0 0 0 20 6 50 0 1 (fun _ _ => 0), [(q17, .inr (2, [.ref q1, .ref dr_18]))], bLaw g dr_18 ac_19 0 (-1) 0 0 0 (fun _ => 0), bMem g q21 qT_22 qL_23 it_24 il_25 ig_26 0 0 0 fT_27 fL_28, bTown g it_24 ia_29 0 0 0 20 6 50 0 1 (fun _ _ => 0), bLaw g il_25 ic_30 0 (-1) 0 0 0 (fun _ => 0), bLog g ig_26 ir_31 0 0 (fun _ => 0), bTown g t0_32 ta0_33 0 0 0 20 6 50 0 1 (fun _ _ => 0), bLog g l0_34 la0_35 0 0 (fun _ => 0)]) := hD
  refine lv_aload_n hx hb dX11_init_89 rfl (lv_at hl 0 rfl) ?_
  refine znew (g := g) (ci := 0) (fs := [.null, .null, .null]) (C := RX0) (T := TX0) (N := 3) hx hb hts izRX0 tyX0 tyX0_ok hown (hts _ k526) (hts _ k527) (hts _ k169) hK hP hD hS hA rfl (fun j hj => by rcases (show j = 0 ∨ j = 1 ∨ j = 2 by omega) with rfl | rfl | rfl <;> rfl) (Nat.le_of_ble_eq_true rfl) (Nat.le_of_ble_eq_true rfl) dX11_init_90 (fun q37 H hP hD hS => ?_)
  have hP : va_P g.1 vwCl (List.flatten [[(x, .inr (9, [.ref q1, .ref q4, .ref q7, .ref q10, .ref q13, .ref q17, .ref q21, .null, .null, .int 0]))], bTape g q1 ab_2 0 0 0 0 0 (-1) (fun _ => 0), bTown g q4 a_5 0 0 0 20 6 50 0 1 (fun _ _ => 0), bLaw g q7 ac_8 0 (-1) 0 0 0 (fun _ => 0), bLog g q10 ar_11 0 0 (fun _ => 0), [(q13, .inr (8, [.ref q1, .ref dr_14]))], bTown g dr_14 a_15 0 0 0 20 6 50 0 1 (fun _ _ => 0), [(q17, .inr (2, [.ref q1, .ref dr_18]))], bLaw g dr_18 ac_19 0 (-1) 0 0 0 (fun _ => 0), bMem g q21 qT_22 qL_23 it_24 il_25 ig_26 0 0 0 fT_27 fL_28, bTown g it_24 ia_29 0 0 0 20 6 50 0 1 (fun _ _ => 0), bLaw g il_25 ic_30 0 (-1) 0 0 0 (fun _ => 0), bLog g ig_26 ir_31 0 0 (fun _ => 0), bTown g t0_32 ta0_33 0 0 0 20 6 50 0 1 (fun _ _ => 0), bLog g l0_34 la0_35 0 0 (fun _ => 0), [(q37, .inr (0, [.null, .null, .null]))]]) H := hP
  have hD : va_D A (List.flatten [[(x, .inr (9, [.ref q1, .ref q4, .ref q7, .ref q10, .ref q13, .ref q17, .ref q21, .null, .null, .int 0]))], bTape g q1 ab_2 0 0 0 0 0 (-1) (fun _ => 0), bTown g q4 a_5 0 0 0 20 6 50 0 1 (fun _ _ => 0), bLaw g q7 ac_8 0 (-1) 0 0 0 (fun _ => 0), bLog g q10 ar_11 0 0 (fun _ => 0), [(q13, .inr (8, [.ref q1, .ref dr_14]))], bTown g dr_14 a_15 0 0 0 20 6 50 0 1 (fun _ _ => 0), [(q17, .inr (2, [.ref q1, .ref dr_18]))], bLaw g dr_18 ac_19 0 (-1) 0 0 0 (fun _ => 0), bMem g q21 qT_22 qL_23 it_24 il_25 ig_26 0 0 0 fT_27 fL_28, bTown g it_24 ia_29 0 0 0 20 6 50 0 1 (fun _ _ => 0), bLaw g il_25 ic_30 0 (-1) 0 0 0 (fun _ => 0), bLog g ig_26 ir_31 0 0 (fun _ => 0), bTown g t0_32 ta0_33 0 0 0 20 6 50 0 1 (fun _ _ => 0), bLog g l0_34 la0_35 0 0 (fun _ => 0), [(q37, .inr (0, [.null, .null, .null]))]]) := hD
  refine W.widen (k := 222) (n := 7391) (Nat.le_of_ble_eq_true rfl) (Nat.le_of_ble_eq_true rfl) ?_
  refine lv_dup hx hb dX11_init_93 rfl ?_
  refine lv_aload_n hx hb dX11_init_94 rfl (lv_at hl 0 rfl) ?_
  refine va_get (D := g.1) (ci := 9) (v := .ref q4) (C := RX11) (T := TX11) (N := 10) hx hb hts izRX11 hown hK hP 0 rfl rfl 1 (by decide) (hts _ k512) (fun _ h9 => h9) rfl dX11_init_95 ?_
  refine lv_aload_n hx hb dX11_init_98 rfl (lv_at hl 0 rfl) ?_
  refine va_get (D := g.1) (ci := 9) (v := .ref q7) (C := RX11) (T := TX11) (N := 10) hx hb hts izRX11 hown hK hP 0 rfl rfl 2 (by decide) (hts _ k514) (fun _ h9 => h9) rfl dX11_init_99 ?_
  refine mcallI (g := g) (As := [.ref q4, .ref q7]) (rest := [.ref q37, .ref x]) St hK hT hA hP hD hS hl.1 [15] [0, 1, 2, 3, 4, 5, 6, 7, 8, 9, 10, 11, 12, 13, 14] rfl rfl rfl (c_Foresight_init l g q37 q4 q7 ) (cwI 2 hts (zgI k29) rfl rfl rfl (hts _ k169) (hts _ k540) (hts _ k541) rfl (by decide +kernel) ⟨Nat.le_of_ble_eq_true rfl, Nat.le_of_ble_eq_true rfl⟩) rfl rfl (Nat.le_of_ble_eq_true rfl) dX11_init_102 ⟨(Nat.le_of_ble_eq_true rfl), (Nat.le_of_ble_eq_true rfl)⟩ (fun u_ H locs hq40 hP hD hS => ?_)
  obtain ⟨od_38, ad_39⟩ := u_
  have hP : va_P g.1 vwCl (List.flatten [[(x, .inr (9, [.ref q1, .ref q4, .ref q7, .ref q10, .ref q13, .ref q17, .ref q21, .null, .null, .int 0]))], bTape g q1 ab_2 0 0 0 0 0 (-1) (fun _ => 0), bTown g q4 a_5 0 0 0 20 6 50 0 1 (fun _ _ => 0), bLaw g q7 ac_8 0 (-1) 0 0 0 (fun _ => 0), bLog g q10 ar_11 0 0 (fun _ => 0), [(q13, .inr (8, [.ref q1, .ref dr_14]))], bTown g dr_14 a_15 0 0 0 20 6 50 0 1 (fun _ _ => 0), [(q17, .inr (2, [.ref q1, .ref dr_18]))], bLaw g dr_18 ac_19 0 (-1) 0 0 0 (fun _ => 0), bMem g q21 qT_22 qL_23 it_24 il_25 ig_26 0 0 0 fT_27 fL_28, bTown g it_24 ia_29 0 0 0 20 6 50 0 1 (fun _ _ => 0), bLaw g il_25 ic_30 0 (-1) 0 0 0 (fun _ => 0), bLog g ig_26 ir_31 0 0 (fun _ => 0), bTown g t0_32 ta0_33 0 0 0 20 6 50 0 1 (fun _ _ => 0), bLog g l0_34 la0_35 0 0 (fun _ => 0), [(q37, .inr (0, [.ref q4, .ref q7, .ref od_38]))], bTown g od_38 ad_39 0 0 0 20 6 50 0 1 (fun _ _ => 0)]) H := hP
  have hD : va_D A (List.flatten [[(x, .inr (9, [.ref q1, .ref q4, .ref q7, .ref q10, .ref q13, .ref q17, .ref q21, .null, .null, .int 0]))], bTape g q1 ab_2 0 0 0 0 0 (-1) (fun _ => 0), bTown g q4 a_5 0 0 0 20 6 50 0 1 (fun _ _ => 0), bLaw g q7 ac_8 0 (-1) 0 0 0 (fun _ => 0), bLog g q10 ar_11 0 0 (fun _ => 0), [(q13, .inr (8, [.ref q1, .ref dr_14]))], bTown g dr_14 a_15 0 0 0 20 6 50 0 1 (fun _ _ => 0), [(q17, .inr (2, [.ref q1, .ref dr_18]))], bLaw g dr_18 ac_19 0 (-1) 0 0 0 (fun _ => 0), bMem g q21 qT_22 qL_23 it_24 il_25 ig_26 0 0 0 fT_27 fL_28, bTown g it_24 ia_29 0 0 0 20 6 50 0 1 (fun _ _ => 0), bLaw g il_25 ic_30 0 (-1) 0 0 0 (fun _ => 0), bLog g ig_26 ir_31 0 0 (fun _ => 0), bTown g t0_32 ta0_33 0 0 0 20 6 50 0 1 (fun _ _ => 0), bLog g l0_34 la0_35 0 0 (fun _ => 0), [(q37, .inr (0, [.ref q4, .ref q7, .ref od_38]))], bTown g od_38 ad_39 0 0 0 20 6 50 0 1 (fun _ _ => 0)]) := hD
  refine W.widen (k := 234) (n := 7546) (Nat.le_of_ble_eq_true rfl) (Nat.le_of_ble_eq_true rfl) ?_
  refine W.eq (g2 := F0 m 105 ls [.ref q37, .ref x]) rfl ?_
  refine va_putF (D := g.1) (ci := 9) (v := .ref q37) (ty := tyX11 7) (C := RX11) (T := TX11) (N := 10) hx hb hts izRX11 tyX11 tyX11_ok nmX11 hown hK hP hD hS 0 rfl rfl 7 (by decide) (hts _ k528) (fun _ h9 => h9) rfl hin rfl (by decide +kernel) rfl rfl (Nat.le_of_ble_eq_true rfl) dX11_init_105 (fun H locs hP hD hS => ?_)
  have hP : va_P g.1 vwCl (List.flatten [[(x, .inr (9, [.ref q1, .ref q4, .ref q7, .ref q10, .ref q13, .ref q17, .ref q21, .ref q37, .null, .int 0]))], bTape g q1 ab_2 0 0 0 0 0 (-1) (fun _ => 0), bTown g q4 a_5 0 0 0 20 6 50 0 1 (fun _ _ => 0), bLaw g q7 ac_8 0 (-1) 0 0 0 (fun _ => 0), bLog g q10 ar_11 0 0 (fun _ => 0), [(q13, .inr (8, [.ref q1, .ref dr_14]))], bTown g dr_14 a_15 0 0 0 20 6 50 0 1 (fun _ _ => 0), [(q17, .inr (2, [.ref q1, .ref dr_18]))], bLaw g dr_18 ac_19 0 (-1) 0 0 0 (fun _ => 0), bMem g q21 qT_22 qL_23 it_24 il_25 ig_26 0 0 0 fT_27 fL_28, bTown g it_24 ia_29 0 0 0 20 6 50 0 1 (fun _ _ => 0), bLaw g il_25 ic_30 0 (-1) 0 0 0 (fun _ => 0), bLog g ig_26 ir_31 0 0 (fun _ => 0), bTown g t0_32 ta0_33 0 0 0 20 6 50 0 1 (fun _ _ => 0), bLog g l0_34 la0_35 0 0 (fun _ => 0), [(q37, .inr (0, [.ref q4, .ref q7, .ref od_38]))], bTown g od_38 ad_39 0 0 0 20 6 50 0 1 (fun _ _ => 0)]) H := hP
  have hD : va_D A (List.flatten [[(x, .inr (9, [.ref q1, .ref q4, .ref q7, .ref q10, .ref q13, .ref q17, .ref q21, .ref q37, .null, .int 0]))], bTape g q1 ab_2 0 0 0 0 0 (-1) (fun _ => 0), bTown g q4 a_5 0 0 0 20 6 50 0 1 (fun _ _ => 0), bLaw g q7 ac_8 0 (-1) 0 0 0 (fun _ => 0), bLog g q10 ar_11 0 0 (fun _ => 0), [(q13, .inr (8, [.ref q1, .ref dr_14]))], bTown g dr_14 a_15 0 0 0 20 6 50 0 1 (fun _ _ => 0), [(q17, .inr (2, [.ref q1, .ref dr_18]))], bLaw g dr_18 ac_19 0 (-1) 0 0 0 (fun _ => 0), bMem g q21 qT_22 qL_23 it_24 il_25 ig_26 0 0 0 fT_27 fL_28, bTown g it_24 ia_29 0 0 0 20 6 50 0 1 (fun _ _ => 0), bLaw g il_25 ic_30 0 (-1) 0 0 0 (fun _ => 0), bLog g ig_26 ir_31 0 0 (fun _ => 0), bTown g t0_32 ta0_33 0 0 0 20 6 50 0 1 (fun _ _ => 0), bLog g l0_34 la0_35 0 0 (fun _ => 0), [(q37, .inr (0, [.ref q4, .ref q7, .ref od_38]))], bTown g od_38 ad_39 0 0 0 20 6 50 0 1 (fun _ _ => 0)]) := hD
  refine lv_aload_n hx hb dX11_init_108 rfl (lv_at hl 0 rfl) ?_
  refine znew (g := g) (ci := 5) (fs := [.null, .int 0, .int 0]) (C := RX5) (T := TX5) (N := 3) hx hb hts izRX5 tyX5 tyX5_ok hown (hts _ k529) (hts _ k530) (hts _ k267) hK hP hD hS hA rfl (fun j hj => by rcases (show j = 0 ∨ j = 1 ∨ j = 2 by omega) with rfl | rfl | rfl <;> rfl) (Nat.le_of_ble_eq_true rfl) (Nat.le_of_ble_eq_true rfl) dX11_init_109 (fun q41 H hP hD hS => ?_)
  have hP : va_P g.1 vwCl (List.flatten [[(x, .inr (9, [.ref q1, .ref q4, .ref q7, .ref q10, .ref q13, .ref q17, .ref q21, .ref q37, .null, .int 0]))], bTape g q1 ab_2 0 0 0 0 0 (-1) (fun _ => 0), bTown g q4 a_5 0 0 0 20 6 50 0 1 (fun _ _ => 0), bLaw g q7 ac_8 0 (-1) 0 0 0 (fun _ => 0), bLog g q10 ar_11 0 0 (fun _ => 0), [(q13, .inr (8, [.ref q1, .ref dr_14]))], bTown g dr_14 a_15 0 0 0 20 6 50 0 1 (fun _ _ => 0), [(q17, .inr (2, [.ref q1, .ref dr_18]))], bLaw g dr_18 ac_19 0 (-1) 0 0 0 (fun _ => 0), bMem g q21 qT_22 qL_23 it_24 il_25 ig_26 0 0 0 fT_27 fL_28, bTown g it_24 ia_29 0 0 0 20 6 50 0 1 (fun _ _ => 0), bLaw g il_25 ic_30 0 (-1) 0 0 0 (fun _ => 0), bLog g ig_26 ir_31 0 0 (fun _ => 0), bTown g t0_32 ta0_33 0 0 0 20 6 50 0 1 (fun _ _ => 0), bLog g l0_34 la0_35 0 0 (fun _ => 0), [(q37, .inr (0, [.ref q4, .ref q7, .ref od_38]))], bTown g od_38 ad_39 0 0 0 20 6 50 0 1 (fun _ _ => 0), [(q41, .inr (5, [.null, .int 0, .int 0]))]]) H := hP
  have hD : va_D A (List.flatten [[(x, .inr (9, [.ref q1, .ref q4, .ref q7, .ref q10, .ref q13, .ref q17, .ref q21, .ref q37, .null, .int 0]))], bTape g q1 ab_2 0 0 0 0 0 (-1) (fun _ => 0), bTown g q4 a_5 0 0 0 20 6 50 0 1 (fun _ _ => 0), bLaw g q7 ac_8 0 (-1) 0 0 0 (fun _ => 0), bLog g q10 ar_11 0 0 (fun _ => 0), [(q13, .inr (8, [.ref q1, .ref dr_14]))], bTown g dr_14 a_15 0 0 0 20 6 50 0 1 (fun _ _ => 0), [(q17, .inr (2, [.ref q1, .ref dr_18]))], bLaw g dr_18 ac_19 0 (-1) 0 0 0 (fun _ => 0), bMem g q21 qT_22 qL_23 it_24 il_25 ig_26 0 0 0 fT_27 fL_28, bTown g it_24 ia_29 0 0 0 20 6 50 0 1 (fun _ _ => 0), bLaw g il_25 ic_30 0 (-1) 0 0 0 (fun _ => 0), bLog g ig_26 ir_31 0 0 (fun _ => 0), bTown g t0_32 ta0_33 0 0 0 20 6 50 0 1 (fun _ _ => 0), bLog g l0_34 la0_35 0 0 (fun _ => 0), [(q37, .inr (0, [.ref q4, .ref q7, .ref od_38]))], bTown g od_38 ad_39 0 0 0 20 6 50 0 1 (fun _ _ => 0), [(q41, .inr (5, [.null, .int 0, .int 0]))]]) := hD
  refine W.widen (k := 235) (n := 7549) (Nat.le_of_ble_eq_true rfl) (Nat.le_of_ble_eq_true rfl) ?_
  refine lv_dup hx hb dX11_init_112 rfl ?_
  refine mcallIN (g := g) (As := []) (rest := [.ref q41, .ref x]) St hK hT hA hP hD hS hl.1 [17] [0, 1, 2, 3, 4, 5, 6, 7, 8, 9, 10, 11, 12, 13, 14, 15, 16] rfl rfl rfl (c_Riddles_init l g q41 ) ⟨va_cnB (host := "DryRiver") 0 hts (zgI k259) rfl rfl rfl (hT.2.2.2.1 _ (List.mem_of_getElem? (i := 10) rfl)) (hts _ k267) (by decide +kernel) ⟨Nat.le_of_ble_eq_true rfl, Nat.le_of_ble_eq_true rfl⟩, rfl, hts _ k542⟩ rfl rfl (Nat.le_of_ble_eq_true rfl) dX11_init_113 ⟨(Nat.le_of_ble_eq_true rfl), (Nat.le_of_ble_eq_true rfl)⟩ (fun af_42 H locs hq43 hP hD hS => ?_)
  have hP : va_P g.1 vwCl (List.flatten [[(x, .inr (9, [.ref q1, .ref q4, .ref q7, .ref q10, .ref q13, .ref q17, .ref q21, .ref q37, .null, .int 0]))], bTape g q1 ab_2 0 0 0 0 0 (-1) (fun _ => 0), bTown g q4 a_5 0 0 0 20 6 50 0 1 (fun _ _ => 0), bLaw g q7 ac_8 0 (-1) 0 0 0 (fun _ => 0), bLog g q10 ar_11 0 0 (fun _ => 0), [(q13, .inr (8, [.ref q1, .ref dr_14]))], bTown g dr_14 a_15 0 0 0 20 6 50 0 1 (fun _ _ => 0), [(q17, .inr (2, [.ref q1, .ref dr_18]))], bLaw g dr_18 ac_19 0 (-1) 0 0 0 (fun _ => 0), bMem g q21 qT_22 qL_23 it_24 il_25 ig_26 0 0 0 fT_27 fL_28, bTown g it_24 ia_29 0 0 0 20 6 50 0 1 (fun _ _ => 0), bLaw g il_25 ic_30 0 (-1) 0 0 0 (fun _ => 0), bLog g ig_26 ir_31 0 0 (fun _ => 0), bTown g t0_32 ta0_33 0 0 0 20 6 50 0 1 (fun _ _ => 0), bLog g l0_34 la0_35 0 0 (fun _ => 0), [(q37, .inr (0, [.ref q4, .ref q7, .ref od_38]))], bTown g od_38 ad_39 0 0 0 20 6 50 0 1 (fun _ _ => 0), bRid g q41 af_42 0 0 (fun _ => 0)]) H := hP
  have hD : va_D A (List.flatten [[(x, .inr (9, [.ref q1, .ref q4, .ref q7, .ref q10, .ref q13, .ref q17, .ref q21, .ref q37, .null, .int 0]))], bTape g q1 ab_2 0 0 0 0 0 (-1) (fun _ => 0), bTown g q4 a_5 0 0 0 20 6 50 0 1 (fun _ _ => 0), bLaw g q7 ac_8 0 (-1) 0 0 0 (fun _ => 0), bLog g q10 ar_11 0 0 (fun _ => 0), [(q13, .inr (8, [.ref q1, .ref dr_14]))], bTown g dr_14 a_15 0 0 0 20 6 50 0 1 (fun _ _ => 0), [(q17, .inr (2, [.ref q1, .ref dr_18]))], bLaw g dr_18 ac_19 0 (-1) 0 0 0 (fun _ => 0), bMem g q21 qT_22 qL_23 it_24 il_25 ig_26 0 0 0 fT_27 fL_28, bTown g it_24 ia_29 0 0 0 20 6 50 0 1 (fun _ _ => 0), bLaw g il_25 ic_30 0 (-1) 0 0 0 (fun _ => 0), bLog g ig_26 ir_31 0 0 (fun _ => 0), bTown g t0_32 ta0_33 0 0 0 20 6 50 0 1 (fun _ _ => 0), bLog g l0_34 la0_35 0 0 (fun _ => 0), [(q37, .inr (0, [.ref q4, .ref q7, .ref od_38]))], bTown g od_38 ad_39 0 0 0 20 6 50 0 1 (fun _ _ => 0), bRid g q41 af_42 0 0 (fun _ => 0)]) := hD
  refine W.widen (k := 236) (n := 7805) (Nat.le_of_ble_eq_true rfl) (Nat.le_of_ble_eq_true rfl) ?_
  refine W.eq (g2 := F0 m 116 ls [.ref q41, .ref x]) rfl ?_
  refine va_putF (D := g.1) (ci := 9) (v := .ref q41) (ty := tyX11 8) (C := RX11) (T := TX11) (N := 10) hx hb hts izRX11 tyX11 tyX11_ok nmX11 hown hK hP hD hS 0 rfl rfl 8 (by decide) (hts _ k531) (fun _ h9 => h9) rfl hin rfl (by decide +kernel) rfl rfl (Nat.le_of_ble_eq_true rfl) dX11_init_116 (fun H locs hP hD hS => ?_)
  have hP : va_P g.1 vwCl (List.flatten [[(x, .inr (9, [.ref q1, .ref q4, .ref q7, .ref q10, .ref q13, .ref q17, .ref q21, .ref q37, .ref q41, .int 0]))], bTape g q1 ab_2 0 0 0 0 0 (-1) (fun _ => 0), bTown g q4 a_5 0 0 0 20 6 50 0 1 (fun _ _ => 0), bLaw g q7 ac_8 0 (-1) 0 0 0 (fun _ => 0), bLog g q10 ar_11 0 0 (fun _ => 0), [(q13, .inr (8, [.ref q1, .ref dr_14]))], bTown g dr_14 a_15 0 0 0 20 6 50 0 1 (fun _ _ => 0), [(q17, .inr (2, [.ref q1, .ref dr_18]))], bLaw g dr_18 ac_19 0 (-1) 0 0 0 (fun _ => 0), bMem g q21 qT_22 qL_23 it_24 il_25 ig_26 0 0 0 fT_27 fL_28, bTown g it_24 ia_29 0 0 0 20 6 50 0 1 (fun _ _ => 0), bLaw g il_25 ic_30 0 (-1) 0 0 0 (fun _ => 0), bLog g ig_26 ir_31 0 0 (fun _ => 0), bTown g t0_32 ta0_33 0 0 0 20 6 50 0 1 (fun _ _ => 0), bLog g l0_34 la0_35 0 0 (fun _ => 0), [(q37, .inr (0, [.ref q4, .ref q7, .ref od_38]))], bTown g od_38 ad_39 0 0 0 20 6 50 0 1 (fun _ _ => 0), bRid g q41 af_42 0 0 (fun _ => 0)]) H := hP
  have hD : va_D A (List.flatten [[(x, .inr (9, [.ref q1, .ref q4, .ref q7, .ref q10, .ref q13, .ref q17, .ref q21, .ref q37, .ref q41, .int 0]))], bTape g q1 ab_2 0 0 0 0 0 (-1) (fun _ => 0), bTown g q4 a_5 0 0 0 20 6 50 0 1 (fun _ _ => 0), bLaw g q7 ac_8 0 (-1) 0 0 0 (fun _ => 0), bLog g q10 ar_11 0 0 (fun _ => 0), [(q13, .inr (8, [.ref q1, .ref dr_14]))], bTown g dr_14 a_15 0 0 0 20 6 50 0 1 (fun _ _ => 0), [(q17, .inr (2, [.ref q1, .ref dr_18]))], bLaw g dr_18 ac_19 0 (-1) 0 0 0 (fun _ => 0), bMem g q21 qT_22 qL_23 it_24 il_25 ig_26 0 0 0 fT_27 fL_28, bTown g it_24 ia_29 0 0 0 20 6 50 0 1 (fun _ _ => 0), bLaw g il_25 ic_30 0 (-1) 0 0 0 (fun _ => 0), bLog g ig_26 ir_31 0 0 (fun _ => 0), bTown g t0_32 ta0_33 0 0 0 20 6 50 0 1 (fun _ _ => 0), bLog g l0_34 la0_35 0 0 (fun _ => 0), [(q37, .inr (0, [.ref q4, .ref q7, .ref od_38]))], bTown g od_38 ad_39 0 0 0 20 6 50 0 1 (fun _ _ => 0), bRid g q41 af_42 0 0 (fun _ => 0)]) := hD
  refine lv_aload_n hx hb dX11_init_119 rfl (lv_at hl 0 rfl) ?_
  refine lv_iconst (v := (-1)) hx hb dX11_init_120 (by decide) ?_
  refine va_put (D := g.1) (ci := 9) (v := .int (-1)) (ty := .int) (C := RX11) (T := TX11) (N := 10) hx hb hts izRX11 tyX11 tyX11_ok nmX11 hown hK hP hD hS 0 rfl rfl 9 (by decide) (hts _ k532) (fun _ h9 => h9) rfl (by decide +kernel) rfl rfl (Nat.le_of_ble_eq_true rfl) dX11_init_121 (fun H locs hP hD hS => ?_)
  have hP : va_P g.1 vwCl (List.flatten [[(x, .inr (9, [.ref q1, .ref q4, .ref q7, .ref q10, .ref q13, .ref q17, .ref q21, .ref q37, .ref q41, .int (-1)]))], bTape g q1 ab_2 0 0 0 0 0 (-1) (fun _ => 0), bTown g q4 a_5 0 0 0 20 6 50 0 1 (fun _ _ => 0), bLaw g q7 ac_8 0 (-1) 0 0 0 (fun _ => 0), bLog g q10 ar_11 0 0 (fun _ => 0), [(q13, .inr (8, [.ref q1, .ref dr_14]))], bTown g dr_14 a_15 0 0 0 20 6 50 0 1 (fun _ _ => 0), [(q17, .inr (2, [.ref q1, .ref dr_18]))], bLaw g dr_18 ac_19 0 (-1) 0 0 0 (fun _ => 0), bMem g q21 qT_22 qL_23 it_24 il_25 ig_26 0 0 0 fT_27 fL_28, bTown g it_24 ia_29 0 0 0 20 6 50 0 1 (fun _ _ => 0), bLaw g il_25 ic_30 0 (-1) 0 0 0 (fun _ => 0), bLog g ig_26 ir_31 0 0 (fun _ => 0), bTown g t0_32 ta0_33 0 0 0 20 6 50 0 1 (fun _ _ => 0), bLog g l0_34 la0_35 0 0 (fun _ => 0), [(q37, .inr (0, [.ref q4, .ref q7, .ref od_38]))], bTown g od_38 ad_39 0 0 0 20 6 50 0 1 (fun _ _ => 0), bRid g q41 af_42 0 0 (fun _ => 0)]) H := hP
  have hD : va_D A (List.flatten [[(x, .inr (9, [.ref q1, .ref q4, .ref q7, .ref q10, .ref q13, .ref q17, .ref q21, .ref q37, .ref q41, .int (-1)]))], bTape g q1 ab_2 0 0 0 0 0 (-1) (fun _ => 0), bTown g q4 a_5 0 0 0 20 6 50 0 1 (fun _ _ => 0), bLaw g q7 ac_8 0 (-1) 0 0 0 (fun _ => 0), bLog g q10 ar_11 0 0 (fun _ => 0), [(q13, .inr (8, [.ref q1, .ref dr_14]))], bTown g dr_14 a_15 0 0 0 20 6 50 0 1 (fun _ _ => 0), [(q17, .inr (2, [.ref q1, .ref dr_18]))], bLaw g dr_18 ac_19 0 (-1) 0 0 0 (fun _ => 0), bMem g q21 qT_22 qL_23 it_24 il_25 ig_26 0 0 0 fT_27 fL_28, bTown g it_24 ia_29 0 0 0 20 6 50 0 1 (fun _ _ => 0), bLaw g il_25 ic_30 0 (-1) 0 0 0 (fun _ => 0), bLog g ig_26 ir_31 0 0 (fun _ => 0), bTown g t0_32 ta0_33 0 0 0 20 6 50 0 1 (fun _ _ => 0), bLog g l0_34 la0_35 0 0 (fun _ => 0), [(q37, .inr (0, [.ref q4, .ref q7, .ref od_38]))], bTown g od_38 ad_39 0 0 0 20 6 50 0 1 (fun _ _ => 0), bRid g q41 af_42 0 0 (fun _ => 0)]) := hD
  have hP : va_P g.1 vwCl (List.flatten [bDR g x q1 q4 q7 q10 q13 q17 q21 q37 q41 (-1), bTape g q1 ab_2 0 0 0 0 0 (-1) (fun _ => 0), bTown g q4 a_5 0 0 0 20 6 50 0 1 (fun _ _ => 0), bLaw g q7 ac_8 0 (-1) 0 0 0 (fun _ => 0), bLog g q10 ar_11 0 0 (fun _ => 0), [(q13, .inr (8, [.ref q1, .ref dr_14]))], bTown g dr_14 a_15 0 0 0 20 6 50 0 1 (fun _ _ => 0), [(q17, .inr (2, [.ref q1, .ref dr_18]))], bLaw g dr_18 ac_19 0 (-1) 0 0 0 (fun _ => 0), bMem g q21 qT_22 qL_23 it_24 il_25 ig_26 0 0 0 fT_27 fL_28, bTown g it_24 ia_29 0 0 0 20 6 50 0 1 (fun _ _ => 0), bLaw g il_25 ic_30 0 (-1) 0 0 0 (fun _ => 0), bLog g ig_26 ir_31 0 0 (fun _ => 0), bTown g t0_32 ta0_33 0 0 0 20 6 50 0 1 (fun _ _ => 0), bLog g l0_34 la0_35 0 0 (fun _ => 0), [(q37, .inr (0, [.ref q4, .ref q7, .ref od_38]))], bTown g od_38 ad_39 0 0 0 20 6 50 0 1 (fun _ _ => 0), bRid g q41 af_42 0 0 (fun _ => 0)]) H := hP
  have hD : va_D A (List.flatten [bDR g x q1 q4 q7 q10 q13 q17 q21 q37 q41 (-1), bTape g q1 ab_2 0 0 0 0 0 (-1) (fun _ => 0), bTown g q4 a_5 0 0 0 20 6 50 0 1 (fun _ _ => 0), bLaw g q7 ac_8 0 (-1) 0 0 0 (fun _ => 0), bLog g q10 ar_11 0 0 (fun _ => 0), [(q13, .inr (8, [.ref q1, .ref dr_14]))], bTown g dr_14 a_15 0 0 0 20 6 50 0 1 (fun _ _ => 0), [(q17, .inr (2, [.ref q1, .ref dr_18]))], bLaw g dr_18 ac_19 0 (-1) 0 0 0 (fun _ => 0), bMem g q21 qT_22 qL_23 it_24 il_25 ig_26 0 0 0 fT_27 fL_28, bTown g it_24 ia_29 0 0 0 20 6 50 0 1 (fun _ _ => 0), bLaw g il_25 ic_30 0 (-1) 0 0 0 (fun _ => 0), bLog g ig_26 ir_31 0 0 (fun _ => 0), bTown g t0_32 ta0_33 0 0 0 20 6 50 0 1 (fun _ _ => 0), bLog g l0_34 la0_35 0 0 (fun _ => 0), [(q37, .inr (0, [.ref q4, .ref q7, .ref od_38]))], bTown g od_38 ad_39 0 0 0 20 6 50 0 1 (fun _ _ => 0), bRid g q41 af_42 0 0 (fun _ => 0)]) := hD
  exact mret_v hx hb hr hlocks hS (Nat.le_of_ble_eq_true rfl) (Nat.le_of_ble_eq_true rfl) dX11_init_124 (q1, q4, q7, q10, q13, q17, q21, q37, q41, ab_2, ac_8, ar_11, dr_14, a_5, a_15, dr_18, ac_19, qT_22, qL_23, it_24, il_25, ig_26, fT_27, fL_28, ia_29, ic_30, ir_31, t0_32, ta0_33, l0_34, la0_35, od_38, ad_39, af_42) rfl (by assumption) hP hD
