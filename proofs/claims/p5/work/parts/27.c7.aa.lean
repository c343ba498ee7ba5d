def bMem (g : zG) (mo : Nat) (qT : Nat) (qL : Nat) (it : Nat) (il : Nat) (ig : Nat) (mh : Int32) (me : Int32) (mx : Int32) (fT : Nat → Option Nat) (fL : Nat → Option Nat) : va_W := [(mo, .inr (4, [.ref qT, .ref qL, .ref it, .ref il, .ref ig, .int mh, .int me, .int mx])), (qT, .inl (g.2 3, 12, .inr (.inr (.inr (.inr fT))))), (qL, .inl (g.2 4, 12, .inr (.inr (.inr (.inr fL)))))]
/-! POOLS: twelve towns and twelve logs, of which one at a time is opened -/
theorem zpmP {D : va_G} {cl : List vw_C} {L L' : va_W} {H : Heap} (hp : L.Perm L') (h : va_P D cl L H) : va_P D cl L' H := zP_iff.mpr fun q hq => zP_iff.mp h q (hp.mem_iff.mpr hq)
theorem zpmD {A : Nat → Prop} {L L' : va_W} (hp : L.Perm L') (h : va_D A L) : va_D A L' := by
  obtain ⟨h1, h2⟩ := zD_iff.mp h
  exact zD_iff.mpr ⟨(hp.pairwise_iff (fun {x y} h e => h e.symm)).mp h1, fun q hq => h2 q (hp.mem_iff.mpr hq)⟩
def zPo (f : Nat → va_W) : va_W := ((List.range 12).map f).flatten
def zPx (f : Nat → va_W) (i : Nat) : va_W := (((List.range 12).erase i).map f).flatten
theorem zPo_perm {f : Nat → va_W} {i : Nat} (hi : i < 12) : (zPo f).Perm (f i ++ zPx f i) :=
  ((List.perm_cons_erase (List.mem_range.mpr hi)).map f).flatten
theorem zPx_congr {f f' : Nat → va_W} {i : Nat} (h : ∀ j, j ≠ i → f j = f' j) : zPx f i = zPx f' i := by
  unfold zPx
  rw [List.map_congr_left (fun j hj => h j (fun e => by rw [e] at hj; exact (List.nodup_range.mem_erase_iff.mp hj).1 rfl))]
theorem zPo_op {f : Nat → va_W} {i : Nat} (hi : i < 12) (Bs : List va_W) : (List.flatten (Bs ++ [zPo f])).Perm (List.flatten (f i :: (Bs ++ [zPx f i]))) := by
  have e1 : List.flatten (Bs ++ [zPo f]) = Bs.flatten ++ zPo f := by rw [List.flatten_append]; congr 1; exact List.append_nil _
  have e2 : List.flatten (f i :: (Bs ++ [zPx f i])) = f i ++ (Bs.flatten ++ zPx f i) := by rw [List.flatten_cons, List.flatten_append]; congr 2; exact List.append_nil _
  rw [e1, e2]
  exact ((zPo_perm hi).append_left Bs.flatten).trans (List.perm_append_comm_assoc _ _ _)
abbrev zTR : Type := Nat × (Nat → Nat) × Int32 × Int32 × Int32 × Int32 × Int32 × Int32 × Int32 × Int32 × (Nat → Nat → Int32)
def bTR (g : zG) (t : zTR) : va_W := bTown g t.1 t.2.1 t.2.2.1 t.2.2.2.1 t.2.2.2.2.1 t.2.2.2.2.2.1 t.2.2.2.2.2.2.1 t.2.2.2.2.2.2.2.1 t.2.2.2.2.2.2.2.2.1 t.2.2.2.2.2.2.2.2.2.1 t.2.2.2.2.2.2.2.2.2.2
def bPT (g : zG) (P : Nat → zTR) : va_W := zPo fun i => bTR g (P i)
def bPTx (g : zG) (P : Nat → zTR) (i : Nat) : va_W := zPx (fun i => bTR g (P i)) i
def zTg (t : zTR) : Prop := (0 ≤ t.2.2.1.toInt ∧ t.2.2.1.toInt ≤ 8) ∧ (0 ≤ t.2.2.2.1.toInt ∧ t.2.2.2.1.toInt ≤ 6) ∧ zZ4 t.2.2.2.2.2.2.2.2.2.2
def zPT (fT : Nat → Option Nat) (P : Nat → zTR) : Prop := ∀ i, i < 12 → fT i = some (P i).1 ∧ zTg (P i)
abbrev zLR : Type := Nat × Nat × Int32 × Int32 × (Nat → Int32)
def bLR (g : zG) (t : zLR) : va_W := bLog g t.1 t.2.1 t.2.2.1 t.2.2.2.1 t.2.2.2.2
def bPL (g : zG) (P : Nat → zLR) : va_W := zPo fun i => bLR g (P i)
def bPLx (g : zG) (P : Nat → zLR) (i : Nat) : va_W := zPx (fun i => bLR g (P i)) i
def zLg (t : zLR) : Prop := (0 ≤ t.2.2.1.toInt ∧ t.2.2.1.toInt ≤ 60) ∧ (0 ≤ t.2.2.2.1.toInt ∧ t.2.2.2.1.toInt ≤ 59)
def zPL (fL : Nat → Option Nat) (P : Nat → zLR) : Prop := ∀ i, i < 12 → fL i = some (P i).1 ∧ zLg (P i)
section ZP
variable {g : zG} {A : Nat → Prop} {H : Heap}
theorem zopT {fT : Nat → Option Nat} {P : Nat → zTR} (i : Nat) (Bs : List va_W) (hi : i < 12) (h : zPT fT P) (hP : va_P g.1 vwCl (List.flatten (Bs ++ [bPT g P])) H) (hD : va_D A (List.flatten (Bs ++ [bPT g P]))) :
    ∃ (o : Nat) (a : Nat → Nat) (pe wo tx ch jo tr dy sd : Int32) (f : Nat → Nat → Int32), fT i = some o ∧ (0 ≤ pe.toInt ∧ pe.toInt ≤ 8) ∧ (0 ≤ wo.toInt ∧ wo.toInt ≤ 6) ∧ zZ4 f ∧
      va_P g.1 vwCl (List.flatten (bTown g o a pe wo tx ch jo tr dy sd f :: (Bs ++ [bPTx g P i]))) H ∧ va_D A (List.flatten (bTown g o a pe wo tx ch jo tr dy sd f :: (Bs ++ [bPTx g P i]))) := by
  obtain ⟨h1, h2, h3, h4⟩ := h i hi
  exact ⟨_, _, _, _, _, _, _, _, _, _, _, h1, h2, h3, h4, zpmP (zPo_op hi Bs) hP, zpmD (zPo_op hi Bs) hD⟩
theorem zclT {fT : Nat → Option Nat} {P : Nat → zTR} {i : Nat} {o : Nat} {a : Nat → Nat} {pe wo tx ch jo tr dy sd : Int32} {f : Nat → Nat → Int32} (Bs : List va_W) (hi : i < 12) (h : zPT fT P) (ho : fT i = some o) (hpe : 0 ≤ pe.toInt ∧ pe.toInt ≤ 8) (hwo : 0 ≤ wo.toInt ∧ wo.toInt ≤ 6) (hf : zZ4 f)
    (hP : va_P g.1 vwCl (List.flatten (bTown g o a pe wo tx ch jo tr dy sd f :: (Bs ++ [bPTx g P i]))) H) (hD : va_D A (List.flatten (bTown g o a pe wo tx ch jo tr dy sd f :: (Bs ++ [bPTx g P i])))) :
    ∃ P' : Nat → zTR, zPT fT P' ∧ va_P g.1 vwCl (List.flatten (Bs ++ [bPT g P'])) H ∧ va_D A (List.flatten (Bs ++ [bPT g P'])) := by
  have hc : bPTx g P i = zPx (fun j => bTR g (if j = i then (o, a, pe, wo, tx, ch, jo, tr, dy, sd, f) else P j)) i := zPx_congr (fun j hj => by rw [if_neg hj])
  have he : bTown g o a pe wo tx ch jo tr dy sd f = (fun j => bTR g (if j = i then (o, a, pe, wo, tx, ch, jo, tr, dy, sd, f) else P j)) i := by show _ = bTR g (if i = i then _ else _); rw [if_pos rfl]; rfl
  rw [hc, he] at hP hD
  refine ⟨fun j => if j = i then (o, a, pe, wo, tx, ch, jo, tr, dy, sd, f) else P j, fun j hj => ?_, zpmP (zPo_op hi Bs).symm hP, zpmD (zPo_op hi Bs).symm hD⟩
  show fT j = some (if j = i then (o, a, pe, wo, tx, ch, jo, tr, dy, sd, f) else P j).1 ∧ zTg (if j = i then (o, a, pe, wo, tx, ch, jo, tr, dy, sd, f) else P j)
  by_cases e : j = i
  · rw [if_pos e, e]; exact ⟨ho, hpe, hwo, hf⟩
  · rw [if_neg e]; exact h j hj
theorem zopL {fL : Nat → Option Nat} {P : Nat → zLR} (i : Nat) (Bs : List va_W) (hi : i < 12) (h : zPL fL P) (hP : va_P g.1 vwCl (List.flatten (Bs ++ [bPL g P])) H) (hD : va_D A (List.flatten (Bs ++ [bPL g P]))) :
    ∃ (go gr : Nat) (gz gn : Int32) (fr : Nat → Int32), fL i = some go ∧ (0 ≤ gz.toInt ∧ gz.toInt ≤ 60) ∧ (0 ≤ gn.toInt ∧ gn.toInt ≤ 59) ∧
      va_P g.1 vwCl (List.flatten (bLog g go gr gz gn fr :: (Bs ++ [bPLx g P i]))) H ∧ va_D A (List.flatten (bLog g go gr gz gn fr :: (Bs ++ [bPLx g P i]))) := by
  obtain ⟨h1, h2, h3⟩ := h i hi
  exact ⟨_, _, _, _, _, h1, h2, h3, zpmP (zPo_op hi Bs) hP, zpmD (zPo_op hi Bs) hD⟩
theorem zclL {fL : Nat → Option Nat} {P : Nat → zLR} {i : Nat} {go gr : Nat} {gz gn : Int32} {fr : Nat → Int32} (Bs : List va_W) (hi : i < 12) (h : zPL fL P) (ho : fL i = some go) (hgz : 0 ≤ gz.toInt ∧ gz.toInt ≤ 60) (hgn : 0 ≤ gn.toInt ∧ gn.toInt ≤ 59)
    (hP : va_P g.1 vwCl (List.flatten (bLog g go gr gz gn fr :: (Bs ++ [bPLx g P i]))) H) (hD : va_D A (List.flatten (bLog g go gr gz gn fr :: (Bs ++ [bPLx g P i])))) :
    ∃ P' : Nat → zLR, zPL fL P' ∧ va_P g.1 vwCl (List.flatten (Bs ++ [bPL g P'])) H ∧ va_D A (List.flatten (Bs ++ [bPL g P'])) := by
  have hc : bPLx g P i = zPx (fun j => bLR g (if j = i then (go, gr, gz, gn, fr) else P j)) i := zPx_congr (fun j hj => by rw [if_neg hj])
  have he : bLog g go gr gz gn fr = (fun j => bLR g (if j = i then (go, gr, gz, gn, fr) else P j)) i := by show _ = bLR g (if i = i then _ else _); rw [if_pos rfl]; rfl
  rw [hc, he] at hP hD
  refine ⟨fun j => if j = i then (go, gr, gz, gn, fr) else P j, fun j hj => ?_, zpmP (zPo_op hi Bs).symm hP, zpmD (zPo_op hi Bs).symm hD⟩
  show fL j = some (if j = i then (go, gr, gz, gn, fr) else P j).1 ∧ zLg (if j = i then (go, gr, gz, gn, fr) else P j)
  by_cases e : j = i
  · rw [if_pos e, e]; exact ⟨ho, hgz, hgn⟩
  · rw [if_neg e]; exact h j hj
end ZP
set_option maxRecDepth 100000 in
set_option maxHeartbeats 4000000 in
theorem c_m_forget (l : Launch) (g : zG) (mo : Nat) (qT : Nat) (qL : Nat) (it : Nat) (il : Nat) (ig : Nat) (mh : Int32) (me : Int32) (mx : Int32) (fT : Nat → Option Nat) (fL : Nat → Option Nat)  : zM' g l yX4_forget (Cond.code yX4_forget cX4_forget 1 none :: zB) ({ frames := 0, cells := 0, slots := 0, locals := 0 } : Room) [.ref mo] [bMem g mo qT qL it il ig mh me mx fT fL] (fun _ : Unit => none) (fun _ : Unit => True) (fun _ : Unit => [bMem g mo qT qL it il ig mh 0 mx fT fL]) := by
  refine zM'.of (cc := cX4_forget) (maxL := 1) (rt := none) (by decide) rfl (Nat.le_of_ble_eq_true rfl) ?_
  intro p e s m args below meth c A ls St hr hlocks hin hK hT hA hP hD hS hl
  obtain ⟨hx, hb, hml, hown, hts⟩ := id St
  have hl : lv_has ls 1 [(0, .ref mo)] := hl
  refine lv_aload_n hx hb dX4_forget_0 rfl (lv_at hl 0 rfl) ?_
  refine lv_iconst (v := 0) hx hb dX4_forget_1 (by decide) ?_
  refine va_put (D := g.1) (ci := 4) (v := .int 0) (ty := .int) (C := RX4) (T := TX4) (N := 8) hx hb hts izRX4 tyX4 tyX4_ok nmX4 hown hK hP hD hS 0 rfl rfl 6 (by decide) (hts _ k360) (fun _ h9 => h9) rfl (by decide +kernel) rfl rfl (Nat.le_of_ble_eq_true rfl) dX4_forget_2 (fun H locs hP hD hS => ?_)
  have hP : va_P g.1 vwCl (List.flatten [bMem g mo qT qL it il ig mh 0 mx fT fL]) H := hP
  have hD : va_D A (List.flatten [bMem g mo qT qL it il ig mh 0 mx fT fL]) := hD
  have hP : va_P g.1 vwCl (List.flatten [bMem g mo qT qL it il ig mh 0 mx fT fL]) H := hP
  have hD : va_D A (List.flatten [bMem g mo qT qL it il ig mh 0 mx fT fL]) := hD
  exact mret_v hx hb hr hlocks hS (Nat.le_of_ble_eq_true rfl) (Nat.le_of_ble_eq_true rfl) dX4_forget_5 () rfl trivial hP hD
set_option maxRecDepth 100000 in
set_option maxHeartbeats 4000000 in
theorem c_m_remember (l : Launch) (g : zG) (mo : Nat) (qT : Nat) (qL : Nat) (it : Nat) (il : Nat) (ig : Nat) (mh : Int32) (me : Int32) (mx : Int32) (fT : Nat → Option Nat) (fL : Nat → Option Nat) (o : Nat) (a : Nat → Nat) (pe : Int32) (wo : Int32) (tx : Int32) (ch : Int32) (jo : Int32) (tr : Int32) (dy : Int32) (sd : Int32) (f : Nat → Nat → Int32) (go : Nat) (gr : Nat) (gz : Int32) (gn : Int32) (fr : Nat → Int32) (PT : Nat → zTR) (PL : Nat → zLR) (b_me : 0 ≤ me.toInt ∧ me.toInt ≤ 12) (b_mx : 0 ≤ mx.toInt ∧ mx.toInt ≤ 11) (b_pe : 0 ≤ pe.toInt ∧ pe.toInt ≤ 8) (b_wo : 0 ≤ wo.toInt ∧ wo.toInt ≤ 6) (rf : zZ4 f) (b_gz : 0 ≤ gz.toInt ∧ gz.toInt ≤ 60) (b_gn : 0 ≤ gn.toInt ∧ gn.toInt ≤ 59) (hPT : zPT fT PT) (hPL : zPL fL PL) : zM' g l yX4_remember (Cond.code yX4_remember cX4_remember 3 none :: zB) ({ frames := 2, cells := 0, slots := 0, locals := 61 } : Room) [.ref mo, .ref o, .ref go] [bMem g mo qT qL it il ig mh me mx fT fL, bTown g o a pe wo tx ch jo tr dy sd f, bLog g go gr gz gn fr, bPT g PT, bPL g PL] (fun u : Int32 × Int32 × (Nat → zTR) × (Nat → zLR) => (fun (me2 : Int32) (mx2 : Int32) (PT2 : Nat → zTR) (PL2 : Nat → zLR) => none) (u.1) (u.2.1) (u.2.2.1) (u.2.2.2)) (fun u : Int32 × Int32 × (Nat → zTR) × (Nat → zLR) => (fun (me2 : Int32) (mx2 : Int32) (PT2 : Nat → zTR) (PL2 : Nat → zLR) => (0 ≤ me2.toInt ∧ me2.toInt ≤ 12) ∧ (0 ≤ mx2.toInt ∧ mx2.toInt ≤ 11) ∧ (zPT fT PT2) ∧ (zPL fL PL2)) (u.1) (u.2.1) (u.2.2.1) (u.2.2.2)) (fun u : Int32 × Int32 × (Nat → zTR) × (Nat → zLR) => (fun (me2 : Int32) (mx2 : Int32) (PT2 : Nat → zTR) (PL2 : Nat → zLR) => [bMem g mo qT qL it il ig mh me2 mx2 fT fL, bTown g o a pe wo tx ch jo tr dy sd f, bLog g go gr gz gn fr, bPT g PT2, bPL g PL2]) (u.1) (u.2.1) (u.2.2.1) (u.2.2.2)) := by
  refine zM'.of (cc := cX4_remember) (maxL := 3) (rt := none) (by decide) rfl (Nat.le_of_ble_eq_true rfl) ?_
  intro p e s m args below meth c A ls St hr hlocks hin hK hT hA hP hD hS hl
  obtain ⟨hx, hb, hml, hown, hts⟩ := id St
  have hl : lv_has ls 3 [(0, .ref mo), (1, .ref o), (2, .ref go)] := hl
  refine lv_aload_n hx hb dX4_remember_0 rfl (lv_at hl 0 rfl) ?_
  refine va_get (D := g.1) (ci := 4) (v := .ref qT) (C := RX4) (T := TX4) (N := 8) hx hb hts izRX4 hown hK hP 0 rfl rfl 0 (by decide) (hts _ k349) (fun _ h9 => h9) rfl dX4_remember_1 ?_
  refine lv_aload_n hx hb dX4_remember_4 rfl (lv_at hl 0 rfl) ?_
  refine va_get (D := g.1) (ci := 4) (v := .int mx) (C := RX4) (T := TX4) (N := 8) hx hb hts izRX4 hown hK hP 0 rfl rfl 7 (by decide) (hts _ k361) (fun _ h9 => h9) rfl dX4_remember_5 ?_
  have hP : va_P g.1 vwCl (List.flatten [bMem g mo qT qL it il ig mh me mx fT fL, bTown g o a pe wo tx ch jo tr dy sd f, bLog g go gr gz gn fr, bPT g PT, bPL g PL]) s.heap := hP
  have hD : va_D A (List.flatten [bMem g mo qT qL it il ig mh me mx fT fL, bTown g o a pe wo tx ch jo tr dy sd f, bLog g go gr gz gn fr, bPT g PT, bPL g PL]) := hD
  obtain ⟨hP, hD⟩ := zord (g := g) (Bs' := [bMem g mo qT qL it il ig mh me mx fT fL, bTown g o a pe wo tx ch jo tr dy sd f, bLog g go gr gz gn fr, bPL g PL, bPT g PT]) [0, 1, 2, 4, 3] rfl rfl hP hD
  have hi1 : mx.toNatClampNeg < 12 := by rw [zcl]; omega
  obtain ⟨o_2, a_3, pe_4, wo_5, tx_6, ch_7, jo_8, tr_9, dy_10, sd_11, f_12, hu13, hu14, hu15, rf_12, hP, hD⟩ := zopT (g := g) (A := A) mx.toNatClampNeg [bMem g mo qT qL it il ig mh me mx fT fL, bTown g o a pe wo tx ch jo tr dy sd f, bLog g go gr gz gn fr, bPL g PL] hi1 hPT hP hD
  have hP : va_P g.1 vwCl (List.flatten [bTown g o_2 a_3 pe_4 wo_5 tx_6 ch_7 jo_8 tr_9 dy_10 sd_11 f_12, bMem g mo qT qL it il ig mh me mx fT fL, bTown g o a pe wo tx ch jo tr dy sd f, bLog g go gr gz gn fr, bPL g PL, bPTx g PT mx.toNatClampNeg]) s.heap := hP
  have hD : va_D A (List.flatten [bTown g o_2 a_3 pe_4 wo_5 tx_6 ch_7 jo_8 tr_9 dy_10 sd_11 f_12, bMem g mo qT qL it il ig mh me mx fT fL, bTown g o a pe wo tx ch jo tr dy sd f, bLog g go gr gz gn fr, bPL g PL, bPTx g PT mx.toNatClampNeg]) := hD
  refine va_aldq hx hb hK hP 13 3 rfl rfl (zinK (a := 0) (b := 11) b_mx.1 b_mx.2 (by decide)) dX4_remember_8 ?_
  refine W.eq (g2 := F0 m 9 ls (.ref o_2 :: [])) (by rw [show fT (Int32.toNatClampNeg mx) = some o_2 from hu13]; rfl) ?_
  refine lv_aload_n hx hb dX4_remember_9 rfl (lv_at hl 1 rfl) ?_
  refine mcallV' (g := g) (q0 := 0) (ci := 7) (As := [.ref o]) (rest := []) St hK hT hA hP hD hS hl.1 [0, 2] [1, 3, 4, 5] rfl rfl rfl (c_copyFrom l g o_2 a_3 pe_4 wo_5 tx_6 ch_7 jo_8 tr_9 dy_10 sd_11 f_12 o a pe wo tx ch jo tr dy sd f b_pe b_wo rf) (cwV 1 hts (zgL (zl4 k363 k157 k158 k24) k30) rfl rfl rfl (by decide +kernel) ⟨Nat.le_of_ble_eq_true rfl, Nat.le_of_ble_eq_true rfl⟩) rfl rfl rfl rfl (Nat.le_of_ble_eq_true rfl) dX4_remember_10 ⟨(Nat.le_of_ble_eq_true rfl), (Nat.le_of_ble_eq_true rfl)⟩ (fun h_16 H locs hq17 hP hD hS => ?_)
  replace hq17 : (zZ4 h_16) := hq17
  have hP : va_P g.1 vwCl (List.flatten [bMem g mo qT qL it il ig mh me mx fT fL, bLog g go gr gz gn fr, bPL g PL, bPTx g PT mx.toNatClampNeg, bTown g o_2 a_3 pe wo tx ch jo tr dy sd h_16, bTown g o a pe wo tx ch jo tr dy sd f]) H := hP
  have hD : va_D A (List.flatten [bMem g mo qT qL it il ig mh me mx fT fL, bLog g go gr gz gn fr, bPL g PL, bPTx g PT mx.toNatClampNeg, bTown g o_2 a_3 pe wo tx ch jo tr dy sd h_16, bTown g o a pe wo tx ch jo tr dy sd f]) := hD
  refine W.widen (k := 0) (n := 0) (Nat.le_of_ble_eq_true rfl) (Nat.le_of_ble_eq_true rfl) ?_
  refine W.eq (g2 := F0 m 13 ls []) rfl ?_
  have hP : va_P g.1 vwCl (List.flatten [bMem g mo qT qL it il ig mh me mx fT fL, bLog g go gr gz gn fr, bPL g PL, bPTx g PT mx.toNatClampNeg, bTown g o_2 a_3 pe wo tx ch jo tr dy sd h_16, bTown g o a pe wo tx ch jo tr dy sd f]) H := hP
  have hD : va_D A (List.flatten [bMem g mo qT qL it il ig mh me mx fT fL, bLog g go gr gz gn fr, bPL g PL, bPTx g PT mx.toNatClampNeg, bTown g o_2 a_3 pe wo tx ch jo tr dy sd h_16, bTown g o a pe wo tx ch jo tr dy sd f]) := hD
  obtain ⟨hP, hD⟩ := zord (g := g) (Bs' := [bMem g mo qT qL it il ig mh me mx fT fL, bLog g go gr gz gn fr, bTown g o_2 a_3 pe wo tx ch jo tr dy sd h_16, bTown g o a pe wo tx ch jo tr dy sd f, bPL g PL, bPTx g PT mx.toNatClampNeg]) [0, 1, 4, 5, 2, 3] rfl rfl hP hD
  have rh_16 := hq17; clear hq17
  have hP : va_P g.1 vwCl (List.flatten [bMem g mo qT qL it il ig mh me mx fT fL, bLog g go gr gz gn fr, bTown g o_2 a_3 pe wo tx ch jo tr dy sd h_16, bTown g o a pe wo tx ch jo tr dy sd f, bPL g PL, bPTx g PT mx.toNatClampNeg]) H := hP
  have hD : va_D A (List.flatten [bMem g mo qT qL it il ig mh me mx fT fL, bLog g go gr gz gn fr, bTown g o_2 a_3 pe wo tx ch jo tr dy sd h_16, bTown g o a pe wo tx ch jo tr dy sd f, bPL g PL, bPTx g PT mx.toNatClampNeg]) := hD
  obtain ⟨hP, hD⟩ := zord (g := g) (Bs' := [bTown g o_2 a_3 pe wo tx ch jo tr dy sd h_16, bMem g mo qT qL it il ig mh me mx fT fL, bLog g go gr gz gn fr, bTown g o a pe wo tx ch jo tr dy sd f, bPL g PL, bPTx g PT mx.toNatClampNeg]) [2, 0, 1, 3, 4, 5] rfl rfl hP hD
  obtain ⟨PT_18, hp19, hP, hD⟩ := zclT (g := g) (A := A) [bMem g mo qT qL it il ig mh me mx fT fL, bLog g go gr gz gn fr, bTown g o a pe wo tx ch jo tr dy sd f, bPL g PL] hi1 hPT hu13 ⟨b_pe.1, b_pe.2⟩ ⟨b_wo.1, b_wo.2⟩ rh_16 hP hD
  have hP : va_P g.1 vwCl (List.flatten [bMem g mo qT qL it il ig mh me mx fT fL, bLog g go gr gz gn fr, bTown g o a pe wo tx ch jo tr dy sd f, bPL g PL, bPT g PT_18]) H := hP
  have hD : va_D A (List.flatten [bMem g mo qT qL it il ig mh me mx fT fL, bLog g go gr gz gn fr, bTown g o a pe wo tx ch jo tr dy sd f, bPL g PL, bPT g PT_18]) := hD
  refine lv_aload_n hx hb dX4_remember_13 rfl (lv_at hl 0 rfl) ?_
  refine va_get (D := g.1) (ci := 4) (v := .ref qL) (C := RX4) (T := TX4) (N := 8) hx hb hts izRX4 hown hK hP 0 rfl rfl 1 (by decide) (hts _ k351) (fun _ h9 => h9) rfl dX4_remember_14 ?_
  refine lv_aload_n hx hb dX4_remember_17 rfl (lv_at hl 0 rfl) ?_
  refine va_get (D := g.1) (ci := 4) (v := .int mx) (C := RX4) (T := TX4) (N := 8) hx hb hts izRX4 hown hK hP 0 rfl rfl 7 (by decide) (hts _ k361) (fun _ h9 => h9) rfl dX4_remember_18 ?_
  have hP : va_P g.1 vwCl (List.flatten [bMem g mo qT qL it il ig mh me mx fT fL, bLog g go gr gz gn fr, bTown g o a pe wo tx ch jo tr dy sd f, bPL g PL, bPT g PT_18]) H := hP
  have hD : va_D A (List.flatten [bMem g mo qT qL it il ig mh me mx fT fL, bLog g go gr gz gn fr, bTown g o a pe wo tx ch jo tr dy sd f, bPL g PL, bPT g PT_18]) := hD
  obtain ⟨hP, hD⟩ := zord (g := g) (Bs' := [bMem g mo qT qL it il ig mh me mx fT fL, bLog g go gr gz gn fr, bTown g o a pe wo tx ch jo tr dy sd f, bPT g PT_18, bPL g PL]) [0, 1, 2, 4, 3] rfl rfl hP hD
  have hi20 : mx.toNatClampNeg < 12 := by rw [zcl]; omega
  obtain ⟨go_21, gr_22, gz_23, gn_24, fr_25, hu26, hu27, hu28, hP, hD⟩ := zopL (g := g) (A := A) mx.toNatClampNeg [bMem g mo qT qL it il ig mh me mx fT fL, bLog g go gr gz gn fr, bTown g o a pe wo tx ch jo tr dy sd f, bPT g PT_18] hi20 hPL hP hD
  have hP : va_P g.1 vwCl (List.flatten [bLog g go_21 gr_22 gz_23 gn_24 fr_25, bMem g mo qT qL it il ig mh me mx fT fL, bLog g go gr gz gn fr, bTown g o a pe wo tx ch jo tr dy sd f, bPT g PT_18, bPLx g PL mx.toNatClampNeg]) H := hP
  have hD : va_D A (List.flatten [bLog g go_21 gr_22 gz_23 gn_24 fr_25, bMem g mo qT qL it il ig mh me mx fT fL, bLog g go gr gz gn fr, bTown g o a pe wo tx ch jo tr dy sd f, bPT g PT_18, bPLx g PL mx.toNatClampNeg]) := hD
  refine va_aldq hx hb hK hP 4 4 rfl rfl (zinK (a := 0) (b := 11) b_mx.1 b_mx.2 (by decide)) dX4_remember_21 ?_
  refine W.eq (g2 := F0 m 22 ls (.ref go_21 :: [])) (by rw [show fL (Int32.toNatClampNeg mx) = some go_21 from hu26]; rfl) ?_
  refine lv_aload_n hx hb dX4_remember_22 rfl (lv_at hl 2 rfl) ?_
  refine mcallV' (g := g) (q0 := 0) (ci := 3) (As := [.ref go]) (rest := []) St hK hT hA hP hD hS hl.1 [0, 2] [1, 3, 4, 5] rfl rfl rfl (c_g_copyFrom l g go_21 gr_22 gz_23 gn_24 fr_25 go gr gz gn fr b_gz b_gn) (cwV 1 hts (zgL (zl4 k364 k365 k366 k123) k331) rfl rfl rfl (by decide +kernel) ⟨Nat.le_of_ble_eq_true rfl, Nat.le_of_ble_eq_true rfl⟩) rfl rfl rfl rfl (Nat.le_of_ble_eq_true rfl) dX4_remember_23 ⟨(Nat.le_of_ble_eq_true rfl), (Nat.le_of_ble_eq_true rfl)⟩ (fun h_29 H locs hq30 hP hD hS => ?_)
  have hP : va_P g.1 vwCl (List.flatten [bMem g mo qT qL it il ig mh me mx fT fL, bTown g o a pe wo tx ch jo tr dy sd f, bPT g PT_18, bPLx g PL mx.toNatClampNeg, bLog g go_21 gr_22 gz gn h_29, bLog g go gr gz gn fr]) H := hP
  have hD : va_D A (List.flatten [bMem g mo qT qL it il ig mh me mx fT fL, bTown g o a pe wo tx ch jo tr dy sd f, bPT g PT_18, bPLx g PL mx.toNatClampNeg, bLog g go_21 gr_22 gz gn h_29, bLog g go gr gz gn fr]) := hD
  refine W.widen (k := 0) (n := 0) (Nat.le_of_ble_eq_true rfl) (Nat.le_of_ble_eq_true rfl) ?_
  refine W.eq (g2 := F0 m 26 ls []) rfl ?_
  have hP : va_P g.1 vwCl (List.flatten [bMem g mo qT qL it il ig mh me mx fT fL, bTown g o a pe wo tx ch jo tr dy sd f, bPT g PT_18, bPLx g PL mx.toNatClampNeg, bLog g go_21 gr_22 gz gn h_29, bLog g go gr gz gn fr]) H := hP
  have hD : va_D A (List.flatten [bMem g mo qT qL it il ig mh me mx fT fL, bTown g o a pe wo tx ch jo tr dy sd f, bPT g PT_18, bPLx g PL mx.toNatClampNeg, bLog g go_21 gr_22 gz gn h_29, bLog g go gr gz gn fr]) := hD
  obtain ⟨hP, hD⟩ := zord (g := g) (Bs' := [bMem g mo qT qL it il ig mh me mx fT fL, bTown g o a pe wo tx ch jo tr dy sd f, bLog g go_21 gr_22 gz gn h_29, bLog g go gr gz gn fr, bPT g PT_18, bPLx g PL mx.toNatClampNeg]) [0, 1, 4, 5, 2, 3] rfl rfl hP hD
  have hP : va_P g.1 vwCl (List.flatten [bMem g mo qT qL it il ig mh me mx fT fL, bTown g o a pe wo tx ch jo tr dy sd f, bLog g go_21 gr_22 gz gn h_29, bLog g go gr gz gn fr, bPT g PT_18, bPLx g PL mx.toNatClampNeg]) H := hP
  have hD : va_D A (List.flatten [bMem g mo qT qL it il ig mh me mx fT fL, bTown g o a pe wo tx ch jo tr dy sd f, bLog g go_21 gr_22 gz gn h_29, bLog g go gr gz gn fr, bPT g PT_18, bPLx g PL mx.toNatClampNeg]) := hD
  obtain ⟨hP, hD⟩ := zord (g := g) (Bs' := [bLog g go_21 gr_22 gz gn h_29, bMem g mo qT qL it il ig mh me mx fT fL, bTown g o a pe wo tx ch jo tr dy sd f, bLog g go gr gz gn fr, bPT g PT_18, bPLx g PL mx.toNatClampNeg]) [2, 0, 1, 3, 4, 5] rfl rfl hP hD
  obtain ⟨PL_31, hp32, hP, hD⟩ := zclL (g := g) (A := A) [bMem g mo qT qL it il ig mh me mx fT fL, bTown g o a pe wo tx ch jo tr dy sd f, bLog g go gr gz gn fr, bPT g PT_18] hi20 hPL hu26 ⟨b_gz.1, b_gz.2⟩ ⟨b_gn.1, b_gn.2⟩ hP hD
  have hP : va_P g.1 vwCl (List.flatten [bMem g mo qT qL it il ig mh me mx fT fL, bTown g o a pe wo tx ch jo tr dy sd f, bLog g go gr gz gn fr, bPT g PT_18, bPL g PL_31]) H := hP
  have hD : va_D A (List.flatten [bMem g mo qT qL it il ig mh me mx fT fL, bTown g o a pe wo tx ch jo tr dy sd f, bLog g go gr gz gn fr, bPT g PT_18, bPL g PL_31]) := hD
  refine lv_aload_n hx hb dX4_remember_26 rfl (lv_at hl 0 rfl) ?_
  refine lv_aload_n hx hb dX4_remember_27 rfl (lv_at hl 0 rfl) ?_
  refine va_get (D := g.1) (ci := 4) (v := .int mx) (C := RX4) (T := TX4) (N := 8) hx hb hts izRX4 hown hK hP 0 rfl rfl 7 (by decide) (hts _ k361) (fun _ h9 => h9) rfl dX4_remember_28 ?_
  refine lv_iconst (v := 1) hx hb dX4_remember_31 (by decide) ?_
  refine lv_iadd hx hb dX4_remember_32 ?_
  refine zg3 (zaddK (i := mx.toInt) (j := 1) (a' := 1) (b' := 12) rfl (by decide) b_mx.1 b_mx.2 (Int.le_refl _) (Int.le_refl _) (by decide)) (fun x_33 hx_33 => ?_)
  refine lv_bipush (v := 12) hx hb dX4_remember_33 (by decide) ?_
  refine lv_irem hx hb dX4_remember_35 (by decide) ?_
  refine zgb (zrem (j := x_33.toInt) (d := 12) rfl (by decide) (Int.le_trans (by decide) hx_33.2.1) (by decide)) (fun x_34 hx_34 => ?_)
  refine va_put (D := g.1) (ci := 4) (v := .int x_34) (ty := .int) (C := RX4) (T := TX4) (N := 8) hx hb hts izRX4 tyX4 tyX4_ok nmX4 hown hK hP hD hS 0 rfl rfl 7 (by decide) (hts _ k361) (fun _ h9 => h9) rfl (by decide +kernel) rfl rfl (Nat.le_of_ble_eq_true rfl) dX4_remember_36 (fun H locs hP hD hS => ?_)
  have hP : va_P g.1 vwCl (List.flatten [bMem g mo qT qL it il ig mh me x_34 fT fL, bTown g o a pe wo tx ch jo tr dy sd f, bLog g go gr gz gn fr, bPT g PT_18, bPL g PL_31]) H := hP
  have hD : va_D A (List.flatten [bMem g mo qT qL it il ig mh me x_34 fT fL, bTown g o a pe wo tx ch jo tr dy sd f, bLog g go gr gz gn fr, bPT g PT_18, bPL g PL_31]) := hD
  refine lv_aload_n hx hb dX4_remember_39 rfl (lv_at hl 0 rfl) ?_
  refine lv_bipush (v := 12) hx hb dX4_remember_40 (by decide) ?_
  refine lv_aload_n hx hb dX4_remember_42 rfl (lv_at hl 0 rfl) ?_
  refine va_get (D := g.1) (ci := 4) (v := .int me) (C := RX4) (T := TX4) (N := 8) hx hb hts izRX4 hown hK hP 0 rfl rfl 6 (by decide) (hts _ k360) (fun _ h9 => h9) rfl dX4_remember_43 ?_
  refine lv_iconst (v := 1) hx hb dX4_remember_46 (by decide) ?_
  refine lv_iadd hx hb dX4_remember_47 ?_
  refine zg3 (zaddK (i := me.toInt) (j := 1) (a' := 1) (b' := 13) rfl (by decide) b_me.1 b_me.2 (Int.le_refl _) (Int.le_refl _) (by decide)) (fun x_35 hx_35 => ?_)
  refine va_mmin hx hb (by rw [hml]; exact hl.1.symm) hown (hts _ k362) (hts _ k41) (hts _ k42) (hts _ k43) (Nat.le_of_ble_eq_true rfl) (Nat.le_of_ble_eq_true rfl) (Nat.le_of_ble_eq_true rfl) (Nat.le_of_ble_eq_true rfl) dX4_remember_48 ?_
  refine zgmn (i := 12) (j := x_35.toInt) (by decide) rfl (fun x_36 hx_36 => ?_)
  refine va_put (D := g.1) (ci := 4) (v := .int x_36) (ty := .int) (C := RX4) (T := TX4) (N := 8) hx hb hts izRX4 tyX4 tyX4_ok nmX4 hown hK hP hD hS 0 rfl rfl 6 (by decide) (hts _ k360) (fun _ h9 => h9) rfl (by decide +kernel) rfl rfl (Nat.le_of_ble_eq_true rfl) dX4_remember_51 (fun H locs hP hD hS => ?_)
  have hP : va_P g.1 vwCl (List.flatten [bMem g mo qT qL it il ig mh x_36 x_34 fT fL, bTown g o a pe wo tx ch jo tr dy sd f, bLog g go gr gz gn fr, bPT g PT_18, bPL g PL_31]) H := hP
  have hD : va_D A (List.flatten [bMem g mo qT qL it il ig mh x_36 x_34 fT fL, bTown g o a pe wo tx ch jo tr dy sd f, bLog g go gr gz gn fr, bPT g PT_18, bPL g PL_31]) := hD
  have hP : va_P g.1 vwCl (List.flatten [bMem g mo qT qL it il ig mh x_36 x_34 fT fL, bTown g o a pe wo tx ch jo tr dy sd f, bLog g go gr gz gn fr, bPT g PT_18, bPL g PL_31]) H := hP
  have hD : va_D A (List.flatten [bMem g mo qT qL it il ig mh x_36 x_34 fT fL, bTown g o a pe wo tx ch jo tr dy sd f, bLog g go gr gz gn fr, bPT g PT_18, bPL g PL_31]) := hD
  exact mret_v hx hb hr hlocks hS (Nat.le_of_ble_eq_true rfl) (Nat.le_of_ble_eq_true rfl) dX4_remember_54 (x_36, x_34, PT_18, PL_31) rfl (show (0 ≤ x_36.toInt ∧ x_36.toInt ≤ 12) ∧ (0 ≤ x_34.toInt ∧ x_34.toInt ≤ 11) ∧ (zPT fT PT_18) ∧ (zPL fL PL_31) from ⟨(by first | assumption | omega | decide | exact rfl | exact zb01 (by omega) | exact Or.inl (by decide) | exact Or.inr (by first | omega | decide)), (by first | assumption | omega | decide | exact rfl | exact zb01 (by omega) | exact Or.inl (by decide) | exact Or.inr (by first | omega | decide)), hp19, hp32⟩) hP hD
set_option maxRecDepth 100000 in
set_option maxHeartbeats 4000000 in
theorem c_m_recall (l : Launch) (g : zG) (mo : Nat) (qT : Nat) (qL : Nat) (it : Nat) (il : Nat) (ig : Nat) (mh : Int32) (me : Int32) (mx : Int32) (fT : Nat → Option Nat) (fL : Nat → Option Nat) (o : Nat) (a : Nat → Nat) (pe : Int32) (wo : Int32) (tx : Int32) (ch : Int32) (jo : Int32) (tr : Int32) (dy : Int32) (sd : Int32) (f : Nat → Nat → Int32) (go : Nat) (gr : Nat) (gz : Int32) (gn : Int32) (fr : Nat → Int32) (PT : Nat → zTR) (PL : Nat → zLR) (b_me : 0 ≤ me.toInt ∧ me.toInt ≤ 12) (b_mx : 0 ≤ mx.toInt ∧ mx.toInt ≤ 11) (b_pe : 0 ≤ pe.toInt ∧ pe.toInt ≤ 8) (b_wo : 0 ≤ wo.toInt ∧ wo.toInt ≤ 6) (rf : zZ4 f) (b_gz : 0 ≤ gz.toInt ∧ gz.toInt ≤ 60) (b_gn : 0 ≤ gn.toInt ∧ gn.toInt ≤ 59) (hPT : zPT fT PT) (hPL : zPL fL PL) : zM' g l yX4_recall (Cond.code yX4_recall cX4_recall 3 (some .boolean) :: zB) ({ frames := 2, cells := 0, slots := 0, locals := 61 } : Room) [.ref mo, .ref o, .ref go] [bMem g mo qT qL it il ig mh me mx fT fL, bTown g o a pe wo tx ch jo tr dy sd f, bLog g go gr gz gn fr, bPT g PT, bPL g PL] (fun u : Int32 × Int32 × Int32 × Int32 × Int32 × Int32 × Int32 × Int32 × Int32 × Int32 × (Nat → Nat → Int32) × Int32 × Int32 × (Nat → Int32) × (Nat → zTR) × (Nat → zLR) × Int32 => (fun (me2 : Int32) (mx2 : Int32) (pe2 : Int32) (wo2 : Int32) (tx2 : Int32) (ch2 : Int32) (jo2 : Int32) (tr2 : Int32) (dy2 : Int32) (sd2 : Int32) (f2 : Nat → Nat → Int32) (gz2 : Int32) (gn2 : Int32) (fr2 : Nat → Int32) (PT2 : Nat → zTR) (PL2 : Nat → zLR) (q : Int32) => some (.int q)) (u.1) (u.2.1) (u.2.2.1) (u.2.2.2.1) (u.2.2.2.2.1) (u.2.2.2.2.2.1) (u.2.2.2.2.2.2.1) (u.2.2.2.2.2.2.2.1) (u.2.2.2.2.2.2.2.2.1) (u.2.2.2.2.2.2.2.2.2.1) (u.2.2.2.2.2.2.2.2.2.2.1) (u.2.2.2.2.2.2.2.2.2.2.2.1) (u.2.2.2.2.2.2.2.2.2.2.2.2.1) (u.2.2.2.2.2.2.2.2.2.2.2.2.2.1) (u.2.2.2.2.2.2.2.2.2.2.2.2.2.2.1) (u.2.2.2.2.2.2.2.2.2.2.2.2.2.2.2.1) (u.2.2.2.2.2.2.2.2.2.2.2.2.2.2.2.2)) (fun u : Int32 × Int32 × Int32 × Int32 × Int32 × Int32 × Int32 × Int32 × Int32 × Int32 × (Nat → Nat → Int32) × Int32 × Int32 × (Nat → Int32) × (Nat → zTR) × (Nat → zLR) × Int32 => (fun (me2 : Int32) (mx2 : Int32) (pe2 : Int32) (wo2 : Int32) (tx2 : Int32) (ch2 : Int32) (jo2 : Int32) (tr2 : Int32) (dy2 : Int32) (sd2 : Int32) (f2 : Nat → Nat → Int32) (gz2 : Int32) (gn2 : Int32) (fr2 : Nat → Int32) (PT2 : Nat → zTR) (PL2 : Nat → zLR) (q : Int32) => (0 ≤ me2.toInt ∧ me2.toInt ≤ 12) ∧ (0 ≤ mx2.toInt ∧ mx2.toInt ≤ 11) ∧ (0 ≤ pe2.toInt ∧ pe2.toInt ≤ 8) ∧ (0 ≤ wo2.toInt ∧ wo2.toInt ≤ 6) ∧ (zZ4 f2) ∧ (0 ≤ gz2.toInt ∧ gz2.toInt ≤ 60) ∧ (0 ≤ gn2.toInt ∧ gn2.toInt ≤ 59) ∧ (zPT fT PT2) ∧ (zPL fL PL2) ∧ (q = 0 ∨ q = 1)) (u.1) (u.2.1) (u.2.2.1) (u.2.2.2.1) (u.2.2.2.2.1) (u.2.2.2.2.2.1) (u.2.2.2.2.2.2.1) (u.2.2.2.2.2.2.2.1) (u.2.2.2.2.2.2.2.2.1) (u.2.2.2.2.2.2.2.2.2.1) (u.2.2.2.2.2.2.2.2.2.2.1) (u.2.2.2.2.2.2.2.2.2.2.2.1) (u.2.2.2.2.2.2.2.2.2.2.2.2.1) (u.2.2.2.2.2.2.2.2.2.2.2.2.2.1) (u.2.2.2.2.2.2.2.2.2.2.2.2.2.2.1) (u.2.2.2.2.2.2.2.2.2.2.2.2.2.2.2.1) (u.2.2.2.2.2.2.2.2.2.2.2.2.2.2.2.2)) (fun u : Int32 × Int32 × Int32 × Int32 × Int32 × Int32 × Int32 × Int32 × Int32 × Int32 × (Nat → Nat → Int32) × Int32 × Int32 × (Nat → Int32) × (Nat → zTR) × (Nat → zLR) × Int32 => (fun (me2 : Int32) (mx2 : Int32) (pe2 : Int32) (wo2 : Int32) (tx2 : Int32) (ch2 : Int32) (jo2 : Int32) (tr2 : Int32) (dy2 : Int32) (sd2 : Int32) (f2 : Nat → Nat → Int32) (gz2 : Int32) (gn2 : Int32) (fr2 : Nat → Int32) (PT2 : Nat → zTR) (PL2 : Nat → zLR) (q : Int32) => [bMem g mo qT qL it il ig mh me2 mx2 fT fL, bTown g o a pe2 wo2 tx2 ch2 jo2 tr2 dy2 sd2 f2, bLog g go gr gz2 gn2 fr2, bPT g PT2, bPL g PL2]) (u.1) (u.2.1) (u.2.2.1) (u.2.2.2.1) (u.2.2.2.2.1) (u.2.2.2.2.2.1) (u.2.2.2.2.2.2.1) (u.2.2.2.2.2.2.2.1) (u.2.2.2.2.2.2.2.2.1) (u.2.2.2.2.2.2.2.2.2.1) (u.2.2.2.2.2.2.2.2.2.2.1) (u.2.2.2.2.2.2.2.2.2.2.2.1) (u.2.2.2.2.2.2.2.2.2.2.2.2.1) (u.2.2.2.2.2.2.2.2.2.2.2.2.2.1) (u.2.2.2.2.2.2.2.2.2.2.2.2.2.2.1) (u.2.2.2.2.2.2.2.2.2.2.2.2.2.2.2.1) (u.2.2.2.2.2.2.2.2.2.2.2.2.2.2.2.2)) := by
  refine zM'.of (cc := cX4_recall) (maxL := 3) (rt := (some .boolean)) (by decide) rfl (Nat.le_of_ble_eq_true rfl) ?_
  intro p e s m args below meth c A ls St hr hlocks hin hK hT hA hP hD hS hl
  obtain ⟨hx, hb, hml, hown, hts⟩ := id St
  have hl : lv_has ls 3 [(0, .ref mo), (1, .ref o), (2, .ref go)] := hl
  refine lv_aload_n hx hb dX4_recall_0 rfl (lv_at hl 0 rfl) ?_
  refine va_get (D := g.1) (ci := 4) (v := .int me) (C := RX4) (T := TX4) (N := 8) hx hb hts izRX4 hown hK hP 0 rfl rfl 6 (by decide) (hts _ k360) (fun _ h9 => h9) rfl dX4_recall_1 ?_
  refine lv_if_ne (tgt := 9) hx hb dX4_recall_4 (by decide) (fun cb9 => ?_) (fun cb9 => ?_)
  · skip
    have c1 : ¬ me.toInt = 0 := zne cb9 rfl (by decide)
    have n2 : 1 ≤ me.toInt := zN1 c1 b_me.1 (by decide)
    refine lv_aload_n hx hb dX4_recall_9 rfl (lv_at hl 0 rfl) ?_
    refine lv_dup hx hb dX4_recall_10 rfl ?_
    refine va_get (D := g.1) (ci := 4) (v := .int me) (C := RX4) (T := TX4) (N := 8) hx hb hts izRX4 hown hK hP 0 rfl rfl 6 (by decide) (hts _ k360) (fun _ h9 => h9) rfl dX4_recall_11 ?_
    refine lv_iconst (v := 1) hx hb dX4_recall_14 (by decide) ?_
    refine lv_isub hx hb dX4_recall_15 ?_
    refine zg3 (zsubK (i := me.toInt) (j := 1) (a' := 0) (b' := 11) rfl (by decide) n2 b_me.2 (Int.le_refl _) (Int.le_refl _) (by decide)) (fun x_3 hx_3 => ?_)
    refine va_put (D := g.1) (ci := 4) (v := .int x_3) (ty := .int) (C := RX4) (T := TX4) (N := 8) hx hb hts izRX4 tyX4 tyX4_ok nmX4 hown hK hP hD hS 0 rfl rfl 6 (by decide) (hts _ k360) (fun _ h9 => h9) rfl (by decide +kernel) rfl rfl (Nat.le_of_ble_eq_true rfl) dX4_recall_16 (fun H locs hP hD hS => ?_)
    have hP : va_P g.1 vwCl (List.flatten [bMem g mo qT qL it il ig mh x_3 mx fT fL, bTown g o a pe wo tx ch jo tr dy sd f, bLog g go gr gz gn fr, bPT g PT, bPL g PL]) H := hP
    have hD : va_D A (List.flatten [bMem g mo qT qL it il ig mh x_3 mx fT fL, bTown g o a pe wo tx ch jo tr dy sd f, bLog g go gr gz gn fr, bPT g PT, bPL g PL]) := hD
    refine lv_aload_n hx hb dX4_recall_19 rfl (lv_at hl 0 rfl) ?_
    refine lv_aload_n hx hb dX4_recall_20 rfl (lv_at hl 0 rfl) ?_
    refine va_get (D := g.1) (ci := 4) (v := .int mx) (C := RX4) (T := TX4) (N := 8) hx hb hts izRX4 hown hK hP 0 rfl rfl 7 (by decide) (hts _ k361) (fun _ h9 => h9) rfl dX4_recall_21 ?_
    refine lv_iconst (v := 1) hx hb dX4_recall_24 (by decide) ?_
    refine lv_isub hx hb dX4_recall_25 ?_
    refine zg3 (zsubK (i := mx.toInt) (j := 1) (a' := (-1)) (b' := 10) rfl (by decide) b_mx.1 b_mx.2 (Int.le_refl _) (Int.le_refl _) (by decide)) (fun x_4 hx_4 => ?_)
    refine lv_bipush (v := 12) hx hb dX4_recall_26 (by decide) ?_
    refine mcallS' (g := g) (As := [.int x_4, .int 12]) (rest := [.ref mo]) St hK hT hA hP hD hS hl.1 [] [0, 1, 2, 3, 4] rfl rfl rfl (j_floorMod12 l g x_4 ) (va_cwS 2 hts (zgL (zl3 k368 k336 k337) k333) rfl rfl rfl (by decide +kernel) ⟨Nat.le_of_ble_eq_true rfl, Nat.le_of_ble_eq_true rfl⟩) rfl rfl (Nat.le_of_ble_eq_true rfl) dX4_recall_28 ⟨(Nat.le_of_ble_eq_true rfl), (Nat.le_of_ble_eq_true rfl)⟩ (fun q_5 H locs hq6 hP hD hS => ?_)
    replace hq6 : (0 ≤ q_5.toInt ∧ q_5.toInt ≤ 11) := hq6
    have hP : va_P g.1 vwCl (List.flatten [bMem g mo qT qL it il ig mh x_3 mx fT fL, bTown g o a pe wo tx ch jo tr dy sd f, bLog g go gr gz gn fr, bPT g PT, bPL g PL]) H := hP
    have hD : va_D A (List.flatten [bMem g mo qT qL it il ig mh x_3 mx fT fL, bTown g o a pe wo tx ch jo tr dy sd f, bLog g go gr gz gn fr, bPT g PT, bPL g PL]) := hD
    refine W.widen (k := 0) (n := 0) (Nat.le_of_ble_eq_true rfl) (Nat.le_of_ble_eq_true rfl) ?_
    refine W.eq (g2 := F0 m 31 ls [.int q_5, .ref mo]) rfl ?_
    refine va_put (D := g.1) (ci := 4) (v := .int q_5) (ty := .int) (C := RX4) (T := TX4) (N := 8) hx hb hts izRX4 tyX4 tyX4_ok nmX4 hown hK hP hD hS 0 rfl rfl 7 (by decide) (hts _ k361) (fun _ h9 => h9) rfl (by decide +kernel) rfl rfl (Nat.le_of_ble_eq_true rfl) dX4_recall_31 (fun H locs hP hD hS => ?_)
    have hP : va_P g.1 vwCl (List.flatten [bMem g mo qT qL it il ig mh x_3 q_5 fT fL, bTown g o a pe wo tx ch jo tr dy sd f, bLog g go gr gz gn fr, bPT g PT, bPL g PL]) H := hP
    have hD : va_D A (List.flatten [bMem g mo qT qL it il ig mh x_3 q_5 fT fL, bTown g o a pe wo tx ch jo tr dy sd f, bLog g go gr gz gn fr, bPT g PT, bPL g PL]) := hD
    refine lv_aload_n hx hb dX4_recall_34 rfl (lv_at hl 1 rfl) ?_
    refine lv_aload_n hx hb dX4_recall_35 rfl (lv_at hl 0 rfl) ?_
    refine va_get (D := g.1) (ci := 4) (v := .ref qT) (C := RX4) (T := TX4) (N := 8) hx hb hts izRX4 hown hK hP 0 rfl rfl 0 (by decide) (hts _ k349) (fun _ h9 => h9) rfl dX4_recall_36 ?_
    refine lv_aload_n hx hb dX4_recall_39 rfl (lv_at hl 0 rfl) ?_
    refine va_get (D := g.1) (ci := 4) (v := .int q_5) (C := RX4) (T := TX4) (N := 8) hx hb hts izRX4 hown hK hP 0 rfl rfl 7 (by decide) (hts _ k361) (fun _ h9 => h9) rfl dX4_recall_40 ?_
    have hP : va_P g.1 vwCl (List.flatten [bMem g mo qT qL it il ig mh x_3 q_5 fT fL, bTown g o a pe wo tx ch jo tr dy sd f, bLog g go gr gz gn fr, bPT g PT, bPL g PL]) H := hP
    have hD : va_D A (List.flatten [bMem g mo qT qL it il ig mh x_3 q_5 fT fL, bTown g o a pe wo tx ch jo tr dy sd f, bLog g go gr gz gn fr, bPT g PT, bPL g PL]) := hD
    obtain ⟨hP, hD⟩ := zord (g := g) (Bs' := [bMem g mo qT qL it il ig mh x_3 q_5 fT fL, bTown g o a pe wo tx ch jo tr dy sd f, bLog g go gr gz gn fr, bPL g PL, bPT g PT]) [0, 1, 2, 4, 3] rfl rfl hP hD
    have hi7 : q_5.toNatClampNeg < 12 := by rw [zcl]; omega
    obtain ⟨o_8, a_9, pe_10, wo_11, tx_12, ch_13, jo_14, tr_15, dy_16, sd_17, f_18, hu19, hu20, hu21, rf_18, hP, hD⟩ := zopT (g := g) (A := A) q_5.toNatClampNeg [bMem g mo qT qL it il ig mh x_3 q_5 fT fL, bTown g o a pe wo tx ch jo tr dy sd f, bLog g go gr gz gn fr, bPL g PL] hi7 hPT hP hD
    have hP : va_P g.1 vwCl (List.flatten [bTown g o_8 a_9 pe_10 wo_11 tx_12 ch_13 jo_14 tr_15 dy_16 sd_17 f_18, bMem g mo qT qL it il ig mh x_3 q_5 fT fL, bTown g o a pe wo tx ch jo tr dy sd f, bLog g go gr gz gn fr, bPL g PL, bPTx g PT q_5.toNatClampNeg]) H := hP
    have hD : va_D A (List.flatten [bTown g o_8 a_9 pe_10 wo_11 tx_12 ch_13 jo_14 tr_15 dy_16 sd_17 f_18, bMem g mo qT qL it il ig mh x_3 q_5 fT fL, bTown g o a pe wo tx ch jo tr dy sd f, bLog g go gr gz gn fr, bPL g PL, bPTx g PT q_5.toNatClampNeg]) := hD
    refine va_aldq hx hb hK hP 13 3 rfl rfl (zinK (a := 0) (b := 11) hq6.1 hq6.2 (by decide)) dX4_recall_43 ?_
    refine W.eq (g2 := F0 m 44 ls (.ref o_8 :: [.ref o])) (by rw [show fT (Int32.toNatClampNeg q_5) = some o_8 from hu19]; rfl) ?_
    refine mcallV' (g := g) (q0 := 0) (ci := 7) (As := [.ref o_8]) (rest := []) St hK hT hA hP hD hS hl.1 [2, 0] [1, 3, 4, 5] rfl rfl rfl (c_copyFrom l g o a pe wo tx ch jo tr dy sd f o_8 a_9 pe_10 wo_11 tx_12 ch_13 jo_14 tr_15 dy_16 sd_17 f_18 (⟨hu20.1, hu20.2⟩) (⟨hu21.1, hu21.2⟩) rf_18) (cwV 1 hts (zgL (zl4 k363 k157 k158 k24) k30) rfl rfl rfl (by decide +kernel) ⟨Nat.le_of_ble_eq_true rfl, Nat.le_of_ble_eq_true rfl⟩) rfl rfl rfl rfl (Nat.le_of_ble_eq_true rfl) dX4_recall_44 ⟨(Nat.le_of_ble_eq_true rfl), (Nat.le_of_ble_eq_true rfl)⟩ (fun h_22 H locs hq23 hP hD hS => ?_)
    replace hq23 : (zZ4 h_22) := hq23
    have hP : va_P g.1 vwCl (List.flatten [bMem g mo qT qL it il ig mh x_3 q_5 fT fL, bLog g go gr gz gn fr, bPL g PL, bPTx g PT q_5.toNatClampNeg, bTown g o a pe_10 wo_11 tx_12 ch_13 jo_14 tr_15 dy_16 sd_17 h_22, bTown g o_8 a_9 pe_10 wo_11 tx_12 ch_13 jo_14 tr_15 dy_16 sd_17 f_18]) H := hP
    have hD : va_D A (List.flatten [bMem g mo qT qL it il ig mh x_3 q_5 fT fL, bLog g go gr gz gn fr, bPL g PL, bPTx g PT q_5.toNatClampNeg, bTown g o a pe_10 wo_11 tx_12 ch_13 jo_14 tr_15 dy_16 sd_17 h_22, bTown g o_8 a_9 pe_10 wo_11 tx_12 ch_13 jo_14 tr_15 dy_16 sd_17 f_18]) := hD
    refine W.widen (k := 0) (n := 0) (Nat.le_of_ble_eq_true rfl) (Nat.le_of_ble_eq_true rfl) ?_
    refine W.eq (g2 := F0 m 47 ls []) rfl ?_
    have hP : va_P g.1 vwCl (List.flatten [bMem g mo qT qL it il ig mh x_3 q_5 fT fL, bLog g go gr gz gn fr, bPL g PL, bPTx g PT q_5.toNatClampNeg, bTown g o a pe_10 wo_11 tx_12 ch_13 jo_14 tr_15 dy_16 sd_17 h_22, bTown g o_8 a_9 pe_10 wo_11 tx_12 ch_13 jo_14 tr_15 dy_16 sd_17 f_18]) H := hP
    have hD : va_D A (List.flatten [bMem g mo qT qL it il ig mh x_3 q_5 fT fL, bLog g go gr gz gn fr, bPL g PL, bPTx g PT q_5.toNatClampNeg, bTown g o a pe_10 wo_11 tx_12 ch_13 jo_14 tr_15 dy_16 sd_17 h_22, bTown g o_8 a_9 pe_10 wo_11 tx_12 ch_13 jo_14 tr_15 dy_16 sd_17 f_18]) := hD
    obtain ⟨hP, hD⟩ := zord (g := g) (Bs' := [bMem g mo qT qL it il ig mh x_3 q_5 fT fL, bLog g go gr gz gn fr, bTown g o a pe_10 wo_11 tx_12 ch_13 jo_14 tr_15 dy_16 sd_17 h_22, bTown g o_8 a_9 pe_10 wo_11 tx_12 ch_13 jo_14 tr_15 dy_16 sd_17 f_18, bPL g PL, bPTx g PT q_5.toNatClampNeg]) [0, 1, 4, 5, 2, 3] rfl rfl hP hD
    have rh_22 := hq23; clear hq23
    have hP : va_P g.1 vwCl (List.flatten [bMem g mo qT qL it il ig mh x_3 q_5 fT fL, bLog g go gr gz gn fr, bTown g o a pe_10 wo_11 tx_12 ch_13 jo_14 tr_15 dy_16 sd_17 h_22, bTown g o_8 a_9 pe_10 wo_11 tx_12 ch_13 jo_14 tr_15 dy_16 sd_17 f_18, bPL g PL, bPTx g PT q_5.toNatClampNeg]) H := hP
    have hD : va_D A (List.flatten [bMem g mo qT qL it il ig mh x_3 q_5 fT fL, bLog g go gr gz gn fr, bTown g o a pe_10 wo_11 tx_12 ch_13 jo_14 tr_15 dy_16 sd_17 h_22, bTown g o_8 a_9 pe_10 wo_11 tx_12 ch_13 jo_14 tr_15 dy_16 sd_17 f_18, bPL g PL, bPTx g PT q_5.toNatClampNeg]) := hD
    obtain ⟨hP, hD⟩ := zord (g := g) (Bs' := [bTown g o_8 a_9 pe_10 wo_11 tx_12 ch_13 jo_14 tr_15 dy_16 sd_17 f_18, bMem g mo qT qL it il ig mh x_3 q_5 fT fL, bLog g go gr gz gn fr, bTown g o a pe_10 wo_11 tx_12 ch_13 jo_14 tr_15 dy_16 sd_17 h_22, bPL g PL, bPTx g PT q_5.toNatClampNeg]) [3, 0, 1, 2, 4, 5] rfl rfl hP hD
    obtain ⟨PT_24, hp25, hP, hD⟩ := zclT (g := g) (A := A) [bMem g mo qT qL it il ig mh x_3 q_5 fT fL, bLog g go gr gz gn fr, bTown g o a pe_10 wo_11 tx_12 ch_13 jo_14 tr_15 dy_16 sd_17 h_22, bPL g PL] hi7 hPT hu19 ⟨hu20.1, hu20.2⟩ ⟨hu21.1, hu21.2⟩ rf_18 hP hD
    have hP : va_P g.1 vwCl (List.flatten [bMem g mo qT qL it il ig mh x_3 q_5 fT fL, bLog g go gr gz gn fr, bTown g o a pe_10 wo_11 tx_12 ch_13 jo_14 tr_15 dy_16 sd_17 h_22, bPL g PL, bPT g PT_24]) H := hP
    have hD : va_D A (List.flatten [bMem g mo qT qL it il ig mh x_3 q_5 fT fL, bLog g go gr gz gn fr, bTown g o a pe_10 wo_11 tx_12 ch_13 jo_14 tr_15 dy_16 sd_17 h_22, bPL g PL, bPT g PT_24]) := hD
    refine lv_aload_n hx hb dX4_recall_47 rfl (lv_at hl 2 rfl) ?_
    refine lv_aload_n hx hb dX4_recall_48 rfl (lv_at hl 0 rfl) ?_
    refine va_get (D := g.1) (ci := 4) (v := .ref qL) (C := RX4) (T := TX4) (N := 8) hx hb hts izRX4 hown hK hP 0 rfl rfl 1 (by decide) (hts _ k351) (fun _ h9 => h9) rfl dX4_recall_49 ?_
    refine lv_aload_n hx hb dX4_recall_52 rfl (lv_at hl 0 rfl) ?_
    refine va_get (D := g.1) (ci := 4) (v := .int q_5) (C := RX4) (T := TX4) (N := 8) hx hb hts izRX4 hown hK hP 0 rfl rfl 7 (by decide) (hts _ k361) (fun _ h9 => h9) rfl dX4_recall_53 ?_
    have hP : va_P g.1 vwCl (List.flatten [bMem g mo qT qL it il ig mh x_3 q_5 fT fL, bLog g go gr gz gn fr, bTown g o a pe_10 wo_11 tx_12 ch_13 jo_14 tr_15 dy_16 sd_17 h_22, bPL g PL, bPT g PT_24]) H := hP
    have hD : va_D A (List.flatten [bMem g mo qT qL it il ig mh x_3 q_5 fT fL, bLog g go gr gz gn fr, bTown g o a pe_10 wo_11 tx_12 ch_13 jo_14 tr_15 dy_16 sd_17 h_22, bPL g PL, bPT g PT_24]) := hD
    obtain ⟨hP, hD⟩ := zord (g := g) (Bs' := [bMem g mo qT qL it il ig mh x_3 q_5 fT fL, bLog g go gr gz gn fr, bTown g o a pe_10 wo_11 tx_12 ch_13 jo_14 tr_15 dy_16 sd_17 h_22, bPT g PT_24, bPL g PL]) [0, 1, 2, 4, 3] rfl rfl hP hD
    have hi26 : q_5.toNatClampNeg < 12 := by rw [zcl]; omega
    obtain ⟨go_27, gr_28, gz_29, gn_30, fr_31, hu32, hu33, hu34, hP, hD⟩ := zopL (g := g) (A := A) q_5.toNatClampNeg [bMem g mo qT qL it il ig mh x_3 q_5 fT fL, bLog g go gr gz gn fr, bTown g o a pe_10 wo_11 tx_12 ch_13 jo_14 tr_15 dy_16 sd_17 h_22, bPT g PT_24] hi26 hPL hP hD
    have hP : va_P g.1 vwCl (List.flatten [bLog g go_27 gr_28 gz_29 gn_30 fr_31, bMem g mo qT qL it il ig mh x_3 q_5 fT fL, bLog g go gr gz gn fr, bTown g o a pe_10 wo_11 tx_12 ch_13 jo_14 tr_15 dy_16 sd_17 h_22, bPT g PT_24, bPLx g PL q_5.toNatClampNeg]) H := hP
    have hD : va_D A (List.flatten [bLog g go_27 gr_28 gz_29 gn_30 fr_31, bMem g mo qT qL it il ig mh x_3 q_5 fT fL, bLog g go gr gz gn fr, bTown g o a pe_10 wo_11 tx_12 ch_13 jo_14 tr_15 dy_16 sd_17 h_22, bPT g PT_24, bPLx g PL q_5.toNatClampNeg]) := hD
    refine va_aldq hx hb hK hP 4 4 rfl rfl (zinK (a := 0) (b := 11) hq6.1 hq6.2 (by decide)) dX4_recall_56 ?_
    refine W.eq (g2 := F0 m 57 ls (.ref go_27 :: [.ref go])) (by rw [show fL (Int32.toNatClampNeg q_5) = some go_27 from hu32]; rfl) ?_
    refine mcallV' (g := g) (q0 := 0) (ci := 3) (As := [.ref go_27]) (rest := []) St hK hT hA hP hD hS hl.1 [2, 0] [1, 3, 4, 5] rfl rfl rfl (c_g_copyFrom l g go gr gz gn fr go_27 gr_28 gz_29 gn_30 fr_31 (⟨hu33.1, hu33.2⟩) (⟨hu34.1, hu34.2⟩)) (cwV 1 hts (zgL (zl4 k364 k365 k366 k123) k331) rfl rfl rfl (by decide +kernel) ⟨Nat.le_of_ble_eq_true rfl, Nat.le_of_ble_eq_true rfl⟩) rfl rfl rfl rfl (Nat.le_of_ble_eq_true rfl) dX4_recall_57 ⟨(Nat.le_of_ble_eq_true rfl), (Nat.le_of_ble_eq_true rfl)⟩ (fun h_35 H locs hq36 hP hD hS => ?_)
    have hP : va_P g.1 vwCl (List.flatten [bMem g mo qT qL it il ig mh x_3 q_5 fT fL, bTown g o a pe_10 wo_11 tx_12 ch_13 jo_14 tr_15 dy_16 sd_17 h_22, bPT g PT_24, bPLx g PL q_5.toNatClampNeg, bLog g go gr gz_29 gn_30 h_35, bLog g go_27 gr_28 gz_29 gn_30 fr_31]) H := hP
    have hD : va_D A (List.flatten [bMem g mo qT qL it il ig mh x_3 q_5 fT fL, bTown g o a pe_10 wo_11 tx_12 ch_13 jo_14 tr_15 dy_16 sd_17 h_22, bPT g PT_24, bPLx g PL q_5.toNatClampNeg, bLog g go gr gz_29 gn_30 h_35, bLog g go_27 gr_28 gz_29 gn_30 fr_31]) := hD
    refine W.widen (k := 0) (n := 0) (Nat.le_of_ble_eq_true rfl) (Nat.le_of_ble_eq_true rfl) ?_
    refine W.eq (g2 := F0 m 60 ls []) rfl ?_
    have hP : va_P g.1 vwCl (List.flatten [bMem g mo qT qL it il ig mh x_3 q_5 fT fL, bTown g o a pe_10 wo_11 tx_12 ch_13 jo_14 tr_15 dy_16 sd_17 h_22, bPT g PT_24, bPLx g PL q_5.toNatClampNeg, bLog g go gr gz_29 gn_30 h_35, bLog g go_27 gr_28 gz_29 gn_30 fr_31]) H := hP
    have hD : va_D A (List.flatten [bMem g mo qT qL it il ig mh x_3 q_5 fT fL, bTown g o a pe_10 wo_11 tx_12 ch_13 jo_14 tr_15 dy_16 sd_17 h_22, bPT g PT_24, bPLx g PL q_5.toNatClampNeg, bLog g go gr gz_29 gn_30 h_35, bLog g go_27 gr_28 gz_29 gn_30 fr_31]) := hD
    obtain ⟨hP, hD⟩ := zord (g := g) (Bs' := [bMem g mo qT qL it il ig mh x_3 q_5 fT fL, bTown g o a pe_10 wo_11 tx_12 ch_13 jo_14 tr_15 dy_16 sd_17 h_22, bLog g go gr gz_29 gn_30 h_35, bLog g go_27 gr_28 gz_29 gn_30 fr_31, bPT g PT_24, bPLx g PL q_5.toNatClampNeg]) [0, 1, 4, 5, 2, 3] rfl rfl hP hD
    have hP : va_P g.1 vwCl (List.flatten [bMem g mo qT qL it il ig mh x_3 q_5 fT fL, bTown g o a pe_10 wo_11 tx_12 ch_13 jo_14 tr_15 dy_16 sd_17 h_22, bLog g go gr gz_29 gn_30 h_35, bLog g go_27 gr_28 gz_29 gn_30 fr_31, bPT g PT_24, bPLx g PL q_5.toNatClampNeg]) H := hP
    have hD : va_D A (List.flatten [bMem g mo qT qL it il ig mh x_3 q_5 fT fL, bTown g o a pe_10 wo_11 tx_12 ch_13 jo_14 tr_15 dy_16 sd_17 h_22, bLog g go gr gz_29 gn_30 h_35, bLog g go_27 gr_28 gz_29 gn_30 fr_31, bPT g PT_24, bPLx g PL q_5.toNatClampNeg]) := hD
    obtain ⟨hP, hD⟩ := zord (g := g) (Bs' := [bLog g go_27 gr_28 gz_29 gn_30 fr_31, bMem g mo qT qL it il ig mh x_3 q_5 fT fL, bTown g o a pe_10 wo_11 tx_12 ch_13 jo_14 tr_15 dy_16 sd_17 h_22, bLog g go gr gz_29 gn_30 h_35, bPT g PT_24, bPLx g PL q_5.toNatClampNeg]) [3, 0, 1, 2, 4, 5] rfl rfl hP hD
    obtain ⟨PL_37, hp38, hP, hD⟩ := zclL (g := g) (A := A) [bMem g mo qT qL it il ig mh x_3 q_5 fT fL, bTown g o a pe_10 wo_11 tx_12 ch_13 jo_14 tr_15 dy_16 sd_17 h_22, bLog g go gr gz_29 gn_30 h_35, bPT g PT_24] hi26 hPL hu32 ⟨hu33.1, hu33.2⟩ ⟨hu34.1, hu34.2⟩ hP hD
    have hP : va_P g.1 vwCl (List.flatten [bMem g mo qT qL it il ig mh x_3 q_5 fT fL, bTown g o a pe_10 wo_11 tx_12 ch_13 jo_14 tr_15 dy_16 sd_17 h_22, bLog g go gr gz_29 gn_30 h_35, bPT g PT_24, bPL g PL_37]) H := hP
    have hD : va_D A (List.flatten [bMem g mo qT qL it il ig mh x_3 q_5 fT fL, bTown g o a pe_10 wo_11 tx_12 ch_13 jo_14 tr_15 dy_16 sd_17 h_22, bLog g go gr gz_29 gn_30 h_35, bPT g PT_24, bPL g PL_37]) := hD
    refine lv_iconst (v := 1) hx hb dX4_recall_60 (by decide) ?_
    have hP : va_P g.1 vwCl (List.flatten [bMem g mo qT qL it il ig mh x_3 q_5 fT fL, bTown g o a pe_10 wo_11 tx_12 ch_13 jo_14 tr_15 dy_16 sd_17 h_22, bLog g go gr gz_29 gn_30 h_35, bPT g PT_24, bPL g PL_37]) H := hP
    have hD : va_D A (List.flatten [bMem g mo qT qL it il ig mh x_3 q_5 fT fL, bTown g o a pe_10 wo_11 tx_12 ch_13 jo_14 tr_15 dy_16 sd_17 h_22, bLog g go gr gz_29 gn_30 h_35, bPT g PT_24, bPL g PL_37]) := hD
    exact mret_z hx hb hr hlocks hS (Nat.le_of_ble_eq_true rfl) (Nat.le_of_ble_eq_true rfl) dX4_recall_61 (x_3, q_5, pe_10, wo_11, tx_12, ch_13, jo_14, tr_15, dy_16, sd_17, h_22, gz_29, gn_30, h_35, PT_24, PL_37, (1 : Int32)) rfl (by decide) (show (0 ≤ x_3.toInt ∧ x_3.toInt ≤ 12) ∧ (0 ≤ q_5.toInt ∧ q_5.toInt ≤ 11) ∧ (0 ≤ pe_10.toInt ∧ pe_10.toInt ≤ 8) ∧ (0 ≤ wo_11.toInt ∧ wo_11.toInt ≤ 6) ∧ (zZ4 h_22) ∧ (0 ≤ gz_29.toInt ∧ gz_29.toInt ≤ 60) ∧ (0 ≤ gn_30.toInt ∧ gn_30.toInt ≤ 59) ∧ (zPT fT PT_24) ∧ (zPL fL PL_37) ∧ (1 = 0 ∨ 1 = 1) from ⟨(by first | assumption | omega | decide | exact rfl | exact zb01 (by omega) | exact Or.inl (by decide) | exact Or.inr (by first | omega | decide)), hq6, (by first | assumption | omega | decide | exact rfl | exact zb01 (by omega) | exact Or.inl (by decide) | exact Or.inr (by first | omega | decide)), (by first | assumption | omega | decide | exact rfl | exact zb01 (by omega) | exact Or.inl (by decide) | exact Or.inr (by first | omega | decide)), rh_22, (by first | assumption | omega | decide | exact rfl | exact zb01 (by omega) | exact Or.inl (by decide) | exact Or.inr (by first | omega | decide)), (by first | assumption | omega | decide | exact rfl | exact zb01 (by omega) | exact Or.inl (by decide) | exact Or.inr (by first | omega | decide)), hp25, hp38, (by decide)⟩) hP hD
  · skip
    have c39 : me.toInt = 0 := zeq cb9 rfl (by decide)
    have n40 : me.toInt ≤ 0 := Int.le_trans (Int.le_of_eq c39) (Int.le_refl _)
    refine lv_iconst (v := 0) hx hb dX4_recall_7 (by decide) ?_
    have hP : va_P g.1 vwCl (List.flatten [bMem g mo qT qL it il ig mh me mx fT fL, bTown g o a pe wo tx ch jo tr dy sd f, bLog g go gr gz gn fr, bPT g PT, bPL g PL]) s.heap := hP
    have hD : va_D A (List.flatten [bMem g mo qT qL it il ig mh me mx fT fL, bTown g o a pe wo tx ch jo tr dy sd f, bLog g go gr gz gn fr, bPT g PT, bPL g PL]) := hD
    exact mret_z hx hb hr hlocks hS (Nat.le_of_ble_eq_true rfl) (Nat.le_of_ble_eq_true rfl) dX4_recall_8 (me, mx, pe, wo, tx, ch, jo, tr, dy, sd, f, gz, gn, fr, PT, PL, (0 : Int32)) rfl (by decide) (show (0 ≤ me.toInt ∧ me.toInt ≤ 12) ∧ (0 ≤ mx.toInt ∧ mx.toInt ≤ 11) ∧ (0 ≤ pe.toInt ∧ pe.toInt ≤ 8) ∧ (0 ≤ wo.toInt ∧ wo.toInt ≤ 6) ∧ (zZ4 f) ∧ (0 ≤ gz.toInt ∧ gz.toInt ≤ 60) ∧ (0 ≤ gn.toInt ∧ gn.toInt ≤ 59) ∧ (zPT fT PT) ∧ (zPL fL PL) ∧ (0 = 0 ∨ 0 = 1) from ⟨b_me, b_mx, b_pe, b_wo, rf, b_gz, b_gn, hPT, hPL, (by decide)⟩) hP hD
set_option maxRecDepth 100000 in
set_option maxHeartbeats 4000000 in
theorem c_m_keepImage (l : Launch) (g : zG) (mo : Nat) (qT : Nat) (qL : Nat) (it : Nat) (il : Nat) (ig : Nat) (mh : Int32) (me : Int32) (mx : Int32) (fT : Nat → Option Nat) (fL : Nat → Option Nat) (o : Nat) (a : Nat → Nat) (pe : Int32) (wo : Int32) (tx : Int32) (ch : Int32) (jo : Int32) (tr : Int32) (dy : Int32) (sd : Int32) (f : Nat → Nat → Int32) (lo : Nat) (lc : Nat) (lz : Int32) (ll : Int32) (lm : Int32) (lg : Int32) (ld : Int32) (fc : Nat → Int32) (go : Nat) (gr : Nat) (gz : Int32) (gn : Int32) (fr : Nat → Int32) (aI : Nat → Nat) (peI : Int32) (woI : Int32) (txI : Int32) (chI : Int32) (joI : Int32) (trI : Int32) (dyI : Int32) (sdI : Int32) (fI : Nat → Nat → Int32) (lcI : Nat) (lzI : Int32) (llI : Int32) (lmI : Int32) (lgI : Int32) (ldI : Int32) (fcI : Nat → Int32) (grI : Nat) (gzI : Int32) (gnI : Int32) (frI : Nat → Int32) (b_pe : 0 ≤ pe.toInt ∧ pe.toInt ≤ 8) (b_wo : 0 ≤ wo.toInt ∧ wo.toInt ≤ 6) (rf : zZ4 f) (b_lz : 0 ≤ lz.toInt ∧ lz.toInt ≤ 400) (b_gz : 0 ≤ gz.toInt ∧ gz.toInt ≤ 60) (b_gn : 0 ≤ gn.toInt ∧ gn.toInt ≤ 59) : zM' g l yX4_keepImage (Cond.code yX4_keepImage cX4_keepImage 4 none :: zB) ({ frames := 2, cells := 0, slots := 0, locals := 61 } : Room) [.ref mo, .ref o, .ref lo, .ref go] [bMem g mo qT qL it il ig mh me mx fT fL, bTown g o a pe wo tx ch jo tr dy sd f, bLaw g lo lc lz ll lm lg ld fc, bLog g go gr gz gn fr, bTown g it aI peI woI txI chI joI trI dyI sdI fI, bLaw g il lcI lzI llI lmI lgI ldI fcI, bLog g ig grI gzI gnI frI] (fun u : Int32 × Int32 × Int32 × Int32 × Int32 × Int32 × Int32 × Int32 × (Nat → Nat → Int32) × Int32 × Int32 × (Nat → Int32) × Int32 × Int32 × (Nat → Int32) => (fun (peI2 : Int32) (woI2 : Int32) (txI2 : Int32) (chI2 : Int32) (joI2 : Int32) (trI2 : Int32) (dyI2 : Int32) (sdI2 : Int32) (fI2 : Nat → Nat → Int32) (lzI2 : Int32) (llI2 : Int32) (fcI2 : Nat → Int32) (gzI2 : Int32) (gnI2 : Int32) (frI2 : Nat → Int32) => none) (u.1) (u.2.1) (u.2.2.1) (u.2.2.2.1) (u.2.2.2.2.1) (u.2.2.2.2.2.1) (u.2.2.2.2.2.2.1) (u.2.2.2.2.2.2.2.1) (u.2.2.2.2.2.2.2.2.1) (u.2.2.2.2.2.2.2.2.2.1) (u.2.2.2.2.2.2.2.2.2.2.1) (u.2.2.2.2.2.2.2.2.2.2.2.1) (u.2.2.2.2.2.2.2.2.2.2.2.2.1) (u.2.2.2.2.2.2.2.2.2.2.2.2.2.1) (u.2.2.2.2.2.2.2.2.2.2.2.2.2.2)) (fun u : Int32 × Int32 × Int32 × Int32 × Int32 × Int32 × Int32 × Int32 × (Nat → Nat → Int32) × Int32 × Int32 × (Nat → Int32) × Int32 × Int32 × (Nat → Int32) => (fun (peI2 : Int32) (woI2 : Int32) (txI2 : Int32) (chI2 : Int32) (joI2 : Int32) (trI2 : Int32) (dyI2 : Int32) (sdI2 : Int32) (fI2 : Nat → Nat → Int32) (lzI2 : Int32) (llI2 : Int32) (fcI2 : Nat → Int32) (gzI2 : Int32) (gnI2 : Int32) (frI2 : Nat → Int32) => (0 ≤ peI2.toInt ∧ peI2.toInt ≤ 8) ∧ (0 ≤ woI2.toInt ∧ woI2.toInt ≤ 6) ∧ (zZ4 fI2) ∧ (0 ≤ lzI2.toInt ∧ lzI2.toInt ≤ 400) ∧ (0 ≤ gzI2.toInt ∧ gzI2.toInt ≤ 60) ∧ (0 ≤ gnI2.toInt ∧ gnI2.toInt ≤ 59)) (u.1) (u.2.1) (u.2.2.1) (u.2.2.2.1) (u.2.2.2.2.1) (u.2.2.2.2.2.1) (u.2.2.2.2.2.2.1) (u.2.2.2.2.2.2.2.1) (u.2.2.2.2.2.2.2.2.1) (u.2.2.2.2.2.2.2.2.2.1) (u.2.2.2.2.2.2.2.2.2.2.1) (u.2.2.2.2.2.2.2.2.2.2.2.1) (u.2.2.2.2.2.2.2.2.2.2.2.2.1) (u.2.2.2.2.2.2.2.2.2.2.2.2.2.1) (u.2.2.2.2.2.2.2.2.2.2.2.2.2.2)) (fun u : Int32 × Int32 × Int32 × Int32 × Int32 × Int32 × Int32 × Int32 × (Nat → Nat → Int32) × Int32 × Int32 × (Nat → Int32) × Int32 × Int32 × (Nat → Int32) => (fun (peI2 : Int32) (woI2 : Int32) (txI2 : Int32) (chI2 : Int32) (joI2 : Int32) (trI2 : Int32) (dyI2 : Int32) (sdI2 : Int32) (fI2 : Nat → Nat → Int32) (lzI2 : Int32) (llI2 : Int32) (fcI2 : Nat → Int32) (gzI2 : Int32) (gnI2 : Int32) (frI2 : Nat → Int32) => [bMem g mo qT qL it il ig 1 me mx fT fL, bTown g o a pe wo tx ch jo tr dy sd f, bLaw g lo lc lz ll lm lg ld fc, bLog g go gr gz gn fr, bTown g it aI peI2 woI2 txI2 chI2 joI2 trI2 dyI2 sdI2 fI2, bLaw g il lcI lzI2 llI2 lmI lgI ldI fcI2, bLog g ig grI gzI2 gnI2 frI2]) (u.1) (u.2.1) (u.2.2.1) (u.2.2.2.1) (u.2.2.2.2.1) (u.2.2.2.2.2.1) (u.2.2.2.2.2.2.1) (u.2.2.2.2.2.2.2.1) (u.2.2.2.2.2.2.2.2.1) (u.2.2.2.2.2.2.2.2.2.1) (u.2.2.2.2.2.2.2.2.2.2.1) (u.2.2.2.2.2.2.2.2.2.2.2.1) (u.2.2.2.2.2.2.2.2.2.2.2.2.1) (u.2.2.2.2.2.2.2.2.2.2.2.2.2.1) (u.2.2.2.2.2.2.2.2.2.2.2.2.2.2)) := by
  refine zM'.of (cc := cX4_keepImage) (maxL := 4) (rt := none) (by decide) rfl (Nat.le_of_ble_eq_true rfl) ?_
  intro p e s m args below meth c A ls St hr hlocks hin hK hT hA hP hD hS hl
  obtain ⟨hx, hb, hml, hown, hts⟩ := id St
  have hl : lv_has ls 4 [(0, .ref mo), (1, .ref o), (2, .ref lo), (3, .ref go)] := hl
  refine lv_aload_n hx hb dX4_keepImage_0 rfl (lv_at hl 0 rfl) ?_
  refine va_get (D := g.1) (ci := 4) (v := .ref it) (C := RX4) (T := TX4) (N := 8) hx hb hts izRX4 hown hK hP 0 rfl rfl 2 (by decide) (hts _ k352) (fun _ h9 => h9) rfl dX4_keepImage_1 ?_
  refine lv_aload_n hx hb dX4_keepImage_4 rfl (lv_at hl 1 rfl) ?_
  refine mcallV' (g := g) (q0 := 0) (ci := 7) (As := [.ref o]) (rest := []) St hK hT hA hP hD hS hl.1 [4, 1] [0, 2, 3, 5, 6] rfl rfl rfl (c_copyFrom l g it aI peI woI txI chI joI trI dyI sdI fI o a pe wo tx ch jo tr dy sd f b_pe b_wo rf) (cwV 1 hts (zgL (zl4 k363 k157 k158 k24) k30) rfl rfl rfl (by decide +kernel) ⟨Nat.le_of_ble_eq_true rfl, Nat.le_of_ble_eq_true rfl⟩) rfl rfl rfl rfl (Nat.le_of_ble_eq_true rfl) dX4_keepImage_5 ⟨(Nat.le_of_ble_eq_true rfl), (Nat.le_of_ble_eq_true rfl)⟩ (fun h_1 H locs hq2 hP hD hS => ?_)
  replace hq2 : (zZ4 h_1) := hq2
  have hP : va_P g.1 vwCl (List.flatten [bMem g mo qT qL it il ig mh me mx fT fL, bLaw g lo lc lz ll lm lg ld fc, bLog g go gr gz gn fr, bLaw g il lcI lzI llI lmI lgI ldI fcI, bLog g ig grI gzI gnI frI, bTown g it aI pe wo tx ch jo tr dy sd h_1, bTown g o a pe wo tx ch jo tr dy sd f]) H := hP
  have hD : va_D A (List.flatten [bMem g mo qT qL it il ig mh me mx fT fL, bLaw g lo lc lz ll lm lg ld fc, bLog g go gr gz gn fr, bLaw g il lcI lzI llI lmI lgI ldI fcI, bLog g ig grI gzI gnI frI, bTown g it aI pe wo tx ch jo tr dy sd h_1, bTown g o a pe wo tx ch jo tr dy sd f]) := hD
  refine W.widen (k := 0) (n := 0) (Nat.le_of_ble_eq_true rfl) (Nat.le_of_ble_eq_true rfl) ?_
  refine W.eq (g2 := F0 m 8 ls []) rfl ?_
  have rh_1 := hq2; clear hq2
  refine lv_aload_n hx hb dX4_keepImage_8 rfl (lv_at hl 0 rfl) ?_
  refine va_get (D := g.1) (ci := 4) (v := .ref il) (C := RX4) (T := TX4) (N := 8) hx hb hts izRX4 hown hK hP 0 rfl rfl 3 (by decide) (hts _ k354) (fun _ h9 => h9) rfl dX4_keepImage_9 ?_
  refine lv_aload_n hx hb dX4_keepImage_12 rfl (lv_at hl 2 rfl) ?_
  refine mcallV' (g := g) (q0 := 0) (ci := 1) (As := [.ref lo]) (rest := []) St hK hT hA hP hD hS hl.1 [3, 1] [0, 2, 4, 5, 6] rfl rfl rfl (c_l_copyFrom l g il lcI lzI llI lmI lgI ldI fcI lo lc lz ll lm lg ld fc b_lz) (cwV 1 hts (zgL (zl4 k371 k372 k373 k85) k200) rfl rfl rfl (by decide +kernel) ⟨Nat.le_of_ble_eq_true rfl, Nat.le_of_ble_eq_true rfl⟩) rfl rfl rfl rfl (Nat.le_of_ble_eq_true rfl) dX4_keepImage_13 ⟨(Nat.le_of_ble_eq_true rfl), (Nat.le_of_ble_eq_true rfl)⟩ (fun h_3 H locs hq4 hP hD hS => ?_)
  have hP : va_P g.1 vwCl (List.flatten [bMem g mo qT qL it il ig mh me mx fT fL, bLog g go gr gz gn fr, bLog g ig grI gzI gnI frI, bTown g it aI pe wo tx ch jo tr dy sd h_1, bTown g o a pe wo tx ch jo tr dy sd f, bLaw g il lcI lz ll lmI lgI ldI h_3, bLaw g lo lc lz ll lm lg ld fc]) H := hP
  have hD : va_D A (List.flatten [bMem g mo qT qL it il ig mh me mx fT fL, bLog g go gr gz gn fr, bLog g ig grI gzI gnI frI, bTown g it aI pe wo tx ch jo tr dy sd h_1, bTown g o a pe wo tx ch jo tr dy sd f, bLaw g il lcI lz ll lmI lgI ldI h_3, bLaw g lo lc lz ll lm lg ld fc]) := hD
  refine W.widen (k := 0) (n := 0) (Nat.le_of_ble_eq_true rfl) (Nat.le_of_ble_eq_true rfl) ?_
  refine W.eq (g2 := F0 m 16 ls []) rfl ?_
  refine lv_aload_n hx hb dX4_keepImage_16 rfl (lv_at hl 0 rfl) ?_
  refine va_get (D := g.1) (ci := 4) (v := .ref ig) (C := RX4) (T := TX4) (N := 8) hx hb hts izRX4 hown hK hP 0 rfl rfl 4 (by decide) (hts _ k356) (fun _ h9 => h9) rfl dX4_keepImage_17 ?_
  refine lv_aload_n hx hb dX4_keepImage_20 rfl (lv_at hl 3 rfl) ?_
  refine mcallV' (g := g) (q0 := 0) (ci := 3) (As := [.ref go]) (rest := []) St hK hT hA hP hD hS hl.1 [2, 1] [0, 3, 4, 5, 6] rfl rfl rfl (c_g_copyFrom l g ig grI gzI gnI frI go gr gz gn fr b_gz b_gn) (cwV 1 hts (zgL (zl4 k364 k365 k366 k123) k331) rfl rfl rfl (by decide +kernel) ⟨Nat.le_of_ble_eq_true rfl, Nat.le_of_ble_eq_true rfl⟩) rfl rfl rfl rfl (Nat.le_of_ble_eq_true rfl) dX4_keepImage_21 ⟨(Nat.le_of_ble_eq_true rfl), (Nat.le_of_ble_eq_true rfl)⟩ (fun h_5 H locs hq6 hP hD hS => ?_)
  have hP : va_P g.1 vwCl (List.flatten [bMem g mo qT qL it il ig mh me mx fT fL, bTown g it aI pe wo tx ch jo tr dy sd h_1, bTown g o a pe wo tx ch jo tr dy sd f, bLaw g il lcI lz ll lmI lgI ldI h_3, bLaw g lo lc lz ll lm lg ld fc, bLog g ig grI gz gn h_5, bLog g go gr gz gn fr]) H := hP
  have hD : va_D A (List.flatten [bMem g mo qT qL it il ig mh me mx fT fL, bTown g it aI pe wo tx ch jo tr dy sd h_1, bTown g o a pe wo tx ch jo tr dy sd f, bLaw g il lcI lz ll lmI lgI ldI h_3, bLaw g lo lc lz ll lm lg ld fc, bLog g ig grI gz gn h_5, bLog g go gr gz gn fr]) := hD
  refine W.widen (k := 0) (n := 0) (Nat.le_of_ble_eq_true rfl) (Nat.le_of_ble_eq_true rfl) ?_
  refine W.eq (g2 := F0 m 24 ls []) rfl ?_
  refine lv_aload_n hx hb dX4_keepImage_24 rfl (lv_at hl 0 rfl) ?_
  refine lv_iconst (v := 1) hx hb dX4_keepImage_25 (by decide) ?_
  refine va_put (D := g.1) (ci := 4) (v := .int 1) (ty := .boolean) (C := RX4) (T := TX4) (N := 8) hx hb hts izRX4 tyX4 tyX4_ok nmX4 hown hK hP hD hS 0 rfl rfl 5 (by decide) (hts _ k370) (fun _ h9 => h9) rfl (by decide +kernel) rfl rfl (Nat.le_of_ble_eq_true rfl) dX4_keepImage_26 (fun H locs hP hD hS => ?_)
  have hP : va_P g.1 vwCl (List.flatten [bMem g mo qT qL it il ig 1 me mx fT fL, bTown g it aI pe wo tx ch jo tr dy sd h_1, bTown g o a pe wo tx ch jo tr dy sd f, bLaw g il lcI lz ll lmI lgI ldI h_3, bLaw g lo lc lz ll lm lg ld fc, bLog g ig grI gz gn h_5, bLog g go gr gz gn fr]) H := hP
  have hD : va_D A (List.flatten [bMem g mo qT qL it il ig 1 me mx fT fL, bTown g it aI pe wo tx ch jo tr dy sd h_1, bTown g o a pe wo tx ch jo tr dy sd f, bLaw g il lcI lz ll lmI lgI ldI h_3, bLaw g lo lc lz ll lm lg ld fc, bLog g ig grI gz gn h_5, bLog g go gr gz gn fr]) := hD
  have hP : va_P g.1 vwCl (List.flatten [bMem g mo qT qL it il ig 1 me mx fT fL, bTown g it aI pe wo tx ch jo tr dy sd h_1, bTown g o a pe wo tx ch jo tr dy sd f, bLaw g il lcI lz ll lmI lgI ldI h_3, bLaw g lo lc lz ll lm lg ld fc, bLog g ig grI gz gn h_5, bLog g go gr gz gn fr]) H := hP
  have hD : va_D A (List.flatten [bMem g mo qT qL it il ig 1 me mx fT fL, bTown g it aI pe wo tx ch jo tr dy sd h_1, bTown g o a pe wo tx ch jo tr dy sd f, bLaw g il lcI lz ll lmI lgI ldI h_3, bLaw g lo lc lz ll lm lg ld fc, bLog g ig grI gz gn h_5, bLog g go gr gz gn fr]) := hD
  obtain ⟨hP, hD⟩ := zord (g := g) (Bs' := [bMem g mo qT qL it il ig 1 me mx fT fL, bTown g o a pe wo tx ch jo tr dy sd f, bLaw g lo lc lz ll lm lg ld fc, bLog g go gr gz gn fr, bTown g it aI pe wo tx ch jo tr dy sd h_1, bLaw g il lcI lz ll lmI lgI ldI h_3, bLog g ig grI gz gn h_5]) [0, 2, 4, 6, 1, 3, 5] rfl rfl hP hD
  exact mret_v hx hb hr hlocks hS (Nat.le_of_ble_eq_true rfl) (Nat.le_of_ble_eq_true rfl) dX4_keepImage_29 (pe, wo, tx, ch, jo, tr, dy, sd, h_1, lz, ll, h_3, gz, gn, h_5) rfl (show (0 ≤ pe.toInt ∧ pe.toInt ≤ 8) ∧ (0 ≤ wo.toInt ∧ wo.toInt ≤ 6) ∧ (zZ4 h_1) ∧ (0 ≤ lz.toInt ∧ lz.toInt ≤ 400) ∧ (0 ≤ gz.toInt ∧ gz.toInt ≤ 60) ∧ (0 ≤ gn.toInt ∧ gn.toInt ≤ 59) from ⟨b_pe, b_wo, rh_1, b_lz, b_gz, b_gn⟩) hP hD
set_option maxRecDepth 100000 in
set_option maxHeartbeats 4000000 in
theorem c_m_giveBackImage (l : Launch) (g : zG) (mo : Nat) (qT : Nat) (qL : Nat) (it : Nat) (il : Nat) (ig : Nat) (mh : Int32) (me : Int32) (mx : Int32) (fT : Nat → Option Nat) (fL : Nat → Option Nat) (o : Nat) (a : Nat → Nat) (pe : Int32) (wo : Int32) (tx : Int32) (ch : Int32) (jo : Int32) (tr : Int32) (dy : Int32) (sd : Int32) (f : Nat → Nat → Int32) (lo : Nat) (lc : Nat) (lz : Int32) (ll : Int32) (lm : Int32) (lg : Int32) (ld : Int32) (fc : Nat → Int32) (go : Nat) (gr : Nat) (gz : Int32) (gn : Int32) (fr : Nat → Int32) (aI : Nat → Nat) (peI : Int32) (woI : Int32) (txI : Int32) (chI : Int32) (joI : Int32) (trI : Int32) (dyI : Int32) (sdI : Int32) (fI : Nat → Nat → Int32) (lcI : Nat) (lzI : Int32) (llI : Int32) (lmI : Int32) (lgI : Int32) (ldI : Int32) (fcI : Nat → Int32) (grI : Nat) (gzI : Int32) (gnI : Int32) (frI : Nat → Int32) (b_me : 0 ≤ me.toInt ∧ me.toInt ≤ 12) (b_mx : 0 ≤ mx.toInt ∧ mx.toInt ≤ 11) (b_pe : 0 ≤ pe.toInt ∧ pe.toInt ≤ 8) (b_wo : 0 ≤ wo.toInt ∧ wo.toInt ≤ 6) (rf : zZ4 f) (b_lz : 0 ≤ lz.toInt ∧ lz.toInt ≤ 400) (b_gz : 0 ≤ gz.toInt ∧ gz.toInt ≤ 60) (b_gn : 0 ≤ gn.toInt ∧ gn.toInt ≤ 59) (b_peI : 0 ≤ peI.toInt ∧ peI.toInt ≤ 8) (b_woI : 0 ≤ woI.toInt ∧ woI.toInt ≤ 6) (rfI : zZ4 fI) (b_lzI : 0 ≤ lzI.toInt ∧ lzI.toInt ≤ 400) (b_gzI : 0 ≤ gzI.toInt ∧ gzI.toInt ≤ 60) (b_gnI : 0 ≤ gnI.toInt ∧ gnI.toInt ≤ 59) : zM' g l yX4_giveBackImage (Cond.code yX4_giveBackImage cX4_giveBackImage 4 (some .boolean) :: zB) ({ frames := 2, cells := 0, slots := 0, locals := 61 } : Room) [.ref mo, .ref o, .ref lo, .ref go] [bMem g mo qT qL it il ig mh me mx fT fL, bTown g o a pe wo tx ch jo tr dy sd f, bLaw g lo lc lz ll lm lg ld fc, bLog g go gr gz gn fr, bTown g it aI peI woI txI chI joI trI dyI sdI fI, bLaw g il lcI lzI llI lmI lgI ldI fcI, bLog g ig grI gzI gnI frI] (fun u : Int32 × Int32 × Int32 × Int32 × Int32 × Int32 × Int32 × Int32 × Int32 × (Nat → Nat → Int32) × Int32 × Int32 × (Nat → Int32) × Int32 × Int32 × (Nat → Int32) × Int32 => (fun (me2 : Int32) (pe2 : Int32) (wo2 : Int32) (tx2 : Int32) (ch2 : Int32) (jo2 : Int32) (tr2 : Int32) (dy2 : Int32) (sd2 : Int32) (f2 : Nat → Nat → Int32) (lz2 : Int32) (ll2 : Int32) (fc2 : Nat → Int32) (gz2 : Int32) (gn2 : Int32) (fr2 : Nat → Int32) (q : Int32) => some (.int q)) (u.1) (u.2.1) (u.2.2.1) (u.2.2.2.1) (u.2.2.2.2.1) (u.2.2.2.2.2.1) (u.2.2.2.2.2.2.1) (u.2.2.2.2.2.2.2.1) (u.2.2.2.2.2.2.2.2.1) (u.2.2.2.2.2.2.2.2.2.1) (u.2.2.2.2.2.2.2.2.2.2.1) (u.2.2.2.2.2.2.2.2.2.2.2.1) (u.2.2.2.2.2.2.2.2.2.2.2.2.1) (u.2.2.2.2.2.2.2.2.2.2.2.2.2.1) (u.2.2.2.2.2.2.2.2.2.2.2.2.2.2.1) (u.2.2.2.2.2.2.2.2.2.2.2.2.2.2.2.1) (u.2.2.2.2.2.2.2.2.2.2.2.2.2.2.2.2)) (fun u : Int32 × Int32 × Int32 × Int32 × Int32 × Int32 × Int32 × Int32 × Int32 × (Nat → Nat → Int32) × Int32 × Int32 × (Nat → Int32) × Int32 × Int32 × (Nat → Int32) × Int32 => (fun (me2 : Int32) (pe2 : Int32) (wo2 : Int32) (tx2 : Int32) (ch2 : Int32) (jo2 : Int32) (tr2 : Int32) (dy2 : Int32) (sd2 : Int32) (f2 : Nat → Nat → Int32) (lz2 : Int32) (ll2 : Int32) (fc2 : Nat → Int32) (gz2 : Int32) (gn2 : Int32) (fr2 : Nat → Int32) (q : Int32) => (0 ≤ me2.toInt ∧ me2.toInt ≤ 12) ∧ (0 ≤ pe2.toInt ∧ pe2.toInt ≤ 8) ∧ (0 ≤ wo2.toInt ∧ wo2.toInt ≤ 6) ∧ (zZ4 f2) ∧ (0 ≤ lz2.toInt ∧ lz2.toInt ≤ 400) ∧ (0 ≤ gz2.toInt ∧ gz2.toInt ≤ 60) ∧ (0 ≤ gn2.toInt ∧ gn2.toInt ≤ 59) ∧ (q = 0 ∨ q = 1)) (u.1) (u.2.1) (u.2.2.1) (u.2.2.2.1) (u.2.2.2.2.1) (u.2.2.2.2.2.1) (u.2.2.2.2.2.2.1) (u.2.2.2.2.2.2.2.1) (u.2.2.2.2.2.2.2.2.1) (u.2.2.2.2.2.2.2.2.2.1) (u.2.2.2.2.2.2.2.2.2.2.1) (u.2.2.2.2.2.2.2.2.2.2.2.1) (u.2.2.2.2.2.2.2.2.2.2.2.2.1) (u.2.2.2.2.2.2.2.2.2.2.2.2.2.1) (u.2.2.2.2.2.2.2.2.2.2.2.2.2.2.1) (u.2.2.2.2.2.2.2.2.2.2.2.2.2.2.2.1) (u.2.2.2.2.2.2.2.2.2.2.2.2.2.2.2.2)) (fun u : Int32 × Int32 × Int32 × Int32 × Int32 × Int32 × Int32 × Int32 × Int32 × (Nat → Nat → Int32) × Int32 × Int32 × (Nat → Int32) × Int32 × Int32 × (Nat → Int32) × Int32 => (fun (me2 : Int32) (pe2 : Int32) (wo2 : Int32) (tx2 : Int32) (ch2 : Int32) (jo2 : Int32) (tr2 : Int32) (dy2 : Int32) (sd2 : Int32) (f2 : Nat → Nat → Int32) (lz2 : Int32) (ll2 : Int32) (fc2 : Nat → Int32) (gz2 : Int32) (gn2 : Int32) (fr2 : Nat → Int32) (q : Int32) => [bMem g mo qT qL it il ig mh me2 mx fT fL, bTown g o a pe2 wo2 tx2 ch2 jo2 tr2 dy2 sd2 f2, bLaw g lo lc lz2 ll2 lm lg ld fc2, bLog g go gr gz2 gn2 fr2, bTown g it aI peI woI txI chI joI trI dyI sdI fI, bLaw g il lcI lzI llI lmI lgI ldI fcI, bLog g ig grI gzI gnI frI]) (u.1) (u.2.1) (u.2.2.1) (u.2.2.2.1) (u.2.2.2.2.1) (u.2.2.2.2.2.1) (u.2.2.2.2.2.2.1) (u.2.2.2.2.2.2.2.1) (u.2.2.2.2.2.2.2.2.1) (u.2.2.2.2.2.2.2.2.2.1) (u.2.2.2.2.2.2.2.2.2.2.1) (u.2.2.2.2.2.2.2.2.2.2.2.1) (u.2.2.2.2.2.2.2.2.2.2.2.2.1) (u.2.2.2.2.2.2.2.2.2.2.2.2.2.1) (u.2.2.2.2.2.2.2.2.2.2.2.2.2.2.1) (u.2.2.2.2.2.2.2.2.2.2.2.2.2.2.2.1) (u.2.2.2.2.2.2.2.2.2.2.2.2.2.2.2.2)) := by
  refine zM'.of (cc := cX4_giveBackImage) (maxL := 4) (rt := (some .boolean)) (by decide) rfl (Nat.le_of_ble_eq_true rfl) ?_
  intro p e s m args below meth c A ls St hr hlocks hin hK hT hA hP hD hS hl
  obtain ⟨hx, hb, hml, hown, hts⟩ := id St
  have hl : lv_has ls 4 [(0, .ref mo), (1, .ref o), (2, .ref lo), (3, .ref go)] := hl
  refine lv_aload_n hx hb dX4_giveBackImage_0 rfl (lv_at hl 0 rfl) ?_
  refine va_get (D := g.1) (ci := 4) (v := .int mh) (C := RX4) (T := TX4) (N := 8) hx hb hts izRX4 hown hK hP 0 rfl rfl 5 (by decide) (hts _ k370) (fun _ h9 => h9) rfl dX4_giveBackImage_1 ?_
  refine lv_if_ne (tgt := 9) hx hb dX4_giveBackImage_4 (by decide) (fun cb9 => ?_) (fun cb9 => ?_)
  · skip
    have c1 : ¬ mh.toInt = 0 := zne cb9 rfl (by decide)
    refine lv_aload_n hx hb dX4_giveBackImage_9 rfl (lv_at hl 1 rfl) ?_
    refine lv_aload_n hx hb dX4_giveBackImage_10 rfl (lv_at hl 0 rfl) ?_
    refine va_get (D := g.1) (ci := 4) (v := .ref it) (C := RX4) (T := TX4) (N := 8) hx hb hts izRX4 hown hK hP 0 rfl rfl 2 (by decide) (hts _ k352) (fun _ h9 => h9) rfl dX4_giveBackImage_11 ?_
    refine mcallV' (g := g) (q0 := 0) (ci := 7) (As := [.ref it]) (rest := []) St hK hT hA hP hD hS hl.1 [1, 4] [0, 2, 3, 5, 6] rfl rfl rfl (c_copyFrom l g o a pe wo tx ch jo tr dy sd f it aI peI woI txI chI joI trI dyI sdI fI b_peI b_woI rfI) (cwV 1 hts (zgL (zl4 k363 k157 k158 k24) k30) rfl rfl rfl (by decide +kernel) ⟨Nat.le_of_ble_eq_true rfl, Nat.le_of_ble_eq_true rfl⟩) rfl rfl rfl rfl (Nat.le_of_ble_eq_true rfl) dX4_giveBackImage_14 ⟨(Nat.le_of_ble_eq_true rfl), (Nat.le_of_ble_eq_true rfl)⟩ (fun h_2 H locs hq3 hP hD hS => ?_)
    replace hq3 : (zZ4 h_2) := hq3
    have hP : va_P g.1 vwCl (List.flatten [bMem g mo qT qL it il ig mh me mx fT fL, bLaw g lo lc lz ll lm lg ld fc, bLog g go gr gz gn fr, bLaw g il lcI lzI llI lmI lgI ldI fcI, bLog g ig grI gzI gnI frI, bTown g o a peI woI txI chI joI trI dyI sdI h_2, bTown g it aI peI woI txI chI joI trI dyI sdI fI]) H := hP
    have hD : va_D A (List.flatten [bMem g mo qT qL it il ig mh me mx fT fL, bLaw g lo lc lz ll lm lg ld fc, bLog g go gr gz gn fr, bLaw g il lcI lzI llI lmI lgI ldI fcI, bLog g ig grI gzI gnI frI, bTown g o a peI woI txI chI joI trI dyI sdI h_2, bTown g it aI peI woI txI chI joI trI dyI sdI fI]) := hD
    refine W.widen (k := 0) (n := 0) (Nat.le_of_ble_eq_true rfl) (Nat.le_of_ble_eq_true rfl) ?_
    refine W.eq (g2 := F0 m 17 ls []) rfl ?_
    have rh_2 := hq3; clear hq3
    refine lv_aload_n hx hb dX4_giveBackImage_17 rfl (lv_at hl 2 rfl) ?_
    refine lv_aload_n hx hb dX4_giveBackImage_18 rfl (lv_at hl 0 rfl) ?_
    refine va_get (D := g.1) (ci := 4) (v := .ref il) (C := RX4) (T := TX4) (N := 8) hx hb hts izRX4 hown hK hP 0 rfl rfl 3 (by decide) (hts _ k354) (fun _ h9 => h9) rfl dX4_giveBackImage_19 ?_
    refine mcallV' (g := g) (q0 := 0) (ci := 1) (As := [.ref il]) (rest := []) St hK hT hA hP hD hS hl.1 [1, 3] [0, 2, 4, 5, 6] rfl rfl rfl (c_l_copyFrom l g lo lc lz ll lm lg ld fc il lcI lzI llI lmI lgI ldI fcI b_lzI) (cwV 1 hts (zgL (zl4 k371 k372 k373 k85) k200) rfl rfl rfl (by decide +kernel) ⟨Nat.le_of_ble_eq_true rfl, Nat.le_of_ble_eq_true rfl⟩) rfl rfl rfl rfl (Nat.le_of_ble_eq_true rfl) dX4_giveBackImage_22 ⟨(Nat.le_of_ble_eq_true rfl), (Nat.le_of_ble_eq_true rfl)⟩ (fun h_4 H locs hq5 hP hD hS => ?_)
    have hP : va_P g.1 vwCl (List.flatten [bMem g mo qT qL it il ig mh me mx fT fL, bLog g go gr gz gn fr, bLog g ig grI gzI gnI frI, bTown g o a peI woI txI chI joI trI dyI sdI h_2, bTown g it aI peI woI txI chI joI trI dyI sdI fI, bLaw g lo lc lzI llI lm lg ld h_4, bLaw g il lcI lzI llI lmI lgI ldI fcI]) H := hP
    have hD : va_D A (List.flatten [bMem g mo qT qL it il ig mh me mx fT fL, bLog g go gr gz gn fr, bLog g ig grI gzI gnI frI, bTown g o a peI woI txI chI joI trI dyI sdI h_2, bTown g it aI peI woI txI chI joI trI dyI sdI fI, bLaw g lo lc lzI llI lm lg ld h_4, bLaw g il lcI lzI llI lmI lgI ldI fcI]) := hD
    refine W.widen (k := 0) (n := 0) (Nat.le_of_ble_eq_true rfl) (Nat.le_of_ble_eq_true rfl) ?_
    refine W.eq (g2 := F0 m 25 ls []) rfl ?_
    refine lv_aload_n hx hb dX4_giveBackImage_25 rfl (lv_at hl 3 rfl) ?_
    refine lv_aload_n hx hb dX4_giveBackImage_26 rfl (lv_at hl 0 rfl) ?_
    refine va_get (D := g.1) (ci := 4) (v := .ref ig) (C := RX4) (T := TX4) (N := 8) hx hb hts izRX4 hown hK hP 0 rfl rfl 4 (by decide) (hts _ k356) (fun _ h9 => h9) rfl dX4_giveBackImage_27 ?_
    refine mcallV' (g := g) (q0 := 0) (ci := 3) (As := [.ref ig]) (rest := []) St hK hT hA hP hD hS hl.1 [1, 2] [0, 3, 4, 5, 6] rfl rfl rfl (c_g_copyFrom l g go gr gz gn fr ig grI gzI gnI frI b_gzI b_gnI) (cwV 1 hts (zgL (zl4 k364 k365 k366 k123) k331) rfl rfl rfl (by decide +kernel) ⟨Nat.le_of_ble_eq_true rfl, Nat.le_of_ble_eq_true rfl⟩) rfl rfl rfl rfl (Nat.le_of_ble_eq_true rfl) dX4_giveBackImage_30 ⟨(Nat.le_of_ble_eq_true rfl), (Nat.le_of_ble_eq_true rfl)⟩ (fun h_6 H locs hq7 hP hD hS => ?_)
    have hP : va_P g.1 vwCl (List.flatten [bMem g mo qT qL it il ig mh me mx fT fL, bTown g o a peI woI txI chI joI trI dyI sdI h_2, bTown g it aI peI woI txI chI joI trI dyI sdI fI, bLaw g lo lc lzI llI lm lg ld h_4, bLaw g il lcI lzI llI lmI lgI ldI fcI, bLog g go gr gzI gnI h_6, bLog g ig grI gzI gnI frI]) H := hP
    have hD : va_D A (List.flatten [bMem g mo qT qL it il ig mh me mx fT fL, bTown g o a peI woI txI chI joI trI dyI sdI h_2, bTown g it aI peI woI txI chI joI trI dyI sdI fI, bLaw g lo lc lzI llI lm lg ld h_4, bLaw g il lcI lzI llI lmI lgI ldI fcI, bLog g go gr gzI gnI h_6, bLog g ig grI gzI gnI frI]) := hD
    refine W.widen (k := 0) (n := 0) (Nat.le_of_ble_eq_true rfl) (Nat.le_of_ble_eq_true rfl) ?_
    refine W.eq (g2 := F0 m 33 ls []) rfl ?_
    refine lv_aload_n hx hb dX4_giveBackImage_33 rfl (lv_at hl 0 rfl) ?_
    refine mcallV' (g := g) (q0 := 0) (ci := 4) (As := []) (rest := []) St hK hT hA hP hD hS hl.1 [0] [1, 2, 3, 4, 5, 6] rfl rfl rfl (c_m_forget l g mo qT qL it il ig mh me mx fT fL ) (cwV 0 hts (zgL (zl4 k375 k376 k377 k378) k359) rfl rfl rfl (by decide +kernel) ⟨Nat.le_of_ble_eq_true rfl, Nat.le_of_ble_eq_true rfl⟩) rfl rfl rfl rfl (Nat.le_of_ble_eq_true rfl) dX4_giveBackImage_34 ⟨(Nat.le_of_ble_eq_true rfl), (Nat.le_of_ble_eq_true rfl)⟩ (fun _u H locs hq8 hP hD hS => ?_)
    have hP : va_P g.1 vwCl (List.flatten [bTown g o a peI woI txI chI joI trI dyI sdI h_2, bTown g it aI peI woI txI chI joI trI dyI sdI fI, bLaw g lo lc lzI llI lm lg ld h_4, bLaw g il lcI lzI llI lmI lgI ldI fcI, bLog g go gr gzI gnI h_6, bLog g ig grI gzI gnI frI, bMem g mo qT qL it il ig mh 0 mx fT fL]) H := hP
    have hD : va_D A (List.flatten [bTown g o a peI woI txI chI joI trI dyI sdI h_2, bTown g it aI peI woI txI chI joI trI dyI sdI fI, bLaw g lo lc lzI llI lm lg ld h_4, bLaw g il lcI lzI llI lmI lgI ldI fcI, bLog g go gr gzI gnI h_6, bLog g ig grI gzI gnI frI, bMem g mo qT qL it il ig mh 0 mx fT fL]) := hD
    refine W.widen (k := 0) (n := 0) (Nat.le_of_ble_eq_true rfl) (Nat.le_of_ble_eq_true rfl) ?_
    refine W.eq (g2 := F0 m 37 ls []) rfl ?_
    refine lv_iconst (v := 1) hx hb dX4_giveBackImage_37 (by decide) ?_
    have hP : va_P g.1 vwCl (List.flatten [bTown g o a peI woI txI chI joI trI dyI sdI h_2, bTown g it aI peI woI txI chI joI trI dyI sdI fI, bLaw g lo lc lzI llI lm lg ld h_4, bLaw g il lcI lzI llI lmI lgI ldI fcI, bLog g go gr gzI gnI h_6, bLog g ig grI gzI gnI frI, bMem g mo qT qL it il ig mh 0 mx fT fL]) H := hP
    have hD : va_D A (List.flatten [bTown g o a peI woI txI chI joI trI dyI sdI h_2, bTown g it aI peI woI txI chI joI trI dyI sdI fI, bLaw g lo lc lzI llI lm lg ld h_4, bLaw g il lcI lzI llI lmI lgI ldI fcI, bLog g go gr gzI gnI h_6, bLog g ig grI gzI gnI frI, bMem g mo qT qL it il ig mh 0 mx fT fL]) := hD
    obtain ⟨hP, hD⟩ := zord (g := g) (Bs' := [bMem g mo qT qL it il ig mh 0 mx fT fL, bTown g o a peI woI txI chI joI trI dyI sdI h_2, bLaw g lo lc lzI llI lm lg ld h_4, bLog g go gr gzI gnI h_6, bTown g it aI peI woI txI chI joI trI dyI sdI fI, bLaw g il lcI lzI llI lmI lgI ldI fcI, bLog g ig grI gzI gnI frI]) [6, 0, 2, 4, 1, 3, 5] rfl rfl hP hD
    exact mret_z hx hb hr hlocks hS (Nat.le_of_ble_eq_true rfl) (Nat.le_of_ble_eq_true rfl) dX4_giveBackImage_38 ((0 : Int32), peI, woI, txI, chI, joI, trI, dyI, sdI, h_2, lzI, llI, h_4, gzI, gnI, h_6, (1 : Int32)) rfl (by decide) (show (0 ≤ (0 : Int32).toInt ∧ (0 : Int32).toInt ≤ 12) ∧ (0 ≤ peI.toInt ∧ peI.toInt ≤ 8) ∧ (0 ≤ woI.toInt ∧ woI.toInt ≤ 6) ∧ (zZ4 h_2) ∧ (0 ≤ lzI.toInt ∧ lzI.toInt ≤ 400) ∧ (0 ≤ gzI.toInt ∧ gzI.toInt ≤ 60) ∧ (0 ≤ gnI.toInt ∧ gnI.toInt ≤ 59) ∧ (1 = 0 ∨ 1 = 1) from ⟨(by first | assumption | omega | decide | exact rfl | exact zb01 (by omega) | exact Or.inl (by decide) | exact Or.inr (by first | omega | decide)), b_peI, b_woI, rh_2, b_lzI, b_gzI, b_gnI, (by decide)⟩) hP hD
  · skip
    have c9 : mh.toInt = 0 := zeq cb9 rfl (by decide)
    have n10 : 0 ≤ mh.toInt := Int.le_trans (Int.le_refl _) (Int.le_of_eq c9.symm)
    have n11 : mh.toInt ≤ 0 := Int.le_trans (Int.le_of_eq c9) (Int.le_refl _)
    refine lv_iconst (v := 0) hx hb dX4_giveBackImage_7 (by decide) ?_
    have hP : va_P g.1 vwCl (List.flatten [bMem g mo qT qL it il ig mh me mx fT fL, bTown g o a pe wo tx ch jo tr dy sd f, bLaw g lo lc lz ll lm lg ld fc, bLog g go gr gz gn fr, bTown g it aI peI woI txI chI joI trI dyI sdI fI, bLaw g il lcI lzI llI lmI lgI ldI fcI, bLog g ig grI gzI gnI frI]) s.heap := hP
    have hD : va_D A (List.flatten [bMem g mo qT qL it il ig mh me mx fT fL, bTown g o a pe wo tx ch jo tr dy sd f, bLaw g lo lc lz ll lm lg ld fc, bLog g go gr gz gn fr, bTown g it aI peI woI txI chI joI trI dyI sdI fI, bLaw g il lcI lzI llI lmI lgI ldI fcI, bLog g ig grI gzI gnI frI]) := hD
    exact mret_z hx hb hr hlocks hS (Nat.le_of_ble_eq_true rfl) (Nat.le_of_ble_eq_true rfl) dX4_giveBackImage_8 (me, pe, wo, tx, ch, jo, tr, dy, sd, f, lz, ll, fc, gz, gn, fr, (0 : Int32)) rfl (by decide) (show (0 ≤ me.toInt ∧ me.toInt ≤ 12) ∧ (0 ≤ pe.toInt ∧ pe.toInt ≤ 8) ∧ (0 ≤ wo.toInt ∧ wo.toInt ≤ 6) ∧ (zZ4 f) ∧ (0 ≤ lz.toInt ∧ lz.toInt ≤ 400) ∧ (0 ≤ gz.toInt ∧ gz.toInt ≤ 60) ∧ (0 ≤ gn.toInt ∧ gn.toInt ≤ 59) ∧ (0 = 0 ∨ 0 = 1) from ⟨b_me, b_pe, b_wo, rf, b_lz, b_gz, b_gn, (by decide)⟩) hP hD
