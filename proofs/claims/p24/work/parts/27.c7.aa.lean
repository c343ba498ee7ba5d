def bMem (g : zG) (mo : Nat) (qT : Nat) (qL : Nat) (it : Nat) (il : Nat) (ig : Nat) (mh : Int32) (me : Int32) (mx : Int32) (fT : Nat → Option Nat) (fL : Nat → Option Nat) : va_W := [(mo, .inr (4, [.ref qT, .ref qL, .ref it, .ref il, .ref ig, .int mh, .int me, .int mx])), (qT, .inl (g.2 3, 12, .inr (.inr (.inr (.inr fT))))), (qL, .inl (g.2 4, 12, .inr (.inr (.inr (.inr fL)))))]
/-! POOLS: twelve towns and twelve logs, of which one at a time is opened -/
theorem zpmP {D : va_G} {cl : List vw_C} {L L' : va_W} {H : Heap} (hp : L.Perm L') (h : va_P D cl L H) : va_P D cl L' H := zP_iff.mpr fun q hq => zP_iff.mp h q (hp.mem_iff.mpr hq)
theorem zpmD {A : Nat → Prop} {L L' : va_W} (hp : L.Perm L') (h : va_D A L) : va_D A L' := by
  obtain ⟨h1, h2⟩ := zD_iff.mp h
  exact zD_iff.mpr ⟨(hp.pairwise_iff (fun {x y} h e => h e.symm)).mp h1, fun q hq => h2 q (hp.mem_iff.mpr hq)⟩
def zPo (f : Nat → va_W) : va_W := ((List.range 12).map f).flatten
def zPx (f : Nat → va_W) (i : Nat) : va_W := (((List.range 12).erase i).map f).flatten
theorem zPo_perm {f : Nat → va_W} {i : Nat} (hi : i < 12) : (zPo f).Perm (f i ++ zPx f i) :=
  ((List.perm_cons_erase (List.mem_range.mpr hi)).map f).flatten
theorem zPx_congr {f f' : Nat → va_W} {i : Nat} (h : ∀ j, j ≠ i → f j = f' j) : zPx f i = zPx f' i := by
  unfold zPx
  rw [List.map_congr_left (fun j hj => h j (fun e => by rw [e] at hj; exact (List.nodup_range.mem_erase_iff.mp hj).1 rfl))]
theorem zPo_op {f : Nat → va_W} {i : Nat} (hi : i < 12) (Bs : List va_W) : (List.flatten (Bs ++ [zPo f])).Perm (List.flatten (f i :: (Bs ++ [zPx f i]))) := by
  have e1 : List.flatten (Bs ++ [zPo f]) = Bs.flatten ++ zPo f := by rw [List.flatten_append]; congr 1; exact List.append_nil _
  have e2 : List.flatten (f i :: (Bs ++ [zPx f i])) = f i ++ (Bs.flatten ++ zPx f i) := by rw [List.flatten_cons, List.flatten_append]; congr 2; exact List.append_nil _
  rw [e1, e2]
  exact ((zPo_perm hi).append_left Bs.flatten).trans (List.perm_append_comm_assoc _ _ _)
abbrev zTR : Type := Nat × (Nat → Nat) × Int32 × Int32 × Int32 × Int32 × Int32 × Int32 × Int32 × Int32 × (Nat → Nat → Int32)
def bTR (g : zG) (t : zTR) : va_W := bTown g t.1 t.2.1 t.2.2.1 t.2.2.2.1 t.2.2.2.2.1 t.2.2.2.2.2.1 t.2.2.2.2.2.2.1 t.2.2.2.2.2.2.2.1 t.2.2.2.2.2.2.2.2.1 t.2.2.2.2.2.2.2.2.2.1 t.2.2.2.2.2.2.2.2.2.2
def bPT (g : zG) (P : Nat → zTR) : va_W := zPo fun i => bTR g (P i)
def bPTx (g : zG) (P : Nat → zTR) (i : Nat) : va_W := zPx (fun i => bTR g (P i)) i
def zTg (t : zTR) : Prop := (0 ≤ t.2.2.1.toInt ∧ t.2.2.1.toInt ≤ 8) ∧ (0 ≤ t.2.2.2.1.toInt ∧ t.2.2.2.1.toInt ≤ 6) ∧ zZ4 t.2.2.2.2.2.2.2.2.2.2
def zPT (fT : Nat → Option Nat) (P : Nat → zTR) : Prop := ∀ i, i < 12 → fT i = some (P i).1 ∧ zTg (P i)
abbrev zLR : Type := Nat × Nat × Int32 × Int32 × (Nat → Int32)
def bLR (g : zG) (t : zLR) : va_W := bLog g t.1 t.2.1 t.2.2.1 t.2.2.2.1 t.2.2.2.2
def bPL (g : zG) (P : Nat → zLR) : va_W := zPo fun i => bLR g (P i)
def bPLx (g : zG) (P : Nat → zLR) (i : Nat) : va_W := zPx (fun i => bLR g (P i)) i
def zLg (t : zLR) : Prop := (0 ≤ t.2.2.1.toInt ∧ t.2.2.1.toInt ≤ 60) ∧ (0 ≤ t.2.2.2.1.toInt ∧ t.2.2.2.1.toInt ≤ 59)
def zPL (fL : Nat → Option Nat) (P : Nat → zLR) : Prop := ∀ i, i < 12 → fL i = some (P i).1 ∧ zLg (P i)
section ZP
variable {g : zG} {A : Nat → Prop} {H : Heap}
theorem zopT {fT : Nat → Option Nat} {P : Nat → zTR} (i : Nat) (Bs : List va_W) (hi : i < 12) (h : zPT fT P) (hP : va_P g.1 vwCl (List.flatten (Bs ++ [bPT g P])) H) (hD : va_D A (List.flatten (Bs ++ [bPT g P]))) :
    ∃ (o : Nat) (a : Nat → Nat) (pe wo tx ch jo tr dy sd : Int32) (f : Nat → Nat → Int32), fT i = some o ∧ (0 ≤ pe.toInt ∧ pe.toInt ≤ 8) ∧ (0 ≤ wo.toInt ∧ wo.toInt ≤ 6) ∧ zZ4 f ∧
      va_P g.1 vwCl (List.flatten (bTown g o a pe wo tx ch jo tr dy sd f :: (Bs ++ [bPTx g P i]))) H ∧ va_D A (List.flatten (bTown g o a pe wo tx ch jo tr dy sd f :: (Bs ++ [bPTx g P i]))) := by
  obtain ⟨h1, h2, h3, h4⟩ := h i hi
  exact ⟨_, _, _, _, _, _, _, _, _, _, _, h1, h2, h3, h4, zpmP (zPo_op hi Bs) hP, zpmD (zPo_op hi Bs) hD⟩
theorem zclT {fT : Nat → Option Nat} {P : Nat → zTR} {i : Nat} {o : Nat} {a : Nat → Nat} {pe wo tx ch jo tr dy sd : Int32} {f : Nat → Nat → Int32} (Bs : List va_W) (hi : i < 12) (h : zPT fT P) (ho : fT i = some o) (hpe : 0 ≤ pe.toInt ∧ pe.toInt ≤ 8) (hwo : 0 ≤ wo.toInt ∧ wo.toInt ≤ 6) (hf : zZ4 f)
    (hP : va_P g.1 vwCl (List.flatten (bTown g o a pe wo tx ch jo tr dy sd f :: (Bs ++ [bPTx g P i]))) H) (hD : va_D A (List.flatten (bTown g o a pe wo tx ch jo tr dy sd f :: (Bs ++ [bPTx g P i])))) :
    ∃ P' : Nat → zTR, zPT fT P' ∧ va_P g.1 vwCl (List.flatten (Bs ++ [bPT g P'])) H ∧ va_D A (List.flatten (Bs ++ [bPT g P'])) := by
  have hc : bPTx g P i = zPx (fun j => bTR g (if j = i then (o, a, pe, wo, tx, ch, jo, tr, dy, sd, f) else P j)) i := zPx_congr (fun j hj => by rw [if_neg hj])
  have he : bTown g o a pe wo tx ch jo tr dy sd f = (fun j => bTR g (if j = i then (o, a, pe, wo, tx, ch, jo, tr, dy, sd, f) else P j)) i := by show _ = bTR g (if i = i then _ else _); rw [if_pos rfl]; rfl
  rw [hc, he] at hP hD
  refine ⟨fun j => if j = i then (o, a, pe, wo, tx, ch, jo, tr, dy, sd, f) else P j, fun j hj => ?_, zpmP (zPo_op hi Bs).symm hP, zpmD (zPo_op hi Bs).symm hD⟩
  show fT j = some (if j = i then (o, a, pe, wo, tx, ch, jo, tr, dy, sd, f) else P j).1 ∧ zTg (if j = i then (o, a, pe, wo, tx, ch, jo, tr, dy, sd, f) else P j)
  by_cases e : j = i
  · rw [if_pos e, e]; exact ⟨ho, hpe, hwo, hf⟩
  · rw [if_neg e]; exact h j hj
theorem zopL {fL : Nat → Option Nat} {P : Nat → zLR} (i : Nat) (Bs : List va_W) (hi : i < 12) (h : zPL fL P) (hP : va_P g.1 vwCl (List.flatten (Bs ++ [bPL g P])) H) (hD : va_D A (List.flatten (Bs ++ [bPL g P]))) :
    ∃ (go gr : Nat) (gz gn : Int32) (fr : Nat → Int32), fL i = some go ∧ (0 ≤ gz.toInt ∧ gz.toInt ≤ 60) ∧ (0 ≤ gn.toInt ∧ gn.toInt ≤ 59) ∧
      va_P g.1 vwCl (List.flatten (bLog g go gr gz gn fr :: (Bs ++ [bPLx g P i]))) H ∧ va_D A (List.flatten (bLog g go gr gz gn fr :: (Bs ++ [bPLx g P i]))) := by
  obtain ⟨h1, h2, h3⟩ := h i hi
  exact ⟨_, _, _, _, _, h1, h2, h3, zpmP (zPo_op hi Bs) hP, zpmD (zPo_op hi Bs) hD⟩
theorem zclL {fL : Nat → Option Nat} {P : Nat → zLR} {i : Nat} {go gr : Nat} {gz gn : Int32} {fr : Nat → Int32} (Bs : List va_W) (hi : i < 12) (h : zPL fL P) (ho : fL i = some go) (hgz : 0 ≤ gz.toInt ∧ gz.toInt ≤ 60) (hgn : 0 ≤ gn.toInt ∧ gn.toInt ≤ 59)
    (hP : va_P g.1 vwCl (List.flatten (bLog g go gr gz gn fr :: (Bs ++ [bPLx g P i]))) H) (hD : va_D A (List.flatten (bLog g go gr gz gn fr :: (Bs ++ [bPLx g P i])))) :
    ∃ P' : Nat → zLR, zPL fL P' ∧ va_P g.1 vwCl (List.flatten (Bs ++ [bPL g P'])) H ∧ va_D A (List.flatten (Bs ++ [bPL g P'])) := by
  have hc : bPLx g P i = zPx (fun j => bLR g (if j = i then (go, gr, gz, gn, fr) else P j)) i := zPx_congr (fun j hj => by rw [if_neg hj])
  have he : bLog g go gr gz gn fr = (fun j => bLR g (if j = i then (go, gr, gz, gn, fr) else P j)) i := by show _ = bLR g (if i = i then _ else _); rw [if_pos rfl]; rfl
  rw [hc, he] at hP hD
  refine ⟨fun j => if j = i then (go, gr, gz, gn, fr) else P j, fun j hj => ?_, zpmP (zPo_op hi Bs).symm hP, zpmD (zPo_op hi Bs).symm hD⟩
  show fL j = some (if j = i then (go, gr, gz, gn, fr) else P j).1 ∧ zLg (if j = i then (go, gr, gz, gn, fr) else P j)
  by_cases e : j = i
  · rw [if_pos e, e]; exact ⟨ho, hgz, hgn⟩
  · rw [if_neg e]; exact h j hj
end ZP
theorem zopTF {g : zG} {A : Nat → Prop} {H : Heap} {fT : Nat → Option Nat} {P : Nat → zTR} (i : Nat) (Bs : List va_W) (hi : i < 12) (h : zPT fT P) (hP : va_P g.1 vwCl (List.flatten (Bs ++ [bPT g P])) H) (hD : va_D A (List.flatten (Bs ++ [bPT g P]))) :
    ∃ (o : Nat) (a : Nat → Nat) (pe wo tx ch jo tr dy sd : Int32) (f : Nat → Nat → Int32), fT i = some o ∧ (0 ≤ pe.toInt ∧ pe.toInt ≤ 8) ∧ (0 ≤ wo.toInt ∧ wo.toInt ≤ 6) ∧ zZ4 f ∧ P i = (o, a, pe, wo, tx, ch, jo, tr, dy, sd, f) ∧
      va_P g.1 vwCl (List.flatten (bTown g o a pe wo tx ch jo tr dy sd f :: (Bs ++ [bPTx g P i]))) H ∧ va_D A (List.flatten (bTown g o a pe wo tx ch jo tr dy sd f :: (Bs ++ [bPTx g P i]))) := by
  obtain ⟨h1, h2, h3, h4⟩ := h i hi
  exact ⟨_, _, _, _, _, _, _, _, _, _, _, h1, h2, h3, h4, rfl, zpmP (zPo_op hi Bs) hP, zpmD (zPo_op hi Bs) hD⟩
theorem zclTF {g : zG} {A : Nat → Prop} {H : Heap} {fT : Nat → Option Nat} {P : Nat → zTR} {i : Nat} {o : Nat} {a : Nat → Nat} {pe wo tx ch jo tr dy sd : Int32} {f : Nat → Nat → Int32} (Bs : List va_W) (hi : i < 12) (h : zPT fT P) (ho : fT i = some o) (hpe : 0 ≤ pe.toInt ∧ pe.toInt ≤ 8) (hwo : 0 ≤ wo.toInt ∧ wo.toInt ≤ 6) (hf : zZ4 f)
    (hP : va_P g.1 vwCl (List.flatten (bTown g o a pe wo tx ch jo tr dy sd f :: (Bs ++ [bPTx g P i]))) H) (hD : va_D A (List.flatten (bTown g o a pe wo tx ch jo tr dy sd f :: (Bs ++ [bPTx g P i])))) :
    ∃ P' : Nat → zTR, zPT fT P' ∧ (P' i = (o, a, pe, wo, tx, ch, jo, tr, dy, sd, f) ∧ ∀ j, j ≠ i → P' j = P j) ∧ va_P g.1 vwCl (List.flatten (Bs ++ [bPT g P'])) H ∧ va_D A (List.flatten (Bs ++ [bPT g P'])) := by
  have hc : bPTx g P i = zPx (fun j => bTR g (if j = i then (o, a, pe, wo, tx, ch, jo, tr, dy, sd, f) else P j)) i := zPx_congr (fun j hj => by rw [if_neg hj])
  have he : bTown g o a pe wo tx ch jo tr dy sd f = (fun j => bTR g (if j = i then (o, a, pe, wo, tx, ch, jo, tr, dy, sd, f) else P j)) i := by show _ = bTR g (if i = i then _ else _); rw [if_pos rfl]; rfl
  rw [hc, he] at hP hD
  refine ⟨fun j => if j = i then (o, a, pe, wo, tx, ch, jo, tr, dy, sd, f) else P j, fun j hj => ?_, ⟨if_pos rfl, fun j hj => if_neg hj⟩, zpmP (zPo_op hi Bs).symm hP, zpmD (zPo_op hi Bs).symm hD⟩
  show fT j = some (if j = i then (o, a, pe, wo, tx, ch, jo, tr, dy, sd, f) else P j).1 ∧ zTg (if j = i then (o, a, pe, wo, tx, ch, jo, tr, dy, sd, f) else P j)
  by_cases e : j = i
  · rw [if_pos e, e]; exact ⟨ho, hpe, hwo, hf⟩
  · rw [if_neg e]; exact h j hj
/-- the k-th of the towns that are remembered is of so many people, works, texts -/
def zTq3 (t : zTR) (pe wo tx : Int) : Prop := t.2.2.1.toInt = pe ∧ t.2.2.2.1.toInt = wo ∧ t.2.2.2.2.1.toInt = tx
def zPk (P P2 : Nat → zTR) (k : Nat) (pe wo tx : Int) : Prop := zTq3 (P2 k) pe wo tx ∧ ∀ j, j ≠ k → P2 j = P j
theorem zPk_mk {P P2 : Nat → zTR} {i k o : Nat} {a : Nat → Nat} {pe wo tx ch jo tr dy sd : Int32} {f : Nat → Nat → Int32} (e : i = k) (h : P2 i = (o, a, pe, wo, tx, ch, jo, tr, dy, sd, f) ∧ ∀ j, j ≠ i → P2 j = P j) : zPk P P2 k pe.toInt wo.toInt tx.toInt := by
  subst e; exact ⟨by rw [h.1]; exact ⟨rfl, rfl, rfl⟩, h.2⟩
theorem zTq3_mk {P : Nat → zTR} {i k o : Nat} {a : Nat → Nat} {pe wo tx ch jo tr dy sd : Int32} {f : Nat → Nat → Int32} (e : i = k) (h : P i = (o, a, pe, wo, tx, ch, jo, tr, dy, sd, f)) : zTq3 (P k) pe.toInt wo.toInt tx.toInt := by
  subst e; rw [h]; exact ⟨rfl, rfl, rfl⟩
theorem zPs_mk {P P2 : Nat → zTR} {i o : Nat} {a : Nat → Nat} {pe wo tx ch jo tr dy sd : Int32} {f : Nat → Nat → Int32} (h0 : P i = (o, a, pe, wo, tx, ch, jo, tr, dy, sd, f)) (h : P2 i = (o, a, pe, wo, tx, ch, jo, tr, dy, sd, f) ∧ ∀ j, j ≠ i → P2 j = P j) : P2 = P := by
  funext j
  by_cases e : j = i
  · rw [e, h.1, h0]
  · exact h.2 j e
set_option maxRecDepth 100000 in
set_option maxHeartbeats 4000000 in
theorem c_m_forget (l : Launch) (g : zG) (mo : Nat) (qT : Nat) (qL : Nat) (it : Nat) (il : Nat) (ig : Nat) (mh : Int32) (me : Int32) (mx : Int32) (fT : Nat → Option Nat) (fL : Nat → Option Nat)  : zM' g l yX4_forget (Cond.code yX4_forget cX4_forget 1 none :: zB) ({ frames := 0, cells := 0, slots := 0, locals := 0 } : Room) [.ref mo] [bMem g mo qT qL it il ig mh me mx fT fL] (fun _ : Unit => none) (fun _ : Unit => True) (fun _ : Unit => [bMem g mo qT qL it il ig mh 0 mx fT fL]) := by
  refine zM'.of (cc := cX4_forget) (maxL := 1) (rt := none) (by decide) rfl (Nat.le_of_ble_eq_true rfl) ?_
  intro p e s m args below meth c A ls St hr hlocks hin hK hT hA hP hD hS hl
  obtain ⟨hx, hb, hml, hown, hts⟩ := id St
  have hl : lv_has ls 1 [(0, .ref mo)] := hl
  refine lv_aload_n hx hb dX4_forget_0 rfl (lv_at hl 0 rfl) ?_
  refine lv_iconst (v := 0) hx hb dX4_forget_1 (by decide) ?_
  refine va_put (D := g.1) (ci := 4) (v := .int 0) (ty := .int) (C := RX4) (T := TX4) (N := 8) hx hb hts izRX4 tyX4 tyX4_ok nmX4 hown hK hP hD hS 0 rfl rfl 6 (by decide) (hts _ k360) (fun _ h9 => h9) rfl (by decide +kernel) rfl rfl (Nat.le_of_ble_eq_true rfl) dX4_forget_2 (fun H locs hP hD hS => ?_)
  have hP : va_P g.1 vwCl (List.flatten [bMem g mo qT qL it il ig mh 0 mx fT fL]) H := hP
  have hD : va_D A (List.flatten [bMem g mo qT qL it il ig mh 0 mx fT fL]) := hD
  have hP : va_P g.1 vwCl (List.flatten [bMem g mo qT qL it il ig mh 0 mx fT fL]) H := hP
  have hD : va_D A (List.flatten [bMem g mo qT qL it il ig mh 0 mx fT fL]) := hD
  exact mret_v hx hb hr hlocks hS (Nat.le_of_ble_eq_true rfl) (Nat.le_of_ble_eq_true rfl) dX4_forget_5 () rfl trivial hP hD
