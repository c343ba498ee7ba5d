/-! THE FRAME ONCE MORE: what goes along everywhere has the literals' texts too. g.2 (10 + 2 j), g.2 (11 + 2 j): where the j-th literal and its row lie. -/
def zSt (bs : List Int32) (k v : Nat) (A : Nat → Prop) (U : State) : Prop := vk_S 1 [bs.length] [bs] (fun _ => k) (fun _ => v) A U U.heap
def zLit : List (String × Nat × String × List Int32) := [("DryRiver$LawText", 24, "raise", [114, 97, 105, 115, 101]), ("DryRiver$LawText", 32, "lower", [108, 111, 119, 101, 114]), ("DryRiver$LawText", 45, "if", [105, 102]), ("DryRiver$LawText", 64, "and", [97, 110, 100]), ("DryRiver$LawText", 66, "or", [111, 114]), ("DryRiver$LawText", 68, "not", [110, 111, 116]), ("DryRiver$LawText", 77, "dry", [100, 114, 121]), ("DryRiver$LawText", 79, "owner", [111, 119, 110, 101, 114]), ("DryRiver$LawText", 87, "who", [119, 104, 111]), ("DryRiver$LawText", 89, "belief", [98, 101, 108, 105, 101, 102]), ("DryRiver$LawText", 91, "mean", [109, 101, 97, 110]), ("DryRiver$LawText", 93, "works", [119, 111, 114, 107, 115]), ("DryRiver$LawText", 95, "ties", [116, 105, 101, 115]), ("DryRiver$LawText", 97, "day", [100, 97, 121]), ("DryRiver$TownText", 24, "person", [112, 101, 114, 115, 111, 110]), ("DryRiver$TownText", 36, "work", [119, 111, 114, 107]), ("DryRiver$TownText", 41, "trusts", [116, 114, 117, 115, 116, 115]), ("DryRiver$TownText", 49, "shares", [115, 104, 97, 114, 101, 115]), ("DryRiver$TownText", 54, "chest", [99, 104, 101, 115, 116]), ("DryRiver$TownText", 63, "journey", [106, 111, 117, 114, 110, 101, 121]), ("DryRiver$TownText", 67, "truth", [116, 114, 117, 116, 104]), ("DryRiver$TownText", 71, "day", [100, 97, 121]), ("DryRiver$TownText", 84, "purse", [112, 117, 114, 115, 101]), ("DryRiver$TownText", 89, "dry", [100, 114, 121]), ("DryRiver$TownText", 98, "need", [110, 101, 101, 100]), ("DryRiver$TownText", 100, "gain", [103, 97, 105, 110]), ("DryRiverModel", 115, "purse", [112, 117, 114, 115, 101]), ("DryRiverModel", 121, "dry", [100, 114, 121]), ("DryRiverModel", 127, "need", [110, 101, 101, 100]), ("DryRiverModel", 129, "gain", [103, 97, 105, 110]), ("DryRiverModel", 134, "person", [112, 101, 114, 115, 111, 110]), ("DryRiverModel", 139, "trusts", [116, 114, 117, 115, 116, 115]), ("DryRiverModel", 144, "work", [119, 111, 114, 107]), ("DryRiverModel", 149, "chest", [99, 104, 101, 115, 116]), ("DryRiverModel", 154, "journey", [106, 111, 117, 114, 110, 101, 121]), ("DryRiverModel", 156, "truth", [116, 114, 117, 116, 104]), ("DryRiverModel", 158, "shares", [115, 104, 97, 114, 101, 115]), ("DryRiverModel", 160, "day", [100, 97, 121]), ("DryRiverModel", 190, "who", [119, 104, 111]), ("DryRiverModel", 192, "belief", [98, 101, 108, 105, 101, 102]), ("DryRiverModel", 194, "mean", [109, 101, 97, 110]), ("DryRiverModel", 195, "works", [119, 111, 114, 107, 115]), ("DryRiverModel", 197, "ties", [116, 105, 101, 115]), ("DryRiverModel", 206, "owner", [111, 119, 110, 101, 114]), ("DryRiverModel", 214, "not", [110, 111, 116]), ("DryRiverModel", 226, "and", [97, 110, 100]), ("DryRiverModel", 231, "or", [111, 114]), ("DryRiverModel", 233, "raise", [114, 97, 105, 115, 101]), ("DryRiverModel", 235, "lower", [108, 111, 119, 101, 114]), ("DryRiverModel", 237, "if", [105, 102])]
def zLt (g : zG) (A : Nat → Prop) (U : State) : Prop := va_Z "java/lang/String" "COMPACT_STRINGS" "Z" (.int 1) A U U.heap ∧ va_Zq "jdk/internal/util/Preconditions" "SIOOBE_FORMATTER" "Ljava/util/function/BiFunction;" A U U.heap ∧ ∀ (j : Nat) (q : String × Nat × String × List Int32), zLit[j]? = some q → vk_R q.1 q.2.1 q.2.2.1 (g.2 (10 + 2 * j)) U ∧ zSt q.2.2.2 (g.2 (10 + 2 * j)) (g.2 (11 + 2 * j)) A U
def zDe (U : State) : Prop := va_Nw (.declares ⟨"DryRiver$Text", "readLine", "()Z"⟩) U
def zTh' (g : zG) (A : Nat → Prop) (U : State) : Prop := zTh A U ∧ zLt g A U ∧ zDe U
theorem zLt.go {g : zG} {A A' : Nat → Prop} {s U : State} {H : Heap} {locs : List Loc} (h : zLt g A s) (hS : va_S A s.heap H locs) (hU : U.heap = H) (hW : s.WarmedH U.vm) (hF : ∀ q, A' q → A q) : zLt g A' U := by
  obtain ⟨h1, h2, h3⟩ := h
  refine ⟨?_, ?_, fun j q hq => ?_⟩
  · rw [hU]; exact va_Z.moved hW.alike ((h1.kept hS.2.1).narrow hF)
  · rw [hU]; exact va_Zq.moved hW.alike ((h2.kept hS.2.1).narrow hF)
  · obtain ⟨a1, a2⟩ := h3 j q hq
    refine ⟨a1.warm hW, ?_⟩
    unfold zSt at a2 ⊢
    rw [hU]; exact vk_S.moved hW.alike ((a2.kept hS.2.1).narrow hF)
theorem zTh'.go {g : zG} {A A' : Nat → Prop} {s U : State} {H : Heap} {locs : List Loc} (h : zTh' g A s) (hS : va_S A s.heap H locs) (hU : U.heap = H) (hW : s.WarmedH U.vm) (hF : ∀ q, A' q → A q) : zTh' g A' U := ⟨h.1.go hS hU hW hF, h.2.1.go hS hU hW hF, va_Nw.warmD hW h.2.2⟩
theorem zLt.same {g : zG} {A : Nat → Prop} {u U : State} (hv : U.vm = u.vm) (hh : U.heap = u.heap) (ha : u.vm.Alike U.vm) (h : zLt g A u) : zLt g A U := by
  obtain ⟨h1, h2, h3⟩ := h
  refine ⟨?_, ?_, fun j q hq => ?_⟩
  · rw [hh]; exact va_Z.moved ha h1
  · rw [hh]; exact va_Zq.moved ha h2
  · obtain ⟨a1, a2⟩ := h3 j q hq
    refine ⟨vk_R.same hv a1, ?_⟩
    unfold zSt at a2 ⊢
    rw [hh]; exact vk_S.moved ha a2
def zPc' (g : zG) (av : List Value) (Bs : List va_W) (sz : Nat) : Array Value → State → Prop := fun v U => v = av.toArray ∧ U.heap.size = sz ∧ va_P g.1 vwCl Bs.flatten U.heap ∧ zK g U ∧ va_D (fun _ => True) Bs.flatten ∧ zTh' g (va_A Bs.flatten sz) U
theorem zPc_blind' {g : zG} {av : List Value} {Bs : List va_W} {sz : Nat} : FrameBlind (zPc' g av Bs sz) := by
  intro a U gg mk ⟨h1, h2, h3, h4, h5, h6, h7, h8⟩
  have h0 := zPc_blind (g := g) (av := av) (Bs := Bs) (sz := sz) a U gg mk ⟨h1, h2, h3, h4, h5, h6⟩
  exact ⟨h0.1, h0.2.1, h0.2.2.1, h0.2.2.2.1, h0.2.2.2.2.1, h0.2.2.2.2.2, zLt.same (u := U) (U := U.calling gg mk a) rfl rfl (Vm.Alike.refl U.vm) h7, va_Nw.same rfl (u := U) rfl h8⟩
def zX' {S SX : Type} (g : zG) (l : Launch) (y : MethodName) (ws : List Cond) (rm : Room) (av : List Value) (Bs : List va_W) (ret : S → Option Value) (post : S → Prop) (B1 : S → List va_W) (px : String → SX → Prop) (BX : SX → List va_W) : Prop :=
  ∀ sz : Nat, vx_Met l y ws rm (zPc' g av Bs sz) (zQ g ret post B1 (va_A Bs.flatten sz)) (zXC g px BX (va_A Bs.flatten sz)) rm.cells rm.slots (va_A Bs.flatten sz)
def zM' {S : Type} (g : zG) (l : Launch) (y : MethodName) (ws : List Cond) (rm : Room) (av : List Value) (Bs : List va_W) (ret : S → Option Value) (post : S → Prop) (B1 : S → List va_W) : Prop :=
  ∀ sz : Nat, Met l y ws rm (zPc' g av Bs sz) (zQ g ret post B1 (va_A Bs.flatten sz)) rm.cells rm.slots (va_A Bs.flatten sz)
theorem zM'.of {S : Type} {g : zG} {l : Launch} {y : MethodName} {ws : List Cond} {rm : Room} {av : List Value} {Bs : List va_W} {ret : S → Option Value} {post : S → Prop} {B1 : S → List va_W} {cc : ByteArray} {maxL : Nat} {rt : Option FieldType}
    (hy : plainName y.cls = true) (hw : ws = Cond.code y cc maxL rt :: zB) (hn : (lg_sl av).length ≤ maxL)
    (body : ∀ (p : Program) (e : Env) (s : State) (m : MethodId) (args : Array Value) (below : List Frame) (meth : Method) (c : Code) (A : Nat → Prop) (ls : Array Slot), CallFix p m c cc maxL s args zB y.cls → meth.sig.returnType = rt → meth.locks = false → meth.name = y.name →
      zK g s → zTh' g A s → (∀ q, s.heap.size ≤ q → A q) → va_P g.1 vwCl Bs.flatten s.heap → va_D A Bs.flatten → va_S A s.heap s.heap [] → lv_has ls maxL (lv_args 0 av) →
      W p l e rm s m args below meth c s.heap [] 0 0 (zF g ret post B1 rm below args s A) (F0 m 0 ls [])) : zM' g l y ws rm av Bs ret post B1 := by
  intro sz
  refine Met.ofW (cc := cc) (maxL := maxL) (ret := rt) hy hw ?_
  intro p e s m args below meth c s₁ B hml hv
  obtain ⟨rfl, hsz, hP, hK, hD0, hTh⟩ := hv
  subst hsz
  have hl := lv_entry av (n := maxL) hn
  rw [lg_entry_eq]
  generalize (lg_sl av ++ List.replicate (maxL - (lg_sl av).length) Slot.unset).toArray = ls at hl ⊢
  exact body p e s m _ below meth c _ ls ⟨B.exec, B.bytes, hml, findClass_of_methodNamed B.named, fun w hw9 => atoms_spec (ws := ws) B.pre w (by rw [hw]; exact List.mem_cons_of_mem _ hw9)⟩ B.returns B.notSynchronized (name_of_methodNamed B.named B.method).1 hK hTh (fun q h => Or.inr h) hP (hD0.self (sz := s.heap.size)) va_S.rf hl
theorem zX'.of {S SX : Type} {g : zG} {l : Launch} {y : MethodName} {ws : List Cond} {rm : Room} {av : List Value} {Bs : List va_W} {ret : S → Option Value} {post : S → Prop} {B1 : S → List va_W} {px : String → SX → Prop} {BX : SX → List va_W} {cc : ByteArray} {maxL : Nat} {rt : Option FieldType}
    (hy : plainName y.cls = true) (hw : ws = Cond.code y cc maxL rt :: zB) (hn : (lg_sl av).length ≤ maxL)
    (body : ∀ (p : Program) (e : Env) (s : State) (m : MethodId) (args : Array Value) (below : List Frame) (meth : Method) (c : Code) (A : Nat → Prop) (ls : Array Slot), CallFix p m c cc maxL s args zB y.cls → meth.sig.returnType = rt → meth.locks = false → (∀ x ∈ c.exceptionTable.toList, False) → meth.name = y.name →
      zK g s → zTh' g A s → (∀ q, s.heap.size ≤ q → A q) → va_P g.1 vwCl Bs.flatten s.heap → va_D A Bs.flatten → va_S A s.heap s.heap [] → lv_has ls maxL (lv_args 0 av) →
      W p l e rm s m args below meth c s.heap [] 0 0 (zE g ret post B1 px BX rm below args s A) (F0 m 0 ls [])) : zX' g l y ws rm av Bs ret post B1 px BX := by
  intro sz
  refine vx_ofW (cc := cc) (maxL := maxL) (ret := rt) hy hw ?_
  intro p e s m args below meth c s₁ B hml htab hv
  obtain ⟨rfl, hsz, hP, hK, hD0, hTh⟩ := hv
  subst hsz
  have hl := lv_entry av (n := maxL) hn
  rw [lg_entry_eq]
  generalize (lg_sl av ++ List.replicate (maxL - (lg_sl av).length) Slot.unset).toArray = ls at hl ⊢
  exact body p e s m _ below meth c _ ls ⟨B.exec, B.bytes, hml, findClass_of_methodNamed B.named, fun w hw9 => atoms_spec (ws := ws) B.pre w (by rw [hw]; exact List.mem_cons_of_mem _ hw9)⟩ B.returns B.notSynchronized htab (name_of_methodNamed B.named B.method).1 hK hTh (fun q h => Or.inr h) hP (hD0.self (sz := s.heap.size)) va_S.rf hl
section ZR
variable {S SX : Type} {g : zG} {ret : S → Option Value} {post : S → Prop} {B1 : S → List va_W} {px : String → SX → Prop} {BX : SX → List va_W} {rm : Room}
variable {p : Program} {l : Launch} {e : Env} {R : Room} {s : State} {m : MethodId} {args : Array Value} {below : List Frame} {meth : Method} {c : Code} {H : Heap} {locs : List Loc} {cells slots : Nat} {A : Nat → Prop} {cc : ByteArray} {pc : Nat} {ls : Array Slot}
end ZR
section ZC
variable {S SX : Type} {g : zG} {ret : S → Option Value} {post : S → Prop} {B1 : S → List va_W} {px : String → SX → Prop} {BX : SX → List va_W} {rm : Room}
variable {p : Program} {l : Launch} {e : Env} {R : Room} {s : State} {m : MethodId} {args : Array Value} {below : List Frame} {meth : Method} {c : Code} {H : Heap} {locs : List Loc} {cells slots : Nat} {A : Nat → Prop} {cc : ByteArray} {pc : Nat} {ls : Array Slot} {Q : State → Prop}
variable {Bs Bc Br : List va_W} {st0 rest : List Value}
theorem zpre' {U : State} {av : List Value} (hK : zK g s) (hT : zTh' g A s) (hS : va_S A s.heap H locs) (hPc : va_P g.1 vwCl Bc.flatten H) (hDc : va_D A Bc.flatten) (hF : ∀ q, va_A Bc.flatten H.size q → A q) (hU : U.heap = H) (hW : s.WarmedH U.vm) : zPc' g av Bc H.size av.toArray U :=
  ⟨rfl, by rw [hU], by rw [hU]; exact hPc, va_K.moved hW.alike hK, hDc.weaken (fun _ _ _ _ => trivial), hT.go hS hU hW hF⟩
variable {y : MethodName} {bytes : ByteArray} {maxL nL n index q0 ci N : Nat} {rt : Option FieldType} {ws Ts : List Cond} {own C : String} {T : u_T} {b : Addr} {As fs : List Value}
theorem mcallV' (St : CallFix p m c cc nL s args Ts own) (hK : zK g s) (hT : zTh' g A s) (hA : ∀ q, s.heap.size ≤ q → A q) (hP : va_P g.1 vwCl Bs.flatten H) (hD : va_D A Bs.flatten) (hS : va_S A s.heap H locs) (hls : ls.size = nL)
    (isC isR : List Nat) (hn : va_nd (isC ++ isR) = true) (hC : zk Bs isC = Bc) (hR : zk Bs isR = Br) (hM : zM' g l y ws rm (.ref b :: As) Bc ret post B1) (cw : CallW R s args own C index y bytes maxL rt ws rm rm.cells rm.slots n)
    (he : Bc.flatten[q0]? = some (b, .inr (ci, fs))) (hcl : vwCl[ci]? = some (C, T, N)) (hAs : As.length = n) (hst : st0 = As.reverse ++ .ref b :: rest) (hW : (rest.map fun v => v.category).sum ≤ 8) (hdg : decode cc pc = .ok (.invokevirtual index, 3)) (hf : cells + rm.cells ≤ R.cells ∧ slots + rm.slots ≤ R.slots)
    (kk : ∀ (u : S) (H1 : Heap) (locs1 : List Loc), post u → va_P g.1 vwCl (Br ++ B1 u).flatten H1 → va_D A (Br ++ B1 u).flatten → va_S A s.heap H1 locs1 → W p l e R s m args below meth c H1 locs1 (cells + rm.cells) (slots + rm.slots) Q (F0 m (pc + 3) ls ((ret u).toList ++ rest))) :
    W p l e R s m args below meth c H locs cells slots Q (F0 m pc ls st0) := by
  have hPc : va_P g.1 vwCl Bc.flatten H := by rw [← hC]; exact zk_P hP isC
  have hDc : va_D A Bc.flatten := by rw [← hC]; exact zk_D hD isC (zk_nd hn)
  refine zrunM (rm := rm) (va_runV St (hM H.size) cw ⟨zPc_blind', va_recv hK hPc hcl he, fun U hU hWm => zpre' hK hT hS hPc hDc (zfree hD hS hA isC hC) hU hWm⟩ rfl hAs hls hst (lv_room hW) hdg hf) hA hP hD hS isC isR hn hC hR kk
theorem xcallV' (St : CallFix p m c cc nL s args Ts own) (hK : zK g s) (hT : zTh' g A s) (hA : ∀ q, s.heap.size ≤ q → A q) (hP : va_P g.1 vwCl Bs.flatten H) (hD : va_D A Bs.flatten) (hS : va_S A s.heap H locs) (hls : ls.size = nL)
    (isC isR : List Nat) (hn : va_nd (isC ++ isR) = true) (hC : zk Bs isC = Bc) (hR : zk Bs isR = Br) (hM : zX' g l y ws rm (.ref b :: As) Bc ret post B1 px BX) (cw : CallW R s args own C index y bytes maxL rt ws rm rm.cells rm.slots n)
    (he : Bc.flatten[q0]? = some (b, .inr (ci, fs))) (hcl : vwCl[ci]? = some (C, T, N)) (hAs : As.length = n) (hst : st0 = As.reverse ++ .ref b :: rest) (hW : (rest.map fun v => v.category).sum ≤ 8) (hdg : decode cc pc = .ok (.invokevirtual index, 3)) (hf : cells + rm.cells ≤ R.cells ∧ slots + rm.slots ≤ R.slots)
    (kx : ∀ (E : String) (ce : Cell) (q9 : Addr) (u : SX) (H1 : Heap) (locs1 : List Loc), px E u → va_P g.1 vwCl (Br ++ BX u).flatten H1 → va_D A (Br ++ BX u).flatten → va_S A s.heap H1 locs1 → H1[q9]? = some ce → ce.vm = .none → s.vm.findClass E = some ce.cls → vx_W p l e R s m args below meth c H1 locs1 (cells + rm.cells) (slots + rm.slots) Q (F0 m pc ls rest) q9)
    (kk : ∀ (u : S) (H1 : Heap) (locs1 : List Loc), post u → va_P g.1 vwCl (Br ++ B1 u).flatten H1 → va_D A (Br ++ B1 u).flatten → va_S A s.heap H1 locs1 → W p l e R s m args below meth c H1 locs1 (cells + rm.cells) (slots + rm.slots) Q (F0 m (pc + 3) ls ((ret u).toList ++ rest))) :
    W p l e R s m args below meth c H locs cells slots Q (F0 m pc ls st0) := by
  have hPc : va_P g.1 vwCl Bc.flatten H := by rw [← hC]; exact zk_P hP isC
  have hDc : va_D A Bc.flatten := by rw [← hC]; exact zk_D hD isC (zk_nd hn)
  refine zrun (rm := rm) (vx_runV St (hM H.size) cw ⟨zPc_blind', va_recv hK hPc hcl he, fun U hU hWm => zpre' hK hT hS hPc hDc (zfree hD hS hA isC hC) hU hWm⟩ rfl hAs hls hst (lv_room hW) hdg hf) hA hP hD hS isC isR hn hC hR kx kk
theorem mcallS' (St : CallFix p m c cc nL s args Ts own) (hK : zK g s) (hT : zTh' g A s) (hA : ∀ q, s.heap.size ≤ q → A q) (hP : va_P g.1 vwCl Bs.flatten H) (hD : va_D A Bs.flatten) (hS : va_S A s.heap H locs) (hls : ls.size = nL)
    (isC isR : List Nat) (hn : va_nd (isC ++ isR) = true) (hC : zk Bs isC = Bc) (hR : zk Bs isR = Br) (hM : zM' g l y ws rm As Bc ret post B1) (cw : CallB R s args own index y bytes maxL rt ws rm rm.cells rm.slots n ∧ (Cond.static y).before args s = true)
    (hAs : As.length = n) (hst : st0 = As.reverse ++ rest) (hW : (rest.map fun v => v.category).sum ≤ 8) (hdg : decode cc pc = .ok (.invokestatic index, 3)) (hf : cells + rm.cells ≤ R.cells ∧ slots + rm.slots ≤ R.slots)
    (kk : ∀ (u : S) (H1 : Heap) (locs1 : List Loc), post u → va_P g.1 vwCl (Br ++ B1 u).flatten H1 → va_D A (Br ++ B1 u).flatten → va_S A s.heap H1 locs1 → W p l e R s m args below meth c H1 locs1 (cells + rm.cells) (slots + rm.slots) Q (F0 m (pc + 3) ls ((ret u).toList ++ rest))) :
    W p l e R s m args below meth c H locs cells slots Q (F0 m pc ls st0) := by
  have hPc : va_P g.1 vwCl Bc.flatten H := by rw [← hC]; exact zk_P hP isC
  have hDc : va_D A Bc.flatten := by rw [← hC]; exact zk_D hD isC (zk_nd hn)
  refine zrunM (rm := rm) (va_runS St (hM H.size) cw ⟨zPc_blind', fun U hU hWm => zpre' hK hT hS hPc hDc (zfree hD hS hA isC hC) hU hWm⟩ rfl hAs hls hst (lv_room hW) hdg hf) hA hP hD hS isC isR hn hC hR kk
theorem mcallI' (St : CallFix p m c cc nL s args Ts own) (hK : zK g s) (hT : zTh' g A s) (hA : ∀ q, s.heap.size ≤ q → A q) (hP : va_P g.1 vwCl Bs.flatten H) (hD : va_D A Bs.flatten) (hS : va_S A s.heap H locs) (hls : ls.size = nL)
    (isC isR : List Nat) (hn : va_nd (isC ++ isR) = true) (hC : zk Bs isC = Bc) (hR : zk Bs isR = Br) (hM : zM' g l y ws rm (.ref b :: As) Bc ret post B1) (cw : CallB R s args own index y bytes maxL none ws rm rm.cells rm.slots n ∧ y.name = "<init>" ∧ (Cond.instanceMethod y).before args s = true)
    (hAs : As.length = n) (hst : st0 = As.reverse ++ .ref b :: rest) (hW : (rest.map fun v => v.category).sum ≤ 8) (hdg : decode cc pc = .ok (.invokespecial index, 3)) (hf : cells + rm.cells ≤ R.cells ∧ slots + rm.slots ≤ R.slots)
    (kk : ∀ (u : S) (H1 : Heap) (locs1 : List Loc), post u → va_P g.1 vwCl (Br ++ B1 u).flatten H1 → va_D A (Br ++ B1 u).flatten → va_S A s.heap H1 locs1 → W p l e R s m args below meth c H1 locs1 (cells + rm.cells) (slots + rm.slots) Q (F0 m (pc + 3) ls ((ret u).toList ++ rest))) :
    W p l e R s m args below meth c H locs cells slots Q (F0 m pc ls st0) := by
  have hPc : va_P g.1 vwCl Bc.flatten H := by rw [← hC]; exact zk_P hP isC
  have hDc : va_D A Bc.flatten := by rw [← hC]; exact zk_D hD isC (zk_nd hn)
  refine zrunM (rm := rm) (va_runI St (hM H.size) cw ⟨zPc_blind', fun U hU hWm => zpre' hK hT hS hPc hDc (zfree hD hS hA isC hC) hU hWm⟩ rfl hAs hls hst (lv_room hW) hdg hf) hA hP hD hS isC isR hn hC hR kk
theorem mcallIN' {host : String} (St : CallFix p m c cc nL s args Ts own) (hK : zK g s) (hT : zTh' g A s) (hA : ∀ q, s.heap.size ≤ q → A q) (hP : va_P g.1 vwCl Bs.flatten H) (hD : va_D A Bs.flatten) (hS : va_S A s.heap H locs) (hls : ls.size = nL)
    (isC isR : List Nat) (hn : va_nd (isC ++ isR) = true) (hC : zk Bs isC = Bc) (hR : zk Bs isR = Br) (hM : zM' g l y ws rm (.ref b :: As) Bc ret post B1) (cw : va_CN R s args own index y host bytes maxL none ws rm rm.cells rm.slots n ∧ y.name = "<init>" ∧ (Cond.instanceMethod y).before args s = true)
    (hAs : As.length = n) (hst : st0 = As.reverse ++ .ref b :: rest) (hW : (rest.map fun v => v.category).sum ≤ 8) (hdg : decode cc pc = .ok (.invokespecial index, 3)) (hf : cells + rm.cells ≤ R.cells ∧ slots + rm.slots ≤ R.slots)
    (kk : ∀ (u : S) (H1 : Heap) (locs1 : List Loc), post u → va_P g.1 vwCl (Br ++ B1 u).flatten H1 → va_D A (Br ++ B1 u).flatten → va_S A s.heap H1 locs1 → W p l e R s m args below meth c H1 locs1 (cells + rm.cells) (slots + rm.slots) Q (F0 m (pc + 3) ls ((ret u).toList ++ rest))) :
    W p l e R s m args below meth c H locs cells slots Q (F0 m pc ls st0) := by
  have hPc : va_P g.1 vwCl Bc.flatten H := by rw [← hC]; exact zk_P hP isC
  have hDc : va_D A Bc.flatten := by rw [← hC]; exact zk_D hD isC (zk_nd hn)
  refine zrunM (rm := rm) (va_runIN St (hM H.size) cw ⟨zPc_blind', fun U hU hWm => zpre' hK hT hS hPc hDc (zfree hD hS hA isC hC) hU hWm⟩ rfl hAs hls hst (lv_room hW) hdg hf) hA hP hD hS isC isR hn hC hR kk
theorem mcallU' {x : MethodName} {owner : String} (St : CallFix p m c cc nL s args Ts own) (hK : zK g s) (hT : zTh' g A s) (hA : ∀ q, s.heap.size ≤ q → A q) (hP : va_P g.1 vwCl Bs.flatten H) (hD : va_D A Bs.flatten) (hS : va_S A s.heap H locs) (hls : ls.size = nL)
    (isC isR : List Nat) (hn : va_nd (isC ++ isR) = true) (hC : zk Bs isC = Bc) (hR : zk Bs isR = Br) (hM : zM' g l y ws rm (.ref b :: As) Bc ret post B1) (cw : va_CU R s args own C owner index x y bytes maxL rt ws rm rm.cells rm.slots n)
    (he : Bc.flatten[q0]? = some (b, .inr (ci, fs))) (hcl : vwCl[ci]? = some (C, T, N)) (hAs : As.length = n) (hst : st0 = As.reverse ++ .ref b :: rest) (hW : (rest.map fun v => v.category).sum ≤ 8) (hdg : decode cc pc = .ok (.invokevirtual index, 3)) (hf : cells + rm.cells ≤ R.cells ∧ slots + rm.slots ≤ R.slots)
    (kk : ∀ (u : S) (H1 : Heap) (locs1 : List Loc), post u → va_P g.1 vwCl (Br ++ B1 u).flatten H1 → va_D A (Br ++ B1 u).flatten → va_S A s.heap H1 locs1 → W p l e R s m args below meth c H1 locs1 (cells + rm.cells) (slots + rm.slots) Q (F0 m (pc + 3) ls ((ret u).toList ++ rest))) :
    W p l e R s m args below meth c H locs cells slots Q (F0 m pc ls st0) := by
  have hPc : va_P g.1 vwCl Bc.flatten H := by rw [← hC]; exact zk_P hP isC
  have hDc : va_D A Bc.flatten := by rw [← hC]; exact zk_D hD isC (zk_nd hn)
  refine zrunM (rm := rm) (va_runU St (hM H.size) cw ⟨zPc_blind', va_recv hK hPc hcl he, fun U hU hWm => zpre' hK hT hS hPc hDc (zfree hD hS hA isC hC) hU hWm⟩ rfl hAs hls hst (lv_room hW) hdg hf) hA hP hD hS isC isR hn hC hR kk
end ZC
section ZN
variable {g : zG} {p : Program} {l : Launch} {e : Env} {R : Room} {s : State} {m : MethodId} {args : Array Value} {below : List Frame} {meth : Method} {c : Code} {H : Heap} {locs : List Loc} {cells slots : Nat} {A : Nat → Prop} {cc : ByteArray} {pc : Nat} {ls : Array Slot} {Q : State → Prop}
variable {Bs : List va_W} {rest : List Value}
end ZN

theorem zX'.ofH {S SX : Type} {g : zG} {l : Launch} {y : MethodName} {ws : List Cond} {rm : Room} {av : List Value} {Bs : List va_W} {ret : S → Option Value} {post : S → Prop} {B1 : S → List va_W} {px : String → SX → Prop} {BX : SX → List va_W} {cc : ByteArray} {maxL : Nat} {rt : Option FieldType} {hh : List (Nat × Nat × Nat × Nat)}
    (hy : plainName y.cls = true) (hw : ws = Cond.codeWith y cc maxL rt hh :: zB) (hn : (lg_sl av).length ≤ maxL)
    (body : ∀ (p : Program) (e : Env) (s : State) (m : MethodId) (args : Array Value) (below : List Frame) (meth : Method) (c : Code) (A : Nat → Prop) (ls : Array Slot), CallFix p m c cc maxL s args zB y.cls → meth.sig.returnType = rt → meth.locks = false → c.exceptionTable.toList = tableOf hh → meth.name = y.name →
      zK g s → zTh' g A s → (∀ q, s.heap.size ≤ q → A q) → va_P g.1 vwCl Bs.flatten s.heap → va_D A Bs.flatten → va_S A s.heap s.heap [] → lv_has ls maxL (lv_args 0 av) →
      W p l e rm s m args below meth c s.heap [] 0 0 (zE g ret post B1 px BX rm below args s A) (F0 m 0 ls [])) : zX' g l y ws rm av Bs ret post B1 px BX := by
  intro sz
  refine vx_ofWH (cc := cc) (maxL := maxL) (ret := rt) (hh := hh) hy hw ?_
  intro p e s m args below meth c s₁ B hml hv
  obtain ⟨rfl, hsz, hP, hK, hD0, hTh⟩ := hv
  subst hsz
  have hl := lv_entry av (n := maxL) hn
  rw [lg_entry_eq]
  generalize (lg_sl av ++ List.replicate (maxL - (lg_sl av).length) Slot.unset).toArray = ls at hl ⊢
  have htab := vx_table (x := y) B (atoms_spec (ws := ws) B.pre _ (by rw [hw]; exact List.mem_cons_self))
  exact body p e s m _ below meth c _ ls ⟨B.exec, B.bytes, hml, findClass_of_methodNamed B.named, fun w hw9 => atoms_spec (ws := ws) B.pre w (by rw [hw]; exact List.mem_cons_of_mem _ hw9)⟩ B.returns B.notSynchronized htab (name_of_methodNamed B.named B.method).1 hK hTh (fun q h => Or.inr h) hP (hD0.self (sz := s.heap.size)) va_S.rf hl
section ZH
variable {S SX : Type} {g : zG} {ret : S → Option Value} {post : S → Prop} {B1 : S → List va_W} {px : String → SX → Prop} {BX : SX → List va_W} {rm : Room}
variable {p : Program} {l : Launch} {e : Env} {R : Room} {s : State} {m : MethodId} {args : Array Value} {below : List Frame} {meth : Method} {c : Code} {H : Heap} {locs : List Loc} {cells slots : Nat} {A : Nat → Prop} {cc : ByteArray} {pc : Nat} {ls : Array Slot} {Q : State → Prop}
variable {Bs Bc Br : List va_W} {st0 rest : List Value}
variable {y : MethodName} {bytes : ByteArray} {maxL nL n index q0 ci N : Nat} {rt : Option FieldType} {ws Ts : List Cond} {own C : String} {T : u_T} {b : Addr} {As fs : List Value}
theorem xcallSX' {hh : List (Nat × Nat × Nat × Nat)} (St : CallFix p m c cc nL s args Ts own) (hK : zK g s) (hT : zTh' g A s) (hA : ∀ q, s.heap.size ≤ q → A q) (hP : va_P g.1 vwCl Bs.flatten H) (hD : va_D A Bs.flatten) (hS : va_S A s.heap H locs) (hls : ls.size = nL)
    (isC isR : List Nat) (hn : va_nd (isC ++ isR) = true) (hC : zk Bs isC = Bc) (hR : zk Bs isR = Br) (hM : zX' g l y ws rm As Bc ret post B1 px BX) (cw : vx_CSW R s args own index y bytes maxL rt hh ws rm rm.cells rm.slots n)
    (hAs : As.length = n) (hst : st0 = As.reverse ++ rest) (hW : (rest.map fun v => v.category).sum ≤ 8) (hdg : decode cc pc = .ok (.invokestatic index, 3)) (hf : cells + rm.cells ≤ R.cells ∧ slots + rm.slots ≤ R.slots)
    (kx : ∀ (E : String) (ce : Cell) (q9 : Addr) (u : SX) (H1 : Heap) (locs1 : List Loc), px E u → va_P g.1 vwCl (Br ++ BX u).flatten H1 → va_D A (Br ++ BX u).flatten → va_S A s.heap H1 locs1 → H1[q9]? = some ce → ce.vm = .none → s.vm.findClass E = some ce.cls → vx_W p l e R s m args below meth c H1 locs1 (cells + rm.cells) (slots + rm.slots) Q (F0 m pc ls rest) q9)
    (kk : ∀ (u : S) (H1 : Heap) (locs1 : List Loc), post u → va_P g.1 vwCl (Br ++ B1 u).flatten H1 → va_D A (Br ++ B1 u).flatten → va_S A s.heap H1 locs1 → W p l e R s m args below meth c H1 locs1 (cells + rm.cells) (slots + rm.slots) Q (F0 m (pc + 3) ls ((ret u).toList ++ rest))) :
    W p l e R s m args below meth c H locs cells slots Q (F0 m pc ls st0) := by
  have hPc : va_P g.1 vwCl Bc.flatten H := by rw [← hC]; exact zk_P hP isC
  have hDc : va_D A Bc.flatten := by rw [← hC]; exact zk_D hD isC (zk_nd hn)
  exact zrun (rm := rm) (vx_runSX St (hM H.size) cw ⟨zPc_blind', fun U hU hWm => zpre' hK hT hS hPc hDc (zfree hD hS hA isC hC) hU hWm⟩ rfl hAs hls hst (lv_room hW) hdg hf) hA hP hD hS isC isR hn hC hR kx kk
end ZH
/-! GENERAL STATES: numbers by new names, with what omega needs of them. -/
section ZG
variable {g : zG} {p : Program} {l : Launch} {e : Env} {R : Room} {s : State} {m : MethodId} {args : Array Value} {below : List Frame} {meth : Method} {c : Code} {H : Heap} {locs : List Loc} {cells slots : Nat} {A : Nat → Prop} {cc : ByteArray} {pc : Nat} {ls : Array Slot} {Q : State → Prop}
variable {rest : List Value}
theorem zg {x : Int32} (k : ∀ y : Int32, W p l e R s m args below meth c H locs cells slots Q (F0 m pc ls (.int y :: rest))) : W p l e R s m args below meth c H locs cells slots Q (F0 m pc ls (.int x :: rest)) := k x
theorem zgl {x : Int64} (k : ∀ y : Int64, W p l e R s m args below meth c H locs cells slots Q (F0 m pc ls (.long y :: rest))) : W p l e R s m args below meth c H locs cells slots Q (F0 m pc ls (.long x :: rest)) := k x
theorem zgv {x : Int32} {i : Int} (h : x.toInt = i) (k : ∀ y : Int32, y.toInt = i → W p l e R s m args below meth c H locs cells slots Q (F0 m pc ls (.int y :: rest))) : W p l e R s m args below meth c H locs cells slots Q (F0 m pc ls (.int x :: rest)) := k x h
theorem zgp {x : Int32} {P : Int32 → Prop} (h : P x) (k : ∀ y : Int32, P y → W p l e R s m args below meth c H locs cells slots Q (F0 m pc ls (.int y :: rest))) : W p l e R s m args below meth c H locs cells slots Q (F0 m pc ls (.int x :: rest)) := k x h
/-- 0 up to n -/
def zB2 (lo hi : Int) (x : Int32) : Prop := lo ≤ x.toInt ∧ x.toInt ≤ hi
theorem zgb {x : Int32} {lo hi : Int} (h : lo ≤ x.toInt ∧ x.toInt ≤ hi) (k : ∀ y : Int32, (lo ≤ y.toInt ∧ y.toInt ≤ hi) → W p l e R s m args below meth c H locs cells slots Q (F0 m pc ls (.int y :: rest))) : W p l e R s m args below meth c H locs cells slots Q (F0 m pc ls (.int x :: rest)) := k x h
theorem zgq {x r : Int32} {lo hi : Int} (e1 : x = r) (h : lo ≤ r.toInt ∧ r.toInt ≤ hi) (k : ∀ y : Int32, (lo ≤ y.toInt ∧ y.toInt ≤ hi ∧ y.toInt = r.toInt) → W p l e R s m args below meth c H locs cells slots Q (F0 m pc ls (.int y :: rest))) : W p l e R s m args below meth c H locs cells slots Q (F0 m pc ls (.int x :: rest)) := k x (by rw [e1]; exact ⟨h.1, h.2, rfl⟩)
theorem zgn {x : Int32} {ty : FieldType} (h : narrow ty (.int x) = .int x) (k : ∀ y : Int32, narrow ty (.int y) = .int y → W p l e R s m args below meth c H locs cells slots Q (F0 m pc ls (.int y :: rest))) : W p l e R s m args below meth c H locs cells slots Q (F0 m pc ls (.int x :: rest)) := k x h
theorem zgmn {x y : Int32} {i j : Int} (hx : x.toInt = i) (hy : y.toInt = j) (k : ∀ q : Int32, (q.toInt ≤ i ∧ q.toInt ≤ j ∧ (q.toInt = i ∨ q.toInt = j)) → W p l e R s m args below meth c H locs cells slots Q (F0 m pc ls (.int q :: rest))) : W p l e R s m args below meth c H locs cells slots Q (F0 m pc ls (.int (if y < x then y else x) :: rest)) := by
  refine k _ ?_
  by_cases h : y < x
  · have := Int32.lt_iff_toInt_lt.mp h
    rw [if_pos h]; omega
  · have := Int32.le_iff_toInt_le.mp (Int32.not_lt.mp h)
    rw [if_neg h]; omega
theorem zgmx {x y : Int32} {i j : Int} (hx : x.toInt = i) (hy : y.toInt = j) (k : ∀ q : Int32, (i ≤ q.toInt ∧ j ≤ q.toInt ∧ (q.toInt = i ∨ q.toInt = j)) → W p l e R s m args below meth c H locs cells slots Q (F0 m pc ls (.int q :: rest))) : W p l e R s m args below meth c H locs cells slots Q (F0 m pc ls (.int (if x < y then y else x) :: rest)) := by
  refine k _ ?_
  by_cases h : x < y
  · have := Int32.lt_iff_toInt_lt.mp h
    rw [if_pos h]; omega
  · have := Int32.le_iff_toInt_le.mp (Int32.not_lt.mp h)
    rw [if_neg h]; omega
theorem zgp2 {x : Int32} {P : Int32 → Prop} (h : P x) (k : ∀ y : Int32, P y → W p l e R s m args below meth c H locs cells slots Q (F0 m pc ls (.int y :: rest))) : W p l e R s m args below meth c H locs cells slots Q (F0 m pc ls (.int x :: rest)) := k x h
theorem ziinc (hexec : p.tables.exec = Jvm.exec) (hb : c.code = cc) {i nL k : Nat} {n j : Int} {x : Int32} {lv : List (Nat × Value)} {lv' : Int32 → List (Nat × Value)} (hdg : decode cc pc = .ok (.iinc i n, 3)) (h : lv_has ls nL lv) (hk : lv[k]? = some (i, .int x)) (hn : i < nL) (hl : ∀ v : Int32, (i, Value.int v) :: lv.filter (fun q => !(q.1 == i) && !(q.1 + 1 == i && q.2.category == 2)) = lv' v)
    (he : (x + Int32.ofInt n).toInt = j) (kk : ∀ (y : Int32) (ls' : Array Slot), y.toInt = j → lv_has ls' nL (lv' y) → W p l e R s m args below meth c H locs cells slots Q (F0 m (pc + 3) ls' rest)) : W p l e R s m args below meth c H locs cells slots Q (F0 m pc ls rest) :=
  lv_iinc hexec hb hdg h hk rfl hn (hl _) (fun ls' h' => kk _ ls' he h')
theorem ziinc3 (hexec : p.tables.exec = Jvm.exec) (hb : c.code = cc) {i nL k : Nat} {n n' j a' b' : Int} {x : Int32} {lv : List (Nat × Value)} {lv' : Int32 → List (Nat × Value)} (hdg : decode cc pc = .ok (.iinc i n, 3)) (h : lv_has ls nL lv) (hk : lv[k]? = some (i, .int x)) (hn : i < nL) (hl : ∀ v : Int32, (i, Value.int v) :: lv.filter (fun q => !(q.1 == i) && !(q.1 + 1 == i && q.2.category == 2)) = lv' v)
    (he : (x + Int32.ofInt n).toInt = j + n' ∧ a' ≤ (x + Int32.ofInt n).toInt ∧ (x + Int32.ofInt n).toInt ≤ b') (kk : ∀ (y : Int32) (ls' : Array Slot), (y.toInt = j + n' ∧ a' ≤ y.toInt ∧ y.toInt ≤ b') → lv_has ls' nL (lv' y) → W p l e R s m args below meth c H locs cells slots Q (F0 m (pc + 3) ls' rest)) : W p l e R s m args below meth c H locs cells slots Q (F0 m pc ls rest) :=
  lv_iinc hexec hb hdg h hk rfl hn (hl _) (fun ls' h' => kk _ ls' he h')
theorem zg3 {x : Int32} {i a b : Int} (h : x.toInt = i ∧ a ≤ x.toInt ∧ x.toInt ≤ b) (k : ∀ y : Int32, (y.toInt = i ∧ a ≤ y.toInt ∧ y.toInt ≤ b) → W p l e R s m args below meth c H locs cells slots Q (F0 m pc ls (.int y :: rest))) : W p l e R s m args below meth c H locs cells slots Q (F0 m pc ls (.int x :: rest)) := k x h
theorem ziincG (hexec : p.tables.exec = Jvm.exec) (hb : c.code = cc) {i nL k : Nat} {n : Int} {x : Int32} {lv : List (Nat × Value)} {lv' : Int32 → List (Nat × Value)} (hdg : decode cc pc = .ok (.iinc i n, 3)) (h : lv_has ls nL lv) (hk : lv[k]? = some (i, .int x)) (hn : i < nL) (hl : ∀ v : Int32, (i, Value.int v) :: lv.filter (fun q => !(q.1 == i) && !(q.1 + 1 == i && q.2.category == 2)) = lv' v)
    (kk : ∀ (y : Int32) (ls' : Array Slot), lv_has ls' nL (lv' y) → W p l e R s m args below meth c H locs cells slots Q (F0 m (pc + 3) ls' rest)) : W p l e R s m args below meth c H locs cells slots Q (F0 m pc ls rest) :=
  lv_iinc hexec hb hdg h hk rfl hn (hl _) (fun ls' h' => kk _ ls' h')
end ZG
theorem zbm {n : Int} (h1 : -2147483648 ≤ n) (h2 : n ≤ 2147483647) : n.bmod (2 ^ 32) = n := Int.bmod_eq_of_le (by omega) (by omega)
theorem zadd {x y : Int32} {i j : Int} (hx : x.toInt = i) (hy : y.toInt = j) (h : -2147483648 ≤ i + j ∧ i + j ≤ 2147483647) : (x + y).toInt = i + j := by
  rw [Int32.toInt_add, hx, hy]; exact zbm h.1 h.2
theorem zsub {x y : Int32} {i j : Int} (hx : x.toInt = i) (hy : y.toInt = j) (h : -2147483648 ≤ i - j ∧ i - j ≤ 2147483647) : (x - y).toInt = i - j := by
  rw [Int32.toInt_sub, hx, hy]; exact zbm h.1 h.2
theorem zmul {x y : Int32} {i j : Int} (hx : x.toInt = i) (hy : y.toInt = j) (h : -2147483648 ≤ i * j ∧ i * j ≤ 2147483647) : (x * y).toInt = i * j := by
  rw [Int32.toInt_mul, hx, hy]; exact zbm h.1 h.2
theorem zneg {x : Int32} {i : Int} (hx : x.toInt = i) (h : -2147483648 ≤ -i ∧ -i ≤ 2147483647) : (-x).toInt = -i := by
  rw [Int32.toInt_neg, hx]; exact zbm h.1 h.2
theorem zlti {x y : Int32} {i j : Int} (h : x < y) (hx : x.toInt = i) (hy : y.toInt = j) : i < j := by rw [← hx, ← hy]; exact Int32.lt_iff_toInt_lt.mp h
theorem zle {x y : Int32} {i j : Int} (h : x ≤ y) (hx : x.toInt = i) (hy : y.toInt = j) : i ≤ j := by rw [← hx, ← hy]; exact Int32.le_iff_toInt_le.mp h
theorem zeq {x y : Int32} {i j : Int} (h : x = y) (hx : x.toInt = i) (hy : y.toInt = j) : i = j := by rw [← hx, ← hy, h]
theorem zne {x y : Int32} {i j : Int} (h : ¬ x = y) (hx : x.toInt = i) (hy : y.toInt = j) : ¬ i = j := by
  intro q; exact h (Int32.toInt_inj.mp (by rw [hx, hy, q]))
theorem zaddK {x y : Int32} {i j a b c d a' b' : Int} (hx : x.toInt = i) (hy : y.toInt = j) (l1 : a ≤ i) (h1 : i ≤ b) (l2 : c ≤ j) (h2 : j ≤ d) (e : a' = a + c ∧ b' = b + d ∧ -2147483648 ≤ a' ∧ b' ≤ 2147483647) : (x + y).toInt = i + j ∧ a' ≤ (x + y).toInt ∧ (x + y).toInt ≤ b' := by
  have h := zadd hx hy (by omega)
  rw [h]; omega
theorem zsubK {x y : Int32} {i j a b c d a' b' : Int} (hx : x.toInt = i) (hy : y.toInt = j) (l1 : a ≤ i) (h1 : i ≤ b) (l2 : c ≤ j) (h2 : j ≤ d) (e : a' = a - d ∧ b' = b - c ∧ -2147483648 ≤ a' ∧ b' ≤ 2147483647) : (x - y).toInt = i - j ∧ a' ≤ (x - y).toInt ∧ (x - y).toInt ≤ b' := by
  have h := zsub hx hy (by omega)
  rw [h]; omega
theorem zmulKR {x y : Int32} {i a b a' b' : Int} {n : Nat} (hx : x.toInt = i) (hy : y.toInt = (n : Int)) (l1 : a ≤ i) (h1 : i ≤ b) (e : a' = a * (n : Int) ∧ b' = b * (n : Int)) (e2 : -2147483648 ≤ a' ∧ b' ≤ 2147483647) : (x * y).toInt = i * (n : Int) ∧ a' ≤ (x * y).toInt ∧ (x * y).toInt ≤ b' := by
  have g1 : a * (n : Int) ≤ i * (n : Int) := Int.mul_le_mul_of_nonneg_right l1 (Int.natCast_nonneg n)
  have g2 : i * (n : Int) ≤ b * (n : Int) := Int.mul_le_mul_of_nonneg_right h1 (Int.natCast_nonneg n)
  have h := zmul hx hy ⟨by omega, by omega⟩
  rw [h]; exact ⟨rfl, by omega, by omega⟩
theorem zmulKL {x y : Int32} {i a b a' b' : Int} {n : Nat} (hx : x.toInt = i) (hy : y.toInt = (n : Int)) (l1 : a ≤ i) (h1 : i ≤ b) (e : a' = a * (n : Int) ∧ b' = b * (n : Int)) (e2 : -2147483648 ≤ a' ∧ b' ≤ 2147483647) : (y * x).toInt = i * (n : Int) ∧ a' ≤ (y * x).toInt ∧ (y * x).toInt ≤ b' := by
  rw [show y * x = x * y from Int32.mul_comm y x]; exact zmulKR hx hy l1 h1 e e2
theorem zL1 {i j b b' : Int} (c : i < j) (h : j ≤ b) (e : b = b' + 1) : i ≤ b' := by omega
theorem zL2 {i j a a' : Int} (c : i < j) (h : a ≤ i) (e : a' = a + 1) : a' ≤ j := by omega
theorem zN1 {i j a' : Int} (c : ¬ i = j) (l : j ≤ i) (e : a' = j + 1) : a' ≤ i := by omega
theorem zN2 {i j b' : Int} (c : ¬ i = j) (l : i ≤ j) (e : j = b' + 1) : i ≤ b' := by omega
theorem zDlt {i j a b : Int} (l : a ≤ i) (h : j ≤ b) (e : b ≤ a) : ¬ i < j := by omega
theorem zDle {i j a b : Int} (l : a ≤ i) (h : j ≤ b) (e : b < a) : ¬ i ≤ j := by omega
theorem zDeq1 {i j a b : Int} (h : i ≤ a) (l : b ≤ j) (e : a < b) : ¬ i = j := by omega
theorem zDeq2 {i j a b : Int} (l : a ≤ i) (h : j ≤ b) (e : b < a) : ¬ i = j := by omega
theorem zmK {x y n b b' : Int} {kf : Nat} (e : y = x + n) (hn : 0 < n) (hx : x ≤ b') (hb : b' < b) (hk : (b - x).toNat < kf + 1) : (b - y).toNat < kf := by omega
theorem zmKd {x y n a a' : Int} {kf : Nat} (e : y = x + n) (hn : n < 0) (hx : a' ≤ x) (ha : a ≤ a') (hk : (x - a + 1).toNat < kf + 1) : (y - a + 1).toNat < kf := by omega
theorem zne0 {y : Int32} (h : ¬ y.toInt = 0) : ¬ y = 0 := fun q => h (by rw [q]; rfl)
theorem zinI {i : Int32} {n : Nat} (h0 : 0 ≤ i.toInt) (h1 : i.toInt < (n : Int)) : vp_in i n := vp_in_iff.mpr ⟨h0, h1⟩
theorem zinK {i : Int32} {n : Nat} {a b : Int} (l : a ≤ i.toInt) (h : i.toInt ≤ b) (e : 0 ≤ a ∧ b < (n : Int)) : vp_in i n := vp_in_iff.mpr ⟨Int.le_trans e.1 l, Int.lt_of_le_of_lt h e.2⟩
theorem zcl (i : Int32) : i.toNatClampNeg = i.toInt.toNat := rfl
theorem zsm {j : Int} {y : Int32} (hy : y.toInt = j) {k : Nat} (h0 : 0 ≤ j) (h1 : j ≤ (k : Int)) : ∃ n : Nat, n ≤ k ∧ y = nI n ∧ j = (n : Int) := by
  refine ⟨j.toNat, by omega, ?_, by omega⟩
  have hb : y.toInt < 2147483648 := by have := Int32.toInt_lt y; omega
  apply Int32.toInt_inj.mp
  rw [nI_toInt (by omega), hy]; omega
theorem zshl1 {y : Int32} {j : Int} (hy : y.toInt = j) (k : Nat) (K : Int) (hK : K = ((2 ^ k : Nat) : Int)) (hk : k ≤ 8) (h : 0 ≤ j ∧ j ≤ (k : Int)) : 1 ≤ ((1 : Int32) <<< (y &&& 31)).toInt ∧ ((1 : Int32) <<< (y &&& 31)).toInt ≤ K := by
  obtain ⟨n, h1, rfl, -⟩ := zsm hy h.1 h.2
  subst hK
  have q : ∀ k, k ≤ 8 → ∀ n, n ≤ k → 1 ≤ ((1 : Int32) <<< (nI n &&& 31)).toInt ∧ ((1 : Int32) <<< (nI n &&& 31)).toInt ≤ (2 ^ k : Nat) := by decide +kernel
  exact q k hk n h1
theorem zandM (x : Int32) (k : Nat) {m : Int32} (hm : m.toBitVec.toNat = 2 ^ k - 1) (hk : k ≤ 16) : 0 ≤ (x &&& m).toInt ∧ (x &&& m).toInt ≤ (2 ^ k : Nat) - 1 := by
  obtain ⟨j, h1, h2⟩ := pk_andE x k hm
  have h3 : 2 ^ k ≤ 2 ^ 16 := Nat.pow_le_pow_right (by decide) hk
  rw [h2, nI_toInt (by omega)]; omega
theorem zand1 (x : Int32) : 0 ≤ (x &&& 1).toInt ∧ (x &&& 1).toInt ≤ 1 := zandM x 1 (by decide) (by decide)
theorem zand63 (x : Int32) : 0 ≤ (x &&& 63).toInt ∧ (x &&& 63).toInt ≤ 63 := zandM x 6 (by decide) (by decide)
theorem zand255 (x : Int32) : 0 ≤ (x &&& 255).toInt ∧ (x &&& 255).toInt ≤ 255 := zandM x 8 (by decide) (by decide)
theorem zand32767 (x : Int32) : 0 ≤ (x &&& 32767).toInt ∧ (x &&& 32767).toInt ≤ 32767 := zandM x 15 (by decide) (by decide)
theorem znN {x : Int32} {j : Int} (hx : x.toInt = j) (h0 : 0 ≤ j) : ∃ n : Nat, n < 2 ^ 31 ∧ x = nI n ∧ j = (n : Int) := by
  obtain ⟨n, h1, h2, h3⟩ := zsm (k := 2147483647) hx h0 (by have := Int32.toInt_lt x; omega)
  exact ⟨n, by omega, h2, h3⟩
theorem zdN {d : Nat} {y : Int32} (hy : y.toInt = (d : Int)) : y = nI d ∧ d < 2 ^ 31 := by
  obtain ⟨n, h1, h2, h3⟩ := znN hy (by omega)
  have : d = n := by omega
  subst this; exact ⟨h2, h1⟩
theorem zrem {x y : Int32} {j : Int} {d : Nat} (hx : x.toInt = j) (hy : y.toInt = (d : Int)) (h0 : 0 ≤ j) (hd : 0 < d) : 0 ≤ (x - x / y * y).toInt ∧ (x - x / y * y).toInt ≤ (d : Int) - 1 := by
  obtain ⟨n, h1, rfl, h3⟩ := znN hx h0
  obtain ⟨rfl, h4⟩ := zdN hy
  rw [pk_rem h1 hd h4, nI_toInt (by have := Nat.mod_lt n hd; omega)]
  have := Nat.mod_lt n hd; omega
theorem zdiv {x y : Int32} {j : Int} {d : Nat} (hx : x.toInt = j) (hy : y.toInt = (d : Int)) (h0 : 0 ≤ j) (hd : 0 < d) : 0 ≤ (x / y).toInt ∧ (x / y).toInt ≤ j := by
  obtain ⟨n, h1, rfl, h3⟩ := znN hx h0
  obtain ⟨rfl, h4⟩ := zdN hy
  have := Nat.div_le_self n d
  rw [pk_div h1 hd h4, nI_toInt (by omega)]
  generalize n / d = t at this ⊢
  omega
theorem zb01 {v : Int32} (h : 0 ≤ v.toInt ∧ v.toInt ≤ 1) : v = 0 ∨ v = 1 := by
  rcases (show v.toInt = 0 ∨ v.toInt = 1 by omega) with e | e
  · exact Or.inl (Int32.toInt_inj.mp (by rw [e]; rfl))
  · exact Or.inr (Int32.toInt_inj.mp (by rw [e]; rfl))
theorem znn {n : Int32} (h : 0 ≤ n.toInt) : ¬ n < 0 := fun q => by have := zlti q rfl (by decide : (0 : Int32).toInt = 0); omega
theorem zdiv32 (x : Int32) : -67108864 ≤ (x / 32).toInt ∧ (x / 32).toInt ≤ 67108863 := by
  have h := Int32.toInt_div x 32
  have h1 := Int32.toInt_lt x
  have h2 := Int32.le_toInt x
  have e : (32 : Int32).toInt = 32 := by decide
  rw [e] at h
  have h3 : -67108864 ≤ x.toInt.tdiv 32 ∧ x.toInt.tdiv 32 ≤ 67108863 := by
    rcases Int.lt_or_le x.toInt 0 with q | q
    · have e2 : x.toInt.tdiv 32 = -((-x.toInt).tdiv 32) := by rw [Int.neg_tdiv]; omega
      rw [e2, Int.tdiv_eq_ediv_of_nonneg (by omega)]
      omega
    · rw [Int.tdiv_eq_ediv_of_nonneg q]
      omega
  rw [h, zbm (by omega) (by omega)]
  exact h3
theorem zrem2_60 (x : Int32) : -60 < (x - x / 60 * 60).toInt ∧ (x - x / 60 * 60).toInt < 60 ∧ (0 ≤ x.toInt → 0 ≤ (x - x / 60 * 60).toInt) ∧ (x.toInt < 0 → (x - x / 60 * 60).toInt ≤ 0) := by
  have h1 := Int32.toInt_lt x
  have h2 := Int32.le_toInt x
  have e : (60 : Int32).toInt = 60 := by decide
  have hq := Int32.toInt_div x 60
  rw [e] at hq
  rcases Int.lt_or_le x.toInt 0 with c | c
  · have e2 : x.toInt.tdiv 60 = -((-x.toInt) / 60) := by
      rw [← Int.tdiv_eq_ediv_of_nonneg (show 0 ≤ -x.toInt by omega), Int.neg_tdiv]; omega
    rw [e2, zbm (by omega) (by omega)] at hq
    have hm := zmul (x := x / 60) (y := 60) hq e (by omega)
    have hs := zsub (x := x) (y := x / 60 * 60) rfl hm (by omega)
    rw [hs]; omega
  · rw [Int.tdiv_eq_ediv_of_nonneg c, zbm (by omega) (by omega)] at hq
    have hm := zmul (x := x / 60) (y := 60) hq e (by omega)
    have hs := zsub (x := x) (y := x / 60 * 60) rfl hm (by omega)
    rw [hs]; omega
theorem zrem2_12 (x : Int32) : -12 < (x - x / 12 * 12).toInt ∧ (x - x / 12 * 12).toInt < 12 ∧ (0 ≤ x.toInt → 0 ≤ (x - x / 12 * 12).toInt) ∧ (x.toInt < 0 → (x - x / 12 * 12).toInt ≤ 0) := by
  have h1 := Int32.toInt_lt x
  have h2 := Int32.le_toInt x
  have e : (12 : Int32).toInt = 12 := by decide
  have hq := Int32.toInt_div x 12
  rw [e] at hq
  rcases Int.lt_or_le x.toInt 0 with c | c
  · have e2 : x.toInt.tdiv 12 = -((-x.toInt) / 12) := by
      rw [← Int.tdiv_eq_ediv_of_nonneg (show 0 ≤ -x.toInt by omega), Int.neg_tdiv]; omega
    rw [e2, zbm (by omega) (by omega)] at hq
    have hm := zmul (x := x / 12) (y := 12) hq e (by omega)
    have hs := zsub (x := x) (y := x / 12 * 12) rfl hm (by omega)
    rw [hs]; omega
  · rw [Int.tdiv_eq_ediv_of_nonneg c, zbm (by omega) (by omega)] at hq
    have hm := zmul (x := x / 12) (y := 12) hq e (by omega)
    have hs := zsub (x := x) (y := x / 12 * 12) rfl hm (by omega)
    rw [hs]; omega
theorem zxorS (x y : Int32) (hy : 0 ≤ y.toInt) : (x ^^^ y).toInt < 0 ↔ x.toInt < 0 := by
  have h : ∀ z : Int32, z.toInt < 0 ↔ z.toBitVec.msb = true := fun z => by
    rw [BitVec.msb_eq_toInt, decide_eq_true_iff]; rfl
  have hy2 : y.toBitVec.msb = false := by
    cases q : y.toBitVec.msb
    · rfl
    · exact absurd ((h y).mpr q) (by omega)
  rw [h, h, Int32.toBitVec_xor, BitVec.msb_xor, hy2, Bool.xor_false]
/-- so that omega doesn't look into it -/
def zImp (p q : Prop) : Prop := p → q
def zBa (x : Int) : Prop := x = -1 ∨ x = 379
def zKd (k b n : Int) : Prop := k = 0 ∨ b < n
/-- one of several arrays -/
def zu (f : Nat → Nat → Int32) (k : Nat) (x : Nat → Int32) : Nat → Nat → Int32 := fun j => if j = k then x else f j
/-! the model's row: what its places hold -/
def rM (f : Nat → Int32) : Prop := (0 ≤ (f 2).toInt ∧ (f 2).toInt ≤ 400) ∧ (0 ≤ (f 3).toInt ∧ (f 3).toInt ≤ 8) ∧ (0 ≤ (f 4).toInt ∧ (f 4).toInt ≤ 6) ∧ (0 ≤ (f 9).toInt ∧ (f 9).toInt ≤ 60)
theorem rM2 {f : Nat → Int32} (h : rM f) : 0 ≤ (f 2).toInt ∧ (f 2).toInt ≤ 400 := h.1
theorem rM3 {f : Nat → Int32} (h : rM f) : 0 ≤ (f 3).toInt ∧ (f 3).toInt ≤ 8 := h.2.1
theorem rM4 {f : Nat → Int32} (h : rM f) : 0 ≤ (f 4).toInt ∧ (f 4).toInt ≤ 6 := h.2.2.1
theorem rM9 {f : Nat → Int32} (h : rM f) : 0 ≤ (f 9).toInt ∧ (f 9).toInt ≤ 60 := h.2.2.2
theorem rM_pt {lo hi : Int} {f : Nat → Int32} {k q : Nat} {v : Int32} (h : lo ≤ (f q).toInt ∧ (f q).toInt ≤ hi) (hv : k = q → lo ≤ v.toInt ∧ v.toInt ≤ hi) : lo ≤ (upd f k v q).toInt ∧ (upd f k v q).toInt ≤ hi := by
  unfold upd
  by_cases e : q = k
  · rw [if_pos e]; exact hv e.symm
  · rw [if_neg e]; exact h
theorem rM_up {f : Nat → Int32} {k : Nat} {v : Int32} (h : rM f) (hc : (k = 2 → 0 ≤ v.toInt ∧ v.toInt ≤ 400) ∧ (k = 3 → 0 ≤ v.toInt ∧ v.toInt ≤ 8) ∧ (k = 4 → 0 ≤ v.toInt ∧ v.toInt ≤ 6) ∧ (k = 9 → 0 ≤ v.toInt ∧ v.toInt ≤ 60)) : rM (upd f k v) :=
  ⟨rM_pt h.1 hc.1, rM_pt h.2.1 hc.2.1, rM_pt h.2.2.1 hc.2.2.1, rM_pt h.2.2.2 hc.2.2.2⟩
theorem rM_st {f : Nat → Int32} {i v : Int32} {j w : Int} (h : rM f) (hi : i.toInt = j) (hv : v.toInt = w) (hc : (j = 2 → 0 ≤ w ∧ w ≤ 400) ∧ (j = 3 → 0 ≤ w ∧ w ≤ 8) ∧ (j = 4 → 0 ≤ w ∧ w ≤ 6) ∧ (j = 9 → 0 ≤ w ∧ w ≤ 60)) : rM (upd f i.toNatClampNeg v) := by
  obtain ⟨h1, h2, h3, h4⟩ := hc
  rw [zcl, hi]
  refine rM_up h ⟨fun e => ?_, fun e => ?_, fun e => ?_, fun e => ?_⟩
  · rw [hv]; exact h1 (by omega)
  · rw [hv]; exact h2 (by omega)
  · rw [hv]; exact h3 (by omega)
  · rw [hv]; exact h4 (by omega)
theorem rM_stL {f : Nat → Int32} {k : Nat} {v : Int32} (h : rM f) (e : k ≠ 2 ∧ k ≠ 3 ∧ k ≠ 4 ∧ k ≠ 9) : rM (upd f k v) := rM_up h ⟨fun q => absurd q e.1, fun q => absurd q e.2.1, fun q => absurd q e.2.2.1, fun q => absurd q e.2.2.2⟩
theorem rM_stB {f : Nat → Int32} {i v : Int32} (h : rM f) (l : 11 ≤ i.toInt) : rM (upd f i.toNatClampNeg v) := by
  rw [zcl]; exact rM_stL h ⟨by omega, by omega, by omega, by omega⟩
theorem rM_s2 {f : Nat → Int32} {v : Int32} (h : rM f) (hw : 0 ≤ v.toInt ∧ v.toInt ≤ 400) : rM (upd f 2 v) := rM_up h ⟨fun _ => hw, fun e => absurd e (by decide), fun e => absurd e (by decide), fun e => absurd e (by decide)⟩
theorem rM_s3 {f : Nat → Int32} {v : Int32} (h : rM f) (hw : 0 ≤ v.toInt ∧ v.toInt ≤ 8) : rM (upd f 3 v) := rM_up h ⟨fun e => absurd e (by decide), fun _ => hw, fun e => absurd e (by decide), fun e => absurd e (by decide)⟩
theorem rM_s4 {f : Nat → Int32} {v : Int32} (h : rM f) (hw : 0 ≤ v.toInt ∧ v.toInt ≤ 6) : rM (upd f 4 v) := rM_up h ⟨fun e => absurd e (by decide), fun e => absurd e (by decide), fun _ => hw, fun e => absurd e (by decide)⟩
theorem rM_s9 {f : Nat → Int32} {v : Int32} (h : rM f) (hw : 0 ≤ v.toInt ∧ v.toInt ≤ 60) : rM (upd f 9 v) := rM_up h ⟨fun e => absurd e (by decide), fun e => absurd e (by decide), fun e => absurd e (by decide), fun _ => hw⟩
theorem rM_kp {f : Nat → Int32} {i v : Int32} {j : Int} (hi : i.toInt = j) (h : 11 ≤ j) : (upd f i.toNatClampNeg v 3).toInt = (f 3).toInt ∧ (upd f i.toNatClampNeg v 4).toInt = (f 4).toInt := by
  rw [zcl, hi]
  unfold upd
  rw [if_neg (by omega), if_neg (by omega)]
  exact ⟨rfl, rfl⟩
/-- a place copied from a row of the same kind -/
theorem rM_cp {f f2 : Nat → Int32} {k : Nat} (h : rM f) (h2 : rM f2) : rM (upd f k (f2 k)) :=
  rM_up h ⟨fun e => e ▸ h2.1, fun e => e ▸ h2.2.1, fun e => e ▸ h2.2.2.1, fun e => e ▸ h2.2.2.2⟩
/-- the acts: twelve such rows -/
def rC (f : Nat → Int32) : Prop := ∀ j : Nat, j < 12 → rM (fun k => f (379 * j + k))
theorem zSt_recv {bs : List Int32} {k v : Nat} {A : Nat → Prop} {s : State} {H : Heap} {locs : List Loc} (h : zSt bs k v A s) (hS : va_S A s.heap H locs) : ∃ cell : Cell, H[k]? = some cell ∧ cell.vm.isStatics = false ∧ s.vm.findClass "java/lang/String" = some cell.cls := vk_recv (i := 0) (adK := fun _ => k) h Nat.one_pos hS
theorem zsh0 {x : Int32} {i : Int} (h : x.toInt = i) : (x >>> ((0 : Int32) &&& 31)).toInt = i := by
  rw [pk_shr x _ 0 (by decide), h]; simp
section ZSR
variable {S : Type} {g : zG} {ret : S → Option Value} {post : S → Prop} {B1 : S → List va_W} {rm : Room}
variable {p : Program} {l : Launch} {e : Env} {R : Room} {s : State} {m : MethodId} {args : Array Value} {below : List Frame} {meth : Method} {c : Code} {H : Heap} {locs : List Loc} {cells slots : Nat} {A : Nat → Prop} {cc : ByteArray} {pc : Nat} {ls : Array Slot}
theorem mret_n {ty : FieldType} {v : Int32} (hx : p.tables.exec = Jvm.exec) (hb : c.code = cc) (hr : meth.sig.returnType = some ty) (hlocks : meth.locks = false) (hS : va_S A s.heap H locs) (hc : cells ≤ rm.cells) (hs : slots ≤ rm.slots) (hdg : decode cc pc = .ok (.ireturn, 1))
    (u : S) (hret : ret u = some (.int v)) (hv : narrow ty (.int v) = .int v) (hpost : post u) (hP : va_P g.1 vwCl (B1 u).flatten H) (hD : va_D A (B1 u).flatten) : W p l e R s m args below meth c H locs cells slots (zF g ret post B1 rm below args s A) (F0 m pc ls [.int v]) := by
  refine W.widen hc hs ((W.zret (ty := ty) hx hb hr hv (fun t ht hW => ?_) hS.2.2 hdg hlocks))
  exact ⟨⟨u, by rw [hret], hpost, by rw [ht]; exact hP, hD⟩, hS.F ht⟩
variable {Q : State → Prop} {Bs Bc Br : List va_W} {st0 rest : List Value} {y : MethodName} {bytes : ByteArray} {maxL nL n index : Nat} {rt : Option FieldType} {ws Ts : List Cond} {own C : String} {b : Addr} {As : List Value}
/-- a virtual call on a literal -/
theorem mcallL' (St : CallFix p m c cc nL s args Ts own) (hK : zK g s) (hT : zTh' g A s) (hA : ∀ q, s.heap.size ≤ q → A q) (hP : va_P g.1 vwCl Bs.flatten H) (hD : va_D A Bs.flatten) (hS : va_S A s.heap H locs) (hls : ls.size = nL)
    (isC isR : List Nat) (hn : va_nd (isC ++ isR) = true) (hC : zk Bs isC = Bc) (hR : zk Bs isR = Br) (hM : zM' g l y ws rm (.ref b :: As) Bc ret post B1) (cw : CallW R s args own C index y bytes maxL rt ws rm rm.cells rm.slots n)
    (hrv : ∃ cell : Cell, H[b]? = some cell ∧ cell.vm.isStatics = false ∧ s.vm.findClass C = some cell.cls) (hAs : As.length = n) (hst : st0 = As.reverse ++ .ref b :: rest) (hW : (rest.map fun v => v.category).sum ≤ 8) (hdg : decode cc pc = .ok (.invokevirtual index, 3)) (hf : cells + rm.cells ≤ R.cells ∧ slots + rm.slots ≤ R.slots)
    (kk : ∀ (u : S) (H1 : Heap) (locs1 : List Loc), post u → va_P g.1 vwCl (Br ++ B1 u).flatten H1 → va_D A (Br ++ B1 u).flatten → va_S A s.heap H1 locs1 → W p l e R s m args below meth c H1 locs1 (cells + rm.cells) (slots + rm.slots) Q (F0 m (pc + 3) ls ((ret u).toList ++ rest))) :
    W p l e R s m args below meth c H locs cells slots Q (F0 m pc ls st0) := by
  have hPc : va_P g.1 vwCl Bc.flatten H := by rw [← hC]; exact zk_P hP isC
  have hDc : va_D A Bc.flatten := by rw [← hC]; exact zk_D hD isC (zk_nd hn)
  refine zrunM (rm := rm) (va_runV St (hM H.size) cw ⟨zPc_blind', hrv, fun U hU hWm => zpre' hK hT hS hPc hDc (zfree hD hS hA isC hC) hU hWm⟩ rfl hAs hls hst (lv_room hW) hdg hf) hA hP hD hS isC isR hn hC hR kk
end ZSR
