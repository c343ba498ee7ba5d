/-! methods with a table of their own: the law's helpers -/
theorem zX.ofH {S SX : Type} {g : zG} {l : Launch} {y : MethodName} {ws : List Cond} {rm : Room} {av : List Value} {Bs : List va_W} {ret : S → Option Value} {post : S → Prop} {B1 : S → List va_W} {px : String → SX → Prop} {BX : SX → List va_W} {cc : ByteArray} {maxL : Nat} {rt : Option FieldType} {hh : List (Nat × Nat × Nat × Nat)}
    (hy : plainName y.cls = true) (hw : ws = Cond.codeWith y cc maxL rt hh :: zB) (hn : (lg_sl av).length ≤ maxL)
    (body : ∀ (p : Program) (e : Env) (s : State) (m : MethodId) (args : Array Value) (below : List Frame) (meth : Method) (c : Code) (A : Nat → Prop) (ls : Array Slot), CallFix p m c cc maxL s args zB y.cls → meth.sig.returnType = rt → meth.locks = false → c.exceptionTable.toList = tableOf hh → meth.name = y.name →
      zK g s → zTh A s → (∀ q, s.heap.size ≤ q → A q) → va_P g.1 vwCl Bs.flatten s.heap → va_D A Bs.flatten → va_S A s.heap s.heap [] → lv_has ls maxL (lv_args 0 av) →
      W p l e rm s m args below meth c s.heap [] 0 0 (zE g ret post B1 px BX rm below args s A) (F0 m 0 ls [])) : zX g l y ws rm av Bs ret post B1 px BX := by
  intro sz
  refine vx_ofWH (cc := cc) (maxL := maxL) (ret := rt) (hh := hh) hy hw ?_
  intro p e s m args below meth c s₁ B hml hv
  obtain ⟨rfl, hsz, hP, hK, hD0, hTh⟩ := hv
  subst hsz
  have hl := lv_entry av (n := maxL) hn
  rw [lg_entry_eq]
  generalize (lg_sl av ++ List.replicate (maxL - (lg_sl av).length) Slot.unset).toArray = ls at hl ⊢
  have htab := vx_table (x := y) B (atoms_spec (ws := ws) B.pre _ (by rw [hw]; exact List.mem_cons_self))
  exact body p e s m _ below meth c _ ls ⟨B.exec, B.bytes, hml, findClass_of_methodNamed B.named, fun w hw9 => atoms_spec (ws := ws) B.pre w (by rw [hw]; exact List.mem_cons_of_mem _ hw9)⟩ B.returns B.notSynchronized htab (name_of_methodNamed B.named B.method).1 hK hTh (fun q h => Or.inr h) hP (hD0.self (sz := s.heap.size)) va_S.rf hl
section ZH
variable {S SX : Type} {g : zG} {ret : S → Option Value} {post : S → Prop} {B1 : S → List va_W} {px : String → SX → Prop} {BX : SX → List va_W} {rm : Room}
variable {p : Program} {l : Launch} {e : Env} {R : Room} {s : State} {m : MethodId} {args : Array Value} {below : List Frame} {meth : Method} {c : Code} {H : Heap} {locs : List Loc} {cells slots : Nat} {A : Nat → Prop} {cc : ByteArray} {pc : Nat} {ls : Array Slot} {Q : State → Prop}
variable {Bs Bc Br : List va_W} {st0 rest : List Value}
variable {y : MethodName} {bytes : ByteArray} {maxL nL n index q0 ci N : Nat} {rt : Option FieldType} {ws Ts : List Cond} {own C : String} {T : u_T} {b : Addr} {As fs : List Value}
theorem xcallSX {hh : List (Nat × Nat × Nat × Nat)} (St : CallFix p m c cc nL s args Ts own) (hK : zK g s) (hT : zTh A s) (hA : ∀ q, s.heap.size ≤ q → A q) (hP : va_P g.1 vwCl Bs.flatten H) (hD : va_D A Bs.flatten) (hS : va_S A s.heap H locs) (hls : ls.size = nL)
    (isC isR : List Nat) (hn : va_nd (isC ++ isR) = true) (hC : zk Bs isC = Bc) (hR : zk Bs isR = Br) (hM : zX g l y ws rm As Bc ret post B1 px BX) (cw : vx_CSW R s args own index y bytes maxL rt hh ws rm rm.cells rm.slots n)
    (hAs : As.length = n) (hst : st0 = As.reverse ++ rest) (hW : (rest.map fun v => v.category).sum ≤ 8) (hdg : decode cc pc = .ok (.invokestatic index, 3)) (hf : cells + rm.cells ≤ R.cells ∧ slots + rm.slots ≤ R.slots)
    (kx : ∀ (E : String) (ce : Cell) (q9 : Addr) (u : SX) (H1 : Heap) (locs1 : List Loc), px E u → va_P g.1 vwCl (Br ++ BX u).flatten H1 → va_D A (Br ++ BX u).flatten → va_S A s.heap H1 locs1 → H1[q9]? = some ce → ce.vm = .none → s.vm.findClass E = some ce.cls → vx_W p l e R s m args below meth c H1 locs1 (cells + rm.cells) (slots + rm.slots) Q (F0 m pc ls rest) q9)
    (kk : ∀ (u : S) (H1 : Heap) (locs1 : List Loc), post u → va_P g.1 vwCl (Br ++ B1 u).flatten H1 → va_D A (Br ++ B1 u).flatten → va_S A s.heap H1 locs1 → W p l e R s m args below meth c H1 locs1 (cells + rm.cells) (slots + rm.slots) Q (F0 m (pc + 3) ls ((ret u).toList ++ rest))) :
    W p l e R s m args below meth c H locs cells slots Q (F0 m pc ls st0) := by
  have hPc : va_P g.1 vwCl Bc.flatten H := by rw [← hC]; exact zk_P hP isC
  have hDc : va_D A Bc.flatten := by rw [← hC]; exact zk_D hD isC (zk_nd hn)
  exact zrun (rm := rm) (vx_runSX St (hM H.size) cw ⟨zPc_blind, fun U hU hWm => zpre hK hT hS hPc hDc (zfree hD hS hA isC hC) hU hWm⟩ rfl hAs hls hst (lv_room hW) hdg hf) hA hP hD hS isC isR hn hC hR kx kk
end ZH
