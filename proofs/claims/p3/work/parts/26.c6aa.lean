/-- as zM'.of, of a member for which the machine has no entry of its own -/
theorem zM'.ofF {S : Type} {g : zG} {l : Launch} {y : MethodName} {ws : List Cond} {rm : Room} {av : List Value} {Bs : List va_W} {ret : S → Option Value} {post : S → Prop} {B1 : S → List va_W} {cc : ByteArray} {maxL : Nat} {rt : Option FieldType}
    (hy : plainFor y = true) (hw : ws = Cond.code y cc maxL rt :: zB) (hn : (lg_sl av).length ≤ maxL)
    (body : ∀ (p : Program) (e : Env) (s : State) (m : MethodId) (args : Array Value) (below : List Frame) (meth : Method) (c : Code) (A : Nat → Prop) (ls : Array Slot), CallFix p m c cc maxL s args zB y.cls → meth.sig.returnType = rt → meth.locks = false → meth.name = y.name →
      zK g s → zTh' g A s → (∀ q, s.heap.size ≤ q → A q) → va_P g.1 vwCl Bs.flatten s.heap → va_D A Bs.flatten → va_S A s.heap s.heap [] → lv_has ls maxL (lv_args 0 av) →
      W p l e rm s m args below meth c s.heap [] 0 0 (zF g ret post B1 rm below args s A) (F0 m 0 ls [])) : zM' g l y ws rm av Bs ret post B1 := by
  intro sz
  refine va_MetF (cc := cc) (maxL := maxL) (ret := rt) hy hw ?_
  intro p e s m args below meth c s₁ B hml hv
  obtain ⟨rfl, hsz, hP, hK, hD0, hTh⟩ := hv
  subst hsz
  have hl := lv_entry av (n := maxL) hn
  rw [lg_entry_eq]
  generalize (lg_sl av ++ List.replicate (maxL - (lg_sl av).length) Slot.unset).toArray = ls at hl ⊢
  exact body p e s m _ below meth c _ ls ⟨B.exec, B.bytes, hml, findClass_of_methodNamed B.named, fun w hw9 => atoms_spec (ws := ws) B.pre w (by rw [hw]; exact List.mem_cons_of_mem _ hw9)⟩ B.returns B.notSynchronized (name_of_methodNamed B.named B.method).1 hK hTh (fun q h => Or.inr h) hP (hD0.self (sz := s.heap.size)) va_S.rf hl
set_option maxRecDepth 100000 in
set_option maxHeartbeats 4000000 in
theorem j_floorMod60 (l : Launch) (g : zG) (x1 : Int32)  : zM' g l yJ9_floorMod_7cf53 (Cond.code yJ9_floorMod_7cf53 cJ9_floorMod_7cf53 3 (some .int) :: zB) ({ frames := 0, cells := 0, slots := 0, locals := 0 } : Room) [.int x1, .int 60] [] (fun (q : Int32) => some (.int q)) (fun (q : Int32) => (0 ≤ q.toInt ∧ q.toInt ≤ 59)) (fun (q : Int32) => []) := by
  refine zM'.ofF (cc := cJ9_floorMod_7cf53) (maxL := 3) (rt := (some .int)) (by decide +kernel) rfl (Nat.le_of_ble_eq_true rfl) ?_
  intro p e s m args below meth c A ls St hr hlocks hin hK hT hA hP hD hS hl
  obtain ⟨hx, hb, hml, hown, hts⟩ := id St
  have hl : lv_has ls 3 [(0, .int x1), (1, .int 60)] := hl
  refine lv_iload_n hx hb dJ9_floorMod_7cf53_0 rfl (lv_at hl 0 rfl) ?_
  refine lv_iload_n hx hb dJ9_floorMod_7cf53_1 rfl (lv_at hl 1 rfl) ?_
  refine lv_irem hx hb dJ9_floorMod_7cf53_2 (by decide) ?_
  refine zgp2 (P := fun r9 : Int32 => -60 < r9.toInt ∧ r9.toInt < 60 ∧ (0 ≤ x1.toInt → 0 ≤ r9.toInt) ∧ (x1.toInt < 0 → r9.toInt ≤ 0)) (zrem2_60 _) (fun x_1 hx_1 => ?_)
  refine lv_istore_n (lv' := [(2, .int x_1), (0, .int x1), (1, .int 60)]) hx hb dJ9_floorMod_7cf53_3 rfl hl (by decide) rfl (fun ls hl => ?_)
  refine lv_iload_n hx hb dJ9_floorMod_7cf53_4 rfl (lv_at hl 1 rfl) ?_
  refine lv_iload_n hx hb dJ9_floorMod_7cf53_5 rfl (lv_at hl 2 rfl) ?_
  refine lv_ixor hx hb dJ9_floorMod_7cf53_6 ?_
  refine zgp2 (P := fun r9 : Int32 => r9.toInt < 0 ↔ x1.toInt < 0) (zxorS _ _ (by decide)) (fun x_2 hx_2 => ?_)
  refine lv_if_ge (tgt := 18) hx hb dJ9_floorMod_7cf53_7 (by decide) (fun cb9 => ?_) (fun cb9 => ?_)
  · skip
    have c3 : 0 ≤ x_2.toInt := zle cb9 (by decide) rfl
    have n4 : 0 ≤ x_2.toInt := Int.le_trans (Int.le_refl _) c3
    refine lv_iload_n hx hb dJ9_floorMod_7cf53_18 rfl (lv_at hl 0 rfl) ?_
    have hP : va_P g.1 vwCl (List.flatten []) s.heap := hP
    have hD : va_D A (List.flatten []) := hD
    exact mret_i hx hb hr hlocks hS (Nat.le_of_ble_eq_true rfl) (Nat.le_of_ble_eq_true rfl) dJ9_floorMod_7cf53_19 (x_1) rfl (show (0 ≤ x_1.toInt ∧ x_1.toInt ≤ 59) from (by first | assumption | omega | decide | exact rfl | exact zb01 (by omega) | exact Or.inl (by decide) | exact Or.inr (by first | omega | decide))) hP hD
  · skip
    have c5 : x_2.toInt < 0 := zlti (Int32.not_le.mp cb9) rfl (by decide)
    have n6 : x_2.toInt ≤ (-1) := zL1 (b := 0) c5 (Int.le_refl _) (by decide)
    refine lv_iload_n hx hb dJ9_floorMod_7cf53_10 rfl (lv_at hl 0 rfl) ?_
    refine lv_if_eq (tgt := 18) hx hb dJ9_floorMod_7cf53_11 (by decide) (fun cb9 => ?_) (fun cb9 => ?_)
    · skip
      have c7 : x_1.toInt = 0 := zeq cb9 rfl (by decide)
      have n8 : 0 ≤ x_1.toInt := Int.le_trans (Int.le_refl _) (Int.le_of_eq c7.symm)
      have n9 : x_1.toInt ≤ 0 := Int.le_trans (Int.le_of_eq c7) (Int.le_refl _)
      refine lv_iload_n hx hb dJ9_floorMod_7cf53_18 rfl (lv_at hl 0 rfl) ?_
      have hP : va_P g.1 vwCl (List.flatten []) s.heap := hP
      have hD : va_D A (List.flatten []) := hD
      exact mret_i hx hb hr hlocks hS (Nat.le_of_ble_eq_true rfl) (Nat.le_of_ble_eq_true rfl) dJ9_floorMod_7cf53_19 (x_1) rfl (show (0 ≤ x_1.toInt ∧ x_1.toInt ≤ 59) from (by first | assumption | omega | decide | exact rfl | exact zb01 (by omega) | exact Or.inl (by decide) | exact Or.inr (by first | omega | decide))) hP hD
    · skip
      have c10 : ¬ x_1.toInt = 0 := zne cb9 rfl (by decide)
      refine lv_iload_n hx hb dJ9_floorMod_7cf53_14 rfl (lv_at hl 0 rfl) ?_
      refine lv_iload_n hx hb dJ9_floorMod_7cf53_15 rfl (lv_at hl 2 rfl) ?_
      refine lv_iadd hx hb dJ9_floorMod_7cf53_16 ?_
      refine zgv (zadd (i := x_1.toInt) (j := 60) rfl (by decide) (by omega)) (fun x_11 hx_11 => ?_)
      have hP : va_P g.1 vwCl (List.flatten []) s.heap := hP
      have hD : va_D A (List.flatten []) := hD
      exact mret_i hx hb hr hlocks hS (Nat.le_of_ble_eq_true rfl) (Nat.le_of_ble_eq_true rfl) dJ9_floorMod_7cf53_17 (x_11) rfl (show (0 ≤ x_11.toInt ∧ x_11.toInt ≤ 59) from (by first | assumption | omega | decide | exact rfl | exact zb01 (by omega) | exact Or.inl (by decide) | exact Or.inr (by first | omega | decide))) hP hD
