/-- as zM'.of, of a member for which the machine has no entry of its own -/
theorem zM'.ofF {S : Type} {g : zG} {l : Launch} {y : MethodName} {ws : List Cond} {rm : Room} {av : List Value} {Bs : List va_W} {ret : S → Option Value} {post : S → Prop} {B1 : S → List va_W} {cc : ByteArray} {maxL : Nat} {rt : Option FieldType}
    (hy : plainFor y = true) (hw : ws = Cond.code y cc maxL rt :: zB) (hn : (lg_sl av).length ≤ maxL)
    (body : ∀ (p : Program) (e : Env) (s : State) (m : MethodId) (args : Array Value) (below : List Frame) (meth : Method) (c : Code) (A : Nat → Prop) (ls : Array Slot), CallFix p m c cc maxL s args zB y.cls → meth.sig.returnType = rt → meth.locks = false → meth.name = y.name →
      zK g s → zTh' g A s → (∀ q, s.heap.size ≤ q → A q) → va_P g.1 vwCl Bs.flatten s.heap → va_D A Bs.flatten → va_S A s.heap s.heap [] → lv_has ls maxL (lv_args 0 av) →
      W p l e rm s m args below meth c s.heap [] 0 0 (zF g ret post B1 rm below args s A) (F0 m 0 ls [])) : zM' g l y ws rm av Bs ret post B1 := by
  intro sz
  refine va_MetF (cc := cc) (maxL := maxL) (ret := rt) hy hw ?_
  intro p e s m args below meth c s₁ B hml hv
  obtain ⟨rfl, hsz, hP, hK, hD0, hTh⟩ := hv
  subst hsz
  have hl := lv_entry av (n := maxL) hn
  rw [lg_entry_eq]
  generalize (lg_sl av ++ List.replicate (maxL - (lg_sl av).length) Slot.unset).toArray = ls at hl ⊢
  exact body p e s m _ below meth c _ ls ⟨B.exec, B.bytes, hml, findClass_of_methodNamed B.named, fun w hw9 => atoms_spec (ws := ws) B.pre w (by rw [hw]; exact List.mem_cons_of_mem _ hw9)⟩ B.returns B.notSynchronized (name_of_methodNamed B.named B.method).1 hK hTh (fun q h => Or.inr h) hP (hD0.self (sz := s.heap.size)) va_S.rf hl
theorem zr12N : ∀ n : Nat, n < 13 → (nI n - nI n / 12 * 12).toInt = (n : Int) % 12 := by decide +kernel
theorem zr12 {x : Int32} (h : 0 ≤ x.toInt ∧ x.toInt ≤ 12) : (x - x / 12 * 12).toInt = x.toInt % 12 := by
  obtain ⟨n, h1, e, h3⟩ := znN (x := x) rfl h.1
  have h9 := zr12N n (by omega)
  rw [← e] at h9
  omega
theorem zr12b {x : Int32} (h : -1 ≤ x.toInt ∧ x.toInt ≤ 11) : (x - x / 12 * 12).toInt = x.toInt := by
  rcases (show x.toInt = -1 ∨ 0 ≤ x.toInt by omega) with c | c
  · rw [show x = -1 from Int32.toInt_inj.mp (c.trans (by decide))]; decide
  · have := zr12 (x := x) ⟨c, by omega⟩
    omega
set_option maxRecDepth 100000 in
set_option maxHeartbeats 4000000 in
theorem j_floorMod60 (l : Launch) (g : zG) (x1 : Int32)  : zM' g l yJ9_floorMod_7cf53 (Cond.code yJ9_floorMod_7cf53 cJ9_floorMod_7cf53 3 (some .int) :: zB) ({ frames := 0, cells := 0, slots := 0, locals := 0 } : Room) [.int x1, .int 60] [] (fun (q : Int32) => some (.int q)) (fun (q : Int32) => (0 ≤ q.toInt ∧ q.toInt ≤ 59)) (fun (q : Int32) => []) := by
  refine zM'.ofF (cc := cJ9_floorMod_7cf53) (maxL := 3) (rt := (some .int)) (by decide +kernel) rfl (Nat.le_of_ble_eq_true rfl) ?_
  intro p e s m args below meth c A ls St hr hlocks hin hK hT hA hP hD hS hl
  obtain ⟨hx, hb, hml, hown, hts⟩ := id St
  have hl : lv_has ls 3 [(0, .int x1), (1, .int 60)] := hl
  refine lv_iload_n hx hb dJ9_floorMod_7cf53_0 rfl (lv_at hl 0 rfl) ?_
  refine lv_iload_n hx hb dJ9_floorMod_7cf53_1 rfl (lv_at hl 1 rfl) ?_
  refine lv_irem hx hb dJ9_floorMod_7cf53_2 (by decide) ?_
  refine zgp2 (P := fun r9 : Int32 => -60 < r9.toInt ∧ r9.toInt < 60 ∧ (0 ≤ x1.toInt → 0 ≤ r9.toInt) ∧ (x1.toInt < 0 → r9.toInt ≤ 0)) (zrem2_60 _) (fun x_1 hx_1 => ?_)
  refine lv_istore_n (lv' := [(2, .int x_1), (0, .int x1), (1, .int 60)]) hx hb dJ9_floorMod_7cf53_3 rfl hl (by decide) rfl (fun ls hl => ?_)
  refine lv_iload_n hx hb dJ9_floorMod_7cf53_4 rfl (lv_at hl 1 rfl) ?_
  refine lv_iload_n hx hb dJ9_floorMod_7cf53_5 rfl (lv_at hl 2 rfl) ?_
  refine lv_ixor hx hb dJ9_floorMod_7cf53_6 ?_
  refine zgp2 (P := fun r9 : Int32 => r9.toInt < 0 ↔ x1.toInt < 0) (zxorS _ _ (by decide)) (fun x_2 hx_2 => ?_)
  refine lv_if_ge (tgt := 18) hx hb dJ9_floorMod_7cf53_7 (by decide) (fun cb9 => ?_) (fun cb9 => ?_)
  · skip
    have c3 : 0 ≤ x_2.toInt := zle cb9 (by decide) rfl
    have n4 : 0 ≤ x_2.toInt := Int.le_trans (Int.le_refl _) c3
    refine lv_iload_n hx hb dJ9_floorMod_7cf53_18 rfl (lv_at hl 0 rfl) ?_
    have hP : va_P g.1 vwCl (List.flatten []) s.heap := hP
    have hD : va_D A (List.flatten []) := hD
    exact mret_i hx hb hr hlocks hS (Nat.le_of_ble_eq_true rfl) (Nat.le_of_ble_eq_true rfl) dJ9_floorMod_7cf53_19 (x_1) rfl (show (0 ≤ x_1.toInt ∧ x_1.toInt ≤ 59) from (by first | assumption | omega | decide | exact rfl | exact zb01 (by omega) | exact Or.inl (by decide) | exact Or.inr (by first | omega | decide))) hP hD
  · skip
    have c5 : x_2.toInt < 0 := zlti (Int32.not_le.mp cb9) rfl (by decide)
    have n6 : x_2.toInt ≤ (-1) := zL1 (b := 0) c5 (Int.le_refl _) (by decide)
    refine lv_iload_n hx hb dJ9_floorMod_7cf53_10 rfl (lv_at hl 0 rfl) ?_
    refine lv_if_eq (tgt := 18) hx hb dJ9_floorMod_7cf53_11 (by decide) (fun cb9 => ?_) (fun cb9 => ?_)
    · skip
      have c7 : x_1.toInt = 0 := zeq cb9 rfl (by decide)
      have n8 : 0 ≤ x_1.toInt := Int.le_trans (Int.le_refl _) (Int.le_of_eq c7.symm)
      have n9 : x_1.toInt ≤ 0 := Int.le_trans (Int.le_of_eq c7) (Int.le_refl _)
      refine lv_iload_n hx hb dJ9_floorMod_7cf53_18 rfl (lv_at hl 0 rfl) ?_
      have hP : va_P g.1 vwCl (List.flatten []) s.heap := hP
      have hD : va_D A (List.flatten []) := hD
      exact mret_i hx hb hr hlocks hS (Nat.le_of_ble_eq_true rfl) (Nat.le_of_ble_eq_true rfl) dJ9_floorMod_7cf53_19 (x_1) rfl (show (0 ≤ x_1.toInt ∧ x_1.toInt ≤ 59) from (by first | assumption | omega | decide | exact rfl | exact zb01 (by omega) | exact Or.inl (by decide) | exact Or.inr (by first | omega | decide))) hP hD
    · skip
      have c10 : ¬ x_1.toInt = 0 := zne cb9 rfl (by decide)
      refine lv_iload_n hx hb dJ9_floorMod_7cf53_14 rfl (lv_at hl 0 rfl) ?_
      refine lv_iload_n hx hb dJ9_floorMod_7cf53_15 rfl (lv_at hl 2 rfl) ?_
      refine lv_iadd hx hb dJ9_floorMod_7cf53_16 ?_
      refine zgv (zadd (i := x_1.toInt) (j := 60) rfl (by decide) (by omega)) (fun x_11 hx_11 => ?_)
      have hP : va_P g.1 vwCl (List.flatten []) s.heap := hP
      have hD : va_D A (List.flatten []) := hD
      exact mret_i hx hb hr hlocks hS (Nat.le_of_ble_eq_true rfl) (Nat.le_of_ble_eq_true rfl) dJ9_floorMod_7cf53_17 (x_11) rfl (show (0 ≤ x_11.toInt ∧ x_11.toInt ≤ 59) from (by first | assumption | omega | decide | exact rfl | exact zb01 (by omega) | exact Or.inl (by decide) | exact Or.inr (by first | omega | decide))) hP hD
set_option maxRecDepth 100000 in
set_option maxHeartbeats 4000000 in
theorem j_floorMod12F (l : Launch) (g : zG) (x1 : Int32) (b_x1 : (-1) ≤ x1.toInt ∧ x1.toInt ≤ 11) : zM' g l yJ9_floorMod_7cf53 (Cond.code yJ9_floorMod_7cf53 cJ9_floorMod_7cf53 3 (some .int) :: zB) ({ frames := 0, cells := 0, slots := 0, locals := 0 } : Room) [.int x1, .int 12] [] (fun (q : Int32) => some (.int q)) (fun (q : Int32) => (0 ≤ q.toInt ∧ q.toInt ≤ 11) ∧ (q.toInt = x1.toInt % 12)) (fun (q : Int32) => []) := by
  refine zM'.ofF (cc := cJ9_floorMod_7cf53) (maxL := 3) (rt := (some .int)) (by decide +kernel) rfl (Nat.le_of_ble_eq_true rfl) ?_
  intro p e s m args below meth c A ls St hr hlocks hin hK hT hA hP hD hS hl
  obtain ⟨hx, hb, hml, hown, hts⟩ := id St
  have hl : lv_has ls 3 [(0, .int x1), (1, .int 12)] := hl
  refine lv_iload_n hx hb dJ9_floorMod_7cf53_0 rfl (lv_at hl 0 rfl) ?_
  refine lv_iload_n hx hb dJ9_floorMod_7cf53_1 rfl (lv_at hl 1 rfl) ?_
  refine lv_irem hx hb dJ9_floorMod_7cf53_2 (by decide) ?_
  refine zgp2 (P := fun r9 : Int32 => r9.toInt = x1.toInt) (zr12b (by omega)) (fun x_1 hx_1 => ?_)
  have w2 : (-1) ≤ x_1.toInt ∧ x_1.toInt ≤ 11 := by omega
  refine lv_istore_n (lv' := [(2, .int x_1), (0, .int x1), (1, .int 12)]) hx hb dJ9_floorMod_7cf53_3 rfl hl (by decide) rfl (fun ls hl => ?_)
  refine lv_iload_n hx hb dJ9_floorMod_7cf53_4 rfl (lv_at hl 1 rfl) ?_
  refine lv_iload_n hx hb dJ9_floorMod_7cf53_5 rfl (lv_at hl 2 rfl) ?_
  refine lv_ixor hx hb dJ9_floorMod_7cf53_6 ?_
  refine zgp2 (P := fun r9 : Int32 => r9.toInt < 0 ↔ x1.toInt < 0) (zxorS _ _ (by decide)) (fun x_3 hx_3 => ?_)
  refine lv_if_ge (tgt := 18) hx hb dJ9_floorMod_7cf53_7 (by decide) (fun cb9 => ?_) (fun cb9 => ?_)
  · skip
    have c4 : 0 ≤ x_3.toInt := zle cb9 (by decide) rfl
    have n5 : 0 ≤ x_3.toInt := Int.le_trans (Int.le_refl _) c4
    refine lv_iload_n hx hb dJ9_floorMod_7cf53_18 rfl (lv_at hl 0 rfl) ?_
    have hP : va_P g.1 vwCl (List.flatten []) s.heap := hP
    have hD : va_D A (List.flatten []) := hD
    exact mret_i hx hb hr hlocks hS (Nat.le_of_ble_eq_true rfl) (Nat.le_of_ble_eq_true rfl) dJ9_floorMod_7cf53_19 (x_1) rfl (show (0 ≤ x_1.toInt ∧ x_1.toInt ≤ 11) ∧ (x_1.toInt = x1.toInt % 12) from ⟨(by first | assumption | omega | decide | exact rfl | exact zb01 (by omega) | exact Or.inl (by decide) | exact Or.inr (by first | omega | decide)), (by first | assumption | omega | decide | exact rfl | exact zb01 (by omega) | exact Or.inl (by decide) | exact Or.inr (by first | omega | decide))⟩) hP hD
  · skip
    have c6 : x_3.toInt < 0 := zlti (Int32.not_le.mp cb9) rfl (by decide)
    have n7 : x_3.toInt ≤ (-1) := zL1 (b := 0) c6 (Int.le_refl _) (by decide)
    refine lv_iload_n hx hb dJ9_floorMod_7cf53_10 rfl (lv_at hl 0 rfl) ?_
    refine lv_if_eq (tgt := 18) hx hb dJ9_floorMod_7cf53_11 (by decide) (fun cb9 => ?_) (fun cb9 => ?_)
    · skip
      have c8 : x_1.toInt = 0 := zeq cb9 rfl (by decide)
      have n9 : 0 ≤ x_1.toInt := Int.le_trans (Int.le_refl _) (Int.le_of_eq c8.symm)
      have n10 : x_1.toInt ≤ 0 := Int.le_trans (Int.le_of_eq c8) (Int.le_refl _)
      refine lv_iload_n hx hb dJ9_floorMod_7cf53_18 rfl (lv_at hl 0 rfl) ?_
      have hP : va_P g.1 vwCl (List.flatten []) s.heap := hP
      have hD : va_D A (List.flatten []) := hD
      exact mret_i hx hb hr hlocks hS (Nat.le_of_ble_eq_true rfl) (Nat.le_of_ble_eq_true rfl) dJ9_floorMod_7cf53_19 (x_1) rfl (show (0 ≤ x_1.toInt ∧ x_1.toInt ≤ 11) ∧ (x_1.toInt = x1.toInt % 12) from ⟨(by first | assumption | omega | decide | exact rfl | exact zb01 (by omega) | exact Or.inl (by decide) | exact Or.inr (by first | omega | decide)), (by first | assumption | omega | decide | exact rfl | exact zb01 (by omega) | exact Or.inl (by decide) | exact Or.inr (by first | omega | decide))⟩) hP hD
    · skip
      have c11 : ¬ x_1.toInt = 0 := zne cb9 rfl (by decide)
      refine lv_iload_n hx hb dJ9_floorMod_7cf53_14 rfl (lv_at hl 0 rfl) ?_
      refine lv_iload_n hx hb dJ9_floorMod_7cf53_15 rfl (lv_at hl 2 rfl) ?_
      refine lv_iadd hx hb dJ9_floorMod_7cf53_16 ?_
      refine zg3 (zaddK (i := x_1.toInt) (j := 12) (a' := 11) (b' := 23) rfl (by decide) w2.1 w2.2 (Int.le_refl _) (Int.le_refl _) (by decide)) (fun x_12 hx_12 => ?_)
      have hP : va_P g.1 vwCl (List.flatten []) s.heap := hP
      have hD : va_D A (List.flatten []) := hD
      exact mret_i hx hb hr hlocks hS (Nat.le_of_ble_eq_true rfl) (Nat.le_of_ble_eq_true rfl) dJ9_floorMod_7cf53_17 (x_12) rfl (show (0 ≤ x_12.toInt ∧ x_12.toInt ≤ 11) ∧ (x_12.toInt = x1.toInt % 12) from ⟨(by first | assumption | omega | decide | exact rfl | exact zb01 (by omega) | exact Or.inl (by decide) | exact Or.inr (by first | omega | decide)), (by first | assumption | omega | decide | exact rfl | exact zb01 (by omega) | exact Or.inl (by decide) | exact Or.inr (by first | omega | decide))⟩) hP hD
set_option maxRecDepth 100000 in
set_option maxHeartbeats 4000000 in
theorem c_g_at (l : Launch) (g : zG) (go : Nat) (gr : Nat) (gz : Int32) (gn : Int32) (fr : Nat → Int32) (ago : Int32) (what : Int32) (b_gz : 0 ≤ gz.toInt ∧ gz.toInt ≤ 60) (b_gn : 0 ≤ gn.toInt ∧ gn.toInt ≤ 59) (b_what : 0 ≤ what.toInt ∧ what.toInt ≤ 3) : zM' g l yX3_at (Cond.code yX3_at cX3_at 3 (some .int) :: zB) ({ frames := 1, cells := 0, slots := 0, locals := 22 } : Room) [.ref go, .int ago, .int what] [bLog g go gr gz gn fr] (fun (q : Int32) => some (.int q)) (fun (q : Int32) => True) (fun (q : Int32) => [bLog g go gr gz gn fr]) := by
  refine zM'.of (cc := cX3_at) (maxL := 3) (rt := (some .int)) (by decide) rfl (Nat.le_of_ble_eq_true rfl) ?_
  intro p e s m args below meth c A ls St hr hlocks hin hK hT hA hP hD hS hl
  obtain ⟨hx, hb, hml, hown, hts⟩ := id St
  have hl : lv_has ls 3 [(0, .ref go), (1, .int ago), (2, .int what)] := hl
  refine lv_iload_n hx hb dX3_at_0 rfl (lv_at hl 1 rfl) ?_
  refine lv_if_lt (tgt := 12) hx hb dX3_at_1 (by decide) (fun cb9 => ?_) (fun cb9 => ?_)
  · skip
    have c1 : ago.toInt < 0 := zlti cb9 rfl (by decide)
    have n2 : ago.toInt ≤ (-1) := zL1 (b := 0) c1 (Int.le_refl _) (by decide)
    refine lv_iconst (v := (-1)) hx hb dX3_at_12 (by decide) ?_
    have hP : va_P g.1 vwCl (List.flatten [bLog g go gr gz gn fr]) s.heap := hP
    have hD : va_D A (List.flatten [bLog g go gr gz gn fr]) := hD
    exact mret_i hx hb hr hlocks hS (Nat.le_of_ble_eq_true rfl) (Nat.le_of_ble_eq_true rfl) dX3_at_13 (-1) rfl trivial hP hD
  · skip
    have c3 : 0 ≤ ago.toInt := zle (Int32.not_lt.mp cb9) (by decide) rfl
    have n4 : 0 ≤ ago.toInt := Int.le_trans (Int.le_refl _) c3
    refine lv_iload_n hx hb dX3_at_4 rfl (lv_at hl 1 rfl) ?_
    refine lv_aload_n hx hb dX3_at_5 rfl (lv_at hl 0 rfl) ?_
    refine va_get (D := g.1) (ci := 3) (v := .int gz) (C := RX3) (T := TX3) (N := 3) hx hb hts izRX3 hown hK hP 0 rfl rfl 1 (by decide) (hts _ k118) (fun _ h9 => h9) rfl dX3_at_6 ?_
    refine lv_icmp_lt (tgt := 14) hx hb dX3_at_9 (by decide) (fun cb9 => ?_) (fun cb9 => ?_)
    · skip
      have c5 : ago.toInt < gz.toInt := zlti cb9 rfl rfl
      have n6 : ago.toInt ≤ 59 := zL1 (b := 60) c5 b_gz.2 (by decide)
      have n7 : 1 ≤ gz.toInt := zL2 (a := 0) c5 n4 (by decide)
      refine lv_aload_n hx hb dX3_at_14 rfl (lv_at hl 0 rfl) ?_
      refine va_get (D := g.1) (ci := 3) (v := .ref gr) (C := RX3) (T := TX3) (N := 3) hx hb hts izRX3 hown hK hP 0 rfl rfl 0 (by decide) (hts _ k117) (fun _ h9 => h9) rfl dX3_at_15 ?_
      refine lv_aload_n hx hb dX3_at_18 rfl (lv_at hl 0 rfl) ?_
      refine va_get (D := g.1) (ci := 3) (v := .int gn) (C := RX3) (T := TX3) (N := 3) hx hb hts izRX3 hown hK hP 0 rfl rfl 2 (by decide) (hts _ k116) (fun _ h9 => h9) rfl dX3_at_19 ?_
      refine lv_iconst (v := 1) hx hb dX3_at_22 (by decide) ?_
      refine lv_isub hx hb dX3_at_23 ?_
      refine zg3 (zsubK (i := gn.toInt) (j := 1) (a' := (-1)) (b' := 58) rfl (by decide) b_gn.1 b_gn.2 (Int.le_refl _) (Int.le_refl _) (by decide)) (fun x_8 hx_8 => ?_)
      refine lv_iload_n hx hb dX3_at_24 rfl (lv_at hl 1 rfl) ?_
      refine lv_isub hx hb dX3_at_25 ?_
      refine zg3 (zsubK (i := x_8.toInt) (j := ago.toInt) (a' := (-60)) (b' := 58) rfl rfl hx_8.2.1 hx_8.2.2 n4 n6 (by decide)) (fun x_9 hx_9 => ?_)
      refine lv_bipush (v := 60) hx hb dX3_at_26 (by decide) ?_
      refine mcallS' (g := g) (As := [.int x_9, .int 60]) (rest := [.ref gr]) St hK hT hA hP hD hS hl.1 [] [0] rfl rfl rfl (j_floorMod60 l g x_9 ) (va_cwS 2 hts (zgL (zl3 k335 k336 k337) k333) rfl rfl rfl (by decide +kernel) ⟨Nat.le_of_ble_eq_true rfl, Nat.le_of_ble_eq_true rfl⟩) rfl rfl (Nat.le_of_ble_eq_true rfl) dX3_at_28 ⟨(Nat.le_of_ble_eq_true rfl), (Nat.le_of_ble_eq_true rfl)⟩ (fun q_10 H locs hq11 hP hD hS => ?_)
      replace hq11 : (0 ≤ q_10.toInt ∧ q_10.toInt ≤ 59) := hq11
      have hP : va_P g.1 vwCl (List.flatten [bLog g go gr gz gn fr]) H := hP
      have hD : va_D A (List.flatten [bLog g go gr gz gn fr]) := hD
      refine W.widen (k := 0) (n := 0) (Nat.le_of_ble_eq_true rfl) (Nat.le_of_ble_eq_true rfl) ?_
      refine W.eq (g2 := F0 m 31 ls [.int q_10, .ref gr]) rfl ?_
      refine lv_iconst (v := 4) hx hb dX3_at_31 (by decide) ?_
      refine lv_imul hx hb dX3_at_32 ?_
      refine zg3 (zmulKR (i := q_10.toInt) (n := 4) (a' := 0) (b' := 236) rfl (by decide) hq11.1 hq11.2 (by decide) (by decide)) (fun x_12 hx_12 => ?_)
      refine lv_iload_n hx hb dX3_at_33 rfl (lv_at hl 2 rfl) ?_
      refine lv_iadd hx hb dX3_at_34 ?_
      refine zg3 (zaddK (i := x_12.toInt) (j := what.toInt) (a' := 0) (b' := 239) rfl rfl hx_12.2.1 hx_12.2.2 b_what.1 b_what.2 (by decide)) (fun x_13 hx_13 => ?_)
      refine va_iald hx hb hK hP 1 0 rfl rfl (zinK (a := 0) (b := 239) hx_13.2.1 hx_13.2.2 (by decide)) dX3_at_35 ?_
      refine zg (fun x_14 => ?_)
      have hP : va_P g.1 vwCl (List.flatten [bLog g go gr gz gn fr]) H := hP
      have hD : va_D A (List.flatten [bLog g go gr gz gn fr]) := hD
      exact mret_i hx hb hr hlocks hS (Nat.le_of_ble_eq_true rfl) (Nat.le_of_ble_eq_true rfl) dX3_at_36 (x_14) rfl trivial hP hD
    · skip
      have c15 : gz.toInt ≤ ago.toInt := zle (Int32.not_lt.mp cb9) rfl rfl
      refine lv_iconst (v := (-1)) hx hb dX3_at_12 (by decide) ?_
      have hP : va_P g.1 vwCl (List.flatten [bLog g go gr gz gn fr]) s.heap := hP
      have hD : va_D A (List.flatten [bLog g go gr gz gn fr]) := hD
      exact mret_i hx hb hr hlocks hS (Nat.le_of_ble_eq_true rfl) (Nat.le_of_ble_eq_true rfl) dX3_at_13 (-1) rfl trivial hP hD
set_option maxRecDepth 100000 in
set_option maxHeartbeats 4000000 in
theorem c_g_isOf (l : Launch) (g : zG) (go : Nat) (gr : Nat) (gz : Int32) (gn : Int32) (fr : Nat → Int32) (ago : Int32) (w1 : Int32) (b_gz : 0 ≤ gz.toInt ∧ gz.toInt ≤ 60) (b_gn : 0 ≤ gn.toInt ∧ gn.toInt ≤ 59) : zM' g l yX3_isOf (Cond.code yX3_isOf cX3_isOf 3 (some .boolean) :: zB) ({ frames := 2, cells := 0, slots := 0, locals := 44 } : Room) [.ref go, .int ago, .int w1] [bLog g go gr gz gn fr] (fun (q : Int32) => some (.int q)) (fun (q : Int32) => (q = 0 ∨ q = 1)) (fun (q : Int32) => [bLog g go gr gz gn fr]) := by
  refine zM'.of (cc := cX3_isOf) (maxL := 3) (rt := (some .boolean)) (by decide) rfl (Nat.le_of_ble_eq_true rfl) ?_
  intro p e s m args below meth c A ls St hr hlocks hin hK hT hA hP hD hS hl
  obtain ⟨hx, hb, hml, hown, hts⟩ := id St
  have hl : lv_has ls 3 [(0, .ref go), (1, .int ago), (2, .int w1)] := hl
  refine lv_aload_n hx hb dX3_isOf_0 rfl (lv_at hl 0 rfl) ?_
  refine lv_iload_n hx hb dX3_isOf_1 rfl (lv_at hl 1 rfl) ?_
  refine lv_iconst (v := 1) hx hb dX3_isOf_2 (by decide) ?_
  have hL1 : (1 : Int32).toInt = 1 := by decide
  refine mcallV' (g := g) (q0 := 0) (ci := 3) (As := [.int ago, .int 1]) (rest := []) St hK hT hA hP hD hS hl.1 [0] [] rfl rfl rfl (c_g_at l g go gr gz gn fr ago 1 b_gz b_gn (by decide)) (cwV 2 hts (zgL (zl4 k339 k340 k341 k123) k334) rfl rfl rfl (by decide +kernel) ⟨Nat.le_of_ble_eq_true rfl, Nat.le_of_ble_eq_true rfl⟩) rfl rfl rfl rfl (Nat.le_of_ble_eq_true rfl) dX3_isOf_3 ⟨(Nat.le_of_ble_eq_true rfl), (Nat.le_of_ble_eq_true rfl)⟩ (fun q_1 H locs hq2 hP hD hS => ?_)
  have hP : va_P g.1 vwCl (List.flatten [bLog g go gr gz gn fr]) H := hP
  have hD : va_D A (List.flatten [bLog g go gr gz gn fr]) := hD
  refine W.widen (k := 0) (n := 0) (Nat.le_of_ble_eq_true rfl) (Nat.le_of_ble_eq_true rfl) ?_
  refine W.eq (g2 := F0 m 6 ls [.int q_1]) rfl ?_
  refine lv_iload_n hx hb dX3_isOf_6 rfl (lv_at hl 2 rfl) ?_
  refine lv_icmp_ne (tgt := 24) hx hb dX3_isOf_7 (by decide) (fun cb9 => ?_) (fun cb9 => ?_)
  · skip
    have c3 : ¬ q_1.toInt = w1.toInt := zne cb9 rfl rfl
    refine lv_iconst (v := 0) hx hb dX3_isOf_24 (by decide) ?_
    have hP : va_P g.1 vwCl (List.flatten [bLog g go gr gz gn fr]) H := hP
    have hD : va_D A (List.flatten [bLog g go gr gz gn fr]) := hD
    exact mret_z hx hb hr hlocks hS (Nat.le_of_ble_eq_true rfl) (Nat.le_of_ble_eq_true rfl) dX3_isOf_25 ((0 : Int32)) rfl (by decide) (show (0 = 0 ∨ 0 = 1) from (by decide)) hP hD
  · skip
    have c4 : q_1.toInt = w1.toInt := zeq cb9 rfl rfl
    refine lv_aload_n hx hb dX3_isOf_10 rfl (lv_at hl 0 rfl) ?_
    refine lv_iload_n hx hb dX3_isOf_11 rfl (lv_at hl 1 rfl) ?_
    refine lv_iconst (v := 2) hx hb dX3_isOf_12 (by decide) ?_
    have hL2 : (2 : Int32).toInt = 2 := by decide
    refine mcallV' (g := g) (q0 := 0) (ci := 3) (As := [.int ago, .int 2]) (rest := []) St hK hT hA hP hD hS hl.1 [0] [] rfl rfl rfl (c_g_at l g go gr gz gn fr ago 2 b_gz b_gn (by decide)) (cwV 2 hts (zgL (zl4 k339 k340 k341 k123) k334) rfl rfl rfl (by decide +kernel) ⟨Nat.le_of_ble_eq_true rfl, Nat.le_of_ble_eq_true rfl⟩) rfl rfl rfl rfl (Nat.le_of_ble_eq_true rfl) dX3_isOf_13 ⟨(Nat.le_of_ble_eq_true rfl), (Nat.le_of_ble_eq_true rfl)⟩ (fun q_5 H locs hq6 hP hD hS => ?_)
    have hP : va_P g.1 vwCl (List.flatten [bLog g go gr gz gn fr]) H := hP
    have hD : va_D A (List.flatten [bLog g go gr gz gn fr]) := hD
    refine W.widen (k := 0) (n := 0) (Nat.le_of_ble_eq_true rfl) (Nat.le_of_ble_eq_true rfl) ?_
    refine W.eq (g2 := F0 m 16 ls [.int q_5]) rfl ?_
    refine lv_iconst (v := 1) hx hb dX3_isOf_16 (by decide) ?_
    refine lv_icmp_gt (tgt := 24) hx hb dX3_isOf_17 (by decide) (fun cb9 => ?_) (fun cb9 => ?_)
    · skip
      have c7 : 1 < q_5.toInt := zlti cb9 (by decide) rfl
      have n8 : 2 ≤ q_5.toInt := zL2 (a := 1) c7 (Int.le_refl _) (by decide)
      refine lv_iconst (v := 0) hx hb dX3_isOf_24 (by decide) ?_
      have hP : va_P g.1 vwCl (List.flatten [bLog g go gr gz gn fr]) H := hP
      have hD : va_D A (List.flatten [bLog g go gr gz gn fr]) := hD
      exact mret_z hx hb hr hlocks hS (Nat.le_of_ble_eq_true rfl) (Nat.le_of_ble_eq_true rfl) dX3_isOf_25 ((0 : Int32)) rfl (by decide) (show (0 = 0 ∨ 0 = 1) from (by decide)) hP hD
    · skip
      have c9 : q_5.toInt ≤ 1 := zle (Int32.not_lt.mp cb9) rfl (by decide)
      have n10 : q_5.toInt ≤ 1 := Int.le_trans c9 (Int.le_refl _)
      refine lv_iconst (v := 1) hx hb dX3_isOf_20 (by decide) ?_
      refine lv_goto (tgt := 25) hx hb dX3_isOf_21 (by decide) ?_
      have hP : va_P g.1 vwCl (List.flatten [bLog g go gr gz gn fr]) H := hP
      have hD : va_D A (List.flatten [bLog g go gr gz gn fr]) := hD
      exact mret_z hx hb hr hlocks hS (Nat.le_of_ble_eq_true rfl) (Nat.le_of_ble_eq_true rfl) dX3_isOf_25 ((1 : Int32)) rfl (by decide) (show (1 = 0 ∨ 1 = 1) from (by decide)) hP hD
set_option maxRecDepth 100000 in
set_option maxHeartbeats 4000000 in
theorem c_g_rowsOf (l : Launch) (g : zG) (go : Nat) (gr : Nat) (gz : Int32) (gn : Int32) (fr : Nat → Int32) (w1 : Int32) (b_gz : 0 ≤ gz.toInt ∧ gz.toInt ≤ 60) (b_gn : 0 ≤ gn.toInt ∧ gn.toInt ≤ 59) : zM' g l yX3_rowsOf (Cond.code yX3_rowsOf cX3_rowsOf 4 (some .int) :: zB) ({ frames := 3, cells := 0, slots := 0, locals := 66 } : Room) [.ref go, .int w1] [bLog g go gr gz gn fr] (fun (q : Int32) => some (.int q)) (fun (q : Int32) => True) (fun (q : Int32) => [bLog g go gr gz gn fr]) := by
  refine zM'.of (cc := cX3_rowsOf) (maxL := 4) (rt := (some .int)) (by decide) rfl (Nat.le_of_ble_eq_true rfl) ?_
  intro p e s m args below meth c A ls St hr hlocks hin hK hT hA hP hD hS hl
  obtain ⟨hx, hb, hml, hown, hts⟩ := id St
  have hl : lv_has ls 4 [(0, .ref go), (1, .int w1)] := hl
  refine lv_iconst (v := 0) hx hb dX3_rowsOf_0 (by decide) ?_
  refine lv_istore_n (lv' := [(2, .int 0), (0, .ref go), (1, .int w1)]) hx hb dX3_rowsOf_1 rfl hl (by decide) rfl (fun ls hl => ?_)
  refine lv_iconst (v := 0) hx hb dX3_rowsOf_2 (by decide) ?_
  refine lv_istore_n (lv' := [(3, .int 0), (2, .int 0), (0, .ref go), (1, .int w1)]) hx hb dX3_rowsOf_3 rfl hl (by decide) rfl (fun ls hl => ?_)
  have hl := lv_sub (l' := [(0, .ref go), (1, .int w1), (2, .int 0), (3, .int 0)]) hl [2, 3, 1, 0] rfl
  have LP4_4 : ∀ (kf : Nat) (x_1 : Int32) (x_2 : Int32), (0 ≤ x_2.toInt ∧ x_2.toInt ≤ 60) → ∀ (H : Heap) (locs : List Loc) (ls : Array Slot), ((61 - x_2.toInt).toNat) < kf → va_P g.1 vwCl (List.flatten [bLog g go gr gz gn fr]) H → va_D A (List.flatten [bLog g go gr gz gn fr]) → va_S A s.heap H locs → lv_has ls 4 [(0, .ref go), (1, .int w1), (2, .int x_1), (3, .int x_2)] → W p l e ({ frames := 3, cells := 0, slots := 0, locals := 66 } : Room) s m args below meth c H locs (0) (0) (zF g (fun (q : Int32) => some (.int q)) (fun (q : Int32) => True) (fun (q : Int32) => [bLog g go gr gz gn fr]) ({ frames := 3, cells := 0, slots := 0, locals := 66 } : Room) below args s A) (F0 m 4 ls []) := by
    intro kf
    induction kf with
    | zero => intro x_1 x_2 i3 H locs ls hk; exact absurd hk (Nat.not_lt_zero _)
    | succ kf ih4_5 =>
      intro x_1 x_2 i3 H locs ls hk4_5 hP hD hS hl
      refine lv_iload_n hx hb dX3_rowsOf_4 rfl (lv_at hl 3 rfl) ?_
      refine lv_aload_n hx hb dX3_rowsOf_5 rfl (lv_at hl 0 rfl) ?_
      refine va_get (D := g.1) (ci := 3) (v := .int gz) (C := RX3) (T := TX3) (N := 3) hx hb hts izRX3 hown hK hP 0 rfl rfl 1 (by decide) (hts _ k118) (fun _ h9 => h9) rfl dX3_rowsOf_6 ?_
      refine lv_icmp_ge (tgt := 30) hx hb dX3_rowsOf_9 (by decide) (fun cb9 => ?_) (fun cb9 => ?_)
      · skip
        have c6 : gz.toInt ≤ x_2.toInt := zle cb9 rfl rfl
        refine lv_iload_n hx hb dX3_rowsOf_30 rfl (lv_at hl 2 rfl) ?_
        have hP : va_P g.1 vwCl (List.flatten [bLog g go gr gz gn fr]) H := hP
        have hD : va_D A (List.flatten [bLog g go gr gz gn fr]) := hD
        exact mret_i hx hb hr hlocks hS (Nat.le_of_ble_eq_true rfl) (Nat.le_of_ble_eq_true rfl) dX3_rowsOf_31 (x_1) rfl trivial hP hD
      · skip
        have c7 : x_2.toInt < gz.toInt := zlti (Int32.not_le.mp cb9) rfl rfl
        have n8 : x_2.toInt ≤ 59 := zL1 (b := 60) c7 b_gz.2 (by decide)
        have n9 : 1 ≤ gz.toInt := zL2 (a := 0) c7 i3.1 (by decide)
        refine lv_aload_n hx hb dX3_rowsOf_12 rfl (lv_at hl 0 rfl) ?_
        refine lv_iload_n hx hb dX3_rowsOf_13 rfl (lv_at hl 3 rfl) ?_
        refine lv_iload_n hx hb dX3_rowsOf_14 rfl (lv_at hl 1 rfl) ?_
        refine mcallV' (g := g) (q0 := 0) (ci := 3) (As := [.int x_2, .int w1]) (rest := []) St hK hT hA hP hD hS hl.1 [0] [] rfl rfl rfl (c_g_isOf l g go gr gz gn fr x_2 w1 b_gz b_gn) (cwV 2 hts (zgL (zl4 k343 k344 k345 k123) k338) rfl rfl rfl (by decide +kernel) ⟨Nat.le_of_ble_eq_true rfl, Nat.le_of_ble_eq_true rfl⟩) rfl rfl rfl rfl (Nat.le_of_ble_eq_true rfl) dX3_rowsOf_15 ⟨(Nat.le_of_ble_eq_true rfl), (Nat.le_of_ble_eq_true rfl)⟩ (fun q_10 H locs hq11 hP hD hS => ?_)
        replace hq11 : (q_10 = 0 ∨ q_10 = 1) := hq11
        have hP : va_P g.1 vwCl (List.flatten [bLog g go gr gz gn fr]) H := hP
        have hD : va_D A (List.flatten [bLog g go gr gz gn fr]) := hD
        refine W.widen (k := 0) (n := 0) (Nat.le_of_ble_eq_true rfl) (Nat.le_of_ble_eq_true rfl) ?_
        refine W.eq (g2 := F0 m 18 ls [.int q_10]) rfl ?_
        rcases hq11 with rfl | rfl
        · skip
          refine lv_if_eq (tgt := 24) hx hb dX3_rowsOf_18 (by decide) (fun _ => ?_) (fun c12 => absurd (by decide) c12)
          refine ziinc3 (n' := 1) (a' := 1) (b' := 60) (lv' := fun v9 => [(3, .int v9), (0, .ref go), (1, .int w1), (2, .int x_1)]) hx hb dX3_rowsOf_24 hl (k := 3) rfl (by decide) (fun _ => rfl) (zaddK (i := x_2.toInt) (j := 1) rfl (by decide) i3.1 n8 (Int.le_refl _) (Int.le_refl _) (by decide)) (fun x_13 ls hx_13 hl => ?_)
          refine lv_goto (tgt := 4) hx hb dX3_rowsOf_27 (by decide) ?_
          have hl := lv_sub (l' := [(0, .ref go), (1, .int w1), (2, .int x_1), (3, .int x_13)]) hl [1, 2, 3, 0] rfl
          have hP : va_P g.1 vwCl (List.flatten [bLog g go gr gz gn fr]) H := hP
          have hD : va_D A (List.flatten [bLog g go gr gz gn fr]) := hD
          exact ih4_5 x_1 x_13 ⟨(Int.le_trans (by decide) hx_13.2.1), hx_13.2.2⟩ H _ ls (zmK hx_13.1 (by decide) n8 (by decide) hk4_5)  hP hD hS (lv_sub hl [0, 1, 2, 3] rfl)
        · skip
          refine lv_if_eq (tgt := 24) hx hb dX3_rowsOf_18 (by decide) (fun c14 => absurd c14 (by decide)) (fun _ => ?_)
          refine ziincG (lv' := fun v9 => [(2, .int v9), (0, .ref go), (1, .int w1), (3, .int x_2)]) hx hb dX3_rowsOf_21 hl (k := 2) rfl (by decide) (fun _ => rfl) (fun x_15 ls hl => ?_)
          refine ziinc3 (n' := 1) (a' := 1) (b' := 60) (lv' := fun v9 => [(3, .int v9), (2, .int x_15), (0, .ref go), (1, .int w1)]) hx hb dX3_rowsOf_24 hl (k := 3) rfl (by decide) (fun _ => rfl) (zaddK (i := x_2.toInt) (j := 1) rfl (by decide) i3.1 n8 (Int.le_refl _) (Int.le_refl _) (by decide)) (fun x_16 ls hx_16 hl => ?_)
          refine lv_goto (tgt := 4) hx hb dX3_rowsOf_27 (by decide) ?_
          have hl := lv_sub (l' := [(0, .ref go), (1, .int w1), (2, .int x_15), (3, .int x_16)]) hl [2, 3, 1, 0] rfl
          have hP : va_P g.1 vwCl (List.flatten [bLog g go gr gz gn fr]) H := hP
          have hD : va_D A (List.flatten [bLog g go gr gz gn fr]) := hD
          exact ih4_5 x_15 x_16 ⟨(Int.le_trans (by decide) hx_16.2.1), hx_16.2.2⟩ H _ ls (zmK hx_16.1 (by decide) n8 (by decide) hk4_5)  hP hD hS (lv_sub hl [0, 1, 2, 3] rfl)
  have hP : va_P g.1 vwCl (List.flatten [bLog g go gr gz gn fr]) s.heap := hP
  have hD : va_D A (List.flatten [bLog g go gr gz gn fr]) := hD
  exact LP4_4 _ 0 0 (by decide) s.heap _ ls (Nat.lt_succ_self _)  hP hD hS (lv_sub hl [0, 1, 2, 3] rfl)
set_option maxRecDepth 100000 in
set_option maxHeartbeats 4000000 in
theorem c_g_latestDayOf (l : Launch) (g : zG) (go : Nat) (gr : Nat) (gz : Int32) (gn : Int32) (fr : Nat → Int32) (w1 : Int32) (b_gz : 0 ≤ gz.toInt ∧ gz.toInt ≤ 60) (b_gn : 0 ≤ gn.toInt ∧ gn.toInt ≤ 59) : zM' g l yX3_latestDayOf (Cond.code yX3_latestDayOf cX3_latestDayOf 3 (some .int) :: zB) ({ frames := 3, cells := 0, slots := 0, locals := 66 } : Room) [.ref go, .int w1] [bLog g go gr gz gn fr] (fun (q : Int32) => some (.int q)) (fun (q : Int32) => True) (fun (q : Int32) => [bLog g go gr gz gn fr]) := by
  refine zM'.of (cc := cX3_latestDayOf) (maxL := 3) (rt := (some .int)) (by decide) rfl (Nat.le_of_ble_eq_true rfl) ?_
  intro p e s m args below meth c A ls St hr hlocks hin hK hT hA hP hD hS hl
  obtain ⟨hx, hb, hml, hown, hts⟩ := id St
  have hl : lv_has ls 3 [(0, .ref go), (1, .int w1)] := hl
  refine lv_iconst (v := 0) hx hb dX3_latestDayOf_0 (by decide) ?_
  refine lv_istore_n (lv' := [(2, .int 0), (0, .ref go), (1, .int w1)]) hx hb dX3_latestDayOf_1 rfl hl (by decide) rfl (fun ls hl => ?_)
  have hl := lv_sub (l' := [(0, .ref go), (1, .int w1), (2, .int 0)]) hl [1, 2, 0] rfl
  have LP2_3 : ∀ (kf : Nat) (x_1 : Int32), (0 ≤ x_1.toInt ∧ x_1.toInt ≤ 60) → ∀ (H : Heap) (locs : List Loc) (ls : Array Slot), ((61 - x_1.toInt).toNat) < kf → va_P g.1 vwCl (List.flatten [bLog g go gr gz gn fr]) H → va_D A (List.flatten [bLog g go gr gz gn fr]) → va_S A s.heap H locs → lv_has ls 3 [(0, .ref go), (1, .int w1), (2, .int x_1)] → W p l e ({ frames := 3, cells := 0, slots := 0, locals := 66 } : Room) s m args below meth c H locs (0) (0) (zF g (fun (q : Int32) => some (.int q)) (fun (q : Int32) => True) (fun (q : Int32) => [bLog g go gr gz gn fr]) ({ frames := 3, cells := 0, slots := 0, locals := 66 } : Room) below args s A) (F0 m 2 ls []) := by
    intro kf
    induction kf with
    | zero => intro x_1 i2 H locs ls hk; exact absurd hk (Nat.not_lt_zero _)
    | succ kf ih2_4 =>
      intro x_1 i2 H locs ls hk2_4 hP hD hS hl
      refine lv_iload_n hx hb dX3_latestDayOf_2 rfl (lv_at hl 2 rfl) ?_
      refine lv_aload_n hx hb dX3_latestDayOf_3 rfl (lv_at hl 0 rfl) ?_
      refine va_get (D := g.1) (ci := 3) (v := .int gz) (C := RX3) (T := TX3) (N := 3) hx hb hts izRX3 hown hK hP 0 rfl rfl 1 (by decide) (hts _ k118) (fun _ h9 => h9) rfl dX3_latestDayOf_4 ?_
      refine lv_icmp_ge (tgt := 32) hx hb dX3_latestDayOf_7 (by decide) (fun cb9 => ?_) (fun cb9 => ?_)
      · skip
        have c5 : gz.toInt ≤ x_1.toInt := zle cb9 rfl rfl
        refine lv_iconst (v := (-1)) hx hb dX3_latestDayOf_32 (by decide) ?_
        have hP : va_P g.1 vwCl (List.flatten [bLog g go gr gz gn fr]) H := hP
        have hD : va_D A (List.flatten [bLog g go gr gz gn fr]) := hD
        exact mret_i hx hb hr hlocks hS (Nat.le_of_ble_eq_true rfl) (Nat.le_of_ble_eq_true rfl) dX3_latestDayOf_33 (-1) rfl trivial hP hD
      · skip
        have c6 : x_1.toInt < gz.toInt := zlti (Int32.not_le.mp cb9) rfl rfl
        have n7 : x_1.toInt ≤ 59 := zL1 (b := 60) c6 b_gz.2 (by decide)
        have n8 : 1 ≤ gz.toInt := zL2 (a := 0) c6 i2.1 (by decide)
        refine lv_aload_n hx hb dX3_latestDayOf_10 rfl (lv_at hl 0 rfl) ?_
        refine lv_iload_n hx hb dX3_latestDayOf_11 rfl (lv_at hl 2 rfl) ?_
        refine lv_iload_n hx hb dX3_latestDayOf_12 rfl (lv_at hl 1 rfl) ?_
        refine mcallV' (g := g) (q0 := 0) (ci := 3) (As := [.int x_1, .int w1]) (rest := []) St hK hT hA hP hD hS hl.1 [0] [] rfl rfl rfl (c_g_isOf l g go gr gz gn fr x_1 w1 b_gz b_gn) (cwV 2 hts (zgL (zl4 k343 k344 k345 k123) k338) rfl rfl rfl (by decide +kernel) ⟨Nat.le_of_ble_eq_true rfl, Nat.le_of_ble_eq_true rfl⟩) rfl rfl rfl rfl (Nat.le_of_ble_eq_true rfl) dX3_latestDayOf_13 ⟨(Nat.le_of_ble_eq_true rfl), (Nat.le_of_ble_eq_true rfl)⟩ (fun q_9 H locs hq10 hP hD hS => ?_)
        replace hq10 : (q_9 = 0 ∨ q_9 = 1) := hq10
        have hP : va_P g.1 vwCl (List.flatten [bLog g go gr gz gn fr]) H := hP
        have hD : va_D A (List.flatten [bLog g go gr gz gn fr]) := hD
        refine W.widen (k := 0) (n := 0) (Nat.le_of_ble_eq_true rfl) (Nat.le_of_ble_eq_true rfl) ?_
        refine W.eq (g2 := F0 m 16 ls [.int q_9]) rfl ?_
        rcases hq10 with rfl | rfl
        · skip
          refine lv_if_eq (tgt := 26) hx hb dX3_latestDayOf_16 (by decide) (fun _ => ?_) (fun c11 => absurd (by decide) c11)
          refine ziinc3 (n' := 1) (a' := 1) (b' := 60) (lv' := fun v9 => [(2, .int v9), (0, .ref go), (1, .int w1)]) hx hb dX3_latestDayOf_26 hl (k := 2) rfl (by decide) (fun _ => rfl) (zaddK (i := x_1.toInt) (j := 1) rfl (by decide) i2.1 n7 (Int.le_refl _) (Int.le_refl _) (by decide)) (fun x_12 ls hx_12 hl => ?_)
          refine lv_goto (tgt := 2) hx hb dX3_latestDayOf_29 (by decide) ?_
          have hl := lv_sub (l' := [(0, .ref go), (1, .int w1), (2, .int x_12)]) hl [1, 2, 0] rfl
          have hP : va_P g.1 vwCl (List.flatten [bLog g go gr gz gn fr]) H := hP
          have hD : va_D A (List.flatten [bLog g go gr gz gn fr]) := hD
          exact ih2_4 x_12 ⟨(Int.le_trans (by decide) hx_12.2.1), hx_12.2.2⟩ H _ ls (zmK hx_12.1 (by decide) n7 (by decide) hk2_4)  hP hD hS (lv_sub hl [0, 1, 2] rfl)
        · skip
          refine lv_if_eq (tgt := 26) hx hb dX3_latestDayOf_16 (by decide) (fun c13 => absurd c13 (by decide)) (fun _ => ?_)
          refine lv_aload_n hx hb dX3_latestDayOf_19 rfl (lv_at hl 0 rfl) ?_
          refine lv_iload_n hx hb dX3_latestDayOf_20 rfl (lv_at hl 2 rfl) ?_
          refine lv_iconst (v := 0) hx hb dX3_latestDayOf_21 (by decide) ?_
          have hL0 : (0 : Int32).toInt = 0 := by decide
          refine mcallV' (g := g) (q0 := 0) (ci := 3) (As := [.int x_1, .int 0]) (rest := []) St hK hT hA hP hD hS hl.1 [0] [] rfl rfl rfl (c_g_at l g go gr gz gn fr x_1 0 b_gz b_gn (by decide)) (cwV 2 hts (zgL (zl4 k339 k340 k341 k123) k334) rfl rfl rfl (by decide +kernel) ⟨Nat.le_of_ble_eq_true rfl, Nat.le_of_ble_eq_true rfl⟩) rfl rfl rfl rfl (Nat.le_of_ble_eq_true rfl) dX3_latestDayOf_22 ⟨(Nat.le_of_ble_eq_true rfl), (Nat.le_of_ble_eq_true rfl)⟩ (fun q_14 H locs hq15 hP hD hS => ?_)
          have hP : va_P g.1 vwCl (List.flatten [bLog g go gr gz gn fr]) H := hP
          have hD : va_D A (List.flatten [bLog g go gr gz gn fr]) := hD
          refine W.widen (k := 0) (n := 0) (Nat.le_of_ble_eq_true rfl) (Nat.le_of_ble_eq_true rfl) ?_
          refine W.eq (g2 := F0 m 25 ls [.int q_14]) rfl ?_
          have hP : va_P g.1 vwCl (List.flatten [bLog g go gr gz gn fr]) H := hP
          have hD : va_D A (List.flatten [bLog g go gr gz gn fr]) := hD
          exact mret_i hx hb hr hlocks hS (Nat.le_of_ble_eq_true rfl) (Nat.le_of_ble_eq_true rfl) dX3_latestDayOf_25 (q_14) rfl trivial hP hD
  have hP : va_P g.1 vwCl (List.flatten [bLog g go gr gz gn fr]) s.heap := hP
  have hD : va_D A (List.flatten [bLog g go gr gz gn fr]) := hD
  exact LP2_3 _ 0 (by decide) s.heap _ ls (Nat.lt_succ_self _)  hP hD hS (lv_sub hl [0, 1, 2] rfl)
