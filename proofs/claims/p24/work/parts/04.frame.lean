/-! FRAME: worlds as lists of blocks, one form of contract (returns or throws), one row a call. -/
/-- the good words of the tables: every method's contract has them all -/
def zB : List Cond := lw_tbl.filter goodWord
theorem zmem {w : Cond} (h : w ∈ lw_tbl) (g : goodWord w = true) : w ∈ zB := List.mem_filter.mpr ⟨h, g⟩
theorem zgood {big : List Cond} (h : ∀ w ∈ zB, w ∈ big) : ∀ w ∈ zB, w ∈ big ∧ ((w.onTables && w.keeps) = true ∨ ∃ ty, w = .arrayClass ty) := fun w hw => ⟨h w hw, good_of_word (List.mem_filter.mp hw).2⟩
theorem zgI {c : Cond} (hc : c ∈ zB) : GoodIn zB (c :: zB) := fun w hw => (List.mem_cons.mp hw).elim (fun e => by subst e; exact ⟨hc, good_of_word (List.mem_filter.mp hc).2⟩) (fun h => ⟨h, good_of_word (List.mem_filter.mp h).2⟩)
theorem zgL {c : Cond} {ws : List Cond} (hl : ∀ w ∈ ws, w ∈ zB) (hc : c ∈ zB) : GoodIn zB (ws ++ (c :: zB)) := fun w hw => (List.mem_append.mp hw).elim (fun h => ⟨hl w h, good_of_word (List.mem_filter.mp (hl w h)).2⟩) (zgI hc w)
theorem zl3 {a b c : Cond} (ha : a ∈ zB) (hb : b ∈ zB) (hc : c ∈ zB) : ∀ w ∈ [a, b, c], w ∈ zB := fun w h => by
  rcases List.mem_cons.mp h with rfl | h
  · exact ha
  rcases List.mem_cons.mp h with rfl | h
  · exact hb
  rcases List.mem_cons.mp h with rfl | h
  · exact hc
  cases h
theorem zl4 {a b c d : Cond} (ha : a ∈ zB) (hb : b ∈ zB) (hc : c ∈ zB) (hd : d ∈ zB) : ∀ w ∈ [a, b, c, d], w ∈ zB := fun w h => (List.mem_cons.mp h).elim (fun e => e ▸ ha) (zl3 hb hc hd w)
theorem zl5 {a b c d e : Cond} (ha : a ∈ zB) (hb : b ∈ zB) (hc : c ∈ zB) (hd : d ∈ zB) (he : e ∈ zB) : ∀ w ∈ [a, b, c, d, e], w ∈ zB := fun w h => (List.mem_cons.mp h).elim (fun e => e ▸ ha) (zl4 hb hc hd he w)
abbrev zG : Type := va_G × (Nat → ClassId)
abbrev zT (g : zG) : List (ClassId × FieldType) := [(g.2 0, .int), (g.2 1, .boolean), (g.2 2, .long), (g.2 3, .object "DryRiver$Town"), (g.2 4, .object "DryRiver$Log")]
abbrev zK (g : zG) (s : State) : Prop := va_K g.1 vwCl (zT g) s
theorem zP_iff {D : va_G} {cl : List vw_C} {ws : va_W} {H : Heap} : va_P D cl ws H ↔ ∀ q ∈ ws, va_at D cl q H := by
  constructor
  · intro h q hq
    obtain ⟨k, hk⟩ := List.getElem?_of_mem hq
    exact h k q hk
  · intro h k q hk
    exact h q (List.mem_of_getElem? hk)
theorem zD_iff {A : Nat → Prop} {ws : va_W} : va_D A ws ↔ ws.Pairwise (fun p q => p.1 ≠ q.1) ∧ ∀ q ∈ ws, A q.1 := by
  constructor
  · intro h
    refine ⟨List.pairwise_iff_getElem.mpr (fun i j hi hj hij e => ?_), fun q hq => ?_⟩
    · have := h.1 i j ws[i] ws[j] (List.getElem?_eq_getElem hi) (List.getElem?_eq_getElem hj) e
      omega
    · obtain ⟨k, hk⟩ := List.getElem?_of_mem hq
      exact h.2 k q hk
  · intro h
    refine ⟨fun i j p q hi hj e => ?_, fun k q hk => h.2 q (List.mem_of_getElem? hk)⟩
    obtain ⟨hi1, hi2⟩ := List.getElem?_eq_some_iff.mp hi
    obtain ⟨hj1, hj2⟩ := List.getElem?_eq_some_iff.mp hj
    have hp := List.pairwise_iff_getElem.mp h.1
    rcases Nat.lt_trichotomy i j with c | c | c
    · exact absurd (by rw [hi2, hj2]; exact e) (hp i j hi1 hj1 c)
    · exact c
    · exact absurd (by rw [hi2, hj2]; exact e.symm) (hp j i hj1 hi1 c)
/-- some of the blocks, by their places -/
def zk (Bs : List va_W) (is : List Nat) : List va_W := is.filterMap (fun i => Bs[i]?)
theorem zk_nd : ∀ {a b : List Nat}, va_nd (a ++ b) = true → va_nd a = true
  | [], _, _ => rfl
  | x :: a, b, h => by
    simp only [List.cons_append, va_nd, Bool.and_eq_true, decide_eq_true_eq, List.mem_append, not_or] at h ⊢
    exact ⟨h.1.1, zk_nd h.2⟩
theorem zk_mem {Bs : List va_W} {is : List Nat} {b : va_W} (h : b ∈ zk Bs is) : ∃ i ∈ is, Bs[i]? = some b := by
  obtain ⟨i, hi, e⟩ := List.mem_filterMap.mp h
  exact ⟨i, hi, e⟩
theorem zk_app (Bs : List va_W) (is js : List Nat) : zk Bs (is ++ js) = zk Bs is ++ zk Bs js := by
  unfold zk; exact List.filterMap_append
theorem zk_pw {S : va_W → va_W → Prop} (hs : ∀ a b, S a b → S b a) {Bs : List va_W} (h : Bs.Pairwise S) : ∀ (is : List Nat), va_nd is = true → (zk Bs is).Pairwise S
  | [], _ => List.Pairwise.nil
  | i :: is, hn => by
    simp only [va_nd, Bool.and_eq_true, decide_eq_true_eq] at hn
    have ih := zk_pw hs h is hn.2
    unfold zk
    cases e : Bs[i]? with
    | none => rw [List.filterMap_cons_none e]; exact ih
    | some b =>
      rw [List.filterMap_cons_some e]
      refine List.Pairwise.cons (fun y hy => ?_) ih
      obtain ⟨j, hj, ej⟩ := zk_mem hy
      have hne : i ≠ j := fun q => hn.1 (q ▸ hj)
      obtain ⟨hi1, hi2⟩ := List.getElem?_eq_some_iff.mp e
      obtain ⟨hj1, hj2⟩ := List.getElem?_eq_some_iff.mp ej
      have hp := List.pairwise_iff_getElem.mp h
      rcases Nat.lt_or_gt_of_ne hne with c | c
      · have := hp i j hi1 hj1 c
        rw [hi2, hj2] at this; exact this
      · have := hp j i hj1 hi1 c
        rw [hi2, hj2] at this; exact hs _ _ this
theorem zk_fmem {Bs : List va_W} {is : List Nat} {q : Nat × va_E} (h : q ∈ (zk Bs is).flatten) : q ∈ Bs.flatten := by
  obtain ⟨b, hb, hq⟩ := List.mem_flatten.mp h
  obtain ⟨i, -, e⟩ := zk_mem hb
  exact List.mem_flatten.mpr ⟨b, List.mem_of_getElem? e, hq⟩
theorem zk_D {A : Nat → Prop} {Bs : List va_W} (h : va_D A Bs.flatten) (is : List Nat) (hn : va_nd is = true) : va_D A (zk Bs is).flatten := by
  obtain ⟨h1, h2⟩ := zD_iff.mp h
  obtain ⟨p1, p2⟩ := List.pairwise_flatten.mp h1
  refine zD_iff.mpr ⟨List.pairwise_flatten.mpr ⟨fun l hl => ?_, ?_⟩, fun q hq => h2 q (zk_fmem hq)⟩
  · obtain ⟨i, -, e⟩ := zk_mem hl
    exact p1 l (List.mem_of_getElem? e)
  · exact zk_pw (fun a b hab x hx y hy e => hab y hy x hx e.symm) p2 is hn
theorem zk_P {D : va_G} {cl : List vw_C} {Bs : List va_W} {H : Heap} (h : va_P D cl Bs.flatten H) (is : List Nat) : va_P D cl (zk Bs is).flatten H :=
  zP_iff.mpr fun q hq => zP_iff.mp h q (zk_fmem hq)
/-- the blocks in another order, or fewer of them -/
theorem zord {g : zG} {A : Nat → Prop} {Bs Bs' : List va_W} {H : Heap} (is : List Nat) (hn : va_nd is = true) (e : zk Bs is = Bs') (hP : va_P g.1 vwCl Bs.flatten H) (hD : va_D A Bs.flatten) : va_P g.1 vwCl Bs'.flatten H ∧ va_D A Bs'.flatten := by
  subst e; exact ⟨zk_P hP is, zk_D hD is hn⟩
theorem zA_mem {ws : va_W} {sz q : Nat} : va_A ws sz q ↔ (∃ e ∈ ws, e.1 = q) ∨ sz ≤ q := by
  constructor
  · rintro (⟨k, e, h⟩ | h)
    · exact Or.inl ⟨(q, e), List.mem_of_getElem? h, rfl⟩
    · exact Or.inr h
  · rintro (⟨⟨a, e⟩, h, rfl⟩ | h)
    · obtain ⟨k, hk⟩ := List.getElem?_of_mem h
      exact Or.inl ⟨k, e, hk⟩
    · exact Or.inr h
theorem zlt {D : va_G} {cl : List vw_C} {q : Nat × va_E} {H : Heap} (h : va_at D cl q H) : q.1 < H.size := h.lt
/-- behind a call: the blocks that it didn't have, and what came back -/
theorem zjoin {g : zG} {A : Nat → Prop} {Bs Bc Br B1 : List va_W} {H H1 : Heap} (isC isR : List Nat) (hn : va_nd (isC ++ isR) = true) (hC : zk Bs isC = Bc) (hR : zk Bs isR = Br) (hP : va_P g.1 vwCl Bs.flatten H) (hD : va_D A Bs.flatten)
    (hk : ∀ q : Nat, q < H.size → ¬ va_A Bc.flatten H.size q → H1[q]? = H[q]?) (hF : ∀ q, va_A Bc.flatten H.size q → A q) (hP1 : va_P g.1 vwCl B1.flatten H1) (hD1 : va_D (va_A Bc.flatten H.size) B1.flatten) :
    va_P g.1 vwCl (Br ++ B1).flatten H1 ∧ va_D A (Br ++ B1).flatten := by
  have hD2 := zk_D hD (isC ++ isR) hn
  rw [zk_app, hC, hR, List.flatten_append] at hD2
  obtain ⟨d1, d2⟩ := zD_iff.mp hD2
  obtain ⟨-, dr, dx⟩ := List.pairwise_append.mp d1
  have hPr : va_P g.1 vwCl Br.flatten H := by rw [← hR]; exact zk_P hP isR
  have hout : ∀ q ∈ Br.flatten, ¬ va_A Bc.flatten H.size q.1 := by
    intro q hq h
    rcases zA_mem.mp h with ⟨e, he, e2⟩ | h
    · exact dx e he q hq e2
    · exact Nat.lt_irrefl _ (Nat.lt_of_lt_of_le (zlt (zP_iff.mp hPr q hq)) h)
  obtain ⟨f1, f2⟩ := zD_iff.mp hD1
  rw [List.flatten_append]
  refine ⟨zP_iff.mpr fun q hq => ?_, zD_iff.mpr ⟨List.pairwise_append.mpr ⟨dr, f1, fun a ha b hb e => hout a ha (e ▸ f2 b hb)⟩, fun q hq => ?_⟩⟩
  · rcases List.mem_append.mp hq with h | h
    · have h0 := zP_iff.mp hPr q h
      exact h0.kept (hk q.1 (zlt h0) (hout q h))
    · exact zP_iff.mp hP1 q h
  · rcases List.mem_append.mp hq with h | h
    · exact d2 q (List.mem_append_right _ h)
    · exact hF _ (f2 q h)
theorem zfree {A : Nat → Prop} {Bs Bc : List va_W} {H0 H : Heap} {locs : List Loc} (hD : va_D A Bs.flatten) (hS : va_S A H0 H locs) (hA : ∀ q, H0.size ≤ q → A q) (isC : List Nat) (hC : zk Bs isC = Bc) : ∀ q, va_A Bc.flatten H.size q → A q := by
  intro q h
  rcases zA_mem.mp h with ⟨e, he, rfl⟩ | h
  · exact (zD_iff.mp hD).2 e (zk_fmem (by rw [hC]; exact he))
  · exact hA q (Nat.le_trans hS.1 h)
/-- what a throw needs of the JDK, and the texts; links between nest mates; what is castable -/
def zStr : List (String × Nat × String) := [("DryRiver", 108, "the text of the town is wrong"), ("DryRiver", 118, "there are as many texts as can be"), ("DryRiver", 130, "the text of the law is wrong"), ("DryRiver", 173, "a person has no such thing"), ("DryRiver", 199, "a work has no such thing"), ("DryRiver", 354, "a row of the log has no such thing"), ("DryRiver", 389, "there is no such person"), ("DryRiver", 392, "both are one"), ("DryRiver", 394, "there is no such work"), ("DryRiver", 398, "it cannot be"), ("DryRiver", 401, "the number is none"), ("DryRiver", 406, "the tape is not tales"), ("DryRiver", 412, "the tape is not what people say of one another")]
def zNest : List (String × Nat × MethodName) := [(RX0, 11, yX9_init), (RX2, 11, yX1_init), (RX4, 23, yX9_init), (RX4, 30, yX1_init), (RX4, 35, yX3_init), (RX10, 11, yX9_init), (RX11, 9, yX6_init), (RX11, 18, yX9_init), (RX11, 25, yX1_init), (RX11, 32, yX3_init), (RX11, 71, yX5_init)]
def zCa : List (String × String) := [("java/lang/IndexOutOfBoundsException", "java/lang/IndexOutOfBoundsException"), ("java/lang/IllegalArgumentException", "java/lang/IllegalArgumentException"), ("java/lang/IllegalStateException", "java/lang/IllegalStateException"), ("java/lang/UnsupportedOperationException", "java/lang/UnsupportedOperationException"), ("java/util/NoSuchElementException", "java/util/NoSuchElementException")]
def zNc : List (String × String) := [("java/lang/IndexOutOfBoundsException", "java/lang/IllegalArgumentException"), ("java/lang/IndexOutOfBoundsException", "java/lang/IllegalStateException"), ("java/lang/IndexOutOfBoundsException", "java/lang/UnsupportedOperationException"), ("java/lang/IndexOutOfBoundsException", "java/util/NoSuchElementException"), ("java/lang/IllegalArgumentException", "java/lang/IndexOutOfBoundsException"), ("java/lang/IllegalArgumentException", "java/lang/IllegalStateException"), ("java/lang/IllegalArgumentException", "java/lang/UnsupportedOperationException"), ("java/lang/IllegalArgumentException", "java/util/NoSuchElementException"), ("java/lang/IllegalStateException", "java/lang/IndexOutOfBoundsException"), ("java/lang/IllegalStateException", "java/lang/IllegalArgumentException"), ("java/lang/IllegalStateException", "java/lang/UnsupportedOperationException"), ("java/lang/IllegalStateException", "java/util/NoSuchElementException"), ("java/lang/UnsupportedOperationException", "java/lang/IndexOutOfBoundsException"), ("java/lang/UnsupportedOperationException", "java/lang/IllegalArgumentException"), ("java/lang/UnsupportedOperationException", "java/lang/IllegalStateException"), ("java/lang/UnsupportedOperationException", "java/util/NoSuchElementException"), ("java/util/NoSuchElementException", "java/lang/IndexOutOfBoundsException"), ("java/util/NoSuchElementException", "java/lang/IllegalArgumentException"), ("java/util/NoSuchElementException", "java/lang/IllegalStateException"), ("java/util/NoSuchElementException", "java/lang/UnsupportedOperationException")]
def zCast (C T : String) (U : State) : Prop := ∃ c t : ClassId, U.vm.findClass C = some c ∧ U.vm.findClass T = some t ∧ U.vm.assignable c t = true
theorem zCast.moved {C T : String} {u U : State} (hvm : u.vm.Alike U.vm) (h : zCast C T u) : zCast C T U := by
  obtain ⟨c, t, h1, h2, h3⟩ := h
  exact ⟨c, t, by rw [hvm.findClass]; exact h1, by rw [hvm.findClass]; exact h2, by rw [hvm.assignable]; exact h3⟩
theorem zCast.of {C T : String} {a : Array Value} {U : State} (h : (Cond.castable C T).before a U = true) : zCast C T U := Cond.castable_spec h
theorem zCast.use {C T : String} {a : Array Value} {U : State} (h : zCast C T U) : (Cond.castable C T).before a U = true := by
  obtain ⟨c, t, h1, h2, h3⟩ := h
  simp [Cond.before, Cond.holds, Cond.value, h1, h2, h3]
def zTh (A : Nat → Prop) (U : State) : Prop := vx_Zq Bundle.tN "UNASSIGNED_STACK" Bundle.steD A U U.heap ∧ vx_Zq Bundle.tN "SUPPRESSED_SENTINEL" Bundle.listD A U U.heap ∧ (∀ q ∈ zStr, ∃ a : Nat, vk_R q.1 q.2.1 q.2.2 a U) ∧ (∀ q ∈ zNest, va_Nw (.methodLinkNest q.1 q.2.1 q.2.2 "DryRiver") U) ∧ (∀ q ∈ zCa, zCast q.1 q.2 U) ∧ (∀ q ∈ zNc, va_Nc q.1 q.2 U) ∧ va_AO "DryRiver$Town" U ∧ va_AO "DryRiver$Log" U
theorem zTh.go {A A' : Nat → Prop} {s U : State} {H : Heap} {locs : List Loc} (h : zTh A s) (hS : va_S A s.heap H locs) (hU : U.heap = H) (hW : s.WarmedH U.vm) (hF : ∀ q, A' q → A q) : zTh A' U := by
  obtain ⟨h1, h2, h3, h4, h5, h6, h7, h8⟩ := h
  refine ⟨?_, ?_, fun q hq => ?_, fun q hq => ?_, fun q hq => (h5 q hq).moved hW.alike, fun q hq => (h6 q hq).moved hW.alike, va_AO.moved hW.alike h7, va_AO.moved hW.alike h8⟩
  · rw [hU]; exact vx_Zq.moved hW.alike ((h1.kept hS.2.1).narrow hF)
  · rw [hU]; exact vx_Zq.moved hW.alike ((h2.kept hS.2.1).narrow hF)
  · obtain ⟨a, ha⟩ := h3 q hq
    exact ⟨a, ha.warm hW⟩
  · exact va_Nw.warmM hW (h4 q hq)
/-- a start -/
def zPc (g : zG) (av : List Value) (Bs : List va_W) (sz : Nat) : Array Value → State → Prop := fun v U => v = av.toArray ∧ U.heap.size = sz ∧ va_P g.1 vwCl Bs.flatten U.heap ∧ zK g U ∧ va_D (fun _ => True) Bs.flatten ∧ zTh (va_A Bs.flatten sz) U
theorem zPc_blind {g : zG} {av : List Value} {Bs : List va_W} {sz : Nat} : FrameBlind (zPc g av Bs sz) := by
  intro a U gg mk ⟨h1, h2, h3, h4, h5, h6, h7, h8, h9, h10, h11, h12, h13⟩
  refine ⟨h1, h2, h3, va_K.moved (u := U) (U := U.calling gg mk a) (Vm.Alike.refl U.vm) h4, h5, vx_Zq.moved (u := U) (U := U.calling gg mk a) (Vm.Alike.refl U.vm) h6, vx_Zq.moved (u := U) (U := U.calling gg mk a) (Vm.Alike.refl U.vm) h7, fun q hq => ?_, fun q hq => ?_, fun q hq => (h10 q hq).moved (u := U) (U := U.calling gg mk a) (Vm.Alike.refl U.vm), fun q hq => (h11 q hq).moved (u := U) (U := U.calling gg mk a) (Vm.Alike.refl U.vm), va_AO.moved (u := U) (U := U.calling gg mk a) (Vm.Alike.refl U.vm) h12, va_AO.moved (u := U) (U := U.calling gg mk a) (Vm.Alike.refl U.vm) h13⟩
  · obtain ⟨x, hx⟩ := h8 q hq
    exact ⟨x, vk_R.same (u := U) rfl hx⟩
  · exact va_Nw.same rfl (u := U) rfl (h9 q hq)
/-- an end -/
def zQ {S : Type} (g : zG) (ret : S → Option Value) (post : S → Prop) (B1 : S → List va_W) (A : Nat → Prop) : Array Value → State → Outcome → State → Prop := fun _ st oc t =>
  (∃ u : S, oc = .returned (ret u) ∧ post u ∧ va_P g.1 vwCl (B1 u).flatten t.heap ∧ va_D A (B1 u).flatten) ∧ va_F A st t
def zXC {SX : Type} (g : zG) (px : String → SX → Prop) (BX : SX → List va_W) (A : Nat → Prop) : String → State → State → Prop := fun E st t =>
  (∃ u : SX, px E u ∧ va_P g.1 vwCl (BX u).flatten t.heap ∧ va_D A (BX u).flatten) ∧ va_F A st t
/-- a contract -/
def zX {S SX : Type} (g : zG) (l : Launch) (y : MethodName) (ws : List Cond) (rm : Room) (av : List Value) (Bs : List va_W) (ret : S → Option Value) (post : S → Prop) (B1 : S → List va_W) (px : String → SX → Prop) (BX : SX → List va_W) : Prop :=
  ∀ sz : Nat, vx_Met l y ws rm (zPc g av Bs sz) (zQ g ret post B1 (va_A Bs.flatten sz)) (zXC g px BX (va_A Bs.flatten sz)) rm.cells rm.slots (va_A Bs.flatten sz)
/-- a contract of a method that doesn't throw -/
def zM {S : Type} (g : zG) (l : Launch) (y : MethodName) (ws : List Cond) (rm : Room) (av : List Value) (Bs : List va_W) (ret : S → Option Value) (post : S → Prop) (B1 : S → List va_W) : Prop :=
  ∀ sz : Nat, Met l y ws rm (zPc g av Bs sz) (zQ g ret post B1 (va_A Bs.flatten sz)) rm.cells rm.slots (va_A Bs.flatten sz)
def zF {S : Type} (g : zG) (ret : S → Option Value) (post : S → Prop) (B1 : S → List va_W) (rm : Room) (below : List Frame) (args : Array Value) (s : State) (A : Nat → Prop) : State → Prop :=
  MQ below (zQ g ret post B1 A) args s rm.cells rm.slots A
theorem zM.of {S : Type} {g : zG} {l : Launch} {y : MethodName} {ws : List Cond} {rm : Room} {av : List Value} {Bs : List va_W} {ret : S → Option Value} {post : S → Prop} {B1 : S → List va_W} {cc : ByteArray} {maxL : Nat} {rt : Option FieldType}
    (hy : plainName y.cls = true) (hw : ws = Cond.code y cc maxL rt :: zB) (hn : (lg_sl av).length ≤ maxL)
    (body : ∀ (p : Program) (e : Env) (s : State) (m : MethodId) (args : Array Value) (below : List Frame) (meth : Method) (c : Code) (A : Nat → Prop) (ls : Array Slot), CallFix p m c cc maxL s args zB y.cls → meth.sig.returnType = rt → meth.locks = false → meth.name = y.name →
      zK g s → zTh A s → (∀ q, s.heap.size ≤ q → A q) → va_P g.1 vwCl Bs.flatten s.heap → va_D A Bs.flatten → va_S A s.heap s.heap [] → lv_has ls maxL (lv_args 0 av) →
      W p l e rm s m args below meth c s.heap [] 0 0 (zF g ret post B1 rm below args s A) (F0 m 0 ls [])) : zM g l y ws rm av Bs ret post B1 := by
  intro sz
  refine Met.ofW (cc := cc) (maxL := maxL) (ret := rt) hy hw ?_
  intro p e s m args below meth c s₁ B hml hv
  obtain ⟨rfl, hsz, hP, hK, hD0, hTh⟩ := hv
  subst hsz
  have hl := lv_entry av (n := maxL) hn
  rw [lg_entry_eq]
  generalize (lg_sl av ++ List.replicate (maxL - (lg_sl av).length) Slot.unset).toArray = ls at hl ⊢
  exact body p e s m _ below meth c _ ls ⟨B.exec, B.bytes, hml, findClass_of_methodNamed B.named, fun w hw9 => atoms_spec (ws := ws) B.pre w (by rw [hw]; exact List.mem_cons_of_mem _ hw9)⟩ B.returns B.notSynchronized (name_of_methodNamed B.named B.method).1 hK hTh (fun q h => Or.inr h) hP (hD0.self (sz := s.heap.size)) va_S.rf hl
/-- what a body owes -/
def zE {S SX : Type} (g : zG) (ret : S → Option Value) (post : S → Prop) (B1 : S → List va_W) (px : String → SX → Prop) (BX : SX → List va_W) (rm : Room) (below : List Frame) (args : Array Value) (s : State) (A : Nat → Prop) : State → Prop :=
  vx_MQ below (zQ g ret post B1 A) (zXC g px BX A) args s rm.cells rm.slots A
abbrev zNo : String → Unit → Prop := fun _ _ => False
abbrev zN0 : Unit → List va_W := fun _ => []
theorem zX.of {S SX : Type} {g : zG} {l : Launch} {y : MethodName} {ws : List Cond} {rm : Room} {av : List Value} {Bs : List va_W} {ret : S → Option Value} {post : S → Prop} {B1 : S → List va_W} {px : String → SX → Prop} {BX : SX → List va_W} {cc : ByteArray} {maxL : Nat} {rt : Option FieldType}
    (hy : plainName y.cls = true) (hw : ws = Cond.code y cc maxL rt :: zB) (hn : (lg_sl av).length ≤ maxL)
    (body : ∀ (p : Program) (e : Env) (s : State) (m : MethodId) (args : Array Value) (below : List Frame) (meth : Method) (c : Code) (A : Nat → Prop) (ls : Array Slot), CallFix p m c cc maxL s args zB y.cls → meth.sig.returnType = rt → meth.locks = false → (∀ x ∈ c.exceptionTable.toList, False) → meth.name = y.name →
      zK g s → zTh A s → (∀ q, s.heap.size ≤ q → A q) → va_P g.1 vwCl Bs.flatten s.heap → va_D A Bs.flatten → va_S A s.heap s.heap [] → lv_has ls maxL (lv_args 0 av) →
      W p l e rm s m args below meth c s.heap [] 0 0 (zE g ret post B1 px BX rm below args s A) (F0 m 0 ls [])) : zX g l y ws rm av Bs ret post B1 px BX := by
  intro sz
  refine vx_ofW (cc := cc) (maxL := maxL) (ret := rt) hy hw ?_
  intro p e s m args below meth c s₁ B hml htab hv
  obtain ⟨rfl, hsz, hP, hK, hD0, hTh⟩ := hv
  subst hsz
  have hl := lv_entry av (n := maxL) hn
  rw [lg_entry_eq]
  generalize (lg_sl av ++ List.replicate (maxL - (lg_sl av).length) Slot.unset).toArray = ls at hl ⊢
  exact body p e s m _ below meth c _ ls ⟨B.exec, B.bytes, hml, findClass_of_methodNamed B.named, fun w hw9 => atoms_spec (ws := ws) B.pre w (by rw [hw]; exact List.mem_cons_of_mem _ hw9)⟩ B.returns B.notSynchronized htab (name_of_methodNamed B.named B.method).1 hK hTh (fun q h => Or.inr h) hP (hD0.self (sz := s.heap.size)) va_S.rf hl
section ZR
variable {S SX : Type} {g : zG} {ret : S → Option Value} {post : S → Prop} {B1 : S → List va_W} {px : String → SX → Prop} {BX : SX → List va_W} {rm : Room}
variable {p : Program} {l : Launch} {e : Env} {R : Room} {s : State} {m : MethodId} {args : Array Value} {below : List Frame} {meth : Method} {c : Code} {H : Heap} {locs : List Loc} {cells slots : Nat} {A : Nat → Prop} {cc : ByteArray} {pc : Nat} {ls : Array Slot}
theorem zret_i {v : Int32} (hx : p.tables.exec = Jvm.exec) (hb : c.code = cc) (hr : meth.sig.returnType = some .int) (hlocks : meth.locks = false) (hS : va_S A s.heap H locs) (hc : cells ≤ rm.cells) (hs : slots ≤ rm.slots) (hdg : decode cc pc = .ok (.ireturn, 1))
    (u : S) (hret : ret u = some (.int v)) (hpost : post u) (hP : va_P g.1 vwCl (B1 u).flatten H) (hD : va_D A (B1 u).flatten) : W p l e R s m args below meth c H locs cells slots (zE g ret post B1 px BX rm below args s A) (F0 m pc ls [.int v]) := by
  refine W.widen hc hs (vx_ret (W.iret hx hb hr (fun t ht hW => ?_) hS.2.2 hdg hlocks))
  exact ⟨⟨u, by rw [hret], hpost, by rw [ht]; exact hP, hD⟩, hS.F ht⟩
theorem zret_z {v : Int32} (hx : p.tables.exec = Jvm.exec) (hb : c.code = cc) (hr : meth.sig.returnType = some .boolean) (hlocks : meth.locks = false) (hS : va_S A s.heap H locs) (hc : cells ≤ rm.cells) (hs : slots ≤ rm.slots) (hdg : decode cc pc = .ok (.ireturn, 1))
    (u : S) (hret : ret u = some (.int v)) (hv : v = 0 ∨ v = 1) (hpost : post u) (hP : va_P g.1 vwCl (B1 u).flatten H) (hD : va_D A (B1 u).flatten) : W p l e R s m args below meth c H locs cells slots (zE g ret post B1 px BX rm below args s A) (F0 m pc ls [.int v]) := by
  refine W.widen hc hs (vx_ret (W.zret (ty := .boolean) hx hb hr (by rcases hv with rfl | rfl <;> rfl) (fun t ht hW => ?_) hS.2.2 hdg hlocks))
  exact ⟨⟨u, by rw [hret], hpost, by rw [ht]; exact hP, hD⟩, hS.F ht⟩
theorem zret_l {v : Int64} (hx : p.tables.exec = Jvm.exec) (hb : c.code = cc) (hr : meth.sig.returnType = some .long) (hlocks : meth.locks = false) (hS : va_S A s.heap H locs) (hc : cells ≤ rm.cells) (hs : slots ≤ rm.slots) (hdg : decode cc pc = .ok (.lreturn, 1))
    (u : S) (hret : ret u = some (.long v)) (hpost : post u) (hP : va_P g.1 vwCl (B1 u).flatten H) (hD : va_D A (B1 u).flatten) : W p l e R s m args below meth c H locs cells slots (zE g ret post B1 px BX rm below args s A) (F0 m pc ls [.long v]) := by
  refine W.widen hc hs (vx_ret (W.lret hx hb hr (fun t ht hW => ?_) hS.2.2 hdg hlocks))
  exact ⟨⟨u, by rw [hret], hpost, by rw [ht]; exact hP, hD⟩, hS.F ht⟩
theorem zret_v (hx : p.tables.exec = Jvm.exec) (hb : c.code = cc) (hr : meth.sig.returnType = none) (hlocks : meth.locks = false) (hS : va_S A s.heap H locs) (hc : cells ≤ rm.cells) (hs : slots ≤ rm.slots) (hdg : decode cc pc = .ok (.return_, 1))
    (u : S) (hret : ret u = none) (hpost : post u) (hP : va_P g.1 vwCl (B1 u).flatten H) (hD : va_D A (B1 u).flatten) : W p l e R s m args below meth c H locs cells slots (zE g ret post B1 px BX rm below args s A) (F0 m pc ls []) := by
  refine W.widen hc hs (vx_ret (W.vret hx hb hr (fun t ht hW => ?_) hS.2.2 hdg hlocks))
  exact ⟨⟨u, by rw [hret], hpost, by rw [ht]; exact hP, hD⟩, hS.F ht⟩
theorem mret_i {v : Int32} (hx : p.tables.exec = Jvm.exec) (hb : c.code = cc) (hr : meth.sig.returnType = some .int) (hlocks : meth.locks = false) (hS : va_S A s.heap H locs) (hc : cells ≤ rm.cells) (hs : slots ≤ rm.slots) (hdg : decode cc pc = .ok (.ireturn, 1))
    (u : S) (hret : ret u = some (.int v)) (hpost : post u) (hP : va_P g.1 vwCl (B1 u).flatten H) (hD : va_D A (B1 u).flatten) : W p l e R s m args below meth c H locs cells slots (zF g ret post B1 rm below args s A) (F0 m pc ls [.int v]) := by
  refine W.widen hc hs ((W.iret hx hb hr (fun t ht hW => ?_) hS.2.2 hdg hlocks))
  exact ⟨⟨u, by rw [hret], hpost, by rw [ht]; exact hP, hD⟩, hS.F ht⟩
theorem mret_z {v : Int32} (hx : p.tables.exec = Jvm.exec) (hb : c.code = cc) (hr : meth.sig.returnType = some .boolean) (hlocks : meth.locks = false) (hS : va_S A s.heap H locs) (hc : cells ≤ rm.cells) (hs : slots ≤ rm.slots) (hdg : decode cc pc = .ok (.ireturn, 1))
    (u : S) (hret : ret u = some (.int v)) (hv : v = 0 ∨ v = 1) (hpost : post u) (hP : va_P g.1 vwCl (B1 u).flatten H) (hD : va_D A (B1 u).flatten) : W p l e R s m args below meth c H locs cells slots (zF g ret post B1 rm below args s A) (F0 m pc ls [.int v]) := by
  refine W.widen hc hs ((W.zret (ty := .boolean) hx hb hr (by rcases hv with rfl | rfl <;> rfl) (fun t ht hW => ?_) hS.2.2 hdg hlocks))
  exact ⟨⟨u, by rw [hret], hpost, by rw [ht]; exact hP, hD⟩, hS.F ht⟩
theorem mret_l {v : Int64} (hx : p.tables.exec = Jvm.exec) (hb : c.code = cc) (hr : meth.sig.returnType = some .long) (hlocks : meth.locks = false) (hS : va_S A s.heap H locs) (hc : cells ≤ rm.cells) (hs : slots ≤ rm.slots) (hdg : decode cc pc = .ok (.lreturn, 1))
    (u : S) (hret : ret u = some (.long v)) (hpost : post u) (hP : va_P g.1 vwCl (B1 u).flatten H) (hD : va_D A (B1 u).flatten) : W p l e R s m args below meth c H locs cells slots (zF g ret post B1 rm below args s A) (F0 m pc ls [.long v]) := by
  refine W.widen hc hs ((W.lret hx hb hr (fun t ht hW => ?_) hS.2.2 hdg hlocks))
  exact ⟨⟨u, by rw [hret], hpost, by rw [ht]; exact hP, hD⟩, hS.F ht⟩
theorem mret_v (hx : p.tables.exec = Jvm.exec) (hb : c.code = cc) (hr : meth.sig.returnType = none) (hlocks : meth.locks = false) (hS : va_S A s.heap H locs) (hc : cells ≤ rm.cells) (hs : slots ≤ rm.slots) (hdg : decode cc pc = .ok (.return_, 1))
    (u : S) (hret : ret u = none) (hpost : post u) (hP : va_P g.1 vwCl (B1 u).flatten H) (hD : va_D A (B1 u).flatten) : W p l e R s m args below meth c H locs cells slots (zF g ret post B1 rm below args s A) (F0 m pc ls []) := by
  refine W.widen hc hs ((W.vret hx hb hr (fun t ht hW => ?_) hS.2.2 hdg hlocks))
  exact ⟨⟨u, by rw [hret], hpost, by rw [ht]; exact hP, hD⟩, hS.F ht⟩
/-- a callee's throw goes on to the caller -/
theorem zout {rest : List Value} {E : String} {ce : Cell} {q : Addr} (htab : ∀ x ∈ c.exceptionTable.toList, False) (hlocks : meth.locks = false) (hS : va_S A s.heap H locs) (hc : cells ≤ rm.cells) (hs : slots ≤ rm.slots) (hcell : H[q]? = some ce) (hv : ce.vm = .none) (hcl : s.vm.findClass E = some ce.cls)
    (u : SX) (hpx : px E u) (hP : va_P g.1 vwCl (BX u).flatten H) (hD : va_D A (BX u).flatten) : vx_W p l e R s m args below meth c H locs cells slots (zE g ret post B1 px BX rm below args s A) (F0 m pc ls rest) q := by
  refine vx_out (fun x hx => (htab x hx).elim) hlocks hcell hv hcl (fun t ht hW => ?_) hS.2.2 hc hs
  exact ⟨⟨u, hpx, by rw [ht]; exact hP, hD⟩, hS.F ht⟩
end ZR
section ZC
variable {S SX : Type} {g : zG} {ret : S → Option Value} {post : S → Prop} {B1 : S → List va_W} {px : String → SX → Prop} {BX : SX → List va_W} {rm : Room}
variable {p : Program} {l : Launch} {e : Env} {R : Room} {s : State} {m : MethodId} {args : Array Value} {below : List Frame} {meth : Method} {c : Code} {H : Heap} {locs : List Loc} {cells slots : Nat} {A : Nat → Prop} {cc : ByteArray} {pc : Nat} {ls : Array Slot} {Q : State → Prop}
variable {Bs Bc Br : List va_W} {st0 rest : List Value}
theorem zpre {U : State} {av : List Value} (hK : zK g s) (hT : zTh A s) (hS : va_S A s.heap H locs) (hPc : va_P g.1 vwCl Bc.flatten H) (hDc : va_D A Bc.flatten) (hF : ∀ q, va_A Bc.flatten H.size q → A q) (hU : U.heap = H) (hW : s.WarmedH U.vm) : zPc g av Bc H.size av.toArray U :=
  ⟨rfl, by rw [hU], by rw [hU]; exact hPc, va_K.moved hW.alike hK, hDc.weaken (fun _ _ _ _ => trivial), hT.go hS hU hW hF⟩
/-- a run, then the two ways on -/
theorem zrun {a : Array Value} (hr : vx_Run p l e R s m args below meth c H locs cells slots rm.cells rm.slots (F0 m pc ls st0) rest (zQ g ret post B1 (va_A Bc.flatten H.size) a) (zXC g px BX (va_A Bc.flatten H.size)) (va_A Bc.flatten H.size))
    (hA : ∀ q, s.heap.size ≤ q → A q) (hP : va_P g.1 vwCl Bs.flatten H) (hD : va_D A Bs.flatten) (hS : va_S A s.heap H locs) (isC isR : List Nat) (hn : va_nd (isC ++ isR) = true) (hC : zk Bs isC = Bc) (hR : zk Bs isR = Br)
    (kx : ∀ (E : String) (ce : Cell) (q9 : Addr) (u : SX) (H1 : Heap) (locs1 : List Loc), px E u → va_P g.1 vwCl (Br ++ BX u).flatten H1 → va_D A (Br ++ BX u).flatten → va_S A s.heap H1 locs1 → H1[q9]? = some ce → ce.vm = .none → s.vm.findClass E = some ce.cls → vx_W p l e R s m args below meth c H1 locs1 (cells + rm.cells) (slots + rm.slots) Q (F0 m pc ls rest) q9)
    (kk : ∀ (u : S) (H1 : Heap) (locs1 : List Loc), post u → va_P g.1 vwCl (Br ++ B1 u).flatten H1 → va_D A (Br ++ B1 u).flatten → va_S A s.heap H1 locs1 → W p l e R s m args below meth c H1 locs1 (cells + rm.cells) (slots + rm.slots) Q (F0 m (pc + 3) ls ((ret u).toList ++ rest))) :
    W p l e R s m args below meth c H locs cells slots Q (F0 m pc ls st0) := by
  have hF := zfree hD hS hA isC hC
  intro T hT X
  rcases hr T hT X with ⟨v, st₀, t, T', L, h0, X', hL, e1, e2, ⟨⟨u, hv, hp, hb1, hb2⟩, hFr⟩, st⟩ | ⟨q, st₀, t, T', L, E, ce, h0, X', hL, e1, e2, ⟨⟨u, hp, hb1, hb2⟩, hFr⟩, hce, hcv, hcl, st⟩
  · cases hv
    obtain ⟨k1, k2, k3⟩ := vx_keep h0 e1 hS (fun q _ h => hF q h) hF hL hFr
    rw [← e1] at hb1
    obtain ⟨j1, j2⟩ := zjoin isC isR hn hC hR hP hD k2 hF hb1 hb2
    obtain ⟨t2, a1, b1⟩ := kk u T'.heap (locs ++ L) hp j1 j2 k3 T' rfl X'
    exact ⟨t2, st t2 a1, b1⟩
  · obtain ⟨k1, k2, k3⟩ := vx_keep h0 e1 hS (fun q _ h => hF q h) hF hL hFr
    rw [← e1] at hb1
    obtain ⟨j1, j2⟩ := zjoin isC isR hn hC hR hP hD k2 hF hb1 hb2
    obtain ⟨t2, a1, b1⟩ := kx E ce q u T'.heap (locs ++ L) hp j1 j2 k3 (by rw [e1]; exact hce) hcv hcl T' rfl X'
    exact ⟨t2, st.trans a1, b1⟩
theorem zrunM {a : Array Value} (hr : va_Run p l e R s m args below meth c H locs cells slots rm.cells rm.slots (F0 m pc ls st0) rest (zQ g ret post B1 (va_A Bc.flatten H.size) a) (va_A Bc.flatten H.size))
    (hA : ∀ q, s.heap.size ≤ q → A q) (hP : va_P g.1 vwCl Bs.flatten H) (hD : va_D A Bs.flatten) (hS : va_S A s.heap H locs) (isC isR : List Nat) (hn : va_nd (isC ++ isR) = true) (hC : zk Bs isC = Bc) (hR : zk Bs isR = Br)
    (kk : ∀ (u : S) (H1 : Heap) (locs1 : List Loc), post u → va_P g.1 vwCl (Br ++ B1 u).flatten H1 → va_D A (Br ++ B1 u).flatten → va_S A s.heap H1 locs1 → W p l e R s m args below meth c H1 locs1 (cells + rm.cells) (slots + rm.slots) Q (F0 m (pc + 3) ls ((ret u).toList ++ rest))) :
    W p l e R s m args below meth c H locs cells slots Q (F0 m pc ls st0) := by
  have hF := zfree hD hS hA isC hC
  intro T hT X
  obtain ⟨v, st₀, t, T', L, h0, X', hL, e1, e2, ⟨⟨u, hv, hp, hb1, hb2⟩, hFr⟩, st⟩ := hr T hT X
  cases hv
  obtain ⟨k1, k2, k3⟩ := vx_keep h0 e1 hS (fun q _ h => hF q h) hF hL hFr
  rw [← e1] at hb1
  obtain ⟨j1, j2⟩ := zjoin isC isR hn hC hR hP hD k2 hF hb1 hb2
  obtain ⟨t2, a1, b1⟩ := kk u T'.heap (locs ++ L) hp j1 j2 k3 T' rfl X'
  exact ⟨t2, st t2 a1, b1⟩
variable {y : MethodName} {bytes : ByteArray} {maxL nL n index q0 ci N : Nat} {rt : Option FieldType} {ws Ts : List Cond} {own C : String} {T : u_T} {b : Addr} {As fs : List Value}
/-- a virtual call of a class's own method; As: the arguments, the last first -/
theorem mcallV (St : CallFix p m c cc nL s args Ts own) (hK : zK g s) (hT : zTh A s) (hA : ∀ q, s.heap.size ≤ q → A q) (hP : va_P g.1 vwCl Bs.flatten H) (hD : va_D A Bs.flatten) (hS : va_S A s.heap H locs) (hls : ls.size = nL)
    (isC isR : List Nat) (hn : va_nd (isC ++ isR) = true) (hC : zk Bs isC = Bc) (hR : zk Bs isR = Br) (hM : zM g l y ws rm (.ref b :: As) Bc ret post B1) (cw : CallW R s args own C index y bytes maxL rt ws rm rm.cells rm.slots n)
    (he : Bc.flatten[q0]? = some (b, .inr (ci, fs))) (hcl : vwCl[ci]? = some (C, T, N)) (hAs : As.length = n) (hst : st0 = As.reverse ++ .ref b :: rest) (hW : (rest.map fun v => v.category).sum ≤ 8) (hdg : decode cc pc = .ok (.invokevirtual index, 3)) (hf : cells + rm.cells ≤ R.cells ∧ slots + rm.slots ≤ R.slots)
    (kk : ∀ (u : S) (H1 : Heap) (locs1 : List Loc), post u → va_P g.1 vwCl (Br ++ B1 u).flatten H1 → va_D A (Br ++ B1 u).flatten → va_S A s.heap H1 locs1 → W p l e R s m args below meth c H1 locs1 (cells + rm.cells) (slots + rm.slots) Q (F0 m (pc + 3) ls ((ret u).toList ++ rest))) :
    W p l e R s m args below meth c H locs cells slots Q (F0 m pc ls st0) := by
  have hPc : va_P g.1 vwCl Bc.flatten H := by rw [← hC]; exact zk_P hP isC
  have hDc : va_D A Bc.flatten := by rw [← hC]; exact zk_D hD isC (zk_nd hn)
  refine zrunM (rm := rm) (va_runV St (hM H.size) cw ⟨zPc_blind, va_recv hK hPc hcl he, fun U hU hWm => zpre hK hT hS hPc hDc (zfree hD hS hA isC hC) hU hWm⟩ rfl hAs hls hst (lv_room hW) hdg hf) hA hP hD hS isC isR hn hC hR kk
theorem xcallV (St : CallFix p m c cc nL s args Ts own) (hK : zK g s) (hT : zTh A s) (hA : ∀ q, s.heap.size ≤ q → A q) (hP : va_P g.1 vwCl Bs.flatten H) (hD : va_D A Bs.flatten) (hS : va_S A s.heap H locs) (hls : ls.size = nL)
    (isC isR : List Nat) (hn : va_nd (isC ++ isR) = true) (hC : zk Bs isC = Bc) (hR : zk Bs isR = Br) (hM : zX g l y ws rm (.ref b :: As) Bc ret post B1 px BX) (cw : CallW R s args own C index y bytes maxL rt ws rm rm.cells rm.slots n)
    (he : Bc.flatten[q0]? = some (b, .inr (ci, fs))) (hcl : vwCl[ci]? = some (C, T, N)) (hAs : As.length = n) (hst : st0 = As.reverse ++ .ref b :: rest) (hW : (rest.map fun v => v.category).sum ≤ 8) (hdg : decode cc pc = .ok (.invokevirtual index, 3)) (hf : cells + rm.cells ≤ R.cells ∧ slots + rm.slots ≤ R.slots)
    (kx : ∀ (E : String) (ce : Cell) (q9 : Addr) (u : SX) (H1 : Heap) (locs1 : List Loc), px E u → va_P g.1 vwCl (Br ++ BX u).flatten H1 → va_D A (Br ++ BX u).flatten → va_S A s.heap H1 locs1 → H1[q9]? = some ce → ce.vm = .none → s.vm.findClass E = some ce.cls → vx_W p l e R s m args below meth c H1 locs1 (cells + rm.cells) (slots + rm.slots) Q (F0 m pc ls rest) q9)
    (kk : ∀ (u : S) (H1 : Heap) (locs1 : List Loc), post u → va_P g.1 vwCl (Br ++ B1 u).flatten H1 → va_D A (Br ++ B1 u).flatten → va_S A s.heap H1 locs1 → W p l e R s m args below meth c H1 locs1 (cells + rm.cells) (slots + rm.slots) Q (F0 m (pc + 3) ls ((ret u).toList ++ rest))) :
    W p l e R s m args below meth c H locs cells slots Q (F0 m pc ls st0) := by
  have hPc : va_P g.1 vwCl Bc.flatten H := by rw [← hC]; exact zk_P hP isC
  have hDc : va_D A Bc.flatten := by rw [← hC]; exact zk_D hD isC (zk_nd hn)
  refine zrun (rm := rm) (vx_runV St (hM H.size) cw ⟨zPc_blind, va_recv hK hPc hcl he, fun U hU hWm => zpre hK hT hS hPc hDc (zfree hD hS hA isC hC) hU hWm⟩ rfl hAs hls hst (lv_room hW) hdg hf) hA hP hD hS isC isR hn hC hR kx kk
theorem mcallS (St : CallFix p m c cc nL s args Ts own) (hK : zK g s) (hT : zTh A s) (hA : ∀ q, s.heap.size ≤ q → A q) (hP : va_P g.1 vwCl Bs.flatten H) (hD : va_D A Bs.flatten) (hS : va_S A s.heap H locs) (hls : ls.size = nL)
    (isC isR : List Nat) (hn : va_nd (isC ++ isR) = true) (hC : zk Bs isC = Bc) (hR : zk Bs isR = Br) (hM : zM g l y ws rm As Bc ret post B1) (cw : CallB R s args own index y bytes maxL rt ws rm rm.cells rm.slots n ∧ (Cond.static y).before args s = true)
    (hAs : As.length = n) (hst : st0 = As.reverse ++ rest) (hW : (rest.map fun v => v.category).sum ≤ 8) (hdg : decode cc pc = .ok (.invokestatic index, 3)) (hf : cells + rm.cells ≤ R.cells ∧ slots + rm.slots ≤ R.slots)
    (kk : ∀ (u : S) (H1 : Heap) (locs1 : List Loc), post u → va_P g.1 vwCl (Br ++ B1 u).flatten H1 → va_D A (Br ++ B1 u).flatten → va_S A s.heap H1 locs1 → W p l e R s m args below meth c H1 locs1 (cells + rm.cells) (slots + rm.slots) Q (F0 m (pc + 3) ls ((ret u).toList ++ rest))) :
    W p l e R s m args below meth c H locs cells slots Q (F0 m pc ls st0) := by
  have hPc : va_P g.1 vwCl Bc.flatten H := by rw [← hC]; exact zk_P hP isC
  have hDc : va_D A Bc.flatten := by rw [← hC]; exact zk_D hD isC (zk_nd hn)
  refine zrunM (rm := rm) (va_runS St (hM H.size) cw ⟨zPc_blind, fun U hU hWm => zpre hK hT hS hPc hDc (zfree hD hS hA isC hC) hU hWm⟩ rfl hAs hls hst (lv_room hW) hdg hf) hA hP hD hS isC isR hn hC hR kk
/-- a constructor -/
theorem mcallI (St : CallFix p m c cc nL s args Ts own) (hK : zK g s) (hT : zTh A s) (hA : ∀ q, s.heap.size ≤ q → A q) (hP : va_P g.1 vwCl Bs.flatten H) (hD : va_D A Bs.flatten) (hS : va_S A s.heap H locs) (hls : ls.size = nL)
    (isC isR : List Nat) (hn : va_nd (isC ++ isR) = true) (hC : zk Bs isC = Bc) (hR : zk Bs isR = Br) (hM : zM g l y ws rm (.ref b :: As) Bc ret post B1) (cw : CallB R s args own index y bytes maxL none ws rm rm.cells rm.slots n ∧ y.name = "<init>" ∧ (Cond.instanceMethod y).before args s = true)
    (hAs : As.length = n) (hst : st0 = As.reverse ++ .ref b :: rest) (hW : (rest.map fun v => v.category).sum ≤ 8) (hdg : decode cc pc = .ok (.invokespecial index, 3)) (hf : cells + rm.cells ≤ R.cells ∧ slots + rm.slots ≤ R.slots)
    (kk : ∀ (u : S) (H1 : Heap) (locs1 : List Loc), post u → va_P g.1 vwCl (Br ++ B1 u).flatten H1 → va_D A (Br ++ B1 u).flatten → va_S A s.heap H1 locs1 → W p l e R s m args below meth c H1 locs1 (cells + rm.cells) (slots + rm.slots) Q (F0 m (pc + 3) ls ((ret u).toList ++ rest))) :
    W p l e R s m args below meth c H locs cells slots Q (F0 m pc ls st0) := by
  have hPc : va_P g.1 vwCl Bc.flatten H := by rw [← hC]; exact zk_P hP isC
  have hDc : va_D A Bc.flatten := by rw [← hC]; exact zk_D hD isC (zk_nd hn)
  refine zrunM (rm := rm) (va_runI St (hM H.size) cw ⟨zPc_blind, fun U hU hWm => zpre hK hT hS hPc hDc (zfree hD hS hA isC hC) hU hWm⟩ rfl hAs hls hst (lv_room hW) hdg hf) hA hP hD hS isC isR hn hC hR kk
theorem mcallIN {host : String} (St : CallFix p m c cc nL s args Ts own) (hK : zK g s) (hT : zTh A s) (hA : ∀ q, s.heap.size ≤ q → A q) (hP : va_P g.1 vwCl Bs.flatten H) (hD : va_D A Bs.flatten) (hS : va_S A s.heap H locs) (hls : ls.size = nL)
    (isC isR : List Nat) (hn : va_nd (isC ++ isR) = true) (hC : zk Bs isC = Bc) (hR : zk Bs isR = Br) (hM : zM g l y ws rm (.ref b :: As) Bc ret post B1) (cw : va_CN R s args own index y host bytes maxL none ws rm rm.cells rm.slots n ∧ y.name = "<init>" ∧ (Cond.instanceMethod y).before args s = true)
    (hAs : As.length = n) (hst : st0 = As.reverse ++ .ref b :: rest) (hW : (rest.map fun v => v.category).sum ≤ 8) (hdg : decode cc pc = .ok (.invokespecial index, 3)) (hf : cells + rm.cells ≤ R.cells ∧ slots + rm.slots ≤ R.slots)
    (kk : ∀ (u : S) (H1 : Heap) (locs1 : List Loc), post u → va_P g.1 vwCl (Br ++ B1 u).flatten H1 → va_D A (Br ++ B1 u).flatten → va_S A s.heap H1 locs1 → W p l e R s m args below meth c H1 locs1 (cells + rm.cells) (slots + rm.slots) Q (F0 m (pc + 3) ls ((ret u).toList ++ rest))) :
    W p l e R s m args below meth c H locs cells slots Q (F0 m pc ls st0) := by
  have hPc : va_P g.1 vwCl Bc.flatten H := by rw [← hC]; exact zk_P hP isC
  have hDc : va_D A Bc.flatten := by rw [← hC]; exact zk_D hD isC (zk_nd hn)
  refine zrunM (rm := rm) (va_runIN St (hM H.size) cw ⟨zPc_blind, fun U hU hWm => zpre hK hT hS hPc hDc (zfree hD hS hA isC hC) hU hWm⟩ rfl hAs hls hst (lv_room hW) hdg hf) hA hP hD hS isC isR hn hC hR kk
/-- an inherited method -/
theorem mcallU {x : MethodName} {owner : String} (St : CallFix p m c cc nL s args Ts own) (hK : zK g s) (hT : zTh A s) (hA : ∀ q, s.heap.size ≤ q → A q) (hP : va_P g.1 vwCl Bs.flatten H) (hD : va_D A Bs.flatten) (hS : va_S A s.heap H locs) (hls : ls.size = nL)
    (isC isR : List Nat) (hn : va_nd (isC ++ isR) = true) (hC : zk Bs isC = Bc) (hR : zk Bs isR = Br) (hM : zM g l y ws rm (.ref b :: As) Bc ret post B1) (cw : va_CU R s args own C owner index x y bytes maxL rt ws rm rm.cells rm.slots n)
    (he : Bc.flatten[q0]? = some (b, .inr (ci, fs))) (hcl : vwCl[ci]? = some (C, T, N)) (hAs : As.length = n) (hst : st0 = As.reverse ++ .ref b :: rest) (hW : (rest.map fun v => v.category).sum ≤ 8) (hdg : decode cc pc = .ok (.invokevirtual index, 3)) (hf : cells + rm.cells ≤ R.cells ∧ slots + rm.slots ≤ R.slots)
    (kk : ∀ (u : S) (H1 : Heap) (locs1 : List Loc), post u → va_P g.1 vwCl (Br ++ B1 u).flatten H1 → va_D A (Br ++ B1 u).flatten → va_S A s.heap H1 locs1 → W p l e R s m args below meth c H1 locs1 (cells + rm.cells) (slots + rm.slots) Q (F0 m (pc + 3) ls ((ret u).toList ++ rest))) :
    W p l e R s m args below meth c H locs cells slots Q (F0 m pc ls st0) := by
  have hPc : va_P g.1 vwCl Bc.flatten H := by rw [← hC]; exact zk_P hP isC
  have hDc : va_D A Bc.flatten := by rw [← hC]; exact zk_D hD isC (zk_nd hn)
  refine zrunM (rm := rm) (va_runU St (hM H.size) cw ⟨zPc_blind, va_recv hK hPc hcl he, fun U hU hWm => zpre hK hT hS hPc hDc (zfree hD hS hA isC hC) hU hWm⟩ rfl hAs hls hst (lv_room hW) hdg hf) hA hP hD hS isC isR hn hC hR kk
end ZC
section ZN
variable {g : zG} {p : Program} {l : Launch} {e : Env} {R : Room} {s : State} {m : MethodId} {args : Array Value} {below : List Frame} {meth : Method} {c : Code} {H : Heap} {locs : List Loc} {cells slots : Nat} {A : Nat → Prop} {cc : ByteArray} {pc : Nat} {ls : Array Slot} {Q : State → Prop}
variable {Bs : List va_W} {rest : List Value}
/-- the top of the stack by another name -/
theorem ztop {x r : Int32} (h : x = r) (k : W p l e R s m args below meth c H locs cells slots Q (F0 m pc ls (.int r :: rest))) : W p l e R s m args below meth c H locs cells slots Q (F0 m pc ls (.int x :: rest)) := by rw [h]; exact k
theorem ztopl {x r : Int64} (h : x = r) (k : W p l e R s m args below meth c H locs cells slots Q (F0 m pc ls (.long r :: rest))) : W p l e R s m args below meth c H locs cells slots Q (F0 m pc ls (.long x :: rest)) := by rw [h]; exact k
theorem zfl (Bs : List va_W) (w : va_W) : (Bs ++ [w]).flatten = Bs.flatten ++ w := by simp
/-- a new object: a block more -/
theorem znew {own C : String} {T : u_T} {N ci index : Nat} {Ts : List Cond} (hexec : p.tables.exec = Jvm.exec) (hb : c.code = cc) (hts : ∀ w ∈ Ts, w.before args s = true) (hin : ∀ w ∈ u_ws C T N, w ∈ Ts) (ty : Nat → FieldType) (hty : ∀ k, k < N → parseFieldDescriptor (T k).2.2.1 = some (ty k)) (hown : s.vm.findClass own = some m.cls) (hcl : (Cond.classLink own index C).before args s = true) (hinst : (Cond.instantiable C N).before args s = true) (hini : (Cond.initialized C).before args s = true)
    (hK : zK g s) (hP : va_P g.1 vwCl Bs.flatten H) (hD : va_D A Bs.flatten) (hS : va_S A s.heap H locs) (hA : ∀ q, s.heap.size ≤ q → A q) (hc : vwCl[ci]? = some (C, T, N)) {fs : List Value} (hfs : ∀ j, j < N → defaultValue (ty j) = vp_V fs j) (hcells : cells + 1 ≤ R.cells) (hslots : slots + N ≤ R.slots) (hdg : decode cc pc = .ok (.new index, 3))
    (kk : ∀ (q : Nat) (H1 : Heap), va_P g.1 vwCl (List.flatten (Bs ++ [[(q, .inr (ci, fs))]])) H1 → va_D A (List.flatten (Bs ++ [[(q, .inr (ci, fs))]])) → va_S A s.heap H1 locs →
      W p l e R s m args below meth c H1 locs (cells + 1) (slots + N) Q (F0 m (pc + 3) ls (.ref q :: rest))) : W p l e R s m args below meth c H locs cells slots Q (F0 m pc ls rest) :=
  va_new hexec hb hts hin ty hty hown hcl hinst hini hK hP hD hS hA hc hfs hcells hslots hdg (fun q H1 h1 h2 h3 => kk q H1 (by rw [zfl]; exact h1) (by rw [zfl]; exact h2) h3)
/-- a new array of numbers, of a class that is known -/
theorem znewa {atype : ArrayType} (hexec : p.tables.exec = Jvm.exec) (hb : c.code = cc) (harr : (Cond.arrayClass (newarray.typeOf atype)).before args s = true) {ty : FieldType} (hty : newarray.typeOf atype = ty) (t0 : Nat) (cA0 : ClassId) (ht0 : (zT g)[t0]? = some (cA0, ty)) (hob : ∀ U cA, va_RA U cA ty → U.vm.findClass ("[" ++ ty.toString) = some cA)
    (hK : zK g s) (hP : va_P g.1 vwCl Bs.flatten H) (hD : va_D A Bs.flatten) (hS : va_S A s.heap H locs) (hA : ∀ q, s.heap.size ≤ q → A q)
    {n : Int32} {N' : Nat} {a0 : vp_A} (ha : ∀ cA : ClassId, vp_cell cA a0 = arrV cA N' (fun _ => defaultValue ty)) (hn : ¬ n < 0) (hN : n.toNatClampNeg = N') (hbytes : N' * componentBytes ty ≤ 536870912) (hcells : cells + 1 ≤ R.cells) (hslots : slots + N' ≤ R.slots) (hdg : decode cc pc = .ok (.newarray atype, 2))
    (kk : ∀ (q : Nat) (H1 : Heap), va_P g.1 vwCl (List.flatten (Bs ++ [[(q, .inl (cA0, a0))]])) H1 → va_D A (List.flatten (Bs ++ [[(q, .inl (cA0, a0))]])) → va_S A s.heap H1 locs →
      W p l e R s m args below meth c H1 locs (cells + 1) (slots + N') Q (F0 m (pc + 2) ls (.ref q :: rest))) : W p l e R s m args below meth c H locs cells slots Q (F0 m pc ls (.int n :: rest)) := by
  refine va_newa hexec hb harr hty hK hP hD hS hA ha hn hN hbytes hcells hslots hdg (fun q cA H1 k1 h1 h2 h3 => ?_)
  have e1 := hob _ _ (k1.2 (zT g).length (cA, ty) (by simp)).2
  have e2 := hob _ _ (hK.2 t0 (cA0, ty) ht0).2
  have e : cA = cA0 := Option.some.inj (e1.symm.trans e2)
  subst e
  exact kk q H1 (by rw [zfl]; exact h1) (by rw [zfl]; exact h2) h3
/-- a new array of references, of a class that is known -/
theorem znewq {own C : String} {index : Nat} (hexec : p.tables.exec = Jvm.exec) (hb : c.code = cc) (hown : s.vm.findClass own = some m.cls) (hclink : (Cond.classLink own index C).before args s = true) (hover : va_AO C s) (t0 : Nat) {cA0 : ClassId} (ht0 : (zT g)[t0]? = some (cA0, .object C))
    (hK : zK g s) (hP : va_P g.1 vwCl Bs.flatten H) (hD : va_D A Bs.flatten) (hS : va_S A s.heap H locs) (hA : ∀ q, s.heap.size ≤ q → A q)
    {n : Int32} {N' : Nat} (hn : ¬ n < 0) (hN : n.toNatClampNeg = N') (hbytes : N' * 4 ≤ 536870912) (hcells : cells + 1 ≤ R.cells) (hslots : slots + N' ≤ R.slots) (hdg : decode cc pc = .ok (.anewarray index, 3))
    (kk : ∀ (q : Nat) (H1 : Heap), va_P g.1 vwCl (List.flatten (Bs ++ [[(q, .inl (cA0, N', .inr (.inr (.inr (.inr (fun _ => none))))))]])) H1 → va_D A (List.flatten (Bs ++ [[(q, .inl (cA0, N', .inr (.inr (.inr (.inr (fun _ => none))))))]])) → va_S A s.heap H1 locs →
      W p l e R s m args below meth c H1 locs (cells + 1) (slots + N') Q (F0 m (pc + 3) ls (.ref q :: rest))) : W p l e R s m args below meth c H locs cells slots Q (F0 m pc ls (.int n :: rest)) := by
  refine va_newq hexec hb hown hclink hover hK hP hD hS hA hn hN hbytes hcells hslots hdg (fun q cA H1 k1 h1 h2 h3 => ?_)
  obtain ⟨kA, comp, -, -, -, e1⟩ := (k1.2 (zT g).length (cA, .object C) (by simp)).2
  obtain ⟨kB, comp2, -, -, -, e2⟩ := (hK.2 t0 (cA0, .object C) ht0).2
  have e : cA = cA0 := Option.some.inj (e1.symm.trans e2)
  subst e
  exact kk q H1 (by rw [zfl]; exact h1) (by rw [zfl]; exact h2) h3
theorem zin {i : Int32} {n : Nat} (h : decide (¬ (i < 0 ∨ n ≤ i.toNatClampNeg)) = true) : vp_in i n := show ¬ (i < 0 ∨ n ≤ i.toNatClampNeg) from of_decide_eq_true h
end ZN

