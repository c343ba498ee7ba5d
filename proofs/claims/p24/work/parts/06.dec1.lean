/-! decode rows: a method's bytes are walked once, an entry an instruction -/
abbrev zbyU (c : ByteArray) (p b : Nat) : Prop := (Jvm.ClassFile.Reader.u1 : Jvm.ClassFile.Decoder Nat) c p = .ok (b, p + 1)
theorem zby_u1 {c : ByteArray} {p : Nat} (h : p < c.size) : (Jvm.ClassFile.Reader.u1 : Jvm.ClassFile.Decoder Nat) c p = .ok ((c[p]'h).toNat, p + 1) := by
  first
  | (have e : ∀ d : Decidable (p < c.size), (@dite (Jvm.ClassFile.Decoder Nat) (p < c.size) d (fun h => (do set (p + 1); pure (c[p]'h).toNat)) (fun _ => throw (Jvm.ClassFile.HasTruncated.truncated p))) c p = .ok ((c[p]'h).toNat, p + 1) := by
      intro d; cases d with
      | isTrue h' => rfl
      | isFalse h' => exact absurd h h'
     exact e _)
  | (show (dite (p < c.size) _ _ : Jvm.ClassFile.Decoder Nat) c p = _; rw [dif_pos h]; rfl)
  | (unfold Jvm.ClassFile.Reader.u1; simp [bind, ReaderT.bind, StateT.bind, Except.bind, read, get, set, pure, h]; rfl)
theorem zby_bd {α β : Type} {x : Jvm.ClassFile.Decoder α} {f : α → Jvm.ClassFile.Decoder β} {c : ByteArray} {p q : Nat} {a : α} (h : x c p = .ok (a, q)) : (x >>= f) c p = f a c q := by
  have e := congrArg (fun (z : Except Jvm.ClassFile.DecodeError (α × Nat)) => Except.bind z (fun y => f y.1 c y.2)) h
  exact e
theorem zby_mp {α β : Type} {x : Jvm.ClassFile.Decoder α} {g : α → β} {c : ByteArray} {p q : Nat} {a : α} (h : x c p = .ok (a, q)) : (g <$> x) c p = .ok (g a, q) := by
  have e := congrArg (fun (z : Except Jvm.ClassFile.DecodeError (α × Nat)) => Except.bind z (fun y => (Except.ok (g y.1, y.2) : Except Jvm.ClassFile.DecodeError (β × Nat)))) h
  exact e
theorem zby_de {c : ByteArray} {p n : Nat} {I : Instr} (h : Jvm.ClassFile.Decoder.instr p c p = .ok (I, p + n)) : decode c p = .ok (I, n) := by
  have e := congrArg (fun (z : Except Jvm.ClassFile.DecodeError (Instr × Nat)) => Except.bind z (fun y => (Except.ok (y.1, y.2 - p) : Except Jvm.ClassFile.DecodeError (Instr × Nat)))) h
  have e2 : (p + n) - p = n := by omega
  have e3 : decode c p = Except.ok (I, p + n - p) := by
    first
    | exact e
    | (unfold decode Jvm.ClassFile.Reader.runAt; exact e)
  rw [e3, e2]
theorem zby_u2 {c : ByteArray} {p a b : Nat} (h : zbyU c p a) (k : zbyU c (p + 1) b) : (Jvm.ClassFile.Reader.u2 : Jvm.ClassFile.Decoder Nat) c p = .ok (a * 256 + b, p + 2) := by
  refine Eq.trans (zby_bd h) ?_
  refine Eq.trans (zby_bd k) ?_
  rfl
theorem zby_s1 {c : ByteArray} {p a : Nat} (h : zbyU c p a) : (Jvm.ClassFile.Reader.s1 : Jvm.ClassFile.Decoder Int) c p = .ok (Jvm.ClassFile.Reader.signed 8 a, p + 1) := zby_mp h
theorem zby_s2 {c : ByteArray} {p a b : Nat} (h : zbyU c p a) (k : zbyU c (p + 1) b) : (Jvm.ClassFile.Reader.s2 : Jvm.ClassFile.Decoder Int) c p = .ok (Jvm.ClassFile.Reader.signed 16 (a * 256 + b), p + 2) := zby_mp (zby_u2 h k)
theorem zby_dl : ∀ (l : List UInt8) (p : Nat) (x : UInt8) (t : List UInt8), l.drop p = x :: t → ∃ h : p < l.length, l[p]'h = x ∧ l.drop (p + 1) = t
  | [], p, x, t, h => by simp at h
  | a :: l, 0, x, t, h => by
    have h' : a :: l = x :: t := h
    injection h' with h1 h2
    exact ⟨Nat.zero_lt_succ _, h1, h2⟩
  | a :: l, p + 1, x, t, h => by
    obtain ⟨q, e, f⟩ := zby_dl l p x t h
    exact ⟨Nat.succ_lt_succ q, e, f⟩
theorem zby_dr {c : ByteArray} {p : Nat} {x : UInt8} {t : List UInt8} (h : c.data.toList.drop p = x :: t) : zbyU c p x.toNat ∧ c.data.toList.drop (p + 1) = t := by
  obtain ⟨q, e, f⟩ := zby_dl _ p x t h
  refine ⟨?_, f⟩
  have hs : p < c.size := q
  have e1 := zby_u1 hs
  have e2 : c[p]'hs = x := by
    first
    | exact e
    | (cases c; exact e)
  rw [e2] at e1
  exact e1
theorem zby_an {a b : Bool} (h : (a && b) = true) : a = true ∧ b = true := by
  cases a <;> cases b <;> first | exact ⟨rfl, rfl⟩ | exact absurd h (by decide)
theorem zby_cd {α : Type} {k : Bool} {x y : α} (h : (cond k (some x) none) = some y) : k = true ∧ x = y := by
  cases k with
  | true => exact ⟨rfl, Option.some.inj h⟩
  | false => have h' : (none : Option α) = some y := h; nomatch h'
def zbyf1 (b : Nat) : List UInt8 → Option (List UInt8)
  | x :: t => cond (Nat.beq x.toNat b) (some t) none
  | [] => none
def zbyf2 (b : Nat) (k : Nat → Bool) : List UInt8 → Option (List UInt8)
  | x :: y :: t => cond (Nat.beq x.toNat b && k y.toNat) (some t) none
  | _ => none
def zbyf3 (b : Nat) (k : Nat → Nat → Bool) : List UInt8 → Option (List UInt8)
  | x :: y :: z :: t => cond (Nat.beq x.toNat b && k y.toNat z.toNat) (some t) none
  | _ => none
theorem zbyf1_g {b : Nat} {L r : List UInt8} (h : zbyf1 b L = some r) : ∃ x, L = x :: r ∧ x.toNat = b := by
  cases L with
  | nil => have h' : (none : Option (List UInt8)) = some r := h; nomatch h'
  | cons x t =>
    have q := zby_cd (show cond (Nat.beq x.toNat b) (some t) none = some r from h)
    exact ⟨x, by rw [q.2], Nat.eq_of_beq_eq_true q.1⟩
theorem zbyf2_g {b : Nat} {k : Nat → Bool} {L r : List UInt8} (h : zbyf2 b k L = some r) : ∃ x y, L = x :: y :: r ∧ x.toNat = b ∧ k y.toNat = true := by
  match L, h with
  | [], h => have h' : (none : Option (List UInt8)) = some r := h; nomatch h'
  | [x], h => have h' : (none : Option (List UInt8)) = some r := h; nomatch h'
  | x :: y :: t, h =>
    have q := zby_cd (show cond (Nat.beq x.toNat b && k y.toNat) (some t) none = some r from h)
    have q1 : (Nat.beq x.toNat b && k y.toNat) = true := q.1
    have q2 := zby_an q1
    exact ⟨x, y, by rw [q.2], Nat.eq_of_beq_eq_true q2.1, q2.2⟩
theorem zbyf3_g {b : Nat} {k : Nat → Nat → Bool} {L r : List UInt8} (h : zbyf3 b k L = some r) : ∃ x y z, L = x :: y :: z :: r ∧ x.toNat = b ∧ k y.toNat z.toNat = true := by
  match L, h with
  | [], h => have h' : (none : Option (List UInt8)) = some r := h; nomatch h'
  | [x], h => have h' : (none : Option (List UInt8)) = some r := h; nomatch h'
  | [x, y], h => have h' : (none : Option (List UInt8)) = some r := h; nomatch h'
  | x :: y :: z :: t, h =>
    have q := zby_cd (show cond (Nat.beq x.toNat b && k y.toNat z.toNat) (some t) none = some r from h)
    have q1 : (Nat.beq x.toNat b && k y.toNat z.toNat) = true := q.1
    have q2 := zby_an q1
    exact ⟨x, y, z, by rw [q.2], Nat.eq_of_beq_eq_true q2.1, q2.2⟩
abbrev zbyE : Type := {q : (List UInt8 → Option (List UInt8)) × Instr × Nat // ∀ (c : ByteArray) (p : Nat) (L r : List UInt8), q.1 L = some r → c.data.toList.drop p = L → decode c p = .ok q.2 ∧ c.data.toList.drop (p + q.2.2) = r}
noncomputable def zbyk1 (b : Nat) (I : Instr) (hh : ∀ (c : ByteArray) (p : Nat), zbyU c p b → Jvm.ClassFile.Decoder.instr p c p = .ok (I, p + 1)) : zbyE :=
  ⟨(zbyf1 b, I, 1), fun c p L r h1 h2 => by
    obtain ⟨x, e1, e2⟩ := zbyf1_g h1
    rw [e1] at h2
    have u := zby_dr h2
    rw [e2] at u
    exact ⟨zby_de (hh c p u.1), u.2⟩⟩
noncomputable def zbyk2 (b : Nat) (I : Instr) (k : Nat → Bool) (hh : ∀ (c : ByteArray) (p y : Nat), k y = true → zbyU c p b → zbyU c (p + 1) y → Jvm.ClassFile.Decoder.instr p c p = .ok (I, p + 2)) : zbyE :=
  ⟨(zbyf2 b k, I, 2), fun c p L r h1 h2 => by
    obtain ⟨x, y, e1, e2, e3⟩ := zbyf2_g h1
    rw [e1] at h2
    have u := zby_dr h2
    rw [e2] at u
    have v := zby_dr u.2
    exact ⟨zby_de (hh c p y.toNat e3 u.1 v.1), v.2⟩⟩
noncomputable def zbyk3 (b : Nat) (I : Instr) (k : Nat → Nat → Bool) (hh : ∀ (c : ByteArray) (p y z : Nat), k y z = true → zbyU c p b → zbyU c (p + 1) y → zbyU c (p + 2) z → Jvm.ClassFile.Decoder.instr p c p = .ok (I, p + 3)) : zbyE :=
  ⟨(zbyf3 b k, I, 3), fun c p L r h1 h2 => by
    obtain ⟨x, y, z, e1, e2, e3⟩ := zbyf3_g h1
    rw [e1] at h2
    have u := zby_dr h2
    rw [e2] at u
    have v := zby_dr u.2
    have w := zby_dr v.2
    exact ⟨zby_de (hh c p y.toNat z.toNat e3 u.1 v.1 w.1), w.2⟩⟩
def zbys : List (Nat × zbyE) → List UInt8 → Nat → Bool
  | [], _, _ => true
  | q :: t, L, pc => cond (Nat.beq pc q.1) (match q.2.1.1 L with | some r => zbys t r (q.1 + q.2.1.2.2) | none => false) false
theorem zbys_g {c : ByteArray} : ∀ (l : List (Nat × zbyE)) (L : List UInt8) (pc : Nat), zbys l L pc = true → c.data.toList.drop pc = L → ∀ (i p : Nat) (E : zbyE), l[i]? = some (p, E) → decode c p = .ok E.1.2
  | [], L, pc, h, hL, i, p, E, e => by simp at e
  | q :: t, L, pc, h, hL, i, p, E, e => by
    have h' : cond (Nat.beq pc q.1) (match q.2.1.1 L with | some r => zbys t r (q.1 + q.2.1.2.2) | none => false) false = true := h
    cases hb : Nat.beq pc q.1 with
    | false =>
      rw [hb] at h'
      have h9 : false = true := h'
      nomatch h9
    | true =>
      rw [hb] at h'
      have hp := Nat.eq_of_beq_eq_true hb
      have h8 : (match q.2.1.1 L with | some r => zbys t r (q.1 + q.2.1.2.2) | none => false) = true := h'
      cases hr : q.2.1.1 L with
      | none =>
        rw [hr] at h8
        have h9 : false = true := h8
        nomatch h9
      | some r =>
        rw [hr] at h8
        have h9 : zbys t r (q.1 + q.2.1.2.2) = true := h8
        have g := q.2.2 c pc L r hr hL
        rw [← hp] at h9
        cases i with
        | zero =>
          have e' : some q = some (p, E) := e
          injection e' with e1
          rw [e1] at g hp
          rw [hp] at g
          exact g.1
        | succ i => exact zbys_g t r _ h9 g.2 i p E e
theorem zby_g {c : ByteArray} {p0 : Nat} {l : List (Nat × zbyE)} (h : zbys l (c.data.toList.drop p0) p0 = true) {i p : Nat} {E : zbyE} {x : Instr × Nat} (e : l[i]? = some (p, E)) (ex : E.1.2 = x) : decode c p = .ok x := ex ▸ zbys_g l _ p0 h rfl i p E e
noncomputable def zbyo_1 : zbyE := zbyk1 1 (.aconst_null) (fun c p h => by
  refine Eq.trans (zby_bd h) ?_
  rfl)
noncomputable def zbyo_2 : zbyE := zbyk1 2 (.iconst (-1)) (fun c p h => by
  refine Eq.trans (zby_bd h) ?_
  rfl)
noncomputable def zbyo_3 : zbyE := zbyk1 3 (.iconst 0) (fun c p h => by
  refine Eq.trans (zby_bd h) ?_
  rfl)
noncomputable def zbyo_4 : zbyE := zbyk1 4 (.iconst 1) (fun c p h => by
  refine Eq.trans (zby_bd h) ?_
  rfl)
noncomputable def zbyo_5 : zbyE := zbyk1 5 (.iconst 2) (fun c p h => by
  refine Eq.trans (zby_bd h) ?_
  rfl)
noncomputable def zbyo_6 : zbyE := zbyk1 6 (.iconst 3) (fun c p h => by
  refine Eq.trans (zby_bd h) ?_
  rfl)
noncomputable def zbyo_7 : zbyE := zbyk1 7 (.iconst 4) (fun c p h => by
  refine Eq.trans (zby_bd h) ?_
  rfl)
noncomputable def zbyo_8 : zbyE := zbyk1 8 (.iconst 5) (fun c p h => by
  refine Eq.trans (zby_bd h) ?_
  rfl)
noncomputable def zbyo_9 : zbyE := zbyk1 9 (.lconst 0) (fun c p h => by
  refine Eq.trans (zby_bd h) ?_
  rfl)
noncomputable def zbyo_10 : zbyE := zbyk1 10 (.lconst 1) (fun c p h => by
  refine Eq.trans (zby_bd h) ?_
  rfl)
noncomputable def zbyo_16 (d : Int) : zbyE := zbyk2 16 (.bipush d) (fun y => decide (Jvm.ClassFile.Reader.signed 8 y = d)) (fun c p y e h k => by
  have e := of_decide_eq_true e
  subst e
  refine Eq.trans (zby_bd h) ?_
  refine Eq.trans (zby_bd (zby_s1 k)) ?_
  rfl)
noncomputable def zbyo_17 (d : Int) : zbyE := zbyk3 17 (.sipush d) (fun y z => decide (Jvm.ClassFile.Reader.signed 16 (y * 256 + z) = d)) (fun c p y z e h k l => by
  have e := of_decide_eq_true e
  subst e
  refine Eq.trans (zby_bd h) ?_
  refine Eq.trans (zby_bd (zby_s2 k l)) ?_
  rfl)
noncomputable def zbyo_18 (n : Nat) : zbyE := zbyk2 18 (.ldc n) (fun y => Nat.beq y n) (fun c p y e h k => by
  have e := Nat.eq_of_beq_eq_true e
  subst e
  refine Eq.trans (zby_bd h) ?_
  refine Eq.trans (zby_bd k) ?_
  rfl)
noncomputable def zbyo_19 (n : Nat) : zbyE := zbyk3 19 (.ldc_w n) (fun y z => Nat.beq (y * 256 + z) n) (fun c p y z e h k l => by
  have e := Nat.eq_of_beq_eq_true e
  subst e
  refine Eq.trans (zby_bd h) ?_
  refine Eq.trans (zby_bd (zby_u2 k l)) ?_
  rfl)
noncomputable def zbyo_20 (n : Nat) : zbyE := zbyk3 20 (.ldc2_w n) (fun y z => Nat.beq (y * 256 + z) n) (fun c p y z e h k l => by
  have e := Nat.eq_of_beq_eq_true e
  subst e
  refine Eq.trans (zby_bd h) ?_
  refine Eq.trans (zby_bd (zby_u2 k l)) ?_
  rfl)
noncomputable def zbyo_21 (n : Nat) : zbyE := zbyk2 21 (.iload n) (fun y => Nat.beq y n) (fun c p y e h k => by
  have e := Nat.eq_of_beq_eq_true e
  subst e
  refine Eq.trans (zby_bd h) ?_
  refine Eq.trans (zby_bd k) ?_
  rfl)
noncomputable def zbyo_22 (n : Nat) : zbyE := zbyk2 22 (.lload n) (fun y => Nat.beq y n) (fun c p y e h k => by
  have e := Nat.eq_of_beq_eq_true e
  subst e
  refine Eq.trans (zby_bd h) ?_
  refine Eq.trans (zby_bd k) ?_
  rfl)
noncomputable def zbyo_25 (n : Nat) : zbyE := zbyk2 25 (.aload n) (fun y => Nat.beq y n) (fun c p y e h k => by
  have e := Nat.eq_of_beq_eq_true e
  subst e
  refine Eq.trans (zby_bd h) ?_
  refine Eq.trans (zby_bd k) ?_
  rfl)
noncomputable def zbyo_26 : zbyE := zbyk1 26 (.iload_n 0) (fun c p h => by
  refine Eq.trans (zby_bd h) ?_
  rfl)
noncomputable def zbyo_27 : zbyE := zbyk1 27 (.iload_n 1) (fun c p h => by
  refine Eq.trans (zby_bd h) ?_
  rfl)
noncomputable def zbyo_28 : zbyE := zbyk1 28 (.iload_n 2) (fun c p h => by
  refine Eq.trans (zby_bd h) ?_
  rfl)
noncomputable def zbyo_29 : zbyE := zbyk1 29 (.iload_n 3) (fun c p h => by
  refine Eq.trans (zby_bd h) ?_
  rfl)
noncomputable def zbyo_31 : zbyE := zbyk1 31 (.lload_n 1) (fun c p h => by
  refine Eq.trans (zby_bd h) ?_
  rfl)
noncomputable def zbyo_32 : zbyE := zbyk1 32 (.lload_n 2) (fun c p h => by
  refine Eq.trans (zby_bd h) ?_
  rfl)
noncomputable def zbyo_33 : zbyE := zbyk1 33 (.lload_n 3) (fun c p h => by
  refine Eq.trans (zby_bd h) ?_
  rfl)
noncomputable def zbyo_42 : zbyE := zbyk1 42 (.aload_n 0) (fun c p h => by
  refine Eq.trans (zby_bd h) ?_
  rfl)
noncomputable def zbyo_43 : zbyE := zbyk1 43 (.aload_n 1) (fun c p h => by
  refine Eq.trans (zby_bd h) ?_
  rfl)
noncomputable def zbyo_44 : zbyE := zbyk1 44 (.aload_n 2) (fun c p h => by
  refine Eq.trans (zby_bd h) ?_
  rfl)
noncomputable def zbyo_45 : zbyE := zbyk1 45 (.aload_n 3) (fun c p h => by
  refine Eq.trans (zby_bd h) ?_
  rfl)
noncomputable def zbyo_46 : zbyE := zbyk1 46 (.iaload) (fun c p h => by
  refine Eq.trans (zby_bd h) ?_
  rfl)
noncomputable def zbyo_47 : zbyE := zbyk1 47 (.laload) (fun c p h => by
  refine Eq.trans (zby_bd h) ?_
  rfl)
noncomputable def zbyo_50 : zbyE := zbyk1 50 (.aaload) (fun c p h => by
  refine Eq.trans (zby_bd h) ?_
  rfl)
noncomputable def zbyo_51 : zbyE := zbyk1 51 (.baload) (fun c p h => by
  refine Eq.trans (zby_bd h) ?_
  rfl)
noncomputable def zbyo_54 (n : Nat) : zbyE := zbyk2 54 (.istore n) (fun y => Nat.beq y n) (fun c p y e h k => by
  have e := Nat.eq_of_beq_eq_true e
  subst e
  refine Eq.trans (zby_bd h) ?_
  refine Eq.trans (zby_bd k) ?_
  rfl)
noncomputable def zbyo_55 (n : Nat) : zbyE := zbyk2 55 (.lstore n) (fun y => Nat.beq y n) (fun c p y e h k => by
  have e := Nat.eq_of_beq_eq_true e
  subst e
  refine Eq.trans (zby_bd h) ?_
  refine Eq.trans (zby_bd k) ?_
  rfl)
noncomputable def zbyo_58 (n : Nat) : zbyE := zbyk2 58 (.astore n) (fun y => Nat.beq y n) (fun c p y e h k => by
  have e := Nat.eq_of_beq_eq_true e
  subst e
  refine Eq.trans (zby_bd h) ?_
  refine Eq.trans (zby_bd k) ?_
  rfl)
noncomputable def zbyo_59 : zbyE := zbyk1 59 (.istore_n 0) (fun c p h => by
  refine Eq.trans (zby_bd h) ?_
  rfl)
noncomputable def zbyo_60 : zbyE := zbyk1 60 (.istore_n 1) (fun c p h => by
  refine Eq.trans (zby_bd h) ?_
  rfl)
noncomputable def zbyo_61 : zbyE := zbyk1 61 (.istore_n 2) (fun c p h => by
  refine Eq.trans (zby_bd h) ?_
  rfl)
noncomputable def zbyo_62 : zbyE := zbyk1 62 (.istore_n 3) (fun c p h => by
  refine Eq.trans (zby_bd h) ?_
  rfl)
noncomputable def zbyo_64 : zbyE := zbyk1 64 (.lstore_n 1) (fun c p h => by
  refine Eq.trans (zby_bd h) ?_
  rfl)
noncomputable def zbyo_65 : zbyE := zbyk1 65 (.lstore_n 2) (fun c p h => by
  refine Eq.trans (zby_bd h) ?_
  rfl)
noncomputable def zbyo_66 : zbyE := zbyk1 66 (.lstore_n 3) (fun c p h => by
  refine Eq.trans (zby_bd h) ?_
  rfl)
noncomputable def zbyo_76 : zbyE := zbyk1 76 (.astore_n 1) (fun c p h => by
  refine Eq.trans (zby_bd h) ?_
  rfl)
noncomputable def zbyo_77 : zbyE := zbyk1 77 (.astore_n 2) (fun c p h => by
  refine Eq.trans (zby_bd h) ?_
  rfl)
noncomputable def zbyo_78 : zbyE := zbyk1 78 (.astore_n 3) (fun c p h => by
  refine Eq.trans (zby_bd h) ?_
  rfl)
noncomputable def zbyo_79 : zbyE := zbyk1 79 (.iastore) (fun c p h => by
  refine Eq.trans (zby_bd h) ?_
  rfl)
noncomputable def zbyo_80 : zbyE := zbyk1 80 (.lastore) (fun c p h => by
  refine Eq.trans (zby_bd h) ?_
  rfl)
noncomputable def zbyo_83 : zbyE := zbyk1 83 (.aastore) (fun c p h => by
  refine Eq.trans (zby_bd h) ?_
  rfl)
noncomputable def zbyo_84 : zbyE := zbyk1 84 (.bastore) (fun c p h => by
  refine Eq.trans (zby_bd h) ?_
  rfl)
noncomputable def zbyo_87 : zbyE := zbyk1 87 (.pop) (fun c p h => by
  refine Eq.trans (zby_bd h) ?_
  rfl)
noncomputable def zbyo_89 : zbyE := zbyk1 89 (.dup) (fun c p h => by
  refine Eq.trans (zby_bd h) ?_
  rfl)
noncomputable def zbyo_92 : zbyE := zbyk1 92 (.dup2) (fun c p h => by
  refine Eq.trans (zby_bd h) ?_
  rfl)
noncomputable def zbyo_96 : zbyE := zbyk1 96 (.iadd) (fun c p h => by
  refine Eq.trans (zby_bd h) ?_
  rfl)
noncomputable def zbyo_97 : zbyE := zbyk1 97 (.ladd) (fun c p h => by
  refine Eq.trans (zby_bd h) ?_
  rfl)
noncomputable def zbyo_100 : zbyE := zbyk1 100 (.isub) (fun c p h => by
  refine Eq.trans (zby_bd h) ?_
  rfl)
noncomputable def zbyo_104 : zbyE := zbyk1 104 (.imul) (fun c p h => by
  refine Eq.trans (zby_bd h) ?_
  rfl)
noncomputable def zbyo_105 : zbyE := zbyk1 105 (.lmul) (fun c p h => by
  refine Eq.trans (zby_bd h) ?_
  rfl)
noncomputable def zbyo_108 : zbyE := zbyk1 108 (.idiv) (fun c p h => by
  refine Eq.trans (zby_bd h) ?_
  rfl)
noncomputable def zbyo_109 : zbyE := zbyk1 109 (.ldiv) (fun c p h => by
  refine Eq.trans (zby_bd h) ?_
  rfl)
noncomputable def zbyo_112 : zbyE := zbyk1 112 (.irem) (fun c p h => by
  refine Eq.trans (zby_bd h) ?_
  rfl)
noncomputable def zbyo_116 : zbyE := zbyk1 116 (.ineg) (fun c p h => by
  refine Eq.trans (zby_bd h) ?_
  rfl)
noncomputable def zbyo_120 : zbyE := zbyk1 120 (.ishl) (fun c p h => by
  refine Eq.trans (zby_bd h) ?_
  rfl)
noncomputable def zbyo_122 : zbyE := zbyk1 122 (.ishr) (fun c p h => by
  refine Eq.trans (zby_bd h) ?_
  rfl)
noncomputable def zbyo_124 : zbyE := zbyk1 124 (.iushr) (fun c p h => by
  refine Eq.trans (zby_bd h) ?_
  rfl)
noncomputable def zbyo_126 : zbyE := zbyk1 126 (.iand) (fun c p h => by
  refine Eq.trans (zby_bd h) ?_
  rfl)
noncomputable def zbyo_128 : zbyE := zbyk1 128 (.ior) (fun c p h => by
  refine Eq.trans (zby_bd h) ?_
  rfl)
noncomputable def zbyo_130 : zbyE := zbyk1 130 (.ixor) (fun c p h => by
  refine Eq.trans (zby_bd h) ?_
  rfl)
noncomputable def zbyo_132 (n : Nat) (d : Int) : zbyE := zbyk3 132 (.iinc n d) (fun y z => Nat.beq y n && decide (Jvm.ClassFile.Reader.signed 8 z = d)) (fun c p y z e h k l => by
  have e := zby_an e
  have e1 := Nat.eq_of_beq_eq_true e.1
  have e2 := of_decide_eq_true e.2
  subst e1
  subst e2
  refine Eq.trans (zby_bd h) ?_
  refine Eq.trans (zby_bd k) ?_
  refine Eq.trans (zby_bd (zby_s1 l)) ?_
  rfl)
noncomputable def zbyo_133 : zbyE := zbyk1 133 (.i2l) (fun c p h => by
  refine Eq.trans (zby_bd h) ?_
  rfl)
noncomputable def zbyo_136 : zbyE := zbyk1 136 (.l2i) (fun c p h => by
  refine Eq.trans (zby_bd h) ?_
  rfl)
noncomputable def zbyo_146 : zbyE := zbyk1 146 (.i2c) (fun c p h => by
  refine Eq.trans (zby_bd h) ?_
  rfl)
noncomputable def zbyo_148 : zbyE := zbyk1 148 (.lcmp) (fun c p h => by
  refine Eq.trans (zby_bd h) ?_
  rfl)
noncomputable def zbyo_153 (d : Int) : zbyE := zbyk3 153 (.ifCond .eq d) (fun y z => decide (Jvm.ClassFile.Reader.signed 16 (y * 256 + z) = d)) (fun c p y z e h k l => by
  have e := of_decide_eq_true e
  subst e
  refine Eq.trans (zby_bd h) ?_
  refine Eq.trans (zby_bd (zby_s2 k l)) ?_
  rfl)
noncomputable def zbyo_154 (d : Int) : zbyE := zbyk3 154 (.ifCond .ne d) (fun y z => decide (Jvm.ClassFile.Reader.signed 16 (y * 256 + z) = d)) (fun c p y z e h k l => by
  have e := of_decide_eq_true e
  subst e
  refine Eq.trans (zby_bd h) ?_
  refine Eq.trans (zby_bd (zby_s2 k l)) ?_
  rfl)
noncomputable def zbyo_155 (d : Int) : zbyE := zbyk3 155 (.ifCond .lt d) (fun y z => decide (Jvm.ClassFile.Reader.signed 16 (y * 256 + z) = d)) (fun c p y z e h k l => by
  have e := of_decide_eq_true e
  subst e
  refine Eq.trans (zby_bd h) ?_
  refine Eq.trans (zby_bd (zby_s2 k l)) ?_
  rfl)
noncomputable def zbyo_156 (d : Int) : zbyE := zbyk3 156 (.ifCond .ge d) (fun y z => decide (Jvm.ClassFile.Reader.signed 16 (y * 256 + z) = d)) (fun c p y z e h k l => by
  have e := of_decide_eq_true e
  subst e
  refine Eq.trans (zby_bd h) ?_
  refine Eq.trans (zby_bd (zby_s2 k l)) ?_
  rfl)
noncomputable def zbyo_157 (d : Int) : zbyE := zbyk3 157 (.ifCond .gt d) (fun y z => decide (Jvm.ClassFile.Reader.signed 16 (y * 256 + z) = d)) (fun c p y z e h k l => by
  have e := of_decide_eq_true e
  subst e
  refine Eq.trans (zby_bd h) ?_
  refine Eq.trans (zby_bd (zby_s2 k l)) ?_
  rfl)
noncomputable def zbyo_158 (d : Int) : zbyE := zbyk3 158 (.ifCond .le d) (fun y z => decide (Jvm.ClassFile.Reader.signed 16 (y * 256 + z) = d)) (fun c p y z e h k l => by
  have e := of_decide_eq_true e
  subst e
  refine Eq.trans (zby_bd h) ?_
  refine Eq.trans (zby_bd (zby_s2 k l)) ?_
  rfl)
noncomputable def zbyo_159 (d : Int) : zbyE := zbyk3 159 (.if_icmp .eq d) (fun y z => decide (Jvm.ClassFile.Reader.signed 16 (y * 256 + z) = d)) (fun c p y z e h k l => by
  have e := of_decide_eq_true e
  subst e
  refine Eq.trans (zby_bd h) ?_
  refine Eq.trans (zby_bd (zby_s2 k l)) ?_
  rfl)
noncomputable def zbyo_160 (d : Int) : zbyE := zbyk3 160 (.if_icmp .ne d) (fun y z => decide (Jvm.ClassFile.Reader.signed 16 (y * 256 + z) = d)) (fun c p y z e h k l => by
  have e := of_decide_eq_true e
  subst e
  refine Eq.trans (zby_bd h) ?_
  refine Eq.trans (zby_bd (zby_s2 k l)) ?_
  rfl)
noncomputable def zbyo_161 (d : Int) : zbyE := zbyk3 161 (.if_icmp .lt d) (fun y z => decide (Jvm.ClassFile.Reader.signed 16 (y * 256 + z) = d)) (fun c p y z e h k l => by
  have e := of_decide_eq_true e
  subst e
  refine Eq.trans (zby_bd h) ?_
  refine Eq.trans (zby_bd (zby_s2 k l)) ?_
  rfl)
noncomputable def zbyo_162 (d : Int) : zbyE := zbyk3 162 (.if_icmp .ge d) (fun y z => decide (Jvm.ClassFile.Reader.signed 16 (y * 256 + z) = d)) (fun c p y z e h k l => by
  have e := of_decide_eq_true e
  subst e
  refine Eq.trans (zby_bd h) ?_
  refine Eq.trans (zby_bd (zby_s2 k l)) ?_
  rfl)
noncomputable def zbyo_163 (d : Int) : zbyE := zbyk3 163 (.if_icmp .gt d) (fun y z => decide (Jvm.ClassFile.Reader.signed 16 (y * 256 + z) = d)) (fun c p y z e h k l => by
  have e := of_decide_eq_true e
  subst e
  refine Eq.trans (zby_bd h) ?_
  refine Eq.trans (zby_bd (zby_s2 k l)) ?_
  rfl)
noncomputable def zbyo_164 (d : Int) : zbyE := zbyk3 164 (.if_icmp .le d) (fun y z => decide (Jvm.ClassFile.Reader.signed 16 (y * 256 + z) = d)) (fun c p y z e h k l => by
  have e := of_decide_eq_true e
  subst e
  refine Eq.trans (zby_bd h) ?_
  refine Eq.trans (zby_bd (zby_s2 k l)) ?_
  rfl)
noncomputable def zbyo_167 (d : Int) : zbyE := zbyk3 167 (.goto d) (fun y z => decide (Jvm.ClassFile.Reader.signed 16 (y * 256 + z) = d)) (fun c p y z e h k l => by
  have e := of_decide_eq_true e
  subst e
  refine Eq.trans (zby_bd h) ?_
  refine Eq.trans (zby_bd (zby_s2 k l)) ?_
  rfl)
noncomputable def zbyo_172 : zbyE := zbyk1 172 (.ireturn) (fun c p h => by
  refine Eq.trans (zby_bd h) ?_
  rfl)
noncomputable def zbyo_173 : zbyE := zbyk1 173 (.lreturn) (fun c p h => by
  refine Eq.trans (zby_bd h) ?_
  rfl)
noncomputable def zbyo_177 : zbyE := zbyk1 177 (.return_) (fun c p h => by
  refine Eq.trans (zby_bd h) ?_
  rfl)
noncomputable def zbyo_178 (n : Nat) : zbyE := zbyk3 178 (.getstatic n) (fun y z => Nat.beq (y * 256 + z) n) (fun c p y z e h k l => by
  have e := Nat.eq_of_beq_eq_true e
  subst e
  refine Eq.trans (zby_bd h) ?_
  refine Eq.trans (zby_bd (zby_u2 k l)) ?_
  rfl)
noncomputable def zbyo_180 (n : Nat) : zbyE := zbyk3 180 (.getfield n) (fun y z => Nat.beq (y * 256 + z) n) (fun c p y z e h k l => by
  have e := Nat.eq_of_beq_eq_true e
  subst e
  refine Eq.trans (zby_bd h) ?_
  refine Eq.trans (zby_bd (zby_u2 k l)) ?_
  rfl)
noncomputable def zbyo_181 (n : Nat) : zbyE := zbyk3 181 (.putfield n) (fun y z => Nat.beq (y * 256 + z) n) (fun c p y z e h k l => by
  have e := Nat.eq_of_beq_eq_true e
  subst e
  refine Eq.trans (zby_bd h) ?_
  refine Eq.trans (zby_bd (zby_u2 k l)) ?_
  rfl)
noncomputable def zbyo_182 (n : Nat) : zbyE := zbyk3 182 (.invokevirtual n) (fun y z => Nat.beq (y * 256 + z) n) (fun c p y z e h k l => by
  have e := Nat.eq_of_beq_eq_true e
  subst e
  refine Eq.trans (zby_bd h) ?_
  refine Eq.trans (zby_bd (zby_u2 k l)) ?_
  rfl)
noncomputable def zbyo_183 (n : Nat) : zbyE := zbyk3 183 (.invokespecial n) (fun y z => Nat.beq (y * 256 + z) n) (fun c p y z e h k l => by
  have e := Nat.eq_of_beq_eq_true e
  subst e
  refine Eq.trans (zby_bd h) ?_
  refine Eq.trans (zby_bd (zby_u2 k l)) ?_
  rfl)
noncomputable def zbyo_184 (n : Nat) : zbyE := zbyk3 184 (.invokestatic n) (fun y z => Nat.beq (y * 256 + z) n) (fun c p y z e h k l => by
  have e := Nat.eq_of_beq_eq_true e
  subst e
  refine Eq.trans (zby_bd h) ?_
  refine Eq.trans (zby_bd (zby_u2 k l)) ?_
  rfl)
noncomputable def zbyo_187 (n : Nat) : zbyE := zbyk3 187 (.new n) (fun y z => Nat.beq (y * 256 + z) n) (fun c p y z e h k l => by
  have e := Nat.eq_of_beq_eq_true e
  subst e
  refine Eq.trans (zby_bd h) ?_
  refine Eq.trans (zby_bd (zby_u2 k l)) ?_
  rfl)
noncomputable def zbyo_188_4 : zbyE := zbyk2 188 (.newarray .boolean) (fun y => Nat.beq y 4) (fun c p y e h k => by
  have e := Nat.eq_of_beq_eq_true e
  subst e
  refine Eq.trans (zby_bd h) ?_
  refine Eq.trans (zby_bd k) ?_
  rfl)
noncomputable def zbyo_188_10 : zbyE := zbyk2 188 (.newarray .int) (fun y => Nat.beq y 10) (fun c p y e h k => by
  have e := Nat.eq_of_beq_eq_true e
  subst e
  refine Eq.trans (zby_bd h) ?_
  refine Eq.trans (zby_bd k) ?_
  rfl)
noncomputable def zbyo_188_11 : zbyE := zbyk2 188 (.newarray .long) (fun y => Nat.beq y 11) (fun c p y e h k => by
  have e := Nat.eq_of_beq_eq_true e
  subst e
  refine Eq.trans (zby_bd h) ?_
  refine Eq.trans (zby_bd k) ?_
  rfl)
noncomputable def zbyo_189 (n : Nat) : zbyE := zbyk3 189 (.anewarray n) (fun y z => Nat.beq (y * 256 + z) n) (fun c p y z e h k l => by
  have e := Nat.eq_of_beq_eq_true e
  subst e
  refine Eq.trans (zby_bd h) ?_
  refine Eq.trans (zby_bd (zby_u2 k l)) ?_
  rfl)
noncomputable def zbyo_190 : zbyE := zbyk1 190 (.arraylength) (fun c p h => by
  refine Eq.trans (zby_bd h) ?_
  rfl)
noncomputable def zbyo_191 : zbyE := zbyk1 191 (.athrow) (fun c p h => by
  refine Eq.trans (zby_bd h) ?_
  rfl)
noncomputable def zbyo_198 (d : Int) : zbyE := zbyk3 198 (.ifnull d) (fun y z => decide (Jvm.ClassFile.Reader.signed 16 (y * 256 + z) = d)) (fun c p y z e h k l => by
  have e := of_decide_eq_true e
  subst e
  refine Eq.trans (zby_bd h) ?_
  refine Eq.trans (zby_bd (zby_s2 k l)) ?_
  rfl)
noncomputable def zbyl_0 : List (Nat × zbyE) := [(0, zbyo_42), (1, zbyo_183 3), (4, zbyo_42), (5, zbyo_187 9), (8, zbyo_89), (9, zbyo_183 11), (12, zbyo_181 12), (15, zbyo_42), (16, zbyo_43), (17, zbyo_181 18), (20, zbyo_42), (21, zbyo_44), (22, zbyo_181 21), (25, zbyo_177)]
theorem zbyb_0 : zbys zbyl_0 (cX0_init.data.toList.drop 0) 0 = true := by decide +kernel
theorem dX0_init_0 : decode cX0_init 0 = .ok (.aload_n 0, 1) := zby_g zbyb_0 (i := 0) rfl rfl
theorem dX0_init_1 : decode cX0_init 1 = .ok (.invokespecial 3, 3) := zby_g zbyb_0 (i := 1) rfl rfl
theorem dX0_init_4 : decode cX0_init 4 = .ok (.aload_n 0, 1) := zby_g zbyb_0 (i := 2) rfl rfl
theorem dX0_init_5 : decode cX0_init 5 = .ok (.new 9, 3) := zby_g zbyb_0 (i := 3) rfl rfl
theorem dX0_init_8 : decode cX0_init 8 = .ok (.dup, 1) := zby_g zbyb_0 (i := 4) rfl rfl
theorem dX0_init_9 : decode cX0_init 9 = .ok (.invokespecial 11, 3) := zby_g zbyb_0 (i := 5) rfl rfl
theorem dX0_init_12 : decode cX0_init 12 = .ok (.putfield 12, 3) := zby_g zbyb_0 (i := 6) rfl rfl
theorem dX0_init_15 : decode cX0_init 15 = .ok (.aload_n 0, 1) := zby_g zbyb_0 (i := 7) rfl rfl
theorem dX0_init_16 : decode cX0_init 16 = .ok (.aload_n 1, 1) := zby_g zbyb_0 (i := 8) rfl rfl
theorem dX0_init_17 : decode cX0_init 17 = .ok (.putfield 18, 3) := zby_g zbyb_0 (i := 9) rfl rfl
theorem dX0_init_20 : decode cX0_init 20 = .ok (.aload_n 0, 1) := zby_g zbyb_0 (i := 10) rfl rfl
theorem dX0_init_21 : decode cX0_init 21 = .ok (.aload_n 2, 1) := zby_g zbyb_0 (i := 11) rfl rfl
theorem dX0_init_22 : decode cX0_init 22 = .ok (.putfield 21, 3) := zby_g zbyb_0 (i := 12) rfl rfl
theorem dX0_init_25 : decode cX0_init 25 = .ok (.return_, 1) := zby_g zbyb_0 (i := 13) rfl rfl
noncomputable def zbyl_1 : List (Nat × zbyE) := [(0, zbyo_42), (1, zbyo_180 12), (4, zbyo_42), (5, zbyo_180 18), (8, zbyo_182 25), (11, zbyo_3), (12, zbyo_54 4), (14, zbyo_21 4), (16, zbyo_42), (17, zbyo_180 18), (20, zbyo_180 29), (23, zbyo_162 28), (26, zbyo_27), (27, zbyo_21 4), (29, zbyo_122), (30, zbyo_4)]
theorem zbyb_1 : zbys zbyl_1 (cX0_lookAhead.data.toList.drop 0) 0 = true := by decide +kernel
theorem dX0_lookAhead_0 : decode cX0_lookAhead 0 = .ok (.aload_n 0, 1) := zby_g zbyb_1 (i := 0) rfl rfl
theorem dX0_lookAhead_1 : decode cX0_lookAhead 1 = .ok (.getfield 12, 3) := zby_g zbyb_1 (i := 1) rfl rfl
theorem dX0_lookAhead_4 : decode cX0_lookAhead 4 = .ok (.aload_n 0, 1) := zby_g zbyb_1 (i := 2) rfl rfl
theorem dX0_lookAhead_5 : decode cX0_lookAhead 5 = .ok (.getfield 18, 3) := zby_g zbyb_1 (i := 3) rfl rfl
theorem dX0_lookAhead_8 : decode cX0_lookAhead 8 = .ok (.invokevirtual 25, 3) := zby_g zbyb_1 (i := 4) rfl rfl
theorem dX0_lookAhead_11 : decode cX0_lookAhead 11 = .ok (.iconst 0, 1) := zby_g zbyb_1 (i := 5) rfl rfl
theorem dX0_lookAhead_12 : decode cX0_lookAhead 12 = .ok (.istore 4, 2) := zby_g zbyb_1 (i := 6) rfl rfl
theorem dX0_lookAhead_14 : decode cX0_lookAhead 14 = .ok (.iload 4, 2) := zby_g zbyb_1 (i := 7) rfl rfl
theorem dX0_lookAhead_16 : decode cX0_lookAhead 16 = .ok (.aload_n 0, 1) := zby_g zbyb_1 (i := 8) rfl rfl
theorem dX0_lookAhead_17 : decode cX0_lookAhead 17 = .ok (.getfield 18, 3) := zby_g zbyb_1 (i := 9) rfl rfl
theorem dX0_lookAhead_20 : decode cX0_lookAhead 20 = .ok (.getfield 29, 3) := zby_g zbyb_1 (i := 10) rfl rfl
theorem dX0_lookAhead_23 : decode cX0_lookAhead 23 = .ok (.if_icmp .ge 28, 3) := zby_g zbyb_1 (i := 11) rfl rfl
theorem dX0_lookAhead_26 : decode cX0_lookAhead 26 = .ok (.iload_n 1, 1) := zby_g zbyb_1 (i := 12) rfl rfl
theorem dX0_lookAhead_27 : decode cX0_lookAhead 27 = .ok (.iload 4, 2) := zby_g zbyb_1 (i := 13) rfl rfl
theorem dX0_lookAhead_29 : decode cX0_lookAhead 29 = .ok (.ishr, 1) := zby_g zbyb_1 (i := 14) rfl rfl
theorem dX0_lookAhead_30 : decode cX0_lookAhead 30 = .ok (.iconst 1, 1) := zby_g zbyb_1 (i := 15) rfl rfl
noncomputable def zbyl_2 : List (Nat × zbyE) := [(31, zbyo_126), (32, zbyo_153 13), (35, zbyo_42), (36, zbyo_180 12), (39, zbyo_21 4), (41, zbyo_28), (42, zbyo_182 33), (45, zbyo_132 4 1), (48, zbyo_167 (-34)), (51, zbyo_3), (52, zbyo_54 4), (54, zbyo_21 4), (56, zbyo_29), (57, zbyo_162 23), (60, zbyo_42), (61, zbyo_180 12)]
theorem zbyb_2 : zbys zbyl_2 (cX0_lookAhead.data.toList.drop 31) 31 = true := by decide +kernel
theorem dX0_lookAhead_31 : decode cX0_lookAhead 31 = .ok (.iand, 1) := zby_g zbyb_2 (i := 0) rfl rfl
theorem dX0_lookAhead_32 : decode cX0_lookAhead 32 = .ok (.ifCond .eq 13, 3) := zby_g zbyb_2 (i := 1) rfl rfl
theorem dX0_lookAhead_35 : decode cX0_lookAhead 35 = .ok (.aload_n 0, 1) := zby_g zbyb_2 (i := 2) rfl rfl
theorem dX0_lookAhead_36 : decode cX0_lookAhead 36 = .ok (.getfield 12, 3) := zby_g zbyb_2 (i := 3) rfl rfl
theorem dX0_lookAhead_39 : decode cX0_lookAhead 39 = .ok (.iload 4, 2) := zby_g zbyb_2 (i := 4) rfl rfl
theorem dX0_lookAhead_41 : decode cX0_lookAhead 41 = .ok (.iload_n 2, 1) := zby_g zbyb_2 (i := 5) rfl rfl
theorem dX0_lookAhead_42 : decode cX0_lookAhead 42 = .ok (.invokevirtual 33, 3) := zby_g zbyb_2 (i := 6) rfl rfl
theorem dX0_lookAhead_45 : decode cX0_lookAhead 45 = .ok (.iinc 4 1, 3) := zby_g zbyb_2 (i := 7) rfl rfl
theorem dX0_lookAhead_48 : decode cX0_lookAhead 48 = .ok (.goto (-34), 3) := zby_g zbyb_2 (i := 8) rfl rfl
theorem dX0_lookAhead_51 : decode cX0_lookAhead 51 = .ok (.iconst 0, 1) := zby_g zbyb_2 (i := 9) rfl rfl
theorem dX0_lookAhead_52 : decode cX0_lookAhead 52 = .ok (.istore 4, 2) := zby_g zbyb_2 (i := 10) rfl rfl
theorem dX0_lookAhead_54 : decode cX0_lookAhead 54 = .ok (.iload 4, 2) := zby_g zbyb_2 (i := 11) rfl rfl
theorem dX0_lookAhead_56 : decode cX0_lookAhead 56 = .ok (.iload_n 3, 1) := zby_g zbyb_2 (i := 12) rfl rfl
theorem dX0_lookAhead_57 : decode cX0_lookAhead 57 = .ok (.if_icmp .ge 23, 3) := zby_g zbyb_2 (i := 13) rfl rfl
theorem dX0_lookAhead_60 : decode cX0_lookAhead 60 = .ok (.aload_n 0, 1) := zby_g zbyb_2 (i := 14) rfl rfl
theorem dX0_lookAhead_61 : decode cX0_lookAhead 61 = .ok (.getfield 12, 3) := zby_g zbyb_2 (i := 15) rfl rfl
noncomputable def zbyl_3 : List (Nat × zbyE) := [(64, zbyo_42), (65, zbyo_180 21), (68, zbyo_3), (69, zbyo_1), (70, zbyo_182 37), (73, zbyo_87), (74, zbyo_132 4 1), (77, zbyo_167 (-23)), (80, zbyo_42), (81, zbyo_180 12), (84, zbyo_182 41), (87, zbyo_172)]
theorem zbyb_3 : zbys zbyl_3 (cX0_lookAhead.data.toList.drop 64) 64 = true := by decide +kernel
theorem dX0_lookAhead_64 : decode cX0_lookAhead 64 = .ok (.aload_n 0, 1) := zby_g zbyb_3 (i := 0) rfl rfl
theorem dX0_lookAhead_65 : decode cX0_lookAhead 65 = .ok (.getfield 21, 3) := zby_g zbyb_3 (i := 1) rfl rfl
theorem dX0_lookAhead_68 : decode cX0_lookAhead 68 = .ok (.iconst 0, 1) := zby_g zbyb_3 (i := 2) rfl rfl
theorem dX0_lookAhead_69 : decode cX0_lookAhead 69 = .ok (.aconst_null, 1) := zby_g zbyb_3 (i := 3) rfl rfl
theorem dX0_lookAhead_70 : decode cX0_lookAhead 70 = .ok (.invokevirtual 37, 3) := zby_g zbyb_3 (i := 4) rfl rfl
theorem dX0_lookAhead_73 : decode cX0_lookAhead 73 = .ok (.pop, 1) := zby_g zbyb_3 (i := 5) rfl rfl
theorem dX0_lookAhead_74 : decode cX0_lookAhead 74 = .ok (.iinc 4 1, 3) := zby_g zbyb_3 (i := 6) rfl rfl
theorem dX0_lookAhead_77 : decode cX0_lookAhead 77 = .ok (.goto (-23), 3) := zby_g zbyb_3 (i := 7) rfl rfl
theorem dX0_lookAhead_80 : decode cX0_lookAhead 80 = .ok (.aload_n 0, 1) := zby_g zbyb_3 (i := 8) rfl rfl
theorem dX0_lookAhead_81 : decode cX0_lookAhead 81 = .ok (.getfield 12, 3) := zby_g zbyb_3 (i := 9) rfl rfl
theorem dX0_lookAhead_84 : decode cX0_lookAhead 84 = .ok (.invokevirtual 41, 3) := zby_g zbyb_3 (i := 10) rfl rfl
theorem dX0_lookAhead_87 : decode cX0_lookAhead 87 = .ok (.ireturn, 1) := zby_g zbyb_3 (i := 11) rfl rfl
noncomputable def zbyl_4 : List (Nat × zbyE) := [(0, zbyo_2), (1, zbyo_61), (2, zbyo_3), (3, zbyo_62), (4, zbyo_3), (5, zbyo_54 4), (7, zbyo_21 4), (9, zbyo_42), (10, zbyo_180 18), (13, zbyo_180 29), (16, zbyo_162 51), (19, zbyo_42), (20, zbyo_180 18), (23, zbyo_21 4), (25, zbyo_182 45), (28, zbyo_153 33)]
theorem zbyb_4 : zbys zbyl_4 (cX0_strongest.data.toList.drop 0) 0 = true := by decide +kernel
theorem dX0_strongest_0 : decode cX0_strongest 0 = .ok (.iconst (-1), 1) := zby_g zbyb_4 (i := 0) rfl rfl
theorem dX0_strongest_1 : decode cX0_strongest 1 = .ok (.istore_n 2, 1) := zby_g zbyb_4 (i := 1) rfl rfl
theorem dX0_strongest_2 : decode cX0_strongest 2 = .ok (.iconst 0, 1) := zby_g zbyb_4 (i := 2) rfl rfl
theorem dX0_strongest_3 : decode cX0_strongest 3 = .ok (.istore_n 3, 1) := zby_g zbyb_4 (i := 3) rfl rfl
theorem dX0_strongest_4 : decode cX0_strongest 4 = .ok (.iconst 0, 1) := zby_g zbyb_4 (i := 4) rfl rfl
theorem dX0_strongest_5 : decode cX0_strongest 5 = .ok (.istore 4, 2) := zby_g zbyb_4 (i := 5) rfl rfl
theorem dX0_strongest_7 : decode cX0_strongest 7 = .ok (.iload 4, 2) := zby_g zbyb_4 (i := 6) rfl rfl
theorem dX0_strongest_9 : decode cX0_strongest 9 = .ok (.aload_n 0, 1) := zby_g zbyb_4 (i := 7) rfl rfl
theorem dX0_strongest_10 : decode cX0_strongest 10 = .ok (.getfield 18, 3) := zby_g zbyb_4 (i := 8) rfl rfl
theorem dX0_strongest_13 : decode cX0_strongest 13 = .ok (.getfield 29, 3) := zby_g zbyb_4 (i := 9) rfl rfl
theorem dX0_strongest_16 : decode cX0_strongest 16 = .ok (.if_icmp .ge 51, 3) := zby_g zbyb_4 (i := 10) rfl rfl
theorem dX0_strongest_19 : decode cX0_strongest 19 = .ok (.aload_n 0, 1) := zby_g zbyb_4 (i := 11) rfl rfl
theorem dX0_strongest_20 : decode cX0_strongest 20 = .ok (.getfield 18, 3) := zby_g zbyb_4 (i := 12) rfl rfl
theorem dX0_strongest_23 : decode cX0_strongest 23 = .ok (.iload 4, 2) := zby_g zbyb_4 (i := 13) rfl rfl
theorem dX0_strongest_25 : decode cX0_strongest 25 = .ok (.invokevirtual 45, 3) := zby_g zbyb_4 (i := 14) rfl rfl
theorem dX0_strongest_28 : decode cX0_strongest 28 = .ok (.ifCond .eq 33, 3) := zby_g zbyb_4 (i := 15) rfl rfl
noncomputable def zbyl_5 : List (Nat × zbyE) := [(31, zbyo_42), (32, zbyo_4), (33, zbyo_21 4), (35, zbyo_120), (36, zbyo_16 10), (38, zbyo_27), (39, zbyo_182 49), (42, zbyo_54 5), (44, zbyo_28), (45, zbyo_2), (46, zbyo_159 9), (49, zbyo_21 5), (51, zbyo_29), (52, zbyo_164 9), (55, zbyo_21 4), (57, zbyo_61)]
theorem zbyb_5 : zbys zbyl_5 (cX0_strongest.data.toList.drop 31) 31 = true := by decide +kernel
theorem dX0_strongest_31 : decode cX0_strongest 31 = .ok (.aload_n 0, 1) := zby_g zbyb_5 (i := 0) rfl rfl
theorem dX0_strongest_32 : decode cX0_strongest 32 = .ok (.iconst 1, 1) := zby_g zbyb_5 (i := 1) rfl rfl
theorem dX0_strongest_33 : decode cX0_strongest 33 = .ok (.iload 4, 2) := zby_g zbyb_5 (i := 2) rfl rfl
theorem dX0_strongest_35 : decode cX0_strongest 35 = .ok (.ishl, 1) := zby_g zbyb_5 (i := 3) rfl rfl
theorem dX0_strongest_36 : decode cX0_strongest 36 = .ok (.bipush 10, 2) := zby_g zbyb_5 (i := 4) rfl rfl
theorem dX0_strongest_38 : decode cX0_strongest 38 = .ok (.iload_n 1, 1) := zby_g zbyb_5 (i := 5) rfl rfl
theorem dX0_strongest_39 : decode cX0_strongest 39 = .ok (.invokevirtual 49, 3) := zby_g zbyb_5 (i := 6) rfl rfl
theorem dX0_strongest_42 : decode cX0_strongest 42 = .ok (.istore 5, 2) := zby_g zbyb_5 (i := 7) rfl rfl
theorem dX0_strongest_44 : decode cX0_strongest 44 = .ok (.iload_n 2, 1) := zby_g zbyb_5 (i := 8) rfl rfl
theorem dX0_strongest_45 : decode cX0_strongest 45 = .ok (.iconst (-1), 1) := zby_g zbyb_5 (i := 9) rfl rfl
theorem dX0_strongest_46 : decode cX0_strongest 46 = .ok (.if_icmp .eq 9, 3) := zby_g zbyb_5 (i := 10) rfl rfl
theorem dX0_strongest_49 : decode cX0_strongest 49 = .ok (.iload 5, 2) := zby_g zbyb_5 (i := 11) rfl rfl
theorem dX0_strongest_51 : decode cX0_strongest 51 = .ok (.iload_n 3, 1) := zby_g zbyb_5 (i := 12) rfl rfl
theorem dX0_strongest_52 : decode cX0_strongest 52 = .ok (.if_icmp .le 9, 3) := zby_g zbyb_5 (i := 13) rfl rfl
theorem dX0_strongest_55 : decode cX0_strongest 55 = .ok (.iload 4, 2) := zby_g zbyb_5 (i := 14) rfl rfl
theorem dX0_strongest_57 : decode cX0_strongest 57 = .ok (.istore_n 2, 1) := zby_g zbyb_5 (i := 15) rfl rfl
noncomputable def zbyl_6 : List (Nat × zbyE) := [(58, zbyo_21 5), (60, zbyo_62), (61, zbyo_132 4 1), (64, zbyo_167 (-57)), (67, zbyo_28), (68, zbyo_172)]
theorem zbyb_6 : zbys zbyl_6 (cX0_strongest.data.toList.drop 58) 58 = true := by decide +kernel
theorem dX0_strongest_58 : decode cX0_strongest 58 = .ok (.iload 5, 2) := zby_g zbyb_6 (i := 0) rfl rfl
theorem dX0_strongest_60 : decode cX0_strongest 60 = .ok (.istore_n 3, 1) := zby_g zbyb_6 (i := 1) rfl rfl
theorem dX0_strongest_61 : decode cX0_strongest 61 = .ok (.iinc 4 1, 3) := zby_g zbyb_6 (i := 2) rfl rfl
theorem dX0_strongest_64 : decode cX0_strongest 64 = .ok (.goto (-57), 3) := zby_g zbyb_6 (i := 3) rfl rfl
theorem dX0_strongest_67 : decode cX0_strongest 67 = .ok (.iload_n 2, 1) := zby_g zbyb_6 (i := 4) rfl rfl
theorem dX0_strongest_68 : decode cX0_strongest 68 = .ok (.ireturn, 1) := zby_g zbyb_6 (i := 5) rfl rfl
noncomputable def zbyl_7 : List (Nat × zbyE) := [(0, zbyo_42), (1, zbyo_180 18), (4, zbyo_182 53), (7, zbyo_62), (8, zbyo_3), (9, zbyo_54 4), (11, zbyo_21 4), (13, zbyo_42), (14, zbyo_180 18), (17, zbyo_180 29), (20, zbyo_163 67), (23, zbyo_3), (24, zbyo_54 5), (26, zbyo_21 5), (28, zbyo_4), (29, zbyo_42)]
theorem zbyb_7 : zbys zbyl_7 (cX0_fewestTold.data.toList.drop 0) 0 = true := by decide +kernel
theorem dX0_fewestTold_0 : decode cX0_fewestTold 0 = .ok (.aload_n 0, 1) := zby_g zbyb_7 (i := 0) rfl rfl
theorem dX0_fewestTold_1 : decode cX0_fewestTold 1 = .ok (.getfield 18, 3) := zby_g zbyb_7 (i := 1) rfl rfl
theorem dX0_fewestTold_4 : decode cX0_fewestTold 4 = .ok (.invokevirtual 53, 3) := zby_g zbyb_7 (i := 2) rfl rfl
theorem dX0_fewestTold_7 : decode cX0_fewestTold 7 = .ok (.istore_n 3, 1) := zby_g zbyb_7 (i := 3) rfl rfl
theorem dX0_fewestTold_8 : decode cX0_fewestTold 8 = .ok (.iconst 0, 1) := zby_g zbyb_7 (i := 4) rfl rfl
theorem dX0_fewestTold_9 : decode cX0_fewestTold 9 = .ok (.istore 4, 2) := zby_g zbyb_7 (i := 5) rfl rfl
theorem dX0_fewestTold_11 : decode cX0_fewestTold 11 = .ok (.iload 4, 2) := zby_g zbyb_7 (i := 6) rfl rfl
theorem dX0_fewestTold_13 : decode cX0_fewestTold 13 = .ok (.aload_n 0, 1) := zby_g zbyb_7 (i := 7) rfl rfl
theorem dX0_fewestTold_14 : decode cX0_fewestTold 14 = .ok (.getfield 18, 3) := zby_g zbyb_7 (i := 8) rfl rfl
theorem dX0_fewestTold_17 : decode cX0_fewestTold 17 = .ok (.getfield 29, 3) := zby_g zbyb_7 (i := 9) rfl rfl
theorem dX0_fewestTold_20 : decode cX0_fewestTold 20 = .ok (.if_icmp .gt 67, 3) := zby_g zbyb_7 (i := 10) rfl rfl
theorem dX0_fewestTold_23 : decode cX0_fewestTold 23 = .ok (.iconst 0, 1) := zby_g zbyb_7 (i := 11) rfl rfl
theorem dX0_fewestTold_24 : decode cX0_fewestTold 24 = .ok (.istore 5, 2) := zby_g zbyb_7 (i := 12) rfl rfl
theorem dX0_fewestTold_26 : decode cX0_fewestTold 26 = .ok (.iload 5, 2) := zby_g zbyb_7 (i := 13) rfl rfl
theorem dX0_fewestTold_28 : decode cX0_fewestTold 28 = .ok (.iconst 1, 1) := zby_g zbyb_7 (i := 14) rfl rfl
theorem dX0_fewestTold_29 : decode cX0_fewestTold 29 = .ok (.aload_n 0, 1) := zby_g zbyb_7 (i := 15) rfl rfl
noncomputable def zbyl_8 : List (Nat × zbyE) := [(30, zbyo_180 18), (33, zbyo_180 29), (36, zbyo_120), (37, zbyo_162 44), (40, zbyo_21 5), (42, zbyo_184 56), (45, zbyo_21 4), (47, zbyo_160 28), (50, zbyo_21 5), (52, zbyo_29), (53, zbyo_2), (54, zbyo_130), (55, zbyo_126), (56, zbyo_154 19), (59, zbyo_42), (60, zbyo_21 5)]
theorem zbyb_8 : zbys zbyl_8 (cX0_fewestTold.data.toList.drop 30) 30 = true := by decide +kernel
theorem dX0_fewestTold_30 : decode cX0_fewestTold 30 = .ok (.getfield 18, 3) := zby_g zbyb_8 (i := 0) rfl rfl
theorem dX0_fewestTold_33 : decode cX0_fewestTold 33 = .ok (.getfield 29, 3) := zby_g zbyb_8 (i := 1) rfl rfl
theorem dX0_fewestTold_36 : decode cX0_fewestTold 36 = .ok (.ishl, 1) := zby_g zbyb_8 (i := 2) rfl rfl
theorem dX0_fewestTold_37 : decode cX0_fewestTold 37 = .ok (.if_icmp .ge 44, 3) := zby_g zbyb_8 (i := 3) rfl rfl
theorem dX0_fewestTold_40 : decode cX0_fewestTold 40 = .ok (.iload 5, 2) := zby_g zbyb_8 (i := 4) rfl rfl
theorem dX0_fewestTold_42 : decode cX0_fewestTold 42 = .ok (.invokestatic 56, 3) := zby_g zbyb_8 (i := 5) rfl rfl
theorem dX0_fewestTold_45 : decode cX0_fewestTold 45 = .ok (.iload 4, 2) := zby_g zbyb_8 (i := 6) rfl rfl
theorem dX0_fewestTold_47 : decode cX0_fewestTold 47 = .ok (.if_icmp .ne 28, 3) := zby_g zbyb_8 (i := 7) rfl rfl
theorem dX0_fewestTold_50 : decode cX0_fewestTold 50 = .ok (.iload 5, 2) := zby_g zbyb_8 (i := 8) rfl rfl
theorem dX0_fewestTold_52 : decode cX0_fewestTold 52 = .ok (.iload_n 3, 1) := zby_g zbyb_8 (i := 9) rfl rfl
theorem dX0_fewestTold_53 : decode cX0_fewestTold 53 = .ok (.iconst (-1), 1) := zby_g zbyb_8 (i := 10) rfl rfl
theorem dX0_fewestTold_54 : decode cX0_fewestTold 54 = .ok (.ixor, 1) := zby_g zbyb_8 (i := 11) rfl rfl
theorem dX0_fewestTold_55 : decode cX0_fewestTold 55 = .ok (.iand, 1) := zby_g zbyb_8 (i := 12) rfl rfl
theorem dX0_fewestTold_56 : decode cX0_fewestTold 56 = .ok (.ifCond .ne 19, 3) := zby_g zbyb_8 (i := 13) rfl rfl
theorem dX0_fewestTold_59 : decode cX0_fewestTold 59 = .ok (.aload_n 0, 1) := zby_g zbyb_8 (i := 14) rfl rfl
theorem dX0_fewestTold_60 : decode cX0_fewestTold 60 = .ok (.iload 5, 2) := zby_g zbyb_8 (i := 15) rfl rfl
noncomputable def zbyl_9 : List (Nat × zbyE) := [(62, zbyo_16 20), (64, zbyo_28), (65, zbyo_182 49), (68, zbyo_27), (69, zbyo_161 6), (72, zbyo_21 5), (74, zbyo_172), (75, zbyo_132 5 1), (78, zbyo_167 (-52)), (81, zbyo_132 4 1), (84, zbyo_167 (-73)), (87, zbyo_2), (88, zbyo_172)]
theorem zbyb_9 : zbys zbyl_9 (cX0_fewestTold.data.toList.drop 62) 62 = true := by decide +kernel
theorem dX0_fewestTold_62 : decode cX0_fewestTold 62 = .ok (.bipush 20, 2) := zby_g zbyb_9 (i := 0) rfl rfl
theorem dX0_fewestTold_64 : decode cX0_fewestTold 64 = .ok (.iload_n 2, 1) := zby_g zbyb_9 (i := 1) rfl rfl
theorem dX0_fewestTold_65 : decode cX0_fewestTold 65 = .ok (.invokevirtual 49, 3) := zby_g zbyb_9 (i := 2) rfl rfl
theorem dX0_fewestTold_68 : decode cX0_fewestTold 68 = .ok (.iload_n 1, 1) := zby_g zbyb_9 (i := 3) rfl rfl
theorem dX0_fewestTold_69 : decode cX0_fewestTold 69 = .ok (.if_icmp .lt 6, 3) := zby_g zbyb_9 (i := 4) rfl rfl
theorem dX0_fewestTold_72 : decode cX0_fewestTold 72 = .ok (.iload 5, 2) := zby_g zbyb_9 (i := 5) rfl rfl
theorem dX0_fewestTold_74 : decode cX0_fewestTold 74 = .ok (.ireturn, 1) := zby_g zbyb_9 (i := 6) rfl rfl
theorem dX0_fewestTold_75 : decode cX0_fewestTold 75 = .ok (.iinc 5 1, 3) := zby_g zbyb_9 (i := 7) rfl rfl
theorem dX0_fewestTold_78 : decode cX0_fewestTold 78 = .ok (.goto (-52), 3) := zby_g zbyb_9 (i := 8) rfl rfl
theorem dX0_fewestTold_81 : decode cX0_fewestTold 81 = .ok (.iinc 4 1, 3) := zby_g zbyb_9 (i := 9) rfl rfl
theorem dX0_fewestTold_84 : decode cX0_fewestTold 84 = .ok (.goto (-73), 3) := zby_g zbyb_9 (i := 10) rfl rfl
theorem dX0_fewestTold_87 : decode cX0_fewestTold 87 = .ok (.iconst (-1), 1) := zby_g zbyb_9 (i := 11) rfl rfl
theorem dX0_fewestTold_88 : decode cX0_fewestTold 88 = .ok (.ireturn, 1) := zby_g zbyb_9 (i := 12) rfl rfl
noncomputable def zbyl_10 : List (Nat × zbyE) := [(0, zbyo_42), (1, zbyo_180 12), (4, zbyo_42), (5, zbyo_180 18), (8, zbyo_182 25), (11, zbyo_3), (12, zbyo_61), (13, zbyo_28), (14, zbyo_16 100), (16, zbyo_163 36), (19, zbyo_42), (20, zbyo_180 12), (23, zbyo_182 41), (26, zbyo_27), (27, zbyo_161 5), (30, zbyo_28)]
theorem zbyb_10 : zbys zbyl_10 (cX0_firstBelieved.data.toList.drop 0) 0 = true := by decide +kernel
theorem dX0_firstBelieved_0 : decode cX0_firstBelieved 0 = .ok (.aload_n 0, 1) := zby_g zbyb_10 (i := 0) rfl rfl
theorem dX0_firstBelieved_1 : decode cX0_firstBelieved 1 = .ok (.getfield 12, 3) := zby_g zbyb_10 (i := 1) rfl rfl
theorem dX0_firstBelieved_4 : decode cX0_firstBelieved 4 = .ok (.aload_n 0, 1) := zby_g zbyb_10 (i := 2) rfl rfl
theorem dX0_firstBelieved_5 : decode cX0_firstBelieved 5 = .ok (.getfield 18, 3) := zby_g zbyb_10 (i := 3) rfl rfl
theorem dX0_firstBelieved_8 : decode cX0_firstBelieved 8 = .ok (.invokevirtual 25, 3) := zby_g zbyb_10 (i := 4) rfl rfl
theorem dX0_firstBelieved_11 : decode cX0_firstBelieved 11 = .ok (.iconst 0, 1) := zby_g zbyb_10 (i := 5) rfl rfl
theorem dX0_firstBelieved_12 : decode cX0_firstBelieved 12 = .ok (.istore_n 2, 1) := zby_g zbyb_10 (i := 6) rfl rfl
theorem dX0_firstBelieved_13 : decode cX0_firstBelieved 13 = .ok (.iload_n 2, 1) := zby_g zbyb_10 (i := 7) rfl rfl
theorem dX0_firstBelieved_14 : decode cX0_firstBelieved 14 = .ok (.bipush 100, 2) := zby_g zbyb_10 (i := 8) rfl rfl
theorem dX0_firstBelieved_16 : decode cX0_firstBelieved 16 = .ok (.if_icmp .gt 36, 3) := zby_g zbyb_10 (i := 9) rfl rfl
theorem dX0_firstBelieved_19 : decode cX0_firstBelieved 19 = .ok (.aload_n 0, 1) := zby_g zbyb_10 (i := 10) rfl rfl
theorem dX0_firstBelieved_20 : decode cX0_firstBelieved 20 = .ok (.getfield 12, 3) := zby_g zbyb_10 (i := 11) rfl rfl
theorem dX0_firstBelieved_23 : decode cX0_firstBelieved 23 = .ok (.invokevirtual 41, 3) := zby_g zbyb_10 (i := 12) rfl rfl
theorem dX0_firstBelieved_26 : decode cX0_firstBelieved 26 = .ok (.iload_n 1, 1) := zby_g zbyb_10 (i := 13) rfl rfl
theorem dX0_firstBelieved_27 : decode cX0_firstBelieved 27 = .ok (.if_icmp .lt 5, 3) := zby_g zbyb_10 (i := 14) rfl rfl
theorem dX0_firstBelieved_30 : decode cX0_firstBelieved 30 = .ok (.iload_n 2, 1) := zby_g zbyb_10 (i := 15) rfl rfl
noncomputable def zbyl_11 : List (Nat × zbyE) := [(31, zbyo_172), (32, zbyo_42), (33, zbyo_180 12), (36, zbyo_42), (37, zbyo_180 21), (40, zbyo_3), (41, zbyo_1), (42, zbyo_182 37), (45, zbyo_87), (46, zbyo_132 2 1), (49, zbyo_167 (-36)), (52, zbyo_2), (53, zbyo_172)]
theorem zbyb_11 : zbys zbyl_11 (cX0_firstBelieved.data.toList.drop 31) 31 = true := by decide +kernel
theorem dX0_firstBelieved_31 : decode cX0_firstBelieved 31 = .ok (.ireturn, 1) := zby_g zbyb_11 (i := 0) rfl rfl
theorem dX0_firstBelieved_32 : decode cX0_firstBelieved 32 = .ok (.aload_n 0, 1) := zby_g zbyb_11 (i := 1) rfl rfl
theorem dX0_firstBelieved_33 : decode cX0_firstBelieved 33 = .ok (.getfield 12, 3) := zby_g zbyb_11 (i := 2) rfl rfl
theorem dX0_firstBelieved_36 : decode cX0_firstBelieved 36 = .ok (.aload_n 0, 1) := zby_g zbyb_11 (i := 3) rfl rfl
theorem dX0_firstBelieved_37 : decode cX0_firstBelieved 37 = .ok (.getfield 21, 3) := zby_g zbyb_11 (i := 4) rfl rfl
theorem dX0_firstBelieved_40 : decode cX0_firstBelieved 40 = .ok (.iconst 0, 1) := zby_g zbyb_11 (i := 5) rfl rfl
theorem dX0_firstBelieved_41 : decode cX0_firstBelieved 41 = .ok (.aconst_null, 1) := zby_g zbyb_11 (i := 6) rfl rfl
theorem dX0_firstBelieved_42 : decode cX0_firstBelieved 42 = .ok (.invokevirtual 37, 3) := zby_g zbyb_11 (i := 7) rfl rfl
theorem dX0_firstBelieved_45 : decode cX0_firstBelieved 45 = .ok (.pop, 1) := zby_g zbyb_11 (i := 8) rfl rfl
theorem dX0_firstBelieved_46 : decode cX0_firstBelieved 46 = .ok (.iinc 2 1, 3) := zby_g zbyb_11 (i := 9) rfl rfl
theorem dX0_firstBelieved_49 : decode cX0_firstBelieved 49 = .ok (.goto (-36), 3) := zby_g zbyb_11 (i := 10) rfl rfl
theorem dX0_firstBelieved_52 : decode cX0_firstBelieved 52 = .ok (.iconst (-1), 1) := zby_g zbyb_11 (i := 11) rfl rfl
theorem dX0_firstBelieved_53 : decode cX0_firstBelieved 53 = .ok (.ireturn, 1) := zby_g zbyb_11 (i := 12) rfl rfl
noncomputable def zbyl_12 : List (Nat × zbyE) := [(0, zbyo_42), (1, zbyo_180 12), (4, zbyo_42), (5, zbyo_180 18), (8, zbyo_182 25), (11, zbyo_3), (12, zbyo_60), (13, zbyo_27), (14, zbyo_16 100), (16, zbyo_163 35), (19, zbyo_42), (20, zbyo_180 12), (23, zbyo_182 62), (26, zbyo_153 5), (29, zbyo_27), (30, zbyo_172)]
theorem zbyb_12 : zbys zbyl_12 (cX0_firstRuin.data.toList.drop 0) 0 = true := by decide +kernel
theorem dX0_firstRuin_0 : decode cX0_firstRuin 0 = .ok (.aload_n 0, 1) := zby_g zbyb_12 (i := 0) rfl rfl
theorem dX0_firstRuin_1 : decode cX0_firstRuin 1 = .ok (.getfield 12, 3) := zby_g zbyb_12 (i := 1) rfl rfl
theorem dX0_firstRuin_4 : decode cX0_firstRuin 4 = .ok (.aload_n 0, 1) := zby_g zbyb_12 (i := 2) rfl rfl
theorem dX0_firstRuin_5 : decode cX0_firstRuin 5 = .ok (.getfield 18, 3) := zby_g zbyb_12 (i := 3) rfl rfl
theorem dX0_firstRuin_8 : decode cX0_firstRuin 8 = .ok (.invokevirtual 25, 3) := zby_g zbyb_12 (i := 4) rfl rfl
theorem dX0_firstRuin_11 : decode cX0_firstRuin 11 = .ok (.iconst 0, 1) := zby_g zbyb_12 (i := 5) rfl rfl
theorem dX0_firstRuin_12 : decode cX0_firstRuin 12 = .ok (.istore_n 1, 1) := zby_g zbyb_12 (i := 6) rfl rfl
theorem dX0_firstRuin_13 : decode cX0_firstRuin 13 = .ok (.iload_n 1, 1) := zby_g zbyb_12 (i := 7) rfl rfl
theorem dX0_firstRuin_14 : decode cX0_firstRuin 14 = .ok (.bipush 100, 2) := zby_g zbyb_12 (i := 8) rfl rfl
theorem dX0_firstRuin_16 : decode cX0_firstRuin 16 = .ok (.if_icmp .gt 35, 3) := zby_g zbyb_12 (i := 9) rfl rfl
theorem dX0_firstRuin_19 : decode cX0_firstRuin 19 = .ok (.aload_n 0, 1) := zby_g zbyb_12 (i := 10) rfl rfl
theorem dX0_firstRuin_20 : decode cX0_firstRuin 20 = .ok (.getfield 12, 3) := zby_g zbyb_12 (i := 11) rfl rfl
theorem dX0_firstRuin_23 : decode cX0_firstRuin 23 = .ok (.invokevirtual 62, 3) := zby_g zbyb_12 (i := 12) rfl rfl
theorem dX0_firstRuin_26 : decode cX0_firstRuin 26 = .ok (.ifCond .eq 5, 3) := zby_g zbyb_12 (i := 13) rfl rfl
theorem dX0_firstRuin_29 : decode cX0_firstRuin 29 = .ok (.iload_n 1, 1) := zby_g zbyb_12 (i := 14) rfl rfl
theorem dX0_firstRuin_30 : decode cX0_firstRuin 30 = .ok (.ireturn, 1) := zby_g zbyb_12 (i := 15) rfl rfl
noncomputable def zbyl_13 : List (Nat × zbyE) := [(31, zbyo_42), (32, zbyo_180 12), (35, zbyo_42), (36, zbyo_180 21), (39, zbyo_3), (40, zbyo_1), (41, zbyo_182 37), (44, zbyo_87), (45, zbyo_132 1 1), (48, zbyo_167 (-35)), (51, zbyo_2), (52, zbyo_172)]
theorem zbyb_13 : zbys zbyl_13 (cX0_firstRuin.data.toList.drop 31) 31 = true := by decide +kernel
theorem dX0_firstRuin_31 : decode cX0_firstRuin 31 = .ok (.aload_n 0, 1) := zby_g zbyb_13 (i := 0) rfl rfl
theorem dX0_firstRuin_32 : decode cX0_firstRuin 32 = .ok (.getfield 12, 3) := zby_g zbyb_13 (i := 1) rfl rfl
theorem dX0_firstRuin_35 : decode cX0_firstRuin 35 = .ok (.aload_n 0, 1) := zby_g zbyb_13 (i := 2) rfl rfl
theorem dX0_firstRuin_36 : decode cX0_firstRuin 36 = .ok (.getfield 21, 3) := zby_g zbyb_13 (i := 3) rfl rfl
theorem dX0_firstRuin_39 : decode cX0_firstRuin 39 = .ok (.iconst 0, 1) := zby_g zbyb_13 (i := 4) rfl rfl
theorem dX0_firstRuin_40 : decode cX0_firstRuin 40 = .ok (.aconst_null, 1) := zby_g zbyb_13 (i := 5) rfl rfl
theorem dX0_firstRuin_41 : decode cX0_firstRuin 41 = .ok (.invokevirtual 37, 3) := zby_g zbyb_13 (i := 6) rfl rfl
theorem dX0_firstRuin_44 : decode cX0_firstRuin 44 = .ok (.pop, 1) := zby_g zbyb_13 (i := 7) rfl rfl
theorem dX0_firstRuin_45 : decode cX0_firstRuin 45 = .ok (.iinc 1 1, 3) := zby_g zbyb_13 (i := 8) rfl rfl
theorem dX0_firstRuin_48 : decode cX0_firstRuin 48 = .ok (.goto (-35), 3) := zby_g zbyb_13 (i := 9) rfl rfl
theorem dX0_firstRuin_51 : decode cX0_firstRuin 51 = .ok (.iconst (-1), 1) := zby_g zbyb_13 (i := 10) rfl rfl
theorem dX0_firstRuin_52 : decode cX0_firstRuin 52 = .ok (.ireturn, 1) := zby_g zbyb_13 (i := 11) rfl rfl
noncomputable def zbyl_14 : List (Nat × zbyE) := [(0, zbyo_42), (1, zbyo_180 12), (4, zbyo_42), (5, zbyo_180 18), (8, zbyo_182 25), (11, zbyo_3), (12, zbyo_61), (13, zbyo_28), (14, zbyo_16 100), (16, zbyo_163 38), (19, zbyo_42), (20, zbyo_180 12), (23, zbyo_180 66), (26, zbyo_27), (27, zbyo_46), (28, zbyo_5)]
theorem zbyb_14 : zbys zbyl_14 (cX0_firstFallen.data.toList.drop 0) 0 = true := by decide +kernel
theorem dX0_firstFallen_0 : decode cX0_firstFallen 0 = .ok (.aload_n 0, 1) := zby_g zbyb_14 (i := 0) rfl rfl
theorem dX0_firstFallen_1 : decode cX0_firstFallen 1 = .ok (.getfield 12, 3) := zby_g zbyb_14 (i := 1) rfl rfl
theorem dX0_firstFallen_4 : decode cX0_firstFallen 4 = .ok (.aload_n 0, 1) := zby_g zbyb_14 (i := 2) rfl rfl
theorem dX0_firstFallen_5 : decode cX0_firstFallen 5 = .ok (.getfield 18, 3) := zby_g zbyb_14 (i := 3) rfl rfl
theorem dX0_firstFallen_8 : decode cX0_firstFallen 8 = .ok (.invokevirtual 25, 3) := zby_g zbyb_14 (i := 4) rfl rfl
theorem dX0_firstFallen_11 : decode cX0_firstFallen 11 = .ok (.iconst 0, 1) := zby_g zbyb_14 (i := 5) rfl rfl
theorem dX0_firstFallen_12 : decode cX0_firstFallen 12 = .ok (.istore_n 2, 1) := zby_g zbyb_14 (i := 6) rfl rfl
theorem dX0_firstFallen_13 : decode cX0_firstFallen 13 = .ok (.iload_n 2, 1) := zby_g zbyb_14 (i := 7) rfl rfl
theorem dX0_firstFallen_14 : decode cX0_firstFallen 14 = .ok (.bipush 100, 2) := zby_g zbyb_14 (i := 8) rfl rfl
theorem dX0_firstFallen_16 : decode cX0_firstFallen 16 = .ok (.if_icmp .gt 38, 3) := zby_g zbyb_14 (i := 9) rfl rfl
theorem dX0_firstFallen_19 : decode cX0_firstFallen 19 = .ok (.aload_n 0, 1) := zby_g zbyb_14 (i := 10) rfl rfl
theorem dX0_firstFallen_20 : decode cX0_firstFallen 20 = .ok (.getfield 12, 3) := zby_g zbyb_14 (i := 11) rfl rfl
theorem dX0_firstFallen_23 : decode cX0_firstFallen 23 = .ok (.getfield 66, 3) := zby_g zbyb_14 (i := 12) rfl rfl
theorem dX0_firstFallen_26 : decode cX0_firstFallen 26 = .ok (.iload_n 1, 1) := zby_g zbyb_14 (i := 13) rfl rfl
theorem dX0_firstFallen_27 : decode cX0_firstFallen 27 = .ok (.iaload, 1) := zby_g zbyb_14 (i := 14) rfl rfl
theorem dX0_firstFallen_28 : decode cX0_firstFallen 28 = .ok (.iconst 2, 1) := zby_g zbyb_14 (i := 15) rfl rfl
noncomputable def zbyl_15 : List (Nat × zbyE) := [(29, zbyo_160 5), (32, zbyo_28), (33, zbyo_172), (34, zbyo_42), (35, zbyo_180 12), (38, zbyo_42), (39, zbyo_180 21), (42, zbyo_3), (43, zbyo_1), (44, zbyo_182 37), (47, zbyo_87), (48, zbyo_132 2 1), (51, zbyo_167 (-38)), (54, zbyo_2), (55, zbyo_172)]
theorem zbyb_15 : zbys zbyl_15 (cX0_firstFallen.data.toList.drop 29) 29 = true := by decide +kernel
theorem dX0_firstFallen_29 : decode cX0_firstFallen 29 = .ok (.if_icmp .ne 5, 3) := zby_g zbyb_15 (i := 0) rfl rfl
theorem dX0_firstFallen_32 : decode cX0_firstFallen 32 = .ok (.iload_n 2, 1) := zby_g zbyb_15 (i := 1) rfl rfl
theorem dX0_firstFallen_33 : decode cX0_firstFallen 33 = .ok (.ireturn, 1) := zby_g zbyb_15 (i := 2) rfl rfl
theorem dX0_firstFallen_34 : decode cX0_firstFallen 34 = .ok (.aload_n 0, 1) := zby_g zbyb_15 (i := 3) rfl rfl
theorem dX0_firstFallen_35 : decode cX0_firstFallen 35 = .ok (.getfield 12, 3) := zby_g zbyb_15 (i := 4) rfl rfl
theorem dX0_firstFallen_38 : decode cX0_firstFallen 38 = .ok (.aload_n 0, 1) := zby_g zbyb_15 (i := 5) rfl rfl
theorem dX0_firstFallen_39 : decode cX0_firstFallen 39 = .ok (.getfield 21, 3) := zby_g zbyb_15 (i := 6) rfl rfl
theorem dX0_firstFallen_42 : decode cX0_firstFallen 42 = .ok (.iconst 0, 1) := zby_g zbyb_15 (i := 7) rfl rfl
theorem dX0_firstFallen_43 : decode cX0_firstFallen 43 = .ok (.aconst_null, 1) := zby_g zbyb_15 (i := 8) rfl rfl
theorem dX0_firstFallen_44 : decode cX0_firstFallen 44 = .ok (.invokevirtual 37, 3) := zby_g zbyb_15 (i := 9) rfl rfl
theorem dX0_firstFallen_47 : decode cX0_firstFallen 47 = .ok (.pop, 1) := zby_g zbyb_15 (i := 10) rfl rfl
theorem dX0_firstFallen_48 : decode cX0_firstFallen 48 = .ok (.iinc 2 1, 3) := zby_g zbyb_15 (i := 11) rfl rfl
theorem dX0_firstFallen_51 : decode cX0_firstFallen 51 = .ok (.goto (-38), 3) := zby_g zbyb_15 (i := 12) rfl rfl
theorem dX0_firstFallen_54 : decode cX0_firstFallen 54 = .ok (.iconst (-1), 1) := zby_g zbyb_15 (i := 13) rfl rfl
theorem dX0_firstFallen_55 : decode cX0_firstFallen 55 = .ok (.ireturn, 1) := zby_g zbyb_15 (i := 14) rfl rfl
noncomputable def zbyl_16 : List (Nat × zbyE) := [(0, zbyo_42), (1, zbyo_180 12), (4, zbyo_42), (5, zbyo_180 18), (8, zbyo_182 25), (11, zbyo_3), (12, zbyo_62), (13, zbyo_42), (14, zbyo_180 12), (17, zbyo_182 70), (20, zbyo_54 4), (22, zbyo_4), (23, zbyo_54 5), (25, zbyo_21 5), (27, zbyo_27), (28, zbyo_163 47)]
theorem zbyb_16 : zbys zbyl_16 (cX0_greatestPrice.data.toList.drop 0) 0 = true := by decide +kernel
theorem dX0_greatestPrice_0 : decode cX0_greatestPrice 0 = .ok (.aload_n 0, 1) := zby_g zbyb_16 (i := 0) rfl rfl
theorem dX0_greatestPrice_1 : decode cX0_greatestPrice 1 = .ok (.getfield 12, 3) := zby_g zbyb_16 (i := 1) rfl rfl
theorem dX0_greatestPrice_4 : decode cX0_greatestPrice 4 = .ok (.aload_n 0, 1) := zby_g zbyb_16 (i := 2) rfl rfl
theorem dX0_greatestPrice_5 : decode cX0_greatestPrice 5 = .ok (.getfield 18, 3) := zby_g zbyb_16 (i := 3) rfl rfl
theorem dX0_greatestPrice_8 : decode cX0_greatestPrice 8 = .ok (.invokevirtual 25, 3) := zby_g zbyb_16 (i := 4) rfl rfl
theorem dX0_greatestPrice_11 : decode cX0_greatestPrice 11 = .ok (.iconst 0, 1) := zby_g zbyb_16 (i := 5) rfl rfl
theorem dX0_greatestPrice_12 : decode cX0_greatestPrice 12 = .ok (.istore_n 3, 1) := zby_g zbyb_16 (i := 6) rfl rfl
theorem dX0_greatestPrice_13 : decode cX0_greatestPrice 13 = .ok (.aload_n 0, 1) := zby_g zbyb_16 (i := 7) rfl rfl
theorem dX0_greatestPrice_14 : decode cX0_greatestPrice 14 = .ok (.getfield 12, 3) := zby_g zbyb_16 (i := 8) rfl rfl
theorem dX0_greatestPrice_17 : decode cX0_greatestPrice 17 = .ok (.invokevirtual 70, 3) := zby_g zbyb_16 (i := 9) rfl rfl
theorem dX0_greatestPrice_20 : decode cX0_greatestPrice 20 = .ok (.istore 4, 2) := zby_g zbyb_16 (i := 10) rfl rfl
theorem dX0_greatestPrice_22 : decode cX0_greatestPrice 22 = .ok (.iconst 1, 1) := zby_g zbyb_16 (i := 11) rfl rfl
theorem dX0_greatestPrice_23 : decode cX0_greatestPrice 23 = .ok (.istore 5, 2) := zby_g zbyb_16 (i := 12) rfl rfl
theorem dX0_greatestPrice_25 : decode cX0_greatestPrice 25 = .ok (.iload 5, 2) := zby_g zbyb_16 (i := 13) rfl rfl
theorem dX0_greatestPrice_27 : decode cX0_greatestPrice 27 = .ok (.iload_n 1, 1) := zby_g zbyb_16 (i := 14) rfl rfl
theorem dX0_greatestPrice_28 : decode cX0_greatestPrice 28 = .ok (.if_icmp .gt 47, 3) := zby_g zbyb_16 (i := 15) rfl rfl
noncomputable def zbyl_17 : List (Nat × zbyE) := [(31, zbyo_42), (32, zbyo_180 12), (35, zbyo_42), (36, zbyo_180 21), (39, zbyo_3), (40, zbyo_1), (41, zbyo_182 37), (44, zbyo_87), (45, zbyo_42), (46, zbyo_180 12), (49, zbyo_182 70), (52, zbyo_21 4), (54, zbyo_164 15), (57, zbyo_42), (58, zbyo_180 12), (61, zbyo_182 70)]
theorem zbyb_17 : zbys zbyl_17 (cX0_greatestPrice.data.toList.drop 31) 31 = true := by decide +kernel
theorem dX0_greatestPrice_31 : decode cX0_greatestPrice 31 = .ok (.aload_n 0, 1) := zby_g zbyb_17 (i := 0) rfl rfl
theorem dX0_greatestPrice_32 : decode cX0_greatestPrice 32 = .ok (.getfield 12, 3) := zby_g zbyb_17 (i := 1) rfl rfl
theorem dX0_greatestPrice_35 : decode cX0_greatestPrice 35 = .ok (.aload_n 0, 1) := zby_g zbyb_17 (i := 2) rfl rfl
theorem dX0_greatestPrice_36 : decode cX0_greatestPrice 36 = .ok (.getfield 21, 3) := zby_g zbyb_17 (i := 3) rfl rfl
theorem dX0_greatestPrice_39 : decode cX0_greatestPrice 39 = .ok (.iconst 0, 1) := zby_g zbyb_17 (i := 4) rfl rfl
theorem dX0_greatestPrice_40 : decode cX0_greatestPrice 40 = .ok (.aconst_null, 1) := zby_g zbyb_17 (i := 5) rfl rfl
theorem dX0_greatestPrice_41 : decode cX0_greatestPrice 41 = .ok (.invokevirtual 37, 3) := zby_g zbyb_17 (i := 6) rfl rfl
theorem dX0_greatestPrice_44 : decode cX0_greatestPrice 44 = .ok (.pop, 1) := zby_g zbyb_17 (i := 7) rfl rfl
theorem dX0_greatestPrice_45 : decode cX0_greatestPrice 45 = .ok (.aload_n 0, 1) := zby_g zbyb_17 (i := 8) rfl rfl
theorem dX0_greatestPrice_46 : decode cX0_greatestPrice 46 = .ok (.getfield 12, 3) := zby_g zbyb_17 (i := 9) rfl rfl
theorem dX0_greatestPrice_49 : decode cX0_greatestPrice 49 = .ok (.invokevirtual 70, 3) := zby_g zbyb_17 (i := 10) rfl rfl
theorem dX0_greatestPrice_52 : decode cX0_greatestPrice 52 = .ok (.iload 4, 2) := zby_g zbyb_17 (i := 11) rfl rfl
theorem dX0_greatestPrice_54 : decode cX0_greatestPrice 54 = .ok (.if_icmp .le 15, 3) := zby_g zbyb_17 (i := 12) rfl rfl
theorem dX0_greatestPrice_57 : decode cX0_greatestPrice 57 = .ok (.aload_n 0, 1) := zby_g zbyb_17 (i := 13) rfl rfl
theorem dX0_greatestPrice_58 : decode cX0_greatestPrice 58 = .ok (.getfield 12, 3) := zby_g zbyb_17 (i := 14) rfl rfl
theorem dX0_greatestPrice_61 : decode cX0_greatestPrice 61 = .ok (.invokevirtual 70, 3) := zby_g zbyb_17 (i := 15) rfl rfl
noncomputable def zbyl_18 : List (Nat × zbyE) := [(64, zbyo_54 4), (66, zbyo_21 5), (68, zbyo_62), (69, zbyo_132 5 1), (72, zbyo_167 (-47)), (75, zbyo_28), (76, zbyo_153 8), (79, zbyo_21 4), (81, zbyo_167 4), (84, zbyo_29), (85, zbyo_172)]
theorem zbyb_18 : zbys zbyl_18 (cX0_greatestPrice.data.toList.drop 64) 64 = true := by decide +kernel
theorem dX0_greatestPrice_64 : decode cX0_greatestPrice 64 = .ok (.istore 4, 2) := zby_g zbyb_18 (i := 0) rfl rfl
theorem dX0_greatestPrice_66 : decode cX0_greatestPrice 66 = .ok (.iload 5, 2) := zby_g zbyb_18 (i := 1) rfl rfl
theorem dX0_greatestPrice_68 : decode cX0_greatestPrice 68 = .ok (.istore_n 3, 1) := zby_g zbyb_18 (i := 2) rfl rfl
theorem dX0_greatestPrice_69 : decode cX0_greatestPrice 69 = .ok (.iinc 5 1, 3) := zby_g zbyb_18 (i := 3) rfl rfl
theorem dX0_greatestPrice_72 : decode cX0_greatestPrice 72 = .ok (.goto (-47), 3) := zby_g zbyb_18 (i := 4) rfl rfl
theorem dX0_greatestPrice_75 : decode cX0_greatestPrice 75 = .ok (.iload_n 2, 1) := zby_g zbyb_18 (i := 5) rfl rfl
theorem dX0_greatestPrice_76 : decode cX0_greatestPrice 76 = .ok (.ifCond .eq 8, 3) := zby_g zbyb_18 (i := 6) rfl rfl
theorem dX0_greatestPrice_79 : decode cX0_greatestPrice 79 = .ok (.iload 4, 2) := zby_g zbyb_18 (i := 7) rfl rfl
theorem dX0_greatestPrice_81 : decode cX0_greatestPrice 81 = .ok (.goto 4, 3) := zby_g zbyb_18 (i := 8) rfl rfl
theorem dX0_greatestPrice_84 : decode cX0_greatestPrice 84 = .ok (.iload_n 3, 1) := zby_g zbyb_18 (i := 9) rfl rfl
theorem dX0_greatestPrice_85 : decode cX0_greatestPrice 85 = .ok (.ireturn, 1) := zby_g zbyb_18 (i := 10) rfl rfl
noncomputable def zbyl_19 : List (Nat × zbyE) := [(0, zbyo_42), (1, zbyo_180 12), (4, zbyo_42), (5, zbyo_180 18), (8, zbyo_182 25), (11, zbyo_42), (12, zbyo_180 12), (15, zbyo_27), (16, zbyo_181 73), (19, zbyo_3), (20, zbyo_62), (21, zbyo_29), (22, zbyo_28), (23, zbyo_162 23), (26, zbyo_42), (27, zbyo_180 12)]
theorem zbyb_19 : zbys zbyl_19 (cX0_tryOut.data.toList.drop 0) 0 = true := by decide +kernel
theorem dX0_tryOut_0 : decode cX0_tryOut 0 = .ok (.aload_n 0, 1) := zby_g zbyb_19 (i := 0) rfl rfl
theorem dX0_tryOut_1 : decode cX0_tryOut 1 = .ok (.getfield 12, 3) := zby_g zbyb_19 (i := 1) rfl rfl
theorem dX0_tryOut_4 : decode cX0_tryOut 4 = .ok (.aload_n 0, 1) := zby_g zbyb_19 (i := 2) rfl rfl
theorem dX0_tryOut_5 : decode cX0_tryOut 5 = .ok (.getfield 18, 3) := zby_g zbyb_19 (i := 3) rfl rfl
theorem dX0_tryOut_8 : decode cX0_tryOut 8 = .ok (.invokevirtual 25, 3) := zby_g zbyb_19 (i := 4) rfl rfl
theorem dX0_tryOut_11 : decode cX0_tryOut 11 = .ok (.aload_n 0, 1) := zby_g zbyb_19 (i := 5) rfl rfl
theorem dX0_tryOut_12 : decode cX0_tryOut 12 = .ok (.getfield 12, 3) := zby_g zbyb_19 (i := 6) rfl rfl
theorem dX0_tryOut_15 : decode cX0_tryOut 15 = .ok (.iload_n 1, 1) := zby_g zbyb_19 (i := 7) rfl rfl
theorem dX0_tryOut_16 : decode cX0_tryOut 16 = .ok (.putfield 73, 3) := zby_g zbyb_19 (i := 8) rfl rfl
theorem dX0_tryOut_19 : decode cX0_tryOut 19 = .ok (.iconst 0, 1) := zby_g zbyb_19 (i := 9) rfl rfl
theorem dX0_tryOut_20 : decode cX0_tryOut 20 = .ok (.istore_n 3, 1) := zby_g zbyb_19 (i := 10) rfl rfl
theorem dX0_tryOut_21 : decode cX0_tryOut 21 = .ok (.iload_n 3, 1) := zby_g zbyb_19 (i := 11) rfl rfl
theorem dX0_tryOut_22 : decode cX0_tryOut 22 = .ok (.iload_n 2, 1) := zby_g zbyb_19 (i := 12) rfl rfl
theorem dX0_tryOut_23 : decode cX0_tryOut 23 = .ok (.if_icmp .ge 23, 3) := zby_g zbyb_19 (i := 13) rfl rfl
theorem dX0_tryOut_26 : decode cX0_tryOut 26 = .ok (.aload_n 0, 1) := zby_g zbyb_19 (i := 14) rfl rfl
theorem dX0_tryOut_27 : decode cX0_tryOut 27 = .ok (.getfield 12, 3) := zby_g zbyb_19 (i := 15) rfl rfl
noncomputable def zbyl_20 : List (Nat × zbyE) := [(30, zbyo_42), (31, zbyo_180 21), (34, zbyo_4), (35, zbyo_1), (36, zbyo_182 37), (39, zbyo_87), (40, zbyo_132 3 1), (43, zbyo_167 (-22)), (46, zbyo_42), (47, zbyo_180 12), (50, zbyo_182 41), (53, zbyo_172)]
theorem zbyb_20 : zbys zbyl_20 (cX0_tryOut.data.toList.drop 30) 30 = true := by decide +kernel
theorem dX0_tryOut_30 : decode cX0_tryOut 30 = .ok (.aload_n 0, 1) := zby_g zbyb_20 (i := 0) rfl rfl
theorem dX0_tryOut_31 : decode cX0_tryOut 31 = .ok (.getfield 21, 3) := zby_g zbyb_20 (i := 1) rfl rfl
theorem dX0_tryOut_34 : decode cX0_tryOut 34 = .ok (.iconst 1, 1) := zby_g zbyb_20 (i := 2) rfl rfl
theorem dX0_tryOut_35 : decode cX0_tryOut 35 = .ok (.aconst_null, 1) := zby_g zbyb_20 (i := 3) rfl rfl
theorem dX0_tryOut_36 : decode cX0_tryOut 36 = .ok (.invokevirtual 37, 3) := zby_g zbyb_20 (i := 4) rfl rfl
theorem dX0_tryOut_39 : decode cX0_tryOut 39 = .ok (.pop, 1) := zby_g zbyb_20 (i := 5) rfl rfl
theorem dX0_tryOut_40 : decode cX0_tryOut 40 = .ok (.iinc 3 1, 3) := zby_g zbyb_20 (i := 6) rfl rfl
theorem dX0_tryOut_43 : decode cX0_tryOut 43 = .ok (.goto (-22), 3) := zby_g zbyb_20 (i := 7) rfl rfl
theorem dX0_tryOut_46 : decode cX0_tryOut 46 = .ok (.aload_n 0, 1) := zby_g zbyb_20 (i := 8) rfl rfl
theorem dX0_tryOut_47 : decode cX0_tryOut 47 = .ok (.getfield 12, 3) := zby_g zbyb_20 (i := 9) rfl rfl
theorem dX0_tryOut_50 : decode cX0_tryOut 50 = .ok (.invokevirtual 41, 3) := zby_g zbyb_20 (i := 10) rfl rfl
theorem dX0_tryOut_53 : decode cX0_tryOut 53 = .ok (.ireturn, 1) := zby_g zbyb_20 (i := 11) rfl rfl
noncomputable def zbyl_21 : List (Nat × zbyE) := [(0, zbyo_2), (1, zbyo_62), (2, zbyo_4), (3, zbyo_54 4), (5, zbyo_21 4), (7, zbyo_16 6), (9, zbyo_163 45), (12, zbyo_42), (13, zbyo_21 4), (15, zbyo_27), (16, zbyo_182 76), (19, zbyo_54 5), (21, zbyo_29), (22, zbyo_2), (23, zbyo_159 22), (26, zbyo_28)]
theorem zbyb_21 : zbys zbyl_21 (cX0_utmostOfSeeds.data.toList.drop 0) 0 = true := by decide +kernel
theorem dX0_utmostOfSeeds_0 : decode cX0_utmostOfSeeds 0 = .ok (.iconst (-1), 1) := zby_g zbyb_21 (i := 0) rfl rfl
theorem dX0_utmostOfSeeds_1 : decode cX0_utmostOfSeeds 1 = .ok (.istore_n 3, 1) := zby_g zbyb_21 (i := 1) rfl rfl
theorem dX0_utmostOfSeeds_2 : decode cX0_utmostOfSeeds 2 = .ok (.iconst 1, 1) := zby_g zbyb_21 (i := 2) rfl rfl
theorem dX0_utmostOfSeeds_3 : decode cX0_utmostOfSeeds 3 = .ok (.istore 4, 2) := zby_g zbyb_21 (i := 3) rfl rfl
theorem dX0_utmostOfSeeds_5 : decode cX0_utmostOfSeeds 5 = .ok (.iload 4, 2) := zby_g zbyb_21 (i := 4) rfl rfl
theorem dX0_utmostOfSeeds_7 : decode cX0_utmostOfSeeds 7 = .ok (.bipush 6, 2) := zby_g zbyb_21 (i := 5) rfl rfl
theorem dX0_utmostOfSeeds_9 : decode cX0_utmostOfSeeds 9 = .ok (.if_icmp .gt 45, 3) := zby_g zbyb_21 (i := 6) rfl rfl
theorem dX0_utmostOfSeeds_12 : decode cX0_utmostOfSeeds 12 = .ok (.aload_n 0, 1) := zby_g zbyb_21 (i := 7) rfl rfl
theorem dX0_utmostOfSeeds_13 : decode cX0_utmostOfSeeds 13 = .ok (.iload 4, 2) := zby_g zbyb_21 (i := 8) rfl rfl
theorem dX0_utmostOfSeeds_15 : decode cX0_utmostOfSeeds 15 = .ok (.iload_n 1, 1) := zby_g zbyb_21 (i := 9) rfl rfl
theorem dX0_utmostOfSeeds_16 : decode cX0_utmostOfSeeds 16 = .ok (.invokevirtual 76, 3) := zby_g zbyb_21 (i := 10) rfl rfl
theorem dX0_utmostOfSeeds_19 : decode cX0_utmostOfSeeds 19 = .ok (.istore 5, 2) := zby_g zbyb_21 (i := 11) rfl rfl
theorem dX0_utmostOfSeeds_21 : decode cX0_utmostOfSeeds 21 = .ok (.iload_n 3, 1) := zby_g zbyb_21 (i := 12) rfl rfl
theorem dX0_utmostOfSeeds_22 : decode cX0_utmostOfSeeds 22 = .ok (.iconst (-1), 1) := zby_g zbyb_21 (i := 13) rfl rfl
theorem dX0_utmostOfSeeds_23 : decode cX0_utmostOfSeeds 23 = .ok (.if_icmp .eq 22, 3) := zby_g zbyb_21 (i := 14) rfl rfl
theorem dX0_utmostOfSeeds_26 : decode cX0_utmostOfSeeds 26 = .ok (.iload_n 2, 1) := zby_g zbyb_21 (i := 15) rfl rfl
noncomputable def zbyl_22 : List (Nat × zbyE) := [(27, zbyo_153 12), (30, zbyo_21 5), (32, zbyo_29), (33, zbyo_164 15), (36, zbyo_167 9), (39, zbyo_21 5), (41, zbyo_29), (42, zbyo_162 6), (45, zbyo_21 5), (47, zbyo_62), (48, zbyo_132 4 1), (51, zbyo_167 (-46)), (54, zbyo_29), (55, zbyo_172)]
theorem zbyb_22 : zbys zbyl_22 (cX0_utmostOfSeeds.data.toList.drop 27) 27 = true := by decide +kernel
theorem dX0_utmostOfSeeds_27 : decode cX0_utmostOfSeeds 27 = .ok (.ifCond .eq 12, 3) := zby_g zbyb_22 (i := 0) rfl rfl
theorem dX0_utmostOfSeeds_30 : decode cX0_utmostOfSeeds 30 = .ok (.iload 5, 2) := zby_g zbyb_22 (i := 1) rfl rfl
theorem dX0_utmostOfSeeds_32 : decode cX0_utmostOfSeeds 32 = .ok (.iload_n 3, 1) := zby_g zbyb_22 (i := 2) rfl rfl
theorem dX0_utmostOfSeeds_33 : decode cX0_utmostOfSeeds 33 = .ok (.if_icmp .le 15, 3) := zby_g zbyb_22 (i := 3) rfl rfl
theorem dX0_utmostOfSeeds_36 : decode cX0_utmostOfSeeds 36 = .ok (.goto 9, 3) := zby_g zbyb_22 (i := 4) rfl rfl
theorem dX0_utmostOfSeeds_39 : decode cX0_utmostOfSeeds 39 = .ok (.iload 5, 2) := zby_g zbyb_22 (i := 5) rfl rfl
theorem dX0_utmostOfSeeds_41 : decode cX0_utmostOfSeeds 41 = .ok (.iload_n 3, 1) := zby_g zbyb_22 (i := 6) rfl rfl
theorem dX0_utmostOfSeeds_42 : decode cX0_utmostOfSeeds 42 = .ok (.if_icmp .ge 6, 3) := zby_g zbyb_22 (i := 7) rfl rfl
theorem dX0_utmostOfSeeds_45 : decode cX0_utmostOfSeeds 45 = .ok (.iload 5, 2) := zby_g zbyb_22 (i := 8) rfl rfl
theorem dX0_utmostOfSeeds_47 : decode cX0_utmostOfSeeds 47 = .ok (.istore_n 3, 1) := zby_g zbyb_22 (i := 9) rfl rfl
theorem dX0_utmostOfSeeds_48 : decode cX0_utmostOfSeeds 48 = .ok (.iinc 4 1, 3) := zby_g zbyb_22 (i := 10) rfl rfl
theorem dX0_utmostOfSeeds_51 : decode cX0_utmostOfSeeds 51 = .ok (.goto (-46), 3) := zby_g zbyb_22 (i := 11) rfl rfl
theorem dX0_utmostOfSeeds_54 : decode cX0_utmostOfSeeds 54 = .ok (.iload_n 3, 1) := zby_g zbyb_22 (i := 12) rfl rfl
theorem dX0_utmostOfSeeds_55 : decode cX0_utmostOfSeeds 55 = .ok (.ireturn, 1) := zby_g zbyb_22 (i := 13) rfl rfl
noncomputable def zbyl_23 : List (Nat × zbyE) := [(0, zbyo_42), (1, zbyo_183 3), (4, zbyo_42), (5, zbyo_17 400), (8, zbyo_188_10), (10, zbyo_181 9), (13, zbyo_42), (14, zbyo_2), (15, zbyo_181 15), (18, zbyo_177)]
theorem zbyb_23 : zbys zbyl_23 (cX1_init.data.toList.drop 0) 0 = true := by decide +kernel
theorem dX1_init_0 : decode cX1_init 0 = .ok (.aload_n 0, 1) := zby_g zbyb_23 (i := 0) rfl rfl
theorem dX1_init_1 : decode cX1_init 1 = .ok (.invokespecial 3, 3) := zby_g zbyb_23 (i := 1) rfl rfl
theorem dX1_init_4 : decode cX1_init 4 = .ok (.aload_n 0, 1) := zby_g zbyb_23 (i := 2) rfl rfl
theorem dX1_init_5 : decode cX1_init 5 = .ok (.sipush 400, 3) := zby_g zbyb_23 (i := 3) rfl rfl
theorem dX1_init_8 : decode cX1_init 8 = .ok (.newarray .int, 2) := zby_g zbyb_23 (i := 4) rfl rfl
theorem dX1_init_10 : decode cX1_init 10 = .ok (.putfield 9, 3) := zby_g zbyb_23 (i := 5) rfl rfl
theorem dX1_init_13 : decode cX1_init 13 = .ok (.aload_n 0, 1) := zby_g zbyb_23 (i := 6) rfl rfl
theorem dX1_init_14 : decode cX1_init 14 = .ok (.iconst (-1), 1) := zby_g zbyb_23 (i := 7) rfl rfl
theorem dX1_init_15 : decode cX1_init 15 = .ok (.putfield 15, 3) := zby_g zbyb_23 (i := 8) rfl rfl
theorem dX1_init_18 : decode cX1_init 18 = .ok (.return_, 1) := zby_g zbyb_23 (i := 9) rfl rfl
noncomputable def zbyl_24 : List (Nat × zbyE) := [(0, zbyo_42), (1, zbyo_3), (2, zbyo_181 19), (5, zbyo_42), (6, zbyo_2), (7, zbyo_181 15), (10, zbyo_177)]
theorem zbyb_24 : zbys zbyl_24 (cX1_clear.data.toList.drop 0) 0 = true := by decide +kernel
theorem dX1_clear_0 : decode cX1_clear 0 = .ok (.aload_n 0, 1) := zby_g zbyb_24 (i := 0) rfl rfl
theorem dX1_clear_1 : decode cX1_clear 1 = .ok (.iconst 0, 1) := zby_g zbyb_24 (i := 1) rfl rfl
theorem dX1_clear_2 : decode cX1_clear 2 = .ok (.putfield 19, 3) := zby_g zbyb_24 (i := 2) rfl rfl
theorem dX1_clear_5 : decode cX1_clear 5 = .ok (.aload_n 0, 1) := zby_g zbyb_24 (i := 3) rfl rfl
theorem dX1_clear_6 : decode cX1_clear 6 = .ok (.iconst (-1), 1) := zby_g zbyb_24 (i := 4) rfl rfl
theorem dX1_clear_7 : decode cX1_clear 7 = .ok (.putfield 15, 3) := zby_g zbyb_24 (i := 5) rfl rfl
theorem dX1_clear_10 : decode cX1_clear 10 = .ok (.return_, 1) := zby_g zbyb_24 (i := 6) rfl rfl
noncomputable def zbyl_25 : List (Nat × zbyE) := [(0, zbyo_43), (1, zbyo_180 9), (4, zbyo_3), (5, zbyo_42), (6, zbyo_180 9), (9, zbyo_3), (10, zbyo_17 400), (13, zbyo_184 22), (16, zbyo_42), (17, zbyo_43), (18, zbyo_180 19), (21, zbyo_181 19), (24, zbyo_42), (25, zbyo_43), (26, zbyo_180 15), (29, zbyo_181 15)]
theorem zbyb_25 : zbys zbyl_25 (cX1_copyFrom.data.toList.drop 0) 0 = true := by decide +kernel
theorem dX1_copyFrom_0 : decode cX1_copyFrom 0 = .ok (.aload_n 1, 1) := zby_g zbyb_25 (i := 0) rfl rfl
theorem dX1_copyFrom_1 : decode cX1_copyFrom 1 = .ok (.getfield 9, 3) := zby_g zbyb_25 (i := 1) rfl rfl
theorem dX1_copyFrom_4 : decode cX1_copyFrom 4 = .ok (.iconst 0, 1) := zby_g zbyb_25 (i := 2) rfl rfl
theorem dX1_copyFrom_5 : decode cX1_copyFrom 5 = .ok (.aload_n 0, 1) := zby_g zbyb_25 (i := 3) rfl rfl
theorem dX1_copyFrom_6 : decode cX1_copyFrom 6 = .ok (.getfield 9, 3) := zby_g zbyb_25 (i := 4) rfl rfl
theorem dX1_copyFrom_9 : decode cX1_copyFrom 9 = .ok (.iconst 0, 1) := zby_g zbyb_25 (i := 5) rfl rfl
theorem dX1_copyFrom_10 : decode cX1_copyFrom 10 = .ok (.sipush 400, 3) := zby_g zbyb_25 (i := 6) rfl rfl
theorem dX1_copyFrom_13 : decode cX1_copyFrom 13 = .ok (.invokestatic 22, 3) := zby_g zbyb_25 (i := 7) rfl rfl
theorem dX1_copyFrom_16 : decode cX1_copyFrom 16 = .ok (.aload_n 0, 1) := zby_g zbyb_25 (i := 8) rfl rfl
theorem dX1_copyFrom_17 : decode cX1_copyFrom 17 = .ok (.aload_n 1, 1) := zby_g zbyb_25 (i := 9) rfl rfl
theorem dX1_copyFrom_18 : decode cX1_copyFrom 18 = .ok (.getfield 19, 3) := zby_g zbyb_25 (i := 10) rfl rfl
theorem dX1_copyFrom_21 : decode cX1_copyFrom 21 = .ok (.putfield 19, 3) := zby_g zbyb_25 (i := 11) rfl rfl
theorem dX1_copyFrom_24 : decode cX1_copyFrom 24 = .ok (.aload_n 0, 1) := zby_g zbyb_25 (i := 12) rfl rfl
theorem dX1_copyFrom_25 : decode cX1_copyFrom 25 = .ok (.aload_n 1, 1) := zby_g zbyb_25 (i := 13) rfl rfl
theorem dX1_copyFrom_26 : decode cX1_copyFrom 26 = .ok (.getfield 15, 3) := zby_g zbyb_25 (i := 14) rfl rfl
theorem dX1_copyFrom_29 : decode cX1_copyFrom 29 = .ok (.putfield 15, 3) := zby_g zbyb_25 (i := 15) rfl rfl
noncomputable def zbyl_26 : List (Nat × zbyE) := [(32, zbyo_177)]
theorem zbyb_26 : zbys zbyl_26 (cX1_copyFrom.data.toList.drop 32) 32 = true := by decide +kernel
theorem dX1_copyFrom_32 : decode cX1_copyFrom 32 = .ok (.return_, 1) := zby_g zbyb_26 (i := 0) rfl rfl
noncomputable def zbyl_27 : List (Nat × zbyE) := [(0, zbyo_42), (1, zbyo_180 19), (4, zbyo_17 400), (7, zbyo_161 5), (10, zbyo_2), (11, zbyo_172), (12, zbyo_42), (13, zbyo_180 9), (16, zbyo_42), (17, zbyo_180 19), (20, zbyo_27), (21, zbyo_16 32), (23, zbyo_28), (24, zbyo_104), (25, zbyo_96), (26, zbyo_79)]
theorem zbyb_27 : zbys zbyl_27 (cX1_put.data.toList.drop 0) 0 = true := by decide +kernel
theorem dX1_put_0 : decode cX1_put 0 = .ok (.aload_n 0, 1) := zby_g zbyb_27 (i := 0) rfl rfl
theorem dX1_put_1 : decode cX1_put 1 = .ok (.getfield 19, 3) := zby_g zbyb_27 (i := 1) rfl rfl
theorem dX1_put_4 : decode cX1_put 4 = .ok (.sipush 400, 3) := zby_g zbyb_27 (i := 2) rfl rfl
theorem dX1_put_7 : decode cX1_put 7 = .ok (.if_icmp .lt 5, 3) := zby_g zbyb_27 (i := 3) rfl rfl
theorem dX1_put_10 : decode cX1_put 10 = .ok (.iconst (-1), 1) := zby_g zbyb_27 (i := 4) rfl rfl
theorem dX1_put_11 : decode cX1_put 11 = .ok (.ireturn, 1) := zby_g zbyb_27 (i := 5) rfl rfl
theorem dX1_put_12 : decode cX1_put 12 = .ok (.aload_n 0, 1) := zby_g zbyb_27 (i := 6) rfl rfl
theorem dX1_put_13 : decode cX1_put 13 = .ok (.getfield 9, 3) := zby_g zbyb_27 (i := 7) rfl rfl
theorem dX1_put_16 : decode cX1_put 16 = .ok (.aload_n 0, 1) := zby_g zbyb_27 (i := 8) rfl rfl
theorem dX1_put_17 : decode cX1_put 17 = .ok (.getfield 19, 3) := zby_g zbyb_27 (i := 9) rfl rfl
theorem dX1_put_20 : decode cX1_put 20 = .ok (.iload_n 1, 1) := zby_g zbyb_27 (i := 10) rfl rfl
theorem dX1_put_21 : decode cX1_put 21 = .ok (.bipush 32, 2) := zby_g zbyb_27 (i := 11) rfl rfl
theorem dX1_put_23 : decode cX1_put 23 = .ok (.iload_n 2, 1) := zby_g zbyb_27 (i := 12) rfl rfl
theorem dX1_put_24 : decode cX1_put 24 = .ok (.imul, 1) := zby_g zbyb_27 (i := 13) rfl rfl
theorem dX1_put_25 : decode cX1_put 25 = .ok (.iadd, 1) := zby_g zbyb_27 (i := 14) rfl rfl
theorem dX1_put_26 : decode cX1_put 26 = .ok (.iastore, 1) := zby_g zbyb_27 (i := 15) rfl rfl
noncomputable def zbyl_28 : List (Nat × zbyE) := [(27, zbyo_42), (28, zbyo_89), (29, zbyo_180 19), (32, zbyo_4), (33, zbyo_96), (34, zbyo_181 19), (37, zbyo_42), (38, zbyo_180 19), (41, zbyo_4), (42, zbyo_100), (43, zbyo_172)]
theorem zbyb_28 : zbys zbyl_28 (cX1_put.data.toList.drop 27) 27 = true := by decide +kernel
theorem dX1_put_27 : decode cX1_put 27 = .ok (.aload_n 0, 1) := zby_g zbyb_28 (i := 0) rfl rfl
theorem dX1_put_28 : decode cX1_put 28 = .ok (.dup, 1) := zby_g zbyb_28 (i := 1) rfl rfl
theorem dX1_put_29 : decode cX1_put 29 = .ok (.getfield 19, 3) := zby_g zbyb_28 (i := 2) rfl rfl
theorem dX1_put_32 : decode cX1_put 32 = .ok (.iconst 1, 1) := zby_g zbyb_28 (i := 3) rfl rfl
theorem dX1_put_33 : decode cX1_put 33 = .ok (.iadd, 1) := zby_g zbyb_28 (i := 4) rfl rfl
theorem dX1_put_34 : decode cX1_put 34 = .ok (.putfield 19, 3) := zby_g zbyb_28 (i := 5) rfl rfl
theorem dX1_put_37 : decode cX1_put 37 = .ok (.aload_n 0, 1) := zby_g zbyb_28 (i := 6) rfl rfl
theorem dX1_put_38 : decode cX1_put 38 = .ok (.getfield 19, 3) := zby_g zbyb_28 (i := 7) rfl rfl
theorem dX1_put_41 : decode cX1_put 41 = .ok (.iconst 1, 1) := zby_g zbyb_28 (i := 8) rfl rfl
theorem dX1_put_42 : decode cX1_put 42 = .ok (.isub, 1) := zby_g zbyb_28 (i := 9) rfl rfl
theorem dX1_put_43 : decode cX1_put 43 = .ok (.ireturn, 1) := zby_g zbyb_28 (i := 10) rfl rfl
noncomputable def zbyl_29 : List (Nat × zbyE) := [(0, zbyo_27), (1, zbyo_155 34), (4, zbyo_27), (5, zbyo_42), (6, zbyo_180 19), (9, zbyo_162 26), (12, zbyo_42), (13, zbyo_180 9), (16, zbyo_27), (17, zbyo_42), (18, zbyo_180 9), (21, zbyo_27), (22, zbyo_46), (23, zbyo_16 32), (25, zbyo_112), (26, zbyo_16 32)]
theorem zbyb_29 : zbys zbyl_29 (cX1_aim.data.toList.drop 0) 0 = true := by decide +kernel
theorem dX1_aim_0 : decode cX1_aim 0 = .ok (.iload_n 1, 1) := zby_g zbyb_29 (i := 0) rfl rfl
theorem dX1_aim_1 : decode cX1_aim 1 = .ok (.ifCond .lt 34, 3) := zby_g zbyb_29 (i := 1) rfl rfl
theorem dX1_aim_4 : decode cX1_aim 4 = .ok (.iload_n 1, 1) := zby_g zbyb_29 (i := 2) rfl rfl
theorem dX1_aim_5 : decode cX1_aim 5 = .ok (.aload_n 0, 1) := zby_g zbyb_29 (i := 3) rfl rfl
theorem dX1_aim_6 : decode cX1_aim 6 = .ok (.getfield 19, 3) := zby_g zbyb_29 (i := 4) rfl rfl
theorem dX1_aim_9 : decode cX1_aim 9 = .ok (.if_icmp .ge 26, 3) := zby_g zbyb_29 (i := 5) rfl rfl
theorem dX1_aim_12 : decode cX1_aim 12 = .ok (.aload_n 0, 1) := zby_g zbyb_29 (i := 6) rfl rfl
theorem dX1_aim_13 : decode cX1_aim 13 = .ok (.getfield 9, 3) := zby_g zbyb_29 (i := 7) rfl rfl
theorem dX1_aim_16 : decode cX1_aim 16 = .ok (.iload_n 1, 1) := zby_g zbyb_29 (i := 8) rfl rfl
theorem dX1_aim_17 : decode cX1_aim 17 = .ok (.aload_n 0, 1) := zby_g zbyb_29 (i := 9) rfl rfl
theorem dX1_aim_18 : decode cX1_aim 18 = .ok (.getfield 9, 3) := zby_g zbyb_29 (i := 10) rfl rfl
theorem dX1_aim_21 : decode cX1_aim 21 = .ok (.iload_n 1, 1) := zby_g zbyb_29 (i := 11) rfl rfl
theorem dX1_aim_22 : decode cX1_aim 22 = .ok (.iaload, 1) := zby_g zbyb_29 (i := 12) rfl rfl
theorem dX1_aim_23 : decode cX1_aim 23 = .ok (.bipush 32, 2) := zby_g zbyb_29 (i := 13) rfl rfl
theorem dX1_aim_25 : decode cX1_aim 25 = .ok (.irem, 1) := zby_g zbyb_29 (i := 14) rfl rfl
theorem dX1_aim_26 : decode cX1_aim 26 = .ok (.bipush 32, 2) := zby_g zbyb_29 (i := 15) rfl rfl
noncomputable def zbyl_30 : List (Nat × zbyE) := [(28, zbyo_42), (29, zbyo_180 19), (32, zbyo_104), (33, zbyo_96), (34, zbyo_79), (35, zbyo_177)]
theorem zbyb_30 : zbys zbyl_30 (cX1_aim.data.toList.drop 28) 28 = true := by decide +kernel
theorem dX1_aim_28 : decode cX1_aim 28 = .ok (.aload_n 0, 1) := zby_g zbyb_30 (i := 0) rfl rfl
theorem dX1_aim_29 : decode cX1_aim 29 = .ok (.getfield 19, 3) := zby_g zbyb_30 (i := 1) rfl rfl
theorem dX1_aim_32 : decode cX1_aim 32 = .ok (.imul, 1) := zby_g zbyb_30 (i := 2) rfl rfl
theorem dX1_aim_33 : decode cX1_aim 33 = .ok (.iadd, 1) := zby_g zbyb_30 (i := 3) rfl rfl
theorem dX1_aim_34 : decode cX1_aim 34 = .ok (.iastore, 1) := zby_g zbyb_30 (i := 4) rfl rfl
theorem dX1_aim_35 : decode cX1_aim 35 = .ok (.return_, 1) := zby_g zbyb_30 (i := 5) rfl rfl
noncomputable def zbyl_31 : List (Nat × zbyE) := [(0, zbyo_42), (1, zbyo_27), (2, zbyo_181 28), (5, zbyo_42), (6, zbyo_28), (7, zbyo_181 31), (10, zbyo_42), (11, zbyo_29), (12, zbyo_181 34), (15, zbyo_177)]
theorem zbyb_31 : zbys zbyl_31 (cX1_look.data.toList.drop 0) 0 = true := by decide +kernel
theorem dX1_look_0 : decode cX1_look 0 = .ok (.aload_n 0, 1) := zby_g zbyb_31 (i := 0) rfl rfl
theorem dX1_look_1 : decode cX1_look 1 = .ok (.iload_n 1, 1) := zby_g zbyb_31 (i := 1) rfl rfl
theorem dX1_look_2 : decode cX1_look 2 = .ok (.putfield 28, 3) := zby_g zbyb_31 (i := 2) rfl rfl
theorem dX1_look_5 : decode cX1_look 5 = .ok (.aload_n 0, 1) := zby_g zbyb_31 (i := 3) rfl rfl
theorem dX1_look_6 : decode cX1_look 6 = .ok (.iload_n 2, 1) := zby_g zbyb_31 (i := 4) rfl rfl
theorem dX1_look_7 : decode cX1_look 7 = .ok (.putfield 31, 3) := zby_g zbyb_31 (i := 5) rfl rfl
theorem dX1_look_10 : decode cX1_look 10 = .ok (.aload_n 0, 1) := zby_g zbyb_31 (i := 6) rfl rfl
theorem dX1_look_11 : decode cX1_look 11 = .ok (.iload_n 3, 1) := zby_g zbyb_31 (i := 7) rfl rfl
theorem dX1_look_12 : decode cX1_look 12 = .ok (.putfield 34, 3) := zby_g zbyb_31 (i := 8) rfl rfl
theorem dX1_look_15 : decode cX1_look 15 = .ok (.return_, 1) := zby_g zbyb_31 (i := 9) rfl rfl
noncomputable def zbyl_32 : List (Nat × zbyE) := [(0, zbyo_42), (1, zbyo_180 15), (4, zbyo_2), (5, zbyo_160 18), (8, zbyo_43), (9, zbyo_180 37), (12, zbyo_28), (13, zbyo_51), (14, zbyo_153 7), (17, zbyo_2), (18, zbyo_167 4), (21, zbyo_3), (22, zbyo_172), (23, zbyo_3), (24, zbyo_62), (25, zbyo_3)]
theorem zbyb_32 : zbys zbyl_32 (cX1_turnsOf.data.toList.drop 0) 0 = true := by decide +kernel
theorem dX1_turnsOf_0 : decode cX1_turnsOf 0 = .ok (.aload_n 0, 1) := zby_g zbyb_32 (i := 0) rfl rfl
theorem dX1_turnsOf_1 : decode cX1_turnsOf 1 = .ok (.getfield 15, 3) := zby_g zbyb_32 (i := 1) rfl rfl
theorem dX1_turnsOf_4 : decode cX1_turnsOf 4 = .ok (.iconst (-1), 1) := zby_g zbyb_32 (i := 2) rfl rfl
theorem dX1_turnsOf_5 : decode cX1_turnsOf 5 = .ok (.if_icmp .ne 18, 3) := zby_g zbyb_32 (i := 3) rfl rfl
theorem dX1_turnsOf_8 : decode cX1_turnsOf 8 = .ok (.aload_n 1, 1) := zby_g zbyb_32 (i := 4) rfl rfl
theorem dX1_turnsOf_9 : decode cX1_turnsOf 9 = .ok (.getfield 37, 3) := zby_g zbyb_32 (i := 5) rfl rfl
theorem dX1_turnsOf_12 : decode cX1_turnsOf 12 = .ok (.iload_n 2, 1) := zby_g zbyb_32 (i := 6) rfl rfl
theorem dX1_turnsOf_13 : decode cX1_turnsOf 13 = .ok (.baload, 1) := zby_g zbyb_32 (i := 7) rfl rfl
theorem dX1_turnsOf_14 : decode cX1_turnsOf 14 = .ok (.ifCond .eq 7, 3) := zby_g zbyb_32 (i := 8) rfl rfl
theorem dX1_turnsOf_17 : decode cX1_turnsOf 17 = .ok (.iconst (-1), 1) := zby_g zbyb_32 (i := 9) rfl rfl
theorem dX1_turnsOf_18 : decode cX1_turnsOf 18 = .ok (.goto 4, 3) := zby_g zbyb_32 (i := 10) rfl rfl
theorem dX1_turnsOf_21 : decode cX1_turnsOf 21 = .ok (.iconst 0, 1) := zby_g zbyb_32 (i := 11) rfl rfl
theorem dX1_turnsOf_22 : decode cX1_turnsOf 22 = .ok (.ireturn, 1) := zby_g zbyb_32 (i := 12) rfl rfl
theorem dX1_turnsOf_23 : decode cX1_turnsOf 23 = .ok (.iconst 0, 1) := zby_g zbyb_32 (i := 13) rfl rfl
theorem dX1_turnsOf_24 : decode cX1_turnsOf 24 = .ok (.istore_n 3, 1) := zby_g zbyb_32 (i := 14) rfl rfl
theorem dX1_turnsOf_25 : decode cX1_turnsOf 25 = .ok (.iconst 0, 1) := zby_g zbyb_32 (i := 15) rfl rfl
noncomputable def zbyl_33 : List (Nat × zbyE) := [(26, zbyo_54 4), (28, zbyo_3), (29, zbyo_54 5), (31, zbyo_4), (32, zbyo_54 6), (34, zbyo_3), (35, zbyo_54 7), (37, zbyo_21 7), (39, zbyo_42), (40, zbyo_180 19), (43, zbyo_162 325), (46, zbyo_42), (47, zbyo_180 9), (50, zbyo_21 7), (52, zbyo_46), (53, zbyo_16 32)]
theorem zbyb_33 : zbys zbyl_33 (cX1_turnsOf.data.toList.drop 26) 26 = true := by decide +kernel
theorem dX1_turnsOf_26 : decode cX1_turnsOf 26 = .ok (.istore 4, 2) := zby_g zbyb_33 (i := 0) rfl rfl
theorem dX1_turnsOf_28 : decode cX1_turnsOf 28 = .ok (.iconst 0, 1) := zby_g zbyb_33 (i := 1) rfl rfl
theorem dX1_turnsOf_29 : decode cX1_turnsOf 29 = .ok (.istore 5, 2) := zby_g zbyb_33 (i := 2) rfl rfl
theorem dX1_turnsOf_31 : decode cX1_turnsOf 31 = .ok (.iconst 1, 1) := zby_g zbyb_33 (i := 3) rfl rfl
theorem dX1_turnsOf_32 : decode cX1_turnsOf 32 = .ok (.istore 6, 2) := zby_g zbyb_33 (i := 4) rfl rfl
theorem dX1_turnsOf_34 : decode cX1_turnsOf 34 = .ok (.iconst 0, 1) := zby_g zbyb_33 (i := 5) rfl rfl
theorem dX1_turnsOf_35 : decode cX1_turnsOf 35 = .ok (.istore 7, 2) := zby_g zbyb_33 (i := 6) rfl rfl
theorem dX1_turnsOf_37 : decode cX1_turnsOf 37 = .ok (.iload 7, 2) := zby_g zbyb_33 (i := 7) rfl rfl
theorem dX1_turnsOf_39 : decode cX1_turnsOf 39 = .ok (.aload_n 0, 1) := zby_g zbyb_33 (i := 8) rfl rfl
theorem dX1_turnsOf_40 : decode cX1_turnsOf 40 = .ok (.getfield 19, 3) := zby_g zbyb_33 (i := 9) rfl rfl
theorem dX1_turnsOf_43 : decode cX1_turnsOf 43 = .ok (.if_icmp .ge 325, 3) := zby_g zbyb_33 (i := 10) rfl rfl
theorem dX1_turnsOf_46 : decode cX1_turnsOf 46 = .ok (.aload_n 0, 1) := zby_g zbyb_33 (i := 11) rfl rfl
theorem dX1_turnsOf_47 : decode cX1_turnsOf 47 = .ok (.getfield 9, 3) := zby_g zbyb_33 (i := 12) rfl rfl
theorem dX1_turnsOf_50 : decode cX1_turnsOf 50 = .ok (.iload 7, 2) := zby_g zbyb_33 (i := 13) rfl rfl
theorem dX1_turnsOf_52 : decode cX1_turnsOf 52 = .ok (.iaload, 1) := zby_g zbyb_33 (i := 14) rfl rfl
theorem dX1_turnsOf_53 : decode cX1_turnsOf 53 = .ok (.bipush 32, 2) := zby_g zbyb_33 (i := 15) rfl rfl
noncomputable def zbyl_34 : List (Nat × zbyE) := [(55, zbyo_108), (56, zbyo_54 8), (58, zbyo_42), (59, zbyo_180 9), (62, zbyo_21 7), (64, zbyo_46), (65, zbyo_16 32), (67, zbyo_112), (68, zbyo_54 9), (70, zbyo_21 9)]
theorem zbyb_34 : zbys zbyl_34 (cX1_turnsOf.data.toList.drop 55) 55 = true := by decide +kernel
theorem dX1_turnsOf_55 : decode cX1_turnsOf 55 = .ok (.idiv, 1) := zby_g zbyb_34 (i := 0) rfl rfl
theorem dX1_turnsOf_56 : decode cX1_turnsOf 56 = .ok (.istore 8, 2) := zby_g zbyb_34 (i := 1) rfl rfl
theorem dX1_turnsOf_58 : decode cX1_turnsOf 58 = .ok (.aload_n 0, 1) := zby_g zbyb_34 (i := 2) rfl rfl
theorem dX1_turnsOf_59 : decode cX1_turnsOf 59 = .ok (.getfield 9, 3) := zby_g zbyb_34 (i := 3) rfl rfl
theorem dX1_turnsOf_62 : decode cX1_turnsOf 62 = .ok (.iload 7, 2) := zby_g zbyb_34 (i := 4) rfl rfl
theorem dX1_turnsOf_64 : decode cX1_turnsOf 64 = .ok (.iaload, 1) := zby_g zbyb_34 (i := 5) rfl rfl
theorem dX1_turnsOf_65 : decode cX1_turnsOf 65 = .ok (.bipush 32, 2) := zby_g zbyb_34 (i := 6) rfl rfl
theorem dX1_turnsOf_67 : decode cX1_turnsOf 67 = .ok (.irem, 1) := zby_g zbyb_34 (i := 7) rfl rfl
theorem dX1_turnsOf_68 : decode cX1_turnsOf 68 = .ok (.istore 9, 2) := zby_g zbyb_34 (i := 8) rfl rfl
theorem dX1_turnsOf_70 : decode cX1_turnsOf 70 = .ok (.iload 9, 2) := zby_g zbyb_34 (i := 9) rfl rfl
theorem dX1_turnsOf_72 : decode cX1_turnsOf 72 = .ok (.tableswitch 277 0 16 #[84, 277, 277, 277, 277, 277, 277, 94, 104, 124, 144, 155, 174, 189, 213, 237, 257], 84) := by decide +kernel
noncomputable def zbyl_35 : List (Nat × zbyE) := [(156, zbyo_21 5), (158, zbyo_21 8), (160, zbyo_96), (161, zbyo_54 5), (163, zbyo_167 199), (166, zbyo_21 5), (168, zbyo_54 4), (170, zbyo_3), (171, zbyo_54 5), (173, zbyo_167 189), (176, zbyo_21 4), (178, zbyo_21 5), (180, zbyo_162 7), (183, zbyo_4), (184, zbyo_167 4), (187, zbyo_3)]
theorem zbyb_35 : zbys zbyl_35 (cX1_turnsOf.data.toList.drop 156) 156 = true := by decide +kernel
theorem dX1_turnsOf_156 : decode cX1_turnsOf 156 = .ok (.iload 5, 2) := zby_g zbyb_35 (i := 0) rfl rfl
theorem dX1_turnsOf_158 : decode cX1_turnsOf 158 = .ok (.iload 8, 2) := zby_g zbyb_35 (i := 1) rfl rfl
theorem dX1_turnsOf_160 : decode cX1_turnsOf 160 = .ok (.iadd, 1) := zby_g zbyb_35 (i := 2) rfl rfl
theorem dX1_turnsOf_161 : decode cX1_turnsOf 161 = .ok (.istore 5, 2) := zby_g zbyb_35 (i := 3) rfl rfl
theorem dX1_turnsOf_163 : decode cX1_turnsOf 163 = .ok (.goto 199, 3) := zby_g zbyb_35 (i := 4) rfl rfl
theorem dX1_turnsOf_166 : decode cX1_turnsOf 166 = .ok (.iload 5, 2) := zby_g zbyb_35 (i := 5) rfl rfl
theorem dX1_turnsOf_168 : decode cX1_turnsOf 168 = .ok (.istore 4, 2) := zby_g zbyb_35 (i := 6) rfl rfl
theorem dX1_turnsOf_170 : decode cX1_turnsOf 170 = .ok (.iconst 0, 1) := zby_g zbyb_35 (i := 7) rfl rfl
theorem dX1_turnsOf_171 : decode cX1_turnsOf 171 = .ok (.istore 5, 2) := zby_g zbyb_35 (i := 8) rfl rfl
theorem dX1_turnsOf_173 : decode cX1_turnsOf 173 = .ok (.goto 189, 3) := zby_g zbyb_35 (i := 9) rfl rfl
theorem dX1_turnsOf_176 : decode cX1_turnsOf 176 = .ok (.iload 4, 2) := zby_g zbyb_35 (i := 10) rfl rfl
theorem dX1_turnsOf_178 : decode cX1_turnsOf 178 = .ok (.iload 5, 2) := zby_g zbyb_35 (i := 11) rfl rfl
theorem dX1_turnsOf_180 : decode cX1_turnsOf 180 = .ok (.if_icmp .ge 7, 3) := zby_g zbyb_35 (i := 12) rfl rfl
theorem dX1_turnsOf_183 : decode cX1_turnsOf 183 = .ok (.iconst 1, 1) := zby_g zbyb_35 (i := 13) rfl rfl
theorem dX1_turnsOf_184 : decode cX1_turnsOf 184 = .ok (.goto 4, 3) := zby_g zbyb_35 (i := 14) rfl rfl
theorem dX1_turnsOf_187 : decode cX1_turnsOf 187 = .ok (.iconst 0, 1) := zby_g zbyb_35 (i := 15) rfl rfl
noncomputable def zbyl_36 : List (Nat × zbyE) := [(188, zbyo_54 6), (190, zbyo_3), (191, zbyo_54 5), (193, zbyo_167 169), (196, zbyo_21 4), (198, zbyo_21 5), (200, zbyo_164 7), (203, zbyo_4), (204, zbyo_167 4), (207, zbyo_3), (208, zbyo_54 6), (210, zbyo_3), (211, zbyo_54 5), (213, zbyo_167 149), (216, zbyo_43), (217, zbyo_180 37)]
theorem zbyb_36 : zbys zbyl_36 (cX1_turnsOf.data.toList.drop 188) 188 = true := by decide +kernel
theorem dX1_turnsOf_188 : decode cX1_turnsOf 188 = .ok (.istore 6, 2) := zby_g zbyb_36 (i := 0) rfl rfl
theorem dX1_turnsOf_190 : decode cX1_turnsOf 190 = .ok (.iconst 0, 1) := zby_g zbyb_36 (i := 1) rfl rfl
theorem dX1_turnsOf_191 : decode cX1_turnsOf 191 = .ok (.istore 5, 2) := zby_g zbyb_36 (i := 2) rfl rfl
theorem dX1_turnsOf_193 : decode cX1_turnsOf 193 = .ok (.goto 169, 3) := zby_g zbyb_36 (i := 3) rfl rfl
theorem dX1_turnsOf_196 : decode cX1_turnsOf 196 = .ok (.iload 4, 2) := zby_g zbyb_36 (i := 4) rfl rfl
theorem dX1_turnsOf_198 : decode cX1_turnsOf 198 = .ok (.iload 5, 2) := zby_g zbyb_36 (i := 5) rfl rfl
theorem dX1_turnsOf_200 : decode cX1_turnsOf 200 = .ok (.if_icmp .le 7, 3) := zby_g zbyb_36 (i := 6) rfl rfl
theorem dX1_turnsOf_203 : decode cX1_turnsOf 203 = .ok (.iconst 1, 1) := zby_g zbyb_36 (i := 7) rfl rfl
theorem dX1_turnsOf_204 : decode cX1_turnsOf 204 = .ok (.goto 4, 3) := zby_g zbyb_36 (i := 8) rfl rfl
theorem dX1_turnsOf_207 : decode cX1_turnsOf 207 = .ok (.iconst 0, 1) := zby_g zbyb_36 (i := 9) rfl rfl
theorem dX1_turnsOf_208 : decode cX1_turnsOf 208 = .ok (.istore 6, 2) := zby_g zbyb_36 (i := 10) rfl rfl
theorem dX1_turnsOf_210 : decode cX1_turnsOf 210 = .ok (.iconst 0, 1) := zby_g zbyb_36 (i := 11) rfl rfl
theorem dX1_turnsOf_211 : decode cX1_turnsOf 211 = .ok (.istore 5, 2) := zby_g zbyb_36 (i := 12) rfl rfl
theorem dX1_turnsOf_213 : decode cX1_turnsOf 213 = .ok (.goto 149, 3) := zby_g zbyb_36 (i := 13) rfl rfl
theorem dX1_turnsOf_216 : decode cX1_turnsOf 216 = .ok (.aload_n 1, 1) := zby_g zbyb_36 (i := 14) rfl rfl
theorem dX1_turnsOf_217 : decode cX1_turnsOf 217 = .ok (.getfield 37, 3) := zby_g zbyb_36 (i := 15) rfl rfl
noncomputable def zbyl_37 : List (Nat × zbyE) := [(220, zbyo_28), (221, zbyo_51), (222, zbyo_54 6), (224, zbyo_167 138), (227, zbyo_43), (228, zbyo_180 43), (231, zbyo_28), (232, zbyo_46), (233, zbyo_158 7), (236, zbyo_4), (237, zbyo_167 4), (240, zbyo_3), (241, zbyo_54 6), (243, zbyo_167 119), (246, zbyo_21 6), (248, zbyo_154 7)]
theorem zbyb_37 : zbys zbyl_37 (cX1_turnsOf.data.toList.drop 220) 220 = true := by decide +kernel
theorem dX1_turnsOf_220 : decode cX1_turnsOf 220 = .ok (.iload_n 2, 1) := zby_g zbyb_37 (i := 0) rfl rfl
theorem dX1_turnsOf_221 : decode cX1_turnsOf 221 = .ok (.baload, 1) := zby_g zbyb_37 (i := 1) rfl rfl
theorem dX1_turnsOf_222 : decode cX1_turnsOf 222 = .ok (.istore 6, 2) := zby_g zbyb_37 (i := 2) rfl rfl
theorem dX1_turnsOf_224 : decode cX1_turnsOf 224 = .ok (.goto 138, 3) := zby_g zbyb_37 (i := 3) rfl rfl
theorem dX1_turnsOf_227 : decode cX1_turnsOf 227 = .ok (.aload_n 1, 1) := zby_g zbyb_37 (i := 4) rfl rfl
theorem dX1_turnsOf_228 : decode cX1_turnsOf 228 = .ok (.getfield 43, 3) := zby_g zbyb_37 (i := 5) rfl rfl
theorem dX1_turnsOf_231 : decode cX1_turnsOf 231 = .ok (.iload_n 2, 1) := zby_g zbyb_37 (i := 6) rfl rfl
theorem dX1_turnsOf_232 : decode cX1_turnsOf 232 = .ok (.iaload, 1) := zby_g zbyb_37 (i := 7) rfl rfl
theorem dX1_turnsOf_233 : decode cX1_turnsOf 233 = .ok (.ifCond .le 7, 3) := zby_g zbyb_37 (i := 8) rfl rfl
theorem dX1_turnsOf_236 : decode cX1_turnsOf 236 = .ok (.iconst 1, 1) := zby_g zbyb_37 (i := 9) rfl rfl
theorem dX1_turnsOf_237 : decode cX1_turnsOf 237 = .ok (.goto 4, 3) := zby_g zbyb_37 (i := 10) rfl rfl
theorem dX1_turnsOf_240 : decode cX1_turnsOf 240 = .ok (.iconst 0, 1) := zby_g zbyb_37 (i := 11) rfl rfl
theorem dX1_turnsOf_241 : decode cX1_turnsOf 241 = .ok (.istore 6, 2) := zby_g zbyb_37 (i := 12) rfl rfl
theorem dX1_turnsOf_243 : decode cX1_turnsOf 243 = .ok (.goto 119, 3) := zby_g zbyb_37 (i := 13) rfl rfl
theorem dX1_turnsOf_246 : decode cX1_turnsOf 246 = .ok (.iload 6, 2) := zby_g zbyb_37 (i := 14) rfl rfl
theorem dX1_turnsOf_248 : decode cX1_turnsOf 248 = .ok (.ifCond .ne 7, 3) := zby_g zbyb_37 (i := 15) rfl rfl
noncomputable def zbyl_38 : List (Nat × zbyE) := [(251, zbyo_4), (252, zbyo_167 4), (255, zbyo_3), (256, zbyo_54 6), (258, zbyo_167 104), (261, zbyo_21 6), (263, zbyo_153 8), (266, zbyo_21 7), (268, zbyo_167 12), (271, zbyo_21 7), (273, zbyo_21 8), (275, zbyo_4), (276, zbyo_100), (277, zbyo_184 46), (280, zbyo_54 7), (282, zbyo_167 80)]
theorem zbyb_38 : zbys zbyl_38 (cX1_turnsOf.data.toList.drop 251) 251 = true := by decide +kernel
theorem dX1_turnsOf_251 : decode cX1_turnsOf 251 = .ok (.iconst 1, 1) := zby_g zbyb_38 (i := 0) rfl rfl
theorem dX1_turnsOf_252 : decode cX1_turnsOf 252 = .ok (.goto 4, 3) := zby_g zbyb_38 (i := 1) rfl rfl
theorem dX1_turnsOf_255 : decode cX1_turnsOf 255 = .ok (.iconst 0, 1) := zby_g zbyb_38 (i := 2) rfl rfl
theorem dX1_turnsOf_256 : decode cX1_turnsOf 256 = .ok (.istore 6, 2) := zby_g zbyb_38 (i := 3) rfl rfl
theorem dX1_turnsOf_258 : decode cX1_turnsOf 258 = .ok (.goto 104, 3) := zby_g zbyb_38 (i := 4) rfl rfl
theorem dX1_turnsOf_261 : decode cX1_turnsOf 261 = .ok (.iload 6, 2) := zby_g zbyb_38 (i := 5) rfl rfl
theorem dX1_turnsOf_263 : decode cX1_turnsOf 263 = .ok (.ifCond .eq 8, 3) := zby_g zbyb_38 (i := 6) rfl rfl
theorem dX1_turnsOf_266 : decode cX1_turnsOf 266 = .ok (.iload 7, 2) := zby_g zbyb_38 (i := 7) rfl rfl
theorem dX1_turnsOf_268 : decode cX1_turnsOf 268 = .ok (.goto 12, 3) := zby_g zbyb_38 (i := 8) rfl rfl
theorem dX1_turnsOf_271 : decode cX1_turnsOf 271 = .ok (.iload 7, 2) := zby_g zbyb_38 (i := 9) rfl rfl
theorem dX1_turnsOf_273 : decode cX1_turnsOf 273 = .ok (.iload 8, 2) := zby_g zbyb_38 (i := 10) rfl rfl
theorem dX1_turnsOf_275 : decode cX1_turnsOf 275 = .ok (.iconst 1, 1) := zby_g zbyb_38 (i := 11) rfl rfl
theorem dX1_turnsOf_276 : decode cX1_turnsOf 276 = .ok (.isub, 1) := zby_g zbyb_38 (i := 12) rfl rfl
theorem dX1_turnsOf_277 : decode cX1_turnsOf 277 = .ok (.invokestatic 46, 3) := zby_g zbyb_38 (i := 13) rfl rfl
theorem dX1_turnsOf_280 : decode cX1_turnsOf 280 = .ok (.istore 7, 2) := zby_g zbyb_38 (i := 14) rfl rfl
theorem dX1_turnsOf_282 : decode cX1_turnsOf 282 = .ok (.goto 80, 3) := zby_g zbyb_38 (i := 15) rfl rfl
noncomputable def zbyl_39 : List (Nat × zbyE) := [(285, zbyo_21 6), (287, zbyo_153 15), (290, zbyo_21 7), (292, zbyo_21 8), (294, zbyo_4), (295, zbyo_100), (296, zbyo_184 46), (299, zbyo_167 5), (302, zbyo_21 7), (304, zbyo_54 7), (306, zbyo_167 56), (309, zbyo_29), (310, zbyo_21 6), (312, zbyo_153 8), (315, zbyo_21 8), (317, zbyo_167 4)]
theorem zbyb_39 : zbys zbyl_39 (cX1_turnsOf.data.toList.drop 285) 285 = true := by decide +kernel
theorem dX1_turnsOf_285 : decode cX1_turnsOf 285 = .ok (.iload 6, 2) := zby_g zbyb_39 (i := 0) rfl rfl
theorem dX1_turnsOf_287 : decode cX1_turnsOf 287 = .ok (.ifCond .eq 15, 3) := zby_g zbyb_39 (i := 1) rfl rfl
theorem dX1_turnsOf_290 : decode cX1_turnsOf 290 = .ok (.iload 7, 2) := zby_g zbyb_39 (i := 2) rfl rfl
theorem dX1_turnsOf_292 : decode cX1_turnsOf 292 = .ok (.iload 8, 2) := zby_g zbyb_39 (i := 3) rfl rfl
theorem dX1_turnsOf_294 : decode cX1_turnsOf 294 = .ok (.iconst 1, 1) := zby_g zbyb_39 (i := 4) rfl rfl
theorem dX1_turnsOf_295 : decode cX1_turnsOf 295 = .ok (.isub, 1) := zby_g zbyb_39 (i := 5) rfl rfl
theorem dX1_turnsOf_296 : decode cX1_turnsOf 296 = .ok (.invokestatic 46, 3) := zby_g zbyb_39 (i := 6) rfl rfl
theorem dX1_turnsOf_299 : decode cX1_turnsOf 299 = .ok (.goto 5, 3) := zby_g zbyb_39 (i := 7) rfl rfl
theorem dX1_turnsOf_302 : decode cX1_turnsOf 302 = .ok (.iload 7, 2) := zby_g zbyb_39 (i := 8) rfl rfl
theorem dX1_turnsOf_304 : decode cX1_turnsOf 304 = .ok (.istore 7, 2) := zby_g zbyb_39 (i := 9) rfl rfl
theorem dX1_turnsOf_306 : decode cX1_turnsOf 306 = .ok (.goto 56, 3) := zby_g zbyb_39 (i := 10) rfl rfl
theorem dX1_turnsOf_309 : decode cX1_turnsOf 309 = .ok (.iload_n 3, 1) := zby_g zbyb_39 (i := 11) rfl rfl
theorem dX1_turnsOf_310 : decode cX1_turnsOf 310 = .ok (.iload 6, 2) := zby_g zbyb_39 (i := 12) rfl rfl
theorem dX1_turnsOf_312 : decode cX1_turnsOf 312 = .ok (.ifCond .eq 8, 3) := zby_g zbyb_39 (i := 13) rfl rfl
theorem dX1_turnsOf_315 : decode cX1_turnsOf 315 = .ok (.iload 8, 2) := zby_g zbyb_39 (i := 14) rfl rfl
theorem dX1_turnsOf_317 : decode cX1_turnsOf 317 = .ok (.goto 4, 3) := zby_g zbyb_39 (i := 15) rfl rfl
noncomputable def zbyl_40 : List (Nat × zbyE) := [(320, zbyo_3), (321, zbyo_96), (322, zbyo_62), (323, zbyo_4), (324, zbyo_54 6), (326, zbyo_167 36), (329, zbyo_29), (330, zbyo_21 6), (332, zbyo_153 8), (335, zbyo_21 8), (337, zbyo_167 4), (340, zbyo_3), (341, zbyo_100), (342, zbyo_62), (343, zbyo_4), (344, zbyo_54 6)]
theorem zbyb_40 : zbys zbyl_40 (cX1_turnsOf.data.toList.drop 320) 320 = true := by decide +kernel
theorem dX1_turnsOf_320 : decode cX1_turnsOf 320 = .ok (.iconst 0, 1) := zby_g zbyb_40 (i := 0) rfl rfl
theorem dX1_turnsOf_321 : decode cX1_turnsOf 321 = .ok (.iadd, 1) := zby_g zbyb_40 (i := 1) rfl rfl
theorem dX1_turnsOf_322 : decode cX1_turnsOf 322 = .ok (.istore_n 3, 1) := zby_g zbyb_40 (i := 2) rfl rfl
theorem dX1_turnsOf_323 : decode cX1_turnsOf 323 = .ok (.iconst 1, 1) := zby_g zbyb_40 (i := 3) rfl rfl
theorem dX1_turnsOf_324 : decode cX1_turnsOf 324 = .ok (.istore 6, 2) := zby_g zbyb_40 (i := 4) rfl rfl
theorem dX1_turnsOf_326 : decode cX1_turnsOf 326 = .ok (.goto 36, 3) := zby_g zbyb_40 (i := 5) rfl rfl
theorem dX1_turnsOf_329 : decode cX1_turnsOf 329 = .ok (.iload_n 3, 1) := zby_g zbyb_40 (i := 6) rfl rfl
theorem dX1_turnsOf_330 : decode cX1_turnsOf 330 = .ok (.iload 6, 2) := zby_g zbyb_40 (i := 7) rfl rfl
theorem dX1_turnsOf_332 : decode cX1_turnsOf 332 = .ok (.ifCond .eq 8, 3) := zby_g zbyb_40 (i := 8) rfl rfl
theorem dX1_turnsOf_335 : decode cX1_turnsOf 335 = .ok (.iload 8, 2) := zby_g zbyb_40 (i := 9) rfl rfl
theorem dX1_turnsOf_337 : decode cX1_turnsOf 337 = .ok (.goto 4, 3) := zby_g zbyb_40 (i := 10) rfl rfl
theorem dX1_turnsOf_340 : decode cX1_turnsOf 340 = .ok (.iconst 0, 1) := zby_g zbyb_40 (i := 11) rfl rfl
theorem dX1_turnsOf_341 : decode cX1_turnsOf 341 = .ok (.isub, 1) := zby_g zbyb_40 (i := 12) rfl rfl
theorem dX1_turnsOf_342 : decode cX1_turnsOf 342 = .ok (.istore_n 3, 1) := zby_g zbyb_40 (i := 13) rfl rfl
theorem dX1_turnsOf_343 : decode cX1_turnsOf 343 = .ok (.iconst 1, 1) := zby_g zbyb_40 (i := 14) rfl rfl
theorem dX1_turnsOf_344 : decode cX1_turnsOf 344 = .ok (.istore 6, 2) := zby_g zbyb_40 (i := 15) rfl rfl
noncomputable def zbyl_41 : List (Nat × zbyE) := [(346, zbyo_167 16), (349, zbyo_21 5), (351, zbyo_42), (352, zbyo_43), (353, zbyo_28), (354, zbyo_21 9), (356, zbyo_182 52), (359, zbyo_96), (360, zbyo_54 5), (362, zbyo_132 7 1), (365, zbyo_167 (-328)), (368, zbyo_29), (369, zbyo_172)]
theorem zbyb_41 : zbys zbyl_41 (cX1_turnsOf.data.toList.drop 346) 346 = true := by decide +kernel
theorem dX1_turnsOf_346 : decode cX1_turnsOf 346 = .ok (.goto 16, 3) := zby_g zbyb_41 (i := 0) rfl rfl
theorem dX1_turnsOf_349 : decode cX1_turnsOf 349 = .ok (.iload 5, 2) := zby_g zbyb_41 (i := 1) rfl rfl
theorem dX1_turnsOf_351 : decode cX1_turnsOf 351 = .ok (.aload_n 0, 1) := zby_g zbyb_41 (i := 2) rfl rfl
theorem dX1_turnsOf_352 : decode cX1_turnsOf 352 = .ok (.aload_n 1, 1) := zby_g zbyb_41 (i := 3) rfl rfl
theorem dX1_turnsOf_353 : decode cX1_turnsOf 353 = .ok (.iload_n 2, 1) := zby_g zbyb_41 (i := 4) rfl rfl
theorem dX1_turnsOf_354 : decode cX1_turnsOf 354 = .ok (.iload 9, 2) := zby_g zbyb_41 (i := 5) rfl rfl
theorem dX1_turnsOf_356 : decode cX1_turnsOf 356 = .ok (.invokevirtual 52, 3) := zby_g zbyb_41 (i := 6) rfl rfl
theorem dX1_turnsOf_359 : decode cX1_turnsOf 359 = .ok (.iadd, 1) := zby_g zbyb_41 (i := 7) rfl rfl
theorem dX1_turnsOf_360 : decode cX1_turnsOf 360 = .ok (.istore 5, 2) := zby_g zbyb_41 (i := 8) rfl rfl
theorem dX1_turnsOf_362 : decode cX1_turnsOf 362 = .ok (.iinc 7 1, 3) := zby_g zbyb_41 (i := 9) rfl rfl
theorem dX1_turnsOf_365 : decode cX1_turnsOf 365 = .ok (.goto (-328), 3) := zby_g zbyb_41 (i := 10) rfl rfl
theorem dX1_turnsOf_368 : decode cX1_turnsOf 368 = .ok (.iload_n 3, 1) := zby_g zbyb_41 (i := 11) rfl rfl
theorem dX1_turnsOf_369 : decode cX1_turnsOf 369 = .ok (.ireturn, 1) := zby_g zbyb_41 (i := 12) rfl rfl
noncomputable def zbyl_42 : List (Nat × zbyE) := [(0, zbyo_29)]
theorem zbyb_42 : zbys zbyl_42 (cX1_partOf.data.toList.drop 0) 0 = true := by decide +kernel
theorem dX1_partOf_0 : decode cX1_partOf 0 = .ok (.iload_n 3, 1) := zby_g zbyb_42 (i := 0) rfl rfl
theorem dX1_partOf_1 : decode cX1_partOf 1 = .ok (.tableswitch 60 1 5 #[35, 37, 44, 49, 54], 35) := by decide +kernel
noncomputable def zbyl_43 : List (Nat × zbyE) := [(36, zbyo_28), (37, zbyo_172), (38, zbyo_43), (39, zbyo_180 56), (42, zbyo_28), (43, zbyo_46), (44, zbyo_172), (45, zbyo_42), (46, zbyo_180 28), (49, zbyo_172), (50, zbyo_42), (51, zbyo_180 31), (54, zbyo_172), (55, zbyo_43), (56, zbyo_28), (57, zbyo_182 59)]
theorem zbyb_43 : zbys zbyl_43 (cX1_partOf.data.toList.drop 36) 36 = true := by decide +kernel
theorem dX1_partOf_36 : decode cX1_partOf 36 = .ok (.iload_n 2, 1) := zby_g zbyb_43 (i := 0) rfl rfl
theorem dX1_partOf_37 : decode cX1_partOf 37 = .ok (.ireturn, 1) := zby_g zbyb_43 (i := 1) rfl rfl
theorem dX1_partOf_38 : decode cX1_partOf 38 = .ok (.aload_n 1, 1) := zby_g zbyb_43 (i := 2) rfl rfl
theorem dX1_partOf_39 : decode cX1_partOf 39 = .ok (.getfield 56, 3) := zby_g zbyb_43 (i := 3) rfl rfl
theorem dX1_partOf_42 : decode cX1_partOf 42 = .ok (.iload_n 2, 1) := zby_g zbyb_43 (i := 4) rfl rfl
theorem dX1_partOf_43 : decode cX1_partOf 43 = .ok (.iaload, 1) := zby_g zbyb_43 (i := 5) rfl rfl
theorem dX1_partOf_44 : decode cX1_partOf 44 = .ok (.ireturn, 1) := zby_g zbyb_43 (i := 6) rfl rfl
theorem dX1_partOf_45 : decode cX1_partOf 45 = .ok (.aload_n 0, 1) := zby_g zbyb_43 (i := 7) rfl rfl
theorem dX1_partOf_46 : decode cX1_partOf 46 = .ok (.getfield 28, 3) := zby_g zbyb_43 (i := 8) rfl rfl
theorem dX1_partOf_49 : decode cX1_partOf 49 = .ok (.ireturn, 1) := zby_g zbyb_43 (i := 9) rfl rfl
theorem dX1_partOf_50 : decode cX1_partOf 50 = .ok (.aload_n 0, 1) := zby_g zbyb_43 (i := 10) rfl rfl
theorem dX1_partOf_51 : decode cX1_partOf 51 = .ok (.getfield 31, 3) := zby_g zbyb_43 (i := 11) rfl rfl
theorem dX1_partOf_54 : decode cX1_partOf 54 = .ok (.ireturn, 1) := zby_g zbyb_43 (i := 12) rfl rfl
theorem dX1_partOf_55 : decode cX1_partOf 55 = .ok (.aload_n 1, 1) := zby_g zbyb_43 (i := 13) rfl rfl
theorem dX1_partOf_56 : decode cX1_partOf 56 = .ok (.iload_n 2, 1) := zby_g zbyb_43 (i := 14) rfl rfl
theorem dX1_partOf_57 : decode cX1_partOf 57 = .ok (.invokevirtual 59, 3) := zby_g zbyb_43 (i := 15) rfl rfl
noncomputable def zbyl_44 : List (Nat × zbyE) := [(60, zbyo_172), (61, zbyo_42), (62, zbyo_180 34), (65, zbyo_172)]
theorem zbyb_44 : zbys zbyl_44 (cX1_partOf.data.toList.drop 60) 60 = true := by decide +kernel
theorem dX1_partOf_60 : decode cX1_partOf 60 = .ok (.ireturn, 1) := zby_g zbyb_44 (i := 0) rfl rfl
theorem dX1_partOf_61 : decode cX1_partOf 61 = .ok (.aload_n 0, 1) := zby_g zbyb_44 (i := 1) rfl rfl
theorem dX1_partOf_62 : decode cX1_partOf 62 = .ok (.getfield 34, 3) := zby_g zbyb_44 (i := 2) rfl rfl
theorem dX1_partOf_65 : decode cX1_partOf 65 = .ok (.ireturn, 1) := zby_g zbyb_44 (i := 3) rfl rfl
noncomputable def zbyl_45 : List (Nat × zbyE) := [(0, zbyo_42), (1, zbyo_43), (2, zbyo_183 3), (5, zbyo_42), (6, zbyo_187 9), (9, zbyo_89), (10, zbyo_183 11), (13, zbyo_181 14), (16, zbyo_177)]
theorem zbyb_45 : zbys zbyl_45 (cX2_init.data.toList.drop 0) 0 = true := by decide +kernel
theorem dX2_init_0 : decode cX2_init 0 = .ok (.aload_n 0, 1) := zby_g zbyb_45 (i := 0) rfl rfl
theorem dX2_init_1 : decode cX2_init 1 = .ok (.aload_n 1, 1) := zby_g zbyb_45 (i := 1) rfl rfl
theorem dX2_init_2 : decode cX2_init 2 = .ok (.invokespecial 3, 3) := zby_g zbyb_45 (i := 2) rfl rfl
theorem dX2_init_5 : decode cX2_init 5 = .ok (.aload_n 0, 1) := zby_g zbyb_45 (i := 3) rfl rfl
theorem dX2_init_6 : decode cX2_init 6 = .ok (.new 9, 3) := zby_g zbyb_45 (i := 4) rfl rfl
theorem dX2_init_9 : decode cX2_init 9 = .ok (.dup, 1) := zby_g zbyb_45 (i := 5) rfl rfl
theorem dX2_init_10 : decode cX2_init 10 = .ok (.invokespecial 11, 3) := zby_g zbyb_45 (i := 6) rfl rfl
theorem dX2_init_13 : decode cX2_init 13 = .ok (.putfield 14, 3) := zby_g zbyb_45 (i := 7) rfl rfl
theorem dX2_init_16 : decode cX2_init 16 = .ok (.return_, 1) := zby_g zbyb_45 (i := 8) rfl rfl
noncomputable def zbyl_46 : List (Nat × zbyE) := [(0, zbyo_42), (1, zbyo_180 20), (4, zbyo_18 24), (6, zbyo_182 26), (9, zbyo_60), (10, zbyo_27), (11, zbyo_154 23), (14, zbyo_42), (15, zbyo_180 20), (18, zbyo_18 32), (20, zbyo_182 26), (23, zbyo_154 11), (26, zbyo_42), (27, zbyo_180 20), (30, zbyo_182 34), (33, zbyo_172)]
theorem zbyb_46 : zbys zbyl_46 (cX2_readLine.data.toList.drop 0) 0 = true := by decide +kernel
theorem dX2_readLine_0 : decode cX2_readLine 0 = .ok (.aload_n 0, 1) := zby_g zbyb_46 (i := 0) rfl rfl
theorem dX2_readLine_1 : decode cX2_readLine 1 = .ok (.getfield 20, 3) := zby_g zbyb_46 (i := 1) rfl rfl
theorem dX2_readLine_4 : decode cX2_readLine 4 = .ok (.ldc 24, 2) := zby_g zbyb_46 (i := 2) rfl rfl
theorem dX2_readLine_6 : decode cX2_readLine 6 = .ok (.invokevirtual 26, 3) := zby_g zbyb_46 (i := 3) rfl rfl
theorem dX2_readLine_9 : decode cX2_readLine 9 = .ok (.istore_n 1, 1) := zby_g zbyb_46 (i := 4) rfl rfl
theorem dX2_readLine_10 : decode cX2_readLine 10 = .ok (.iload_n 1, 1) := zby_g zbyb_46 (i := 5) rfl rfl
theorem dX2_readLine_11 : decode cX2_readLine 11 = .ok (.ifCond .ne 23, 3) := zby_g zbyb_46 (i := 6) rfl rfl
theorem dX2_readLine_14 : decode cX2_readLine 14 = .ok (.aload_n 0, 1) := zby_g zbyb_46 (i := 7) rfl rfl
theorem dX2_readLine_15 : decode cX2_readLine 15 = .ok (.getfield 20, 3) := zby_g zbyb_46 (i := 8) rfl rfl
theorem dX2_readLine_18 : decode cX2_readLine 18 = .ok (.ldc 32, 2) := zby_g zbyb_46 (i := 9) rfl rfl
theorem dX2_readLine_20 : decode cX2_readLine 20 = .ok (.invokevirtual 26, 3) := zby_g zbyb_46 (i := 10) rfl rfl
theorem dX2_readLine_23 : decode cX2_readLine 23 = .ok (.ifCond .ne 11, 3) := zby_g zbyb_46 (i := 11) rfl rfl
theorem dX2_readLine_26 : decode cX2_readLine 26 = .ok (.aload_n 0, 1) := zby_g zbyb_46 (i := 12) rfl rfl
theorem dX2_readLine_27 : decode cX2_readLine 27 = .ok (.getfield 20, 3) := zby_g zbyb_46 (i := 13) rfl rfl
theorem dX2_readLine_30 : decode cX2_readLine 30 = .ok (.invokevirtual 34, 3) := zby_g zbyb_46 (i := 14) rfl rfl
theorem dX2_readLine_33 : decode cX2_readLine 33 = .ok (.ireturn, 1) := zby_g zbyb_46 (i := 15) rfl rfl
noncomputable def zbyl_47 : List (Nat × zbyE) := [(34, zbyo_42), (35, zbyo_180 20), (38, zbyo_182 38), (41, zbyo_42), (42, zbyo_180 20), (45, zbyo_3), (46, zbyo_16 30), (48, zbyo_182 41), (51, zbyo_61), (52, zbyo_28), (53, zbyo_2), (54, zbyo_159 23), (57, zbyo_42), (58, zbyo_180 20), (61, zbyo_18 45), (63, zbyo_182 47)]
theorem zbyb_47 : zbys zbyl_47 (cX2_readLine.data.toList.drop 34) 34 = true := by decide +kernel
theorem dX2_readLine_34 : decode cX2_readLine 34 = .ok (.aload_n 0, 1) := zby_g zbyb_47 (i := 0) rfl rfl
theorem dX2_readLine_35 : decode cX2_readLine 35 = .ok (.getfield 20, 3) := zby_g zbyb_47 (i := 1) rfl rfl
theorem dX2_readLine_38 : decode cX2_readLine 38 = .ok (.invokevirtual 38, 3) := zby_g zbyb_47 (i := 2) rfl rfl
theorem dX2_readLine_41 : decode cX2_readLine 41 = .ok (.aload_n 0, 1) := zby_g zbyb_47 (i := 3) rfl rfl
theorem dX2_readLine_42 : decode cX2_readLine 42 = .ok (.getfield 20, 3) := zby_g zbyb_47 (i := 4) rfl rfl
theorem dX2_readLine_45 : decode cX2_readLine 45 = .ok (.iconst 0, 1) := zby_g zbyb_47 (i := 5) rfl rfl
theorem dX2_readLine_46 : decode cX2_readLine 46 = .ok (.bipush 30, 2) := zby_g zbyb_47 (i := 6) rfl rfl
theorem dX2_readLine_48 : decode cX2_readLine 48 = .ok (.invokevirtual 41, 3) := zby_g zbyb_47 (i := 7) rfl rfl
theorem dX2_readLine_51 : decode cX2_readLine 51 = .ok (.istore_n 2, 1) := zby_g zbyb_47 (i := 8) rfl rfl
theorem dX2_readLine_52 : decode cX2_readLine 52 = .ok (.iload_n 2, 1) := zby_g zbyb_47 (i := 9) rfl rfl
theorem dX2_readLine_53 : decode cX2_readLine 53 = .ok (.iconst (-1), 1) := zby_g zbyb_47 (i := 10) rfl rfl
theorem dX2_readLine_54 : decode cX2_readLine 54 = .ok (.if_icmp .eq 23, 3) := zby_g zbyb_47 (i := 11) rfl rfl
theorem dX2_readLine_57 : decode cX2_readLine 57 = .ok (.aload_n 0, 1) := zby_g zbyb_47 (i := 12) rfl rfl
theorem dX2_readLine_58 : decode cX2_readLine 58 = .ok (.getfield 20, 3) := zby_g zbyb_47 (i := 13) rfl rfl
theorem dX2_readLine_61 : decode cX2_readLine 61 = .ok (.ldc 45, 2) := zby_g zbyb_47 (i := 14) rfl rfl
theorem dX2_readLine_63 : decode cX2_readLine 63 = .ok (.invokevirtual 47, 3) := zby_g zbyb_47 (i := 15) rfl rfl
noncomputable def zbyl_48 : List (Nat × zbyE) := [(66, zbyo_153 13), (69, zbyo_42), (70, zbyo_3), (71, zbyo_182 50), (74, zbyo_154 5), (77, zbyo_3), (78, zbyo_172), (79, zbyo_42), (80, zbyo_180 14), (83, zbyo_27), (84, zbyo_153 8), (87, zbyo_16 15), (89, zbyo_167 5), (92, zbyo_16 16), (94, zbyo_28), (95, zbyo_182 54)]
theorem zbyb_48 : zbys zbyl_48 (cX2_readLine.data.toList.drop 66) 66 = true := by decide +kernel
theorem dX2_readLine_66 : decode cX2_readLine 66 = .ok (.ifCond .eq 13, 3) := zby_g zbyb_48 (i := 0) rfl rfl
theorem dX2_readLine_69 : decode cX2_readLine 69 = .ok (.aload_n 0, 1) := zby_g zbyb_48 (i := 1) rfl rfl
theorem dX2_readLine_70 : decode cX2_readLine 70 = .ok (.iconst 0, 1) := zby_g zbyb_48 (i := 2) rfl rfl
theorem dX2_readLine_71 : decode cX2_readLine 71 = .ok (.invokevirtual 50, 3) := zby_g zbyb_48 (i := 3) rfl rfl
theorem dX2_readLine_74 : decode cX2_readLine 74 = .ok (.ifCond .ne 5, 3) := zby_g zbyb_48 (i := 4) rfl rfl
theorem dX2_readLine_77 : decode cX2_readLine 77 = .ok (.iconst 0, 1) := zby_g zbyb_48 (i := 5) rfl rfl
theorem dX2_readLine_78 : decode cX2_readLine 78 = .ok (.ireturn, 1) := zby_g zbyb_48 (i := 6) rfl rfl
theorem dX2_readLine_79 : decode cX2_readLine 79 = .ok (.aload_n 0, 1) := zby_g zbyb_48 (i := 7) rfl rfl
theorem dX2_readLine_80 : decode cX2_readLine 80 = .ok (.getfield 14, 3) := zby_g zbyb_48 (i := 8) rfl rfl
theorem dX2_readLine_83 : decode cX2_readLine 83 = .ok (.iload_n 1, 1) := zby_g zbyb_48 (i := 9) rfl rfl
theorem dX2_readLine_84 : decode cX2_readLine 84 = .ok (.ifCond .eq 8, 3) := zby_g zbyb_48 (i := 10) rfl rfl
theorem dX2_readLine_87 : decode cX2_readLine 87 = .ok (.bipush 15, 2) := zby_g zbyb_48 (i := 11) rfl rfl
theorem dX2_readLine_89 : decode cX2_readLine 89 = .ok (.goto 5, 3) := zby_g zbyb_48 (i := 12) rfl rfl
theorem dX2_readLine_92 : decode cX2_readLine 92 = .ok (.bipush 16, 2) := zby_g zbyb_48 (i := 13) rfl rfl
theorem dX2_readLine_94 : decode cX2_readLine 94 = .ok (.iload_n 2, 1) := zby_g zbyb_48 (i := 14) rfl rfl
theorem dX2_readLine_95 : decode cX2_readLine 95 = .ok (.invokevirtual 54, 3) := zby_g zbyb_48 (i := 15) rfl rfl
noncomputable def zbyl_49 : List (Nat × zbyE) := [(98, zbyo_87), (99, zbyo_4), (100, zbyo_172)]
theorem zbyb_49 : zbys zbyl_49 (cX2_readLine.data.toList.drop 98) 98 = true := by decide +kernel
theorem dX2_readLine_98 : decode cX2_readLine 98 = .ok (.pop, 1) := zby_g zbyb_49 (i := 0) rfl rfl
theorem dX2_readLine_99 : decode cX2_readLine 99 = .ok (.iconst 1, 1) := zby_g zbyb_49 (i := 1) rfl rfl
theorem dX2_readLine_100 : decode cX2_readLine 100 = .ok (.ireturn, 1) := zby_g zbyb_49 (i := 2) rfl rfl
noncomputable def zbyl_50 : List (Nat × zbyE) := [(0, zbyo_2), (1, zbyo_61), (2, zbyo_2), (3, zbyo_62), (4, zbyo_3), (5, zbyo_54 4), (7, zbyo_21 4), (9, zbyo_17 400), (12, zbyo_162 88), (15, zbyo_42), (16, zbyo_27), (17, zbyo_182 57), (20, zbyo_154 5), (23, zbyo_3), (24, zbyo_172), (25, zbyo_42)]
theorem zbyb_50 : zbys zbyl_50 (cX2_readCondition.data.toList.drop 0) 0 = true := by decide +kernel
theorem dX2_readCondition_0 : decode cX2_readCondition 0 = .ok (.iconst (-1), 1) := zby_g zbyb_50 (i := 0) rfl rfl
theorem dX2_readCondition_1 : decode cX2_readCondition 1 = .ok (.istore_n 2, 1) := zby_g zbyb_50 (i := 1) rfl rfl
theorem dX2_readCondition_2 : decode cX2_readCondition 2 = .ok (.iconst (-1), 1) := zby_g zbyb_50 (i := 2) rfl rfl
theorem dX2_readCondition_3 : decode cX2_readCondition 3 = .ok (.istore_n 3, 1) := zby_g zbyb_50 (i := 3) rfl rfl
theorem dX2_readCondition_4 : decode cX2_readCondition 4 = .ok (.iconst 0, 1) := zby_g zbyb_50 (i := 4) rfl rfl
theorem dX2_readCondition_5 : decode cX2_readCondition 5 = .ok (.istore 4, 2) := zby_g zbyb_50 (i := 5) rfl rfl
theorem dX2_readCondition_7 : decode cX2_readCondition 7 = .ok (.iload 4, 2) := zby_g zbyb_50 (i := 6) rfl rfl
theorem dX2_readCondition_9 : decode cX2_readCondition 9 = .ok (.sipush 400, 3) := zby_g zbyb_50 (i := 7) rfl rfl
theorem dX2_readCondition_12 : decode cX2_readCondition 12 = .ok (.if_icmp .ge 88, 3) := zby_g zbyb_50 (i := 8) rfl rfl
theorem dX2_readCondition_15 : decode cX2_readCondition 15 = .ok (.aload_n 0, 1) := zby_g zbyb_50 (i := 9) rfl rfl
theorem dX2_readCondition_16 : decode cX2_readCondition 16 = .ok (.iload_n 1, 1) := zby_g zbyb_50 (i := 10) rfl rfl
theorem dX2_readCondition_17 : decode cX2_readCondition 17 = .ok (.invokevirtual 57, 3) := zby_g zbyb_50 (i := 11) rfl rfl
theorem dX2_readCondition_20 : decode cX2_readCondition 20 = .ok (.ifCond .ne 5, 3) := zby_g zbyb_50 (i := 12) rfl rfl
theorem dX2_readCondition_23 : decode cX2_readCondition 23 = .ok (.iconst 0, 1) := zby_g zbyb_50 (i := 13) rfl rfl
theorem dX2_readCondition_24 : decode cX2_readCondition 24 = .ok (.ireturn, 1) := zby_g zbyb_50 (i := 14) rfl rfl
theorem dX2_readCondition_25 : decode cX2_readCondition 25 = .ok (.aload_n 0, 1) := zby_g zbyb_50 (i := 15) rfl rfl
noncomputable def zbyl_51 : List (Nat × zbyE) := [(26, zbyo_180 14), (29, zbyo_29), (30, zbyo_182 60), (33, zbyo_2), (34, zbyo_62), (35, zbyo_42), (36, zbyo_180 20), (39, zbyo_18 64), (41, zbyo_182 47), (44, zbyo_153 17), (47, zbyo_42), (48, zbyo_180 14), (51, zbyo_16 13), (53, zbyo_3), (54, zbyo_182 54), (57, zbyo_62)]
theorem zbyb_51 : zbys zbyl_51 (cX2_readCondition.data.toList.drop 26) 26 = true := by decide +kernel
theorem dX2_readCondition_26 : decode cX2_readCondition 26 = .ok (.getfield 14, 3) := zby_g zbyb_51 (i := 0) rfl rfl
theorem dX2_readCondition_29 : decode cX2_readCondition 29 = .ok (.iload_n 3, 1) := zby_g zbyb_51 (i := 1) rfl rfl
theorem dX2_readCondition_30 : decode cX2_readCondition 30 = .ok (.invokevirtual 60, 3) := zby_g zbyb_51 (i := 2) rfl rfl
theorem dX2_readCondition_33 : decode cX2_readCondition 33 = .ok (.iconst (-1), 1) := zby_g zbyb_51 (i := 3) rfl rfl
theorem dX2_readCondition_34 : decode cX2_readCondition 34 = .ok (.istore_n 3, 1) := zby_g zbyb_51 (i := 4) rfl rfl
theorem dX2_readCondition_35 : decode cX2_readCondition 35 = .ok (.aload_n 0, 1) := zby_g zbyb_51 (i := 5) rfl rfl
theorem dX2_readCondition_36 : decode cX2_readCondition 36 = .ok (.getfield 20, 3) := zby_g zbyb_51 (i := 6) rfl rfl
theorem dX2_readCondition_39 : decode cX2_readCondition 39 = .ok (.ldc 64, 2) := zby_g zbyb_51 (i := 7) rfl rfl
theorem dX2_readCondition_41 : decode cX2_readCondition 41 = .ok (.invokevirtual 47, 3) := zby_g zbyb_51 (i := 8) rfl rfl
theorem dX2_readCondition_44 : decode cX2_readCondition 44 = .ok (.ifCond .eq 17, 3) := zby_g zbyb_51 (i := 9) rfl rfl
theorem dX2_readCondition_47 : decode cX2_readCondition 47 = .ok (.aload_n 0, 1) := zby_g zbyb_51 (i := 10) rfl rfl
theorem dX2_readCondition_48 : decode cX2_readCondition 48 = .ok (.getfield 14, 3) := zby_g zbyb_51 (i := 11) rfl rfl
theorem dX2_readCondition_51 : decode cX2_readCondition 51 = .ok (.bipush 13, 2) := zby_g zbyb_51 (i := 12) rfl rfl
theorem dX2_readCondition_53 : decode cX2_readCondition 53 = .ok (.iconst 0, 1) := zby_g zbyb_51 (i := 13) rfl rfl
theorem dX2_readCondition_54 : decode cX2_readCondition 54 = .ok (.invokevirtual 54, 3) := zby_g zbyb_51 (i := 14) rfl rfl
theorem dX2_readCondition_57 : decode cX2_readCondition 57 = .ok (.istore_n 3, 1) := zby_g zbyb_51 (i := 15) rfl rfl
noncomputable def zbyl_52 : List (Nat × zbyE) := [(58, zbyo_167 36), (61, zbyo_42), (62, zbyo_180 14), (65, zbyo_28), (66, zbyo_182 60), (69, zbyo_42), (70, zbyo_180 20), (73, zbyo_18 66), (75, zbyo_182 47), (78, zbyo_154 5), (81, zbyo_4), (82, zbyo_172), (83, zbyo_42), (84, zbyo_180 14), (87, zbyo_16 14), (89, zbyo_3)]
theorem zbyb_52 : zbys zbyl_52 (cX2_readCondition.data.toList.drop 58) 58 = true := by decide +kernel
theorem dX2_readCondition_58 : decode cX2_readCondition 58 = .ok (.goto 36, 3) := zby_g zbyb_52 (i := 0) rfl rfl
theorem dX2_readCondition_61 : decode cX2_readCondition 61 = .ok (.aload_n 0, 1) := zby_g zbyb_52 (i := 1) rfl rfl
theorem dX2_readCondition_62 : decode cX2_readCondition 62 = .ok (.getfield 14, 3) := zby_g zbyb_52 (i := 2) rfl rfl
theorem dX2_readCondition_65 : decode cX2_readCondition 65 = .ok (.iload_n 2, 1) := zby_g zbyb_52 (i := 3) rfl rfl
theorem dX2_readCondition_66 : decode cX2_readCondition 66 = .ok (.invokevirtual 60, 3) := zby_g zbyb_52 (i := 4) rfl rfl
theorem dX2_readCondition_69 : decode cX2_readCondition 69 = .ok (.aload_n 0, 1) := zby_g zbyb_52 (i := 5) rfl rfl
theorem dX2_readCondition_70 : decode cX2_readCondition 70 = .ok (.getfield 20, 3) := zby_g zbyb_52 (i := 6) rfl rfl
theorem dX2_readCondition_73 : decode cX2_readCondition 73 = .ok (.ldc 66, 2) := zby_g zbyb_52 (i := 7) rfl rfl
theorem dX2_readCondition_75 : decode cX2_readCondition 75 = .ok (.invokevirtual 47, 3) := zby_g zbyb_52 (i := 8) rfl rfl
theorem dX2_readCondition_78 : decode cX2_readCondition 78 = .ok (.ifCond .ne 5, 3) := zby_g zbyb_52 (i := 9) rfl rfl
theorem dX2_readCondition_81 : decode cX2_readCondition 81 = .ok (.iconst 1, 1) := zby_g zbyb_52 (i := 10) rfl rfl
theorem dX2_readCondition_82 : decode cX2_readCondition 82 = .ok (.ireturn, 1) := zby_g zbyb_52 (i := 11) rfl rfl
theorem dX2_readCondition_83 : decode cX2_readCondition 83 = .ok (.aload_n 0, 1) := zby_g zbyb_52 (i := 12) rfl rfl
theorem dX2_readCondition_84 : decode cX2_readCondition 84 = .ok (.getfield 14, 3) := zby_g zbyb_52 (i := 13) rfl rfl
theorem dX2_readCondition_87 : decode cX2_readCondition 87 = .ok (.bipush 14, 2) := zby_g zbyb_52 (i := 14) rfl rfl
theorem dX2_readCondition_89 : decode cX2_readCondition 89 = .ok (.iconst 0, 1) := zby_g zbyb_52 (i := 15) rfl rfl
noncomputable def zbyl_53 : List (Nat × zbyE) := [(90, zbyo_182 54), (93, zbyo_61), (94, zbyo_132 4 1), (97, zbyo_167 (-90)), (100, zbyo_42), (101, zbyo_180 20), (104, zbyo_182 34), (107, zbyo_172)]
theorem zbyb_53 : zbys zbyl_53 (cX2_readCondition.data.toList.drop 90) 90 = true := by decide +kernel
theorem dX2_readCondition_90 : decode cX2_readCondition 90 = .ok (.invokevirtual 54, 3) := zby_g zbyb_53 (i := 0) rfl rfl
theorem dX2_readCondition_93 : decode cX2_readCondition 93 = .ok (.istore_n 2, 1) := zby_g zbyb_53 (i := 1) rfl rfl
theorem dX2_readCondition_94 : decode cX2_readCondition 94 = .ok (.iinc 4 1, 3) := zby_g zbyb_53 (i := 2) rfl rfl
theorem dX2_readCondition_97 : decode cX2_readCondition 97 = .ok (.goto (-90), 3) := zby_g zbyb_53 (i := 3) rfl rfl
theorem dX2_readCondition_100 : decode cX2_readCondition 100 = .ok (.aload_n 0, 1) := zby_g zbyb_53 (i := 4) rfl rfl
theorem dX2_readCondition_101 : decode cX2_readCondition 101 = .ok (.getfield 20, 3) := zby_g zbyb_53 (i := 5) rfl rfl
theorem dX2_readCondition_104 : decode cX2_readCondition 104 = .ok (.invokevirtual 34, 3) := zby_g zbyb_53 (i := 6) rfl rfl
theorem dX2_readCondition_107 : decode cX2_readCondition 107 = .ok (.ireturn, 1) := zby_g zbyb_53 (i := 7) rfl rfl
noncomputable def zbyl_54 : List (Nat × zbyE) := [(0, zbyo_42), (1, zbyo_180 20), (4, zbyo_18 68), (6, zbyo_182 26), (9, zbyo_154 15), (12, zbyo_42), (13, zbyo_180 20), (16, zbyo_16 40), (18, zbyo_182 70), (21, zbyo_153 27), (24, zbyo_27), (25, zbyo_16 6), (27, zbyo_162 13), (30, zbyo_42), (31, zbyo_27), (32, zbyo_4)]
theorem zbyb_54 : zbys zbyl_54 (cX2_readAtom.data.toList.drop 0) 0 = true := by decide +kernel
theorem dX2_readAtom_0 : decode cX2_readAtom 0 = .ok (.aload_n 0, 1) := zby_g zbyb_54 (i := 0) rfl rfl
theorem dX2_readAtom_1 : decode cX2_readAtom 1 = .ok (.getfield 20, 3) := zby_g zbyb_54 (i := 1) rfl rfl
theorem dX2_readAtom_4 : decode cX2_readAtom 4 = .ok (.ldc 68, 2) := zby_g zbyb_54 (i := 2) rfl rfl
theorem dX2_readAtom_6 : decode cX2_readAtom 6 = .ok (.invokevirtual 26, 3) := zby_g zbyb_54 (i := 3) rfl rfl
theorem dX2_readAtom_9 : decode cX2_readAtom 9 = .ok (.ifCond .ne 15, 3) := zby_g zbyb_54 (i := 4) rfl rfl
theorem dX2_readAtom_12 : decode cX2_readAtom 12 = .ok (.aload_n 0, 1) := zby_g zbyb_54 (i := 5) rfl rfl
theorem dX2_readAtom_13 : decode cX2_readAtom 13 = .ok (.getfield 20, 3) := zby_g zbyb_54 (i := 6) rfl rfl
theorem dX2_readAtom_16 : decode cX2_readAtom 16 = .ok (.bipush 40, 2) := zby_g zbyb_54 (i := 7) rfl rfl
theorem dX2_readAtom_18 : decode cX2_readAtom 18 = .ok (.invokevirtual 70, 3) := zby_g zbyb_54 (i := 8) rfl rfl
theorem dX2_readAtom_21 : decode cX2_readAtom 21 = .ok (.ifCond .eq 27, 3) := zby_g zbyb_54 (i := 9) rfl rfl
theorem dX2_readAtom_24 : decode cX2_readAtom 24 = .ok (.iload_n 1, 1) := zby_g zbyb_54 (i := 10) rfl rfl
theorem dX2_readAtom_25 : decode cX2_readAtom 25 = .ok (.bipush 6, 2) := zby_g zbyb_54 (i := 11) rfl rfl
theorem dX2_readAtom_27 : decode cX2_readAtom 27 = .ok (.if_icmp .ge 13, 3) := zby_g zbyb_54 (i := 12) rfl rfl
theorem dX2_readAtom_30 : decode cX2_readAtom 30 = .ok (.aload_n 0, 1) := zby_g zbyb_54 (i := 13) rfl rfl
theorem dX2_readAtom_31 : decode cX2_readAtom 31 = .ok (.iload_n 1, 1) := zby_g zbyb_54 (i := 14) rfl rfl
theorem dX2_readAtom_32 : decode cX2_readAtom 32 = .ok (.iconst 1, 1) := zby_g zbyb_54 (i := 15) rfl rfl
noncomputable def zbyl_55 : List (Nat × zbyE) := [(33, zbyo_96), (34, zbyo_182 74), (37, zbyo_167 10), (40, zbyo_42), (41, zbyo_180 20), (44, zbyo_182 34), (47, zbyo_172), (48, zbyo_42), (49, zbyo_180 20), (52, zbyo_18 77), (54, zbyo_182 47), (57, zbyo_153 16), (60, zbyo_42), (61, zbyo_180 14), (64, zbyo_16 10), (66, zbyo_3)]
theorem zbyb_55 : zbys zbyl_55 (cX2_readAtom.data.toList.drop 33) 33 = true := by decide +kernel
theorem dX2_readAtom_33 : decode cX2_readAtom 33 = .ok (.iadd, 1) := zby_g zbyb_55 (i := 0) rfl rfl
theorem dX2_readAtom_34 : decode cX2_readAtom 34 = .ok (.invokevirtual 74, 3) := zby_g zbyb_55 (i := 1) rfl rfl
theorem dX2_readAtom_37 : decode cX2_readAtom 37 = .ok (.goto 10, 3) := zby_g zbyb_55 (i := 2) rfl rfl
theorem dX2_readAtom_40 : decode cX2_readAtom 40 = .ok (.aload_n 0, 1) := zby_g zbyb_55 (i := 3) rfl rfl
theorem dX2_readAtom_41 : decode cX2_readAtom 41 = .ok (.getfield 20, 3) := zby_g zbyb_55 (i := 4) rfl rfl
theorem dX2_readAtom_44 : decode cX2_readAtom 44 = .ok (.invokevirtual 34, 3) := zby_g zbyb_55 (i := 5) rfl rfl
theorem dX2_readAtom_47 : decode cX2_readAtom 47 = .ok (.ireturn, 1) := zby_g zbyb_55 (i := 6) rfl rfl
theorem dX2_readAtom_48 : decode cX2_readAtom 48 = .ok (.aload_n 0, 1) := zby_g zbyb_55 (i := 7) rfl rfl
theorem dX2_readAtom_49 : decode cX2_readAtom 49 = .ok (.getfield 20, 3) := zby_g zbyb_55 (i := 8) rfl rfl
theorem dX2_readAtom_52 : decode cX2_readAtom 52 = .ok (.ldc 77, 2) := zby_g zbyb_55 (i := 9) rfl rfl
theorem dX2_readAtom_54 : decode cX2_readAtom 54 = .ok (.invokevirtual 47, 3) := zby_g zbyb_55 (i := 10) rfl rfl
theorem dX2_readAtom_57 : decode cX2_readAtom 57 = .ok (.ifCond .eq 16, 3) := zby_g zbyb_55 (i := 11) rfl rfl
theorem dX2_readAtom_60 : decode cX2_readAtom 60 = .ok (.aload_n 0, 1) := zby_g zbyb_55 (i := 12) rfl rfl
theorem dX2_readAtom_61 : decode cX2_readAtom 61 = .ok (.getfield 14, 3) := zby_g zbyb_55 (i := 13) rfl rfl
theorem dX2_readAtom_64 : decode cX2_readAtom 64 = .ok (.bipush 10, 2) := zby_g zbyb_55 (i := 14) rfl rfl
theorem dX2_readAtom_66 : decode cX2_readAtom 66 = .ok (.iconst 0, 1) := zby_g zbyb_55 (i := 15) rfl rfl
noncomputable def zbyl_56 : List (Nat × zbyE) := [(67, zbyo_182 54), (70, zbyo_87), (71, zbyo_4), (72, zbyo_172), (73, zbyo_42), (74, zbyo_180 20), (77, zbyo_18 79), (79, zbyo_182 47), (82, zbyo_153 16), (85, zbyo_42), (86, zbyo_180 14), (89, zbyo_16 11), (91, zbyo_3), (92, zbyo_182 54), (95, zbyo_87), (96, zbyo_4)]
theorem zbyb_56 : zbys zbyl_56 (cX2_readAtom.data.toList.drop 67) 67 = true := by decide +kernel
theorem dX2_readAtom_67 : decode cX2_readAtom 67 = .ok (.invokevirtual 54, 3) := zby_g zbyb_56 (i := 0) rfl rfl
theorem dX2_readAtom_70 : decode cX2_readAtom 70 = .ok (.pop, 1) := zby_g zbyb_56 (i := 1) rfl rfl
theorem dX2_readAtom_71 : decode cX2_readAtom 71 = .ok (.iconst 1, 1) := zby_g zbyb_56 (i := 2) rfl rfl
theorem dX2_readAtom_72 : decode cX2_readAtom 72 = .ok (.ireturn, 1) := zby_g zbyb_56 (i := 3) rfl rfl
theorem dX2_readAtom_73 : decode cX2_readAtom 73 = .ok (.aload_n 0, 1) := zby_g zbyb_56 (i := 4) rfl rfl
theorem dX2_readAtom_74 : decode cX2_readAtom 74 = .ok (.getfield 20, 3) := zby_g zbyb_56 (i := 5) rfl rfl
theorem dX2_readAtom_77 : decode cX2_readAtom 77 = .ok (.ldc 79, 2) := zby_g zbyb_56 (i := 6) rfl rfl
theorem dX2_readAtom_79 : decode cX2_readAtom 79 = .ok (.invokevirtual 47, 3) := zby_g zbyb_56 (i := 7) rfl rfl
theorem dX2_readAtom_82 : decode cX2_readAtom 82 = .ok (.ifCond .eq 16, 3) := zby_g zbyb_56 (i := 8) rfl rfl
theorem dX2_readAtom_85 : decode cX2_readAtom 85 = .ok (.aload_n 0, 1) := zby_g zbyb_56 (i := 9) rfl rfl
theorem dX2_readAtom_86 : decode cX2_readAtom 86 = .ok (.getfield 14, 3) := zby_g zbyb_56 (i := 10) rfl rfl
theorem dX2_readAtom_89 : decode cX2_readAtom 89 = .ok (.bipush 11, 2) := zby_g zbyb_56 (i := 11) rfl rfl
theorem dX2_readAtom_91 : decode cX2_readAtom 91 = .ok (.iconst 0, 1) := zby_g zbyb_56 (i := 12) rfl rfl
theorem dX2_readAtom_92 : decode cX2_readAtom 92 = .ok (.invokevirtual 54, 3) := zby_g zbyb_56 (i := 13) rfl rfl
theorem dX2_readAtom_95 : decode cX2_readAtom 95 = .ok (.pop, 1) := zby_g zbyb_56 (i := 14) rfl rfl
theorem dX2_readAtom_96 : decode cX2_readAtom 96 = .ok (.iconst 1, 1) := zby_g zbyb_56 (i := 15) rfl rfl
noncomputable def zbyl_57 : List (Nat × zbyE) := [(97, zbyo_172), (98, zbyo_42), (99, zbyo_182 81), (102, zbyo_154 5), (105, zbyo_3), (106, zbyo_172), (107, zbyo_42), (108, zbyo_180 20), (111, zbyo_16 60), (113, zbyo_182 70), (116, zbyo_61), (117, zbyo_28), (118, zbyo_154 23), (121, zbyo_42), (122, zbyo_180 20), (125, zbyo_16 62)]
theorem zbyb_57 : zbys zbyl_57 (cX2_readAtom.data.toList.drop 97) 97 = true := by decide +kernel
theorem dX2_readAtom_97 : decode cX2_readAtom 97 = .ok (.ireturn, 1) := zby_g zbyb_57 (i := 0) rfl rfl
theorem dX2_readAtom_98 : decode cX2_readAtom 98 = .ok (.aload_n 0, 1) := zby_g zbyb_57 (i := 1) rfl rfl
theorem dX2_readAtom_99 : decode cX2_readAtom 99 = .ok (.invokevirtual 81, 3) := zby_g zbyb_57 (i := 2) rfl rfl
theorem dX2_readAtom_102 : decode cX2_readAtom 102 = .ok (.ifCond .ne 5, 3) := zby_g zbyb_57 (i := 3) rfl rfl
theorem dX2_readAtom_105 : decode cX2_readAtom 105 = .ok (.iconst 0, 1) := zby_g zbyb_57 (i := 4) rfl rfl
theorem dX2_readAtom_106 : decode cX2_readAtom 106 = .ok (.ireturn, 1) := zby_g zbyb_57 (i := 5) rfl rfl
theorem dX2_readAtom_107 : decode cX2_readAtom 107 = .ok (.aload_n 0, 1) := zby_g zbyb_57 (i := 6) rfl rfl
theorem dX2_readAtom_108 : decode cX2_readAtom 108 = .ok (.getfield 20, 3) := zby_g zbyb_57 (i := 7) rfl rfl
theorem dX2_readAtom_111 : decode cX2_readAtom 111 = .ok (.bipush 60, 2) := zby_g zbyb_57 (i := 8) rfl rfl
theorem dX2_readAtom_113 : decode cX2_readAtom 113 = .ok (.invokevirtual 70, 3) := zby_g zbyb_57 (i := 9) rfl rfl
theorem dX2_readAtom_116 : decode cX2_readAtom 116 = .ok (.istore_n 2, 1) := zby_g zbyb_57 (i := 10) rfl rfl
theorem dX2_readAtom_117 : decode cX2_readAtom 117 = .ok (.iload_n 2, 1) := zby_g zbyb_57 (i := 11) rfl rfl
theorem dX2_readAtom_118 : decode cX2_readAtom 118 = .ok (.ifCond .ne 23, 3) := zby_g zbyb_57 (i := 12) rfl rfl
theorem dX2_readAtom_121 : decode cX2_readAtom 121 = .ok (.aload_n 0, 1) := zby_g zbyb_57 (i := 13) rfl rfl
theorem dX2_readAtom_122 : decode cX2_readAtom 122 = .ok (.getfield 20, 3) := zby_g zbyb_57 (i := 14) rfl rfl
theorem dX2_readAtom_125 : decode cX2_readAtom 125 = .ok (.bipush 62, 2) := zby_g zbyb_57 (i := 15) rfl rfl
noncomputable def zbyl_58 : List (Nat × zbyE) := [(127, zbyo_182 70), (130, zbyo_154 11), (133, zbyo_42), (134, zbyo_180 20), (137, zbyo_182 34), (140, zbyo_172), (141, zbyo_42), (142, zbyo_180 20), (145, zbyo_182 38), (148, zbyo_42), (149, zbyo_180 14), (152, zbyo_16 7), (154, zbyo_3), (155, zbyo_182 54), (158, zbyo_87), (159, zbyo_42)]
theorem zbyb_58 : zbys zbyl_58 (cX2_readAtom.data.toList.drop 127) 127 = true := by decide +kernel
theorem dX2_readAtom_127 : decode cX2_readAtom 127 = .ok (.invokevirtual 70, 3) := zby_g zbyb_58 (i := 0) rfl rfl
theorem dX2_readAtom_130 : decode cX2_readAtom 130 = .ok (.ifCond .ne 11, 3) := zby_g zbyb_58 (i := 1) rfl rfl
theorem dX2_readAtom_133 : decode cX2_readAtom 133 = .ok (.aload_n 0, 1) := zby_g zbyb_58 (i := 2) rfl rfl
theorem dX2_readAtom_134 : decode cX2_readAtom 134 = .ok (.getfield 20, 3) := zby_g zbyb_58 (i := 3) rfl rfl
theorem dX2_readAtom_137 : decode cX2_readAtom 137 = .ok (.invokevirtual 34, 3) := zby_g zbyb_58 (i := 4) rfl rfl
theorem dX2_readAtom_140 : decode cX2_readAtom 140 = .ok (.ireturn, 1) := zby_g zbyb_58 (i := 5) rfl rfl
theorem dX2_readAtom_141 : decode cX2_readAtom 141 = .ok (.aload_n 0, 1) := zby_g zbyb_58 (i := 6) rfl rfl
theorem dX2_readAtom_142 : decode cX2_readAtom 142 = .ok (.getfield 20, 3) := zby_g zbyb_58 (i := 7) rfl rfl
theorem dX2_readAtom_145 : decode cX2_readAtom 145 = .ok (.invokevirtual 38, 3) := zby_g zbyb_58 (i := 8) rfl rfl
theorem dX2_readAtom_148 : decode cX2_readAtom 148 = .ok (.aload_n 0, 1) := zby_g zbyb_58 (i := 9) rfl rfl
theorem dX2_readAtom_149 : decode cX2_readAtom 149 = .ok (.getfield 14, 3) := zby_g zbyb_58 (i := 10) rfl rfl
theorem dX2_readAtom_152 : decode cX2_readAtom 152 = .ok (.bipush 7, 2) := zby_g zbyb_58 (i := 11) rfl rfl
theorem dX2_readAtom_154 : decode cX2_readAtom 154 = .ok (.iconst 0, 1) := zby_g zbyb_58 (i := 12) rfl rfl
theorem dX2_readAtom_155 : decode cX2_readAtom 155 = .ok (.invokevirtual 54, 3) := zby_g zbyb_58 (i := 13) rfl rfl
theorem dX2_readAtom_158 : decode cX2_readAtom 158 = .ok (.pop, 1) := zby_g zbyb_58 (i := 14) rfl rfl
theorem dX2_readAtom_159 : decode cX2_readAtom 159 = .ok (.aload_n 0, 1) := zby_g zbyb_58 (i := 15) rfl rfl
noncomputable def zbyl_59 : List (Nat × zbyE) := [(160, zbyo_182 81), (163, zbyo_154 5), (166, zbyo_3), (167, zbyo_172), (168, zbyo_42), (169, zbyo_180 14), (172, zbyo_28), (173, zbyo_153 8), (176, zbyo_16 8), (178, zbyo_167 5), (181, zbyo_16 9), (183, zbyo_3), (184, zbyo_182 54), (187, zbyo_87), (188, zbyo_4), (189, zbyo_172)]
theorem zbyb_59 : zbys zbyl_59 (cX2_readAtom.data.toList.drop 160) 160 = true := by decide +kernel
theorem dX2_readAtom_160 : decode cX2_readAtom 160 = .ok (.invokevirtual 81, 3) := zby_g zbyb_59 (i := 0) rfl rfl
theorem dX2_readAtom_163 : decode cX2_readAtom 163 = .ok (.ifCond .ne 5, 3) := zby_g zbyb_59 (i := 1) rfl rfl
theorem dX2_readAtom_166 : decode cX2_readAtom 166 = .ok (.iconst 0, 1) := zby_g zbyb_59 (i := 2) rfl rfl
theorem dX2_readAtom_167 : decode cX2_readAtom 167 = .ok (.ireturn, 1) := zby_g zbyb_59 (i := 3) rfl rfl
theorem dX2_readAtom_168 : decode cX2_readAtom 168 = .ok (.aload_n 0, 1) := zby_g zbyb_59 (i := 4) rfl rfl
theorem dX2_readAtom_169 : decode cX2_readAtom 169 = .ok (.getfield 14, 3) := zby_g zbyb_59 (i := 5) rfl rfl
theorem dX2_readAtom_172 : decode cX2_readAtom 172 = .ok (.iload_n 2, 1) := zby_g zbyb_59 (i := 6) rfl rfl
theorem dX2_readAtom_173 : decode cX2_readAtom 173 = .ok (.ifCond .eq 8, 3) := zby_g zbyb_59 (i := 7) rfl rfl
theorem dX2_readAtom_176 : decode cX2_readAtom 176 = .ok (.bipush 8, 2) := zby_g zbyb_59 (i := 8) rfl rfl
theorem dX2_readAtom_178 : decode cX2_readAtom 178 = .ok (.goto 5, 3) := zby_g zbyb_59 (i := 9) rfl rfl
theorem dX2_readAtom_181 : decode cX2_readAtom 181 = .ok (.bipush 9, 2) := zby_g zbyb_59 (i := 10) rfl rfl
theorem dX2_readAtom_183 : decode cX2_readAtom 183 = .ok (.iconst 0, 1) := zby_g zbyb_59 (i := 11) rfl rfl
theorem dX2_readAtom_184 : decode cX2_readAtom 184 = .ok (.invokevirtual 54, 3) := zby_g zbyb_59 (i := 12) rfl rfl
theorem dX2_readAtom_187 : decode cX2_readAtom 187 = .ok (.pop, 1) := zby_g zbyb_59 (i := 13) rfl rfl
theorem dX2_readAtom_188 : decode cX2_readAtom 188 = .ok (.iconst 1, 1) := zby_g zbyb_59 (i := 14) rfl rfl
theorem dX2_readAtom_189 : decode cX2_readAtom 189 = .ok (.ireturn, 1) := zby_g zbyb_59 (i := 15) rfl rfl
noncomputable def zbyl_60 : List (Nat × zbyE) := [(0, zbyo_42), (1, zbyo_180 20), (4, zbyo_16 40), (6, zbyo_182 84), (9, zbyo_153 39), (12, zbyo_42), (13, zbyo_27), (14, zbyo_182 50), (17, zbyo_153 29), (20, zbyo_42), (21, zbyo_180 20), (24, zbyo_16 41), (26, zbyo_182 84), (29, zbyo_154 13), (32, zbyo_42), (33, zbyo_180 20)]
theorem zbyb_60 : zbys zbyl_60 (cX2_readDeeper.data.toList.drop 0) 0 = true := by decide +kernel
theorem dX2_readDeeper_0 : decode cX2_readDeeper 0 = .ok (.aload_n 0, 1) := zby_g zbyb_60 (i := 0) rfl rfl
theorem dX2_readDeeper_1 : decode cX2_readDeeper 1 = .ok (.getfield 20, 3) := zby_g zbyb_60 (i := 1) rfl rfl
theorem dX2_readDeeper_4 : decode cX2_readDeeper 4 = .ok (.bipush 40, 2) := zby_g zbyb_60 (i := 2) rfl rfl
theorem dX2_readDeeper_6 : decode cX2_readDeeper 6 = .ok (.invokevirtual 84, 3) := zby_g zbyb_60 (i := 3) rfl rfl
theorem dX2_readDeeper_9 : decode cX2_readDeeper 9 = .ok (.ifCond .eq 39, 3) := zby_g zbyb_60 (i := 4) rfl rfl
theorem dX2_readDeeper_12 : decode cX2_readDeeper 12 = .ok (.aload_n 0, 1) := zby_g zbyb_60 (i := 5) rfl rfl
theorem dX2_readDeeper_13 : decode cX2_readDeeper 13 = .ok (.iload_n 1, 1) := zby_g zbyb_60 (i := 6) rfl rfl
theorem dX2_readDeeper_14 : decode cX2_readDeeper 14 = .ok (.invokevirtual 50, 3) := zby_g zbyb_60 (i := 7) rfl rfl
theorem dX2_readDeeper_17 : decode cX2_readDeeper 17 = .ok (.ifCond .eq 29, 3) := zby_g zbyb_60 (i := 8) rfl rfl
theorem dX2_readDeeper_20 : decode cX2_readDeeper 20 = .ok (.aload_n 0, 1) := zby_g zbyb_60 (i := 9) rfl rfl
theorem dX2_readDeeper_21 : decode cX2_readDeeper 21 = .ok (.getfield 20, 3) := zby_g zbyb_60 (i := 10) rfl rfl
theorem dX2_readDeeper_24 : decode cX2_readDeeper 24 = .ok (.bipush 41, 2) := zby_g zbyb_60 (i := 11) rfl rfl
theorem dX2_readDeeper_26 : decode cX2_readDeeper 26 = .ok (.invokevirtual 84, 3) := zby_g zbyb_60 (i := 12) rfl rfl
theorem dX2_readDeeper_29 : decode cX2_readDeeper 29 = .ok (.ifCond .ne 13, 3) := zby_g zbyb_60 (i := 13) rfl rfl
theorem dX2_readDeeper_32 : decode cX2_readDeeper 32 = .ok (.aload_n 0, 1) := zby_g zbyb_60 (i := 14) rfl rfl
theorem dX2_readDeeper_33 : decode cX2_readDeeper 33 = .ok (.getfield 20, 3) := zby_g zbyb_60 (i := 15) rfl rfl
noncomputable def zbyl_61 : List (Nat × zbyE) := [(36, zbyo_182 34), (39, zbyo_153 7), (42, zbyo_4), (43, zbyo_167 4), (46, zbyo_3), (47, zbyo_172), (48, zbyo_42), (49, zbyo_180 20), (52, zbyo_182 38), (55, zbyo_42), (56, zbyo_27), (57, zbyo_182 57), (60, zbyo_154 5), (63, zbyo_3), (64, zbyo_172), (65, zbyo_42)]
theorem zbyb_61 : zbys zbyl_61 (cX2_readDeeper.data.toList.drop 36) 36 = true := by decide +kernel
theorem dX2_readDeeper_36 : decode cX2_readDeeper 36 = .ok (.invokevirtual 34, 3) := zby_g zbyb_61 (i := 0) rfl rfl
theorem dX2_readDeeper_39 : decode cX2_readDeeper 39 = .ok (.ifCond .eq 7, 3) := zby_g zbyb_61 (i := 1) rfl rfl
theorem dX2_readDeeper_42 : decode cX2_readDeeper 42 = .ok (.iconst 1, 1) := zby_g zbyb_61 (i := 2) rfl rfl
theorem dX2_readDeeper_43 : decode cX2_readDeeper 43 = .ok (.goto 4, 3) := zby_g zbyb_61 (i := 3) rfl rfl
theorem dX2_readDeeper_46 : decode cX2_readDeeper 46 = .ok (.iconst 0, 1) := zby_g zbyb_61 (i := 4) rfl rfl
theorem dX2_readDeeper_47 : decode cX2_readDeeper 47 = .ok (.ireturn, 1) := zby_g zbyb_61 (i := 5) rfl rfl
theorem dX2_readDeeper_48 : decode cX2_readDeeper 48 = .ok (.aload_n 0, 1) := zby_g zbyb_61 (i := 6) rfl rfl
theorem dX2_readDeeper_49 : decode cX2_readDeeper 49 = .ok (.getfield 20, 3) := zby_g zbyb_61 (i := 7) rfl rfl
theorem dX2_readDeeper_52 : decode cX2_readDeeper 52 = .ok (.invokevirtual 38, 3) := zby_g zbyb_61 (i := 8) rfl rfl
theorem dX2_readDeeper_55 : decode cX2_readDeeper 55 = .ok (.aload_n 0, 1) := zby_g zbyb_61 (i := 9) rfl rfl
theorem dX2_readDeeper_56 : decode cX2_readDeeper 56 = .ok (.iload_n 1, 1) := zby_g zbyb_61 (i := 10) rfl rfl
theorem dX2_readDeeper_57 : decode cX2_readDeeper 57 = .ok (.invokevirtual 57, 3) := zby_g zbyb_61 (i := 11) rfl rfl
theorem dX2_readDeeper_60 : decode cX2_readDeeper 60 = .ok (.ifCond .ne 5, 3) := zby_g zbyb_61 (i := 12) rfl rfl
theorem dX2_readDeeper_63 : decode cX2_readDeeper 63 = .ok (.iconst 0, 1) := zby_g zbyb_61 (i := 13) rfl rfl
theorem dX2_readDeeper_64 : decode cX2_readDeeper 64 = .ok (.ireturn, 1) := zby_g zbyb_61 (i := 14) rfl rfl
theorem dX2_readDeeper_65 : decode cX2_readDeeper 65 = .ok (.aload_n 0, 1) := zby_g zbyb_61 (i := 15) rfl rfl
noncomputable def zbyl_62 : List (Nat × zbyE) := [(66, zbyo_180 14), (69, zbyo_16 12), (71, zbyo_3), (72, zbyo_182 54), (75, zbyo_87), (76, zbyo_4), (77, zbyo_172)]
theorem zbyb_62 : zbys zbyl_62 (cX2_readDeeper.data.toList.drop 66) 66 = true := by decide +kernel
theorem dX2_readDeeper_66 : decode cX2_readDeeper 66 = .ok (.getfield 14, 3) := zby_g zbyb_62 (i := 0) rfl rfl
theorem dX2_readDeeper_69 : decode cX2_readDeeper 69 = .ok (.bipush 12, 2) := zby_g zbyb_62 (i := 1) rfl rfl
theorem dX2_readDeeper_71 : decode cX2_readDeeper 71 = .ok (.iconst 0, 1) := zby_g zbyb_62 (i := 2) rfl rfl
theorem dX2_readDeeper_72 : decode cX2_readDeeper 72 = .ok (.invokevirtual 54, 3) := zby_g zbyb_62 (i := 3) rfl rfl
theorem dX2_readDeeper_75 : decode cX2_readDeeper 75 = .ok (.pop, 1) := zby_g zbyb_62 (i := 4) rfl rfl
theorem dX2_readDeeper_76 : decode cX2_readDeeper 76 = .ok (.iconst 1, 1) := zby_g zbyb_62 (i := 5) rfl rfl
theorem dX2_readDeeper_77 : decode cX2_readDeeper 77 = .ok (.ireturn, 1) := zby_g zbyb_62 (i := 6) rfl rfl
noncomputable def zbyl_63 : List (Nat × zbyE) := [(0, zbyo_3), (1, zbyo_60), (2, zbyo_27), (3, zbyo_17 400), (6, zbyo_162 164), (9, zbyo_42), (10, zbyo_180 20), (13, zbyo_18 87), (15, zbyo_182 26), (18, zbyo_153 7), (21, zbyo_4), (22, zbyo_167 85), (25, zbyo_42), (26, zbyo_180 20), (29, zbyo_18 89), (31, zbyo_182 26)]
theorem zbyb_63 : zbys zbyl_63 (cX2_readSum.data.toList.drop 0) 0 = true := by decide +kernel
theorem dX2_readSum_0 : decode cX2_readSum 0 = .ok (.iconst 0, 1) := zby_g zbyb_63 (i := 0) rfl rfl
theorem dX2_readSum_1 : decode cX2_readSum 1 = .ok (.istore_n 1, 1) := zby_g zbyb_63 (i := 1) rfl rfl
theorem dX2_readSum_2 : decode cX2_readSum 2 = .ok (.iload_n 1, 1) := zby_g zbyb_63 (i := 2) rfl rfl
theorem dX2_readSum_3 : decode cX2_readSum 3 = .ok (.sipush 400, 3) := zby_g zbyb_63 (i := 3) rfl rfl
theorem dX2_readSum_6 : decode cX2_readSum 6 = .ok (.if_icmp .ge 164, 3) := zby_g zbyb_63 (i := 4) rfl rfl
theorem dX2_readSum_9 : decode cX2_readSum 9 = .ok (.aload_n 0, 1) := zby_g zbyb_63 (i := 5) rfl rfl
theorem dX2_readSum_10 : decode cX2_readSum 10 = .ok (.getfield 20, 3) := zby_g zbyb_63 (i := 6) rfl rfl
theorem dX2_readSum_13 : decode cX2_readSum 13 = .ok (.ldc 87, 2) := zby_g zbyb_63 (i := 7) rfl rfl
theorem dX2_readSum_15 : decode cX2_readSum 15 = .ok (.invokevirtual 26, 3) := zby_g zbyb_63 (i := 8) rfl rfl
theorem dX2_readSum_18 : decode cX2_readSum 18 = .ok (.ifCond .eq 7, 3) := zby_g zbyb_63 (i := 9) rfl rfl
theorem dX2_readSum_21 : decode cX2_readSum 21 = .ok (.iconst 1, 1) := zby_g zbyb_63 (i := 10) rfl rfl
theorem dX2_readSum_22 : decode cX2_readSum 22 = .ok (.goto 85, 3) := zby_g zbyb_63 (i := 11) rfl rfl
theorem dX2_readSum_25 : decode cX2_readSum 25 = .ok (.aload_n 0, 1) := zby_g zbyb_63 (i := 12) rfl rfl
theorem dX2_readSum_26 : decode cX2_readSum 26 = .ok (.getfield 20, 3) := zby_g zbyb_63 (i := 13) rfl rfl
theorem dX2_readSum_29 : decode cX2_readSum 29 = .ok (.ldc 89, 2) := zby_g zbyb_63 (i := 14) rfl rfl
theorem dX2_readSum_31 : decode cX2_readSum 31 = .ok (.invokevirtual 26, 3) := zby_g zbyb_63 (i := 15) rfl rfl
noncomputable def zbyl_64 : List (Nat × zbyE) := [(34, zbyo_153 7), (37, zbyo_5), (38, zbyo_167 69), (41, zbyo_42), (42, zbyo_180 20), (45, zbyo_18 91), (47, zbyo_182 26), (50, zbyo_153 7), (53, zbyo_6), (54, zbyo_167 53), (57, zbyo_42), (58, zbyo_180 20), (61, zbyo_18 93), (63, zbyo_182 26), (66, zbyo_153 7), (69, zbyo_7)]
theorem zbyb_64 : zbys zbyl_64 (cX2_readSum.data.toList.drop 34) 34 = true := by decide +kernel
theorem dX2_readSum_34 : decode cX2_readSum 34 = .ok (.ifCond .eq 7, 3) := zby_g zbyb_64 (i := 0) rfl rfl
theorem dX2_readSum_37 : decode cX2_readSum 37 = .ok (.iconst 2, 1) := zby_g zbyb_64 (i := 1) rfl rfl
theorem dX2_readSum_38 : decode cX2_readSum 38 = .ok (.goto 69, 3) := zby_g zbyb_64 (i := 2) rfl rfl
theorem dX2_readSum_41 : decode cX2_readSum 41 = .ok (.aload_n 0, 1) := zby_g zbyb_64 (i := 3) rfl rfl
theorem dX2_readSum_42 : decode cX2_readSum 42 = .ok (.getfield 20, 3) := zby_g zbyb_64 (i := 4) rfl rfl
theorem dX2_readSum_45 : decode cX2_readSum 45 = .ok (.ldc 91, 2) := zby_g zbyb_64 (i := 5) rfl rfl
theorem dX2_readSum_47 : decode cX2_readSum 47 = .ok (.invokevirtual 26, 3) := zby_g zbyb_64 (i := 6) rfl rfl
theorem dX2_readSum_50 : decode cX2_readSum 50 = .ok (.ifCond .eq 7, 3) := zby_g zbyb_64 (i := 7) rfl rfl
theorem dX2_readSum_53 : decode cX2_readSum 53 = .ok (.iconst 3, 1) := zby_g zbyb_64 (i := 8) rfl rfl
theorem dX2_readSum_54 : decode cX2_readSum 54 = .ok (.goto 53, 3) := zby_g zbyb_64 (i := 9) rfl rfl
theorem dX2_readSum_57 : decode cX2_readSum 57 = .ok (.aload_n 0, 1) := zby_g zbyb_64 (i := 10) rfl rfl
theorem dX2_readSum_58 : decode cX2_readSum 58 = .ok (.getfield 20, 3) := zby_g zbyb_64 (i := 11) rfl rfl
theorem dX2_readSum_61 : decode cX2_readSum 61 = .ok (.ldc 93, 2) := zby_g zbyb_64 (i := 12) rfl rfl
theorem dX2_readSum_63 : decode cX2_readSum 63 = .ok (.invokevirtual 26, 3) := zby_g zbyb_64 (i := 13) rfl rfl
theorem dX2_readSum_66 : decode cX2_readSum 66 = .ok (.ifCond .eq 7, 3) := zby_g zbyb_64 (i := 14) rfl rfl
theorem dX2_readSum_69 : decode cX2_readSum 69 = .ok (.iconst 4, 1) := zby_g zbyb_64 (i := 15) rfl rfl
noncomputable def zbyl_65 : List (Nat × zbyE) := [(70, zbyo_167 37), (73, zbyo_42), (74, zbyo_180 20), (77, zbyo_18 95), (79, zbyo_182 26), (82, zbyo_153 7), (85, zbyo_8), (86, zbyo_167 21), (89, zbyo_42), (90, zbyo_180 20), (93, zbyo_18 97), (95, zbyo_182 26), (98, zbyo_153 8), (101, zbyo_16 6), (103, zbyo_167 4), (106, zbyo_3)]
theorem zbyb_65 : zbys zbyl_65 (cX2_readSum.data.toList.drop 70) 70 = true := by decide +kernel
theorem dX2_readSum_70 : decode cX2_readSum 70 = .ok (.goto 37, 3) := zby_g zbyb_65 (i := 0) rfl rfl
theorem dX2_readSum_73 : decode cX2_readSum 73 = .ok (.aload_n 0, 1) := zby_g zbyb_65 (i := 1) rfl rfl
theorem dX2_readSum_74 : decode cX2_readSum 74 = .ok (.getfield 20, 3) := zby_g zbyb_65 (i := 2) rfl rfl
theorem dX2_readSum_77 : decode cX2_readSum 77 = .ok (.ldc 95, 2) := zby_g zbyb_65 (i := 3) rfl rfl
theorem dX2_readSum_79 : decode cX2_readSum 79 = .ok (.invokevirtual 26, 3) := zby_g zbyb_65 (i := 4) rfl rfl
theorem dX2_readSum_82 : decode cX2_readSum 82 = .ok (.ifCond .eq 7, 3) := zby_g zbyb_65 (i := 5) rfl rfl
theorem dX2_readSum_85 : decode cX2_readSum 85 = .ok (.iconst 5, 1) := zby_g zbyb_65 (i := 6) rfl rfl
theorem dX2_readSum_86 : decode cX2_readSum 86 = .ok (.goto 21, 3) := zby_g zbyb_65 (i := 7) rfl rfl
theorem dX2_readSum_89 : decode cX2_readSum 89 = .ok (.aload_n 0, 1) := zby_g zbyb_65 (i := 8) rfl rfl
theorem dX2_readSum_90 : decode cX2_readSum 90 = .ok (.getfield 20, 3) := zby_g zbyb_65 (i := 9) rfl rfl
theorem dX2_readSum_93 : decode cX2_readSum 93 = .ok (.ldc 97, 2) := zby_g zbyb_65 (i := 10) rfl rfl
theorem dX2_readSum_95 : decode cX2_readSum 95 = .ok (.invokevirtual 26, 3) := zby_g zbyb_65 (i := 11) rfl rfl
theorem dX2_readSum_98 : decode cX2_readSum 98 = .ok (.ifCond .eq 8, 3) := zby_g zbyb_65 (i := 12) rfl rfl
theorem dX2_readSum_101 : decode cX2_readSum 101 = .ok (.bipush 6, 2) := zby_g zbyb_65 (i := 13) rfl rfl
theorem dX2_readSum_103 : decode cX2_readSum 103 = .ok (.goto 4, 3) := zby_g zbyb_65 (i := 14) rfl rfl
theorem dX2_readSum_106 : decode cX2_readSum 106 = .ok (.iconst 0, 1) := zby_g zbyb_65 (i := 15) rfl rfl
noncomputable def zbyl_66 : List (Nat × zbyE) := [(107, zbyo_61), (108, zbyo_3), (109, zbyo_62), (110, zbyo_28), (111, zbyo_154 22), (114, zbyo_42), (115, zbyo_180 20), (118, zbyo_3), (119, zbyo_17 999), (122, zbyo_182 41), (125, zbyo_62), (126, zbyo_29), (127, zbyo_2), (128, zbyo_160 12), (131, zbyo_3), (132, zbyo_172)]
theorem zbyb_66 : zbys zbyl_66 (cX2_readSum.data.toList.drop 107) 107 = true := by decide +kernel
theorem dX2_readSum_107 : decode cX2_readSum 107 = .ok (.istore_n 2, 1) := zby_g zbyb_66 (i := 0) rfl rfl
theorem dX2_readSum_108 : decode cX2_readSum 108 = .ok (.iconst 0, 1) := zby_g zbyb_66 (i := 1) rfl rfl
theorem dX2_readSum_109 : decode cX2_readSum 109 = .ok (.istore_n 3, 1) := zby_g zbyb_66 (i := 2) rfl rfl
theorem dX2_readSum_110 : decode cX2_readSum 110 = .ok (.iload_n 2, 1) := zby_g zbyb_66 (i := 3) rfl rfl
theorem dX2_readSum_111 : decode cX2_readSum 111 = .ok (.ifCond .ne 22, 3) := zby_g zbyb_66 (i := 4) rfl rfl
theorem dX2_readSum_114 : decode cX2_readSum 114 = .ok (.aload_n 0, 1) := zby_g zbyb_66 (i := 5) rfl rfl
theorem dX2_readSum_115 : decode cX2_readSum 115 = .ok (.getfield 20, 3) := zby_g zbyb_66 (i := 6) rfl rfl
theorem dX2_readSum_118 : decode cX2_readSum 118 = .ok (.iconst 0, 1) := zby_g zbyb_66 (i := 7) rfl rfl
theorem dX2_readSum_119 : decode cX2_readSum 119 = .ok (.sipush 999, 3) := zby_g zbyb_66 (i := 8) rfl rfl
theorem dX2_readSum_122 : decode cX2_readSum 122 = .ok (.invokevirtual 41, 3) := zby_g zbyb_66 (i := 9) rfl rfl
theorem dX2_readSum_125 : decode cX2_readSum 125 = .ok (.istore_n 3, 1) := zby_g zbyb_66 (i := 10) rfl rfl
theorem dX2_readSum_126 : decode cX2_readSum 126 = .ok (.iload_n 3, 1) := zby_g zbyb_66 (i := 11) rfl rfl
theorem dX2_readSum_127 : decode cX2_readSum 127 = .ok (.iconst (-1), 1) := zby_g zbyb_66 (i := 12) rfl rfl
theorem dX2_readSum_128 : decode cX2_readSum 128 = .ok (.if_icmp .ne 12, 3) := zby_g zbyb_66 (i := 13) rfl rfl
theorem dX2_readSum_131 : decode cX2_readSum 131 = .ok (.iconst 0, 1) := zby_g zbyb_66 (i := 14) rfl rfl
theorem dX2_readSum_132 : decode cX2_readSum 132 = .ok (.ireturn, 1) := zby_g zbyb_66 (i := 15) rfl rfl
noncomputable def zbyl_67 : List (Nat × zbyE) := [(133, zbyo_42), (134, zbyo_180 20), (137, zbyo_182 38), (140, zbyo_42), (141, zbyo_180 14), (144, zbyo_28), (145, zbyo_29), (146, zbyo_182 54), (149, zbyo_87), (150, zbyo_42), (151, zbyo_180 20), (154, zbyo_16 43), (156, zbyo_182 84), (159, zbyo_154 5), (162, zbyo_4), (163, zbyo_172)]
theorem zbyb_67 : zbys zbyl_67 (cX2_readSum.data.toList.drop 133) 133 = true := by decide +kernel
theorem dX2_readSum_133 : decode cX2_readSum 133 = .ok (.aload_n 0, 1) := zby_g zbyb_67 (i := 0) rfl rfl
theorem dX2_readSum_134 : decode cX2_readSum 134 = .ok (.getfield 20, 3) := zby_g zbyb_67 (i := 1) rfl rfl
theorem dX2_readSum_137 : decode cX2_readSum 137 = .ok (.invokevirtual 38, 3) := zby_g zbyb_67 (i := 2) rfl rfl
theorem dX2_readSum_140 : decode cX2_readSum 140 = .ok (.aload_n 0, 1) := zby_g zbyb_67 (i := 3) rfl rfl
theorem dX2_readSum_141 : decode cX2_readSum 141 = .ok (.getfield 14, 3) := zby_g zbyb_67 (i := 4) rfl rfl
theorem dX2_readSum_144 : decode cX2_readSum 144 = .ok (.iload_n 2, 1) := zby_g zbyb_67 (i := 5) rfl rfl
theorem dX2_readSum_145 : decode cX2_readSum 145 = .ok (.iload_n 3, 1) := zby_g zbyb_67 (i := 6) rfl rfl
theorem dX2_readSum_146 : decode cX2_readSum 146 = .ok (.invokevirtual 54, 3) := zby_g zbyb_67 (i := 7) rfl rfl
theorem dX2_readSum_149 : decode cX2_readSum 149 = .ok (.pop, 1) := zby_g zbyb_67 (i := 8) rfl rfl
theorem dX2_readSum_150 : decode cX2_readSum 150 = .ok (.aload_n 0, 1) := zby_g zbyb_67 (i := 9) rfl rfl
theorem dX2_readSum_151 : decode cX2_readSum 151 = .ok (.getfield 20, 3) := zby_g zbyb_67 (i := 10) rfl rfl
theorem dX2_readSum_154 : decode cX2_readSum 154 = .ok (.bipush 43, 2) := zby_g zbyb_67 (i := 11) rfl rfl
theorem dX2_readSum_156 : decode cX2_readSum 156 = .ok (.invokevirtual 84, 3) := zby_g zbyb_67 (i := 12) rfl rfl
theorem dX2_readSum_159 : decode cX2_readSum 159 = .ok (.ifCond .ne 5, 3) := zby_g zbyb_67 (i := 13) rfl rfl
theorem dX2_readSum_162 : decode cX2_readSum 162 = .ok (.iconst 1, 1) := zby_g zbyb_67 (i := 14) rfl rfl
theorem dX2_readSum_163 : decode cX2_readSum 163 = .ok (.ireturn, 1) := zby_g zbyb_67 (i := 15) rfl rfl
noncomputable def zbyl_68 : List (Nat × zbyE) := [(164, zbyo_132 1 1), (167, zbyo_167 (-165)), (170, zbyo_42), (171, zbyo_180 20), (174, zbyo_182 34), (177, zbyo_172)]
theorem zbyb_68 : zbys zbyl_68 (cX2_readSum.data.toList.drop 164) 164 = true := by decide +kernel
theorem dX2_readSum_164 : decode cX2_readSum 164 = .ok (.iinc 1 1, 3) := zby_g zbyb_68 (i := 0) rfl rfl
theorem dX2_readSum_167 : decode cX2_readSum 167 = .ok (.goto (-165), 3) := zby_g zbyb_68 (i := 1) rfl rfl
theorem dX2_readSum_170 : decode cX2_readSum 170 = .ok (.aload_n 0, 1) := zby_g zbyb_68 (i := 2) rfl rfl
theorem dX2_readSum_171 : decode cX2_readSum 171 = .ok (.getfield 20, 3) := zby_g zbyb_68 (i := 3) rfl rfl
theorem dX2_readSum_174 : decode cX2_readSum 174 = .ok (.invokevirtual 34, 3) := zby_g zbyb_68 (i := 4) rfl rfl
theorem dX2_readSum_177 : decode cX2_readSum 177 = .ok (.ireturn, 1) := zby_g zbyb_68 (i := 5) rfl rfl
noncomputable def zbyl_69 : List (Nat × zbyE) := [(0, zbyo_42), (1, zbyo_183 3), (4, zbyo_42), (5, zbyo_17 240), (8, zbyo_188_10), (10, zbyo_181 9), (13, zbyo_177)]
theorem zbyb_69 : zbys zbyl_69 (cX3_init.data.toList.drop 0) 0 = true := by decide +kernel
theorem dX3_init_0 : decode cX3_init 0 = .ok (.aload_n 0, 1) := zby_g zbyb_69 (i := 0) rfl rfl
theorem dX3_init_1 : decode cX3_init 1 = .ok (.invokespecial 3, 3) := zby_g zbyb_69 (i := 1) rfl rfl
theorem dX3_init_4 : decode cX3_init 4 = .ok (.aload_n 0, 1) := zby_g zbyb_69 (i := 2) rfl rfl
theorem dX3_init_5 : decode cX3_init 5 = .ok (.sipush 240, 3) := zby_g zbyb_69 (i := 3) rfl rfl
theorem dX3_init_8 : decode cX3_init 8 = .ok (.newarray .int, 2) := zby_g zbyb_69 (i := 4) rfl rfl
theorem dX3_init_10 : decode cX3_init 10 = .ok (.putfield 9, 3) := zby_g zbyb_69 (i := 5) rfl rfl
theorem dX3_init_13 : decode cX3_init 13 = .ok (.return_, 1) := zby_g zbyb_69 (i := 6) rfl rfl
noncomputable def zbyl_70 : List (Nat × zbyE) := [(0, zbyo_43), (1, zbyo_180 9), (4, zbyo_3), (5, zbyo_42), (6, zbyo_180 9), (9, zbyo_3), (10, zbyo_17 240), (13, zbyo_184 15), (16, zbyo_42), (17, zbyo_43), (18, zbyo_180 21), (21, zbyo_181 21), (24, zbyo_42), (25, zbyo_43), (26, zbyo_180 25), (29, zbyo_181 25)]
theorem zbyb_70 : zbys zbyl_70 (cX3_copyFrom.data.toList.drop 0) 0 = true := by decide +kernel
theorem dX3_copyFrom_0 : decode cX3_copyFrom 0 = .ok (.aload_n 1, 1) := zby_g zbyb_70 (i := 0) rfl rfl
theorem dX3_copyFrom_1 : decode cX3_copyFrom 1 = .ok (.getfield 9, 3) := zby_g zbyb_70 (i := 1) rfl rfl
theorem dX3_copyFrom_4 : decode cX3_copyFrom 4 = .ok (.iconst 0, 1) := zby_g zbyb_70 (i := 2) rfl rfl
theorem dX3_copyFrom_5 : decode cX3_copyFrom 5 = .ok (.aload_n 0, 1) := zby_g zbyb_70 (i := 3) rfl rfl
theorem dX3_copyFrom_6 : decode cX3_copyFrom 6 = .ok (.getfield 9, 3) := zby_g zbyb_70 (i := 4) rfl rfl
theorem dX3_copyFrom_9 : decode cX3_copyFrom 9 = .ok (.iconst 0, 1) := zby_g zbyb_70 (i := 5) rfl rfl
theorem dX3_copyFrom_10 : decode cX3_copyFrom 10 = .ok (.sipush 240, 3) := zby_g zbyb_70 (i := 6) rfl rfl
theorem dX3_copyFrom_13 : decode cX3_copyFrom 13 = .ok (.invokestatic 15, 3) := zby_g zbyb_70 (i := 7) rfl rfl
theorem dX3_copyFrom_16 : decode cX3_copyFrom 16 = .ok (.aload_n 0, 1) := zby_g zbyb_70 (i := 8) rfl rfl
theorem dX3_copyFrom_17 : decode cX3_copyFrom 17 = .ok (.aload_n 1, 1) := zby_g zbyb_70 (i := 9) rfl rfl
theorem dX3_copyFrom_18 : decode cX3_copyFrom 18 = .ok (.getfield 21, 3) := zby_g zbyb_70 (i := 10) rfl rfl
theorem dX3_copyFrom_21 : decode cX3_copyFrom 21 = .ok (.putfield 21, 3) := zby_g zbyb_70 (i := 11) rfl rfl
theorem dX3_copyFrom_24 : decode cX3_copyFrom 24 = .ok (.aload_n 0, 1) := zby_g zbyb_70 (i := 12) rfl rfl
theorem dX3_copyFrom_25 : decode cX3_copyFrom 25 = .ok (.aload_n 1, 1) := zby_g zbyb_70 (i := 13) rfl rfl
theorem dX3_copyFrom_26 : decode cX3_copyFrom 26 = .ok (.getfield 25, 3) := zby_g zbyb_70 (i := 14) rfl rfl
theorem dX3_copyFrom_29 : decode cX3_copyFrom 29 = .ok (.putfield 25, 3) := zby_g zbyb_70 (i := 15) rfl rfl
noncomputable def zbyl_71 : List (Nat × zbyE) := [(32, zbyo_177)]
theorem zbyb_71 : zbys zbyl_71 (cX3_copyFrom.data.toList.drop 32) 32 = true := by decide +kernel
theorem dX3_copyFrom_32 : decode cX3_copyFrom 32 = .ok (.return_, 1) := zby_g zbyb_71 (i := 0) rfl rfl
noncomputable def zbyl_72 : List (Nat × zbyE) := [(0, zbyo_42), (1, zbyo_180 25), (4, zbyo_7), (5, zbyo_104), (6, zbyo_54 5), (8, zbyo_42), (9, zbyo_180 9), (12, zbyo_21 5), (14, zbyo_27), (15, zbyo_79), (16, zbyo_42), (17, zbyo_180 9), (20, zbyo_21 5), (22, zbyo_4), (23, zbyo_96), (24, zbyo_28)]
theorem zbyb_72 : zbys zbyl_72 (cX3_add.data.toList.drop 0) 0 = true := by decide +kernel
theorem dX3_add_0 : decode cX3_add 0 = .ok (.aload_n 0, 1) := zby_g zbyb_72 (i := 0) rfl rfl
theorem dX3_add_1 : decode cX3_add 1 = .ok (.getfield 25, 3) := zby_g zbyb_72 (i := 1) rfl rfl
theorem dX3_add_4 : decode cX3_add 4 = .ok (.iconst 4, 1) := zby_g zbyb_72 (i := 2) rfl rfl
theorem dX3_add_5 : decode cX3_add 5 = .ok (.imul, 1) := zby_g zbyb_72 (i := 3) rfl rfl
theorem dX3_add_6 : decode cX3_add 6 = .ok (.istore 5, 2) := zby_g zbyb_72 (i := 4) rfl rfl
theorem dX3_add_8 : decode cX3_add 8 = .ok (.aload_n 0, 1) := zby_g zbyb_72 (i := 5) rfl rfl
theorem dX3_add_9 : decode cX3_add 9 = .ok (.getfield 9, 3) := zby_g zbyb_72 (i := 6) rfl rfl
theorem dX3_add_12 : decode cX3_add 12 = .ok (.iload 5, 2) := zby_g zbyb_72 (i := 7) rfl rfl
theorem dX3_add_14 : decode cX3_add 14 = .ok (.iload_n 1, 1) := zby_g zbyb_72 (i := 8) rfl rfl
theorem dX3_add_15 : decode cX3_add 15 = .ok (.iastore, 1) := zby_g zbyb_72 (i := 9) rfl rfl
theorem dX3_add_16 : decode cX3_add 16 = .ok (.aload_n 0, 1) := zby_g zbyb_72 (i := 10) rfl rfl
theorem dX3_add_17 : decode cX3_add 17 = .ok (.getfield 9, 3) := zby_g zbyb_72 (i := 11) rfl rfl
theorem dX3_add_20 : decode cX3_add 20 = .ok (.iload 5, 2) := zby_g zbyb_72 (i := 12) rfl rfl
theorem dX3_add_22 : decode cX3_add 22 = .ok (.iconst 1, 1) := zby_g zbyb_72 (i := 13) rfl rfl
theorem dX3_add_23 : decode cX3_add 23 = .ok (.iadd, 1) := zby_g zbyb_72 (i := 14) rfl rfl
theorem dX3_add_24 : decode cX3_add 24 = .ok (.iload_n 2, 1) := zby_g zbyb_72 (i := 15) rfl rfl
noncomputable def zbyl_73 : List (Nat × zbyE) := [(25, zbyo_79), (26, zbyo_42), (27, zbyo_180 9), (30, zbyo_21 5), (32, zbyo_5), (33, zbyo_96), (34, zbyo_29), (35, zbyo_79), (36, zbyo_42), (37, zbyo_180 9), (40, zbyo_21 5), (42, zbyo_6), (43, zbyo_96), (44, zbyo_21 4), (46, zbyo_79), (47, zbyo_42)]
theorem zbyb_73 : zbys zbyl_73 (cX3_add.data.toList.drop 25) 25 = true := by decide +kernel
theorem dX3_add_25 : decode cX3_add 25 = .ok (.iastore, 1) := zby_g zbyb_73 (i := 0) rfl rfl
theorem dX3_add_26 : decode cX3_add 26 = .ok (.aload_n 0, 1) := zby_g zbyb_73 (i := 1) rfl rfl
theorem dX3_add_27 : decode cX3_add 27 = .ok (.getfield 9, 3) := zby_g zbyb_73 (i := 2) rfl rfl
theorem dX3_add_30 : decode cX3_add 30 = .ok (.iload 5, 2) := zby_g zbyb_73 (i := 3) rfl rfl
theorem dX3_add_32 : decode cX3_add 32 = .ok (.iconst 2, 1) := zby_g zbyb_73 (i := 4) rfl rfl
theorem dX3_add_33 : decode cX3_add 33 = .ok (.iadd, 1) := zby_g zbyb_73 (i := 5) rfl rfl
theorem dX3_add_34 : decode cX3_add 34 = .ok (.iload_n 3, 1) := zby_g zbyb_73 (i := 6) rfl rfl
theorem dX3_add_35 : decode cX3_add 35 = .ok (.iastore, 1) := zby_g zbyb_73 (i := 7) rfl rfl
theorem dX3_add_36 : decode cX3_add 36 = .ok (.aload_n 0, 1) := zby_g zbyb_73 (i := 8) rfl rfl
theorem dX3_add_37 : decode cX3_add 37 = .ok (.getfield 9, 3) := zby_g zbyb_73 (i := 9) rfl rfl
theorem dX3_add_40 : decode cX3_add 40 = .ok (.iload 5, 2) := zby_g zbyb_73 (i := 10) rfl rfl
theorem dX3_add_42 : decode cX3_add 42 = .ok (.iconst 3, 1) := zby_g zbyb_73 (i := 11) rfl rfl
theorem dX3_add_43 : decode cX3_add 43 = .ok (.iadd, 1) := zby_g zbyb_73 (i := 12) rfl rfl
theorem dX3_add_44 : decode cX3_add 44 = .ok (.iload 4, 2) := zby_g zbyb_73 (i := 13) rfl rfl
theorem dX3_add_46 : decode cX3_add 46 = .ok (.iastore, 1) := zby_g zbyb_73 (i := 14) rfl rfl
theorem dX3_add_47 : decode cX3_add 47 = .ok (.aload_n 0, 1) := zby_g zbyb_73 (i := 15) rfl rfl
noncomputable def zbyl_74 : List (Nat × zbyE) := [(48, zbyo_42), (49, zbyo_180 25), (52, zbyo_4), (53, zbyo_96), (54, zbyo_16 60), (56, zbyo_112), (57, zbyo_181 25), (60, zbyo_42), (61, zbyo_16 60), (63, zbyo_42), (64, zbyo_180 21), (67, zbyo_4), (68, zbyo_96), (69, zbyo_184 28), (72, zbyo_181 21), (75, zbyo_177)]
theorem zbyb_74 : zbys zbyl_74 (cX3_add.data.toList.drop 48) 48 = true := by decide +kernel
theorem dX3_add_48 : decode cX3_add 48 = .ok (.aload_n 0, 1) := zby_g zbyb_74 (i := 0) rfl rfl
theorem dX3_add_49 : decode cX3_add 49 = .ok (.getfield 25, 3) := zby_g zbyb_74 (i := 1) rfl rfl
theorem dX3_add_52 : decode cX3_add 52 = .ok (.iconst 1, 1) := zby_g zbyb_74 (i := 2) rfl rfl
theorem dX3_add_53 : decode cX3_add 53 = .ok (.iadd, 1) := zby_g zbyb_74 (i := 3) rfl rfl
theorem dX3_add_54 : decode cX3_add 54 = .ok (.bipush 60, 2) := zby_g zbyb_74 (i := 4) rfl rfl
theorem dX3_add_56 : decode cX3_add 56 = .ok (.irem, 1) := zby_g zbyb_74 (i := 5) rfl rfl
theorem dX3_add_57 : decode cX3_add 57 = .ok (.putfield 25, 3) := zby_g zbyb_74 (i := 6) rfl rfl
theorem dX3_add_60 : decode cX3_add 60 = .ok (.aload_n 0, 1) := zby_g zbyb_74 (i := 7) rfl rfl
theorem dX3_add_61 : decode cX3_add 61 = .ok (.bipush 60, 2) := zby_g zbyb_74 (i := 8) rfl rfl
theorem dX3_add_63 : decode cX3_add 63 = .ok (.aload_n 0, 1) := zby_g zbyb_74 (i := 9) rfl rfl
theorem dX3_add_64 : decode cX3_add 64 = .ok (.getfield 21, 3) := zby_g zbyb_74 (i := 10) rfl rfl
theorem dX3_add_67 : decode cX3_add 67 = .ok (.iconst 1, 1) := zby_g zbyb_74 (i := 11) rfl rfl
theorem dX3_add_68 : decode cX3_add 68 = .ok (.iadd, 1) := zby_g zbyb_74 (i := 12) rfl rfl
theorem dX3_add_69 : decode cX3_add 69 = .ok (.invokestatic 28, 3) := zby_g zbyb_74 (i := 13) rfl rfl
theorem dX3_add_72 : decode cX3_add 72 = .ok (.putfield 21, 3) := zby_g zbyb_74 (i := 14) rfl rfl
theorem dX3_add_75 : decode cX3_add 75 = .ok (.return_, 1) := zby_g zbyb_74 (i := 15) rfl rfl
noncomputable def zbyl_75 : List (Nat × zbyE) := [(0, zbyo_27), (1, zbyo_155 11), (4, zbyo_27), (5, zbyo_42), (6, zbyo_180 21), (9, zbyo_161 5), (12, zbyo_2), (13, zbyo_172), (14, zbyo_42), (15, zbyo_180 9), (18, zbyo_42), (19, zbyo_180 25), (22, zbyo_4), (23, zbyo_100), (24, zbyo_27), (25, zbyo_100)]
theorem zbyb_75 : zbys zbyl_75 (cX3_at.data.toList.drop 0) 0 = true := by decide +kernel
theorem dX3_at_0 : decode cX3_at 0 = .ok (.iload_n 1, 1) := zby_g zbyb_75 (i := 0) rfl rfl
theorem dX3_at_1 : decode cX3_at 1 = .ok (.ifCond .lt 11, 3) := zby_g zbyb_75 (i := 1) rfl rfl
theorem dX3_at_4 : decode cX3_at 4 = .ok (.iload_n 1, 1) := zby_g zbyb_75 (i := 2) rfl rfl
theorem dX3_at_5 : decode cX3_at 5 = .ok (.aload_n 0, 1) := zby_g zbyb_75 (i := 3) rfl rfl
theorem dX3_at_6 : decode cX3_at 6 = .ok (.getfield 21, 3) := zby_g zbyb_75 (i := 4) rfl rfl
theorem dX3_at_9 : decode cX3_at 9 = .ok (.if_icmp .lt 5, 3) := zby_g zbyb_75 (i := 5) rfl rfl
theorem dX3_at_12 : decode cX3_at 12 = .ok (.iconst (-1), 1) := zby_g zbyb_75 (i := 6) rfl rfl
theorem dX3_at_13 : decode cX3_at 13 = .ok (.ireturn, 1) := zby_g zbyb_75 (i := 7) rfl rfl
theorem dX3_at_14 : decode cX3_at 14 = .ok (.aload_n 0, 1) := zby_g zbyb_75 (i := 8) rfl rfl
theorem dX3_at_15 : decode cX3_at 15 = .ok (.getfield 9, 3) := zby_g zbyb_75 (i := 9) rfl rfl
theorem dX3_at_18 : decode cX3_at 18 = .ok (.aload_n 0, 1) := zby_g zbyb_75 (i := 10) rfl rfl
theorem dX3_at_19 : decode cX3_at 19 = .ok (.getfield 25, 3) := zby_g zbyb_75 (i := 11) rfl rfl
theorem dX3_at_22 : decode cX3_at 22 = .ok (.iconst 1, 1) := zby_g zbyb_75 (i := 12) rfl rfl
theorem dX3_at_23 : decode cX3_at 23 = .ok (.isub, 1) := zby_g zbyb_75 (i := 13) rfl rfl
theorem dX3_at_24 : decode cX3_at 24 = .ok (.iload_n 1, 1) := zby_g zbyb_75 (i := 14) rfl rfl
theorem dX3_at_25 : decode cX3_at 25 = .ok (.isub, 1) := zby_g zbyb_75 (i := 15) rfl rfl
noncomputable def zbyl_76 : List (Nat × zbyE) := [(26, zbyo_16 60), (28, zbyo_184 34), (31, zbyo_7), (32, zbyo_104), (33, zbyo_28), (34, zbyo_96), (35, zbyo_46), (36, zbyo_172)]
theorem zbyb_76 : zbys zbyl_76 (cX3_at.data.toList.drop 26) 26 = true := by decide +kernel
theorem dX3_at_26 : decode cX3_at 26 = .ok (.bipush 60, 2) := zby_g zbyb_76 (i := 0) rfl rfl
theorem dX3_at_28 : decode cX3_at 28 = .ok (.invokestatic 34, 3) := zby_g zbyb_76 (i := 1) rfl rfl
theorem dX3_at_31 : decode cX3_at 31 = .ok (.iconst 4, 1) := zby_g zbyb_76 (i := 2) rfl rfl
theorem dX3_at_32 : decode cX3_at 32 = .ok (.imul, 1) := zby_g zbyb_76 (i := 3) rfl rfl
theorem dX3_at_33 : decode cX3_at 33 = .ok (.iload_n 2, 1) := zby_g zbyb_76 (i := 4) rfl rfl
theorem dX3_at_34 : decode cX3_at 34 = .ok (.iadd, 1) := zby_g zbyb_76 (i := 5) rfl rfl
theorem dX3_at_35 : decode cX3_at 35 = .ok (.iaload, 1) := zby_g zbyb_76 (i := 6) rfl rfl
theorem dX3_at_36 : decode cX3_at 36 = .ok (.ireturn, 1) := zby_g zbyb_76 (i := 7) rfl rfl
noncomputable def zbyl_77 : List (Nat × zbyE) := [(0, zbyo_42), (1, zbyo_27), (2, zbyo_4), (3, zbyo_182 37), (6, zbyo_28), (7, zbyo_160 17), (10, zbyo_42), (11, zbyo_27), (12, zbyo_5), (13, zbyo_182 37), (16, zbyo_4), (17, zbyo_163 7), (20, zbyo_4), (21, zbyo_167 4), (24, zbyo_3), (25, zbyo_172)]
theorem zbyb_77 : zbys zbyl_77 (cX3_isOf.data.toList.drop 0) 0 = true := by decide +kernel
theorem dX3_isOf_0 : decode cX3_isOf 0 = .ok (.aload_n 0, 1) := zby_g zbyb_77 (i := 0) rfl rfl
theorem dX3_isOf_1 : decode cX3_isOf 1 = .ok (.iload_n 1, 1) := zby_g zbyb_77 (i := 1) rfl rfl
theorem dX3_isOf_2 : decode cX3_isOf 2 = .ok (.iconst 1, 1) := zby_g zbyb_77 (i := 2) rfl rfl
theorem dX3_isOf_3 : decode cX3_isOf 3 = .ok (.invokevirtual 37, 3) := zby_g zbyb_77 (i := 3) rfl rfl
theorem dX3_isOf_6 : decode cX3_isOf 6 = .ok (.iload_n 2, 1) := zby_g zbyb_77 (i := 4) rfl rfl
theorem dX3_isOf_7 : decode cX3_isOf 7 = .ok (.if_icmp .ne 17, 3) := zby_g zbyb_77 (i := 5) rfl rfl
theorem dX3_isOf_10 : decode cX3_isOf 10 = .ok (.aload_n 0, 1) := zby_g zbyb_77 (i := 6) rfl rfl
theorem dX3_isOf_11 : decode cX3_isOf 11 = .ok (.iload_n 1, 1) := zby_g zbyb_77 (i := 7) rfl rfl
theorem dX3_isOf_12 : decode cX3_isOf 12 = .ok (.iconst 2, 1) := zby_g zbyb_77 (i := 8) rfl rfl
theorem dX3_isOf_13 : decode cX3_isOf 13 = .ok (.invokevirtual 37, 3) := zby_g zbyb_77 (i := 9) rfl rfl
theorem dX3_isOf_16 : decode cX3_isOf 16 = .ok (.iconst 1, 1) := zby_g zbyb_77 (i := 10) rfl rfl
theorem dX3_isOf_17 : decode cX3_isOf 17 = .ok (.if_icmp .gt 7, 3) := zby_g zbyb_77 (i := 11) rfl rfl
theorem dX3_isOf_20 : decode cX3_isOf 20 = .ok (.iconst 1, 1) := zby_g zbyb_77 (i := 12) rfl rfl
theorem dX3_isOf_21 : decode cX3_isOf 21 = .ok (.goto 4, 3) := zby_g zbyb_77 (i := 13) rfl rfl
theorem dX3_isOf_24 : decode cX3_isOf 24 = .ok (.iconst 0, 1) := zby_g zbyb_77 (i := 14) rfl rfl
theorem dX3_isOf_25 : decode cX3_isOf 25 = .ok (.ireturn, 1) := zby_g zbyb_77 (i := 15) rfl rfl
noncomputable def zbyl_78 : List (Nat × zbyE) := [(0, zbyo_3), (1, zbyo_61), (2, zbyo_3), (3, zbyo_62), (4, zbyo_29), (5, zbyo_42), (6, zbyo_180 21), (9, zbyo_162 21), (12, zbyo_42), (13, zbyo_29), (14, zbyo_27), (15, zbyo_182 40), (18, zbyo_153 6), (21, zbyo_132 2 1), (24, zbyo_132 3 1), (27, zbyo_167 (-23))]
theorem zbyb_78 : zbys zbyl_78 (cX3_rowsOf.data.toList.drop 0) 0 = true := by decide +kernel
theorem dX3_rowsOf_0 : decode cX3_rowsOf 0 = .ok (.iconst 0, 1) := zby_g zbyb_78 (i := 0) rfl rfl
theorem dX3_rowsOf_1 : decode cX3_rowsOf 1 = .ok (.istore_n 2, 1) := zby_g zbyb_78 (i := 1) rfl rfl
theorem dX3_rowsOf_2 : decode cX3_rowsOf 2 = .ok (.iconst 0, 1) := zby_g zbyb_78 (i := 2) rfl rfl
theorem dX3_rowsOf_3 : decode cX3_rowsOf 3 = .ok (.istore_n 3, 1) := zby_g zbyb_78 (i := 3) rfl rfl
theorem dX3_rowsOf_4 : decode cX3_rowsOf 4 = .ok (.iload_n 3, 1) := zby_g zbyb_78 (i := 4) rfl rfl
theorem dX3_rowsOf_5 : decode cX3_rowsOf 5 = .ok (.aload_n 0, 1) := zby_g zbyb_78 (i := 5) rfl rfl
theorem dX3_rowsOf_6 : decode cX3_rowsOf 6 = .ok (.getfield 21, 3) := zby_g zbyb_78 (i := 6) rfl rfl
theorem dX3_rowsOf_9 : decode cX3_rowsOf 9 = .ok (.if_icmp .ge 21, 3) := zby_g zbyb_78 (i := 7) rfl rfl
theorem dX3_rowsOf_12 : decode cX3_rowsOf 12 = .ok (.aload_n 0, 1) := zby_g zbyb_78 (i := 8) rfl rfl
theorem dX3_rowsOf_13 : decode cX3_rowsOf 13 = .ok (.iload_n 3, 1) := zby_g zbyb_78 (i := 9) rfl rfl
theorem dX3_rowsOf_14 : decode cX3_rowsOf 14 = .ok (.iload_n 1, 1) := zby_g zbyb_78 (i := 10) rfl rfl
theorem dX3_rowsOf_15 : decode cX3_rowsOf 15 = .ok (.invokevirtual 40, 3) := zby_g zbyb_78 (i := 11) rfl rfl
theorem dX3_rowsOf_18 : decode cX3_rowsOf 18 = .ok (.ifCond .eq 6, 3) := zby_g zbyb_78 (i := 12) rfl rfl
theorem dX3_rowsOf_21 : decode cX3_rowsOf 21 = .ok (.iinc 2 1, 3) := zby_g zbyb_78 (i := 13) rfl rfl
theorem dX3_rowsOf_24 : decode cX3_rowsOf 24 = .ok (.iinc 3 1, 3) := zby_g zbyb_78 (i := 14) rfl rfl
theorem dX3_rowsOf_27 : decode cX3_rowsOf 27 = .ok (.goto (-23), 3) := zby_g zbyb_78 (i := 15) rfl rfl
noncomputable def zbyl_79 : List (Nat × zbyE) := [(30, zbyo_28), (31, zbyo_172)]
theorem zbyb_79 : zbys zbyl_79 (cX3_rowsOf.data.toList.drop 30) 30 = true := by decide +kernel
theorem dX3_rowsOf_30 : decode cX3_rowsOf 30 = .ok (.iload_n 2, 1) := zby_g zbyb_79 (i := 0) rfl rfl
theorem dX3_rowsOf_31 : decode cX3_rowsOf 31 = .ok (.ireturn, 1) := zby_g zbyb_79 (i := 1) rfl rfl
noncomputable def zbyl_80 : List (Nat × zbyE) := [(0, zbyo_3), (1, zbyo_61), (2, zbyo_28), (3, zbyo_42), (4, zbyo_180 21), (7, zbyo_162 25), (10, zbyo_42), (11, zbyo_28), (12, zbyo_27), (13, zbyo_182 40), (16, zbyo_153 10), (19, zbyo_42), (20, zbyo_28), (21, zbyo_3), (22, zbyo_182 37), (25, zbyo_172)]
theorem zbyb_80 : zbys zbyl_80 (cX3_latestDayOf.data.toList.drop 0) 0 = true := by decide +kernel
theorem dX3_latestDayOf_0 : decode cX3_latestDayOf 0 = .ok (.iconst 0, 1) := zby_g zbyb_80 (i := 0) rfl rfl
theorem dX3_latestDayOf_1 : decode cX3_latestDayOf 1 = .ok (.istore_n 2, 1) := zby_g zbyb_80 (i := 1) rfl rfl
theorem dX3_latestDayOf_2 : decode cX3_latestDayOf 2 = .ok (.iload_n 2, 1) := zby_g zbyb_80 (i := 2) rfl rfl
theorem dX3_latestDayOf_3 : decode cX3_latestDayOf 3 = .ok (.aload_n 0, 1) := zby_g zbyb_80 (i := 3) rfl rfl
theorem dX3_latestDayOf_4 : decode cX3_latestDayOf 4 = .ok (.getfield 21, 3) := zby_g zbyb_80 (i := 4) rfl rfl
theorem dX3_latestDayOf_7 : decode cX3_latestDayOf 7 = .ok (.if_icmp .ge 25, 3) := zby_g zbyb_80 (i := 5) rfl rfl
theorem dX3_latestDayOf_10 : decode cX3_latestDayOf 10 = .ok (.aload_n 0, 1) := zby_g zbyb_80 (i := 6) rfl rfl
theorem dX3_latestDayOf_11 : decode cX3_latestDayOf 11 = .ok (.iload_n 2, 1) := zby_g zbyb_80 (i := 7) rfl rfl
theorem dX3_latestDayOf_12 : decode cX3_latestDayOf 12 = .ok (.iload_n 1, 1) := zby_g zbyb_80 (i := 8) rfl rfl
theorem dX3_latestDayOf_13 : decode cX3_latestDayOf 13 = .ok (.invokevirtual 40, 3) := zby_g zbyb_80 (i := 9) rfl rfl
theorem dX3_latestDayOf_16 : decode cX3_latestDayOf 16 = .ok (.ifCond .eq 10, 3) := zby_g zbyb_80 (i := 10) rfl rfl
theorem dX3_latestDayOf_19 : decode cX3_latestDayOf 19 = .ok (.aload_n 0, 1) := zby_g zbyb_80 (i := 11) rfl rfl
theorem dX3_latestDayOf_20 : decode cX3_latestDayOf 20 = .ok (.iload_n 2, 1) := zby_g zbyb_80 (i := 12) rfl rfl
theorem dX3_latestDayOf_21 : decode cX3_latestDayOf 21 = .ok (.iconst 0, 1) := zby_g zbyb_80 (i := 13) rfl rfl
theorem dX3_latestDayOf_22 : decode cX3_latestDayOf 22 = .ok (.invokevirtual 37, 3) := zby_g zbyb_80 (i := 14) rfl rfl
theorem dX3_latestDayOf_25 : decode cX3_latestDayOf 25 = .ok (.ireturn, 1) := zby_g zbyb_80 (i := 15) rfl rfl
noncomputable def zbyl_81 : List (Nat × zbyE) := [(26, zbyo_132 2 1), (29, zbyo_167 (-27)), (32, zbyo_2), (33, zbyo_172)]
theorem zbyb_81 : zbys zbyl_81 (cX3_latestDayOf.data.toList.drop 26) 26 = true := by decide +kernel
theorem dX3_latestDayOf_26 : decode cX3_latestDayOf 26 = .ok (.iinc 2 1, 3) := zby_g zbyb_81 (i := 0) rfl rfl
theorem dX3_latestDayOf_29 : decode cX3_latestDayOf 29 = .ok (.goto (-27), 3) := zby_g zbyb_81 (i := 1) rfl rfl
theorem dX3_latestDayOf_32 : decode cX3_latestDayOf 32 = .ok (.iconst (-1), 1) := zby_g zbyb_81 (i := 2) rfl rfl
theorem dX3_latestDayOf_33 : decode cX3_latestDayOf 33 = .ok (.ireturn, 1) := zby_g zbyb_81 (i := 3) rfl rfl
noncomputable def zbyl_82 : List (Nat × zbyE) := [(0, zbyo_42), (1, zbyo_183 3), (4, zbyo_42), (5, zbyo_16 12), (7, zbyo_189 9), (10, zbyo_181 11), (13, zbyo_42), (14, zbyo_16 12), (16, zbyo_189 17), (19, zbyo_181 19), (22, zbyo_42), (23, zbyo_187 9), (26, zbyo_89), (27, zbyo_183 23), (30, zbyo_181 24), (33, zbyo_42)]
theorem zbyb_82 : zbys zbyl_82 (cX4_init.data.toList.drop 0) 0 = true := by decide +kernel
theorem dX4_init_0 : decode cX4_init 0 = .ok (.aload_n 0, 1) := zby_g zbyb_82 (i := 0) rfl rfl
theorem dX4_init_1 : decode cX4_init 1 = .ok (.invokespecial 3, 3) := zby_g zbyb_82 (i := 1) rfl rfl
theorem dX4_init_4 : decode cX4_init 4 = .ok (.aload_n 0, 1) := zby_g zbyb_82 (i := 2) rfl rfl
theorem dX4_init_5 : decode cX4_init 5 = .ok (.bipush 12, 2) := zby_g zbyb_82 (i := 3) rfl rfl
theorem dX4_init_7 : decode cX4_init 7 = .ok (.anewarray 9, 3) := zby_g zbyb_82 (i := 4) rfl rfl
theorem dX4_init_10 : decode cX4_init 10 = .ok (.putfield 11, 3) := zby_g zbyb_82 (i := 5) rfl rfl
theorem dX4_init_13 : decode cX4_init 13 = .ok (.aload_n 0, 1) := zby_g zbyb_82 (i := 6) rfl rfl
theorem dX4_init_14 : decode cX4_init 14 = .ok (.bipush 12, 2) := zby_g zbyb_82 (i := 7) rfl rfl
theorem dX4_init_16 : decode cX4_init 16 = .ok (.anewarray 17, 3) := zby_g zbyb_82 (i := 8) rfl rfl
theorem dX4_init_19 : decode cX4_init 19 = .ok (.putfield 19, 3) := zby_g zbyb_82 (i := 9) rfl rfl
theorem dX4_init_22 : decode cX4_init 22 = .ok (.aload_n 0, 1) := zby_g zbyb_82 (i := 10) rfl rfl
theorem dX4_init_23 : decode cX4_init 23 = .ok (.new 9, 3) := zby_g zbyb_82 (i := 11) rfl rfl
theorem dX4_init_26 : decode cX4_init 26 = .ok (.dup, 1) := zby_g zbyb_82 (i := 12) rfl rfl
theorem dX4_init_27 : decode cX4_init 27 = .ok (.invokespecial 23, 3) := zby_g zbyb_82 (i := 13) rfl rfl
theorem dX4_init_30 : decode cX4_init 30 = .ok (.putfield 24, 3) := zby_g zbyb_82 (i := 14) rfl rfl
theorem dX4_init_33 : decode cX4_init 33 = .ok (.aload_n 0, 1) := zby_g zbyb_82 (i := 15) rfl rfl
noncomputable def zbyl_83 : List (Nat × zbyE) := [(34, zbyo_187 28), (37, zbyo_89), (38, zbyo_183 30), (41, zbyo_181 31), (44, zbyo_42), (45, zbyo_187 17), (48, zbyo_89), (49, zbyo_183 35), (52, zbyo_181 36), (55, zbyo_3), (56, zbyo_60), (57, zbyo_27), (58, zbyo_16 12), (60, zbyo_162 35), (63, zbyo_42), (64, zbyo_180 11)]
theorem zbyb_83 : zbys zbyl_83 (cX4_init.data.toList.drop 34) 34 = true := by decide +kernel
theorem dX4_init_34 : decode cX4_init 34 = .ok (.new 28, 3) := zby_g zbyb_83 (i := 0) rfl rfl
theorem dX4_init_37 : decode cX4_init 37 = .ok (.dup, 1) := zby_g zbyb_83 (i := 1) rfl rfl
theorem dX4_init_38 : decode cX4_init 38 = .ok (.invokespecial 30, 3) := zby_g zbyb_83 (i := 2) rfl rfl
theorem dX4_init_41 : decode cX4_init 41 = .ok (.putfield 31, 3) := zby_g zbyb_83 (i := 3) rfl rfl
theorem dX4_init_44 : decode cX4_init 44 = .ok (.aload_n 0, 1) := zby_g zbyb_83 (i := 4) rfl rfl
theorem dX4_init_45 : decode cX4_init 45 = .ok (.new 17, 3) := zby_g zbyb_83 (i := 5) rfl rfl
theorem dX4_init_48 : decode cX4_init 48 = .ok (.dup, 1) := zby_g zbyb_83 (i := 6) rfl rfl
theorem dX4_init_49 : decode cX4_init 49 = .ok (.invokespecial 35, 3) := zby_g zbyb_83 (i := 7) rfl rfl
theorem dX4_init_52 : decode cX4_init 52 = .ok (.putfield 36, 3) := zby_g zbyb_83 (i := 8) rfl rfl
theorem dX4_init_55 : decode cX4_init 55 = .ok (.iconst 0, 1) := zby_g zbyb_83 (i := 9) rfl rfl
theorem dX4_init_56 : decode cX4_init 56 = .ok (.istore_n 1, 1) := zby_g zbyb_83 (i := 10) rfl rfl
theorem dX4_init_57 : decode cX4_init 57 = .ok (.iload_n 1, 1) := zby_g zbyb_83 (i := 11) rfl rfl
theorem dX4_init_58 : decode cX4_init 58 = .ok (.bipush 12, 2) := zby_g zbyb_83 (i := 12) rfl rfl
theorem dX4_init_60 : decode cX4_init 60 = .ok (.if_icmp .ge 35, 3) := zby_g zbyb_83 (i := 13) rfl rfl
theorem dX4_init_63 : decode cX4_init 63 = .ok (.aload_n 0, 1) := zby_g zbyb_83 (i := 14) rfl rfl
theorem dX4_init_64 : decode cX4_init 64 = .ok (.getfield 11, 3) := zby_g zbyb_83 (i := 15) rfl rfl
noncomputable def zbyl_84 : List (Nat × zbyE) := [(67, zbyo_27), (68, zbyo_187 9), (71, zbyo_89), (72, zbyo_183 23), (75, zbyo_83), (76, zbyo_42), (77, zbyo_180 19), (80, zbyo_27), (81, zbyo_187 17), (84, zbyo_89), (85, zbyo_183 35), (88, zbyo_83), (89, zbyo_132 1 1), (92, zbyo_167 (-35)), (95, zbyo_177)]
theorem zbyb_84 : zbys zbyl_84 (cX4_init.data.toList.drop 67) 67 = true := by decide +kernel
theorem dX4_init_67 : decode cX4_init 67 = .ok (.iload_n 1, 1) := zby_g zbyb_84 (i := 0) rfl rfl
theorem dX4_init_68 : decode cX4_init 68 = .ok (.new 9, 3) := zby_g zbyb_84 (i := 1) rfl rfl
theorem dX4_init_71 : decode cX4_init 71 = .ok (.dup, 1) := zby_g zbyb_84 (i := 2) rfl rfl
theorem dX4_init_72 : decode cX4_init 72 = .ok (.invokespecial 23, 3) := zby_g zbyb_84 (i := 3) rfl rfl
theorem dX4_init_75 : decode cX4_init 75 = .ok (.aastore, 1) := zby_g zbyb_84 (i := 4) rfl rfl
theorem dX4_init_76 : decode cX4_init 76 = .ok (.aload_n 0, 1) := zby_g zbyb_84 (i := 5) rfl rfl
theorem dX4_init_77 : decode cX4_init 77 = .ok (.getfield 19, 3) := zby_g zbyb_84 (i := 6) rfl rfl
theorem dX4_init_80 : decode cX4_init 80 = .ok (.iload_n 1, 1) := zby_g zbyb_84 (i := 7) rfl rfl
theorem dX4_init_81 : decode cX4_init 81 = .ok (.new 17, 3) := zby_g zbyb_84 (i := 8) rfl rfl
theorem dX4_init_84 : decode cX4_init 84 = .ok (.dup, 1) := zby_g zbyb_84 (i := 9) rfl rfl
theorem dX4_init_85 : decode cX4_init 85 = .ok (.invokespecial 35, 3) := zby_g zbyb_84 (i := 10) rfl rfl
theorem dX4_init_88 : decode cX4_init 88 = .ok (.aastore, 1) := zby_g zbyb_84 (i := 11) rfl rfl
theorem dX4_init_89 : decode cX4_init 89 = .ok (.iinc 1 1, 3) := zby_g zbyb_84 (i := 12) rfl rfl
theorem dX4_init_92 : decode cX4_init 92 = .ok (.goto (-35), 3) := zby_g zbyb_84 (i := 13) rfl rfl
theorem dX4_init_95 : decode cX4_init 95 = .ok (.return_, 1) := zby_g zbyb_84 (i := 14) rfl rfl
noncomputable def zbyl_85 : List (Nat × zbyE) := [(0, zbyo_42), (1, zbyo_3), (2, zbyo_181 40), (5, zbyo_177)]
theorem zbyb_85 : zbys zbyl_85 (cX4_forget.data.toList.drop 0) 0 = true := by decide +kernel
theorem dX4_forget_0 : decode cX4_forget 0 = .ok (.aload_n 0, 1) := zby_g zbyb_85 (i := 0) rfl rfl
theorem dX4_forget_1 : decode cX4_forget 1 = .ok (.iconst 0, 1) := zby_g zbyb_85 (i := 1) rfl rfl
theorem dX4_forget_2 : decode cX4_forget 2 = .ok (.putfield 40, 3) := zby_g zbyb_85 (i := 2) rfl rfl
theorem dX4_forget_5 : decode cX4_forget 5 = .ok (.return_, 1) := zby_g zbyb_85 (i := 3) rfl rfl
noncomputable def zbyl_86 : List (Nat × zbyE) := [(0, zbyo_42), (1, zbyo_180 11), (4, zbyo_42), (5, zbyo_180 44), (8, zbyo_50), (9, zbyo_43), (10, zbyo_182 47), (13, zbyo_42), (14, zbyo_180 19), (17, zbyo_42), (18, zbyo_180 44), (21, zbyo_50), (22, zbyo_44), (23, zbyo_182 51), (26, zbyo_42), (27, zbyo_42)]
theorem zbyb_86 : zbys zbyl_86 (cX4_remember.data.toList.drop 0) 0 = true := by decide +kernel
theorem dX4_remember_0 : decode cX4_remember 0 = .ok (.aload_n 0, 1) := zby_g zbyb_86 (i := 0) rfl rfl
theorem dX4_remember_1 : decode cX4_remember 1 = .ok (.getfield 11, 3) := zby_g zbyb_86 (i := 1) rfl rfl
theorem dX4_remember_4 : decode cX4_remember 4 = .ok (.aload_n 0, 1) := zby_g zbyb_86 (i := 2) rfl rfl
theorem dX4_remember_5 : decode cX4_remember 5 = .ok (.getfield 44, 3) := zby_g zbyb_86 (i := 3) rfl rfl
theorem dX4_remember_8 : decode cX4_remember 8 = .ok (.aaload, 1) := zby_g zbyb_86 (i := 4) rfl rfl
theorem dX4_remember_9 : decode cX4_remember 9 = .ok (.aload_n 1, 1) := zby_g zbyb_86 (i := 5) rfl rfl
theorem dX4_remember_10 : decode cX4_remember 10 = .ok (.invokevirtual 47, 3) := zby_g zbyb_86 (i := 6) rfl rfl
theorem dX4_remember_13 : decode cX4_remember 13 = .ok (.aload_n 0, 1) := zby_g zbyb_86 (i := 7) rfl rfl
theorem dX4_remember_14 : decode cX4_remember 14 = .ok (.getfield 19, 3) := zby_g zbyb_86 (i := 8) rfl rfl
theorem dX4_remember_17 : decode cX4_remember 17 = .ok (.aload_n 0, 1) := zby_g zbyb_86 (i := 9) rfl rfl
theorem dX4_remember_18 : decode cX4_remember 18 = .ok (.getfield 44, 3) := zby_g zbyb_86 (i := 10) rfl rfl
theorem dX4_remember_21 : decode cX4_remember 21 = .ok (.aaload, 1) := zby_g zbyb_86 (i := 11) rfl rfl
theorem dX4_remember_22 : decode cX4_remember 22 = .ok (.aload_n 2, 1) := zby_g zbyb_86 (i := 12) rfl rfl
theorem dX4_remember_23 : decode cX4_remember 23 = .ok (.invokevirtual 51, 3) := zby_g zbyb_86 (i := 13) rfl rfl
theorem dX4_remember_26 : decode cX4_remember 26 = .ok (.aload_n 0, 1) := zby_g zbyb_86 (i := 14) rfl rfl
theorem dX4_remember_27 : decode cX4_remember 27 = .ok (.aload_n 0, 1) := zby_g zbyb_86 (i := 15) rfl rfl
noncomputable def zbyl_87 : List (Nat × zbyE) := [(28, zbyo_180 44), (31, zbyo_4), (32, zbyo_96), (33, zbyo_16 12), (35, zbyo_112), (36, zbyo_181 44), (39, zbyo_42), (40, zbyo_16 12), (42, zbyo_42), (43, zbyo_180 40), (46, zbyo_4), (47, zbyo_96), (48, zbyo_184 54), (51, zbyo_181 40), (54, zbyo_177)]
theorem zbyb_87 : zbys zbyl_87 (cX4_remember.data.toList.drop 28) 28 = true := by decide +kernel
theorem dX4_remember_28 : decode cX4_remember 28 = .ok (.getfield 44, 3) := zby_g zbyb_87 (i := 0) rfl rfl
theorem dX4_remember_31 : decode cX4_remember 31 = .ok (.iconst 1, 1) := zby_g zbyb_87 (i := 1) rfl rfl
theorem dX4_remember_32 : decode cX4_remember 32 = .ok (.iadd, 1) := zby_g zbyb_87 (i := 2) rfl rfl
theorem dX4_remember_33 : decode cX4_remember 33 = .ok (.bipush 12, 2) := zby_g zbyb_87 (i := 3) rfl rfl
theorem dX4_remember_35 : decode cX4_remember 35 = .ok (.irem, 1) := zby_g zbyb_87 (i := 4) rfl rfl
theorem dX4_remember_36 : decode cX4_remember 36 = .ok (.putfield 44, 3) := zby_g zbyb_87 (i := 5) rfl rfl
theorem dX4_remember_39 : decode cX4_remember 39 = .ok (.aload_n 0, 1) := zby_g zbyb_87 (i := 6) rfl rfl
theorem dX4_remember_40 : decode cX4_remember 40 = .ok (.bipush 12, 2) := zby_g zbyb_87 (i := 7) rfl rfl
theorem dX4_remember_42 : decode cX4_remember 42 = .ok (.aload_n 0, 1) := zby_g zbyb_87 (i := 8) rfl rfl
theorem dX4_remember_43 : decode cX4_remember 43 = .ok (.getfield 40, 3) := zby_g zbyb_87 (i := 9) rfl rfl
theorem dX4_remember_46 : decode cX4_remember 46 = .ok (.iconst 1, 1) := zby_g zbyb_87 (i := 10) rfl rfl
theorem dX4_remember_47 : decode cX4_remember 47 = .ok (.iadd, 1) := zby_g zbyb_87 (i := 11) rfl rfl
theorem dX4_remember_48 : decode cX4_remember 48 = .ok (.invokestatic 54, 3) := zby_g zbyb_87 (i := 12) rfl rfl
theorem dX4_remember_51 : decode cX4_remember 51 = .ok (.putfield 40, 3) := zby_g zbyb_87 (i := 13) rfl rfl
theorem dX4_remember_54 : decode cX4_remember 54 = .ok (.return_, 1) := zby_g zbyb_87 (i := 14) rfl rfl
noncomputable def zbyl_88 : List (Nat × zbyE) := [(0, zbyo_42), (1, zbyo_180 40), (4, zbyo_154 5), (7, zbyo_3), (8, zbyo_172), (9, zbyo_42), (10, zbyo_89), (11, zbyo_180 40), (14, zbyo_4), (15, zbyo_100), (16, zbyo_181 40), (19, zbyo_42), (20, zbyo_42), (21, zbyo_180 44), (24, zbyo_4), (25, zbyo_100)]
theorem zbyb_88 : zbys zbyl_88 (cX4_recall.data.toList.drop 0) 0 = true := by decide +kernel
theorem dX4_recall_0 : decode cX4_recall 0 = .ok (.aload_n 0, 1) := zby_g zbyb_88 (i := 0) rfl rfl
theorem dX4_recall_1 : decode cX4_recall 1 = .ok (.getfield 40, 3) := zby_g zbyb_88 (i := 1) rfl rfl
theorem dX4_recall_4 : decode cX4_recall 4 = .ok (.ifCond .ne 5, 3) := zby_g zbyb_88 (i := 2) rfl rfl
theorem dX4_recall_7 : decode cX4_recall 7 = .ok (.iconst 0, 1) := zby_g zbyb_88 (i := 3) rfl rfl
theorem dX4_recall_8 : decode cX4_recall 8 = .ok (.ireturn, 1) := zby_g zbyb_88 (i := 4) rfl rfl
theorem dX4_recall_9 : decode cX4_recall 9 = .ok (.aload_n 0, 1) := zby_g zbyb_88 (i := 5) rfl rfl
theorem dX4_recall_10 : decode cX4_recall 10 = .ok (.dup, 1) := zby_g zbyb_88 (i := 6) rfl rfl
theorem dX4_recall_11 : decode cX4_recall 11 = .ok (.getfield 40, 3) := zby_g zbyb_88 (i := 7) rfl rfl
theorem dX4_recall_14 : decode cX4_recall 14 = .ok (.iconst 1, 1) := zby_g zbyb_88 (i := 8) rfl rfl
theorem dX4_recall_15 : decode cX4_recall 15 = .ok (.isub, 1) := zby_g zbyb_88 (i := 9) rfl rfl
theorem dX4_recall_16 : decode cX4_recall 16 = .ok (.putfield 40, 3) := zby_g zbyb_88 (i := 10) rfl rfl
theorem dX4_recall_19 : decode cX4_recall 19 = .ok (.aload_n 0, 1) := zby_g zbyb_88 (i := 11) rfl rfl
theorem dX4_recall_20 : decode cX4_recall 20 = .ok (.aload_n 0, 1) := zby_g zbyb_88 (i := 12) rfl rfl
theorem dX4_recall_21 : decode cX4_recall 21 = .ok (.getfield 44, 3) := zby_g zbyb_88 (i := 13) rfl rfl
theorem dX4_recall_24 : decode cX4_recall 24 = .ok (.iconst 1, 1) := zby_g zbyb_88 (i := 14) rfl rfl
theorem dX4_recall_25 : decode cX4_recall 25 = .ok (.isub, 1) := zby_g zbyb_88 (i := 15) rfl rfl
noncomputable def zbyl_89 : List (Nat × zbyE) := [(26, zbyo_16 12), (28, zbyo_184 60), (31, zbyo_181 44), (34, zbyo_43), (35, zbyo_42), (36, zbyo_180 11), (39, zbyo_42), (40, zbyo_180 44), (43, zbyo_50), (44, zbyo_182 47), (47, zbyo_44), (48, zbyo_42), (49, zbyo_180 19), (52, zbyo_42), (53, zbyo_180 44), (56, zbyo_50)]
theorem zbyb_89 : zbys zbyl_89 (cX4_recall.data.toList.drop 26) 26 = true := by decide +kernel
theorem dX4_recall_26 : decode cX4_recall 26 = .ok (.bipush 12, 2) := zby_g zbyb_89 (i := 0) rfl rfl
theorem dX4_recall_28 : decode cX4_recall 28 = .ok (.invokestatic 60, 3) := zby_g zbyb_89 (i := 1) rfl rfl
theorem dX4_recall_31 : decode cX4_recall 31 = .ok (.putfield 44, 3) := zby_g zbyb_89 (i := 2) rfl rfl
theorem dX4_recall_34 : decode cX4_recall 34 = .ok (.aload_n 1, 1) := zby_g zbyb_89 (i := 3) rfl rfl
theorem dX4_recall_35 : decode cX4_recall 35 = .ok (.aload_n 0, 1) := zby_g zbyb_89 (i := 4) rfl rfl
theorem dX4_recall_36 : decode cX4_recall 36 = .ok (.getfield 11, 3) := zby_g zbyb_89 (i := 5) rfl rfl
theorem dX4_recall_39 : decode cX4_recall 39 = .ok (.aload_n 0, 1) := zby_g zbyb_89 (i := 6) rfl rfl
theorem dX4_recall_40 : decode cX4_recall 40 = .ok (.getfield 44, 3) := zby_g zbyb_89 (i := 7) rfl rfl
theorem dX4_recall_43 : decode cX4_recall 43 = .ok (.aaload, 1) := zby_g zbyb_89 (i := 8) rfl rfl
theorem dX4_recall_44 : decode cX4_recall 44 = .ok (.invokevirtual 47, 3) := zby_g zbyb_89 (i := 9) rfl rfl
theorem dX4_recall_47 : decode cX4_recall 47 = .ok (.aload_n 2, 1) := zby_g zbyb_89 (i := 10) rfl rfl
theorem dX4_recall_48 : decode cX4_recall 48 = .ok (.aload_n 0, 1) := zby_g zbyb_89 (i := 11) rfl rfl
theorem dX4_recall_49 : decode cX4_recall 49 = .ok (.getfield 19, 3) := zby_g zbyb_89 (i := 12) rfl rfl
theorem dX4_recall_52 : decode cX4_recall 52 = .ok (.aload_n 0, 1) := zby_g zbyb_89 (i := 13) rfl rfl
theorem dX4_recall_53 : decode cX4_recall 53 = .ok (.getfield 44, 3) := zby_g zbyb_89 (i := 14) rfl rfl
theorem dX4_recall_56 : decode cX4_recall 56 = .ok (.aaload, 1) := zby_g zbyb_89 (i := 15) rfl rfl
noncomputable def zbyl_90 : List (Nat × zbyE) := [(57, zbyo_182 51), (60, zbyo_4), (61, zbyo_172)]
theorem zbyb_90 : zbys zbyl_90 (cX4_recall.data.toList.drop 57) 57 = true := by decide +kernel
theorem dX4_recall_57 : decode cX4_recall 57 = .ok (.invokevirtual 51, 3) := zby_g zbyb_90 (i := 0) rfl rfl
theorem dX4_recall_60 : decode cX4_recall 60 = .ok (.iconst 1, 1) := zby_g zbyb_90 (i := 1) rfl rfl
theorem dX4_recall_61 : decode cX4_recall 61 = .ok (.ireturn, 1) := zby_g zbyb_90 (i := 2) rfl rfl
noncomputable def zbyl_91 : List (Nat × zbyE) := [(0, zbyo_42), (1, zbyo_180 24), (4, zbyo_43), (5, zbyo_182 47), (8, zbyo_42), (9, zbyo_180 31), (12, zbyo_44), (13, zbyo_182 63), (16, zbyo_42), (17, zbyo_180 36), (20, zbyo_45), (21, zbyo_182 51), (24, zbyo_42), (25, zbyo_4), (26, zbyo_181 66), (29, zbyo_177)]
theorem zbyb_91 : zbys zbyl_91 (cX4_keepImage.data.toList.drop 0) 0 = true := by decide +kernel
theorem dX4_keepImage_0 : decode cX4_keepImage 0 = .ok (.aload_n 0, 1) := zby_g zbyb_91 (i := 0) rfl rfl
theorem dX4_keepImage_1 : decode cX4_keepImage 1 = .ok (.getfield 24, 3) := zby_g zbyb_91 (i := 1) rfl rfl
theorem dX4_keepImage_4 : decode cX4_keepImage 4 = .ok (.aload_n 1, 1) := zby_g zbyb_91 (i := 2) rfl rfl
theorem dX4_keepImage_5 : decode cX4_keepImage 5 = .ok (.invokevirtual 47, 3) := zby_g zbyb_91 (i := 3) rfl rfl
theorem dX4_keepImage_8 : decode cX4_keepImage 8 = .ok (.aload_n 0, 1) := zby_g zbyb_91 (i := 4) rfl rfl
theorem dX4_keepImage_9 : decode cX4_keepImage 9 = .ok (.getfield 31, 3) := zby_g zbyb_91 (i := 5) rfl rfl
theorem dX4_keepImage_12 : decode cX4_keepImage 12 = .ok (.aload_n 2, 1) := zby_g zbyb_91 (i := 6) rfl rfl
theorem dX4_keepImage_13 : decode cX4_keepImage 13 = .ok (.invokevirtual 63, 3) := zby_g zbyb_91 (i := 7) rfl rfl
theorem dX4_keepImage_16 : decode cX4_keepImage 16 = .ok (.aload_n 0, 1) := zby_g zbyb_91 (i := 8) rfl rfl
theorem dX4_keepImage_17 : decode cX4_keepImage 17 = .ok (.getfield 36, 3) := zby_g zbyb_91 (i := 9) rfl rfl
theorem dX4_keepImage_20 : decode cX4_keepImage 20 = .ok (.aload_n 3, 1) := zby_g zbyb_91 (i := 10) rfl rfl
theorem dX4_keepImage_21 : decode cX4_keepImage 21 = .ok (.invokevirtual 51, 3) := zby_g zbyb_91 (i := 11) rfl rfl
theorem dX4_keepImage_24 : decode cX4_keepImage 24 = .ok (.aload_n 0, 1) := zby_g zbyb_91 (i := 12) rfl rfl
theorem dX4_keepImage_25 : decode cX4_keepImage 25 = .ok (.iconst 1, 1) := zby_g zbyb_91 (i := 13) rfl rfl
theorem dX4_keepImage_26 : decode cX4_keepImage 26 = .ok (.putfield 66, 3) := zby_g zbyb_91 (i := 14) rfl rfl
theorem dX4_keepImage_29 : decode cX4_keepImage 29 = .ok (.return_, 1) := zby_g zbyb_91 (i := 15) rfl rfl
noncomputable def zbyl_92 : List (Nat × zbyE) := [(0, zbyo_42), (1, zbyo_180 66), (4, zbyo_154 5), (7, zbyo_3), (8, zbyo_172), (9, zbyo_43), (10, zbyo_42), (11, zbyo_180 24), (14, zbyo_182 47), (17, zbyo_44), (18, zbyo_42), (19, zbyo_180 31), (22, zbyo_182 63), (25, zbyo_45), (26, zbyo_42), (27, zbyo_180 36)]
theorem zbyb_92 : zbys zbyl_92 (cX4_giveBackImage.data.toList.drop 0) 0 = true := by decide +kernel
theorem dX4_giveBackImage_0 : decode cX4_giveBackImage 0 = .ok (.aload_n 0, 1) := zby_g zbyb_92 (i := 0) rfl rfl
theorem dX4_giveBackImage_1 : decode cX4_giveBackImage 1 = .ok (.getfield 66, 3) := zby_g zbyb_92 (i := 1) rfl rfl
theorem dX4_giveBackImage_4 : decode cX4_giveBackImage 4 = .ok (.ifCond .ne 5, 3) := zby_g zbyb_92 (i := 2) rfl rfl
theorem dX4_giveBackImage_7 : decode cX4_giveBackImage 7 = .ok (.iconst 0, 1) := zby_g zbyb_92 (i := 3) rfl rfl
theorem dX4_giveBackImage_8 : decode cX4_giveBackImage 8 = .ok (.ireturn, 1) := zby_g zbyb_92 (i := 4) rfl rfl
theorem dX4_giveBackImage_9 : decode cX4_giveBackImage 9 = .ok (.aload_n 1, 1) := zby_g zbyb_92 (i := 5) rfl rfl
theorem dX4_giveBackImage_10 : decode cX4_giveBackImage 10 = .ok (.aload_n 0, 1) := zby_g zbyb_92 (i := 6) rfl rfl
theorem dX4_giveBackImage_11 : decode cX4_giveBackImage 11 = .ok (.getfield 24, 3) := zby_g zbyb_92 (i := 7) rfl rfl
theorem dX4_giveBackImage_14 : decode cX4_giveBackImage 14 = .ok (.invokevirtual 47, 3) := zby_g zbyb_92 (i := 8) rfl rfl
theorem dX4_giveBackImage_17 : decode cX4_giveBackImage 17 = .ok (.aload_n 2, 1) := zby_g zbyb_92 (i := 9) rfl rfl
theorem dX4_giveBackImage_18 : decode cX4_giveBackImage 18 = .ok (.aload_n 0, 1) := zby_g zbyb_92 (i := 10) rfl rfl
theorem dX4_giveBackImage_19 : decode cX4_giveBackImage 19 = .ok (.getfield 31, 3) := zby_g zbyb_92 (i := 11) rfl rfl
theorem dX4_giveBackImage_22 : decode cX4_giveBackImage 22 = .ok (.invokevirtual 63, 3) := zby_g zbyb_92 (i := 12) rfl rfl
theorem dX4_giveBackImage_25 : decode cX4_giveBackImage 25 = .ok (.aload_n 3, 1) := zby_g zbyb_92 (i := 13) rfl rfl
theorem dX4_giveBackImage_26 : decode cX4_giveBackImage 26 = .ok (.aload_n 0, 1) := zby_g zbyb_92 (i := 14) rfl rfl
theorem dX4_giveBackImage_27 : decode cX4_giveBackImage 27 = .ok (.getfield 36, 3) := zby_g zbyb_92 (i := 15) rfl rfl
noncomputable def zbyl_93 : List (Nat × zbyE) := [(30, zbyo_182 51), (33, zbyo_42), (34, zbyo_182 70), (37, zbyo_4), (38, zbyo_172)]
theorem zbyb_93 : zbys zbyl_93 (cX4_giveBackImage.data.toList.drop 30) 30 = true := by decide +kernel
theorem dX4_giveBackImage_30 : decode cX4_giveBackImage 30 = .ok (.invokevirtual 51, 3) := zby_g zbyb_93 (i := 0) rfl rfl
theorem dX4_giveBackImage_33 : decode cX4_giveBackImage 33 = .ok (.aload_n 0, 1) := zby_g zbyb_93 (i := 1) rfl rfl
theorem dX4_giveBackImage_34 : decode cX4_giveBackImage 34 = .ok (.invokevirtual 70, 3) := zby_g zbyb_93 (i := 2) rfl rfl
theorem dX4_giveBackImage_37 : decode cX4_giveBackImage 37 = .ok (.iconst 1, 1) := zby_g zbyb_93 (i := 3) rfl rfl
theorem dX4_giveBackImage_38 : decode cX4_giveBackImage 38 = .ok (.ireturn, 1) := zby_g zbyb_93 (i := 4) rfl rfl
noncomputable def zbyl_94 : List (Nat × zbyE) := [(0, zbyo_42), (1, zbyo_183 3), (4, zbyo_42), (5, zbyo_17 256), (8, zbyo_188_4), (10, zbyo_181 9), (13, zbyo_177)]
theorem zbyb_94 : zbys zbyl_94 (cX5_init.data.toList.drop 0) 0 = true := by decide +kernel
theorem dX5_init_0 : decode cX5_init 0 = .ok (.aload_n 0, 1) := zby_g zbyb_94 (i := 0) rfl rfl
theorem dX5_init_1 : decode cX5_init 1 = .ok (.invokespecial 3, 3) := zby_g zbyb_94 (i := 1) rfl rfl
theorem dX5_init_4 : decode cX5_init 4 = .ok (.aload_n 0, 1) := zby_g zbyb_94 (i := 2) rfl rfl
theorem dX5_init_5 : decode cX5_init 5 = .ok (.sipush 256, 3) := zby_g zbyb_94 (i := 3) rfl rfl
theorem dX5_init_8 : decode cX5_init 8 = .ok (.newarray .boolean, 2) := zby_g zbyb_94 (i := 4) rfl rfl
theorem dX5_init_10 : decode cX5_init 10 = .ok (.putfield 9, 3) := zby_g zbyb_94 (i := 5) rfl rfl
theorem dX5_init_13 : decode cX5_init 13 = .ok (.return_, 1) := zby_g zbyb_94 (i := 6) rfl rfl
noncomputable def zbyl_95 : List (Nat × zbyE) := [(0, zbyo_42), (1, zbyo_29), (2, zbyo_16 8), (4, zbyo_184 15), (7, zbyo_181 21), (10, zbyo_42), (11, zbyo_3), (12, zbyo_181 25), (15, zbyo_3), (16, zbyo_54 4), (18, zbyo_21 4), (20, zbyo_4), (21, zbyo_42), (22, zbyo_180 21), (25, zbyo_120), (26, zbyo_162 44)]
theorem zbyb_95 : zbys zbyl_95 (cX5_hear.data.toList.drop 0) 0 = true := by decide +kernel
theorem dX5_hear_0 : decode cX5_hear 0 = .ok (.aload_n 0, 1) := zby_g zbyb_95 (i := 0) rfl rfl
theorem dX5_hear_1 : decode cX5_hear 1 = .ok (.iload_n 3, 1) := zby_g zbyb_95 (i := 1) rfl rfl
theorem dX5_hear_2 : decode cX5_hear 2 = .ok (.bipush 8, 2) := zby_g zbyb_95 (i := 2) rfl rfl
theorem dX5_hear_4 : decode cX5_hear 4 = .ok (.invokestatic 15, 3) := zby_g zbyb_95 (i := 3) rfl rfl
theorem dX5_hear_7 : decode cX5_hear 7 = .ok (.putfield 21, 3) := zby_g zbyb_95 (i := 4) rfl rfl
theorem dX5_hear_10 : decode cX5_hear 10 = .ok (.aload_n 0, 1) := zby_g zbyb_95 (i := 5) rfl rfl
theorem dX5_hear_11 : decode cX5_hear 11 = .ok (.iconst 0, 1) := zby_g zbyb_95 (i := 6) rfl rfl
theorem dX5_hear_12 : decode cX5_hear 12 = .ok (.putfield 25, 3) := zby_g zbyb_95 (i := 7) rfl rfl
theorem dX5_hear_15 : decode cX5_hear 15 = .ok (.iconst 0, 1) := zby_g zbyb_95 (i := 8) rfl rfl
theorem dX5_hear_16 : decode cX5_hear 16 = .ok (.istore 4, 2) := zby_g zbyb_95 (i := 9) rfl rfl
theorem dX5_hear_18 : decode cX5_hear 18 = .ok (.iload 4, 2) := zby_g zbyb_95 (i := 10) rfl rfl
theorem dX5_hear_20 : decode cX5_hear 20 = .ok (.iconst 1, 1) := zby_g zbyb_95 (i := 11) rfl rfl
theorem dX5_hear_21 : decode cX5_hear 21 = .ok (.aload_n 0, 1) := zby_g zbyb_95 (i := 12) rfl rfl
theorem dX5_hear_22 : decode cX5_hear 22 = .ok (.getfield 21, 3) := zby_g zbyb_95 (i := 13) rfl rfl
theorem dX5_hear_25 : decode cX5_hear 25 = .ok (.ishl, 1) := zby_g zbyb_95 (i := 14) rfl rfl
theorem dX5_hear_26 : decode cX5_hear 26 = .ok (.if_icmp .ge 44, 3) := zby_g zbyb_95 (i := 15) rfl rfl
noncomputable def zbyl_96 : List (Nat × zbyE) := [(29, zbyo_42), (30, zbyo_180 9), (33, zbyo_21 4), (35, zbyo_42), (36, zbyo_43), (37, zbyo_28), (38, zbyo_21 4), (40, zbyo_182 28), (43, zbyo_84), (44, zbyo_42), (45, zbyo_180 9), (48, zbyo_21 4), (50, zbyo_51), (51, zbyo_153 13), (54, zbyo_42), (55, zbyo_89)]
theorem zbyb_96 : zbys zbyl_96 (cX5_hear.data.toList.drop 29) 29 = true := by decide +kernel
theorem dX5_hear_29 : decode cX5_hear 29 = .ok (.aload_n 0, 1) := zby_g zbyb_96 (i := 0) rfl rfl
theorem dX5_hear_30 : decode cX5_hear 30 = .ok (.getfield 9, 3) := zby_g zbyb_96 (i := 1) rfl rfl
theorem dX5_hear_33 : decode cX5_hear 33 = .ok (.iload 4, 2) := zby_g zbyb_96 (i := 2) rfl rfl
theorem dX5_hear_35 : decode cX5_hear 35 = .ok (.aload_n 0, 1) := zby_g zbyb_96 (i := 3) rfl rfl
theorem dX5_hear_36 : decode cX5_hear 36 = .ok (.aload_n 1, 1) := zby_g zbyb_96 (i := 4) rfl rfl
theorem dX5_hear_37 : decode cX5_hear 37 = .ok (.iload_n 2, 1) := zby_g zbyb_96 (i := 5) rfl rfl
theorem dX5_hear_38 : decode cX5_hear 38 = .ok (.iload 4, 2) := zby_g zbyb_96 (i := 6) rfl rfl
theorem dX5_hear_40 : decode cX5_hear 40 = .ok (.invokevirtual 28, 3) := zby_g zbyb_96 (i := 7) rfl rfl
theorem dX5_hear_43 : decode cX5_hear 43 = .ok (.bastore, 1) := zby_g zbyb_96 (i := 8) rfl rfl
theorem dX5_hear_44 : decode cX5_hear 44 = .ok (.aload_n 0, 1) := zby_g zbyb_96 (i := 9) rfl rfl
theorem dX5_hear_45 : decode cX5_hear 45 = .ok (.getfield 9, 3) := zby_g zbyb_96 (i := 10) rfl rfl
theorem dX5_hear_48 : decode cX5_hear 48 = .ok (.iload 4, 2) := zby_g zbyb_96 (i := 11) rfl rfl
theorem dX5_hear_50 : decode cX5_hear 50 = .ok (.baload, 1) := zby_g zbyb_96 (i := 12) rfl rfl
theorem dX5_hear_51 : decode cX5_hear 51 = .ok (.ifCond .eq 13, 3) := zby_g zbyb_96 (i := 13) rfl rfl
theorem dX5_hear_54 : decode cX5_hear 54 = .ok (.aload_n 0, 1) := zby_g zbyb_96 (i := 14) rfl rfl
theorem dX5_hear_55 : decode cX5_hear 55 = .ok (.dup, 1) := zby_g zbyb_96 (i := 15) rfl rfl
noncomputable def zbyl_97 : List (Nat × zbyE) := [(56, zbyo_180 25), (59, zbyo_4), (60, zbyo_96), (61, zbyo_181 25), (64, zbyo_132 4 1), (67, zbyo_167 (-49)), (70, zbyo_177)]
theorem zbyb_97 : zbys zbyl_97 (cX5_hear.data.toList.drop 56) 56 = true := by decide +kernel
theorem dX5_hear_56 : decode cX5_hear 56 = .ok (.getfield 25, 3) := zby_g zbyb_97 (i := 0) rfl rfl
theorem dX5_hear_59 : decode cX5_hear 59 = .ok (.iconst 1, 1) := zby_g zbyb_97 (i := 1) rfl rfl
theorem dX5_hear_60 : decode cX5_hear 60 = .ok (.iadd, 1) := zby_g zbyb_97 (i := 2) rfl rfl
theorem dX5_hear_61 : decode cX5_hear 61 = .ok (.putfield 25, 3) := zby_g zbyb_97 (i := 3) rfl rfl
theorem dX5_hear_64 : decode cX5_hear 64 = .ok (.iinc 4 1, 3) := zby_g zbyb_97 (i := 4) rfl rfl
theorem dX5_hear_67 : decode cX5_hear 67 = .ok (.goto (-49), 3) := zby_g zbyb_97 (i := 5) rfl rfl
theorem dX5_hear_70 : decode cX5_hear 70 = .ok (.return_, 1) := zby_g zbyb_97 (i := 6) rfl rfl
noncomputable def zbyl_98 : List (Nat × zbyE) := [(0, zbyo_3), (1, zbyo_54 4), (3, zbyo_21 4), (5, zbyo_5), (6, zbyo_96), (7, zbyo_28), (8, zbyo_162 63), (11, zbyo_21 4), (13, zbyo_5), (14, zbyo_96), (15, zbyo_17 400), (18, zbyo_162 53), (21, zbyo_42), (22, zbyo_29), (23, zbyo_43), (24, zbyo_180 32)]
theorem zbyb_98 : zbys zbyl_98 (cX5_fitsAll.data.toList.drop 0) 0 = true := by decide +kernel
theorem dX5_fitsAll_0 : decode cX5_fitsAll 0 = .ok (.iconst 0, 1) := zby_g zbyb_98 (i := 0) rfl rfl
theorem dX5_fitsAll_1 : decode cX5_fitsAll 1 = .ok (.istore 4, 2) := zby_g zbyb_98 (i := 1) rfl rfl
theorem dX5_fitsAll_3 : decode cX5_fitsAll 3 = .ok (.iload 4, 2) := zby_g zbyb_98 (i := 2) rfl rfl
theorem dX5_fitsAll_5 : decode cX5_fitsAll 5 = .ok (.iconst 2, 1) := zby_g zbyb_98 (i := 3) rfl rfl
theorem dX5_fitsAll_6 : decode cX5_fitsAll 6 = .ok (.iadd, 1) := zby_g zbyb_98 (i := 4) rfl rfl
theorem dX5_fitsAll_7 : decode cX5_fitsAll 7 = .ok (.iload_n 2, 1) := zby_g zbyb_98 (i := 5) rfl rfl
theorem dX5_fitsAll_8 : decode cX5_fitsAll 8 = .ok (.if_icmp .ge 63, 3) := zby_g zbyb_98 (i := 6) rfl rfl
theorem dX5_fitsAll_11 : decode cX5_fitsAll 11 = .ok (.iload 4, 2) := zby_g zbyb_98 (i := 7) rfl rfl
theorem dX5_fitsAll_13 : decode cX5_fitsAll 13 = .ok (.iconst 2, 1) := zby_g zbyb_98 (i := 8) rfl rfl
theorem dX5_fitsAll_14 : decode cX5_fitsAll 14 = .ok (.iadd, 1) := zby_g zbyb_98 (i := 9) rfl rfl
theorem dX5_fitsAll_15 : decode cX5_fitsAll 15 = .ok (.sipush 400, 3) := zby_g zbyb_98 (i := 10) rfl rfl
theorem dX5_fitsAll_18 : decode cX5_fitsAll 18 = .ok (.if_icmp .ge 53, 3) := zby_g zbyb_98 (i := 11) rfl rfl
theorem dX5_fitsAll_21 : decode cX5_fitsAll 21 = .ok (.aload_n 0, 1) := zby_g zbyb_98 (i := 12) rfl rfl
theorem dX5_fitsAll_22 : decode cX5_fitsAll 22 = .ok (.iload_n 3, 1) := zby_g zbyb_98 (i := 13) rfl rfl
theorem dX5_fitsAll_23 : decode cX5_fitsAll 23 = .ok (.aload_n 1, 1) := zby_g zbyb_98 (i := 14) rfl rfl
theorem dX5_fitsAll_24 : decode cX5_fitsAll 24 = .ok (.getfield 32, 3) := zby_g zbyb_98 (i := 15) rfl rfl
noncomputable def zbyl_99 : List (Nat × zbyE) := [(27, zbyo_21 4), (29, zbyo_46), (30, zbyo_43), (31, zbyo_180 32), (34, zbyo_21 4), (36, zbyo_4), (37, zbyo_96), (38, zbyo_46), (39, zbyo_182 38), (42, zbyo_43), (43, zbyo_180 32), (46, zbyo_21 4), (48, zbyo_5), (49, zbyo_96), (50, zbyo_46), (51, zbyo_4)]
theorem zbyb_99 : zbys zbyl_99 (cX5_fitsAll.data.toList.drop 27) 27 = true := by decide +kernel
theorem dX5_fitsAll_27 : decode cX5_fitsAll 27 = .ok (.iload 4, 2) := zby_g zbyb_99 (i := 0) rfl rfl
theorem dX5_fitsAll_29 : decode cX5_fitsAll 29 = .ok (.iaload, 1) := zby_g zbyb_99 (i := 1) rfl rfl
theorem dX5_fitsAll_30 : decode cX5_fitsAll 30 = .ok (.aload_n 1, 1) := zby_g zbyb_99 (i := 2) rfl rfl
theorem dX5_fitsAll_31 : decode cX5_fitsAll 31 = .ok (.getfield 32, 3) := zby_g zbyb_99 (i := 3) rfl rfl
theorem dX5_fitsAll_34 : decode cX5_fitsAll 34 = .ok (.iload 4, 2) := zby_g zbyb_99 (i := 4) rfl rfl
theorem dX5_fitsAll_36 : decode cX5_fitsAll 36 = .ok (.iconst 1, 1) := zby_g zbyb_99 (i := 5) rfl rfl
theorem dX5_fitsAll_37 : decode cX5_fitsAll 37 = .ok (.iadd, 1) := zby_g zbyb_99 (i := 6) rfl rfl
theorem dX5_fitsAll_38 : decode cX5_fitsAll 38 = .ok (.iaload, 1) := zby_g zbyb_99 (i := 7) rfl rfl
theorem dX5_fitsAll_39 : decode cX5_fitsAll 39 = .ok (.invokevirtual 38, 3) := zby_g zbyb_99 (i := 8) rfl rfl
theorem dX5_fitsAll_42 : decode cX5_fitsAll 42 = .ok (.aload_n 1, 1) := zby_g zbyb_99 (i := 9) rfl rfl
theorem dX5_fitsAll_43 : decode cX5_fitsAll 43 = .ok (.getfield 32, 3) := zby_g zbyb_99 (i := 10) rfl rfl
theorem dX5_fitsAll_46 : decode cX5_fitsAll 46 = .ok (.iload 4, 2) := zby_g zbyb_99 (i := 11) rfl rfl
theorem dX5_fitsAll_48 : decode cX5_fitsAll 48 = .ok (.iconst 2, 1) := zby_g zbyb_99 (i := 12) rfl rfl
theorem dX5_fitsAll_49 : decode cX5_fitsAll 49 = .ok (.iadd, 1) := zby_g zbyb_99 (i := 13) rfl rfl
theorem dX5_fitsAll_50 : decode cX5_fitsAll 50 = .ok (.iaload, 1) := zby_g zbyb_99 (i := 14) rfl rfl
theorem dX5_fitsAll_51 : decode cX5_fitsAll 51 = .ok (.iconst 1, 1) := zby_g zbyb_99 (i := 15) rfl rfl
noncomputable def zbyl_100 : List (Nat × zbyE) := [(52, zbyo_160 7), (55, zbyo_4), (56, zbyo_167 4), (59, zbyo_3), (60, zbyo_159 5), (63, zbyo_3), (64, zbyo_172), (65, zbyo_132 4 3), (68, zbyo_167 (-65)), (71, zbyo_4), (72, zbyo_172)]
theorem zbyb_100 : zbys zbyl_100 (cX5_fitsAll.data.toList.drop 52) 52 = true := by decide +kernel
theorem dX5_fitsAll_52 : decode cX5_fitsAll 52 = .ok (.if_icmp .ne 7, 3) := zby_g zbyb_100 (i := 0) rfl rfl
theorem dX5_fitsAll_55 : decode cX5_fitsAll 55 = .ok (.iconst 1, 1) := zby_g zbyb_100 (i := 1) rfl rfl
theorem dX5_fitsAll_56 : decode cX5_fitsAll 56 = .ok (.goto 4, 3) := zby_g zbyb_100 (i := 2) rfl rfl
theorem dX5_fitsAll_59 : decode cX5_fitsAll 59 = .ok (.iconst 0, 1) := zby_g zbyb_100 (i := 3) rfl rfl
theorem dX5_fitsAll_60 : decode cX5_fitsAll 60 = .ok (.if_icmp .eq 5, 3) := zby_g zbyb_100 (i := 4) rfl rfl
theorem dX5_fitsAll_63 : decode cX5_fitsAll 63 = .ok (.iconst 0, 1) := zby_g zbyb_100 (i := 5) rfl rfl
theorem dX5_fitsAll_64 : decode cX5_fitsAll 64 = .ok (.ireturn, 1) := zby_g zbyb_100 (i := 6) rfl rfl
theorem dX5_fitsAll_65 : decode cX5_fitsAll 65 = .ok (.iinc 4 3, 3) := zby_g zbyb_100 (i := 7) rfl rfl
theorem dX5_fitsAll_68 : decode cX5_fitsAll 68 = .ok (.goto (-65), 3) := zby_g zbyb_100 (i := 8) rfl rfl
theorem dX5_fitsAll_71 : decode cX5_fitsAll 71 = .ok (.iconst 1, 1) := zby_g zbyb_100 (i := 9) rfl rfl
theorem dX5_fitsAll_72 : decode cX5_fitsAll 72 = .ok (.ireturn, 1) := zby_g zbyb_100 (i := 10) rfl rfl
noncomputable def zbyl_101 : List (Nat × zbyE) := [(0, zbyo_27), (1, zbyo_28), (2, zbyo_122), (3, zbyo_4), (4, zbyo_126), (5, zbyo_27), (6, zbyo_29), (7, zbyo_122), (8, zbyo_4), (9, zbyo_126), (10, zbyo_160 7), (13, zbyo_4), (14, zbyo_167 4), (17, zbyo_3), (18, zbyo_172)]
theorem zbyb_101 : zbys zbyl_101 (cX5_answers.data.toList.drop 0) 0 = true := by decide +kernel
theorem dX5_answers_0 : decode cX5_answers 0 = .ok (.iload_n 1, 1) := zby_g zbyb_101 (i := 0) rfl rfl
theorem dX5_answers_1 : decode cX5_answers 1 = .ok (.iload_n 2, 1) := zby_g zbyb_101 (i := 1) rfl rfl
theorem dX5_answers_2 : decode cX5_answers 2 = .ok (.ishr, 1) := zby_g zbyb_101 (i := 2) rfl rfl
theorem dX5_answers_3 : decode cX5_answers 3 = .ok (.iconst 1, 1) := zby_g zbyb_101 (i := 3) rfl rfl
theorem dX5_answers_4 : decode cX5_answers 4 = .ok (.iand, 1) := zby_g zbyb_101 (i := 4) rfl rfl
theorem dX5_answers_5 : decode cX5_answers 5 = .ok (.iload_n 1, 1) := zby_g zbyb_101 (i := 5) rfl rfl
theorem dX5_answers_6 : decode cX5_answers 6 = .ok (.iload_n 3, 1) := zby_g zbyb_101 (i := 6) rfl rfl
theorem dX5_answers_7 : decode cX5_answers 7 = .ok (.ishr, 1) := zby_g zbyb_101 (i := 7) rfl rfl
theorem dX5_answers_8 : decode cX5_answers 8 = .ok (.iconst 1, 1) := zby_g zbyb_101 (i := 8) rfl rfl
theorem dX5_answers_9 : decode cX5_answers 9 = .ok (.iand, 1) := zby_g zbyb_101 (i := 9) rfl rfl
theorem dX5_answers_10 : decode cX5_answers 10 = .ok (.if_icmp .ne 7, 3) := zby_g zbyb_101 (i := 10) rfl rfl
theorem dX5_answers_13 : decode cX5_answers 13 = .ok (.iconst 1, 1) := zby_g zbyb_101 (i := 11) rfl rfl
theorem dX5_answers_14 : decode cX5_answers 14 = .ok (.goto 4, 3) := zby_g zbyb_101 (i := 12) rfl rfl
theorem dX5_answers_17 : decode cX5_answers 17 = .ok (.iconst 0, 1) := zby_g zbyb_101 (i := 13) rfl rfl
theorem dX5_answers_18 : decode cX5_answers 18 = .ok (.ireturn, 1) := zby_g zbyb_101 (i := 14) rfl rfl
noncomputable def zbyl_102 : List (Nat × zbyE) := [(0, zbyo_42), (1, zbyo_180 25), (4, zbyo_154 7), (7, zbyo_3), (8, zbyo_167 11), (11, zbyo_4), (12, zbyo_42), (13, zbyo_180 21), (16, zbyo_120), (17, zbyo_4), (18, zbyo_100), (19, zbyo_60), (20, zbyo_3), (21, zbyo_61), (22, zbyo_28), (23, zbyo_4)]
theorem zbyb_102 : zbys zbyl_102 (cX5_honestInAll.data.toList.drop 0) 0 = true := by decide +kernel
theorem dX5_honestInAll_0 : decode cX5_honestInAll 0 = .ok (.aload_n 0, 1) := zby_g zbyb_102 (i := 0) rfl rfl
theorem dX5_honestInAll_1 : decode cX5_honestInAll 1 = .ok (.getfield 25, 3) := zby_g zbyb_102 (i := 1) rfl rfl
theorem dX5_honestInAll_4 : decode cX5_honestInAll 4 = .ok (.ifCond .ne 7, 3) := zby_g zbyb_102 (i := 2) rfl rfl
theorem dX5_honestInAll_7 : decode cX5_honestInAll 7 = .ok (.iconst 0, 1) := zby_g zbyb_102 (i := 3) rfl rfl
theorem dX5_honestInAll_8 : decode cX5_honestInAll 8 = .ok (.goto 11, 3) := zby_g zbyb_102 (i := 4) rfl rfl
theorem dX5_honestInAll_11 : decode cX5_honestInAll 11 = .ok (.iconst 1, 1) := zby_g zbyb_102 (i := 5) rfl rfl
theorem dX5_honestInAll_12 : decode cX5_honestInAll 12 = .ok (.aload_n 0, 1) := zby_g zbyb_102 (i := 6) rfl rfl
theorem dX5_honestInAll_13 : decode cX5_honestInAll 13 = .ok (.getfield 21, 3) := zby_g zbyb_102 (i := 7) rfl rfl
theorem dX5_honestInAll_16 : decode cX5_honestInAll 16 = .ok (.ishl, 1) := zby_g zbyb_102 (i := 8) rfl rfl
theorem dX5_honestInAll_17 : decode cX5_honestInAll 17 = .ok (.iconst 1, 1) := zby_g zbyb_102 (i := 9) rfl rfl
theorem dX5_honestInAll_18 : decode cX5_honestInAll 18 = .ok (.isub, 1) := zby_g zbyb_102 (i := 10) rfl rfl
theorem dX5_honestInAll_19 : decode cX5_honestInAll 19 = .ok (.istore_n 1, 1) := zby_g zbyb_102 (i := 11) rfl rfl
theorem dX5_honestInAll_20 : decode cX5_honestInAll 20 = .ok (.iconst 0, 1) := zby_g zbyb_102 (i := 12) rfl rfl
theorem dX5_honestInAll_21 : decode cX5_honestInAll 21 = .ok (.istore_n 2, 1) := zby_g zbyb_102 (i := 13) rfl rfl
theorem dX5_honestInAll_22 : decode cX5_honestInAll 22 = .ok (.iload_n 2, 1) := zby_g zbyb_102 (i := 14) rfl rfl
theorem dX5_honestInAll_23 : decode cX5_honestInAll 23 = .ok (.iconst 1, 1) := zby_g zbyb_102 (i := 15) rfl rfl
noncomputable def zbyl_103 : List (Nat × zbyE) := [(24, zbyo_42), (25, zbyo_180 21), (28, zbyo_120), (29, zbyo_162 22), (32, zbyo_42), (33, zbyo_180 9), (36, zbyo_28), (37, zbyo_51), (38, zbyo_153 7), (41, zbyo_27), (42, zbyo_28), (43, zbyo_126), (44, zbyo_60), (45, zbyo_132 2 1), (48, zbyo_167 (-26)), (51, zbyo_27)]
theorem zbyb_103 : zbys zbyl_103 (cX5_honestInAll.data.toList.drop 24) 24 = true := by decide +kernel
theorem dX5_honestInAll_24 : decode cX5_honestInAll 24 = .ok (.aload_n 0, 1) := zby_g zbyb_103 (i := 0) rfl rfl
theorem dX5_honestInAll_25 : decode cX5_honestInAll 25 = .ok (.getfield 21, 3) := zby_g zbyb_103 (i := 1) rfl rfl
theorem dX5_honestInAll_28 : decode cX5_honestInAll 28 = .ok (.ishl, 1) := zby_g zbyb_103 (i := 2) rfl rfl
theorem dX5_honestInAll_29 : decode cX5_honestInAll 29 = .ok (.if_icmp .ge 22, 3) := zby_g zbyb_103 (i := 3) rfl rfl
theorem dX5_honestInAll_32 : decode cX5_honestInAll 32 = .ok (.aload_n 0, 1) := zby_g zbyb_103 (i := 4) rfl rfl
theorem dX5_honestInAll_33 : decode cX5_honestInAll 33 = .ok (.getfield 9, 3) := zby_g zbyb_103 (i := 5) rfl rfl
theorem dX5_honestInAll_36 : decode cX5_honestInAll 36 = .ok (.iload_n 2, 1) := zby_g zbyb_103 (i := 6) rfl rfl
theorem dX5_honestInAll_37 : decode cX5_honestInAll 37 = .ok (.baload, 1) := zby_g zbyb_103 (i := 7) rfl rfl
theorem dX5_honestInAll_38 : decode cX5_honestInAll 38 = .ok (.ifCond .eq 7, 3) := zby_g zbyb_103 (i := 8) rfl rfl
theorem dX5_honestInAll_41 : decode cX5_honestInAll 41 = .ok (.iload_n 1, 1) := zby_g zbyb_103 (i := 9) rfl rfl
theorem dX5_honestInAll_42 : decode cX5_honestInAll 42 = .ok (.iload_n 2, 1) := zby_g zbyb_103 (i := 10) rfl rfl
theorem dX5_honestInAll_43 : decode cX5_honestInAll 43 = .ok (.iand, 1) := zby_g zbyb_103 (i := 11) rfl rfl
theorem dX5_honestInAll_44 : decode cX5_honestInAll 44 = .ok (.istore_n 1, 1) := zby_g zbyb_103 (i := 12) rfl rfl
theorem dX5_honestInAll_45 : decode cX5_honestInAll 45 = .ok (.iinc 2 1, 3) := zby_g zbyb_103 (i := 13) rfl rfl
theorem dX5_honestInAll_48 : decode cX5_honestInAll 48 = .ok (.goto (-26), 3) := zby_g zbyb_103 (i := 14) rfl rfl
theorem dX5_honestInAll_51 : decode cX5_honestInAll 51 = .ok (.iload_n 1, 1) := zby_g zbyb_103 (i := 15) rfl rfl
noncomputable def zbyl_104 : List (Nat × zbyE) := [(52, zbyo_172)]
theorem zbyb_104 : zbys zbyl_104 (cX5_honestInAll.data.toList.drop 52) 52 = true := by decide +kernel
theorem dX5_honestInAll_52 : decode cX5_honestInAll 52 = .ok (.ireturn, 1) := zby_g zbyb_104 (i := 0) rfl rfl
noncomputable def zbyl_105 : List (Nat × zbyE) := [(0, zbyo_2), (1, zbyo_60), (2, zbyo_3), (3, zbyo_61), (4, zbyo_3), (5, zbyo_62), (6, zbyo_29), (7, zbyo_42), (8, zbyo_180 21), (11, zbyo_162 72), (14, zbyo_42), (15, zbyo_180 25), (18, zbyo_5), (19, zbyo_161 64), (22, zbyo_3), (23, zbyo_54 4)]
theorem zbyb_105 : zbys zbyl_105 (cX5_bestQuestion.data.toList.drop 0) 0 = true := by decide +kernel
theorem dX5_bestQuestion_0 : decode cX5_bestQuestion 0 = .ok (.iconst (-1), 1) := zby_g zbyb_105 (i := 0) rfl rfl
theorem dX5_bestQuestion_1 : decode cX5_bestQuestion 1 = .ok (.istore_n 1, 1) := zby_g zbyb_105 (i := 1) rfl rfl
theorem dX5_bestQuestion_2 : decode cX5_bestQuestion 2 = .ok (.iconst 0, 1) := zby_g zbyb_105 (i := 2) rfl rfl
theorem dX5_bestQuestion_3 : decode cX5_bestQuestion 3 = .ok (.istore_n 2, 1) := zby_g zbyb_105 (i := 3) rfl rfl
theorem dX5_bestQuestion_4 : decode cX5_bestQuestion 4 = .ok (.iconst 0, 1) := zby_g zbyb_105 (i := 4) rfl rfl
theorem dX5_bestQuestion_5 : decode cX5_bestQuestion 5 = .ok (.istore_n 3, 1) := zby_g zbyb_105 (i := 5) rfl rfl
theorem dX5_bestQuestion_6 : decode cX5_bestQuestion 6 = .ok (.iload_n 3, 1) := zby_g zbyb_105 (i := 6) rfl rfl
theorem dX5_bestQuestion_7 : decode cX5_bestQuestion 7 = .ok (.aload_n 0, 1) := zby_g zbyb_105 (i := 7) rfl rfl
theorem dX5_bestQuestion_8 : decode cX5_bestQuestion 8 = .ok (.getfield 21, 3) := zby_g zbyb_105 (i := 8) rfl rfl
theorem dX5_bestQuestion_11 : decode cX5_bestQuestion 11 = .ok (.if_icmp .ge 72, 3) := zby_g zbyb_105 (i := 9) rfl rfl
theorem dX5_bestQuestion_14 : decode cX5_bestQuestion 14 = .ok (.aload_n 0, 1) := zby_g zbyb_105 (i := 10) rfl rfl
theorem dX5_bestQuestion_15 : decode cX5_bestQuestion 15 = .ok (.getfield 25, 3) := zby_g zbyb_105 (i := 11) rfl rfl
theorem dX5_bestQuestion_18 : decode cX5_bestQuestion 18 = .ok (.iconst 2, 1) := zby_g zbyb_105 (i := 12) rfl rfl
theorem dX5_bestQuestion_19 : decode cX5_bestQuestion 19 = .ok (.if_icmp .lt 64, 3) := zby_g zbyb_105 (i := 13) rfl rfl
theorem dX5_bestQuestion_22 : decode cX5_bestQuestion 22 = .ok (.iconst 0, 1) := zby_g zbyb_105 (i := 14) rfl rfl
theorem dX5_bestQuestion_23 : decode cX5_bestQuestion 23 = .ok (.istore 4, 2) := zby_g zbyb_105 (i := 15) rfl rfl
noncomputable def zbyl_106 : List (Nat × zbyE) := [(25, zbyo_21 4), (27, zbyo_42), (28, zbyo_180 21), (31, zbyo_162 46), (34, zbyo_42), (35, zbyo_29), (36, zbyo_21 4), (38, zbyo_182 42), (41, zbyo_54 5), (43, zbyo_29), (44, zbyo_21 4), (46, zbyo_159 25), (49, zbyo_27), (50, zbyo_2), (51, zbyo_159 9), (54, zbyo_21 5)]
theorem zbyb_106 : zbys zbyl_106 (cX5_bestQuestion.data.toList.drop 25) 25 = true := by decide +kernel
theorem dX5_bestQuestion_25 : decode cX5_bestQuestion 25 = .ok (.iload 4, 2) := zby_g zbyb_106 (i := 0) rfl rfl
theorem dX5_bestQuestion_27 : decode cX5_bestQuestion 27 = .ok (.aload_n 0, 1) := zby_g zbyb_106 (i := 1) rfl rfl
theorem dX5_bestQuestion_28 : decode cX5_bestQuestion 28 = .ok (.getfield 21, 3) := zby_g zbyb_106 (i := 2) rfl rfl
theorem dX5_bestQuestion_31 : decode cX5_bestQuestion 31 = .ok (.if_icmp .ge 46, 3) := zby_g zbyb_106 (i := 3) rfl rfl
theorem dX5_bestQuestion_34 : decode cX5_bestQuestion 34 = .ok (.aload_n 0, 1) := zby_g zbyb_106 (i := 4) rfl rfl
theorem dX5_bestQuestion_35 : decode cX5_bestQuestion 35 = .ok (.iload_n 3, 1) := zby_g zbyb_106 (i := 5) rfl rfl
theorem dX5_bestQuestion_36 : decode cX5_bestQuestion 36 = .ok (.iload 4, 2) := zby_g zbyb_106 (i := 6) rfl rfl
theorem dX5_bestQuestion_38 : decode cX5_bestQuestion 38 = .ok (.invokevirtual 42, 3) := zby_g zbyb_106 (i := 7) rfl rfl
theorem dX5_bestQuestion_41 : decode cX5_bestQuestion 41 = .ok (.istore 5, 2) := zby_g zbyb_106 (i := 8) rfl rfl
theorem dX5_bestQuestion_43 : decode cX5_bestQuestion 43 = .ok (.iload_n 3, 1) := zby_g zbyb_106 (i := 9) rfl rfl
theorem dX5_bestQuestion_44 : decode cX5_bestQuestion 44 = .ok (.iload 4, 2) := zby_g zbyb_106 (i := 10) rfl rfl
theorem dX5_bestQuestion_46 : decode cX5_bestQuestion 46 = .ok (.if_icmp .eq 25, 3) := zby_g zbyb_106 (i := 11) rfl rfl
theorem dX5_bestQuestion_49 : decode cX5_bestQuestion 49 = .ok (.iload_n 1, 1) := zby_g zbyb_106 (i := 12) rfl rfl
theorem dX5_bestQuestion_50 : decode cX5_bestQuestion 50 = .ok (.iconst (-1), 1) := zby_g zbyb_106 (i := 13) rfl rfl
theorem dX5_bestQuestion_51 : decode cX5_bestQuestion 51 = .ok (.if_icmp .eq 9, 3) := zby_g zbyb_106 (i := 14) rfl rfl
theorem dX5_bestQuestion_54 : decode cX5_bestQuestion 54 = .ok (.iload 5, 2) := zby_g zbyb_106 (i := 15) rfl rfl
noncomputable def zbyl_107 : List (Nat × zbyE) := [(56, zbyo_28), (57, zbyo_162 14), (60, zbyo_16 10), (62, zbyo_29), (63, zbyo_104), (64, zbyo_21 4), (66, zbyo_96), (67, zbyo_60), (68, zbyo_21 5), (70, zbyo_61), (71, zbyo_132 4 1), (74, zbyo_167 (-49)), (77, zbyo_132 3 1), (80, zbyo_167 (-74)), (83, zbyo_27), (84, zbyo_172)]
theorem zbyb_107 : zbys zbyl_107 (cX5_bestQuestion.data.toList.drop 56) 56 = true := by decide +kernel
theorem dX5_bestQuestion_56 : decode cX5_bestQuestion 56 = .ok (.iload_n 2, 1) := zby_g zbyb_107 (i := 0) rfl rfl
theorem dX5_bestQuestion_57 : decode cX5_bestQuestion 57 = .ok (.if_icmp .ge 14, 3) := zby_g zbyb_107 (i := 1) rfl rfl
theorem dX5_bestQuestion_60 : decode cX5_bestQuestion 60 = .ok (.bipush 10, 2) := zby_g zbyb_107 (i := 2) rfl rfl
theorem dX5_bestQuestion_62 : decode cX5_bestQuestion 62 = .ok (.iload_n 3, 1) := zby_g zbyb_107 (i := 3) rfl rfl
theorem dX5_bestQuestion_63 : decode cX5_bestQuestion 63 = .ok (.imul, 1) := zby_g zbyb_107 (i := 4) rfl rfl
theorem dX5_bestQuestion_64 : decode cX5_bestQuestion 64 = .ok (.iload 4, 2) := zby_g zbyb_107 (i := 5) rfl rfl
theorem dX5_bestQuestion_66 : decode cX5_bestQuestion 66 = .ok (.iadd, 1) := zby_g zbyb_107 (i := 6) rfl rfl
theorem dX5_bestQuestion_67 : decode cX5_bestQuestion 67 = .ok (.istore_n 1, 1) := zby_g zbyb_107 (i := 7) rfl rfl
theorem dX5_bestQuestion_68 : decode cX5_bestQuestion 68 = .ok (.iload 5, 2) := zby_g zbyb_107 (i := 8) rfl rfl
theorem dX5_bestQuestion_70 : decode cX5_bestQuestion 70 = .ok (.istore_n 2, 1) := zby_g zbyb_107 (i := 9) rfl rfl
theorem dX5_bestQuestion_71 : decode cX5_bestQuestion 71 = .ok (.iinc 4 1, 3) := zby_g zbyb_107 (i := 10) rfl rfl
theorem dX5_bestQuestion_74 : decode cX5_bestQuestion 74 = .ok (.goto (-49), 3) := zby_g zbyb_107 (i := 11) rfl rfl
theorem dX5_bestQuestion_77 : decode cX5_bestQuestion 77 = .ok (.iinc 3 1, 3) := zby_g zbyb_107 (i := 12) rfl rfl
theorem dX5_bestQuestion_80 : decode cX5_bestQuestion 80 = .ok (.goto (-74), 3) := zby_g zbyb_107 (i := 13) rfl rfl
theorem dX5_bestQuestion_83 : decode cX5_bestQuestion 83 = .ok (.iload_n 1, 1) := zby_g zbyb_107 (i := 14) rfl rfl
theorem dX5_bestQuestion_84 : decode cX5_bestQuestion 84 = .ok (.ireturn, 1) := zby_g zbyb_107 (i := 15) rfl rfl
noncomputable def zbyl_108 : List (Nat × zbyE) := [(0, zbyo_3), (1, zbyo_62), (2, zbyo_3), (3, zbyo_54 4), (5, zbyo_21 4), (7, zbyo_4), (8, zbyo_42), (9, zbyo_180 21), (12, zbyo_120), (13, zbyo_162 33), (16, zbyo_42), (17, zbyo_180 9), (20, zbyo_21 4), (22, zbyo_51), (23, zbyo_153 17), (26, zbyo_42)]
theorem zbyb_108 : zbys zbyl_108 (cX5_greaterPart.data.toList.drop 0) 0 = true := by decide +kernel
theorem dX5_greaterPart_0 : decode cX5_greaterPart 0 = .ok (.iconst 0, 1) := zby_g zbyb_108 (i := 0) rfl rfl
theorem dX5_greaterPart_1 : decode cX5_greaterPart 1 = .ok (.istore_n 3, 1) := zby_g zbyb_108 (i := 1) rfl rfl
theorem dX5_greaterPart_2 : decode cX5_greaterPart 2 = .ok (.iconst 0, 1) := zby_g zbyb_108 (i := 2) rfl rfl
theorem dX5_greaterPart_3 : decode cX5_greaterPart 3 = .ok (.istore 4, 2) := zby_g zbyb_108 (i := 3) rfl rfl
theorem dX5_greaterPart_5 : decode cX5_greaterPart 5 = .ok (.iload 4, 2) := zby_g zbyb_108 (i := 4) rfl rfl
theorem dX5_greaterPart_7 : decode cX5_greaterPart 7 = .ok (.iconst 1, 1) := zby_g zbyb_108 (i := 5) rfl rfl
theorem dX5_greaterPart_8 : decode cX5_greaterPart 8 = .ok (.aload_n 0, 1) := zby_g zbyb_108 (i := 6) rfl rfl
theorem dX5_greaterPart_9 : decode cX5_greaterPart 9 = .ok (.getfield 21, 3) := zby_g zbyb_108 (i := 7) rfl rfl
theorem dX5_greaterPart_12 : decode cX5_greaterPart 12 = .ok (.ishl, 1) := zby_g zbyb_108 (i := 8) rfl rfl
theorem dX5_greaterPart_13 : decode cX5_greaterPart 13 = .ok (.if_icmp .ge 33, 3) := zby_g zbyb_108 (i := 9) rfl rfl
theorem dX5_greaterPart_16 : decode cX5_greaterPart 16 = .ok (.aload_n 0, 1) := zby_g zbyb_108 (i := 10) rfl rfl
theorem dX5_greaterPart_17 : decode cX5_greaterPart 17 = .ok (.getfield 9, 3) := zby_g zbyb_108 (i := 11) rfl rfl
theorem dX5_greaterPart_20 : decode cX5_greaterPart 20 = .ok (.iload 4, 2) := zby_g zbyb_108 (i := 12) rfl rfl
theorem dX5_greaterPart_22 : decode cX5_greaterPart 22 = .ok (.baload, 1) := zby_g zbyb_108 (i := 13) rfl rfl
theorem dX5_greaterPart_23 : decode cX5_greaterPart 23 = .ok (.ifCond .eq 17, 3) := zby_g zbyb_108 (i := 14) rfl rfl
theorem dX5_greaterPart_26 : decode cX5_greaterPart 26 = .ok (.aload_n 0, 1) := zby_g zbyb_108 (i := 15) rfl rfl
noncomputable def zbyl_109 : List (Nat × zbyE) := [(27, zbyo_21 4), (29, zbyo_27), (30, zbyo_28), (31, zbyo_182 38), (34, zbyo_153 6), (37, zbyo_132 3 1), (40, zbyo_132 4 1), (43, zbyo_167 (-38)), (46, zbyo_29), (47, zbyo_42), (48, zbyo_180 25), (51, zbyo_29), (52, zbyo_100), (53, zbyo_184 45), (56, zbyo_172)]
theorem zbyb_109 : zbys zbyl_109 (cX5_greaterPart.data.toList.drop 27) 27 = true := by decide +kernel
theorem dX5_greaterPart_27 : decode cX5_greaterPart 27 = .ok (.iload 4, 2) := zby_g zbyb_109 (i := 0) rfl rfl
theorem dX5_greaterPart_29 : decode cX5_greaterPart 29 = .ok (.iload_n 1, 1) := zby_g zbyb_109 (i := 1) rfl rfl
theorem dX5_greaterPart_30 : decode cX5_greaterPart 30 = .ok (.iload_n 2, 1) := zby_g zbyb_109 (i := 2) rfl rfl
theorem dX5_greaterPart_31 : decode cX5_greaterPart 31 = .ok (.invokevirtual 38, 3) := zby_g zbyb_109 (i := 3) rfl rfl
theorem dX5_greaterPart_34 : decode cX5_greaterPart 34 = .ok (.ifCond .eq 6, 3) := zby_g zbyb_109 (i := 4) rfl rfl
theorem dX5_greaterPart_37 : decode cX5_greaterPart 37 = .ok (.iinc 3 1, 3) := zby_g zbyb_109 (i := 5) rfl rfl
theorem dX5_greaterPart_40 : decode cX5_greaterPart 40 = .ok (.iinc 4 1, 3) := zby_g zbyb_109 (i := 6) rfl rfl
theorem dX5_greaterPart_43 : decode cX5_greaterPart 43 = .ok (.goto (-38), 3) := zby_g zbyb_109 (i := 7) rfl rfl
theorem dX5_greaterPart_46 : decode cX5_greaterPart 46 = .ok (.iload_n 3, 1) := zby_g zbyb_109 (i := 8) rfl rfl
theorem dX5_greaterPart_47 : decode cX5_greaterPart 47 = .ok (.aload_n 0, 1) := zby_g zbyb_109 (i := 9) rfl rfl
theorem dX5_greaterPart_48 : decode cX5_greaterPart 48 = .ok (.getfield 25, 3) := zby_g zbyb_109 (i := 10) rfl rfl
theorem dX5_greaterPart_51 : decode cX5_greaterPart 51 = .ok (.iload_n 3, 1) := zby_g zbyb_109 (i := 11) rfl rfl
theorem dX5_greaterPart_52 : decode cX5_greaterPart 52 = .ok (.isub, 1) := zby_g zbyb_109 (i := 12) rfl rfl
theorem dX5_greaterPart_53 : decode cX5_greaterPart 53 = .ok (.invokestatic 45, 3) := zby_g zbyb_109 (i := 13) rfl rfl
theorem dX5_greaterPart_56 : decode cX5_greaterPart 56 = .ok (.ireturn, 1) := zby_g zbyb_109 (i := 14) rfl rfl
noncomputable def zbyl_110 : List (Nat × zbyE) := [(0, zbyo_26), (1, zbyo_133), (2, zbyo_65), (3, zbyo_16 100), (5, zbyo_26), (6, zbyo_100), (7, zbyo_133), (8, zbyo_55 4), (10, zbyo_3), (11, zbyo_54 6), (13, zbyo_21 6), (15, zbyo_27), (16, zbyo_162 15), (19, zbyo_32), (20, zbyo_20 48), (23, zbyo_105)]
theorem zbyb_110 : zbys zbyl_110 (cX5_odds.data.toList.drop 0) 0 = true := by decide +kernel
theorem dX5_odds_0 : decode cX5_odds 0 = .ok (.iload_n 0, 1) := zby_g zbyb_110 (i := 0) rfl rfl
theorem dX5_odds_1 : decode cX5_odds 1 = .ok (.i2l, 1) := zby_g zbyb_110 (i := 1) rfl rfl
theorem dX5_odds_2 : decode cX5_odds 2 = .ok (.lstore_n 2, 1) := zby_g zbyb_110 (i := 2) rfl rfl
theorem dX5_odds_3 : decode cX5_odds 3 = .ok (.bipush 100, 2) := zby_g zbyb_110 (i := 3) rfl rfl
theorem dX5_odds_5 : decode cX5_odds 5 = .ok (.iload_n 0, 1) := zby_g zbyb_110 (i := 4) rfl rfl
theorem dX5_odds_6 : decode cX5_odds 6 = .ok (.isub, 1) := zby_g zbyb_110 (i := 5) rfl rfl
theorem dX5_odds_7 : decode cX5_odds 7 = .ok (.i2l, 1) := zby_g zbyb_110 (i := 6) rfl rfl
theorem dX5_odds_8 : decode cX5_odds 8 = .ok (.lstore 4, 2) := zby_g zbyb_110 (i := 7) rfl rfl
theorem dX5_odds_10 : decode cX5_odds 10 = .ok (.iconst 0, 1) := zby_g zbyb_110 (i := 8) rfl rfl
theorem dX5_odds_11 : decode cX5_odds 11 = .ok (.istore 6, 2) := zby_g zbyb_110 (i := 9) rfl rfl
theorem dX5_odds_13 : decode cX5_odds 13 = .ok (.iload 6, 2) := zby_g zbyb_110 (i := 10) rfl rfl
theorem dX5_odds_15 : decode cX5_odds 15 = .ok (.iload_n 1, 1) := zby_g zbyb_110 (i := 11) rfl rfl
theorem dX5_odds_16 : decode cX5_odds 16 = .ok (.if_icmp .ge 15, 3) := zby_g zbyb_110 (i := 12) rfl rfl
theorem dX5_odds_19 : decode cX5_odds 19 = .ok (.lload_n 2, 1) := zby_g zbyb_110 (i := 13) rfl rfl
theorem dX5_odds_20 : decode cX5_odds 20 = .ok (.ldc2_w 48, 3) := zby_g zbyb_110 (i := 14) rfl rfl
theorem dX5_odds_23 : decode cX5_odds 23 = .ok (.lmul, 1) := zby_g zbyb_110 (i := 15) rfl rfl
noncomputable def zbyl_111 : List (Nat × zbyE) := [(24, zbyo_65), (25, zbyo_132 6 1), (28, zbyo_167 (-15)), (31, zbyo_3), (32, zbyo_54 6), (34, zbyo_21 6), (36, zbyo_27), (37, zbyo_116), (38, zbyo_162 17), (41, zbyo_22 4), (43, zbyo_20 48), (46, zbyo_105), (47, zbyo_55 4), (49, zbyo_132 6 1), (52, zbyo_167 (-18)), (55, zbyo_32)]
theorem zbyb_111 : zbys zbyl_111 (cX5_odds.data.toList.drop 24) 24 = true := by decide +kernel
theorem dX5_odds_24 : decode cX5_odds 24 = .ok (.lstore_n 2, 1) := zby_g zbyb_111 (i := 0) rfl rfl
theorem dX5_odds_25 : decode cX5_odds 25 = .ok (.iinc 6 1, 3) := zby_g zbyb_111 (i := 1) rfl rfl
theorem dX5_odds_28 : decode cX5_odds 28 = .ok (.goto (-15), 3) := zby_g zbyb_111 (i := 2) rfl rfl
theorem dX5_odds_31 : decode cX5_odds 31 = .ok (.iconst 0, 1) := zby_g zbyb_111 (i := 3) rfl rfl
theorem dX5_odds_32 : decode cX5_odds 32 = .ok (.istore 6, 2) := zby_g zbyb_111 (i := 4) rfl rfl
theorem dX5_odds_34 : decode cX5_odds 34 = .ok (.iload 6, 2) := zby_g zbyb_111 (i := 5) rfl rfl
theorem dX5_odds_36 : decode cX5_odds 36 = .ok (.iload_n 1, 1) := zby_g zbyb_111 (i := 6) rfl rfl
theorem dX5_odds_37 : decode cX5_odds 37 = .ok (.ineg, 1) := zby_g zbyb_111 (i := 7) rfl rfl
theorem dX5_odds_38 : decode cX5_odds 38 = .ok (.if_icmp .ge 17, 3) := zby_g zbyb_111 (i := 8) rfl rfl
theorem dX5_odds_41 : decode cX5_odds 41 = .ok (.lload 4, 2) := zby_g zbyb_111 (i := 9) rfl rfl
theorem dX5_odds_43 : decode cX5_odds 43 = .ok (.ldc2_w 48, 3) := zby_g zbyb_111 (i := 10) rfl rfl
theorem dX5_odds_46 : decode cX5_odds 46 = .ok (.lmul, 1) := zby_g zbyb_111 (i := 11) rfl rfl
theorem dX5_odds_47 : decode cX5_odds 47 = .ok (.lstore 4, 2) := zby_g zbyb_111 (i := 12) rfl rfl
theorem dX5_odds_49 : decode cX5_odds 49 = .ok (.iinc 6 1, 3) := zby_g zbyb_111 (i := 13) rfl rfl
theorem dX5_odds_52 : decode cX5_odds 52 = .ok (.goto (-18), 3) := zby_g zbyb_111 (i := 14) rfl rfl
theorem dX5_odds_55 : decode cX5_odds 55 = .ok (.lload_n 2, 1) := zby_g zbyb_111 (i := 15) rfl rfl
noncomputable def zbyl_112 : List (Nat × zbyE) := [(56, zbyo_22 4), (58, zbyo_97), (59, zbyo_9), (60, zbyo_148), (61, zbyo_157 7), (64, zbyo_3), (65, zbyo_167 14), (68, zbyo_20 50), (71, zbyo_32), (72, zbyo_105), (73, zbyo_32), (74, zbyo_22 4), (76, zbyo_97), (77, zbyo_109), (78, zbyo_136), (79, zbyo_172)]
theorem zbyb_112 : zbys zbyl_112 (cX5_odds.data.toList.drop 56) 56 = true := by decide +kernel
theorem dX5_odds_56 : decode cX5_odds 56 = .ok (.lload 4, 2) := zby_g zbyb_112 (i := 0) rfl rfl
theorem dX5_odds_58 : decode cX5_odds 58 = .ok (.ladd, 1) := zby_g zbyb_112 (i := 1) rfl rfl
theorem dX5_odds_59 : decode cX5_odds 59 = .ok (.lconst 0, 1) := zby_g zbyb_112 (i := 2) rfl rfl
theorem dX5_odds_60 : decode cX5_odds 60 = .ok (.lcmp, 1) := zby_g zbyb_112 (i := 3) rfl rfl
theorem dX5_odds_61 : decode cX5_odds 61 = .ok (.ifCond .gt 7, 3) := zby_g zbyb_112 (i := 4) rfl rfl
theorem dX5_odds_64 : decode cX5_odds 64 = .ok (.iconst 0, 1) := zby_g zbyb_112 (i := 5) rfl rfl
theorem dX5_odds_65 : decode cX5_odds 65 = .ok (.goto 14, 3) := zby_g zbyb_112 (i := 6) rfl rfl
theorem dX5_odds_68 : decode cX5_odds 68 = .ok (.ldc2_w 50, 3) := zby_g zbyb_112 (i := 7) rfl rfl
theorem dX5_odds_71 : decode cX5_odds 71 = .ok (.lload_n 2, 1) := zby_g zbyb_112 (i := 8) rfl rfl
theorem dX5_odds_72 : decode cX5_odds 72 = .ok (.lmul, 1) := zby_g zbyb_112 (i := 9) rfl rfl
theorem dX5_odds_73 : decode cX5_odds 73 = .ok (.lload_n 2, 1) := zby_g zbyb_112 (i := 10) rfl rfl
theorem dX5_odds_74 : decode cX5_odds 74 = .ok (.lload 4, 2) := zby_g zbyb_112 (i := 11) rfl rfl
theorem dX5_odds_76 : decode cX5_odds 76 = .ok (.ladd, 1) := zby_g zbyb_112 (i := 12) rfl rfl
theorem dX5_odds_77 : decode cX5_odds 77 = .ok (.ldiv, 1) := zby_g zbyb_112 (i := 13) rfl rfl
theorem dX5_odds_78 : decode cX5_odds 78 = .ok (.l2i, 1) := zby_g zbyb_112 (i := 14) rfl rfl
theorem dX5_odds_79 : decode cX5_odds 79 = .ok (.ireturn, 1) := zby_g zbyb_112 (i := 15) rfl rfl
noncomputable def zbyl_113 : List (Nat × zbyE) := [(0, zbyo_3), (1, zbyo_61), (2, zbyo_28), (3, zbyo_16 20), (5, zbyo_163 32), (8, zbyo_27), (9, zbyo_28), (10, zbyo_96), (11, zbyo_16 12), (13, zbyo_163 24), (16, zbyo_26), (17, zbyo_27), (18, zbyo_28), (19, zbyo_96), (20, zbyo_184 52), (23, zbyo_17 9900)]
theorem zbyb_113 : zbys zbyl_113 (cX5_fewestNeeded.data.toList.drop 0) 0 = true := by decide +kernel
theorem dX5_fewestNeeded_0 : decode cX5_fewestNeeded 0 = .ok (.iconst 0, 1) := zby_g zbyb_113 (i := 0) rfl rfl
theorem dX5_fewestNeeded_1 : decode cX5_fewestNeeded 1 = .ok (.istore_n 2, 1) := zby_g zbyb_113 (i := 1) rfl rfl
theorem dX5_fewestNeeded_2 : decode cX5_fewestNeeded 2 = .ok (.iload_n 2, 1) := zby_g zbyb_113 (i := 2) rfl rfl
theorem dX5_fewestNeeded_3 : decode cX5_fewestNeeded 3 = .ok (.bipush 20, 2) := zby_g zbyb_113 (i := 3) rfl rfl
theorem dX5_fewestNeeded_5 : decode cX5_fewestNeeded 5 = .ok (.if_icmp .gt 32, 3) := zby_g zbyb_113 (i := 4) rfl rfl
theorem dX5_fewestNeeded_8 : decode cX5_fewestNeeded 8 = .ok (.iload_n 1, 1) := zby_g zbyb_113 (i := 5) rfl rfl
theorem dX5_fewestNeeded_9 : decode cX5_fewestNeeded 9 = .ok (.iload_n 2, 1) := zby_g zbyb_113 (i := 6) rfl rfl
theorem dX5_fewestNeeded_10 : decode cX5_fewestNeeded 10 = .ok (.iadd, 1) := zby_g zbyb_113 (i := 7) rfl rfl
theorem dX5_fewestNeeded_11 : decode cX5_fewestNeeded 11 = .ok (.bipush 12, 2) := zby_g zbyb_113 (i := 8) rfl rfl
theorem dX5_fewestNeeded_13 : decode cX5_fewestNeeded 13 = .ok (.if_icmp .gt 24, 3) := zby_g zbyb_113 (i := 9) rfl rfl
theorem dX5_fewestNeeded_16 : decode cX5_fewestNeeded 16 = .ok (.iload_n 0, 1) := zby_g zbyb_113 (i := 10) rfl rfl
theorem dX5_fewestNeeded_17 : decode cX5_fewestNeeded 17 = .ok (.iload_n 1, 1) := zby_g zbyb_113 (i := 11) rfl rfl
theorem dX5_fewestNeeded_18 : decode cX5_fewestNeeded 18 = .ok (.iload_n 2, 1) := zby_g zbyb_113 (i := 12) rfl rfl
theorem dX5_fewestNeeded_19 : decode cX5_fewestNeeded 19 = .ok (.iadd, 1) := zby_g zbyb_113 (i := 13) rfl rfl
theorem dX5_fewestNeeded_20 : decode cX5_fewestNeeded 20 = .ok (.invokestatic 52, 3) := zby_g zbyb_113 (i := 14) rfl rfl
theorem dX5_fewestNeeded_23 : decode cX5_fewestNeeded 23 = .ok (.sipush 9900, 3) := zby_g zbyb_113 (i := 15) rfl rfl
noncomputable def zbyl_114 : List (Nat × zbyE) := [(26, zbyo_161 5), (29, zbyo_28), (30, zbyo_172), (31, zbyo_132 2 1), (34, zbyo_167 (-32)), (37, zbyo_2), (38, zbyo_172)]
theorem zbyb_114 : zbys zbyl_114 (cX5_fewestNeeded.data.toList.drop 26) 26 = true := by decide +kernel
theorem dX5_fewestNeeded_26 : decode cX5_fewestNeeded 26 = .ok (.if_icmp .lt 5, 3) := zby_g zbyb_114 (i := 0) rfl rfl
theorem dX5_fewestNeeded_29 : decode cX5_fewestNeeded 29 = .ok (.iload_n 2, 1) := zby_g zbyb_114 (i := 1) rfl rfl
theorem dX5_fewestNeeded_30 : decode cX5_fewestNeeded 30 = .ok (.ireturn, 1) := zby_g zbyb_114 (i := 2) rfl rfl
theorem dX5_fewestNeeded_31 : decode cX5_fewestNeeded 31 = .ok (.iinc 2 1, 3) := zby_g zbyb_114 (i := 3) rfl rfl
theorem dX5_fewestNeeded_34 : decode cX5_fewestNeeded 34 = .ok (.goto (-32), 3) := zby_g zbyb_114 (i := 4) rfl rfl
theorem dX5_fewestNeeded_37 : decode cX5_fewestNeeded 37 = .ok (.iconst (-1), 1) := zby_g zbyb_114 (i := 5) rfl rfl
theorem dX5_fewestNeeded_38 : decode cX5_fewestNeeded 38 = .ok (.ireturn, 1) := zby_g zbyb_114 (i := 6) rfl rfl
noncomputable def zbyl_115 : List (Nat × zbyE) := [(0, zbyo_3), (1, zbyo_60), (2, zbyo_3), (3, zbyo_61), (4, zbyo_28), (5, zbyo_7), (6, zbyo_162 60), (9, zbyo_28), (10, zbyo_5), (11, zbyo_108), (12, zbyo_62), (13, zbyo_28), (14, zbyo_5), (15, zbyo_112), (16, zbyo_54 4), (18, zbyo_29)]
theorem zbyb_115 : zbys zbyl_115 (cX5_choicesAtRest.data.toList.drop 0) 0 = true := by decide +kernel
theorem dX5_choicesAtRest_0 : decode cX5_choicesAtRest 0 = .ok (.iconst 0, 1) := zby_g zbyb_115 (i := 0) rfl rfl
theorem dX5_choicesAtRest_1 : decode cX5_choicesAtRest 1 = .ok (.istore_n 1, 1) := zby_g zbyb_115 (i := 1) rfl rfl
theorem dX5_choicesAtRest_2 : decode cX5_choicesAtRest 2 = .ok (.iconst 0, 1) := zby_g zbyb_115 (i := 2) rfl rfl
theorem dX5_choicesAtRest_3 : decode cX5_choicesAtRest 3 = .ok (.istore_n 2, 1) := zby_g zbyb_115 (i := 3) rfl rfl
theorem dX5_choicesAtRest_4 : decode cX5_choicesAtRest 4 = .ok (.iload_n 2, 1) := zby_g zbyb_115 (i := 4) rfl rfl
theorem dX5_choicesAtRest_5 : decode cX5_choicesAtRest 5 = .ok (.iconst 4, 1) := zby_g zbyb_115 (i := 5) rfl rfl
theorem dX5_choicesAtRest_6 : decode cX5_choicesAtRest 6 = .ok (.if_icmp .ge 60, 3) := zby_g zbyb_115 (i := 6) rfl rfl
theorem dX5_choicesAtRest_9 : decode cX5_choicesAtRest 9 = .ok (.iload_n 2, 1) := zby_g zbyb_115 (i := 7) rfl rfl
theorem dX5_choicesAtRest_10 : decode cX5_choicesAtRest 10 = .ok (.iconst 2, 1) := zby_g zbyb_115 (i := 8) rfl rfl
theorem dX5_choicesAtRest_11 : decode cX5_choicesAtRest 11 = .ok (.idiv, 1) := zby_g zbyb_115 (i := 9) rfl rfl
theorem dX5_choicesAtRest_12 : decode cX5_choicesAtRest 12 = .ok (.istore_n 3, 1) := zby_g zbyb_115 (i := 10) rfl rfl
theorem dX5_choicesAtRest_13 : decode cX5_choicesAtRest 13 = .ok (.iload_n 2, 1) := zby_g zbyb_115 (i := 11) rfl rfl
theorem dX5_choicesAtRest_14 : decode cX5_choicesAtRest 14 = .ok (.iconst 2, 1) := zby_g zbyb_115 (i := 12) rfl rfl
theorem dX5_choicesAtRest_15 : decode cX5_choicesAtRest 15 = .ok (.irem, 1) := zby_g zbyb_115 (i := 13) rfl rfl
theorem dX5_choicesAtRest_16 : decode cX5_choicesAtRest 16 = .ok (.istore 4, 2) := zby_g zbyb_115 (i := 14) rfl rfl
theorem dX5_choicesAtRest_18 : decode cX5_choicesAtRest 18 = .ok (.iload_n 3, 1) := zby_g zbyb_115 (i := 15) rfl rfl
noncomputable def zbyl_116 : List (Nat × zbyE) := [(19, zbyo_21 4), (21, zbyo_184 55), (24, zbyo_4), (25, zbyo_29), (26, zbyo_100), (27, zbyo_21 4), (29, zbyo_184 55), (32, zbyo_161 28), (35, zbyo_29), (36, zbyo_21 4), (38, zbyo_26), (39, zbyo_184 58), (42, zbyo_29), (43, zbyo_4), (44, zbyo_21 4), (46, zbyo_100)]
theorem zbyb_116 : zbys zbyl_116 (cX5_choicesAtRest.data.toList.drop 19) 19 = true := by decide +kernel
theorem dX5_choicesAtRest_19 : decode cX5_choicesAtRest 19 = .ok (.iload 4, 2) := zby_g zbyb_116 (i := 0) rfl rfl
theorem dX5_choicesAtRest_21 : decode cX5_choicesAtRest 21 = .ok (.invokestatic 55, 3) := zby_g zbyb_116 (i := 1) rfl rfl
theorem dX5_choicesAtRest_24 : decode cX5_choicesAtRest 24 = .ok (.iconst 1, 1) := zby_g zbyb_116 (i := 2) rfl rfl
theorem dX5_choicesAtRest_25 : decode cX5_choicesAtRest 25 = .ok (.iload_n 3, 1) := zby_g zbyb_116 (i := 3) rfl rfl
theorem dX5_choicesAtRest_26 : decode cX5_choicesAtRest 26 = .ok (.isub, 1) := zby_g zbyb_116 (i := 4) rfl rfl
theorem dX5_choicesAtRest_27 : decode cX5_choicesAtRest 27 = .ok (.iload 4, 2) := zby_g zbyb_116 (i := 5) rfl rfl
theorem dX5_choicesAtRest_29 : decode cX5_choicesAtRest 29 = .ok (.invokestatic 55, 3) := zby_g zbyb_116 (i := 6) rfl rfl
theorem dX5_choicesAtRest_32 : decode cX5_choicesAtRest 32 = .ok (.if_icmp .lt 28, 3) := zby_g zbyb_116 (i := 7) rfl rfl
theorem dX5_choicesAtRest_35 : decode cX5_choicesAtRest 35 = .ok (.iload_n 3, 1) := zby_g zbyb_116 (i := 8) rfl rfl
theorem dX5_choicesAtRest_36 : decode cX5_choicesAtRest 36 = .ok (.iload 4, 2) := zby_g zbyb_116 (i := 9) rfl rfl
theorem dX5_choicesAtRest_38 : decode cX5_choicesAtRest 38 = .ok (.iload_n 0, 1) := zby_g zbyb_116 (i := 10) rfl rfl
theorem dX5_choicesAtRest_39 : decode cX5_choicesAtRest 39 = .ok (.invokestatic 58, 3) := zby_g zbyb_116 (i := 11) rfl rfl
theorem dX5_choicesAtRest_42 : decode cX5_choicesAtRest 42 = .ok (.iload_n 3, 1) := zby_g zbyb_116 (i := 12) rfl rfl
theorem dX5_choicesAtRest_43 : decode cX5_choicesAtRest 43 = .ok (.iconst 1, 1) := zby_g zbyb_116 (i := 13) rfl rfl
theorem dX5_choicesAtRest_44 : decode cX5_choicesAtRest 44 = .ok (.iload 4, 2) := zby_g zbyb_116 (i := 14) rfl rfl
theorem dX5_choicesAtRest_46 : decode cX5_choicesAtRest 46 = .ok (.isub, 1) := zby_g zbyb_116 (i := 15) rfl rfl
noncomputable def zbyl_117 : List (Nat × zbyE) := [(47, zbyo_26), (48, zbyo_184 58), (51, zbyo_161 9), (54, zbyo_27), (55, zbyo_4), (56, zbyo_28), (57, zbyo_120), (58, zbyo_128), (59, zbyo_60), (60, zbyo_132 2 1), (63, zbyo_167 (-59)), (66, zbyo_27), (67, zbyo_172)]
theorem zbyb_117 : zbys zbyl_117 (cX5_choicesAtRest.data.toList.drop 47) 47 = true := by decide +kernel
theorem dX5_choicesAtRest_47 : decode cX5_choicesAtRest 47 = .ok (.iload_n 0, 1) := zby_g zbyb_117 (i := 0) rfl rfl
theorem dX5_choicesAtRest_48 : decode cX5_choicesAtRest 48 = .ok (.invokestatic 58, 3) := zby_g zbyb_117 (i := 1) rfl rfl
theorem dX5_choicesAtRest_51 : decode cX5_choicesAtRest 51 = .ok (.if_icmp .lt 9, 3) := zby_g zbyb_117 (i := 2) rfl rfl
theorem dX5_choicesAtRest_54 : decode cX5_choicesAtRest 54 = .ok (.iload_n 1, 1) := zby_g zbyb_117 (i := 3) rfl rfl
theorem dX5_choicesAtRest_55 : decode cX5_choicesAtRest 55 = .ok (.iconst 1, 1) := zby_g zbyb_117 (i := 4) rfl rfl
theorem dX5_choicesAtRest_56 : decode cX5_choicesAtRest 56 = .ok (.iload_n 2, 1) := zby_g zbyb_117 (i := 5) rfl rfl
theorem dX5_choicesAtRest_57 : decode cX5_choicesAtRest 57 = .ok (.ishl, 1) := zby_g zbyb_117 (i := 6) rfl rfl
theorem dX5_choicesAtRest_58 : decode cX5_choicesAtRest 58 = .ok (.ior, 1) := zby_g zbyb_117 (i := 7) rfl rfl
theorem dX5_choicesAtRest_59 : decode cX5_choicesAtRest 59 = .ok (.istore_n 1, 1) := zby_g zbyb_117 (i := 8) rfl rfl
theorem dX5_choicesAtRest_60 : decode cX5_choicesAtRest 60 = .ok (.iinc 2 1, 3) := zby_g zbyb_117 (i := 9) rfl rfl
theorem dX5_choicesAtRest_63 : decode cX5_choicesAtRest 63 = .ok (.goto (-59), 3) := zby_g zbyb_117 (i := 10) rfl rfl
theorem dX5_choicesAtRest_66 : decode cX5_choicesAtRest 66 = .ok (.iload_n 1, 1) := zby_g zbyb_117 (i := 11) rfl rfl
theorem dX5_choicesAtRest_67 : decode cX5_choicesAtRest 67 = .ok (.ireturn, 1) := zby_g zbyb_117 (i := 12) rfl rfl
noncomputable def zbyl_118 : List (Nat × zbyE) := [(0, zbyo_26), (1, zbyo_154 14), (4, zbyo_27), (5, zbyo_154 7), (8, zbyo_8), (9, zbyo_167 5), (12, zbyo_16 20), (14, zbyo_172), (15, zbyo_27), (16, zbyo_154 8), (19, zbyo_16 (-10)), (21, zbyo_167 4), (24, zbyo_3), (25, zbyo_172)]
theorem zbyb_118 : zbys zbyl_118 (cX5_risesBy.data.toList.drop 0) 0 = true := by decide +kernel
theorem dX5_risesBy_0 : decode cX5_risesBy 0 = .ok (.iload_n 0, 1) := zby_g zbyb_118 (i := 0) rfl rfl
theorem dX5_risesBy_1 : decode cX5_risesBy 1 = .ok (.ifCond .ne 14, 3) := zby_g zbyb_118 (i := 1) rfl rfl
theorem dX5_risesBy_4 : decode cX5_risesBy 4 = .ok (.iload_n 1, 1) := zby_g zbyb_118 (i := 2) rfl rfl
theorem dX5_risesBy_5 : decode cX5_risesBy 5 = .ok (.ifCond .ne 7, 3) := zby_g zbyb_118 (i := 3) rfl rfl
theorem dX5_risesBy_8 : decode cX5_risesBy 8 = .ok (.iconst 5, 1) := zby_g zbyb_118 (i := 4) rfl rfl
theorem dX5_risesBy_9 : decode cX5_risesBy 9 = .ok (.goto 5, 3) := zby_g zbyb_118 (i := 5) rfl rfl
theorem dX5_risesBy_12 : decode cX5_risesBy 12 = .ok (.bipush 20, 2) := zby_g zbyb_118 (i := 6) rfl rfl
theorem dX5_risesBy_14 : decode cX5_risesBy 14 = .ok (.ireturn, 1) := zby_g zbyb_118 (i := 7) rfl rfl
theorem dX5_risesBy_15 : decode cX5_risesBy 15 = .ok (.iload_n 1, 1) := zby_g zbyb_118 (i := 8) rfl rfl
theorem dX5_risesBy_16 : decode cX5_risesBy 16 = .ok (.ifCond .ne 8, 3) := zby_g zbyb_118 (i := 9) rfl rfl
theorem dX5_risesBy_19 : decode cX5_risesBy 19 = .ok (.bipush (-10), 2) := zby_g zbyb_118 (i := 10) rfl rfl
theorem dX5_risesBy_21 : decode cX5_risesBy 21 = .ok (.goto 4, 3) := zby_g zbyb_118 (i := 11) rfl rfl
theorem dX5_risesBy_24 : decode cX5_risesBy 24 = .ok (.iconst 0, 1) := zby_g zbyb_118 (i := 12) rfl rfl
theorem dX5_risesBy_25 : decode cX5_risesBy 25 = .ok (.ireturn, 1) := zby_g zbyb_118 (i := 13) rfl rfl
noncomputable def zbyl_119 : List (Nat × zbyE) := [(0, zbyo_26), (1, zbyo_27), (2, zbyo_184 62), (5, zbyo_26), (6, zbyo_154 7), (9, zbyo_7), (10, zbyo_167 4), (13, zbyo_3), (14, zbyo_100), (15, zbyo_172)]
theorem zbyb_119 : zbys zbyl_119 (cX5_tellerHas.data.toList.drop 0) 0 = true := by decide +kernel
theorem dX5_tellerHas_0 : decode cX5_tellerHas 0 = .ok (.iload_n 0, 1) := zby_g zbyb_119 (i := 0) rfl rfl
theorem dX5_tellerHas_1 : decode cX5_tellerHas 1 = .ok (.iload_n 1, 1) := zby_g zbyb_119 (i := 1) rfl rfl
theorem dX5_tellerHas_2 : decode cX5_tellerHas 2 = .ok (.invokestatic 62, 3) := zby_g zbyb_119 (i := 2) rfl rfl
theorem dX5_tellerHas_5 : decode cX5_tellerHas 5 = .ok (.iload_n 0, 1) := zby_g zbyb_119 (i := 3) rfl rfl
theorem dX5_tellerHas_6 : decode cX5_tellerHas 6 = .ok (.ifCond .ne 7, 3) := zby_g zbyb_119 (i := 4) rfl rfl
theorem dX5_tellerHas_9 : decode cX5_tellerHas 9 = .ok (.iconst 4, 1) := zby_g zbyb_119 (i := 5) rfl rfl
theorem dX5_tellerHas_10 : decode cX5_tellerHas 10 = .ok (.goto 4, 3) := zby_g zbyb_119 (i := 6) rfl rfl
theorem dX5_tellerHas_13 : decode cX5_tellerHas 13 = .ok (.iconst 0, 1) := zby_g zbyb_119 (i := 7) rfl rfl
theorem dX5_tellerHas_14 : decode cX5_tellerHas 14 = .ok (.isub, 1) := zby_g zbyb_119 (i := 8) rfl rfl
theorem dX5_tellerHas_15 : decode cX5_tellerHas 15 = .ok (.ireturn, 1) := zby_g zbyb_119 (i := 9) rfl rfl
noncomputable def zbyl_120 : List (Nat × zbyE) := [(0, zbyo_26), (1, zbyo_27), (2, zbyo_184 62), (5, zbyo_116), (6, zbyo_27), (7, zbyo_154 7), (10, zbyo_28), (11, zbyo_167 4), (14, zbyo_3), (15, zbyo_100), (16, zbyo_172)]
theorem zbyb_120 : zbys zbyl_120 (cX5_dryManHas.data.toList.drop 0) 0 = true := by decide +kernel
theorem dX5_dryManHas_0 : decode cX5_dryManHas 0 = .ok (.iload_n 0, 1) := zby_g zbyb_120 (i := 0) rfl rfl
theorem dX5_dryManHas_1 : decode cX5_dryManHas 1 = .ok (.iload_n 1, 1) := zby_g zbyb_120 (i := 1) rfl rfl
theorem dX5_dryManHas_2 : decode cX5_dryManHas 2 = .ok (.invokestatic 62, 3) := zby_g zbyb_120 (i := 2) rfl rfl
theorem dX5_dryManHas_5 : decode cX5_dryManHas 5 = .ok (.ineg, 1) := zby_g zbyb_120 (i := 3) rfl rfl
theorem dX5_dryManHas_6 : decode cX5_dryManHas 6 = .ok (.iload_n 1, 1) := zby_g zbyb_120 (i := 4) rfl rfl
theorem dX5_dryManHas_7 : decode cX5_dryManHas 7 = .ok (.ifCond .ne 7, 3) := zby_g zbyb_120 (i := 5) rfl rfl
theorem dX5_dryManHas_10 : decode cX5_dryManHas 10 = .ok (.iload_n 2, 1) := zby_g zbyb_120 (i := 6) rfl rfl
theorem dX5_dryManHas_11 : decode cX5_dryManHas 11 = .ok (.goto 4, 3) := zby_g zbyb_120 (i := 7) rfl rfl
theorem dX5_dryManHas_14 : decode cX5_dryManHas 14 = .ok (.iconst 0, 1) := zby_g zbyb_120 (i := 8) rfl rfl
theorem dX5_dryManHas_15 : decode cX5_dryManHas 15 = .ok (.isub, 1) := zby_g zbyb_120 (i := 9) rfl rfl
theorem dX5_dryManHas_16 : decode cX5_dryManHas 16 = .ok (.ireturn, 1) := zby_g zbyb_120 (i := 10) rfl rfl
noncomputable def zbyl_121 : List (Nat × zbyE) := [(0, zbyo_42), (1, zbyo_183 3), (4, zbyo_42), (5, zbyo_17 400), (8, zbyo_188_10), (10, zbyo_181 9), (13, zbyo_42), (14, zbyo_2), (15, zbyo_181 15), (18, zbyo_177)]
theorem zbyb_121 : zbys zbyl_121 (cX6_init.data.toList.drop 0) 0 = true := by decide +kernel
theorem dX6_init_0 : decode cX6_init 0 = .ok (.aload_n 0, 1) := zby_g zbyb_121 (i := 0) rfl rfl
theorem dX6_init_1 : decode cX6_init 1 = .ok (.invokespecial 3, 3) := zby_g zbyb_121 (i := 1) rfl rfl
theorem dX6_init_4 : decode cX6_init 4 = .ok (.aload_n 0, 1) := zby_g zbyb_121 (i := 2) rfl rfl
theorem dX6_init_5 : decode cX6_init 5 = .ok (.sipush 400, 3) := zby_g zbyb_121 (i := 3) rfl rfl
theorem dX6_init_8 : decode cX6_init 8 = .ok (.newarray .int, 2) := zby_g zbyb_121 (i := 4) rfl rfl
theorem dX6_init_10 : decode cX6_init 10 = .ok (.putfield 9, 3) := zby_g zbyb_121 (i := 5) rfl rfl
theorem dX6_init_13 : decode cX6_init 13 = .ok (.aload_n 0, 1) := zby_g zbyb_121 (i := 6) rfl rfl
theorem dX6_init_14 : decode cX6_init 14 = .ok (.iconst (-1), 1) := zby_g zbyb_121 (i := 7) rfl rfl
theorem dX6_init_15 : decode cX6_init 15 = .ok (.putfield 15, 3) := zby_g zbyb_121 (i := 8) rfl rfl
theorem dX6_init_18 : decode cX6_init 18 = .ok (.return_, 1) := zby_g zbyb_121 (i := 9) rfl rfl
noncomputable def zbyl_122 : List (Nat × zbyE) := [(0, zbyo_16 24), (2, zbyo_61), (3, zbyo_28), (4, zbyo_155 45), (7, zbyo_42), (8, zbyo_180 19), (11, zbyo_17 400), (14, zbyo_162 35), (17, zbyo_42), (18, zbyo_180 9), (21, zbyo_42), (22, zbyo_180 19), (25, zbyo_27), (26, zbyo_28), (27, zbyo_124), (28, zbyo_17 255)]
theorem zbyb_122 : zbys zbyl_122 (cX6_add.data.toList.drop 0) 0 = true := by decide +kernel
theorem dX6_add_0 : decode cX6_add 0 = .ok (.bipush 24, 2) := zby_g zbyb_122 (i := 0) rfl rfl
theorem dX6_add_2 : decode cX6_add 2 = .ok (.istore_n 2, 1) := zby_g zbyb_122 (i := 1) rfl rfl
theorem dX6_add_3 : decode cX6_add 3 = .ok (.iload_n 2, 1) := zby_g zbyb_122 (i := 2) rfl rfl
theorem dX6_add_4 : decode cX6_add 4 = .ok (.ifCond .lt 45, 3) := zby_g zbyb_122 (i := 3) rfl rfl
theorem dX6_add_7 : decode cX6_add 7 = .ok (.aload_n 0, 1) := zby_g zbyb_122 (i := 4) rfl rfl
theorem dX6_add_8 : decode cX6_add 8 = .ok (.getfield 19, 3) := zby_g zbyb_122 (i := 5) rfl rfl
theorem dX6_add_11 : decode cX6_add 11 = .ok (.sipush 400, 3) := zby_g zbyb_122 (i := 6) rfl rfl
theorem dX6_add_14 : decode cX6_add 14 = .ok (.if_icmp .ge 35, 3) := zby_g zbyb_122 (i := 7) rfl rfl
theorem dX6_add_17 : decode cX6_add 17 = .ok (.aload_n 0, 1) := zby_g zbyb_122 (i := 8) rfl rfl
theorem dX6_add_18 : decode cX6_add 18 = .ok (.getfield 9, 3) := zby_g zbyb_122 (i := 9) rfl rfl
theorem dX6_add_21 : decode cX6_add 21 = .ok (.aload_n 0, 1) := zby_g zbyb_122 (i := 10) rfl rfl
theorem dX6_add_22 : decode cX6_add 22 = .ok (.getfield 19, 3) := zby_g zbyb_122 (i := 11) rfl rfl
theorem dX6_add_25 : decode cX6_add 25 = .ok (.iload_n 1, 1) := zby_g zbyb_122 (i := 12) rfl rfl
theorem dX6_add_26 : decode cX6_add 26 = .ok (.iload_n 2, 1) := zby_g zbyb_122 (i := 13) rfl rfl
theorem dX6_add_27 : decode cX6_add 27 = .ok (.iushr, 1) := zby_g zbyb_122 (i := 14) rfl rfl
theorem dX6_add_28 : decode cX6_add 28 = .ok (.sipush 255, 3) := zby_g zbyb_122 (i := 15) rfl rfl
noncomputable def zbyl_123 : List (Nat × zbyE) := [(31, zbyo_126), (32, zbyo_79), (33, zbyo_42), (34, zbyo_89), (35, zbyo_180 19), (38, zbyo_4), (39, zbyo_96), (40, zbyo_181 19), (43, zbyo_132 2 (-8)), (46, zbyo_167 (-43)), (49, zbyo_177)]
theorem zbyb_123 : zbys zbyl_123 (cX6_add.data.toList.drop 31) 31 = true := by decide +kernel
theorem dX6_add_31 : decode cX6_add 31 = .ok (.iand, 1) := zby_g zbyb_123 (i := 0) rfl rfl
theorem dX6_add_32 : decode cX6_add 32 = .ok (.iastore, 1) := zby_g zbyb_123 (i := 1) rfl rfl
theorem dX6_add_33 : decode cX6_add 33 = .ok (.aload_n 0, 1) := zby_g zbyb_123 (i := 2) rfl rfl
theorem dX6_add_34 : decode cX6_add 34 = .ok (.dup, 1) := zby_g zbyb_123 (i := 3) rfl rfl
theorem dX6_add_35 : decode cX6_add 35 = .ok (.getfield 19, 3) := zby_g zbyb_123 (i := 4) rfl rfl
theorem dX6_add_38 : decode cX6_add 38 = .ok (.iconst 1, 1) := zby_g zbyb_123 (i := 5) rfl rfl
theorem dX6_add_39 : decode cX6_add 39 = .ok (.iadd, 1) := zby_g zbyb_123 (i := 6) rfl rfl
theorem dX6_add_40 : decode cX6_add 40 = .ok (.putfield 19, 3) := zby_g zbyb_123 (i := 7) rfl rfl
theorem dX6_add_43 : decode cX6_add 43 = .ok (.iinc 2 (-8), 3) := zby_g zbyb_123 (i := 8) rfl rfl
theorem dX6_add_46 : decode cX6_add 46 = .ok (.goto (-43), 3) := zby_g zbyb_123 (i := 9) rfl rfl
theorem dX6_add_49 : decode cX6_add 49 = .ok (.return_, 1) := zby_g zbyb_123 (i := 10) rfl rfl
noncomputable def zbyl_124 : List (Nat × zbyE) := [(0, zbyo_42), (1, zbyo_180 19), (4, zbyo_60), (5, zbyo_42), (6, zbyo_3), (7, zbyo_181 19), (10, zbyo_27), (11, zbyo_172)]
theorem zbyb_124 : zbys zbyl_124 (cX6_useUp.data.toList.drop 0) 0 = true := by decide +kernel
theorem dX6_useUp_0 : decode cX6_useUp 0 = .ok (.aload_n 0, 1) := zby_g zbyb_124 (i := 0) rfl rfl
theorem dX6_useUp_1 : decode cX6_useUp 1 = .ok (.getfield 19, 3) := zby_g zbyb_124 (i := 1) rfl rfl
theorem dX6_useUp_4 : decode cX6_useUp 4 = .ok (.istore_n 1, 1) := zby_g zbyb_124 (i := 2) rfl rfl
theorem dX6_useUp_5 : decode cX6_useUp 5 = .ok (.aload_n 0, 1) := zby_g zbyb_124 (i := 3) rfl rfl
theorem dX6_useUp_6 : decode cX6_useUp 6 = .ok (.iconst 0, 1) := zby_g zbyb_124 (i := 4) rfl rfl
theorem dX6_useUp_7 : decode cX6_useUp 7 = .ok (.putfield 19, 3) := zby_g zbyb_124 (i := 5) rfl rfl
theorem dX6_useUp_10 : decode cX6_useUp 10 = .ok (.iload_n 1, 1) := zby_g zbyb_124 (i := 6) rfl rfl
theorem dX6_useUp_11 : decode cX6_useUp 11 = .ok (.ireturn, 1) := zby_g zbyb_124 (i := 7) rfl rfl
noncomputable def zbyl_125 : List (Nat × zbyE) := [(0, zbyo_3), (1, zbyo_61), (2, zbyo_28), (3, zbyo_27), (4, zbyo_162 21), (7, zbyo_42), (8, zbyo_180 9), (11, zbyo_28), (12, zbyo_46), (13, zbyo_4), (14, zbyo_164 5), (17, zbyo_3), (18, zbyo_172), (19, zbyo_132 2 1), (22, zbyo_167 (-20)), (25, zbyo_4)]
theorem zbyb_125 : zbys zbyl_125 (cX6_holdsTales.data.toList.drop 0) 0 = true := by decide +kernel
theorem dX6_holdsTales_0 : decode cX6_holdsTales 0 = .ok (.iconst 0, 1) := zby_g zbyb_125 (i := 0) rfl rfl
theorem dX6_holdsTales_1 : decode cX6_holdsTales 1 = .ok (.istore_n 2, 1) := zby_g zbyb_125 (i := 1) rfl rfl
theorem dX6_holdsTales_2 : decode cX6_holdsTales 2 = .ok (.iload_n 2, 1) := zby_g zbyb_125 (i := 2) rfl rfl
theorem dX6_holdsTales_3 : decode cX6_holdsTales 3 = .ok (.iload_n 1, 1) := zby_g zbyb_125 (i := 3) rfl rfl
theorem dX6_holdsTales_4 : decode cX6_holdsTales 4 = .ok (.if_icmp .ge 21, 3) := zby_g zbyb_125 (i := 4) rfl rfl
theorem dX6_holdsTales_7 : decode cX6_holdsTales 7 = .ok (.aload_n 0, 1) := zby_g zbyb_125 (i := 5) rfl rfl
theorem dX6_holdsTales_8 : decode cX6_holdsTales 8 = .ok (.getfield 9, 3) := zby_g zbyb_125 (i := 6) rfl rfl
theorem dX6_holdsTales_11 : decode cX6_holdsTales 11 = .ok (.iload_n 2, 1) := zby_g zbyb_125 (i := 7) rfl rfl
theorem dX6_holdsTales_12 : decode cX6_holdsTales 12 = .ok (.iaload, 1) := zby_g zbyb_125 (i := 8) rfl rfl
theorem dX6_holdsTales_13 : decode cX6_holdsTales 13 = .ok (.iconst 1, 1) := zby_g zbyb_125 (i := 9) rfl rfl
theorem dX6_holdsTales_14 : decode cX6_holdsTales 14 = .ok (.if_icmp .le 5, 3) := zby_g zbyb_125 (i := 10) rfl rfl
theorem dX6_holdsTales_17 : decode cX6_holdsTales 17 = .ok (.iconst 0, 1) := zby_g zbyb_125 (i := 11) rfl rfl
theorem dX6_holdsTales_18 : decode cX6_holdsTales 18 = .ok (.ireturn, 1) := zby_g zbyb_125 (i := 12) rfl rfl
theorem dX6_holdsTales_19 : decode cX6_holdsTales 19 = .ok (.iinc 2 1, 3) := zby_g zbyb_125 (i := 13) rfl rfl
theorem dX6_holdsTales_22 : decode cX6_holdsTales 22 = .ok (.goto (-20), 3) := zby_g zbyb_125 (i := 14) rfl rfl
theorem dX6_holdsTales_25 : decode cX6_holdsTales 25 = .ok (.iconst 1, 1) := zby_g zbyb_125 (i := 15) rfl rfl
noncomputable def zbyl_126 : List (Nat × zbyE) := [(26, zbyo_172)]
theorem zbyb_126 : zbys zbyl_126 (cX6_holdsTales.data.toList.drop 26) 26 = true := by decide +kernel
theorem dX6_holdsTales_26 : decode cX6_holdsTales 26 = .ok (.ireturn, 1) := zby_g zbyb_126 (i := 0) rfl rfl
noncomputable def zbyl_127 : List (Nat × zbyE) := [(0, zbyo_3), (1, zbyo_61), (2, zbyo_3), (3, zbyo_62), (4, zbyo_29), (5, zbyo_27), (6, zbyo_162 27), (9, zbyo_28), (10, zbyo_42), (11, zbyo_180 9), (14, zbyo_29), (15, zbyo_46), (16, zbyo_4), (17, zbyo_160 7), (20, zbyo_4), (21, zbyo_167 4)]
theorem zbyb_127 : zbys zbyl_127 (cX6_lead.data.toList.drop 0) 0 = true := by decide +kernel
theorem dX6_lead_0 : decode cX6_lead 0 = .ok (.iconst 0, 1) := zby_g zbyb_127 (i := 0) rfl rfl
theorem dX6_lead_1 : decode cX6_lead 1 = .ok (.istore_n 2, 1) := zby_g zbyb_127 (i := 1) rfl rfl
theorem dX6_lead_2 : decode cX6_lead 2 = .ok (.iconst 0, 1) := zby_g zbyb_127 (i := 2) rfl rfl
theorem dX6_lead_3 : decode cX6_lead 3 = .ok (.istore_n 3, 1) := zby_g zbyb_127 (i := 3) rfl rfl
theorem dX6_lead_4 : decode cX6_lead 4 = .ok (.iload_n 3, 1) := zby_g zbyb_127 (i := 4) rfl rfl
theorem dX6_lead_5 : decode cX6_lead 5 = .ok (.iload_n 1, 1) := zby_g zbyb_127 (i := 5) rfl rfl
theorem dX6_lead_6 : decode cX6_lead 6 = .ok (.if_icmp .ge 27, 3) := zby_g zbyb_127 (i := 6) rfl rfl
theorem dX6_lead_9 : decode cX6_lead 9 = .ok (.iload_n 2, 1) := zby_g zbyb_127 (i := 7) rfl rfl
theorem dX6_lead_10 : decode cX6_lead 10 = .ok (.aload_n 0, 1) := zby_g zbyb_127 (i := 8) rfl rfl
theorem dX6_lead_11 : decode cX6_lead 11 = .ok (.getfield 9, 3) := zby_g zbyb_127 (i := 9) rfl rfl
theorem dX6_lead_14 : decode cX6_lead 14 = .ok (.iload_n 3, 1) := zby_g zbyb_127 (i := 10) rfl rfl
theorem dX6_lead_15 : decode cX6_lead 15 = .ok (.iaload, 1) := zby_g zbyb_127 (i := 11) rfl rfl
theorem dX6_lead_16 : decode cX6_lead 16 = .ok (.iconst 1, 1) := zby_g zbyb_127 (i := 12) rfl rfl
theorem dX6_lead_17 : decode cX6_lead 17 = .ok (.if_icmp .ne 7, 3) := zby_g zbyb_127 (i := 13) rfl rfl
theorem dX6_lead_20 : decode cX6_lead 20 = .ok (.iconst 1, 1) := zby_g zbyb_127 (i := 14) rfl rfl
theorem dX6_lead_21 : decode cX6_lead 21 = .ok (.goto 4, 3) := zby_g zbyb_127 (i := 15) rfl rfl
noncomputable def zbyl_128 : List (Nat × zbyE) := [(24, zbyo_2), (25, zbyo_96), (26, zbyo_61), (27, zbyo_132 3 1), (30, zbyo_167 (-26)), (33, zbyo_28), (34, zbyo_172)]
theorem zbyb_128 : zbys zbyl_128 (cX6_lead.data.toList.drop 24) 24 = true := by decide +kernel
theorem dX6_lead_24 : decode cX6_lead 24 = .ok (.iconst (-1), 1) := zby_g zbyb_128 (i := 0) rfl rfl
theorem dX6_lead_25 : decode cX6_lead 25 = .ok (.iadd, 1) := zby_g zbyb_128 (i := 1) rfl rfl
theorem dX6_lead_26 : decode cX6_lead 26 = .ok (.istore_n 2, 1) := zby_g zbyb_128 (i := 2) rfl rfl
theorem dX6_lead_27 : decode cX6_lead 27 = .ok (.iinc 3 1, 3) := zby_g zbyb_128 (i := 3) rfl rfl
theorem dX6_lead_30 : decode cX6_lead 30 = .ok (.goto (-26), 3) := zby_g zbyb_128 (i := 4) rfl rfl
theorem dX6_lead_33 : decode cX6_lead 33 = .ok (.iload_n 2, 1) := zby_g zbyb_128 (i := 5) rfl rfl
theorem dX6_lead_34 : decode cX6_lead 34 = .ok (.ireturn, 1) := zby_g zbyb_128 (i := 6) rfl rfl
noncomputable def zbyl_129 : List (Nat × zbyE) := [(0, zbyo_27), (1, zbyo_6), (2, zbyo_112), (3, zbyo_153 5), (6, zbyo_3), (7, zbyo_172), (8, zbyo_3), (9, zbyo_62), (10, zbyo_29), (11, zbyo_5), (12, zbyo_96), (13, zbyo_27), (14, zbyo_162 60), (17, zbyo_42), (18, zbyo_180 9), (21, zbyo_29)]
theorem zbyb_129 : zbys zbyl_129 (cX6_holdsSaid.data.toList.drop 0) 0 = true := by decide +kernel
theorem dX6_holdsSaid_0 : decode cX6_holdsSaid 0 = .ok (.iload_n 1, 1) := zby_g zbyb_129 (i := 0) rfl rfl
theorem dX6_holdsSaid_1 : decode cX6_holdsSaid 1 = .ok (.iconst 3, 1) := zby_g zbyb_129 (i := 1) rfl rfl
theorem dX6_holdsSaid_2 : decode cX6_holdsSaid 2 = .ok (.irem, 1) := zby_g zbyb_129 (i := 2) rfl rfl
theorem dX6_holdsSaid_3 : decode cX6_holdsSaid 3 = .ok (.ifCond .eq 5, 3) := zby_g zbyb_129 (i := 3) rfl rfl
theorem dX6_holdsSaid_6 : decode cX6_holdsSaid 6 = .ok (.iconst 0, 1) := zby_g zbyb_129 (i := 4) rfl rfl
theorem dX6_holdsSaid_7 : decode cX6_holdsSaid 7 = .ok (.ireturn, 1) := zby_g zbyb_129 (i := 5) rfl rfl
theorem dX6_holdsSaid_8 : decode cX6_holdsSaid 8 = .ok (.iconst 0, 1) := zby_g zbyb_129 (i := 6) rfl rfl
theorem dX6_holdsSaid_9 : decode cX6_holdsSaid 9 = .ok (.istore_n 3, 1) := zby_g zbyb_129 (i := 7) rfl rfl
theorem dX6_holdsSaid_10 : decode cX6_holdsSaid 10 = .ok (.iload_n 3, 1) := zby_g zbyb_129 (i := 8) rfl rfl
theorem dX6_holdsSaid_11 : decode cX6_holdsSaid 11 = .ok (.iconst 2, 1) := zby_g zbyb_129 (i := 9) rfl rfl
theorem dX6_holdsSaid_12 : decode cX6_holdsSaid 12 = .ok (.iadd, 1) := zby_g zbyb_129 (i := 10) rfl rfl
theorem dX6_holdsSaid_13 : decode cX6_holdsSaid 13 = .ok (.iload_n 1, 1) := zby_g zbyb_129 (i := 11) rfl rfl
theorem dX6_holdsSaid_14 : decode cX6_holdsSaid 14 = .ok (.if_icmp .ge 60, 3) := zby_g zbyb_129 (i := 12) rfl rfl
theorem dX6_holdsSaid_17 : decode cX6_holdsSaid 17 = .ok (.aload_n 0, 1) := zby_g zbyb_129 (i := 13) rfl rfl
theorem dX6_holdsSaid_18 : decode cX6_holdsSaid 18 = .ok (.getfield 9, 3) := zby_g zbyb_129 (i := 14) rfl rfl
theorem dX6_holdsSaid_21 : decode cX6_holdsSaid 21 = .ok (.iload_n 3, 1) := zby_g zbyb_129 (i := 15) rfl rfl
noncomputable def zbyl_130 : List (Nat × zbyE) := [(22, zbyo_46), (23, zbyo_54 4), (25, zbyo_42), (26, zbyo_180 9), (29, zbyo_29), (30, zbyo_4), (31, zbyo_96), (32, zbyo_46), (33, zbyo_54 5), (35, zbyo_21 4), (37, zbyo_28), (38, zbyo_162 28), (41, zbyo_21 5), (43, zbyo_28), (44, zbyo_162 22), (47, zbyo_21 4)]
theorem zbyb_130 : zbys zbyl_130 (cX6_holdsSaid.data.toList.drop 22) 22 = true := by decide +kernel
theorem dX6_holdsSaid_22 : decode cX6_holdsSaid 22 = .ok (.iaload, 1) := zby_g zbyb_130 (i := 0) rfl rfl
theorem dX6_holdsSaid_23 : decode cX6_holdsSaid 23 = .ok (.istore 4, 2) := zby_g zbyb_130 (i := 1) rfl rfl
theorem dX6_holdsSaid_25 : decode cX6_holdsSaid 25 = .ok (.aload_n 0, 1) := zby_g zbyb_130 (i := 2) rfl rfl
theorem dX6_holdsSaid_26 : decode cX6_holdsSaid 26 = .ok (.getfield 9, 3) := zby_g zbyb_130 (i := 3) rfl rfl
theorem dX6_holdsSaid_29 : decode cX6_holdsSaid 29 = .ok (.iload_n 3, 1) := zby_g zbyb_130 (i := 4) rfl rfl
theorem dX6_holdsSaid_30 : decode cX6_holdsSaid 30 = .ok (.iconst 1, 1) := zby_g zbyb_130 (i := 5) rfl rfl
theorem dX6_holdsSaid_31 : decode cX6_holdsSaid 31 = .ok (.iadd, 1) := zby_g zbyb_130 (i := 6) rfl rfl
theorem dX6_holdsSaid_32 : decode cX6_holdsSaid 32 = .ok (.iaload, 1) := zby_g zbyb_130 (i := 7) rfl rfl
theorem dX6_holdsSaid_33 : decode cX6_holdsSaid 33 = .ok (.istore 5, 2) := zby_g zbyb_130 (i := 8) rfl rfl
theorem dX6_holdsSaid_35 : decode cX6_holdsSaid 35 = .ok (.iload 4, 2) := zby_g zbyb_130 (i := 9) rfl rfl
theorem dX6_holdsSaid_37 : decode cX6_holdsSaid 37 = .ok (.iload_n 2, 1) := zby_g zbyb_130 (i := 10) rfl rfl
theorem dX6_holdsSaid_38 : decode cX6_holdsSaid 38 = .ok (.if_icmp .ge 28, 3) := zby_g zbyb_130 (i := 11) rfl rfl
theorem dX6_holdsSaid_41 : decode cX6_holdsSaid 41 = .ok (.iload 5, 2) := zby_g zbyb_130 (i := 12) rfl rfl
theorem dX6_holdsSaid_43 : decode cX6_holdsSaid 43 = .ok (.iload_n 2, 1) := zby_g zbyb_130 (i := 13) rfl rfl
theorem dX6_holdsSaid_44 : decode cX6_holdsSaid 44 = .ok (.if_icmp .ge 22, 3) := zby_g zbyb_130 (i := 14) rfl rfl
theorem dX6_holdsSaid_47 : decode cX6_holdsSaid 47 = .ok (.iload 4, 2) := zby_g zbyb_130 (i := 15) rfl rfl
noncomputable def zbyl_131 : List (Nat × zbyE) := [(49, zbyo_21 5), (51, zbyo_159 15), (54, zbyo_42), (55, zbyo_180 9), (58, zbyo_29), (59, zbyo_5), (60, zbyo_96), (61, zbyo_46), (62, zbyo_4), (63, zbyo_164 5), (66, zbyo_3), (67, zbyo_172), (68, zbyo_132 3 3), (71, zbyo_167 (-61)), (74, zbyo_4), (75, zbyo_172)]
theorem zbyb_131 : zbys zbyl_131 (cX6_holdsSaid.data.toList.drop 49) 49 = true := by decide +kernel
theorem dX6_holdsSaid_49 : decode cX6_holdsSaid 49 = .ok (.iload 5, 2) := zby_g zbyb_131 (i := 0) rfl rfl
theorem dX6_holdsSaid_51 : decode cX6_holdsSaid 51 = .ok (.if_icmp .eq 15, 3) := zby_g zbyb_131 (i := 1) rfl rfl
theorem dX6_holdsSaid_54 : decode cX6_holdsSaid 54 = .ok (.aload_n 0, 1) := zby_g zbyb_131 (i := 2) rfl rfl
theorem dX6_holdsSaid_55 : decode cX6_holdsSaid 55 = .ok (.getfield 9, 3) := zby_g zbyb_131 (i := 3) rfl rfl
theorem dX6_holdsSaid_58 : decode cX6_holdsSaid 58 = .ok (.iload_n 3, 1) := zby_g zbyb_131 (i := 4) rfl rfl
theorem dX6_holdsSaid_59 : decode cX6_holdsSaid 59 = .ok (.iconst 2, 1) := zby_g zbyb_131 (i := 5) rfl rfl
theorem dX6_holdsSaid_60 : decode cX6_holdsSaid 60 = .ok (.iadd, 1) := zby_g zbyb_131 (i := 6) rfl rfl
theorem dX6_holdsSaid_61 : decode cX6_holdsSaid 61 = .ok (.iaload, 1) := zby_g zbyb_131 (i := 7) rfl rfl
theorem dX6_holdsSaid_62 : decode cX6_holdsSaid 62 = .ok (.iconst 1, 1) := zby_g zbyb_131 (i := 8) rfl rfl
theorem dX6_holdsSaid_63 : decode cX6_holdsSaid 63 = .ok (.if_icmp .le 5, 3) := zby_g zbyb_131 (i := 9) rfl rfl
theorem dX6_holdsSaid_66 : decode cX6_holdsSaid 66 = .ok (.iconst 0, 1) := zby_g zbyb_131 (i := 10) rfl rfl
theorem dX6_holdsSaid_67 : decode cX6_holdsSaid 67 = .ok (.ireturn, 1) := zby_g zbyb_131 (i := 11) rfl rfl
theorem dX6_holdsSaid_68 : decode cX6_holdsSaid 68 = .ok (.iinc 3 3, 3) := zby_g zbyb_131 (i := 12) rfl rfl
theorem dX6_holdsSaid_71 : decode cX6_holdsSaid 71 = .ok (.goto (-61), 3) := zby_g zbyb_131 (i := 13) rfl rfl
theorem dX6_holdsSaid_74 : decode cX6_holdsSaid 74 = .ok (.iconst 1, 1) := zby_g zbyb_131 (i := 14) rfl rfl
theorem dX6_holdsSaid_75 : decode cX6_holdsSaid 75 = .ok (.ireturn, 1) := zby_g zbyb_131 (i := 15) rfl rfl
noncomputable def zbyl_132 : List (Nat × zbyE) := [(0, zbyo_42), (1, zbyo_27), (2, zbyo_17 400), (5, zbyo_184 22), (8, zbyo_181 28), (11, zbyo_42), (12, zbyo_3), (13, zbyo_181 31), (16, zbyo_42), (17, zbyo_2), (18, zbyo_181 15), (21, zbyo_42), (22, zbyo_182 34), (25, zbyo_177)]
theorem zbyb_132 : zbys zbyl_132 (cX6_open.data.toList.drop 0) 0 = true := by decide +kernel
theorem dX6_open_0 : decode cX6_open 0 = .ok (.aload_n 0, 1) := zby_g zbyb_132 (i := 0) rfl rfl
theorem dX6_open_1 : decode cX6_open 1 = .ok (.iload_n 1, 1) := zby_g zbyb_132 (i := 1) rfl rfl
theorem dX6_open_2 : decode cX6_open 2 = .ok (.sipush 400, 3) := zby_g zbyb_132 (i := 2) rfl rfl
theorem dX6_open_5 : decode cX6_open 5 = .ok (.invokestatic 22, 3) := zby_g zbyb_132 (i := 3) rfl rfl
theorem dX6_open_8 : decode cX6_open 8 = .ok (.putfield 28, 3) := zby_g zbyb_132 (i := 4) rfl rfl
theorem dX6_open_11 : decode cX6_open 11 = .ok (.aload_n 0, 1) := zby_g zbyb_132 (i := 5) rfl rfl
theorem dX6_open_12 : decode cX6_open 12 = .ok (.iconst 0, 1) := zby_g zbyb_132 (i := 6) rfl rfl
theorem dX6_open_13 : decode cX6_open 13 = .ok (.putfield 31, 3) := zby_g zbyb_132 (i := 7) rfl rfl
theorem dX6_open_16 : decode cX6_open 16 = .ok (.aload_n 0, 1) := zby_g zbyb_132 (i := 8) rfl rfl
theorem dX6_open_17 : decode cX6_open 17 = .ok (.iconst (-1), 1) := zby_g zbyb_132 (i := 9) rfl rfl
theorem dX6_open_18 : decode cX6_open 18 = .ok (.putfield 15, 3) := zby_g zbyb_132 (i := 10) rfl rfl
theorem dX6_open_21 : decode cX6_open 21 = .ok (.aload_n 0, 1) := zby_g zbyb_132 (i := 11) rfl rfl
theorem dX6_open_22 : decode cX6_open 22 = .ok (.invokevirtual 34, 3) := zby_g zbyb_132 (i := 12) rfl rfl
theorem dX6_open_25 : decode cX6_open 25 = .ok (.return_, 1) := zby_g zbyb_132 (i := 13) rfl rfl
noncomputable def zbyl_133 : List (Nat × zbyE) := [(0, zbyo_42), (1, zbyo_180 31), (4, zbyo_42), (5, zbyo_180 28), (8, zbyo_162 30), (11, zbyo_42), (12, zbyo_180 9), (15, zbyo_42), (16, zbyo_180 31), (19, zbyo_46), (20, zbyo_16 32), (22, zbyo_160 16), (25, zbyo_42), (26, zbyo_89), (27, zbyo_180 31), (30, zbyo_4)]
theorem zbyb_133 : zbys zbyl_133 (cX6_step.data.toList.drop 0) 0 = true := by decide +kernel
theorem dX6_step_0 : decode cX6_step 0 = .ok (.aload_n 0, 1) := zby_g zbyb_133 (i := 0) rfl rfl
theorem dX6_step_1 : decode cX6_step 1 = .ok (.getfield 31, 3) := zby_g zbyb_133 (i := 1) rfl rfl
theorem dX6_step_4 : decode cX6_step 4 = .ok (.aload_n 0, 1) := zby_g zbyb_133 (i := 2) rfl rfl
theorem dX6_step_5 : decode cX6_step 5 = .ok (.getfield 28, 3) := zby_g zbyb_133 (i := 3) rfl rfl
theorem dX6_step_8 : decode cX6_step 8 = .ok (.if_icmp .ge 30, 3) := zby_g zbyb_133 (i := 4) rfl rfl
theorem dX6_step_11 : decode cX6_step 11 = .ok (.aload_n 0, 1) := zby_g zbyb_133 (i := 5) rfl rfl
theorem dX6_step_12 : decode cX6_step 12 = .ok (.getfield 9, 3) := zby_g zbyb_133 (i := 6) rfl rfl
theorem dX6_step_15 : decode cX6_step 15 = .ok (.aload_n 0, 1) := zby_g zbyb_133 (i := 7) rfl rfl
theorem dX6_step_16 : decode cX6_step 16 = .ok (.getfield 31, 3) := zby_g zbyb_133 (i := 8) rfl rfl
theorem dX6_step_19 : decode cX6_step 19 = .ok (.iaload, 1) := zby_g zbyb_133 (i := 9) rfl rfl
theorem dX6_step_20 : decode cX6_step 20 = .ok (.bipush 32, 2) := zby_g zbyb_133 (i := 10) rfl rfl
theorem dX6_step_22 : decode cX6_step 22 = .ok (.if_icmp .ne 16, 3) := zby_g zbyb_133 (i := 11) rfl rfl
theorem dX6_step_25 : decode cX6_step 25 = .ok (.aload_n 0, 1) := zby_g zbyb_133 (i := 12) rfl rfl
theorem dX6_step_26 : decode cX6_step 26 = .ok (.dup, 1) := zby_g zbyb_133 (i := 13) rfl rfl
theorem dX6_step_27 : decode cX6_step 27 = .ok (.getfield 31, 3) := zby_g zbyb_133 (i := 14) rfl rfl
theorem dX6_step_30 : decode cX6_step 30 = .ok (.iconst 1, 1) := zby_g zbyb_133 (i := 15) rfl rfl
noncomputable def zbyl_134 : List (Nat × zbyE) := [(31, zbyo_96), (32, zbyo_181 31), (35, zbyo_167 (-35)), (38, zbyo_42), (39, zbyo_42), (40, zbyo_180 31), (43, zbyo_181 37), (46, zbyo_42), (47, zbyo_180 31), (50, zbyo_42), (51, zbyo_180 28), (54, zbyo_161 9), (57, zbyo_42), (58, zbyo_3), (59, zbyo_181 40), (62, zbyo_177)]
theorem zbyb_134 : zbys zbyl_134 (cX6_step.data.toList.drop 31) 31 = true := by decide +kernel
theorem dX6_step_31 : decode cX6_step 31 = .ok (.iadd, 1) := zby_g zbyb_134 (i := 0) rfl rfl
theorem dX6_step_32 : decode cX6_step 32 = .ok (.putfield 31, 3) := zby_g zbyb_134 (i := 1) rfl rfl
theorem dX6_step_35 : decode cX6_step 35 = .ok (.goto (-35), 3) := zby_g zbyb_134 (i := 2) rfl rfl
theorem dX6_step_38 : decode cX6_step 38 = .ok (.aload_n 0, 1) := zby_g zbyb_134 (i := 3) rfl rfl
theorem dX6_step_39 : decode cX6_step 39 = .ok (.aload_n 0, 1) := zby_g zbyb_134 (i := 4) rfl rfl
theorem dX6_step_40 : decode cX6_step 40 = .ok (.getfield 31, 3) := zby_g zbyb_134 (i := 5) rfl rfl
theorem dX6_step_43 : decode cX6_step 43 = .ok (.putfield 37, 3) := zby_g zbyb_134 (i := 6) rfl rfl
theorem dX6_step_46 : decode cX6_step 46 = .ok (.aload_n 0, 1) := zby_g zbyb_134 (i := 7) rfl rfl
theorem dX6_step_47 : decode cX6_step 47 = .ok (.getfield 31, 3) := zby_g zbyb_134 (i := 8) rfl rfl
theorem dX6_step_50 : decode cX6_step 50 = .ok (.aload_n 0, 1) := zby_g zbyb_134 (i := 9) rfl rfl
theorem dX6_step_51 : decode cX6_step 51 = .ok (.getfield 28, 3) := zby_g zbyb_134 (i := 10) rfl rfl
theorem dX6_step_54 : decode cX6_step 54 = .ok (.if_icmp .lt 9, 3) := zby_g zbyb_134 (i := 11) rfl rfl
theorem dX6_step_57 : decode cX6_step 57 = .ok (.aload_n 0, 1) := zby_g zbyb_134 (i := 12) rfl rfl
theorem dX6_step_58 : decode cX6_step 58 = .ok (.iconst 0, 1) := zby_g zbyb_134 (i := 13) rfl rfl
theorem dX6_step_59 : decode cX6_step 59 = .ok (.putfield 40, 3) := zby_g zbyb_134 (i := 14) rfl rfl
theorem dX6_step_62 : decode cX6_step 62 = .ok (.return_, 1) := zby_g zbyb_134 (i := 15) rfl rfl
noncomputable def zbyl_135 : List (Nat × zbyE) := [(63, zbyo_42), (64, zbyo_180 9), (67, zbyo_42), (68, zbyo_180 31), (71, zbyo_46), (72, zbyo_60), (73, zbyo_42), (74, zbyo_89), (75, zbyo_180 31), (78, zbyo_4), (79, zbyo_96), (80, zbyo_181 31), (83, zbyo_27), (84, zbyo_16 97), (86, zbyo_161 66), (89, zbyo_27)]
theorem zbyb_135 : zbys zbyl_135 (cX6_step.data.toList.drop 63) 63 = true := by decide +kernel
theorem dX6_step_63 : decode cX6_step 63 = .ok (.aload_n 0, 1) := zby_g zbyb_135 (i := 0) rfl rfl
theorem dX6_step_64 : decode cX6_step 64 = .ok (.getfield 9, 3) := zby_g zbyb_135 (i := 1) rfl rfl
theorem dX6_step_67 : decode cX6_step 67 = .ok (.aload_n 0, 1) := zby_g zbyb_135 (i := 2) rfl rfl
theorem dX6_step_68 : decode cX6_step 68 = .ok (.getfield 31, 3) := zby_g zbyb_135 (i := 3) rfl rfl
theorem dX6_step_71 : decode cX6_step 71 = .ok (.iaload, 1) := zby_g zbyb_135 (i := 4) rfl rfl
theorem dX6_step_72 : decode cX6_step 72 = .ok (.istore_n 1, 1) := zby_g zbyb_135 (i := 5) rfl rfl
theorem dX6_step_73 : decode cX6_step 73 = .ok (.aload_n 0, 1) := zby_g zbyb_135 (i := 6) rfl rfl
theorem dX6_step_74 : decode cX6_step 74 = .ok (.dup, 1) := zby_g zbyb_135 (i := 7) rfl rfl
theorem dX6_step_75 : decode cX6_step 75 = .ok (.getfield 31, 3) := zby_g zbyb_135 (i := 8) rfl rfl
theorem dX6_step_78 : decode cX6_step 78 = .ok (.iconst 1, 1) := zby_g zbyb_135 (i := 9) rfl rfl
theorem dX6_step_79 : decode cX6_step 79 = .ok (.iadd, 1) := zby_g zbyb_135 (i := 10) rfl rfl
theorem dX6_step_80 : decode cX6_step 80 = .ok (.putfield 31, 3) := zby_g zbyb_135 (i := 11) rfl rfl
theorem dX6_step_83 : decode cX6_step 83 = .ok (.iload_n 1, 1) := zby_g zbyb_135 (i := 12) rfl rfl
theorem dX6_step_84 : decode cX6_step 84 = .ok (.bipush 97, 2) := zby_g zbyb_135 (i := 13) rfl rfl
theorem dX6_step_86 : decode cX6_step 86 = .ok (.if_icmp .lt 66, 3) := zby_g zbyb_135 (i := 14) rfl rfl
theorem dX6_step_89 : decode cX6_step 89 = .ok (.iload_n 1, 1) := zby_g zbyb_135 (i := 15) rfl rfl
noncomputable def zbyl_136 : List (Nat × zbyE) := [(90, zbyo_16 122), (92, zbyo_163 60), (95, zbyo_42), (96, zbyo_4), (97, zbyo_181 40), (100, zbyo_42), (101, zbyo_180 31), (104, zbyo_42), (105, zbyo_180 28), (108, zbyo_162 118), (111, zbyo_42), (112, zbyo_180 9), (115, zbyo_42), (116, zbyo_180 31), (119, zbyo_46), (120, zbyo_16 97)]
theorem zbyb_136 : zbys zbyl_136 (cX6_step.data.toList.drop 90) 90 = true := by decide +kernel
theorem dX6_step_90 : decode cX6_step 90 = .ok (.bipush 122, 2) := zby_g zbyb_136 (i := 0) rfl rfl
theorem dX6_step_92 : decode cX6_step 92 = .ok (.if_icmp .gt 60, 3) := zby_g zbyb_136 (i := 1) rfl rfl
theorem dX6_step_95 : decode cX6_step 95 = .ok (.aload_n 0, 1) := zby_g zbyb_136 (i := 2) rfl rfl
theorem dX6_step_96 : decode cX6_step 96 = .ok (.iconst 1, 1) := zby_g zbyb_136 (i := 3) rfl rfl
theorem dX6_step_97 : decode cX6_step 97 = .ok (.putfield 40, 3) := zby_g zbyb_136 (i := 4) rfl rfl
theorem dX6_step_100 : decode cX6_step 100 = .ok (.aload_n 0, 1) := zby_g zbyb_136 (i := 5) rfl rfl
theorem dX6_step_101 : decode cX6_step 101 = .ok (.getfield 31, 3) := zby_g zbyb_136 (i := 6) rfl rfl
theorem dX6_step_104 : decode cX6_step 104 = .ok (.aload_n 0, 1) := zby_g zbyb_136 (i := 7) rfl rfl
theorem dX6_step_105 : decode cX6_step 105 = .ok (.getfield 28, 3) := zby_g zbyb_136 (i := 8) rfl rfl
theorem dX6_step_108 : decode cX6_step 108 = .ok (.if_icmp .ge 118, 3) := zby_g zbyb_136 (i := 9) rfl rfl
theorem dX6_step_111 : decode cX6_step 111 = .ok (.aload_n 0, 1) := zby_g zbyb_136 (i := 10) rfl rfl
theorem dX6_step_112 : decode cX6_step 112 = .ok (.getfield 9, 3) := zby_g zbyb_136 (i := 11) rfl rfl
theorem dX6_step_115 : decode cX6_step 115 = .ok (.aload_n 0, 1) := zby_g zbyb_136 (i := 12) rfl rfl
theorem dX6_step_116 : decode cX6_step 116 = .ok (.getfield 31, 3) := zby_g zbyb_136 (i := 13) rfl rfl
theorem dX6_step_119 : decode cX6_step 119 = .ok (.iaload, 1) := zby_g zbyb_136 (i := 14) rfl rfl
theorem dX6_step_120 : decode cX6_step 120 = .ok (.bipush 97, 2) := zby_g zbyb_136 (i := 15) rfl rfl
noncomputable def zbyl_137 : List (Nat × zbyE) := [(122, zbyo_161 104), (125, zbyo_42), (126, zbyo_180 9), (129, zbyo_42), (130, zbyo_180 31), (133, zbyo_46), (134, zbyo_16 122), (136, zbyo_163 90), (139, zbyo_42), (140, zbyo_89), (141, zbyo_180 31), (144, zbyo_4), (145, zbyo_96), (146, zbyo_181 31), (149, zbyo_167 (-49)), (152, zbyo_27)]
theorem zbyb_137 : zbys zbyl_137 (cX6_step.data.toList.drop 122) 122 = true := by decide +kernel
theorem dX6_step_122 : decode cX6_step 122 = .ok (.if_icmp .lt 104, 3) := zby_g zbyb_137 (i := 0) rfl rfl
theorem dX6_step_125 : decode cX6_step 125 = .ok (.aload_n 0, 1) := zby_g zbyb_137 (i := 1) rfl rfl
theorem dX6_step_126 : decode cX6_step 126 = .ok (.getfield 9, 3) := zby_g zbyb_137 (i := 2) rfl rfl
theorem dX6_step_129 : decode cX6_step 129 = .ok (.aload_n 0, 1) := zby_g zbyb_137 (i := 3) rfl rfl
theorem dX6_step_130 : decode cX6_step 130 = .ok (.getfield 31, 3) := zby_g zbyb_137 (i := 4) rfl rfl
theorem dX6_step_133 : decode cX6_step 133 = .ok (.iaload, 1) := zby_g zbyb_137 (i := 5) rfl rfl
theorem dX6_step_134 : decode cX6_step 134 = .ok (.bipush 122, 2) := zby_g zbyb_137 (i := 6) rfl rfl
theorem dX6_step_136 : decode cX6_step 136 = .ok (.if_icmp .gt 90, 3) := zby_g zbyb_137 (i := 7) rfl rfl
theorem dX6_step_139 : decode cX6_step 139 = .ok (.aload_n 0, 1) := zby_g zbyb_137 (i := 8) rfl rfl
theorem dX6_step_140 : decode cX6_step 140 = .ok (.dup, 1) := zby_g zbyb_137 (i := 9) rfl rfl
theorem dX6_step_141 : decode cX6_step 141 = .ok (.getfield 31, 3) := zby_g zbyb_137 (i := 10) rfl rfl
theorem dX6_step_144 : decode cX6_step 144 = .ok (.iconst 1, 1) := zby_g zbyb_137 (i := 11) rfl rfl
theorem dX6_step_145 : decode cX6_step 145 = .ok (.iadd, 1) := zby_g zbyb_137 (i := 12) rfl rfl
theorem dX6_step_146 : decode cX6_step 146 = .ok (.putfield 31, 3) := zby_g zbyb_137 (i := 13) rfl rfl
theorem dX6_step_149 : decode cX6_step 149 = .ok (.goto (-49), 3) := zby_g zbyb_137 (i := 14) rfl rfl
theorem dX6_step_152 : decode cX6_step 152 = .ok (.iload_n 1, 1) := zby_g zbyb_137 (i := 15) rfl rfl
noncomputable def zbyl_138 : List (Nat × zbyE) := [(153, zbyo_16 48), (155, zbyo_161 66), (158, zbyo_27), (159, zbyo_16 57), (161, zbyo_163 60), (164, zbyo_42), (165, zbyo_5), (166, zbyo_181 40), (169, zbyo_42), (170, zbyo_180 31), (173, zbyo_42), (174, zbyo_180 28), (177, zbyo_162 49), (180, zbyo_42), (181, zbyo_180 9), (184, zbyo_42)]
theorem zbyb_138 : zbys zbyl_138 (cX6_step.data.toList.drop 153) 153 = true := by decide +kernel
theorem dX6_step_153 : decode cX6_step 153 = .ok (.bipush 48, 2) := zby_g zbyb_138 (i := 0) rfl rfl
theorem dX6_step_155 : decode cX6_step 155 = .ok (.if_icmp .lt 66, 3) := zby_g zbyb_138 (i := 1) rfl rfl
theorem dX6_step_158 : decode cX6_step 158 = .ok (.iload_n 1, 1) := zby_g zbyb_138 (i := 2) rfl rfl
theorem dX6_step_159 : decode cX6_step 159 = .ok (.bipush 57, 2) := zby_g zbyb_138 (i := 3) rfl rfl
theorem dX6_step_161 : decode cX6_step 161 = .ok (.if_icmp .gt 60, 3) := zby_g zbyb_138 (i := 4) rfl rfl
theorem dX6_step_164 : decode cX6_step 164 = .ok (.aload_n 0, 1) := zby_g zbyb_138 (i := 5) rfl rfl
theorem dX6_step_165 : decode cX6_step 165 = .ok (.iconst 2, 1) := zby_g zbyb_138 (i := 6) rfl rfl
theorem dX6_step_166 : decode cX6_step 166 = .ok (.putfield 40, 3) := zby_g zbyb_138 (i := 7) rfl rfl
theorem dX6_step_169 : decode cX6_step 169 = .ok (.aload_n 0, 1) := zby_g zbyb_138 (i := 8) rfl rfl
theorem dX6_step_170 : decode cX6_step 170 = .ok (.getfield 31, 3) := zby_g zbyb_138 (i := 9) rfl rfl
theorem dX6_step_173 : decode cX6_step 173 = .ok (.aload_n 0, 1) := zby_g zbyb_138 (i := 10) rfl rfl
theorem dX6_step_174 : decode cX6_step 174 = .ok (.getfield 28, 3) := zby_g zbyb_138 (i := 11) rfl rfl
theorem dX6_step_177 : decode cX6_step 177 = .ok (.if_icmp .ge 49, 3) := zby_g zbyb_138 (i := 12) rfl rfl
theorem dX6_step_180 : decode cX6_step 180 = .ok (.aload_n 0, 1) := zby_g zbyb_138 (i := 13) rfl rfl
theorem dX6_step_181 : decode cX6_step 181 = .ok (.getfield 9, 3) := zby_g zbyb_138 (i := 14) rfl rfl
theorem dX6_step_184 : decode cX6_step 184 = .ok (.aload_n 0, 1) := zby_g zbyb_138 (i := 15) rfl rfl
noncomputable def zbyl_139 : List (Nat × zbyE) := [(185, zbyo_180 31), (188, zbyo_46), (189, zbyo_16 48), (191, zbyo_161 35), (194, zbyo_42), (195, zbyo_180 9), (198, zbyo_42), (199, zbyo_180 31), (202, zbyo_46), (203, zbyo_16 57), (205, zbyo_163 21), (208, zbyo_42), (209, zbyo_89), (210, zbyo_180 31), (213, zbyo_4), (214, zbyo_96)]
theorem zbyb_139 : zbys zbyl_139 (cX6_step.data.toList.drop 185) 185 = true := by decide +kernel
theorem dX6_step_185 : decode cX6_step 185 = .ok (.getfield 31, 3) := zby_g zbyb_139 (i := 0) rfl rfl
theorem dX6_step_188 : decode cX6_step 188 = .ok (.iaload, 1) := zby_g zbyb_139 (i := 1) rfl rfl
theorem dX6_step_189 : decode cX6_step 189 = .ok (.bipush 48, 2) := zby_g zbyb_139 (i := 2) rfl rfl
theorem dX6_step_191 : decode cX6_step 191 = .ok (.if_icmp .lt 35, 3) := zby_g zbyb_139 (i := 3) rfl rfl
theorem dX6_step_194 : decode cX6_step 194 = .ok (.aload_n 0, 1) := zby_g zbyb_139 (i := 4) rfl rfl
theorem dX6_step_195 : decode cX6_step 195 = .ok (.getfield 9, 3) := zby_g zbyb_139 (i := 5) rfl rfl
theorem dX6_step_198 : decode cX6_step 198 = .ok (.aload_n 0, 1) := zby_g zbyb_139 (i := 6) rfl rfl
theorem dX6_step_199 : decode cX6_step 199 = .ok (.getfield 31, 3) := zby_g zbyb_139 (i := 7) rfl rfl
theorem dX6_step_202 : decode cX6_step 202 = .ok (.iaload, 1) := zby_g zbyb_139 (i := 8) rfl rfl
theorem dX6_step_203 : decode cX6_step 203 = .ok (.bipush 57, 2) := zby_g zbyb_139 (i := 9) rfl rfl
theorem dX6_step_205 : decode cX6_step 205 = .ok (.if_icmp .gt 21, 3) := zby_g zbyb_139 (i := 10) rfl rfl
theorem dX6_step_208 : decode cX6_step 208 = .ok (.aload_n 0, 1) := zby_g zbyb_139 (i := 11) rfl rfl
theorem dX6_step_209 : decode cX6_step 209 = .ok (.dup, 1) := zby_g zbyb_139 (i := 12) rfl rfl
theorem dX6_step_210 : decode cX6_step 210 = .ok (.getfield 31, 3) := zby_g zbyb_139 (i := 13) rfl rfl
theorem dX6_step_213 : decode cX6_step 213 = .ok (.iconst 1, 1) := zby_g zbyb_139 (i := 14) rfl rfl
theorem dX6_step_214 : decode cX6_step 214 = .ok (.iadd, 1) := zby_g zbyb_139 (i := 15) rfl rfl
noncomputable def zbyl_140 : List (Nat × zbyE) := [(215, zbyo_181 31), (218, zbyo_167 (-49)), (221, zbyo_42), (222, zbyo_6), (223, zbyo_181 40), (226, zbyo_177)]
theorem zbyb_140 : zbys zbyl_140 (cX6_step.data.toList.drop 215) 215 = true := by decide +kernel
theorem dX6_step_215 : decode cX6_step 215 = .ok (.putfield 31, 3) := zby_g zbyb_140 (i := 0) rfl rfl
theorem dX6_step_218 : decode cX6_step 218 = .ok (.goto (-49), 3) := zby_g zbyb_140 (i := 1) rfl rfl
theorem dX6_step_221 : decode cX6_step 221 = .ok (.aload_n 0, 1) := zby_g zbyb_140 (i := 2) rfl rfl
theorem dX6_step_222 : decode cX6_step 222 = .ok (.iconst 3, 1) := zby_g zbyb_140 (i := 3) rfl rfl
theorem dX6_step_223 : decode cX6_step 223 = .ok (.putfield 40, 3) := zby_g zbyb_140 (i := 4) rfl rfl
theorem dX6_step_226 : decode cX6_step 226 = .ok (.return_, 1) := zby_g zbyb_140 (i := 5) rfl rfl
noncomputable def zbyl_141 : List (Nat × zbyE) := [(0, zbyo_42), (1, zbyo_180 15), (4, zbyo_2), (5, zbyo_160 11), (8, zbyo_42), (9, zbyo_42), (10, zbyo_180 37), (13, zbyo_181 15), (16, zbyo_3), (17, zbyo_172)]
theorem zbyb_141 : zbys zbyl_141 (cX6_refuse.data.toList.drop 0) 0 = true := by decide +kernel
theorem dX6_refuse_0 : decode cX6_refuse 0 = .ok (.aload_n 0, 1) := zby_g zbyb_141 (i := 0) rfl rfl
theorem dX6_refuse_1 : decode cX6_refuse 1 = .ok (.getfield 15, 3) := zby_g zbyb_141 (i := 1) rfl rfl
theorem dX6_refuse_4 : decode cX6_refuse 4 = .ok (.iconst (-1), 1) := zby_g zbyb_141 (i := 2) rfl rfl
theorem dX6_refuse_5 : decode cX6_refuse 5 = .ok (.if_icmp .ne 11, 3) := zby_g zbyb_141 (i := 3) rfl rfl
theorem dX6_refuse_8 : decode cX6_refuse 8 = .ok (.aload_n 0, 1) := zby_g zbyb_141 (i := 4) rfl rfl
theorem dX6_refuse_9 : decode cX6_refuse 9 = .ok (.aload_n 0, 1) := zby_g zbyb_141 (i := 5) rfl rfl
theorem dX6_refuse_10 : decode cX6_refuse 10 = .ok (.getfield 37, 3) := zby_g zbyb_141 (i := 6) rfl rfl
theorem dX6_refuse_13 : decode cX6_refuse 13 = .ok (.putfield 15, 3) := zby_g zbyb_141 (i := 7) rfl rfl
theorem dX6_refuse_16 : decode cX6_refuse 16 = .ok (.iconst 0, 1) := zby_g zbyb_141 (i := 8) rfl rfl
theorem dX6_refuse_17 : decode cX6_refuse 17 = .ok (.ireturn, 1) := zby_g zbyb_141 (i := 9) rfl rfl
noncomputable def zbyl_142 : List (Nat × zbyE) := [(0, zbyo_42), (1, zbyo_180 40), (4, zbyo_4), (5, zbyo_160 19), (8, zbyo_43), (9, zbyo_182 43), (12, zbyo_42), (13, zbyo_180 31), (16, zbyo_42), (17, zbyo_180 37), (20, zbyo_100), (21, zbyo_159 5), (24, zbyo_3), (25, zbyo_172), (26, zbyo_3), (27, zbyo_61)]
theorem zbyb_142 : zbys zbyl_142 (cX6_isWord.data.toList.drop 0) 0 = true := by decide +kernel
theorem dX6_isWord_0 : decode cX6_isWord 0 = .ok (.aload_n 0, 1) := zby_g zbyb_142 (i := 0) rfl rfl
theorem dX6_isWord_1 : decode cX6_isWord 1 = .ok (.getfield 40, 3) := zby_g zbyb_142 (i := 1) rfl rfl
theorem dX6_isWord_4 : decode cX6_isWord 4 = .ok (.iconst 1, 1) := zby_g zbyb_142 (i := 2) rfl rfl
theorem dX6_isWord_5 : decode cX6_isWord 5 = .ok (.if_icmp .ne 19, 3) := zby_g zbyb_142 (i := 3) rfl rfl
theorem dX6_isWord_8 : decode cX6_isWord 8 = .ok (.aload_n 1, 1) := zby_g zbyb_142 (i := 4) rfl rfl
theorem dX6_isWord_9 : decode cX6_isWord 9 = .ok (.invokevirtual 43, 3) := zby_g zbyb_142 (i := 5) rfl rfl
theorem dX6_isWord_12 : decode cX6_isWord 12 = .ok (.aload_n 0, 1) := zby_g zbyb_142 (i := 6) rfl rfl
theorem dX6_isWord_13 : decode cX6_isWord 13 = .ok (.getfield 31, 3) := zby_g zbyb_142 (i := 7) rfl rfl
theorem dX6_isWord_16 : decode cX6_isWord 16 = .ok (.aload_n 0, 1) := zby_g zbyb_142 (i := 8) rfl rfl
theorem dX6_isWord_17 : decode cX6_isWord 17 = .ok (.getfield 37, 3) := zby_g zbyb_142 (i := 9) rfl rfl
theorem dX6_isWord_20 : decode cX6_isWord 20 = .ok (.isub, 1) := zby_g zbyb_142 (i := 10) rfl rfl
theorem dX6_isWord_21 : decode cX6_isWord 21 = .ok (.if_icmp .eq 5, 3) := zby_g zbyb_142 (i := 11) rfl rfl
theorem dX6_isWord_24 : decode cX6_isWord 24 = .ok (.iconst 0, 1) := zby_g zbyb_142 (i := 12) rfl rfl
theorem dX6_isWord_25 : decode cX6_isWord 25 = .ok (.ireturn, 1) := zby_g zbyb_142 (i := 13) rfl rfl
theorem dX6_isWord_26 : decode cX6_isWord 26 = .ok (.iconst 0, 1) := zby_g zbyb_142 (i := 14) rfl rfl
theorem dX6_isWord_27 : decode cX6_isWord 27 = .ok (.istore_n 2, 1) := zby_g zbyb_142 (i := 15) rfl rfl
noncomputable def zbyl_143 : List (Nat × zbyE) := [(28, zbyo_28), (29, zbyo_43), (30, zbyo_182 43), (33, zbyo_162 30), (36, zbyo_42), (37, zbyo_180 9), (40, zbyo_42), (41, zbyo_180 37), (44, zbyo_28), (45, zbyo_96), (46, zbyo_46), (47, zbyo_43), (48, zbyo_28), (49, zbyo_182 48), (52, zbyo_159 5), (55, zbyo_3)]
theorem zbyb_143 : zbys zbyl_143 (cX6_isWord.data.toList.drop 28) 28 = true := by decide +kernel
theorem dX6_isWord_28 : decode cX6_isWord 28 = .ok (.iload_n 2, 1) := zby_g zbyb_143 (i := 0) rfl rfl
theorem dX6_isWord_29 : decode cX6_isWord 29 = .ok (.aload_n 1, 1) := zby_g zbyb_143 (i := 1) rfl rfl
theorem dX6_isWord_30 : decode cX6_isWord 30 = .ok (.invokevirtual 43, 3) := zby_g zbyb_143 (i := 2) rfl rfl
theorem dX6_isWord_33 : decode cX6_isWord 33 = .ok (.if_icmp .ge 30, 3) := zby_g zbyb_143 (i := 3) rfl rfl
theorem dX6_isWord_36 : decode cX6_isWord 36 = .ok (.aload_n 0, 1) := zby_g zbyb_143 (i := 4) rfl rfl
theorem dX6_isWord_37 : decode cX6_isWord 37 = .ok (.getfield 9, 3) := zby_g zbyb_143 (i := 5) rfl rfl
theorem dX6_isWord_40 : decode cX6_isWord 40 = .ok (.aload_n 0, 1) := zby_g zbyb_143 (i := 6) rfl rfl
theorem dX6_isWord_41 : decode cX6_isWord 41 = .ok (.getfield 37, 3) := zby_g zbyb_143 (i := 7) rfl rfl
theorem dX6_isWord_44 : decode cX6_isWord 44 = .ok (.iload_n 2, 1) := zby_g zbyb_143 (i := 8) rfl rfl
theorem dX6_isWord_45 : decode cX6_isWord 45 = .ok (.iadd, 1) := zby_g zbyb_143 (i := 9) rfl rfl
theorem dX6_isWord_46 : decode cX6_isWord 46 = .ok (.iaload, 1) := zby_g zbyb_143 (i := 10) rfl rfl
theorem dX6_isWord_47 : decode cX6_isWord 47 = .ok (.aload_n 1, 1) := zby_g zbyb_143 (i := 11) rfl rfl
theorem dX6_isWord_48 : decode cX6_isWord 48 = .ok (.iload_n 2, 1) := zby_g zbyb_143 (i := 12) rfl rfl
theorem dX6_isWord_49 : decode cX6_isWord 49 = .ok (.invokevirtual 48, 3) := zby_g zbyb_143 (i := 13) rfl rfl
theorem dX6_isWord_52 : decode cX6_isWord 52 = .ok (.if_icmp .eq 5, 3) := zby_g zbyb_143 (i := 14) rfl rfl
theorem dX6_isWord_55 : decode cX6_isWord 55 = .ok (.iconst 0, 1) := zby_g zbyb_143 (i := 15) rfl rfl
noncomputable def zbyl_144 : List (Nat × zbyE) := [(56, zbyo_172), (57, zbyo_132 2 1), (60, zbyo_167 (-32)), (63, zbyo_4), (64, zbyo_172)]
theorem zbyb_144 : zbys zbyl_144 (cX6_isWord.data.toList.drop 56) 56 = true := by decide +kernel
theorem dX6_isWord_56 : decode cX6_isWord 56 = .ok (.ireturn, 1) := zby_g zbyb_144 (i := 0) rfl rfl
theorem dX6_isWord_57 : decode cX6_isWord 57 = .ok (.iinc 2 1, 3) := zby_g zbyb_144 (i := 1) rfl rfl
theorem dX6_isWord_60 : decode cX6_isWord 60 = .ok (.goto (-32), 3) := zby_g zbyb_144 (i := 2) rfl rfl
theorem dX6_isWord_63 : decode cX6_isWord 63 = .ok (.iconst 1, 1) := zby_g zbyb_144 (i := 3) rfl rfl
theorem dX6_isWord_64 : decode cX6_isWord 64 = .ok (.ireturn, 1) := zby_g zbyb_144 (i := 4) rfl rfl
noncomputable def zbyl_145 : List (Nat × zbyE) := [(0, zbyo_42), (1, zbyo_180 40), (4, zbyo_6), (5, zbyo_160 20), (8, zbyo_42), (9, zbyo_180 9), (12, zbyo_42), (13, zbyo_180 37), (16, zbyo_46), (17, zbyo_27), (18, zbyo_160 7), (21, zbyo_4), (22, zbyo_167 4), (25, zbyo_3), (26, zbyo_172)]
theorem zbyb_145 : zbys zbyl_145 (cX6_isSign.data.toList.drop 0) 0 = true := by decide +kernel
theorem dX6_isSign_0 : decode cX6_isSign 0 = .ok (.aload_n 0, 1) := zby_g zbyb_145 (i := 0) rfl rfl
theorem dX6_isSign_1 : decode cX6_isSign 1 = .ok (.getfield 40, 3) := zby_g zbyb_145 (i := 1) rfl rfl
theorem dX6_isSign_4 : decode cX6_isSign 4 = .ok (.iconst 3, 1) := zby_g zbyb_145 (i := 2) rfl rfl
theorem dX6_isSign_5 : decode cX6_isSign 5 = .ok (.if_icmp .ne 20, 3) := zby_g zbyb_145 (i := 3) rfl rfl
theorem dX6_isSign_8 : decode cX6_isSign 8 = .ok (.aload_n 0, 1) := zby_g zbyb_145 (i := 4) rfl rfl
theorem dX6_isSign_9 : decode cX6_isSign 9 = .ok (.getfield 9, 3) := zby_g zbyb_145 (i := 5) rfl rfl
theorem dX6_isSign_12 : decode cX6_isSign 12 = .ok (.aload_n 0, 1) := zby_g zbyb_145 (i := 6) rfl rfl
theorem dX6_isSign_13 : decode cX6_isSign 13 = .ok (.getfield 37, 3) := zby_g zbyb_145 (i := 7) rfl rfl
theorem dX6_isSign_16 : decode cX6_isSign 16 = .ok (.iaload, 1) := zby_g zbyb_145 (i := 8) rfl rfl
theorem dX6_isSign_17 : decode cX6_isSign 17 = .ok (.iload_n 1, 1) := zby_g zbyb_145 (i := 9) rfl rfl
theorem dX6_isSign_18 : decode cX6_isSign 18 = .ok (.if_icmp .ne 7, 3) := zby_g zbyb_145 (i := 10) rfl rfl
theorem dX6_isSign_21 : decode cX6_isSign 21 = .ok (.iconst 1, 1) := zby_g zbyb_145 (i := 11) rfl rfl
theorem dX6_isSign_22 : decode cX6_isSign 22 = .ok (.goto 4, 3) := zby_g zbyb_145 (i := 12) rfl rfl
theorem dX6_isSign_25 : decode cX6_isSign 25 = .ok (.iconst 0, 1) := zby_g zbyb_145 (i := 13) rfl rfl
theorem dX6_isSign_26 : decode cX6_isSign 26 = .ok (.ireturn, 1) := zby_g zbyb_145 (i := 14) rfl rfl
noncomputable def zbyl_146 : List (Nat × zbyE) := [(0, zbyo_42), (1, zbyo_43), (2, zbyo_182 52), (5, zbyo_154 5), (8, zbyo_3), (9, zbyo_172), (10, zbyo_42), (11, zbyo_182 34), (14, zbyo_4), (15, zbyo_172)]
theorem zbyb_146 : zbys zbyl_146 (cX6_takeWord.data.toList.drop 0) 0 = true := by decide +kernel
theorem dX6_takeWord_0 : decode cX6_takeWord 0 = .ok (.aload_n 0, 1) := zby_g zbyb_146 (i := 0) rfl rfl
theorem dX6_takeWord_1 : decode cX6_takeWord 1 = .ok (.aload_n 1, 1) := zby_g zbyb_146 (i := 1) rfl rfl
theorem dX6_takeWord_2 : decode cX6_takeWord 2 = .ok (.invokevirtual 52, 3) := zby_g zbyb_146 (i := 2) rfl rfl
theorem dX6_takeWord_5 : decode cX6_takeWord 5 = .ok (.ifCond .ne 5, 3) := zby_g zbyb_146 (i := 3) rfl rfl
theorem dX6_takeWord_8 : decode cX6_takeWord 8 = .ok (.iconst 0, 1) := zby_g zbyb_146 (i := 4) rfl rfl
theorem dX6_takeWord_9 : decode cX6_takeWord 9 = .ok (.ireturn, 1) := zby_g zbyb_146 (i := 5) rfl rfl
theorem dX6_takeWord_10 : decode cX6_takeWord 10 = .ok (.aload_n 0, 1) := zby_g zbyb_146 (i := 6) rfl rfl
theorem dX6_takeWord_11 : decode cX6_takeWord 11 = .ok (.invokevirtual 34, 3) := zby_g zbyb_146 (i := 7) rfl rfl
theorem dX6_takeWord_14 : decode cX6_takeWord 14 = .ok (.iconst 1, 1) := zby_g zbyb_146 (i := 8) rfl rfl
theorem dX6_takeWord_15 : decode cX6_takeWord 15 = .ok (.ireturn, 1) := zby_g zbyb_146 (i := 9) rfl rfl
noncomputable def zbyl_147 : List (Nat × zbyE) := [(0, zbyo_42), (1, zbyo_43), (2, zbyo_182 56), (5, zbyo_154 10), (8, zbyo_42), (9, zbyo_182 59), (12, zbyo_153 7), (15, zbyo_4), (16, zbyo_167 4), (19, zbyo_3), (20, zbyo_172)]
theorem zbyb_147 : zbys zbyl_147 (cX6_needWord.data.toList.drop 0) 0 = true := by decide +kernel
theorem dX6_needWord_0 : decode cX6_needWord 0 = .ok (.aload_n 0, 1) := zby_g zbyb_147 (i := 0) rfl rfl
theorem dX6_needWord_1 : decode cX6_needWord 1 = .ok (.aload_n 1, 1) := zby_g zbyb_147 (i := 1) rfl rfl
theorem dX6_needWord_2 : decode cX6_needWord 2 = .ok (.invokevirtual 56, 3) := zby_g zbyb_147 (i := 2) rfl rfl
theorem dX6_needWord_5 : decode cX6_needWord 5 = .ok (.ifCond .ne 10, 3) := zby_g zbyb_147 (i := 3) rfl rfl
theorem dX6_needWord_8 : decode cX6_needWord 8 = .ok (.aload_n 0, 1) := zby_g zbyb_147 (i := 4) rfl rfl
theorem dX6_needWord_9 : decode cX6_needWord 9 = .ok (.invokevirtual 59, 3) := zby_g zbyb_147 (i := 5) rfl rfl
theorem dX6_needWord_12 : decode cX6_needWord 12 = .ok (.ifCond .eq 7, 3) := zby_g zbyb_147 (i := 6) rfl rfl
theorem dX6_needWord_15 : decode cX6_needWord 15 = .ok (.iconst 1, 1) := zby_g zbyb_147 (i := 7) rfl rfl
theorem dX6_needWord_16 : decode cX6_needWord 16 = .ok (.goto 4, 3) := zby_g zbyb_147 (i := 8) rfl rfl
theorem dX6_needWord_19 : decode cX6_needWord 19 = .ok (.iconst 0, 1) := zby_g zbyb_147 (i := 9) rfl rfl
theorem dX6_needWord_20 : decode cX6_needWord 20 = .ok (.ireturn, 1) := zby_g zbyb_147 (i := 10) rfl rfl
noncomputable def zbyl_148 : List (Nat × zbyE) := [(0, zbyo_42), (1, zbyo_27), (2, zbyo_182 63), (5, zbyo_154 5), (8, zbyo_3), (9, zbyo_172), (10, zbyo_42), (11, zbyo_182 34), (14, zbyo_4), (15, zbyo_172)]
theorem zbyb_148 : zbys zbyl_148 (cX6_takeSign.data.toList.drop 0) 0 = true := by decide +kernel
theorem dX6_takeSign_0 : decode cX6_takeSign 0 = .ok (.aload_n 0, 1) := zby_g zbyb_148 (i := 0) rfl rfl
theorem dX6_takeSign_1 : decode cX6_takeSign 1 = .ok (.iload_n 1, 1) := zby_g zbyb_148 (i := 1) rfl rfl
theorem dX6_takeSign_2 : decode cX6_takeSign 2 = .ok (.invokevirtual 63, 3) := zby_g zbyb_148 (i := 2) rfl rfl
theorem dX6_takeSign_5 : decode cX6_takeSign 5 = .ok (.ifCond .ne 5, 3) := zby_g zbyb_148 (i := 3) rfl rfl
theorem dX6_takeSign_8 : decode cX6_takeSign 8 = .ok (.iconst 0, 1) := zby_g zbyb_148 (i := 4) rfl rfl
theorem dX6_takeSign_9 : decode cX6_takeSign 9 = .ok (.ireturn, 1) := zby_g zbyb_148 (i := 5) rfl rfl
theorem dX6_takeSign_10 : decode cX6_takeSign 10 = .ok (.aload_n 0, 1) := zby_g zbyb_148 (i := 6) rfl rfl
theorem dX6_takeSign_11 : decode cX6_takeSign 11 = .ok (.invokevirtual 34, 3) := zby_g zbyb_148 (i := 7) rfl rfl
theorem dX6_takeSign_14 : decode cX6_takeSign 14 = .ok (.iconst 1, 1) := zby_g zbyb_148 (i := 8) rfl rfl
theorem dX6_takeSign_15 : decode cX6_takeSign 15 = .ok (.ireturn, 1) := zby_g zbyb_148 (i := 9) rfl rfl
noncomputable def zbyl_149 : List (Nat × zbyE) := [(0, zbyo_42), (1, zbyo_27), (2, zbyo_182 67), (5, zbyo_154 10), (8, zbyo_42), (9, zbyo_182 59), (12, zbyo_153 7), (15, zbyo_4), (16, zbyo_167 4), (19, zbyo_3), (20, zbyo_172)]
theorem zbyb_149 : zbys zbyl_149 (cX6_needSign.data.toList.drop 0) 0 = true := by decide +kernel
theorem dX6_needSign_0 : decode cX6_needSign 0 = .ok (.aload_n 0, 1) := zby_g zbyb_149 (i := 0) rfl rfl
theorem dX6_needSign_1 : decode cX6_needSign 1 = .ok (.iload_n 1, 1) := zby_g zbyb_149 (i := 1) rfl rfl
theorem dX6_needSign_2 : decode cX6_needSign 2 = .ok (.invokevirtual 67, 3) := zby_g zbyb_149 (i := 2) rfl rfl
theorem dX6_needSign_5 : decode cX6_needSign 5 = .ok (.ifCond .ne 10, 3) := zby_g zbyb_149 (i := 3) rfl rfl
theorem dX6_needSign_8 : decode cX6_needSign 8 = .ok (.aload_n 0, 1) := zby_g zbyb_149 (i := 4) rfl rfl
theorem dX6_needSign_9 : decode cX6_needSign 9 = .ok (.invokevirtual 59, 3) := zby_g zbyb_149 (i := 5) rfl rfl
theorem dX6_needSign_12 : decode cX6_needSign 12 = .ok (.ifCond .eq 7, 3) := zby_g zbyb_149 (i := 6) rfl rfl
theorem dX6_needSign_15 : decode cX6_needSign 15 = .ok (.iconst 1, 1) := zby_g zbyb_149 (i := 7) rfl rfl
theorem dX6_needSign_16 : decode cX6_needSign 16 = .ok (.goto 4, 3) := zby_g zbyb_149 (i := 8) rfl rfl
theorem dX6_needSign_19 : decode cX6_needSign 19 = .ok (.iconst 0, 1) := zby_g zbyb_149 (i := 9) rfl rfl
theorem dX6_needSign_20 : decode cX6_needSign 20 = .ok (.ireturn, 1) := zby_g zbyb_149 (i := 10) rfl rfl
noncomputable def zbyl_150 : List (Nat × zbyE) := [(0, zbyo_3), (1, zbyo_62), (2, zbyo_42), (3, zbyo_180 40), (6, zbyo_5), (7, zbyo_160 69), (10, zbyo_42), (11, zbyo_180 31), (14, zbyo_42), (15, zbyo_180 37), (18, zbyo_100), (19, zbyo_6), (20, zbyo_163 56), (23, zbyo_42), (24, zbyo_180 37), (27, zbyo_54 4)]
theorem zbyb_150 : zbys zbyl_150 (cX6_number.data.toList.drop 0) 0 = true := by decide +kernel
theorem dX6_number_0 : decode cX6_number 0 = .ok (.iconst 0, 1) := zby_g zbyb_150 (i := 0) rfl rfl
theorem dX6_number_1 : decode cX6_number 1 = .ok (.istore_n 3, 1) := zby_g zbyb_150 (i := 1) rfl rfl
theorem dX6_number_2 : decode cX6_number 2 = .ok (.aload_n 0, 1) := zby_g zbyb_150 (i := 2) rfl rfl
theorem dX6_number_3 : decode cX6_number 3 = .ok (.getfield 40, 3) := zby_g zbyb_150 (i := 3) rfl rfl
theorem dX6_number_6 : decode cX6_number 6 = .ok (.iconst 2, 1) := zby_g zbyb_150 (i := 4) rfl rfl
theorem dX6_number_7 : decode cX6_number 7 = .ok (.if_icmp .ne 69, 3) := zby_g zbyb_150 (i := 5) rfl rfl
theorem dX6_number_10 : decode cX6_number 10 = .ok (.aload_n 0, 1) := zby_g zbyb_150 (i := 6) rfl rfl
theorem dX6_number_11 : decode cX6_number 11 = .ok (.getfield 31, 3) := zby_g zbyb_150 (i := 7) rfl rfl
theorem dX6_number_14 : decode cX6_number 14 = .ok (.aload_n 0, 1) := zby_g zbyb_150 (i := 8) rfl rfl
theorem dX6_number_15 : decode cX6_number 15 = .ok (.getfield 37, 3) := zby_g zbyb_150 (i := 9) rfl rfl
theorem dX6_number_18 : decode cX6_number 18 = .ok (.isub, 1) := zby_g zbyb_150 (i := 10) rfl rfl
theorem dX6_number_19 : decode cX6_number 19 = .ok (.iconst 3, 1) := zby_g zbyb_150 (i := 11) rfl rfl
theorem dX6_number_20 : decode cX6_number 20 = .ok (.if_icmp .gt 56, 3) := zby_g zbyb_150 (i := 12) rfl rfl
theorem dX6_number_23 : decode cX6_number 23 = .ok (.aload_n 0, 1) := zby_g zbyb_150 (i := 13) rfl rfl
theorem dX6_number_24 : decode cX6_number 24 = .ok (.getfield 37, 3) := zby_g zbyb_150 (i := 14) rfl rfl
theorem dX6_number_27 : decode cX6_number 27 = .ok (.istore 4, 2) := zby_g zbyb_150 (i := 15) rfl rfl
noncomputable def zbyl_151 : List (Nat × zbyE) := [(29, zbyo_21 4), (31, zbyo_42), (32, zbyo_180 31), (35, zbyo_162 25), (38, zbyo_29), (39, zbyo_16 10), (41, zbyo_104), (42, zbyo_42), (43, zbyo_180 9), (46, zbyo_21 4), (48, zbyo_46), (49, zbyo_96), (50, zbyo_16 48), (52, zbyo_100), (53, zbyo_62), (54, zbyo_132 4 1)]
theorem zbyb_151 : zbys zbyl_151 (cX6_number.data.toList.drop 29) 29 = true := by decide +kernel
theorem dX6_number_29 : decode cX6_number 29 = .ok (.iload 4, 2) := zby_g zbyb_151 (i := 0) rfl rfl
theorem dX6_number_31 : decode cX6_number 31 = .ok (.aload_n 0, 1) := zby_g zbyb_151 (i := 1) rfl rfl
theorem dX6_number_32 : decode cX6_number 32 = .ok (.getfield 31, 3) := zby_g zbyb_151 (i := 2) rfl rfl
theorem dX6_number_35 : decode cX6_number 35 = .ok (.if_icmp .ge 25, 3) := zby_g zbyb_151 (i := 3) rfl rfl
theorem dX6_number_38 : decode cX6_number 38 = .ok (.iload_n 3, 1) := zby_g zbyb_151 (i := 4) rfl rfl
theorem dX6_number_39 : decode cX6_number 39 = .ok (.bipush 10, 2) := zby_g zbyb_151 (i := 5) rfl rfl
theorem dX6_number_41 : decode cX6_number 41 = .ok (.imul, 1) := zby_g zbyb_151 (i := 6) rfl rfl
theorem dX6_number_42 : decode cX6_number 42 = .ok (.aload_n 0, 1) := zby_g zbyb_151 (i := 7) rfl rfl
theorem dX6_number_43 : decode cX6_number 43 = .ok (.getfield 9, 3) := zby_g zbyb_151 (i := 8) rfl rfl
theorem dX6_number_46 : decode cX6_number 46 = .ok (.iload 4, 2) := zby_g zbyb_151 (i := 9) rfl rfl
theorem dX6_number_48 : decode cX6_number 48 = .ok (.iaload, 1) := zby_g zbyb_151 (i := 10) rfl rfl
theorem dX6_number_49 : decode cX6_number 49 = .ok (.iadd, 1) := zby_g zbyb_151 (i := 11) rfl rfl
theorem dX6_number_50 : decode cX6_number 50 = .ok (.bipush 48, 2) := zby_g zbyb_151 (i := 12) rfl rfl
theorem dX6_number_52 : decode cX6_number 52 = .ok (.isub, 1) := zby_g zbyb_151 (i := 13) rfl rfl
theorem dX6_number_53 : decode cX6_number 53 = .ok (.istore_n 3, 1) := zby_g zbyb_151 (i := 14) rfl rfl
theorem dX6_number_54 : decode cX6_number 54 = .ok (.iinc 4 1, 3) := zby_g zbyb_151 (i := 15) rfl rfl
noncomputable def zbyl_152 : List (Nat × zbyE) := [(57, zbyo_167 (-28)), (60, zbyo_29), (61, zbyo_27), (62, zbyo_161 14), (65, zbyo_29), (66, zbyo_28), (67, zbyo_163 9), (70, zbyo_42), (71, zbyo_182 34), (74, zbyo_29), (75, zbyo_172), (76, zbyo_42), (77, zbyo_182 59), (80, zbyo_87), (81, zbyo_2), (82, zbyo_172)]
theorem zbyb_152 : zbys zbyl_152 (cX6_number.data.toList.drop 57) 57 = true := by decide +kernel
theorem dX6_number_57 : decode cX6_number 57 = .ok (.goto (-28), 3) := zby_g zbyb_152 (i := 0) rfl rfl
theorem dX6_number_60 : decode cX6_number 60 = .ok (.iload_n 3, 1) := zby_g zbyb_152 (i := 1) rfl rfl
theorem dX6_number_61 : decode cX6_number 61 = .ok (.iload_n 1, 1) := zby_g zbyb_152 (i := 2) rfl rfl
theorem dX6_number_62 : decode cX6_number 62 = .ok (.if_icmp .lt 14, 3) := zby_g zbyb_152 (i := 3) rfl rfl
theorem dX6_number_65 : decode cX6_number 65 = .ok (.iload_n 3, 1) := zby_g zbyb_152 (i := 4) rfl rfl
theorem dX6_number_66 : decode cX6_number 66 = .ok (.iload_n 2, 1) := zby_g zbyb_152 (i := 5) rfl rfl
theorem dX6_number_67 : decode cX6_number 67 = .ok (.if_icmp .gt 9, 3) := zby_g zbyb_152 (i := 6) rfl rfl
theorem dX6_number_70 : decode cX6_number 70 = .ok (.aload_n 0, 1) := zby_g zbyb_152 (i := 7) rfl rfl
theorem dX6_number_71 : decode cX6_number 71 = .ok (.invokevirtual 34, 3) := zby_g zbyb_152 (i := 8) rfl rfl
theorem dX6_number_74 : decode cX6_number 74 = .ok (.iload_n 3, 1) := zby_g zbyb_152 (i := 9) rfl rfl
theorem dX6_number_75 : decode cX6_number 75 = .ok (.ireturn, 1) := zby_g zbyb_152 (i := 10) rfl rfl
theorem dX6_number_76 : decode cX6_number 76 = .ok (.aload_n 0, 1) := zby_g zbyb_152 (i := 11) rfl rfl
theorem dX6_number_77 : decode cX6_number 77 = .ok (.invokevirtual 59, 3) := zby_g zbyb_152 (i := 12) rfl rfl
theorem dX6_number_80 : decode cX6_number 80 = .ok (.pop, 1) := zby_g zbyb_152 (i := 13) rfl rfl
theorem dX6_number_81 : decode cX6_number 81 = .ok (.iconst (-1), 1) := zby_g zbyb_152 (i := 14) rfl rfl
theorem dX6_number_82 : decode cX6_number 82 = .ok (.ireturn, 1) := zby_g zbyb_152 (i := 15) rfl rfl
noncomputable def zbyl_153 : List (Nat × zbyE) := [(0, zbyo_42), (1, zbyo_183 3), (4, zbyo_42), (5, zbyo_43), (6, zbyo_181 9), (9, zbyo_177)]
theorem zbyb_153 : zbys zbyl_153 (cX7_init.data.toList.drop 0) 0 = true := by decide +kernel
theorem dX7_init_0 : decode cX7_init 0 = .ok (.aload_n 0, 1) := zby_g zbyb_153 (i := 0) rfl rfl
theorem dX7_init_1 : decode cX7_init 1 = .ok (.invokespecial 3, 3) := zby_g zbyb_153 (i := 1) rfl rfl
theorem dX7_init_4 : decode cX7_init 4 = .ok (.aload_n 0, 1) := zby_g zbyb_153 (i := 2) rfl rfl
theorem dX7_init_5 : decode cX7_init 5 = .ok (.aload_n 1, 1) := zby_g zbyb_153 (i := 3) rfl rfl
theorem dX7_init_6 : decode cX7_init 6 = .ok (.putfield 9, 3) := zby_g zbyb_153 (i := 4) rfl rfl
theorem dX7_init_9 : decode cX7_init 9 = .ok (.return_, 1) := zby_g zbyb_153 (i := 5) rfl rfl
noncomputable def zbyl_154 : List (Nat × zbyE) := [(0, zbyo_42), (1, zbyo_180 9), (4, zbyo_180 15), (7, zbyo_154 5), (10, zbyo_3), (11, zbyo_172), (12, zbyo_4), (13, zbyo_61), (14, zbyo_28), (15, zbyo_27), (16, zbyo_163 44), (19, zbyo_42), (20, zbyo_182 21), (23, zbyo_154 5), (26, zbyo_2), (27, zbyo_172)]
theorem zbyb_154 : zbys zbyl_154 (cX7_readLines.data.toList.drop 0) 0 = true := by decide +kernel
theorem dX7_readLines_0 : decode cX7_readLines 0 = .ok (.aload_n 0, 1) := zby_g zbyb_154 (i := 0) rfl rfl
theorem dX7_readLines_1 : decode cX7_readLines 1 = .ok (.getfield 9, 3) := zby_g zbyb_154 (i := 1) rfl rfl
theorem dX7_readLines_4 : decode cX7_readLines 4 = .ok (.getfield 15, 3) := zby_g zbyb_154 (i := 2) rfl rfl
theorem dX7_readLines_7 : decode cX7_readLines 7 = .ok (.ifCond .ne 5, 3) := zby_g zbyb_154 (i := 3) rfl rfl
theorem dX7_readLines_10 : decode cX7_readLines 10 = .ok (.iconst 0, 1) := zby_g zbyb_154 (i := 4) rfl rfl
theorem dX7_readLines_11 : decode cX7_readLines 11 = .ok (.ireturn, 1) := zby_g zbyb_154 (i := 5) rfl rfl
theorem dX7_readLines_12 : decode cX7_readLines 12 = .ok (.iconst 1, 1) := zby_g zbyb_154 (i := 6) rfl rfl
theorem dX7_readLines_13 : decode cX7_readLines 13 = .ok (.istore_n 2, 1) := zby_g zbyb_154 (i := 7) rfl rfl
theorem dX7_readLines_14 : decode cX7_readLines 14 = .ok (.iload_n 2, 1) := zby_g zbyb_154 (i := 8) rfl rfl
theorem dX7_readLines_15 : decode cX7_readLines 15 = .ok (.iload_n 1, 1) := zby_g zbyb_154 (i := 9) rfl rfl
theorem dX7_readLines_16 : decode cX7_readLines 16 = .ok (.if_icmp .gt 44, 3) := zby_g zbyb_154 (i := 10) rfl rfl
theorem dX7_readLines_19 : decode cX7_readLines 19 = .ok (.aload_n 0, 1) := zby_g zbyb_154 (i := 11) rfl rfl
theorem dX7_readLines_20 : decode cX7_readLines 20 = .ok (.invokevirtual 21, 3) := zby_g zbyb_154 (i := 12) rfl rfl
theorem dX7_readLines_23 : decode cX7_readLines 23 = .ok (.ifCond .ne 5, 3) := zby_g zbyb_154 (i := 13) rfl rfl
theorem dX7_readLines_26 : decode cX7_readLines 26 = .ok (.iconst (-1), 1) := zby_g zbyb_154 (i := 14) rfl rfl
theorem dX7_readLines_27 : decode cX7_readLines 27 = .ok (.ireturn, 1) := zby_g zbyb_154 (i := 15) rfl rfl
noncomputable def zbyl_155 : List (Nat × zbyE) := [(28, zbyo_42), (29, zbyo_180 9), (32, zbyo_180 15), (35, zbyo_154 5), (38, zbyo_28), (39, zbyo_172), (40, zbyo_42), (41, zbyo_180 9), (44, zbyo_16 59), (46, zbyo_182 25), (49, zbyo_154 5), (52, zbyo_2), (53, zbyo_172), (54, zbyo_132 2 1), (57, zbyo_167 (-43)), (60, zbyo_42)]
theorem zbyb_155 : zbys zbyl_155 (cX7_readLines.data.toList.drop 28) 28 = true := by decide +kernel
theorem dX7_readLines_28 : decode cX7_readLines 28 = .ok (.aload_n 0, 1) := zby_g zbyb_155 (i := 0) rfl rfl
theorem dX7_readLines_29 : decode cX7_readLines 29 = .ok (.getfield 9, 3) := zby_g zbyb_155 (i := 1) rfl rfl
theorem dX7_readLines_32 : decode cX7_readLines 32 = .ok (.getfield 15, 3) := zby_g zbyb_155 (i := 2) rfl rfl
theorem dX7_readLines_35 : decode cX7_readLines 35 = .ok (.ifCond .ne 5, 3) := zby_g zbyb_155 (i := 3) rfl rfl
theorem dX7_readLines_38 : decode cX7_readLines 38 = .ok (.iload_n 2, 1) := zby_g zbyb_155 (i := 4) rfl rfl
theorem dX7_readLines_39 : decode cX7_readLines 39 = .ok (.ireturn, 1) := zby_g zbyb_155 (i := 5) rfl rfl
theorem dX7_readLines_40 : decode cX7_readLines 40 = .ok (.aload_n 0, 1) := zby_g zbyb_155 (i := 6) rfl rfl
theorem dX7_readLines_41 : decode cX7_readLines 41 = .ok (.getfield 9, 3) := zby_g zbyb_155 (i := 7) rfl rfl
theorem dX7_readLines_44 : decode cX7_readLines 44 = .ok (.bipush 59, 2) := zby_g zbyb_155 (i := 8) rfl rfl
theorem dX7_readLines_46 : decode cX7_readLines 46 = .ok (.invokevirtual 25, 3) := zby_g zbyb_155 (i := 9) rfl rfl
theorem dX7_readLines_49 : decode cX7_readLines 49 = .ok (.ifCond .ne 5, 3) := zby_g zbyb_155 (i := 10) rfl rfl
theorem dX7_readLines_52 : decode cX7_readLines 52 = .ok (.iconst (-1), 1) := zby_g zbyb_155 (i := 11) rfl rfl
theorem dX7_readLines_53 : decode cX7_readLines 53 = .ok (.ireturn, 1) := zby_g zbyb_155 (i := 12) rfl rfl
theorem dX7_readLines_54 : decode cX7_readLines 54 = .ok (.iinc 2 1, 3) := zby_g zbyb_155 (i := 13) rfl rfl
theorem dX7_readLines_57 : decode cX7_readLines 57 = .ok (.goto (-43), 3) := zby_g zbyb_155 (i := 14) rfl rfl
theorem dX7_readLines_60 : decode cX7_readLines 60 = .ok (.aload_n 0, 1) := zby_g zbyb_155 (i := 15) rfl rfl
noncomputable def zbyl_156 : List (Nat × zbyE) := [(61, zbyo_180 9), (64, zbyo_182 29), (67, zbyo_87), (68, zbyo_2), (69, zbyo_172)]
theorem zbyb_156 : zbys zbyl_156 (cX7_readLines.data.toList.drop 61) 61 = true := by decide +kernel
theorem dX7_readLines_61 : decode cX7_readLines 61 = .ok (.getfield 9, 3) := zby_g zbyb_156 (i := 0) rfl rfl
theorem dX7_readLines_64 : decode cX7_readLines 64 = .ok (.invokevirtual 29, 3) := zby_g zbyb_156 (i := 1) rfl rfl
theorem dX7_readLines_67 : decode cX7_readLines 67 = .ok (.pop, 1) := zby_g zbyb_156 (i := 2) rfl rfl
theorem dX7_readLines_68 : decode cX7_readLines 68 = .ok (.iconst (-1), 1) := zby_g zbyb_156 (i := 3) rfl rfl
theorem dX7_readLines_69 : decode cX7_readLines 69 = .ok (.ireturn, 1) := zby_g zbyb_156 (i := 4) rfl rfl
noncomputable def zbyl_157 : List (Nat × zbyE) := [(0, zbyo_3), (1, zbyo_61), (2, zbyo_3), (3, zbyo_62), (4, zbyo_29), (5, zbyo_42), (6, zbyo_180 9), (9, zbyo_162 58), (12, zbyo_3), (13, zbyo_54 4), (15, zbyo_21 4), (17, zbyo_42), (18, zbyo_180 9), (21, zbyo_162 40), (24, zbyo_21 4), (26, zbyo_29)]
theorem zbyb_157 : zbys zbyl_157 (cX8_trusting.data.toList.drop 0) 0 = true := by decide +kernel
theorem dX8_trusting_0 : decode cX8_trusting 0 = .ok (.iconst 0, 1) := zby_g zbyb_157 (i := 0) rfl rfl
theorem dX8_trusting_1 : decode cX8_trusting 1 = .ok (.istore_n 2, 1) := zby_g zbyb_157 (i := 1) rfl rfl
theorem dX8_trusting_2 : decode cX8_trusting 2 = .ok (.iconst 0, 1) := zby_g zbyb_157 (i := 2) rfl rfl
theorem dX8_trusting_3 : decode cX8_trusting 3 = .ok (.istore_n 3, 1) := zby_g zbyb_157 (i := 3) rfl rfl
theorem dX8_trusting_4 : decode cX8_trusting 4 = .ok (.iload_n 3, 1) := zby_g zbyb_157 (i := 4) rfl rfl
theorem dX8_trusting_5 : decode cX8_trusting 5 = .ok (.aload_n 0, 1) := zby_g zbyb_157 (i := 5) rfl rfl
theorem dX8_trusting_6 : decode cX8_trusting 6 = .ok (.getfield 9, 3) := zby_g zbyb_157 (i := 6) rfl rfl
theorem dX8_trusting_9 : decode cX8_trusting 9 = .ok (.if_icmp .ge 58, 3) := zby_g zbyb_157 (i := 7) rfl rfl
theorem dX8_trusting_12 : decode cX8_trusting 12 = .ok (.iconst 0, 1) := zby_g zbyb_157 (i := 8) rfl rfl
theorem dX8_trusting_13 : decode cX8_trusting 13 = .ok (.istore 4, 2) := zby_g zbyb_157 (i := 9) rfl rfl
theorem dX8_trusting_15 : decode cX8_trusting 15 = .ok (.iload 4, 2) := zby_g zbyb_157 (i := 10) rfl rfl
theorem dX8_trusting_17 : decode cX8_trusting 17 = .ok (.aload_n 0, 1) := zby_g zbyb_157 (i := 11) rfl rfl
theorem dX8_trusting_18 : decode cX8_trusting 18 = .ok (.getfield 9, 3) := zby_g zbyb_157 (i := 12) rfl rfl
theorem dX8_trusting_21 : decode cX8_trusting 21 = .ok (.if_icmp .ge 40, 3) := zby_g zbyb_157 (i := 13) rfl rfl
theorem dX8_trusting_24 : decode cX8_trusting 24 = .ok (.iload 4, 2) := zby_g zbyb_157 (i := 14) rfl rfl
theorem dX8_trusting_26 : decode cX8_trusting 26 = .ok (.iload_n 3, 1) := zby_g zbyb_157 (i := 15) rfl rfl
noncomputable def zbyl_158 : List (Nat × zbyE) := [(27, zbyo_159 28), (30, zbyo_27), (31, zbyo_21 4), (33, zbyo_122), (34, zbyo_4), (35, zbyo_126), (36, zbyo_153 19), (39, zbyo_42), (40, zbyo_29), (41, zbyo_21 4), (43, zbyo_182 15), (46, zbyo_158 9), (49, zbyo_28), (50, zbyo_4), (51, zbyo_29), (52, zbyo_120)]
theorem zbyb_158 : zbys zbyl_158 (cX8_trusting.data.toList.drop 27) 27 = true := by decide +kernel
theorem dX8_trusting_27 : decode cX8_trusting 27 = .ok (.if_icmp .eq 28, 3) := zby_g zbyb_158 (i := 0) rfl rfl
theorem dX8_trusting_30 : decode cX8_trusting 30 = .ok (.iload_n 1, 1) := zby_g zbyb_158 (i := 1) rfl rfl
theorem dX8_trusting_31 : decode cX8_trusting 31 = .ok (.iload 4, 2) := zby_g zbyb_158 (i := 2) rfl rfl
theorem dX8_trusting_33 : decode cX8_trusting 33 = .ok (.ishr, 1) := zby_g zbyb_158 (i := 3) rfl rfl
theorem dX8_trusting_34 : decode cX8_trusting 34 = .ok (.iconst 1, 1) := zby_g zbyb_158 (i := 4) rfl rfl
theorem dX8_trusting_35 : decode cX8_trusting 35 = .ok (.iand, 1) := zby_g zbyb_158 (i := 5) rfl rfl
theorem dX8_trusting_36 : decode cX8_trusting 36 = .ok (.ifCond .eq 19, 3) := zby_g zbyb_158 (i := 6) rfl rfl
theorem dX8_trusting_39 : decode cX8_trusting 39 = .ok (.aload_n 0, 1) := zby_g zbyb_158 (i := 7) rfl rfl
theorem dX8_trusting_40 : decode cX8_trusting 40 = .ok (.iload_n 3, 1) := zby_g zbyb_158 (i := 8) rfl rfl
theorem dX8_trusting_41 : decode cX8_trusting 41 = .ok (.iload 4, 2) := zby_g zbyb_158 (i := 9) rfl rfl
theorem dX8_trusting_43 : decode cX8_trusting 43 = .ok (.invokevirtual 15, 3) := zby_g zbyb_158 (i := 10) rfl rfl
theorem dX8_trusting_46 : decode cX8_trusting 46 = .ok (.ifCond .le 9, 3) := zby_g zbyb_158 (i := 11) rfl rfl
theorem dX8_trusting_49 : decode cX8_trusting 49 = .ok (.iload_n 2, 1) := zby_g zbyb_158 (i := 12) rfl rfl
theorem dX8_trusting_50 : decode cX8_trusting 50 = .ok (.iconst 1, 1) := zby_g zbyb_158 (i := 13) rfl rfl
theorem dX8_trusting_51 : decode cX8_trusting 51 = .ok (.iload_n 3, 1) := zby_g zbyb_158 (i := 14) rfl rfl
theorem dX8_trusting_52 : decode cX8_trusting 52 = .ok (.ishl, 1) := zby_g zbyb_158 (i := 15) rfl rfl
noncomputable def zbyl_159 : List (Nat × zbyE) := [(53, zbyo_128), (54, zbyo_61), (55, zbyo_132 4 1), (58, zbyo_167 (-43)), (61, zbyo_132 3 1), (64, zbyo_167 (-60)), (67, zbyo_28), (68, zbyo_172)]
theorem zbyb_159 : zbys zbyl_159 (cX8_trusting.data.toList.drop 53) 53 = true := by decide +kernel
theorem dX8_trusting_53 : decode cX8_trusting 53 = .ok (.ior, 1) := zby_g zbyb_159 (i := 0) rfl rfl
theorem dX8_trusting_54 : decode cX8_trusting 54 = .ok (.istore_n 2, 1) := zby_g zbyb_159 (i := 1) rfl rfl
theorem dX8_trusting_55 : decode cX8_trusting 55 = .ok (.iinc 4 1, 3) := zby_g zbyb_159 (i := 2) rfl rfl
theorem dX8_trusting_58 : decode cX8_trusting 58 = .ok (.goto (-43), 3) := zby_g zbyb_159 (i := 3) rfl rfl
theorem dX8_trusting_61 : decode cX8_trusting 61 = .ok (.iinc 3 1, 3) := zby_g zbyb_159 (i := 4) rfl rfl
theorem dX8_trusting_64 : decode cX8_trusting 64 = .ok (.goto (-60), 3) := zby_g zbyb_159 (i := 5) rfl rfl
theorem dX8_trusting_67 : decode cX8_trusting 67 = .ok (.iload_n 2, 1) := zby_g zbyb_159 (i := 6) rfl rfl
theorem dX8_trusting_68 : decode cX8_trusting 68 = .ok (.ireturn, 1) := zby_g zbyb_159 (i := 7) rfl rfl
noncomputable def zbyl_160 : List (Nat × zbyE) := [(0, zbyo_3), (1, zbyo_61), (2, zbyo_3), (3, zbyo_62), (4, zbyo_29), (5, zbyo_42), (6, zbyo_180 9), (9, zbyo_162 21), (12, zbyo_28), (13, zbyo_42), (14, zbyo_28), (15, zbyo_4), (16, zbyo_27), (17, zbyo_120), (18, zbyo_128), (19, zbyo_184 19)]
theorem zbyb_160 : zbys zbyl_160 (cX8_wordOf.data.toList.drop 0) 0 = true := by decide +kernel
theorem dX8_wordOf_0 : decode cX8_wordOf 0 = .ok (.iconst 0, 1) := zby_g zbyb_160 (i := 0) rfl rfl
theorem dX8_wordOf_1 : decode cX8_wordOf 1 = .ok (.istore_n 2, 1) := zby_g zbyb_160 (i := 1) rfl rfl
theorem dX8_wordOf_2 : decode cX8_wordOf 2 = .ok (.iconst 0, 1) := zby_g zbyb_160 (i := 2) rfl rfl
theorem dX8_wordOf_3 : decode cX8_wordOf 3 = .ok (.istore_n 3, 1) := zby_g zbyb_160 (i := 3) rfl rfl
theorem dX8_wordOf_4 : decode cX8_wordOf 4 = .ok (.iload_n 3, 1) := zby_g zbyb_160 (i := 4) rfl rfl
theorem dX8_wordOf_5 : decode cX8_wordOf 5 = .ok (.aload_n 0, 1) := zby_g zbyb_160 (i := 5) rfl rfl
theorem dX8_wordOf_6 : decode cX8_wordOf 6 = .ok (.getfield 9, 3) := zby_g zbyb_160 (i := 6) rfl rfl
theorem dX8_wordOf_9 : decode cX8_wordOf 9 = .ok (.if_icmp .ge 21, 3) := zby_g zbyb_160 (i := 7) rfl rfl
theorem dX8_wordOf_12 : decode cX8_wordOf 12 = .ok (.iload_n 2, 1) := zby_g zbyb_160 (i := 8) rfl rfl
theorem dX8_wordOf_13 : decode cX8_wordOf 13 = .ok (.aload_n 0, 1) := zby_g zbyb_160 (i := 9) rfl rfl
theorem dX8_wordOf_14 : decode cX8_wordOf 14 = .ok (.iload_n 2, 1) := zby_g zbyb_160 (i := 10) rfl rfl
theorem dX8_wordOf_15 : decode cX8_wordOf 15 = .ok (.iconst 1, 1) := zby_g zbyb_160 (i := 11) rfl rfl
theorem dX8_wordOf_16 : decode cX8_wordOf 16 = .ok (.iload_n 1, 1) := zby_g zbyb_160 (i := 12) rfl rfl
theorem dX8_wordOf_17 : decode cX8_wordOf 17 = .ok (.ishl, 1) := zby_g zbyb_160 (i := 13) rfl rfl
theorem dX8_wordOf_18 : decode cX8_wordOf 18 = .ok (.ior, 1) := zby_g zbyb_160 (i := 14) rfl rfl
theorem dX8_wordOf_19 : decode cX8_wordOf 19 = .ok (.invokestatic 19, 3) := zby_g zbyb_160 (i := 15) rfl rfl
noncomputable def zbyl_161 : List (Nat × zbyE) := [(22, zbyo_128), (23, zbyo_61), (24, zbyo_132 3 1), (27, zbyo_167 (-23)), (30, zbyo_28), (31, zbyo_4), (32, zbyo_27), (33, zbyo_120), (34, zbyo_2), (35, zbyo_130), (36, zbyo_126), (37, zbyo_172)]
theorem zbyb_161 : zbys zbyl_161 (cX8_wordOf.data.toList.drop 22) 22 = true := by decide +kernel
theorem dX8_wordOf_22 : decode cX8_wordOf 22 = .ok (.ior, 1) := zby_g zbyb_161 (i := 0) rfl rfl
theorem dX8_wordOf_23 : decode cX8_wordOf 23 = .ok (.istore_n 2, 1) := zby_g zbyb_161 (i := 1) rfl rfl
theorem dX8_wordOf_24 : decode cX8_wordOf 24 = .ok (.iinc 3 1, 3) := zby_g zbyb_161 (i := 2) rfl rfl
theorem dX8_wordOf_27 : decode cX8_wordOf 27 = .ok (.goto (-23), 3) := zby_g zbyb_161 (i := 3) rfl rfl
theorem dX8_wordOf_30 : decode cX8_wordOf 30 = .ok (.iload_n 2, 1) := zby_g zbyb_161 (i := 4) rfl rfl
theorem dX8_wordOf_31 : decode cX8_wordOf 31 = .ok (.iconst 1, 1) := zby_g zbyb_161 (i := 5) rfl rfl
theorem dX8_wordOf_32 : decode cX8_wordOf 32 = .ok (.iload_n 1, 1) := zby_g zbyb_161 (i := 6) rfl rfl
theorem dX8_wordOf_33 : decode cX8_wordOf 33 = .ok (.ishl, 1) := zby_g zbyb_161 (i := 7) rfl rfl
theorem dX8_wordOf_34 : decode cX8_wordOf 34 = .ok (.iconst (-1), 1) := zby_g zbyb_161 (i := 8) rfl rfl
theorem dX8_wordOf_35 : decode cX8_wordOf 35 = .ok (.ixor, 1) := zby_g zbyb_161 (i := 9) rfl rfl
theorem dX8_wordOf_36 : decode cX8_wordOf 36 = .ok (.iand, 1) := zby_g zbyb_161 (i := 10) rfl rfl
theorem dX8_wordOf_37 : decode cX8_wordOf 37 = .ok (.ireturn, 1) := zby_g zbyb_161 (i := 11) rfl rfl
noncomputable def zbyl_162 : List (Nat × zbyE) := [(0, zbyo_4), (1, zbyo_27), (2, zbyo_120), (3, zbyo_62), (4, zbyo_4), (5, zbyo_54 4), (7, zbyo_21 4), (9, zbyo_42), (10, zbyo_180 9), (13, zbyo_162 28), (16, zbyo_29), (17, zbyo_42), (18, zbyo_29), (19, zbyo_184 19), (22, zbyo_128), (23, zbyo_62)]
theorem zbyb_162 : zbys zbyl_162 (cX8_fewestSteps.data.toList.drop 0) 0 = true := by decide +kernel
theorem dX8_fewestSteps_0 : decode cX8_fewestSteps 0 = .ok (.iconst 1, 1) := zby_g zbyb_162 (i := 0) rfl rfl
theorem dX8_fewestSteps_1 : decode cX8_fewestSteps 1 = .ok (.iload_n 1, 1) := zby_g zbyb_162 (i := 1) rfl rfl
theorem dX8_fewestSteps_2 : decode cX8_fewestSteps 2 = .ok (.ishl, 1) := zby_g zbyb_162 (i := 2) rfl rfl
theorem dX8_fewestSteps_3 : decode cX8_fewestSteps 3 = .ok (.istore_n 3, 1) := zby_g zbyb_162 (i := 3) rfl rfl
theorem dX8_fewestSteps_4 : decode cX8_fewestSteps 4 = .ok (.iconst 1, 1) := zby_g zbyb_162 (i := 4) rfl rfl
theorem dX8_fewestSteps_5 : decode cX8_fewestSteps 5 = .ok (.istore 4, 2) := zby_g zbyb_162 (i := 5) rfl rfl
theorem dX8_fewestSteps_7 : decode cX8_fewestSteps 7 = .ok (.iload 4, 2) := zby_g zbyb_162 (i := 6) rfl rfl
theorem dX8_fewestSteps_9 : decode cX8_fewestSteps 9 = .ok (.aload_n 0, 1) := zby_g zbyb_162 (i := 7) rfl rfl
theorem dX8_fewestSteps_10 : decode cX8_fewestSteps 10 = .ok (.getfield 9, 3) := zby_g zbyb_162 (i := 8) rfl rfl
theorem dX8_fewestSteps_13 : decode cX8_fewestSteps 13 = .ok (.if_icmp .ge 28, 3) := zby_g zbyb_162 (i := 9) rfl rfl
theorem dX8_fewestSteps_16 : decode cX8_fewestSteps 16 = .ok (.iload_n 3, 1) := zby_g zbyb_162 (i := 10) rfl rfl
theorem dX8_fewestSteps_17 : decode cX8_fewestSteps 17 = .ok (.aload_n 0, 1) := zby_g zbyb_162 (i := 11) rfl rfl
theorem dX8_fewestSteps_18 : decode cX8_fewestSteps 18 = .ok (.iload_n 3, 1) := zby_g zbyb_162 (i := 12) rfl rfl
theorem dX8_fewestSteps_19 : decode cX8_fewestSteps 19 = .ok (.invokestatic 19, 3) := zby_g zbyb_162 (i := 13) rfl rfl
theorem dX8_fewestSteps_22 : decode cX8_fewestSteps 22 = .ok (.ior, 1) := zby_g zbyb_162 (i := 14) rfl rfl
theorem dX8_fewestSteps_23 : decode cX8_fewestSteps 23 = .ok (.istore_n 3, 1) := zby_g zbyb_162 (i := 15) rfl rfl
noncomputable def zbyl_163 : List (Nat × zbyE) := [(24, zbyo_29), (25, zbyo_28), (26, zbyo_122), (27, zbyo_4), (28, zbyo_126), (29, zbyo_153 6), (32, zbyo_21 4), (34, zbyo_172), (35, zbyo_132 4 1), (38, zbyo_167 (-31)), (41, zbyo_2), (42, zbyo_172)]
theorem zbyb_163 : zbys zbyl_163 (cX8_fewestSteps.data.toList.drop 24) 24 = true := by decide +kernel
theorem dX8_fewestSteps_24 : decode cX8_fewestSteps 24 = .ok (.iload_n 3, 1) := zby_g zbyb_163 (i := 0) rfl rfl
theorem dX8_fewestSteps_25 : decode cX8_fewestSteps 25 = .ok (.iload_n 2, 1) := zby_g zbyb_163 (i := 1) rfl rfl
theorem dX8_fewestSteps_26 : decode cX8_fewestSteps 26 = .ok (.ishr, 1) := zby_g zbyb_163 (i := 2) rfl rfl
theorem dX8_fewestSteps_27 : decode cX8_fewestSteps 27 = .ok (.iconst 1, 1) := zby_g zbyb_163 (i := 3) rfl rfl
theorem dX8_fewestSteps_28 : decode cX8_fewestSteps 28 = .ok (.iand, 1) := zby_g zbyb_163 (i := 4) rfl rfl
theorem dX8_fewestSteps_29 : decode cX8_fewestSteps 29 = .ok (.ifCond .eq 6, 3) := zby_g zbyb_163 (i := 5) rfl rfl
theorem dX8_fewestSteps_32 : decode cX8_fewestSteps 32 = .ok (.iload 4, 2) := zby_g zbyb_163 (i := 6) rfl rfl
theorem dX8_fewestSteps_34 : decode cX8_fewestSteps 34 = .ok (.ireturn, 1) := zby_g zbyb_163 (i := 7) rfl rfl
theorem dX8_fewestSteps_35 : decode cX8_fewestSteps 35 = .ok (.iinc 4 1, 3) := zby_g zbyb_163 (i := 8) rfl rfl
theorem dX8_fewestSteps_38 : decode cX8_fewestSteps 38 = .ok (.goto (-31), 3) := zby_g zbyb_163 (i := 9) rfl rfl
theorem dX8_fewestSteps_41 : decode cX8_fewestSteps 41 = .ok (.iconst (-1), 1) := zby_g zbyb_163 (i := 10) rfl rfl
theorem dX8_fewestSteps_42 : decode cX8_fewestSteps 42 = .ok (.ireturn, 1) := zby_g zbyb_163 (i := 11) rfl rfl
noncomputable def zbyl_164 : List (Nat × zbyE) := [(0, zbyo_3), (1, zbyo_60), (2, zbyo_3), (3, zbyo_61), (4, zbyo_3), (5, zbyo_62), (6, zbyo_29), (7, zbyo_42), (8, zbyo_180 9), (11, zbyo_162 37), (14, zbyo_42), (15, zbyo_29), (16, zbyo_184 25), (19, zbyo_54 4), (21, zbyo_21 4), (23, zbyo_153 14)]
theorem zbyb_164 : zbys zbyl_164 (cX8_countCircles.data.toList.drop 0) 0 = true := by decide +kernel
theorem dX8_countCircles_0 : decode cX8_countCircles 0 = .ok (.iconst 0, 1) := zby_g zbyb_164 (i := 0) rfl rfl
theorem dX8_countCircles_1 : decode cX8_countCircles 1 = .ok (.istore_n 1, 1) := zby_g zbyb_164 (i := 1) rfl rfl
theorem dX8_countCircles_2 : decode cX8_countCircles 2 = .ok (.iconst 0, 1) := zby_g zbyb_164 (i := 2) rfl rfl
theorem dX8_countCircles_3 : decode cX8_countCircles 3 = .ok (.istore_n 2, 1) := zby_g zbyb_164 (i := 3) rfl rfl
theorem dX8_countCircles_4 : decode cX8_countCircles 4 = .ok (.iconst 0, 1) := zby_g zbyb_164 (i := 4) rfl rfl
theorem dX8_countCircles_5 : decode cX8_countCircles 5 = .ok (.istore_n 3, 1) := zby_g zbyb_164 (i := 5) rfl rfl
theorem dX8_countCircles_6 : decode cX8_countCircles 6 = .ok (.iload_n 3, 1) := zby_g zbyb_164 (i := 6) rfl rfl
theorem dX8_countCircles_7 : decode cX8_countCircles 7 = .ok (.aload_n 0, 1) := zby_g zbyb_164 (i := 7) rfl rfl
theorem dX8_countCircles_8 : decode cX8_countCircles 8 = .ok (.getfield 9, 3) := zby_g zbyb_164 (i := 8) rfl rfl
theorem dX8_countCircles_11 : decode cX8_countCircles 11 = .ok (.if_icmp .ge 37, 3) := zby_g zbyb_164 (i := 9) rfl rfl
theorem dX8_countCircles_14 : decode cX8_countCircles 14 = .ok (.aload_n 0, 1) := zby_g zbyb_164 (i := 10) rfl rfl
theorem dX8_countCircles_15 : decode cX8_countCircles 15 = .ok (.iload_n 3, 1) := zby_g zbyb_164 (i := 11) rfl rfl
theorem dX8_countCircles_16 : decode cX8_countCircles 16 = .ok (.invokestatic 25, 3) := zby_g zbyb_164 (i := 12) rfl rfl
theorem dX8_countCircles_19 : decode cX8_countCircles 19 = .ok (.istore 4, 2) := zby_g zbyb_164 (i := 13) rfl rfl
theorem dX8_countCircles_21 : decode cX8_countCircles 21 = .ok (.iload 4, 2) := zby_g zbyb_164 (i := 14) rfl rfl
theorem dX8_countCircles_23 : decode cX8_countCircles 23 = .ok (.ifCond .eq 14, 3) := zby_g zbyb_164 (i := 15) rfl rfl
noncomputable def zbyl_165 : List (Nat × zbyE) := [(26, zbyo_28), (27, zbyo_29), (28, zbyo_122), (29, zbyo_4), (30, zbyo_126), (31, zbyo_154 6), (34, zbyo_132 1 1), (37, zbyo_28), (38, zbyo_21 4), (40, zbyo_128), (41, zbyo_61), (42, zbyo_132 3 1), (45, zbyo_167 (-39)), (48, zbyo_27), (49, zbyo_172)]
theorem zbyb_165 : zbys zbyl_165 (cX8_countCircles.data.toList.drop 26) 26 = true := by decide +kernel
theorem dX8_countCircles_26 : decode cX8_countCircles 26 = .ok (.iload_n 2, 1) := zby_g zbyb_165 (i := 0) rfl rfl
theorem dX8_countCircles_27 : decode cX8_countCircles 27 = .ok (.iload_n 3, 1) := zby_g zbyb_165 (i := 1) rfl rfl
theorem dX8_countCircles_28 : decode cX8_countCircles 28 = .ok (.ishr, 1) := zby_g zbyb_165 (i := 2) rfl rfl
theorem dX8_countCircles_29 : decode cX8_countCircles 29 = .ok (.iconst 1, 1) := zby_g zbyb_165 (i := 3) rfl rfl
theorem dX8_countCircles_30 : decode cX8_countCircles 30 = .ok (.iand, 1) := zby_g zbyb_165 (i := 4) rfl rfl
theorem dX8_countCircles_31 : decode cX8_countCircles 31 = .ok (.ifCond .ne 6, 3) := zby_g zbyb_165 (i := 5) rfl rfl
theorem dX8_countCircles_34 : decode cX8_countCircles 34 = .ok (.iinc 1 1, 3) := zby_g zbyb_165 (i := 6) rfl rfl
theorem dX8_countCircles_37 : decode cX8_countCircles 37 = .ok (.iload_n 2, 1) := zby_g zbyb_165 (i := 7) rfl rfl
theorem dX8_countCircles_38 : decode cX8_countCircles 38 = .ok (.iload 4, 2) := zby_g zbyb_165 (i := 8) rfl rfl
theorem dX8_countCircles_40 : decode cX8_countCircles 40 = .ok (.ior, 1) := zby_g zbyb_165 (i := 9) rfl rfl
theorem dX8_countCircles_41 : decode cX8_countCircles 41 = .ok (.istore_n 2, 1) := zby_g zbyb_165 (i := 10) rfl rfl
theorem dX8_countCircles_42 : decode cX8_countCircles 42 = .ok (.iinc 3 1, 3) := zby_g zbyb_165 (i := 11) rfl rfl
theorem dX8_countCircles_45 : decode cX8_countCircles 45 = .ok (.goto (-39), 3) := zby_g zbyb_165 (i := 12) rfl rfl
theorem dX8_countCircles_48 : decode cX8_countCircles 48 = .ok (.iload_n 1, 1) := zby_g zbyb_165 (i := 13) rfl rfl
theorem dX8_countCircles_49 : decode cX8_countCircles 49 = .ok (.ireturn, 1) := zby_g zbyb_165 (i := 14) rfl rfl
noncomputable def zbyl_166 : List (Nat × zbyE) := [(0, zbyo_42), (1, zbyo_27), (2, zbyo_184 28), (5, zbyo_61), (6, zbyo_3), (7, zbyo_62), (8, zbyo_3), (9, zbyo_54 4), (11, zbyo_21 4), (13, zbyo_42), (14, zbyo_180 9), (17, zbyo_162 38), (20, zbyo_28), (21, zbyo_21 4), (23, zbyo_122), (24, zbyo_4)]
theorem zbyb_166 : zbys zbyl_166 (cX8_circleOf.data.toList.drop 0) 0 = true := by decide +kernel
theorem dX8_circleOf_0 : decode cX8_circleOf 0 = .ok (.aload_n 0, 1) := zby_g zbyb_166 (i := 0) rfl rfl
theorem dX8_circleOf_1 : decode cX8_circleOf 1 = .ok (.iload_n 1, 1) := zby_g zbyb_166 (i := 1) rfl rfl
theorem dX8_circleOf_2 : decode cX8_circleOf 2 = .ok (.invokestatic 28, 3) := zby_g zbyb_166 (i := 2) rfl rfl
theorem dX8_circleOf_5 : decode cX8_circleOf 5 = .ok (.istore_n 2, 1) := zby_g zbyb_166 (i := 3) rfl rfl
theorem dX8_circleOf_6 : decode cX8_circleOf 6 = .ok (.iconst 0, 1) := zby_g zbyb_166 (i := 4) rfl rfl
theorem dX8_circleOf_7 : decode cX8_circleOf 7 = .ok (.istore_n 3, 1) := zby_g zbyb_166 (i := 5) rfl rfl
theorem dX8_circleOf_8 : decode cX8_circleOf 8 = .ok (.iconst 0, 1) := zby_g zbyb_166 (i := 6) rfl rfl
theorem dX8_circleOf_9 : decode cX8_circleOf 9 = .ok (.istore 4, 2) := zby_g zbyb_166 (i := 7) rfl rfl
theorem dX8_circleOf_11 : decode cX8_circleOf 11 = .ok (.iload 4, 2) := zby_g zbyb_166 (i := 8) rfl rfl
theorem dX8_circleOf_13 : decode cX8_circleOf 13 = .ok (.aload_n 0, 1) := zby_g zbyb_166 (i := 9) rfl rfl
theorem dX8_circleOf_14 : decode cX8_circleOf 14 = .ok (.getfield 9, 3) := zby_g zbyb_166 (i := 10) rfl rfl
theorem dX8_circleOf_17 : decode cX8_circleOf 17 = .ok (.if_icmp .ge 38, 3) := zby_g zbyb_166 (i := 11) rfl rfl
theorem dX8_circleOf_20 : decode cX8_circleOf 20 = .ok (.iload_n 2, 1) := zby_g zbyb_166 (i := 12) rfl rfl
theorem dX8_circleOf_21 : decode cX8_circleOf 21 = .ok (.iload 4, 2) := zby_g zbyb_166 (i := 13) rfl rfl
theorem dX8_circleOf_23 : decode cX8_circleOf 23 = .ok (.ishr, 1) := zby_g zbyb_166 (i := 14) rfl rfl
theorem dX8_circleOf_24 : decode cX8_circleOf 24 = .ok (.iconst 1, 1) := zby_g zbyb_166 (i := 15) rfl rfl
noncomputable def zbyl_167 : List (Nat × zbyE) := [(25, zbyo_126), (26, zbyo_153 23), (29, zbyo_42), (30, zbyo_21 4), (32, zbyo_184 28), (35, zbyo_27), (36, zbyo_122), (37, zbyo_4), (38, zbyo_126), (39, zbyo_153 10), (42, zbyo_29), (43, zbyo_4), (44, zbyo_21 4), (46, zbyo_120), (47, zbyo_128), (48, zbyo_62)]
theorem zbyb_167 : zbys zbyl_167 (cX8_circleOf.data.toList.drop 25) 25 = true := by decide +kernel
theorem dX8_circleOf_25 : decode cX8_circleOf 25 = .ok (.iand, 1) := zby_g zbyb_167 (i := 0) rfl rfl
theorem dX8_circleOf_26 : decode cX8_circleOf 26 = .ok (.ifCond .eq 23, 3) := zby_g zbyb_167 (i := 1) rfl rfl
theorem dX8_circleOf_29 : decode cX8_circleOf 29 = .ok (.aload_n 0, 1) := zby_g zbyb_167 (i := 2) rfl rfl
theorem dX8_circleOf_30 : decode cX8_circleOf 30 = .ok (.iload 4, 2) := zby_g zbyb_167 (i := 3) rfl rfl
theorem dX8_circleOf_32 : decode cX8_circleOf 32 = .ok (.invokestatic 28, 3) := zby_g zbyb_167 (i := 4) rfl rfl
theorem dX8_circleOf_35 : decode cX8_circleOf 35 = .ok (.iload_n 1, 1) := zby_g zbyb_167 (i := 5) rfl rfl
theorem dX8_circleOf_36 : decode cX8_circleOf 36 = .ok (.ishr, 1) := zby_g zbyb_167 (i := 6) rfl rfl
theorem dX8_circleOf_37 : decode cX8_circleOf 37 = .ok (.iconst 1, 1) := zby_g zbyb_167 (i := 7) rfl rfl
theorem dX8_circleOf_38 : decode cX8_circleOf 38 = .ok (.iand, 1) := zby_g zbyb_167 (i := 8) rfl rfl
theorem dX8_circleOf_39 : decode cX8_circleOf 39 = .ok (.ifCond .eq 10, 3) := zby_g zbyb_167 (i := 9) rfl rfl
theorem dX8_circleOf_42 : decode cX8_circleOf 42 = .ok (.iload_n 3, 1) := zby_g zbyb_167 (i := 10) rfl rfl
theorem dX8_circleOf_43 : decode cX8_circleOf 43 = .ok (.iconst 1, 1) := zby_g zbyb_167 (i := 11) rfl rfl
theorem dX8_circleOf_44 : decode cX8_circleOf 44 = .ok (.iload 4, 2) := zby_g zbyb_167 (i := 12) rfl rfl
theorem dX8_circleOf_46 : decode cX8_circleOf 46 = .ok (.ishl, 1) := zby_g zbyb_167 (i := 13) rfl rfl
theorem dX8_circleOf_47 : decode cX8_circleOf 47 = .ok (.ior, 1) := zby_g zbyb_167 (i := 14) rfl rfl
theorem dX8_circleOf_48 : decode cX8_circleOf 48 = .ok (.istore_n 3, 1) := zby_g zbyb_167 (i := 15) rfl rfl
noncomputable def zbyl_168 : List (Nat × zbyE) := [(49, zbyo_132 4 1), (52, zbyo_167 (-41)), (55, zbyo_29), (56, zbyo_172)]
theorem zbyb_168 : zbys zbyl_168 (cX8_circleOf.data.toList.drop 49) 49 = true := by decide +kernel
theorem dX8_circleOf_49 : decode cX8_circleOf 49 = .ok (.iinc 4 1, 3) := zby_g zbyb_168 (i := 0) rfl rfl
theorem dX8_circleOf_52 : decode cX8_circleOf 52 = .ok (.goto (-41), 3) := zby_g zbyb_168 (i := 1) rfl rfl
theorem dX8_circleOf_55 : decode cX8_circleOf 55 = .ok (.iload_n 3, 1) := zby_g zbyb_168 (i := 2) rfl rfl
theorem dX8_circleOf_56 : decode cX8_circleOf 56 = .ok (.ireturn, 1) := zby_g zbyb_168 (i := 3) rfl rfl
noncomputable def zbyl_169 : List (Nat × zbyE) := [(0, zbyo_3), (1, zbyo_60), (2, zbyo_3), (3, zbyo_61), (4, zbyo_28), (5, zbyo_42), (6, zbyo_180 9), (9, zbyo_162 33), (12, zbyo_42), (13, zbyo_28), (14, zbyo_182 31), (17, zbyo_154 19), (20, zbyo_42), (21, zbyo_4), (22, zbyo_28), (23, zbyo_120)]
theorem zbyb_169 : zbys zbyl_169 (cX8_untied.data.toList.drop 0) 0 = true := by decide +kernel
theorem dX8_untied_0 : decode cX8_untied 0 = .ok (.iconst 0, 1) := zby_g zbyb_169 (i := 0) rfl rfl
theorem dX8_untied_1 : decode cX8_untied 1 = .ok (.istore_n 1, 1) := zby_g zbyb_169 (i := 1) rfl rfl
theorem dX8_untied_2 : decode cX8_untied 2 = .ok (.iconst 0, 1) := zby_g zbyb_169 (i := 2) rfl rfl
theorem dX8_untied_3 : decode cX8_untied 3 = .ok (.istore_n 2, 1) := zby_g zbyb_169 (i := 3) rfl rfl
theorem dX8_untied_4 : decode cX8_untied 4 = .ok (.iload_n 2, 1) := zby_g zbyb_169 (i := 4) rfl rfl
theorem dX8_untied_5 : decode cX8_untied 5 = .ok (.aload_n 0, 1) := zby_g zbyb_169 (i := 5) rfl rfl
theorem dX8_untied_6 : decode cX8_untied 6 = .ok (.getfield 9, 3) := zby_g zbyb_169 (i := 6) rfl rfl
theorem dX8_untied_9 : decode cX8_untied 9 = .ok (.if_icmp .ge 33, 3) := zby_g zbyb_169 (i := 7) rfl rfl
theorem dX8_untied_12 : decode cX8_untied 12 = .ok (.aload_n 0, 1) := zby_g zbyb_169 (i := 8) rfl rfl
theorem dX8_untied_13 : decode cX8_untied 13 = .ok (.iload_n 2, 1) := zby_g zbyb_169 (i := 9) rfl rfl
theorem dX8_untied_14 : decode cX8_untied 14 = .ok (.invokevirtual 31, 3) := zby_g zbyb_169 (i := 10) rfl rfl
theorem dX8_untied_17 : decode cX8_untied 17 = .ok (.ifCond .ne 19, 3) := zby_g zbyb_169 (i := 11) rfl rfl
theorem dX8_untied_20 : decode cX8_untied 20 = .ok (.aload_n 0, 1) := zby_g zbyb_169 (i := 12) rfl rfl
theorem dX8_untied_21 : decode cX8_untied 21 = .ok (.iconst 1, 1) := zby_g zbyb_169 (i := 13) rfl rfl
theorem dX8_untied_22 : decode cX8_untied 22 = .ok (.iload_n 2, 1) := zby_g zbyb_169 (i := 14) rfl rfl
theorem dX8_untied_23 : decode cX8_untied 23 = .ok (.ishl, 1) := zby_g zbyb_169 (i := 15) rfl rfl
noncomputable def zbyl_170 : List (Nat × zbyE) := [(24, zbyo_184 19), (27, zbyo_154 9), (30, zbyo_27), (31, zbyo_4), (32, zbyo_28), (33, zbyo_120), (34, zbyo_128), (35, zbyo_60), (36, zbyo_132 2 1), (39, zbyo_167 (-35)), (42, zbyo_27), (43, zbyo_172)]
theorem zbyb_170 : zbys zbyl_170 (cX8_untied.data.toList.drop 24) 24 = true := by decide +kernel
theorem dX8_untied_24 : decode cX8_untied 24 = .ok (.invokestatic 19, 3) := zby_g zbyb_170 (i := 0) rfl rfl
theorem dX8_untied_27 : decode cX8_untied 27 = .ok (.ifCond .ne 9, 3) := zby_g zbyb_170 (i := 1) rfl rfl
theorem dX8_untied_30 : decode cX8_untied 30 = .ok (.iload_n 1, 1) := zby_g zbyb_170 (i := 2) rfl rfl
theorem dX8_untied_31 : decode cX8_untied 31 = .ok (.iconst 1, 1) := zby_g zbyb_170 (i := 3) rfl rfl
theorem dX8_untied_32 : decode cX8_untied 32 = .ok (.iload_n 2, 1) := zby_g zbyb_170 (i := 4) rfl rfl
theorem dX8_untied_33 : decode cX8_untied 33 = .ok (.ishl, 1) := zby_g zbyb_170 (i := 5) rfl rfl
theorem dX8_untied_34 : decode cX8_untied 34 = .ok (.ior, 1) := zby_g zbyb_170 (i := 6) rfl rfl
theorem dX8_untied_35 : decode cX8_untied 35 = .ok (.istore_n 1, 1) := zby_g zbyb_170 (i := 7) rfl rfl
theorem dX8_untied_36 : decode cX8_untied 36 = .ok (.iinc 2 1, 3) := zby_g zbyb_170 (i := 8) rfl rfl
theorem dX8_untied_39 : decode cX8_untied 39 = .ok (.goto (-35), 3) := zby_g zbyb_170 (i := 9) rfl rfl
theorem dX8_untied_42 : decode cX8_untied 42 = .ok (.iload_n 1, 1) := zby_g zbyb_170 (i := 10) rfl rfl
theorem dX8_untied_43 : decode cX8_untied 43 = .ok (.ireturn, 1) := zby_g zbyb_170 (i := 11) rfl rfl
noncomputable def zbyl_171 : List (Nat × zbyE) := [(0, zbyo_42), (1, zbyo_183 3), (4, zbyo_42), (5, zbyo_16 20), (7, zbyo_181 9), (10, zbyo_42), (11, zbyo_16 6), (13, zbyo_181 15), (16, zbyo_42), (17, zbyo_16 50), (19, zbyo_181 18), (22, zbyo_42), (23, zbyo_4), (24, zbyo_181 21), (27, zbyo_42), (28, zbyo_16 8)]
theorem zbyb_171 : zbys zbyl_171 (cX9_init.data.toList.drop 0) 0 = true := by decide +kernel
theorem dX9_init_0 : decode cX9_init 0 = .ok (.aload_n 0, 1) := zby_g zbyb_171 (i := 0) rfl rfl
theorem dX9_init_1 : decode cX9_init 1 = .ok (.invokespecial 3, 3) := zby_g zbyb_171 (i := 1) rfl rfl
theorem dX9_init_4 : decode cX9_init 4 = .ok (.aload_n 0, 1) := zby_g zbyb_171 (i := 2) rfl rfl
theorem dX9_init_5 : decode cX9_init 5 = .ok (.bipush 20, 2) := zby_g zbyb_171 (i := 3) rfl rfl
theorem dX9_init_7 : decode cX9_init 7 = .ok (.putfield 9, 3) := zby_g zbyb_171 (i := 4) rfl rfl
theorem dX9_init_10 : decode cX9_init 10 = .ok (.aload_n 0, 1) := zby_g zbyb_171 (i := 5) rfl rfl
theorem dX9_init_11 : decode cX9_init 11 = .ok (.bipush 6, 2) := zby_g zbyb_171 (i := 6) rfl rfl
theorem dX9_init_13 : decode cX9_init 13 = .ok (.putfield 15, 3) := zby_g zbyb_171 (i := 7) rfl rfl
theorem dX9_init_16 : decode cX9_init 16 = .ok (.aload_n 0, 1) := zby_g zbyb_171 (i := 8) rfl rfl
theorem dX9_init_17 : decode cX9_init 17 = .ok (.bipush 50, 2) := zby_g zbyb_171 (i := 9) rfl rfl
theorem dX9_init_19 : decode cX9_init 19 = .ok (.putfield 18, 3) := zby_g zbyb_171 (i := 10) rfl rfl
theorem dX9_init_22 : decode cX9_init 22 = .ok (.aload_n 0, 1) := zby_g zbyb_171 (i := 11) rfl rfl
theorem dX9_init_23 : decode cX9_init 23 = .ok (.iconst 1, 1) := zby_g zbyb_171 (i := 12) rfl rfl
theorem dX9_init_24 : decode cX9_init 24 = .ok (.putfield 21, 3) := zby_g zbyb_171 (i := 13) rfl rfl
theorem dX9_init_27 : decode cX9_init 27 = .ok (.aload_n 0, 1) := zby_g zbyb_171 (i := 14) rfl rfl
theorem dX9_init_28 : decode cX9_init 28 = .ok (.bipush 8, 2) := zby_g zbyb_171 (i := 15) rfl rfl
noncomputable def zbyl_172 : List (Nat × zbyE) := [(30, zbyo_188_10), (32, zbyo_181 24), (35, zbyo_42), (36, zbyo_16 8), (38, zbyo_188_10), (40, zbyo_181 28), (43, zbyo_42), (44, zbyo_16 8), (46, zbyo_188_10), (48, zbyo_181 31), (51, zbyo_42), (52, zbyo_16 8), (54, zbyo_188_10), (56, zbyo_181 34), (59, zbyo_42), (60, zbyo_16 8)]
theorem zbyb_172 : zbys zbyl_172 (cX9_init.data.toList.drop 30) 30 = true := by decide +kernel
theorem dX9_init_30 : decode cX9_init 30 = .ok (.newarray .int, 2) := zby_g zbyb_172 (i := 0) rfl rfl
theorem dX9_init_32 : decode cX9_init 32 = .ok (.putfield 24, 3) := zby_g zbyb_172 (i := 1) rfl rfl
theorem dX9_init_35 : decode cX9_init 35 = .ok (.aload_n 0, 1) := zby_g zbyb_172 (i := 2) rfl rfl
theorem dX9_init_36 : decode cX9_init 36 = .ok (.bipush 8, 2) := zby_g zbyb_172 (i := 3) rfl rfl
theorem dX9_init_38 : decode cX9_init 38 = .ok (.newarray .int, 2) := zby_g zbyb_172 (i := 4) rfl rfl
theorem dX9_init_40 : decode cX9_init 40 = .ok (.putfield 28, 3) := zby_g zbyb_172 (i := 5) rfl rfl
theorem dX9_init_43 : decode cX9_init 43 = .ok (.aload_n 0, 1) := zby_g zbyb_172 (i := 6) rfl rfl
theorem dX9_init_44 : decode cX9_init 44 = .ok (.bipush 8, 2) := zby_g zbyb_172 (i := 7) rfl rfl
theorem dX9_init_46 : decode cX9_init 46 = .ok (.newarray .int, 2) := zby_g zbyb_172 (i := 8) rfl rfl
theorem dX9_init_48 : decode cX9_init 48 = .ok (.putfield 31, 3) := zby_g zbyb_172 (i := 9) rfl rfl
theorem dX9_init_51 : decode cX9_init 51 = .ok (.aload_n 0, 1) := zby_g zbyb_172 (i := 10) rfl rfl
theorem dX9_init_52 : decode cX9_init 52 = .ok (.bipush 8, 2) := zby_g zbyb_172 (i := 11) rfl rfl
theorem dX9_init_54 : decode cX9_init 54 = .ok (.newarray .int, 2) := zby_g zbyb_172 (i := 12) rfl rfl
theorem dX9_init_56 : decode cX9_init 56 = .ok (.putfield 34, 3) := zby_g zbyb_172 (i := 13) rfl rfl
theorem dX9_init_59 : decode cX9_init 59 = .ok (.aload_n 0, 1) := zby_g zbyb_172 (i := 14) rfl rfl
theorem dX9_init_60 : decode cX9_init 60 = .ok (.bipush 8, 2) := zby_g zbyb_172 (i := 15) rfl rfl
noncomputable def zbyl_173 : List (Nat × zbyE) := [(62, zbyo_188_4), (64, zbyo_181 37), (67, zbyo_42), (68, zbyo_16 64), (70, zbyo_188_10), (72, zbyo_181 41), (75, zbyo_42), (76, zbyo_16 6), (78, zbyo_188_10), (80, zbyo_181 44), (83, zbyo_42), (84, zbyo_16 6), (86, zbyo_188_10), (88, zbyo_181 47), (91, zbyo_42), (92, zbyo_16 6)]
theorem zbyb_173 : zbys zbyl_173 (cX9_init.data.toList.drop 62) 62 = true := by decide +kernel
theorem dX9_init_62 : decode cX9_init 62 = .ok (.newarray .boolean, 2) := zby_g zbyb_173 (i := 0) rfl rfl
theorem dX9_init_64 : decode cX9_init 64 = .ok (.putfield 37, 3) := zby_g zbyb_173 (i := 1) rfl rfl
theorem dX9_init_67 : decode cX9_init 67 = .ok (.aload_n 0, 1) := zby_g zbyb_173 (i := 2) rfl rfl
theorem dX9_init_68 : decode cX9_init 68 = .ok (.bipush 64, 2) := zby_g zbyb_173 (i := 3) rfl rfl
theorem dX9_init_70 : decode cX9_init 70 = .ok (.newarray .int, 2) := zby_g zbyb_173 (i := 4) rfl rfl
theorem dX9_init_72 : decode cX9_init 72 = .ok (.putfield 41, 3) := zby_g zbyb_173 (i := 5) rfl rfl
theorem dX9_init_75 : decode cX9_init 75 = .ok (.aload_n 0, 1) := zby_g zbyb_173 (i := 6) rfl rfl
theorem dX9_init_76 : decode cX9_init 76 = .ok (.bipush 6, 2) := zby_g zbyb_173 (i := 7) rfl rfl
theorem dX9_init_78 : decode cX9_init 78 = .ok (.newarray .int, 2) := zby_g zbyb_173 (i := 8) rfl rfl
theorem dX9_init_80 : decode cX9_init 80 = .ok (.putfield 44, 3) := zby_g zbyb_173 (i := 9) rfl rfl
theorem dX9_init_83 : decode cX9_init 83 = .ok (.aload_n 0, 1) := zby_g zbyb_173 (i := 10) rfl rfl
theorem dX9_init_84 : decode cX9_init 84 = .ok (.bipush 6, 2) := zby_g zbyb_173 (i := 11) rfl rfl
theorem dX9_init_86 : decode cX9_init 86 = .ok (.newarray .int, 2) := zby_g zbyb_173 (i := 12) rfl rfl
theorem dX9_init_88 : decode cX9_init 88 = .ok (.putfield 47, 3) := zby_g zbyb_173 (i := 13) rfl rfl
theorem dX9_init_91 : decode cX9_init 91 = .ok (.aload_n 0, 1) := zby_g zbyb_173 (i := 14) rfl rfl
theorem dX9_init_92 : decode cX9_init 92 = .ok (.bipush 6, 2) := zby_g zbyb_173 (i := 15) rfl rfl
noncomputable def zbyl_174 : List (Nat × zbyE) := [(94, zbyo_188_10), (96, zbyo_181 50), (99, zbyo_42), (100, zbyo_16 6), (102, zbyo_188_10), (104, zbyo_181 53), (107, zbyo_42), (108, zbyo_16 8), (110, zbyo_188_10), (112, zbyo_181 56), (115, zbyo_177)]
theorem zbyb_174 : zbys zbyl_174 (cX9_init.data.toList.drop 94) 94 = true := by decide +kernel
theorem dX9_init_94 : decode cX9_init 94 = .ok (.newarray .int, 2) := zby_g zbyb_174 (i := 0) rfl rfl
theorem dX9_init_96 : decode cX9_init 96 = .ok (.putfield 50, 3) := zby_g zbyb_174 (i := 1) rfl rfl
theorem dX9_init_99 : decode cX9_init 99 = .ok (.aload_n 0, 1) := zby_g zbyb_174 (i := 2) rfl rfl
theorem dX9_init_100 : decode cX9_init 100 = .ok (.bipush 6, 2) := zby_g zbyb_174 (i := 3) rfl rfl
theorem dX9_init_102 : decode cX9_init 102 = .ok (.newarray .int, 2) := zby_g zbyb_174 (i := 4) rfl rfl
theorem dX9_init_104 : decode cX9_init 104 = .ok (.putfield 53, 3) := zby_g zbyb_174 (i := 5) rfl rfl
theorem dX9_init_107 : decode cX9_init 107 = .ok (.aload_n 0, 1) := zby_g zbyb_174 (i := 6) rfl rfl
theorem dX9_init_108 : decode cX9_init 108 = .ok (.bipush 8, 2) := zby_g zbyb_174 (i := 7) rfl rfl
theorem dX9_init_110 : decode cX9_init 110 = .ok (.newarray .int, 2) := zby_g zbyb_174 (i := 8) rfl rfl
theorem dX9_init_112 : decode cX9_init 112 = .ok (.putfield 56, 3) := zby_g zbyb_174 (i := 9) rfl rfl
theorem dX9_init_115 : decode cX9_init 115 = .ok (.return_, 1) := zby_g zbyb_174 (i := 10) rfl rfl
noncomputable def zbyl_175 : List (Nat × zbyE) := [(0, zbyo_42), (1, zbyo_43), (2, zbyo_180 59), (5, zbyo_181 59), (8, zbyo_42), (9, zbyo_43), (10, zbyo_180 62), (13, zbyo_181 62), (16, zbyo_42), (17, zbyo_43), (18, zbyo_180 65), (21, zbyo_181 65), (24, zbyo_42), (25, zbyo_43), (26, zbyo_180 9), (29, zbyo_181 9)]
theorem zbyb_175 : zbys zbyl_175 (cX9_copyFrom.data.toList.drop 0) 0 = true := by decide +kernel
theorem dX9_copyFrom_0 : decode cX9_copyFrom 0 = .ok (.aload_n 0, 1) := zby_g zbyb_175 (i := 0) rfl rfl
theorem dX9_copyFrom_1 : decode cX9_copyFrom 1 = .ok (.aload_n 1, 1) := zby_g zbyb_175 (i := 1) rfl rfl
theorem dX9_copyFrom_2 : decode cX9_copyFrom 2 = .ok (.getfield 59, 3) := zby_g zbyb_175 (i := 2) rfl rfl
theorem dX9_copyFrom_5 : decode cX9_copyFrom 5 = .ok (.putfield 59, 3) := zby_g zbyb_175 (i := 3) rfl rfl
theorem dX9_copyFrom_8 : decode cX9_copyFrom 8 = .ok (.aload_n 0, 1) := zby_g zbyb_175 (i := 4) rfl rfl
theorem dX9_copyFrom_9 : decode cX9_copyFrom 9 = .ok (.aload_n 1, 1) := zby_g zbyb_175 (i := 5) rfl rfl
theorem dX9_copyFrom_10 : decode cX9_copyFrom 10 = .ok (.getfield 62, 3) := zby_g zbyb_175 (i := 6) rfl rfl
theorem dX9_copyFrom_13 : decode cX9_copyFrom 13 = .ok (.putfield 62, 3) := zby_g zbyb_175 (i := 7) rfl rfl
theorem dX9_copyFrom_16 : decode cX9_copyFrom 16 = .ok (.aload_n 0, 1) := zby_g zbyb_175 (i := 8) rfl rfl
theorem dX9_copyFrom_17 : decode cX9_copyFrom 17 = .ok (.aload_n 1, 1) := zby_g zbyb_175 (i := 9) rfl rfl
theorem dX9_copyFrom_18 : decode cX9_copyFrom 18 = .ok (.getfield 65, 3) := zby_g zbyb_175 (i := 10) rfl rfl
theorem dX9_copyFrom_21 : decode cX9_copyFrom 21 = .ok (.putfield 65, 3) := zby_g zbyb_175 (i := 11) rfl rfl
theorem dX9_copyFrom_24 : decode cX9_copyFrom 24 = .ok (.aload_n 0, 1) := zby_g zbyb_175 (i := 12) rfl rfl
theorem dX9_copyFrom_25 : decode cX9_copyFrom 25 = .ok (.aload_n 1, 1) := zby_g zbyb_175 (i := 13) rfl rfl
theorem dX9_copyFrom_26 : decode cX9_copyFrom 26 = .ok (.getfield 9, 3) := zby_g zbyb_175 (i := 14) rfl rfl
theorem dX9_copyFrom_29 : decode cX9_copyFrom 29 = .ok (.putfield 9, 3) := zby_g zbyb_175 (i := 15) rfl rfl
noncomputable def zbyl_176 : List (Nat × zbyE) := [(32, zbyo_42), (33, zbyo_43), (34, zbyo_180 15), (37, zbyo_181 15), (40, zbyo_42), (41, zbyo_43), (42, zbyo_180 18), (45, zbyo_181 18), (48, zbyo_42), (49, zbyo_43), (50, zbyo_180 68), (53, zbyo_181 68), (56, zbyo_42), (57, zbyo_43), (58, zbyo_180 21), (61, zbyo_181 21)]
theorem zbyb_176 : zbys zbyl_176 (cX9_copyFrom.data.toList.drop 32) 32 = true := by decide +kernel
theorem dX9_copyFrom_32 : decode cX9_copyFrom 32 = .ok (.aload_n 0, 1) := zby_g zbyb_176 (i := 0) rfl rfl
theorem dX9_copyFrom_33 : decode cX9_copyFrom 33 = .ok (.aload_n 1, 1) := zby_g zbyb_176 (i := 1) rfl rfl
theorem dX9_copyFrom_34 : decode cX9_copyFrom 34 = .ok (.getfield 15, 3) := zby_g zbyb_176 (i := 2) rfl rfl
theorem dX9_copyFrom_37 : decode cX9_copyFrom 37 = .ok (.putfield 15, 3) := zby_g zbyb_176 (i := 3) rfl rfl
theorem dX9_copyFrom_40 : decode cX9_copyFrom 40 = .ok (.aload_n 0, 1) := zby_g zbyb_176 (i := 4) rfl rfl
theorem dX9_copyFrom_41 : decode cX9_copyFrom 41 = .ok (.aload_n 1, 1) := zby_g zbyb_176 (i := 5) rfl rfl
theorem dX9_copyFrom_42 : decode cX9_copyFrom 42 = .ok (.getfield 18, 3) := zby_g zbyb_176 (i := 6) rfl rfl
theorem dX9_copyFrom_45 : decode cX9_copyFrom 45 = .ok (.putfield 18, 3) := zby_g zbyb_176 (i := 7) rfl rfl
theorem dX9_copyFrom_48 : decode cX9_copyFrom 48 = .ok (.aload_n 0, 1) := zby_g zbyb_176 (i := 8) rfl rfl
theorem dX9_copyFrom_49 : decode cX9_copyFrom 49 = .ok (.aload_n 1, 1) := zby_g zbyb_176 (i := 9) rfl rfl
theorem dX9_copyFrom_50 : decode cX9_copyFrom 50 = .ok (.getfield 68, 3) := zby_g zbyb_176 (i := 10) rfl rfl
theorem dX9_copyFrom_53 : decode cX9_copyFrom 53 = .ok (.putfield 68, 3) := zby_g zbyb_176 (i := 11) rfl rfl
theorem dX9_copyFrom_56 : decode cX9_copyFrom 56 = .ok (.aload_n 0, 1) := zby_g zbyb_176 (i := 12) rfl rfl
theorem dX9_copyFrom_57 : decode cX9_copyFrom 57 = .ok (.aload_n 1, 1) := zby_g zbyb_176 (i := 13) rfl rfl
theorem dX9_copyFrom_58 : decode cX9_copyFrom 58 = .ok (.getfield 21, 3) := zby_g zbyb_176 (i := 14) rfl rfl
theorem dX9_copyFrom_61 : decode cX9_copyFrom 61 = .ok (.putfield 21, 3) := zby_g zbyb_176 (i := 15) rfl rfl
noncomputable def zbyl_177 : List (Nat × zbyE) := [(64, zbyo_43), (65, zbyo_180 24), (68, zbyo_3), (69, zbyo_42), (70, zbyo_180 24), (73, zbyo_3), (74, zbyo_16 8), (76, zbyo_184 71), (79, zbyo_43), (80, zbyo_180 28), (83, zbyo_3), (84, zbyo_42), (85, zbyo_180 28), (88, zbyo_3), (89, zbyo_16 8), (91, zbyo_184 71)]
theorem zbyb_177 : zbys zbyl_177 (cX9_copyFrom.data.toList.drop 64) 64 = true := by decide +kernel
theorem dX9_copyFrom_64 : decode cX9_copyFrom 64 = .ok (.aload_n 1, 1) := zby_g zbyb_177 (i := 0) rfl rfl
theorem dX9_copyFrom_65 : decode cX9_copyFrom 65 = .ok (.getfield 24, 3) := zby_g zbyb_177 (i := 1) rfl rfl
theorem dX9_copyFrom_68 : decode cX9_copyFrom 68 = .ok (.iconst 0, 1) := zby_g zbyb_177 (i := 2) rfl rfl
theorem dX9_copyFrom_69 : decode cX9_copyFrom 69 = .ok (.aload_n 0, 1) := zby_g zbyb_177 (i := 3) rfl rfl
theorem dX9_copyFrom_70 : decode cX9_copyFrom 70 = .ok (.getfield 24, 3) := zby_g zbyb_177 (i := 4) rfl rfl
theorem dX9_copyFrom_73 : decode cX9_copyFrom 73 = .ok (.iconst 0, 1) := zby_g zbyb_177 (i := 5) rfl rfl
theorem dX9_copyFrom_74 : decode cX9_copyFrom 74 = .ok (.bipush 8, 2) := zby_g zbyb_177 (i := 6) rfl rfl
theorem dX9_copyFrom_76 : decode cX9_copyFrom 76 = .ok (.invokestatic 71, 3) := zby_g zbyb_177 (i := 7) rfl rfl
theorem dX9_copyFrom_79 : decode cX9_copyFrom 79 = .ok (.aload_n 1, 1) := zby_g zbyb_177 (i := 8) rfl rfl
theorem dX9_copyFrom_80 : decode cX9_copyFrom 80 = .ok (.getfield 28, 3) := zby_g zbyb_177 (i := 9) rfl rfl
theorem dX9_copyFrom_83 : decode cX9_copyFrom 83 = .ok (.iconst 0, 1) := zby_g zbyb_177 (i := 10) rfl rfl
theorem dX9_copyFrom_84 : decode cX9_copyFrom 84 = .ok (.aload_n 0, 1) := zby_g zbyb_177 (i := 11) rfl rfl
theorem dX9_copyFrom_85 : decode cX9_copyFrom 85 = .ok (.getfield 28, 3) := zby_g zbyb_177 (i := 12) rfl rfl
theorem dX9_copyFrom_88 : decode cX9_copyFrom 88 = .ok (.iconst 0, 1) := zby_g zbyb_177 (i := 13) rfl rfl
theorem dX9_copyFrom_89 : decode cX9_copyFrom 89 = .ok (.bipush 8, 2) := zby_g zbyb_177 (i := 14) rfl rfl
theorem dX9_copyFrom_91 : decode cX9_copyFrom 91 = .ok (.invokestatic 71, 3) := zby_g zbyb_177 (i := 15) rfl rfl
noncomputable def zbyl_178 : List (Nat × zbyE) := [(94, zbyo_43), (95, zbyo_180 31), (98, zbyo_3), (99, zbyo_42), (100, zbyo_180 31), (103, zbyo_3), (104, zbyo_16 8), (106, zbyo_184 71), (109, zbyo_43), (110, zbyo_180 34), (113, zbyo_3), (114, zbyo_42), (115, zbyo_180 34), (118, zbyo_3), (119, zbyo_16 8), (121, zbyo_184 71)]
theorem zbyb_178 : zbys zbyl_178 (cX9_copyFrom.data.toList.drop 94) 94 = true := by decide +kernel
theorem dX9_copyFrom_94 : decode cX9_copyFrom 94 = .ok (.aload_n 1, 1) := zby_g zbyb_178 (i := 0) rfl rfl
theorem dX9_copyFrom_95 : decode cX9_copyFrom 95 = .ok (.getfield 31, 3) := zby_g zbyb_178 (i := 1) rfl rfl
theorem dX9_copyFrom_98 : decode cX9_copyFrom 98 = .ok (.iconst 0, 1) := zby_g zbyb_178 (i := 2) rfl rfl
theorem dX9_copyFrom_99 : decode cX9_copyFrom 99 = .ok (.aload_n 0, 1) := zby_g zbyb_178 (i := 3) rfl rfl
theorem dX9_copyFrom_100 : decode cX9_copyFrom 100 = .ok (.getfield 31, 3) := zby_g zbyb_178 (i := 4) rfl rfl
theorem dX9_copyFrom_103 : decode cX9_copyFrom 103 = .ok (.iconst 0, 1) := zby_g zbyb_178 (i := 5) rfl rfl
theorem dX9_copyFrom_104 : decode cX9_copyFrom 104 = .ok (.bipush 8, 2) := zby_g zbyb_178 (i := 6) rfl rfl
theorem dX9_copyFrom_106 : decode cX9_copyFrom 106 = .ok (.invokestatic 71, 3) := zby_g zbyb_178 (i := 7) rfl rfl
theorem dX9_copyFrom_109 : decode cX9_copyFrom 109 = .ok (.aload_n 1, 1) := zby_g zbyb_178 (i := 8) rfl rfl
theorem dX9_copyFrom_110 : decode cX9_copyFrom 110 = .ok (.getfield 34, 3) := zby_g zbyb_178 (i := 9) rfl rfl
theorem dX9_copyFrom_113 : decode cX9_copyFrom 113 = .ok (.iconst 0, 1) := zby_g zbyb_178 (i := 10) rfl rfl
theorem dX9_copyFrom_114 : decode cX9_copyFrom 114 = .ok (.aload_n 0, 1) := zby_g zbyb_178 (i := 11) rfl rfl
theorem dX9_copyFrom_115 : decode cX9_copyFrom 115 = .ok (.getfield 34, 3) := zby_g zbyb_178 (i := 12) rfl rfl
theorem dX9_copyFrom_118 : decode cX9_copyFrom 118 = .ok (.iconst 0, 1) := zby_g zbyb_178 (i := 13) rfl rfl
theorem dX9_copyFrom_119 : decode cX9_copyFrom 119 = .ok (.bipush 8, 2) := zby_g zbyb_178 (i := 14) rfl rfl
theorem dX9_copyFrom_121 : decode cX9_copyFrom 121 = .ok (.invokestatic 71, 3) := zby_g zbyb_178 (i := 15) rfl rfl
noncomputable def zbyl_179 : List (Nat × zbyE) := [(124, zbyo_43), (125, zbyo_180 37), (128, zbyo_3), (129, zbyo_42), (130, zbyo_180 37), (133, zbyo_3), (134, zbyo_16 8), (136, zbyo_184 71), (139, zbyo_43), (140, zbyo_180 41), (143, zbyo_3), (144, zbyo_42), (145, zbyo_180 41), (148, zbyo_3), (149, zbyo_16 64), (151, zbyo_184 71)]
theorem zbyb_179 : zbys zbyl_179 (cX9_copyFrom.data.toList.drop 124) 124 = true := by decide +kernel
theorem dX9_copyFrom_124 : decode cX9_copyFrom 124 = .ok (.aload_n 1, 1) := zby_g zbyb_179 (i := 0) rfl rfl
theorem dX9_copyFrom_125 : decode cX9_copyFrom 125 = .ok (.getfield 37, 3) := zby_g zbyb_179 (i := 1) rfl rfl
theorem dX9_copyFrom_128 : decode cX9_copyFrom 128 = .ok (.iconst 0, 1) := zby_g zbyb_179 (i := 2) rfl rfl
theorem dX9_copyFrom_129 : decode cX9_copyFrom 129 = .ok (.aload_n 0, 1) := zby_g zbyb_179 (i := 3) rfl rfl
theorem dX9_copyFrom_130 : decode cX9_copyFrom 130 = .ok (.getfield 37, 3) := zby_g zbyb_179 (i := 4) rfl rfl
theorem dX9_copyFrom_133 : decode cX9_copyFrom 133 = .ok (.iconst 0, 1) := zby_g zbyb_179 (i := 5) rfl rfl
theorem dX9_copyFrom_134 : decode cX9_copyFrom 134 = .ok (.bipush 8, 2) := zby_g zbyb_179 (i := 6) rfl rfl
theorem dX9_copyFrom_136 : decode cX9_copyFrom 136 = .ok (.invokestatic 71, 3) := zby_g zbyb_179 (i := 7) rfl rfl
theorem dX9_copyFrom_139 : decode cX9_copyFrom 139 = .ok (.aload_n 1, 1) := zby_g zbyb_179 (i := 8) rfl rfl
theorem dX9_copyFrom_140 : decode cX9_copyFrom 140 = .ok (.getfield 41, 3) := zby_g zbyb_179 (i := 9) rfl rfl
theorem dX9_copyFrom_143 : decode cX9_copyFrom 143 = .ok (.iconst 0, 1) := zby_g zbyb_179 (i := 10) rfl rfl
theorem dX9_copyFrom_144 : decode cX9_copyFrom 144 = .ok (.aload_n 0, 1) := zby_g zbyb_179 (i := 11) rfl rfl
theorem dX9_copyFrom_145 : decode cX9_copyFrom 145 = .ok (.getfield 41, 3) := zby_g zbyb_179 (i := 12) rfl rfl
theorem dX9_copyFrom_148 : decode cX9_copyFrom 148 = .ok (.iconst 0, 1) := zby_g zbyb_179 (i := 13) rfl rfl
theorem dX9_copyFrom_149 : decode cX9_copyFrom 149 = .ok (.bipush 64, 2) := zby_g zbyb_179 (i := 14) rfl rfl
theorem dX9_copyFrom_151 : decode cX9_copyFrom 151 = .ok (.invokestatic 71, 3) := zby_g zbyb_179 (i := 15) rfl rfl
noncomputable def zbyl_180 : List (Nat × zbyE) := [(154, zbyo_43), (155, zbyo_180 44), (158, zbyo_3), (159, zbyo_42), (160, zbyo_180 44), (163, zbyo_3), (164, zbyo_16 6), (166, zbyo_184 71), (169, zbyo_43), (170, zbyo_180 47), (173, zbyo_3), (174, zbyo_42), (175, zbyo_180 47), (178, zbyo_3), (179, zbyo_16 6), (181, zbyo_184 71)]
theorem zbyb_180 : zbys zbyl_180 (cX9_copyFrom.data.toList.drop 154) 154 = true := by decide +kernel
theorem dX9_copyFrom_154 : decode cX9_copyFrom 154 = .ok (.aload_n 1, 1) := zby_g zbyb_180 (i := 0) rfl rfl
theorem dX9_copyFrom_155 : decode cX9_copyFrom 155 = .ok (.getfield 44, 3) := zby_g zbyb_180 (i := 1) rfl rfl
theorem dX9_copyFrom_158 : decode cX9_copyFrom 158 = .ok (.iconst 0, 1) := zby_g zbyb_180 (i := 2) rfl rfl
theorem dX9_copyFrom_159 : decode cX9_copyFrom 159 = .ok (.aload_n 0, 1) := zby_g zbyb_180 (i := 3) rfl rfl
theorem dX9_copyFrom_160 : decode cX9_copyFrom 160 = .ok (.getfield 44, 3) := zby_g zbyb_180 (i := 4) rfl rfl
theorem dX9_copyFrom_163 : decode cX9_copyFrom 163 = .ok (.iconst 0, 1) := zby_g zbyb_180 (i := 5) rfl rfl
theorem dX9_copyFrom_164 : decode cX9_copyFrom 164 = .ok (.bipush 6, 2) := zby_g zbyb_180 (i := 6) rfl rfl
theorem dX9_copyFrom_166 : decode cX9_copyFrom 166 = .ok (.invokestatic 71, 3) := zby_g zbyb_180 (i := 7) rfl rfl
theorem dX9_copyFrom_169 : decode cX9_copyFrom 169 = .ok (.aload_n 1, 1) := zby_g zbyb_180 (i := 8) rfl rfl
theorem dX9_copyFrom_170 : decode cX9_copyFrom 170 = .ok (.getfield 47, 3) := zby_g zbyb_180 (i := 9) rfl rfl
theorem dX9_copyFrom_173 : decode cX9_copyFrom 173 = .ok (.iconst 0, 1) := zby_g zbyb_180 (i := 10) rfl rfl
theorem dX9_copyFrom_174 : decode cX9_copyFrom 174 = .ok (.aload_n 0, 1) := zby_g zbyb_180 (i := 11) rfl rfl
theorem dX9_copyFrom_175 : decode cX9_copyFrom 175 = .ok (.getfield 47, 3) := zby_g zbyb_180 (i := 12) rfl rfl
theorem dX9_copyFrom_178 : decode cX9_copyFrom 178 = .ok (.iconst 0, 1) := zby_g zbyb_180 (i := 13) rfl rfl
theorem dX9_copyFrom_179 : decode cX9_copyFrom 179 = .ok (.bipush 6, 2) := zby_g zbyb_180 (i := 14) rfl rfl
theorem dX9_copyFrom_181 : decode cX9_copyFrom 181 = .ok (.invokestatic 71, 3) := zby_g zbyb_180 (i := 15) rfl rfl
noncomputable def zbyl_181 : List (Nat × zbyE) := [(184, zbyo_43), (185, zbyo_180 50), (188, zbyo_3), (189, zbyo_42), (190, zbyo_180 50), (193, zbyo_3), (194, zbyo_16 6), (196, zbyo_184 71), (199, zbyo_43), (200, zbyo_180 53), (203, zbyo_3), (204, zbyo_42), (205, zbyo_180 53), (208, zbyo_3), (209, zbyo_16 6), (211, zbyo_184 71)]
theorem zbyb_181 : zbys zbyl_181 (cX9_copyFrom.data.toList.drop 184) 184 = true := by decide +kernel
theorem dX9_copyFrom_184 : decode cX9_copyFrom 184 = .ok (.aload_n 1, 1) := zby_g zbyb_181 (i := 0) rfl rfl
theorem dX9_copyFrom_185 : decode cX9_copyFrom 185 = .ok (.getfield 50, 3) := zby_g zbyb_181 (i := 1) rfl rfl
theorem dX9_copyFrom_188 : decode cX9_copyFrom 188 = .ok (.iconst 0, 1) := zby_g zbyb_181 (i := 2) rfl rfl
theorem dX9_copyFrom_189 : decode cX9_copyFrom 189 = .ok (.aload_n 0, 1) := zby_g zbyb_181 (i := 3) rfl rfl
theorem dX9_copyFrom_190 : decode cX9_copyFrom 190 = .ok (.getfield 50, 3) := zby_g zbyb_181 (i := 4) rfl rfl
theorem dX9_copyFrom_193 : decode cX9_copyFrom 193 = .ok (.iconst 0, 1) := zby_g zbyb_181 (i := 5) rfl rfl
theorem dX9_copyFrom_194 : decode cX9_copyFrom 194 = .ok (.bipush 6, 2) := zby_g zbyb_181 (i := 6) rfl rfl
theorem dX9_copyFrom_196 : decode cX9_copyFrom 196 = .ok (.invokestatic 71, 3) := zby_g zbyb_181 (i := 7) rfl rfl
theorem dX9_copyFrom_199 : decode cX9_copyFrom 199 = .ok (.aload_n 1, 1) := zby_g zbyb_181 (i := 8) rfl rfl
theorem dX9_copyFrom_200 : decode cX9_copyFrom 200 = .ok (.getfield 53, 3) := zby_g zbyb_181 (i := 9) rfl rfl
theorem dX9_copyFrom_203 : decode cX9_copyFrom 203 = .ok (.iconst 0, 1) := zby_g zbyb_181 (i := 10) rfl rfl
theorem dX9_copyFrom_204 : decode cX9_copyFrom 204 = .ok (.aload_n 0, 1) := zby_g zbyb_181 (i := 11) rfl rfl
theorem dX9_copyFrom_205 : decode cX9_copyFrom 205 = .ok (.getfield 53, 3) := zby_g zbyb_181 (i := 12) rfl rfl
theorem dX9_copyFrom_208 : decode cX9_copyFrom 208 = .ok (.iconst 0, 1) := zby_g zbyb_181 (i := 13) rfl rfl
theorem dX9_copyFrom_209 : decode cX9_copyFrom 209 = .ok (.bipush 6, 2) := zby_g zbyb_181 (i := 14) rfl rfl
theorem dX9_copyFrom_211 : decode cX9_copyFrom 211 = .ok (.invokestatic 71, 3) := zby_g zbyb_181 (i := 15) rfl rfl
noncomputable def zbyl_182 : List (Nat × zbyE) := [(214, zbyo_177)]
theorem zbyb_182 : zbys zbyl_182 (cX9_copyFrom.data.toList.drop 214) 214 = true := by decide +kernel
theorem dX9_copyFrom_214 : decode cX9_copyFrom 214 = .ok (.return_, 1) := zby_g zbyb_182 (i := 0) rfl rfl
noncomputable def zbyl_183 : List (Nat × zbyE) := [(0, zbyo_42), (1, zbyo_180 59), (4, zbyo_54 4), (6, zbyo_21 4), (8, zbyo_16 8), (10, zbyo_161 4), (13, zbyo_177), (14, zbyo_42), (15, zbyo_89), (16, zbyo_180 59), (19, zbyo_4), (20, zbyo_96), (21, zbyo_181 59), (24, zbyo_42), (25, zbyo_180 24), (28, zbyo_21 4)]
theorem zbyb_183 : zbys zbyl_183 (cX9_addPerson.data.toList.drop 0) 0 = true := by decide +kernel
theorem dX9_addPerson_0 : decode cX9_addPerson 0 = .ok (.aload_n 0, 1) := zby_g zbyb_183 (i := 0) rfl rfl
theorem dX9_addPerson_1 : decode cX9_addPerson 1 = .ok (.getfield 59, 3) := zby_g zbyb_183 (i := 1) rfl rfl
theorem dX9_addPerson_4 : decode cX9_addPerson 4 = .ok (.istore 4, 2) := zby_g zbyb_183 (i := 2) rfl rfl
theorem dX9_addPerson_6 : decode cX9_addPerson 6 = .ok (.iload 4, 2) := zby_g zbyb_183 (i := 3) rfl rfl
theorem dX9_addPerson_8 : decode cX9_addPerson 8 = .ok (.bipush 8, 2) := zby_g zbyb_183 (i := 4) rfl rfl
theorem dX9_addPerson_10 : decode cX9_addPerson 10 = .ok (.if_icmp .lt 4, 3) := zby_g zbyb_183 (i := 5) rfl rfl
theorem dX9_addPerson_13 : decode cX9_addPerson 13 = .ok (.return_, 1) := zby_g zbyb_183 (i := 6) rfl rfl
theorem dX9_addPerson_14 : decode cX9_addPerson 14 = .ok (.aload_n 0, 1) := zby_g zbyb_183 (i := 7) rfl rfl
theorem dX9_addPerson_15 : decode cX9_addPerson 15 = .ok (.dup, 1) := zby_g zbyb_183 (i := 8) rfl rfl
theorem dX9_addPerson_16 : decode cX9_addPerson 16 = .ok (.getfield 59, 3) := zby_g zbyb_183 (i := 9) rfl rfl
theorem dX9_addPerson_19 : decode cX9_addPerson 19 = .ok (.iconst 1, 1) := zby_g zbyb_183 (i := 10) rfl rfl
theorem dX9_addPerson_20 : decode cX9_addPerson 20 = .ok (.iadd, 1) := zby_g zbyb_183 (i := 11) rfl rfl
theorem dX9_addPerson_21 : decode cX9_addPerson 21 = .ok (.putfield 59, 3) := zby_g zbyb_183 (i := 12) rfl rfl
theorem dX9_addPerson_24 : decode cX9_addPerson 24 = .ok (.aload_n 0, 1) := zby_g zbyb_183 (i := 13) rfl rfl
theorem dX9_addPerson_25 : decode cX9_addPerson 25 = .ok (.getfield 24, 3) := zby_g zbyb_183 (i := 14) rfl rfl
theorem dX9_addPerson_28 : decode cX9_addPerson 28 = .ok (.iload 4, 2) := zby_g zbyb_183 (i := 15) rfl rfl
noncomputable def zbyl_184 : List (Nat × zbyE) := [(30, zbyo_27), (31, zbyo_79), (32, zbyo_42), (33, zbyo_180 28), (36, zbyo_21 4), (38, zbyo_28), (39, zbyo_79), (40, zbyo_42), (41, zbyo_180 31), (44, zbyo_21 4), (46, zbyo_3), (47, zbyo_79), (48, zbyo_42), (49, zbyo_180 34), (52, zbyo_21 4), (54, zbyo_2)]
theorem zbyb_184 : zbys zbyl_184 (cX9_addPerson.data.toList.drop 30) 30 = true := by decide +kernel
theorem dX9_addPerson_30 : decode cX9_addPerson 30 = .ok (.iload_n 1, 1) := zby_g zbyb_184 (i := 0) rfl rfl
theorem dX9_addPerson_31 : decode cX9_addPerson 31 = .ok (.iastore, 1) := zby_g zbyb_184 (i := 1) rfl rfl
theorem dX9_addPerson_32 : decode cX9_addPerson 32 = .ok (.aload_n 0, 1) := zby_g zbyb_184 (i := 2) rfl rfl
theorem dX9_addPerson_33 : decode cX9_addPerson 33 = .ok (.getfield 28, 3) := zby_g zbyb_184 (i := 3) rfl rfl
theorem dX9_addPerson_36 : decode cX9_addPerson 36 = .ok (.iload 4, 2) := zby_g zbyb_184 (i := 4) rfl rfl
theorem dX9_addPerson_38 : decode cX9_addPerson 38 = .ok (.iload_n 2, 1) := zby_g zbyb_184 (i := 5) rfl rfl
theorem dX9_addPerson_39 : decode cX9_addPerson 39 = .ok (.iastore, 1) := zby_g zbyb_184 (i := 6) rfl rfl
theorem dX9_addPerson_40 : decode cX9_addPerson 40 = .ok (.aload_n 0, 1) := zby_g zbyb_184 (i := 7) rfl rfl
theorem dX9_addPerson_41 : decode cX9_addPerson 41 = .ok (.getfield 31, 3) := zby_g zbyb_184 (i := 8) rfl rfl
theorem dX9_addPerson_44 : decode cX9_addPerson 44 = .ok (.iload 4, 2) := zby_g zbyb_184 (i := 9) rfl rfl
theorem dX9_addPerson_46 : decode cX9_addPerson 46 = .ok (.iconst 0, 1) := zby_g zbyb_184 (i := 10) rfl rfl
theorem dX9_addPerson_47 : decode cX9_addPerson 47 = .ok (.iastore, 1) := zby_g zbyb_184 (i := 11) rfl rfl
theorem dX9_addPerson_48 : decode cX9_addPerson 48 = .ok (.aload_n 0, 1) := zby_g zbyb_184 (i := 12) rfl rfl
theorem dX9_addPerson_49 : decode cX9_addPerson 49 = .ok (.getfield 34, 3) := zby_g zbyb_184 (i := 13) rfl rfl
theorem dX9_addPerson_52 : decode cX9_addPerson 52 = .ok (.iload 4, 2) := zby_g zbyb_184 (i := 14) rfl rfl
theorem dX9_addPerson_54 : decode cX9_addPerson 54 = .ok (.iconst (-1), 1) := zby_g zbyb_184 (i := 15) rfl rfl
noncomputable def zbyl_185 : List (Nat × zbyE) := [(55, zbyo_79), (56, zbyo_42), (57, zbyo_180 37), (60, zbyo_21 4), (62, zbyo_29), (63, zbyo_84), (64, zbyo_3), (65, zbyo_54 5), (67, zbyo_21 5), (69, zbyo_16 8), (71, zbyo_162 27), (74, zbyo_42), (75, zbyo_21 4), (77, zbyo_21 5), (79, zbyo_3), (80, zbyo_182 77)]
theorem zbyb_185 : zbys zbyl_185 (cX9_addPerson.data.toList.drop 55) 55 = true := by decide +kernel
theorem dX9_addPerson_55 : decode cX9_addPerson 55 = .ok (.iastore, 1) := zby_g zbyb_185 (i := 0) rfl rfl
theorem dX9_addPerson_56 : decode cX9_addPerson 56 = .ok (.aload_n 0, 1) := zby_g zbyb_185 (i := 1) rfl rfl
theorem dX9_addPerson_57 : decode cX9_addPerson 57 = .ok (.getfield 37, 3) := zby_g zbyb_185 (i := 2) rfl rfl
theorem dX9_addPerson_60 : decode cX9_addPerson 60 = .ok (.iload 4, 2) := zby_g zbyb_185 (i := 3) rfl rfl
theorem dX9_addPerson_62 : decode cX9_addPerson 62 = .ok (.iload_n 3, 1) := zby_g zbyb_185 (i := 4) rfl rfl
theorem dX9_addPerson_63 : decode cX9_addPerson 63 = .ok (.bastore, 1) := zby_g zbyb_185 (i := 5) rfl rfl
theorem dX9_addPerson_64 : decode cX9_addPerson 64 = .ok (.iconst 0, 1) := zby_g zbyb_185 (i := 6) rfl rfl
theorem dX9_addPerson_65 : decode cX9_addPerson 65 = .ok (.istore 5, 2) := zby_g zbyb_185 (i := 7) rfl rfl
theorem dX9_addPerson_67 : decode cX9_addPerson 67 = .ok (.iload 5, 2) := zby_g zbyb_185 (i := 8) rfl rfl
theorem dX9_addPerson_69 : decode cX9_addPerson 69 = .ok (.bipush 8, 2) := zby_g zbyb_185 (i := 9) rfl rfl
theorem dX9_addPerson_71 : decode cX9_addPerson 71 = .ok (.if_icmp .ge 27, 3) := zby_g zbyb_185 (i := 10) rfl rfl
theorem dX9_addPerson_74 : decode cX9_addPerson 74 = .ok (.aload_n 0, 1) := zby_g zbyb_185 (i := 11) rfl rfl
theorem dX9_addPerson_75 : decode cX9_addPerson 75 = .ok (.iload 4, 2) := zby_g zbyb_185 (i := 12) rfl rfl
theorem dX9_addPerson_77 : decode cX9_addPerson 77 = .ok (.iload 5, 2) := zby_g zbyb_185 (i := 13) rfl rfl
theorem dX9_addPerson_79 : decode cX9_addPerson 79 = .ok (.iconst 0, 1) := zby_g zbyb_185 (i := 14) rfl rfl
theorem dX9_addPerson_80 : decode cX9_addPerson 80 = .ok (.invokevirtual 77, 3) := zby_g zbyb_185 (i := 15) rfl rfl
noncomputable def zbyl_186 : List (Nat × zbyE) := [(83, zbyo_42), (84, zbyo_21 5), (86, zbyo_21 4), (88, zbyo_3), (89, zbyo_182 77), (92, zbyo_132 5 1), (95, zbyo_167 (-28)), (98, zbyo_177)]
theorem zbyb_186 : zbys zbyl_186 (cX9_addPerson.data.toList.drop 83) 83 = true := by decide +kernel
theorem dX9_addPerson_83 : decode cX9_addPerson 83 = .ok (.aload_n 0, 1) := zby_g zbyb_186 (i := 0) rfl rfl
theorem dX9_addPerson_84 : decode cX9_addPerson 84 = .ok (.iload 5, 2) := zby_g zbyb_186 (i := 1) rfl rfl
theorem dX9_addPerson_86 : decode cX9_addPerson 86 = .ok (.iload 4, 2) := zby_g zbyb_186 (i := 2) rfl rfl
theorem dX9_addPerson_88 : decode cX9_addPerson 88 = .ok (.iconst 0, 1) := zby_g zbyb_186 (i := 3) rfl rfl
theorem dX9_addPerson_89 : decode cX9_addPerson 89 = .ok (.invokevirtual 77, 3) := zby_g zbyb_186 (i := 4) rfl rfl
theorem dX9_addPerson_92 : decode cX9_addPerson 92 = .ok (.iinc 5 1, 3) := zby_g zbyb_186 (i := 5) rfl rfl
theorem dX9_addPerson_95 : decode cX9_addPerson 95 = .ok (.goto (-28), 3) := zby_g zbyb_186 (i := 6) rfl rfl
theorem dX9_addPerson_98 : decode cX9_addPerson 98 = .ok (.return_, 1) := zby_g zbyb_186 (i := 7) rfl rfl
noncomputable def zbyl_187 : List (Nat × zbyE) := [(0, zbyo_42), (1, zbyo_180 62), (4, zbyo_54 4), (6, zbyo_21 4), (8, zbyo_16 6), (10, zbyo_161 4), (13, zbyo_177), (14, zbyo_42), (15, zbyo_89), (16, zbyo_180 62), (19, zbyo_4), (20, zbyo_96), (21, zbyo_181 62), (24, zbyo_42), (25, zbyo_180 44), (28, zbyo_21 4)]
theorem zbyb_187 : zbys zbyl_187 (cX9_addWork.data.toList.drop 0) 0 = true := by decide +kernel
theorem dX9_addWork_0 : decode cX9_addWork 0 = .ok (.aload_n 0, 1) := zby_g zbyb_187 (i := 0) rfl rfl
theorem dX9_addWork_1 : decode cX9_addWork 1 = .ok (.getfield 62, 3) := zby_g zbyb_187 (i := 1) rfl rfl
theorem dX9_addWork_4 : decode cX9_addWork 4 = .ok (.istore 4, 2) := zby_g zbyb_187 (i := 2) rfl rfl
theorem dX9_addWork_6 : decode cX9_addWork 6 = .ok (.iload 4, 2) := zby_g zbyb_187 (i := 3) rfl rfl
theorem dX9_addWork_8 : decode cX9_addWork 8 = .ok (.bipush 6, 2) := zby_g zbyb_187 (i := 4) rfl rfl
theorem dX9_addWork_10 : decode cX9_addWork 10 = .ok (.if_icmp .lt 4, 3) := zby_g zbyb_187 (i := 5) rfl rfl
theorem dX9_addWork_13 : decode cX9_addWork 13 = .ok (.return_, 1) := zby_g zbyb_187 (i := 6) rfl rfl
theorem dX9_addWork_14 : decode cX9_addWork 14 = .ok (.aload_n 0, 1) := zby_g zbyb_187 (i := 7) rfl rfl
theorem dX9_addWork_15 : decode cX9_addWork 15 = .ok (.dup, 1) := zby_g zbyb_187 (i := 8) rfl rfl
theorem dX9_addWork_16 : decode cX9_addWork 16 = .ok (.getfield 62, 3) := zby_g zbyb_187 (i := 9) rfl rfl
theorem dX9_addWork_19 : decode cX9_addWork 19 = .ok (.iconst 1, 1) := zby_g zbyb_187 (i := 10) rfl rfl
theorem dX9_addWork_20 : decode cX9_addWork 20 = .ok (.iadd, 1) := zby_g zbyb_187 (i := 11) rfl rfl
theorem dX9_addWork_21 : decode cX9_addWork 21 = .ok (.putfield 62, 3) := zby_g zbyb_187 (i := 12) rfl rfl
theorem dX9_addWork_24 : decode cX9_addWork 24 = .ok (.aload_n 0, 1) := zby_g zbyb_187 (i := 13) rfl rfl
theorem dX9_addWork_25 : decode cX9_addWork 25 = .ok (.getfield 44, 3) := zby_g zbyb_187 (i := 14) rfl rfl
theorem dX9_addWork_28 : decode cX9_addWork 28 = .ok (.iload 4, 2) := zby_g zbyb_187 (i := 15) rfl rfl
noncomputable def zbyl_188 : List (Nat × zbyE) := [(30, zbyo_27), (31, zbyo_79), (32, zbyo_42), (33, zbyo_180 47), (36, zbyo_21 4), (38, zbyo_28), (39, zbyo_79), (40, zbyo_42), (41, zbyo_180 50), (44, zbyo_21 4), (46, zbyo_29), (47, zbyo_79), (48, zbyo_42), (49, zbyo_180 53), (52, zbyo_21 4), (54, zbyo_3)]
theorem zbyb_188 : zbys zbyl_188 (cX9_addWork.data.toList.drop 30) 30 = true := by decide +kernel
theorem dX9_addWork_30 : decode cX9_addWork 30 = .ok (.iload_n 1, 1) := zby_g zbyb_188 (i := 0) rfl rfl
theorem dX9_addWork_31 : decode cX9_addWork 31 = .ok (.iastore, 1) := zby_g zbyb_188 (i := 1) rfl rfl
theorem dX9_addWork_32 : decode cX9_addWork 32 = .ok (.aload_n 0, 1) := zby_g zbyb_188 (i := 2) rfl rfl
theorem dX9_addWork_33 : decode cX9_addWork 33 = .ok (.getfield 47, 3) := zby_g zbyb_188 (i := 3) rfl rfl
theorem dX9_addWork_36 : decode cX9_addWork 36 = .ok (.iload 4, 2) := zby_g zbyb_188 (i := 4) rfl rfl
theorem dX9_addWork_38 : decode cX9_addWork 38 = .ok (.iload_n 2, 1) := zby_g zbyb_188 (i := 5) rfl rfl
theorem dX9_addWork_39 : decode cX9_addWork 39 = .ok (.iastore, 1) := zby_g zbyb_188 (i := 6) rfl rfl
theorem dX9_addWork_40 : decode cX9_addWork 40 = .ok (.aload_n 0, 1) := zby_g zbyb_188 (i := 7) rfl rfl
theorem dX9_addWork_41 : decode cX9_addWork 41 = .ok (.getfield 50, 3) := zby_g zbyb_188 (i := 8) rfl rfl
theorem dX9_addWork_44 : decode cX9_addWork 44 = .ok (.iload 4, 2) := zby_g zbyb_188 (i := 9) rfl rfl
theorem dX9_addWork_46 : decode cX9_addWork 46 = .ok (.iload_n 3, 1) := zby_g zbyb_188 (i := 10) rfl rfl
theorem dX9_addWork_47 : decode cX9_addWork 47 = .ok (.iastore, 1) := zby_g zbyb_188 (i := 11) rfl rfl
theorem dX9_addWork_48 : decode cX9_addWork 48 = .ok (.aload_n 0, 1) := zby_g zbyb_188 (i := 12) rfl rfl
theorem dX9_addWork_49 : decode cX9_addWork 49 = .ok (.getfield 53, 3) := zby_g zbyb_188 (i := 13) rfl rfl
theorem dX9_addWork_52 : decode cX9_addWork 52 = .ok (.iload 4, 2) := zby_g zbyb_188 (i := 14) rfl rfl
theorem dX9_addWork_54 : decode cX9_addWork 54 = .ok (.iconst 0, 1) := zby_g zbyb_188 (i := 15) rfl rfl
noncomputable def zbyl_189 : List (Nat × zbyE) := [(55, zbyo_79), (56, zbyo_177)]
theorem zbyb_189 : zbys zbyl_189 (cX9_addWork.data.toList.drop 55) 55 = true := by decide +kernel
theorem dX9_addWork_55 : decode cX9_addWork 55 = .ok (.iastore, 1) := zby_g zbyb_189 (i := 0) rfl rfl
theorem dX9_addWork_56 : decode cX9_addWork 56 = .ok (.return_, 1) := zby_g zbyb_189 (i := 1) rfl rfl
noncomputable def zbyl_190 : List (Nat × zbyE) := [(0, zbyo_42), (1, zbyo_180 41), (4, zbyo_27), (5, zbyo_16 8), (7, zbyo_104), (8, zbyo_28), (9, zbyo_96), (10, zbyo_46), (11, zbyo_172)]
theorem zbyb_190 : zbys zbyl_190 (cX9_trustOf.data.toList.drop 0) 0 = true := by decide +kernel
theorem dX9_trustOf_0 : decode cX9_trustOf 0 = .ok (.aload_n 0, 1) := zby_g zbyb_190 (i := 0) rfl rfl
theorem dX9_trustOf_1 : decode cX9_trustOf 1 = .ok (.getfield 41, 3) := zby_g zbyb_190 (i := 1) rfl rfl
theorem dX9_trustOf_4 : decode cX9_trustOf 4 = .ok (.iload_n 1, 1) := zby_g zbyb_190 (i := 2) rfl rfl
theorem dX9_trustOf_5 : decode cX9_trustOf 5 = .ok (.bipush 8, 2) := zby_g zbyb_190 (i := 3) rfl rfl
theorem dX9_trustOf_7 : decode cX9_trustOf 7 = .ok (.imul, 1) := zby_g zbyb_190 (i := 4) rfl rfl
theorem dX9_trustOf_8 : decode cX9_trustOf 8 = .ok (.iload_n 2, 1) := zby_g zbyb_190 (i := 5) rfl rfl
theorem dX9_trustOf_9 : decode cX9_trustOf 9 = .ok (.iadd, 1) := zby_g zbyb_190 (i := 6) rfl rfl
theorem dX9_trustOf_10 : decode cX9_trustOf 10 = .ok (.iaload, 1) := zby_g zbyb_190 (i := 7) rfl rfl
theorem dX9_trustOf_11 : decode cX9_trustOf 11 = .ok (.ireturn, 1) := zby_g zbyb_190 (i := 8) rfl rfl
noncomputable def zbyl_191 : List (Nat × zbyE) := [(0, zbyo_42), (1, zbyo_180 41), (4, zbyo_27), (5, zbyo_16 8), (7, zbyo_104), (8, zbyo_28), (9, zbyo_96), (10, zbyo_29), (11, zbyo_79), (12, zbyo_177)]
theorem zbyb_191 : zbys zbyl_191 (cX9_setTrust.data.toList.drop 0) 0 = true := by decide +kernel
theorem dX9_setTrust_0 : decode cX9_setTrust 0 = .ok (.aload_n 0, 1) := zby_g zbyb_191 (i := 0) rfl rfl
theorem dX9_setTrust_1 : decode cX9_setTrust 1 = .ok (.getfield 41, 3) := zby_g zbyb_191 (i := 1) rfl rfl
theorem dX9_setTrust_4 : decode cX9_setTrust 4 = .ok (.iload_n 1, 1) := zby_g zbyb_191 (i := 2) rfl rfl
theorem dX9_setTrust_5 : decode cX9_setTrust 5 = .ok (.bipush 8, 2) := zby_g zbyb_191 (i := 3) rfl rfl
theorem dX9_setTrust_7 : decode cX9_setTrust 7 = .ok (.imul, 1) := zby_g zbyb_191 (i := 4) rfl rfl
theorem dX9_setTrust_8 : decode cX9_setTrust 8 = .ok (.iload_n 2, 1) := zby_g zbyb_191 (i := 5) rfl rfl
theorem dX9_setTrust_9 : decode cX9_setTrust 9 = .ok (.iadd, 1) := zby_g zbyb_191 (i := 6) rfl rfl
theorem dX9_setTrust_10 : decode cX9_setTrust 10 = .ok (.iload_n 3, 1) := zby_g zbyb_191 (i := 7) rfl rfl
theorem dX9_setTrust_11 : decode cX9_setTrust 11 = .ok (.iastore, 1) := zby_g zbyb_191 (i := 8) rfl rfl
theorem dX9_setTrust_12 : decode cX9_setTrust 12 = .ok (.return_, 1) := zby_g zbyb_191 (i := 9) rfl rfl
noncomputable def zbyl_192 : List (Nat × zbyE) := [(0, zbyo_42), (1, zbyo_180 34), (4, zbyo_27), (5, zbyo_46), (6, zbyo_2), (7, zbyo_160 7), (10, zbyo_4), (11, zbyo_167 4), (14, zbyo_3), (15, zbyo_172)]
theorem zbyb_192 : zbys zbyl_192 (cX9_isHere.data.toList.drop 0) 0 = true := by decide +kernel
theorem dX9_isHere_0 : decode cX9_isHere 0 = .ok (.aload_n 0, 1) := zby_g zbyb_192 (i := 0) rfl rfl
theorem dX9_isHere_1 : decode cX9_isHere 1 = .ok (.getfield 34, 3) := zby_g zbyb_192 (i := 1) rfl rfl
theorem dX9_isHere_4 : decode cX9_isHere 4 = .ok (.iload_n 1, 1) := zby_g zbyb_192 (i := 2) rfl rfl
theorem dX9_isHere_5 : decode cX9_isHere 5 = .ok (.iaload, 1) := zby_g zbyb_192 (i := 3) rfl rfl
theorem dX9_isHere_6 : decode cX9_isHere 6 = .ok (.iconst (-1), 1) := zby_g zbyb_192 (i := 4) rfl rfl
theorem dX9_isHere_7 : decode cX9_isHere 7 = .ok (.if_icmp .ne 7, 3) := zby_g zbyb_192 (i := 5) rfl rfl
theorem dX9_isHere_10 : decode cX9_isHere 10 = .ok (.iconst 1, 1) := zby_g zbyb_192 (i := 6) rfl rfl
theorem dX9_isHere_11 : decode cX9_isHere 11 = .ok (.goto 4, 3) := zby_g zbyb_192 (i := 7) rfl rfl
theorem dX9_isHere_14 : decode cX9_isHere 14 = .ok (.iconst 0, 1) := zby_g zbyb_192 (i := 8) rfl rfl
theorem dX9_isHere_15 : decode cX9_isHere 15 = .ok (.ireturn, 1) := zby_g zbyb_192 (i := 9) rfl rfl
noncomputable def zbyl_193 : List (Nat × zbyE) := [(0, zbyo_3), (1, zbyo_60), (2, zbyo_3), (3, zbyo_61), (4, zbyo_28), (5, zbyo_42), (6, zbyo_180 59), (9, zbyo_162 23), (12, zbyo_42), (13, zbyo_28), (14, zbyo_182 81), (17, zbyo_153 9), (20, zbyo_27), (21, zbyo_4), (22, zbyo_28), (23, zbyo_120)]
theorem zbyb_193 : zbys zbyl_193 (cX9_peopleHere.data.toList.drop 0) 0 = true := by decide +kernel
theorem dX9_peopleHere_0 : decode cX9_peopleHere 0 = .ok (.iconst 0, 1) := zby_g zbyb_193 (i := 0) rfl rfl
theorem dX9_peopleHere_1 : decode cX9_peopleHere 1 = .ok (.istore_n 1, 1) := zby_g zbyb_193 (i := 1) rfl rfl
theorem dX9_peopleHere_2 : decode cX9_peopleHere 2 = .ok (.iconst 0, 1) := zby_g zbyb_193 (i := 2) rfl rfl
theorem dX9_peopleHere_3 : decode cX9_peopleHere 3 = .ok (.istore_n 2, 1) := zby_g zbyb_193 (i := 3) rfl rfl
theorem dX9_peopleHere_4 : decode cX9_peopleHere 4 = .ok (.iload_n 2, 1) := zby_g zbyb_193 (i := 4) rfl rfl
theorem dX9_peopleHere_5 : decode cX9_peopleHere 5 = .ok (.aload_n 0, 1) := zby_g zbyb_193 (i := 5) rfl rfl
theorem dX9_peopleHere_6 : decode cX9_peopleHere 6 = .ok (.getfield 59, 3) := zby_g zbyb_193 (i := 6) rfl rfl
theorem dX9_peopleHere_9 : decode cX9_peopleHere 9 = .ok (.if_icmp .ge 23, 3) := zby_g zbyb_193 (i := 7) rfl rfl
theorem dX9_peopleHere_12 : decode cX9_peopleHere 12 = .ok (.aload_n 0, 1) := zby_g zbyb_193 (i := 8) rfl rfl
theorem dX9_peopleHere_13 : decode cX9_peopleHere 13 = .ok (.iload_n 2, 1) := zby_g zbyb_193 (i := 9) rfl rfl
theorem dX9_peopleHere_14 : decode cX9_peopleHere 14 = .ok (.invokevirtual 81, 3) := zby_g zbyb_193 (i := 10) rfl rfl
theorem dX9_peopleHere_17 : decode cX9_peopleHere 17 = .ok (.ifCond .eq 9, 3) := zby_g zbyb_193 (i := 11) rfl rfl
theorem dX9_peopleHere_20 : decode cX9_peopleHere 20 = .ok (.iload_n 1, 1) := zby_g zbyb_193 (i := 12) rfl rfl
theorem dX9_peopleHere_21 : decode cX9_peopleHere 21 = .ok (.iconst 1, 1) := zby_g zbyb_193 (i := 13) rfl rfl
theorem dX9_peopleHere_22 : decode cX9_peopleHere 22 = .ok (.iload_n 2, 1) := zby_g zbyb_193 (i := 14) rfl rfl
theorem dX9_peopleHere_23 : decode cX9_peopleHere 23 = .ok (.ishl, 1) := zby_g zbyb_193 (i := 15) rfl rfl
noncomputable def zbyl_194 : List (Nat × zbyE) := [(24, zbyo_128), (25, zbyo_60), (26, zbyo_132 2 1), (29, zbyo_167 (-25)), (32, zbyo_27), (33, zbyo_172)]
theorem zbyb_194 : zbys zbyl_194 (cX9_peopleHere.data.toList.drop 24) 24 = true := by decide +kernel
theorem dX9_peopleHere_24 : decode cX9_peopleHere 24 = .ok (.ior, 1) := zby_g zbyb_194 (i := 0) rfl rfl
theorem dX9_peopleHere_25 : decode cX9_peopleHere 25 = .ok (.istore_n 1, 1) := zby_g zbyb_194 (i := 1) rfl rfl
theorem dX9_peopleHere_26 : decode cX9_peopleHere 26 = .ok (.iinc 2 1, 3) := zby_g zbyb_194 (i := 2) rfl rfl
theorem dX9_peopleHere_29 : decode cX9_peopleHere 29 = .ok (.goto (-25), 3) := zby_g zbyb_194 (i := 3) rfl rfl
theorem dX9_peopleHere_32 : decode cX9_peopleHere 32 = .ok (.iload_n 1, 1) := zby_g zbyb_194 (i := 4) rfl rfl
theorem dX9_peopleHere_33 : decode cX9_peopleHere 33 = .ok (.ireturn, 1) := zby_g zbyb_194 (i := 5) rfl rfl
noncomputable def zbyl_195 : List (Nat × zbyE) := [(0, zbyo_3), (1, zbyo_60), (2, zbyo_3), (3, zbyo_61), (4, zbyo_28), (5, zbyo_42), (6, zbyo_180 59), (9, zbyo_162 26), (12, zbyo_42), (13, zbyo_28), (14, zbyo_182 81), (17, zbyo_153 12), (20, zbyo_27), (21, zbyo_42), (22, zbyo_180 24), (25, zbyo_28)]
theorem zbyb_195 : zbys zbyl_195 (cX9_believed.data.toList.drop 0) 0 = true := by decide +kernel
theorem dX9_believed_0 : decode cX9_believed 0 = .ok (.iconst 0, 1) := zby_g zbyb_195 (i := 0) rfl rfl
theorem dX9_believed_1 : decode cX9_believed 1 = .ok (.istore_n 1, 1) := zby_g zbyb_195 (i := 1) rfl rfl
theorem dX9_believed_2 : decode cX9_believed 2 = .ok (.iconst 0, 1) := zby_g zbyb_195 (i := 2) rfl rfl
theorem dX9_believed_3 : decode cX9_believed 3 = .ok (.istore_n 2, 1) := zby_g zbyb_195 (i := 3) rfl rfl
theorem dX9_believed_4 : decode cX9_believed 4 = .ok (.iload_n 2, 1) := zby_g zbyb_195 (i := 4) rfl rfl
theorem dX9_believed_5 : decode cX9_believed 5 = .ok (.aload_n 0, 1) := zby_g zbyb_195 (i := 5) rfl rfl
theorem dX9_believed_6 : decode cX9_believed 6 = .ok (.getfield 59, 3) := zby_g zbyb_195 (i := 6) rfl rfl
theorem dX9_believed_9 : decode cX9_believed 9 = .ok (.if_icmp .ge 26, 3) := zby_g zbyb_195 (i := 7) rfl rfl
theorem dX9_believed_12 : decode cX9_believed 12 = .ok (.aload_n 0, 1) := zby_g zbyb_195 (i := 8) rfl rfl
theorem dX9_believed_13 : decode cX9_believed 13 = .ok (.iload_n 2, 1) := zby_g zbyb_195 (i := 9) rfl rfl
theorem dX9_believed_14 : decode cX9_believed 14 = .ok (.invokevirtual 81, 3) := zby_g zbyb_195 (i := 10) rfl rfl
theorem dX9_believed_17 : decode cX9_believed 17 = .ok (.ifCond .eq 12, 3) := zby_g zbyb_195 (i := 11) rfl rfl
theorem dX9_believed_20 : decode cX9_believed 20 = .ok (.iload_n 1, 1) := zby_g zbyb_195 (i := 12) rfl rfl
theorem dX9_believed_21 : decode cX9_believed 21 = .ok (.aload_n 0, 1) := zby_g zbyb_195 (i := 13) rfl rfl
theorem dX9_believed_22 : decode cX9_believed 22 = .ok (.getfield 24, 3) := zby_g zbyb_195 (i := 14) rfl rfl
theorem dX9_believed_25 : decode cX9_believed 25 = .ok (.iload_n 2, 1) := zby_g zbyb_195 (i := 15) rfl rfl
noncomputable def zbyl_196 : List (Nat × zbyE) := [(26, zbyo_46), (27, zbyo_96), (28, zbyo_60), (29, zbyo_132 2 1), (32, zbyo_167 (-28)), (35, zbyo_27), (36, zbyo_172)]
theorem zbyb_196 : zbys zbyl_196 (cX9_believed.data.toList.drop 26) 26 = true := by decide +kernel
theorem dX9_believed_26 : decode cX9_believed 26 = .ok (.iaload, 1) := zby_g zbyb_196 (i := 0) rfl rfl
theorem dX9_believed_27 : decode cX9_believed 27 = .ok (.iadd, 1) := zby_g zbyb_196 (i := 1) rfl rfl
theorem dX9_believed_28 : decode cX9_believed 28 = .ok (.istore_n 1, 1) := zby_g zbyb_196 (i := 2) rfl rfl
theorem dX9_believed_29 : decode cX9_believed 29 = .ok (.iinc 2 1, 3) := zby_g zbyb_196 (i := 3) rfl rfl
theorem dX9_believed_32 : decode cX9_believed 32 = .ok (.goto (-28), 3) := zby_g zbyb_196 (i := 4) rfl rfl
theorem dX9_believed_35 : decode cX9_believed 35 = .ok (.iload_n 1, 1) := zby_g zbyb_196 (i := 5) rfl rfl
theorem dX9_believed_36 : decode cX9_believed 36 = .ok (.ireturn, 1) := zby_g zbyb_196 (i := 6) rfl rfl
noncomputable def zbyl_197 : List (Nat × zbyE) := [(0, zbyo_42), (1, zbyo_182 85), (4, zbyo_184 89), (7, zbyo_60), (8, zbyo_27), (9, zbyo_154 7), (12, zbyo_3), (13, zbyo_167 9), (16, zbyo_42), (17, zbyo_182 95), (20, zbyo_27), (21, zbyo_108), (22, zbyo_172)]
theorem zbyb_197 : zbys zbyl_197 (cX9_meanBelief.data.toList.drop 0) 0 = true := by decide +kernel
theorem dX9_meanBelief_0 : decode cX9_meanBelief 0 = .ok (.aload_n 0, 1) := zby_g zbyb_197 (i := 0) rfl rfl
theorem dX9_meanBelief_1 : decode cX9_meanBelief 1 = .ok (.invokevirtual 85, 3) := zby_g zbyb_197 (i := 1) rfl rfl
theorem dX9_meanBelief_4 : decode cX9_meanBelief 4 = .ok (.invokestatic 89, 3) := zby_g zbyb_197 (i := 2) rfl rfl
theorem dX9_meanBelief_7 : decode cX9_meanBelief 7 = .ok (.istore_n 1, 1) := zby_g zbyb_197 (i := 3) rfl rfl
theorem dX9_meanBelief_8 : decode cX9_meanBelief 8 = .ok (.iload_n 1, 1) := zby_g zbyb_197 (i := 4) rfl rfl
theorem dX9_meanBelief_9 : decode cX9_meanBelief 9 = .ok (.ifCond .ne 7, 3) := zby_g zbyb_197 (i := 5) rfl rfl
theorem dX9_meanBelief_12 : decode cX9_meanBelief 12 = .ok (.iconst 0, 1) := zby_g zbyb_197 (i := 6) rfl rfl
theorem dX9_meanBelief_13 : decode cX9_meanBelief 13 = .ok (.goto 9, 3) := zby_g zbyb_197 (i := 7) rfl rfl
theorem dX9_meanBelief_16 : decode cX9_meanBelief 16 = .ok (.aload_n 0, 1) := zby_g zbyb_197 (i := 8) rfl rfl
theorem dX9_meanBelief_17 : decode cX9_meanBelief 17 = .ok (.invokevirtual 95, 3) := zby_g zbyb_197 (i := 9) rfl rfl
theorem dX9_meanBelief_20 : decode cX9_meanBelief 20 = .ok (.iload_n 1, 1) := zby_g zbyb_197 (i := 10) rfl rfl
theorem dX9_meanBelief_21 : decode cX9_meanBelief 21 = .ok (.idiv, 1) := zby_g zbyb_197 (i := 11) rfl rfl
theorem dX9_meanBelief_22 : decode cX9_meanBelief 22 = .ok (.ireturn, 1) := zby_g zbyb_197 (i := 12) rfl rfl
noncomputable def zbyl_198 : List (Nat × zbyE) := [(0, zbyo_42), (1, zbyo_182 98), (4, zbyo_60), (5, zbyo_27), (6, zbyo_27), (7, zbyo_104), (8, zbyo_16 50), (10, zbyo_108), (11, zbyo_4), (12, zbyo_96), (13, zbyo_172)]
theorem zbyb_198 : zbys zbyl_198 (cX9_sharePrice.data.toList.drop 0) 0 = true := by decide +kernel
theorem dX9_sharePrice_0 : decode cX9_sharePrice 0 = .ok (.aload_n 0, 1) := zby_g zbyb_198 (i := 0) rfl rfl
theorem dX9_sharePrice_1 : decode cX9_sharePrice 1 = .ok (.invokevirtual 98, 3) := zby_g zbyb_198 (i := 1) rfl rfl
theorem dX9_sharePrice_4 : decode cX9_sharePrice 4 = .ok (.istore_n 1, 1) := zby_g zbyb_198 (i := 2) rfl rfl
theorem dX9_sharePrice_5 : decode cX9_sharePrice 5 = .ok (.iload_n 1, 1) := zby_g zbyb_198 (i := 3) rfl rfl
theorem dX9_sharePrice_6 : decode cX9_sharePrice 6 = .ok (.iload_n 1, 1) := zby_g zbyb_198 (i := 4) rfl rfl
theorem dX9_sharePrice_7 : decode cX9_sharePrice 7 = .ok (.imul, 1) := zby_g zbyb_198 (i := 5) rfl rfl
theorem dX9_sharePrice_8 : decode cX9_sharePrice 8 = .ok (.bipush 50, 2) := zby_g zbyb_198 (i := 6) rfl rfl
theorem dX9_sharePrice_10 : decode cX9_sharePrice 10 = .ok (.idiv, 1) := zby_g zbyb_198 (i := 7) rfl rfl
theorem dX9_sharePrice_11 : decode cX9_sharePrice 11 = .ok (.iconst 1, 1) := zby_g zbyb_198 (i := 8) rfl rfl
theorem dX9_sharePrice_12 : decode cX9_sharePrice 12 = .ok (.iadd, 1) := zby_g zbyb_198 (i := 9) rfl rfl
theorem dX9_sharePrice_13 : decode cX9_sharePrice 13 = .ok (.ireturn, 1) := zby_g zbyb_198 (i := 10) rfl rfl
noncomputable def zbyl_199 : List (Nat × zbyE) := [(0, zbyo_3), (1, zbyo_61), (2, zbyo_3), (3, zbyo_62), (4, zbyo_29), (5, zbyo_42), (6, zbyo_180 59), (9, zbyo_162 45), (12, zbyo_29), (13, zbyo_27), (14, zbyo_159 34), (17, zbyo_42), (18, zbyo_29), (19, zbyo_182 81), (22, zbyo_153 26), (25, zbyo_28)]
theorem zbyb_199 : zbys zbyl_199 (cX9_pullOf.data.toList.drop 0) 0 = true := by decide +kernel
theorem dX9_pullOf_0 : decode cX9_pullOf 0 = .ok (.iconst 0, 1) := zby_g zbyb_199 (i := 0) rfl rfl
theorem dX9_pullOf_1 : decode cX9_pullOf 1 = .ok (.istore_n 2, 1) := zby_g zbyb_199 (i := 1) rfl rfl
theorem dX9_pullOf_2 : decode cX9_pullOf 2 = .ok (.iconst 0, 1) := zby_g zbyb_199 (i := 2) rfl rfl
theorem dX9_pullOf_3 : decode cX9_pullOf 3 = .ok (.istore_n 3, 1) := zby_g zbyb_199 (i := 3) rfl rfl
theorem dX9_pullOf_4 : decode cX9_pullOf 4 = .ok (.iload_n 3, 1) := zby_g zbyb_199 (i := 4) rfl rfl
theorem dX9_pullOf_5 : decode cX9_pullOf 5 = .ok (.aload_n 0, 1) := zby_g zbyb_199 (i := 5) rfl rfl
theorem dX9_pullOf_6 : decode cX9_pullOf 6 = .ok (.getfield 59, 3) := zby_g zbyb_199 (i := 6) rfl rfl
theorem dX9_pullOf_9 : decode cX9_pullOf 9 = .ok (.if_icmp .ge 45, 3) := zby_g zbyb_199 (i := 7) rfl rfl
theorem dX9_pullOf_12 : decode cX9_pullOf 12 = .ok (.iload_n 3, 1) := zby_g zbyb_199 (i := 8) rfl rfl
theorem dX9_pullOf_13 : decode cX9_pullOf 13 = .ok (.iload_n 1, 1) := zby_g zbyb_199 (i := 9) rfl rfl
theorem dX9_pullOf_14 : decode cX9_pullOf 14 = .ok (.if_icmp .eq 34, 3) := zby_g zbyb_199 (i := 10) rfl rfl
theorem dX9_pullOf_17 : decode cX9_pullOf 17 = .ok (.aload_n 0, 1) := zby_g zbyb_199 (i := 11) rfl rfl
theorem dX9_pullOf_18 : decode cX9_pullOf 18 = .ok (.iload_n 3, 1) := zby_g zbyb_199 (i := 12) rfl rfl
theorem dX9_pullOf_19 : decode cX9_pullOf 19 = .ok (.invokevirtual 81, 3) := zby_g zbyb_199 (i := 13) rfl rfl
theorem dX9_pullOf_22 : decode cX9_pullOf 22 = .ok (.ifCond .eq 26, 3) := zby_g zbyb_199 (i := 14) rfl rfl
theorem dX9_pullOf_25 : decode cX9_pullOf 25 = .ok (.iload_n 2, 1) := zby_g zbyb_199 (i := 15) rfl rfl
noncomputable def zbyl_200 : List (Nat × zbyE) := [(26, zbyo_42), (27, zbyo_27), (28, zbyo_29), (29, zbyo_182 101), (32, zbyo_42), (33, zbyo_180 24), (36, zbyo_29), (37, zbyo_46), (38, zbyo_42), (39, zbyo_180 24), (42, zbyo_27), (43, zbyo_46), (44, zbyo_100), (45, zbyo_104), (46, zbyo_96), (47, zbyo_61)]
theorem zbyb_200 : zbys zbyl_200 (cX9_pullOf.data.toList.drop 26) 26 = true := by decide +kernel
theorem dX9_pullOf_26 : decode cX9_pullOf 26 = .ok (.aload_n 0, 1) := zby_g zbyb_200 (i := 0) rfl rfl
theorem dX9_pullOf_27 : decode cX9_pullOf 27 = .ok (.iload_n 1, 1) := zby_g zbyb_200 (i := 1) rfl rfl
theorem dX9_pullOf_28 : decode cX9_pullOf 28 = .ok (.iload_n 3, 1) := zby_g zbyb_200 (i := 2) rfl rfl
theorem dX9_pullOf_29 : decode cX9_pullOf 29 = .ok (.invokevirtual 101, 3) := zby_g zbyb_200 (i := 3) rfl rfl
theorem dX9_pullOf_32 : decode cX9_pullOf 32 = .ok (.aload_n 0, 1) := zby_g zbyb_200 (i := 4) rfl rfl
theorem dX9_pullOf_33 : decode cX9_pullOf 33 = .ok (.getfield 24, 3) := zby_g zbyb_200 (i := 5) rfl rfl
theorem dX9_pullOf_36 : decode cX9_pullOf 36 = .ok (.iload_n 3, 1) := zby_g zbyb_200 (i := 6) rfl rfl
theorem dX9_pullOf_37 : decode cX9_pullOf 37 = .ok (.iaload, 1) := zby_g zbyb_200 (i := 7) rfl rfl
theorem dX9_pullOf_38 : decode cX9_pullOf 38 = .ok (.aload_n 0, 1) := zby_g zbyb_200 (i := 8) rfl rfl
theorem dX9_pullOf_39 : decode cX9_pullOf 39 = .ok (.getfield 24, 3) := zby_g zbyb_200 (i := 9) rfl rfl
theorem dX9_pullOf_42 : decode cX9_pullOf 42 = .ok (.iload_n 1, 1) := zby_g zbyb_200 (i := 10) rfl rfl
theorem dX9_pullOf_43 : decode cX9_pullOf 43 = .ok (.iaload, 1) := zby_g zbyb_200 (i := 11) rfl rfl
theorem dX9_pullOf_44 : decode cX9_pullOf 44 = .ok (.isub, 1) := zby_g zbyb_200 (i := 12) rfl rfl
theorem dX9_pullOf_45 : decode cX9_pullOf 45 = .ok (.imul, 1) := zby_g zbyb_200 (i := 13) rfl rfl
theorem dX9_pullOf_46 : decode cX9_pullOf 46 = .ok (.iadd, 1) := zby_g zbyb_200 (i := 14) rfl rfl
theorem dX9_pullOf_47 : decode cX9_pullOf 47 = .ok (.istore_n 2, 1) := zby_g zbyb_200 (i := 15) rfl rfl
noncomputable def zbyl_201 : List (Nat × zbyE) := [(48, zbyo_132 3 1), (51, zbyo_167 (-47)), (54, zbyo_28), (55, zbyo_16 40), (57, zbyo_108), (58, zbyo_172)]
theorem zbyb_201 : zbys zbyl_201 (cX9_pullOf.data.toList.drop 48) 48 = true := by decide +kernel
theorem dX9_pullOf_48 : decode cX9_pullOf 48 = .ok (.iinc 3 1, 3) := zby_g zbyb_201 (i := 0) rfl rfl
theorem dX9_pullOf_51 : decode cX9_pullOf 51 = .ok (.goto (-47), 3) := zby_g zbyb_201 (i := 1) rfl rfl
theorem dX9_pullOf_54 : decode cX9_pullOf 54 = .ok (.iload_n 2, 1) := zby_g zbyb_201 (i := 2) rfl rfl
theorem dX9_pullOf_55 : decode cX9_pullOf 55 = .ok (.bipush 40, 2) := zby_g zbyb_201 (i := 3) rfl rfl
theorem dX9_pullOf_57 : decode cX9_pullOf 57 = .ok (.idiv, 1) := zby_g zbyb_201 (i := 4) rfl rfl
theorem dX9_pullOf_58 : decode cX9_pullOf 58 = .ok (.ireturn, 1) := zby_g zbyb_201 (i := 5) rfl rfl
noncomputable def zbyl_202 : List (Nat × zbyE) := [(0, zbyo_3), (1, zbyo_61), (2, zbyo_3), (3, zbyo_62), (4, zbyo_29), (5, zbyo_42), (6, zbyo_180 59), (9, zbyo_162 31), (12, zbyo_29), (13, zbyo_27), (14, zbyo_159 20), (17, zbyo_42), (18, zbyo_180 41), (21, zbyo_27), (22, zbyo_16 8), (24, zbyo_104)]
theorem zbyb_202 : zbys zbyl_202 (cX9_tiesOf.data.toList.drop 0) 0 = true := by decide +kernel
theorem dX9_tiesOf_0 : decode cX9_tiesOf 0 = .ok (.iconst 0, 1) := zby_g zbyb_202 (i := 0) rfl rfl
theorem dX9_tiesOf_1 : decode cX9_tiesOf 1 = .ok (.istore_n 2, 1) := zby_g zbyb_202 (i := 1) rfl rfl
theorem dX9_tiesOf_2 : decode cX9_tiesOf 2 = .ok (.iconst 0, 1) := zby_g zbyb_202 (i := 2) rfl rfl
theorem dX9_tiesOf_3 : decode cX9_tiesOf 3 = .ok (.istore_n 3, 1) := zby_g zbyb_202 (i := 3) rfl rfl
theorem dX9_tiesOf_4 : decode cX9_tiesOf 4 = .ok (.iload_n 3, 1) := zby_g zbyb_202 (i := 4) rfl rfl
theorem dX9_tiesOf_5 : decode cX9_tiesOf 5 = .ok (.aload_n 0, 1) := zby_g zbyb_202 (i := 5) rfl rfl
theorem dX9_tiesOf_6 : decode cX9_tiesOf 6 = .ok (.getfield 59, 3) := zby_g zbyb_202 (i := 6) rfl rfl
theorem dX9_tiesOf_9 : decode cX9_tiesOf 9 = .ok (.if_icmp .ge 31, 3) := zby_g zbyb_202 (i := 7) rfl rfl
theorem dX9_tiesOf_12 : decode cX9_tiesOf 12 = .ok (.iload_n 3, 1) := zby_g zbyb_202 (i := 8) rfl rfl
theorem dX9_tiesOf_13 : decode cX9_tiesOf 13 = .ok (.iload_n 1, 1) := zby_g zbyb_202 (i := 9) rfl rfl
theorem dX9_tiesOf_14 : decode cX9_tiesOf 14 = .ok (.if_icmp .eq 20, 3) := zby_g zbyb_202 (i := 10) rfl rfl
theorem dX9_tiesOf_17 : decode cX9_tiesOf 17 = .ok (.aload_n 0, 1) := zby_g zbyb_202 (i := 11) rfl rfl
theorem dX9_tiesOf_18 : decode cX9_tiesOf 18 = .ok (.getfield 41, 3) := zby_g zbyb_202 (i := 12) rfl rfl
theorem dX9_tiesOf_21 : decode cX9_tiesOf 21 = .ok (.iload_n 1, 1) := zby_g zbyb_202 (i := 13) rfl rfl
theorem dX9_tiesOf_22 : decode cX9_tiesOf 22 = .ok (.bipush 8, 2) := zby_g zbyb_202 (i := 14) rfl rfl
theorem dX9_tiesOf_24 : decode cX9_tiesOf 24 = .ok (.imul, 1) := zby_g zbyb_202 (i := 15) rfl rfl
noncomputable def zbyl_203 : List (Nat × zbyE) := [(25, zbyo_29), (26, zbyo_96), (27, zbyo_46), (28, zbyo_158 6), (31, zbyo_132 2 1), (34, zbyo_132 3 1), (37, zbyo_167 (-33)), (40, zbyo_28), (41, zbyo_172)]
theorem zbyb_203 : zbys zbyl_203 (cX9_tiesOf.data.toList.drop 25) 25 = true := by decide +kernel
theorem dX9_tiesOf_25 : decode cX9_tiesOf 25 = .ok (.iload_n 3, 1) := zby_g zbyb_203 (i := 0) rfl rfl
theorem dX9_tiesOf_26 : decode cX9_tiesOf 26 = .ok (.iadd, 1) := zby_g zbyb_203 (i := 1) rfl rfl
theorem dX9_tiesOf_27 : decode cX9_tiesOf 27 = .ok (.iaload, 1) := zby_g zbyb_203 (i := 2) rfl rfl
theorem dX9_tiesOf_28 : decode cX9_tiesOf 28 = .ok (.ifCond .le 6, 3) := zby_g zbyb_203 (i := 3) rfl rfl
theorem dX9_tiesOf_31 : decode cX9_tiesOf 31 = .ok (.iinc 2 1, 3) := zby_g zbyb_203 (i := 4) rfl rfl
theorem dX9_tiesOf_34 : decode cX9_tiesOf 34 = .ok (.iinc 3 1, 3) := zby_g zbyb_203 (i := 5) rfl rfl
theorem dX9_tiesOf_37 : decode cX9_tiesOf 37 = .ok (.goto (-33), 3) := zby_g zbyb_203 (i := 6) rfl rfl
theorem dX9_tiesOf_40 : decode cX9_tiesOf 40 = .ok (.iload_n 2, 1) := zby_g zbyb_203 (i := 7) rfl rfl
theorem dX9_tiesOf_41 : decode cX9_tiesOf 41 = .ok (.ireturn, 1) := zby_g zbyb_203 (i := 8) rfl rfl
noncomputable def zbyl_204 : List (Nat × zbyE) := [(0, zbyo_42), (1, zbyo_180 28), (4, zbyo_27), (5, zbyo_46), (6, zbyo_42), (7, zbyo_180 31), (10, zbyo_27), (11, zbyo_46), (12, zbyo_42), (13, zbyo_182 105), (16, zbyo_104), (17, zbyo_96), (18, zbyo_172)]
theorem zbyb_204 : zbys zbyl_204 (cX9_worthOf.data.toList.drop 0) 0 = true := by decide +kernel
theorem dX9_worthOf_0 : decode cX9_worthOf 0 = .ok (.aload_n 0, 1) := zby_g zbyb_204 (i := 0) rfl rfl
theorem dX9_worthOf_1 : decode cX9_worthOf 1 = .ok (.getfield 28, 3) := zby_g zbyb_204 (i := 1) rfl rfl
theorem dX9_worthOf_4 : decode cX9_worthOf 4 = .ok (.iload_n 1, 1) := zby_g zbyb_204 (i := 2) rfl rfl
theorem dX9_worthOf_5 : decode cX9_worthOf 5 = .ok (.iaload, 1) := zby_g zbyb_204 (i := 3) rfl rfl
theorem dX9_worthOf_6 : decode cX9_worthOf 6 = .ok (.aload_n 0, 1) := zby_g zbyb_204 (i := 4) rfl rfl
theorem dX9_worthOf_7 : decode cX9_worthOf 7 = .ok (.getfield 31, 3) := zby_g zbyb_204 (i := 5) rfl rfl
theorem dX9_worthOf_10 : decode cX9_worthOf 10 = .ok (.iload_n 1, 1) := zby_g zbyb_204 (i := 6) rfl rfl
theorem dX9_worthOf_11 : decode cX9_worthOf 11 = .ok (.iaload, 1) := zby_g zbyb_204 (i := 7) rfl rfl
theorem dX9_worthOf_12 : decode cX9_worthOf 12 = .ok (.aload_n 0, 1) := zby_g zbyb_204 (i := 8) rfl rfl
theorem dX9_worthOf_13 : decode cX9_worthOf 13 = .ok (.invokevirtual 105, 3) := zby_g zbyb_204 (i := 9) rfl rfl
theorem dX9_worthOf_16 : decode cX9_worthOf 16 = .ok (.imul, 1) := zby_g zbyb_204 (i := 10) rfl rfl
theorem dX9_worthOf_17 : decode cX9_worthOf 17 = .ok (.iadd, 1) := zby_g zbyb_204 (i := 11) rfl rfl
theorem dX9_worthOf_18 : decode cX9_worthOf 18 = .ok (.ireturn, 1) := zby_g zbyb_204 (i := 12) rfl rfl
noncomputable def zbyl_205 : List (Nat × zbyE) := [(0, zbyo_42), (1, zbyo_182 95), (4, zbyo_61), (5, zbyo_28), (6, zbyo_153 11), (9, zbyo_42), (10, zbyo_27), (11, zbyo_182 81), (14, zbyo_154 7), (17, zbyo_3), (18, zbyo_167 14), (21, zbyo_42), (22, zbyo_180 24), (25, zbyo_27), (26, zbyo_46), (27, zbyo_16 100)]
theorem zbyb_205 : zbys zbyl_205 (cX9_shareOf.data.toList.drop 0) 0 = true := by decide +kernel
theorem dX9_shareOf_0 : decode cX9_shareOf 0 = .ok (.aload_n 0, 1) := zby_g zbyb_205 (i := 0) rfl rfl
theorem dX9_shareOf_1 : decode cX9_shareOf 1 = .ok (.invokevirtual 95, 3) := zby_g zbyb_205 (i := 1) rfl rfl
theorem dX9_shareOf_4 : decode cX9_shareOf 4 = .ok (.istore_n 2, 1) := zby_g zbyb_205 (i := 2) rfl rfl
theorem dX9_shareOf_5 : decode cX9_shareOf 5 = .ok (.iload_n 2, 1) := zby_g zbyb_205 (i := 3) rfl rfl
theorem dX9_shareOf_6 : decode cX9_shareOf 6 = .ok (.ifCond .eq 11, 3) := zby_g zbyb_205 (i := 4) rfl rfl
theorem dX9_shareOf_9 : decode cX9_shareOf 9 = .ok (.aload_n 0, 1) := zby_g zbyb_205 (i := 5) rfl rfl
theorem dX9_shareOf_10 : decode cX9_shareOf 10 = .ok (.iload_n 1, 1) := zby_g zbyb_205 (i := 6) rfl rfl
theorem dX9_shareOf_11 : decode cX9_shareOf 11 = .ok (.invokevirtual 81, 3) := zby_g zbyb_205 (i := 7) rfl rfl
theorem dX9_shareOf_14 : decode cX9_shareOf 14 = .ok (.ifCond .ne 7, 3) := zby_g zbyb_205 (i := 8) rfl rfl
theorem dX9_shareOf_17 : decode cX9_shareOf 17 = .ok (.iconst 0, 1) := zby_g zbyb_205 (i := 9) rfl rfl
theorem dX9_shareOf_18 : decode cX9_shareOf 18 = .ok (.goto 14, 3) := zby_g zbyb_205 (i := 10) rfl rfl
theorem dX9_shareOf_21 : decode cX9_shareOf 21 = .ok (.aload_n 0, 1) := zby_g zbyb_205 (i := 11) rfl rfl
theorem dX9_shareOf_22 : decode cX9_shareOf 22 = .ok (.getfield 24, 3) := zby_g zbyb_205 (i := 12) rfl rfl
theorem dX9_shareOf_25 : decode cX9_shareOf 25 = .ok (.iload_n 1, 1) := zby_g zbyb_205 (i := 13) rfl rfl
theorem dX9_shareOf_26 : decode cX9_shareOf 26 = .ok (.iaload, 1) := zby_g zbyb_205 (i := 14) rfl rfl
theorem dX9_shareOf_27 : decode cX9_shareOf 27 = .ok (.bipush 100, 2) := zby_g zbyb_205 (i := 15) rfl rfl
noncomputable def zbyl_206 : List (Nat × zbyE) := [(29, zbyo_104), (30, zbyo_28), (31, zbyo_108), (32, zbyo_172)]
theorem zbyb_206 : zbys zbyl_206 (cX9_shareOf.data.toList.drop 29) 29 = true := by decide +kernel
theorem dX9_shareOf_29 : decode cX9_shareOf 29 = .ok (.imul, 1) := zby_g zbyb_206 (i := 0) rfl rfl
theorem dX9_shareOf_30 : decode cX9_shareOf 30 = .ok (.iload_n 2, 1) := zby_g zbyb_206 (i := 1) rfl rfl
theorem dX9_shareOf_31 : decode cX9_shareOf 31 = .ok (.idiv, 1) := zby_g zbyb_206 (i := 2) rfl rfl
theorem dX9_shareOf_32 : decode cX9_shareOf 32 = .ok (.ireturn, 1) := zby_g zbyb_206 (i := 3) rfl rfl
noncomputable def zbyl_207 : List (Nat × zbyE) := [(0, zbyo_3), (1, zbyo_60), (2, zbyo_3), (3, zbyo_61), (4, zbyo_28), (5, zbyo_42), (6, zbyo_180 59), (9, zbyo_162 18), (12, zbyo_27), (13, zbyo_42), (14, zbyo_180 31), (17, zbyo_28), (18, zbyo_46), (19, zbyo_96), (20, zbyo_60), (21, zbyo_132 2 1)]
theorem zbyb_207 : zbys zbyl_207 (cX9_sharesOfAll.data.toList.drop 0) 0 = true := by decide +kernel
theorem dX9_sharesOfAll_0 : decode cX9_sharesOfAll 0 = .ok (.iconst 0, 1) := zby_g zbyb_207 (i := 0) rfl rfl
theorem dX9_sharesOfAll_1 : decode cX9_sharesOfAll 1 = .ok (.istore_n 1, 1) := zby_g zbyb_207 (i := 1) rfl rfl
theorem dX9_sharesOfAll_2 : decode cX9_sharesOfAll 2 = .ok (.iconst 0, 1) := zby_g zbyb_207 (i := 2) rfl rfl
theorem dX9_sharesOfAll_3 : decode cX9_sharesOfAll 3 = .ok (.istore_n 2, 1) := zby_g zbyb_207 (i := 3) rfl rfl
theorem dX9_sharesOfAll_4 : decode cX9_sharesOfAll 4 = .ok (.iload_n 2, 1) := zby_g zbyb_207 (i := 4) rfl rfl
theorem dX9_sharesOfAll_5 : decode cX9_sharesOfAll 5 = .ok (.aload_n 0, 1) := zby_g zbyb_207 (i := 5) rfl rfl
theorem dX9_sharesOfAll_6 : decode cX9_sharesOfAll 6 = .ok (.getfield 59, 3) := zby_g zbyb_207 (i := 6) rfl rfl
theorem dX9_sharesOfAll_9 : decode cX9_sharesOfAll 9 = .ok (.if_icmp .ge 18, 3) := zby_g zbyb_207 (i := 7) rfl rfl
theorem dX9_sharesOfAll_12 : decode cX9_sharesOfAll 12 = .ok (.iload_n 1, 1) := zby_g zbyb_207 (i := 8) rfl rfl
theorem dX9_sharesOfAll_13 : decode cX9_sharesOfAll 13 = .ok (.aload_n 0, 1) := zby_g zbyb_207 (i := 9) rfl rfl
theorem dX9_sharesOfAll_14 : decode cX9_sharesOfAll 14 = .ok (.getfield 31, 3) := zby_g zbyb_207 (i := 10) rfl rfl
theorem dX9_sharesOfAll_17 : decode cX9_sharesOfAll 17 = .ok (.iload_n 2, 1) := zby_g zbyb_207 (i := 11) rfl rfl
theorem dX9_sharesOfAll_18 : decode cX9_sharesOfAll 18 = .ok (.iaload, 1) := zby_g zbyb_207 (i := 12) rfl rfl
theorem dX9_sharesOfAll_19 : decode cX9_sharesOfAll 19 = .ok (.iadd, 1) := zby_g zbyb_207 (i := 13) rfl rfl
theorem dX9_sharesOfAll_20 : decode cX9_sharesOfAll 20 = .ok (.istore_n 1, 1) := zby_g zbyb_207 (i := 14) rfl rfl
theorem dX9_sharesOfAll_21 : decode cX9_sharesOfAll 21 = .ok (.iinc 2 1, 3) := zby_g zbyb_207 (i := 15) rfl rfl
noncomputable def zbyl_208 : List (Nat × zbyE) := [(24, zbyo_167 (-20)), (27, zbyo_27), (28, zbyo_172)]
theorem zbyb_208 : zbys zbyl_208 (cX9_sharesOfAll.data.toList.drop 24) 24 = true := by decide +kernel
theorem dX9_sharesOfAll_24 : decode cX9_sharesOfAll 24 = .ok (.goto (-20), 3) := zby_g zbyb_208 (i := 0) rfl rfl
theorem dX9_sharesOfAll_27 : decode cX9_sharesOfAll 27 = .ok (.iload_n 1, 1) := zby_g zbyb_208 (i := 1) rfl rfl
theorem dX9_sharesOfAll_28 : decode cX9_sharesOfAll 28 = .ok (.ireturn, 1) := zby_g zbyb_208 (i := 2) rfl rfl
noncomputable def zbyl_209 : List (Nat × zbyE) := [(0, zbyo_3), (1, zbyo_60), (2, zbyo_3), (3, zbyo_61), (4, zbyo_28), (5, zbyo_42), (6, zbyo_180 59), (9, zbyo_162 34), (12, zbyo_42), (13, zbyo_28), (14, zbyo_182 81), (17, zbyo_153 20), (20, zbyo_42), (21, zbyo_180 24), (24, zbyo_28), (25, zbyo_46)]
theorem zbyb_209 : zbys zbyl_209 (cX9_doubters.data.toList.drop 0) 0 = true := by decide +kernel
theorem dX9_doubters_0 : decode cX9_doubters 0 = .ok (.iconst 0, 1) := zby_g zbyb_209 (i := 0) rfl rfl
theorem dX9_doubters_1 : decode cX9_doubters 1 = .ok (.istore_n 1, 1) := zby_g zbyb_209 (i := 1) rfl rfl
theorem dX9_doubters_2 : decode cX9_doubters 2 = .ok (.iconst 0, 1) := zby_g zbyb_209 (i := 2) rfl rfl
theorem dX9_doubters_3 : decode cX9_doubters 3 = .ok (.istore_n 2, 1) := zby_g zbyb_209 (i := 3) rfl rfl
theorem dX9_doubters_4 : decode cX9_doubters 4 = .ok (.iload_n 2, 1) := zby_g zbyb_209 (i := 4) rfl rfl
theorem dX9_doubters_5 : decode cX9_doubters 5 = .ok (.aload_n 0, 1) := zby_g zbyb_209 (i := 5) rfl rfl
theorem dX9_doubters_6 : decode cX9_doubters 6 = .ok (.getfield 59, 3) := zby_g zbyb_209 (i := 6) rfl rfl
theorem dX9_doubters_9 : decode cX9_doubters 9 = .ok (.if_icmp .ge 34, 3) := zby_g zbyb_209 (i := 7) rfl rfl
theorem dX9_doubters_12 : decode cX9_doubters 12 = .ok (.aload_n 0, 1) := zby_g zbyb_209 (i := 8) rfl rfl
theorem dX9_doubters_13 : decode cX9_doubters 13 = .ok (.iload_n 2, 1) := zby_g zbyb_209 (i := 9) rfl rfl
theorem dX9_doubters_14 : decode cX9_doubters 14 = .ok (.invokevirtual 81, 3) := zby_g zbyb_209 (i := 10) rfl rfl
theorem dX9_doubters_17 : decode cX9_doubters 17 = .ok (.ifCond .eq 20, 3) := zby_g zbyb_209 (i := 11) rfl rfl
theorem dX9_doubters_20 : decode cX9_doubters 20 = .ok (.aload_n 0, 1) := zby_g zbyb_209 (i := 12) rfl rfl
theorem dX9_doubters_21 : decode cX9_doubters 21 = .ok (.getfield 24, 3) := zby_g zbyb_209 (i := 13) rfl rfl
theorem dX9_doubters_24 : decode cX9_doubters 24 = .ok (.iload_n 2, 1) := zby_g zbyb_209 (i := 14) rfl rfl
theorem dX9_doubters_25 : decode cX9_doubters 25 = .ok (.iaload, 1) := zby_g zbyb_209 (i := 15) rfl rfl
noncomputable def zbyl_210 : List (Nat × zbyE) := [(26, zbyo_16 33), (28, zbyo_162 9), (31, zbyo_27), (32, zbyo_4), (33, zbyo_28), (34, zbyo_120), (35, zbyo_128), (36, zbyo_60), (37, zbyo_132 2 1), (40, zbyo_167 (-36)), (43, zbyo_27), (44, zbyo_172)]
theorem zbyb_210 : zbys zbyl_210 (cX9_doubters.data.toList.drop 26) 26 = true := by decide +kernel
theorem dX9_doubters_26 : decode cX9_doubters 26 = .ok (.bipush 33, 2) := zby_g zbyb_210 (i := 0) rfl rfl
theorem dX9_doubters_28 : decode cX9_doubters 28 = .ok (.if_icmp .ge 9, 3) := zby_g zbyb_210 (i := 1) rfl rfl
theorem dX9_doubters_31 : decode cX9_doubters 31 = .ok (.iload_n 1, 1) := zby_g zbyb_210 (i := 2) rfl rfl
theorem dX9_doubters_32 : decode cX9_doubters 32 = .ok (.iconst 1, 1) := zby_g zbyb_210 (i := 3) rfl rfl
theorem dX9_doubters_33 : decode cX9_doubters 33 = .ok (.iload_n 2, 1) := zby_g zbyb_210 (i := 4) rfl rfl
theorem dX9_doubters_34 : decode cX9_doubters 34 = .ok (.ishl, 1) := zby_g zbyb_210 (i := 5) rfl rfl
theorem dX9_doubters_35 : decode cX9_doubters 35 = .ok (.ior, 1) := zby_g zbyb_210 (i := 6) rfl rfl
theorem dX9_doubters_36 : decode cX9_doubters 36 = .ok (.istore_n 1, 1) := zby_g zbyb_210 (i := 7) rfl rfl
theorem dX9_doubters_37 : decode cX9_doubters 37 = .ok (.iinc 2 1, 3) := zby_g zbyb_210 (i := 8) rfl rfl
theorem dX9_doubters_40 : decode cX9_doubters 40 = .ok (.goto (-36), 3) := zby_g zbyb_210 (i := 9) rfl rfl
theorem dX9_doubters_43 : decode cX9_doubters 43 = .ok (.iload_n 1, 1) := zby_g zbyb_210 (i := 10) rfl rfl
theorem dX9_doubters_44 : decode cX9_doubters 44 = .ok (.ireturn, 1) := zby_g zbyb_210 (i := 11) rfl rfl
noncomputable def zbyl_211 : List (Nat × zbyE) := [(0, zbyo_42), (1, zbyo_182 85), (4, zbyo_184 89), (7, zbyo_60), (8, zbyo_27), (9, zbyo_158 22), (12, zbyo_6), (13, zbyo_42), (14, zbyo_182 108), (17, zbyo_184 89), (20, zbyo_104), (21, zbyo_5), (22, zbyo_27), (23, zbyo_104), (24, zbyo_161 7), (27, zbyo_4)]
theorem zbyb_211 : zbys zbyl_211 (cX9_isRuined.data.toList.drop 0) 0 = true := by decide +kernel
theorem dX9_isRuined_0 : decode cX9_isRuined 0 = .ok (.aload_n 0, 1) := zby_g zbyb_211 (i := 0) rfl rfl
theorem dX9_isRuined_1 : decode cX9_isRuined 1 = .ok (.invokevirtual 85, 3) := zby_g zbyb_211 (i := 1) rfl rfl
theorem dX9_isRuined_4 : decode cX9_isRuined 4 = .ok (.invokestatic 89, 3) := zby_g zbyb_211 (i := 2) rfl rfl
theorem dX9_isRuined_7 : decode cX9_isRuined 7 = .ok (.istore_n 1, 1) := zby_g zbyb_211 (i := 3) rfl rfl
theorem dX9_isRuined_8 : decode cX9_isRuined 8 = .ok (.iload_n 1, 1) := zby_g zbyb_211 (i := 4) rfl rfl
theorem dX9_isRuined_9 : decode cX9_isRuined 9 = .ok (.ifCond .le 22, 3) := zby_g zbyb_211 (i := 5) rfl rfl
theorem dX9_isRuined_12 : decode cX9_isRuined 12 = .ok (.iconst 3, 1) := zby_g zbyb_211 (i := 6) rfl rfl
theorem dX9_isRuined_13 : decode cX9_isRuined 13 = .ok (.aload_n 0, 1) := zby_g zbyb_211 (i := 7) rfl rfl
theorem dX9_isRuined_14 : decode cX9_isRuined 14 = .ok (.invokevirtual 108, 3) := zby_g zbyb_211 (i := 8) rfl rfl
theorem dX9_isRuined_17 : decode cX9_isRuined 17 = .ok (.invokestatic 89, 3) := zby_g zbyb_211 (i := 9) rfl rfl
theorem dX9_isRuined_20 : decode cX9_isRuined 20 = .ok (.imul, 1) := zby_g zbyb_211 (i := 10) rfl rfl
theorem dX9_isRuined_21 : decode cX9_isRuined 21 = .ok (.iconst 2, 1) := zby_g zbyb_211 (i := 11) rfl rfl
theorem dX9_isRuined_22 : decode cX9_isRuined 22 = .ok (.iload_n 1, 1) := zby_g zbyb_211 (i := 12) rfl rfl
theorem dX9_isRuined_23 : decode cX9_isRuined 23 = .ok (.imul, 1) := zby_g zbyb_211 (i := 13) rfl rfl
theorem dX9_isRuined_24 : decode cX9_isRuined 24 = .ok (.if_icmp .lt 7, 3) := zby_g zbyb_211 (i := 14) rfl rfl
theorem dX9_isRuined_27 : decode cX9_isRuined 27 = .ok (.iconst 1, 1) := zby_g zbyb_211 (i := 15) rfl rfl
noncomputable def zbyl_212 : List (Nat × zbyE) := [(28, zbyo_167 4), (31, zbyo_3), (32, zbyo_172)]
theorem zbyb_212 : zbys zbyl_212 (cX9_isRuined.data.toList.drop 28) 28 = true := by decide +kernel
theorem dX9_isRuined_28 : decode cX9_isRuined 28 = .ok (.goto 4, 3) := zby_g zbyb_212 (i := 0) rfl rfl
theorem dX9_isRuined_31 : decode cX9_isRuined 31 = .ok (.iconst 0, 1) := zby_g zbyb_212 (i := 1) rfl rfl
theorem dX9_isRuined_32 : decode cX9_isRuined 32 = .ok (.ireturn, 1) := zby_g zbyb_212 (i := 2) rfl rfl
noncomputable def zbyl_213 : List (Nat × zbyE) := [(0, zbyo_3), (1, zbyo_61), (2, zbyo_3), (3, zbyo_62), (4, zbyo_29), (5, zbyo_42), (6, zbyo_180 62), (9, zbyo_162 25), (12, zbyo_42), (13, zbyo_180 53), (16, zbyo_29), (17, zbyo_46), (18, zbyo_27), (19, zbyo_160 9), (22, zbyo_28), (23, zbyo_4)]
theorem zbyb_213 : zbys zbyl_213 (cX9_worksIn.data.toList.drop 0) 0 = true := by decide +kernel
theorem dX9_worksIn_0 : decode cX9_worksIn 0 = .ok (.iconst 0, 1) := zby_g zbyb_213 (i := 0) rfl rfl
theorem dX9_worksIn_1 : decode cX9_worksIn 1 = .ok (.istore_n 2, 1) := zby_g zbyb_213 (i := 1) rfl rfl
theorem dX9_worksIn_2 : decode cX9_worksIn 2 = .ok (.iconst 0, 1) := zby_g zbyb_213 (i := 2) rfl rfl
theorem dX9_worksIn_3 : decode cX9_worksIn 3 = .ok (.istore_n 3, 1) := zby_g zbyb_213 (i := 3) rfl rfl
theorem dX9_worksIn_4 : decode cX9_worksIn 4 = .ok (.iload_n 3, 1) := zby_g zbyb_213 (i := 4) rfl rfl
theorem dX9_worksIn_5 : decode cX9_worksIn 5 = .ok (.aload_n 0, 1) := zby_g zbyb_213 (i := 5) rfl rfl
theorem dX9_worksIn_6 : decode cX9_worksIn 6 = .ok (.getfield 62, 3) := zby_g zbyb_213 (i := 6) rfl rfl
theorem dX9_worksIn_9 : decode cX9_worksIn 9 = .ok (.if_icmp .ge 25, 3) := zby_g zbyb_213 (i := 7) rfl rfl
theorem dX9_worksIn_12 : decode cX9_worksIn 12 = .ok (.aload_n 0, 1) := zby_g zbyb_213 (i := 8) rfl rfl
theorem dX9_worksIn_13 : decode cX9_worksIn 13 = .ok (.getfield 53, 3) := zby_g zbyb_213 (i := 9) rfl rfl
theorem dX9_worksIn_16 : decode cX9_worksIn 16 = .ok (.iload_n 3, 1) := zby_g zbyb_213 (i := 10) rfl rfl
theorem dX9_worksIn_17 : decode cX9_worksIn 17 = .ok (.iaload, 1) := zby_g zbyb_213 (i := 11) rfl rfl
theorem dX9_worksIn_18 : decode cX9_worksIn 18 = .ok (.iload_n 1, 1) := zby_g zbyb_213 (i := 12) rfl rfl
theorem dX9_worksIn_19 : decode cX9_worksIn 19 = .ok (.if_icmp .ne 9, 3) := zby_g zbyb_213 (i := 13) rfl rfl
theorem dX9_worksIn_22 : decode cX9_worksIn 22 = .ok (.iload_n 2, 1) := zby_g zbyb_213 (i := 14) rfl rfl
theorem dX9_worksIn_23 : decode cX9_worksIn 23 = .ok (.iconst 1, 1) := zby_g zbyb_213 (i := 15) rfl rfl
noncomputable def zbyl_214 : List (Nat × zbyE) := [(24, zbyo_29), (25, zbyo_120), (26, zbyo_128), (27, zbyo_61), (28, zbyo_132 3 1), (31, zbyo_167 (-27)), (34, zbyo_28), (35, zbyo_172)]
theorem zbyb_214 : zbys zbyl_214 (cX9_worksIn.data.toList.drop 24) 24 = true := by decide +kernel
theorem dX9_worksIn_24 : decode cX9_worksIn 24 = .ok (.iload_n 3, 1) := zby_g zbyb_214 (i := 0) rfl rfl
theorem dX9_worksIn_25 : decode cX9_worksIn 25 = .ok (.ishl, 1) := zby_g zbyb_214 (i := 1) rfl rfl
theorem dX9_worksIn_26 : decode cX9_worksIn 26 = .ok (.ior, 1) := zby_g zbyb_214 (i := 2) rfl rfl
theorem dX9_worksIn_27 : decode cX9_worksIn 27 = .ok (.istore_n 2, 1) := zby_g zbyb_214 (i := 3) rfl rfl
theorem dX9_worksIn_28 : decode cX9_worksIn 28 = .ok (.iinc 3 1, 3) := zby_g zbyb_214 (i := 4) rfl rfl
theorem dX9_worksIn_31 : decode cX9_worksIn 31 = .ok (.goto (-27), 3) := zby_g zbyb_214 (i := 5) rfl rfl
theorem dX9_worksIn_34 : decode cX9_worksIn 34 = .ok (.iload_n 2, 1) := zby_g zbyb_214 (i := 6) rfl rfl
theorem dX9_worksIn_35 : decode cX9_worksIn 35 = .ok (.ireturn, 1) := zby_g zbyb_214 (i := 7) rfl rfl
noncomputable def zbyl_215 : List (Nat × zbyE) := [(0, zbyo_2), (1, zbyo_60), (2, zbyo_3), (3, zbyo_61), (4, zbyo_28), (5, zbyo_42), (6, zbyo_180 59), (9, zbyo_162 39), (12, zbyo_42), (13, zbyo_28), (14, zbyo_182 81), (17, zbyo_154 25), (20, zbyo_27), (21, zbyo_2), (22, zbyo_159 13), (25, zbyo_42)]
theorem zbyb_215 : zbys zbyl_215 (cX9_firstComing.data.toList.drop 0) 0 = true := by decide +kernel
theorem dX9_firstComing_0 : decode cX9_firstComing 0 = .ok (.iconst (-1), 1) := zby_g zbyb_215 (i := 0) rfl rfl
theorem dX9_firstComing_1 : decode cX9_firstComing 1 = .ok (.istore_n 1, 1) := zby_g zbyb_215 (i := 1) rfl rfl
theorem dX9_firstComing_2 : decode cX9_firstComing 2 = .ok (.iconst 0, 1) := zby_g zbyb_215 (i := 2) rfl rfl
theorem dX9_firstComing_3 : decode cX9_firstComing 3 = .ok (.istore_n 2, 1) := zby_g zbyb_215 (i := 3) rfl rfl
theorem dX9_firstComing_4 : decode cX9_firstComing 4 = .ok (.iload_n 2, 1) := zby_g zbyb_215 (i := 4) rfl rfl
theorem dX9_firstComing_5 : decode cX9_firstComing 5 = .ok (.aload_n 0, 1) := zby_g zbyb_215 (i := 5) rfl rfl
theorem dX9_firstComing_6 : decode cX9_firstComing 6 = .ok (.getfield 59, 3) := zby_g zbyb_215 (i := 6) rfl rfl
theorem dX9_firstComing_9 : decode cX9_firstComing 9 = .ok (.if_icmp .ge 39, 3) := zby_g zbyb_215 (i := 7) rfl rfl
theorem dX9_firstComing_12 : decode cX9_firstComing 12 = .ok (.aload_n 0, 1) := zby_g zbyb_215 (i := 8) rfl rfl
theorem dX9_firstComing_13 : decode cX9_firstComing 13 = .ok (.iload_n 2, 1) := zby_g zbyb_215 (i := 9) rfl rfl
theorem dX9_firstComing_14 : decode cX9_firstComing 14 = .ok (.invokevirtual 81, 3) := zby_g zbyb_215 (i := 10) rfl rfl
theorem dX9_firstComing_17 : decode cX9_firstComing 17 = .ok (.ifCond .ne 25, 3) := zby_g zbyb_215 (i := 11) rfl rfl
theorem dX9_firstComing_20 : decode cX9_firstComing 20 = .ok (.iload_n 1, 1) := zby_g zbyb_215 (i := 12) rfl rfl
theorem dX9_firstComing_21 : decode cX9_firstComing 21 = .ok (.iconst (-1), 1) := zby_g zbyb_215 (i := 13) rfl rfl
theorem dX9_firstComing_22 : decode cX9_firstComing 22 = .ok (.if_icmp .eq 13, 3) := zby_g zbyb_215 (i := 14) rfl rfl
theorem dX9_firstComing_25 : decode cX9_firstComing 25 = .ok (.aload_n 0, 1) := zby_g zbyb_215 (i := 15) rfl rfl
noncomputable def zbyl_216 : List (Nat × zbyE) := [(26, zbyo_180 34), (29, zbyo_28), (30, zbyo_46), (31, zbyo_27), (32, zbyo_162 10), (35, zbyo_42), (36, zbyo_180 34), (39, zbyo_28), (40, zbyo_46), (41, zbyo_60), (42, zbyo_132 2 1), (45, zbyo_167 (-41)), (48, zbyo_27), (49, zbyo_2), (50, zbyo_159 10), (53, zbyo_27)]
theorem zbyb_216 : zbys zbyl_216 (cX9_firstComing.data.toList.drop 26) 26 = true := by decide +kernel
theorem dX9_firstComing_26 : decode cX9_firstComing 26 = .ok (.getfield 34, 3) := zby_g zbyb_216 (i := 0) rfl rfl
theorem dX9_firstComing_29 : decode cX9_firstComing 29 = .ok (.iload_n 2, 1) := zby_g zbyb_216 (i := 1) rfl rfl
theorem dX9_firstComing_30 : decode cX9_firstComing 30 = .ok (.iaload, 1) := zby_g zbyb_216 (i := 2) rfl rfl
theorem dX9_firstComing_31 : decode cX9_firstComing 31 = .ok (.iload_n 1, 1) := zby_g zbyb_216 (i := 3) rfl rfl
theorem dX9_firstComing_32 : decode cX9_firstComing 32 = .ok (.if_icmp .ge 10, 3) := zby_g zbyb_216 (i := 4) rfl rfl
theorem dX9_firstComing_35 : decode cX9_firstComing 35 = .ok (.aload_n 0, 1) := zby_g zbyb_216 (i := 5) rfl rfl
theorem dX9_firstComing_36 : decode cX9_firstComing 36 = .ok (.getfield 34, 3) := zby_g zbyb_216 (i := 6) rfl rfl
theorem dX9_firstComing_39 : decode cX9_firstComing 39 = .ok (.iload_n 2, 1) := zby_g zbyb_216 (i := 7) rfl rfl
theorem dX9_firstComing_40 : decode cX9_firstComing 40 = .ok (.iaload, 1) := zby_g zbyb_216 (i := 8) rfl rfl
theorem dX9_firstComing_41 : decode cX9_firstComing 41 = .ok (.istore_n 1, 1) := zby_g zbyb_216 (i := 9) rfl rfl
theorem dX9_firstComing_42 : decode cX9_firstComing 42 = .ok (.iinc 2 1, 3) := zby_g zbyb_216 (i := 10) rfl rfl
theorem dX9_firstComing_45 : decode cX9_firstComing 45 = .ok (.goto (-41), 3) := zby_g zbyb_216 (i := 11) rfl rfl
theorem dX9_firstComing_48 : decode cX9_firstComing 48 = .ok (.iload_n 1, 1) := zby_g zbyb_216 (i := 12) rfl rfl
theorem dX9_firstComing_49 : decode cX9_firstComing 49 = .ok (.iconst (-1), 1) := zby_g zbyb_216 (i := 13) rfl rfl
theorem dX9_firstComing_50 : decode cX9_firstComing 50 = .ok (.if_icmp .eq 10, 3) := zby_g zbyb_216 (i := 14) rfl rfl
theorem dX9_firstComing_53 : decode cX9_firstComing 53 = .ok (.iload_n 1, 1) := zby_g zbyb_216 (i := 15) rfl rfl
noncomputable def zbyl_217 : List (Nat × zbyE) := [(54, zbyo_17 9999), (57, zbyo_164 7), (60, zbyo_2), (61, zbyo_167 11), (64, zbyo_27), (65, zbyo_42), (66, zbyo_180 68), (69, zbyo_184 111), (72, zbyo_172)]
theorem zbyb_217 : zbys zbyl_217 (cX9_firstComing.data.toList.drop 54) 54 = true := by decide +kernel
theorem dX9_firstComing_54 : decode cX9_firstComing 54 = .ok (.sipush 9999, 3) := zby_g zbyb_217 (i := 0) rfl rfl
theorem dX9_firstComing_57 : decode cX9_firstComing 57 = .ok (.if_icmp .le 7, 3) := zby_g zbyb_217 (i := 1) rfl rfl
theorem dX9_firstComing_60 : decode cX9_firstComing 60 = .ok (.iconst (-1), 1) := zby_g zbyb_217 (i := 2) rfl rfl
theorem dX9_firstComing_61 : decode cX9_firstComing 61 = .ok (.goto 11, 3) := zby_g zbyb_217 (i := 3) rfl rfl
theorem dX9_firstComing_64 : decode cX9_firstComing 64 = .ok (.iload_n 1, 1) := zby_g zbyb_217 (i := 4) rfl rfl
theorem dX9_firstComing_65 : decode cX9_firstComing 65 = .ok (.aload_n 0, 1) := zby_g zbyb_217 (i := 5) rfl rfl
theorem dX9_firstComing_66 : decode cX9_firstComing 66 = .ok (.getfield 68, 3) := zby_g zbyb_217 (i := 6) rfl rfl
theorem dX9_firstComing_69 : decode cX9_firstComing 69 = .ok (.invokestatic 111, 3) := zby_g zbyb_217 (i := 7) rfl rfl
theorem dX9_firstComing_72 : decode cX9_firstComing 72 = .ok (.ireturn, 1) := zby_g zbyb_217 (i := 8) rfl rfl
noncomputable def zbyl_218 : List (Nat × zbyE) := [(0, zbyo_3), (1, zbyo_60), (2, zbyo_4), (3, zbyo_61), (4, zbyo_28), (5, zbyo_4), (6, zbyo_42), (7, zbyo_180 62), (10, zbyo_120), (11, zbyo_162 32), (14, zbyo_42), (15, zbyo_28), (16, zbyo_182 116), (19, zbyo_153 18), (22, zbyo_42), (23, zbyo_28)]
theorem zbyb_218 : zbys zbyl_218 (cX9_bestWorks.data.toList.drop 0) 0 = true := by decide +kernel
theorem dX9_bestWorks_0 : decode cX9_bestWorks 0 = .ok (.iconst 0, 1) := zby_g zbyb_218 (i := 0) rfl rfl
theorem dX9_bestWorks_1 : decode cX9_bestWorks 1 = .ok (.istore_n 1, 1) := zby_g zbyb_218 (i := 1) rfl rfl
theorem dX9_bestWorks_2 : decode cX9_bestWorks 2 = .ok (.iconst 1, 1) := zby_g zbyb_218 (i := 2) rfl rfl
theorem dX9_bestWorks_3 : decode cX9_bestWorks 3 = .ok (.istore_n 2, 1) := zby_g zbyb_218 (i := 3) rfl rfl
theorem dX9_bestWorks_4 : decode cX9_bestWorks 4 = .ok (.iload_n 2, 1) := zby_g zbyb_218 (i := 4) rfl rfl
theorem dX9_bestWorks_5 : decode cX9_bestWorks 5 = .ok (.iconst 1, 1) := zby_g zbyb_218 (i := 5) rfl rfl
theorem dX9_bestWorks_6 : decode cX9_bestWorks 6 = .ok (.aload_n 0, 1) := zby_g zbyb_218 (i := 6) rfl rfl
theorem dX9_bestWorks_7 : decode cX9_bestWorks 7 = .ok (.getfield 62, 3) := zby_g zbyb_218 (i := 7) rfl rfl
theorem dX9_bestWorks_10 : decode cX9_bestWorks 10 = .ok (.ishl, 1) := zby_g zbyb_218 (i := 8) rfl rfl
theorem dX9_bestWorks_11 : decode cX9_bestWorks 11 = .ok (.if_icmp .ge 32, 3) := zby_g zbyb_218 (i := 9) rfl rfl
theorem dX9_bestWorks_14 : decode cX9_bestWorks 14 = .ok (.aload_n 0, 1) := zby_g zbyb_218 (i := 10) rfl rfl
theorem dX9_bestWorks_15 : decode cX9_bestWorks 15 = .ok (.iload_n 2, 1) := zby_g zbyb_218 (i := 11) rfl rfl
theorem dX9_bestWorks_16 : decode cX9_bestWorks 16 = .ok (.invokevirtual 116, 3) := zby_g zbyb_218 (i := 12) rfl rfl
theorem dX9_bestWorks_19 : decode cX9_bestWorks 19 = .ok (.ifCond .eq 18, 3) := zby_g zbyb_218 (i := 13) rfl rfl
theorem dX9_bestWorks_22 : decode cX9_bestWorks 22 = .ok (.aload_n 0, 1) := zby_g zbyb_218 (i := 14) rfl rfl
theorem dX9_bestWorks_23 : decode cX9_bestWorks 23 = .ok (.iload_n 2, 1) := zby_g zbyb_218 (i := 15) rfl rfl
noncomputable def zbyl_219 : List (Nat × zbyE) := [(24, zbyo_182 119), (27, zbyo_42), (28, zbyo_27), (29, zbyo_182 119), (32, zbyo_164 5), (35, zbyo_28), (36, zbyo_60), (37, zbyo_132 2 1), (40, zbyo_167 (-36)), (43, zbyo_27), (44, zbyo_172)]
theorem zbyb_219 : zbys zbyl_219 (cX9_bestWorks.data.toList.drop 24) 24 = true := by decide +kernel
theorem dX9_bestWorks_24 : decode cX9_bestWorks 24 = .ok (.invokevirtual 119, 3) := zby_g zbyb_219 (i := 0) rfl rfl
theorem dX9_bestWorks_27 : decode cX9_bestWorks 27 = .ok (.aload_n 0, 1) := zby_g zbyb_219 (i := 1) rfl rfl
theorem dX9_bestWorks_28 : decode cX9_bestWorks 28 = .ok (.iload_n 1, 1) := zby_g zbyb_219 (i := 2) rfl rfl
theorem dX9_bestWorks_29 : decode cX9_bestWorks 29 = .ok (.invokevirtual 119, 3) := zby_g zbyb_219 (i := 3) rfl rfl
theorem dX9_bestWorks_32 : decode cX9_bestWorks 32 = .ok (.if_icmp .le 5, 3) := zby_g zbyb_219 (i := 4) rfl rfl
theorem dX9_bestWorks_35 : decode cX9_bestWorks 35 = .ok (.iload_n 2, 1) := zby_g zbyb_219 (i := 5) rfl rfl
theorem dX9_bestWorks_36 : decode cX9_bestWorks 36 = .ok (.istore_n 1, 1) := zby_g zbyb_219 (i := 6) rfl rfl
theorem dX9_bestWorks_37 : decode cX9_bestWorks 37 = .ok (.iinc 2 1, 3) := zby_g zbyb_219 (i := 7) rfl rfl
theorem dX9_bestWorks_40 : decode cX9_bestWorks 40 = .ok (.goto (-36), 3) := zby_g zbyb_219 (i := 8) rfl rfl
theorem dX9_bestWorks_43 : decode cX9_bestWorks 43 = .ok (.iload_n 1, 1) := zby_g zbyb_219 (i := 9) rfl rfl
theorem dX9_bestWorks_44 : decode cX9_bestWorks 44 = .ok (.ireturn, 1) := zby_g zbyb_219 (i := 10) rfl rfl
noncomputable def zbyl_220 : List (Nat × zbyE) := [(0, zbyo_42), (1, zbyo_182 95), (4, zbyo_61), (5, zbyo_3), (6, zbyo_62), (7, zbyo_3), (8, zbyo_54 4), (10, zbyo_21 4), (12, zbyo_42), (13, zbyo_180 62), (16, zbyo_162 51), (19, zbyo_27), (20, zbyo_21 4), (22, zbyo_122), (23, zbyo_4), (24, zbyo_126)]
theorem zbyb_220 : zbys zbyl_220 (cX9_canBuild.data.toList.drop 0) 0 = true := by decide +kernel
theorem dX9_canBuild_0 : decode cX9_canBuild 0 = .ok (.aload_n 0, 1) := zby_g zbyb_220 (i := 0) rfl rfl
theorem dX9_canBuild_1 : decode cX9_canBuild 1 = .ok (.invokevirtual 95, 3) := zby_g zbyb_220 (i := 1) rfl rfl
theorem dX9_canBuild_4 : decode cX9_canBuild 4 = .ok (.istore_n 2, 1) := zby_g zbyb_220 (i := 2) rfl rfl
theorem dX9_canBuild_5 : decode cX9_canBuild 5 = .ok (.iconst 0, 1) := zby_g zbyb_220 (i := 3) rfl rfl
theorem dX9_canBuild_6 : decode cX9_canBuild 6 = .ok (.istore_n 3, 1) := zby_g zbyb_220 (i := 4) rfl rfl
theorem dX9_canBuild_7 : decode cX9_canBuild 7 = .ok (.iconst 0, 1) := zby_g zbyb_220 (i := 5) rfl rfl
theorem dX9_canBuild_8 : decode cX9_canBuild 8 = .ok (.istore 4, 2) := zby_g zbyb_220 (i := 6) rfl rfl
theorem dX9_canBuild_10 : decode cX9_canBuild 10 = .ok (.iload 4, 2) := zby_g zbyb_220 (i := 7) rfl rfl
theorem dX9_canBuild_12 : decode cX9_canBuild 12 = .ok (.aload_n 0, 1) := zby_g zbyb_220 (i := 8) rfl rfl
theorem dX9_canBuild_13 : decode cX9_canBuild 13 = .ok (.getfield 62, 3) := zby_g zbyb_220 (i := 9) rfl rfl
theorem dX9_canBuild_16 : decode cX9_canBuild 16 = .ok (.if_icmp .ge 51, 3) := zby_g zbyb_220 (i := 10) rfl rfl
theorem dX9_canBuild_19 : decode cX9_canBuild 19 = .ok (.iload_n 1, 1) := zby_g zbyb_220 (i := 11) rfl rfl
theorem dX9_canBuild_20 : decode cX9_canBuild 20 = .ok (.iload 4, 2) := zby_g zbyb_220 (i := 12) rfl rfl
theorem dX9_canBuild_22 : decode cX9_canBuild 22 = .ok (.ishr, 1) := zby_g zbyb_220 (i := 13) rfl rfl
theorem dX9_canBuild_23 : decode cX9_canBuild 23 = .ok (.iconst 1, 1) := zby_g zbyb_220 (i := 14) rfl rfl
theorem dX9_canBuild_24 : decode cX9_canBuild 24 = .ok (.iand, 1) := zby_g zbyb_220 (i := 15) rfl rfl
noncomputable def zbyl_221 : List (Nat × zbyE) := [(25, zbyo_153 36), (28, zbyo_42), (29, zbyo_180 53), (32, zbyo_21 4), (34, zbyo_46), (35, zbyo_154 14), (38, zbyo_42), (39, zbyo_180 47), (42, zbyo_21 4), (44, zbyo_46), (45, zbyo_28), (46, zbyo_164 5), (49, zbyo_3), (50, zbyo_172), (51, zbyo_29), (52, zbyo_42)]
theorem zbyb_221 : zbys zbyl_221 (cX9_canBuild.data.toList.drop 25) 25 = true := by decide +kernel
theorem dX9_canBuild_25 : decode cX9_canBuild 25 = .ok (.ifCond .eq 36, 3) := zby_g zbyb_221 (i := 0) rfl rfl
theorem dX9_canBuild_28 : decode cX9_canBuild 28 = .ok (.aload_n 0, 1) := zby_g zbyb_221 (i := 1) rfl rfl
theorem dX9_canBuild_29 : decode cX9_canBuild 29 = .ok (.getfield 53, 3) := zby_g zbyb_221 (i := 2) rfl rfl
theorem dX9_canBuild_32 : decode cX9_canBuild 32 = .ok (.iload 4, 2) := zby_g zbyb_221 (i := 3) rfl rfl
theorem dX9_canBuild_34 : decode cX9_canBuild 34 = .ok (.iaload, 1) := zby_g zbyb_221 (i := 4) rfl rfl
theorem dX9_canBuild_35 : decode cX9_canBuild 35 = .ok (.ifCond .ne 14, 3) := zby_g zbyb_221 (i := 5) rfl rfl
theorem dX9_canBuild_38 : decode cX9_canBuild 38 = .ok (.aload_n 0, 1) := zby_g zbyb_221 (i := 6) rfl rfl
theorem dX9_canBuild_39 : decode cX9_canBuild 39 = .ok (.getfield 47, 3) := zby_g zbyb_221 (i := 7) rfl rfl
theorem dX9_canBuild_42 : decode cX9_canBuild 42 = .ok (.iload 4, 2) := zby_g zbyb_221 (i := 8) rfl rfl
theorem dX9_canBuild_44 : decode cX9_canBuild 44 = .ok (.iaload, 1) := zby_g zbyb_221 (i := 9) rfl rfl
theorem dX9_canBuild_45 : decode cX9_canBuild 45 = .ok (.iload_n 2, 1) := zby_g zbyb_221 (i := 10) rfl rfl
theorem dX9_canBuild_46 : decode cX9_canBuild 46 = .ok (.if_icmp .le 5, 3) := zby_g zbyb_221 (i := 11) rfl rfl
theorem dX9_canBuild_49 : decode cX9_canBuild 49 = .ok (.iconst 0, 1) := zby_g zbyb_221 (i := 12) rfl rfl
theorem dX9_canBuild_50 : decode cX9_canBuild 50 = .ok (.ireturn, 1) := zby_g zbyb_221 (i := 13) rfl rfl
theorem dX9_canBuild_51 : decode cX9_canBuild 51 = .ok (.iload_n 3, 1) := zby_g zbyb_221 (i := 14) rfl rfl
theorem dX9_canBuild_52 : decode cX9_canBuild 52 = .ok (.aload_n 0, 1) := zby_g zbyb_221 (i := 15) rfl rfl
noncomputable def zbyl_222 : List (Nat × zbyE) := [(53, zbyo_180 44), (56, zbyo_21 4), (58, zbyo_46), (59, zbyo_96), (60, zbyo_62), (61, zbyo_132 4 1), (64, zbyo_167 (-54)), (67, zbyo_29), (68, zbyo_42), (69, zbyo_180 9), (72, zbyo_163 7), (75, zbyo_4), (76, zbyo_167 4), (79, zbyo_3), (80, zbyo_172)]
theorem zbyb_222 : zbys zbyl_222 (cX9_canBuild.data.toList.drop 53) 53 = true := by decide +kernel
theorem dX9_canBuild_53 : decode cX9_canBuild 53 = .ok (.getfield 44, 3) := zby_g zbyb_222 (i := 0) rfl rfl
theorem dX9_canBuild_56 : decode cX9_canBuild 56 = .ok (.iload 4, 2) := zby_g zbyb_222 (i := 1) rfl rfl
theorem dX9_canBuild_58 : decode cX9_canBuild 58 = .ok (.iaload, 1) := zby_g zbyb_222 (i := 2) rfl rfl
theorem dX9_canBuild_59 : decode cX9_canBuild 59 = .ok (.iadd, 1) := zby_g zbyb_222 (i := 3) rfl rfl
theorem dX9_canBuild_60 : decode cX9_canBuild 60 = .ok (.istore_n 3, 1) := zby_g zbyb_222 (i := 4) rfl rfl
theorem dX9_canBuild_61 : decode cX9_canBuild 61 = .ok (.iinc 4 1, 3) := zby_g zbyb_222 (i := 5) rfl rfl
theorem dX9_canBuild_64 : decode cX9_canBuild 64 = .ok (.goto (-54), 3) := zby_g zbyb_222 (i := 6) rfl rfl
theorem dX9_canBuild_67 : decode cX9_canBuild 67 = .ok (.iload_n 3, 1) := zby_g zbyb_222 (i := 7) rfl rfl
theorem dX9_canBuild_68 : decode cX9_canBuild 68 = .ok (.aload_n 0, 1) := zby_g zbyb_222 (i := 8) rfl rfl
theorem dX9_canBuild_69 : decode cX9_canBuild 69 = .ok (.getfield 9, 3) := zby_g zbyb_222 (i := 9) rfl rfl
theorem dX9_canBuild_72 : decode cX9_canBuild 72 = .ok (.if_icmp .gt 7, 3) := zby_g zbyb_222 (i := 10) rfl rfl
theorem dX9_canBuild_75 : decode cX9_canBuild 75 = .ok (.iconst 1, 1) := zby_g zbyb_222 (i := 11) rfl rfl
theorem dX9_canBuild_76 : decode cX9_canBuild 76 = .ok (.goto 4, 3) := zby_g zbyb_222 (i := 12) rfl rfl
theorem dX9_canBuild_79 : decode cX9_canBuild 79 = .ok (.iconst 0, 1) := zby_g zbyb_222 (i := 13) rfl rfl
theorem dX9_canBuild_80 : decode cX9_canBuild 80 = .ok (.ireturn, 1) := zby_g zbyb_222 (i := 14) rfl rfl
noncomputable def zbyl_223 : List (Nat × zbyE) := [(0, zbyo_3), (1, zbyo_61), (2, zbyo_3), (3, zbyo_62), (4, zbyo_29), (5, zbyo_42), (6, zbyo_180 62), (9, zbyo_162 26), (12, zbyo_27), (13, zbyo_29), (14, zbyo_122), (15, zbyo_4), (16, zbyo_126), (17, zbyo_153 12), (20, zbyo_28), (21, zbyo_42)]
theorem zbyb_223 : zbys zbyl_223 (cX9_gainOf.data.toList.drop 0) 0 = true := by decide +kernel
theorem dX9_gainOf_0 : decode cX9_gainOf 0 = .ok (.iconst 0, 1) := zby_g zbyb_223 (i := 0) rfl rfl
theorem dX9_gainOf_1 : decode cX9_gainOf 1 = .ok (.istore_n 2, 1) := zby_g zbyb_223 (i := 1) rfl rfl
theorem dX9_gainOf_2 : decode cX9_gainOf 2 = .ok (.iconst 0, 1) := zby_g zbyb_223 (i := 2) rfl rfl
theorem dX9_gainOf_3 : decode cX9_gainOf 3 = .ok (.istore_n 3, 1) := zby_g zbyb_223 (i := 3) rfl rfl
theorem dX9_gainOf_4 : decode cX9_gainOf 4 = .ok (.iload_n 3, 1) := zby_g zbyb_223 (i := 4) rfl rfl
theorem dX9_gainOf_5 : decode cX9_gainOf 5 = .ok (.aload_n 0, 1) := zby_g zbyb_223 (i := 5) rfl rfl
theorem dX9_gainOf_6 : decode cX9_gainOf 6 = .ok (.getfield 62, 3) := zby_g zbyb_223 (i := 6) rfl rfl
theorem dX9_gainOf_9 : decode cX9_gainOf 9 = .ok (.if_icmp .ge 26, 3) := zby_g zbyb_223 (i := 7) rfl rfl
theorem dX9_gainOf_12 : decode cX9_gainOf 12 = .ok (.iload_n 1, 1) := zby_g zbyb_223 (i := 8) rfl rfl
theorem dX9_gainOf_13 : decode cX9_gainOf 13 = .ok (.iload_n 3, 1) := zby_g zbyb_223 (i := 9) rfl rfl
theorem dX9_gainOf_14 : decode cX9_gainOf 14 = .ok (.ishr, 1) := zby_g zbyb_223 (i := 10) rfl rfl
theorem dX9_gainOf_15 : decode cX9_gainOf 15 = .ok (.iconst 1, 1) := zby_g zbyb_223 (i := 11) rfl rfl
theorem dX9_gainOf_16 : decode cX9_gainOf 16 = .ok (.iand, 1) := zby_g zbyb_223 (i := 12) rfl rfl
theorem dX9_gainOf_17 : decode cX9_gainOf 17 = .ok (.ifCond .eq 12, 3) := zby_g zbyb_223 (i := 13) rfl rfl
theorem dX9_gainOf_20 : decode cX9_gainOf 20 = .ok (.iload_n 2, 1) := zby_g zbyb_223 (i := 14) rfl rfl
theorem dX9_gainOf_21 : decode cX9_gainOf 21 = .ok (.aload_n 0, 1) := zby_g zbyb_223 (i := 15) rfl rfl
noncomputable def zbyl_224 : List (Nat × zbyE) := [(22, zbyo_180 50), (25, zbyo_29), (26, zbyo_46), (27, zbyo_96), (28, zbyo_61), (29, zbyo_132 3 1), (32, zbyo_167 (-28)), (35, zbyo_28), (36, zbyo_172)]
theorem zbyb_224 : zbys zbyl_224 (cX9_gainOf.data.toList.drop 22) 22 = true := by decide +kernel
theorem dX9_gainOf_22 : decode cX9_gainOf 22 = .ok (.getfield 50, 3) := zby_g zbyb_224 (i := 0) rfl rfl
theorem dX9_gainOf_25 : decode cX9_gainOf 25 = .ok (.iload_n 3, 1) := zby_g zbyb_224 (i := 1) rfl rfl
theorem dX9_gainOf_26 : decode cX9_gainOf 26 = .ok (.iaload, 1) := zby_g zbyb_224 (i := 2) rfl rfl
theorem dX9_gainOf_27 : decode cX9_gainOf 27 = .ok (.iadd, 1) := zby_g zbyb_224 (i := 3) rfl rfl
theorem dX9_gainOf_28 : decode cX9_gainOf 28 = .ok (.istore_n 2, 1) := zby_g zbyb_224 (i := 4) rfl rfl
theorem dX9_gainOf_29 : decode cX9_gainOf 29 = .ok (.iinc 3 1, 3) := zby_g zbyb_224 (i := 5) rfl rfl
theorem dX9_gainOf_32 : decode cX9_gainOf 32 = .ok (.goto (-28), 3) := zby_g zbyb_224 (i := 6) rfl rfl
theorem dX9_gainOf_35 : decode cX9_gainOf 35 = .ok (.iload_n 2, 1) := zby_g zbyb_224 (i := 7) rfl rfl
theorem dX9_gainOf_36 : decode cX9_gainOf 36 = .ok (.ireturn, 1) := zby_g zbyb_224 (i := 8) rfl rfl
noncomputable def zbyl_225 : List (Nat × zbyE) := [(0, zbyo_42), (1, zbyo_180 24), (4, zbyo_27), (5, zbyo_42), (6, zbyo_42), (7, zbyo_180 24), (10, zbyo_27), (11, zbyo_46), (12, zbyo_28), (13, zbyo_96), (14, zbyo_182 122), (17, zbyo_79), (18, zbyo_177)]
theorem zbyb_225 : zbys zbyl_225 (cX9_raise.data.toList.drop 0) 0 = true := by decide +kernel
theorem dX9_raise_0 : decode cX9_raise 0 = .ok (.aload_n 0, 1) := zby_g zbyb_225 (i := 0) rfl rfl
theorem dX9_raise_1 : decode cX9_raise 1 = .ok (.getfield 24, 3) := zby_g zbyb_225 (i := 1) rfl rfl
theorem dX9_raise_4 : decode cX9_raise 4 = .ok (.iload_n 1, 1) := zby_g zbyb_225 (i := 2) rfl rfl
theorem dX9_raise_5 : decode cX9_raise 5 = .ok (.aload_n 0, 1) := zby_g zbyb_225 (i := 3) rfl rfl
theorem dX9_raise_6 : decode cX9_raise 6 = .ok (.aload_n 0, 1) := zby_g zbyb_225 (i := 4) rfl rfl
theorem dX9_raise_7 : decode cX9_raise 7 = .ok (.getfield 24, 3) := zby_g zbyb_225 (i := 5) rfl rfl
theorem dX9_raise_10 : decode cX9_raise 10 = .ok (.iload_n 1, 1) := zby_g zbyb_225 (i := 6) rfl rfl
theorem dX9_raise_11 : decode cX9_raise 11 = .ok (.iaload, 1) := zby_g zbyb_225 (i := 7) rfl rfl
theorem dX9_raise_12 : decode cX9_raise 12 = .ok (.iload_n 2, 1) := zby_g zbyb_225 (i := 8) rfl rfl
theorem dX9_raise_13 : decode cX9_raise 13 = .ok (.iadd, 1) := zby_g zbyb_225 (i := 9) rfl rfl
theorem dX9_raise_14 : decode cX9_raise 14 = .ok (.invokevirtual 122, 3) := zby_g zbyb_225 (i := 10) rfl rfl
theorem dX9_raise_17 : decode cX9_raise 17 = .ok (.iastore, 1) := zby_g zbyb_225 (i := 11) rfl rfl
theorem dX9_raise_18 : decode cX9_raise 18 = .ok (.return_, 1) := zby_g zbyb_225 (i := 12) rfl rfl
noncomputable def zbyl_226 : List (Nat × zbyE) := [(0, zbyo_3), (1, zbyo_16 99), (3, zbyo_27), (4, zbyo_184 125), (7, zbyo_184 111), (10, zbyo_172)]
theorem zbyb_226 : zbys zbyl_226 (cX9_within.data.toList.drop 0) 0 = true := by decide +kernel
theorem dX9_within_0 : decode cX9_within 0 = .ok (.iconst 0, 1) := zby_g zbyb_226 (i := 0) rfl rfl
theorem dX9_within_1 : decode cX9_within 1 = .ok (.bipush 99, 2) := zby_g zbyb_226 (i := 1) rfl rfl
theorem dX9_within_3 : decode cX9_within 3 = .ok (.iload_n 1, 1) := zby_g zbyb_226 (i := 2) rfl rfl
theorem dX9_within_4 : decode cX9_within 4 = .ok (.invokestatic 125, 3) := zby_g zbyb_226 (i := 3) rfl rfl
theorem dX9_within_7 : decode cX9_within 7 = .ok (.invokestatic 111, 3) := zby_g zbyb_226 (i := 4) rfl rfl
theorem dX9_within_10 : decode cX9_within 10 = .ok (.ireturn, 1) := zby_g zbyb_226 (i := 5) rfl rfl
noncomputable def zbyl_227 : List (Nat × zbyE) := [(0, zbyo_42), (1, zbyo_43), (2, zbyo_182 128), (5, zbyo_42), (6, zbyo_43), (7, zbyo_182 132), (10, zbyo_42), (11, zbyo_45), (12, zbyo_182 135), (15, zbyo_54 4), (17, zbyo_42), (18, zbyo_28), (19, zbyo_45), (20, zbyo_182 139), (23, zbyo_42), (24, zbyo_17 9999)]
theorem zbyb_227 : zbys zbyl_227 (cX9_passDay.data.toList.drop 0) 0 = true := by decide +kernel
theorem dX9_passDay_0 : decode cX9_passDay 0 = .ok (.aload_n 0, 1) := zby_g zbyb_227 (i := 0) rfl rfl
theorem dX9_passDay_1 : decode cX9_passDay 1 = .ok (.aload_n 1, 1) := zby_g zbyb_227 (i := 1) rfl rfl
theorem dX9_passDay_2 : decode cX9_passDay 2 = .ok (.invokevirtual 128, 3) := zby_g zbyb_227 (i := 2) rfl rfl
theorem dX9_passDay_5 : decode cX9_passDay 5 = .ok (.aload_n 0, 1) := zby_g zbyb_227 (i := 3) rfl rfl
theorem dX9_passDay_6 : decode cX9_passDay 6 = .ok (.aload_n 1, 1) := zby_g zbyb_227 (i := 4) rfl rfl
theorem dX9_passDay_7 : decode cX9_passDay 7 = .ok (.invokevirtual 132, 3) := zby_g zbyb_227 (i := 5) rfl rfl
theorem dX9_passDay_10 : decode cX9_passDay 10 = .ok (.aload_n 0, 1) := zby_g zbyb_227 (i := 6) rfl rfl
theorem dX9_passDay_11 : decode cX9_passDay 11 = .ok (.aload_n 3, 1) := zby_g zbyb_227 (i := 7) rfl rfl
theorem dX9_passDay_12 : decode cX9_passDay 12 = .ok (.invokevirtual 135, 3) := zby_g zbyb_227 (i := 8) rfl rfl
theorem dX9_passDay_15 : decode cX9_passDay 15 = .ok (.istore 4, 2) := zby_g zbyb_227 (i := 9) rfl rfl
theorem dX9_passDay_17 : decode cX9_passDay 17 = .ok (.aload_n 0, 1) := zby_g zbyb_227 (i := 10) rfl rfl
theorem dX9_passDay_18 : decode cX9_passDay 18 = .ok (.iload_n 2, 1) := zby_g zbyb_227 (i := 11) rfl rfl
theorem dX9_passDay_19 : decode cX9_passDay 19 = .ok (.aload_n 3, 1) := zby_g zbyb_227 (i := 12) rfl rfl
theorem dX9_passDay_20 : decode cX9_passDay 20 = .ok (.invokevirtual 139, 3) := zby_g zbyb_227 (i := 13) rfl rfl
theorem dX9_passDay_23 : decode cX9_passDay 23 = .ok (.aload_n 0, 1) := zby_g zbyb_227 (i := 14) rfl rfl
theorem dX9_passDay_24 : decode cX9_passDay 24 = .ok (.sipush 9999, 3) := zby_g zbyb_227 (i := 15) rfl rfl
noncomputable def zbyl_228 : List (Nat × zbyE) := [(27, zbyo_42), (28, zbyo_180 68), (31, zbyo_4), (32, zbyo_96), (33, zbyo_184 125), (36, zbyo_181 68), (39, zbyo_21 4), (41, zbyo_172)]
theorem zbyb_228 : zbys zbyl_228 (cX9_passDay.data.toList.drop 27) 27 = true := by decide +kernel
theorem dX9_passDay_27 : decode cX9_passDay 27 = .ok (.aload_n 0, 1) := zby_g zbyb_228 (i := 0) rfl rfl
theorem dX9_passDay_28 : decode cX9_passDay 28 = .ok (.getfield 68, 3) := zby_g zbyb_228 (i := 1) rfl rfl
theorem dX9_passDay_31 : decode cX9_passDay 31 = .ok (.iconst 1, 1) := zby_g zbyb_228 (i := 2) rfl rfl
theorem dX9_passDay_32 : decode cX9_passDay 32 = .ok (.iadd, 1) := zby_g zbyb_228 (i := 3) rfl rfl
theorem dX9_passDay_33 : decode cX9_passDay 33 = .ok (.invokestatic 125, 3) := zby_g zbyb_228 (i := 4) rfl rfl
theorem dX9_passDay_36 : decode cX9_passDay 36 = .ok (.putfield 68, 3) := zby_g zbyb_228 (i := 5) rfl rfl
theorem dX9_passDay_39 : decode cX9_passDay 39 = .ok (.iload 4, 2) := zby_g zbyb_228 (i := 6) rfl rfl
theorem dX9_passDay_41 : decode cX9_passDay 41 = .ok (.ireturn, 1) := zby_g zbyb_228 (i := 7) rfl rfl
noncomputable def zbyl_229 : List (Nat × zbyE) := [(0, zbyo_43), (1, zbyo_42), (2, zbyo_182 98), (5, zbyo_42), (6, zbyo_4), (7, zbyo_182 143), (10, zbyo_184 89), (13, zbyo_42), (14, zbyo_180 68), (17, zbyo_182 146), (20, zbyo_177)]
theorem zbyb_229 : zbys zbyl_229 (cX9_showTo.data.toList.drop 0) 0 = true := by decide +kernel
theorem dX9_showTo_0 : decode cX9_showTo 0 = .ok (.aload_n 1, 1) := zby_g zbyb_229 (i := 0) rfl rfl
theorem dX9_showTo_1 : decode cX9_showTo 1 = .ok (.aload_n 0, 1) := zby_g zbyb_229 (i := 1) rfl rfl
theorem dX9_showTo_2 : decode cX9_showTo 2 = .ok (.invokevirtual 98, 3) := zby_g zbyb_229 (i := 2) rfl rfl
theorem dX9_showTo_5 : decode cX9_showTo 5 = .ok (.aload_n 0, 1) := zby_g zbyb_229 (i := 3) rfl rfl
theorem dX9_showTo_6 : decode cX9_showTo 6 = .ok (.iconst 1, 1) := zby_g zbyb_229 (i := 4) rfl rfl
theorem dX9_showTo_7 : decode cX9_showTo 7 = .ok (.invokevirtual 143, 3) := zby_g zbyb_229 (i := 5) rfl rfl
theorem dX9_showTo_10 : decode cX9_showTo 10 = .ok (.invokestatic 89, 3) := zby_g zbyb_229 (i := 6) rfl rfl
theorem dX9_showTo_13 : decode cX9_showTo 13 = .ok (.aload_n 0, 1) := zby_g zbyb_229 (i := 7) rfl rfl
theorem dX9_showTo_14 : decode cX9_showTo 14 = .ok (.getfield 68, 3) := zby_g zbyb_229 (i := 8) rfl rfl
theorem dX9_showTo_17 : decode cX9_showTo 17 = .ok (.invokevirtual 146, 3) := zby_g zbyb_229 (i := 9) rfl rfl
theorem dX9_showTo_20 : decode cX9_showTo 20 = .ok (.return_, 1) := zby_g zbyb_229 (i := 10) rfl rfl
noncomputable def zbyl_230 : List (Nat × zbyE) := [(0, zbyo_42), (1, zbyo_44), (2, zbyo_182 128), (5, zbyo_44), (6, zbyo_42), (7, zbyo_27), (8, zbyo_182 151), (11, zbyo_172)]
theorem zbyb_230 : zbys zbyl_230 (cX9_turnsOf.data.toList.drop 0) 0 = true := by decide +kernel
theorem dX9_turnsOf_0 : decode cX9_turnsOf 0 = .ok (.aload_n 0, 1) := zby_g zbyb_230 (i := 0) rfl rfl
theorem dX9_turnsOf_1 : decode cX9_turnsOf 1 = .ok (.aload_n 2, 1) := zby_g zbyb_230 (i := 1) rfl rfl
theorem dX9_turnsOf_2 : decode cX9_turnsOf 2 = .ok (.invokevirtual 128, 3) := zby_g zbyb_230 (i := 2) rfl rfl
theorem dX9_turnsOf_5 : decode cX9_turnsOf 5 = .ok (.aload_n 2, 1) := zby_g zbyb_230 (i := 3) rfl rfl
theorem dX9_turnsOf_6 : decode cX9_turnsOf 6 = .ok (.aload_n 0, 1) := zby_g zbyb_230 (i := 4) rfl rfl
theorem dX9_turnsOf_7 : decode cX9_turnsOf 7 = .ok (.iload_n 1, 1) := zby_g zbyb_230 (i := 5) rfl rfl
theorem dX9_turnsOf_8 : decode cX9_turnsOf 8 = .ok (.invokevirtual 151, 3) := zby_g zbyb_230 (i := 6) rfl rfl
theorem dX9_turnsOf_11 : decode cX9_turnsOf 11 = .ok (.ireturn, 1) := zby_g zbyb_230 (i := 7) rfl rfl
noncomputable def zbyl_231 : List (Nat × zbyE) := [(0, zbyo_3), (1, zbyo_61), (2, zbyo_28), (3, zbyo_42), (4, zbyo_180 59), (7, zbyo_162 61), (10, zbyo_42), (11, zbyo_28), (12, zbyo_182 81), (15, zbyo_153 35), (18, zbyo_42), (19, zbyo_180 56), (22, zbyo_28), (23, zbyo_42), (24, zbyo_42), (25, zbyo_180 24)]
theorem zbyb_231 : zbys zbyl_231 (cX9_turnBeliefs.data.toList.drop 0) 0 = true := by decide +kernel
theorem dX9_turnBeliefs_0 : decode cX9_turnBeliefs 0 = .ok (.iconst 0, 1) := zby_g zbyb_231 (i := 0) rfl rfl
theorem dX9_turnBeliefs_1 : decode cX9_turnBeliefs 1 = .ok (.istore_n 2, 1) := zby_g zbyb_231 (i := 1) rfl rfl
theorem dX9_turnBeliefs_2 : decode cX9_turnBeliefs 2 = .ok (.iload_n 2, 1) := zby_g zbyb_231 (i := 2) rfl rfl
theorem dX9_turnBeliefs_3 : decode cX9_turnBeliefs 3 = .ok (.aload_n 0, 1) := zby_g zbyb_231 (i := 3) rfl rfl
theorem dX9_turnBeliefs_4 : decode cX9_turnBeliefs 4 = .ok (.getfield 59, 3) := zby_g zbyb_231 (i := 4) rfl rfl
theorem dX9_turnBeliefs_7 : decode cX9_turnBeliefs 7 = .ok (.if_icmp .ge 61, 3) := zby_g zbyb_231 (i := 5) rfl rfl
theorem dX9_turnBeliefs_10 : decode cX9_turnBeliefs 10 = .ok (.aload_n 0, 1) := zby_g zbyb_231 (i := 6) rfl rfl
theorem dX9_turnBeliefs_11 : decode cX9_turnBeliefs 11 = .ok (.iload_n 2, 1) := zby_g zbyb_231 (i := 7) rfl rfl
theorem dX9_turnBeliefs_12 : decode cX9_turnBeliefs 12 = .ok (.invokevirtual 81, 3) := zby_g zbyb_231 (i := 8) rfl rfl
theorem dX9_turnBeliefs_15 : decode cX9_turnBeliefs 15 = .ok (.ifCond .eq 35, 3) := zby_g zbyb_231 (i := 9) rfl rfl
theorem dX9_turnBeliefs_18 : decode cX9_turnBeliefs 18 = .ok (.aload_n 0, 1) := zby_g zbyb_231 (i := 10) rfl rfl
theorem dX9_turnBeliefs_19 : decode cX9_turnBeliefs 19 = .ok (.getfield 56, 3) := zby_g zbyb_231 (i := 11) rfl rfl
theorem dX9_turnBeliefs_22 : decode cX9_turnBeliefs 22 = .ok (.iload_n 2, 1) := zby_g zbyb_231 (i := 12) rfl rfl
theorem dX9_turnBeliefs_23 : decode cX9_turnBeliefs 23 = .ok (.aload_n 0, 1) := zby_g zbyb_231 (i := 13) rfl rfl
theorem dX9_turnBeliefs_24 : decode cX9_turnBeliefs 24 = .ok (.aload_n 0, 1) := zby_g zbyb_231 (i := 14) rfl rfl
theorem dX9_turnBeliefs_25 : decode cX9_turnBeliefs 25 = .ok (.getfield 24, 3) := zby_g zbyb_231 (i := 15) rfl rfl
noncomputable def zbyl_232 : List (Nat × zbyE) := [(28, zbyo_28), (29, zbyo_46), (30, zbyo_42), (31, zbyo_28), (32, zbyo_182 155), (35, zbyo_96), (36, zbyo_43), (37, zbyo_42), (38, zbyo_28), (39, zbyo_182 151), (42, zbyo_96), (43, zbyo_182 122), (46, zbyo_79), (47, zbyo_167 15), (50, zbyo_42), (51, zbyo_180 56)]
theorem zbyb_232 : zbys zbyl_232 (cX9_turnBeliefs.data.toList.drop 28) 28 = true := by decide +kernel
theorem dX9_turnBeliefs_28 : decode cX9_turnBeliefs 28 = .ok (.iload_n 2, 1) := zby_g zbyb_232 (i := 0) rfl rfl
theorem dX9_turnBeliefs_29 : decode cX9_turnBeliefs 29 = .ok (.iaload, 1) := zby_g zbyb_232 (i := 1) rfl rfl
theorem dX9_turnBeliefs_30 : decode cX9_turnBeliefs 30 = .ok (.aload_n 0, 1) := zby_g zbyb_232 (i := 2) rfl rfl
theorem dX9_turnBeliefs_31 : decode cX9_turnBeliefs 31 = .ok (.iload_n 2, 1) := zby_g zbyb_232 (i := 3) rfl rfl
theorem dX9_turnBeliefs_32 : decode cX9_turnBeliefs 32 = .ok (.invokevirtual 155, 3) := zby_g zbyb_232 (i := 4) rfl rfl
theorem dX9_turnBeliefs_35 : decode cX9_turnBeliefs 35 = .ok (.iadd, 1) := zby_g zbyb_232 (i := 5) rfl rfl
theorem dX9_turnBeliefs_36 : decode cX9_turnBeliefs 36 = .ok (.aload_n 1, 1) := zby_g zbyb_232 (i := 6) rfl rfl
theorem dX9_turnBeliefs_37 : decode cX9_turnBeliefs 37 = .ok (.aload_n 0, 1) := zby_g zbyb_232 (i := 7) rfl rfl
theorem dX9_turnBeliefs_38 : decode cX9_turnBeliefs 38 = .ok (.iload_n 2, 1) := zby_g zbyb_232 (i := 8) rfl rfl
theorem dX9_turnBeliefs_39 : decode cX9_turnBeliefs 39 = .ok (.invokevirtual 151, 3) := zby_g zbyb_232 (i := 9) rfl rfl
theorem dX9_turnBeliefs_42 : decode cX9_turnBeliefs 42 = .ok (.iadd, 1) := zby_g zbyb_232 (i := 10) rfl rfl
theorem dX9_turnBeliefs_43 : decode cX9_turnBeliefs 43 = .ok (.invokevirtual 122, 3) := zby_g zbyb_232 (i := 11) rfl rfl
theorem dX9_turnBeliefs_46 : decode cX9_turnBeliefs 46 = .ok (.iastore, 1) := zby_g zbyb_232 (i := 12) rfl rfl
theorem dX9_turnBeliefs_47 : decode cX9_turnBeliefs 47 = .ok (.goto 15, 3) := zby_g zbyb_232 (i := 13) rfl rfl
theorem dX9_turnBeliefs_50 : decode cX9_turnBeliefs 50 = .ok (.aload_n 0, 1) := zby_g zbyb_232 (i := 14) rfl rfl
theorem dX9_turnBeliefs_51 : decode cX9_turnBeliefs 51 = .ok (.getfield 56, 3) := zby_g zbyb_232 (i := 15) rfl rfl
noncomputable def zbyl_233 : List (Nat × zbyE) := [(54, zbyo_28), (55, zbyo_42), (56, zbyo_180 24), (59, zbyo_28), (60, zbyo_46), (61, zbyo_79), (62, zbyo_132 2 1), (65, zbyo_167 (-63)), (68, zbyo_42), (69, zbyo_180 56), (72, zbyo_3), (73, zbyo_42), (74, zbyo_180 24), (77, zbyo_3), (78, zbyo_42), (79, zbyo_180 59)]
theorem zbyb_233 : zbys zbyl_233 (cX9_turnBeliefs.data.toList.drop 54) 54 = true := by decide +kernel
theorem dX9_turnBeliefs_54 : decode cX9_turnBeliefs 54 = .ok (.iload_n 2, 1) := zby_g zbyb_233 (i := 0) rfl rfl
theorem dX9_turnBeliefs_55 : decode cX9_turnBeliefs 55 = .ok (.aload_n 0, 1) := zby_g zbyb_233 (i := 1) rfl rfl
theorem dX9_turnBeliefs_56 : decode cX9_turnBeliefs 56 = .ok (.getfield 24, 3) := zby_g zbyb_233 (i := 2) rfl rfl
theorem dX9_turnBeliefs_59 : decode cX9_turnBeliefs 59 = .ok (.iload_n 2, 1) := zby_g zbyb_233 (i := 3) rfl rfl
theorem dX9_turnBeliefs_60 : decode cX9_turnBeliefs 60 = .ok (.iaload, 1) := zby_g zbyb_233 (i := 4) rfl rfl
theorem dX9_turnBeliefs_61 : decode cX9_turnBeliefs 61 = .ok (.iastore, 1) := zby_g zbyb_233 (i := 5) rfl rfl
theorem dX9_turnBeliefs_62 : decode cX9_turnBeliefs 62 = .ok (.iinc 2 1, 3) := zby_g zbyb_233 (i := 6) rfl rfl
theorem dX9_turnBeliefs_65 : decode cX9_turnBeliefs 65 = .ok (.goto (-63), 3) := zby_g zbyb_233 (i := 7) rfl rfl
theorem dX9_turnBeliefs_68 : decode cX9_turnBeliefs 68 = .ok (.aload_n 0, 1) := zby_g zbyb_233 (i := 8) rfl rfl
theorem dX9_turnBeliefs_69 : decode cX9_turnBeliefs 69 = .ok (.getfield 56, 3) := zby_g zbyb_233 (i := 9) rfl rfl
theorem dX9_turnBeliefs_72 : decode cX9_turnBeliefs 72 = .ok (.iconst 0, 1) := zby_g zbyb_233 (i := 10) rfl rfl
theorem dX9_turnBeliefs_73 : decode cX9_turnBeliefs 73 = .ok (.aload_n 0, 1) := zby_g zbyb_233 (i := 11) rfl rfl
theorem dX9_turnBeliefs_74 : decode cX9_turnBeliefs 74 = .ok (.getfield 24, 3) := zby_g zbyb_233 (i := 12) rfl rfl
theorem dX9_turnBeliefs_77 : decode cX9_turnBeliefs 77 = .ok (.iconst 0, 1) := zby_g zbyb_233 (i := 13) rfl rfl
theorem dX9_turnBeliefs_78 : decode cX9_turnBeliefs 78 = .ok (.aload_n 0, 1) := zby_g zbyb_233 (i := 14) rfl rfl
theorem dX9_turnBeliefs_79 : decode cX9_turnBeliefs 79 = .ok (.getfield 59, 3) := zby_g zbyb_233 (i := 15) rfl rfl
noncomputable def zbyl_234 : List (Nat × zbyE) := [(82, zbyo_184 71), (85, zbyo_177)]
theorem zbyb_234 : zbys zbyl_234 (cX9_turnBeliefs.data.toList.drop 82) 82 = true := by decide +kernel
theorem dX9_turnBeliefs_82 : decode cX9_turnBeliefs 82 = .ok (.invokestatic 71, 3) := zby_g zbyb_234 (i := 0) rfl rfl
theorem dX9_turnBeliefs_85 : decode cX9_turnBeliefs 85 = .ok (.return_, 1) := zby_g zbyb_234 (i := 1) rfl rfl
noncomputable def zbyl_235 : List (Nat × zbyE) := [(0, zbyo_42), (1, zbyo_182 95), (4, zbyo_61), (5, zbyo_3), (6, zbyo_62), (7, zbyo_3), (8, zbyo_54 4), (10, zbyo_21 4), (12, zbyo_42), (13, zbyo_180 62), (16, zbyo_162 156), (19, zbyo_42), (20, zbyo_180 53), (23, zbyo_21 4), (25, zbyo_46), (26, zbyo_154 63)]
theorem zbyb_235 : zbys zbyl_235 (cX9_keepWorks.data.toList.drop 0) 0 = true := by decide +kernel
theorem dX9_keepWorks_0 : decode cX9_keepWorks 0 = .ok (.aload_n 0, 1) := zby_g zbyb_235 (i := 0) rfl rfl
theorem dX9_keepWorks_1 : decode cX9_keepWorks 1 = .ok (.invokevirtual 95, 3) := zby_g zbyb_235 (i := 1) rfl rfl
theorem dX9_keepWorks_4 : decode cX9_keepWorks 4 = .ok (.istore_n 2, 1) := zby_g zbyb_235 (i := 2) rfl rfl
theorem dX9_keepWorks_5 : decode cX9_keepWorks 5 = .ok (.iconst 0, 1) := zby_g zbyb_235 (i := 3) rfl rfl
theorem dX9_keepWorks_6 : decode cX9_keepWorks 6 = .ok (.istore_n 3, 1) := zby_g zbyb_235 (i := 4) rfl rfl
theorem dX9_keepWorks_7 : decode cX9_keepWorks 7 = .ok (.iconst 0, 1) := zby_g zbyb_235 (i := 5) rfl rfl
theorem dX9_keepWorks_8 : decode cX9_keepWorks 8 = .ok (.istore 4, 2) := zby_g zbyb_235 (i := 6) rfl rfl
theorem dX9_keepWorks_10 : decode cX9_keepWorks 10 = .ok (.iload 4, 2) := zby_g zbyb_235 (i := 7) rfl rfl
theorem dX9_keepWorks_12 : decode cX9_keepWorks 12 = .ok (.aload_n 0, 1) := zby_g zbyb_235 (i := 8) rfl rfl
theorem dX9_keepWorks_13 : decode cX9_keepWorks 13 = .ok (.getfield 62, 3) := zby_g zbyb_235 (i := 9) rfl rfl
theorem dX9_keepWorks_16 : decode cX9_keepWorks 16 = .ok (.if_icmp .ge 156, 3) := zby_g zbyb_235 (i := 10) rfl rfl
theorem dX9_keepWorks_19 : decode cX9_keepWorks 19 = .ok (.aload_n 0, 1) := zby_g zbyb_235 (i := 11) rfl rfl
theorem dX9_keepWorks_20 : decode cX9_keepWorks 20 = .ok (.getfield 53, 3) := zby_g zbyb_235 (i := 12) rfl rfl
theorem dX9_keepWorks_23 : decode cX9_keepWorks 23 = .ok (.iload 4, 2) := zby_g zbyb_235 (i := 13) rfl rfl
theorem dX9_keepWorks_25 : decode cX9_keepWorks 25 = .ok (.iaload, 1) := zby_g zbyb_235 (i := 14) rfl rfl
theorem dX9_keepWorks_26 : decode cX9_keepWorks 26 = .ok (.ifCond .ne 63, 3) := zby_g zbyb_235 (i := 15) rfl rfl
noncomputable def zbyl_236 : List (Nat × zbyE) := [(29, zbyo_28), (30, zbyo_42), (31, zbyo_180 47), (34, zbyo_21 4), (36, zbyo_46), (37, zbyo_161 52), (40, zbyo_42), (41, zbyo_180 9), (44, zbyo_42), (45, zbyo_180 44), (48, zbyo_21 4), (50, zbyo_46), (51, zbyo_161 38), (54, zbyo_42), (55, zbyo_180 53), (58, zbyo_21 4)]
theorem zbyb_236 : zbys zbyl_236 (cX9_keepWorks.data.toList.drop 29) 29 = true := by decide +kernel
theorem dX9_keepWorks_29 : decode cX9_keepWorks 29 = .ok (.iload_n 2, 1) := zby_g zbyb_236 (i := 0) rfl rfl
theorem dX9_keepWorks_30 : decode cX9_keepWorks 30 = .ok (.aload_n 0, 1) := zby_g zbyb_236 (i := 1) rfl rfl
theorem dX9_keepWorks_31 : decode cX9_keepWorks 31 = .ok (.getfield 47, 3) := zby_g zbyb_236 (i := 2) rfl rfl
theorem dX9_keepWorks_34 : decode cX9_keepWorks 34 = .ok (.iload 4, 2) := zby_g zbyb_236 (i := 3) rfl rfl
theorem dX9_keepWorks_36 : decode cX9_keepWorks 36 = .ok (.iaload, 1) := zby_g zbyb_236 (i := 4) rfl rfl
theorem dX9_keepWorks_37 : decode cX9_keepWorks 37 = .ok (.if_icmp .lt 52, 3) := zby_g zbyb_236 (i := 5) rfl rfl
theorem dX9_keepWorks_40 : decode cX9_keepWorks 40 = .ok (.aload_n 0, 1) := zby_g zbyb_236 (i := 6) rfl rfl
theorem dX9_keepWorks_41 : decode cX9_keepWorks 41 = .ok (.getfield 9, 3) := zby_g zbyb_236 (i := 7) rfl rfl
theorem dX9_keepWorks_44 : decode cX9_keepWorks 44 = .ok (.aload_n 0, 1) := zby_g zbyb_236 (i := 8) rfl rfl
theorem dX9_keepWorks_45 : decode cX9_keepWorks 45 = .ok (.getfield 44, 3) := zby_g zbyb_236 (i := 9) rfl rfl
theorem dX9_keepWorks_48 : decode cX9_keepWorks 48 = .ok (.iload 4, 2) := zby_g zbyb_236 (i := 10) rfl rfl
theorem dX9_keepWorks_50 : decode cX9_keepWorks 50 = .ok (.iaload, 1) := zby_g zbyb_236 (i := 11) rfl rfl
theorem dX9_keepWorks_51 : decode cX9_keepWorks 51 = .ok (.if_icmp .lt 38, 3) := zby_g zbyb_236 (i := 12) rfl rfl
theorem dX9_keepWorks_54 : decode cX9_keepWorks 54 = .ok (.aload_n 0, 1) := zby_g zbyb_236 (i := 13) rfl rfl
theorem dX9_keepWorks_55 : decode cX9_keepWorks 55 = .ok (.getfield 53, 3) := zby_g zbyb_236 (i := 14) rfl rfl
theorem dX9_keepWorks_58 : decode cX9_keepWorks 58 = .ok (.iload 4, 2) := zby_g zbyb_236 (i := 15) rfl rfl
noncomputable def zbyl_237 : List (Nat × zbyE) := [(60, zbyo_4), (61, zbyo_79), (62, zbyo_42), (63, zbyo_89), (64, zbyo_180 9), (67, zbyo_42), (68, zbyo_180 44), (71, zbyo_21 4), (73, zbyo_46), (74, zbyo_100), (75, zbyo_181 9), (78, zbyo_42), (79, zbyo_43), (80, zbyo_21 4), (82, zbyo_3), (83, zbyo_182 158)]
theorem zbyb_237 : zbys zbyl_237 (cX9_keepWorks.data.toList.drop 60) 60 = true := by decide +kernel
theorem dX9_keepWorks_60 : decode cX9_keepWorks 60 = .ok (.iconst 1, 1) := zby_g zbyb_237 (i := 0) rfl rfl
theorem dX9_keepWorks_61 : decode cX9_keepWorks 61 = .ok (.iastore, 1) := zby_g zbyb_237 (i := 1) rfl rfl
theorem dX9_keepWorks_62 : decode cX9_keepWorks 62 = .ok (.aload_n 0, 1) := zby_g zbyb_237 (i := 2) rfl rfl
theorem dX9_keepWorks_63 : decode cX9_keepWorks 63 = .ok (.dup, 1) := zby_g zbyb_237 (i := 3) rfl rfl
theorem dX9_keepWorks_64 : decode cX9_keepWorks 64 = .ok (.getfield 9, 3) := zby_g zbyb_237 (i := 4) rfl rfl
theorem dX9_keepWorks_67 : decode cX9_keepWorks 67 = .ok (.aload_n 0, 1) := zby_g zbyb_237 (i := 5) rfl rfl
theorem dX9_keepWorks_68 : decode cX9_keepWorks 68 = .ok (.getfield 44, 3) := zby_g zbyb_237 (i := 6) rfl rfl
theorem dX9_keepWorks_71 : decode cX9_keepWorks 71 = .ok (.iload 4, 2) := zby_g zbyb_237 (i := 7) rfl rfl
theorem dX9_keepWorks_73 : decode cX9_keepWorks 73 = .ok (.iaload, 1) := zby_g zbyb_237 (i := 8) rfl rfl
theorem dX9_keepWorks_74 : decode cX9_keepWorks 74 = .ok (.isub, 1) := zby_g zbyb_237 (i := 9) rfl rfl
theorem dX9_keepWorks_75 : decode cX9_keepWorks 75 = .ok (.putfield 9, 3) := zby_g zbyb_237 (i := 10) rfl rfl
theorem dX9_keepWorks_78 : decode cX9_keepWorks 78 = .ok (.aload_n 0, 1) := zby_g zbyb_237 (i := 11) rfl rfl
theorem dX9_keepWorks_79 : decode cX9_keepWorks 79 = .ok (.aload_n 1, 1) := zby_g zbyb_237 (i := 12) rfl rfl
theorem dX9_keepWorks_80 : decode cX9_keepWorks 80 = .ok (.iload 4, 2) := zby_g zbyb_237 (i := 13) rfl rfl
theorem dX9_keepWorks_82 : decode cX9_keepWorks 82 = .ok (.iconst 0, 1) := zby_g zbyb_237 (i := 14) rfl rfl
theorem dX9_keepWorks_83 : decode cX9_keepWorks 83 = .ok (.invokevirtual 158, 3) := zby_g zbyb_237 (i := 15) rfl rfl
noncomputable def zbyl_238 : List (Nat × zbyE) := [(86, zbyo_167 80), (89, zbyo_42), (90, zbyo_180 53), (93, zbyo_21 4), (95, zbyo_46), (96, zbyo_4), (97, zbyo_160 36), (100, zbyo_28), (101, zbyo_42), (102, zbyo_180 47), (105, zbyo_21 4), (107, zbyo_46), (108, zbyo_162 25), (111, zbyo_42), (112, zbyo_180 53), (115, zbyo_21 4)]
theorem zbyb_238 : zbys zbyl_238 (cX9_keepWorks.data.toList.drop 86) 86 = true := by decide +kernel
theorem dX9_keepWorks_86 : decode cX9_keepWorks 86 = .ok (.goto 80, 3) := zby_g zbyb_238 (i := 0) rfl rfl
theorem dX9_keepWorks_89 : decode cX9_keepWorks 89 = .ok (.aload_n 0, 1) := zby_g zbyb_238 (i := 1) rfl rfl
theorem dX9_keepWorks_90 : decode cX9_keepWorks 90 = .ok (.getfield 53, 3) := zby_g zbyb_238 (i := 2) rfl rfl
theorem dX9_keepWorks_93 : decode cX9_keepWorks 93 = .ok (.iload 4, 2) := zby_g zbyb_238 (i := 3) rfl rfl
theorem dX9_keepWorks_95 : decode cX9_keepWorks 95 = .ok (.iaload, 1) := zby_g zbyb_238 (i := 4) rfl rfl
theorem dX9_keepWorks_96 : decode cX9_keepWorks 96 = .ok (.iconst 1, 1) := zby_g zbyb_238 (i := 5) rfl rfl
theorem dX9_keepWorks_97 : decode cX9_keepWorks 97 = .ok (.if_icmp .ne 36, 3) := zby_g zbyb_238 (i := 6) rfl rfl
theorem dX9_keepWorks_100 : decode cX9_keepWorks 100 = .ok (.iload_n 2, 1) := zby_g zbyb_238 (i := 7) rfl rfl
theorem dX9_keepWorks_101 : decode cX9_keepWorks 101 = .ok (.aload_n 0, 1) := zby_g zbyb_238 (i := 8) rfl rfl
theorem dX9_keepWorks_102 : decode cX9_keepWorks 102 = .ok (.getfield 47, 3) := zby_g zbyb_238 (i := 9) rfl rfl
theorem dX9_keepWorks_105 : decode cX9_keepWorks 105 = .ok (.iload 4, 2) := zby_g zbyb_238 (i := 10) rfl rfl
theorem dX9_keepWorks_107 : decode cX9_keepWorks 107 = .ok (.iaload, 1) := zby_g zbyb_238 (i := 11) rfl rfl
theorem dX9_keepWorks_108 : decode cX9_keepWorks 108 = .ok (.if_icmp .ge 25, 3) := zby_g zbyb_238 (i := 12) rfl rfl
theorem dX9_keepWorks_111 : decode cX9_keepWorks 111 = .ok (.aload_n 0, 1) := zby_g zbyb_238 (i := 13) rfl rfl
theorem dX9_keepWorks_112 : decode cX9_keepWorks 112 = .ok (.getfield 53, 3) := zby_g zbyb_238 (i := 14) rfl rfl
theorem dX9_keepWorks_115 : decode cX9_keepWorks 115 = .ok (.iload 4, 2) := zby_g zbyb_238 (i := 15) rfl rfl
noncomputable def zbyl_239 : List (Nat × zbyE) := [(117, zbyo_5), (118, zbyo_79), (119, zbyo_132 3 1), (122, zbyo_42), (123, zbyo_43), (124, zbyo_21 4), (126, zbyo_4), (127, zbyo_182 158), (130, zbyo_167 36), (133, zbyo_42), (134, zbyo_180 53), (137, zbyo_21 4), (139, zbyo_46), (140, zbyo_4), (141, zbyo_160 25), (144, zbyo_42)]
theorem zbyb_239 : zbys zbyl_239 (cX9_keepWorks.data.toList.drop 117) 117 = true := by decide +kernel
theorem dX9_keepWorks_117 : decode cX9_keepWorks 117 = .ok (.iconst 2, 1) := zby_g zbyb_239 (i := 0) rfl rfl
theorem dX9_keepWorks_118 : decode cX9_keepWorks 118 = .ok (.iastore, 1) := zby_g zbyb_239 (i := 1) rfl rfl
theorem dX9_keepWorks_119 : decode cX9_keepWorks 119 = .ok (.iinc 3 1, 3) := zby_g zbyb_239 (i := 2) rfl rfl
theorem dX9_keepWorks_122 : decode cX9_keepWorks 122 = .ok (.aload_n 0, 1) := zby_g zbyb_239 (i := 3) rfl rfl
theorem dX9_keepWorks_123 : decode cX9_keepWorks 123 = .ok (.aload_n 1, 1) := zby_g zbyb_239 (i := 4) rfl rfl
theorem dX9_keepWorks_124 : decode cX9_keepWorks 124 = .ok (.iload 4, 2) := zby_g zbyb_239 (i := 5) rfl rfl
theorem dX9_keepWorks_126 : decode cX9_keepWorks 126 = .ok (.iconst 1, 1) := zby_g zbyb_239 (i := 6) rfl rfl
theorem dX9_keepWorks_127 : decode cX9_keepWorks 127 = .ok (.invokevirtual 158, 3) := zby_g zbyb_239 (i := 7) rfl rfl
theorem dX9_keepWorks_130 : decode cX9_keepWorks 130 = .ok (.goto 36, 3) := zby_g zbyb_239 (i := 8) rfl rfl
theorem dX9_keepWorks_133 : decode cX9_keepWorks 133 = .ok (.aload_n 0, 1) := zby_g zbyb_239 (i := 9) rfl rfl
theorem dX9_keepWorks_134 : decode cX9_keepWorks 134 = .ok (.getfield 53, 3) := zby_g zbyb_239 (i := 10) rfl rfl
theorem dX9_keepWorks_137 : decode cX9_keepWorks 137 = .ok (.iload 4, 2) := zby_g zbyb_239 (i := 11) rfl rfl
theorem dX9_keepWorks_139 : decode cX9_keepWorks 139 = .ok (.iaload, 1) := zby_g zbyb_239 (i := 12) rfl rfl
theorem dX9_keepWorks_140 : decode cX9_keepWorks 140 = .ok (.iconst 1, 1) := zby_g zbyb_239 (i := 13) rfl rfl
theorem dX9_keepWorks_141 : decode cX9_keepWorks 141 = .ok (.if_icmp .ne 25, 3) := zby_g zbyb_239 (i := 14) rfl rfl
theorem dX9_keepWorks_144 : decode cX9_keepWorks 144 = .ok (.aload_n 0, 1) := zby_g zbyb_239 (i := 15) rfl rfl
noncomputable def zbyl_240 : List (Nat × zbyE) := [(145, zbyo_17 9999), (148, zbyo_42), (149, zbyo_180 9), (152, zbyo_42), (153, zbyo_180 50), (156, zbyo_21 4), (158, zbyo_46), (159, zbyo_96), (160, zbyo_184 125), (163, zbyo_181 9), (166, zbyo_132 4 1), (169, zbyo_167 (-159)), (172, zbyo_29), (173, zbyo_172)]
theorem zbyb_240 : zbys zbyl_240 (cX9_keepWorks.data.toList.drop 145) 145 = true := by decide +kernel
theorem dX9_keepWorks_145 : decode cX9_keepWorks 145 = .ok (.sipush 9999, 3) := zby_g zbyb_240 (i := 0) rfl rfl
theorem dX9_keepWorks_148 : decode cX9_keepWorks 148 = .ok (.aload_n 0, 1) := zby_g zbyb_240 (i := 1) rfl rfl
theorem dX9_keepWorks_149 : decode cX9_keepWorks 149 = .ok (.getfield 9, 3) := zby_g zbyb_240 (i := 2) rfl rfl
theorem dX9_keepWorks_152 : decode cX9_keepWorks 152 = .ok (.aload_n 0, 1) := zby_g zbyb_240 (i := 3) rfl rfl
theorem dX9_keepWorks_153 : decode cX9_keepWorks 153 = .ok (.getfield 50, 3) := zby_g zbyb_240 (i := 4) rfl rfl
theorem dX9_keepWorks_156 : decode cX9_keepWorks 156 = .ok (.iload 4, 2) := zby_g zbyb_240 (i := 5) rfl rfl
theorem dX9_keepWorks_158 : decode cX9_keepWorks 158 = .ok (.iaload, 1) := zby_g zbyb_240 (i := 6) rfl rfl
theorem dX9_keepWorks_159 : decode cX9_keepWorks 159 = .ok (.iadd, 1) := zby_g zbyb_240 (i := 7) rfl rfl
theorem dX9_keepWorks_160 : decode cX9_keepWorks 160 = .ok (.invokestatic 125, 3) := zby_g zbyb_240 (i := 8) rfl rfl
theorem dX9_keepWorks_163 : decode cX9_keepWorks 163 = .ok (.putfield 9, 3) := zby_g zbyb_240 (i := 9) rfl rfl
theorem dX9_keepWorks_166 : decode cX9_keepWorks 166 = .ok (.iinc 4 1, 3) := zby_g zbyb_240 (i := 10) rfl rfl
theorem dX9_keepWorks_169 : decode cX9_keepWorks 169 = .ok (.goto (-159), 3) := zby_g zbyb_240 (i := 11) rfl rfl
theorem dX9_keepWorks_172 : decode cX9_keepWorks 172 = .ok (.iload_n 3, 1) := zby_g zbyb_240 (i := 12) rfl rfl
theorem dX9_keepWorks_173 : decode cX9_keepWorks 173 = .ok (.ireturn, 1) := zby_g zbyb_240 (i := 13) rfl rfl
noncomputable def zbyl_241 : List (Nat × zbyE) := [(0, zbyo_3), (1, zbyo_62), (2, zbyo_29), (3, zbyo_42), (4, zbyo_180 59), (7, zbyo_162 85), (10, zbyo_42), (11, zbyo_29), (12, zbyo_182 81), (15, zbyo_154 71), (18, zbyo_42), (19, zbyo_180 34), (22, zbyo_29), (23, zbyo_46), (24, zbyo_42), (25, zbyo_180 68)]
theorem zbyb_241 : zbys zbyl_241 (cX9_comeBack.data.toList.drop 0) 0 = true := by decide +kernel
theorem dX9_comeBack_0 : decode cX9_comeBack 0 = .ok (.iconst 0, 1) := zby_g zbyb_241 (i := 0) rfl rfl
theorem dX9_comeBack_1 : decode cX9_comeBack 1 = .ok (.istore_n 3, 1) := zby_g zbyb_241 (i := 1) rfl rfl
theorem dX9_comeBack_2 : decode cX9_comeBack 2 = .ok (.iload_n 3, 1) := zby_g zbyb_241 (i := 2) rfl rfl
theorem dX9_comeBack_3 : decode cX9_comeBack 3 = .ok (.aload_n 0, 1) := zby_g zbyb_241 (i := 3) rfl rfl
theorem dX9_comeBack_4 : decode cX9_comeBack 4 = .ok (.getfield 59, 3) := zby_g zbyb_241 (i := 4) rfl rfl
theorem dX9_comeBack_7 : decode cX9_comeBack 7 = .ok (.if_icmp .ge 85, 3) := zby_g zbyb_241 (i := 5) rfl rfl
theorem dX9_comeBack_10 : decode cX9_comeBack 10 = .ok (.aload_n 0, 1) := zby_g zbyb_241 (i := 6) rfl rfl
theorem dX9_comeBack_11 : decode cX9_comeBack 11 = .ok (.iload_n 3, 1) := zby_g zbyb_241 (i := 7) rfl rfl
theorem dX9_comeBack_12 : decode cX9_comeBack 12 = .ok (.invokevirtual 81, 3) := zby_g zbyb_241 (i := 8) rfl rfl
theorem dX9_comeBack_15 : decode cX9_comeBack 15 = .ok (.ifCond .ne 71, 3) := zby_g zbyb_241 (i := 9) rfl rfl
theorem dX9_comeBack_18 : decode cX9_comeBack 18 = .ok (.aload_n 0, 1) := zby_g zbyb_241 (i := 10) rfl rfl
theorem dX9_comeBack_19 : decode cX9_comeBack 19 = .ok (.getfield 34, 3) := zby_g zbyb_241 (i := 11) rfl rfl
theorem dX9_comeBack_22 : decode cX9_comeBack 22 = .ok (.iload_n 3, 1) := zby_g zbyb_241 (i := 12) rfl rfl
theorem dX9_comeBack_23 : decode cX9_comeBack 23 = .ok (.iaload, 1) := zby_g zbyb_241 (i := 13) rfl rfl
theorem dX9_comeBack_24 : decode cX9_comeBack 24 = .ok (.aload_n 0, 1) := zby_g zbyb_241 (i := 14) rfl rfl
theorem dX9_comeBack_25 : decode cX9_comeBack 25 = .ok (.getfield 68, 3) := zby_g zbyb_241 (i := 15) rfl rfl
noncomputable def zbyl_242 : List (Nat × zbyE) := [(28, zbyo_163 58), (31, zbyo_42), (32, zbyo_180 34), (35, zbyo_29), (36, zbyo_2), (37, zbyo_79), (38, zbyo_27), (39, zbyo_153 47), (42, zbyo_42), (43, zbyo_182 162), (46, zbyo_16 100), (48, zbyo_112), (49, zbyo_42), (50, zbyo_180 18), (53, zbyo_162 7), (56, zbyo_4)]
theorem zbyb_242 : zbys zbyl_242 (cX9_comeBack.data.toList.drop 28) 28 = true := by decide +kernel
theorem dX9_comeBack_28 : decode cX9_comeBack 28 = .ok (.if_icmp .gt 58, 3) := zby_g zbyb_242 (i := 0) rfl rfl
theorem dX9_comeBack_31 : decode cX9_comeBack 31 = .ok (.aload_n 0, 1) := zby_g zbyb_242 (i := 1) rfl rfl
theorem dX9_comeBack_32 : decode cX9_comeBack 32 = .ok (.getfield 34, 3) := zby_g zbyb_242 (i := 2) rfl rfl
theorem dX9_comeBack_35 : decode cX9_comeBack 35 = .ok (.iload_n 3, 1) := zby_g zbyb_242 (i := 3) rfl rfl
theorem dX9_comeBack_36 : decode cX9_comeBack 36 = .ok (.iconst (-1), 1) := zby_g zbyb_242 (i := 4) rfl rfl
theorem dX9_comeBack_37 : decode cX9_comeBack 37 = .ok (.iastore, 1) := zby_g zbyb_242 (i := 5) rfl rfl
theorem dX9_comeBack_38 : decode cX9_comeBack 38 = .ok (.iload_n 1, 1) := zby_g zbyb_242 (i := 6) rfl rfl
theorem dX9_comeBack_39 : decode cX9_comeBack 39 = .ok (.ifCond .eq 47, 3) := zby_g zbyb_242 (i := 7) rfl rfl
theorem dX9_comeBack_42 : decode cX9_comeBack 42 = .ok (.aload_n 0, 1) := zby_g zbyb_242 (i := 8) rfl rfl
theorem dX9_comeBack_43 : decode cX9_comeBack 43 = .ok (.invokevirtual 162, 3) := zby_g zbyb_242 (i := 9) rfl rfl
theorem dX9_comeBack_46 : decode cX9_comeBack 46 = .ok (.bipush 100, 2) := zby_g zbyb_242 (i := 10) rfl rfl
theorem dX9_comeBack_48 : decode cX9_comeBack 48 = .ok (.irem, 1) := zby_g zbyb_242 (i := 11) rfl rfl
theorem dX9_comeBack_49 : decode cX9_comeBack 49 = .ok (.aload_n 0, 1) := zby_g zbyb_242 (i := 12) rfl rfl
theorem dX9_comeBack_50 : decode cX9_comeBack 50 = .ok (.getfield 18, 3) := zby_g zbyb_242 (i := 13) rfl rfl
theorem dX9_comeBack_53 : decode cX9_comeBack 53 = .ok (.if_icmp .ge 7, 3) := zby_g zbyb_242 (i := 14) rfl rfl
theorem dX9_comeBack_56 : decode cX9_comeBack 56 = .ok (.iconst 1, 1) := zby_g zbyb_242 (i := 15) rfl rfl
noncomputable def zbyl_243 : List (Nat × zbyE) := [(57, zbyo_167 4), (60, zbyo_3), (61, zbyo_54 4), (63, zbyo_42), (64, zbyo_29), (65, zbyo_21 4), (67, zbyo_182 165), (70, zbyo_42), (71, zbyo_44), (72, zbyo_29), (73, zbyo_21 4), (75, zbyo_153 7), (78, zbyo_5), (79, zbyo_167 4), (82, zbyo_6), (83, zbyo_182 158)]
theorem zbyb_243 : zbys zbyl_243 (cX9_comeBack.data.toList.drop 57) 57 = true := by decide +kernel
theorem dX9_comeBack_57 : decode cX9_comeBack 57 = .ok (.goto 4, 3) := zby_g zbyb_243 (i := 0) rfl rfl
theorem dX9_comeBack_60 : decode cX9_comeBack 60 = .ok (.iconst 0, 1) := zby_g zbyb_243 (i := 1) rfl rfl
theorem dX9_comeBack_61 : decode cX9_comeBack 61 = .ok (.istore 4, 2) := zby_g zbyb_243 (i := 2) rfl rfl
theorem dX9_comeBack_63 : decode cX9_comeBack 63 = .ok (.aload_n 0, 1) := zby_g zbyb_243 (i := 3) rfl rfl
theorem dX9_comeBack_64 : decode cX9_comeBack 64 = .ok (.iload_n 3, 1) := zby_g zbyb_243 (i := 4) rfl rfl
theorem dX9_comeBack_65 : decode cX9_comeBack 65 = .ok (.iload 4, 2) := zby_g zbyb_243 (i := 5) rfl rfl
theorem dX9_comeBack_67 : decode cX9_comeBack 67 = .ok (.invokevirtual 165, 3) := zby_g zbyb_243 (i := 6) rfl rfl
theorem dX9_comeBack_70 : decode cX9_comeBack 70 = .ok (.aload_n 0, 1) := zby_g zbyb_243 (i := 7) rfl rfl
theorem dX9_comeBack_71 : decode cX9_comeBack 71 = .ok (.aload_n 2, 1) := zby_g zbyb_243 (i := 8) rfl rfl
theorem dX9_comeBack_72 : decode cX9_comeBack 72 = .ok (.iload_n 3, 1) := zby_g zbyb_243 (i := 9) rfl rfl
theorem dX9_comeBack_73 : decode cX9_comeBack 73 = .ok (.iload 4, 2) := zby_g zbyb_243 (i := 10) rfl rfl
theorem dX9_comeBack_75 : decode cX9_comeBack 75 = .ok (.ifCond .eq 7, 3) := zby_g zbyb_243 (i := 11) rfl rfl
theorem dX9_comeBack_78 : decode cX9_comeBack 78 = .ok (.iconst 2, 1) := zby_g zbyb_243 (i := 12) rfl rfl
theorem dX9_comeBack_79 : decode cX9_comeBack 79 = .ok (.goto 4, 3) := zby_g zbyb_243 (i := 13) rfl rfl
theorem dX9_comeBack_82 : decode cX9_comeBack 82 = .ok (.iconst 3, 1) := zby_g zbyb_243 (i := 14) rfl rfl
theorem dX9_comeBack_83 : decode cX9_comeBack 83 = .ok (.invokevirtual 158, 3) := zby_g zbyb_243 (i := 15) rfl rfl
noncomputable def zbyl_244 : List (Nat × zbyE) := [(86, zbyo_132 3 1), (89, zbyo_167 (-87)), (92, zbyo_177)]
theorem zbyb_244 : zbys zbyl_244 (cX9_comeBack.data.toList.drop 86) 86 = true := by decide +kernel
theorem dX9_comeBack_86 : decode cX9_comeBack 86 = .ok (.iinc 3 1, 3) := zby_g zbyb_244 (i := 0) rfl rfl
theorem dX9_comeBack_89 : decode cX9_comeBack 89 = .ok (.goto (-87), 3) := zby_g zbyb_244 (i := 1) rfl rfl
theorem dX9_comeBack_92 : decode cX9_comeBack 92 = .ok (.return_, 1) := zby_g zbyb_244 (i := 2) rfl rfl
noncomputable def zbyl_245 : List (Nat × zbyE) := [(0, zbyo_42), (1, zbyo_18 169), (3, zbyo_42), (4, zbyo_180 21), (7, zbyo_104), (8, zbyo_17 12345), (11, zbyo_96), (12, zbyo_181 21), (15, zbyo_42), (16, zbyo_180 21), (19, zbyo_16 16), (21, zbyo_122), (22, zbyo_17 32767), (25, zbyo_126), (26, zbyo_172)]
theorem zbyb_245 : zbys zbyl_245 (cX9_draw.data.toList.drop 0) 0 = true := by decide +kernel
theorem dX9_draw_0 : decode cX9_draw 0 = .ok (.aload_n 0, 1) := zby_g zbyb_245 (i := 0) rfl rfl
theorem dX9_draw_1 : decode cX9_draw 1 = .ok (.ldc 169, 2) := zby_g zbyb_245 (i := 1) rfl rfl
theorem dX9_draw_3 : decode cX9_draw 3 = .ok (.aload_n 0, 1) := zby_g zbyb_245 (i := 2) rfl rfl
theorem dX9_draw_4 : decode cX9_draw 4 = .ok (.getfield 21, 3) := zby_g zbyb_245 (i := 3) rfl rfl
theorem dX9_draw_7 : decode cX9_draw 7 = .ok (.imul, 1) := zby_g zbyb_245 (i := 4) rfl rfl
theorem dX9_draw_8 : decode cX9_draw 8 = .ok (.sipush 12345, 3) := zby_g zbyb_245 (i := 5) rfl rfl
theorem dX9_draw_11 : decode cX9_draw 11 = .ok (.iadd, 1) := zby_g zbyb_245 (i := 6) rfl rfl
theorem dX9_draw_12 : decode cX9_draw 12 = .ok (.putfield 21, 3) := zby_g zbyb_245 (i := 7) rfl rfl
theorem dX9_draw_15 : decode cX9_draw 15 = .ok (.aload_n 0, 1) := zby_g zbyb_245 (i := 8) rfl rfl
theorem dX9_draw_16 : decode cX9_draw 16 = .ok (.getfield 21, 3) := zby_g zbyb_245 (i := 9) rfl rfl
theorem dX9_draw_19 : decode cX9_draw 19 = .ok (.bipush 16, 2) := zby_g zbyb_245 (i := 10) rfl rfl
theorem dX9_draw_21 : decode cX9_draw 21 = .ok (.ishr, 1) := zby_g zbyb_245 (i := 11) rfl rfl
theorem dX9_draw_22 : decode cX9_draw 22 = .ok (.sipush 32767, 3) := zby_g zbyb_245 (i := 12) rfl rfl
theorem dX9_draw_25 : decode cX9_draw 25 = .ok (.iand, 1) := zby_g zbyb_245 (i := 13) rfl rfl
theorem dX9_draw_26 : decode cX9_draw 26 = .ok (.ireturn, 1) := zby_g zbyb_245 (i := 14) rfl rfl
noncomputable def zbyl_246 : List (Nat × zbyE) := [(0, zbyo_3), (1, zbyo_62), (2, zbyo_29), (3, zbyo_42), (4, zbyo_180 59), (7, zbyo_162 47), (10, zbyo_29), (11, zbyo_27), (12, zbyo_159 36), (15, zbyo_42), (16, zbyo_29), (17, zbyo_182 81), (20, zbyo_153 28), (23, zbyo_42), (24, zbyo_29), (25, zbyo_28)]
theorem zbyb_246 : zbys zbyl_246 (cX9_spread.data.toList.drop 0) 0 = true := by decide +kernel
theorem dX9_spread_0 : decode cX9_spread 0 = .ok (.iconst 0, 1) := zby_g zbyb_246 (i := 0) rfl rfl
theorem dX9_spread_1 : decode cX9_spread 1 = .ok (.istore_n 3, 1) := zby_g zbyb_246 (i := 1) rfl rfl
theorem dX9_spread_2 : decode cX9_spread 2 = .ok (.iload_n 3, 1) := zby_g zbyb_246 (i := 2) rfl rfl
theorem dX9_spread_3 : decode cX9_spread 3 = .ok (.aload_n 0, 1) := zby_g zbyb_246 (i := 3) rfl rfl
theorem dX9_spread_4 : decode cX9_spread 4 = .ok (.getfield 59, 3) := zby_g zbyb_246 (i := 4) rfl rfl
theorem dX9_spread_7 : decode cX9_spread 7 = .ok (.if_icmp .ge 47, 3) := zby_g zbyb_246 (i := 5) rfl rfl
theorem dX9_spread_10 : decode cX9_spread 10 = .ok (.iload_n 3, 1) := zby_g zbyb_246 (i := 6) rfl rfl
theorem dX9_spread_11 : decode cX9_spread 11 = .ok (.iload_n 1, 1) := zby_g zbyb_246 (i := 7) rfl rfl
theorem dX9_spread_12 : decode cX9_spread 12 = .ok (.if_icmp .eq 36, 3) := zby_g zbyb_246 (i := 8) rfl rfl
theorem dX9_spread_15 : decode cX9_spread 15 = .ok (.aload_n 0, 1) := zby_g zbyb_246 (i := 9) rfl rfl
theorem dX9_spread_16 : decode cX9_spread 16 = .ok (.iload_n 3, 1) := zby_g zbyb_246 (i := 10) rfl rfl
theorem dX9_spread_17 : decode cX9_spread 17 = .ok (.invokevirtual 81, 3) := zby_g zbyb_246 (i := 11) rfl rfl
theorem dX9_spread_20 : decode cX9_spread 20 = .ok (.ifCond .eq 28, 3) := zby_g zbyb_246 (i := 12) rfl rfl
theorem dX9_spread_23 : decode cX9_spread 23 = .ok (.aload_n 0, 1) := zby_g zbyb_246 (i := 13) rfl rfl
theorem dX9_spread_24 : decode cX9_spread 24 = .ok (.iload_n 3, 1) := zby_g zbyb_246 (i := 14) rfl rfl
theorem dX9_spread_25 : decode cX9_spread 25 = .ok (.iload_n 2, 1) := zby_g zbyb_246 (i := 15) rfl rfl
noncomputable def zbyl_247 : List (Nat × zbyE) := [(26, zbyo_153 12), (29, zbyo_42), (30, zbyo_29), (31, zbyo_27), (32, zbyo_182 101), (35, zbyo_167 10), (38, zbyo_42), (39, zbyo_29), (40, zbyo_27), (41, zbyo_182 101), (44, zbyo_116), (45, zbyo_182 170), (48, zbyo_132 3 1), (51, zbyo_167 (-49)), (54, zbyo_42), (55, zbyo_180 24)]
theorem zbyb_247 : zbys zbyl_247 (cX9_spread.data.toList.drop 26) 26 = true := by decide +kernel
theorem dX9_spread_26 : decode cX9_spread 26 = .ok (.ifCond .eq 12, 3) := zby_g zbyb_247 (i := 0) rfl rfl
theorem dX9_spread_29 : decode cX9_spread 29 = .ok (.aload_n 0, 1) := zby_g zbyb_247 (i := 1) rfl rfl
theorem dX9_spread_30 : decode cX9_spread 30 = .ok (.iload_n 3, 1) := zby_g zbyb_247 (i := 2) rfl rfl
theorem dX9_spread_31 : decode cX9_spread 31 = .ok (.iload_n 1, 1) := zby_g zbyb_247 (i := 3) rfl rfl
theorem dX9_spread_32 : decode cX9_spread 32 = .ok (.invokevirtual 101, 3) := zby_g zbyb_247 (i := 4) rfl rfl
theorem dX9_spread_35 : decode cX9_spread 35 = .ok (.goto 10, 3) := zby_g zbyb_247 (i := 5) rfl rfl
theorem dX9_spread_38 : decode cX9_spread 38 = .ok (.aload_n 0, 1) := zby_g zbyb_247 (i := 6) rfl rfl
theorem dX9_spread_39 : decode cX9_spread 39 = .ok (.iload_n 3, 1) := zby_g zbyb_247 (i := 7) rfl rfl
theorem dX9_spread_40 : decode cX9_spread 40 = .ok (.iload_n 1, 1) := zby_g zbyb_247 (i := 8) rfl rfl
theorem dX9_spread_41 : decode cX9_spread 41 = .ok (.invokevirtual 101, 3) := zby_g zbyb_247 (i := 9) rfl rfl
theorem dX9_spread_44 : decode cX9_spread 44 = .ok (.ineg, 1) := zby_g zbyb_247 (i := 10) rfl rfl
theorem dX9_spread_45 : decode cX9_spread 45 = .ok (.invokevirtual 170, 3) := zby_g zbyb_247 (i := 11) rfl rfl
theorem dX9_spread_48 : decode cX9_spread 48 = .ok (.iinc 3 1, 3) := zby_g zbyb_247 (i := 12) rfl rfl
theorem dX9_spread_51 : decode cX9_spread 51 = .ok (.goto (-49), 3) := zby_g zbyb_247 (i := 13) rfl rfl
theorem dX9_spread_54 : decode cX9_spread 54 = .ok (.aload_n 0, 1) := zby_g zbyb_247 (i := 14) rfl rfl
theorem dX9_spread_55 : decode cX9_spread 55 = .ok (.getfield 24, 3) := zby_g zbyb_247 (i := 15) rfl rfl
noncomputable def zbyl_248 : List (Nat × zbyE) := [(58, zbyo_27), (59, zbyo_28), (60, zbyo_153 8), (63, zbyo_16 99), (65, zbyo_167 4), (68, zbyo_3), (69, zbyo_79), (70, zbyo_177)]
theorem zbyb_248 : zbys zbyl_248 (cX9_spread.data.toList.drop 58) 58 = true := by decide +kernel
theorem dX9_spread_58 : decode cX9_spread 58 = .ok (.iload_n 1, 1) := zby_g zbyb_248 (i := 0) rfl rfl
theorem dX9_spread_59 : decode cX9_spread 59 = .ok (.iload_n 2, 1) := zby_g zbyb_248 (i := 1) rfl rfl
theorem dX9_spread_60 : decode cX9_spread 60 = .ok (.ifCond .eq 8, 3) := zby_g zbyb_248 (i := 2) rfl rfl
theorem dX9_spread_63 : decode cX9_spread 63 = .ok (.bipush 99, 2) := zby_g zbyb_248 (i := 3) rfl rfl
theorem dX9_spread_65 : decode cX9_spread 65 = .ok (.goto 4, 3) := zby_g zbyb_248 (i := 4) rfl rfl
theorem dX9_spread_68 : decode cX9_spread 68 = .ok (.iconst 0, 1) := zby_g zbyb_248 (i := 5) rfl rfl
theorem dX9_spread_69 : decode cX9_spread 69 = .ok (.iastore, 1) := zby_g zbyb_248 (i := 6) rfl rfl
theorem dX9_spread_70 : decode cX9_spread 70 = .ok (.return_, 1) := zby_g zbyb_248 (i := 7) rfl rfl
noncomputable def zbyl_249 : List (Nat × zbyE) := [(0, zbyo_43), (1, zbyo_198 17), (4, zbyo_43), (5, zbyo_42), (6, zbyo_180 68), (9, zbyo_28), (10, zbyo_29), (11, zbyo_42), (12, zbyo_182 95), (15, zbyo_182 174), (18, zbyo_177)]
theorem zbyb_249 : zbys zbyl_249 (cX9_write.data.toList.drop 0) 0 = true := by decide +kernel
theorem dX9_write_0 : decode cX9_write 0 = .ok (.aload_n 1, 1) := zby_g zbyb_249 (i := 0) rfl rfl
theorem dX9_write_1 : decode cX9_write 1 = .ok (.ifnull 17, 3) := zby_g zbyb_249 (i := 1) rfl rfl
theorem dX9_write_4 : decode cX9_write 4 = .ok (.aload_n 1, 1) := zby_g zbyb_249 (i := 2) rfl rfl
theorem dX9_write_5 : decode cX9_write 5 = .ok (.aload_n 0, 1) := zby_g zbyb_249 (i := 3) rfl rfl
theorem dX9_write_6 : decode cX9_write 6 = .ok (.getfield 68, 3) := zby_g zbyb_249 (i := 4) rfl rfl
theorem dX9_write_9 : decode cX9_write 9 = .ok (.iload_n 2, 1) := zby_g zbyb_249 (i := 5) rfl rfl
theorem dX9_write_10 : decode cX9_write 10 = .ok (.iload_n 3, 1) := zby_g zbyb_249 (i := 6) rfl rfl
theorem dX9_write_11 : decode cX9_write 11 = .ok (.aload_n 0, 1) := zby_g zbyb_249 (i := 7) rfl rfl
theorem dX9_write_12 : decode cX9_write 12 = .ok (.invokevirtual 95, 3) := zby_g zbyb_249 (i := 8) rfl rfl
theorem dX9_write_15 : decode cX9_write 15 = .ok (.invokevirtual 174, 3) := zby_g zbyb_249 (i := 9) rfl rfl
theorem dX9_write_18 : decode cX9_write 18 = .ok (.return_, 1) := zby_g zbyb_249 (i := 10) rfl rfl
noncomputable def zbyl_250 : List (Nat × zbyE) := [(0, zbyo_42), (1, zbyo_43), (2, zbyo_183 3), (5, zbyo_42), (6, zbyo_187 9), (9, zbyo_89), (10, zbyo_183 11), (13, zbyo_181 14), (16, zbyo_177)]
theorem zbyb_250 : zbys zbyl_250 (cX10_init.data.toList.drop 0) 0 = true := by decide +kernel
theorem dX10_init_0 : decode cX10_init 0 = .ok (.aload_n 0, 1) := zby_g zbyb_250 (i := 0) rfl rfl
theorem dX10_init_1 : decode cX10_init 1 = .ok (.aload_n 1, 1) := zby_g zbyb_250 (i := 1) rfl rfl
theorem dX10_init_2 : decode cX10_init 2 = .ok (.invokespecial 3, 3) := zby_g zbyb_250 (i := 2) rfl rfl
theorem dX10_init_5 : decode cX10_init 5 = .ok (.aload_n 0, 1) := zby_g zbyb_250 (i := 3) rfl rfl
theorem dX10_init_6 : decode cX10_init 6 = .ok (.new 9, 3) := zby_g zbyb_250 (i := 4) rfl rfl
theorem dX10_init_9 : decode cX10_init 9 = .ok (.dup, 1) := zby_g zbyb_250 (i := 5) rfl rfl
theorem dX10_init_10 : decode cX10_init 10 = .ok (.invokespecial 11, 3) := zby_g zbyb_250 (i := 6) rfl rfl
theorem dX10_init_13 : decode cX10_init 13 = .ok (.putfield 14, 3) := zby_g zbyb_250 (i := 7) rfl rfl
theorem dX10_init_16 : decode cX10_init 16 = .ok (.return_, 1) := zby_g zbyb_250 (i := 8) rfl rfl
noncomputable def zbyl_251 : List (Nat × zbyE) := [(0, zbyo_42), (1, zbyo_180 20), (4, zbyo_18 24), (6, zbyo_182 26), (9, zbyo_153 8), (12, zbyo_42), (13, zbyo_182 32), (16, zbyo_172), (17, zbyo_42), (18, zbyo_180 20), (21, zbyo_18 36), (23, zbyo_182 26), (26, zbyo_153 8), (29, zbyo_42), (30, zbyo_182 38), (33, zbyo_172)]
theorem zbyb_251 : zbys zbyl_251 (cX10_readLine.data.toList.drop 0) 0 = true := by decide +kernel
theorem dX10_readLine_0 : decode cX10_readLine 0 = .ok (.aload_n 0, 1) := zby_g zbyb_251 (i := 0) rfl rfl
theorem dX10_readLine_1 : decode cX10_readLine 1 = .ok (.getfield 20, 3) := zby_g zbyb_251 (i := 1) rfl rfl
theorem dX10_readLine_4 : decode cX10_readLine 4 = .ok (.ldc 24, 2) := zby_g zbyb_251 (i := 2) rfl rfl
theorem dX10_readLine_6 : decode cX10_readLine 6 = .ok (.invokevirtual 26, 3) := zby_g zbyb_251 (i := 3) rfl rfl
theorem dX10_readLine_9 : decode cX10_readLine 9 = .ok (.ifCond .eq 8, 3) := zby_g zbyb_251 (i := 4) rfl rfl
theorem dX10_readLine_12 : decode cX10_readLine 12 = .ok (.aload_n 0, 1) := zby_g zbyb_251 (i := 5) rfl rfl
theorem dX10_readLine_13 : decode cX10_readLine 13 = .ok (.invokevirtual 32, 3) := zby_g zbyb_251 (i := 6) rfl rfl
theorem dX10_readLine_16 : decode cX10_readLine 16 = .ok (.ireturn, 1) := zby_g zbyb_251 (i := 7) rfl rfl
theorem dX10_readLine_17 : decode cX10_readLine 17 = .ok (.aload_n 0, 1) := zby_g zbyb_251 (i := 8) rfl rfl
theorem dX10_readLine_18 : decode cX10_readLine 18 = .ok (.getfield 20, 3) := zby_g zbyb_251 (i := 9) rfl rfl
theorem dX10_readLine_21 : decode cX10_readLine 21 = .ok (.ldc 36, 2) := zby_g zbyb_251 (i := 10) rfl rfl
theorem dX10_readLine_23 : decode cX10_readLine 23 = .ok (.invokevirtual 26, 3) := zby_g zbyb_251 (i := 11) rfl rfl
theorem dX10_readLine_26 : decode cX10_readLine 26 = .ok (.ifCond .eq 8, 3) := zby_g zbyb_251 (i := 12) rfl rfl
theorem dX10_readLine_29 : decode cX10_readLine 29 = .ok (.aload_n 0, 1) := zby_g zbyb_251 (i := 13) rfl rfl
theorem dX10_readLine_30 : decode cX10_readLine 30 = .ok (.invokevirtual 38, 3) := zby_g zbyb_251 (i := 14) rfl rfl
theorem dX10_readLine_33 : decode cX10_readLine 33 = .ok (.ireturn, 1) := zby_g zbyb_251 (i := 15) rfl rfl
noncomputable def zbyl_252 : List (Nat × zbyE) := [(34, zbyo_42), (35, zbyo_180 20), (38, zbyo_18 41), (40, zbyo_182 43), (43, zbyo_153 8), (46, zbyo_42), (47, zbyo_182 46), (50, zbyo_172), (51, zbyo_42), (52, zbyo_180 20), (55, zbyo_18 49), (57, zbyo_182 43), (60, zbyo_153 8), (63, zbyo_42), (64, zbyo_182 51), (67, zbyo_172)]
theorem zbyb_252 : zbys zbyl_252 (cX10_readLine.data.toList.drop 34) 34 = true := by decide +kernel
theorem dX10_readLine_34 : decode cX10_readLine 34 = .ok (.aload_n 0, 1) := zby_g zbyb_252 (i := 0) rfl rfl
theorem dX10_readLine_35 : decode cX10_readLine 35 = .ok (.getfield 20, 3) := zby_g zbyb_252 (i := 1) rfl rfl
theorem dX10_readLine_38 : decode cX10_readLine 38 = .ok (.ldc 41, 2) := zby_g zbyb_252 (i := 2) rfl rfl
theorem dX10_readLine_40 : decode cX10_readLine 40 = .ok (.invokevirtual 43, 3) := zby_g zbyb_252 (i := 3) rfl rfl
theorem dX10_readLine_43 : decode cX10_readLine 43 = .ok (.ifCond .eq 8, 3) := zby_g zbyb_252 (i := 4) rfl rfl
theorem dX10_readLine_46 : decode cX10_readLine 46 = .ok (.aload_n 0, 1) := zby_g zbyb_252 (i := 5) rfl rfl
theorem dX10_readLine_47 : decode cX10_readLine 47 = .ok (.invokevirtual 46, 3) := zby_g zbyb_252 (i := 6) rfl rfl
theorem dX10_readLine_50 : decode cX10_readLine 50 = .ok (.ireturn, 1) := zby_g zbyb_252 (i := 7) rfl rfl
theorem dX10_readLine_51 : decode cX10_readLine 51 = .ok (.aload_n 0, 1) := zby_g zbyb_252 (i := 8) rfl rfl
theorem dX10_readLine_52 : decode cX10_readLine 52 = .ok (.getfield 20, 3) := zby_g zbyb_252 (i := 9) rfl rfl
theorem dX10_readLine_55 : decode cX10_readLine 55 = .ok (.ldc 49, 2) := zby_g zbyb_252 (i := 10) rfl rfl
theorem dX10_readLine_57 : decode cX10_readLine 57 = .ok (.invokevirtual 43, 3) := zby_g zbyb_252 (i := 11) rfl rfl
theorem dX10_readLine_60 : decode cX10_readLine 60 = .ok (.ifCond .eq 8, 3) := zby_g zbyb_252 (i := 12) rfl rfl
theorem dX10_readLine_63 : decode cX10_readLine 63 = .ok (.aload_n 0, 1) := zby_g zbyb_252 (i := 13) rfl rfl
theorem dX10_readLine_64 : decode cX10_readLine 64 = .ok (.invokevirtual 51, 3) := zby_g zbyb_252 (i := 14) rfl rfl
theorem dX10_readLine_67 : decode cX10_readLine 67 = .ok (.ireturn, 1) := zby_g zbyb_252 (i := 15) rfl rfl
noncomputable def zbyl_253 : List (Nat × zbyE) := [(68, zbyo_42), (69, zbyo_180 20), (72, zbyo_18 54), (74, zbyo_182 43), (77, zbyo_153 34), (80, zbyo_42), (81, zbyo_180 20), (84, zbyo_3), (85, zbyo_17 999), (88, zbyo_182 56), (91, zbyo_60), (92, zbyo_42), (93, zbyo_180 14), (96, zbyo_27), (97, zbyo_181 60), (100, zbyo_27)]
theorem zbyb_253 : zbys zbyl_253 (cX10_readLine.data.toList.drop 68) 68 = true := by decide +kernel
theorem dX10_readLine_68 : decode cX10_readLine 68 = .ok (.aload_n 0, 1) := zby_g zbyb_253 (i := 0) rfl rfl
theorem dX10_readLine_69 : decode cX10_readLine 69 = .ok (.getfield 20, 3) := zby_g zbyb_253 (i := 1) rfl rfl
theorem dX10_readLine_72 : decode cX10_readLine 72 = .ok (.ldc 54, 2) := zby_g zbyb_253 (i := 2) rfl rfl
theorem dX10_readLine_74 : decode cX10_readLine 74 = .ok (.invokevirtual 43, 3) := zby_g zbyb_253 (i := 3) rfl rfl
theorem dX10_readLine_77 : decode cX10_readLine 77 = .ok (.ifCond .eq 34, 3) := zby_g zbyb_253 (i := 4) rfl rfl
theorem dX10_readLine_80 : decode cX10_readLine 80 = .ok (.aload_n 0, 1) := zby_g zbyb_253 (i := 5) rfl rfl
theorem dX10_readLine_81 : decode cX10_readLine 81 = .ok (.getfield 20, 3) := zby_g zbyb_253 (i := 6) rfl rfl
theorem dX10_readLine_84 : decode cX10_readLine 84 = .ok (.iconst 0, 1) := zby_g zbyb_253 (i := 7) rfl rfl
theorem dX10_readLine_85 : decode cX10_readLine 85 = .ok (.sipush 999, 3) := zby_g zbyb_253 (i := 8) rfl rfl
theorem dX10_readLine_88 : decode cX10_readLine 88 = .ok (.invokevirtual 56, 3) := zby_g zbyb_253 (i := 9) rfl rfl
theorem dX10_readLine_91 : decode cX10_readLine 91 = .ok (.istore_n 1, 1) := zby_g zbyb_253 (i := 10) rfl rfl
theorem dX10_readLine_92 : decode cX10_readLine 92 = .ok (.aload_n 0, 1) := zby_g zbyb_253 (i := 11) rfl rfl
theorem dX10_readLine_93 : decode cX10_readLine 93 = .ok (.getfield 14, 3) := zby_g zbyb_253 (i := 12) rfl rfl
theorem dX10_readLine_96 : decode cX10_readLine 96 = .ok (.iload_n 1, 1) := zby_g zbyb_253 (i := 13) rfl rfl
theorem dX10_readLine_97 : decode cX10_readLine 97 = .ok (.putfield 60, 3) := zby_g zbyb_253 (i := 14) rfl rfl
theorem dX10_readLine_100 : decode cX10_readLine 100 = .ok (.iload_n 1, 1) := zby_g zbyb_253 (i := 15) rfl rfl
noncomputable def zbyl_254 : List (Nat × zbyE) := [(101, zbyo_2), (102, zbyo_159 7), (105, zbyo_4), (106, zbyo_167 4), (109, zbyo_3), (110, zbyo_172), (111, zbyo_42), (112, zbyo_180 20), (115, zbyo_18 63), (117, zbyo_182 43), (120, zbyo_153 33), (123, zbyo_42), (124, zbyo_180 20), (127, zbyo_4), (128, zbyo_16 30), (130, zbyo_182 56)]
theorem zbyb_254 : zbys zbyl_254 (cX10_readLine.data.toList.drop 101) 101 = true := by decide +kernel
theorem dX10_readLine_101 : decode cX10_readLine 101 = .ok (.iconst (-1), 1) := zby_g zbyb_254 (i := 0) rfl rfl
theorem dX10_readLine_102 : decode cX10_readLine 102 = .ok (.if_icmp .eq 7, 3) := zby_g zbyb_254 (i := 1) rfl rfl
theorem dX10_readLine_105 : decode cX10_readLine 105 = .ok (.iconst 1, 1) := zby_g zbyb_254 (i := 2) rfl rfl
theorem dX10_readLine_106 : decode cX10_readLine 106 = .ok (.goto 4, 3) := zby_g zbyb_254 (i := 3) rfl rfl
theorem dX10_readLine_109 : decode cX10_readLine 109 = .ok (.iconst 0, 1) := zby_g zbyb_254 (i := 4) rfl rfl
theorem dX10_readLine_110 : decode cX10_readLine 110 = .ok (.ireturn, 1) := zby_g zbyb_254 (i := 5) rfl rfl
theorem dX10_readLine_111 : decode cX10_readLine 111 = .ok (.aload_n 0, 1) := zby_g zbyb_254 (i := 6) rfl rfl
theorem dX10_readLine_112 : decode cX10_readLine 112 = .ok (.getfield 20, 3) := zby_g zbyb_254 (i := 7) rfl rfl
theorem dX10_readLine_115 : decode cX10_readLine 115 = .ok (.ldc 63, 2) := zby_g zbyb_254 (i := 8) rfl rfl
theorem dX10_readLine_117 : decode cX10_readLine 117 = .ok (.invokevirtual 43, 3) := zby_g zbyb_254 (i := 9) rfl rfl
theorem dX10_readLine_120 : decode cX10_readLine 120 = .ok (.ifCond .eq 33, 3) := zby_g zbyb_254 (i := 10) rfl rfl
theorem dX10_readLine_123 : decode cX10_readLine 123 = .ok (.aload_n 0, 1) := zby_g zbyb_254 (i := 11) rfl rfl
theorem dX10_readLine_124 : decode cX10_readLine 124 = .ok (.getfield 20, 3) := zby_g zbyb_254 (i := 12) rfl rfl
theorem dX10_readLine_127 : decode cX10_readLine 127 = .ok (.iconst 1, 1) := zby_g zbyb_254 (i := 13) rfl rfl
theorem dX10_readLine_128 : decode cX10_readLine 128 = .ok (.bipush 30, 2) := zby_g zbyb_254 (i := 14) rfl rfl
theorem dX10_readLine_130 : decode cX10_readLine 130 = .ok (.invokevirtual 56, 3) := zby_g zbyb_254 (i := 15) rfl rfl
noncomputable def zbyl_255 : List (Nat × zbyE) := [(133, zbyo_60), (134, zbyo_42), (135, zbyo_180 14), (138, zbyo_27), (139, zbyo_181 65), (142, zbyo_27), (143, zbyo_2), (144, zbyo_159 7), (147, zbyo_4), (148, zbyo_167 4), (151, zbyo_3), (152, zbyo_172), (153, zbyo_42), (154, zbyo_180 20), (157, zbyo_18 67), (159, zbyo_182 43)]
theorem zbyb_255 : zbys zbyl_255 (cX10_readLine.data.toList.drop 133) 133 = true := by decide +kernel
theorem dX10_readLine_133 : decode cX10_readLine 133 = .ok (.istore_n 1, 1) := zby_g zbyb_255 (i := 0) rfl rfl
theorem dX10_readLine_134 : decode cX10_readLine 134 = .ok (.aload_n 0, 1) := zby_g zbyb_255 (i := 1) rfl rfl
theorem dX10_readLine_135 : decode cX10_readLine 135 = .ok (.getfield 14, 3) := zby_g zbyb_255 (i := 2) rfl rfl
theorem dX10_readLine_138 : decode cX10_readLine 138 = .ok (.iload_n 1, 1) := zby_g zbyb_255 (i := 3) rfl rfl
theorem dX10_readLine_139 : decode cX10_readLine 139 = .ok (.putfield 65, 3) := zby_g zbyb_255 (i := 4) rfl rfl
theorem dX10_readLine_142 : decode cX10_readLine 142 = .ok (.iload_n 1, 1) := zby_g zbyb_255 (i := 5) rfl rfl
theorem dX10_readLine_143 : decode cX10_readLine 143 = .ok (.iconst (-1), 1) := zby_g zbyb_255 (i := 6) rfl rfl
theorem dX10_readLine_144 : decode cX10_readLine 144 = .ok (.if_icmp .eq 7, 3) := zby_g zbyb_255 (i := 7) rfl rfl
theorem dX10_readLine_147 : decode cX10_readLine 147 = .ok (.iconst 1, 1) := zby_g zbyb_255 (i := 8) rfl rfl
theorem dX10_readLine_148 : decode cX10_readLine 148 = .ok (.goto 4, 3) := zby_g zbyb_255 (i := 9) rfl rfl
theorem dX10_readLine_151 : decode cX10_readLine 151 = .ok (.iconst 0, 1) := zby_g zbyb_255 (i := 10) rfl rfl
theorem dX10_readLine_152 : decode cX10_readLine 152 = .ok (.ireturn, 1) := zby_g zbyb_255 (i := 11) rfl rfl
theorem dX10_readLine_153 : decode cX10_readLine 153 = .ok (.aload_n 0, 1) := zby_g zbyb_255 (i := 12) rfl rfl
theorem dX10_readLine_154 : decode cX10_readLine 154 = .ok (.getfield 20, 3) := zby_g zbyb_255 (i := 13) rfl rfl
theorem dX10_readLine_157 : decode cX10_readLine 157 = .ok (.ldc 67, 2) := zby_g zbyb_255 (i := 14) rfl rfl
theorem dX10_readLine_159 : decode cX10_readLine 159 = .ok (.invokevirtual 43, 3) := zby_g zbyb_255 (i := 15) rfl rfl
noncomputable def zbyl_256 : List (Nat × zbyE) := [(162, zbyo_153 33), (165, zbyo_42), (166, zbyo_180 20), (169, zbyo_3), (170, zbyo_16 100), (172, zbyo_182 56), (175, zbyo_60), (176, zbyo_42), (177, zbyo_180 14), (180, zbyo_27), (181, zbyo_181 69), (184, zbyo_27), (185, zbyo_2), (186, zbyo_159 7), (189, zbyo_4), (190, zbyo_167 4)]
theorem zbyb_256 : zbys zbyl_256 (cX10_readLine.data.toList.drop 162) 162 = true := by decide +kernel
theorem dX10_readLine_162 : decode cX10_readLine 162 = .ok (.ifCond .eq 33, 3) := zby_g zbyb_256 (i := 0) rfl rfl
theorem dX10_readLine_165 : decode cX10_readLine 165 = .ok (.aload_n 0, 1) := zby_g zbyb_256 (i := 1) rfl rfl
theorem dX10_readLine_166 : decode cX10_readLine 166 = .ok (.getfield 20, 3) := zby_g zbyb_256 (i := 2) rfl rfl
theorem dX10_readLine_169 : decode cX10_readLine 169 = .ok (.iconst 0, 1) := zby_g zbyb_256 (i := 3) rfl rfl
theorem dX10_readLine_170 : decode cX10_readLine 170 = .ok (.bipush 100, 2) := zby_g zbyb_256 (i := 4) rfl rfl
theorem dX10_readLine_172 : decode cX10_readLine 172 = .ok (.invokevirtual 56, 3) := zby_g zbyb_256 (i := 5) rfl rfl
theorem dX10_readLine_175 : decode cX10_readLine 175 = .ok (.istore_n 1, 1) := zby_g zbyb_256 (i := 6) rfl rfl
theorem dX10_readLine_176 : decode cX10_readLine 176 = .ok (.aload_n 0, 1) := zby_g zbyb_256 (i := 7) rfl rfl
theorem dX10_readLine_177 : decode cX10_readLine 177 = .ok (.getfield 14, 3) := zby_g zbyb_256 (i := 8) rfl rfl
theorem dX10_readLine_180 : decode cX10_readLine 180 = .ok (.iload_n 1, 1) := zby_g zbyb_256 (i := 9) rfl rfl
theorem dX10_readLine_181 : decode cX10_readLine 181 = .ok (.putfield 69, 3) := zby_g zbyb_256 (i := 10) rfl rfl
theorem dX10_readLine_184 : decode cX10_readLine 184 = .ok (.iload_n 1, 1) := zby_g zbyb_256 (i := 11) rfl rfl
theorem dX10_readLine_185 : decode cX10_readLine 185 = .ok (.iconst (-1), 1) := zby_g zbyb_256 (i := 12) rfl rfl
theorem dX10_readLine_186 : decode cX10_readLine 186 = .ok (.if_icmp .eq 7, 3) := zby_g zbyb_256 (i := 13) rfl rfl
theorem dX10_readLine_189 : decode cX10_readLine 189 = .ok (.iconst 1, 1) := zby_g zbyb_256 (i := 14) rfl rfl
theorem dX10_readLine_190 : decode cX10_readLine 190 = .ok (.goto 4, 3) := zby_g zbyb_256 (i := 15) rfl rfl
noncomputable def zbyl_257 : List (Nat × zbyE) := [(193, zbyo_3), (194, zbyo_172), (195, zbyo_42), (196, zbyo_180 20), (199, zbyo_18 71), (201, zbyo_182 43), (204, zbyo_153 34), (207, zbyo_42), (208, zbyo_180 20), (211, zbyo_3), (212, zbyo_17 999), (215, zbyo_182 56), (218, zbyo_60), (219, zbyo_42), (220, zbyo_180 14), (223, zbyo_27)]
theorem zbyb_257 : zbys zbyl_257 (cX10_readLine.data.toList.drop 193) 193 = true := by decide +kernel
theorem dX10_readLine_193 : decode cX10_readLine 193 = .ok (.iconst 0, 1) := zby_g zbyb_257 (i := 0) rfl rfl
theorem dX10_readLine_194 : decode cX10_readLine 194 = .ok (.ireturn, 1) := zby_g zbyb_257 (i := 1) rfl rfl
theorem dX10_readLine_195 : decode cX10_readLine 195 = .ok (.aload_n 0, 1) := zby_g zbyb_257 (i := 2) rfl rfl
theorem dX10_readLine_196 : decode cX10_readLine 196 = .ok (.getfield 20, 3) := zby_g zbyb_257 (i := 3) rfl rfl
theorem dX10_readLine_199 : decode cX10_readLine 199 = .ok (.ldc 71, 2) := zby_g zbyb_257 (i := 4) rfl rfl
theorem dX10_readLine_201 : decode cX10_readLine 201 = .ok (.invokevirtual 43, 3) := zby_g zbyb_257 (i := 5) rfl rfl
theorem dX10_readLine_204 : decode cX10_readLine 204 = .ok (.ifCond .eq 34, 3) := zby_g zbyb_257 (i := 6) rfl rfl
theorem dX10_readLine_207 : decode cX10_readLine 207 = .ok (.aload_n 0, 1) := zby_g zbyb_257 (i := 7) rfl rfl
theorem dX10_readLine_208 : decode cX10_readLine 208 = .ok (.getfield 20, 3) := zby_g zbyb_257 (i := 8) rfl rfl
theorem dX10_readLine_211 : decode cX10_readLine 211 = .ok (.iconst 0, 1) := zby_g zbyb_257 (i := 9) rfl rfl
theorem dX10_readLine_212 : decode cX10_readLine 212 = .ok (.sipush 999, 3) := zby_g zbyb_257 (i := 10) rfl rfl
theorem dX10_readLine_215 : decode cX10_readLine 215 = .ok (.invokevirtual 56, 3) := zby_g zbyb_257 (i := 11) rfl rfl
theorem dX10_readLine_218 : decode cX10_readLine 218 = .ok (.istore_n 1, 1) := zby_g zbyb_257 (i := 12) rfl rfl
theorem dX10_readLine_219 : decode cX10_readLine 219 = .ok (.aload_n 0, 1) := zby_g zbyb_257 (i := 13) rfl rfl
theorem dX10_readLine_220 : decode cX10_readLine 220 = .ok (.getfield 14, 3) := zby_g zbyb_257 (i := 14) rfl rfl
theorem dX10_readLine_223 : decode cX10_readLine 223 = .ok (.iload_n 1, 1) := zby_g zbyb_257 (i := 15) rfl rfl
noncomputable def zbyl_258 : List (Nat × zbyE) := [(224, zbyo_181 73), (227, zbyo_27), (228, zbyo_2), (229, zbyo_159 7), (232, zbyo_4), (233, zbyo_167 4), (236, zbyo_3), (237, zbyo_172), (238, zbyo_42), (239, zbyo_180 20), (242, zbyo_182 75), (245, zbyo_172)]
theorem zbyb_258 : zbys zbyl_258 (cX10_readLine.data.toList.drop 224) 224 = true := by decide +kernel
theorem dX10_readLine_224 : decode cX10_readLine 224 = .ok (.putfield 73, 3) := zby_g zbyb_258 (i := 0) rfl rfl
theorem dX10_readLine_227 : decode cX10_readLine 227 = .ok (.iload_n 1, 1) := zby_g zbyb_258 (i := 1) rfl rfl
theorem dX10_readLine_228 : decode cX10_readLine 228 = .ok (.iconst (-1), 1) := zby_g zbyb_258 (i := 2) rfl rfl
theorem dX10_readLine_229 : decode cX10_readLine 229 = .ok (.if_icmp .eq 7, 3) := zby_g zbyb_258 (i := 3) rfl rfl
theorem dX10_readLine_232 : decode cX10_readLine 232 = .ok (.iconst 1, 1) := zby_g zbyb_258 (i := 4) rfl rfl
theorem dX10_readLine_233 : decode cX10_readLine 233 = .ok (.goto 4, 3) := zby_g zbyb_258 (i := 5) rfl rfl
theorem dX10_readLine_236 : decode cX10_readLine 236 = .ok (.iconst 0, 1) := zby_g zbyb_258 (i := 6) rfl rfl
theorem dX10_readLine_237 : decode cX10_readLine 237 = .ok (.ireturn, 1) := zby_g zbyb_258 (i := 7) rfl rfl
theorem dX10_readLine_238 : decode cX10_readLine 238 = .ok (.aload_n 0, 1) := zby_g zbyb_258 (i := 8) rfl rfl
theorem dX10_readLine_239 : decode cX10_readLine 239 = .ok (.getfield 20, 3) := zby_g zbyb_258 (i := 9) rfl rfl
theorem dX10_readLine_242 : decode cX10_readLine 242 = .ok (.invokevirtual 75, 3) := zby_g zbyb_258 (i := 10) rfl rfl
theorem dX10_readLine_245 : decode cX10_readLine 245 = .ok (.ireturn, 1) := zby_g zbyb_258 (i := 11) rfl rfl
noncomputable def zbyl_259 : List (Nat × zbyE) := [(0, zbyo_42), (1, zbyo_180 14), (4, zbyo_180 78), (7, zbyo_16 8), (9, zbyo_161 11), (12, zbyo_42), (13, zbyo_180 20), (16, zbyo_182 75), (19, zbyo_172), (20, zbyo_42), (21, zbyo_180 20), (24, zbyo_182 81), (27, zbyo_42), (28, zbyo_180 20), (31, zbyo_3), (32, zbyo_16 99)]
theorem zbyb_259 : zbys zbyl_259 (cX10_readPerson.data.toList.drop 0) 0 = true := by decide +kernel
theorem dX10_readPerson_0 : decode cX10_readPerson 0 = .ok (.aload_n 0, 1) := zby_g zbyb_259 (i := 0) rfl rfl
theorem dX10_readPerson_1 : decode cX10_readPerson 1 = .ok (.getfield 14, 3) := zby_g zbyb_259 (i := 1) rfl rfl
theorem dX10_readPerson_4 : decode cX10_readPerson 4 = .ok (.getfield 78, 3) := zby_g zbyb_259 (i := 2) rfl rfl
theorem dX10_readPerson_7 : decode cX10_readPerson 7 = .ok (.bipush 8, 2) := zby_g zbyb_259 (i := 3) rfl rfl
theorem dX10_readPerson_9 : decode cX10_readPerson 9 = .ok (.if_icmp .lt 11, 3) := zby_g zbyb_259 (i := 4) rfl rfl
theorem dX10_readPerson_12 : decode cX10_readPerson 12 = .ok (.aload_n 0, 1) := zby_g zbyb_259 (i := 5) rfl rfl
theorem dX10_readPerson_13 : decode cX10_readPerson 13 = .ok (.getfield 20, 3) := zby_g zbyb_259 (i := 6) rfl rfl
theorem dX10_readPerson_16 : decode cX10_readPerson 16 = .ok (.invokevirtual 75, 3) := zby_g zbyb_259 (i := 7) rfl rfl
theorem dX10_readPerson_19 : decode cX10_readPerson 19 = .ok (.ireturn, 1) := zby_g zbyb_259 (i := 8) rfl rfl
theorem dX10_readPerson_20 : decode cX10_readPerson 20 = .ok (.aload_n 0, 1) := zby_g zbyb_259 (i := 9) rfl rfl
theorem dX10_readPerson_21 : decode cX10_readPerson 21 = .ok (.getfield 20, 3) := zby_g zbyb_259 (i := 10) rfl rfl
theorem dX10_readPerson_24 : decode cX10_readPerson 24 = .ok (.invokevirtual 81, 3) := zby_g zbyb_259 (i := 11) rfl rfl
theorem dX10_readPerson_27 : decode cX10_readPerson 27 = .ok (.aload_n 0, 1) := zby_g zbyb_259 (i := 12) rfl rfl
theorem dX10_readPerson_28 : decode cX10_readPerson 28 = .ok (.getfield 20, 3) := zby_g zbyb_259 (i := 13) rfl rfl
theorem dX10_readPerson_31 : decode cX10_readPerson 31 = .ok (.iconst 0, 1) := zby_g zbyb_259 (i := 14) rfl rfl
theorem dX10_readPerson_32 : decode cX10_readPerson 32 = .ok (.bipush 99, 2) := zby_g zbyb_259 (i := 15) rfl rfl
noncomputable def zbyl_260 : List (Nat × zbyE) := [(34, zbyo_182 56), (37, zbyo_60), (38, zbyo_27), (39, zbyo_2), (40, zbyo_159 15), (43, zbyo_42), (44, zbyo_180 20), (47, zbyo_18 84), (49, zbyo_182 86), (52, zbyo_154 5), (55, zbyo_3), (56, zbyo_172), (57, zbyo_42), (58, zbyo_180 20), (61, zbyo_3), (62, zbyo_17 999)]
theorem zbyb_260 : zbys zbyl_260 (cX10_readPerson.data.toList.drop 34) 34 = true := by decide +kernel
theorem dX10_readPerson_34 : decode cX10_readPerson 34 = .ok (.invokevirtual 56, 3) := zby_g zbyb_260 (i := 0) rfl rfl
theorem dX10_readPerson_37 : decode cX10_readPerson 37 = .ok (.istore_n 1, 1) := zby_g zbyb_260 (i := 1) rfl rfl
theorem dX10_readPerson_38 : decode cX10_readPerson 38 = .ok (.iload_n 1, 1) := zby_g zbyb_260 (i := 2) rfl rfl
theorem dX10_readPerson_39 : decode cX10_readPerson 39 = .ok (.iconst (-1), 1) := zby_g zbyb_260 (i := 3) rfl rfl
theorem dX10_readPerson_40 : decode cX10_readPerson 40 = .ok (.if_icmp .eq 15, 3) := zby_g zbyb_260 (i := 4) rfl rfl
theorem dX10_readPerson_43 : decode cX10_readPerson 43 = .ok (.aload_n 0, 1) := zby_g zbyb_260 (i := 5) rfl rfl
theorem dX10_readPerson_44 : decode cX10_readPerson 44 = .ok (.getfield 20, 3) := zby_g zbyb_260 (i := 6) rfl rfl
theorem dX10_readPerson_47 : decode cX10_readPerson 47 = .ok (.ldc 84, 2) := zby_g zbyb_260 (i := 7) rfl rfl
theorem dX10_readPerson_49 : decode cX10_readPerson 49 = .ok (.invokevirtual 86, 3) := zby_g zbyb_260 (i := 8) rfl rfl
theorem dX10_readPerson_52 : decode cX10_readPerson 52 = .ok (.ifCond .ne 5, 3) := zby_g zbyb_260 (i := 9) rfl rfl
theorem dX10_readPerson_55 : decode cX10_readPerson 55 = .ok (.iconst 0, 1) := zby_g zbyb_260 (i := 10) rfl rfl
theorem dX10_readPerson_56 : decode cX10_readPerson 56 = .ok (.ireturn, 1) := zby_g zbyb_260 (i := 11) rfl rfl
theorem dX10_readPerson_57 : decode cX10_readPerson 57 = .ok (.aload_n 0, 1) := zby_g zbyb_260 (i := 12) rfl rfl
theorem dX10_readPerson_58 : decode cX10_readPerson 58 = .ok (.getfield 20, 3) := zby_g zbyb_260 (i := 13) rfl rfl
theorem dX10_readPerson_61 : decode cX10_readPerson 61 = .ok (.iconst 0, 1) := zby_g zbyb_260 (i := 14) rfl rfl
theorem dX10_readPerson_62 : decode cX10_readPerson 62 = .ok (.sipush 999, 3) := zby_g zbyb_260 (i := 15) rfl rfl
noncomputable def zbyl_261 : List (Nat × zbyE) := [(65, zbyo_182 56), (68, zbyo_61), (69, zbyo_28), (70, zbyo_2), (71, zbyo_160 5), (74, zbyo_3), (75, zbyo_172), (76, zbyo_42), (77, zbyo_180 14), (80, zbyo_27), (81, zbyo_28), (82, zbyo_42), (83, zbyo_180 20), (86, zbyo_18 89), (88, zbyo_182 43), (91, zbyo_182 91)]
theorem zbyb_261 : zbys zbyl_261 (cX10_readPerson.data.toList.drop 65) 65 = true := by decide +kernel
theorem dX10_readPerson_65 : decode cX10_readPerson 65 = .ok (.invokevirtual 56, 3) := zby_g zbyb_261 (i := 0) rfl rfl
theorem dX10_readPerson_68 : decode cX10_readPerson 68 = .ok (.istore_n 2, 1) := zby_g zbyb_261 (i := 1) rfl rfl
theorem dX10_readPerson_69 : decode cX10_readPerson 69 = .ok (.iload_n 2, 1) := zby_g zbyb_261 (i := 2) rfl rfl
theorem dX10_readPerson_70 : decode cX10_readPerson 70 = .ok (.iconst (-1), 1) := zby_g zbyb_261 (i := 3) rfl rfl
theorem dX10_readPerson_71 : decode cX10_readPerson 71 = .ok (.if_icmp .ne 5, 3) := zby_g zbyb_261 (i := 4) rfl rfl
theorem dX10_readPerson_74 : decode cX10_readPerson 74 = .ok (.iconst 0, 1) := zby_g zbyb_261 (i := 5) rfl rfl
theorem dX10_readPerson_75 : decode cX10_readPerson 75 = .ok (.ireturn, 1) := zby_g zbyb_261 (i := 6) rfl rfl
theorem dX10_readPerson_76 : decode cX10_readPerson 76 = .ok (.aload_n 0, 1) := zby_g zbyb_261 (i := 7) rfl rfl
theorem dX10_readPerson_77 : decode cX10_readPerson 77 = .ok (.getfield 14, 3) := zby_g zbyb_261 (i := 8) rfl rfl
theorem dX10_readPerson_80 : decode cX10_readPerson 80 = .ok (.iload_n 1, 1) := zby_g zbyb_261 (i := 9) rfl rfl
theorem dX10_readPerson_81 : decode cX10_readPerson 81 = .ok (.iload_n 2, 1) := zby_g zbyb_261 (i := 10) rfl rfl
theorem dX10_readPerson_82 : decode cX10_readPerson 82 = .ok (.aload_n 0, 1) := zby_g zbyb_261 (i := 11) rfl rfl
theorem dX10_readPerson_83 : decode cX10_readPerson 83 = .ok (.getfield 20, 3) := zby_g zbyb_261 (i := 12) rfl rfl
theorem dX10_readPerson_86 : decode cX10_readPerson 86 = .ok (.ldc 89, 2) := zby_g zbyb_261 (i := 13) rfl rfl
theorem dX10_readPerson_88 : decode cX10_readPerson 88 = .ok (.invokevirtual 43, 3) := zby_g zbyb_261 (i := 14) rfl rfl
theorem dX10_readPerson_91 : decode cX10_readPerson 91 = .ok (.invokevirtual 91, 3) := zby_g zbyb_261 (i := 15) rfl rfl
noncomputable def zbyl_262 : List (Nat × zbyE) := [(94, zbyo_4), (95, zbyo_172)]
theorem zbyb_262 : zbys zbyl_262 (cX10_readPerson.data.toList.drop 94) 94 = true := by decide +kernel
theorem dX10_readPerson_94 : decode cX10_readPerson 94 = .ok (.iconst 1, 1) := zby_g zbyb_262 (i := 0) rfl rfl
theorem dX10_readPerson_95 : decode cX10_readPerson 95 = .ok (.ireturn, 1) := zby_g zbyb_262 (i := 1) rfl rfl
noncomputable def zbyl_263 : List (Nat × zbyE) := [(0, zbyo_42), (1, zbyo_180 14), (4, zbyo_180 95), (7, zbyo_16 6), (9, zbyo_161 11), (12, zbyo_42), (13, zbyo_180 20), (16, zbyo_182 75), (19, zbyo_172), (20, zbyo_42), (21, zbyo_180 20), (24, zbyo_182 81), (27, zbyo_42), (28, zbyo_180 20), (31, zbyo_4), (32, zbyo_16 99)]
theorem zbyb_263 : zbys zbyl_263 (cX10_readWork.data.toList.drop 0) 0 = true := by decide +kernel
theorem dX10_readWork_0 : decode cX10_readWork 0 = .ok (.aload_n 0, 1) := zby_g zbyb_263 (i := 0) rfl rfl
theorem dX10_readWork_1 : decode cX10_readWork 1 = .ok (.getfield 14, 3) := zby_g zbyb_263 (i := 1) rfl rfl
theorem dX10_readWork_4 : decode cX10_readWork 4 = .ok (.getfield 95, 3) := zby_g zbyb_263 (i := 2) rfl rfl
theorem dX10_readWork_7 : decode cX10_readWork 7 = .ok (.bipush 6, 2) := zby_g zbyb_263 (i := 3) rfl rfl
theorem dX10_readWork_9 : decode cX10_readWork 9 = .ok (.if_icmp .lt 11, 3) := zby_g zbyb_263 (i := 4) rfl rfl
theorem dX10_readWork_12 : decode cX10_readWork 12 = .ok (.aload_n 0, 1) := zby_g zbyb_263 (i := 5) rfl rfl
theorem dX10_readWork_13 : decode cX10_readWork 13 = .ok (.getfield 20, 3) := zby_g zbyb_263 (i := 6) rfl rfl
theorem dX10_readWork_16 : decode cX10_readWork 16 = .ok (.invokevirtual 75, 3) := zby_g zbyb_263 (i := 7) rfl rfl
theorem dX10_readWork_19 : decode cX10_readWork 19 = .ok (.ireturn, 1) := zby_g zbyb_263 (i := 8) rfl rfl
theorem dX10_readWork_20 : decode cX10_readWork 20 = .ok (.aload_n 0, 1) := zby_g zbyb_263 (i := 9) rfl rfl
theorem dX10_readWork_21 : decode cX10_readWork 21 = .ok (.getfield 20, 3) := zby_g zbyb_263 (i := 10) rfl rfl
theorem dX10_readWork_24 : decode cX10_readWork 24 = .ok (.invokevirtual 81, 3) := zby_g zbyb_263 (i := 11) rfl rfl
theorem dX10_readWork_27 : decode cX10_readWork 27 = .ok (.aload_n 0, 1) := zby_g zbyb_263 (i := 12) rfl rfl
theorem dX10_readWork_28 : decode cX10_readWork 28 = .ok (.getfield 20, 3) := zby_g zbyb_263 (i := 13) rfl rfl
theorem dX10_readWork_31 : decode cX10_readWork 31 = .ok (.iconst 1, 1) := zby_g zbyb_263 (i := 14) rfl rfl
theorem dX10_readWork_32 : decode cX10_readWork 32 = .ok (.bipush 99, 2) := zby_g zbyb_263 (i := 15) rfl rfl
noncomputable def zbyl_264 : List (Nat × zbyE) := [(34, zbyo_182 56), (37, zbyo_60), (38, zbyo_27), (39, zbyo_2), (40, zbyo_159 15), (43, zbyo_42), (44, zbyo_180 20), (47, zbyo_18 98), (49, zbyo_182 86), (52, zbyo_154 5), (55, zbyo_3), (56, zbyo_172), (57, zbyo_42), (58, zbyo_180 20), (61, zbyo_3), (62, zbyo_17 799)]
theorem zbyb_264 : zbys zbyl_264 (cX10_readWork.data.toList.drop 34) 34 = true := by decide +kernel
theorem dX10_readWork_34 : decode cX10_readWork 34 = .ok (.invokevirtual 56, 3) := zby_g zbyb_264 (i := 0) rfl rfl
theorem dX10_readWork_37 : decode cX10_readWork 37 = .ok (.istore_n 1, 1) := zby_g zbyb_264 (i := 1) rfl rfl
theorem dX10_readWork_38 : decode cX10_readWork 38 = .ok (.iload_n 1, 1) := zby_g zbyb_264 (i := 2) rfl rfl
theorem dX10_readWork_39 : decode cX10_readWork 39 = .ok (.iconst (-1), 1) := zby_g zbyb_264 (i := 3) rfl rfl
theorem dX10_readWork_40 : decode cX10_readWork 40 = .ok (.if_icmp .eq 15, 3) := zby_g zbyb_264 (i := 4) rfl rfl
theorem dX10_readWork_43 : decode cX10_readWork 43 = .ok (.aload_n 0, 1) := zby_g zbyb_264 (i := 5) rfl rfl
theorem dX10_readWork_44 : decode cX10_readWork 44 = .ok (.getfield 20, 3) := zby_g zbyb_264 (i := 6) rfl rfl
theorem dX10_readWork_47 : decode cX10_readWork 47 = .ok (.ldc 98, 2) := zby_g zbyb_264 (i := 7) rfl rfl
theorem dX10_readWork_49 : decode cX10_readWork 49 = .ok (.invokevirtual 86, 3) := zby_g zbyb_264 (i := 8) rfl rfl
theorem dX10_readWork_52 : decode cX10_readWork 52 = .ok (.ifCond .ne 5, 3) := zby_g zbyb_264 (i := 9) rfl rfl
theorem dX10_readWork_55 : decode cX10_readWork 55 = .ok (.iconst 0, 1) := zby_g zbyb_264 (i := 10) rfl rfl
theorem dX10_readWork_56 : decode cX10_readWork 56 = .ok (.ireturn, 1) := zby_g zbyb_264 (i := 11) rfl rfl
theorem dX10_readWork_57 : decode cX10_readWork 57 = .ok (.aload_n 0, 1) := zby_g zbyb_264 (i := 12) rfl rfl
theorem dX10_readWork_58 : decode cX10_readWork 58 = .ok (.getfield 20, 3) := zby_g zbyb_264 (i := 13) rfl rfl
theorem dX10_readWork_61 : decode cX10_readWork 61 = .ok (.iconst 0, 1) := zby_g zbyb_264 (i := 14) rfl rfl
theorem dX10_readWork_62 : decode cX10_readWork 62 = .ok (.sipush 799, 3) := zby_g zbyb_264 (i := 15) rfl rfl
noncomputable def zbyl_265 : List (Nat × zbyE) := [(65, zbyo_182 56), (68, zbyo_61), (69, zbyo_28), (70, zbyo_2), (71, zbyo_159 15), (74, zbyo_42), (75, zbyo_180 20), (78, zbyo_18 100), (80, zbyo_182 86), (83, zbyo_154 5), (86, zbyo_3), (87, zbyo_172), (88, zbyo_42), (89, zbyo_180 20), (92, zbyo_3), (93, zbyo_16 20)]
theorem zbyb_265 : zbys zbyl_265 (cX10_readWork.data.toList.drop 65) 65 = true := by decide +kernel
theorem dX10_readWork_65 : decode cX10_readWork 65 = .ok (.invokevirtual 56, 3) := zby_g zbyb_265 (i := 0) rfl rfl
theorem dX10_readWork_68 : decode cX10_readWork 68 = .ok (.istore_n 2, 1) := zby_g zbyb_265 (i := 1) rfl rfl
theorem dX10_readWork_69 : decode cX10_readWork 69 = .ok (.iload_n 2, 1) := zby_g zbyb_265 (i := 2) rfl rfl
theorem dX10_readWork_70 : decode cX10_readWork 70 = .ok (.iconst (-1), 1) := zby_g zbyb_265 (i := 3) rfl rfl
theorem dX10_readWork_71 : decode cX10_readWork 71 = .ok (.if_icmp .eq 15, 3) := zby_g zbyb_265 (i := 4) rfl rfl
theorem dX10_readWork_74 : decode cX10_readWork 74 = .ok (.aload_n 0, 1) := zby_g zbyb_265 (i := 5) rfl rfl
theorem dX10_readWork_75 : decode cX10_readWork 75 = .ok (.getfield 20, 3) := zby_g zbyb_265 (i := 6) rfl rfl
theorem dX10_readWork_78 : decode cX10_readWork 78 = .ok (.ldc 100, 2) := zby_g zbyb_265 (i := 7) rfl rfl
theorem dX10_readWork_80 : decode cX10_readWork 80 = .ok (.invokevirtual 86, 3) := zby_g zbyb_265 (i := 8) rfl rfl
theorem dX10_readWork_83 : decode cX10_readWork 83 = .ok (.ifCond .ne 5, 3) := zby_g zbyb_265 (i := 9) rfl rfl
theorem dX10_readWork_86 : decode cX10_readWork 86 = .ok (.iconst 0, 1) := zby_g zbyb_265 (i := 10) rfl rfl
theorem dX10_readWork_87 : decode cX10_readWork 87 = .ok (.ireturn, 1) := zby_g zbyb_265 (i := 11) rfl rfl
theorem dX10_readWork_88 : decode cX10_readWork 88 = .ok (.aload_n 0, 1) := zby_g zbyb_265 (i := 12) rfl rfl
theorem dX10_readWork_89 : decode cX10_readWork 89 = .ok (.getfield 20, 3) := zby_g zbyb_265 (i := 13) rfl rfl
theorem dX10_readWork_92 : decode cX10_readWork 92 = .ok (.iconst 0, 1) := zby_g zbyb_265 (i := 14) rfl rfl
theorem dX10_readWork_93 : decode cX10_readWork 93 = .ok (.bipush 20, 2) := zby_g zbyb_265 (i := 15) rfl rfl
noncomputable def zbyl_266 : List (Nat × zbyE) := [(95, zbyo_182 56), (98, zbyo_62), (99, zbyo_29), (100, zbyo_2), (101, zbyo_160 5), (104, zbyo_3), (105, zbyo_172), (106, zbyo_42), (107, zbyo_180 14), (110, zbyo_27), (111, zbyo_28), (112, zbyo_29), (113, zbyo_182 102), (116, zbyo_4), (117, zbyo_172)]
theorem zbyb_266 : zbys zbyl_266 (cX10_readWork.data.toList.drop 95) 95 = true := by decide +kernel
theorem dX10_readWork_95 : decode cX10_readWork 95 = .ok (.invokevirtual 56, 3) := zby_g zbyb_266 (i := 0) rfl rfl
theorem dX10_readWork_98 : decode cX10_readWork 98 = .ok (.istore_n 3, 1) := zby_g zbyb_266 (i := 1) rfl rfl
theorem dX10_readWork_99 : decode cX10_readWork 99 = .ok (.iload_n 3, 1) := zby_g zbyb_266 (i := 2) rfl rfl
theorem dX10_readWork_100 : decode cX10_readWork 100 = .ok (.iconst (-1), 1) := zby_g zbyb_266 (i := 3) rfl rfl
theorem dX10_readWork_101 : decode cX10_readWork 101 = .ok (.if_icmp .ne 5, 3) := zby_g zbyb_266 (i := 4) rfl rfl
theorem dX10_readWork_104 : decode cX10_readWork 104 = .ok (.iconst 0, 1) := zby_g zbyb_266 (i := 5) rfl rfl
theorem dX10_readWork_105 : decode cX10_readWork 105 = .ok (.ireturn, 1) := zby_g zbyb_266 (i := 6) rfl rfl
theorem dX10_readWork_106 : decode cX10_readWork 106 = .ok (.aload_n 0, 1) := zby_g zbyb_266 (i := 7) rfl rfl
theorem dX10_readWork_107 : decode cX10_readWork 107 = .ok (.getfield 14, 3) := zby_g zbyb_266 (i := 8) rfl rfl
theorem dX10_readWork_110 : decode cX10_readWork 110 = .ok (.iload_n 1, 1) := zby_g zbyb_266 (i := 9) rfl rfl
theorem dX10_readWork_111 : decode cX10_readWork 111 = .ok (.iload_n 2, 1) := zby_g zbyb_266 (i := 10) rfl rfl
theorem dX10_readWork_112 : decode cX10_readWork 112 = .ok (.iload_n 3, 1) := zby_g zbyb_266 (i := 11) rfl rfl
theorem dX10_readWork_113 : decode cX10_readWork 113 = .ok (.invokevirtual 102, 3) := zby_g zbyb_266 (i := 12) rfl rfl
theorem dX10_readWork_116 : decode cX10_readWork 116 = .ok (.iconst 1, 1) := zby_g zbyb_266 (i := 13) rfl rfl
theorem dX10_readWork_117 : decode cX10_readWork 117 = .ok (.ireturn, 1) := zby_g zbyb_266 (i := 14) rfl rfl
noncomputable def zbyl_267 : List (Nat × zbyE) := [(0, zbyo_42), (1, zbyo_180 20), (4, zbyo_3), (5, zbyo_42), (6, zbyo_180 14), (9, zbyo_180 78), (12, zbyo_4), (13, zbyo_100), (14, zbyo_182 56), (17, zbyo_60), (18, zbyo_27), (19, zbyo_2), (20, zbyo_160 5), (23, zbyo_3), (24, zbyo_172), (25, zbyo_42)]
theorem zbyb_267 : zbys zbyl_267 (cX10_readTrusts.data.toList.drop 0) 0 = true := by decide +kernel
theorem dX10_readTrusts_0 : decode cX10_readTrusts 0 = .ok (.aload_n 0, 1) := zby_g zbyb_267 (i := 0) rfl rfl
theorem dX10_readTrusts_1 : decode cX10_readTrusts 1 = .ok (.getfield 20, 3) := zby_g zbyb_267 (i := 1) rfl rfl
theorem dX10_readTrusts_4 : decode cX10_readTrusts 4 = .ok (.iconst 0, 1) := zby_g zbyb_267 (i := 2) rfl rfl
theorem dX10_readTrusts_5 : decode cX10_readTrusts 5 = .ok (.aload_n 0, 1) := zby_g zbyb_267 (i := 3) rfl rfl
theorem dX10_readTrusts_6 : decode cX10_readTrusts 6 = .ok (.getfield 14, 3) := zby_g zbyb_267 (i := 4) rfl rfl
theorem dX10_readTrusts_9 : decode cX10_readTrusts 9 = .ok (.getfield 78, 3) := zby_g zbyb_267 (i := 5) rfl rfl
theorem dX10_readTrusts_12 : decode cX10_readTrusts 12 = .ok (.iconst 1, 1) := zby_g zbyb_267 (i := 6) rfl rfl
theorem dX10_readTrusts_13 : decode cX10_readTrusts 13 = .ok (.isub, 1) := zby_g zbyb_267 (i := 7) rfl rfl
theorem dX10_readTrusts_14 : decode cX10_readTrusts 14 = .ok (.invokevirtual 56, 3) := zby_g zbyb_267 (i := 8) rfl rfl
theorem dX10_readTrusts_17 : decode cX10_readTrusts 17 = .ok (.istore_n 1, 1) := zby_g zbyb_267 (i := 9) rfl rfl
theorem dX10_readTrusts_18 : decode cX10_readTrusts 18 = .ok (.iload_n 1, 1) := zby_g zbyb_267 (i := 10) rfl rfl
theorem dX10_readTrusts_19 : decode cX10_readTrusts 19 = .ok (.iconst (-1), 1) := zby_g zbyb_267 (i := 11) rfl rfl
theorem dX10_readTrusts_20 : decode cX10_readTrusts 20 = .ok (.if_icmp .ne 5, 3) := zby_g zbyb_267 (i := 12) rfl rfl
theorem dX10_readTrusts_23 : decode cX10_readTrusts 23 = .ok (.iconst 0, 1) := zby_g zbyb_267 (i := 13) rfl rfl
theorem dX10_readTrusts_24 : decode cX10_readTrusts 24 = .ok (.ireturn, 1) := zby_g zbyb_267 (i := 14) rfl rfl
theorem dX10_readTrusts_25 : decode cX10_readTrusts 25 = .ok (.aload_n 0, 1) := zby_g zbyb_267 (i := 15) rfl rfl
noncomputable def zbyl_268 : List (Nat × zbyE) := [(26, zbyo_180 20), (29, zbyo_180 106), (32, zbyo_5), (33, zbyo_160 28), (36, zbyo_42), (37, zbyo_180 20), (40, zbyo_180 109), (43, zbyo_42), (44, zbyo_180 20), (47, zbyo_180 112), (50, zbyo_100), (51, zbyo_42), (52, zbyo_180 14), (55, zbyo_180 78), (58, zbyo_159 11), (61, zbyo_42)]
theorem zbyb_268 : zbys zbyl_268 (cX10_readTrusts.data.toList.drop 26) 26 = true := by decide +kernel
theorem dX10_readTrusts_26 : decode cX10_readTrusts 26 = .ok (.getfield 20, 3) := zby_g zbyb_268 (i := 0) rfl rfl
theorem dX10_readTrusts_29 : decode cX10_readTrusts 29 = .ok (.getfield 106, 3) := zby_g zbyb_268 (i := 1) rfl rfl
theorem dX10_readTrusts_32 : decode cX10_readTrusts 32 = .ok (.iconst 2, 1) := zby_g zbyb_268 (i := 2) rfl rfl
theorem dX10_readTrusts_33 : decode cX10_readTrusts 33 = .ok (.if_icmp .ne 28, 3) := zby_g zbyb_268 (i := 3) rfl rfl
theorem dX10_readTrusts_36 : decode cX10_readTrusts 36 = .ok (.aload_n 0, 1) := zby_g zbyb_268 (i := 4) rfl rfl
theorem dX10_readTrusts_37 : decode cX10_readTrusts 37 = .ok (.getfield 20, 3) := zby_g zbyb_268 (i := 5) rfl rfl
theorem dX10_readTrusts_40 : decode cX10_readTrusts 40 = .ok (.getfield 109, 3) := zby_g zbyb_268 (i := 6) rfl rfl
theorem dX10_readTrusts_43 : decode cX10_readTrusts 43 = .ok (.aload_n 0, 1) := zby_g zbyb_268 (i := 7) rfl rfl
theorem dX10_readTrusts_44 : decode cX10_readTrusts 44 = .ok (.getfield 20, 3) := zby_g zbyb_268 (i := 8) rfl rfl
theorem dX10_readTrusts_47 : decode cX10_readTrusts 47 = .ok (.getfield 112, 3) := zby_g zbyb_268 (i := 9) rfl rfl
theorem dX10_readTrusts_50 : decode cX10_readTrusts 50 = .ok (.isub, 1) := zby_g zbyb_268 (i := 10) rfl rfl
theorem dX10_readTrusts_51 : decode cX10_readTrusts 51 = .ok (.aload_n 0, 1) := zby_g zbyb_268 (i := 11) rfl rfl
theorem dX10_readTrusts_52 : decode cX10_readTrusts 52 = .ok (.getfield 14, 3) := zby_g zbyb_268 (i := 12) rfl rfl
theorem dX10_readTrusts_55 : decode cX10_readTrusts 55 = .ok (.getfield 78, 3) := zby_g zbyb_268 (i := 13) rfl rfl
theorem dX10_readTrusts_58 : decode cX10_readTrusts 58 = .ok (.if_icmp .eq 11, 3) := zby_g zbyb_268 (i := 14) rfl rfl
theorem dX10_readTrusts_61 : decode cX10_readTrusts 61 = .ok (.aload_n 0, 1) := zby_g zbyb_268 (i := 15) rfl rfl
noncomputable def zbyl_269 : List (Nat × zbyE) := [(62, zbyo_180 20), (65, zbyo_182 75), (68, zbyo_172), (69, zbyo_3), (70, zbyo_61), (71, zbyo_28), (72, zbyo_42), (73, zbyo_180 14), (76, zbyo_180 78), (79, zbyo_162 43), (82, zbyo_28), (83, zbyo_27), (84, zbyo_159 32), (87, zbyo_42), (88, zbyo_180 14), (91, zbyo_27)]
theorem zbyb_269 : zbys zbyl_269 (cX10_readTrusts.data.toList.drop 62) 62 = true := by decide +kernel
theorem dX10_readTrusts_62 : decode cX10_readTrusts 62 = .ok (.getfield 20, 3) := zby_g zbyb_269 (i := 0) rfl rfl
theorem dX10_readTrusts_65 : decode cX10_readTrusts 65 = .ok (.invokevirtual 75, 3) := zby_g zbyb_269 (i := 1) rfl rfl
theorem dX10_readTrusts_68 : decode cX10_readTrusts 68 = .ok (.ireturn, 1) := zby_g zbyb_269 (i := 2) rfl rfl
theorem dX10_readTrusts_69 : decode cX10_readTrusts 69 = .ok (.iconst 0, 1) := zby_g zbyb_269 (i := 3) rfl rfl
theorem dX10_readTrusts_70 : decode cX10_readTrusts 70 = .ok (.istore_n 2, 1) := zby_g zbyb_269 (i := 4) rfl rfl
theorem dX10_readTrusts_71 : decode cX10_readTrusts 71 = .ok (.iload_n 2, 1) := zby_g zbyb_269 (i := 5) rfl rfl
theorem dX10_readTrusts_72 : decode cX10_readTrusts 72 = .ok (.aload_n 0, 1) := zby_g zbyb_269 (i := 6) rfl rfl
theorem dX10_readTrusts_73 : decode cX10_readTrusts 73 = .ok (.getfield 14, 3) := zby_g zbyb_269 (i := 7) rfl rfl
theorem dX10_readTrusts_76 : decode cX10_readTrusts 76 = .ok (.getfield 78, 3) := zby_g zbyb_269 (i := 8) rfl rfl
theorem dX10_readTrusts_79 : decode cX10_readTrusts 79 = .ok (.if_icmp .ge 43, 3) := zby_g zbyb_269 (i := 9) rfl rfl
theorem dX10_readTrusts_82 : decode cX10_readTrusts 82 = .ok (.iload_n 2, 1) := zby_g zbyb_269 (i := 10) rfl rfl
theorem dX10_readTrusts_83 : decode cX10_readTrusts 83 = .ok (.iload_n 1, 1) := zby_g zbyb_269 (i := 11) rfl rfl
theorem dX10_readTrusts_84 : decode cX10_readTrusts 84 = .ok (.if_icmp .eq 32, 3) := zby_g zbyb_269 (i := 12) rfl rfl
theorem dX10_readTrusts_87 : decode cX10_readTrusts 87 = .ok (.aload_n 0, 1) := zby_g zbyb_269 (i := 13) rfl rfl
theorem dX10_readTrusts_88 : decode cX10_readTrusts 88 = .ok (.getfield 14, 3) := zby_g zbyb_269 (i := 14) rfl rfl
theorem dX10_readTrusts_91 : decode cX10_readTrusts 91 = .ok (.iload_n 1, 1) := zby_g zbyb_269 (i := 15) rfl rfl
noncomputable def zbyl_270 : List (Nat × zbyE) := [(92, zbyo_28), (93, zbyo_42), (94, zbyo_180 20), (97, zbyo_180 115), (100, zbyo_42), (101, zbyo_180 20), (104, zbyo_180 112), (107, zbyo_28), (108, zbyo_96), (109, zbyo_46), (110, zbyo_16 48), (112, zbyo_100), (113, zbyo_182 119), (116, zbyo_132 2 1), (119, zbyo_167 (-48)), (122, zbyo_42)]
theorem zbyb_270 : zbys zbyl_270 (cX10_readTrusts.data.toList.drop 92) 92 = true := by decide +kernel
theorem dX10_readTrusts_92 : decode cX10_readTrusts 92 = .ok (.iload_n 2, 1) := zby_g zbyb_270 (i := 0) rfl rfl
theorem dX10_readTrusts_93 : decode cX10_readTrusts 93 = .ok (.aload_n 0, 1) := zby_g zbyb_270 (i := 1) rfl rfl
theorem dX10_readTrusts_94 : decode cX10_readTrusts 94 = .ok (.getfield 20, 3) := zby_g zbyb_270 (i := 2) rfl rfl
theorem dX10_readTrusts_97 : decode cX10_readTrusts 97 = .ok (.getfield 115, 3) := zby_g zbyb_270 (i := 3) rfl rfl
theorem dX10_readTrusts_100 : decode cX10_readTrusts 100 = .ok (.aload_n 0, 1) := zby_g zbyb_270 (i := 4) rfl rfl
theorem dX10_readTrusts_101 : decode cX10_readTrusts 101 = .ok (.getfield 20, 3) := zby_g zbyb_270 (i := 5) rfl rfl
theorem dX10_readTrusts_104 : decode cX10_readTrusts 104 = .ok (.getfield 112, 3) := zby_g zbyb_270 (i := 6) rfl rfl
theorem dX10_readTrusts_107 : decode cX10_readTrusts 107 = .ok (.iload_n 2, 1) := zby_g zbyb_270 (i := 7) rfl rfl
theorem dX10_readTrusts_108 : decode cX10_readTrusts 108 = .ok (.iadd, 1) := zby_g zbyb_270 (i := 8) rfl rfl
theorem dX10_readTrusts_109 : decode cX10_readTrusts 109 = .ok (.iaload, 1) := zby_g zbyb_270 (i := 9) rfl rfl
theorem dX10_readTrusts_110 : decode cX10_readTrusts 110 = .ok (.bipush 48, 2) := zby_g zbyb_270 (i := 10) rfl rfl
theorem dX10_readTrusts_112 : decode cX10_readTrusts 112 = .ok (.isub, 1) := zby_g zbyb_270 (i := 11) rfl rfl
theorem dX10_readTrusts_113 : decode cX10_readTrusts 113 = .ok (.invokevirtual 119, 3) := zby_g zbyb_270 (i := 12) rfl rfl
theorem dX10_readTrusts_116 : decode cX10_readTrusts 116 = .ok (.iinc 2 1, 3) := zby_g zbyb_270 (i := 13) rfl rfl
theorem dX10_readTrusts_119 : decode cX10_readTrusts 119 = .ok (.goto (-48), 3) := zby_g zbyb_270 (i := 14) rfl rfl
theorem dX10_readTrusts_122 : decode cX10_readTrusts 122 = .ok (.aload_n 0, 1) := zby_g zbyb_270 (i := 15) rfl rfl
noncomputable def zbyl_271 : List (Nat × zbyE) := [(123, zbyo_180 20), (126, zbyo_182 81), (129, zbyo_4), (130, zbyo_172)]
theorem zbyb_271 : zbys zbyl_271 (cX10_readTrusts.data.toList.drop 123) 123 = true := by decide +kernel
theorem dX10_readTrusts_123 : decode cX10_readTrusts 123 = .ok (.getfield 20, 3) := zby_g zbyb_271 (i := 0) rfl rfl
theorem dX10_readTrusts_126 : decode cX10_readTrusts 126 = .ok (.invokevirtual 81, 3) := zby_g zbyb_271 (i := 1) rfl rfl
theorem dX10_readTrusts_129 : decode cX10_readTrusts 129 = .ok (.iconst 1, 1) := zby_g zbyb_271 (i := 2) rfl rfl
theorem dX10_readTrusts_130 : decode cX10_readTrusts 130 = .ok (.ireturn, 1) := zby_g zbyb_271 (i := 3) rfl rfl
noncomputable def zbyl_272 : List (Nat × zbyE) := [(0, zbyo_42), (1, zbyo_180 20), (4, zbyo_3), (5, zbyo_42), (6, zbyo_180 14), (9, zbyo_180 78), (12, zbyo_4), (13, zbyo_100), (14, zbyo_182 56), (17, zbyo_60), (18, zbyo_27), (19, zbyo_2), (20, zbyo_160 5), (23, zbyo_3), (24, zbyo_172), (25, zbyo_42)]
theorem zbyb_272 : zbys zbyl_272 (cX10_readShares.data.toList.drop 0) 0 = true := by decide +kernel
theorem dX10_readShares_0 : decode cX10_readShares 0 = .ok (.aload_n 0, 1) := zby_g zbyb_272 (i := 0) rfl rfl
theorem dX10_readShares_1 : decode cX10_readShares 1 = .ok (.getfield 20, 3) := zby_g zbyb_272 (i := 1) rfl rfl
theorem dX10_readShares_4 : decode cX10_readShares 4 = .ok (.iconst 0, 1) := zby_g zbyb_272 (i := 2) rfl rfl
theorem dX10_readShares_5 : decode cX10_readShares 5 = .ok (.aload_n 0, 1) := zby_g zbyb_272 (i := 3) rfl rfl
theorem dX10_readShares_6 : decode cX10_readShares 6 = .ok (.getfield 14, 3) := zby_g zbyb_272 (i := 4) rfl rfl
theorem dX10_readShares_9 : decode cX10_readShares 9 = .ok (.getfield 78, 3) := zby_g zbyb_272 (i := 5) rfl rfl
theorem dX10_readShares_12 : decode cX10_readShares 12 = .ok (.iconst 1, 1) := zby_g zbyb_272 (i := 6) rfl rfl
theorem dX10_readShares_13 : decode cX10_readShares 13 = .ok (.isub, 1) := zby_g zbyb_272 (i := 7) rfl rfl
theorem dX10_readShares_14 : decode cX10_readShares 14 = .ok (.invokevirtual 56, 3) := zby_g zbyb_272 (i := 8) rfl rfl
theorem dX10_readShares_17 : decode cX10_readShares 17 = .ok (.istore_n 1, 1) := zby_g zbyb_272 (i := 9) rfl rfl
theorem dX10_readShares_18 : decode cX10_readShares 18 = .ok (.iload_n 1, 1) := zby_g zbyb_272 (i := 10) rfl rfl
theorem dX10_readShares_19 : decode cX10_readShares 19 = .ok (.iconst (-1), 1) := zby_g zbyb_272 (i := 11) rfl rfl
theorem dX10_readShares_20 : decode cX10_readShares 20 = .ok (.if_icmp .ne 5, 3) := zby_g zbyb_272 (i := 12) rfl rfl
theorem dX10_readShares_23 : decode cX10_readShares 23 = .ok (.iconst 0, 1) := zby_g zbyb_272 (i := 13) rfl rfl
theorem dX10_readShares_24 : decode cX10_readShares 24 = .ok (.ireturn, 1) := zby_g zbyb_272 (i := 14) rfl rfl
theorem dX10_readShares_25 : decode cX10_readShares 25 = .ok (.aload_n 0, 1) := zby_g zbyb_272 (i := 15) rfl rfl
noncomputable def zbyl_273 : List (Nat × zbyE) := [(26, zbyo_180 20), (29, zbyo_3), (30, zbyo_16 99), (32, zbyo_182 56), (35, zbyo_61), (36, zbyo_28), (37, zbyo_2), (38, zbyo_160 5), (41, zbyo_3), (42, zbyo_172), (43, zbyo_42), (44, zbyo_180 14), (47, zbyo_180 122), (50, zbyo_27), (51, zbyo_28), (52, zbyo_79)]
theorem zbyb_273 : zbys zbyl_273 (cX10_readShares.data.toList.drop 26) 26 = true := by decide +kernel
theorem dX10_readShares_26 : decode cX10_readShares 26 = .ok (.getfield 20, 3) := zby_g zbyb_273 (i := 0) rfl rfl
theorem dX10_readShares_29 : decode cX10_readShares 29 = .ok (.iconst 0, 1) := zby_g zbyb_273 (i := 1) rfl rfl
theorem dX10_readShares_30 : decode cX10_readShares 30 = .ok (.bipush 99, 2) := zby_g zbyb_273 (i := 2) rfl rfl
theorem dX10_readShares_32 : decode cX10_readShares 32 = .ok (.invokevirtual 56, 3) := zby_g zbyb_273 (i := 3) rfl rfl
theorem dX10_readShares_35 : decode cX10_readShares 35 = .ok (.istore_n 2, 1) := zby_g zbyb_273 (i := 4) rfl rfl
theorem dX10_readShares_36 : decode cX10_readShares 36 = .ok (.iload_n 2, 1) := zby_g zbyb_273 (i := 5) rfl rfl
theorem dX10_readShares_37 : decode cX10_readShares 37 = .ok (.iconst (-1), 1) := zby_g zbyb_273 (i := 6) rfl rfl
theorem dX10_readShares_38 : decode cX10_readShares 38 = .ok (.if_icmp .ne 5, 3) := zby_g zbyb_273 (i := 7) rfl rfl
theorem dX10_readShares_41 : decode cX10_readShares 41 = .ok (.iconst 0, 1) := zby_g zbyb_273 (i := 8) rfl rfl
theorem dX10_readShares_42 : decode cX10_readShares 42 = .ok (.ireturn, 1) := zby_g zbyb_273 (i := 9) rfl rfl
theorem dX10_readShares_43 : decode cX10_readShares 43 = .ok (.aload_n 0, 1) := zby_g zbyb_273 (i := 10) rfl rfl
theorem dX10_readShares_44 : decode cX10_readShares 44 = .ok (.getfield 14, 3) := zby_g zbyb_273 (i := 11) rfl rfl
theorem dX10_readShares_47 : decode cX10_readShares 47 = .ok (.getfield 122, 3) := zby_g zbyb_273 (i := 12) rfl rfl
theorem dX10_readShares_50 : decode cX10_readShares 50 = .ok (.iload_n 1, 1) := zby_g zbyb_273 (i := 13) rfl rfl
theorem dX10_readShares_51 : decode cX10_readShares 51 = .ok (.iload_n 2, 1) := zby_g zbyb_273 (i := 14) rfl rfl
theorem dX10_readShares_52 : decode cX10_readShares 52 = .ok (.iastore, 1) := zby_g zbyb_273 (i := 15) rfl rfl
noncomputable def zbyl_274 : List (Nat × zbyE) := [(53, zbyo_4), (54, zbyo_172)]
theorem zbyb_274 : zbys zbyl_274 (cX10_readShares.data.toList.drop 53) 53 = true := by decide +kernel
theorem dX10_readShares_53 : decode cX10_readShares 53 = .ok (.iconst 1, 1) := zby_g zbyb_274 (i := 0) rfl rfl
theorem dX10_readShares_54 : decode cX10_readShares 54 = .ok (.ireturn, 1) := zby_g zbyb_274 (i := 1) rfl rfl
noncomputable def zbyl_275 : List (Nat × zbyE) := [(0, zbyo_42), (1, zbyo_183 1), (4, zbyo_42), (5, zbyo_187 7), (8, zbyo_89), (9, zbyo_183 9), (12, zbyo_181 10), (15, zbyo_42), (16, zbyo_187 16), (19, zbyo_89), (20, zbyo_183 18), (23, zbyo_181 19), (26, zbyo_42), (27, zbyo_187 23), (30, zbyo_89), (31, zbyo_183 25)]
theorem zbyb_275 : zbys zbyl_275 (cX11_init.data.toList.drop 0) 0 = true := by decide +kernel
theorem dX11_init_0 : decode cX11_init 0 = .ok (.aload_n 0, 1) := zby_g zbyb_275 (i := 0) rfl rfl
theorem dX11_init_1 : decode cX11_init 1 = .ok (.invokespecial 1, 3) := zby_g zbyb_275 (i := 1) rfl rfl
theorem dX11_init_4 : decode cX11_init 4 = .ok (.aload_n 0, 1) := zby_g zbyb_275 (i := 2) rfl rfl
theorem dX11_init_5 : decode cX11_init 5 = .ok (.new 7, 3) := zby_g zbyb_275 (i := 3) rfl rfl
theorem dX11_init_8 : decode cX11_init 8 = .ok (.dup, 1) := zby_g zbyb_275 (i := 4) rfl rfl
theorem dX11_init_9 : decode cX11_init 9 = .ok (.invokespecial 9, 3) := zby_g zbyb_275 (i := 5) rfl rfl
theorem dX11_init_12 : decode cX11_init 12 = .ok (.putfield 10, 3) := zby_g zbyb_275 (i := 6) rfl rfl
theorem dX11_init_15 : decode cX11_init 15 = .ok (.aload_n 0, 1) := zby_g zbyb_275 (i := 7) rfl rfl
theorem dX11_init_16 : decode cX11_init 16 = .ok (.new 16, 3) := zby_g zbyb_275 (i := 8) rfl rfl
theorem dX11_init_19 : decode cX11_init 19 = .ok (.dup, 1) := zby_g zbyb_275 (i := 9) rfl rfl
theorem dX11_init_20 : decode cX11_init 20 = .ok (.invokespecial 18, 3) := zby_g zbyb_275 (i := 10) rfl rfl
theorem dX11_init_23 : decode cX11_init 23 = .ok (.putfield 19, 3) := zby_g zbyb_275 (i := 11) rfl rfl
theorem dX11_init_26 : decode cX11_init 26 = .ok (.aload_n 0, 1) := zby_g zbyb_275 (i := 12) rfl rfl
theorem dX11_init_27 : decode cX11_init 27 = .ok (.new 23, 3) := zby_g zbyb_275 (i := 13) rfl rfl
theorem dX11_init_30 : decode cX11_init 30 = .ok (.dup, 1) := zby_g zbyb_275 (i := 14) rfl rfl
theorem dX11_init_31 : decode cX11_init 31 = .ok (.invokespecial 25, 3) := zby_g zbyb_275 (i := 15) rfl rfl
noncomputable def zbyl_276 : List (Nat × zbyE) := [(34, zbyo_181 26), (37, zbyo_42), (38, zbyo_187 30), (41, zbyo_89), (42, zbyo_183 32), (45, zbyo_181 33), (48, zbyo_42), (49, zbyo_187 37), (52, zbyo_89), (53, zbyo_42), (54, zbyo_180 10), (57, zbyo_183 39), (60, zbyo_181 42), (63, zbyo_42), (64, zbyo_187 46), (67, zbyo_89)]
theorem zbyb_276 : zbys zbyl_276 (cX11_init.data.toList.drop 34) 34 = true := by decide +kernel
theorem dX11_init_34 : decode cX11_init 34 = .ok (.putfield 26, 3) := zby_g zbyb_276 (i := 0) rfl rfl
theorem dX11_init_37 : decode cX11_init 37 = .ok (.aload_n 0, 1) := zby_g zbyb_276 (i := 1) rfl rfl
theorem dX11_init_38 : decode cX11_init 38 = .ok (.new 30, 3) := zby_g zbyb_276 (i := 2) rfl rfl
theorem dX11_init_41 : decode cX11_init 41 = .ok (.dup, 1) := zby_g zbyb_276 (i := 3) rfl rfl
theorem dX11_init_42 : decode cX11_init 42 = .ok (.invokespecial 32, 3) := zby_g zbyb_276 (i := 4) rfl rfl
theorem dX11_init_45 : decode cX11_init 45 = .ok (.putfield 33, 3) := zby_g zbyb_276 (i := 5) rfl rfl
theorem dX11_init_48 : decode cX11_init 48 = .ok (.aload_n 0, 1) := zby_g zbyb_276 (i := 6) rfl rfl
theorem dX11_init_49 : decode cX11_init 49 = .ok (.new 37, 3) := zby_g zbyb_276 (i := 7) rfl rfl
theorem dX11_init_52 : decode cX11_init 52 = .ok (.dup, 1) := zby_g zbyb_276 (i := 8) rfl rfl
theorem dX11_init_53 : decode cX11_init 53 = .ok (.aload_n 0, 1) := zby_g zbyb_276 (i := 9) rfl rfl
theorem dX11_init_54 : decode cX11_init 54 = .ok (.getfield 10, 3) := zby_g zbyb_276 (i := 10) rfl rfl
theorem dX11_init_57 : decode cX11_init 57 = .ok (.invokespecial 39, 3) := zby_g zbyb_276 (i := 11) rfl rfl
theorem dX11_init_60 : decode cX11_init 60 = .ok (.putfield 42, 3) := zby_g zbyb_276 (i := 12) rfl rfl
theorem dX11_init_63 : decode cX11_init 63 = .ok (.aload_n 0, 1) := zby_g zbyb_276 (i := 13) rfl rfl
theorem dX11_init_64 : decode cX11_init 64 = .ok (.new 46, 3) := zby_g zbyb_276 (i := 14) rfl rfl
theorem dX11_init_67 : decode cX11_init 67 = .ok (.dup, 1) := zby_g zbyb_276 (i := 15) rfl rfl
noncomputable def zbyl_277 : List (Nat × zbyE) := [(68, zbyo_42), (69, zbyo_180 10), (72, zbyo_183 48), (75, zbyo_181 49), (78, zbyo_42), (79, zbyo_187 53), (82, zbyo_89), (83, zbyo_183 55), (86, zbyo_181 56), (89, zbyo_42), (90, zbyo_187 60), (93, zbyo_89), (94, zbyo_42), (95, zbyo_180 19), (98, zbyo_42), (99, zbyo_180 26)]
theorem zbyb_277 : zbys zbyl_277 (cX11_init.data.toList.drop 68) 68 = true := by decide +kernel
theorem dX11_init_68 : decode cX11_init 68 = .ok (.aload_n 0, 1) := zby_g zbyb_277 (i := 0) rfl rfl
theorem dX11_init_69 : decode cX11_init 69 = .ok (.getfield 10, 3) := zby_g zbyb_277 (i := 1) rfl rfl
theorem dX11_init_72 : decode cX11_init 72 = .ok (.invokespecial 48, 3) := zby_g zbyb_277 (i := 2) rfl rfl
theorem dX11_init_75 : decode cX11_init 75 = .ok (.putfield 49, 3) := zby_g zbyb_277 (i := 3) rfl rfl
theorem dX11_init_78 : decode cX11_init 78 = .ok (.aload_n 0, 1) := zby_g zbyb_277 (i := 4) rfl rfl
theorem dX11_init_79 : decode cX11_init 79 = .ok (.new 53, 3) := zby_g zbyb_277 (i := 5) rfl rfl
theorem dX11_init_82 : decode cX11_init 82 = .ok (.dup, 1) := zby_g zbyb_277 (i := 6) rfl rfl
theorem dX11_init_83 : decode cX11_init 83 = .ok (.invokespecial 55, 3) := zby_g zbyb_277 (i := 7) rfl rfl
theorem dX11_init_86 : decode cX11_init 86 = .ok (.putfield 56, 3) := zby_g zbyb_277 (i := 8) rfl rfl
theorem dX11_init_89 : decode cX11_init 89 = .ok (.aload_n 0, 1) := zby_g zbyb_277 (i := 9) rfl rfl
theorem dX11_init_90 : decode cX11_init 90 = .ok (.new 60, 3) := zby_g zbyb_277 (i := 10) rfl rfl
theorem dX11_init_93 : decode cX11_init 93 = .ok (.dup, 1) := zby_g zbyb_277 (i := 11) rfl rfl
theorem dX11_init_94 : decode cX11_init 94 = .ok (.aload_n 0, 1) := zby_g zbyb_277 (i := 12) rfl rfl
theorem dX11_init_95 : decode cX11_init 95 = .ok (.getfield 19, 3) := zby_g zbyb_277 (i := 13) rfl rfl
theorem dX11_init_98 : decode cX11_init 98 = .ok (.aload_n 0, 1) := zby_g zbyb_277 (i := 14) rfl rfl
theorem dX11_init_99 : decode cX11_init 99 = .ok (.getfield 26, 3) := zby_g zbyb_277 (i := 15) rfl rfl
noncomputable def zbyl_278 : List (Nat × zbyE) := [(102, zbyo_183 62), (105, zbyo_181 65), (108, zbyo_42), (109, zbyo_187 69), (112, zbyo_89), (113, zbyo_183 71), (116, zbyo_181 72), (119, zbyo_42), (120, zbyo_2), (121, zbyo_181 76), (124, zbyo_177)]
theorem zbyb_278 : zbys zbyl_278 (cX11_init.data.toList.drop 102) 102 = true := by decide +kernel
theorem dX11_init_102 : decode cX11_init 102 = .ok (.invokespecial 62, 3) := zby_g zbyb_278 (i := 0) rfl rfl
theorem dX11_init_105 : decode cX11_init 105 = .ok (.putfield 65, 3) := zby_g zbyb_278 (i := 1) rfl rfl
theorem dX11_init_108 : decode cX11_init 108 = .ok (.aload_n 0, 1) := zby_g zbyb_278 (i := 2) rfl rfl
theorem dX11_init_109 : decode cX11_init 109 = .ok (.new 69, 3) := zby_g zbyb_278 (i := 3) rfl rfl
theorem dX11_init_112 : decode cX11_init 112 = .ok (.dup, 1) := zby_g zbyb_278 (i := 4) rfl rfl
theorem dX11_init_113 : decode cX11_init 113 = .ok (.invokespecial 71, 3) := zby_g zbyb_278 (i := 5) rfl rfl
theorem dX11_init_116 : decode cX11_init 116 = .ok (.putfield 72, 3) := zby_g zbyb_278 (i := 6) rfl rfl
theorem dX11_init_119 : decode cX11_init 119 = .ok (.aload_n 0, 1) := zby_g zbyb_278 (i := 7) rfl rfl
theorem dX11_init_120 : decode cX11_init 120 = .ok (.iconst (-1), 1) := zby_g zbyb_278 (i := 8) rfl rfl
theorem dX11_init_121 : decode cX11_init 121 = .ok (.putfield 76, 3) := zby_g zbyb_278 (i := 9) rfl rfl
theorem dX11_init_124 : decode cX11_init 124 = .ok (.return_, 1) := zby_g zbyb_278 (i := 10) rfl rfl
noncomputable def zbyl_279 : List (Nat × zbyE) := [(0, zbyo_42), (1, zbyo_180 10), (4, zbyo_180 80), (7, zbyo_17 380), (10, zbyo_164 5), (13, zbyo_2), (14, zbyo_172), (15, zbyo_42), (16, zbyo_180 10), (19, zbyo_27), (20, zbyo_182 83), (23, zbyo_42), (24, zbyo_180 10), (27, zbyo_28), (28, zbyo_182 83), (31, zbyo_42)]
theorem zbyb_279 : zbys zbyl_279 (cX11_feed.data.toList.drop 0) 0 = true := by decide +kernel
theorem dX11_feed_0 : decode cX11_feed 0 = .ok (.aload_n 0, 1) := zby_g zbyb_279 (i := 0) rfl rfl
theorem dX11_feed_1 : decode cX11_feed 1 = .ok (.getfield 10, 3) := zby_g zbyb_279 (i := 1) rfl rfl
theorem dX11_feed_4 : decode cX11_feed 4 = .ok (.getfield 80, 3) := zby_g zbyb_279 (i := 2) rfl rfl
theorem dX11_feed_7 : decode cX11_feed 7 = .ok (.sipush 380, 3) := zby_g zbyb_279 (i := 3) rfl rfl
theorem dX11_feed_10 : decode cX11_feed 10 = .ok (.if_icmp .le 5, 3) := zby_g zbyb_279 (i := 4) rfl rfl
theorem dX11_feed_13 : decode cX11_feed 13 = .ok (.iconst (-1), 1) := zby_g zbyb_279 (i := 5) rfl rfl
theorem dX11_feed_14 : decode cX11_feed 14 = .ok (.ireturn, 1) := zby_g zbyb_279 (i := 6) rfl rfl
theorem dX11_feed_15 : decode cX11_feed 15 = .ok (.aload_n 0, 1) := zby_g zbyb_279 (i := 7) rfl rfl
theorem dX11_feed_16 : decode cX11_feed 16 = .ok (.getfield 10, 3) := zby_g zbyb_279 (i := 8) rfl rfl
theorem dX11_feed_19 : decode cX11_feed 19 = .ok (.iload_n 1, 1) := zby_g zbyb_279 (i := 9) rfl rfl
theorem dX11_feed_20 : decode cX11_feed 20 = .ok (.invokevirtual 83, 3) := zby_g zbyb_279 (i := 10) rfl rfl
theorem dX11_feed_23 : decode cX11_feed 23 = .ok (.aload_n 0, 1) := zby_g zbyb_279 (i := 11) rfl rfl
theorem dX11_feed_24 : decode cX11_feed 24 = .ok (.getfield 10, 3) := zby_g zbyb_279 (i := 12) rfl rfl
theorem dX11_feed_27 : decode cX11_feed 27 = .ok (.iload_n 2, 1) := zby_g zbyb_279 (i := 13) rfl rfl
theorem dX11_feed_28 : decode cX11_feed 28 = .ok (.invokevirtual 83, 3) := zby_g zbyb_279 (i := 14) rfl rfl
theorem dX11_feed_31 : decode cX11_feed 31 = .ok (.aload_n 0, 1) := zby_g zbyb_279 (i := 15) rfl rfl
noncomputable def zbyl_280 : List (Nat × zbyE) := [(32, zbyo_180 10), (35, zbyo_29), (36, zbyo_182 83), (39, zbyo_42), (40, zbyo_180 10), (43, zbyo_21 4), (45, zbyo_182 83), (48, zbyo_42), (49, zbyo_180 10), (52, zbyo_21 5), (54, zbyo_182 83), (57, zbyo_42), (58, zbyo_180 10), (61, zbyo_180 80), (64, zbyo_172)]
theorem zbyb_280 : zbys zbyl_280 (cX11_feed.data.toList.drop 32) 32 = true := by decide +kernel
theorem dX11_feed_32 : decode cX11_feed 32 = .ok (.getfield 10, 3) := zby_g zbyb_280 (i := 0) rfl rfl
theorem dX11_feed_35 : decode cX11_feed 35 = .ok (.iload_n 3, 1) := zby_g zbyb_280 (i := 1) rfl rfl
theorem dX11_feed_36 : decode cX11_feed 36 = .ok (.invokevirtual 83, 3) := zby_g zbyb_280 (i := 2) rfl rfl
theorem dX11_feed_39 : decode cX11_feed 39 = .ok (.aload_n 0, 1) := zby_g zbyb_280 (i := 3) rfl rfl
theorem dX11_feed_40 : decode cX11_feed 40 = .ok (.getfield 10, 3) := zby_g zbyb_280 (i := 4) rfl rfl
theorem dX11_feed_43 : decode cX11_feed 43 = .ok (.iload 4, 2) := zby_g zbyb_280 (i := 5) rfl rfl
theorem dX11_feed_45 : decode cX11_feed 45 = .ok (.invokevirtual 83, 3) := zby_g zbyb_280 (i := 6) rfl rfl
theorem dX11_feed_48 : decode cX11_feed 48 = .ok (.aload_n 0, 1) := zby_g zbyb_280 (i := 7) rfl rfl
theorem dX11_feed_49 : decode cX11_feed 49 = .ok (.getfield 10, 3) := zby_g zbyb_280 (i := 8) rfl rfl
theorem dX11_feed_52 : decode cX11_feed 52 = .ok (.iload 5, 2) := zby_g zbyb_280 (i := 9) rfl rfl
theorem dX11_feed_54 : decode cX11_feed 54 = .ok (.invokevirtual 83, 3) := zby_g zbyb_280 (i := 10) rfl rfl
theorem dX11_feed_57 : decode cX11_feed 57 = .ok (.aload_n 0, 1) := zby_g zbyb_280 (i := 11) rfl rfl
theorem dX11_feed_58 : decode cX11_feed 58 = .ok (.getfield 10, 3) := zby_g zbyb_280 (i := 12) rfl rfl
theorem dX11_feed_61 : decode cX11_feed 61 = .ok (.getfield 80, 3) := zby_g zbyb_280 (i := 13) rfl rfl
theorem dX11_feed_64 : decode cX11_feed 64 = .ok (.ireturn, 1) := zby_g zbyb_280 (i := 14) rfl rfl
noncomputable def zbyl_281 : List (Nat × zbyE) := [(0, zbyo_27), (1, zbyo_155 14), (4, zbyo_27), (5, zbyo_42), (6, zbyo_180 10), (9, zbyo_180 80), (12, zbyo_164 5), (15, zbyo_3), (16, zbyo_172), (17, zbyo_42), (18, zbyo_180 10), (21, zbyo_27), (22, zbyo_181 80), (25, zbyo_4), (26, zbyo_172)]
theorem zbyb_281 : zbys zbyl_281 (cX11_end.data.toList.drop 0) 0 = true := by decide +kernel
theorem dX11_end_0 : decode cX11_end 0 = .ok (.iload_n 1, 1) := zby_g zbyb_281 (i := 0) rfl rfl
theorem dX11_end_1 : decode cX11_end 1 = .ok (.ifCond .lt 14, 3) := zby_g zbyb_281 (i := 1) rfl rfl
theorem dX11_end_4 : decode cX11_end 4 = .ok (.iload_n 1, 1) := zby_g zbyb_281 (i := 2) rfl rfl
theorem dX11_end_5 : decode cX11_end 5 = .ok (.aload_n 0, 1) := zby_g zbyb_281 (i := 3) rfl rfl
theorem dX11_end_6 : decode cX11_end 6 = .ok (.getfield 10, 3) := zby_g zbyb_281 (i := 4) rfl rfl
theorem dX11_end_9 : decode cX11_end 9 = .ok (.getfield 80, 3) := zby_g zbyb_281 (i := 5) rfl rfl
theorem dX11_end_12 : decode cX11_end 12 = .ok (.if_icmp .le 5, 3) := zby_g zbyb_281 (i := 6) rfl rfl
theorem dX11_end_15 : decode cX11_end 15 = .ok (.iconst 0, 1) := zby_g zbyb_281 (i := 7) rfl rfl
theorem dX11_end_16 : decode cX11_end 16 = .ok (.ireturn, 1) := zby_g zbyb_281 (i := 8) rfl rfl
theorem dX11_end_17 : decode cX11_end 17 = .ok (.aload_n 0, 1) := zby_g zbyb_281 (i := 9) rfl rfl
theorem dX11_end_18 : decode cX11_end 18 = .ok (.getfield 10, 3) := zby_g zbyb_281 (i := 10) rfl rfl
theorem dX11_end_21 : decode cX11_end 21 = .ok (.iload_n 1, 1) := zby_g zbyb_281 (i := 11) rfl rfl
theorem dX11_end_22 : decode cX11_end 22 = .ok (.putfield 80, 3) := zby_g zbyb_281 (i := 12) rfl rfl
theorem dX11_end_25 : decode cX11_end 25 = .ok (.iconst 1, 1) := zby_g zbyb_281 (i := 13) rfl rfl
theorem dX11_end_26 : decode cX11_end 26 = .ok (.ireturn, 1) := zby_g zbyb_281 (i := 14) rfl rfl
noncomputable def zbyl_282 : List (Nat × zbyE) := [(0, zbyo_42), (1, zbyo_180 10), (4, zbyo_42), (5, zbyo_180 10), (8, zbyo_182 87), (11, zbyo_182 91), (14, zbyo_42), (15, zbyo_180 42), (18, zbyo_180 94), (21, zbyo_42), (22, zbyo_180 19), (25, zbyo_182 97), (28, zbyo_42), (29, zbyo_180 42), (32, zbyo_16 14), (34, zbyo_182 101)]
theorem zbyb_282 : zbys zbyl_282 (cX11_town.data.toList.drop 0) 0 = true := by decide +kernel
theorem dX11_town_0 : decode cX11_town 0 = .ok (.aload_n 0, 1) := zby_g zbyb_282 (i := 0) rfl rfl
theorem dX11_town_1 : decode cX11_town 1 = .ok (.getfield 10, 3) := zby_g zbyb_282 (i := 1) rfl rfl
theorem dX11_town_4 : decode cX11_town 4 = .ok (.aload_n 0, 1) := zby_g zbyb_282 (i := 2) rfl rfl
theorem dX11_town_5 : decode cX11_town 5 = .ok (.getfield 10, 3) := zby_g zbyb_282 (i := 3) rfl rfl
theorem dX11_town_8 : decode cX11_town 8 = .ok (.invokevirtual 87, 3) := zby_g zbyb_282 (i := 4) rfl rfl
theorem dX11_town_11 : decode cX11_town 11 = .ok (.invokevirtual 91, 3) := zby_g zbyb_282 (i := 5) rfl rfl
theorem dX11_town_14 : decode cX11_town 14 = .ok (.aload_n 0, 1) := zby_g zbyb_282 (i := 6) rfl rfl
theorem dX11_town_15 : decode cX11_town 15 = .ok (.getfield 42, 3) := zby_g zbyb_282 (i := 7) rfl rfl
theorem dX11_town_18 : decode cX11_town 18 = .ok (.getfield 94, 3) := zby_g zbyb_282 (i := 8) rfl rfl
theorem dX11_town_21 : decode cX11_town 21 = .ok (.aload_n 0, 1) := zby_g zbyb_282 (i := 9) rfl rfl
theorem dX11_town_22 : decode cX11_town 22 = .ok (.getfield 19, 3) := zby_g zbyb_282 (i := 10) rfl rfl
theorem dX11_town_25 : decode cX11_town 25 = .ok (.invokevirtual 97, 3) := zby_g zbyb_282 (i := 11) rfl rfl
theorem dX11_town_28 : decode cX11_town 28 = .ok (.aload_n 0, 1) := zby_g zbyb_282 (i := 12) rfl rfl
theorem dX11_town_29 : decode cX11_town 29 = .ok (.getfield 42, 3) := zby_g zbyb_282 (i := 13) rfl rfl
theorem dX11_town_32 : decode cX11_town 32 = .ok (.bipush 14, 2) := zby_g zbyb_282 (i := 14) rfl rfl
theorem dX11_town_34 : decode cX11_town 34 = .ok (.invokevirtual 101, 3) := zby_g zbyb_282 (i := 15) rfl rfl
noncomputable def zbyl_283 : List (Nat × zbyE) := [(37, zbyo_60), (38, zbyo_42), (39, zbyo_42), (40, zbyo_180 10), (43, zbyo_180 105), (46, zbyo_181 76), (49, zbyo_27), (50, zbyo_2), (51, zbyo_160 13), (54, zbyo_187 106), (57, zbyo_89), (58, zbyo_18 108), (60, zbyo_183 110), (63, zbyo_191), (64, zbyo_42), (65, zbyo_180 19)]
theorem zbyb_283 : zbys zbyl_283 (cX11_town.data.toList.drop 37) 37 = true := by decide +kernel
theorem dX11_town_37 : decode cX11_town 37 = .ok (.istore_n 1, 1) := zby_g zbyb_283 (i := 0) rfl rfl
theorem dX11_town_38 : decode cX11_town 38 = .ok (.aload_n 0, 1) := zby_g zbyb_283 (i := 1) rfl rfl
theorem dX11_town_39 : decode cX11_town 39 = .ok (.aload_n 0, 1) := zby_g zbyb_283 (i := 2) rfl rfl
theorem dX11_town_40 : decode cX11_town 40 = .ok (.getfield 10, 3) := zby_g zbyb_283 (i := 3) rfl rfl
theorem dX11_town_43 : decode cX11_town 43 = .ok (.getfield 105, 3) := zby_g zbyb_283 (i := 4) rfl rfl
theorem dX11_town_46 : decode cX11_town 46 = .ok (.putfield 76, 3) := zby_g zbyb_283 (i := 5) rfl rfl
theorem dX11_town_49 : decode cX11_town 49 = .ok (.iload_n 1, 1) := zby_g zbyb_283 (i := 6) rfl rfl
theorem dX11_town_50 : decode cX11_town 50 = .ok (.iconst (-1), 1) := zby_g zbyb_283 (i := 7) rfl rfl
theorem dX11_town_51 : decode cX11_town 51 = .ok (.if_icmp .ne 13, 3) := zby_g zbyb_283 (i := 8) rfl rfl
theorem dX11_town_54 : decode cX11_town 54 = .ok (.new 106, 3) := zby_g zbyb_283 (i := 9) rfl rfl
theorem dX11_town_57 : decode cX11_town 57 = .ok (.dup, 1) := zby_g zbyb_283 (i := 10) rfl rfl
theorem dX11_town_58 : decode cX11_town 58 = .ok (.ldc 108, 2) := zby_g zbyb_283 (i := 11) rfl rfl
theorem dX11_town_60 : decode cX11_town 60 = .ok (.invokespecial 110, 3) := zby_g zbyb_283 (i := 12) rfl rfl
theorem dX11_town_63 : decode cX11_town 63 = .ok (.athrow, 1) := zby_g zbyb_283 (i := 13) rfl rfl
theorem dX11_town_64 : decode cX11_town 64 = .ok (.aload_n 0, 1) := zby_g zbyb_283 (i := 14) rfl rfl
theorem dX11_town_65 : decode cX11_town 65 = .ok (.getfield 19, 3) := zby_g zbyb_283 (i := 15) rfl rfl
noncomputable def zbyl_284 : List (Nat × zbyE) := [(68, zbyo_180 113), (71, zbyo_16 12), (73, zbyo_161 13), (76, zbyo_187 116), (79, zbyo_89), (80, zbyo_18 118), (82, zbyo_183 120), (85, zbyo_191), (86, zbyo_42), (87, zbyo_180 19), (90, zbyo_42), (91, zbyo_180 42), (94, zbyo_180 94), (97, zbyo_182 97), (100, zbyo_42), (101, zbyo_180 19)]
theorem zbyb_284 : zbys zbyl_284 (cX11_town.data.toList.drop 68) 68 = true := by decide +kernel
theorem dX11_town_68 : decode cX11_town 68 = .ok (.getfield 113, 3) := zby_g zbyb_284 (i := 0) rfl rfl
theorem dX11_town_71 : decode cX11_town 71 = .ok (.bipush 12, 2) := zby_g zbyb_284 (i := 1) rfl rfl
theorem dX11_town_73 : decode cX11_town 73 = .ok (.if_icmp .lt 13, 3) := zby_g zbyb_284 (i := 2) rfl rfl
theorem dX11_town_76 : decode cX11_town 76 = .ok (.new 116, 3) := zby_g zbyb_284 (i := 3) rfl rfl
theorem dX11_town_79 : decode cX11_town 79 = .ok (.dup, 1) := zby_g zbyb_284 (i := 4) rfl rfl
theorem dX11_town_80 : decode cX11_town 80 = .ok (.ldc 118, 2) := zby_g zbyb_284 (i := 5) rfl rfl
theorem dX11_town_82 : decode cX11_town 82 = .ok (.invokespecial 120, 3) := zby_g zbyb_284 (i := 6) rfl rfl
theorem dX11_town_85 : decode cX11_town 85 = .ok (.athrow, 1) := zby_g zbyb_284 (i := 7) rfl rfl
theorem dX11_town_86 : decode cX11_town 86 = .ok (.aload_n 0, 1) := zby_g zbyb_284 (i := 8) rfl rfl
theorem dX11_town_87 : decode cX11_town 87 = .ok (.getfield 19, 3) := zby_g zbyb_284 (i := 9) rfl rfl
theorem dX11_town_90 : decode cX11_town 90 = .ok (.aload_n 0, 1) := zby_g zbyb_284 (i := 10) rfl rfl
theorem dX11_town_91 : decode cX11_town 91 = .ok (.getfield 42, 3) := zby_g zbyb_284 (i := 11) rfl rfl
theorem dX11_town_94 : decode cX11_town 94 = .ok (.getfield 94, 3) := zby_g zbyb_284 (i := 12) rfl rfl
theorem dX11_town_97 : decode cX11_town 97 = .ok (.invokevirtual 97, 3) := zby_g zbyb_284 (i := 13) rfl rfl
theorem dX11_town_100 : decode cX11_town 100 = .ok (.aload_n 0, 1) := zby_g zbyb_284 (i := 14) rfl rfl
theorem dX11_town_101 : decode cX11_town 101 = .ok (.getfield 19, 3) := zby_g zbyb_284 (i := 15) rfl rfl
noncomputable def zbyl_285 : List (Nat × zbyE) := [(104, zbyo_89), (105, zbyo_180 113), (108, zbyo_4), (109, zbyo_96), (110, zbyo_181 113), (113, zbyo_42), (114, zbyo_180 56), (117, zbyo_182 121), (120, zbyo_42), (121, zbyo_180 19), (124, zbyo_180 113), (127, zbyo_172)]
theorem zbyb_285 : zbys zbyl_285 (cX11_town.data.toList.drop 104) 104 = true := by decide +kernel
theorem dX11_town_104 : decode cX11_town 104 = .ok (.dup, 1) := zby_g zbyb_285 (i := 0) rfl rfl
theorem dX11_town_105 : decode cX11_town 105 = .ok (.getfield 113, 3) := zby_g zbyb_285 (i := 1) rfl rfl
theorem dX11_town_108 : decode cX11_town 108 = .ok (.iconst 1, 1) := zby_g zbyb_285 (i := 2) rfl rfl
theorem dX11_town_109 : decode cX11_town 109 = .ok (.iadd, 1) := zby_g zbyb_285 (i := 3) rfl rfl
theorem dX11_town_110 : decode cX11_town 110 = .ok (.putfield 113, 3) := zby_g zbyb_285 (i := 4) rfl rfl
theorem dX11_town_113 : decode cX11_town 113 = .ok (.aload_n 0, 1) := zby_g zbyb_285 (i := 5) rfl rfl
theorem dX11_town_114 : decode cX11_town 114 = .ok (.getfield 56, 3) := zby_g zbyb_285 (i := 6) rfl rfl
theorem dX11_town_117 : decode cX11_town 117 = .ok (.invokevirtual 121, 3) := zby_g zbyb_285 (i := 7) rfl rfl
theorem dX11_town_120 : decode cX11_town 120 = .ok (.aload_n 0, 1) := zby_g zbyb_285 (i := 8) rfl rfl
theorem dX11_town_121 : decode cX11_town 121 = .ok (.getfield 19, 3) := zby_g zbyb_285 (i := 9) rfl rfl
theorem dX11_town_124 : decode cX11_town 124 = .ok (.getfield 113, 3) := zby_g zbyb_285 (i := 10) rfl rfl
theorem dX11_town_127 : decode cX11_town 127 = .ok (.ireturn, 1) := zby_g zbyb_285 (i := 11) rfl rfl
noncomputable def zbyl_286 : List (Nat × zbyE) := [(0, zbyo_42), (1, zbyo_180 10), (4, zbyo_42), (5, zbyo_180 10), (8, zbyo_182 87), (11, zbyo_182 91), (14, zbyo_42), (15, zbyo_180 49), (18, zbyo_180 124), (21, zbyo_182 126), (24, zbyo_42), (25, zbyo_180 49), (28, zbyo_16 12), (30, zbyo_182 129), (33, zbyo_60), (34, zbyo_42)]
theorem zbyb_286 : zbys zbyl_286 (cX11_law.data.toList.drop 0) 0 = true := by decide +kernel
theorem dX11_law_0 : decode cX11_law 0 = .ok (.aload_n 0, 1) := zby_g zbyb_286 (i := 0) rfl rfl
theorem dX11_law_1 : decode cX11_law 1 = .ok (.getfield 10, 3) := zby_g zbyb_286 (i := 1) rfl rfl
theorem dX11_law_4 : decode cX11_law 4 = .ok (.aload_n 0, 1) := zby_g zbyb_286 (i := 2) rfl rfl
theorem dX11_law_5 : decode cX11_law 5 = .ok (.getfield 10, 3) := zby_g zbyb_286 (i := 3) rfl rfl
theorem dX11_law_8 : decode cX11_law 8 = .ok (.invokevirtual 87, 3) := zby_g zbyb_286 (i := 4) rfl rfl
theorem dX11_law_11 : decode cX11_law 11 = .ok (.invokevirtual 91, 3) := zby_g zbyb_286 (i := 5) rfl rfl
theorem dX11_law_14 : decode cX11_law 14 = .ok (.aload_n 0, 1) := zby_g zbyb_286 (i := 6) rfl rfl
theorem dX11_law_15 : decode cX11_law 15 = .ok (.getfield 49, 3) := zby_g zbyb_286 (i := 7) rfl rfl
theorem dX11_law_18 : decode cX11_law 18 = .ok (.getfield 124, 3) := zby_g zbyb_286 (i := 8) rfl rfl
theorem dX11_law_21 : decode cX11_law 21 = .ok (.invokevirtual 126, 3) := zby_g zbyb_286 (i := 9) rfl rfl
theorem dX11_law_24 : decode cX11_law 24 = .ok (.aload_n 0, 1) := zby_g zbyb_286 (i := 10) rfl rfl
theorem dX11_law_25 : decode cX11_law 25 = .ok (.getfield 49, 3) := zby_g zbyb_286 (i := 11) rfl rfl
theorem dX11_law_28 : decode cX11_law 28 = .ok (.bipush 12, 2) := zby_g zbyb_286 (i := 12) rfl rfl
theorem dX11_law_30 : decode cX11_law 30 = .ok (.invokevirtual 129, 3) := zby_g zbyb_286 (i := 13) rfl rfl
theorem dX11_law_33 : decode cX11_law 33 = .ok (.istore_n 1, 1) := zby_g zbyb_286 (i := 14) rfl rfl
theorem dX11_law_34 : decode cX11_law 34 = .ok (.aload_n 0, 1) := zby_g zbyb_286 (i := 15) rfl rfl
noncomputable def zbyl_287 : List (Nat × zbyE) := [(35, zbyo_42), (36, zbyo_180 10), (39, zbyo_180 105), (42, zbyo_181 76), (45, zbyo_27), (46, zbyo_2), (47, zbyo_160 13), (50, zbyo_187 106), (53, zbyo_89), (54, zbyo_18 130), (56, zbyo_183 110), (59, zbyo_191), (60, zbyo_42), (61, zbyo_180 49), (64, zbyo_180 124), (67, zbyo_27)]
theorem zbyb_287 : zbys zbyl_287 (cX11_law.data.toList.drop 35) 35 = true := by decide +kernel
theorem dX11_law_35 : decode cX11_law 35 = .ok (.aload_n 0, 1) := zby_g zbyb_287 (i := 0) rfl rfl
theorem dX11_law_36 : decode cX11_law 36 = .ok (.getfield 10, 3) := zby_g zbyb_287 (i := 1) rfl rfl
theorem dX11_law_39 : decode cX11_law 39 = .ok (.getfield 105, 3) := zby_g zbyb_287 (i := 2) rfl rfl
theorem dX11_law_42 : decode cX11_law 42 = .ok (.putfield 76, 3) := zby_g zbyb_287 (i := 3) rfl rfl
theorem dX11_law_45 : decode cX11_law 45 = .ok (.iload_n 1, 1) := zby_g zbyb_287 (i := 4) rfl rfl
theorem dX11_law_46 : decode cX11_law 46 = .ok (.iconst (-1), 1) := zby_g zbyb_287 (i := 5) rfl rfl
theorem dX11_law_47 : decode cX11_law 47 = .ok (.if_icmp .ne 13, 3) := zby_g zbyb_287 (i := 6) rfl rfl
theorem dX11_law_50 : decode cX11_law 50 = .ok (.new 106, 3) := zby_g zbyb_287 (i := 7) rfl rfl
theorem dX11_law_53 : decode cX11_law 53 = .ok (.dup, 1) := zby_g zbyb_287 (i := 8) rfl rfl
theorem dX11_law_54 : decode cX11_law 54 = .ok (.ldc 130, 2) := zby_g zbyb_287 (i := 9) rfl rfl
theorem dX11_law_56 : decode cX11_law 56 = .ok (.invokespecial 110, 3) := zby_g zbyb_287 (i := 10) rfl rfl
theorem dX11_law_59 : decode cX11_law 59 = .ok (.athrow, 1) := zby_g zbyb_287 (i := 11) rfl rfl
theorem dX11_law_60 : decode cX11_law 60 = .ok (.aload_n 0, 1) := zby_g zbyb_287 (i := 12) rfl rfl
theorem dX11_law_61 : decode cX11_law 61 = .ok (.getfield 49, 3) := zby_g zbyb_287 (i := 13) rfl rfl
theorem dX11_law_64 : decode cX11_law 64 = .ok (.getfield 124, 3) := zby_g zbyb_287 (i := 14) rfl rfl
theorem dX11_law_67 : decode cX11_law 67 = .ok (.iload_n 1, 1) := zby_g zbyb_287 (i := 15) rfl rfl
noncomputable def zbyl_288 : List (Nat × zbyE) := [(68, zbyo_181 132), (71, zbyo_42), (72, zbyo_180 26), (75, zbyo_42), (76, zbyo_180 49), (79, zbyo_180 124), (82, zbyo_182 135), (85, zbyo_42), (86, zbyo_180 56), (89, zbyo_182 121), (92, zbyo_27), (93, zbyo_172)]
theorem zbyb_288 : zbys zbyl_288 (cX11_law.data.toList.drop 68) 68 = true := by decide +kernel
theorem dX11_law_68 : decode cX11_law 68 = .ok (.putfield 132, 3) := zby_g zbyb_288 (i := 0) rfl rfl
theorem dX11_law_71 : decode cX11_law 71 = .ok (.aload_n 0, 1) := zby_g zbyb_288 (i := 1) rfl rfl
theorem dX11_law_72 : decode cX11_law 72 = .ok (.getfield 26, 3) := zby_g zbyb_288 (i := 2) rfl rfl
theorem dX11_law_75 : decode cX11_law 75 = .ok (.aload_n 0, 1) := zby_g zbyb_288 (i := 3) rfl rfl
theorem dX11_law_76 : decode cX11_law 76 = .ok (.getfield 49, 3) := zby_g zbyb_288 (i := 4) rfl rfl
theorem dX11_law_79 : decode cX11_law 79 = .ok (.getfield 124, 3) := zby_g zbyb_288 (i := 5) rfl rfl
theorem dX11_law_82 : decode cX11_law 82 = .ok (.invokevirtual 135, 3) := zby_g zbyb_288 (i := 6) rfl rfl
theorem dX11_law_85 : decode cX11_law 85 = .ok (.aload_n 0, 1) := zby_g zbyb_288 (i := 7) rfl rfl
theorem dX11_law_86 : decode cX11_law 86 = .ok (.getfield 56, 3) := zby_g zbyb_288 (i := 8) rfl rfl
theorem dX11_law_89 : decode cX11_law 89 = .ok (.invokevirtual 121, 3) := zby_g zbyb_288 (i := 9) rfl rfl
theorem dX11_law_92 : decode cX11_law 92 = .ok (.iload_n 1, 1) := zby_g zbyb_288 (i := 10) rfl rfl
theorem dX11_law_93 : decode cX11_law 93 = .ok (.ireturn, 1) := zby_g zbyb_288 (i := 11) rfl rfl
noncomputable def zbyl_289 : List (Nat × zbyE) := [(0, zbyo_42), (1, zbyo_180 76), (4, zbyo_172)]
theorem zbyb_289 : zbys zbyl_289 (cX11_fault.data.toList.drop 0) 0 = true := by decide +kernel
theorem dX11_fault_0 : decode cX11_fault 0 = .ok (.aload_n 0, 1) := zby_g zbyb_289 (i := 0) rfl rfl
theorem dX11_fault_1 : decode cX11_fault 1 = .ok (.getfield 76, 3) := zby_g zbyb_289 (i := 1) rfl rfl
theorem dX11_fault_4 : decode cX11_fault 4 = .ok (.ireturn, 1) := zby_g zbyb_289 (i := 2) rfl rfl
noncomputable def zbyl_290 : List (Nat × zbyE) := [(0, zbyo_42), (1, zbyo_27), (2, zbyo_182 138), (5, zbyo_28)]
theorem zbyb_290 : zbys zbyl_290 (cX11_person.data.toList.drop 0) 0 = true := by decide +kernel
theorem dX11_person_0 : decode cX11_person 0 = .ok (.aload_n 0, 1) := zby_g zbyb_290 (i := 0) rfl rfl
theorem dX11_person_1 : decode cX11_person 1 = .ok (.iload_n 1, 1) := zby_g zbyb_290 (i := 1) rfl rfl
theorem dX11_person_2 : decode cX11_person 2 = .ok (.invokevirtual 138, 3) := zby_g zbyb_290 (i := 2) rfl rfl
theorem dX11_person_5 : decode cX11_person 5 = .ok (.iload_n 2, 1) := zby_g zbyb_290 (i := 3) rfl rfl
theorem dX11_person_6 : decode cX11_person 6 = .ok (.tableswitch 148 0 8 #[50, 60, 70, 80, 98, 108, 117, 130, 139], 50) := by decide +kernel
noncomputable def zbyl_291 : List (Nat × zbyE) := [(56, zbyo_42), (57, zbyo_180 19), (60, zbyo_180 141), (63, zbyo_27), (64, zbyo_46), (65, zbyo_172), (66, zbyo_42), (67, zbyo_180 19), (70, zbyo_180 145), (73, zbyo_27), (74, zbyo_46), (75, zbyo_172), (76, zbyo_42), (77, zbyo_180 19), (80, zbyo_180 148), (83, zbyo_27)]
theorem zbyb_291 : zbys zbyl_291 (cX11_person.data.toList.drop 56) 56 = true := by decide +kernel
theorem dX11_person_56 : decode cX11_person 56 = .ok (.aload_n 0, 1) := zby_g zbyb_291 (i := 0) rfl rfl
theorem dX11_person_57 : decode cX11_person 57 = .ok (.getfield 19, 3) := zby_g zbyb_291 (i := 1) rfl rfl
theorem dX11_person_60 : decode cX11_person 60 = .ok (.getfield 141, 3) := zby_g zbyb_291 (i := 2) rfl rfl
theorem dX11_person_63 : decode cX11_person 63 = .ok (.iload_n 1, 1) := zby_g zbyb_291 (i := 3) rfl rfl
theorem dX11_person_64 : decode cX11_person 64 = .ok (.iaload, 1) := zby_g zbyb_291 (i := 4) rfl rfl
theorem dX11_person_65 : decode cX11_person 65 = .ok (.ireturn, 1) := zby_g zbyb_291 (i := 5) rfl rfl
theorem dX11_person_66 : decode cX11_person 66 = .ok (.aload_n 0, 1) := zby_g zbyb_291 (i := 6) rfl rfl
theorem dX11_person_67 : decode cX11_person 67 = .ok (.getfield 19, 3) := zby_g zbyb_291 (i := 7) rfl rfl
theorem dX11_person_70 : decode cX11_person 70 = .ok (.getfield 145, 3) := zby_g zbyb_291 (i := 8) rfl rfl
theorem dX11_person_73 : decode cX11_person 73 = .ok (.iload_n 1, 1) := zby_g zbyb_291 (i := 9) rfl rfl
theorem dX11_person_74 : decode cX11_person 74 = .ok (.iaload, 1) := zby_g zbyb_291 (i := 10) rfl rfl
theorem dX11_person_75 : decode cX11_person 75 = .ok (.ireturn, 1) := zby_g zbyb_291 (i := 11) rfl rfl
theorem dX11_person_76 : decode cX11_person 76 = .ok (.aload_n 0, 1) := zby_g zbyb_291 (i := 12) rfl rfl
theorem dX11_person_77 : decode cX11_person 77 = .ok (.getfield 19, 3) := zby_g zbyb_291 (i := 13) rfl rfl
theorem dX11_person_80 : decode cX11_person 80 = .ok (.getfield 148, 3) := zby_g zbyb_291 (i := 14) rfl rfl
theorem dX11_person_83 : decode cX11_person 83 = .ok (.iload_n 1, 1) := zby_g zbyb_291 (i := 15) rfl rfl
noncomputable def zbyl_292 : List (Nat × zbyE) := [(84, zbyo_46), (85, zbyo_172), (86, zbyo_42), (87, zbyo_180 19), (90, zbyo_180 151), (93, zbyo_27), (94, zbyo_51), (95, zbyo_153 7), (98, zbyo_4), (99, zbyo_167 4), (102, zbyo_3), (103, zbyo_172), (104, zbyo_42), (105, zbyo_180 19), (108, zbyo_180 155), (111, zbyo_27)]
theorem zbyb_292 : zbys zbyl_292 (cX11_person.data.toList.drop 84) 84 = true := by decide +kernel
theorem dX11_person_84 : decode cX11_person 84 = .ok (.iaload, 1) := zby_g zbyb_292 (i := 0) rfl rfl
theorem dX11_person_85 : decode cX11_person 85 = .ok (.ireturn, 1) := zby_g zbyb_292 (i := 1) rfl rfl
theorem dX11_person_86 : decode cX11_person 86 = .ok (.aload_n 0, 1) := zby_g zbyb_292 (i := 2) rfl rfl
theorem dX11_person_87 : decode cX11_person 87 = .ok (.getfield 19, 3) := zby_g zbyb_292 (i := 3) rfl rfl
theorem dX11_person_90 : decode cX11_person 90 = .ok (.getfield 151, 3) := zby_g zbyb_292 (i := 4) rfl rfl
theorem dX11_person_93 : decode cX11_person 93 = .ok (.iload_n 1, 1) := zby_g zbyb_292 (i := 5) rfl rfl
theorem dX11_person_94 : decode cX11_person 94 = .ok (.baload, 1) := zby_g zbyb_292 (i := 6) rfl rfl
theorem dX11_person_95 : decode cX11_person 95 = .ok (.ifCond .eq 7, 3) := zby_g zbyb_292 (i := 7) rfl rfl
theorem dX11_person_98 : decode cX11_person 98 = .ok (.iconst 1, 1) := zby_g zbyb_292 (i := 8) rfl rfl
theorem dX11_person_99 : decode cX11_person 99 = .ok (.goto 4, 3) := zby_g zbyb_292 (i := 9) rfl rfl
theorem dX11_person_102 : decode cX11_person 102 = .ok (.iconst 0, 1) := zby_g zbyb_292 (i := 10) rfl rfl
theorem dX11_person_103 : decode cX11_person 103 = .ok (.ireturn, 1) := zby_g zbyb_292 (i := 11) rfl rfl
theorem dX11_person_104 : decode cX11_person 104 = .ok (.aload_n 0, 1) := zby_g zbyb_292 (i := 12) rfl rfl
theorem dX11_person_105 : decode cX11_person 105 = .ok (.getfield 19, 3) := zby_g zbyb_292 (i := 13) rfl rfl
theorem dX11_person_108 : decode cX11_person 108 = .ok (.getfield 155, 3) := zby_g zbyb_292 (i := 14) rfl rfl
theorem dX11_person_111 : decode cX11_person 111 = .ok (.iload_n 1, 1) := zby_g zbyb_292 (i := 15) rfl rfl
noncomputable def zbyl_293 : List (Nat × zbyE) := [(112, zbyo_46), (113, zbyo_172), (114, zbyo_42), (115, zbyo_180 19), (118, zbyo_27), (119, zbyo_182 158), (122, zbyo_172), (123, zbyo_42), (124, zbyo_180 19), (127, zbyo_27), (128, zbyo_42), (129, zbyo_180 26), (132, zbyo_182 161), (135, zbyo_172), (136, zbyo_42), (137, zbyo_180 19)]
theorem zbyb_293 : zbys zbyl_293 (cX11_person.data.toList.drop 112) 112 = true := by decide +kernel
theorem dX11_person_112 : decode cX11_person 112 = .ok (.iaload, 1) := zby_g zbyb_293 (i := 0) rfl rfl
theorem dX11_person_113 : decode cX11_person 113 = .ok (.ireturn, 1) := zby_g zbyb_293 (i := 1) rfl rfl
theorem dX11_person_114 : decode cX11_person 114 = .ok (.aload_n 0, 1) := zby_g zbyb_293 (i := 2) rfl rfl
theorem dX11_person_115 : decode cX11_person 115 = .ok (.getfield 19, 3) := zby_g zbyb_293 (i := 3) rfl rfl
theorem dX11_person_118 : decode cX11_person 118 = .ok (.iload_n 1, 1) := zby_g zbyb_293 (i := 4) rfl rfl
theorem dX11_person_119 : decode cX11_person 119 = .ok (.invokevirtual 158, 3) := zby_g zbyb_293 (i := 5) rfl rfl
theorem dX11_person_122 : decode cX11_person 122 = .ok (.ireturn, 1) := zby_g zbyb_293 (i := 6) rfl rfl
theorem dX11_person_123 : decode cX11_person 123 = .ok (.aload_n 0, 1) := zby_g zbyb_293 (i := 7) rfl rfl
theorem dX11_person_124 : decode cX11_person 124 = .ok (.getfield 19, 3) := zby_g zbyb_293 (i := 8) rfl rfl
theorem dX11_person_127 : decode cX11_person 127 = .ok (.iload_n 1, 1) := zby_g zbyb_293 (i := 9) rfl rfl
theorem dX11_person_128 : decode cX11_person 128 = .ok (.aload_n 0, 1) := zby_g zbyb_293 (i := 10) rfl rfl
theorem dX11_person_129 : decode cX11_person 129 = .ok (.getfield 26, 3) := zby_g zbyb_293 (i := 11) rfl rfl
theorem dX11_person_132 : decode cX11_person 132 = .ok (.invokevirtual 161, 3) := zby_g zbyb_293 (i := 12) rfl rfl
theorem dX11_person_135 : decode cX11_person 135 = .ok (.ireturn, 1) := zby_g zbyb_293 (i := 13) rfl rfl
theorem dX11_person_136 : decode cX11_person 136 = .ok (.aload_n 0, 1) := zby_g zbyb_293 (i := 14) rfl rfl
theorem dX11_person_137 : decode cX11_person 137 = .ok (.getfield 19, 3) := zby_g zbyb_293 (i := 15) rfl rfl
noncomputable def zbyl_294 : List (Nat × zbyE) := [(140, zbyo_27), (141, zbyo_182 165), (144, zbyo_172), (145, zbyo_42), (146, zbyo_180 19), (149, zbyo_27), (150, zbyo_182 168), (153, zbyo_172), (154, zbyo_187 171), (157, zbyo_89), (158, zbyo_18 173), (160, zbyo_183 175), (163, zbyo_191)]
theorem zbyb_294 : zbys zbyl_294 (cX11_person.data.toList.drop 140) 140 = true := by decide +kernel
theorem dX11_person_140 : decode cX11_person 140 = .ok (.iload_n 1, 1) := zby_g zbyb_294 (i := 0) rfl rfl
theorem dX11_person_141 : decode cX11_person 141 = .ok (.invokevirtual 165, 3) := zby_g zbyb_294 (i := 1) rfl rfl
theorem dX11_person_144 : decode cX11_person 144 = .ok (.ireturn, 1) := zby_g zbyb_294 (i := 2) rfl rfl
theorem dX11_person_145 : decode cX11_person 145 = .ok (.aload_n 0, 1) := zby_g zbyb_294 (i := 3) rfl rfl
theorem dX11_person_146 : decode cX11_person 146 = .ok (.getfield 19, 3) := zby_g zbyb_294 (i := 4) rfl rfl
theorem dX11_person_149 : decode cX11_person 149 = .ok (.iload_n 1, 1) := zby_g zbyb_294 (i := 5) rfl rfl
theorem dX11_person_150 : decode cX11_person 150 = .ok (.invokevirtual 168, 3) := zby_g zbyb_294 (i := 6) rfl rfl
theorem dX11_person_153 : decode cX11_person 153 = .ok (.ireturn, 1) := zby_g zbyb_294 (i := 7) rfl rfl
theorem dX11_person_154 : decode cX11_person 154 = .ok (.new 171, 3) := zby_g zbyb_294 (i := 8) rfl rfl
theorem dX11_person_157 : decode cX11_person 157 = .ok (.dup, 1) := zby_g zbyb_294 (i := 9) rfl rfl
theorem dX11_person_158 : decode cX11_person 158 = .ok (.ldc 173, 2) := zby_g zbyb_294 (i := 10) rfl rfl
theorem dX11_person_160 : decode cX11_person 160 = .ok (.invokespecial 175, 3) := zby_g zbyb_294 (i := 11) rfl rfl
theorem dX11_person_163 : decode cX11_person 163 = .ok (.athrow, 1) := zby_g zbyb_294 (i := 12) rfl rfl
noncomputable def zbyl_295 : List (Nat × zbyE) := [(0, zbyo_42), (1, zbyo_27), (2, zbyo_28), (3, zbyo_182 176), (6, zbyo_42), (7, zbyo_180 19), (10, zbyo_27), (11, zbyo_28), (12, zbyo_182 180), (15, zbyo_172)]
theorem zbyb_295 : zbys zbyl_295 (cX11_trust.data.toList.drop 0) 0 = true := by decide +kernel
theorem dX11_trust_0 : decode cX11_trust 0 = .ok (.aload_n 0, 1) := zby_g zbyb_295 (i := 0) rfl rfl
theorem dX11_trust_1 : decode cX11_trust 1 = .ok (.iload_n 1, 1) := zby_g zbyb_295 (i := 1) rfl rfl
theorem dX11_trust_2 : decode cX11_trust 2 = .ok (.iload_n 2, 1) := zby_g zbyb_295 (i := 2) rfl rfl
theorem dX11_trust_3 : decode cX11_trust 3 = .ok (.invokevirtual 176, 3) := zby_g zbyb_295 (i := 3) rfl rfl
theorem dX11_trust_6 : decode cX11_trust 6 = .ok (.aload_n 0, 1) := zby_g zbyb_295 (i := 4) rfl rfl
theorem dX11_trust_7 : decode cX11_trust 7 = .ok (.getfield 19, 3) := zby_g zbyb_295 (i := 5) rfl rfl
theorem dX11_trust_10 : decode cX11_trust 10 = .ok (.iload_n 1, 1) := zby_g zbyb_295 (i := 6) rfl rfl
theorem dX11_trust_11 : decode cX11_trust 11 = .ok (.iload_n 2, 1) := zby_g zbyb_295 (i := 7) rfl rfl
theorem dX11_trust_12 : decode cX11_trust 12 = .ok (.invokevirtual 180, 3) := zby_g zbyb_295 (i := 8) rfl rfl
theorem dX11_trust_15 : decode cX11_trust 15 = .ok (.ireturn, 1) := zby_g zbyb_295 (i := 9) rfl rfl
noncomputable def zbyl_296 : List (Nat × zbyE) := [(0, zbyo_42), (1, zbyo_27), (2, zbyo_182 184), (5, zbyo_28)]
theorem zbyb_296 : zbys zbyl_296 (cX11_work.data.toList.drop 0) 0 = true := by decide +kernel
theorem dX11_work_0 : decode cX11_work 0 = .ok (.aload_n 0, 1) := zby_g zbyb_296 (i := 0) rfl rfl
theorem dX11_work_1 : decode cX11_work 1 = .ok (.iload_n 1, 1) := zby_g zbyb_296 (i := 1) rfl rfl
theorem dX11_work_2 : decode cX11_work 2 = .ok (.invokevirtual 184, 3) := zby_g zbyb_296 (i := 2) rfl rfl
theorem dX11_work_5 : decode cX11_work 5 = .ok (.iload_n 2, 1) := zby_g zbyb_296 (i := 3) rfl rfl
theorem dX11_work_6 : decode cX11_work 6 = .ok (.tableswitch 70 0 3 #[30, 40, 50, 60], 30) := by decide +kernel
noncomputable def zbyl_297 : List (Nat × zbyE) := [(36, zbyo_42), (37, zbyo_180 19), (40, zbyo_180 187), (43, zbyo_27), (44, zbyo_46), (45, zbyo_172), (46, zbyo_42), (47, zbyo_180 19), (50, zbyo_180 190), (53, zbyo_27), (54, zbyo_46), (55, zbyo_172), (56, zbyo_42), (57, zbyo_180 19), (60, zbyo_180 193), (63, zbyo_27)]
theorem zbyb_297 : zbys zbyl_297 (cX11_work.data.toList.drop 36) 36 = true := by decide +kernel
theorem dX11_work_36 : decode cX11_work 36 = .ok (.aload_n 0, 1) := zby_g zbyb_297 (i := 0) rfl rfl
theorem dX11_work_37 : decode cX11_work 37 = .ok (.getfield 19, 3) := zby_g zbyb_297 (i := 1) rfl rfl
theorem dX11_work_40 : decode cX11_work 40 = .ok (.getfield 187, 3) := zby_g zbyb_297 (i := 2) rfl rfl
theorem dX11_work_43 : decode cX11_work 43 = .ok (.iload_n 1, 1) := zby_g zbyb_297 (i := 3) rfl rfl
theorem dX11_work_44 : decode cX11_work 44 = .ok (.iaload, 1) := zby_g zbyb_297 (i := 4) rfl rfl
theorem dX11_work_45 : decode cX11_work 45 = .ok (.ireturn, 1) := zby_g zbyb_297 (i := 5) rfl rfl
theorem dX11_work_46 : decode cX11_work 46 = .ok (.aload_n 0, 1) := zby_g zbyb_297 (i := 6) rfl rfl
theorem dX11_work_47 : decode cX11_work 47 = .ok (.getfield 19, 3) := zby_g zbyb_297 (i := 7) rfl rfl
theorem dX11_work_50 : decode cX11_work 50 = .ok (.getfield 190, 3) := zby_g zbyb_297 (i := 8) rfl rfl
theorem dX11_work_53 : decode cX11_work 53 = .ok (.iload_n 1, 1) := zby_g zbyb_297 (i := 9) rfl rfl
theorem dX11_work_54 : decode cX11_work 54 = .ok (.iaload, 1) := zby_g zbyb_297 (i := 10) rfl rfl
theorem dX11_work_55 : decode cX11_work 55 = .ok (.ireturn, 1) := zby_g zbyb_297 (i := 11) rfl rfl
theorem dX11_work_56 : decode cX11_work 56 = .ok (.aload_n 0, 1) := zby_g zbyb_297 (i := 12) rfl rfl
theorem dX11_work_57 : decode cX11_work 57 = .ok (.getfield 19, 3) := zby_g zbyb_297 (i := 13) rfl rfl
theorem dX11_work_60 : decode cX11_work 60 = .ok (.getfield 193, 3) := zby_g zbyb_297 (i := 14) rfl rfl
theorem dX11_work_63 : decode cX11_work 63 = .ok (.iload_n 1, 1) := zby_g zbyb_297 (i := 15) rfl rfl
noncomputable def zbyl_298 : List (Nat × zbyE) := [(64, zbyo_46), (65, zbyo_172), (66, zbyo_42), (67, zbyo_180 19), (70, zbyo_180 196), (73, zbyo_27), (74, zbyo_46), (75, zbyo_172), (76, zbyo_187 171), (79, zbyo_89), (80, zbyo_18 199), (82, zbyo_183 175), (85, zbyo_191)]
theorem zbyb_298 : zbys zbyl_298 (cX11_work.data.toList.drop 64) 64 = true := by decide +kernel
theorem dX11_work_64 : decode cX11_work 64 = .ok (.iaload, 1) := zby_g zbyb_298 (i := 0) rfl rfl
theorem dX11_work_65 : decode cX11_work 65 = .ok (.ireturn, 1) := zby_g zbyb_298 (i := 1) rfl rfl
theorem dX11_work_66 : decode cX11_work 66 = .ok (.aload_n 0, 1) := zby_g zbyb_298 (i := 2) rfl rfl
theorem dX11_work_67 : decode cX11_work 67 = .ok (.getfield 19, 3) := zby_g zbyb_298 (i := 3) rfl rfl
theorem dX11_work_70 : decode cX11_work 70 = .ok (.getfield 196, 3) := zby_g zbyb_298 (i := 4) rfl rfl
theorem dX11_work_73 : decode cX11_work 73 = .ok (.iload_n 1, 1) := zby_g zbyb_298 (i := 5) rfl rfl
theorem dX11_work_74 : decode cX11_work 74 = .ok (.iaload, 1) := zby_g zbyb_298 (i := 6) rfl rfl
theorem dX11_work_75 : decode cX11_work 75 = .ok (.ireturn, 1) := zby_g zbyb_298 (i := 7) rfl rfl
theorem dX11_work_76 : decode cX11_work 76 = .ok (.new 171, 3) := zby_g zbyb_298 (i := 8) rfl rfl
theorem dX11_work_79 : decode cX11_work 79 = .ok (.dup, 1) := zby_g zbyb_298 (i := 9) rfl rfl
theorem dX11_work_80 : decode cX11_work 80 = .ok (.ldc 199, 2) := zby_g zbyb_298 (i := 10) rfl rfl
theorem dX11_work_82 : decode cX11_work 82 = .ok (.invokespecial 175, 3) := zby_g zbyb_298 (i := 11) rfl rfl
theorem dX11_work_85 : decode cX11_work 85 = .ok (.athrow, 1) := zby_g zbyb_298 (i := 12) rfl rfl
noncomputable def zbyl_299 : List (Nat × zbyE) := [(0, zbyo_42), (1, zbyo_180 19), (4, zbyo_182 201), (7, zbyo_172)]
theorem zbyb_299 : zbys zbyl_299 (cX11_price.data.toList.drop 0) 0 = true := by decide +kernel
theorem dX11_price_0 : decode cX11_price 0 = .ok (.aload_n 0, 1) := zby_g zbyb_299 (i := 0) rfl rfl
theorem dX11_price_1 : decode cX11_price 1 = .ok (.getfield 19, 3) := zby_g zbyb_299 (i := 1) rfl rfl
theorem dX11_price_4 : decode cX11_price 4 = .ok (.invokevirtual 201, 3) := zby_g zbyb_299 (i := 2) rfl rfl
theorem dX11_price_7 : decode cX11_price 7 = .ok (.ireturn, 1) := zby_g zbyb_299 (i := 3) rfl rfl
noncomputable def zbyl_300 : List (Nat × zbyE) := [(0, zbyo_42), (1, zbyo_27), (2, zbyo_182 138), (5, zbyo_42), (6, zbyo_27), (7, zbyo_182 204), (10, zbyo_42), (11, zbyo_180 56), (14, zbyo_42), (15, zbyo_180 19), (18, zbyo_42), (19, zbyo_180 33), (22, zbyo_182 207), (25, zbyo_42), (26, zbyo_180 19), (29, zbyo_27)]
theorem zbyb_300 : zbys zbyl_300 (cX11_tell.data.toList.drop 0) 0 = true := by decide +kernel
theorem dX11_tell_0 : decode cX11_tell 0 = .ok (.aload_n 0, 1) := zby_g zbyb_300 (i := 0) rfl rfl
theorem dX11_tell_1 : decode cX11_tell 1 = .ok (.iload_n 1, 1) := zby_g zbyb_300 (i := 1) rfl rfl
theorem dX11_tell_2 : decode cX11_tell 2 = .ok (.invokevirtual 138, 3) := zby_g zbyb_300 (i := 2) rfl rfl
theorem dX11_tell_5 : decode cX11_tell 5 = .ok (.aload_n 0, 1) := zby_g zbyb_300 (i := 3) rfl rfl
theorem dX11_tell_6 : decode cX11_tell 6 = .ok (.iload_n 1, 1) := zby_g zbyb_300 (i := 4) rfl rfl
theorem dX11_tell_7 : decode cX11_tell 7 = .ok (.invokevirtual 204, 3) := zby_g zbyb_300 (i := 5) rfl rfl
theorem dX11_tell_10 : decode cX11_tell 10 = .ok (.aload_n 0, 1) := zby_g zbyb_300 (i := 6) rfl rfl
theorem dX11_tell_11 : decode cX11_tell 11 = .ok (.getfield 56, 3) := zby_g zbyb_300 (i := 7) rfl rfl
theorem dX11_tell_14 : decode cX11_tell 14 = .ok (.aload_n 0, 1) := zby_g zbyb_300 (i := 8) rfl rfl
theorem dX11_tell_15 : decode cX11_tell 15 = .ok (.getfield 19, 3) := zby_g zbyb_300 (i := 9) rfl rfl
theorem dX11_tell_18 : decode cX11_tell 18 = .ok (.aload_n 0, 1) := zby_g zbyb_300 (i := 10) rfl rfl
theorem dX11_tell_19 : decode cX11_tell 19 = .ok (.getfield 33, 3) := zby_g zbyb_300 (i := 11) rfl rfl
theorem dX11_tell_22 : decode cX11_tell 22 = .ok (.invokevirtual 207, 3) := zby_g zbyb_300 (i := 12) rfl rfl
theorem dX11_tell_25 : decode cX11_tell 25 = .ok (.aload_n 0, 1) := zby_g zbyb_300 (i := 13) rfl rfl
theorem dX11_tell_26 : decode cX11_tell 26 = .ok (.getfield 19, 3) := zby_g zbyb_300 (i := 14) rfl rfl
theorem dX11_tell_29 : decode cX11_tell 29 = .ok (.iload_n 1, 1) := zby_g zbyb_300 (i := 15) rfl rfl
noncomputable def zbyl_301 : List (Nat × zbyE) := [(30, zbyo_16 20), (32, zbyo_182 211), (35, zbyo_42), (36, zbyo_180 19), (39, zbyo_180 141), (42, zbyo_27), (43, zbyo_46), (44, zbyo_172)]
theorem zbyb_301 : zbys zbyl_301 (cX11_tell.data.toList.drop 30) 30 = true := by decide +kernel
theorem dX11_tell_30 : decode cX11_tell 30 = .ok (.bipush 20, 2) := zby_g zbyb_301 (i := 0) rfl rfl
theorem dX11_tell_32 : decode cX11_tell 32 = .ok (.invokevirtual 211, 3) := zby_g zbyb_301 (i := 1) rfl rfl
theorem dX11_tell_35 : decode cX11_tell 35 = .ok (.aload_n 0, 1) := zby_g zbyb_301 (i := 2) rfl rfl
theorem dX11_tell_36 : decode cX11_tell 36 = .ok (.getfield 19, 3) := zby_g zbyb_301 (i := 3) rfl rfl
theorem dX11_tell_39 : decode cX11_tell 39 = .ok (.getfield 141, 3) := zby_g zbyb_301 (i := 4) rfl rfl
theorem dX11_tell_42 : decode cX11_tell 42 = .ok (.iload_n 1, 1) := zby_g zbyb_301 (i := 5) rfl rfl
theorem dX11_tell_43 : decode cX11_tell 43 = .ok (.iaload, 1) := zby_g zbyb_301 (i := 6) rfl rfl
theorem dX11_tell_44 : decode cX11_tell 44 = .ok (.ireturn, 1) := zby_g zbyb_301 (i := 7) rfl rfl
noncomputable def zbyl_302 : List (Nat × zbyE) := [(0, zbyo_42), (1, zbyo_27), (2, zbyo_28), (3, zbyo_182 176), (6, zbyo_42), (7, zbyo_29), (8, zbyo_3), (9, zbyo_16 9), (11, zbyo_182 214), (14, zbyo_42), (15, zbyo_180 56), (18, zbyo_42), (19, zbyo_180 19), (22, zbyo_42), (23, zbyo_180 33), (26, zbyo_182 207)]
theorem zbyb_302 : zbys zbyl_302 (cX11_tie.data.toList.drop 0) 0 = true := by decide +kernel
theorem dX11_tie_0 : decode cX11_tie 0 = .ok (.aload_n 0, 1) := zby_g zbyb_302 (i := 0) rfl rfl
theorem dX11_tie_1 : decode cX11_tie 1 = .ok (.iload_n 1, 1) := zby_g zbyb_302 (i := 1) rfl rfl
theorem dX11_tie_2 : decode cX11_tie 2 = .ok (.iload_n 2, 1) := zby_g zbyb_302 (i := 2) rfl rfl
theorem dX11_tie_3 : decode cX11_tie 3 = .ok (.invokevirtual 176, 3) := zby_g zbyb_302 (i := 3) rfl rfl
theorem dX11_tie_6 : decode cX11_tie 6 = .ok (.aload_n 0, 1) := zby_g zbyb_302 (i := 4) rfl rfl
theorem dX11_tie_7 : decode cX11_tie 7 = .ok (.iload_n 3, 1) := zby_g zbyb_302 (i := 5) rfl rfl
theorem dX11_tie_8 : decode cX11_tie 8 = .ok (.iconst 0, 1) := zby_g zbyb_302 (i := 6) rfl rfl
theorem dX11_tie_9 : decode cX11_tie 9 = .ok (.bipush 9, 2) := zby_g zbyb_302 (i := 7) rfl rfl
theorem dX11_tie_11 : decode cX11_tie 11 = .ok (.invokevirtual 214, 3) := zby_g zbyb_302 (i := 8) rfl rfl
theorem dX11_tie_14 : decode cX11_tie 14 = .ok (.aload_n 0, 1) := zby_g zbyb_302 (i := 9) rfl rfl
theorem dX11_tie_15 : decode cX11_tie 15 = .ok (.getfield 56, 3) := zby_g zbyb_302 (i := 10) rfl rfl
theorem dX11_tie_18 : decode cX11_tie 18 = .ok (.aload_n 0, 1) := zby_g zbyb_302 (i := 11) rfl rfl
theorem dX11_tie_19 : decode cX11_tie 19 = .ok (.getfield 19, 3) := zby_g zbyb_302 (i := 12) rfl rfl
theorem dX11_tie_22 : decode cX11_tie 22 = .ok (.aload_n 0, 1) := zby_g zbyb_302 (i := 13) rfl rfl
theorem dX11_tie_23 : decode cX11_tie 23 = .ok (.getfield 33, 3) := zby_g zbyb_302 (i := 14) rfl rfl
theorem dX11_tie_26 : decode cX11_tie 26 = .ok (.invokevirtual 207, 3) := zby_g zbyb_302 (i := 15) rfl rfl
noncomputable def zbyl_303 : List (Nat × zbyE) := [(29, zbyo_42), (30, zbyo_180 19), (33, zbyo_27), (34, zbyo_28), (35, zbyo_182 180), (38, zbyo_54 4), (40, zbyo_42), (41, zbyo_180 19), (44, zbyo_27), (45, zbyo_28), (46, zbyo_29), (47, zbyo_182 218), (50, zbyo_21 4), (52, zbyo_172)]
theorem zbyb_303 : zbys zbyl_303 (cX11_tie.data.toList.drop 29) 29 = true := by decide +kernel
theorem dX11_tie_29 : decode cX11_tie 29 = .ok (.aload_n 0, 1) := zby_g zbyb_303 (i := 0) rfl rfl
theorem dX11_tie_30 : decode cX11_tie 30 = .ok (.getfield 19, 3) := zby_g zbyb_303 (i := 1) rfl rfl
theorem dX11_tie_33 : decode cX11_tie 33 = .ok (.iload_n 1, 1) := zby_g zbyb_303 (i := 2) rfl rfl
theorem dX11_tie_34 : decode cX11_tie 34 = .ok (.iload_n 2, 1) := zby_g zbyb_303 (i := 3) rfl rfl
theorem dX11_tie_35 : decode cX11_tie 35 = .ok (.invokevirtual 180, 3) := zby_g zbyb_303 (i := 4) rfl rfl
theorem dX11_tie_38 : decode cX11_tie 38 = .ok (.istore 4, 2) := zby_g zbyb_303 (i := 5) rfl rfl
theorem dX11_tie_40 : decode cX11_tie 40 = .ok (.aload_n 0, 1) := zby_g zbyb_303 (i := 6) rfl rfl
theorem dX11_tie_41 : decode cX11_tie 41 = .ok (.getfield 19, 3) := zby_g zbyb_303 (i := 7) rfl rfl
theorem dX11_tie_44 : decode cX11_tie 44 = .ok (.iload_n 1, 1) := zby_g zbyb_303 (i := 8) rfl rfl
theorem dX11_tie_45 : decode cX11_tie 45 = .ok (.iload_n 2, 1) := zby_g zbyb_303 (i := 9) rfl rfl
theorem dX11_tie_46 : decode cX11_tie 46 = .ok (.iload_n 3, 1) := zby_g zbyb_303 (i := 10) rfl rfl
theorem dX11_tie_47 : decode cX11_tie 47 = .ok (.invokevirtual 218, 3) := zby_g zbyb_303 (i := 11) rfl rfl
theorem dX11_tie_50 : decode cX11_tie 50 = .ok (.iload 4, 2) := zby_g zbyb_303 (i := 12) rfl rfl
theorem dX11_tie_52 : decode cX11_tie 52 = .ok (.ireturn, 1) := zby_g zbyb_303 (i := 13) rfl rfl
noncomputable def zbyl_304 : List (Nat × zbyE) := [(0, zbyo_42), (1, zbyo_27), (2, zbyo_182 184), (5, zbyo_42), (6, zbyo_42), (7, zbyo_180 19), (10, zbyo_180 196), (13, zbyo_27), (14, zbyo_46), (15, zbyo_5), (16, zbyo_160 7), (19, zbyo_4), (20, zbyo_167 4), (23, zbyo_3), (24, zbyo_182 221), (27, zbyo_42)]
theorem zbyb_304 : zbys zbyl_304 (cX11_plan.data.toList.drop 0) 0 = true := by decide +kernel
theorem dX11_plan_0 : decode cX11_plan 0 = .ok (.aload_n 0, 1) := zby_g zbyb_304 (i := 0) rfl rfl
theorem dX11_plan_1 : decode cX11_plan 1 = .ok (.iload_n 1, 1) := zby_g zbyb_304 (i := 1) rfl rfl
theorem dX11_plan_2 : decode cX11_plan 2 = .ok (.invokevirtual 184, 3) := zby_g zbyb_304 (i := 2) rfl rfl
theorem dX11_plan_5 : decode cX11_plan 5 = .ok (.aload_n 0, 1) := zby_g zbyb_304 (i := 3) rfl rfl
theorem dX11_plan_6 : decode cX11_plan 6 = .ok (.aload_n 0, 1) := zby_g zbyb_304 (i := 4) rfl rfl
theorem dX11_plan_7 : decode cX11_plan 7 = .ok (.getfield 19, 3) := zby_g zbyb_304 (i := 5) rfl rfl
theorem dX11_plan_10 : decode cX11_plan 10 = .ok (.getfield 196, 3) := zby_g zbyb_304 (i := 6) rfl rfl
theorem dX11_plan_13 : decode cX11_plan 13 = .ok (.iload_n 1, 1) := zby_g zbyb_304 (i := 7) rfl rfl
theorem dX11_plan_14 : decode cX11_plan 14 = .ok (.iaload, 1) := zby_g zbyb_304 (i := 8) rfl rfl
theorem dX11_plan_15 : decode cX11_plan 15 = .ok (.iconst 2, 1) := zby_g zbyb_304 (i := 9) rfl rfl
theorem dX11_plan_16 : decode cX11_plan 16 = .ok (.if_icmp .ne 7, 3) := zby_g zbyb_304 (i := 10) rfl rfl
theorem dX11_plan_19 : decode cX11_plan 19 = .ok (.iconst 1, 1) := zby_g zbyb_304 (i := 11) rfl rfl
theorem dX11_plan_20 : decode cX11_plan 20 = .ok (.goto 4, 3) := zby_g zbyb_304 (i := 12) rfl rfl
theorem dX11_plan_23 : decode cX11_plan 23 = .ok (.iconst 0, 1) := zby_g zbyb_304 (i := 13) rfl rfl
theorem dX11_plan_24 : decode cX11_plan 24 = .ok (.invokevirtual 221, 3) := zby_g zbyb_304 (i := 14) rfl rfl
theorem dX11_plan_27 : decode cX11_plan 27 = .ok (.aload_n 0, 1) := zby_g zbyb_304 (i := 15) rfl rfl
noncomputable def zbyl_305 : List (Nat × zbyE) := [(28, zbyo_180 56), (31, zbyo_42), (32, zbyo_180 19), (35, zbyo_42), (36, zbyo_180 33), (39, zbyo_182 207), (42, zbyo_42), (43, zbyo_180 19), (46, zbyo_180 196), (49, zbyo_27), (50, zbyo_3), (51, zbyo_79), (52, zbyo_177)]
theorem zbyb_305 : zbys zbyl_305 (cX11_plan.data.toList.drop 28) 28 = true := by decide +kernel
theorem dX11_plan_28 : decode cX11_plan 28 = .ok (.getfield 56, 3) := zby_g zbyb_305 (i := 0) rfl rfl
theorem dX11_plan_31 : decode cX11_plan 31 = .ok (.aload_n 0, 1) := zby_g zbyb_305 (i := 1) rfl rfl
theorem dX11_plan_32 : decode cX11_plan 32 = .ok (.getfield 19, 3) := zby_g zbyb_305 (i := 2) rfl rfl
theorem dX11_plan_35 : decode cX11_plan 35 = .ok (.aload_n 0, 1) := zby_g zbyb_305 (i := 3) rfl rfl
theorem dX11_plan_36 : decode cX11_plan 36 = .ok (.getfield 33, 3) := zby_g zbyb_305 (i := 4) rfl rfl
theorem dX11_plan_39 : decode cX11_plan 39 = .ok (.invokevirtual 207, 3) := zby_g zbyb_305 (i := 5) rfl rfl
theorem dX11_plan_42 : decode cX11_plan 42 = .ok (.aload_n 0, 1) := zby_g zbyb_305 (i := 6) rfl rfl
theorem dX11_plan_43 : decode cX11_plan 43 = .ok (.getfield 19, 3) := zby_g zbyb_305 (i := 7) rfl rfl
theorem dX11_plan_46 : decode cX11_plan 46 = .ok (.getfield 196, 3) := zby_g zbyb_305 (i := 8) rfl rfl
theorem dX11_plan_49 : decode cX11_plan 49 = .ok (.iload_n 1, 1) := zby_g zbyb_305 (i := 9) rfl rfl
theorem dX11_plan_50 : decode cX11_plan 50 = .ok (.iconst 0, 1) := zby_g zbyb_305 (i := 10) rfl rfl
theorem dX11_plan_51 : decode cX11_plan 51 = .ok (.iastore, 1) := zby_g zbyb_305 (i := 11) rfl rfl
theorem dX11_plan_52 : decode cX11_plan 52 = .ok (.return_, 1) := zby_g zbyb_305 (i := 12) rfl rfl
noncomputable def zbyl_306 : List (Nat × zbyE) := [(0, zbyo_42), (1, zbyo_27), (2, zbyo_182 138), (5, zbyo_42), (6, zbyo_27), (7, zbyo_182 204), (10, zbyo_42), (11, zbyo_180 56), (14, zbyo_42), (15, zbyo_180 19), (18, zbyo_42), (19, zbyo_180 33), (22, zbyo_182 207), (25, zbyo_42), (26, zbyo_180 19), (29, zbyo_180 155)]
theorem zbyb_306 : zbys zbyl_306 (cX11_send.data.toList.drop 0) 0 = true := by decide +kernel
theorem dX11_send_0 : decode cX11_send 0 = .ok (.aload_n 0, 1) := zby_g zbyb_306 (i := 0) rfl rfl
theorem dX11_send_1 : decode cX11_send 1 = .ok (.iload_n 1, 1) := zby_g zbyb_306 (i := 1) rfl rfl
theorem dX11_send_2 : decode cX11_send 2 = .ok (.invokevirtual 138, 3) := zby_g zbyb_306 (i := 2) rfl rfl
theorem dX11_send_5 : decode cX11_send 5 = .ok (.aload_n 0, 1) := zby_g zbyb_306 (i := 3) rfl rfl
theorem dX11_send_6 : decode cX11_send 6 = .ok (.iload_n 1, 1) := zby_g zbyb_306 (i := 4) rfl rfl
theorem dX11_send_7 : decode cX11_send 7 = .ok (.invokevirtual 204, 3) := zby_g zbyb_306 (i := 5) rfl rfl
theorem dX11_send_10 : decode cX11_send 10 = .ok (.aload_n 0, 1) := zby_g zbyb_306 (i := 6) rfl rfl
theorem dX11_send_11 : decode cX11_send 11 = .ok (.getfield 56, 3) := zby_g zbyb_306 (i := 7) rfl rfl
theorem dX11_send_14 : decode cX11_send 14 = .ok (.aload_n 0, 1) := zby_g zbyb_306 (i := 8) rfl rfl
theorem dX11_send_15 : decode cX11_send 15 = .ok (.getfield 19, 3) := zby_g zbyb_306 (i := 9) rfl rfl
theorem dX11_send_18 : decode cX11_send 18 = .ok (.aload_n 0, 1) := zby_g zbyb_306 (i := 10) rfl rfl
theorem dX11_send_19 : decode cX11_send 19 = .ok (.getfield 33, 3) := zby_g zbyb_306 (i := 11) rfl rfl
theorem dX11_send_22 : decode cX11_send 22 = .ok (.invokevirtual 207, 3) := zby_g zbyb_306 (i := 12) rfl rfl
theorem dX11_send_25 : decode cX11_send 25 = .ok (.aload_n 0, 1) := zby_g zbyb_306 (i := 13) rfl rfl
theorem dX11_send_26 : decode cX11_send 26 = .ok (.getfield 19, 3) := zby_g zbyb_306 (i := 14) rfl rfl
theorem dX11_send_29 : decode cX11_send 29 = .ok (.getfield 155, 3) := zby_g zbyb_306 (i := 15) rfl rfl
noncomputable def zbyl_307 : List (Nat × zbyE) := [(32, zbyo_27), (33, zbyo_42), (34, zbyo_180 19), (37, zbyo_180 225), (40, zbyo_42), (41, zbyo_180 19), (44, zbyo_180 228), (47, zbyo_96), (48, zbyo_79), (49, zbyo_42), (50, zbyo_180 19), (53, zbyo_180 155), (56, zbyo_27), (57, zbyo_46), (58, zbyo_172)]
theorem zbyb_307 : zbys zbyl_307 (cX11_send.data.toList.drop 32) 32 = true := by decide +kernel
theorem dX11_send_32 : decode cX11_send 32 = .ok (.iload_n 1, 1) := zby_g zbyb_307 (i := 0) rfl rfl
theorem dX11_send_33 : decode cX11_send 33 = .ok (.aload_n 0, 1) := zby_g zbyb_307 (i := 1) rfl rfl
theorem dX11_send_34 : decode cX11_send 34 = .ok (.getfield 19, 3) := zby_g zbyb_307 (i := 2) rfl rfl
theorem dX11_send_37 : decode cX11_send 37 = .ok (.getfield 225, 3) := zby_g zbyb_307 (i := 3) rfl rfl
theorem dX11_send_40 : decode cX11_send 40 = .ok (.aload_n 0, 1) := zby_g zbyb_307 (i := 4) rfl rfl
theorem dX11_send_41 : decode cX11_send 41 = .ok (.getfield 19, 3) := zby_g zbyb_307 (i := 5) rfl rfl
theorem dX11_send_44 : decode cX11_send 44 = .ok (.getfield 228, 3) := zby_g zbyb_307 (i := 6) rfl rfl
theorem dX11_send_47 : decode cX11_send 47 = .ok (.iadd, 1) := zby_g zbyb_307 (i := 7) rfl rfl
theorem dX11_send_48 : decode cX11_send 48 = .ok (.iastore, 1) := zby_g zbyb_307 (i := 8) rfl rfl
theorem dX11_send_49 : decode cX11_send 49 = .ok (.aload_n 0, 1) := zby_g zbyb_307 (i := 9) rfl rfl
theorem dX11_send_50 : decode cX11_send 50 = .ok (.getfield 19, 3) := zby_g zbyb_307 (i := 10) rfl rfl
theorem dX11_send_53 : decode cX11_send 53 = .ok (.getfield 155, 3) := zby_g zbyb_307 (i := 11) rfl rfl
theorem dX11_send_56 : decode cX11_send 56 = .ok (.iload_n 1, 1) := zby_g zbyb_307 (i := 12) rfl rfl
theorem dX11_send_57 : decode cX11_send 57 = .ok (.iaload, 1) := zby_g zbyb_307 (i := 13) rfl rfl
theorem dX11_send_58 : decode cX11_send 58 = .ok (.ireturn, 1) := zby_g zbyb_307 (i := 14) rfl rfl
noncomputable def zbyl_308 : List (Nat × zbyE) := [(0, zbyo_42), (1, zbyo_27), (2, zbyo_182 138), (5, zbyo_42), (6, zbyo_28), (7, zbyo_4), (8, zbyo_16 99), (10, zbyo_182 214), (13, zbyo_28), (14, zbyo_42), (15, zbyo_180 19), (18, zbyo_182 201), (21, zbyo_104), (22, zbyo_62), (23, zbyo_42), (24, zbyo_42)]
theorem zbyb_308 : zbys zbyl_308 (cX11_buy.data.toList.drop 0) 0 = true := by decide +kernel
theorem dX11_buy_0 : decode cX11_buy 0 = .ok (.aload_n 0, 1) := zby_g zbyb_308 (i := 0) rfl rfl
theorem dX11_buy_1 : decode cX11_buy 1 = .ok (.iload_n 1, 1) := zby_g zbyb_308 (i := 1) rfl rfl
theorem dX11_buy_2 : decode cX11_buy 2 = .ok (.invokevirtual 138, 3) := zby_g zbyb_308 (i := 2) rfl rfl
theorem dX11_buy_5 : decode cX11_buy 5 = .ok (.aload_n 0, 1) := zby_g zbyb_308 (i := 3) rfl rfl
theorem dX11_buy_6 : decode cX11_buy 6 = .ok (.iload_n 2, 1) := zby_g zbyb_308 (i := 4) rfl rfl
theorem dX11_buy_7 : decode cX11_buy 7 = .ok (.iconst 1, 1) := zby_g zbyb_308 (i := 5) rfl rfl
theorem dX11_buy_8 : decode cX11_buy 8 = .ok (.bipush 99, 2) := zby_g zbyb_308 (i := 6) rfl rfl
theorem dX11_buy_10 : decode cX11_buy 10 = .ok (.invokevirtual 214, 3) := zby_g zbyb_308 (i := 7) rfl rfl
theorem dX11_buy_13 : decode cX11_buy 13 = .ok (.iload_n 2, 1) := zby_g zbyb_308 (i := 8) rfl rfl
theorem dX11_buy_14 : decode cX11_buy 14 = .ok (.aload_n 0, 1) := zby_g zbyb_308 (i := 9) rfl rfl
theorem dX11_buy_15 : decode cX11_buy 15 = .ok (.getfield 19, 3) := zby_g zbyb_308 (i := 10) rfl rfl
theorem dX11_buy_18 : decode cX11_buy 18 = .ok (.invokevirtual 201, 3) := zby_g zbyb_308 (i := 11) rfl rfl
theorem dX11_buy_21 : decode cX11_buy 21 = .ok (.imul, 1) := zby_g zbyb_308 (i := 12) rfl rfl
theorem dX11_buy_22 : decode cX11_buy 22 = .ok (.istore_n 3, 1) := zby_g zbyb_308 (i := 13) rfl rfl
theorem dX11_buy_23 : decode cX11_buy 23 = .ok (.aload_n 0, 1) := zby_g zbyb_308 (i := 14) rfl rfl
theorem dX11_buy_24 : decode cX11_buy 24 = .ok (.aload_n 0, 1) := zby_g zbyb_308 (i := 15) rfl rfl
noncomputable def zbyl_309 : List (Nat × zbyE) := [(25, zbyo_180 19), (28, zbyo_180 148), (31, zbyo_27), (32, zbyo_46), (33, zbyo_28), (34, zbyo_96), (35, zbyo_16 99), (37, zbyo_163 20), (40, zbyo_42), (41, zbyo_180 19), (44, zbyo_180 145), (47, zbyo_27), (48, zbyo_46), (49, zbyo_29), (50, zbyo_161 7), (53, zbyo_4)]
theorem zbyb_309 : zbys zbyl_309 (cX11_buy.data.toList.drop 25) 25 = true := by decide +kernel
theorem dX11_buy_25 : decode cX11_buy 25 = .ok (.getfield 19, 3) := zby_g zbyb_309 (i := 0) rfl rfl
theorem dX11_buy_28 : decode cX11_buy 28 = .ok (.getfield 148, 3) := zby_g zbyb_309 (i := 1) rfl rfl
theorem dX11_buy_31 : decode cX11_buy 31 = .ok (.iload_n 1, 1) := zby_g zbyb_309 (i := 2) rfl rfl
theorem dX11_buy_32 : decode cX11_buy 32 = .ok (.iaload, 1) := zby_g zbyb_309 (i := 3) rfl rfl
theorem dX11_buy_33 : decode cX11_buy 33 = .ok (.iload_n 2, 1) := zby_g zbyb_309 (i := 4) rfl rfl
theorem dX11_buy_34 : decode cX11_buy 34 = .ok (.iadd, 1) := zby_g zbyb_309 (i := 5) rfl rfl
theorem dX11_buy_35 : decode cX11_buy 35 = .ok (.bipush 99, 2) := zby_g zbyb_309 (i := 6) rfl rfl
theorem dX11_buy_37 : decode cX11_buy 37 = .ok (.if_icmp .gt 20, 3) := zby_g zbyb_309 (i := 7) rfl rfl
theorem dX11_buy_40 : decode cX11_buy 40 = .ok (.aload_n 0, 1) := zby_g zbyb_309 (i := 8) rfl rfl
theorem dX11_buy_41 : decode cX11_buy 41 = .ok (.getfield 19, 3) := zby_g zbyb_309 (i := 9) rfl rfl
theorem dX11_buy_44 : decode cX11_buy 44 = .ok (.getfield 145, 3) := zby_g zbyb_309 (i := 10) rfl rfl
theorem dX11_buy_47 : decode cX11_buy 47 = .ok (.iload_n 1, 1) := zby_g zbyb_309 (i := 11) rfl rfl
theorem dX11_buy_48 : decode cX11_buy 48 = .ok (.iaload, 1) := zby_g zbyb_309 (i := 12) rfl rfl
theorem dX11_buy_49 : decode cX11_buy 49 = .ok (.iload_n 3, 1) := zby_g zbyb_309 (i := 13) rfl rfl
theorem dX11_buy_50 : decode cX11_buy 50 = .ok (.if_icmp .lt 7, 3) := zby_g zbyb_309 (i := 14) rfl rfl
theorem dX11_buy_53 : decode cX11_buy 53 = .ok (.iconst 1, 1) := zby_g zbyb_309 (i := 15) rfl rfl
noncomputable def zbyl_310 : List (Nat × zbyE) := [(54, zbyo_167 4), (57, zbyo_3), (58, zbyo_182 221), (61, zbyo_42), (62, zbyo_180 56), (65, zbyo_42), (66, zbyo_180 19), (69, zbyo_42), (70, zbyo_180 33), (73, zbyo_182 207), (76, zbyo_42), (77, zbyo_180 19), (80, zbyo_180 148), (83, zbyo_27), (84, zbyo_92), (85, zbyo_46)]
theorem zbyb_310 : zbys zbyl_310 (cX11_buy.data.toList.drop 54) 54 = true := by decide +kernel
theorem dX11_buy_54 : decode cX11_buy 54 = .ok (.goto 4, 3) := zby_g zbyb_310 (i := 0) rfl rfl
theorem dX11_buy_57 : decode cX11_buy 57 = .ok (.iconst 0, 1) := zby_g zbyb_310 (i := 1) rfl rfl
theorem dX11_buy_58 : decode cX11_buy 58 = .ok (.invokevirtual 221, 3) := zby_g zbyb_310 (i := 2) rfl rfl
theorem dX11_buy_61 : decode cX11_buy 61 = .ok (.aload_n 0, 1) := zby_g zbyb_310 (i := 3) rfl rfl
theorem dX11_buy_62 : decode cX11_buy 62 = .ok (.getfield 56, 3) := zby_g zbyb_310 (i := 4) rfl rfl
theorem dX11_buy_65 : decode cX11_buy 65 = .ok (.aload_n 0, 1) := zby_g zbyb_310 (i := 5) rfl rfl
theorem dX11_buy_66 : decode cX11_buy 66 = .ok (.getfield 19, 3) := zby_g zbyb_310 (i := 6) rfl rfl
theorem dX11_buy_69 : decode cX11_buy 69 = .ok (.aload_n 0, 1) := zby_g zbyb_310 (i := 7) rfl rfl
theorem dX11_buy_70 : decode cX11_buy 70 = .ok (.getfield 33, 3) := zby_g zbyb_310 (i := 8) rfl rfl
theorem dX11_buy_73 : decode cX11_buy 73 = .ok (.invokevirtual 207, 3) := zby_g zbyb_310 (i := 9) rfl rfl
theorem dX11_buy_76 : decode cX11_buy 76 = .ok (.aload_n 0, 1) := zby_g zbyb_310 (i := 10) rfl rfl
theorem dX11_buy_77 : decode cX11_buy 77 = .ok (.getfield 19, 3) := zby_g zbyb_310 (i := 11) rfl rfl
theorem dX11_buy_80 : decode cX11_buy 80 = .ok (.getfield 148, 3) := zby_g zbyb_310 (i := 12) rfl rfl
theorem dX11_buy_83 : decode cX11_buy 83 = .ok (.iload_n 1, 1) := zby_g zbyb_310 (i := 13) rfl rfl
theorem dX11_buy_84 : decode cX11_buy 84 = .ok (.dup2, 1) := zby_g zbyb_310 (i := 14) rfl rfl
theorem dX11_buy_85 : decode cX11_buy 85 = .ok (.iaload, 1) := zby_g zbyb_310 (i := 15) rfl rfl
noncomputable def zbyl_311 : List (Nat × zbyE) := [(86, zbyo_28), (87, zbyo_96), (88, zbyo_79), (89, zbyo_42), (90, zbyo_180 19), (93, zbyo_180 145), (96, zbyo_27), (97, zbyo_92), (98, zbyo_46), (99, zbyo_29), (100, zbyo_100), (101, zbyo_79), (102, zbyo_42), (103, zbyo_180 19), (106, zbyo_17 9999), (109, zbyo_42)]
theorem zbyb_311 : zbys zbyl_311 (cX11_buy.data.toList.drop 86) 86 = true := by decide +kernel
theorem dX11_buy_86 : decode cX11_buy 86 = .ok (.iload_n 2, 1) := zby_g zbyb_311 (i := 0) rfl rfl
theorem dX11_buy_87 : decode cX11_buy 87 = .ok (.iadd, 1) := zby_g zbyb_311 (i := 1) rfl rfl
theorem dX11_buy_88 : decode cX11_buy 88 = .ok (.iastore, 1) := zby_g zbyb_311 (i := 2) rfl rfl
theorem dX11_buy_89 : decode cX11_buy 89 = .ok (.aload_n 0, 1) := zby_g zbyb_311 (i := 3) rfl rfl
theorem dX11_buy_90 : decode cX11_buy 90 = .ok (.getfield 19, 3) := zby_g zbyb_311 (i := 4) rfl rfl
theorem dX11_buy_93 : decode cX11_buy 93 = .ok (.getfield 145, 3) := zby_g zbyb_311 (i := 5) rfl rfl
theorem dX11_buy_96 : decode cX11_buy 96 = .ok (.iload_n 1, 1) := zby_g zbyb_311 (i := 6) rfl rfl
theorem dX11_buy_97 : decode cX11_buy 97 = .ok (.dup2, 1) := zby_g zbyb_311 (i := 7) rfl rfl
theorem dX11_buy_98 : decode cX11_buy 98 = .ok (.iaload, 1) := zby_g zbyb_311 (i := 8) rfl rfl
theorem dX11_buy_99 : decode cX11_buy 99 = .ok (.iload_n 3, 1) := zby_g zbyb_311 (i := 9) rfl rfl
theorem dX11_buy_100 : decode cX11_buy 100 = .ok (.isub, 1) := zby_g zbyb_311 (i := 10) rfl rfl
theorem dX11_buy_101 : decode cX11_buy 101 = .ok (.iastore, 1) := zby_g zbyb_311 (i := 11) rfl rfl
theorem dX11_buy_102 : decode cX11_buy 102 = .ok (.aload_n 0, 1) := zby_g zbyb_311 (i := 12) rfl rfl
theorem dX11_buy_103 : decode cX11_buy 103 = .ok (.getfield 19, 3) := zby_g zbyb_311 (i := 13) rfl rfl
theorem dX11_buy_106 : decode cX11_buy 106 = .ok (.sipush 9999, 3) := zby_g zbyb_311 (i := 14) rfl rfl
theorem dX11_buy_109 : decode cX11_buy 109 = .ok (.aload_n 0, 1) := zby_g zbyb_311 (i := 15) rfl rfl
noncomputable def zbyl_312 : List (Nat × zbyE) := [(110, zbyo_180 19), (113, zbyo_180 231), (116, zbyo_29), (117, zbyo_96), (118, zbyo_184 234), (121, zbyo_181 231), (124, zbyo_42), (125, zbyo_180 19), (128, zbyo_180 145), (131, zbyo_27), (132, zbyo_46), (133, zbyo_172)]
theorem zbyb_312 : zbys zbyl_312 (cX11_buy.data.toList.drop 110) 110 = true := by decide +kernel
theorem dX11_buy_110 : decode cX11_buy 110 = .ok (.getfield 19, 3) := zby_g zbyb_312 (i := 0) rfl rfl
theorem dX11_buy_113 : decode cX11_buy 113 = .ok (.getfield 231, 3) := zby_g zbyb_312 (i := 1) rfl rfl
theorem dX11_buy_116 : decode cX11_buy 116 = .ok (.iload_n 3, 1) := zby_g zbyb_312 (i := 2) rfl rfl
theorem dX11_buy_117 : decode cX11_buy 117 = .ok (.iadd, 1) := zby_g zbyb_312 (i := 3) rfl rfl
theorem dX11_buy_118 : decode cX11_buy 118 = .ok (.invokestatic 234, 3) := zby_g zbyb_312 (i := 4) rfl rfl
theorem dX11_buy_121 : decode cX11_buy 121 = .ok (.putfield 231, 3) := zby_g zbyb_312 (i := 5) rfl rfl
theorem dX11_buy_124 : decode cX11_buy 124 = .ok (.aload_n 0, 1) := zby_g zbyb_312 (i := 6) rfl rfl
theorem dX11_buy_125 : decode cX11_buy 125 = .ok (.getfield 19, 3) := zby_g zbyb_312 (i := 7) rfl rfl
theorem dX11_buy_128 : decode cX11_buy 128 = .ok (.getfield 145, 3) := zby_g zbyb_312 (i := 8) rfl rfl
theorem dX11_buy_131 : decode cX11_buy 131 = .ok (.iload_n 1, 1) := zby_g zbyb_312 (i := 9) rfl rfl
theorem dX11_buy_132 : decode cX11_buy 132 = .ok (.iaload, 1) := zby_g zbyb_312 (i := 10) rfl rfl
theorem dX11_buy_133 : decode cX11_buy 133 = .ok (.ireturn, 1) := zby_g zbyb_312 (i := 11) rfl rfl
noncomputable def zbyl_313 : List (Nat × zbyE) := [(0, zbyo_42), (1, zbyo_27), (2, zbyo_182 138), (5, zbyo_42), (6, zbyo_28), (7, zbyo_4), (8, zbyo_16 99), (10, zbyo_182 214), (13, zbyo_28), (14, zbyo_42), (15, zbyo_180 19), (18, zbyo_182 201), (21, zbyo_104), (22, zbyo_62), (23, zbyo_42), (24, zbyo_42)]
theorem zbyb_313 : zbys zbyl_313 (cX11_sell.data.toList.drop 0) 0 = true := by decide +kernel
theorem dX11_sell_0 : decode cX11_sell 0 = .ok (.aload_n 0, 1) := zby_g zbyb_313 (i := 0) rfl rfl
theorem dX11_sell_1 : decode cX11_sell 1 = .ok (.iload_n 1, 1) := zby_g zbyb_313 (i := 1) rfl rfl
theorem dX11_sell_2 : decode cX11_sell 2 = .ok (.invokevirtual 138, 3) := zby_g zbyb_313 (i := 2) rfl rfl
theorem dX11_sell_5 : decode cX11_sell 5 = .ok (.aload_n 0, 1) := zby_g zbyb_313 (i := 3) rfl rfl
theorem dX11_sell_6 : decode cX11_sell 6 = .ok (.iload_n 2, 1) := zby_g zbyb_313 (i := 4) rfl rfl
theorem dX11_sell_7 : decode cX11_sell 7 = .ok (.iconst 1, 1) := zby_g zbyb_313 (i := 5) rfl rfl
theorem dX11_sell_8 : decode cX11_sell 8 = .ok (.bipush 99, 2) := zby_g zbyb_313 (i := 6) rfl rfl
theorem dX11_sell_10 : decode cX11_sell 10 = .ok (.invokevirtual 214, 3) := zby_g zbyb_313 (i := 7) rfl rfl
theorem dX11_sell_13 : decode cX11_sell 13 = .ok (.iload_n 2, 1) := zby_g zbyb_313 (i := 8) rfl rfl
theorem dX11_sell_14 : decode cX11_sell 14 = .ok (.aload_n 0, 1) := zby_g zbyb_313 (i := 9) rfl rfl
theorem dX11_sell_15 : decode cX11_sell 15 = .ok (.getfield 19, 3) := zby_g zbyb_313 (i := 10) rfl rfl
theorem dX11_sell_18 : decode cX11_sell 18 = .ok (.invokevirtual 201, 3) := zby_g zbyb_313 (i := 11) rfl rfl
theorem dX11_sell_21 : decode cX11_sell 21 = .ok (.imul, 1) := zby_g zbyb_313 (i := 12) rfl rfl
theorem dX11_sell_22 : decode cX11_sell 22 = .ok (.istore_n 3, 1) := zby_g zbyb_313 (i := 13) rfl rfl
theorem dX11_sell_23 : decode cX11_sell 23 = .ok (.aload_n 0, 1) := zby_g zbyb_313 (i := 14) rfl rfl
theorem dX11_sell_24 : decode cX11_sell 24 = .ok (.aload_n 0, 1) := zby_g zbyb_313 (i := 15) rfl rfl
noncomputable def zbyl_314 : List (Nat × zbyE) := [(25, zbyo_180 19), (28, zbyo_180 148), (31, zbyo_27), (32, zbyo_46), (33, zbyo_28), (34, zbyo_161 18), (37, zbyo_42), (38, zbyo_180 19), (41, zbyo_180 231), (44, zbyo_29), (45, zbyo_161 7), (48, zbyo_4), (49, zbyo_167 4), (52, zbyo_3), (53, zbyo_182 221), (56, zbyo_42)]
theorem zbyb_314 : zbys zbyl_314 (cX11_sell.data.toList.drop 25) 25 = true := by decide +kernel
theorem dX11_sell_25 : decode cX11_sell 25 = .ok (.getfield 19, 3) := zby_g zbyb_314 (i := 0) rfl rfl
theorem dX11_sell_28 : decode cX11_sell 28 = .ok (.getfield 148, 3) := zby_g zbyb_314 (i := 1) rfl rfl
theorem dX11_sell_31 : decode cX11_sell 31 = .ok (.iload_n 1, 1) := zby_g zbyb_314 (i := 2) rfl rfl
theorem dX11_sell_32 : decode cX11_sell 32 = .ok (.iaload, 1) := zby_g zbyb_314 (i := 3) rfl rfl
theorem dX11_sell_33 : decode cX11_sell 33 = .ok (.iload_n 2, 1) := zby_g zbyb_314 (i := 4) rfl rfl
theorem dX11_sell_34 : decode cX11_sell 34 = .ok (.if_icmp .lt 18, 3) := zby_g zbyb_314 (i := 5) rfl rfl
theorem dX11_sell_37 : decode cX11_sell 37 = .ok (.aload_n 0, 1) := zby_g zbyb_314 (i := 6) rfl rfl
theorem dX11_sell_38 : decode cX11_sell 38 = .ok (.getfield 19, 3) := zby_g zbyb_314 (i := 7) rfl rfl
theorem dX11_sell_41 : decode cX11_sell 41 = .ok (.getfield 231, 3) := zby_g zbyb_314 (i := 8) rfl rfl
theorem dX11_sell_44 : decode cX11_sell 44 = .ok (.iload_n 3, 1) := zby_g zbyb_314 (i := 9) rfl rfl
theorem dX11_sell_45 : decode cX11_sell 45 = .ok (.if_icmp .lt 7, 3) := zby_g zbyb_314 (i := 10) rfl rfl
theorem dX11_sell_48 : decode cX11_sell 48 = .ok (.iconst 1, 1) := zby_g zbyb_314 (i := 11) rfl rfl
theorem dX11_sell_49 : decode cX11_sell 49 = .ok (.goto 4, 3) := zby_g zbyb_314 (i := 12) rfl rfl
theorem dX11_sell_52 : decode cX11_sell 52 = .ok (.iconst 0, 1) := zby_g zbyb_314 (i := 13) rfl rfl
theorem dX11_sell_53 : decode cX11_sell 53 = .ok (.invokevirtual 221, 3) := zby_g zbyb_314 (i := 14) rfl rfl
theorem dX11_sell_56 : decode cX11_sell 56 = .ok (.aload_n 0, 1) := zby_g zbyb_314 (i := 15) rfl rfl
noncomputable def zbyl_315 : List (Nat × zbyE) := [(57, zbyo_180 56), (60, zbyo_42), (61, zbyo_180 19), (64, zbyo_42), (65, zbyo_180 33), (68, zbyo_182 207), (71, zbyo_42), (72, zbyo_180 19), (75, zbyo_180 148), (78, zbyo_27), (79, zbyo_92), (80, zbyo_46), (81, zbyo_28), (82, zbyo_100), (83, zbyo_79), (84, zbyo_42)]
theorem zbyb_315 : zbys zbyl_315 (cX11_sell.data.toList.drop 57) 57 = true := by decide +kernel
theorem dX11_sell_57 : decode cX11_sell 57 = .ok (.getfield 56, 3) := zby_g zbyb_315 (i := 0) rfl rfl
theorem dX11_sell_60 : decode cX11_sell 60 = .ok (.aload_n 0, 1) := zby_g zbyb_315 (i := 1) rfl rfl
theorem dX11_sell_61 : decode cX11_sell 61 = .ok (.getfield 19, 3) := zby_g zbyb_315 (i := 2) rfl rfl
theorem dX11_sell_64 : decode cX11_sell 64 = .ok (.aload_n 0, 1) := zby_g zbyb_315 (i := 3) rfl rfl
theorem dX11_sell_65 : decode cX11_sell 65 = .ok (.getfield 33, 3) := zby_g zbyb_315 (i := 4) rfl rfl
theorem dX11_sell_68 : decode cX11_sell 68 = .ok (.invokevirtual 207, 3) := zby_g zbyb_315 (i := 5) rfl rfl
theorem dX11_sell_71 : decode cX11_sell 71 = .ok (.aload_n 0, 1) := zby_g zbyb_315 (i := 6) rfl rfl
theorem dX11_sell_72 : decode cX11_sell 72 = .ok (.getfield 19, 3) := zby_g zbyb_315 (i := 7) rfl rfl
theorem dX11_sell_75 : decode cX11_sell 75 = .ok (.getfield 148, 3) := zby_g zbyb_315 (i := 8) rfl rfl
theorem dX11_sell_78 : decode cX11_sell 78 = .ok (.iload_n 1, 1) := zby_g zbyb_315 (i := 9) rfl rfl
theorem dX11_sell_79 : decode cX11_sell 79 = .ok (.dup2, 1) := zby_g zbyb_315 (i := 10) rfl rfl
theorem dX11_sell_80 : decode cX11_sell 80 = .ok (.iaload, 1) := zby_g zbyb_315 (i := 11) rfl rfl
theorem dX11_sell_81 : decode cX11_sell 81 = .ok (.iload_n 2, 1) := zby_g zbyb_315 (i := 12) rfl rfl
theorem dX11_sell_82 : decode cX11_sell 82 = .ok (.isub, 1) := zby_g zbyb_315 (i := 13) rfl rfl
theorem dX11_sell_83 : decode cX11_sell 83 = .ok (.iastore, 1) := zby_g zbyb_315 (i := 14) rfl rfl
theorem dX11_sell_84 : decode cX11_sell 84 = .ok (.aload_n 0, 1) := zby_g zbyb_315 (i := 15) rfl rfl
noncomputable def zbyl_316 : List (Nat × zbyE) := [(85, zbyo_180 19), (88, zbyo_89), (89, zbyo_180 231), (92, zbyo_29), (93, zbyo_100), (94, zbyo_181 231), (97, zbyo_42), (98, zbyo_180 19), (101, zbyo_180 145), (104, zbyo_27), (105, zbyo_17 9999), (108, zbyo_42), (109, zbyo_180 19), (112, zbyo_180 145), (115, zbyo_27), (116, zbyo_46)]
theorem zbyb_316 : zbys zbyl_316 (cX11_sell.data.toList.drop 85) 85 = true := by decide +kernel
theorem dX11_sell_85 : decode cX11_sell 85 = .ok (.getfield 19, 3) := zby_g zbyb_316 (i := 0) rfl rfl
theorem dX11_sell_88 : decode cX11_sell 88 = .ok (.dup, 1) := zby_g zbyb_316 (i := 1) rfl rfl
theorem dX11_sell_89 : decode cX11_sell 89 = .ok (.getfield 231, 3) := zby_g zbyb_316 (i := 2) rfl rfl
theorem dX11_sell_92 : decode cX11_sell 92 = .ok (.iload_n 3, 1) := zby_g zbyb_316 (i := 3) rfl rfl
theorem dX11_sell_93 : decode cX11_sell 93 = .ok (.isub, 1) := zby_g zbyb_316 (i := 4) rfl rfl
theorem dX11_sell_94 : decode cX11_sell 94 = .ok (.putfield 231, 3) := zby_g zbyb_316 (i := 5) rfl rfl
theorem dX11_sell_97 : decode cX11_sell 97 = .ok (.aload_n 0, 1) := zby_g zbyb_316 (i := 6) rfl rfl
theorem dX11_sell_98 : decode cX11_sell 98 = .ok (.getfield 19, 3) := zby_g zbyb_316 (i := 7) rfl rfl
theorem dX11_sell_101 : decode cX11_sell 101 = .ok (.getfield 145, 3) := zby_g zbyb_316 (i := 8) rfl rfl
theorem dX11_sell_104 : decode cX11_sell 104 = .ok (.iload_n 1, 1) := zby_g zbyb_316 (i := 9) rfl rfl
theorem dX11_sell_105 : decode cX11_sell 105 = .ok (.sipush 9999, 3) := zby_g zbyb_316 (i := 10) rfl rfl
theorem dX11_sell_108 : decode cX11_sell 108 = .ok (.aload_n 0, 1) := zby_g zbyb_316 (i := 11) rfl rfl
theorem dX11_sell_109 : decode cX11_sell 109 = .ok (.getfield 19, 3) := zby_g zbyb_316 (i := 12) rfl rfl
theorem dX11_sell_112 : decode cX11_sell 112 = .ok (.getfield 145, 3) := zby_g zbyb_316 (i := 13) rfl rfl
theorem dX11_sell_115 : decode cX11_sell 115 = .ok (.iload_n 1, 1) := zby_g zbyb_316 (i := 14) rfl rfl
theorem dX11_sell_116 : decode cX11_sell 116 = .ok (.iaload, 1) := zby_g zbyb_316 (i := 15) rfl rfl
noncomputable def zbyl_317 : List (Nat × zbyE) := [(117, zbyo_29), (118, zbyo_96), (119, zbyo_184 234), (122, zbyo_79), (123, zbyo_42), (124, zbyo_180 19), (127, zbyo_180 145), (130, zbyo_27), (131, zbyo_46), (132, zbyo_172)]
theorem zbyb_317 : zbys zbyl_317 (cX11_sell.data.toList.drop 117) 117 = true := by decide +kernel
theorem dX11_sell_117 : decode cX11_sell 117 = .ok (.iload_n 3, 1) := zby_g zbyb_317 (i := 0) rfl rfl
theorem dX11_sell_118 : decode cX11_sell 118 = .ok (.iadd, 1) := zby_g zbyb_317 (i := 1) rfl rfl
theorem dX11_sell_119 : decode cX11_sell 119 = .ok (.invokestatic 234, 3) := zby_g zbyb_317 (i := 2) rfl rfl
theorem dX11_sell_122 : decode cX11_sell 122 = .ok (.iastore, 1) := zby_g zbyb_317 (i := 3) rfl rfl
theorem dX11_sell_123 : decode cX11_sell 123 = .ok (.aload_n 0, 1) := zby_g zbyb_317 (i := 4) rfl rfl
theorem dX11_sell_124 : decode cX11_sell 124 = .ok (.getfield 19, 3) := zby_g zbyb_317 (i := 5) rfl rfl
theorem dX11_sell_127 : decode cX11_sell 127 = .ok (.getfield 145, 3) := zby_g zbyb_317 (i := 6) rfl rfl
theorem dX11_sell_130 : decode cX11_sell 130 = .ok (.iload_n 1, 1) := zby_g zbyb_317 (i := 7) rfl rfl
theorem dX11_sell_131 : decode cX11_sell 131 = .ok (.iaload, 1) := zby_g zbyb_317 (i := 8) rfl rfl
theorem dX11_sell_132 : decode cX11_sell 132 = .ok (.ireturn, 1) := zby_g zbyb_317 (i := 9) rfl rfl
noncomputable def zbyl_318 : List (Nat × zbyE) := [(0, zbyo_42), (1, zbyo_27), (2, zbyo_182 138), (5, zbyo_42), (6, zbyo_180 56), (9, zbyo_42), (10, zbyo_180 19), (13, zbyo_42), (14, zbyo_180 33), (17, zbyo_182 207), (20, zbyo_42), (21, zbyo_180 19), (24, zbyo_180 151), (27, zbyo_27), (28, zbyo_51), (29, zbyo_28)]
theorem zbyb_318 : zbys zbyl_318 (cX11_dry.data.toList.drop 0) 0 = true := by decide +kernel
theorem dX11_dry_0 : decode cX11_dry 0 = .ok (.aload_n 0, 1) := zby_g zbyb_318 (i := 0) rfl rfl
theorem dX11_dry_1 : decode cX11_dry 1 = .ok (.iload_n 1, 1) := zby_g zbyb_318 (i := 1) rfl rfl
theorem dX11_dry_2 : decode cX11_dry 2 = .ok (.invokevirtual 138, 3) := zby_g zbyb_318 (i := 2) rfl rfl
theorem dX11_dry_5 : decode cX11_dry 5 = .ok (.aload_n 0, 1) := zby_g zbyb_318 (i := 3) rfl rfl
theorem dX11_dry_6 : decode cX11_dry 6 = .ok (.getfield 56, 3) := zby_g zbyb_318 (i := 4) rfl rfl
theorem dX11_dry_9 : decode cX11_dry 9 = .ok (.aload_n 0, 1) := zby_g zbyb_318 (i := 5) rfl rfl
theorem dX11_dry_10 : decode cX11_dry 10 = .ok (.getfield 19, 3) := zby_g zbyb_318 (i := 6) rfl rfl
theorem dX11_dry_13 : decode cX11_dry 13 = .ok (.aload_n 0, 1) := zby_g zbyb_318 (i := 7) rfl rfl
theorem dX11_dry_14 : decode cX11_dry 14 = .ok (.getfield 33, 3) := zby_g zbyb_318 (i := 8) rfl rfl
theorem dX11_dry_17 : decode cX11_dry 17 = .ok (.invokevirtual 207, 3) := zby_g zbyb_318 (i := 9) rfl rfl
theorem dX11_dry_20 : decode cX11_dry 20 = .ok (.aload_n 0, 1) := zby_g zbyb_318 (i := 10) rfl rfl
theorem dX11_dry_21 : decode cX11_dry 21 = .ok (.getfield 19, 3) := zby_g zbyb_318 (i := 11) rfl rfl
theorem dX11_dry_24 : decode cX11_dry 24 = .ok (.getfield 151, 3) := zby_g zbyb_318 (i := 12) rfl rfl
theorem dX11_dry_27 : decode cX11_dry 27 = .ok (.iload_n 1, 1) := zby_g zbyb_318 (i := 13) rfl rfl
theorem dX11_dry_28 : decode cX11_dry 28 = .ok (.baload, 1) := zby_g zbyb_318 (i := 14) rfl rfl
theorem dX11_dry_29 : decode cX11_dry 29 = .ok (.iload_n 2, 1) := zby_g zbyb_318 (i := 15) rfl rfl
noncomputable def zbyl_319 : List (Nat × zbyE) := [(30, zbyo_159 7), (33, zbyo_4), (34, zbyo_167 4), (37, zbyo_3), (38, zbyo_62), (39, zbyo_42), (40, zbyo_180 19), (43, zbyo_180 151), (46, zbyo_27), (47, zbyo_28), (48, zbyo_84), (49, zbyo_29), (50, zbyo_172)]
theorem zbyb_319 : zbys zbyl_319 (cX11_dry.data.toList.drop 30) 30 = true := by decide +kernel
theorem dX11_dry_30 : decode cX11_dry 30 = .ok (.if_icmp .eq 7, 3) := zby_g zbyb_319 (i := 0) rfl rfl
theorem dX11_dry_33 : decode cX11_dry 33 = .ok (.iconst 1, 1) := zby_g zbyb_319 (i := 1) rfl rfl
theorem dX11_dry_34 : decode cX11_dry 34 = .ok (.goto 4, 3) := zby_g zbyb_319 (i := 2) rfl rfl
theorem dX11_dry_37 : decode cX11_dry 37 = .ok (.iconst 0, 1) := zby_g zbyb_319 (i := 3) rfl rfl
theorem dX11_dry_38 : decode cX11_dry 38 = .ok (.istore_n 3, 1) := zby_g zbyb_319 (i := 4) rfl rfl
theorem dX11_dry_39 : decode cX11_dry 39 = .ok (.aload_n 0, 1) := zby_g zbyb_319 (i := 5) rfl rfl
theorem dX11_dry_40 : decode cX11_dry 40 = .ok (.getfield 19, 3) := zby_g zbyb_319 (i := 6) rfl rfl
theorem dX11_dry_43 : decode cX11_dry 43 = .ok (.getfield 151, 3) := zby_g zbyb_319 (i := 7) rfl rfl
theorem dX11_dry_46 : decode cX11_dry 46 = .ok (.iload_n 1, 1) := zby_g zbyb_319 (i := 8) rfl rfl
theorem dX11_dry_47 : decode cX11_dry 47 = .ok (.iload_n 2, 1) := zby_g zbyb_319 (i := 9) rfl rfl
theorem dX11_dry_48 : decode cX11_dry 48 = .ok (.bastore, 1) := zby_g zbyb_319 (i := 10) rfl rfl
theorem dX11_dry_49 : decode cX11_dry 49 = .ok (.iload_n 3, 1) := zby_g zbyb_319 (i := 11) rfl rfl
theorem dX11_dry_50 : decode cX11_dry 50 = .ok (.ireturn, 1) := zby_g zbyb_319 (i := 12) rfl rfl
noncomputable def zbyl_320 : List (Nat × zbyE) := [(0, zbyo_42), (1, zbyo_27), (2, zbyo_4), (3, zbyo_16 60), (5, zbyo_182 214), (8, zbyo_42), (9, zbyo_180 56), (12, zbyo_42), (13, zbyo_180 19), (16, zbyo_42), (17, zbyo_180 33), (20, zbyo_182 207), (23, zbyo_3), (24, zbyo_61), (25, zbyo_3), (26, zbyo_62)]
theorem zbyb_320 : zbys zbyl_320 (cX11_days.data.toList.drop 0) 0 = true := by decide +kernel
theorem dX11_days_0 : decode cX11_days 0 = .ok (.aload_n 0, 1) := zby_g zbyb_320 (i := 0) rfl rfl
theorem dX11_days_1 : decode cX11_days 1 = .ok (.iload_n 1, 1) := zby_g zbyb_320 (i := 1) rfl rfl
theorem dX11_days_2 : decode cX11_days 2 = .ok (.iconst 1, 1) := zby_g zbyb_320 (i := 2) rfl rfl
theorem dX11_days_3 : decode cX11_days 3 = .ok (.bipush 60, 2) := zby_g zbyb_320 (i := 3) rfl rfl
theorem dX11_days_5 : decode cX11_days 5 = .ok (.invokevirtual 214, 3) := zby_g zbyb_320 (i := 4) rfl rfl
theorem dX11_days_8 : decode cX11_days 8 = .ok (.aload_n 0, 1) := zby_g zbyb_320 (i := 5) rfl rfl
theorem dX11_days_9 : decode cX11_days 9 = .ok (.getfield 56, 3) := zby_g zbyb_320 (i := 6) rfl rfl
theorem dX11_days_12 : decode cX11_days 12 = .ok (.aload_n 0, 1) := zby_g zbyb_320 (i := 7) rfl rfl
theorem dX11_days_13 : decode cX11_days 13 = .ok (.getfield 19, 3) := zby_g zbyb_320 (i := 8) rfl rfl
theorem dX11_days_16 : decode cX11_days 16 = .ok (.aload_n 0, 1) := zby_g zbyb_320 (i := 9) rfl rfl
theorem dX11_days_17 : decode cX11_days 17 = .ok (.getfield 33, 3) := zby_g zbyb_320 (i := 10) rfl rfl
theorem dX11_days_20 : decode cX11_days 20 = .ok (.invokevirtual 207, 3) := zby_g zbyb_320 (i := 11) rfl rfl
theorem dX11_days_23 : decode cX11_days 23 = .ok (.iconst 0, 1) := zby_g zbyb_320 (i := 12) rfl rfl
theorem dX11_days_24 : decode cX11_days 24 = .ok (.istore_n 2, 1) := zby_g zbyb_320 (i := 13) rfl rfl
theorem dX11_days_25 : decode cX11_days 25 = .ok (.iconst 0, 1) := zby_g zbyb_320 (i := 14) rfl rfl
theorem dX11_days_26 : decode cX11_days 26 = .ok (.istore_n 3, 1) := zby_g zbyb_320 (i := 15) rfl rfl
noncomputable def zbyl_321 : List (Nat × zbyE) := [(27, zbyo_29), (28, zbyo_27), (29, zbyo_162 28), (32, zbyo_28), (33, zbyo_42), (34, zbyo_180 19), (37, zbyo_42), (38, zbyo_180 26), (41, zbyo_4), (42, zbyo_42), (43, zbyo_180 33), (46, zbyo_182 239), (49, zbyo_96), (50, zbyo_61), (51, zbyo_132 3 1), (54, zbyo_167 (-27))]
theorem zbyb_321 : zbys zbyl_321 (cX11_days.data.toList.drop 27) 27 = true := by decide +kernel
theorem dX11_days_27 : decode cX11_days 27 = .ok (.iload_n 3, 1) := zby_g zbyb_321 (i := 0) rfl rfl
theorem dX11_days_28 : decode cX11_days 28 = .ok (.iload_n 1, 1) := zby_g zbyb_321 (i := 1) rfl rfl
theorem dX11_days_29 : decode cX11_days 29 = .ok (.if_icmp .ge 28, 3) := zby_g zbyb_321 (i := 2) rfl rfl
theorem dX11_days_32 : decode cX11_days 32 = .ok (.iload_n 2, 1) := zby_g zbyb_321 (i := 3) rfl rfl
theorem dX11_days_33 : decode cX11_days 33 = .ok (.aload_n 0, 1) := zby_g zbyb_321 (i := 4) rfl rfl
theorem dX11_days_34 : decode cX11_days 34 = .ok (.getfield 19, 3) := zby_g zbyb_321 (i := 5) rfl rfl
theorem dX11_days_37 : decode cX11_days 37 = .ok (.aload_n 0, 1) := zby_g zbyb_321 (i := 6) rfl rfl
theorem dX11_days_38 : decode cX11_days 38 = .ok (.getfield 26, 3) := zby_g zbyb_321 (i := 7) rfl rfl
theorem dX11_days_41 : decode cX11_days 41 = .ok (.iconst 1, 1) := zby_g zbyb_321 (i := 8) rfl rfl
theorem dX11_days_42 : decode cX11_days 42 = .ok (.aload_n 0, 1) := zby_g zbyb_321 (i := 9) rfl rfl
theorem dX11_days_43 : decode cX11_days 43 = .ok (.getfield 33, 3) := zby_g zbyb_321 (i := 10) rfl rfl
theorem dX11_days_46 : decode cX11_days 46 = .ok (.invokevirtual 239, 3) := zby_g zbyb_321 (i := 11) rfl rfl
theorem dX11_days_49 : decode cX11_days 49 = .ok (.iadd, 1) := zby_g zbyb_321 (i := 12) rfl rfl
theorem dX11_days_50 : decode cX11_days 50 = .ok (.istore_n 2, 1) := zby_g zbyb_321 (i := 13) rfl rfl
theorem dX11_days_51 : decode cX11_days 51 = .ok (.iinc 3 1, 3) := zby_g zbyb_321 (i := 14) rfl rfl
theorem dX11_days_54 : decode cX11_days 54 = .ok (.goto (-27), 3) := zby_g zbyb_321 (i := 15) rfl rfl
noncomputable def zbyl_322 : List (Nat × zbyE) := [(57, zbyo_28), (58, zbyo_172)]
theorem zbyb_322 : zbys zbyl_322 (cX11_days.data.toList.drop 57) 57 = true := by decide +kernel
theorem dX11_days_57 : decode cX11_days 57 = .ok (.iload_n 2, 1) := zby_g zbyb_322 (i := 0) rfl rfl
theorem dX11_days_58 : decode cX11_days 58 = .ok (.ireturn, 1) := zby_g zbyb_322 (i := 1) rfl rfl
noncomputable def zbyl_323 : List (Nat × zbyE) := [(0, zbyo_42), (1, zbyo_27), (2, zbyo_182 138), (5, zbyo_42), (6, zbyo_28), (7, zbyo_3), (8, zbyo_16 100), (10, zbyo_182 214), (13, zbyo_42), (14, zbyo_180 65), (17, zbyo_3), (18, zbyo_3), (19, zbyo_28), (20, zbyo_182 243), (23, zbyo_87), (24, zbyo_42)]
theorem zbyb_323 : zbys zbyl_323 (cX11_ahead.data.toList.drop 0) 0 = true := by decide +kernel
theorem dX11_ahead_0 : decode cX11_ahead 0 = .ok (.aload_n 0, 1) := zby_g zbyb_323 (i := 0) rfl rfl
theorem dX11_ahead_1 : decode cX11_ahead 1 = .ok (.iload_n 1, 1) := zby_g zbyb_323 (i := 1) rfl rfl
theorem dX11_ahead_2 : decode cX11_ahead 2 = .ok (.invokevirtual 138, 3) := zby_g zbyb_323 (i := 2) rfl rfl
theorem dX11_ahead_5 : decode cX11_ahead 5 = .ok (.aload_n 0, 1) := zby_g zbyb_323 (i := 3) rfl rfl
theorem dX11_ahead_6 : decode cX11_ahead 6 = .ok (.iload_n 2, 1) := zby_g zbyb_323 (i := 4) rfl rfl
theorem dX11_ahead_7 : decode cX11_ahead 7 = .ok (.iconst 0, 1) := zby_g zbyb_323 (i := 5) rfl rfl
theorem dX11_ahead_8 : decode cX11_ahead 8 = .ok (.bipush 100, 2) := zby_g zbyb_323 (i := 6) rfl rfl
theorem dX11_ahead_10 : decode cX11_ahead 10 = .ok (.invokevirtual 214, 3) := zby_g zbyb_323 (i := 7) rfl rfl
theorem dX11_ahead_13 : decode cX11_ahead 13 = .ok (.aload_n 0, 1) := zby_g zbyb_323 (i := 8) rfl rfl
theorem dX11_ahead_14 : decode cX11_ahead 14 = .ok (.getfield 65, 3) := zby_g zbyb_323 (i := 9) rfl rfl
theorem dX11_ahead_17 : decode cX11_ahead 17 = .ok (.iconst 0, 1) := zby_g zbyb_323 (i := 10) rfl rfl
theorem dX11_ahead_18 : decode cX11_ahead 18 = .ok (.iconst 0, 1) := zby_g zbyb_323 (i := 11) rfl rfl
theorem dX11_ahead_19 : decode cX11_ahead 19 = .ok (.iload_n 2, 1) := zby_g zbyb_323 (i := 12) rfl rfl
theorem dX11_ahead_20 : decode cX11_ahead 20 = .ok (.invokevirtual 243, 3) := zby_g zbyb_323 (i := 13) rfl rfl
theorem dX11_ahead_23 : decode cX11_ahead 23 = .ok (.pop, 1) := zby_g zbyb_323 (i := 14) rfl rfl
theorem dX11_ahead_24 : decode cX11_ahead 24 = .ok (.aload_n 0, 1) := zby_g zbyb_323 (i := 15) rfl rfl
noncomputable def zbyl_324 : List (Nat × zbyE) := [(25, zbyo_180 65), (28, zbyo_180 247), (31, zbyo_180 141), (34, zbyo_27), (35, zbyo_46), (36, zbyo_172)]
theorem zbyb_324 : zbys zbyl_324 (cX11_ahead.data.toList.drop 25) 25 = true := by decide +kernel
theorem dX11_ahead_25 : decode cX11_ahead 25 = .ok (.getfield 65, 3) := zby_g zbyb_324 (i := 0) rfl rfl
theorem dX11_ahead_28 : decode cX11_ahead 28 = .ok (.getfield 247, 3) := zby_g zbyb_324 (i := 1) rfl rfl
theorem dX11_ahead_31 : decode cX11_ahead 31 = .ok (.getfield 141, 3) := zby_g zbyb_324 (i := 2) rfl rfl
theorem dX11_ahead_34 : decode cX11_ahead 34 = .ok (.iload_n 1, 1) := zby_g zbyb_324 (i := 3) rfl rfl
theorem dX11_ahead_35 : decode cX11_ahead 35 = .ok (.iaload, 1) := zby_g zbyb_324 (i := 4) rfl rfl
theorem dX11_ahead_36 : decode cX11_ahead 36 = .ok (.ireturn, 1) := zby_g zbyb_324 (i := 5) rfl rfl
noncomputable def zbyl_325 : List (Nat × zbyE) := [(0, zbyo_42), (1, zbyo_27), (2, zbyo_3), (3, zbyo_16 100), (5, zbyo_182 214), (8, zbyo_42), (9, zbyo_180 65), (12, zbyo_3), (13, zbyo_3), (14, zbyo_27), (15, zbyo_182 243), (18, zbyo_62), (19, zbyo_28), (20, zbyo_153 16), (23, zbyo_42), (24, zbyo_180 65)]
theorem zbyb_325 : zbys zbyl_325 (cX11_then.data.toList.drop 0) 0 = true := by decide +kernel
theorem dX11_then_0 : decode cX11_then 0 = .ok (.aload_n 0, 1) := zby_g zbyb_325 (i := 0) rfl rfl
theorem dX11_then_1 : decode cX11_then 1 = .ok (.iload_n 1, 1) := zby_g zbyb_325 (i := 1) rfl rfl
theorem dX11_then_2 : decode cX11_then 2 = .ok (.iconst 0, 1) := zby_g zbyb_325 (i := 2) rfl rfl
theorem dX11_then_3 : decode cX11_then 3 = .ok (.bipush 100, 2) := zby_g zbyb_325 (i := 3) rfl rfl
theorem dX11_then_5 : decode cX11_then 5 = .ok (.invokevirtual 214, 3) := zby_g zbyb_325 (i := 4) rfl rfl
theorem dX11_then_8 : decode cX11_then 8 = .ok (.aload_n 0, 1) := zby_g zbyb_325 (i := 5) rfl rfl
theorem dX11_then_9 : decode cX11_then 9 = .ok (.getfield 65, 3) := zby_g zbyb_325 (i := 6) rfl rfl
theorem dX11_then_12 : decode cX11_then 12 = .ok (.iconst 0, 1) := zby_g zbyb_325 (i := 7) rfl rfl
theorem dX11_then_13 : decode cX11_then 13 = .ok (.iconst 0, 1) := zby_g zbyb_325 (i := 8) rfl rfl
theorem dX11_then_14 : decode cX11_then 14 = .ok (.iload_n 1, 1) := zby_g zbyb_325 (i := 9) rfl rfl
theorem dX11_then_15 : decode cX11_then 15 = .ok (.invokevirtual 243, 3) := zby_g zbyb_325 (i := 10) rfl rfl
theorem dX11_then_18 : decode cX11_then 18 = .ok (.istore_n 3, 1) := zby_g zbyb_325 (i := 11) rfl rfl
theorem dX11_then_19 : decode cX11_then 19 = .ok (.iload_n 2, 1) := zby_g zbyb_325 (i := 12) rfl rfl
theorem dX11_then_20 : decode cX11_then 20 = .ok (.ifCond .eq 16, 3) := zby_g zbyb_325 (i := 13) rfl rfl
theorem dX11_then_23 : decode cX11_then 23 = .ok (.aload_n 0, 1) := zby_g zbyb_325 (i := 14) rfl rfl
theorem dX11_then_24 : decode cX11_then 24 = .ok (.getfield 65, 3) := zby_g zbyb_325 (i := 15) rfl rfl
noncomputable def zbyl_326 : List (Nat × zbyE) := [(27, zbyo_180 247), (30, zbyo_180 231), (33, zbyo_167 4), (36, zbyo_29), (37, zbyo_172)]
theorem zbyb_326 : zbys zbyl_326 (cX11_then.data.toList.drop 27) 27 = true := by decide +kernel
theorem dX11_then_27 : decode cX11_then 27 = .ok (.getfield 247, 3) := zby_g zbyb_326 (i := 0) rfl rfl
theorem dX11_then_30 : decode cX11_then 30 = .ok (.getfield 231, 3) := zby_g zbyb_326 (i := 1) rfl rfl
theorem dX11_then_33 : decode cX11_then 33 = .ok (.goto 4, 3) := zby_g zbyb_326 (i := 2) rfl rfl
theorem dX11_then_36 : decode cX11_then 36 = .ok (.iload_n 3, 1) := zby_g zbyb_326 (i := 3) rfl rfl
theorem dX11_then_37 : decode cX11_then 37 = .ok (.ireturn, 1) := zby_g zbyb_326 (i := 4) rfl rfl
noncomputable def zbyl_327 : List (Nat × zbyE) := [(0, zbyo_42), (1, zbyo_27), (2, zbyo_182 138), (5, zbyo_42), (6, zbyo_28), (7, zbyo_3), (8, zbyo_16 30), (10, zbyo_182 214), (13, zbyo_42), (14, zbyo_180 65), (17, zbyo_4), (18, zbyo_27), (19, zbyo_120), (20, zbyo_16 10), (22, zbyo_28), (23, zbyo_182 243)]
theorem zbyb_327 : zbys zbyl_327 (cX11_sways.data.toList.drop 0) 0 = true := by decide +kernel
theorem dX11_sways_0 : decode cX11_sways 0 = .ok (.aload_n 0, 1) := zby_g zbyb_327 (i := 0) rfl rfl
theorem dX11_sways_1 : decode cX11_sways 1 = .ok (.iload_n 1, 1) := zby_g zbyb_327 (i := 1) rfl rfl
theorem dX11_sways_2 : decode cX11_sways 2 = .ok (.invokevirtual 138, 3) := zby_g zbyb_327 (i := 2) rfl rfl
theorem dX11_sways_5 : decode cX11_sways 5 = .ok (.aload_n 0, 1) := zby_g zbyb_327 (i := 3) rfl rfl
theorem dX11_sways_6 : decode cX11_sways 6 = .ok (.iload_n 2, 1) := zby_g zbyb_327 (i := 4) rfl rfl
theorem dX11_sways_7 : decode cX11_sways 7 = .ok (.iconst 0, 1) := zby_g zbyb_327 (i := 5) rfl rfl
theorem dX11_sways_8 : decode cX11_sways 8 = .ok (.bipush 30, 2) := zby_g zbyb_327 (i := 6) rfl rfl
theorem dX11_sways_10 : decode cX11_sways 10 = .ok (.invokevirtual 214, 3) := zby_g zbyb_327 (i := 7) rfl rfl
theorem dX11_sways_13 : decode cX11_sways 13 = .ok (.aload_n 0, 1) := zby_g zbyb_327 (i := 8) rfl rfl
theorem dX11_sways_14 : decode cX11_sways 14 = .ok (.getfield 65, 3) := zby_g zbyb_327 (i := 9) rfl rfl
theorem dX11_sways_17 : decode cX11_sways 17 = .ok (.iconst 1, 1) := zby_g zbyb_327 (i := 10) rfl rfl
theorem dX11_sways_18 : decode cX11_sways 18 = .ok (.iload_n 1, 1) := zby_g zbyb_327 (i := 11) rfl rfl
theorem dX11_sways_19 : decode cX11_sways 19 = .ok (.ishl, 1) := zby_g zbyb_327 (i := 12) rfl rfl
theorem dX11_sways_20 : decode cX11_sways 20 = .ok (.bipush 10, 2) := zby_g zbyb_327 (i := 13) rfl rfl
theorem dX11_sways_22 : decode cX11_sways 22 = .ok (.iload_n 2, 1) := zby_g zbyb_327 (i := 14) rfl rfl
theorem dX11_sways_23 : decode cX11_sways 23 = .ok (.invokevirtual 243, 3) := zby_g zbyb_327 (i := 15) rfl rfl
noncomputable def zbyl_328 : List (Nat × zbyE) := [(26, zbyo_42), (27, zbyo_180 65), (30, zbyo_3), (31, zbyo_3), (32, zbyo_28), (33, zbyo_182 243), (36, zbyo_100), (37, zbyo_172)]
theorem zbyb_328 : zbys zbyl_328 (cX11_sways.data.toList.drop 26) 26 = true := by decide +kernel
theorem dX11_sways_26 : decode cX11_sways 26 = .ok (.aload_n 0, 1) := zby_g zbyb_328 (i := 0) rfl rfl
theorem dX11_sways_27 : decode cX11_sways 27 = .ok (.getfield 65, 3) := zby_g zbyb_328 (i := 1) rfl rfl
theorem dX11_sways_30 : decode cX11_sways 30 = .ok (.iconst 0, 1) := zby_g zbyb_328 (i := 2) rfl rfl
theorem dX11_sways_31 : decode cX11_sways 31 = .ok (.iconst 0, 1) := zby_g zbyb_328 (i := 3) rfl rfl
theorem dX11_sways_32 : decode cX11_sways 32 = .ok (.iload_n 2, 1) := zby_g zbyb_328 (i := 4) rfl rfl
theorem dX11_sways_33 : decode cX11_sways 33 = .ok (.invokevirtual 243, 3) := zby_g zbyb_328 (i := 5) rfl rfl
theorem dX11_sways_36 : decode cX11_sways 36 = .ok (.isub, 1) := zby_g zbyb_328 (i := 6) rfl rfl
theorem dX11_sways_37 : decode cX11_sways 37 = .ok (.ireturn, 1) := zby_g zbyb_328 (i := 7) rfl rfl
noncomputable def zbyl_329 : List (Nat × zbyE) := [(0, zbyo_42), (1, zbyo_27), (2, zbyo_3), (3, zbyo_16 30), (5, zbyo_182 214), (8, zbyo_42), (9, zbyo_180 65), (12, zbyo_27), (13, zbyo_182 250), (16, zbyo_172)]
theorem zbyb_329 : zbys zbyl_329 (cX11_guru.data.toList.drop 0) 0 = true := by decide +kernel
theorem dX11_guru_0 : decode cX11_guru 0 = .ok (.aload_n 0, 1) := zby_g zbyb_329 (i := 0) rfl rfl
theorem dX11_guru_1 : decode cX11_guru 1 = .ok (.iload_n 1, 1) := zby_g zbyb_329 (i := 1) rfl rfl
theorem dX11_guru_2 : decode cX11_guru 2 = .ok (.iconst 0, 1) := zby_g zbyb_329 (i := 2) rfl rfl
theorem dX11_guru_3 : decode cX11_guru 3 = .ok (.bipush 30, 2) := zby_g zbyb_329 (i := 3) rfl rfl
theorem dX11_guru_5 : decode cX11_guru 5 = .ok (.invokevirtual 214, 3) := zby_g zbyb_329 (i := 4) rfl rfl
theorem dX11_guru_8 : decode cX11_guru 8 = .ok (.aload_n 0, 1) := zby_g zbyb_329 (i := 5) rfl rfl
theorem dX11_guru_9 : decode cX11_guru 9 = .ok (.getfield 65, 3) := zby_g zbyb_329 (i := 6) rfl rfl
theorem dX11_guru_12 : decode cX11_guru 12 = .ok (.iload_n 1, 1) := zby_g zbyb_329 (i := 7) rfl rfl
theorem dX11_guru_13 : decode cX11_guru 13 = .ok (.invokevirtual 250, 3) := zby_g zbyb_329 (i := 8) rfl rfl
theorem dX11_guru_16 : decode cX11_guru 16 = .ok (.ireturn, 1) := zby_g zbyb_329 (i := 9) rfl rfl
noncomputable def zbyl_330 : List (Nat × zbyE) := [(0, zbyo_42), (1, zbyo_27), (2, zbyo_4), (3, zbyo_17 792), (6, zbyo_182 214), (9, zbyo_42), (10, zbyo_28), (11, zbyo_3), (12, zbyo_16 30), (14, zbyo_182 214), (17, zbyo_42), (18, zbyo_180 65), (21, zbyo_27), (22, zbyo_28), (23, zbyo_182 253), (26, zbyo_172)]
theorem zbyb_330 : zbys zbyl_330 (cX11_must.data.toList.drop 0) 0 = true := by decide +kernel
theorem dX11_must_0 : decode cX11_must 0 = .ok (.aload_n 0, 1) := zby_g zbyb_330 (i := 0) rfl rfl
theorem dX11_must_1 : decode cX11_must 1 = .ok (.iload_n 1, 1) := zby_g zbyb_330 (i := 1) rfl rfl
theorem dX11_must_2 : decode cX11_must 2 = .ok (.iconst 1, 1) := zby_g zbyb_330 (i := 2) rfl rfl
theorem dX11_must_3 : decode cX11_must 3 = .ok (.sipush 792, 3) := zby_g zbyb_330 (i := 3) rfl rfl
theorem dX11_must_6 : decode cX11_must 6 = .ok (.invokevirtual 214, 3) := zby_g zbyb_330 (i := 4) rfl rfl
theorem dX11_must_9 : decode cX11_must 9 = .ok (.aload_n 0, 1) := zby_g zbyb_330 (i := 5) rfl rfl
theorem dX11_must_10 : decode cX11_must 10 = .ok (.iload_n 2, 1) := zby_g zbyb_330 (i := 6) rfl rfl
theorem dX11_must_11 : decode cX11_must 11 = .ok (.iconst 0, 1) := zby_g zbyb_330 (i := 7) rfl rfl
theorem dX11_must_12 : decode cX11_must 12 = .ok (.bipush 30, 2) := zby_g zbyb_330 (i := 8) rfl rfl
theorem dX11_must_14 : decode cX11_must 14 = .ok (.invokevirtual 214, 3) := zby_g zbyb_330 (i := 9) rfl rfl
theorem dX11_must_17 : decode cX11_must 17 = .ok (.aload_n 0, 1) := zby_g zbyb_330 (i := 10) rfl rfl
theorem dX11_must_18 : decode cX11_must 18 = .ok (.getfield 65, 3) := zby_g zbyb_330 (i := 11) rfl rfl
theorem dX11_must_21 : decode cX11_must 21 = .ok (.iload_n 1, 1) := zby_g zbyb_330 (i := 12) rfl rfl
theorem dX11_must_22 : decode cX11_must 22 = .ok (.iload_n 2, 1) := zby_g zbyb_330 (i := 13) rfl rfl
theorem dX11_must_23 : decode cX11_must 23 = .ok (.invokevirtual 253, 3) := zby_g zbyb_330 (i := 14) rfl rfl
theorem dX11_must_26 : decode cX11_must 26 = .ok (.ireturn, 1) := zby_g zbyb_330 (i := 15) rfl rfl
noncomputable def zbyl_331 : List (Nat × zbyE) := [(0, zbyo_42), (1, zbyo_27), (2, zbyo_4), (3, zbyo_17 792), (6, zbyo_182 214), (9, zbyo_42), (10, zbyo_180 65), (13, zbyo_27), (14, zbyo_182 256), (17, zbyo_172)]
theorem zbyb_331 : zbys zbyl_331 (cX11_reaches.data.toList.drop 0) 0 = true := by decide +kernel
theorem dX11_reaches_0 : decode cX11_reaches 0 = .ok (.aload_n 0, 1) := zby_g zbyb_331 (i := 0) rfl rfl
theorem dX11_reaches_1 : decode cX11_reaches 1 = .ok (.iload_n 1, 1) := zby_g zbyb_331 (i := 1) rfl rfl
theorem dX11_reaches_2 : decode cX11_reaches 2 = .ok (.iconst 1, 1) := zby_g zbyb_331 (i := 2) rfl rfl
theorem dX11_reaches_3 : decode cX11_reaches 3 = .ok (.sipush 792, 3) := zby_g zbyb_331 (i := 3) rfl rfl
theorem dX11_reaches_6 : decode cX11_reaches 6 = .ok (.invokevirtual 214, 3) := zby_g zbyb_331 (i := 4) rfl rfl
theorem dX11_reaches_9 : decode cX11_reaches 9 = .ok (.aload_n 0, 1) := zby_g zbyb_331 (i := 5) rfl rfl
theorem dX11_reaches_10 : decode cX11_reaches 10 = .ok (.getfield 65, 3) := zby_g zbyb_331 (i := 6) rfl rfl
theorem dX11_reaches_13 : decode cX11_reaches 13 = .ok (.iload_n 1, 1) := zby_g zbyb_331 (i := 7) rfl rfl
theorem dX11_reaches_14 : decode cX11_reaches 14 = .ok (.invokevirtual 256, 3) := zby_g zbyb_331 (i := 8) rfl rfl
theorem dX11_reaches_17 : decode cX11_reaches 17 = .ok (.ireturn, 1) := zby_g zbyb_331 (i := 9) rfl rfl
noncomputable def zbyl_332 : List (Nat × zbyE) := [(0, zbyo_42), (1, zbyo_180 19), (4, zbyo_182 259), (7, zbyo_172)]
theorem zbyb_332 : zbys zbyl_332 (cX11_doubts.data.toList.drop 0) 0 = true := by decide +kernel
theorem dX11_doubts_0 : decode cX11_doubts 0 = .ok (.aload_n 0, 1) := zby_g zbyb_332 (i := 0) rfl rfl
theorem dX11_doubts_1 : decode cX11_doubts 1 = .ok (.getfield 19, 3) := zby_g zbyb_332 (i := 1) rfl rfl
theorem dX11_doubts_4 : decode cX11_doubts 4 = .ok (.invokevirtual 259, 3) := zby_g zbyb_332 (i := 2) rfl rfl
theorem dX11_doubts_7 : decode cX11_doubts 7 = .ok (.ireturn, 1) := zby_g zbyb_332 (i := 3) rfl rfl
noncomputable def zbyl_333 : List (Nat × zbyE) := [(0, zbyo_42), (1, zbyo_180 65), (4, zbyo_182 262), (7, zbyo_172)]
theorem zbyb_333 : zbys zbyl_333 (cX11_ruin.data.toList.drop 0) 0 = true := by decide +kernel
theorem dX11_ruin_0 : decode cX11_ruin 0 = .ok (.aload_n 0, 1) := zby_g zbyb_333 (i := 0) rfl rfl
theorem dX11_ruin_1 : decode cX11_ruin 1 = .ok (.getfield 65, 3) := zby_g zbyb_333 (i := 1) rfl rfl
theorem dX11_ruin_4 : decode cX11_ruin 4 = .ok (.invokevirtual 262, 3) := zby_g zbyb_333 (i := 2) rfl rfl
theorem dX11_ruin_7 : decode cX11_ruin 7 = .ok (.ireturn, 1) := zby_g zbyb_333 (i := 3) rfl rfl
noncomputable def zbyl_334 : List (Nat × zbyE) := [(0, zbyo_42), (1, zbyo_27), (2, zbyo_3), (3, zbyo_16 100), (5, zbyo_182 214), (8, zbyo_42), (9, zbyo_180 65), (12, zbyo_27), (13, zbyo_28), (14, zbyo_182 265), (17, zbyo_172)]
theorem zbyb_334 : zbys zbyl_334 (cX11_dearest.data.toList.drop 0) 0 = true := by decide +kernel
theorem dX11_dearest_0 : decode cX11_dearest 0 = .ok (.aload_n 0, 1) := zby_g zbyb_334 (i := 0) rfl rfl
theorem dX11_dearest_1 : decode cX11_dearest 1 = .ok (.iload_n 1, 1) := zby_g zbyb_334 (i := 1) rfl rfl
theorem dX11_dearest_2 : decode cX11_dearest 2 = .ok (.iconst 0, 1) := zby_g zbyb_334 (i := 2) rfl rfl
theorem dX11_dearest_3 : decode cX11_dearest 3 = .ok (.bipush 100, 2) := zby_g zbyb_334 (i := 3) rfl rfl
theorem dX11_dearest_5 : decode cX11_dearest 5 = .ok (.invokevirtual 214, 3) := zby_g zbyb_334 (i := 4) rfl rfl
theorem dX11_dearest_8 : decode cX11_dearest 8 = .ok (.aload_n 0, 1) := zby_g zbyb_334 (i := 5) rfl rfl
theorem dX11_dearest_9 : decode cX11_dearest 9 = .ok (.getfield 65, 3) := zby_g zbyb_334 (i := 6) rfl rfl
theorem dX11_dearest_12 : decode cX11_dearest 12 = .ok (.iload_n 1, 1) := zby_g zbyb_334 (i := 7) rfl rfl
theorem dX11_dearest_13 : decode cX11_dearest 13 = .ok (.iload_n 2, 1) := zby_g zbyb_334 (i := 8) rfl rfl
theorem dX11_dearest_14 : decode cX11_dearest 14 = .ok (.invokevirtual 265, 3) := zby_g zbyb_334 (i := 9) rfl rfl
theorem dX11_dearest_17 : decode cX11_dearest 17 = .ok (.ireturn, 1) := zby_g zbyb_334 (i := 10) rfl rfl
noncomputable def zbyl_335 : List (Nat × zbyE) := [(0, zbyo_42), (1, zbyo_27), (2, zbyo_3), (3, zbyo_16 100), (5, zbyo_182 214), (8, zbyo_42), (9, zbyo_180 65), (12, zbyo_3), (13, zbyo_3), (14, zbyo_27), (15, zbyo_182 243), (18, zbyo_87), (19, zbyo_42), (20, zbyo_180 65), (23, zbyo_180 247), (26, zbyo_5)]
theorem zbyb_335 : zbys zbyl_335 (cX11_falls.data.toList.drop 0) 0 = true := by decide +kernel
theorem dX11_falls_0 : decode cX11_falls 0 = .ok (.aload_n 0, 1) := zby_g zbyb_335 (i := 0) rfl rfl
theorem dX11_falls_1 : decode cX11_falls 1 = .ok (.iload_n 1, 1) := zby_g zbyb_335 (i := 1) rfl rfl
theorem dX11_falls_2 : decode cX11_falls 2 = .ok (.iconst 0, 1) := zby_g zbyb_335 (i := 2) rfl rfl
theorem dX11_falls_3 : decode cX11_falls 3 = .ok (.bipush 100, 2) := zby_g zbyb_335 (i := 3) rfl rfl
theorem dX11_falls_5 : decode cX11_falls 5 = .ok (.invokevirtual 214, 3) := zby_g zbyb_335 (i := 4) rfl rfl
theorem dX11_falls_8 : decode cX11_falls 8 = .ok (.aload_n 0, 1) := zby_g zbyb_335 (i := 5) rfl rfl
theorem dX11_falls_9 : decode cX11_falls 9 = .ok (.getfield 65, 3) := zby_g zbyb_335 (i := 6) rfl rfl
theorem dX11_falls_12 : decode cX11_falls 12 = .ok (.iconst 0, 1) := zby_g zbyb_335 (i := 7) rfl rfl
theorem dX11_falls_13 : decode cX11_falls 13 = .ok (.iconst 0, 1) := zby_g zbyb_335 (i := 8) rfl rfl
theorem dX11_falls_14 : decode cX11_falls 14 = .ok (.iload_n 1, 1) := zby_g zbyb_335 (i := 9) rfl rfl
theorem dX11_falls_15 : decode cX11_falls 15 = .ok (.invokevirtual 243, 3) := zby_g zbyb_335 (i := 10) rfl rfl
theorem dX11_falls_18 : decode cX11_falls 18 = .ok (.pop, 1) := zby_g zbyb_335 (i := 11) rfl rfl
theorem dX11_falls_19 : decode cX11_falls 19 = .ok (.aload_n 0, 1) := zby_g zbyb_335 (i := 12) rfl rfl
theorem dX11_falls_20 : decode cX11_falls 20 = .ok (.getfield 65, 3) := zby_g zbyb_335 (i := 13) rfl rfl
theorem dX11_falls_23 : decode cX11_falls 23 = .ok (.getfield 247, 3) := zby_g zbyb_335 (i := 14) rfl rfl
theorem dX11_falls_26 : decode cX11_falls 26 = .ok (.iconst 2, 1) := zby_g zbyb_335 (i := 15) rfl rfl
noncomputable def zbyl_336 : List (Nat × zbyE) := [(27, zbyo_182 269), (30, zbyo_42), (31, zbyo_180 19), (34, zbyo_5), (35, zbyo_182 269), (38, zbyo_2), (39, zbyo_130), (40, zbyo_126), (41, zbyo_172)]
theorem zbyb_336 : zbys zbyl_336 (cX11_falls.data.toList.drop 27) 27 = true := by decide +kernel
theorem dX11_falls_27 : decode cX11_falls 27 = .ok (.invokevirtual 269, 3) := zby_g zbyb_336 (i := 0) rfl rfl
theorem dX11_falls_30 : decode cX11_falls 30 = .ok (.aload_n 0, 1) := zby_g zbyb_336 (i := 1) rfl rfl
theorem dX11_falls_31 : decode cX11_falls 31 = .ok (.getfield 19, 3) := zby_g zbyb_336 (i := 2) rfl rfl
theorem dX11_falls_34 : decode cX11_falls 34 = .ok (.iconst 2, 1) := zby_g zbyb_336 (i := 3) rfl rfl
theorem dX11_falls_35 : decode cX11_falls 35 = .ok (.invokevirtual 269, 3) := zby_g zbyb_336 (i := 4) rfl rfl
theorem dX11_falls_38 : decode cX11_falls 38 = .ok (.iconst (-1), 1) := zby_g zbyb_336 (i := 5) rfl rfl
theorem dX11_falls_39 : decode cX11_falls 39 = .ok (.ixor, 1) := zby_g zbyb_336 (i := 6) rfl rfl
theorem dX11_falls_40 : decode cX11_falls 40 = .ok (.iand, 1) := zby_g zbyb_336 (i := 7) rfl rfl
theorem dX11_falls_41 : decode cX11_falls 41 = .ok (.ireturn, 1) := zby_g zbyb_336 (i := 8) rfl rfl
noncomputable def zbyl_337 : List (Nat × zbyE) := [(0, zbyo_42), (1, zbyo_180 19), (4, zbyo_182 272), (7, zbyo_61), (8, zbyo_27), (9, zbyo_153 14), (12, zbyo_42), (13, zbyo_180 19), (16, zbyo_28), (17, zbyo_182 275), (20, zbyo_167 4), (23, zbyo_28), (24, zbyo_172)]
theorem zbyb_337 : zbys zbyl_337 (cX11_chosen.data.toList.drop 0) 0 = true := by decide +kernel
theorem dX11_chosen_0 : decode cX11_chosen 0 = .ok (.aload_n 0, 1) := zby_g zbyb_337 (i := 0) rfl rfl
theorem dX11_chosen_1 : decode cX11_chosen 1 = .ok (.getfield 19, 3) := zby_g zbyb_337 (i := 1) rfl rfl
theorem dX11_chosen_4 : decode cX11_chosen 4 = .ok (.invokevirtual 272, 3) := zby_g zbyb_337 (i := 2) rfl rfl
theorem dX11_chosen_7 : decode cX11_chosen 7 = .ok (.istore_n 2, 1) := zby_g zbyb_337 (i := 3) rfl rfl
theorem dX11_chosen_8 : decode cX11_chosen 8 = .ok (.iload_n 1, 1) := zby_g zbyb_337 (i := 4) rfl rfl
theorem dX11_chosen_9 : decode cX11_chosen 9 = .ok (.ifCond .eq 14, 3) := zby_g zbyb_337 (i := 5) rfl rfl
theorem dX11_chosen_12 : decode cX11_chosen 12 = .ok (.aload_n 0, 1) := zby_g zbyb_337 (i := 6) rfl rfl
theorem dX11_chosen_13 : decode cX11_chosen 13 = .ok (.getfield 19, 3) := zby_g zbyb_337 (i := 7) rfl rfl
theorem dX11_chosen_16 : decode cX11_chosen 16 = .ok (.iload_n 2, 1) := zby_g zbyb_337 (i := 8) rfl rfl
theorem dX11_chosen_17 : decode cX11_chosen 17 = .ok (.invokevirtual 275, 3) := zby_g zbyb_337 (i := 9) rfl rfl
theorem dX11_chosen_20 : decode cX11_chosen 20 = .ok (.goto 4, 3) := zby_g zbyb_337 (i := 10) rfl rfl
theorem dX11_chosen_23 : decode cX11_chosen 23 = .ok (.iload_n 2, 1) := zby_g zbyb_337 (i := 11) rfl rfl
theorem dX11_chosen_24 : decode cX11_chosen 24 = .ok (.ireturn, 1) := zby_g zbyb_337 (i := 12) rfl rfl
noncomputable def zbyl_338 : List (Nat × zbyE) := [(0, zbyo_42), (1, zbyo_180 10), (4, zbyo_182 87), (7, zbyo_61), (8, zbyo_42), (9, zbyo_28), (10, zbyo_27), (11, zbyo_182 278), (14, zbyo_27), (15, zbyo_42), (16, zbyo_180 10), (19, zbyo_28), (20, zbyo_182 281), (23, zbyo_184 284), (26, zbyo_172)]
theorem zbyb_338 : zbys zbyl_338 (cX11_river.data.toList.drop 0) 0 = true := by decide +kernel
theorem dX11_river_0 : decode cX11_river 0 = .ok (.aload_n 0, 1) := zby_g zbyb_338 (i := 0) rfl rfl
theorem dX11_river_1 : decode cX11_river 1 = .ok (.getfield 10, 3) := zby_g zbyb_338 (i := 1) rfl rfl
theorem dX11_river_4 : decode cX11_river 4 = .ok (.invokevirtual 87, 3) := zby_g zbyb_338 (i := 2) rfl rfl
theorem dX11_river_7 : decode cX11_river 7 = .ok (.istore_n 2, 1) := zby_g zbyb_338 (i := 3) rfl rfl
theorem dX11_river_8 : decode cX11_river 8 = .ok (.aload_n 0, 1) := zby_g zbyb_338 (i := 4) rfl rfl
theorem dX11_river_9 : decode cX11_river 9 = .ok (.iload_n 2, 1) := zby_g zbyb_338 (i := 5) rfl rfl
theorem dX11_river_10 : decode cX11_river 10 = .ok (.iload_n 1, 1) := zby_g zbyb_338 (i := 6) rfl rfl
theorem dX11_river_11 : decode cX11_river 11 = .ok (.invokevirtual 278, 3) := zby_g zbyb_338 (i := 7) rfl rfl
theorem dX11_river_14 : decode cX11_river 14 = .ok (.iload_n 1, 1) := zby_g zbyb_338 (i := 8) rfl rfl
theorem dX11_river_15 : decode cX11_river 15 = .ok (.aload_n 0, 1) := zby_g zbyb_338 (i := 9) rfl rfl
theorem dX11_river_16 : decode cX11_river 16 = .ok (.getfield 10, 3) := zby_g zbyb_338 (i := 10) rfl rfl
theorem dX11_river_19 : decode cX11_river 19 = .ok (.iload_n 2, 1) := zby_g zbyb_338 (i := 11) rfl rfl
theorem dX11_river_20 : decode cX11_river 20 = .ok (.invokevirtual 281, 3) := zby_g zbyb_338 (i := 12) rfl rfl
theorem dX11_river_23 : decode cX11_river 23 = .ok (.invokestatic 284, 3) := zby_g zbyb_338 (i := 13) rfl rfl
theorem dX11_river_26 : decode cX11_river 26 = .ok (.ireturn, 1) := zby_g zbyb_338 (i := 14) rfl rfl
noncomputable def zbyl_339 : List (Nat × zbyE) := [(0, zbyo_42), (1, zbyo_180 10), (4, zbyo_182 87), (7, zbyo_61), (8, zbyo_42), (9, zbyo_28), (10, zbyo_27), (11, zbyo_182 278), (14, zbyo_27), (15, zbyo_42), (16, zbyo_180 10), (19, zbyo_28), (20, zbyo_182 281), (23, zbyo_184 287), (26, zbyo_172)]
theorem zbyb_339 : zbys zbyl_339 (cX11_more.data.toList.drop 0) 0 = true := by decide +kernel
theorem dX11_more_0 : decode cX11_more 0 = .ok (.aload_n 0, 1) := zby_g zbyb_339 (i := 0) rfl rfl
theorem dX11_more_1 : decode cX11_more 1 = .ok (.getfield 10, 3) := zby_g zbyb_339 (i := 1) rfl rfl
theorem dX11_more_4 : decode cX11_more 4 = .ok (.invokevirtual 87, 3) := zby_g zbyb_339 (i := 2) rfl rfl
theorem dX11_more_7 : decode cX11_more 7 = .ok (.istore_n 2, 1) := zby_g zbyb_339 (i := 3) rfl rfl
theorem dX11_more_8 : decode cX11_more 8 = .ok (.aload_n 0, 1) := zby_g zbyb_339 (i := 4) rfl rfl
theorem dX11_more_9 : decode cX11_more 9 = .ok (.iload_n 2, 1) := zby_g zbyb_339 (i := 5) rfl rfl
theorem dX11_more_10 : decode cX11_more 10 = .ok (.iload_n 1, 1) := zby_g zbyb_339 (i := 6) rfl rfl
theorem dX11_more_11 : decode cX11_more 11 = .ok (.invokevirtual 278, 3) := zby_g zbyb_339 (i := 7) rfl rfl
theorem dX11_more_14 : decode cX11_more 14 = .ok (.iload_n 1, 1) := zby_g zbyb_339 (i := 8) rfl rfl
theorem dX11_more_15 : decode cX11_more 15 = .ok (.aload_n 0, 1) := zby_g zbyb_339 (i := 9) rfl rfl
theorem dX11_more_16 : decode cX11_more 16 = .ok (.getfield 10, 3) := zby_g zbyb_339 (i := 10) rfl rfl
theorem dX11_more_19 : decode cX11_more 19 = .ok (.iload_n 2, 1) := zby_g zbyb_339 (i := 11) rfl rfl
theorem dX11_more_20 : decode cX11_more 20 = .ok (.invokevirtual 281, 3) := zby_g zbyb_339 (i := 12) rfl rfl
theorem dX11_more_23 : decode cX11_more 23 = .ok (.invokestatic 287, 3) := zby_g zbyb_339 (i := 13) rfl rfl
theorem dX11_more_26 : decode cX11_more 26 = .ok (.ireturn, 1) := zby_g zbyb_339 (i := 14) rfl rfl
noncomputable def zbyl_340 : List (Nat × zbyE) := [(0, zbyo_42), (1, zbyo_180 10), (4, zbyo_182 87), (7, zbyo_61), (8, zbyo_42), (9, zbyo_28), (10, zbyo_182 290), (13, zbyo_42), (14, zbyo_180 72), (17, zbyo_42), (18, zbyo_180 10), (21, zbyo_28), (22, zbyo_42), (23, zbyo_180 19), (26, zbyo_180 293), (29, zbyo_182 296)]
theorem zbyb_340 : zbys zbyl_340 (cX11_liars.data.toList.drop 0) 0 = true := by decide +kernel
theorem dX11_liars_0 : decode cX11_liars 0 = .ok (.aload_n 0, 1) := zby_g zbyb_340 (i := 0) rfl rfl
theorem dX11_liars_1 : decode cX11_liars 1 = .ok (.getfield 10, 3) := zby_g zbyb_340 (i := 1) rfl rfl
theorem dX11_liars_4 : decode cX11_liars 4 = .ok (.invokevirtual 87, 3) := zby_g zbyb_340 (i := 2) rfl rfl
theorem dX11_liars_7 : decode cX11_liars 7 = .ok (.istore_n 2, 1) := zby_g zbyb_340 (i := 3) rfl rfl
theorem dX11_liars_8 : decode cX11_liars 8 = .ok (.aload_n 0, 1) := zby_g zbyb_340 (i := 4) rfl rfl
theorem dX11_liars_9 : decode cX11_liars 9 = .ok (.iload_n 2, 1) := zby_g zbyb_340 (i := 5) rfl rfl
theorem dX11_liars_10 : decode cX11_liars 10 = .ok (.invokevirtual 290, 3) := zby_g zbyb_340 (i := 6) rfl rfl
theorem dX11_liars_13 : decode cX11_liars 13 = .ok (.aload_n 0, 1) := zby_g zbyb_340 (i := 7) rfl rfl
theorem dX11_liars_14 : decode cX11_liars 14 = .ok (.getfield 72, 3) := zby_g zbyb_340 (i := 8) rfl rfl
theorem dX11_liars_17 : decode cX11_liars 17 = .ok (.aload_n 0, 1) := zby_g zbyb_340 (i := 9) rfl rfl
theorem dX11_liars_18 : decode cX11_liars 18 = .ok (.getfield 10, 3) := zby_g zbyb_340 (i := 10) rfl rfl
theorem dX11_liars_21 : decode cX11_liars 21 = .ok (.iload_n 2, 1) := zby_g zbyb_340 (i := 11) rfl rfl
theorem dX11_liars_22 : decode cX11_liars 22 = .ok (.aload_n 0, 1) := zby_g zbyb_340 (i := 12) rfl rfl
theorem dX11_liars_23 : decode cX11_liars 23 = .ok (.getfield 19, 3) := zby_g zbyb_340 (i := 13) rfl rfl
theorem dX11_liars_26 : decode cX11_liars 26 = .ok (.getfield 293, 3) := zby_g zbyb_340 (i := 14) rfl rfl
theorem dX11_liars_29 : decode cX11_liars 29 = .ok (.invokevirtual 296, 3) := zby_g zbyb_340 (i := 15) rfl rfl
noncomputable def zbyl_341 : List (Nat × zbyE) := [(32, zbyo_27), (33, zbyo_153 13), (36, zbyo_42), (37, zbyo_180 72), (40, zbyo_182 300), (43, zbyo_167 10), (46, zbyo_42), (47, zbyo_180 72), (50, zbyo_180 303), (53, zbyo_172)]
theorem zbyb_341 : zbys zbyl_341 (cX11_liars.data.toList.drop 32) 32 = true := by decide +kernel
theorem dX11_liars_32 : decode cX11_liars 32 = .ok (.iload_n 1, 1) := zby_g zbyb_341 (i := 0) rfl rfl
theorem dX11_liars_33 : decode cX11_liars 33 = .ok (.ifCond .eq 13, 3) := zby_g zbyb_341 (i := 1) rfl rfl
theorem dX11_liars_36 : decode cX11_liars 36 = .ok (.aload_n 0, 1) := zby_g zbyb_341 (i := 2) rfl rfl
theorem dX11_liars_37 : decode cX11_liars 37 = .ok (.getfield 72, 3) := zby_g zbyb_341 (i := 3) rfl rfl
theorem dX11_liars_40 : decode cX11_liars 40 = .ok (.invokevirtual 300, 3) := zby_g zbyb_341 (i := 4) rfl rfl
theorem dX11_liars_43 : decode cX11_liars 43 = .ok (.goto 10, 3) := zby_g zbyb_341 (i := 5) rfl rfl
theorem dX11_liars_46 : decode cX11_liars 46 = .ok (.aload_n 0, 1) := zby_g zbyb_341 (i := 6) rfl rfl
theorem dX11_liars_47 : decode cX11_liars 47 = .ok (.getfield 72, 3) := zby_g zbyb_341 (i := 7) rfl rfl
theorem dX11_liars_50 : decode cX11_liars 50 = .ok (.getfield 303, 3) := zby_g zbyb_341 (i := 8) rfl rfl
theorem dX11_liars_53 : decode cX11_liars 53 = .ok (.ireturn, 1) := zby_g zbyb_341 (i := 9) rfl rfl
noncomputable def zbyl_342 : List (Nat × zbyE) := [(0, zbyo_42), (1, zbyo_180 10), (4, zbyo_182 87), (7, zbyo_60), (8, zbyo_42), (9, zbyo_27), (10, zbyo_182 290), (13, zbyo_42), (14, zbyo_180 72), (17, zbyo_42), (18, zbyo_180 10), (21, zbyo_27), (22, zbyo_42), (23, zbyo_180 19), (26, zbyo_180 293), (29, zbyo_182 296)]
theorem zbyb_342 : zbys zbyl_342 (cX11_ask.data.toList.drop 0) 0 = true := by decide +kernel
theorem dX11_ask_0 : decode cX11_ask 0 = .ok (.aload_n 0, 1) := zby_g zbyb_342 (i := 0) rfl rfl
theorem dX11_ask_1 : decode cX11_ask 1 = .ok (.getfield 10, 3) := zby_g zbyb_342 (i := 1) rfl rfl
theorem dX11_ask_4 : decode cX11_ask 4 = .ok (.invokevirtual 87, 3) := zby_g zbyb_342 (i := 2) rfl rfl
theorem dX11_ask_7 : decode cX11_ask 7 = .ok (.istore_n 1, 1) := zby_g zbyb_342 (i := 3) rfl rfl
theorem dX11_ask_8 : decode cX11_ask 8 = .ok (.aload_n 0, 1) := zby_g zbyb_342 (i := 4) rfl rfl
theorem dX11_ask_9 : decode cX11_ask 9 = .ok (.iload_n 1, 1) := zby_g zbyb_342 (i := 5) rfl rfl
theorem dX11_ask_10 : decode cX11_ask 10 = .ok (.invokevirtual 290, 3) := zby_g zbyb_342 (i := 6) rfl rfl
theorem dX11_ask_13 : decode cX11_ask 13 = .ok (.aload_n 0, 1) := zby_g zbyb_342 (i := 7) rfl rfl
theorem dX11_ask_14 : decode cX11_ask 14 = .ok (.getfield 72, 3) := zby_g zbyb_342 (i := 8) rfl rfl
theorem dX11_ask_17 : decode cX11_ask 17 = .ok (.aload_n 0, 1) := zby_g zbyb_342 (i := 9) rfl rfl
theorem dX11_ask_18 : decode cX11_ask 18 = .ok (.getfield 10, 3) := zby_g zbyb_342 (i := 10) rfl rfl
theorem dX11_ask_21 : decode cX11_ask 21 = .ok (.iload_n 1, 1) := zby_g zbyb_342 (i := 11) rfl rfl
theorem dX11_ask_22 : decode cX11_ask 22 = .ok (.aload_n 0, 1) := zby_g zbyb_342 (i := 12) rfl rfl
theorem dX11_ask_23 : decode cX11_ask 23 = .ok (.getfield 19, 3) := zby_g zbyb_342 (i := 13) rfl rfl
theorem dX11_ask_26 : decode cX11_ask 26 = .ok (.getfield 293, 3) := zby_g zbyb_342 (i := 14) rfl rfl
theorem dX11_ask_29 : decode cX11_ask 29 = .ok (.invokevirtual 296, 3) := zby_g zbyb_342 (i := 15) rfl rfl
noncomputable def zbyl_343 : List (Nat × zbyE) := [(32, zbyo_42), (33, zbyo_180 72), (36, zbyo_182 306), (39, zbyo_172)]
theorem zbyb_343 : zbys zbyl_343 (cX11_ask.data.toList.drop 32) 32 = true := by decide +kernel
theorem dX11_ask_32 : decode cX11_ask 32 = .ok (.aload_n 0, 1) := zby_g zbyb_343 (i := 0) rfl rfl
theorem dX11_ask_33 : decode cX11_ask 33 = .ok (.getfield 72, 3) := zby_g zbyb_343 (i := 1) rfl rfl
theorem dX11_ask_36 : decode cX11_ask 36 = .ok (.invokevirtual 306, 3) := zby_g zbyb_343 (i := 2) rfl rfl
theorem dX11_ask_39 : decode cX11_ask 39 = .ok (.ireturn, 1) := zby_g zbyb_343 (i := 3) rfl rfl
noncomputable def zbyl_344 : List (Nat × zbyE) := [(0, zbyo_42), (1, zbyo_27), (2, zbyo_182 138), (5, zbyo_42), (6, zbyo_180 19), (9, zbyo_27), (10, zbyo_184 309), (13, zbyo_172)]
theorem zbyb_344 : zbys zbyl_344 (cX11_word.data.toList.drop 0) 0 = true := by decide +kernel
theorem dX11_word_0 : decode cX11_word 0 = .ok (.aload_n 0, 1) := zby_g zbyb_344 (i := 0) rfl rfl
theorem dX11_word_1 : decode cX11_word 1 = .ok (.iload_n 1, 1) := zby_g zbyb_344 (i := 1) rfl rfl
theorem dX11_word_2 : decode cX11_word 2 = .ok (.invokevirtual 138, 3) := zby_g zbyb_344 (i := 2) rfl rfl
theorem dX11_word_5 : decode cX11_word 5 = .ok (.aload_n 0, 1) := zby_g zbyb_344 (i := 3) rfl rfl
theorem dX11_word_6 : decode cX11_word 6 = .ok (.getfield 19, 3) := zby_g zbyb_344 (i := 4) rfl rfl
theorem dX11_word_9 : decode cX11_word 9 = .ok (.iload_n 1, 1) := zby_g zbyb_344 (i := 5) rfl rfl
theorem dX11_word_10 : decode cX11_word 10 = .ok (.invokestatic 309, 3) := zby_g zbyb_344 (i := 6) rfl rfl
theorem dX11_word_13 : decode cX11_word 13 = .ok (.ireturn, 1) := zby_g zbyb_344 (i := 7) rfl rfl
noncomputable def zbyl_345 : List (Nat × zbyE) := [(0, zbyo_42), (1, zbyo_27), (2, zbyo_28), (3, zbyo_182 176), (6, zbyo_42), (7, zbyo_180 19), (10, zbyo_27), (11, zbyo_28), (12, zbyo_184 315), (15, zbyo_172)]
theorem zbyb_345 : zbys zbyl_345 (cX11_steps.data.toList.drop 0) 0 = true := by decide +kernel
theorem dX11_steps_0 : decode cX11_steps 0 = .ok (.aload_n 0, 1) := zby_g zbyb_345 (i := 0) rfl rfl
theorem dX11_steps_1 : decode cX11_steps 1 = .ok (.iload_n 1, 1) := zby_g zbyb_345 (i := 1) rfl rfl
theorem dX11_steps_2 : decode cX11_steps 2 = .ok (.iload_n 2, 1) := zby_g zbyb_345 (i := 2) rfl rfl
theorem dX11_steps_3 : decode cX11_steps 3 = .ok (.invokevirtual 176, 3) := zby_g zbyb_345 (i := 3) rfl rfl
theorem dX11_steps_6 : decode cX11_steps 6 = .ok (.aload_n 0, 1) := zby_g zbyb_345 (i := 4) rfl rfl
theorem dX11_steps_7 : decode cX11_steps 7 = .ok (.getfield 19, 3) := zby_g zbyb_345 (i := 5) rfl rfl
theorem dX11_steps_10 : decode cX11_steps 10 = .ok (.iload_n 1, 1) := zby_g zbyb_345 (i := 6) rfl rfl
theorem dX11_steps_11 : decode cX11_steps 11 = .ok (.iload_n 2, 1) := zby_g zbyb_345 (i := 7) rfl rfl
theorem dX11_steps_12 : decode cX11_steps 12 = .ok (.invokestatic 315, 3) := zby_g zbyb_345 (i := 8) rfl rfl
theorem dX11_steps_15 : decode cX11_steps 15 = .ok (.ireturn, 1) := zby_g zbyb_345 (i := 9) rfl rfl
noncomputable def zbyl_346 : List (Nat × zbyE) := [(0, zbyo_42), (1, zbyo_180 19), (4, zbyo_184 319), (7, zbyo_172)]
theorem zbyb_346 : zbys zbyl_346 (cX11_circles.data.toList.drop 0) 0 = true := by decide +kernel
theorem dX11_circles_0 : decode cX11_circles 0 = .ok (.aload_n 0, 1) := zby_g zbyb_346 (i := 0) rfl rfl
theorem dX11_circles_1 : decode cX11_circles 1 = .ok (.getfield 19, 3) := zby_g zbyb_346 (i := 1) rfl rfl
theorem dX11_circles_4 : decode cX11_circles 4 = .ok (.invokestatic 319, 3) := zby_g zbyb_346 (i := 2) rfl rfl
theorem dX11_circles_7 : decode cX11_circles 7 = .ok (.ireturn, 1) := zby_g zbyb_346 (i := 3) rfl rfl
noncomputable def zbyl_347 : List (Nat × zbyE) := [(0, zbyo_42), (1, zbyo_180 19), (4, zbyo_184 323), (7, zbyo_172)]
theorem zbyb_347 : zbys zbyl_347 (cX11_hermits.data.toList.drop 0) 0 = true := by decide +kernel
theorem dX11_hermits_0 : decode cX11_hermits 0 = .ok (.aload_n 0, 1) := zby_g zbyb_347 (i := 0) rfl rfl
theorem dX11_hermits_1 : decode cX11_hermits 1 = .ok (.getfield 19, 3) := zby_g zbyb_347 (i := 1) rfl rfl
theorem dX11_hermits_4 : decode cX11_hermits 4 = .ok (.invokestatic 323, 3) := zby_g zbyb_347 (i := 2) rfl rfl
theorem dX11_hermits_7 : decode cX11_hermits 7 = .ok (.ireturn, 1) := zby_g zbyb_347 (i := 3) rfl rfl
noncomputable def zbyl_348 : List (Nat × zbyE) := [(0, zbyo_42), (1, zbyo_27), (2, zbyo_28), (3, zbyo_182 176), (6, zbyo_42), (7, zbyo_180 19), (10, zbyo_27), (11, zbyo_28), (12, zbyo_182 180), (15, zbyo_184 326), (18, zbyo_172)]
theorem zbyb_348 : zbys zbyl_348 (cX11_rests.data.toList.drop 0) 0 = true := by decide +kernel
theorem dX11_rests_0 : decode cX11_rests 0 = .ok (.aload_n 0, 1) := zby_g zbyb_348 (i := 0) rfl rfl
theorem dX11_rests_1 : decode cX11_rests 1 = .ok (.iload_n 1, 1) := zby_g zbyb_348 (i := 1) rfl rfl
theorem dX11_rests_2 : decode cX11_rests 2 = .ok (.iload_n 2, 1) := zby_g zbyb_348 (i := 2) rfl rfl
theorem dX11_rests_3 : decode cX11_rests 3 = .ok (.invokevirtual 176, 3) := zby_g zbyb_348 (i := 3) rfl rfl
theorem dX11_rests_6 : decode cX11_rests 6 = .ok (.aload_n 0, 1) := zby_g zbyb_348 (i := 4) rfl rfl
theorem dX11_rests_7 : decode cX11_rests 7 = .ok (.getfield 19, 3) := zby_g zbyb_348 (i := 5) rfl rfl
theorem dX11_rests_10 : decode cX11_rests 10 = .ok (.iload_n 1, 1) := zby_g zbyb_348 (i := 6) rfl rfl
theorem dX11_rests_11 : decode cX11_rests 11 = .ok (.iload_n 2, 1) := zby_g zbyb_348 (i := 7) rfl rfl
theorem dX11_rests_12 : decode cX11_rests 12 = .ok (.invokevirtual 180, 3) := zby_g zbyb_348 (i := 8) rfl rfl
theorem dX11_rests_15 : decode cX11_rests 15 = .ok (.invokestatic 326, 3) := zby_g zbyb_348 (i := 9) rfl rfl
theorem dX11_rests_18 : decode cX11_rests 18 = .ok (.ireturn, 1) := zby_g zbyb_348 (i := 10) rfl rfl
noncomputable def zbyl_349 : List (Nat × zbyE) := [(0, zbyo_2), (1, zbyo_60), (2, zbyo_3), (3, zbyo_61), (4, zbyo_28), (5, zbyo_42), (6, zbyo_180 19), (9, zbyo_180 293), (12, zbyo_162 35), (15, zbyo_27), (16, zbyo_2), (17, zbyo_159 22), (20, zbyo_42), (21, zbyo_180 19), (24, zbyo_28), (25, zbyo_182 165)]
theorem zbyb_349 : zbys zbyl_349 (cX11_richest.data.toList.drop 0) 0 = true := by decide +kernel
theorem dX11_richest_0 : decode cX11_richest 0 = .ok (.iconst (-1), 1) := zby_g zbyb_349 (i := 0) rfl rfl
theorem dX11_richest_1 : decode cX11_richest 1 = .ok (.istore_n 1, 1) := zby_g zbyb_349 (i := 1) rfl rfl
theorem dX11_richest_2 : decode cX11_richest 2 = .ok (.iconst 0, 1) := zby_g zbyb_349 (i := 2) rfl rfl
theorem dX11_richest_3 : decode cX11_richest 3 = .ok (.istore_n 2, 1) := zby_g zbyb_349 (i := 3) rfl rfl
theorem dX11_richest_4 : decode cX11_richest 4 = .ok (.iload_n 2, 1) := zby_g zbyb_349 (i := 4) rfl rfl
theorem dX11_richest_5 : decode cX11_richest 5 = .ok (.aload_n 0, 1) := zby_g zbyb_349 (i := 5) rfl rfl
theorem dX11_richest_6 : decode cX11_richest 6 = .ok (.getfield 19, 3) := zby_g zbyb_349 (i := 6) rfl rfl
theorem dX11_richest_9 : decode cX11_richest 9 = .ok (.getfield 293, 3) := zby_g zbyb_349 (i := 7) rfl rfl
theorem dX11_richest_12 : decode cX11_richest 12 = .ok (.if_icmp .ge 35, 3) := zby_g zbyb_349 (i := 8) rfl rfl
theorem dX11_richest_15 : decode cX11_richest 15 = .ok (.iload_n 1, 1) := zby_g zbyb_349 (i := 9) rfl rfl
theorem dX11_richest_16 : decode cX11_richest 16 = .ok (.iconst (-1), 1) := zby_g zbyb_349 (i := 10) rfl rfl
theorem dX11_richest_17 : decode cX11_richest 17 = .ok (.if_icmp .eq 22, 3) := zby_g zbyb_349 (i := 11) rfl rfl
theorem dX11_richest_20 : decode cX11_richest 20 = .ok (.aload_n 0, 1) := zby_g zbyb_349 (i := 12) rfl rfl
theorem dX11_richest_21 : decode cX11_richest 21 = .ok (.getfield 19, 3) := zby_g zbyb_349 (i := 13) rfl rfl
theorem dX11_richest_24 : decode cX11_richest 24 = .ok (.iload_n 2, 1) := zby_g zbyb_349 (i := 14) rfl rfl
theorem dX11_richest_25 : decode cX11_richest 25 = .ok (.invokevirtual 165, 3) := zby_g zbyb_349 (i := 15) rfl rfl
noncomputable def zbyl_350 : List (Nat × zbyE) := [(28, zbyo_42), (29, zbyo_180 19), (32, zbyo_27), (33, zbyo_182 165), (36, zbyo_164 5), (39, zbyo_28), (40, zbyo_60), (41, zbyo_132 2 1), (44, zbyo_167 (-40)), (47, zbyo_27), (48, zbyo_172)]
theorem zbyb_350 : zbys zbyl_350 (cX11_richest.data.toList.drop 28) 28 = true := by decide +kernel
theorem dX11_richest_28 : decode cX11_richest 28 = .ok (.aload_n 0, 1) := zby_g zbyb_350 (i := 0) rfl rfl
theorem dX11_richest_29 : decode cX11_richest 29 = .ok (.getfield 19, 3) := zby_g zbyb_350 (i := 1) rfl rfl
theorem dX11_richest_32 : decode cX11_richest 32 = .ok (.iload_n 1, 1) := zby_g zbyb_350 (i := 2) rfl rfl
theorem dX11_richest_33 : decode cX11_richest 33 = .ok (.invokevirtual 165, 3) := zby_g zbyb_350 (i := 3) rfl rfl
theorem dX11_richest_36 : decode cX11_richest 36 = .ok (.if_icmp .le 5, 3) := zby_g zbyb_350 (i := 4) rfl rfl
theorem dX11_richest_39 : decode cX11_richest 39 = .ok (.iload_n 2, 1) := zby_g zbyb_350 (i := 5) rfl rfl
theorem dX11_richest_40 : decode cX11_richest 40 = .ok (.istore_n 1, 1) := zby_g zbyb_350 (i := 6) rfl rfl
theorem dX11_richest_41 : decode cX11_richest 41 = .ok (.iinc 2 1, 3) := zby_g zbyb_350 (i := 7) rfl rfl
theorem dX11_richest_44 : decode cX11_richest 44 = .ok (.goto (-40), 3) := zby_g zbyb_350 (i := 8) rfl rfl
theorem dX11_richest_47 : decode cX11_richest 47 = .ok (.iload_n 1, 1) := zby_g zbyb_350 (i := 9) rfl rfl
theorem dX11_richest_48 : decode cX11_richest 48 = .ok (.ireturn, 1) := zby_g zbyb_350 (i := 10) rfl rfl
noncomputable def zbyl_351 : List (Nat × zbyE) := [(0, zbyo_2), (1, zbyo_60), (2, zbyo_3), (3, zbyo_61), (4, zbyo_28), (5, zbyo_42), (6, zbyo_180 19), (9, zbyo_180 293), (12, zbyo_162 48), (15, zbyo_42), (16, zbyo_180 19), (19, zbyo_28), (20, zbyo_182 329), (23, zbyo_153 31), (26, zbyo_27), (27, zbyo_2)]
theorem zbyb_351 : zbys zbyl_351 (cX11_firmest.data.toList.drop 0) 0 = true := by decide +kernel
theorem dX11_firmest_0 : decode cX11_firmest 0 = .ok (.iconst (-1), 1) := zby_g zbyb_351 (i := 0) rfl rfl
theorem dX11_firmest_1 : decode cX11_firmest 1 = .ok (.istore_n 1, 1) := zby_g zbyb_351 (i := 1) rfl rfl
theorem dX11_firmest_2 : decode cX11_firmest 2 = .ok (.iconst 0, 1) := zby_g zbyb_351 (i := 2) rfl rfl
theorem dX11_firmest_3 : decode cX11_firmest 3 = .ok (.istore_n 2, 1) := zby_g zbyb_351 (i := 3) rfl rfl
theorem dX11_firmest_4 : decode cX11_firmest 4 = .ok (.iload_n 2, 1) := zby_g zbyb_351 (i := 4) rfl rfl
theorem dX11_firmest_5 : decode cX11_firmest 5 = .ok (.aload_n 0, 1) := zby_g zbyb_351 (i := 5) rfl rfl
theorem dX11_firmest_6 : decode cX11_firmest 6 = .ok (.getfield 19, 3) := zby_g zbyb_351 (i := 6) rfl rfl
theorem dX11_firmest_9 : decode cX11_firmest 9 = .ok (.getfield 293, 3) := zby_g zbyb_351 (i := 7) rfl rfl
theorem dX11_firmest_12 : decode cX11_firmest 12 = .ok (.if_icmp .ge 48, 3) := zby_g zbyb_351 (i := 8) rfl rfl
theorem dX11_firmest_15 : decode cX11_firmest 15 = .ok (.aload_n 0, 1) := zby_g zbyb_351 (i := 9) rfl rfl
theorem dX11_firmest_16 : decode cX11_firmest 16 = .ok (.getfield 19, 3) := zby_g zbyb_351 (i := 10) rfl rfl
theorem dX11_firmest_19 : decode cX11_firmest 19 = .ok (.iload_n 2, 1) := zby_g zbyb_351 (i := 11) rfl rfl
theorem dX11_firmest_20 : decode cX11_firmest 20 = .ok (.invokevirtual 329, 3) := zby_g zbyb_351 (i := 12) rfl rfl
theorem dX11_firmest_23 : decode cX11_firmest 23 = .ok (.ifCond .eq 31, 3) := zby_g zbyb_351 (i := 13) rfl rfl
theorem dX11_firmest_26 : decode cX11_firmest 26 = .ok (.iload_n 1, 1) := zby_g zbyb_351 (i := 14) rfl rfl
theorem dX11_firmest_27 : decode cX11_firmest 27 = .ok (.iconst (-1), 1) := zby_g zbyb_351 (i := 15) rfl rfl
noncomputable def zbyl_352 : List (Nat × zbyE) := [(28, zbyo_159 24), (31, zbyo_42), (32, zbyo_180 19), (35, zbyo_180 141), (38, zbyo_28), (39, zbyo_46), (40, zbyo_42), (41, zbyo_180 19), (44, zbyo_180 141), (47, zbyo_27), (48, zbyo_46), (49, zbyo_164 5), (52, zbyo_28), (53, zbyo_60), (54, zbyo_132 2 1), (57, zbyo_167 (-53))]
theorem zbyb_352 : zbys zbyl_352 (cX11_firmest.data.toList.drop 28) 28 = true := by decide +kernel
theorem dX11_firmest_28 : decode cX11_firmest 28 = .ok (.if_icmp .eq 24, 3) := zby_g zbyb_352 (i := 0) rfl rfl
theorem dX11_firmest_31 : decode cX11_firmest 31 = .ok (.aload_n 0, 1) := zby_g zbyb_352 (i := 1) rfl rfl
theorem dX11_firmest_32 : decode cX11_firmest 32 = .ok (.getfield 19, 3) := zby_g zbyb_352 (i := 2) rfl rfl
theorem dX11_firmest_35 : decode cX11_firmest 35 = .ok (.getfield 141, 3) := zby_g zbyb_352 (i := 3) rfl rfl
theorem dX11_firmest_38 : decode cX11_firmest 38 = .ok (.iload_n 2, 1) := zby_g zbyb_352 (i := 4) rfl rfl
theorem dX11_firmest_39 : decode cX11_firmest 39 = .ok (.iaload, 1) := zby_g zbyb_352 (i := 5) rfl rfl
theorem dX11_firmest_40 : decode cX11_firmest 40 = .ok (.aload_n 0, 1) := zby_g zbyb_352 (i := 6) rfl rfl
theorem dX11_firmest_41 : decode cX11_firmest 41 = .ok (.getfield 19, 3) := zby_g zbyb_352 (i := 7) rfl rfl
theorem dX11_firmest_44 : decode cX11_firmest 44 = .ok (.getfield 141, 3) := zby_g zbyb_352 (i := 8) rfl rfl
theorem dX11_firmest_47 : decode cX11_firmest 47 = .ok (.iload_n 1, 1) := zby_g zbyb_352 (i := 9) rfl rfl
theorem dX11_firmest_48 : decode cX11_firmest 48 = .ok (.iaload, 1) := zby_g zbyb_352 (i := 10) rfl rfl
theorem dX11_firmest_49 : decode cX11_firmest 49 = .ok (.if_icmp .le 5, 3) := zby_g zbyb_352 (i := 11) rfl rfl
theorem dX11_firmest_52 : decode cX11_firmest 52 = .ok (.iload_n 2, 1) := zby_g zbyb_352 (i := 12) rfl rfl
theorem dX11_firmest_53 : decode cX11_firmest 53 = .ok (.istore_n 1, 1) := zby_g zbyb_352 (i := 13) rfl rfl
theorem dX11_firmest_54 : decode cX11_firmest 54 = .ok (.iinc 2 1, 3) := zby_g zbyb_352 (i := 14) rfl rfl
theorem dX11_firmest_57 : decode cX11_firmest 57 = .ok (.goto (-53), 3) := zby_g zbyb_352 (i := 15) rfl rfl
noncomputable def zbyl_353 : List (Nat × zbyE) := [(60, zbyo_27), (61, zbyo_172)]
theorem zbyb_353 : zbys zbyl_353 (cX11_firmest.data.toList.drop 60) 60 = true := by decide +kernel
theorem dX11_firmest_60 : decode cX11_firmest 60 = .ok (.iload_n 1, 1) := zby_g zbyb_353 (i := 0) rfl rfl
theorem dX11_firmest_61 : decode cX11_firmest 61 = .ok (.ireturn, 1) := zby_g zbyb_353 (i := 1) rfl rfl
noncomputable def zbyl_354 : List (Nat × zbyE) := [(0, zbyo_42), (1, zbyo_27), (2, zbyo_182 184), (5, zbyo_42), (6, zbyo_180 65), (9, zbyo_27), (10, zbyo_182 333), (13, zbyo_172)]
theorem zbyb_354 : zbys zbyl_354 (cX11_last.data.toList.drop 0) 0 = true := by decide +kernel
theorem dX11_last_0 : decode cX11_last 0 = .ok (.aload_n 0, 1) := zby_g zbyb_354 (i := 0) rfl rfl
theorem dX11_last_1 : decode cX11_last 1 = .ok (.iload_n 1, 1) := zby_g zbyb_354 (i := 1) rfl rfl
theorem dX11_last_2 : decode cX11_last 2 = .ok (.invokevirtual 184, 3) := zby_g zbyb_354 (i := 2) rfl rfl
theorem dX11_last_5 : decode cX11_last 5 = .ok (.aload_n 0, 1) := zby_g zbyb_354 (i := 3) rfl rfl
theorem dX11_last_6 : decode cX11_last 6 = .ok (.getfield 65, 3) := zby_g zbyb_354 (i := 4) rfl rfl
theorem dX11_last_9 : decode cX11_last 9 = .ok (.iload_n 1, 1) := zby_g zbyb_354 (i := 5) rfl rfl
theorem dX11_last_10 : decode cX11_last 10 = .ok (.invokevirtual 333, 3) := zby_g zbyb_354 (i := 6) rfl rfl
theorem dX11_last_13 : decode cX11_last 13 = .ok (.ireturn, 1) := zby_g zbyb_354 (i := 7) rfl rfl
noncomputable def zbyl_355 : List (Nat × zbyE) := [(0, zbyo_42), (1, zbyo_180 19), (4, zbyo_182 336), (7, zbyo_172)]
theorem zbyb_355 : zbys zbyl_355 (cX11_home.data.toList.drop 0) 0 = true := by decide +kernel
theorem dX11_home_0 : decode cX11_home 0 = .ok (.aload_n 0, 1) := zby_g zbyb_355 (i := 0) rfl rfl
theorem dX11_home_1 : decode cX11_home 1 = .ok (.getfield 19, 3) := zby_g zbyb_355 (i := 1) rfl rfl
theorem dX11_home_4 : decode cX11_home 4 = .ok (.invokevirtual 336, 3) := zby_g zbyb_355 (i := 2) rfl rfl
theorem dX11_home_7 : decode cX11_home 7 = .ok (.ireturn, 1) := zby_g zbyb_355 (i := 3) rfl rfl
noncomputable def zbyl_356 : List (Nat × zbyE) := [(0, zbyo_42), (1, zbyo_27), (2, zbyo_3), (3, zbyo_16 60), (5, zbyo_182 214), (8, zbyo_42), (9, zbyo_180 65), (12, zbyo_42), (13, zbyo_180 19), (16, zbyo_180 339), (19, zbyo_27), (20, zbyo_182 342), (23, zbyo_62), (24, zbyo_28), (25, zbyo_153 16), (28, zbyo_42)]
theorem zbyb_356 : zbys zbyl_356 (cX11_trial.data.toList.drop 0) 0 = true := by decide +kernel
theorem dX11_trial_0 : decode cX11_trial 0 = .ok (.aload_n 0, 1) := zby_g zbyb_356 (i := 0) rfl rfl
theorem dX11_trial_1 : decode cX11_trial 1 = .ok (.iload_n 1, 1) := zby_g zbyb_356 (i := 1) rfl rfl
theorem dX11_trial_2 : decode cX11_trial 2 = .ok (.iconst 0, 1) := zby_g zbyb_356 (i := 2) rfl rfl
theorem dX11_trial_3 : decode cX11_trial 3 = .ok (.bipush 60, 2) := zby_g zbyb_356 (i := 3) rfl rfl
theorem dX11_trial_5 : decode cX11_trial 5 = .ok (.invokevirtual 214, 3) := zby_g zbyb_356 (i := 4) rfl rfl
theorem dX11_trial_8 : decode cX11_trial 8 = .ok (.aload_n 0, 1) := zby_g zbyb_356 (i := 5) rfl rfl
theorem dX11_trial_9 : decode cX11_trial 9 = .ok (.getfield 65, 3) := zby_g zbyb_356 (i := 6) rfl rfl
theorem dX11_trial_12 : decode cX11_trial 12 = .ok (.aload_n 0, 1) := zby_g zbyb_356 (i := 7) rfl rfl
theorem dX11_trial_13 : decode cX11_trial 13 = .ok (.getfield 19, 3) := zby_g zbyb_356 (i := 8) rfl rfl
theorem dX11_trial_16 : decode cX11_trial 16 = .ok (.getfield 339, 3) := zby_g zbyb_356 (i := 9) rfl rfl
theorem dX11_trial_19 : decode cX11_trial 19 = .ok (.iload_n 1, 1) := zby_g zbyb_356 (i := 10) rfl rfl
theorem dX11_trial_20 : decode cX11_trial 20 = .ok (.invokevirtual 342, 3) := zby_g zbyb_356 (i := 11) rfl rfl
theorem dX11_trial_23 : decode cX11_trial 23 = .ok (.istore_n 3, 1) := zby_g zbyb_356 (i := 12) rfl rfl
theorem dX11_trial_24 : decode cX11_trial 24 = .ok (.iload_n 2, 1) := zby_g zbyb_356 (i := 13) rfl rfl
theorem dX11_trial_25 : decode cX11_trial 25 = .ok (.ifCond .eq 16, 3) := zby_g zbyb_356 (i := 14) rfl rfl
theorem dX11_trial_28 : decode cX11_trial 28 = .ok (.aload_n 0, 1) := zby_g zbyb_356 (i := 15) rfl rfl
noncomputable def zbyl_357 : List (Nat × zbyE) := [(29, zbyo_180 65), (32, zbyo_180 247), (35, zbyo_180 231), (38, zbyo_167 4), (41, zbyo_29), (42, zbyo_172)]
theorem zbyb_357 : zbys zbyl_357 (cX11_trial.data.toList.drop 29) 29 = true := by decide +kernel
theorem dX11_trial_29 : decode cX11_trial 29 = .ok (.getfield 65, 3) := zby_g zbyb_357 (i := 0) rfl rfl
theorem dX11_trial_32 : decode cX11_trial 32 = .ok (.getfield 247, 3) := zby_g zbyb_357 (i := 1) rfl rfl
theorem dX11_trial_35 : decode cX11_trial 35 = .ok (.getfield 231, 3) := zby_g zbyb_357 (i := 2) rfl rfl
theorem dX11_trial_38 : decode cX11_trial 38 = .ok (.goto 4, 3) := zby_g zbyb_357 (i := 3) rfl rfl
theorem dX11_trial_41 : decode cX11_trial 41 = .ok (.iload_n 3, 1) := zby_g zbyb_357 (i := 4) rfl rfl
theorem dX11_trial_42 : decode cX11_trial 42 = .ok (.ireturn, 1) := zby_g zbyb_357 (i := 5) rfl rfl
noncomputable def zbyl_358 : List (Nat × zbyE) := [(0, zbyo_42), (1, zbyo_27), (2, zbyo_3), (3, zbyo_16 60), (5, zbyo_182 214), (8, zbyo_42), (9, zbyo_180 65), (12, zbyo_27), (13, zbyo_28), (14, zbyo_182 345), (17, zbyo_172)]
theorem zbyb_358 : zbys zbyl_358 (cX11_span.data.toList.drop 0) 0 = true := by decide +kernel
theorem dX11_span_0 : decode cX11_span 0 = .ok (.aload_n 0, 1) := zby_g zbyb_358 (i := 0) rfl rfl
theorem dX11_span_1 : decode cX11_span 1 = .ok (.iload_n 1, 1) := zby_g zbyb_358 (i := 1) rfl rfl
theorem dX11_span_2 : decode cX11_span 2 = .ok (.iconst 0, 1) := zby_g zbyb_358 (i := 2) rfl rfl
theorem dX11_span_3 : decode cX11_span 3 = .ok (.bipush 60, 2) := zby_g zbyb_358 (i := 3) rfl rfl
theorem dX11_span_5 : decode cX11_span 5 = .ok (.invokevirtual 214, 3) := zby_g zbyb_358 (i := 4) rfl rfl
theorem dX11_span_8 : decode cX11_span 8 = .ok (.aload_n 0, 1) := zby_g zbyb_358 (i := 5) rfl rfl
theorem dX11_span_9 : decode cX11_span 9 = .ok (.getfield 65, 3) := zby_g zbyb_358 (i := 6) rfl rfl
theorem dX11_span_12 : decode cX11_span 12 = .ok (.iload_n 1, 1) := zby_g zbyb_358 (i := 7) rfl rfl
theorem dX11_span_13 : decode cX11_span 13 = .ok (.iload_n 2, 1) := zby_g zbyb_358 (i := 8) rfl rfl
theorem dX11_span_14 : decode cX11_span 14 = .ok (.invokevirtual 345, 3) := zby_g zbyb_358 (i := 9) rfl rfl
theorem dX11_span_17 : decode cX11_span 17 = .ok (.ireturn, 1) := zby_g zbyb_358 (i := 10) rfl rfl
noncomputable def zbyl_359 : List (Nat × zbyE) := [(0, zbyo_42), (1, zbyo_27), (2, zbyo_182 184), (5, zbyo_28), (6, zbyo_153 14), (9, zbyo_42), (10, zbyo_180 33), (13, zbyo_27), (14, zbyo_182 348), (17, zbyo_167 11), (20, zbyo_42), (21, zbyo_180 33), (24, zbyo_27), (25, zbyo_182 351), (28, zbyo_172)]
theorem zbyb_359 : zbys zbyl_359 (cX11_led.data.toList.drop 0) 0 = true := by decide +kernel
theorem dX11_led_0 : decode cX11_led 0 = .ok (.aload_n 0, 1) := zby_g zbyb_359 (i := 0) rfl rfl
theorem dX11_led_1 : decode cX11_led 1 = .ok (.iload_n 1, 1) := zby_g zbyb_359 (i := 1) rfl rfl
theorem dX11_led_2 : decode cX11_led 2 = .ok (.invokevirtual 184, 3) := zby_g zbyb_359 (i := 2) rfl rfl
theorem dX11_led_5 : decode cX11_led 5 = .ok (.iload_n 2, 1) := zby_g zbyb_359 (i := 3) rfl rfl
theorem dX11_led_6 : decode cX11_led 6 = .ok (.ifCond .eq 14, 3) := zby_g zbyb_359 (i := 4) rfl rfl
theorem dX11_led_9 : decode cX11_led 9 = .ok (.aload_n 0, 1) := zby_g zbyb_359 (i := 5) rfl rfl
theorem dX11_led_10 : decode cX11_led 10 = .ok (.getfield 33, 3) := zby_g zbyb_359 (i := 6) rfl rfl
theorem dX11_led_13 : decode cX11_led 13 = .ok (.iload_n 1, 1) := zby_g zbyb_359 (i := 7) rfl rfl
theorem dX11_led_14 : decode cX11_led 14 = .ok (.invokevirtual 348, 3) := zby_g zbyb_359 (i := 8) rfl rfl
theorem dX11_led_17 : decode cX11_led 17 = .ok (.goto 11, 3) := zby_g zbyb_359 (i := 9) rfl rfl
theorem dX11_led_20 : decode cX11_led 20 = .ok (.aload_n 0, 1) := zby_g zbyb_359 (i := 10) rfl rfl
theorem dX11_led_21 : decode cX11_led 21 = .ok (.getfield 33, 3) := zby_g zbyb_359 (i := 11) rfl rfl
theorem dX11_led_24 : decode cX11_led 24 = .ok (.iload_n 1, 1) := zby_g zbyb_359 (i := 12) rfl rfl
theorem dX11_led_25 : decode cX11_led 25 = .ok (.invokevirtual 351, 3) := zby_g zbyb_359 (i := 13) rfl rfl
theorem dX11_led_28 : decode cX11_led 28 = .ok (.ireturn, 1) := zby_g zbyb_359 (i := 14) rfl rfl
noncomputable def zbyl_360 : List (Nat × zbyE) := [(0, zbyo_28), (1, zbyo_155 8), (4, zbyo_28), (5, zbyo_7), (6, zbyo_161 14), (9, zbyo_187 171), (12, zbyo_89), (13, zbyo_19 354), (16, zbyo_183 175), (19, zbyo_191), (20, zbyo_42), (21, zbyo_180 33), (24, zbyo_27), (25, zbyo_28), (26, zbyo_182 356), (29, zbyo_172)]
theorem zbyb_360 : zbys zbyl_360 (cX11_log.data.toList.drop 0) 0 = true := by decide +kernel
theorem dX11_log_0 : decode cX11_log 0 = .ok (.iload_n 2, 1) := zby_g zbyb_360 (i := 0) rfl rfl
theorem dX11_log_1 : decode cX11_log 1 = .ok (.ifCond .lt 8, 3) := zby_g zbyb_360 (i := 1) rfl rfl
theorem dX11_log_4 : decode cX11_log 4 = .ok (.iload_n 2, 1) := zby_g zbyb_360 (i := 2) rfl rfl
theorem dX11_log_5 : decode cX11_log 5 = .ok (.iconst 4, 1) := zby_g zbyb_360 (i := 3) rfl rfl
theorem dX11_log_6 : decode cX11_log 6 = .ok (.if_icmp .lt 14, 3) := zby_g zbyb_360 (i := 4) rfl rfl
theorem dX11_log_9 : decode cX11_log 9 = .ok (.new 171, 3) := zby_g zbyb_360 (i := 5) rfl rfl
theorem dX11_log_12 : decode cX11_log 12 = .ok (.dup, 1) := zby_g zbyb_360 (i := 6) rfl rfl
theorem dX11_log_13 : decode cX11_log 13 = .ok (.ldc_w 354, 3) := zby_g zbyb_360 (i := 7) rfl rfl
theorem dX11_log_16 : decode cX11_log 16 = .ok (.invokespecial 175, 3) := zby_g zbyb_360 (i := 8) rfl rfl
theorem dX11_log_19 : decode cX11_log 19 = .ok (.athrow, 1) := zby_g zbyb_360 (i := 9) rfl rfl
theorem dX11_log_20 : decode cX11_log 20 = .ok (.aload_n 0, 1) := zby_g zbyb_360 (i := 10) rfl rfl
theorem dX11_log_21 : decode cX11_log 21 = .ok (.getfield 33, 3) := zby_g zbyb_360 (i := 11) rfl rfl
theorem dX11_log_24 : decode cX11_log 24 = .ok (.iload_n 1, 1) := zby_g zbyb_360 (i := 12) rfl rfl
theorem dX11_log_25 : decode cX11_log 25 = .ok (.iload_n 2, 1) := zby_g zbyb_360 (i := 13) rfl rfl
theorem dX11_log_26 : decode cX11_log 26 = .ok (.invokevirtual 356, 3) := zby_g zbyb_360 (i := 14) rfl rfl
theorem dX11_log_29 : decode cX11_log 29 = .ok (.ireturn, 1) := zby_g zbyb_360 (i := 15) rfl rfl
noncomputable def zbyl_361 : List (Nat × zbyE) := [(0, zbyo_42), (1, zbyo_180 19), (4, zbyo_180 339), (7, zbyo_61), (8, zbyo_42), (9, zbyo_180 19), (12, zbyo_27), (13, zbyo_181 339), (16, zbyo_28), (17, zbyo_172)]
theorem zbyb_361 : zbys zbyl_361 (cX11_seed.data.toList.drop 0) 0 = true := by decide +kernel
theorem dX11_seed_0 : decode cX11_seed 0 = .ok (.aload_n 0, 1) := zby_g zbyb_361 (i := 0) rfl rfl
theorem dX11_seed_1 : decode cX11_seed 1 = .ok (.getfield 19, 3) := zby_g zbyb_361 (i := 1) rfl rfl
theorem dX11_seed_4 : decode cX11_seed 4 = .ok (.getfield 339, 3) := zby_g zbyb_361 (i := 2) rfl rfl
theorem dX11_seed_7 : decode cX11_seed 7 = .ok (.istore_n 2, 1) := zby_g zbyb_361 (i := 3) rfl rfl
theorem dX11_seed_8 : decode cX11_seed 8 = .ok (.aload_n 0, 1) := zby_g zbyb_361 (i := 4) rfl rfl
theorem dX11_seed_9 : decode cX11_seed 9 = .ok (.getfield 19, 3) := zby_g zbyb_361 (i := 5) rfl rfl
theorem dX11_seed_12 : decode cX11_seed 12 = .ok (.iload_n 1, 1) := zby_g zbyb_361 (i := 6) rfl rfl
theorem dX11_seed_13 : decode cX11_seed 13 = .ok (.putfield 339, 3) := zby_g zbyb_361 (i := 7) rfl rfl
theorem dX11_seed_16 : decode cX11_seed 16 = .ok (.iload_n 2, 1) := zby_g zbyb_361 (i := 8) rfl rfl
theorem dX11_seed_17 : decode cX11_seed 17 = .ok (.ireturn, 1) := zby_g zbyb_361 (i := 9) rfl rfl
noncomputable def zbyl_362 : List (Nat × zbyE) := [(0, zbyo_42), (1, zbyo_180 56), (4, zbyo_42), (5, zbyo_180 19), (8, zbyo_42), (9, zbyo_180 33), (12, zbyo_182 359), (15, zbyo_172)]
theorem zbyb_362 : zbys zbyl_362 (cX11_undo.data.toList.drop 0) 0 = true := by decide +kernel
theorem dX11_undo_0 : decode cX11_undo 0 = .ok (.aload_n 0, 1) := zby_g zbyb_362 (i := 0) rfl rfl
theorem dX11_undo_1 : decode cX11_undo 1 = .ok (.getfield 56, 3) := zby_g zbyb_362 (i := 1) rfl rfl
theorem dX11_undo_4 : decode cX11_undo 4 = .ok (.aload_n 0, 1) := zby_g zbyb_362 (i := 2) rfl rfl
theorem dX11_undo_5 : decode cX11_undo 5 = .ok (.getfield 19, 3) := zby_g zbyb_362 (i := 3) rfl rfl
theorem dX11_undo_8 : decode cX11_undo 8 = .ok (.aload_n 0, 1) := zby_g zbyb_362 (i := 4) rfl rfl
theorem dX11_undo_9 : decode cX11_undo 9 = .ok (.getfield 33, 3) := zby_g zbyb_362 (i := 5) rfl rfl
theorem dX11_undo_12 : decode cX11_undo 12 = .ok (.invokevirtual 359, 3) := zby_g zbyb_362 (i := 6) rfl rfl
theorem dX11_undo_15 : decode cX11_undo 15 = .ok (.ireturn, 1) := zby_g zbyb_362 (i := 7) rfl rfl
noncomputable def zbyl_363 : List (Nat × zbyE) := [(0, zbyo_42), (1, zbyo_180 56), (4, zbyo_42), (5, zbyo_180 19), (8, zbyo_42), (9, zbyo_180 26), (12, zbyo_42), (13, zbyo_180 33), (16, zbyo_182 363), (19, zbyo_177)]
theorem zbyb_363 : zbys zbyl_363 (cX11_image.data.toList.drop 0) 0 = true := by decide +kernel
theorem dX11_image_0 : decode cX11_image 0 = .ok (.aload_n 0, 1) := zby_g zbyb_363 (i := 0) rfl rfl
theorem dX11_image_1 : decode cX11_image 1 = .ok (.getfield 56, 3) := zby_g zbyb_363 (i := 1) rfl rfl
theorem dX11_image_4 : decode cX11_image 4 = .ok (.aload_n 0, 1) := zby_g zbyb_363 (i := 2) rfl rfl
theorem dX11_image_5 : decode cX11_image 5 = .ok (.getfield 19, 3) := zby_g zbyb_363 (i := 3) rfl rfl
theorem dX11_image_8 : decode cX11_image 8 = .ok (.aload_n 0, 1) := zby_g zbyb_363 (i := 4) rfl rfl
theorem dX11_image_9 : decode cX11_image 9 = .ok (.getfield 26, 3) := zby_g zbyb_363 (i := 5) rfl rfl
theorem dX11_image_12 : decode cX11_image 12 = .ok (.aload_n 0, 1) := zby_g zbyb_363 (i := 6) rfl rfl
theorem dX11_image_13 : decode cX11_image 13 = .ok (.getfield 33, 3) := zby_g zbyb_363 (i := 7) rfl rfl
theorem dX11_image_16 : decode cX11_image 16 = .ok (.invokevirtual 363, 3) := zby_g zbyb_363 (i := 8) rfl rfl
theorem dX11_image_19 : decode cX11_image 19 = .ok (.return_, 1) := zby_g zbyb_363 (i := 9) rfl rfl
noncomputable def zbyl_364 : List (Nat × zbyE) := [(0, zbyo_42), (1, zbyo_180 56), (4, zbyo_42), (5, zbyo_180 19), (8, zbyo_42), (9, zbyo_180 26), (12, zbyo_42), (13, zbyo_180 33), (16, zbyo_182 367), (19, zbyo_172)]
theorem zbyb_364 : zbys zbyl_364 (cX11_back.data.toList.drop 0) 0 = true := by decide +kernel
theorem dX11_back_0 : decode cX11_back 0 = .ok (.aload_n 0, 1) := zby_g zbyb_364 (i := 0) rfl rfl
theorem dX11_back_1 : decode cX11_back 1 = .ok (.getfield 56, 3) := zby_g zbyb_364 (i := 1) rfl rfl
theorem dX11_back_4 : decode cX11_back 4 = .ok (.aload_n 0, 1) := zby_g zbyb_364 (i := 2) rfl rfl
theorem dX11_back_5 : decode cX11_back 5 = .ok (.getfield 19, 3) := zby_g zbyb_364 (i := 3) rfl rfl
theorem dX11_back_8 : decode cX11_back 8 = .ok (.aload_n 0, 1) := zby_g zbyb_364 (i := 4) rfl rfl
theorem dX11_back_9 : decode cX11_back 9 = .ok (.getfield 26, 3) := zby_g zbyb_364 (i := 5) rfl rfl
theorem dX11_back_12 : decode cX11_back 12 = .ok (.aload_n 0, 1) := zby_g zbyb_364 (i := 6) rfl rfl
theorem dX11_back_13 : decode cX11_back 13 = .ok (.getfield 33, 3) := zby_g zbyb_364 (i := 7) rfl rfl
theorem dX11_back_16 : decode cX11_back 16 = .ok (.invokevirtual 367, 3) := zby_g zbyb_364 (i := 8) rfl rfl
theorem dX11_back_19 : decode cX11_back 19 = .ok (.ireturn, 1) := zby_g zbyb_364 (i := 9) rfl rfl
noncomputable def zbyl_365 : List (Nat × zbyE) := [(0, zbyo_27)]
theorem zbyb_365 : zbys zbyl_365 (cX11_count.data.toList.drop 0) 0 = true := by decide +kernel
theorem dX11_count_0 : decode cX11_count 0 = .ok (.iload_n 1, 1) := zby_g zbyb_365 (i := 0) rfl rfl
theorem dX11_count_1 : decode cX11_count 1 = .ok (.tableswitch 173 0 12 #[67, 75, 83, 91, 99, 107, 115, 123, 131, 140, 149, 157, 165], 67) := by decide +kernel
noncomputable def zbyl_366 : List (Nat × zbyE) := [(68, zbyo_42), (69, zbyo_180 19), (72, zbyo_180 293), (75, zbyo_172), (76, zbyo_42), (77, zbyo_180 19), (80, zbyo_180 371), (83, zbyo_172), (84, zbyo_42), (85, zbyo_180 19), (88, zbyo_180 113), (91, zbyo_172), (92, zbyo_42), (93, zbyo_180 26), (96, zbyo_180 132), (99, zbyo_172)]
theorem zbyb_366 : zbys zbyl_366 (cX11_count.data.toList.drop 68) 68 = true := by decide +kernel
theorem dX11_count_68 : decode cX11_count 68 = .ok (.aload_n 0, 1) := zby_g zbyb_366 (i := 0) rfl rfl
theorem dX11_count_69 : decode cX11_count 69 = .ok (.getfield 19, 3) := zby_g zbyb_366 (i := 1) rfl rfl
theorem dX11_count_72 : decode cX11_count 72 = .ok (.getfield 293, 3) := zby_g zbyb_366 (i := 2) rfl rfl
theorem dX11_count_75 : decode cX11_count 75 = .ok (.ireturn, 1) := zby_g zbyb_366 (i := 3) rfl rfl
theorem dX11_count_76 : decode cX11_count 76 = .ok (.aload_n 0, 1) := zby_g zbyb_366 (i := 4) rfl rfl
theorem dX11_count_77 : decode cX11_count 77 = .ok (.getfield 19, 3) := zby_g zbyb_366 (i := 5) rfl rfl
theorem dX11_count_80 : decode cX11_count 80 = .ok (.getfield 371, 3) := zby_g zbyb_366 (i := 6) rfl rfl
theorem dX11_count_83 : decode cX11_count 83 = .ok (.ireturn, 1) := zby_g zbyb_366 (i := 7) rfl rfl
theorem dX11_count_84 : decode cX11_count 84 = .ok (.aload_n 0, 1) := zby_g zbyb_366 (i := 8) rfl rfl
theorem dX11_count_85 : decode cX11_count 85 = .ok (.getfield 19, 3) := zby_g zbyb_366 (i := 9) rfl rfl
theorem dX11_count_88 : decode cX11_count 88 = .ok (.getfield 113, 3) := zby_g zbyb_366 (i := 10) rfl rfl
theorem dX11_count_91 : decode cX11_count 91 = .ok (.ireturn, 1) := zby_g zbyb_366 (i := 11) rfl rfl
theorem dX11_count_92 : decode cX11_count 92 = .ok (.aload_n 0, 1) := zby_g zbyb_366 (i := 12) rfl rfl
theorem dX11_count_93 : decode cX11_count 93 = .ok (.getfield 26, 3) := zby_g zbyb_366 (i := 13) rfl rfl
theorem dX11_count_96 : decode cX11_count 96 = .ok (.getfield 132, 3) := zby_g zbyb_366 (i := 14) rfl rfl
theorem dX11_count_99 : decode cX11_count 99 = .ok (.ireturn, 1) := zby_g zbyb_366 (i := 15) rfl rfl
noncomputable def zbyl_367 : List (Nat × zbyE) := [(100, zbyo_42), (101, zbyo_180 19), (104, zbyo_180 225), (107, zbyo_172), (108, zbyo_42), (109, zbyo_180 19), (112, zbyo_180 231), (115, zbyo_172), (116, zbyo_42), (117, zbyo_180 19), (120, zbyo_182 374), (123, zbyo_172), (124, zbyo_42), (125, zbyo_180 19), (128, zbyo_182 377), (131, zbyo_172)]
theorem zbyb_367 : zbys zbyl_367 (cX11_count.data.toList.drop 100) 100 = true := by decide +kernel
theorem dX11_count_100 : decode cX11_count 100 = .ok (.aload_n 0, 1) := zby_g zbyb_367 (i := 0) rfl rfl
theorem dX11_count_101 : decode cX11_count 101 = .ok (.getfield 19, 3) := zby_g zbyb_367 (i := 1) rfl rfl
theorem dX11_count_104 : decode cX11_count 104 = .ok (.getfield 225, 3) := zby_g zbyb_367 (i := 2) rfl rfl
theorem dX11_count_107 : decode cX11_count 107 = .ok (.ireturn, 1) := zby_g zbyb_367 (i := 3) rfl rfl
theorem dX11_count_108 : decode cX11_count 108 = .ok (.aload_n 0, 1) := zby_g zbyb_367 (i := 4) rfl rfl
theorem dX11_count_109 : decode cX11_count 109 = .ok (.getfield 19, 3) := zby_g zbyb_367 (i := 5) rfl rfl
theorem dX11_count_112 : decode cX11_count 112 = .ok (.getfield 231, 3) := zby_g zbyb_367 (i := 6) rfl rfl
theorem dX11_count_115 : decode cX11_count 115 = .ok (.ireturn, 1) := zby_g zbyb_367 (i := 7) rfl rfl
theorem dX11_count_116 : decode cX11_count 116 = .ok (.aload_n 0, 1) := zby_g zbyb_367 (i := 8) rfl rfl
theorem dX11_count_117 : decode cX11_count 117 = .ok (.getfield 19, 3) := zby_g zbyb_367 (i := 9) rfl rfl
theorem dX11_count_120 : decode cX11_count 120 = .ok (.invokevirtual 374, 3) := zby_g zbyb_367 (i := 10) rfl rfl
theorem dX11_count_123 : decode cX11_count 123 = .ok (.ireturn, 1) := zby_g zbyb_367 (i := 11) rfl rfl
theorem dX11_count_124 : decode cX11_count 124 = .ok (.aload_n 0, 1) := zby_g zbyb_367 (i := 12) rfl rfl
theorem dX11_count_125 : decode cX11_count 125 = .ok (.getfield 19, 3) := zby_g zbyb_367 (i := 13) rfl rfl
theorem dX11_count_128 : decode cX11_count 128 = .ok (.invokevirtual 377, 3) := zby_g zbyb_367 (i := 14) rfl rfl
theorem dX11_count_131 : decode cX11_count 131 = .ok (.ireturn, 1) := zby_g zbyb_367 (i := 15) rfl rfl
noncomputable def zbyl_368 : List (Nat × zbyE) := [(132, zbyo_42), (133, zbyo_180 19), (136, zbyo_4), (137, zbyo_182 269), (140, zbyo_172), (141, zbyo_42), (142, zbyo_180 19), (145, zbyo_5), (146, zbyo_182 269), (149, zbyo_172), (150, zbyo_42), (151, zbyo_180 19), (154, zbyo_182 380), (157, zbyo_172), (158, zbyo_42), (159, zbyo_180 33)]
theorem zbyb_368 : zbys zbyl_368 (cX11_count.data.toList.drop 132) 132 = true := by decide +kernel
theorem dX11_count_132 : decode cX11_count 132 = .ok (.aload_n 0, 1) := zby_g zbyb_368 (i := 0) rfl rfl
theorem dX11_count_133 : decode cX11_count 133 = .ok (.getfield 19, 3) := zby_g zbyb_368 (i := 1) rfl rfl
theorem dX11_count_136 : decode cX11_count 136 = .ok (.iconst 1, 1) := zby_g zbyb_368 (i := 2) rfl rfl
theorem dX11_count_137 : decode cX11_count 137 = .ok (.invokevirtual 269, 3) := zby_g zbyb_368 (i := 3) rfl rfl
theorem dX11_count_140 : decode cX11_count 140 = .ok (.ireturn, 1) := zby_g zbyb_368 (i := 4) rfl rfl
theorem dX11_count_141 : decode cX11_count 141 = .ok (.aload_n 0, 1) := zby_g zbyb_368 (i := 5) rfl rfl
theorem dX11_count_142 : decode cX11_count 142 = .ok (.getfield 19, 3) := zby_g zbyb_368 (i := 6) rfl rfl
theorem dX11_count_145 : decode cX11_count 145 = .ok (.iconst 2, 1) := zby_g zbyb_368 (i := 7) rfl rfl
theorem dX11_count_146 : decode cX11_count 146 = .ok (.invokevirtual 269, 3) := zby_g zbyb_368 (i := 8) rfl rfl
theorem dX11_count_149 : decode cX11_count 149 = .ok (.ireturn, 1) := zby_g zbyb_368 (i := 9) rfl rfl
theorem dX11_count_150 : decode cX11_count 150 = .ok (.aload_n 0, 1) := zby_g zbyb_368 (i := 10) rfl rfl
theorem dX11_count_151 : decode cX11_count 151 = .ok (.getfield 19, 3) := zby_g zbyb_368 (i := 11) rfl rfl
theorem dX11_count_154 : decode cX11_count 154 = .ok (.invokevirtual 380, 3) := zby_g zbyb_368 (i := 12) rfl rfl
theorem dX11_count_157 : decode cX11_count 157 = .ok (.ireturn, 1) := zby_g zbyb_368 (i := 13) rfl rfl
theorem dX11_count_158 : decode cX11_count 158 = .ok (.aload_n 0, 1) := zby_g zbyb_368 (i := 14) rfl rfl
theorem dX11_count_159 : decode cX11_count 159 = .ok (.getfield 33, 3) := zby_g zbyb_368 (i := 15) rfl rfl
noncomputable def zbyl_369 : List (Nat × zbyE) := [(162, zbyo_180 383), (165, zbyo_172), (166, zbyo_42), (167, zbyo_180 56), (170, zbyo_180 384), (173, zbyo_172), (174, zbyo_2), (175, zbyo_172)]
theorem zbyb_369 : zbys zbyl_369 (cX11_count.data.toList.drop 162) 162 = true := by decide +kernel
theorem dX11_count_162 : decode cX11_count 162 = .ok (.getfield 383, 3) := zby_g zbyb_369 (i := 0) rfl rfl
theorem dX11_count_165 : decode cX11_count 165 = .ok (.ireturn, 1) := zby_g zbyb_369 (i := 1) rfl rfl
theorem dX11_count_166 : decode cX11_count 166 = .ok (.aload_n 0, 1) := zby_g zbyb_369 (i := 2) rfl rfl
theorem dX11_count_167 : decode cX11_count 167 = .ok (.getfield 56, 3) := zby_g zbyb_369 (i := 3) rfl rfl
theorem dX11_count_170 : decode cX11_count 170 = .ok (.getfield 384, 3) := zby_g zbyb_369 (i := 4) rfl rfl
theorem dX11_count_173 : decode cX11_count 173 = .ok (.ireturn, 1) := zby_g zbyb_369 (i := 5) rfl rfl
theorem dX11_count_174 : decode cX11_count 174 = .ok (.iconst (-1), 1) := zby_g zbyb_369 (i := 6) rfl rfl
theorem dX11_count_175 : decode cX11_count 175 = .ok (.ireturn, 1) := zby_g zbyb_369 (i := 7) rfl rfl
noncomputable def zbyl_370 : List (Nat × zbyE) := [(0, zbyo_27), (1, zbyo_155 14), (4, zbyo_27), (5, zbyo_42), (6, zbyo_180 19), (9, zbyo_180 293), (12, zbyo_161 14), (15, zbyo_187 387), (18, zbyo_89), (19, zbyo_19 389), (22, zbyo_183 391), (25, zbyo_191), (26, zbyo_177)]
theorem zbyb_370 : zbys zbyl_370 (cX11_needPerson.data.toList.drop 0) 0 = true := by decide +kernel
theorem dX11_needPerson_0 : decode cX11_needPerson 0 = .ok (.iload_n 1, 1) := zby_g zbyb_370 (i := 0) rfl rfl
theorem dX11_needPerson_1 : decode cX11_needPerson 1 = .ok (.ifCond .lt 14, 3) := zby_g zbyb_370 (i := 1) rfl rfl
theorem dX11_needPerson_4 : decode cX11_needPerson 4 = .ok (.iload_n 1, 1) := zby_g zbyb_370 (i := 2) rfl rfl
theorem dX11_needPerson_5 : decode cX11_needPerson 5 = .ok (.aload_n 0, 1) := zby_g zbyb_370 (i := 3) rfl rfl
theorem dX11_needPerson_6 : decode cX11_needPerson 6 = .ok (.getfield 19, 3) := zby_g zbyb_370 (i := 4) rfl rfl
theorem dX11_needPerson_9 : decode cX11_needPerson 9 = .ok (.getfield 293, 3) := zby_g zbyb_370 (i := 5) rfl rfl
theorem dX11_needPerson_12 : decode cX11_needPerson 12 = .ok (.if_icmp .lt 14, 3) := zby_g zbyb_370 (i := 6) rfl rfl
theorem dX11_needPerson_15 : decode cX11_needPerson 15 = .ok (.new 387, 3) := zby_g zbyb_370 (i := 7) rfl rfl
theorem dX11_needPerson_18 : decode cX11_needPerson 18 = .ok (.dup, 1) := zby_g zbyb_370 (i := 8) rfl rfl
theorem dX11_needPerson_19 : decode cX11_needPerson 19 = .ok (.ldc_w 389, 3) := zby_g zbyb_370 (i := 9) rfl rfl
theorem dX11_needPerson_22 : decode cX11_needPerson 22 = .ok (.invokespecial 391, 3) := zby_g zbyb_370 (i := 10) rfl rfl
theorem dX11_needPerson_25 : decode cX11_needPerson 25 = .ok (.athrow, 1) := zby_g zbyb_370 (i := 11) rfl rfl
theorem dX11_needPerson_26 : decode cX11_needPerson 26 = .ok (.return_, 1) := zby_g zbyb_370 (i := 12) rfl rfl
noncomputable def zbyl_371 : List (Nat × zbyE) := [(0, zbyo_42), (1, zbyo_27), (2, zbyo_182 138), (5, zbyo_42), (6, zbyo_28), (7, zbyo_182 138), (10, zbyo_27), (11, zbyo_28), (12, zbyo_160 14), (15, zbyo_187 106), (18, zbyo_89), (19, zbyo_19 392), (22, zbyo_183 110), (25, zbyo_191), (26, zbyo_177)]
theorem zbyb_371 : zbys zbyl_371 (cX11_needTwo.data.toList.drop 0) 0 = true := by decide +kernel
theorem dX11_needTwo_0 : decode cX11_needTwo 0 = .ok (.aload_n 0, 1) := zby_g zbyb_371 (i := 0) rfl rfl
theorem dX11_needTwo_1 : decode cX11_needTwo 1 = .ok (.iload_n 1, 1) := zby_g zbyb_371 (i := 1) rfl rfl
theorem dX11_needTwo_2 : decode cX11_needTwo 2 = .ok (.invokevirtual 138, 3) := zby_g zbyb_371 (i := 2) rfl rfl
theorem dX11_needTwo_5 : decode cX11_needTwo 5 = .ok (.aload_n 0, 1) := zby_g zbyb_371 (i := 3) rfl rfl
theorem dX11_needTwo_6 : decode cX11_needTwo 6 = .ok (.iload_n 2, 1) := zby_g zbyb_371 (i := 4) rfl rfl
theorem dX11_needTwo_7 : decode cX11_needTwo 7 = .ok (.invokevirtual 138, 3) := zby_g zbyb_371 (i := 5) rfl rfl
theorem dX11_needTwo_10 : decode cX11_needTwo 10 = .ok (.iload_n 1, 1) := zby_g zbyb_371 (i := 6) rfl rfl
theorem dX11_needTwo_11 : decode cX11_needTwo 11 = .ok (.iload_n 2, 1) := zby_g zbyb_371 (i := 7) rfl rfl
theorem dX11_needTwo_12 : decode cX11_needTwo 12 = .ok (.if_icmp .ne 14, 3) := zby_g zbyb_371 (i := 8) rfl rfl
theorem dX11_needTwo_15 : decode cX11_needTwo 15 = .ok (.new 106, 3) := zby_g zbyb_371 (i := 9) rfl rfl
theorem dX11_needTwo_18 : decode cX11_needTwo 18 = .ok (.dup, 1) := zby_g zbyb_371 (i := 10) rfl rfl
theorem dX11_needTwo_19 : decode cX11_needTwo 19 = .ok (.ldc_w 392, 3) := zby_g zbyb_371 (i := 11) rfl rfl
theorem dX11_needTwo_22 : decode cX11_needTwo 22 = .ok (.invokespecial 110, 3) := zby_g zbyb_371 (i := 12) rfl rfl
theorem dX11_needTwo_25 : decode cX11_needTwo 25 = .ok (.athrow, 1) := zby_g zbyb_371 (i := 13) rfl rfl
theorem dX11_needTwo_26 : decode cX11_needTwo 26 = .ok (.return_, 1) := zby_g zbyb_371 (i := 14) rfl rfl
noncomputable def zbyl_372 : List (Nat × zbyE) := [(0, zbyo_27), (1, zbyo_155 14), (4, zbyo_27), (5, zbyo_42), (6, zbyo_180 19), (9, zbyo_180 371), (12, zbyo_161 14), (15, zbyo_187 387), (18, zbyo_89), (19, zbyo_19 394), (22, zbyo_183 391), (25, zbyo_191), (26, zbyo_177)]
theorem zbyb_372 : zbys zbyl_372 (cX11_needWork.data.toList.drop 0) 0 = true := by decide +kernel
theorem dX11_needWork_0 : decode cX11_needWork 0 = .ok (.iload_n 1, 1) := zby_g zbyb_372 (i := 0) rfl rfl
theorem dX11_needWork_1 : decode cX11_needWork 1 = .ok (.ifCond .lt 14, 3) := zby_g zbyb_372 (i := 1) rfl rfl
theorem dX11_needWork_4 : decode cX11_needWork 4 = .ok (.iload_n 1, 1) := zby_g zbyb_372 (i := 2) rfl rfl
theorem dX11_needWork_5 : decode cX11_needWork 5 = .ok (.aload_n 0, 1) := zby_g zbyb_372 (i := 3) rfl rfl
theorem dX11_needWork_6 : decode cX11_needWork 6 = .ok (.getfield 19, 3) := zby_g zbyb_372 (i := 4) rfl rfl
theorem dX11_needWork_9 : decode cX11_needWork 9 = .ok (.getfield 371, 3) := zby_g zbyb_372 (i := 5) rfl rfl
theorem dX11_needWork_12 : decode cX11_needWork 12 = .ok (.if_icmp .lt 14, 3) := zby_g zbyb_372 (i := 6) rfl rfl
theorem dX11_needWork_15 : decode cX11_needWork 15 = .ok (.new 387, 3) := zby_g zbyb_372 (i := 7) rfl rfl
theorem dX11_needWork_18 : decode cX11_needWork 18 = .ok (.dup, 1) := zby_g zbyb_372 (i := 8) rfl rfl
theorem dX11_needWork_19 : decode cX11_needWork 19 = .ok (.ldc_w 394, 3) := zby_g zbyb_372 (i := 9) rfl rfl
theorem dX11_needWork_22 : decode cX11_needWork 22 = .ok (.invokespecial 391, 3) := zby_g zbyb_372 (i := 10) rfl rfl
theorem dX11_needWork_25 : decode cX11_needWork 25 = .ok (.athrow, 1) := zby_g zbyb_372 (i := 11) rfl rfl
theorem dX11_needWork_26 : decode cX11_needWork 26 = .ok (.return_, 1) := zby_g zbyb_372 (i := 12) rfl rfl
noncomputable def zbyl_373 : List (Nat × zbyE) := [(0, zbyo_42), (1, zbyo_42), (2, zbyo_180 19), (5, zbyo_27), (6, zbyo_182 329), (9, zbyo_182 221), (12, zbyo_177)]
theorem zbyb_373 : zbys zbyl_373 (cX11_needHere.data.toList.drop 0) 0 = true := by decide +kernel
theorem dX11_needHere_0 : decode cX11_needHere 0 = .ok (.aload_n 0, 1) := zby_g zbyb_373 (i := 0) rfl rfl
theorem dX11_needHere_1 : decode cX11_needHere 1 = .ok (.aload_n 0, 1) := zby_g zbyb_373 (i := 1) rfl rfl
theorem dX11_needHere_2 : decode cX11_needHere 2 = .ok (.getfield 19, 3) := zby_g zbyb_373 (i := 2) rfl rfl
theorem dX11_needHere_5 : decode cX11_needHere 5 = .ok (.iload_n 1, 1) := zby_g zbyb_373 (i := 3) rfl rfl
theorem dX11_needHere_6 : decode cX11_needHere 6 = .ok (.invokevirtual 329, 3) := zby_g zbyb_373 (i := 4) rfl rfl
theorem dX11_needHere_9 : decode cX11_needHere 9 = .ok (.invokevirtual 221, 3) := zby_g zbyb_373 (i := 5) rfl rfl
theorem dX11_needHere_12 : decode cX11_needHere 12 = .ok (.return_, 1) := zby_g zbyb_373 (i := 6) rfl rfl
noncomputable def zbyl_374 : List (Nat × zbyE) := [(0, zbyo_27), (1, zbyo_154 14), (4, zbyo_187 396), (7, zbyo_89), (8, zbyo_19 398), (11, zbyo_183 400), (14, zbyo_191), (15, zbyo_177)]
theorem zbyb_374 : zbys zbyl_374 (cX11_needState.data.toList.drop 0) 0 = true := by decide +kernel
theorem dX11_needState_0 : decode cX11_needState 0 = .ok (.iload_n 1, 1) := zby_g zbyb_374 (i := 0) rfl rfl
theorem dX11_needState_1 : decode cX11_needState 1 = .ok (.ifCond .ne 14, 3) := zby_g zbyb_374 (i := 1) rfl rfl
theorem dX11_needState_4 : decode cX11_needState 4 = .ok (.new 396, 3) := zby_g zbyb_374 (i := 2) rfl rfl
theorem dX11_needState_7 : decode cX11_needState 7 = .ok (.dup, 1) := zby_g zbyb_374 (i := 3) rfl rfl
theorem dX11_needState_8 : decode cX11_needState 8 = .ok (.ldc_w 398, 3) := zby_g zbyb_374 (i := 4) rfl rfl
theorem dX11_needState_11 : decode cX11_needState 11 = .ok (.invokespecial 400, 3) := zby_g zbyb_374 (i := 5) rfl rfl
theorem dX11_needState_14 : decode cX11_needState 14 = .ok (.athrow, 1) := zby_g zbyb_374 (i := 6) rfl rfl
theorem dX11_needState_15 : decode cX11_needState 15 = .ok (.return_, 1) := zby_g zbyb_374 (i := 7) rfl rfl
noncomputable def zbyl_375 : List (Nat × zbyE) := [(0, zbyo_27), (1, zbyo_28), (2, zbyo_161 8), (5, zbyo_27), (6, zbyo_29), (7, zbyo_164 14), (10, zbyo_187 106), (13, zbyo_89), (14, zbyo_19 401), (17, zbyo_183 110), (20, zbyo_191), (21, zbyo_177)]
theorem zbyb_375 : zbys zbyl_375 (cX11_needWithin.data.toList.drop 0) 0 = true := by decide +kernel
theorem dX11_needWithin_0 : decode cX11_needWithin 0 = .ok (.iload_n 1, 1) := zby_g zbyb_375 (i := 0) rfl rfl
theorem dX11_needWithin_1 : decode cX11_needWithin 1 = .ok (.iload_n 2, 1) := zby_g zbyb_375 (i := 1) rfl rfl
theorem dX11_needWithin_2 : decode cX11_needWithin 2 = .ok (.if_icmp .lt 8, 3) := zby_g zbyb_375 (i := 2) rfl rfl
theorem dX11_needWithin_5 : decode cX11_needWithin 5 = .ok (.iload_n 1, 1) := zby_g zbyb_375 (i := 3) rfl rfl
theorem dX11_needWithin_6 : decode cX11_needWithin 6 = .ok (.iload_n 3, 1) := zby_g zbyb_375 (i := 4) rfl rfl
theorem dX11_needWithin_7 : decode cX11_needWithin 7 = .ok (.if_icmp .le 14, 3) := zby_g zbyb_375 (i := 5) rfl rfl
theorem dX11_needWithin_10 : decode cX11_needWithin 10 = .ok (.new 106, 3) := zby_g zbyb_375 (i := 6) rfl rfl
theorem dX11_needWithin_13 : decode cX11_needWithin 13 = .ok (.dup, 1) := zby_g zbyb_375 (i := 7) rfl rfl
theorem dX11_needWithin_14 : decode cX11_needWithin 14 = .ok (.ldc_w 401, 3) := zby_g zbyb_375 (i := 8) rfl rfl
theorem dX11_needWithin_17 : decode cX11_needWithin 17 = .ok (.invokespecial 110, 3) := zby_g zbyb_375 (i := 9) rfl rfl
theorem dX11_needWithin_20 : decode cX11_needWithin 20 = .ok (.athrow, 1) := zby_g zbyb_375 (i := 10) rfl rfl
theorem dX11_needWithin_21 : decode cX11_needWithin 21 = .ok (.return_, 1) := zby_g zbyb_375 (i := 11) rfl rfl
noncomputable def zbyl_376 : List (Nat × zbyE) := [(0, zbyo_42), (1, zbyo_28), (2, zbyo_3), (3, zbyo_16 100), (5, zbyo_182 214), (8, zbyo_42), (9, zbyo_27), (10, zbyo_3), (11, zbyo_16 12), (13, zbyo_182 214), (16, zbyo_42), (17, zbyo_180 10), (20, zbyo_27), (21, zbyo_182 403), (24, zbyo_154 14), (27, zbyo_187 106)]
theorem zbyb_376 : zbys zbyl_376 (cX11_needTales.data.toList.drop 0) 0 = true := by decide +kernel
theorem dX11_needTales_0 : decode cX11_needTales 0 = .ok (.aload_n 0, 1) := zby_g zbyb_376 (i := 0) rfl rfl
theorem dX11_needTales_1 : decode cX11_needTales 1 = .ok (.iload_n 2, 1) := zby_g zbyb_376 (i := 1) rfl rfl
theorem dX11_needTales_2 : decode cX11_needTales 2 = .ok (.iconst 0, 1) := zby_g zbyb_376 (i := 2) rfl rfl
theorem dX11_needTales_3 : decode cX11_needTales 3 = .ok (.bipush 100, 2) := zby_g zbyb_376 (i := 3) rfl rfl
theorem dX11_needTales_5 : decode cX11_needTales 5 = .ok (.invokevirtual 214, 3) := zby_g zbyb_376 (i := 4) rfl rfl
theorem dX11_needTales_8 : decode cX11_needTales 8 = .ok (.aload_n 0, 1) := zby_g zbyb_376 (i := 5) rfl rfl
theorem dX11_needTales_9 : decode cX11_needTales 9 = .ok (.iload_n 1, 1) := zby_g zbyb_376 (i := 6) rfl rfl
theorem dX11_needTales_10 : decode cX11_needTales 10 = .ok (.iconst 0, 1) := zby_g zbyb_376 (i := 7) rfl rfl
theorem dX11_needTales_11 : decode cX11_needTales 11 = .ok (.bipush 12, 2) := zby_g zbyb_376 (i := 8) rfl rfl
theorem dX11_needTales_13 : decode cX11_needTales 13 = .ok (.invokevirtual 214, 3) := zby_g zbyb_376 (i := 9) rfl rfl
theorem dX11_needTales_16 : decode cX11_needTales 16 = .ok (.aload_n 0, 1) := zby_g zbyb_376 (i := 10) rfl rfl
theorem dX11_needTales_17 : decode cX11_needTales 17 = .ok (.getfield 10, 3) := zby_g zbyb_376 (i := 11) rfl rfl
theorem dX11_needTales_20 : decode cX11_needTales 20 = .ok (.iload_n 1, 1) := zby_g zbyb_376 (i := 12) rfl rfl
theorem dX11_needTales_21 : decode cX11_needTales 21 = .ok (.invokevirtual 403, 3) := zby_g zbyb_376 (i := 13) rfl rfl
theorem dX11_needTales_24 : decode cX11_needTales 24 = .ok (.ifCond .ne 14, 3) := zby_g zbyb_376 (i := 14) rfl rfl
theorem dX11_needTales_27 : decode cX11_needTales 27 = .ok (.new 106, 3) := zby_g zbyb_376 (i := 15) rfl rfl
noncomputable def zbyl_377 : List (Nat × zbyE) := [(30, zbyo_89), (31, zbyo_19 406), (34, zbyo_183 110), (37, zbyo_191), (38, zbyo_177)]
theorem zbyb_377 : zbys zbyl_377 (cX11_needTales.data.toList.drop 30) 30 = true := by decide +kernel
theorem dX11_needTales_30 : decode cX11_needTales 30 = .ok (.dup, 1) := zby_g zbyb_377 (i := 0) rfl rfl
theorem dX11_needTales_31 : decode cX11_needTales 31 = .ok (.ldc_w 406, 3) := zby_g zbyb_377 (i := 1) rfl rfl
theorem dX11_needTales_34 : decode cX11_needTales 34 = .ok (.invokespecial 110, 3) := zby_g zbyb_377 (i := 2) rfl rfl
theorem dX11_needTales_37 : decode cX11_needTales 37 = .ok (.athrow, 1) := zby_g zbyb_377 (i := 3) rfl rfl
theorem dX11_needTales_38 : decode cX11_needTales 38 = .ok (.return_, 1) := zby_g zbyb_377 (i := 4) rfl rfl
noncomputable def zbyl_378 : List (Nat × zbyE) := [(0, zbyo_42), (1, zbyo_27), (2, zbyo_3), (3, zbyo_16 36), (5, zbyo_182 214), (8, zbyo_42), (9, zbyo_180 10), (12, zbyo_27), (13, zbyo_42), (14, zbyo_180 19), (17, zbyo_180 293), (20, zbyo_182 408), (23, zbyo_154 14), (26, zbyo_187 106), (29, zbyo_89), (30, zbyo_19 412)]
theorem zbyb_378 : zbys zbyl_378 (cX11_needSaid.data.toList.drop 0) 0 = true := by decide +kernel
theorem dX11_needSaid_0 : decode cX11_needSaid 0 = .ok (.aload_n 0, 1) := zby_g zbyb_378 (i := 0) rfl rfl
theorem dX11_needSaid_1 : decode cX11_needSaid 1 = .ok (.iload_n 1, 1) := zby_g zbyb_378 (i := 1) rfl rfl
theorem dX11_needSaid_2 : decode cX11_needSaid 2 = .ok (.iconst 0, 1) := zby_g zbyb_378 (i := 2) rfl rfl
theorem dX11_needSaid_3 : decode cX11_needSaid 3 = .ok (.bipush 36, 2) := zby_g zbyb_378 (i := 3) rfl rfl
theorem dX11_needSaid_5 : decode cX11_needSaid 5 = .ok (.invokevirtual 214, 3) := zby_g zbyb_378 (i := 4) rfl rfl
theorem dX11_needSaid_8 : decode cX11_needSaid 8 = .ok (.aload_n 0, 1) := zby_g zbyb_378 (i := 5) rfl rfl
theorem dX11_needSaid_9 : decode cX11_needSaid 9 = .ok (.getfield 10, 3) := zby_g zbyb_378 (i := 6) rfl rfl
theorem dX11_needSaid_12 : decode cX11_needSaid 12 = .ok (.iload_n 1, 1) := zby_g zbyb_378 (i := 7) rfl rfl
theorem dX11_needSaid_13 : decode cX11_needSaid 13 = .ok (.aload_n 0, 1) := zby_g zbyb_378 (i := 8) rfl rfl
theorem dX11_needSaid_14 : decode cX11_needSaid 14 = .ok (.getfield 19, 3) := zby_g zbyb_378 (i := 9) rfl rfl
theorem dX11_needSaid_17 : decode cX11_needSaid 17 = .ok (.getfield 293, 3) := zby_g zbyb_378 (i := 10) rfl rfl
theorem dX11_needSaid_20 : decode cX11_needSaid 20 = .ok (.invokevirtual 408, 3) := zby_g zbyb_378 (i := 11) rfl rfl
theorem dX11_needSaid_23 : decode cX11_needSaid 23 = .ok (.ifCond .ne 14, 3) := zby_g zbyb_378 (i := 12) rfl rfl
theorem dX11_needSaid_26 : decode cX11_needSaid 26 = .ok (.new 106, 3) := zby_g zbyb_378 (i := 13) rfl rfl
theorem dX11_needSaid_29 : decode cX11_needSaid 29 = .ok (.dup, 1) := zby_g zbyb_378 (i := 14) rfl rfl
theorem dX11_needSaid_30 : decode cX11_needSaid 30 = .ok (.ldc_w 412, 3) := zby_g zbyb_378 (i := 15) rfl rfl
noncomputable def zbyl_379 : List (Nat × zbyE) := [(33, zbyo_183 110), (36, zbyo_191), (37, zbyo_177)]
theorem zbyb_379 : zbys zbyl_379 (cX11_needSaid.data.toList.drop 33) 33 = true := by decide +kernel
theorem dX11_needSaid_33 : decode cX11_needSaid 33 = .ok (.invokespecial 110, 3) := zby_g zbyb_379 (i := 0) rfl rfl
theorem dX11_needSaid_36 : decode cX11_needSaid 36 = .ok (.athrow, 1) := zby_g zbyb_379 (i := 1) rfl rfl
theorem dX11_needSaid_37 : decode cX11_needSaid 37 = .ok (.return_, 1) := zby_g zbyb_379 (i := 2) rfl rfl
noncomputable def zbyl_380 : List (Nat × zbyE) := [(0, zbyo_42), (1, zbyo_183 1), (4, zbyo_42), (5, zbyo_17 779), (8, zbyo_188_10), (10, zbyo_181 7), (13, zbyo_42), (14, zbyo_17 779), (17, zbyo_188_10), (19, zbyo_181 13), (22, zbyo_42), (23, zbyo_17 379), (26, zbyo_188_10), (28, zbyo_181 16), (31, zbyo_42), (32, zbyo_17 4548)]
theorem zbyb_380 : zbys zbyl_380 (cX12_init.data.toList.drop 0) 0 = true := by decide +kernel
theorem dX12_init_0 : decode cX12_init 0 = .ok (.aload_n 0, 1) := zby_g zbyb_380 (i := 0) rfl rfl
theorem dX12_init_1 : decode cX12_init 1 = .ok (.invokespecial 1, 3) := zby_g zbyb_380 (i := 1) rfl rfl
theorem dX12_init_4 : decode cX12_init 4 = .ok (.aload_n 0, 1) := zby_g zbyb_380 (i := 2) rfl rfl
theorem dX12_init_5 : decode cX12_init 5 = .ok (.sipush 779, 3) := zby_g zbyb_380 (i := 3) rfl rfl
theorem dX12_init_8 : decode cX12_init 8 = .ok (.newarray .int, 2) := zby_g zbyb_380 (i := 4) rfl rfl
theorem dX12_init_10 : decode cX12_init 10 = .ok (.putfield 7, 3) := zby_g zbyb_380 (i := 5) rfl rfl
theorem dX12_init_13 : decode cX12_init 13 = .ok (.aload_n 0, 1) := zby_g zbyb_380 (i := 6) rfl rfl
theorem dX12_init_14 : decode cX12_init 14 = .ok (.sipush 779, 3) := zby_g zbyb_380 (i := 7) rfl rfl
theorem dX12_init_17 : decode cX12_init 17 = .ok (.newarray .int, 2) := zby_g zbyb_380 (i := 8) rfl rfl
theorem dX12_init_19 : decode cX12_init 19 = .ok (.putfield 13, 3) := zby_g zbyb_380 (i := 9) rfl rfl
theorem dX12_init_22 : decode cX12_init 22 = .ok (.aload_n 0, 1) := zby_g zbyb_380 (i := 10) rfl rfl
theorem dX12_init_23 : decode cX12_init 23 = .ok (.sipush 379, 3) := zby_g zbyb_380 (i := 11) rfl rfl
theorem dX12_init_26 : decode cX12_init 26 = .ok (.newarray .int, 2) := zby_g zbyb_380 (i := 12) rfl rfl
theorem dX12_init_28 : decode cX12_init 28 = .ok (.putfield 16, 3) := zby_g zbyb_380 (i := 13) rfl rfl
theorem dX12_init_31 : decode cX12_init 31 = .ok (.aload_n 0, 1) := zby_g zbyb_380 (i := 14) rfl rfl
theorem dX12_init_32 : decode cX12_init 32 = .ok (.sipush 4548, 3) := zby_g zbyb_380 (i := 15) rfl rfl
noncomputable def zbyl_381 : List (Nat × zbyE) := [(35, zbyo_188_10), (37, zbyo_181 19), (40, zbyo_42), (41, zbyo_17 400), (44, zbyo_188_10), (46, zbyo_181 22), (49, zbyo_42), (50, zbyo_2), (51, zbyo_181 25), (54, zbyo_42), (55, zbyo_16 6), (57, zbyo_188_10), (59, zbyo_181 29), (62, zbyo_42), (63, zbyo_16 8), (65, zbyo_188_10)]
theorem zbyb_381 : zbys zbyl_381 (cX12_init.data.toList.drop 35) 35 = true := by decide +kernel
theorem dX12_init_35 : decode cX12_init 35 = .ok (.newarray .int, 2) := zby_g zbyb_381 (i := 0) rfl rfl
theorem dX12_init_37 : decode cX12_init 37 = .ok (.putfield 19, 3) := zby_g zbyb_381 (i := 1) rfl rfl
theorem dX12_init_40 : decode cX12_init 40 = .ok (.aload_n 0, 1) := zby_g zbyb_381 (i := 2) rfl rfl
theorem dX12_init_41 : decode cX12_init 41 = .ok (.sipush 400, 3) := zby_g zbyb_381 (i := 3) rfl rfl
theorem dX12_init_44 : decode cX12_init 44 = .ok (.newarray .int, 2) := zby_g zbyb_381 (i := 4) rfl rfl
theorem dX12_init_46 : decode cX12_init 46 = .ok (.putfield 22, 3) := zby_g zbyb_381 (i := 5) rfl rfl
theorem dX12_init_49 : decode cX12_init 49 = .ok (.aload_n 0, 1) := zby_g zbyb_381 (i := 6) rfl rfl
theorem dX12_init_50 : decode cX12_init 50 = .ok (.iconst (-1), 1) := zby_g zbyb_381 (i := 7) rfl rfl
theorem dX12_init_51 : decode cX12_init 51 = .ok (.putfield 25, 3) := zby_g zbyb_381 (i := 8) rfl rfl
theorem dX12_init_54 : decode cX12_init 54 = .ok (.aload_n 0, 1) := zby_g zbyb_381 (i := 9) rfl rfl
theorem dX12_init_55 : decode cX12_init 55 = .ok (.bipush 6, 2) := zby_g zbyb_381 (i := 10) rfl rfl
theorem dX12_init_57 : decode cX12_init 57 = .ok (.newarray .int, 2) := zby_g zbyb_381 (i := 11) rfl rfl
theorem dX12_init_59 : decode cX12_init 59 = .ok (.putfield 29, 3) := zby_g zbyb_381 (i := 12) rfl rfl
theorem dX12_init_62 : decode cX12_init 62 = .ok (.aload_n 0, 1) := zby_g zbyb_381 (i := 13) rfl rfl
theorem dX12_init_63 : decode cX12_init 63 = .ok (.bipush 8, 2) := zby_g zbyb_381 (i := 14) rfl rfl
theorem dX12_init_65 : decode cX12_init 65 = .ok (.newarray .int, 2) := zby_g zbyb_381 (i := 15) rfl rfl
noncomputable def zbyl_382 : List (Nat × zbyE) := [(67, zbyo_181 32), (70, zbyo_42), (71, zbyo_17 256), (74, zbyo_188_4), (76, zbyo_181 35), (79, zbyo_42), (80, zbyo_180 7), (83, zbyo_4), (84, zbyo_2), (85, zbyo_79), (86, zbyo_42), (87, zbyo_180 7), (90, zbyo_8), (91, zbyo_16 20), (93, zbyo_79), (94, zbyo_42)]
theorem zbyb_382 : zbys zbyl_382 (cX12_init.data.toList.drop 67) 67 = true := by decide +kernel
theorem dX12_init_67 : decode cX12_init 67 = .ok (.putfield 32, 3) := zby_g zbyb_382 (i := 0) rfl rfl
theorem dX12_init_70 : decode cX12_init 70 = .ok (.aload_n 0, 1) := zby_g zbyb_382 (i := 1) rfl rfl
theorem dX12_init_71 : decode cX12_init 71 = .ok (.sipush 256, 3) := zby_g zbyb_382 (i := 2) rfl rfl
theorem dX12_init_74 : decode cX12_init 74 = .ok (.newarray .boolean, 2) := zby_g zbyb_382 (i := 3) rfl rfl
theorem dX12_init_76 : decode cX12_init 76 = .ok (.putfield 35, 3) := zby_g zbyb_382 (i := 4) rfl rfl
theorem dX12_init_79 : decode cX12_init 79 = .ok (.aload_n 0, 1) := zby_g zbyb_382 (i := 5) rfl rfl
theorem dX12_init_80 : decode cX12_init 80 = .ok (.getfield 7, 3) := zby_g zbyb_382 (i := 6) rfl rfl
theorem dX12_init_83 : decode cX12_init 83 = .ok (.iconst 1, 1) := zby_g zbyb_382 (i := 7) rfl rfl
theorem dX12_init_84 : decode cX12_init 84 = .ok (.iconst (-1), 1) := zby_g zbyb_382 (i := 8) rfl rfl
theorem dX12_init_85 : decode cX12_init 85 = .ok (.iastore, 1) := zby_g zbyb_382 (i := 9) rfl rfl
theorem dX12_init_86 : decode cX12_init 86 = .ok (.aload_n 0, 1) := zby_g zbyb_382 (i := 10) rfl rfl
theorem dX12_init_87 : decode cX12_init 87 = .ok (.getfield 7, 3) := zby_g zbyb_382 (i := 11) rfl rfl
theorem dX12_init_90 : decode cX12_init 90 = .ok (.iconst 5, 1) := zby_g zbyb_382 (i := 12) rfl rfl
theorem dX12_init_91 : decode cX12_init 91 = .ok (.bipush 20, 2) := zby_g zbyb_382 (i := 13) rfl rfl
theorem dX12_init_93 : decode cX12_init 93 = .ok (.iastore, 1) := zby_g zbyb_382 (i := 14) rfl rfl
theorem dX12_init_94 : decode cX12_init 94 = .ok (.aload_n 0, 1) := zby_g zbyb_382 (i := 15) rfl rfl
noncomputable def zbyl_383 : List (Nat × zbyE) := [(95, zbyo_180 7), (98, zbyo_16 6), (100, zbyo_16 6), (102, zbyo_79), (103, zbyo_42), (104, zbyo_180 7), (107, zbyo_16 7), (109, zbyo_16 50), (111, zbyo_79), (112, zbyo_42), (113, zbyo_180 7), (116, zbyo_16 10), (118, zbyo_4), (119, zbyo_79), (120, zbyo_177)]
theorem zbyb_383 : zbys zbyl_383 (cX12_init.data.toList.drop 95) 95 = true := by decide +kernel
theorem dX12_init_95 : decode cX12_init 95 = .ok (.getfield 7, 3) := zby_g zbyb_383 (i := 0) rfl rfl
theorem dX12_init_98 : decode cX12_init 98 = .ok (.bipush 6, 2) := zby_g zbyb_383 (i := 1) rfl rfl
theorem dX12_init_100 : decode cX12_init 100 = .ok (.bipush 6, 2) := zby_g zbyb_383 (i := 2) rfl rfl
theorem dX12_init_102 : decode cX12_init 102 = .ok (.iastore, 1) := zby_g zbyb_383 (i := 3) rfl rfl
theorem dX12_init_103 : decode cX12_init 103 = .ok (.aload_n 0, 1) := zby_g zbyb_383 (i := 4) rfl rfl
theorem dX12_init_104 : decode cX12_init 104 = .ok (.getfield 7, 3) := zby_g zbyb_383 (i := 5) rfl rfl
theorem dX12_init_107 : decode cX12_init 107 = .ok (.bipush 7, 2) := zby_g zbyb_383 (i := 6) rfl rfl
theorem dX12_init_109 : decode cX12_init 109 = .ok (.bipush 50, 2) := zby_g zbyb_383 (i := 7) rfl rfl
theorem dX12_init_111 : decode cX12_init 111 = .ok (.iastore, 1) := zby_g zbyb_383 (i := 8) rfl rfl
theorem dX12_init_112 : decode cX12_init 112 = .ok (.aload_n 0, 1) := zby_g zbyb_383 (i := 9) rfl rfl
theorem dX12_init_113 : decode cX12_init 113 = .ok (.getfield 7, 3) := zby_g zbyb_383 (i := 10) rfl rfl
theorem dX12_init_116 : decode cX12_init 116 = .ok (.bipush 10, 2) := zby_g zbyb_383 (i := 11) rfl rfl
theorem dX12_init_118 : decode cX12_init 118 = .ok (.iconst 1, 1) := zby_g zbyb_383 (i := 12) rfl rfl
theorem dX12_init_119 : decode cX12_init 119 = .ok (.iastore, 1) := zby_g zbyb_383 (i := 13) rfl rfl
theorem dX12_init_120 : decode cX12_init 120 = .ok (.return_, 1) := zby_g zbyb_383 (i := 14) rfl rfl
noncomputable def zbyl_384 : List (Nat × zbyE) := [(0, zbyo_42), (1, zbyo_180 39), (4, zbyo_172)]
theorem zbyb_384 : zbys zbyl_384 (cX12_thrown.data.toList.drop 0) 0 = true := by decide +kernel
theorem dX12_thrown_0 : decode cX12_thrown 0 = .ok (.aload_n 0, 1) := zby_g zbyb_384 (i := 0) rfl rfl
theorem dX12_thrown_1 : decode cX12_thrown 1 = .ok (.getfield 39, 3) := zby_g zbyb_384 (i := 1) rfl rfl
theorem dX12_thrown_4 : decode cX12_thrown 4 = .ok (.ireturn, 1) := zby_g zbyb_384 (i := 2) rfl rfl
noncomputable def zbyl_385 : List (Nat × zbyE) := [(0, zbyo_26), (1, zbyo_27), (2, zbyo_161 12), (5, zbyo_26), (6, zbyo_28), (7, zbyo_163 7), (10, zbyo_4), (11, zbyo_167 4), (14, zbyo_3), (15, zbyo_172)]
theorem zbyb_385 : zbys zbyl_385 (cX12_isIn.data.toList.drop 0) 0 = true := by decide +kernel
theorem dX12_isIn_0 : decode cX12_isIn 0 = .ok (.iload_n 0, 1) := zby_g zbyb_385 (i := 0) rfl rfl
theorem dX12_isIn_1 : decode cX12_isIn 1 = .ok (.iload_n 1, 1) := zby_g zbyb_385 (i := 1) rfl rfl
theorem dX12_isIn_2 : decode cX12_isIn 2 = .ok (.if_icmp .lt 12, 3) := zby_g zbyb_385 (i := 2) rfl rfl
theorem dX12_isIn_5 : decode cX12_isIn 5 = .ok (.iload_n 0, 1) := zby_g zbyb_385 (i := 3) rfl rfl
theorem dX12_isIn_6 : decode cX12_isIn 6 = .ok (.iload_n 2, 1) := zby_g zbyb_385 (i := 4) rfl rfl
theorem dX12_isIn_7 : decode cX12_isIn 7 = .ok (.if_icmp .gt 7, 3) := zby_g zbyb_385 (i := 5) rfl rfl
theorem dX12_isIn_10 : decode cX12_isIn 10 = .ok (.iconst 1, 1) := zby_g zbyb_385 (i := 6) rfl rfl
theorem dX12_isIn_11 : decode cX12_isIn 11 = .ok (.goto 4, 3) := zby_g zbyb_385 (i := 7) rfl rfl
theorem dX12_isIn_14 : decode cX12_isIn 14 = .ok (.iconst 0, 1) := zby_g zbyb_385 (i := 8) rfl rfl
theorem dX12_isIn_15 : decode cX12_isIn 15 = .ok (.ireturn, 1) := zby_g zbyb_385 (i := 9) rfl rfl
noncomputable def zbyl_386 : List (Nat × zbyE) := [(0, zbyo_26), (1, zbyo_27), (2, zbyo_162 7), (5, zbyo_26), (6, zbyo_167 4), (9, zbyo_27), (10, zbyo_172)]
theorem zbyb_386 : zbys zbyl_386 (cX12_lesser.data.toList.drop 0) 0 = true := by decide +kernel
theorem dX12_lesser_0 : decode cX12_lesser 0 = .ok (.iload_n 0, 1) := zby_g zbyb_386 (i := 0) rfl rfl
theorem dX12_lesser_1 : decode cX12_lesser 1 = .ok (.iload_n 1, 1) := zby_g zbyb_386 (i := 1) rfl rfl
theorem dX12_lesser_2 : decode cX12_lesser 2 = .ok (.if_icmp .ge 7, 3) := zby_g zbyb_386 (i := 2) rfl rfl
theorem dX12_lesser_5 : decode cX12_lesser 5 = .ok (.iload_n 0, 1) := zby_g zbyb_386 (i := 3) rfl rfl
theorem dX12_lesser_6 : decode cX12_lesser 6 = .ok (.goto 4, 3) := zby_g zbyb_386 (i := 4) rfl rfl
theorem dX12_lesser_9 : decode cX12_lesser 9 = .ok (.iload_n 1, 1) := zby_g zbyb_386 (i := 5) rfl rfl
theorem dX12_lesser_10 : decode cX12_lesser 10 = .ok (.ireturn, 1) := zby_g zbyb_386 (i := 6) rfl rfl
noncomputable def zbyl_387 : List (Nat × zbyE) := [(0, zbyo_26), (1, zbyo_27), (2, zbyo_164 7), (5, zbyo_26), (6, zbyo_167 4), (9, zbyo_27), (10, zbyo_172)]
theorem zbyb_387 : zbys zbyl_387 (cX12_greater.data.toList.drop 0) 0 = true := by decide +kernel
theorem dX12_greater_0 : decode cX12_greater 0 = .ok (.iload_n 0, 1) := zby_g zbyb_387 (i := 0) rfl rfl
theorem dX12_greater_1 : decode cX12_greater 1 = .ok (.iload_n 1, 1) := zby_g zbyb_387 (i := 1) rfl rfl
theorem dX12_greater_2 : decode cX12_greater 2 = .ok (.if_icmp .le 7, 3) := zby_g zbyb_387 (i := 2) rfl rfl
theorem dX12_greater_5 : decode cX12_greater 5 = .ok (.iload_n 0, 1) := zby_g zbyb_387 (i := 3) rfl rfl
theorem dX12_greater_6 : decode cX12_greater 6 = .ok (.goto 4, 3) := zby_g zbyb_387 (i := 4) rfl rfl
theorem dX12_greater_9 : decode cX12_greater 9 = .ok (.iload_n 1, 1) := zby_g zbyb_387 (i := 5) rfl rfl
theorem dX12_greater_10 : decode cX12_greater 10 = .ok (.ireturn, 1) := zby_g zbyb_387 (i := 6) rfl rfl
noncomputable def zbyl_388 : List (Nat × zbyE) := [(0, zbyo_26), (1, zbyo_27), (2, zbyo_122), (3, zbyo_4), (4, zbyo_126), (5, zbyo_4), (6, zbyo_160 7), (9, zbyo_4), (10, zbyo_167 4), (13, zbyo_3), (14, zbyo_172)]
theorem zbyb_388 : zbys zbyl_388 (cX12_isOf.data.toList.drop 0) 0 = true := by decide +kernel
theorem dX12_isOf_0 : decode cX12_isOf 0 = .ok (.iload_n 0, 1) := zby_g zbyb_388 (i := 0) rfl rfl
theorem dX12_isOf_1 : decode cX12_isOf 1 = .ok (.iload_n 1, 1) := zby_g zbyb_388 (i := 1) rfl rfl
theorem dX12_isOf_2 : decode cX12_isOf 2 = .ok (.ishr, 1) := zby_g zbyb_388 (i := 2) rfl rfl
theorem dX12_isOf_3 : decode cX12_isOf 3 = .ok (.iconst 1, 1) := zby_g zbyb_388 (i := 3) rfl rfl
theorem dX12_isOf_4 : decode cX12_isOf 4 = .ok (.iand, 1) := zby_g zbyb_388 (i := 4) rfl rfl
theorem dX12_isOf_5 : decode cX12_isOf 5 = .ok (.iconst 1, 1) := zby_g zbyb_388 (i := 5) rfl rfl
theorem dX12_isOf_6 : decode cX12_isOf 6 = .ok (.if_icmp .ne 7, 3) := zby_g zbyb_388 (i := 6) rfl rfl
theorem dX12_isOf_9 : decode cX12_isOf 9 = .ok (.iconst 1, 1) := zby_g zbyb_388 (i := 7) rfl rfl
theorem dX12_isOf_10 : decode cX12_isOf 10 = .ok (.goto 4, 3) := zby_g zbyb_388 (i := 8) rfl rfl
theorem dX12_isOf_13 : decode cX12_isOf 13 = .ok (.iconst 0, 1) := zby_g zbyb_388 (i := 9) rfl rfl
theorem dX12_isOf_14 : decode cX12_isOf 14 = .ok (.ireturn, 1) := zby_g zbyb_388 (i := 10) rfl rfl
noncomputable def zbyl_389 : List (Nat × zbyE) := [(0, zbyo_3), (1, zbyo_60), (2, zbyo_3), (3, zbyo_61), (4, zbyo_28), (5, zbyo_16 31), (7, zbyo_162 17), (10, zbyo_27), (11, zbyo_26), (12, zbyo_28), (13, zbyo_122), (14, zbyo_4), (15, zbyo_126), (16, zbyo_96), (17, zbyo_60), (18, zbyo_132 2 1)]
theorem zbyb_389 : zbys zbyl_389 (cX12_bits.data.toList.drop 0) 0 = true := by decide +kernel
theorem dX12_bits_0 : decode cX12_bits 0 = .ok (.iconst 0, 1) := zby_g zbyb_389 (i := 0) rfl rfl
theorem dX12_bits_1 : decode cX12_bits 1 = .ok (.istore_n 1, 1) := zby_g zbyb_389 (i := 1) rfl rfl
theorem dX12_bits_2 : decode cX12_bits 2 = .ok (.iconst 0, 1) := zby_g zbyb_389 (i := 2) rfl rfl
theorem dX12_bits_3 : decode cX12_bits 3 = .ok (.istore_n 2, 1) := zby_g zbyb_389 (i := 3) rfl rfl
theorem dX12_bits_4 : decode cX12_bits 4 = .ok (.iload_n 2, 1) := zby_g zbyb_389 (i := 4) rfl rfl
theorem dX12_bits_5 : decode cX12_bits 5 = .ok (.bipush 31, 2) := zby_g zbyb_389 (i := 5) rfl rfl
theorem dX12_bits_7 : decode cX12_bits 7 = .ok (.if_icmp .ge 17, 3) := zby_g zbyb_389 (i := 6) rfl rfl
theorem dX12_bits_10 : decode cX12_bits 10 = .ok (.iload_n 1, 1) := zby_g zbyb_389 (i := 7) rfl rfl
theorem dX12_bits_11 : decode cX12_bits 11 = .ok (.iload_n 0, 1) := zby_g zbyb_389 (i := 8) rfl rfl
theorem dX12_bits_12 : decode cX12_bits 12 = .ok (.iload_n 2, 1) := zby_g zbyb_389 (i := 9) rfl rfl
theorem dX12_bits_13 : decode cX12_bits 13 = .ok (.ishr, 1) := zby_g zbyb_389 (i := 10) rfl rfl
theorem dX12_bits_14 : decode cX12_bits 14 = .ok (.iconst 1, 1) := zby_g zbyb_389 (i := 11) rfl rfl
theorem dX12_bits_15 : decode cX12_bits 15 = .ok (.iand, 1) := zby_g zbyb_389 (i := 12) rfl rfl
theorem dX12_bits_16 : decode cX12_bits 16 = .ok (.iadd, 1) := zby_g zbyb_389 (i := 13) rfl rfl
theorem dX12_bits_17 : decode cX12_bits 17 = .ok (.istore_n 1, 1) := zby_g zbyb_389 (i := 14) rfl rfl
theorem dX12_bits_18 : decode cX12_bits 18 = .ok (.iinc 2 1, 3) := zby_g zbyb_389 (i := 15) rfl rfl
noncomputable def zbyl_390 : List (Nat × zbyE) := [(21, zbyo_167 (-17)), (24, zbyo_27), (25, zbyo_172)]
theorem zbyb_390 : zbys zbyl_390 (cX12_bits.data.toList.drop 21) 21 = true := by decide +kernel
theorem dX12_bits_21 : decode cX12_bits 21 = .ok (.goto (-17), 3) := zby_g zbyb_390 (i := 0) rfl rfl
theorem dX12_bits_24 : decode cX12_bits 24 = .ok (.iload_n 1, 1) := zby_g zbyb_390 (i := 1) rfl rfl
theorem dX12_bits_25 : decode cX12_bits 25 = .ok (.ireturn, 1) := zby_g zbyb_390 (i := 2) rfl rfl
noncomputable def zbyl_391 : List (Nat × zbyE) := [(0, zbyo_42), (1, zbyo_180 7), (4, zbyo_16 11), (6, zbyo_8), (7, zbyo_27), (8, zbyo_104), (9, zbyo_96), (10, zbyo_28), (11, zbyo_96), (12, zbyo_46), (13, zbyo_172)]
theorem zbyb_391 : zbys zbyl_391 (cX12_of.data.toList.drop 0) 0 = true := by decide +kernel
theorem dX12_of_0 : decode cX12_of 0 = .ok (.aload_n 0, 1) := zby_g zbyb_391 (i := 0) rfl rfl
theorem dX12_of_1 : decode cX12_of 1 = .ok (.getfield 7, 3) := zby_g zbyb_391 (i := 1) rfl rfl
theorem dX12_of_4 : decode cX12_of 4 = .ok (.bipush 11, 2) := zby_g zbyb_391 (i := 2) rfl rfl
theorem dX12_of_6 : decode cX12_of 6 = .ok (.iconst 5, 1) := zby_g zbyb_391 (i := 3) rfl rfl
theorem dX12_of_7 : decode cX12_of 7 = .ok (.iload_n 1, 1) := zby_g zbyb_391 (i := 4) rfl rfl
theorem dX12_of_8 : decode cX12_of 8 = .ok (.imul, 1) := zby_g zbyb_391 (i := 5) rfl rfl
theorem dX12_of_9 : decode cX12_of 9 = .ok (.iadd, 1) := zby_g zbyb_391 (i := 6) rfl rfl
theorem dX12_of_10 : decode cX12_of 10 = .ok (.iload_n 2, 1) := zby_g zbyb_391 (i := 7) rfl rfl
theorem dX12_of_11 : decode cX12_of 11 = .ok (.iadd, 1) := zby_g zbyb_391 (i := 8) rfl rfl
theorem dX12_of_12 : decode cX12_of 12 = .ok (.iaload, 1) := zby_g zbyb_391 (i := 9) rfl rfl
theorem dX12_of_13 : decode cX12_of 13 = .ok (.ireturn, 1) := zby_g zbyb_391 (i := 10) rfl rfl
noncomputable def zbyl_392 : List (Nat × zbyE) := [(0, zbyo_42), (1, zbyo_180 7), (4, zbyo_16 11), (6, zbyo_8), (7, zbyo_27), (8, zbyo_104), (9, zbyo_96), (10, zbyo_28), (11, zbyo_96), (12, zbyo_29), (13, zbyo_79), (14, zbyo_177)]
theorem zbyb_392 : zbys zbyl_392 (cX12_put.data.toList.drop 0) 0 = true := by decide +kernel
theorem dX12_put_0 : decode cX12_put 0 = .ok (.aload_n 0, 1) := zby_g zbyb_392 (i := 0) rfl rfl
theorem dX12_put_1 : decode cX12_put 1 = .ok (.getfield 7, 3) := zby_g zbyb_392 (i := 1) rfl rfl
theorem dX12_put_4 : decode cX12_put 4 = .ok (.bipush 11, 2) := zby_g zbyb_392 (i := 2) rfl rfl
theorem dX12_put_6 : decode cX12_put 6 = .ok (.iconst 5, 1) := zby_g zbyb_392 (i := 3) rfl rfl
theorem dX12_put_7 : decode cX12_put 7 = .ok (.iload_n 1, 1) := zby_g zbyb_392 (i := 4) rfl rfl
theorem dX12_put_8 : decode cX12_put 8 = .ok (.imul, 1) := zby_g zbyb_392 (i := 5) rfl rfl
theorem dX12_put_9 : decode cX12_put 9 = .ok (.iadd, 1) := zby_g zbyb_392 (i := 6) rfl rfl
theorem dX12_put_10 : decode cX12_put 10 = .ok (.iload_n 2, 1) := zby_g zbyb_392 (i := 7) rfl rfl
theorem dX12_put_11 : decode cX12_put 11 = .ok (.iadd, 1) := zby_g zbyb_392 (i := 8) rfl rfl
theorem dX12_put_12 : decode cX12_put 12 = .ok (.iload_n 3, 1) := zby_g zbyb_392 (i := 9) rfl rfl
theorem dX12_put_13 : decode cX12_put 13 = .ok (.iastore, 1) := zby_g zbyb_392 (i := 10) rfl rfl
theorem dX12_put_14 : decode cX12_put 14 = .ok (.return_, 1) := zby_g zbyb_392 (i := 11) rfl rfl
noncomputable def zbyl_393 : List (Nat × zbyE) := [(0, zbyo_42), (1, zbyo_180 7), (4, zbyo_16 115), (6, zbyo_7), (7, zbyo_27), (8, zbyo_104), (9, zbyo_96), (10, zbyo_28), (11, zbyo_96), (12, zbyo_46), (13, zbyo_172)]
theorem zbyb_393 : zbys zbyl_393 (cX12_ofWork.data.toList.drop 0) 0 = true := by decide +kernel
theorem dX12_ofWork_0 : decode cX12_ofWork 0 = .ok (.aload_n 0, 1) := zby_g zbyb_393 (i := 0) rfl rfl
theorem dX12_ofWork_1 : decode cX12_ofWork 1 = .ok (.getfield 7, 3) := zby_g zbyb_393 (i := 1) rfl rfl
theorem dX12_ofWork_4 : decode cX12_ofWork 4 = .ok (.bipush 115, 2) := zby_g zbyb_393 (i := 2) rfl rfl
theorem dX12_ofWork_6 : decode cX12_ofWork 6 = .ok (.iconst 4, 1) := zby_g zbyb_393 (i := 3) rfl rfl
theorem dX12_ofWork_7 : decode cX12_ofWork 7 = .ok (.iload_n 1, 1) := zby_g zbyb_393 (i := 4) rfl rfl
theorem dX12_ofWork_8 : decode cX12_ofWork 8 = .ok (.imul, 1) := zby_g zbyb_393 (i := 5) rfl rfl
theorem dX12_ofWork_9 : decode cX12_ofWork 9 = .ok (.iadd, 1) := zby_g zbyb_393 (i := 6) rfl rfl
theorem dX12_ofWork_10 : decode cX12_ofWork 10 = .ok (.iload_n 2, 1) := zby_g zbyb_393 (i := 7) rfl rfl
theorem dX12_ofWork_11 : decode cX12_ofWork 11 = .ok (.iadd, 1) := zby_g zbyb_393 (i := 8) rfl rfl
theorem dX12_ofWork_12 : decode cX12_ofWork 12 = .ok (.iaload, 1) := zby_g zbyb_393 (i := 9) rfl rfl
theorem dX12_ofWork_13 : decode cX12_ofWork 13 = .ok (.ireturn, 1) := zby_g zbyb_393 (i := 10) rfl rfl
noncomputable def zbyl_394 : List (Nat × zbyE) := [(0, zbyo_42), (1, zbyo_180 7), (4, zbyo_16 115), (6, zbyo_7), (7, zbyo_27), (8, zbyo_104), (9, zbyo_96), (10, zbyo_28), (11, zbyo_96), (12, zbyo_29), (13, zbyo_79), (14, zbyo_177)]
theorem zbyb_394 : zbys zbyl_394 (cX12_putWork.data.toList.drop 0) 0 = true := by decide +kernel
theorem dX12_putWork_0 : decode cX12_putWork 0 = .ok (.aload_n 0, 1) := zby_g zbyb_394 (i := 0) rfl rfl
theorem dX12_putWork_1 : decode cX12_putWork 1 = .ok (.getfield 7, 3) := zby_g zbyb_394 (i := 1) rfl rfl
theorem dX12_putWork_4 : decode cX12_putWork 4 = .ok (.bipush 115, 2) := zby_g zbyb_394 (i := 2) rfl rfl
theorem dX12_putWork_6 : decode cX12_putWork 6 = .ok (.iconst 4, 1) := zby_g zbyb_394 (i := 3) rfl rfl
theorem dX12_putWork_7 : decode cX12_putWork 7 = .ok (.iload_n 1, 1) := zby_g zbyb_394 (i := 4) rfl rfl
theorem dX12_putWork_8 : decode cX12_putWork 8 = .ok (.imul, 1) := zby_g zbyb_394 (i := 5) rfl rfl
theorem dX12_putWork_9 : decode cX12_putWork 9 = .ok (.iadd, 1) := zby_g zbyb_394 (i := 6) rfl rfl
theorem dX12_putWork_10 : decode cX12_putWork 10 = .ok (.iload_n 2, 1) := zby_g zbyb_394 (i := 7) rfl rfl
theorem dX12_putWork_11 : decode cX12_putWork 11 = .ok (.iadd, 1) := zby_g zbyb_394 (i := 8) rfl rfl
theorem dX12_putWork_12 : decode cX12_putWork 12 = .ok (.iload_n 3, 1) := zby_g zbyb_394 (i := 9) rfl rfl
theorem dX12_putWork_13 : decode cX12_putWork 13 = .ok (.iastore, 1) := zby_g zbyb_394 (i := 10) rfl rfl
theorem dX12_putWork_14 : decode cX12_putWork 14 = .ok (.return_, 1) := zby_g zbyb_394 (i := 11) rfl rfl
noncomputable def zbyl_395 : List (Nat × zbyE) := [(0, zbyo_42), (1, zbyo_180 7), (4, zbyo_16 51), (6, zbyo_16 8), (8, zbyo_27), (9, zbyo_104), (10, zbyo_96), (11, zbyo_28), (12, zbyo_96), (13, zbyo_46), (14, zbyo_172)]
theorem zbyb_395 : zbys zbyl_395 (cX12_trustOf.data.toList.drop 0) 0 = true := by decide +kernel
theorem dX12_trustOf_0 : decode cX12_trustOf 0 = .ok (.aload_n 0, 1) := zby_g zbyb_395 (i := 0) rfl rfl
theorem dX12_trustOf_1 : decode cX12_trustOf 1 = .ok (.getfield 7, 3) := zby_g zbyb_395 (i := 1) rfl rfl
theorem dX12_trustOf_4 : decode cX12_trustOf 4 = .ok (.bipush 51, 2) := zby_g zbyb_395 (i := 2) rfl rfl
theorem dX12_trustOf_6 : decode cX12_trustOf 6 = .ok (.bipush 8, 2) := zby_g zbyb_395 (i := 3) rfl rfl
theorem dX12_trustOf_8 : decode cX12_trustOf 8 = .ok (.iload_n 1, 1) := zby_g zbyb_395 (i := 4) rfl rfl
theorem dX12_trustOf_9 : decode cX12_trustOf 9 = .ok (.imul, 1) := zby_g zbyb_395 (i := 5) rfl rfl
theorem dX12_trustOf_10 : decode cX12_trustOf 10 = .ok (.iadd, 1) := zby_g zbyb_395 (i := 6) rfl rfl
theorem dX12_trustOf_11 : decode cX12_trustOf 11 = .ok (.iload_n 2, 1) := zby_g zbyb_395 (i := 7) rfl rfl
theorem dX12_trustOf_12 : decode cX12_trustOf 12 = .ok (.iadd, 1) := zby_g zbyb_395 (i := 8) rfl rfl
theorem dX12_trustOf_13 : decode cX12_trustOf 13 = .ok (.iaload, 1) := zby_g zbyb_395 (i := 9) rfl rfl
theorem dX12_trustOf_14 : decode cX12_trustOf 14 = .ok (.ireturn, 1) := zby_g zbyb_395 (i := 10) rfl rfl
noncomputable def zbyl_396 : List (Nat × zbyE) := [(0, zbyo_27), (1, zbyo_3), (2, zbyo_42), (3, zbyo_180 7), (6, zbyo_6), (7, zbyo_46), (8, zbyo_4), (9, zbyo_100), (10, zbyo_184 42), (13, zbyo_172)]
theorem zbyb_396 : zbys zbyl_396 (cX12_isPerson.data.toList.drop 0) 0 = true := by decide +kernel
theorem dX12_isPerson_0 : decode cX12_isPerson 0 = .ok (.iload_n 1, 1) := zby_g zbyb_396 (i := 0) rfl rfl
theorem dX12_isPerson_1 : decode cX12_isPerson 1 = .ok (.iconst 0, 1) := zby_g zbyb_396 (i := 1) rfl rfl
theorem dX12_isPerson_2 : decode cX12_isPerson 2 = .ok (.aload_n 0, 1) := zby_g zbyb_396 (i := 2) rfl rfl
theorem dX12_isPerson_3 : decode cX12_isPerson 3 = .ok (.getfield 7, 3) := zby_g zbyb_396 (i := 3) rfl rfl
theorem dX12_isPerson_6 : decode cX12_isPerson 6 = .ok (.iconst 3, 1) := zby_g zbyb_396 (i := 4) rfl rfl
theorem dX12_isPerson_7 : decode cX12_isPerson 7 = .ok (.iaload, 1) := zby_g zbyb_396 (i := 5) rfl rfl
theorem dX12_isPerson_8 : decode cX12_isPerson 8 = .ok (.iconst 1, 1) := zby_g zbyb_396 (i := 6) rfl rfl
theorem dX12_isPerson_9 : decode cX12_isPerson 9 = .ok (.isub, 1) := zby_g zbyb_396 (i := 7) rfl rfl
theorem dX12_isPerson_10 : decode cX12_isPerson 10 = .ok (.invokestatic 42, 3) := zby_g zbyb_396 (i := 8) rfl rfl
theorem dX12_isPerson_13 : decode cX12_isPerson 13 = .ok (.ireturn, 1) := zby_g zbyb_396 (i := 9) rfl rfl
noncomputable def zbyl_397 : List (Nat × zbyE) := [(0, zbyo_27), (1, zbyo_3), (2, zbyo_42), (3, zbyo_180 7), (6, zbyo_7), (7, zbyo_46), (8, zbyo_4), (9, zbyo_100), (10, zbyo_184 42), (13, zbyo_172)]
theorem zbyb_397 : zbys zbyl_397 (cX12_isWork.data.toList.drop 0) 0 = true := by decide +kernel
theorem dX12_isWork_0 : decode cX12_isWork 0 = .ok (.iload_n 1, 1) := zby_g zbyb_397 (i := 0) rfl rfl
theorem dX12_isWork_1 : decode cX12_isWork 1 = .ok (.iconst 0, 1) := zby_g zbyb_397 (i := 1) rfl rfl
theorem dX12_isWork_2 : decode cX12_isWork 2 = .ok (.aload_n 0, 1) := zby_g zbyb_397 (i := 2) rfl rfl
theorem dX12_isWork_3 : decode cX12_isWork 3 = .ok (.getfield 7, 3) := zby_g zbyb_397 (i := 3) rfl rfl
theorem dX12_isWork_6 : decode cX12_isWork 6 = .ok (.iconst 4, 1) := zby_g zbyb_397 (i := 4) rfl rfl
theorem dX12_isWork_7 : decode cX12_isWork 7 = .ok (.iaload, 1) := zby_g zbyb_397 (i := 5) rfl rfl
theorem dX12_isWork_8 : decode cX12_isWork 8 = .ok (.iconst 1, 1) := zby_g zbyb_397 (i := 6) rfl rfl
theorem dX12_isWork_9 : decode cX12_isWork 9 = .ok (.isub, 1) := zby_g zbyb_397 (i := 7) rfl rfl
theorem dX12_isWork_10 : decode cX12_isWork 10 = .ok (.invokestatic 42, 3) := zby_g zbyb_397 (i := 8) rfl rfl
theorem dX12_isWork_13 : decode cX12_isWork 13 = .ok (.ireturn, 1) := zby_g zbyb_397 (i := 9) rfl rfl
noncomputable def zbyl_398 : List (Nat × zbyE) := [(0, zbyo_42), (1, zbyo_27), (2, zbyo_7), (3, zbyo_182 46), (6, zbyo_2), (7, zbyo_160 7), (10, zbyo_4), (11, zbyo_167 4), (14, zbyo_3), (15, zbyo_172)]
theorem zbyb_398 : zbys zbyl_398 (cX12_isHere.data.toList.drop 0) 0 = true := by decide +kernel
theorem dX12_isHere_0 : decode cX12_isHere 0 = .ok (.aload_n 0, 1) := zby_g zbyb_398 (i := 0) rfl rfl
theorem dX12_isHere_1 : decode cX12_isHere 1 = .ok (.iload_n 1, 1) := zby_g zbyb_398 (i := 1) rfl rfl
theorem dX12_isHere_2 : decode cX12_isHere 2 = .ok (.iconst 4, 1) := zby_g zbyb_398 (i := 2) rfl rfl
theorem dX12_isHere_3 : decode cX12_isHere 3 = .ok (.invokevirtual 46, 3) := zby_g zbyb_398 (i := 3) rfl rfl
theorem dX12_isHere_6 : decode cX12_isHere 6 = .ok (.iconst (-1), 1) := zby_g zbyb_398 (i := 4) rfl rfl
theorem dX12_isHere_7 : decode cX12_isHere 7 = .ok (.if_icmp .ne 7, 3) := zby_g zbyb_398 (i := 5) rfl rfl
theorem dX12_isHere_10 : decode cX12_isHere 10 = .ok (.iconst 1, 1) := zby_g zbyb_398 (i := 6) rfl rfl
theorem dX12_isHere_11 : decode cX12_isHere 11 = .ok (.goto 4, 3) := zby_g zbyb_398 (i := 7) rfl rfl
theorem dX12_isHere_14 : decode cX12_isHere 14 = .ok (.iconst 0, 1) := zby_g zbyb_398 (i := 8) rfl rfl
theorem dX12_isHere_15 : decode cX12_isHere 15 = .ok (.ireturn, 1) := zby_g zbyb_398 (i := 9) rfl rfl
noncomputable def zbyl_399 : List (Nat × zbyE) := [(0, zbyo_3), (1, zbyo_60), (2, zbyo_3), (3, zbyo_61), (4, zbyo_28), (5, zbyo_42), (6, zbyo_180 7), (9, zbyo_6), (10, zbyo_46), (11, zbyo_162 27), (14, zbyo_27), (15, zbyo_42), (16, zbyo_28), (17, zbyo_182 50), (20, zbyo_153 9), (23, zbyo_4)]
theorem zbyb_399 : zbys zbyl_399 (cX12_hereOnes.data.toList.drop 0) 0 = true := by decide +kernel
theorem dX12_hereOnes_0 : decode cX12_hereOnes 0 = .ok (.iconst 0, 1) := zby_g zbyb_399 (i := 0) rfl rfl
theorem dX12_hereOnes_1 : decode cX12_hereOnes 1 = .ok (.istore_n 1, 1) := zby_g zbyb_399 (i := 1) rfl rfl
theorem dX12_hereOnes_2 : decode cX12_hereOnes 2 = .ok (.iconst 0, 1) := zby_g zbyb_399 (i := 2) rfl rfl
theorem dX12_hereOnes_3 : decode cX12_hereOnes 3 = .ok (.istore_n 2, 1) := zby_g zbyb_399 (i := 3) rfl rfl
theorem dX12_hereOnes_4 : decode cX12_hereOnes 4 = .ok (.iload_n 2, 1) := zby_g zbyb_399 (i := 4) rfl rfl
theorem dX12_hereOnes_5 : decode cX12_hereOnes 5 = .ok (.aload_n 0, 1) := zby_g zbyb_399 (i := 5) rfl rfl
theorem dX12_hereOnes_6 : decode cX12_hereOnes 6 = .ok (.getfield 7, 3) := zby_g zbyb_399 (i := 6) rfl rfl
theorem dX12_hereOnes_9 : decode cX12_hereOnes 9 = .ok (.iconst 3, 1) := zby_g zbyb_399 (i := 7) rfl rfl
theorem dX12_hereOnes_10 : decode cX12_hereOnes 10 = .ok (.iaload, 1) := zby_g zbyb_399 (i := 8) rfl rfl
theorem dX12_hereOnes_11 : decode cX12_hereOnes 11 = .ok (.if_icmp .ge 27, 3) := zby_g zbyb_399 (i := 9) rfl rfl
theorem dX12_hereOnes_14 : decode cX12_hereOnes 14 = .ok (.iload_n 1, 1) := zby_g zbyb_399 (i := 10) rfl rfl
theorem dX12_hereOnes_15 : decode cX12_hereOnes 15 = .ok (.aload_n 0, 1) := zby_g zbyb_399 (i := 11) rfl rfl
theorem dX12_hereOnes_16 : decode cX12_hereOnes 16 = .ok (.iload_n 2, 1) := zby_g zbyb_399 (i := 12) rfl rfl
theorem dX12_hereOnes_17 : decode cX12_hereOnes 17 = .ok (.invokevirtual 50, 3) := zby_g zbyb_399 (i := 13) rfl rfl
theorem dX12_hereOnes_20 : decode cX12_hereOnes 20 = .ok (.ifCond .eq 9, 3) := zby_g zbyb_399 (i := 14) rfl rfl
theorem dX12_hereOnes_23 : decode cX12_hereOnes 23 = .ok (.iconst 1, 1) := zby_g zbyb_399 (i := 15) rfl rfl
noncomputable def zbyl_400 : List (Nat × zbyE) := [(24, zbyo_28), (25, zbyo_120), (26, zbyo_167 4), (29, zbyo_3), (30, zbyo_128), (31, zbyo_60), (32, zbyo_132 2 1), (35, zbyo_167 (-31)), (38, zbyo_27), (39, zbyo_172)]
theorem zbyb_400 : zbys zbyl_400 (cX12_hereOnes.data.toList.drop 24) 24 = true := by decide +kernel
theorem dX12_hereOnes_24 : decode cX12_hereOnes 24 = .ok (.iload_n 2, 1) := zby_g zbyb_400 (i := 0) rfl rfl
theorem dX12_hereOnes_25 : decode cX12_hereOnes 25 = .ok (.ishl, 1) := zby_g zbyb_400 (i := 1) rfl rfl
theorem dX12_hereOnes_26 : decode cX12_hereOnes 26 = .ok (.goto 4, 3) := zby_g zbyb_400 (i := 2) rfl rfl
theorem dX12_hereOnes_29 : decode cX12_hereOnes 29 = .ok (.iconst 0, 1) := zby_g zbyb_400 (i := 3) rfl rfl
theorem dX12_hereOnes_30 : decode cX12_hereOnes 30 = .ok (.ior, 1) := zby_g zbyb_400 (i := 4) rfl rfl
theorem dX12_hereOnes_31 : decode cX12_hereOnes 31 = .ok (.istore_n 1, 1) := zby_g zbyb_400 (i := 5) rfl rfl
theorem dX12_hereOnes_32 : decode cX12_hereOnes 32 = .ok (.iinc 2 1, 3) := zby_g zbyb_400 (i := 6) rfl rfl
theorem dX12_hereOnes_35 : decode cX12_hereOnes 35 = .ok (.goto (-31), 3) := zby_g zbyb_400 (i := 7) rfl rfl
theorem dX12_hereOnes_38 : decode cX12_hereOnes 38 = .ok (.iload_n 1, 1) := zby_g zbyb_400 (i := 8) rfl rfl
theorem dX12_hereOnes_39 : decode cX12_hereOnes 39 = .ok (.ireturn, 1) := zby_g zbyb_400 (i := 9) rfl rfl
noncomputable def zbyl_401 : List (Nat × zbyE) := [(0, zbyo_3), (1, zbyo_60), (2, zbyo_3), (3, zbyo_61), (4, zbyo_28)]
theorem zbyb_401 : zbys zbyl_401 (cX12_believed.data.toList.drop 0) 0 = true := by decide +kernel
theorem dX12_believed_0 : decode cX12_believed 0 = .ok (.iconst 0, 1) := zby_g zbyb_401 (i := 0) rfl rfl
theorem dX12_believed_1 : decode cX12_believed 1 = .ok (.istore_n 1, 1) := zby_g zbyb_401 (i := 1) rfl rfl
theorem dX12_believed_2 : decode cX12_believed 2 = .ok (.iconst 0, 1) := zby_g zbyb_401 (i := 2) rfl rfl
theorem dX12_believed_3 : decode cX12_believed 3 = .ok (.istore_n 2, 1) := zby_g zbyb_401 (i := 3) rfl rfl
theorem dX12_believed_4 : decode cX12_believed 4 = .ok (.iload_n 2, 1) := zby_g zbyb_401 (i := 4) rfl rfl
