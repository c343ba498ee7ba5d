/-! THE START: the literals' texts out of the premises -/
abbrev zsF : List Cond := flatC (Jvm.Cond.and given_1 narrow_1)
/-- a literal's words stand at these places -/
abbrev zlOK (q : String × Nat × String × List Int32) (t f : Nat) : Prop := q.2.2.2.length < 2 ^ 31 ∧ lw_tbl[t]? = some (Cond.stringRef q.1 q.2.1 q.2.2.1) ∧ zsF[f]? = some (Cond.exactly (.string q.1 q.2.1) "java/lang/String") ∧ zsF[f + 1]? = some (Cond.eq (.field (.string q.1 q.2.1) "java/lang/String" "coder" "B") (.int 0)) ∧ zsF[f + 2]? = some (Cond.arrayOf (.field (.string q.1 q.2.1) "java/lang/String" "value" "[B") .byte) ∧ zsF[f + 3]? = some (Cond.eq (.length (.field (.string q.1 q.2.1) "java/lang/String" "value" "[B")) (.int (Int32.ofNat q.2.2.2.length))) ∧ ∀ j, j < q.2.2.2.length → zsF[f + 4 + j]? = some (Cond.eq (.elem (.field (.string q.1 q.2.1) "java/lang/String" "value" "[B") (.int (Int32.ofNat j))) (.int (q.2.2.2.getD j 0)))
def zlE (q : String × Nat × String × List Int32) : List Cond := Cond.exactly (.string q.1 q.2.1) "java/lang/String" :: Cond.eq (.field (.string q.1 q.2.1) "java/lang/String" "coder" "B") (.int 0) :: Cond.arrayOf (.field (.string q.1 q.2.1) "java/lang/String" "value" "[B") .byte :: Cond.eq (.length (.field (.string q.1 q.2.1) "java/lang/String" "value" "[B")) (.int (Int32.ofNat q.2.2.2.length)) :: (List.range q.2.2.2.length).map fun j => Cond.eq (.elem (.field (.string q.1 q.2.1) "java/lang/String" "value" "[B") (.int (Int32.ofNat j))) (.int (q.2.2.2.getD j 0))
abbrev zlO2 (q : String × Nat × String × List Int32) (t f : Nat) : Prop := q.2.2.2.length < 2 ^ 31 ∧ lw_tbl[t]? = some (Cond.stringRef q.1 q.2.1 q.2.2.1) ∧ (zsF.drop f).take (4 + q.2.2.2.length) = zlE q
theorem zlO2_of {q : String × Nat × String × List Int32} {t f : Nat} (h : zlO2 q t f) : zlOK q t f := by
  obtain ⟨h1, h2, h3⟩ := h
  have g : ∀ i : Nat, i < 4 + q.2.2.2.length → zsF[f + i]? = (zlE q)[i]? := fun i hi => by
    rw [← h3, List.getElem?_take, if_pos hi, List.getElem?_drop]
  refine ⟨h1, h2, g 0 (by omega), g 1 (by omega), g 2 (by omega), g 3 (by omega), fun j hj => ?_⟩
  have e := g (j + 4) (by omega)
  rw [show f + 4 + j = f + (j + 4) by omega, e]
  show ((List.range q.2.2.2.length).map fun j => Cond.eq (.elem (.field (.string q.1 q.2.1) "java/lang/String" "value" "[B") (.int (Int32.ofNat j))) (.int (q.2.2.2.getD j 0)))[j]? = _
  rw [List.getElem?_map, List.getElem?_range hj]; rfl
def zlAll : List ((String × Nat × String × List Int32) × Nat × Nat) := [(("DryRiver$LawText", 24, "raise", [114, 97, 105, 115, 101]), 756, 120), (("DryRiver$LawText", 32, "lower", [108, 111, 119, 101, 114]), 809, 129), (("DryRiver$LawText", 45, "if", [105, 102]), 820, 138), (("DryRiver$LawText", 64, "and", [97, 110, 100]), 868, 216), (("DryRiver$LawText", 66, "or", [111, 114]), 869, 223), (("DryRiver$LawText", 68, "not", [110, 111, 116]), 834, 144), (("DryRiver$LawText", 77, "dry", [100, 114, 121]), 852, 151), (("DryRiver$LawText", 79, "owner", [111, 119, 110, 101, 114]), 853, 158), (("DryRiver$LawText", 87, "who", [119, 104, 111]), 858, 167), (("DryRiver$LawText", 89, "belief", [98, 101, 108, 105, 101, 102]), 859, 174), (("DryRiver$LawText", 91, "mean", [109, 101, 97, 110]), 860, 184), (("DryRiver$LawText", 93, "works", [119, 111, 114, 107, 115]), 861, 192), (("DryRiver$LawText", 95, "ties", [116, 105, 101, 115]), 862, 201), (("DryRiver$LawText", 97, "day", [100, 97, 121]), 863, 209), (("DryRiver$TownText", 24, "person", [112, 101, 114, 115, 111, 110]), 873, 229), (("DryRiver$TownText", 36, "work", [119, 111, 114, 107]), 898, 256), (("DryRiver$TownText", 41, "trusts", [116, 114, 117, 115, 116, 115]), 909, 280), (("DryRiver$TownText", 49, "shares", [115, 104, 97, 114, 101, 115]), 915, 290), (("DryRiver$TownText", 54, "chest", [99, 104, 101, 115, 116]), 920, 300), (("DryRiver$TownText", 63, "journey", [106, 111, 117, 114, 110, 101, 121]), 921, 309), (("DryRiver$TownText", 67, "truth", [116, 114, 117, 116, 104]), 922, 320), (("DryRiver$TownText", 71, "day", [100, 97, 121]), 923, 329), (("DryRiver$TownText", 84, "purse", [112, 117, 114, 115, 101]), 882, 239), (("DryRiver$TownText", 89, "dry", [100, 114, 121]), 888, 248), (("DryRiver$TownText", 98, "need", [110, 101, 101, 100]), 903, 264), (("DryRiver$TownText", 100, "gain", [103, 97, 105, 110]), 904, 272), (("DryRiverModel", 115, "purse", [112, 117, 114, 115, 101]), 1659, 852), (("DryRiverModel", 121, "dry", [100, 114, 121]), 1632, 751), (("DryRiverModel", 127, "need", [110, 101, 101, 100]), 1678, 882), (("DryRiverModel", 129, "gain", [103, 97, 105, 110]), 1679, 891), (("DryRiverModel", 134, "person", [112, 101, 114, 115, 111, 110]), 1654, 841), (("DryRiverModel", 139, "trusts", [116, 114, 117, 115, 116, 115]), 1668, 862), (("DryRiverModel", 144, "work", [119, 111, 114, 107]), 1673, 873), (("DryRiverModel", 149, "chest", [99, 104, 101, 115, 116]), 1684, 900), (("DryRiverModel", 154, "journey", [106, 111, 117, 114, 110, 101, 121]), 1689, 910), (("DryRiverModel", 156, "truth", [116, 114, 117, 116, 104]), 1690, 922), (("DryRiverModel", 158, "shares", [115, 104, 97, 114, 101, 115]), 1691, 932), (("DryRiverModel", 160, "day", [100, 97, 121]), 1647, 817), (("DryRiverModel", 190, "who", [119, 104, 111]), 1642, 770), (("DryRiverModel", 192, "belief", [98, 101, 108, 105, 101, 102]), 1643, 778), (("DryRiverModel", 194, "mean", [109, 101, 97, 110]), 1644, 789), (("DryRiverModel", 195, "works", [119, 111, 114, 107, 115]), 1645, 798), (("DryRiverModel", 197, "ties", [116, 105, 101, 115]), 1646, 808), (("DryRiverModel", 206, "owner", [111, 119, 110, 101, 114]), 1633, 760), (("DryRiverModel", 214, "not", [110, 111, 116]), 1623, 743), (("DryRiverModel", 226, "and", [97, 110, 100]), 1648, 826), (("DryRiverModel", 231, "or", [111, 114]), 1649, 834), (("DryRiverModel", 233, "raise", [114, 97, 105, 115, 101]), 1594, 716), (("DryRiverModel", 235, "lower", [108, 111, 119, 101, 114]), 1601, 726), (("DryRiverModel", 237, "if", [105, 102]), 1610, 736)]
set_option maxRecDepth 20000 in
theorem zs_all : ∀ z ∈ zlAll, zlO2 z.1 z.2.1 z.2.2 := by decide +kernel
theorem zs_lit : ∀ q ∈ zLit, ∃ t f : Nat, zlOK q t f := fun q hq => by
  have e : zLit = zlAll.map (fun z => z.1) := rfl
  rw [e] at hq
  obtain ⟨z, h1, h2⟩ := List.mem_map.mp hq
  subst h2
  exact ⟨z.2.1, z.2.2, zlO2_of (zs_all z h1)⟩
theorem zs_lv {s : State} {b : Nat} {A : Nat → Prop} (htl : ∀ w ∈ lw_tbl, w.before #[Value.ref b] s = true) (hgv : (Jvm.Cond.and given_1 narrow_1).before #[Value.ref b] s = true) (hAe : A = fun q => s.heap.size ≤ q) : ∃ kv : Nat → Nat × Nat, ∀ (j : Nat) (q : String × Nat × String × List Int32), zLit[j]? = some q → vk_R q.1 q.2.1 q.2.2.1 (kv j).1 s ∧ zSt q.2.2.2 (kv j).1 (kv j).2 A s := by
  have hfl := flat_of_before _ hgv
  have hA : ∀ a : Nat, a < s.heap.size → ¬ A a := fun a h z => by rw [hAe] at z; exact Nat.not_le.mpr h z
  have h0 : ∀ j : Nat, ∃ kv : Nat × Nat, ∀ q : String × Nat × String × List Int32, zLit[j]? = some q → vk_R q.1 q.2.1 q.2.2.1 kv.1 s ∧ zSt q.2.2.2 kv.1 kv.2 A s := by
    intro j
    cases hj : zLit[j]? with
    | none => exact ⟨(0, 0), fun q h => nomatch h⟩
    | some q =>
      obtain ⟨t9, f9, h6, h1, h2, h3, h4, h5, h7⟩ := zs_lit q (List.mem_of_getElem? hj)
      have h1 := List.mem_of_getElem? h1
      have h2 := List.mem_of_getElem? h2
      have h3 := List.mem_of_getElem? h3
      have h4 := List.mem_of_getElem? h4
      have h5 := List.mem_of_getElem? h5
      obtain ⟨adK, adV, hS, hE⟩ := vk_Sof (args := #[Value.ref b]) (s := s) (N := 1) (tm := fun _ => .string q.1 q.2.1) (len := [q.2.2.2.length]) (byt := [q.2.2.2]) (A := A)
        (fun i hi => by have e : i = 0 := (by omega); subst e; exact h6) (fun i hi => hfl _ h2) (fun i hi => hfl _ h3) (fun i hi => hfl _ h4)
        (fun i hi => by have e : i = 0 := (by omega); subst e; exact hfl _ h5) (fun i hi j hj => by have e : i = 0 := (by omega); subst e; exact hfl _ (List.mem_of_getElem? (h7 j hj))) (fun i j hi hj e => absurd (by omega) e) hA
      refine ⟨(adK 0, adV 0), fun q' e => ?_⟩
      cases e
      refine ⟨vk_R.of (htl _ h1) (hE 0 Nat.one_pos), ⟨fun i hi => ?_, fun i j hi hj _ => by omega⟩⟩
      obtain rfl : i = 0 := by omega
      exact hS.1 0 hi
  obtain ⟨f, hf⟩ := Classical.axiomOfChoice h0
  exact ⟨f, hf⟩
def zsg (aI aZ aJ aT aL : ClassId) (kv : Nat → Nat × Nat) : Nat → ClassId := fun k => if k = 0 then aI else if k = 1 then aZ else if k = 2 then aJ else if k = 3 then aT else if k = 4 then aL else if (k - 10) % 2 = 0 then (kv ((k - 10) / 2)).1 else (kv ((k - 10) / 2)).2
theorem zsg_k {aI aZ aJ aT aL : ClassId} {kv : Nat → Nat × Nat} (j : Nat) : zsg aI aZ aJ aT aL kv (10 + 2 * j) = (kv j).1 := by
  unfold zsg
  rw [if_neg (by omega), if_neg (by omega), if_neg (by omega), if_neg (by omega), if_neg (by omega), if_pos (by omega), show (10 + 2 * j - 10) / 2 = j by omega]
theorem zsg_v {aI aZ aJ aT aL : ClassId} {kv : Nat → Nat × Nat} (j : Nat) : zsg aI aZ aJ aT aL kv (11 + 2 * j) = (kv j).2 := by
  unfold zsg
  rw [if_neg (by omega), if_neg (by omega), if_neg (by omega), if_neg (by omega), if_neg (by omega), if_neg (by omega), show (11 + 2 * j - 10) / 2 = j by omega]
theorem zs_w : (Cond.laysStatic "java/lang/String" "COMPACT_STRINGS" "Z") ∈ lw_tbl ∧ (Cond.initialized "java/lang/String") ∈ lw_tbl ∧ (Cond.laysStatic "jdk/internal/util/Preconditions" "SIOOBE_FORMATTER" "Ljava/util/function/BiFunction;") ∈ lw_tbl ∧ (Cond.initialized "jdk/internal/util/Preconditions") ∈ lw_tbl ∧ (Cond.declares ⟨"DryRiver$Text", "readLine", "()Z"⟩) ∈ lw_tbl := by decide +kernel
theorem zs_x : (Cond.eq (.static "java/lang/String" "COMPACT_STRINGS" "Z") (.int 1)) ∈ flatC (Jvm.Cond.and given_1 narrow_1) ∧ (Cond.isRef (.static "jdk/internal/util/Preconditions" "SIOOBE_FORMATTER" "Ljava/util/function/BiFunction;")) ∈ flatC (Jvm.Cond.and given_1 narrow_1) := by decide +kernel
theorem zs_lt {g : zG} {s : State} {b : Nat} {A : Nat → Prop} (htl : ∀ w ∈ lw_tbl, w.before #[Value.ref b] s = true) (hgv : (Jvm.Cond.and given_1 narrow_1).before #[Value.ref b] s = true) (hAe : A = fun q => s.heap.size ≤ q) {aI aZ aJ aT aL : ClassId} {kv : Nat → Nat × Nat} (hg : g.2 = zsg aI aZ aJ aT aL kv)
    (hkv : ∀ (j : Nat) (q : String × Nat × String × List Int32), zLit[j]? = some q → vk_R q.1 q.2.1 q.2.2.1 (kv j).1 s ∧ zSt q.2.2.2 (kv j).1 (kv j).2 A s) : zLt g A s ∧ zDe s := by
  have hfl := flat_of_before _ hgv
  have hA : ∀ a : Nat, a < s.heap.size → ¬ A a := fun a h z => by rw [hAe] at z; exact Nat.not_le.mpr h z
  refine ⟨⟨va_Zof (htl _ zs_w.1) (htl _ zs_w.2.1) (va_eqt (hfl _ zs_x.1)) hA, va_Zqof (htl _ zs_w.2.2.1) (htl _ zs_w.2.2.2.1) (hfl _ zs_x.2) hA, fun j q hq => ?_⟩, va_Nw.of rfl (htl _ zs_w.2.2.2.2)⟩
  rw [hg, zsg_k, zsg_v]
  exact hkv j q hq
theorem zrM0 : rM (fun _ => 0) := by unfold rM; decide
theorem zrC0 : rC (fun _ => 0) := fun _ _ => zrM0
