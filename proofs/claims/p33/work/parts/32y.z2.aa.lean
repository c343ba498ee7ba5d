/-! WHO LIES, the model's side -/
theorem zb_1 {x s a : Int32} (hx : x = zbt s a) (c : x.toInt = 1) : (zbt s a).toInt = 1 := by subst hx; exact c
theorem zb_0 {x s a : Int32} (hx : x = zbt s a) (c : ¬ x.toInt = 1) : (zbt s a).toInt = 0 := by
  subst hx
  have h : 0 ≤ (zbt s a).toInt ∧ (zbt s a).toInt ≤ 1 := zand1 _
  omega
theorem zAnM_y {s a b : Int32} {k : Int} (h : (zbt s a).toInt = k) (h' : (zbt s b).toInt = k) : zAns s a b := Int32.toInt_inj.mp (h.trans h'.symm)
theorem zAnM_n {s a b : Int32} {k k' : Int} (h : (zbt s a).toInt = k) (h' : (zbt s b).toInt = k') (ne : ¬ k = k') : ¬ zAns s a b := fun o => ne (h.symm.trans ((congrArg Int32.toInt o).trans h'))
/-- what is told, as far as k -/
def zSg (f : Nat → Int32) (n pe g k : Int) : Prop := (g = 1 ∧ n ≤ 36 ∧ n % 3 = 0 ∧ zSi f pe k) ∨ (g = 0 ∧ ¬ zSaid f n pe)
theorem zSg_1 {f : Nat → Int32} {n pe g k : Int} (e : g = 1) (a : n ≤ 36) (b : n % 3 = 0) (ek : k = 0) : zSg f n pe g k := Or.inl ⟨e, a, b, zSi_0 ek⟩
theorem zSg_0 {f : Nat → Int32} {n pe g k : Int} (e : g = 0) (a : ¬ (n ≤ 36 ∧ n % 3 = 0)) : zSg f n pe g k := Or.inr ⟨e, fun o => a ⟨o.1, o.2.1⟩⟩
theorem zSg_i {f : Nat → Int32} {n pe g k : Int} (h : zSg f n pe g k) (hg : ¬ g = 0) : n ≤ 36 ∧ n % 3 = 0 ∧ zSi f pe k := by
  rcases h with ⟨_, h⟩ | ⟨h, _⟩
  · exact h
  · exact absurd h hg
theorem zSg_s {f : Nat → Int32} {n pe g k g' k' : Int} {x0 x1 y0 y1 x2 : Int32} (h : zSg f n pe g k) (hg : ¬ g = 0) (e0 : x0.toInt = k) (e1 : x1.toInt = k + 1) (f0 : y0.toInt = k) (f1 : y1.toInt = k + 1) (e2 : x2.toInt = k + 2)
    (z0 : (f x0.toNatClampNeg).toInt < pe) (z1 : (f x1.toNatClampNeg).toInt < pe) (z2 : ¬ (f y0.toNatClampNeg).toInt = (f y1.toNatClampNeg).toInt) (z3 : (f x2.toNatClampNeg).toInt < 2) (e : k' = k + 3) (hg' : g' = 1) : zSg f n pe g' k' := by
  obtain ⟨h1, h2, h3⟩ := zSg_i h hg
  have q0 : y0 = x0 := Int32.toInt_inj.mp (f0.trans e0.symm)
  have q1 : y1 = x1 := Int32.toInt_inj.mp (f1.trans e1.symm)
  rw [q0, q1] at z2
  exact Or.inl ⟨hg', h1, h2, zSi_s h3 e0 e1 e2 ⟨z0, z1, z2, by omega⟩ e⟩
theorem zSg_x {f : Nat → Int32} {n pe g k g' k' : Int} (h : zSg f n pe g k) (hg : ¬ g = 0) (hk : k < n) (hg' : g' = 0) (z : ¬ ((f (3 * (k / 3).toNat)).toInt < pe ∧ (f (3 * (k / 3).toNat + 1)).toInt < pe ∧ ¬ (f (3 * (k / 3).toNat)).toInt = (f (3 * (k / 3).toNat + 1)).toInt ∧ (f (3 * (k / 3).toNat + 2)).toInt ≤ 1)) : zSg f n pe g' k' := by
  obtain ⟨h1, h2, h3, h4, _⟩ := zSg_i h hg
  exact Or.inr ⟨hg', fun o => z (o.2.2 (k / 3).toNat (by omega))⟩
theorem zSj {f : Nat → Int32} {n pe g k : Int} (h : zSg f n pe g k) (hg : ¬ g = 0) {x : Int32} {j : Nat} (e : x.toInt = k + j) : f x.toNatClampNeg = f (3 * (k / 3).toNat + j) := by
  obtain ⟨_, _, h3, h4, _⟩ := zSg_i h hg
  rw [zcl, show x.toInt.toNat = 3 * (k / 3).toNat + j by omega]
theorem zSg_x1 {f : Nat → Int32} {n pe g k g' k' : Int} {x : Int32} (h : zSg f n pe g k) (hg : ¬ g = 0) (hk : k < n) (hg' : g' = 0) (e : x.toInt = k) (z : ¬ (f x.toNatClampNeg).toInt < pe) : zSg f n pe g' k' := by
  rw [zSj h hg (j := 0) (by omega)] at z
  exact zSg_x h hg hk hg' (fun o => z o.1)
theorem zSg_x2 {f : Nat → Int32} {n pe g k g' k' : Int} {x : Int32} (h : zSg f n pe g k) (hg : ¬ g = 0) (hk : k < n) (hg' : g' = 0) (e : x.toInt = k + 1) (z : ¬ (f x.toNatClampNeg).toInt < pe) : zSg f n pe g' k' := by
  rw [zSj h hg (j := 1) (by omega)] at z
  exact zSg_x h hg hk hg' (fun o => z o.2.1)
theorem zSg_x3 {f : Nat → Int32} {n pe g k g' k' : Int} {x y : Int32} (h : zSg f n pe g k) (hg : ¬ g = 0) (hk : k < n) (hg' : g' = 0) (e : x.toInt = k) (e2 : y.toInt = k + 1) (z : (f x.toNatClampNeg).toInt = (f y.toNatClampNeg).toInt) : zSg f n pe g' k' := by
  rw [zSj h hg (j := 0) (by omega), zSj h hg (j := 1) (by omega)] at z
  exact zSg_x h hg hk hg' (fun o => o.2.2.1 z)
theorem zSg_x4 {f : Nat → Int32} {n pe g k g' k' : Int} {x : Int32} (h : zSg f n pe g k) (hg : ¬ g = 0) (hk : k < n) (hg' : g' = 0) (e : x.toInt = k + 2) (z : ¬ (f x.toNatClampNeg).toInt < 2) : zSg f n pe g' k' := by
  rw [zSj h hg (j := 2) (by omega)] at z
  exact zSg_x h hg hk hg' (fun o => z (by have := o.2.2.2; omega))
theorem zSg_ey {f : Nat → Int32} {n pe g k : Int} (h : zSg f n pe g k) (hg : ¬ g = 0) (e : n ≤ k) : zSaid f n pe := by
  obtain ⟨h1, h2, h3⟩ := zSg_i h hg
  exact zSi_e h3 h1 h2 (by omega)
theorem zSg_en {f : Nat → Int32} {n pe g k : Int} (h : zSg f n pe g k) (hg : g = 0) : ¬ zSaid f n pe := by
  rcases h with ⟨h, _⟩ | ⟨_, h⟩
  · omega
  · exact h
/-- one set's own row -/
def zIn (f : Nat → Int32) (n : Int) (b : Nat → Int32) (s : Int32) (k : Int) : Prop := (b s.toNatClampNeg = 1 ∧ zFi f s k) ∨ (b s.toNatClampNeg = 0 ∧ ¬ zFs f n s)
theorem zIn_0 {f : Nat → Int32} {n : Int} {b : Nat → Int32} {s : Int32} {k : Int} (h : b s.toNatClampNeg = 1) (e : k = 0) : zIn f n b s k := Or.inl ⟨h, zFi_0 e⟩
theorem zIn_i {f : Nat → Int32} {n : Int} {b : Nat → Int32} {s : Int32} {k : Int} (h : zIn f n b s k) (c : ¬ (b s.toNatClampNeg).toInt = 0) : zFi f s k := by
  rcases h with ⟨_, h⟩ | ⟨h, _⟩
  · exact h
  · exact absurd ((congrArg Int32.toInt h).trans (by decide)) c
theorem zIn_y {f : Nat → Int32} {n : Int} {b b' : Nat → Int32} {s x0 x1 x2 : Int32} {k k' : Int} (h : zIn f n b s k) (c : ¬ (b s.toNatClampNeg).toInt = 0) (e0 : x0.toInt = k) (e1 : x1.toInt = k + 1) (e2 : x2.toInt = k + 2) (z : zAns s (f x0.toNatClampNeg) (f x1.toNatClampNeg) ↔ (f x2.toNatClampNeg).toInt = 1) (hb : b' s.toNatClampNeg = 1) (e : k' = k + 3) : zIn f n b' s k' :=
  Or.inl ⟨hb, zFi_s (zIn_i h c) e0 e1 e2 z e⟩
theorem zIn_n {f : Nat → Int32} {n : Int} {b b' : Nat → Int32} {s x0 x1 x2 : Int32} {k k' : Int} (h : zIn f n b s k) (c : ¬ (b s.toNatClampNeg).toInt = 0) (hn : n % 3 = 0) (hk : k < n) (e0 : x0.toInt = k) (e1 : x1.toInt = k + 1) (e2 : x2.toInt = k + 2) (z : ¬ (zAns s (f x0.toNatClampNeg) (f x1.toNatClampNeg) ↔ (f x2.toNatClampNeg).toInt = 1)) (hb : b' s.toNatClampNeg = 0) : zIn f n b' s k' := by
  have h3 := zIn_i h c
  exact Or.inr ⟨hb, zFi_x h3 (by have := h3.1; omega) e0 e1 e2 z⟩
theorem zHr_k {f : Nat → Int32} {n : Int} {b : Nat → Int32} {k c : Int} {x v : Int32} (h : zHr f n b k c) (hx : x.toInt = k) : zHr f n (upd b x.toNatClampNeg v) k c := by
  obtain ⟨h0, h1, h2⟩ := h
  have e : ∀ j : Nat, j < k.toNat → upd b x.toNatClampNeg v j = b j := fun j hj => by rw [zcl]; unfold upd; rw [if_neg (by omega)]
  exact ⟨h0, fun j hj => by rw [e j (by omega)]; exact h1 j hj, by rw [zCn_c _ e]; exact h2⟩
theorem zupd_s (b : Nat → Int32) (i : Nat) : upd b i (b i) = b := by
  funext j; unfold upd
  by_cases q : j = i
  · rw [if_pos q, q]
  · rw [if_neg q]
theorem zHr_y {f : Nat → Int32} {n : Int} {b : Nat → Int32} {k k2 k' c c' : Int} {x : Int32} (h : zHr f n b k c) (hx : x.toInt = k) (i : zIn f n b x k2) (hn : n % 3 = 0) (o : n ≤ k2 ∨ (b x.toNatClampNeg).toInt = 0) (v : ¬ (b x.toNatClampNeg).toInt = 0) (e : k' = k + 1) (ec : c' = c + 1) : zHr f n b k' c' := by
  have h3 := zIn_i i v
  have hv : b x.toNatClampNeg = 1 := by
    rcases i with ⟨i, _⟩ | ⟨i, _⟩
    · exact i
    · exact absurd ((congrArg Int32.toInt i).trans (by decide)) v
  have z := zHr_s (v := b x.toNatClampNeg) h hx (Or.inl ⟨hv, zFi_e h3 hn (by have := h3.1; omega), ec⟩) e
  rw [zupd_s] at z; exact z
theorem zHr_n {f : Nat → Int32} {n : Int} {b : Nat → Int32} {k k2 k' c c' : Int} {x : Int32} (h : zHr f n b k c) (hx : x.toInt = k) (i : zIn f n b x k2) (v : (b x.toNatClampNeg).toInt = 0) (e : k' = k + 1) (ec : c' = c) : zHr f n b k' c' := by
  have hv : b x.toNatClampNeg = 0 ∧ ¬ zFs f n x := by
    rcases i with ⟨i, _⟩ | i
    · exact absurd ((congrArg Int32.toInt i).symm.trans v) (by decide)
    · exact i
  have z := zHr_s (v := b x.toNatClampNeg) h hx (Or.inr ⟨hv.1, hv.2, ec⟩) e
  rw [zupd_s] at z; exact z
theorem zshx {x y : Int32} (e : x.toInt = y.toInt) : (1 : Int32) <<< (x &&& 31) = (1 : Int32) <<< (y &&& 31) := by rw [Int32.toInt_inj.mp e]
theorem zpw {x y : Int} (e : x = y) : ((2 ^ x.toNat : Nat) : Int) = ((2 ^ y.toNat : Nat) : Int) := by subst e; rfl
theorem zLi1 {f f' : Nat → Int32} {z t P P' : Int} (hR : f = f') (hz : z = t) (eP : P = P') (h : z ≤ 36 ∧ zSaid f z P) (h' : ¬ zSaid f' t P') : False := by
  subst hR; subst hz; subst eP; exact h' h.2
theorem zLi2 {f f' : Nat → Int32} {z t P P' : Int} (hR : f = f') (hz : z = t) (eP : P = P') (h : ¬ (z ≤ 36 ∧ zSaid f z P)) (h' : zSaid f' t P') : False := by
  subst hR; subst hz; subst eP; exact h ⟨h'.1, h'⟩
set_option maxRecDepth 100000 in
set_option maxHeartbeats 4000000 in
theorem m_isOfF (l : Launch) (g : zG) (st0 : Int32) (k : Int32)  : zM' g l yX12_isOf (Cond.code yX12_isOf cX12_isOf 2 (some .boolean) :: zB) ({ frames := 0, cells := 0, slots := 0, locals := 0 } : Room) [.int st0, .int k] [] (fun (q : Int32) => some (.int q)) (fun (q : Int32) => (q = 1 ∧ (zbt st0 k).toInt = 1 ∨ q = 0 ∧ (zbt st0 k).toInt = 0)) (fun (q : Int32) => []) := by
  refine zM'.of (cc := cX12_isOf) (maxL := 2) (rt := (some .boolean)) (by decide) rfl (Nat.le_of_ble_eq_true rfl) ?_
  intro p e s m args below meth c A ls St hr hlocks hin hK hT hA hP hD hS hl
  obtain ⟨hx, hb, hml, hown, hts⟩ := id St
  have hl : lv_has ls 2 [(0, .int st0), (1, .int k)] := hl
  refine lv_iload_n hx hb dX12_isOf_0 rfl (lv_at hl 0 rfl) ?_
  refine lv_iload_n hx hb dX12_isOf_1 rfl (lv_at hl 1 rfl) ?_
  refine lv_ishr hx hb dX12_isOf_2 ?_
  refine lv_iconst (v := 1) hx hb dX12_isOf_3 (by decide) ?_
  refine lv_iand hx hb dX12_isOf_4 ?_
  refine zgp2 (P := fun r9 : Int32 => r9 = zbt st0 k) rfl (fun x_1 hx_1 => ?_)
  refine lv_iconst (v := 1) hx hb dX12_isOf_5 (by decide) ?_
  refine lv_icmp_ne (tgt := 13) hx hb dX12_isOf_6 (by decide) (fun cb9 => ?_) (fun cb9 => ?_)
  · skip
    have c2 : ¬ x_1.toInt = 1 := zne cb9 rfl (by decide)
    refine lv_iconst (v := 0) hx hb dX12_isOf_13 (by decide) ?_
    have hP : va_P g.1 vwCl (List.flatten []) s.heap := hP
    have hD : va_D A (List.flatten []) := hD
    exact mret_z hx hb hr hlocks hS (Nat.le_of_ble_eq_true rfl) (Nat.le_of_ble_eq_true rfl) dX12_isOf_14 ((0 : Int32)) rfl (by decide) (show (0 = 1 ∧ (zbt st0 k).toInt = 1 ∨ 0 = 0 ∧ (zbt st0 k).toInt = 0) from (Or.inr ⟨rfl, zb_0 hx_1 c2⟩)) hP hD
  · skip
    have c3 : x_1.toInt = 1 := zeq cb9 rfl (by decide)
    have n4 : 1 ≤ x_1.toInt := Int.le_trans (Int.le_refl _) (Int.le_of_eq c3.symm)
    have n5 : x_1.toInt ≤ 1 := Int.le_trans (Int.le_of_eq c3) (Int.le_refl _)
    refine lv_iconst (v := 1) hx hb dX12_isOf_9 (by decide) ?_
    refine lv_goto (tgt := 14) hx hb dX12_isOf_10 (by decide) ?_
    have hP : va_P g.1 vwCl (List.flatten []) s.heap := hP
    have hD : va_D A (List.flatten []) := hD
    exact mret_z hx hb hr hlocks hS (Nat.le_of_ble_eq_true rfl) (Nat.le_of_ble_eq_true rfl) dX12_isOf_14 ((1 : Int32)) rfl (by decide) (show (1 = 1 ∧ (zbt st0 k).toInt = 1 ∨ 1 = 0 ∧ (zbt st0 k).toInt = 0) from (Or.inl ⟨rfl, zb_1 hx_1 c3⟩)) hP hD
set_option maxRecDepth 100000 in
set_option maxHeartbeats 4000000 in
theorem m_saysF (l : Launch) (g : zG) (st0 : Int32) (x1 : Int32) (x2 : Int32)  : zM' g l yX12_says (Cond.code yX12_says cX12_says 3 (some .boolean) :: zB) ({ frames := 1, cells := 0, slots := 0, locals := 21 } : Room) [.int st0, .int x1, .int x2] [] (fun (q : Int32) => some (.int q)) (fun (q : Int32) => (q = 1 ∧ zAns st0 x1 x2 ∨ q = 0 ∧ ¬ zAns st0 x1 x2)) (fun (q : Int32) => []) := by
  refine zM'.of (cc := cX12_says) (maxL := 3) (rt := (some .boolean)) (by decide) rfl (Nat.le_of_ble_eq_true rfl) ?_
  intro p e s m args below meth c A ls St hr hlocks hin hK hT hA hP hD hS hl
  obtain ⟨hx, hb, hml, hown, hts⟩ := id St
  have hl : lv_has ls 3 [(0, .int st0), (1, .int x1), (2, .int x2)] := hl
  refine lv_iload_n hx hb dX12_says_0 rfl (lv_at hl 0 rfl) ?_
  refine lv_iload_n hx hb dX12_says_1 rfl (lv_at hl 1 rfl) ?_
  refine mcallS' (g := g) (As := [.int st0, .int x1]) (rest := []) St hK hT hA hP hD hS hl.1 [] [] rfl rfl rfl (m_isOfF l g st0 x1 ) (va_cwS 2 hts (zgL (zl3 k1062 k1063 k839) k829) rfl rfl rfl (by decide +kernel) ⟨Nat.le_of_ble_eq_true rfl, Nat.le_of_ble_eq_true rfl⟩) rfl rfl (Nat.le_of_ble_eq_true rfl) dX12_says_2 ⟨(Nat.le_of_ble_eq_true rfl), (Nat.le_of_ble_eq_true rfl)⟩ (fun q_1 H locs hq2 hP hD hS => ?_)
  replace hq2 : (q_1 = 1 ∧ (zbt st0 x1).toInt = 1 ∨ q_1 = 0 ∧ (zbt st0 x1).toInt = 0) := hq2
  have hP : va_P g.1 vwCl (List.flatten []) H := hP
  have hD : va_D A (List.flatten []) := hD
  refine W.widen (k := 0) (n := 0) (Nat.le_of_ble_eq_true rfl) (Nat.le_of_ble_eq_true rfl) ?_
  refine W.eq (g2 := F0 m 5 ls [.int q_1]) rfl ?_
  rcases hq2 with ⟨rfl, hq2_k⟩ | ⟨rfl, hq2_k⟩
  · skip
    refine lv_iload_n hx hb dX12_says_5 rfl (lv_at hl 0 rfl) ?_
    refine lv_iload_n hx hb dX12_says_6 rfl (lv_at hl 2 rfl) ?_
    refine mcallS' (g := g) (As := [.int st0, .int x2]) (rest := [.int 1]) St hK hT hA hP hD hS hl.1 [] [] rfl rfl rfl (m_isOfF l g st0 x2 ) (va_cwS 2 hts (zgL (zl3 k1062 k1063 k839) k829) rfl rfl rfl (by decide +kernel) ⟨Nat.le_of_ble_eq_true rfl, Nat.le_of_ble_eq_true rfl⟩) rfl rfl (Nat.le_of_ble_eq_true rfl) dX12_says_7 ⟨(Nat.le_of_ble_eq_true rfl), (Nat.le_of_ble_eq_true rfl)⟩ (fun q_3 H locs hq4 hP hD hS => ?_)
    replace hq4 : (q_3 = 1 ∧ (zbt st0 x2).toInt = 1 ∨ q_3 = 0 ∧ (zbt st0 x2).toInt = 0) := hq4
    have hP : va_P g.1 vwCl (List.flatten []) H := hP
    have hD : va_D A (List.flatten []) := hD
    refine W.widen (k := 0) (n := 0) (Nat.le_of_ble_eq_true rfl) (Nat.le_of_ble_eq_true rfl) ?_
    refine W.eq (g2 := F0 m 10 ls [.int q_3, .int 1]) rfl ?_
    rcases hq4 with ⟨rfl, hq4_k⟩ | ⟨rfl, hq4_k⟩
    · skip
      refine lv_icmp_ne (tgt := 17) hx hb dX12_says_10 (by decide) (fun c5 => absurd (by decide) c5) (fun _ => ?_)
      refine lv_iconst (v := 1) hx hb dX12_says_13 (by decide) ?_
      refine lv_goto (tgt := 18) hx hb dX12_says_14 (by decide) ?_
      have hP : va_P g.1 vwCl (List.flatten []) H := hP
      have hD : va_D A (List.flatten []) := hD
      exact mret_z hx hb hr hlocks hS (Nat.le_of_ble_eq_true rfl) (Nat.le_of_ble_eq_true rfl) dX12_says_18 ((1 : Int32)) rfl (by decide) (show (1 = 1 ∧ zAns st0 x1 x2 ∨ 1 = 0 ∧ ¬ zAns st0 x1 x2) from (Or.inl ⟨rfl, zAnM_y hq2_k hq4_k⟩)) hP hD
    · skip
      refine lv_icmp_ne (tgt := 17) hx hb dX12_says_10 (by decide) (fun _ => ?_) (fun c6 => absurd c6 (by decide))
      refine lv_iconst (v := 0) hx hb dX12_says_17 (by decide) ?_
      have hP : va_P g.1 vwCl (List.flatten []) H := hP
      have hD : va_D A (List.flatten []) := hD
      exact mret_z hx hb hr hlocks hS (Nat.le_of_ble_eq_true rfl) (Nat.le_of_ble_eq_true rfl) dX12_says_18 ((0 : Int32)) rfl (by decide) (show (0 = 1 ∧ zAns st0 x1 x2 ∨ 0 = 0 ∧ ¬ zAns st0 x1 x2) from (Or.inr ⟨rfl, zAnM_n hq2_k hq4_k (by decide)⟩)) hP hD
  · skip
    refine lv_iload_n hx hb dX12_says_5 rfl (lv_at hl 0 rfl) ?_
    refine lv_iload_n hx hb dX12_says_6 rfl (lv_at hl 2 rfl) ?_
    refine mcallS' (g := g) (As := [.int st0, .int x2]) (rest := [.int 0]) St hK hT hA hP hD hS hl.1 [] [] rfl rfl rfl (m_isOfF l g st0 x2 ) (va_cwS 2 hts (zgL (zl3 k1062 k1063 k839) k829) rfl rfl rfl (by decide +kernel) ⟨Nat.le_of_ble_eq_true rfl, Nat.le_of_ble_eq_true rfl⟩) rfl rfl (Nat.le_of_ble_eq_true rfl) dX12_says_7 ⟨(Nat.le_of_ble_eq_true rfl), (Nat.le_of_ble_eq_true rfl)⟩ (fun q_7 H locs hq8 hP hD hS => ?_)
    replace hq8 : (q_7 = 1 ∧ (zbt st0 x2).toInt = 1 ∨ q_7 = 0 ∧ (zbt st0 x2).toInt = 0) := hq8
    have hP : va_P g.1 vwCl (List.flatten []) H := hP
    have hD : va_D A (List.flatten []) := hD
    refine W.widen (k := 0) (n := 0) (Nat.le_of_ble_eq_true rfl) (Nat.le_of_ble_eq_true rfl) ?_
    refine W.eq (g2 := F0 m 10 ls [.int q_7, .int 0]) rfl ?_
    rcases hq8 with ⟨rfl, hq8_k⟩ | ⟨rfl, hq8_k⟩
    · skip
      refine lv_icmp_ne (tgt := 17) hx hb dX12_says_10 (by decide) (fun _ => ?_) (fun c9 => absurd c9 (by decide))
      refine lv_iconst (v := 0) hx hb dX12_says_17 (by decide) ?_
      have hP : va_P g.1 vwCl (List.flatten []) H := hP
      have hD : va_D A (List.flatten []) := hD
      exact mret_z hx hb hr hlocks hS (Nat.le_of_ble_eq_true rfl) (Nat.le_of_ble_eq_true rfl) dX12_says_18 ((0 : Int32)) rfl (by decide) (show (0 = 1 ∧ zAns st0 x1 x2 ∨ 0 = 0 ∧ ¬ zAns st0 x1 x2) from (Or.inr ⟨rfl, zAnM_n hq2_k hq8_k (by decide)⟩)) hP hD
    · skip
      refine lv_icmp_ne (tgt := 17) hx hb dX12_says_10 (by decide) (fun c10 => absurd (by decide) c10) (fun _ => ?_)
      refine lv_iconst (v := 1) hx hb dX12_says_13 (by decide) ?_
      refine lv_goto (tgt := 18) hx hb dX12_says_14 (by decide) ?_
      have hP : va_P g.1 vwCl (List.flatten []) H := hP
      have hD : va_D A (List.flatten []) := hD
      exact mret_z hx hb hr hlocks hS (Nat.le_of_ble_eq_true rfl) (Nat.le_of_ble_eq_true rfl) dX12_says_18 ((1 : Int32)) rfl (by decide) (show (1 = 1 ∧ zAns st0 x1 x2 ∨ 1 = 0 ∧ ¬ zAns st0 x1 x2) from (Or.inl ⟨rfl, zAnM_y hq2_k hq8_k⟩)) hP hD
set_option maxRecDepth 100000 in
set_option maxHeartbeats 4000000 in
theorem m_toldF (l : Launch) (g : zG) (o : Nat) (a : Nat → Nat) (th : Int32) (hi : Int32) (ac : Int32) (tp : Int32) (ba : Int32) (en : Int32) (tA : Int32) (fl : Int32) (de : Int32) (iD : Int32) (iO : Int32) (tU : Int32) (fm : Nat → Int32) (fk : Nat → Int32) (fa : Nat → Int32) (fc : Nat → Int32) (ft : Nat → Int32) (ff : Nat → Int32) (fb : Nat → Int32) (fi : Nat → Int32) (rfm : rM fm) (htp : 0 ≤ tp.toInt ∧ tp.toInt ≤ 400) : zM' g l yX12_told (Cond.code yX12_told cX12_told 6 (some .int) :: zB) ({ frames := 2, cells := 0, slots := 0, locals := 43 } : Room) [.ref o] [bMo g o a th hi ac tp ba en tA fl de iD iO tU fm fk fa fc ft ff fb fi] (fun u : (Nat → Int32) × Int32 => (fun (fi2 : Nat → Int32) (q : Int32) => some (.int q)) (u.1) (u.2)) (fun u : (Nat → Int32) × Int32 => (fun (fi2 : Nat → Int32) (q : Int32) => (((0 ≤ q.toInt ∧ q.toInt ≤ 256) ∧ zSaid ft tp.toInt (fm 3).toInt ∧ zHr ft tp.toInt fi2 ((2 ^ (fm 3).toInt.toNat : Nat) : Int) q.toInt) ∨ q = (-1) ∧ ¬ zSaid ft tp.toInt (fm 3).toInt)) (u.1) (u.2)) (fun u : (Nat → Int32) × Int32 => (fun (fi2 : Nat → Int32) (q : Int32) => [bMo g o a th hi ac 0 ba en tA fl de iD iO tU fm fk fa fc ft ff fb fi2]) (u.1) (u.2)) := by
  refine zM'.of (cc := cX12_told) (maxL := 6) (rt := (some .int)) (by decide) rfl (Nat.le_of_ble_eq_true rfl) ?_
  intro p e s m args below meth c A ls St hr hlocks hin hK hT hA hP hD hS hl
  obtain ⟨hx, hb, hml, hown, hts⟩ := id St
  have hl : lv_has ls 6 [(0, .ref o)] := hl
  refine lv_aload_n hx hb dX12_told_0 rfl (lv_at hl 0 rfl) ?_
  refine va_get (D := g.1) (ci := 10) (v := .int tp) (C := RX12) (T := TX12) (N := 20) hx hb hts izRX12 hown hK hP 0 rfl rfl 8 (by decide) (hts _ k873) (fun _ h9 => h9) rfl dX12_told_1 ?_
  refine lv_istore_n (lv' := [(1, .int tp), (0, .ref o)]) hx hb dX12_told_4 rfl hl (by decide) rfl (fun ls hl => ?_)
  refine lv_aload_n hx hb dX12_told_5 rfl (lv_at hl 1 rfl) ?_
  refine lv_iconst (v := 0) hx hb dX12_told_6 (by decide) ?_
  refine va_put (D := g.1) (ci := 10) (v := .int 0) (ty := .int) (C := RX12) (T := TX12) (N := 20) hx hb hts izRX12 tyX12 tyX12_ok nmX12 hown hK hP hD hS 0 rfl rfl 8 (by decide) (hts _ k873) (fun _ h9 => h9) rfl (by decide +kernel) rfl rfl (Nat.le_of_ble_eq_true rfl) dX12_told_7 (fun H locs hP hD hS => ?_)
  have hP : va_P g.1 vwCl (List.flatten [bMo g o a th hi ac 0 ba en tA fl de iD iO tU fm fk fa fc ft ff fb fi]) H := hP
  have hD : va_D A (List.flatten [bMo g o a th hi ac 0 ba en tA fl de iD iO tU fm fk fa fc ft ff fb fi]) := hD
  refine lv_iload_n hx hb dX12_told_10 rfl (lv_at hl 0 rfl) ?_
  refine lv_iconst (v := 3) hx hb dX12_told_11 (by decide) ?_
  refine lv_irem hx hb dX12_told_12 (by decide) ?_
  refine zgp2 (P := fun r9 : Int32 => r9.toInt = tp.toInt % 3) (zr3m ⟨htp.1, htp.2⟩) (fun x_1 hx_1 => ?_)
  refine lv_if_ne (tgt := 26) hx hb dX12_told_13 (by decide) (fun cb9 => ?_) (fun cb9 => ?_)
  · skip
    have c2 : ¬ x_1.toInt = 0 := zne cb9 rfl (by decide)
    refine lv_iconst (v := 0) hx hb dX12_told_26 (by decide) ?_
    refine lv_istore_n (lv' := [(2, .int 0), (1, .int tp), (0, .ref o)]) hx hb dX12_told_27 rfl hl (by decide) rfl (fun ls hl => ?_)
    refine lv_iconst (v := 0) hx hb dX12_told_28 (by decide) ?_
    refine lv_istore_n (lv' := [(3, .int 0), (2, .int 0), (1, .int tp), (0, .ref o)]) hx hb dX12_told_29 rfl hl (by decide) rfl (fun ls hl => ?_)
    have hl := lv_sub (l' := [(0, .ref o), (1, .int tp), (2, .int 0), (3, .int 0)]) hl [3, 2, 1, 0] rfl
    have LP30_8 : ∀ (kf : Nat) (x_3 : Int32) (x_4 : Int32), (0 ≤ x_3.toInt ∧ x_3.toInt ≤ 1) → (0 ≤ x_4.toInt ∧ x_4.toInt ≤ 402) → (zSg ft tp.toInt (fm 3).toInt x_3.toInt x_4.toInt) → ∀ (H : Heap) (locs : List Loc) (ls : Array Slot), ((402 - x_4.toInt).toNat) < kf → va_P g.1 vwCl (List.flatten [bMo g o a th hi ac 0 ba en tA fl de iD iO tU fm fk fa fc ft ff fb fi]) H → va_D A (List.flatten [bMo g o a th hi ac 0 ba en tA fl de iD iO tU fm fk fa fc ft ff fb fi]) → va_S A s.heap H locs → lv_has ls 6 [(0, .ref o), (1, .int tp), (2, .int x_3), (3, .int x_4)] → W p l e ({ frames := 2, cells := 0, slots := 0, locals := 43 } : Room) s m args below meth c H locs (0) (0) (zF g (fun u : (Nat → Int32) × Int32 => (fun (fi2 : Nat → Int32) (q : Int32) => some (.int q)) (u.1) (u.2)) (fun u : (Nat → Int32) × Int32 => (fun (fi2 : Nat → Int32) (q : Int32) => (((0 ≤ q.toInt ∧ q.toInt ≤ 256) ∧ zSaid ft tp.toInt (fm 3).toInt ∧ zHr ft tp.toInt fi2 ((2 ^ (fm 3).toInt.toNat : Nat) : Int) q.toInt) ∨ q = (-1) ∧ ¬ zSaid ft tp.toInt (fm 3).toInt)) (u.1) (u.2)) (fun u : (Nat → Int32) × Int32 => (fun (fi2 : Nat → Int32) (q : Int32) => [bMo g o a th hi ac 0 ba en tA fl de iD iO tU fm fk fa fc ft ff fb fi2]) (u.1) (u.2)) ({ frames := 2, cells := 0, slots := 0, locals := 43 } : Room) below args s A) (F0 m 30 ls []) := by
      intro kf
      induction kf with
      | zero => intro x_3 x_4 i5 i6 i7 H locs ls hk; exact absurd hk (Nat.not_lt_zero _)
      | succ kf ih30_9 =>
        intro x_3 x_4 i5 i6 i7 H locs ls hk30_9 hP hD hS hl
        refine lv_iload_n hx hb dX12_told_30 rfl (lv_at hl 3 rfl) ?_
        refine lv_iload_n hx hb dX12_told_31 rfl (lv_at hl 1 rfl) ?_
        refine lv_icmp_ge (tgt := 112) hx hb dX12_told_32 (by decide) (fun cb9 => ?_) (fun cb9 => ?_)
        · skip
          have c10 : tp.toInt ≤ x_4.toInt := zle cb9 rfl rfl
          refine lv_iload_n hx hb dX12_told_112 rfl (lv_at hl 2 rfl) ?_
          refine lv_if_ne (tgt := 118) hx hb dX12_told_113 (by decide) (fun cb9 => ?_) (fun cb9 => ?_)
          · skip
            have c11 : ¬ x_3.toInt = 0 := zne cb9 rfl (by decide)
            have n12 : 1 ≤ x_3.toInt := zN1 c11 i5.1 (by decide)
            have w13 : zSaid ft tp.toInt (fm 3).toInt := zSg_ey i7 (by omega) (by omega)
            have w14 : tp.toInt % 3 = 0 ∧ tp.toInt ≤ 36 := ⟨w13.2.1, w13.1⟩
            refine lv_iconst (v := 0) hx hb dX12_told_118 (by decide) ?_
            refine lv_istore_n (lv' := [(3, .int 0), (0, .ref o), (1, .int tp), (2, .int x_3)]) hx hb dX12_told_119 rfl hl (by decide) rfl (fun ls hl => ?_)
            refine lv_iconst (v := 0) hx hb dX12_told_120 (by decide) ?_
            refine lv_istore (lv' := [(4, .int 0), (3, .int 0), (0, .ref o), (1, .int tp), (2, .int x_3)]) hx hb dX12_told_121 hl (by decide) rfl (fun ls hl => ?_)
            have hl := lv_sub (l' := [(0, .ref o), (1, .int tp), (2, .int x_3), (3, .int 0), (4, .int 0)]) hl [2, 3, 4, 1, 0] rfl
            have LP123_23 : ∀ (kf : Nat) (x_15 : Int32) (x_16 : Int32) (fi_17 : Nat → Int32), (0 ≤ x_15.toInt ∧ x_15.toInt ≤ 256) → (0 ≤ x_16.toInt ∧ x_16.toInt ≤ 256) → (zHr ft tp.toInt fi_17 x_16.toInt x_15.toInt) → (x_15.toInt ≤ x_16.toInt) → (x_16.toInt ≤ ((2 ^ (fm 3).toInt.toNat : Nat) : Int)) → ∀ (H : Heap) (locs : List Loc) (ls : Array Slot), ((257 - x_16.toInt).toNat) < kf → va_P g.1 vwCl (List.flatten [bMo g o a th hi ac 0 ba en tA fl de iD iO tU fm fk fa fc ft ff fb fi_17]) H → va_D A (List.flatten [bMo g o a th hi ac 0 ba en tA fl de iD iO tU fm fk fa fc ft ff fb fi_17]) → va_S A s.heap H locs → lv_has ls 6 [(0, .ref o), (1, .int tp), (2, .int x_3), (3, .int x_15), (4, .int x_16)] → W p l e ({ frames := 2, cells := 0, slots := 0, locals := 43 } : Room) s m args below meth c H locs (0) (0) (zF g (fun u : (Nat → Int32) × Int32 => (fun (fi2 : Nat → Int32) (q : Int32) => some (.int q)) (u.1) (u.2)) (fun u : (Nat → Int32) × Int32 => (fun (fi2 : Nat → Int32) (q : Int32) => (((0 ≤ q.toInt ∧ q.toInt ≤ 256) ∧ zSaid ft tp.toInt (fm 3).toInt ∧ zHr ft tp.toInt fi2 ((2 ^ (fm 3).toInt.toNat : Nat) : Int) q.toInt) ∨ q = (-1) ∧ ¬ zSaid ft tp.toInt (fm 3).toInt)) (u.1) (u.2)) (fun u : (Nat → Int32) × Int32 => (fun (fi2 : Nat → Int32) (q : Int32) => [bMo g o a th hi ac 0 ba en tA fl de iD iO tU fm fk fa fc ft ff fb fi2]) (u.1) (u.2)) ({ frames := 2, cells := 0, slots := 0, locals := 43 } : Room) below args s A) (F0 m 123 ls []) := by
              intro kf
              induction kf with
              | zero => intro x_15 x_16 fi_17 i18 i19 i20 i21 i22 H locs ls hk; exact absurd hk (Nat.not_lt_zero _)
              | succ kf ih123_24 =>
                intro x_15 x_16 fi_17 i18 i19 i20 i21 i22 H locs ls hk123_24 hP hD hS hl
                refine lv_iload hx hb dX12_told_123 (lv_at hl 4 rfl) ?_
                refine lv_iconst (v := 1) hx hb dX12_told_125 (by decide) ?_
                refine lv_aload_n hx hb dX12_told_126 rfl (lv_at hl 0 rfl) ?_
                refine va_get (D := g.1) (ci := 10) (v := .ref (a 0)) (C := RX12) (T := TX12) (N := 20) hx hb hts izRX12 hown hK hP 0 rfl rfl 1 (by decide) (hts _ k815) (fun _ h9 => h9) rfl dX12_told_127 ?_
                refine lv_iconst (v := 3) hx hb dX12_told_130 (by decide) ?_
                refine va_iald hx hb hK hP 1 0 rfl rfl (zin rfl) dX12_told_131 ?_
                refine zgq (r := fm 3) rfl (rM3 rfm) (fun x_25 hx_25 => ?_)
                refine lv_ishl hx hb dX12_told_132 ?_
                refine zgp2 (P := fun r9 : Int32 => r9.toInt = ((2 ^ x_25.toInt.toNat : Nat) : Int) ∧ 1 ≤ r9.toInt ∧ r9.toInt ≤ 256) (zshE ⟨hx_25.1, hx_25.2.1⟩) (fun x_26 hx_26 => ?_)
                have w27 : x_26.toInt = ((2 ^ (fm 3).toInt.toNat : Nat) : Int) := hx_26.1.trans (zpw (by omega))
                refine lv_icmp_ge (tgt := 247) hx hb dX12_told_133 (by decide) (fun cb9 => ?_) (fun cb9 => ?_)
                · skip
                  have c28 : x_26.toInt ≤ x_16.toInt := zle cb9 rfl rfl
                  have n29 : 1 ≤ x_16.toInt := Int.le_trans hx_26.2.1 c28
                  refine lv_iload_n hx hb dX12_told_247 rfl (lv_at hl 3 rfl) ?_
                  have hP : va_P g.1 vwCl (List.flatten [bMo g o a th hi ac 0 ba en tA fl de iD iO tU fm fk fa fc ft ff fb fi_17]) H := hP
                  have hD : va_D A (List.flatten [bMo g o a th hi ac 0 ba en tA fl de iD iO tU fm fk fa fc ft ff fb fi_17]) := hD
                  exact mret_i hx hb hr hlocks hS (Nat.le_of_ble_eq_true rfl) (Nat.le_of_ble_eq_true rfl) dX12_told_248 (fi_17, x_15) rfl (show (((0 ≤ x_15.toInt ∧ x_15.toInt ≤ 256) ∧ zSaid ft tp.toInt (fm 3).toInt ∧ zHr ft tp.toInt fi_17 ((2 ^ (fm 3).toInt.toNat : Nat) : Int) x_15.toInt) ∨ x_15 = (-1) ∧ ¬ zSaid ft tp.toInt (fm 3).toInt) from (Or.inl ⟨(by omega), w13, zHr_e i20 (by omega)⟩)) hP hD
                · skip
                  have c30 : x_16.toInt < x_26.toInt := zlti (Int32.not_le.mp cb9) rfl rfl
                  have n31 : x_16.toInt ≤ 255 := zL1 (b := 256) c30 hx_26.2.2 (by decide)
                  refine lv_aload_n hx hb dX12_told_136 rfl (lv_at hl 0 rfl) ?_
                  refine va_get (D := g.1) (ci := 10) (v := .ref (a 7)) (C := RX12) (T := TX12) (N := 20) hx hb hts izRX12 hown hK hP 0 rfl rfl 19 (by decide) (hts _ k823) (fun _ h9 => h9) rfl dX12_told_137 ?_
                  refine lv_iload hx hb dX12_told_140 (lv_at hl 4 rfl) ?_
                  refine lv_iconst (v := 1) hx hb dX12_told_142 (by decide) ?_
                  refine va_zast hx hb hK hP hD hS 8 1 rfl rfl (zinK (a := 0) (b := 255) i19.1 n31 (by decide)) dX12_told_143 (fun H locs hP hD hS => ?_)
                  obtain ⟨fi_32, ⟨hvfi_32, hrfi_32⟩, hP, hD⟩ : ∃ fi_32 : Nat → Int32, (fi_32 x_16.toNatClampNeg = 1 ∧ zHr ft tp.toInt fi_32 x_16.toInt x_15.toInt) ∧ va_P g.1 vwCl (List.flatten [bMo g o a th hi ac 0 ba en tA fl de iD iO tU fm fk fa fc ft ff fb fi_32]) H ∧ va_D A (List.flatten [bMo g o a th hi ac 0 ba en tA fl de iD iO tU fm fk fa fc ft ff fb fi_32]) := ⟨upd fi_17 x_16.toNatClampNeg (vp_nar .boolean 1), ⟨(by unfold upd; rw [if_pos rfl]; first | rfl | decide), zHr_k i20 rfl⟩, hP, hD⟩
                  refine lv_iconst (v := 0) hx hb dX12_told_144 (by decide) ?_
                  refine lv_istore (lv' := [(5, .int 0), (0, .ref o), (1, .int tp), (2, .int x_3), (3, .int x_15), (4, .int x_16)]) hx hb dX12_told_145 hl (by decide) rfl (fun ls hl => ?_)
                  have hl := lv_sub (l' := [(0, .ref o), (1, .int tp), (2, .int x_3), (3, .int x_15), (4, .int x_16), (5, .int 0)]) hl [1, 2, 3, 4, 5, 0] rfl
                  have LP147_38 : ∀ (kf : Nat) (x_33 : Int32) (fi_34 : Nat → Int32), (0 ≤ x_33.toInt ∧ x_33.toInt ≤ 39) → (zIn ft tp.toInt fi_34 x_16 x_33.toInt) → (zHr ft tp.toInt fi_34 x_16.toInt x_15.toInt) → ∀ (H : Heap) (locs : List Loc) (ls : Array Slot), ((39 - x_33.toInt).toNat) < kf → va_P g.1 vwCl (List.flatten [bMo g o a th hi ac 0 ba en tA fl de iD iO tU fm fk fa fc ft ff fb fi_34]) H → va_D A (List.flatten [bMo g o a th hi ac 0 ba en tA fl de iD iO tU fm fk fa fc ft ff fb fi_34]) → va_S A s.heap H locs → lv_has ls 6 [(0, .ref o), (1, .int tp), (2, .int x_3), (3, .int x_15), (4, .int x_16), (5, .int x_33)] → W p l e ({ frames := 2, cells := 0, slots := 0, locals := 43 } : Room) s m args below meth c H locs (0) (0) (zF g (fun u : (Nat → Int32) × Int32 => (fun (fi2 : Nat → Int32) (q : Int32) => some (.int q)) (u.1) (u.2)) (fun u : (Nat → Int32) × Int32 => (fun (fi2 : Nat → Int32) (q : Int32) => (((0 ≤ q.toInt ∧ q.toInt ≤ 256) ∧ zSaid ft tp.toInt (fm 3).toInt ∧ zHr ft tp.toInt fi2 ((2 ^ (fm 3).toInt.toNat : Nat) : Int) q.toInt) ∨ q = (-1) ∧ ¬ zSaid ft tp.toInt (fm 3).toInt)) (u.1) (u.2)) (fun u : (Nat → Int32) × Int32 => (fun (fi2 : Nat → Int32) (q : Int32) => [bMo g o a th hi ac 0 ba en tA fl de iD iO tU fm fk fa fc ft ff fb fi2]) (u.1) (u.2)) ({ frames := 2, cells := 0, slots := 0, locals := 43 } : Room) below args s A) (F0 m 147 ls []) := by
                    intro kf
                    induction kf with
                    | zero => intro x_33 fi_34 i35 i36 i37 H locs ls hk; exact absurd hk (Nat.not_lt_zero _)
                    | succ kf ih147_39 =>
                      intro x_33 fi_34 i35 i36 i37 H locs ls hk147_39 hP hD hS hl
                      refine lv_iload hx hb dX12_told_147 (lv_at hl 5 rfl) ?_
                      refine lv_iload_n hx hb dX12_told_149 rfl (lv_at hl 1 rfl) ?_
                      refine lv_icmp_ge (tgt := 223) hx hb dX12_told_150 (by decide) (fun cb9 => ?_) (fun cb9 => ?_)
                      · skip
                        have c40 : tp.toInt ≤ x_33.toInt := zle cb9 rfl rfl
                        have n41 : tp.toInt ≤ 39 := Int.le_trans c40 i35.2
                        refine lv_iload_n hx hb dX12_told_223 rfl (lv_at hl 3 rfl) ?_
                        refine lv_aload_n hx hb dX12_told_224 rfl (lv_at hl 0 rfl) ?_
                        refine va_get (D := g.1) (ci := 10) (v := .ref (a 7)) (C := RX12) (T := TX12) (N := 20) hx hb hts izRX12 hown hK hP 0 rfl rfl 19 (by decide) (hts _ k823) (fun _ h9 => h9) rfl dX12_told_225 ?_
                        refine lv_iload hx hb dX12_told_228 (lv_at hl 4 rfl) ?_
                        refine va_zald hx hb hK hP 8 1 rfl rfl (zinK (a := 0) (b := 255) i19.1 n31 (by decide)) dX12_told_230 ?_
                        refine lv_if_eq (tgt := 238) hx hb dX12_told_231 (by decide) (fun cb9 => ?_) (fun cb9 => ?_)
                        · skip
                          have c42 : (fi_34 x_16.toNatClampNeg).toInt = 0 := zeq cb9 rfl (by decide)
                          have n43 : 0 ≤ (fi_34 x_16.toNatClampNeg).toInt := Int.le_trans (Int.le_refl _) (Int.le_of_eq c42.symm)
                          have n44 : (fi_34 x_16.toNatClampNeg).toInt ≤ 0 := Int.le_trans (Int.le_of_eq c42) (Int.le_refl _)
                          refine lv_iconst (v := 0) hx hb dX12_told_238 (by decide) ?_
                          refine lv_iadd hx hb dX12_told_239 ?_
                          refine zg3 (zaddK (i := x_15.toInt) (j := 0) (a' := 0) (b' := 256) rfl (by decide) i18.1 i18.2 (Int.le_refl _) (Int.le_refl _) (by decide)) (fun x_45 hx_45 => ?_)
                          refine lv_istore_n (lv' := [(3, .int x_45), (0, .ref o), (1, .int tp), (2, .int x_3), (4, .int x_16), (5, .int x_33)]) hx hb dX12_told_240 rfl hl (by decide) rfl (fun ls hl => ?_)
                          refine ziinc3 (n' := 1) (a' := 1) (b' := 256) (lv' := fun v9 => [(4, .int v9), (3, .int x_45), (0, .ref o), (1, .int tp), (2, .int x_3), (5, .int x_33)]) hx hb dX12_told_241 hl (k := 4) rfl (by decide) (fun _ => rfl) (zaddK (i := x_16.toInt) (j := 1) rfl (by decide) i19.1 n31 (Int.le_refl _) (Int.le_refl _) (by decide)) (fun x_46 ls hx_46 hl => ?_)
                          refine lv_goto (tgt := 123) hx hb dX12_told_244 (by decide) ?_
                          have hl := lv_sub (l' := [(0, .ref o), (1, .int tp), (2, .int x_3), (3, .int x_45), (4, .int x_46), (5, .int x_33)]) hl [2, 3, 4, 1, 0, 5] rfl
                          have hP : va_P g.1 vwCl (List.flatten [bMo g o a th hi ac 0 ba en tA fl de iD iO tU fm fk fa fc ft ff fb fi_34]) H := hP
                          have hD : va_D A (List.flatten [bMo g o a th hi ac 0 ba en tA fl de iD iO tU fm fk fa fc ft ff fb fi_34]) := hD
                          exact ih123_24 x_45 x_46 fi_34 ⟨hx_45.2.1, hx_45.2.2⟩ ⟨(Int.le_trans (by decide) hx_46.2.1), hx_46.2.2⟩ (zHr_n i37 rfl i36 c42 (by omega) (by omega)) (by first | omega | assumption | decide) (by first | omega | assumption | decide) H _ ls (zmK hx_46.1 (by decide) n31 (by decide) hk123_24)  hP hD hS (lv_sub hl [0, 1, 2, 3, 4] rfl)
                        · skip
                          have c47 : ¬ (fi_34 x_16.toNatClampNeg).toInt = 0 := zne cb9 rfl (by decide)
                          refine lv_iconst (v := 1) hx hb dX12_told_234 (by decide) ?_
                          refine lv_goto (tgt := 239) hx hb dX12_told_235 (by decide) ?_
                          refine lv_iadd hx hb dX12_told_239 ?_
                          refine zg3 (zaddK (i := x_15.toInt) (j := 1) (a' := 1) (b' := 257) rfl (by decide) i18.1 i18.2 (Int.le_refl _) (Int.le_refl _) (by decide)) (fun x_48 hx_48 => ?_)
                          refine lv_istore_n (lv' := [(3, .int x_48), (0, .ref o), (1, .int tp), (2, .int x_3), (4, .int x_16), (5, .int x_33)]) hx hb dX12_told_240 rfl hl (by decide) rfl (fun ls hl => ?_)
                          refine ziinc3 (n' := 1) (a' := 1) (b' := 256) (lv' := fun v9 => [(4, .int v9), (3, .int x_48), (0, .ref o), (1, .int tp), (2, .int x_3), (5, .int x_33)]) hx hb dX12_told_241 hl (k := 4) rfl (by decide) (fun _ => rfl) (zaddK (i := x_16.toInt) (j := 1) rfl (by decide) i19.1 n31 (Int.le_refl _) (Int.le_refl _) (by decide)) (fun x_49 ls hx_49 hl => ?_)
                          refine lv_goto (tgt := 123) hx hb dX12_told_244 (by decide) ?_
                          have hl := lv_sub (l' := [(0, .ref o), (1, .int tp), (2, .int x_3), (3, .int x_48), (4, .int x_49), (5, .int x_33)]) hl [2, 3, 4, 1, 0, 5] rfl
                          have hP : va_P g.1 vwCl (List.flatten [bMo g o a th hi ac 0 ba en tA fl de iD iO tU fm fk fa fc ft ff fb fi_34]) H := hP
                          have hD : va_D A (List.flatten [bMo g o a th hi ac 0 ba en tA fl de iD iO tU fm fk fa fc ft ff fb fi_34]) := hD
                          exact ih123_24 x_48 x_49 fi_34 (by first | omega | assumption | decide) ⟨(Int.le_trans (by decide) hx_49.2.1), hx_49.2.2⟩ (zHr_y i37 rfl i36 (by omega) (by omega) c47 (by omega) (by omega)) (by first | omega | assumption | decide) (by first | omega | assumption | decide) H _ ls (zmK hx_49.1 (by decide) n31 (by decide) hk123_24)  hP hD hS (lv_sub hl [0, 1, 2, 3, 4] rfl)
                      · skip
                        have c50 : x_33.toInt < tp.toInt := zlti (Int32.not_le.mp cb9) rfl rfl
                        have n51 : 1 ≤ tp.toInt := zL2 (a := 0) c50 i35.1 (by decide)
                        refine lv_aload_n hx hb dX12_told_153 rfl (lv_at hl 0 rfl) ?_
                        refine va_get (D := g.1) (ci := 10) (v := .ref (a 7)) (C := RX12) (T := TX12) (N := 20) hx hb hts izRX12 hown hK hP 0 rfl rfl 19 (by decide) (hts _ k823) (fun _ h9 => h9) rfl dX12_told_154 ?_
                        refine lv_iload hx hb dX12_told_157 (lv_at hl 4 rfl) ?_
                        refine va_zald hx hb hK hP 8 1 rfl rfl (zinK (a := 0) (b := 255) i19.1 n31 (by decide)) dX12_told_159 ?_
                        refine lv_if_eq (tgt := 223) hx hb dX12_told_160 (by decide) (fun cb9 => ?_) (fun cb9 => ?_)
                        · skip
                          have c52 : (fi_34 x_16.toNatClampNeg).toInt = 0 := zeq cb9 rfl (by decide)
                          have n53 : 0 ≤ (fi_34 x_16.toNatClampNeg).toInt := Int.le_trans (Int.le_refl _) (Int.le_of_eq c52.symm)
                          have n54 : (fi_34 x_16.toNatClampNeg).toInt ≤ 0 := Int.le_trans (Int.le_of_eq c52) (Int.le_refl _)
                          refine lv_iload_n hx hb dX12_told_223 rfl (lv_at hl 3 rfl) ?_
                          refine lv_aload_n hx hb dX12_told_224 rfl (lv_at hl 0 rfl) ?_
                          refine va_get (D := g.1) (ci := 10) (v := .ref (a 7)) (C := RX12) (T := TX12) (N := 20) hx hb hts izRX12 hown hK hP 0 rfl rfl 19 (by decide) (hts _ k823) (fun _ h9 => h9) rfl dX12_told_225 ?_
                          refine lv_iload hx hb dX12_told_228 (lv_at hl 4 rfl) ?_
                          refine va_zald hx hb hK hP 8 1 rfl rfl (zinK (a := 0) (b := 255) i19.1 n31 (by decide)) dX12_told_230 ?_
                          refine lv_if_eq (tgt := 238) hx hb dX12_told_231 (by decide) (fun cb9 => ?_) (fun cb9 => ?_)
                          · skip
                            have c55 : (fi_34 x_16.toNatClampNeg).toInt = 0 := zeq cb9 rfl (by decide)
                            refine lv_iconst (v := 0) hx hb dX12_told_238 (by decide) ?_
                            refine lv_iadd hx hb dX12_told_239 ?_
                            refine zg3 (zaddK (i := x_15.toInt) (j := 0) (a' := 0) (b' := 256) rfl (by decide) i18.1 i18.2 (Int.le_refl _) (Int.le_refl _) (by decide)) (fun x_56 hx_56 => ?_)
                            refine lv_istore_n (lv' := [(3, .int x_56), (0, .ref o), (1, .int tp), (2, .int x_3), (4, .int x_16), (5, .int x_33)]) hx hb dX12_told_240 rfl hl (by decide) rfl (fun ls hl => ?_)
                            refine ziinc3 (n' := 1) (a' := 1) (b' := 256) (lv' := fun v9 => [(4, .int v9), (3, .int x_56), (0, .ref o), (1, .int tp), (2, .int x_3), (5, .int x_33)]) hx hb dX12_told_241 hl (k := 4) rfl (by decide) (fun _ => rfl) (zaddK (i := x_16.toInt) (j := 1) rfl (by decide) i19.1 n31 (Int.le_refl _) (Int.le_refl _) (by decide)) (fun x_57 ls hx_57 hl => ?_)
                            refine lv_goto (tgt := 123) hx hb dX12_told_244 (by decide) ?_
                            have hl := lv_sub (l' := [(0, .ref o), (1, .int tp), (2, .int x_3), (3, .int x_56), (4, .int x_57), (5, .int x_33)]) hl [2, 3, 4, 1, 0, 5] rfl
                            have hP : va_P g.1 vwCl (List.flatten [bMo g o a th hi ac 0 ba en tA fl de iD iO tU fm fk fa fc ft ff fb fi_34]) H := hP
                            have hD : va_D A (List.flatten [bMo g o a th hi ac 0 ba en tA fl de iD iO tU fm fk fa fc ft ff fb fi_34]) := hD
                            exact ih123_24 x_56 x_57 fi_34 ⟨hx_56.2.1, hx_56.2.2⟩ ⟨(Int.le_trans (by decide) hx_57.2.1), hx_57.2.2⟩ (zHr_n i37 rfl i36 c55 (by omega) (by omega)) (by first | omega | assumption | decide) (by first | omega | assumption | decide) H _ ls (zmK hx_57.1 (by decide) n31 (by decide) hk123_24)  hP hD hS (lv_sub hl [0, 1, 2, 3, 4] rfl)
                          · skip
                            exact absurd (show ¬ (fi_34 x_16.toNatClampNeg).toInt = 0 from zne cb9 rfl (by decide)) (by omega)
                        · skip
                          have c59 : ¬ (fi_34 x_16.toNatClampNeg).toInt = 0 := zne cb9 rfl (by decide)
                          refine lv_aload_n hx hb dX12_told_163 rfl (lv_at hl 0 rfl) ?_
                          refine va_get (D := g.1) (ci := 10) (v := .ref (a 7)) (C := RX12) (T := TX12) (N := 20) hx hb hts izRX12 hown hK hP 0 rfl rfl 19 (by decide) (hts _ k823) (fun _ h9 => h9) rfl dX12_told_164 ?_
                          refine lv_iload hx hb dX12_told_167 (lv_at hl 4 rfl) ?_
                          refine lv_iload hx hb dX12_told_169 (lv_at hl 4 rfl) ?_
                          refine lv_aload_n hx hb dX12_told_171 rfl (lv_at hl 0 rfl) ?_
                          refine va_get (D := g.1) (ci := 10) (v := .ref (a 4)) (C := RX12) (T := TX12) (N := 20) hx hb hts izRX12 hown hK hP 0 rfl rfl 7 (by decide) (hts _ k819) (fun _ h9 => h9) rfl dX12_told_172 ?_
                          refine lv_iload hx hb dX12_told_175 (lv_at hl 5 rfl) ?_
                          refine va_iald hx hb hK hP 5 0 rfl rfl (zinK (a := 0) (b := 39) i35.1 i35.2 (by decide)) dX12_told_177 ?_
                          refine lv_aload_n hx hb dX12_told_178 rfl (lv_at hl 0 rfl) ?_
                          refine va_get (D := g.1) (ci := 10) (v := .ref (a 4)) (C := RX12) (T := TX12) (N := 20) hx hb hts izRX12 hown hK hP 0 rfl rfl 7 (by decide) (hts _ k819) (fun _ h9 => h9) rfl dX12_told_179 ?_
                          refine lv_iload hx hb dX12_told_182 (lv_at hl 5 rfl) ?_
                          refine lv_iconst (v := 1) hx hb dX12_told_184 (by decide) ?_
                          refine lv_iadd hx hb dX12_told_185 ?_
                          refine zg3 (zaddK (i := x_33.toInt) (j := 1) (a' := 1) (b' := 40) rfl (by decide) i35.1 i35.2 (Int.le_refl _) (Int.le_refl _) (by decide)) (fun x_60 hx_60 => ?_)
                          refine va_iald hx hb hK hP 5 0 rfl rfl (zinK (a := 1) (b := 40) hx_60.2.1 hx_60.2.2 (by decide)) dX12_told_186 ?_
                          refine mcallS' (g := g) (As := [.int x_16, .int (ft x_33.toNatClampNeg), .int (ft x_60.toNatClampNeg)]) (rest := [.int x_16, .ref (a 7)]) St hK hT hA hP hD hS hl.1 [] [0] rfl rfl rfl (m_saysF l g x_16 (ft x_33.toNatClampNeg) (ft x_60.toNatClampNeg) ) (va_cwS 3 hts (zgL (zl3 k1101 k1102 k839) k1099) rfl rfl rfl (by decide +kernel) ⟨Nat.le_of_ble_eq_true rfl, Nat.le_of_ble_eq_true rfl⟩) rfl rfl (Nat.le_of_ble_eq_true rfl) dX12_told_187 ⟨(Nat.le_of_ble_eq_true rfl), (Nat.le_of_ble_eq_true rfl)⟩ (fun q_61 H locs hq62 hP hD hS => ?_)
                          replace hq62 : (q_61 = 1 ∧ zAns x_16 (ft x_33.toNatClampNeg) (ft x_60.toNatClampNeg) ∨ q_61 = 0 ∧ ¬ zAns x_16 (ft x_33.toNatClampNeg) (ft x_60.toNatClampNeg)) := hq62
                          have hP : va_P g.1 vwCl (List.flatten [bMo g o a th hi ac 0 ba en tA fl de iD iO tU fm fk fa fc ft ff fb fi_34]) H := hP
                          have hD : va_D A (List.flatten [bMo g o a th hi ac 0 ba en tA fl de iD iO tU fm fk fa fc ft ff fb fi_34]) := hD
                          refine W.widen (k := 0) (n := 0) (Nat.le_of_ble_eq_true rfl) (Nat.le_of_ble_eq_true rfl) ?_
                          refine W.eq (g2 := F0 m 190 ls [.int q_61, .int x_16, .ref (a 7)]) rfl ?_
                          rcases hq62 with ⟨rfl, hq62_k⟩ | ⟨rfl, hq62_k⟩
                          · skip
                            refine lv_aload_n hx hb dX12_told_190 rfl (lv_at hl 0 rfl) ?_
                            refine va_get (D := g.1) (ci := 10) (v := .ref (a 4)) (C := RX12) (T := TX12) (N := 20) hx hb hts izRX12 hown hK hP 0 rfl rfl 7 (by decide) (hts _ k819) (fun _ h9 => h9) rfl dX12_told_191 ?_
                            refine lv_iload hx hb dX12_told_194 (lv_at hl 5 rfl) ?_
                            refine lv_iconst (v := 2) hx hb dX12_told_196 (by decide) ?_
                            refine lv_iadd hx hb dX12_told_197 ?_
                            refine zg3 (zaddK (i := x_33.toInt) (j := 2) (a' := 2) (b' := 41) rfl (by decide) i35.1 i35.2 (Int.le_refl _) (Int.le_refl _) (by decide)) (fun x_63 hx_63 => ?_)
                            refine va_iald hx hb hK hP 5 0 rfl rfl (zinK (a := 2) (b := 41) hx_63.2.1 hx_63.2.2 (by decide)) dX12_told_198 ?_
                            refine lv_iconst (v := 1) hx hb dX12_told_199 (by decide) ?_
                            refine lv_icmp_ne (tgt := 207) hx hb dX12_told_200 (by decide) (fun cb9 => ?_) (fun cb9 => ?_)
                            · skip
                              have c64 : ¬ (ft x_63.toNatClampNeg).toInt = 1 := zne cb9 rfl (by decide)
                              refine lv_iconst (v := 0) hx hb dX12_told_207 (by decide) ?_
                              refine lv_icmp_ne (tgt := 215) hx hb dX12_told_208 (by decide) (fun _ => ?_) (fun c65 => absurd c65 (by decide))
                              refine lv_iconst (v := 0) hx hb dX12_told_215 (by decide) ?_
                              refine va_zast hx hb hK hP hD hS 8 1 rfl rfl (zinK (a := 0) (b := 255) i19.1 n31 (by decide)) dX12_told_216 (fun H locs hP hD hS => ?_)
                              obtain ⟨fi_66, ⟨hvfi_66, hrfi_66⟩, hP, hD⟩ : ∃ fi_66 : Nat → Int32, (fi_66 x_16.toNatClampNeg = 0 ∧ zHr ft tp.toInt fi_66 x_16.toInt x_15.toInt) ∧ va_P g.1 vwCl (List.flatten [bMo g o a th hi ac 0 ba en tA fl de iD iO tU fm fk fa fc ft ff fb fi_66]) H ∧ va_D A (List.flatten [bMo g o a th hi ac 0 ba en tA fl de iD iO tU fm fk fa fc ft ff fb fi_66]) := ⟨upd fi_34 x_16.toNatClampNeg (vp_nar .boolean 0), ⟨(by unfold upd; rw [if_pos rfl]; first | rfl | decide), zHr_k i37 rfl⟩, hP, hD⟩
                              refine ziinc3 (n' := 3) (a' := 3) (b' := 42) (lv' := fun v9 => [(5, .int v9), (0, .ref o), (1, .int tp), (2, .int x_3), (3, .int x_15), (4, .int x_16)]) hx hb dX12_told_217 hl (k := 5) rfl (by decide) (fun _ => rfl) (zaddK (i := x_33.toInt) (j := 3) rfl (by decide) i35.1 i35.2 (Int.le_refl _) (Int.le_refl _) (by decide)) (fun x_67 ls hx_67 hl => ?_)
                              refine lv_goto (tgt := 147) hx hb dX12_told_220 (by decide) ?_
                              have hl := lv_sub (l' := [(0, .ref o), (1, .int tp), (2, .int x_3), (3, .int x_15), (4, .int x_16), (5, .int x_67)]) hl [1, 2, 3, 4, 5, 0] rfl
                              have hP : va_P g.1 vwCl (List.flatten [bMo g o a th hi ac 0 ba en tA fl de iD iO tU fm fk fa fc ft ff fb fi_66]) H := hP
                              have hD : va_D A (List.flatten [bMo g o a th hi ac 0 ba en tA fl de iD iO tU fm fk fa fc ft ff fb fi_66]) := hD
                              exact ih147_39 x_67 fi_66 (by first | omega | assumption | decide) (zIn_n (x0 := x_33) (x1 := x_60) (x2 := x_63) i36 c59 (by omega) (by omega) rfl (by omega) (by omega) (zniff1 hq62_k c64) hvfi_66) hrfi_66 H _ ls (by omega)  hP hD hS (lv_sub hl [0, 1, 2, 3, 4, 5] rfl)
                            · skip
                              have c68 : (ft x_63.toNatClampNeg).toInt = 1 := zeq cb9 rfl (by decide)
                              have n69 : 1 ≤ (ft x_63.toNatClampNeg).toInt := Int.le_trans (Int.le_refl _) (Int.le_of_eq c68.symm)
                              have n70 : (ft x_63.toNatClampNeg).toInt ≤ 1 := Int.le_trans (Int.le_of_eq c68) (Int.le_refl _)
                              refine lv_iconst (v := 1) hx hb dX12_told_203 (by decide) ?_
                              refine lv_goto (tgt := 208) hx hb dX12_told_204 (by decide) ?_
                              refine lv_icmp_ne (tgt := 215) hx hb dX12_told_208 (by decide) (fun c71 => absurd (by decide) c71) (fun _ => ?_)
                              refine lv_iconst (v := 1) hx hb dX12_told_211 (by decide) ?_
                              refine lv_goto (tgt := 216) hx hb dX12_told_212 (by decide) ?_
                              refine va_zast hx hb hK hP hD hS 8 1 rfl rfl (zinK (a := 0) (b := 255) i19.1 n31 (by decide)) dX12_told_216 (fun H locs hP hD hS => ?_)
                              obtain ⟨fi_72, ⟨hvfi_72, hrfi_72⟩, hP, hD⟩ : ∃ fi_72 : Nat → Int32, (fi_72 x_16.toNatClampNeg = 1 ∧ zHr ft tp.toInt fi_72 x_16.toInt x_15.toInt) ∧ va_P g.1 vwCl (List.flatten [bMo g o a th hi ac 0 ba en tA fl de iD iO tU fm fk fa fc ft ff fb fi_72]) H ∧ va_D A (List.flatten [bMo g o a th hi ac 0 ba en tA fl de iD iO tU fm fk fa fc ft ff fb fi_72]) := ⟨upd fi_34 x_16.toNatClampNeg (vp_nar .boolean 1), ⟨(by unfold upd; rw [if_pos rfl]; first | rfl | decide), zHr_k i37 rfl⟩, hP, hD⟩
                              refine ziinc3 (n' := 3) (a' := 3) (b' := 42) (lv' := fun v9 => [(5, .int v9), (0, .ref o), (1, .int tp), (2, .int x_3), (3, .int x_15), (4, .int x_16)]) hx hb dX12_told_217 hl (k := 5) rfl (by decide) (fun _ => rfl) (zaddK (i := x_33.toInt) (j := 3) rfl (by decide) i35.1 i35.2 (Int.le_refl _) (Int.le_refl _) (by decide)) (fun x_73 ls hx_73 hl => ?_)
                              refine lv_goto (tgt := 147) hx hb dX12_told_220 (by decide) ?_
                              have hl := lv_sub (l' := [(0, .ref o), (1, .int tp), (2, .int x_3), (3, .int x_15), (4, .int x_16), (5, .int x_73)]) hl [1, 2, 3, 4, 5, 0] rfl
                              have hP : va_P g.1 vwCl (List.flatten [bMo g o a th hi ac 0 ba en tA fl de iD iO tU fm fk fa fc ft ff fb fi_72]) H := hP
                              have hD : va_D A (List.flatten [bMo g o a th hi ac 0 ba en tA fl de iD iO tU fm fk fa fc ft ff fb fi_72]) := hD
                              exact ih147_39 x_73 fi_72 (by first | omega | assumption | decide) (zIn_y (x0 := x_33) (x1 := x_60) (x2 := x_63) i36 c59 rfl (by omega) (by omega) (ziff1 hq62_k c68) hvfi_72 (by omega)) hrfi_72 H _ ls (by omega)  hP hD hS (lv_sub hl [0, 1, 2, 3, 4, 5] rfl)
                          · skip
                            refine lv_aload_n hx hb dX12_told_190 rfl (lv_at hl 0 rfl) ?_
                            refine va_get (D := g.1) (ci := 10) (v := .ref (a 4)) (C := RX12) (T := TX12) (N := 20) hx hb hts izRX12 hown hK hP 0 rfl rfl 7 (by decide) (hts _ k819) (fun _ h9 => h9) rfl dX12_told_191 ?_
                            refine lv_iload hx hb dX12_told_194 (lv_at hl 5 rfl) ?_
                            refine lv_iconst (v := 2) hx hb dX12_told_196 (by decide) ?_
                            refine lv_iadd hx hb dX12_told_197 ?_
                            refine zg3 (zaddK (i := x_33.toInt) (j := 2) (a' := 2) (b' := 41) rfl (by decide) i35.1 i35.2 (Int.le_refl _) (Int.le_refl _) (by decide)) (fun x_74 hx_74 => ?_)
                            refine va_iald hx hb hK hP 5 0 rfl rfl (zinK (a := 2) (b := 41) hx_74.2.1 hx_74.2.2 (by decide)) dX12_told_198 ?_
                            refine lv_iconst (v := 1) hx hb dX12_told_199 (by decide) ?_
                            refine lv_icmp_ne (tgt := 207) hx hb dX12_told_200 (by decide) (fun cb9 => ?_) (fun cb9 => ?_)
                            · skip
                              have c75 : ¬ (ft x_74.toNatClampNeg).toInt = 1 := zne cb9 rfl (by decide)
                              refine lv_iconst (v := 0) hx hb dX12_told_207 (by decide) ?_
                              refine lv_icmp_ne (tgt := 215) hx hb dX12_told_208 (by decide) (fun c76 => absurd (by decide) c76) (fun _ => ?_)
                              refine lv_iconst (v := 1) hx hb dX12_told_211 (by decide) ?_
                              refine lv_goto (tgt := 216) hx hb dX12_told_212 (by decide) ?_
                              refine va_zast hx hb hK hP hD hS 8 1 rfl rfl (zinK (a := 0) (b := 255) i19.1 n31 (by decide)) dX12_told_216 (fun H locs hP hD hS => ?_)
                              obtain ⟨fi_77, ⟨hvfi_77, hrfi_77⟩, hP, hD⟩ : ∃ fi_77 : Nat → Int32, (fi_77 x_16.toNatClampNeg = 1 ∧ zHr ft tp.toInt fi_77 x_16.toInt x_15.toInt) ∧ va_P g.1 vwCl (List.flatten [bMo g o a th hi ac 0 ba en tA fl de iD iO tU fm fk fa fc ft ff fb fi_77]) H ∧ va_D A (List.flatten [bMo g o a th hi ac 0 ba en tA fl de iD iO tU fm fk fa fc ft ff fb fi_77]) := ⟨upd fi_34 x_16.toNatClampNeg (vp_nar .boolean 1), ⟨(by unfold upd; rw [if_pos rfl]; first | rfl | decide), zHr_k i37 rfl⟩, hP, hD⟩
                              refine ziinc3 (n' := 3) (a' := 3) (b' := 42) (lv' := fun v9 => [(5, .int v9), (0, .ref o), (1, .int tp), (2, .int x_3), (3, .int x_15), (4, .int x_16)]) hx hb dX12_told_217 hl (k := 5) rfl (by decide) (fun _ => rfl) (zaddK (i := x_33.toInt) (j := 3) rfl (by decide) i35.1 i35.2 (Int.le_refl _) (Int.le_refl _) (by decide)) (fun x_78 ls hx_78 hl => ?_)
                              refine lv_goto (tgt := 147) hx hb dX12_told_220 (by decide) ?_
                              have hl := lv_sub (l' := [(0, .ref o), (1, .int tp), (2, .int x_3), (3, .int x_15), (4, .int x_16), (5, .int x_78)]) hl [1, 2, 3, 4, 5, 0] rfl
                              have hP : va_P g.1 vwCl (List.flatten [bMo g o a th hi ac 0 ba en tA fl de iD iO tU fm fk fa fc ft ff fb fi_77]) H := hP
                              have hD : va_D A (List.flatten [bMo g o a th hi ac 0 ba en tA fl de iD iO tU fm fk fa fc ft ff fb fi_77]) := hD
                              exact ih147_39 x_78 fi_77 (by first | omega | assumption | decide) (zIn_y (x0 := x_33) (x1 := x_60) (x2 := x_74) i36 c59 rfl (by omega) (by omega) (ziff0 hq62_k c75) hvfi_77 (by omega)) hrfi_77 H _ ls (by omega)  hP hD hS (lv_sub hl [0, 1, 2, 3, 4, 5] rfl)
                            · skip
                              have c79 : (ft x_74.toNatClampNeg).toInt = 1 := zeq cb9 rfl (by decide)
                              have n80 : 1 ≤ (ft x_74.toNatClampNeg).toInt := Int.le_trans (Int.le_refl _) (Int.le_of_eq c79.symm)
                              have n81 : (ft x_74.toNatClampNeg).toInt ≤ 1 := Int.le_trans (Int.le_of_eq c79) (Int.le_refl _)
                              refine lv_iconst (v := 1) hx hb dX12_told_203 (by decide) ?_
                              refine lv_goto (tgt := 208) hx hb dX12_told_204 (by decide) ?_
                              refine lv_icmp_ne (tgt := 215) hx hb dX12_told_208 (by decide) (fun _ => ?_) (fun c82 => absurd c82 (by decide))
                              refine lv_iconst (v := 0) hx hb dX12_told_215 (by decide) ?_
                              refine va_zast hx hb hK hP hD hS 8 1 rfl rfl (zinK (a := 0) (b := 255) i19.1 n31 (by decide)) dX12_told_216 (fun H locs hP hD hS => ?_)
                              obtain ⟨fi_83, ⟨hvfi_83, hrfi_83⟩, hP, hD⟩ : ∃ fi_83 : Nat → Int32, (fi_83 x_16.toNatClampNeg = 0 ∧ zHr ft tp.toInt fi_83 x_16.toInt x_15.toInt) ∧ va_P g.1 vwCl (List.flatten [bMo g o a th hi ac 0 ba en tA fl de iD iO tU fm fk fa fc ft ff fb fi_83]) H ∧ va_D A (List.flatten [bMo g o a th hi ac 0 ba en tA fl de iD iO tU fm fk fa fc ft ff fb fi_83]) := ⟨upd fi_34 x_16.toNatClampNeg (vp_nar .boolean 0), ⟨(by unfold upd; rw [if_pos rfl]; first | rfl | decide), zHr_k i37 rfl⟩, hP, hD⟩
                              refine ziinc3 (n' := 3) (a' := 3) (b' := 42) (lv' := fun v9 => [(5, .int v9), (0, .ref o), (1, .int tp), (2, .int x_3), (3, .int x_15), (4, .int x_16)]) hx hb dX12_told_217 hl (k := 5) rfl (by decide) (fun _ => rfl) (zaddK (i := x_33.toInt) (j := 3) rfl (by decide) i35.1 i35.2 (Int.le_refl _) (Int.le_refl _) (by decide)) (fun x_84 ls hx_84 hl => ?_)
                              refine lv_goto (tgt := 147) hx hb dX12_told_220 (by decide) ?_
                              have hl := lv_sub (l' := [(0, .ref o), (1, .int tp), (2, .int x_3), (3, .int x_15), (4, .int x_16), (5, .int x_84)]) hl [1, 2, 3, 4, 5, 0] rfl
                              have hP : va_P g.1 vwCl (List.flatten [bMo g o a th hi ac 0 ba en tA fl de iD iO tU fm fk fa fc ft ff fb fi_83]) H := hP
                              have hD : va_D A (List.flatten [bMo g o a th hi ac 0 ba en tA fl de iD iO tU fm fk fa fc ft ff fb fi_83]) := hD
                              exact ih147_39 x_84 fi_83 (by first | omega | assumption | decide) (zIn_n (x0 := x_33) (x1 := x_60) (x2 := x_74) i36 c59 (by omega) (by omega) rfl (by omega) (by omega) (zniff0 hq62_k c79) hvfi_83) hrfi_83 H _ ls (by omega)  hP hD hS (lv_sub hl [0, 1, 2, 3, 4, 5] rfl)
                  have hL0 : (0 : Int32).toInt = 0 := by decide
                  have hP : va_P g.1 vwCl (List.flatten [bMo g o a th hi ac 0 ba en tA fl de iD iO tU fm fk fa fc ft ff fb fi_32]) H := hP
                  have hD : va_D A (List.flatten [bMo g o a th hi ac 0 ba en tA fl de iD iO tU fm fk fa fc ft ff fb fi_32]) := hD
                  exact LP147_38 _ 0 fi_32 (by decide) (zIn_0 hvfi_32 (by decide)) hrfi_32 H _ ls (Nat.lt_succ_self _)  hP hD hS (lv_sub hl [0, 1, 2, 3, 4, 5] rfl)
            have hL0 : (0 : Int32).toInt = 0 := by decide
            have hP : va_P g.1 vwCl (List.flatten [bMo g o a th hi ac 0 ba en tA fl de iD iO tU fm fk fa fc ft ff fb fi]) H := hP
            have hD : va_D A (List.flatten [bMo g o a th hi ac 0 ba en tA fl de iD iO tU fm fk fa fc ft ff fb fi]) := hD
            exact LP123_23 _ 0 0 fi (by decide) (by decide) (zHr_0 (by decide) (by decide)) (by first | omega | assumption | decide) (by first | omega | assumption | exact Int.natCast_nonneg _ | decide) H _ ls (Nat.lt_succ_self _)  hP hD hS (lv_sub hl [0, 1, 2, 3, 4] rfl)
          · skip
            have c85 : x_3.toInt = 0 := zeq cb9 rfl (by decide)
            have n86 : x_3.toInt ≤ 0 := Int.le_trans (Int.le_of_eq c85) (Int.le_refl _)
            refine lv_iconst (v := (-1)) hx hb dX12_told_116 (by decide) ?_
            have hLn1 : ((-1) : Int32).toInt = (-1) := by decide
            have hP : va_P g.1 vwCl (List.flatten [bMo g o a th hi ac 0 ba en tA fl de iD iO tU fm fk fa fc ft ff fb fi]) H := hP
            have hD : va_D A (List.flatten [bMo g o a th hi ac 0 ba en tA fl de iD iO tU fm fk fa fc ft ff fb fi]) := hD
            exact mret_i hx hb hr hlocks hS (Nat.le_of_ble_eq_true rfl) (Nat.le_of_ble_eq_true rfl) dX12_told_117 (fi, -1) rfl (show (((0 ≤ ((-1) : Int32).toInt ∧ ((-1) : Int32).toInt ≤ 256) ∧ zSaid ft tp.toInt (fm 3).toInt ∧ zHr ft tp.toInt fi ((2 ^ (fm 3).toInt.toNat : Nat) : Int) ((-1) : Int32).toInt) ∨ (-1) = (-1) ∧ ¬ zSaid ft tp.toInt (fm 3).toInt) from (Or.inr ⟨rfl, (zSg_en i7 (by omega))⟩)) hP hD
        · skip
          have c87 : x_4.toInt < tp.toInt := zlti (Int32.not_le.mp cb9) rfl rfl
          have n88 : x_4.toInt ≤ 399 := zL1 (b := 400) c87 htp.2 (by decide)
          have n89 : 1 ≤ tp.toInt := zL2 (a := 0) c87 i6.1 (by decide)
          refine lv_iload_n hx hb dX12_told_35 rfl (lv_at hl 2 rfl) ?_
          refine lv_if_eq (tgt := 112) hx hb dX12_told_36 (by decide) (fun cb9 => ?_) (fun cb9 => ?_)
          · skip
            have c90 : x_3.toInt = 0 := zeq cb9 rfl (by decide)
            have n91 : x_3.toInt ≤ 0 := Int.le_trans (Int.le_of_eq c90) (Int.le_refl _)
            refine lv_iload_n hx hb dX12_told_112 rfl (lv_at hl 2 rfl) ?_
            refine lv_if_ne (tgt := 118) hx hb dX12_told_113 (by decide) (fun cb9 => ?_) (fun cb9 => ?_)
            · skip
              exact absurd (show ¬ x_3.toInt = 0 from zne cb9 rfl (by decide)) (by omega)
            · skip
              have c93 : x_3.toInt = 0 := zeq cb9 rfl (by decide)
              refine lv_iconst (v := (-1)) hx hb dX12_told_116 (by decide) ?_
              have hLn1 : ((-1) : Int32).toInt = (-1) := by decide
              have hP : va_P g.1 vwCl (List.flatten [bMo g o a th hi ac 0 ba en tA fl de iD iO tU fm fk fa fc ft ff fb fi]) H := hP
              have hD : va_D A (List.flatten [bMo g o a th hi ac 0 ba en tA fl de iD iO tU fm fk fa fc ft ff fb fi]) := hD
              exact mret_i hx hb hr hlocks hS (Nat.le_of_ble_eq_true rfl) (Nat.le_of_ble_eq_true rfl) dX12_told_117 (fi, -1) rfl (show (((0 ≤ ((-1) : Int32).toInt ∧ ((-1) : Int32).toInt ≤ 256) ∧ zSaid ft tp.toInt (fm 3).toInt ∧ zHr ft tp.toInt fi ((2 ^ (fm 3).toInt.toNat : Nat) : Int) ((-1) : Int32).toInt) ∨ (-1) = (-1) ∧ ¬ zSaid ft tp.toInt (fm 3).toInt) from (Or.inr ⟨rfl, (zSg_en i7 (by omega))⟩)) hP hD
          · skip
            have c94 : ¬ x_3.toInt = 0 := zne cb9 rfl (by decide)
            have n95 : 1 ≤ x_3.toInt := zN1 c94 i5.1 (by decide)
            obtain ⟨w96, w97, w98⟩ := zSg_i i7 (by omega)
            have w99 := w98.1
            refine lv_aload_n hx hb dX12_told_39 rfl (lv_at hl 0 rfl) ?_
            refine va_get (D := g.1) (ci := 10) (v := .ref (a 4)) (C := RX12) (T := TX12) (N := 20) hx hb hts izRX12 hown hK hP 0 rfl rfl 7 (by decide) (hts _ k819) (fun _ h9 => h9) rfl dX12_told_40 ?_
            refine lv_iload_n hx hb dX12_told_43 rfl (lv_at hl 3 rfl) ?_
            refine va_iald hx hb hK hP 5 0 rfl rfl (zinK (a := 0) (b := 399) i6.1 n88 (by decide)) dX12_told_44 ?_
            refine lv_aload_n hx hb dX12_told_45 rfl (lv_at hl 0 rfl) ?_
            refine va_get (D := g.1) (ci := 10) (v := .ref (a 0)) (C := RX12) (T := TX12) (N := 20) hx hb hts izRX12 hown hK hP 0 rfl rfl 1 (by decide) (hts _ k815) (fun _ h9 => h9) rfl dX12_told_46 ?_
            refine lv_iconst (v := 3) hx hb dX12_told_49 (by decide) ?_
            refine va_iald hx hb hK hP 1 0 rfl rfl (zin rfl) dX12_told_50 ?_
            refine zgq (r := fm 3) rfl (rM3 rfm) (fun x_100 hx_100 => ?_)
            refine lv_icmp_ge (tgt := 104) hx hb dX12_told_51 (by decide) (fun cb9 => ?_) (fun cb9 => ?_)
            · skip
              have c101 : x_100.toInt ≤ (ft x_4.toNatClampNeg).toInt := zle cb9 rfl rfl
              have n102 : 0 ≤ (ft x_4.toNatClampNeg).toInt := Int.le_trans hx_100.1 c101
              refine lv_iconst (v := 0) hx hb dX12_told_104 (by decide) ?_
              refine lv_istore_n (lv' := [(2, .int 0), (0, .ref o), (1, .int tp), (3, .int x_4)]) hx hb dX12_told_105 rfl hl (by decide) rfl (fun ls hl => ?_)
              refine ziinc3 (n' := 3) (a' := 3) (b' := 402) (lv' := fun v9 => [(3, .int v9), (2, .int 0), (0, .ref o), (1, .int tp)]) hx hb dX12_told_106 hl (k := 3) rfl (by decide) (fun _ => rfl) (zaddK (i := x_4.toInt) (j := 3) rfl (by decide) i6.1 n88 (Int.le_refl _) (Int.le_refl _) (by decide)) (fun x_103 ls hx_103 hl => ?_)
              refine lv_goto (tgt := 30) hx hb dX12_told_109 (by decide) ?_
              have hl := lv_sub (l' := [(0, .ref o), (1, .int tp), (2, .int 0), (3, .int x_103)]) hl [2, 3, 1, 0] rfl
              have hL0 : (0 : Int32).toInt = 0 := by decide
              have hP : va_P g.1 vwCl (List.flatten [bMo g o a th hi ac 0 ba en tA fl de iD iO tU fm fk fa fc ft ff fb fi]) H := hP
              have hD : va_D A (List.flatten [bMo g o a th hi ac 0 ba en tA fl de iD iO tU fm fk fa fc ft ff fb fi]) := hD
              exact ih30_9 0 x_103 (by decide) ⟨(Int.le_trans (by decide) hx_103.2.1), hx_103.2.2⟩ (zSg_x1 (x := x_4) i7 (by omega) (by omega) (by decide) (by omega) (by omega)) H _ ls (by omega)  hP hD hS (lv_sub hl [0, 1, 2, 3] rfl)
            · skip
              have c104 : (ft x_4.toNatClampNeg).toInt < x_100.toInt := zlti (Int32.not_le.mp cb9) rfl rfl
              have n105 : (ft x_4.toNatClampNeg).toInt ≤ 7 := zL1 (b := 8) c104 hx_100.2.1 (by decide)
              refine lv_aload_n hx hb dX12_told_54 rfl (lv_at hl 0 rfl) ?_
              refine va_get (D := g.1) (ci := 10) (v := .ref (a 4)) (C := RX12) (T := TX12) (N := 20) hx hb hts izRX12 hown hK hP 0 rfl rfl 7 (by decide) (hts _ k819) (fun _ h9 => h9) rfl dX12_told_55 ?_
              refine lv_iload_n hx hb dX12_told_58 rfl (lv_at hl 3 rfl) ?_
              refine lv_iconst (v := 1) hx hb dX12_told_59 (by decide) ?_
              refine lv_iadd hx hb dX12_told_60 ?_
              refine zg3 (zaddK (i := x_4.toInt) (j := 1) (a' := 1) (b' := 400) rfl (by decide) i6.1 n88 (Int.le_refl _) (Int.le_refl _) (by decide)) (fun x_106 hx_106 => ?_)
              refine va_iald hx hb hK hP 5 0 rfl rfl (zinI (by omega) (by omega)) dX12_told_61 ?_
              refine lv_aload_n hx hb dX12_told_62 rfl (lv_at hl 0 rfl) ?_
              refine va_get (D := g.1) (ci := 10) (v := .ref (a 0)) (C := RX12) (T := TX12) (N := 20) hx hb hts izRX12 hown hK hP 0 rfl rfl 1 (by decide) (hts _ k815) (fun _ h9 => h9) rfl dX12_told_63 ?_
              refine lv_iconst (v := 3) hx hb dX12_told_66 (by decide) ?_
              refine va_iald hx hb hK hP 1 0 rfl rfl (zin rfl) dX12_told_67 ?_
              refine zgq (r := fm 3) rfl (rM3 rfm) (fun x_107 hx_107 => ?_)
              refine lv_icmp_ge (tgt := 104) hx hb dX12_told_68 (by decide) (fun cb9 => ?_) (fun cb9 => ?_)
              · skip
                have c108 : x_107.toInt ≤ (ft x_106.toNatClampNeg).toInt := zle cb9 rfl rfl
                have n109 : 0 ≤ (ft x_106.toNatClampNeg).toInt := Int.le_trans hx_107.1 c108
                refine lv_iconst (v := 0) hx hb dX12_told_104 (by decide) ?_
                refine lv_istore_n (lv' := [(2, .int 0), (0, .ref o), (1, .int tp), (3, .int x_4)]) hx hb dX12_told_105 rfl hl (by decide) rfl (fun ls hl => ?_)
                refine ziinc3 (n' := 3) (a' := 3) (b' := 402) (lv' := fun v9 => [(3, .int v9), (2, .int 0), (0, .ref o), (1, .int tp)]) hx hb dX12_told_106 hl (k := 3) rfl (by decide) (fun _ => rfl) (zaddK (i := x_4.toInt) (j := 3) rfl (by decide) i6.1 n88 (Int.le_refl _) (Int.le_refl _) (by decide)) (fun x_110 ls hx_110 hl => ?_)
                refine lv_goto (tgt := 30) hx hb dX12_told_109 (by decide) ?_
                have hl := lv_sub (l' := [(0, .ref o), (1, .int tp), (2, .int 0), (3, .int x_110)]) hl [2, 3, 1, 0] rfl
                have hL0 : (0 : Int32).toInt = 0 := by decide
                have hP : va_P g.1 vwCl (List.flatten [bMo g o a th hi ac 0 ba en tA fl de iD iO tU fm fk fa fc ft ff fb fi]) H := hP
                have hD : va_D A (List.flatten [bMo g o a th hi ac 0 ba en tA fl de iD iO tU fm fk fa fc ft ff fb fi]) := hD
                exact ih30_9 0 x_110 (by decide) ⟨(Int.le_trans (by decide) hx_110.2.1), hx_110.2.2⟩ (zSg_x2 (x := x_106) i7 (by omega) (by omega) (by decide) (by omega) (by omega)) H _ ls (by omega)  hP hD hS (lv_sub hl [0, 1, 2, 3] rfl)
              · skip
                have c111 : (ft x_106.toNatClampNeg).toInt < x_107.toInt := zlti (Int32.not_le.mp cb9) rfl rfl
                have n112 : (ft x_106.toNatClampNeg).toInt ≤ 7 := zL1 (b := 8) c111 hx_107.2.1 (by decide)
                refine lv_aload_n hx hb dX12_told_71 rfl (lv_at hl 0 rfl) ?_
                refine va_get (D := g.1) (ci := 10) (v := .ref (a 4)) (C := RX12) (T := TX12) (N := 20) hx hb hts izRX12 hown hK hP 0 rfl rfl 7 (by decide) (hts _ k819) (fun _ h9 => h9) rfl dX12_told_72 ?_
                refine lv_iload_n hx hb dX12_told_75 rfl (lv_at hl 3 rfl) ?_
                refine va_iald hx hb hK hP 5 0 rfl rfl (zinK (a := 0) (b := 399) i6.1 n88 (by decide)) dX12_told_76 ?_
                refine lv_aload_n hx hb dX12_told_77 rfl (lv_at hl 0 rfl) ?_
                refine va_get (D := g.1) (ci := 10) (v := .ref (a 4)) (C := RX12) (T := TX12) (N := 20) hx hb hts izRX12 hown hK hP 0 rfl rfl 7 (by decide) (hts _ k819) (fun _ h9 => h9) rfl dX12_told_78 ?_
                refine lv_iload_n hx hb dX12_told_81 rfl (lv_at hl 3 rfl) ?_
                refine lv_iconst (v := 1) hx hb dX12_told_82 (by decide) ?_
                refine lv_iadd hx hb dX12_told_83 ?_
                refine zg3 (zaddK (i := x_4.toInt) (j := 1) (a' := 1) (b' := 400) rfl (by decide) i6.1 n88 (Int.le_refl _) (Int.le_refl _) (by decide)) (fun x_113 hx_113 => ?_)
                refine va_iald hx hb hK hP 5 0 rfl rfl (zinI (by omega) (by omega)) dX12_told_84 ?_
                refine lv_icmp_eq (tgt := 104) hx hb dX12_told_85 (by decide) (fun cb9 => ?_) (fun cb9 => ?_)
                · skip
                  have c114 : (ft x_4.toNatClampNeg).toInt = (ft x_113.toNatClampNeg).toInt := zeq cb9 rfl rfl
                  have n115 : (ft x_113.toNatClampNeg).toInt ≤ 7 := Int.le_trans (Int.le_of_eq c114.symm) n105
                  refine lv_iconst (v := 0) hx hb dX12_told_104 (by decide) ?_
                  refine lv_istore_n (lv' := [(2, .int 0), (0, .ref o), (1, .int tp), (3, .int x_4)]) hx hb dX12_told_105 rfl hl (by decide) rfl (fun ls hl => ?_)
                  refine ziinc3 (n' := 3) (a' := 3) (b' := 402) (lv' := fun v9 => [(3, .int v9), (2, .int 0), (0, .ref o), (1, .int tp)]) hx hb dX12_told_106 hl (k := 3) rfl (by decide) (fun _ => rfl) (zaddK (i := x_4.toInt) (j := 3) rfl (by decide) i6.1 n88 (Int.le_refl _) (Int.le_refl _) (by decide)) (fun x_116 ls hx_116 hl => ?_)
                  refine lv_goto (tgt := 30) hx hb dX12_told_109 (by decide) ?_
                  have hl := lv_sub (l' := [(0, .ref o), (1, .int tp), (2, .int 0), (3, .int x_116)]) hl [2, 3, 1, 0] rfl
                  have hL0 : (0 : Int32).toInt = 0 := by decide
                  have hP : va_P g.1 vwCl (List.flatten [bMo g o a th hi ac 0 ba en tA fl de iD iO tU fm fk fa fc ft ff fb fi]) H := hP
                  have hD : va_D A (List.flatten [bMo g o a th hi ac 0 ba en tA fl de iD iO tU fm fk fa fc ft ff fb fi]) := hD
                  exact ih30_9 0 x_116 (by decide) ⟨(Int.le_trans (by decide) hx_116.2.1), hx_116.2.2⟩ (zSg_x3 (x := x_4) (y := x_113) i7 (by omega) (by omega) (by decide) (by omega) (by omega) (by omega)) H _ ls (by omega)  hP hD hS (lv_sub hl [0, 1, 2, 3] rfl)
                · skip
                  have c117 : ¬ (ft x_4.toNatClampNeg).toInt = (ft x_113.toNatClampNeg).toInt := zne cb9 rfl rfl
                  refine lv_aload_n hx hb dX12_told_88 rfl (lv_at hl 0 rfl) ?_
                  refine va_get (D := g.1) (ci := 10) (v := .ref (a 4)) (C := RX12) (T := TX12) (N := 20) hx hb hts izRX12 hown hK hP 0 rfl rfl 7 (by decide) (hts _ k819) (fun _ h9 => h9) rfl dX12_told_89 ?_
                  refine lv_iload_n hx hb dX12_told_92 rfl (lv_at hl 3 rfl) ?_
                  refine lv_iconst (v := 2) hx hb dX12_told_93 (by decide) ?_
                  refine lv_iadd hx hb dX12_told_94 ?_
                  refine zg3 (zaddK (i := x_4.toInt) (j := 2) (a' := 2) (b' := 401) rfl (by decide) i6.1 n88 (Int.le_refl _) (Int.le_refl _) (by decide)) (fun x_118 hx_118 => ?_)
                  refine va_iald hx hb hK hP 5 0 rfl rfl (zinI (by omega) (by omega)) dX12_told_95 ?_
                  refine lv_iconst (v := 2) hx hb dX12_told_96 (by decide) ?_
                  refine lv_icmp_ge (tgt := 104) hx hb dX12_told_97 (by decide) (fun cb9 => ?_) (fun cb9 => ?_)
                  · skip
                    have c119 : 2 ≤ (ft x_118.toNatClampNeg).toInt := zle cb9 (by decide) rfl
                    have n120 : 2 ≤ (ft x_118.toNatClampNeg).toInt := Int.le_trans (Int.le_refl _) c119
                    refine lv_iconst (v := 0) hx hb dX12_told_104 (by decide) ?_
                    refine lv_istore_n (lv' := [(2, .int 0), (0, .ref o), (1, .int tp), (3, .int x_4)]) hx hb dX12_told_105 rfl hl (by decide) rfl (fun ls hl => ?_)
                    refine ziinc3 (n' := 3) (a' := 3) (b' := 402) (lv' := fun v9 => [(3, .int v9), (2, .int 0), (0, .ref o), (1, .int tp)]) hx hb dX12_told_106 hl (k := 3) rfl (by decide) (fun _ => rfl) (zaddK (i := x_4.toInt) (j := 3) rfl (by decide) i6.1 n88 (Int.le_refl _) (Int.le_refl _) (by decide)) (fun x_121 ls hx_121 hl => ?_)
                    refine lv_goto (tgt := 30) hx hb dX12_told_109 (by decide) ?_
                    have hl := lv_sub (l' := [(0, .ref o), (1, .int tp), (2, .int 0), (3, .int x_121)]) hl [2, 3, 1, 0] rfl
                    have hL0 : (0 : Int32).toInt = 0 := by decide
                    have hP : va_P g.1 vwCl (List.flatten [bMo g o a th hi ac 0 ba en tA fl de iD iO tU fm fk fa fc ft ff fb fi]) H := hP
                    have hD : va_D A (List.flatten [bMo g o a th hi ac 0 ba en tA fl de iD iO tU fm fk fa fc ft ff fb fi]) := hD
                    exact ih30_9 0 x_121 (by decide) ⟨(Int.le_trans (by decide) hx_121.2.1), hx_121.2.2⟩ (zSg_x4 (x := x_118) i7 (by omega) (by omega) (by decide) (by omega) (by omega)) H _ ls (by omega)  hP hD hS (lv_sub hl [0, 1, 2, 3] rfl)
                  · skip
                    have c122 : (ft x_118.toNatClampNeg).toInt < 2 := zlti (Int32.not_le.mp cb9) rfl (by decide)
                    have n123 : (ft x_118.toNatClampNeg).toInt ≤ 1 := zL1 (b := 2) c122 (Int.le_refl _) (by decide)
                    refine lv_iconst (v := 1) hx hb dX12_told_100 (by decide) ?_
                    refine lv_goto (tgt := 105) hx hb dX12_told_101 (by decide) ?_
                    refine lv_istore_n (lv' := [(2, .int 1), (0, .ref o), (1, .int tp), (3, .int x_4)]) hx hb dX12_told_105 rfl hl (by decide) rfl (fun ls hl => ?_)
                    refine ziinc3 (n' := 3) (a' := 3) (b' := 402) (lv' := fun v9 => [(3, .int v9), (2, .int 1), (0, .ref o), (1, .int tp)]) hx hb dX12_told_106 hl (k := 3) rfl (by decide) (fun _ => rfl) (zaddK (i := x_4.toInt) (j := 3) rfl (by decide) i6.1 n88 (Int.le_refl _) (Int.le_refl _) (by decide)) (fun x_124 ls hx_124 hl => ?_)
                    refine lv_goto (tgt := 30) hx hb dX12_told_109 (by decide) ?_
                    have hl := lv_sub (l' := [(0, .ref o), (1, .int tp), (2, .int 1), (3, .int x_124)]) hl [2, 3, 1, 0] rfl
                    have hL1 : (1 : Int32).toInt = 1 := by decide
                    have hP : va_P g.1 vwCl (List.flatten [bMo g o a th hi ac 0 ba en tA fl de iD iO tU fm fk fa fc ft ff fb fi]) H := hP
                    have hD : va_D A (List.flatten [bMo g o a th hi ac 0 ba en tA fl de iD iO tU fm fk fa fc ft ff fb fi]) := hD
                    exact ih30_9 1 x_124 (by decide) ⟨(Int.le_trans (by decide) hx_124.2.1), hx_124.2.2⟩ (zSg_s (x0 := x_4) (x1 := x_106) (y0 := x_4) (y1 := x_113) (x2 := x_118) i7 (by omega) (by omega) (by omega) (by omega) (by omega) (by omega) (by omega) (by omega) (by omega) (by omega) (by omega) (by decide)) H _ ls (by omega)  hP hD hS (lv_sub hl [0, 1, 2, 3] rfl)
    have hL0 : (0 : Int32).toInt = 0 := by decide
    have hP : va_P g.1 vwCl (List.flatten [bMo g o a th hi ac 0 ba en tA fl de iD iO tU fm fk fa fc ft ff fb fi]) H := hP
    have hD : va_D A (List.flatten [bMo g o a th hi ac 0 ba en tA fl de iD iO tU fm fk fa fc ft ff fb fi]) := hD
    exact LP30_8 _ 0 0 (by decide) (by decide) (zSg_0 (by decide) (by omega)) H _ ls (Nat.lt_succ_self _)  hP hD hS (lv_sub hl [0, 1, 2, 3] rfl)
  · skip
    have c125 : x_1.toInt = 0 := zeq cb9 rfl (by decide)
    have n126 : 0 ≤ x_1.toInt := Int.le_trans (Int.le_refl _) (Int.le_of_eq c125.symm)
    have n127 : x_1.toInt ≤ 0 := Int.le_trans (Int.le_of_eq c125) (Int.le_refl _)
    refine lv_iload_n hx hb dX12_told_16 rfl (lv_at hl 0 rfl) ?_
    refine lv_bipush (v := 36) hx hb dX12_told_17 (by decide) ?_
    refine lv_icmp_gt (tgt := 26) hx hb dX12_told_19 (by decide) (fun cb9 => ?_) (fun cb9 => ?_)
    · skip
      have c128 : 36 < tp.toInt := zlti cb9 (by decide) rfl
      have n129 : 37 ≤ tp.toInt := zL2 (a := 36) c128 (Int.le_refl _) (by decide)
      refine lv_iconst (v := 0) hx hb dX12_told_26 (by decide) ?_
      refine lv_istore_n (lv' := [(2, .int 0), (1, .int tp), (0, .ref o)]) hx hb dX12_told_27 rfl hl (by decide) rfl (fun ls hl => ?_)
      refine lv_iconst (v := 0) hx hb dX12_told_28 (by decide) ?_
      refine lv_istore_n (lv' := [(3, .int 0), (2, .int 0), (1, .int tp), (0, .ref o)]) hx hb dX12_told_29 rfl hl (by decide) rfl (fun ls hl => ?_)
      have hl := lv_sub (l' := [(0, .ref o), (1, .int tp), (2, .int 0), (3, .int 0)]) hl [3, 2, 1, 0] rfl
      have LP30_135 : ∀ (kf : Nat) (x_130 : Int32) (x_131 : Int32), (0 ≤ x_130.toInt ∧ x_130.toInt ≤ 1) → (0 ≤ x_131.toInt ∧ x_131.toInt ≤ 402) → (zSg ft tp.toInt (fm 3).toInt x_130.toInt x_131.toInt) → ∀ (H : Heap) (locs : List Loc) (ls : Array Slot), ((402 - x_131.toInt).toNat) < kf → va_P g.1 vwCl (List.flatten [bMo g o a th hi ac 0 ba en tA fl de iD iO tU fm fk fa fc ft ff fb fi]) H → va_D A (List.flatten [bMo g o a th hi ac 0 ba en tA fl de iD iO tU fm fk fa fc ft ff fb fi]) → va_S A s.heap H locs → lv_has ls 6 [(0, .ref o), (1, .int tp), (2, .int x_130), (3, .int x_131)] → W p l e ({ frames := 2, cells := 0, slots := 0, locals := 43 } : Room) s m args below meth c H locs (0) (0) (zF g (fun u : (Nat → Int32) × Int32 => (fun (fi2 : Nat → Int32) (q : Int32) => some (.int q)) (u.1) (u.2)) (fun u : (Nat → Int32) × Int32 => (fun (fi2 : Nat → Int32) (q : Int32) => (((0 ≤ q.toInt ∧ q.toInt ≤ 256) ∧ zSaid ft tp.toInt (fm 3).toInt ∧ zHr ft tp.toInt fi2 ((2 ^ (fm 3).toInt.toNat : Nat) : Int) q.toInt) ∨ q = (-1) ∧ ¬ zSaid ft tp.toInt (fm 3).toInt)) (u.1) (u.2)) (fun u : (Nat → Int32) × Int32 => (fun (fi2 : Nat → Int32) (q : Int32) => [bMo g o a th hi ac 0 ba en tA fl de iD iO tU fm fk fa fc ft ff fb fi2]) (u.1) (u.2)) ({ frames := 2, cells := 0, slots := 0, locals := 43 } : Room) below args s A) (F0 m 30 ls []) := by
        intro kf
        induction kf with
        | zero => intro x_130 x_131 i132 i133 i134 H locs ls hk; exact absurd hk (Nat.not_lt_zero _)
        | succ kf ih30_136 =>
          intro x_130 x_131 i132 i133 i134 H locs ls hk30_136 hP hD hS hl
          refine lv_iload_n hx hb dX12_told_30 rfl (lv_at hl 3 rfl) ?_
          refine lv_iload_n hx hb dX12_told_31 rfl (lv_at hl 1 rfl) ?_
          refine lv_icmp_ge (tgt := 112) hx hb dX12_told_32 (by decide) (fun cb9 => ?_) (fun cb9 => ?_)
          · skip
            have c137 : tp.toInt ≤ x_131.toInt := zle cb9 rfl rfl
            have n138 : 37 ≤ x_131.toInt := Int.le_trans n129 c137
            refine lv_iload_n hx hb dX12_told_112 rfl (lv_at hl 2 rfl) ?_
            refine lv_if_ne (tgt := 118) hx hb dX12_told_113 (by decide) (fun cb9 => ?_) (fun cb9 => ?_)
            · skip
              have c139 : ¬ x_130.toInt = 0 := zne cb9 rfl (by decide)
              have n140 : 1 ≤ x_130.toInt := zN1 c139 i132.1 (by decide)
              have w141 : zSaid ft tp.toInt (fm 3).toInt := zSg_ey i134 (by omega) (by omega)
              have w142 : tp.toInt % 3 = 0 ∧ tp.toInt ≤ 36 := ⟨w141.2.1, w141.1⟩
              refine lv_iconst (v := 0) hx hb dX12_told_118 (by decide) ?_
              refine lv_istore_n (lv' := [(3, .int 0), (0, .ref o), (1, .int tp), (2, .int x_130)]) hx hb dX12_told_119 rfl hl (by decide) rfl (fun ls hl => ?_)
              refine lv_iconst (v := 0) hx hb dX12_told_120 (by decide) ?_
              refine lv_istore (lv' := [(4, .int 0), (3, .int 0), (0, .ref o), (1, .int tp), (2, .int x_130)]) hx hb dX12_told_121 hl (by decide) rfl (fun ls hl => ?_)
              have hl := lv_sub (l' := [(0, .ref o), (1, .int tp), (2, .int x_130), (3, .int 0), (4, .int 0)]) hl [2, 3, 4, 1, 0] rfl
              have LP123_151 : ∀ (kf : Nat) (x_143 : Int32) (x_144 : Int32) (fi_145 : Nat → Int32), (0 ≤ x_143.toInt ∧ x_143.toInt ≤ 256) → (0 ≤ x_144.toInt ∧ x_144.toInt ≤ 256) → (zHr ft tp.toInt fi_145 x_144.toInt x_143.toInt) → (x_143.toInt ≤ x_144.toInt) → (x_144.toInt ≤ ((2 ^ (fm 3).toInt.toNat : Nat) : Int)) → ∀ (H : Heap) (locs : List Loc) (ls : Array Slot), ((257 - x_144.toInt).toNat) < kf → va_P g.1 vwCl (List.flatten [bMo g o a th hi ac 0 ba en tA fl de iD iO tU fm fk fa fc ft ff fb fi_145]) H → va_D A (List.flatten [bMo g o a th hi ac 0 ba en tA fl de iD iO tU fm fk fa fc ft ff fb fi_145]) → va_S A s.heap H locs → lv_has ls 6 [(0, .ref o), (1, .int tp), (2, .int x_130), (3, .int x_143), (4, .int x_144)] → W p l e ({ frames := 2, cells := 0, slots := 0, locals := 43 } : Room) s m args below meth c H locs (0) (0) (zF g (fun u : (Nat → Int32) × Int32 => (fun (fi2 : Nat → Int32) (q : Int32) => some (.int q)) (u.1) (u.2)) (fun u : (Nat → Int32) × Int32 => (fun (fi2 : Nat → Int32) (q : Int32) => (((0 ≤ q.toInt ∧ q.toInt ≤ 256) ∧ zSaid ft tp.toInt (fm 3).toInt ∧ zHr ft tp.toInt fi2 ((2 ^ (fm 3).toInt.toNat : Nat) : Int) q.toInt) ∨ q = (-1) ∧ ¬ zSaid ft tp.toInt (fm 3).toInt)) (u.1) (u.2)) (fun u : (Nat → Int32) × Int32 => (fun (fi2 : Nat → Int32) (q : Int32) => [bMo g o a th hi ac 0 ba en tA fl de iD iO tU fm fk fa fc ft ff fb fi2]) (u.1) (u.2)) ({ frames := 2, cells := 0, slots := 0, locals := 43 } : Room) below args s A) (F0 m 123 ls []) := by
                intro kf
                induction kf with
                | zero => intro x_143 x_144 fi_145 i146 i147 i148 i149 i150 H locs ls hk; exact absurd hk (Nat.not_lt_zero _)
                | succ kf ih123_152 =>
                  intro x_143 x_144 fi_145 i146 i147 i148 i149 i150 H locs ls hk123_152 hP hD hS hl
                  refine lv_iload hx hb dX12_told_123 (lv_at hl 4 rfl) ?_
                  refine lv_iconst (v := 1) hx hb dX12_told_125 (by decide) ?_
                  refine lv_aload_n hx hb dX12_told_126 rfl (lv_at hl 0 rfl) ?_
                  refine va_get (D := g.1) (ci := 10) (v := .ref (a 0)) (C := RX12) (T := TX12) (N := 20) hx hb hts izRX12 hown hK hP 0 rfl rfl 1 (by decide) (hts _ k815) (fun _ h9 => h9) rfl dX12_told_127 ?_
                  refine lv_iconst (v := 3) hx hb dX12_told_130 (by decide) ?_
                  refine va_iald hx hb hK hP 1 0 rfl rfl (zin rfl) dX12_told_131 ?_
                  refine zgq (r := fm 3) rfl (rM3 rfm) (fun x_153 hx_153 => ?_)
                  refine lv_ishl hx hb dX12_told_132 ?_
                  refine zgp2 (P := fun r9 : Int32 => r9.toInt = ((2 ^ x_153.toInt.toNat : Nat) : Int) ∧ 1 ≤ r9.toInt ∧ r9.toInt ≤ 256) (zshE ⟨hx_153.1, hx_153.2.1⟩) (fun x_154 hx_154 => ?_)
                  have w155 : x_154.toInt = ((2 ^ (fm 3).toInt.toNat : Nat) : Int) := hx_154.1.trans (zpw (by omega))
                  refine lv_icmp_ge (tgt := 247) hx hb dX12_told_133 (by decide) (fun cb9 => ?_) (fun cb9 => ?_)
                  · skip
                    have c156 : x_154.toInt ≤ x_144.toInt := zle cb9 rfl rfl
                    have n157 : 1 ≤ x_144.toInt := Int.le_trans hx_154.2.1 c156
                    refine lv_iload_n hx hb dX12_told_247 rfl (lv_at hl 3 rfl) ?_
                    have hP : va_P g.1 vwCl (List.flatten [bMo g o a th hi ac 0 ba en tA fl de iD iO tU fm fk fa fc ft ff fb fi_145]) H := hP
                    have hD : va_D A (List.flatten [bMo g o a th hi ac 0 ba en tA fl de iD iO tU fm fk fa fc ft ff fb fi_145]) := hD
                    exact mret_i hx hb hr hlocks hS (Nat.le_of_ble_eq_true rfl) (Nat.le_of_ble_eq_true rfl) dX12_told_248 (fi_145, x_143) rfl (show (((0 ≤ x_143.toInt ∧ x_143.toInt ≤ 256) ∧ zSaid ft tp.toInt (fm 3).toInt ∧ zHr ft tp.toInt fi_145 ((2 ^ (fm 3).toInt.toNat : Nat) : Int) x_143.toInt) ∨ x_143 = (-1) ∧ ¬ zSaid ft tp.toInt (fm 3).toInt) from (Or.inl ⟨(by omega), w141, zHr_e i148 (by omega)⟩)) hP hD
                  · skip
                    have c158 : x_144.toInt < x_154.toInt := zlti (Int32.not_le.mp cb9) rfl rfl
                    have n159 : x_144.toInt ≤ 255 := zL1 (b := 256) c158 hx_154.2.2 (by decide)
                    refine lv_aload_n hx hb dX12_told_136 rfl (lv_at hl 0 rfl) ?_
                    refine va_get (D := g.1) (ci := 10) (v := .ref (a 7)) (C := RX12) (T := TX12) (N := 20) hx hb hts izRX12 hown hK hP 0 rfl rfl 19 (by decide) (hts _ k823) (fun _ h9 => h9) rfl dX12_told_137 ?_
                    refine lv_iload hx hb dX12_told_140 (lv_at hl 4 rfl) ?_
                    refine lv_iconst (v := 1) hx hb dX12_told_142 (by decide) ?_
                    refine va_zast hx hb hK hP hD hS 8 1 rfl rfl (zinK (a := 0) (b := 255) i147.1 n159 (by decide)) dX12_told_143 (fun H locs hP hD hS => ?_)
                    obtain ⟨fi_160, ⟨hvfi_160, hrfi_160⟩, hP, hD⟩ : ∃ fi_160 : Nat → Int32, (fi_160 x_144.toNatClampNeg = 1 ∧ zHr ft tp.toInt fi_160 x_144.toInt x_143.toInt) ∧ va_P g.1 vwCl (List.flatten [bMo g o a th hi ac 0 ba en tA fl de iD iO tU fm fk fa fc ft ff fb fi_160]) H ∧ va_D A (List.flatten [bMo g o a th hi ac 0 ba en tA fl de iD iO tU fm fk fa fc ft ff fb fi_160]) := ⟨upd fi_145 x_144.toNatClampNeg (vp_nar .boolean 1), ⟨(by unfold upd; rw [if_pos rfl]; first | rfl | decide), zHr_k i148 rfl⟩, hP, hD⟩
                    refine lv_iconst (v := 0) hx hb dX12_told_144 (by decide) ?_
                    refine lv_istore (lv' := [(5, .int 0), (0, .ref o), (1, .int tp), (2, .int x_130), (3, .int x_143), (4, .int x_144)]) hx hb dX12_told_145 hl (by decide) rfl (fun ls hl => ?_)
                    have hl := lv_sub (l' := [(0, .ref o), (1, .int tp), (2, .int x_130), (3, .int x_143), (4, .int x_144), (5, .int 0)]) hl [1, 2, 3, 4, 5, 0] rfl
                    have LP147_166 : ∀ (kf : Nat) (x_161 : Int32) (fi_162 : Nat → Int32), (0 ≤ x_161.toInt ∧ x_161.toInt ≤ 39) → (zIn ft tp.toInt fi_162 x_144 x_161.toInt) → (zHr ft tp.toInt fi_162 x_144.toInt x_143.toInt) → ∀ (H : Heap) (locs : List Loc) (ls : Array Slot), ((39 - x_161.toInt).toNat) < kf → va_P g.1 vwCl (List.flatten [bMo g o a th hi ac 0 ba en tA fl de iD iO tU fm fk fa fc ft ff fb fi_162]) H → va_D A (List.flatten [bMo g o a th hi ac 0 ba en tA fl de iD iO tU fm fk fa fc ft ff fb fi_162]) → va_S A s.heap H locs → lv_has ls 6 [(0, .ref o), (1, .int tp), (2, .int x_130), (3, .int x_143), (4, .int x_144), (5, .int x_161)] → W p l e ({ frames := 2, cells := 0, slots := 0, locals := 43 } : Room) s m args below meth c H locs (0) (0) (zF g (fun u : (Nat → Int32) × Int32 => (fun (fi2 : Nat → Int32) (q : Int32) => some (.int q)) (u.1) (u.2)) (fun u : (Nat → Int32) × Int32 => (fun (fi2 : Nat → Int32) (q : Int32) => (((0 ≤ q.toInt ∧ q.toInt ≤ 256) ∧ zSaid ft tp.toInt (fm 3).toInt ∧ zHr ft tp.toInt fi2 ((2 ^ (fm 3).toInt.toNat : Nat) : Int) q.toInt) ∨ q = (-1) ∧ ¬ zSaid ft tp.toInt (fm 3).toInt)) (u.1) (u.2)) (fun u : (Nat → Int32) × Int32 => (fun (fi2 : Nat → Int32) (q : Int32) => [bMo g o a th hi ac 0 ba en tA fl de iD iO tU fm fk fa fc ft ff fb fi2]) (u.1) (u.2)) ({ frames := 2, cells := 0, slots := 0, locals := 43 } : Room) below args s A) (F0 m 147 ls []) := by
                      intro kf
                      induction kf with
                      | zero => intro x_161 fi_162 i163 i164 i165 H locs ls hk; exact absurd hk (Nat.not_lt_zero _)
                      | succ kf ih147_167 =>
                        intro x_161 fi_162 i163 i164 i165 H locs ls hk147_167 hP hD hS hl
                        refine lv_iload hx hb dX12_told_147 (lv_at hl 5 rfl) ?_
                        refine lv_iload_n hx hb dX12_told_149 rfl (lv_at hl 1 rfl) ?_
                        refine lv_icmp_ge (tgt := 223) hx hb dX12_told_150 (by decide) (fun cb9 => ?_) (fun cb9 => ?_)
                        · skip
                          have c168 : tp.toInt ≤ x_161.toInt := zle cb9 rfl rfl
                          have n169 : 37 ≤ x_161.toInt := Int.le_trans n129 c168
                          have n170 : tp.toInt ≤ 39 := Int.le_trans c168 i163.2
                          refine lv_iload_n hx hb dX12_told_223 rfl (lv_at hl 3 rfl) ?_
                          refine lv_aload_n hx hb dX12_told_224 rfl (lv_at hl 0 rfl) ?_
                          refine va_get (D := g.1) (ci := 10) (v := .ref (a 7)) (C := RX12) (T := TX12) (N := 20) hx hb hts izRX12 hown hK hP 0 rfl rfl 19 (by decide) (hts _ k823) (fun _ h9 => h9) rfl dX12_told_225 ?_
                          refine lv_iload hx hb dX12_told_228 (lv_at hl 4 rfl) ?_
                          refine va_zald hx hb hK hP 8 1 rfl rfl (zinK (a := 0) (b := 255) i147.1 n159 (by decide)) dX12_told_230 ?_
                          refine lv_if_eq (tgt := 238) hx hb dX12_told_231 (by decide) (fun cb9 => ?_) (fun cb9 => ?_)
                          · skip
                            have c171 : (fi_162 x_144.toNatClampNeg).toInt = 0 := zeq cb9 rfl (by decide)
                            have n172 : 0 ≤ (fi_162 x_144.toNatClampNeg).toInt := Int.le_trans (Int.le_refl _) (Int.le_of_eq c171.symm)
                            have n173 : (fi_162 x_144.toNatClampNeg).toInt ≤ 0 := Int.le_trans (Int.le_of_eq c171) (Int.le_refl _)
                            refine lv_iconst (v := 0) hx hb dX12_told_238 (by decide) ?_
                            refine lv_iadd hx hb dX12_told_239 ?_
                            refine zg3 (zaddK (i := x_143.toInt) (j := 0) (a' := 0) (b' := 256) rfl (by decide) i146.1 i146.2 (Int.le_refl _) (Int.le_refl _) (by decide)) (fun x_174 hx_174 => ?_)
                            refine lv_istore_n (lv' := [(3, .int x_174), (0, .ref o), (1, .int tp), (2, .int x_130), (4, .int x_144), (5, .int x_161)]) hx hb dX12_told_240 rfl hl (by decide) rfl (fun ls hl => ?_)
                            refine ziinc3 (n' := 1) (a' := 1) (b' := 256) (lv' := fun v9 => [(4, .int v9), (3, .int x_174), (0, .ref o), (1, .int tp), (2, .int x_130), (5, .int x_161)]) hx hb dX12_told_241 hl (k := 4) rfl (by decide) (fun _ => rfl) (zaddK (i := x_144.toInt) (j := 1) rfl (by decide) i147.1 n159 (Int.le_refl _) (Int.le_refl _) (by decide)) (fun x_175 ls hx_175 hl => ?_)
                            refine lv_goto (tgt := 123) hx hb dX12_told_244 (by decide) ?_
                            have hl := lv_sub (l' := [(0, .ref o), (1, .int tp), (2, .int x_130), (3, .int x_174), (4, .int x_175), (5, .int x_161)]) hl [2, 3, 4, 1, 0, 5] rfl
                            have hP : va_P g.1 vwCl (List.flatten [bMo g o a th hi ac 0 ba en tA fl de iD iO tU fm fk fa fc ft ff fb fi_162]) H := hP
                            have hD : va_D A (List.flatten [bMo g o a th hi ac 0 ba en tA fl de iD iO tU fm fk fa fc ft ff fb fi_162]) := hD
                            exact ih123_152 x_174 x_175 fi_162 ⟨hx_174.2.1, hx_174.2.2⟩ ⟨(Int.le_trans (by decide) hx_175.2.1), hx_175.2.2⟩ (zHr_n i165 rfl i164 c171 (by omega) (by omega)) (by first | omega | assumption | decide) (by first | omega | assumption | decide) H _ ls (zmK hx_175.1 (by decide) n159 (by decide) hk123_152)  hP hD hS (lv_sub hl [0, 1, 2, 3, 4] rfl)
                          · skip
                            have c176 : ¬ (fi_162 x_144.toNatClampNeg).toInt = 0 := zne cb9 rfl (by decide)
                            refine lv_iconst (v := 1) hx hb dX12_told_234 (by decide) ?_
                            refine lv_goto (tgt := 239) hx hb dX12_told_235 (by decide) ?_
                            refine lv_iadd hx hb dX12_told_239 ?_
                            refine zg3 (zaddK (i := x_143.toInt) (j := 1) (a' := 1) (b' := 257) rfl (by decide) i146.1 i146.2 (Int.le_refl _) (Int.le_refl _) (by decide)) (fun x_177 hx_177 => ?_)
                            refine lv_istore_n (lv' := [(3, .int x_177), (0, .ref o), (1, .int tp), (2, .int x_130), (4, .int x_144), (5, .int x_161)]) hx hb dX12_told_240 rfl hl (by decide) rfl (fun ls hl => ?_)
                            refine ziinc3 (n' := 1) (a' := 1) (b' := 256) (lv' := fun v9 => [(4, .int v9), (3, .int x_177), (0, .ref o), (1, .int tp), (2, .int x_130), (5, .int x_161)]) hx hb dX12_told_241 hl (k := 4) rfl (by decide) (fun _ => rfl) (zaddK (i := x_144.toInt) (j := 1) rfl (by decide) i147.1 n159 (Int.le_refl _) (Int.le_refl _) (by decide)) (fun x_178 ls hx_178 hl => ?_)
                            refine lv_goto (tgt := 123) hx hb dX12_told_244 (by decide) ?_
                            have hl := lv_sub (l' := [(0, .ref o), (1, .int tp), (2, .int x_130), (3, .int x_177), (4, .int x_178), (5, .int x_161)]) hl [2, 3, 4, 1, 0, 5] rfl
                            have hP : va_P g.1 vwCl (List.flatten [bMo g o a th hi ac 0 ba en tA fl de iD iO tU fm fk fa fc ft ff fb fi_162]) H := hP
                            have hD : va_D A (List.flatten [bMo g o a th hi ac 0 ba en tA fl de iD iO tU fm fk fa fc ft ff fb fi_162]) := hD
                            exact ih123_152 x_177 x_178 fi_162 (by first | omega | assumption | decide) ⟨(Int.le_trans (by decide) hx_178.2.1), hx_178.2.2⟩ (zHr_y i165 rfl i164 (by omega) (by omega) c176 (by omega) (by omega)) (by first | omega | assumption | decide) (by first | omega | assumption | decide) H _ ls (zmK hx_178.1 (by decide) n159 (by decide) hk123_152)  hP hD hS (lv_sub hl [0, 1, 2, 3, 4] rfl)
                        · skip
                          have c179 : x_161.toInt < tp.toInt := zlti (Int32.not_le.mp cb9) rfl rfl
                          refine lv_aload_n hx hb dX12_told_153 rfl (lv_at hl 0 rfl) ?_
                          refine va_get (D := g.1) (ci := 10) (v := .ref (a 7)) (C := RX12) (T := TX12) (N := 20) hx hb hts izRX12 hown hK hP 0 rfl rfl 19 (by decide) (hts _ k823) (fun _ h9 => h9) rfl dX12_told_154 ?_
                          refine lv_iload hx hb dX12_told_157 (lv_at hl 4 rfl) ?_
                          refine va_zald hx hb hK hP 8 1 rfl rfl (zinK (a := 0) (b := 255) i147.1 n159 (by decide)) dX12_told_159 ?_
                          refine lv_if_eq (tgt := 223) hx hb dX12_told_160 (by decide) (fun cb9 => ?_) (fun cb9 => ?_)
                          · skip
                            have c180 : (fi_162 x_144.toNatClampNeg).toInt = 0 := zeq cb9 rfl (by decide)
                            have n181 : 0 ≤ (fi_162 x_144.toNatClampNeg).toInt := Int.le_trans (Int.le_refl _) (Int.le_of_eq c180.symm)
                            have n182 : (fi_162 x_144.toNatClampNeg).toInt ≤ 0 := Int.le_trans (Int.le_of_eq c180) (Int.le_refl _)
                            refine lv_iload_n hx hb dX12_told_223 rfl (lv_at hl 3 rfl) ?_
                            refine lv_aload_n hx hb dX12_told_224 rfl (lv_at hl 0 rfl) ?_
                            refine va_get (D := g.1) (ci := 10) (v := .ref (a 7)) (C := RX12) (T := TX12) (N := 20) hx hb hts izRX12 hown hK hP 0 rfl rfl 19 (by decide) (hts _ k823) (fun _ h9 => h9) rfl dX12_told_225 ?_
                            refine lv_iload hx hb dX12_told_228 (lv_at hl 4 rfl) ?_
                            refine va_zald hx hb hK hP 8 1 rfl rfl (zinK (a := 0) (b := 255) i147.1 n159 (by decide)) dX12_told_230 ?_
                            refine lv_if_eq (tgt := 238) hx hb dX12_told_231 (by decide) (fun cb9 => ?_) (fun cb9 => ?_)
                            · skip
                              have c183 : (fi_162 x_144.toNatClampNeg).toInt = 0 := zeq cb9 rfl (by decide)
                              refine lv_iconst (v := 0) hx hb dX12_told_238 (by decide) ?_
                              refine lv_iadd hx hb dX12_told_239 ?_
                              refine zg3 (zaddK (i := x_143.toInt) (j := 0) (a' := 0) (b' := 256) rfl (by decide) i146.1 i146.2 (Int.le_refl _) (Int.le_refl _) (by decide)) (fun x_184 hx_184 => ?_)
                              refine lv_istore_n (lv' := [(3, .int x_184), (0, .ref o), (1, .int tp), (2, .int x_130), (4, .int x_144), (5, .int x_161)]) hx hb dX12_told_240 rfl hl (by decide) rfl (fun ls hl => ?_)
                              refine ziinc3 (n' := 1) (a' := 1) (b' := 256) (lv' := fun v9 => [(4, .int v9), (3, .int x_184), (0, .ref o), (1, .int tp), (2, .int x_130), (5, .int x_161)]) hx hb dX12_told_241 hl (k := 4) rfl (by decide) (fun _ => rfl) (zaddK (i := x_144.toInt) (j := 1) rfl (by decide) i147.1 n159 (Int.le_refl _) (Int.le_refl _) (by decide)) (fun x_185 ls hx_185 hl => ?_)
                              refine lv_goto (tgt := 123) hx hb dX12_told_244 (by decide) ?_
                              have hl := lv_sub (l' := [(0, .ref o), (1, .int tp), (2, .int x_130), (3, .int x_184), (4, .int x_185), (5, .int x_161)]) hl [2, 3, 4, 1, 0, 5] rfl
                              have hP : va_P g.1 vwCl (List.flatten [bMo g o a th hi ac 0 ba en tA fl de iD iO tU fm fk fa fc ft ff fb fi_162]) H := hP
                              have hD : va_D A (List.flatten [bMo g o a th hi ac 0 ba en tA fl de iD iO tU fm fk fa fc ft ff fb fi_162]) := hD
                              exact ih123_152 x_184 x_185 fi_162 ⟨hx_184.2.1, hx_184.2.2⟩ ⟨(Int.le_trans (by decide) hx_185.2.1), hx_185.2.2⟩ (zHr_n i165 rfl i164 c183 (by omega) (by omega)) (by first | omega | assumption | decide) (by first | omega | assumption | decide) H _ ls (zmK hx_185.1 (by decide) n159 (by decide) hk123_152)  hP hD hS (lv_sub hl [0, 1, 2, 3, 4] rfl)
                            · skip
                              exact absurd (show ¬ (fi_162 x_144.toNatClampNeg).toInt = 0 from zne cb9 rfl (by decide)) (by omega)
                          · skip
                            have c187 : ¬ (fi_162 x_144.toNatClampNeg).toInt = 0 := zne cb9 rfl (by decide)
                            refine lv_aload_n hx hb dX12_told_163 rfl (lv_at hl 0 rfl) ?_
                            refine va_get (D := g.1) (ci := 10) (v := .ref (a 7)) (C := RX12) (T := TX12) (N := 20) hx hb hts izRX12 hown hK hP 0 rfl rfl 19 (by decide) (hts _ k823) (fun _ h9 => h9) rfl dX12_told_164 ?_
                            refine lv_iload hx hb dX12_told_167 (lv_at hl 4 rfl) ?_
                            refine lv_iload hx hb dX12_told_169 (lv_at hl 4 rfl) ?_
                            refine lv_aload_n hx hb dX12_told_171 rfl (lv_at hl 0 rfl) ?_
                            refine va_get (D := g.1) (ci := 10) (v := .ref (a 4)) (C := RX12) (T := TX12) (N := 20) hx hb hts izRX12 hown hK hP 0 rfl rfl 7 (by decide) (hts _ k819) (fun _ h9 => h9) rfl dX12_told_172 ?_
                            refine lv_iload hx hb dX12_told_175 (lv_at hl 5 rfl) ?_
                            refine va_iald hx hb hK hP 5 0 rfl rfl (zinK (a := 0) (b := 39) i163.1 i163.2 (by decide)) dX12_told_177 ?_
                            refine lv_aload_n hx hb dX12_told_178 rfl (lv_at hl 0 rfl) ?_
                            refine va_get (D := g.1) (ci := 10) (v := .ref (a 4)) (C := RX12) (T := TX12) (N := 20) hx hb hts izRX12 hown hK hP 0 rfl rfl 7 (by decide) (hts _ k819) (fun _ h9 => h9) rfl dX12_told_179 ?_
                            refine lv_iload hx hb dX12_told_182 (lv_at hl 5 rfl) ?_
                            refine lv_iconst (v := 1) hx hb dX12_told_184 (by decide) ?_
                            refine lv_iadd hx hb dX12_told_185 ?_
                            refine zg3 (zaddK (i := x_161.toInt) (j := 1) (a' := 1) (b' := 40) rfl (by decide) i163.1 i163.2 (Int.le_refl _) (Int.le_refl _) (by decide)) (fun x_188 hx_188 => ?_)
                            refine va_iald hx hb hK hP 5 0 rfl rfl (zinK (a := 1) (b := 40) hx_188.2.1 hx_188.2.2 (by decide)) dX12_told_186 ?_
                            refine mcallS' (g := g) (As := [.int x_144, .int (ft x_161.toNatClampNeg), .int (ft x_188.toNatClampNeg)]) (rest := [.int x_144, .ref (a 7)]) St hK hT hA hP hD hS hl.1 [] [0] rfl rfl rfl (m_saysF l g x_144 (ft x_161.toNatClampNeg) (ft x_188.toNatClampNeg) ) (va_cwS 3 hts (zgL (zl3 k1101 k1102 k839) k1099) rfl rfl rfl (by decide +kernel) ⟨Nat.le_of_ble_eq_true rfl, Nat.le_of_ble_eq_true rfl⟩) rfl rfl (Nat.le_of_ble_eq_true rfl) dX12_told_187 ⟨(Nat.le_of_ble_eq_true rfl), (Nat.le_of_ble_eq_true rfl)⟩ (fun q_189 H locs hq190 hP hD hS => ?_)
                            replace hq190 : (q_189 = 1 ∧ zAns x_144 (ft x_161.toNatClampNeg) (ft x_188.toNatClampNeg) ∨ q_189 = 0 ∧ ¬ zAns x_144 (ft x_161.toNatClampNeg) (ft x_188.toNatClampNeg)) := hq190
                            have hP : va_P g.1 vwCl (List.flatten [bMo g o a th hi ac 0 ba en tA fl de iD iO tU fm fk fa fc ft ff fb fi_162]) H := hP
                            have hD : va_D A (List.flatten [bMo g o a th hi ac 0 ba en tA fl de iD iO tU fm fk fa fc ft ff fb fi_162]) := hD
                            refine W.widen (k := 0) (n := 0) (Nat.le_of_ble_eq_true rfl) (Nat.le_of_ble_eq_true rfl) ?_
                            refine W.eq (g2 := F0 m 190 ls [.int q_189, .int x_144, .ref (a 7)]) rfl ?_
                            rcases hq190 with ⟨rfl, hq190_k⟩ | ⟨rfl, hq190_k⟩
                            · skip
                              refine lv_aload_n hx hb dX12_told_190 rfl (lv_at hl 0 rfl) ?_
                              refine va_get (D := g.1) (ci := 10) (v := .ref (a 4)) (C := RX12) (T := TX12) (N := 20) hx hb hts izRX12 hown hK hP 0 rfl rfl 7 (by decide) (hts _ k819) (fun _ h9 => h9) rfl dX12_told_191 ?_
                              refine lv_iload hx hb dX12_told_194 (lv_at hl 5 rfl) ?_
                              refine lv_iconst (v := 2) hx hb dX12_told_196 (by decide) ?_
                              refine lv_iadd hx hb dX12_told_197 ?_
                              refine zg3 (zaddK (i := x_161.toInt) (j := 2) (a' := 2) (b' := 41) rfl (by decide) i163.1 i163.2 (Int.le_refl _) (Int.le_refl _) (by decide)) (fun x_191 hx_191 => ?_)
                              refine va_iald hx hb hK hP 5 0 rfl rfl (zinK (a := 2) (b := 41) hx_191.2.1 hx_191.2.2 (by decide)) dX12_told_198 ?_
                              refine lv_iconst (v := 1) hx hb dX12_told_199 (by decide) ?_
                              refine lv_icmp_ne (tgt := 207) hx hb dX12_told_200 (by decide) (fun cb9 => ?_) (fun cb9 => ?_)
                              · skip
                                have c192 : ¬ (ft x_191.toNatClampNeg).toInt = 1 := zne cb9 rfl (by decide)
                                refine lv_iconst (v := 0) hx hb dX12_told_207 (by decide) ?_
                                refine lv_icmp_ne (tgt := 215) hx hb dX12_told_208 (by decide) (fun _ => ?_) (fun c193 => absurd c193 (by decide))
                                refine lv_iconst (v := 0) hx hb dX12_told_215 (by decide) ?_
                                refine va_zast hx hb hK hP hD hS 8 1 rfl rfl (zinK (a := 0) (b := 255) i147.1 n159 (by decide)) dX12_told_216 (fun H locs hP hD hS => ?_)
                                obtain ⟨fi_194, ⟨hvfi_194, hrfi_194⟩, hP, hD⟩ : ∃ fi_194 : Nat → Int32, (fi_194 x_144.toNatClampNeg = 0 ∧ zHr ft tp.toInt fi_194 x_144.toInt x_143.toInt) ∧ va_P g.1 vwCl (List.flatten [bMo g o a th hi ac 0 ba en tA fl de iD iO tU fm fk fa fc ft ff fb fi_194]) H ∧ va_D A (List.flatten [bMo g o a th hi ac 0 ba en tA fl de iD iO tU fm fk fa fc ft ff fb fi_194]) := ⟨upd fi_162 x_144.toNatClampNeg (vp_nar .boolean 0), ⟨(by unfold upd; rw [if_pos rfl]; first | rfl | decide), zHr_k i165 rfl⟩, hP, hD⟩
                                refine ziinc3 (n' := 3) (a' := 3) (b' := 42) (lv' := fun v9 => [(5, .int v9), (0, .ref o), (1, .int tp), (2, .int x_130), (3, .int x_143), (4, .int x_144)]) hx hb dX12_told_217 hl (k := 5) rfl (by decide) (fun _ => rfl) (zaddK (i := x_161.toInt) (j := 3) rfl (by decide) i163.1 i163.2 (Int.le_refl _) (Int.le_refl _) (by decide)) (fun x_195 ls hx_195 hl => ?_)
                                refine lv_goto (tgt := 147) hx hb dX12_told_220 (by decide) ?_
                                have hl := lv_sub (l' := [(0, .ref o), (1, .int tp), (2, .int x_130), (3, .int x_143), (4, .int x_144), (5, .int x_195)]) hl [1, 2, 3, 4, 5, 0] rfl
                                have hP : va_P g.1 vwCl (List.flatten [bMo g o a th hi ac 0 ba en tA fl de iD iO tU fm fk fa fc ft ff fb fi_194]) H := hP
                                have hD : va_D A (List.flatten [bMo g o a th hi ac 0 ba en tA fl de iD iO tU fm fk fa fc ft ff fb fi_194]) := hD
                                exact ih147_167 x_195 fi_194 (by first | omega | assumption | decide) (zIn_n (x0 := x_161) (x1 := x_188) (x2 := x_191) i164 c187 (by omega) (by omega) rfl (by omega) (by omega) (zniff1 hq190_k c192) hvfi_194) hrfi_194 H _ ls (by omega)  hP hD hS (lv_sub hl [0, 1, 2, 3, 4, 5] rfl)
                              · skip
                                have c196 : (ft x_191.toNatClampNeg).toInt = 1 := zeq cb9 rfl (by decide)
                                have n197 : 1 ≤ (ft x_191.toNatClampNeg).toInt := Int.le_trans (Int.le_refl _) (Int.le_of_eq c196.symm)
                                have n198 : (ft x_191.toNatClampNeg).toInt ≤ 1 := Int.le_trans (Int.le_of_eq c196) (Int.le_refl _)
                                refine lv_iconst (v := 1) hx hb dX12_told_203 (by decide) ?_
                                refine lv_goto (tgt := 208) hx hb dX12_told_204 (by decide) ?_
                                refine lv_icmp_ne (tgt := 215) hx hb dX12_told_208 (by decide) (fun c199 => absurd (by decide) c199) (fun _ => ?_)
                                refine lv_iconst (v := 1) hx hb dX12_told_211 (by decide) ?_
                                refine lv_goto (tgt := 216) hx hb dX12_told_212 (by decide) ?_
                                refine va_zast hx hb hK hP hD hS 8 1 rfl rfl (zinK (a := 0) (b := 255) i147.1 n159 (by decide)) dX12_told_216 (fun H locs hP hD hS => ?_)
                                obtain ⟨fi_200, ⟨hvfi_200, hrfi_200⟩, hP, hD⟩ : ∃ fi_200 : Nat → Int32, (fi_200 x_144.toNatClampNeg = 1 ∧ zHr ft tp.toInt fi_200 x_144.toInt x_143.toInt) ∧ va_P g.1 vwCl (List.flatten [bMo g o a th hi ac 0 ba en tA fl de iD iO tU fm fk fa fc ft ff fb fi_200]) H ∧ va_D A (List.flatten [bMo g o a th hi ac 0 ba en tA fl de iD iO tU fm fk fa fc ft ff fb fi_200]) := ⟨upd fi_162 x_144.toNatClampNeg (vp_nar .boolean 1), ⟨(by unfold upd; rw [if_pos rfl]; first | rfl | decide), zHr_k i165 rfl⟩, hP, hD⟩
                                refine ziinc3 (n' := 3) (a' := 3) (b' := 42) (lv' := fun v9 => [(5, .int v9), (0, .ref o), (1, .int tp), (2, .int x_130), (3, .int x_143), (4, .int x_144)]) hx hb dX12_told_217 hl (k := 5) rfl (by decide) (fun _ => rfl) (zaddK (i := x_161.toInt) (j := 3) rfl (by decide) i163.1 i163.2 (Int.le_refl _) (Int.le_refl _) (by decide)) (fun x_201 ls hx_201 hl => ?_)
                                refine lv_goto (tgt := 147) hx hb dX12_told_220 (by decide) ?_
                                have hl := lv_sub (l' := [(0, .ref o), (1, .int tp), (2, .int x_130), (3, .int x_143), (4, .int x_144), (5, .int x_201)]) hl [1, 2, 3, 4, 5, 0] rfl
                                have hP : va_P g.1 vwCl (List.flatten [bMo g o a th hi ac 0 ba en tA fl de iD iO tU fm fk fa fc ft ff fb fi_200]) H := hP
                                have hD : va_D A (List.flatten [bMo g o a th hi ac 0 ba en tA fl de iD iO tU fm fk fa fc ft ff fb fi_200]) := hD
                                exact ih147_167 x_201 fi_200 (by first | omega | assumption | decide) (zIn_y (x0 := x_161) (x1 := x_188) (x2 := x_191) i164 c187 rfl (by omega) (by omega) (ziff1 hq190_k c196) hvfi_200 (by omega)) hrfi_200 H _ ls (by omega)  hP hD hS (lv_sub hl [0, 1, 2, 3, 4, 5] rfl)
                            · skip
                              refine lv_aload_n hx hb dX12_told_190 rfl (lv_at hl 0 rfl) ?_
                              refine va_get (D := g.1) (ci := 10) (v := .ref (a 4)) (C := RX12) (T := TX12) (N := 20) hx hb hts izRX12 hown hK hP 0 rfl rfl 7 (by decide) (hts _ k819) (fun _ h9 => h9) rfl dX12_told_191 ?_
                              refine lv_iload hx hb dX12_told_194 (lv_at hl 5 rfl) ?_
                              refine lv_iconst (v := 2) hx hb dX12_told_196 (by decide) ?_
                              refine lv_iadd hx hb dX12_told_197 ?_
                              refine zg3 (zaddK (i := x_161.toInt) (j := 2) (a' := 2) (b' := 41) rfl (by decide) i163.1 i163.2 (Int.le_refl _) (Int.le_refl _) (by decide)) (fun x_202 hx_202 => ?_)
                              refine va_iald hx hb hK hP 5 0 rfl rfl (zinK (a := 2) (b := 41) hx_202.2.1 hx_202.2.2 (by decide)) dX12_told_198 ?_
                              refine lv_iconst (v := 1) hx hb dX12_told_199 (by decide) ?_
                              refine lv_icmp_ne (tgt := 207) hx hb dX12_told_200 (by decide) (fun cb9 => ?_) (fun cb9 => ?_)
                              · skip
                                have c203 : ¬ (ft x_202.toNatClampNeg).toInt = 1 := zne cb9 rfl (by decide)
                                refine lv_iconst (v := 0) hx hb dX12_told_207 (by decide) ?_
                                refine lv_icmp_ne (tgt := 215) hx hb dX12_told_208 (by decide) (fun c204 => absurd (by decide) c204) (fun _ => ?_)
                                refine lv_iconst (v := 1) hx hb dX12_told_211 (by decide) ?_
                                refine lv_goto (tgt := 216) hx hb dX12_told_212 (by decide) ?_
                                refine va_zast hx hb hK hP hD hS 8 1 rfl rfl (zinK (a := 0) (b := 255) i147.1 n159 (by decide)) dX12_told_216 (fun H locs hP hD hS => ?_)
                                obtain ⟨fi_205, ⟨hvfi_205, hrfi_205⟩, hP, hD⟩ : ∃ fi_205 : Nat → Int32, (fi_205 x_144.toNatClampNeg = 1 ∧ zHr ft tp.toInt fi_205 x_144.toInt x_143.toInt) ∧ va_P g.1 vwCl (List.flatten [bMo g o a th hi ac 0 ba en tA fl de iD iO tU fm fk fa fc ft ff fb fi_205]) H ∧ va_D A (List.flatten [bMo g o a th hi ac 0 ba en tA fl de iD iO tU fm fk fa fc ft ff fb fi_205]) := ⟨upd fi_162 x_144.toNatClampNeg (vp_nar .boolean 1), ⟨(by unfold upd; rw [if_pos rfl]; first | rfl | decide), zHr_k i165 rfl⟩, hP, hD⟩
                                refine ziinc3 (n' := 3) (a' := 3) (b' := 42) (lv' := fun v9 => [(5, .int v9), (0, .ref o), (1, .int tp), (2, .int x_130), (3, .int x_143), (4, .int x_144)]) hx hb dX12_told_217 hl (k := 5) rfl (by decide) (fun _ => rfl) (zaddK (i := x_161.toInt) (j := 3) rfl (by decide) i163.1 i163.2 (Int.le_refl _) (Int.le_refl _) (by decide)) (fun x_206 ls hx_206 hl => ?_)
                                refine lv_goto (tgt := 147) hx hb dX12_told_220 (by decide) ?_
                                have hl := lv_sub (l' := [(0, .ref o), (1, .int tp), (2, .int x_130), (3, .int x_143), (4, .int x_144), (5, .int x_206)]) hl [1, 2, 3, 4, 5, 0] rfl
                                have hP : va_P g.1 vwCl (List.flatten [bMo g o a th hi ac 0 ba en tA fl de iD iO tU fm fk fa fc ft ff fb fi_205]) H := hP
                                have hD : va_D A (List.flatten [bMo g o a th hi ac 0 ba en tA fl de iD iO tU fm fk fa fc ft ff fb fi_205]) := hD
                                exact ih147_167 x_206 fi_205 (by first | omega | assumption | decide) (zIn_y (x0 := x_161) (x1 := x_188) (x2 := x_202) i164 c187 rfl (by omega) (by omega) (ziff0 hq190_k c203) hvfi_205 (by omega)) hrfi_205 H _ ls (by omega)  hP hD hS (lv_sub hl [0, 1, 2, 3, 4, 5] rfl)
                              · skip
                                have c207 : (ft x_202.toNatClampNeg).toInt = 1 := zeq cb9 rfl (by decide)
                                have n208 : 1 ≤ (ft x_202.toNatClampNeg).toInt := Int.le_trans (Int.le_refl _) (Int.le_of_eq c207.symm)
                                have n209 : (ft x_202.toNatClampNeg).toInt ≤ 1 := Int.le_trans (Int.le_of_eq c207) (Int.le_refl _)
                                refine lv_iconst (v := 1) hx hb dX12_told_203 (by decide) ?_
                                refine lv_goto (tgt := 208) hx hb dX12_told_204 (by decide) ?_
                                refine lv_icmp_ne (tgt := 215) hx hb dX12_told_208 (by decide) (fun _ => ?_) (fun c210 => absurd c210 (by decide))
                                refine lv_iconst (v := 0) hx hb dX12_told_215 (by decide) ?_
                                refine va_zast hx hb hK hP hD hS 8 1 rfl rfl (zinK (a := 0) (b := 255) i147.1 n159 (by decide)) dX12_told_216 (fun H locs hP hD hS => ?_)
                                obtain ⟨fi_211, ⟨hvfi_211, hrfi_211⟩, hP, hD⟩ : ∃ fi_211 : Nat → Int32, (fi_211 x_144.toNatClampNeg = 0 ∧ zHr ft tp.toInt fi_211 x_144.toInt x_143.toInt) ∧ va_P g.1 vwCl (List.flatten [bMo g o a th hi ac 0 ba en tA fl de iD iO tU fm fk fa fc ft ff fb fi_211]) H ∧ va_D A (List.flatten [bMo g o a th hi ac 0 ba en tA fl de iD iO tU fm fk fa fc ft ff fb fi_211]) := ⟨upd fi_162 x_144.toNatClampNeg (vp_nar .boolean 0), ⟨(by unfold upd; rw [if_pos rfl]; first | rfl | decide), zHr_k i165 rfl⟩, hP, hD⟩
                                refine ziinc3 (n' := 3) (a' := 3) (b' := 42) (lv' := fun v9 => [(5, .int v9), (0, .ref o), (1, .int tp), (2, .int x_130), (3, .int x_143), (4, .int x_144)]) hx hb dX12_told_217 hl (k := 5) rfl (by decide) (fun _ => rfl) (zaddK (i := x_161.toInt) (j := 3) rfl (by decide) i163.1 i163.2 (Int.le_refl _) (Int.le_refl _) (by decide)) (fun x_212 ls hx_212 hl => ?_)
                                refine lv_goto (tgt := 147) hx hb dX12_told_220 (by decide) ?_
                                have hl := lv_sub (l' := [(0, .ref o), (1, .int tp), (2, .int x_130), (3, .int x_143), (4, .int x_144), (5, .int x_212)]) hl [1, 2, 3, 4, 5, 0] rfl
                                have hP : va_P g.1 vwCl (List.flatten [bMo g o a th hi ac 0 ba en tA fl de iD iO tU fm fk fa fc ft ff fb fi_211]) H := hP
                                have hD : va_D A (List.flatten [bMo g o a th hi ac 0 ba en tA fl de iD iO tU fm fk fa fc ft ff fb fi_211]) := hD
                                exact ih147_167 x_212 fi_211 (by first | omega | assumption | decide) (zIn_n (x0 := x_161) (x1 := x_188) (x2 := x_202) i164 c187 (by omega) (by omega) rfl (by omega) (by omega) (zniff0 hq190_k c207) hvfi_211) hrfi_211 H _ ls (by omega)  hP hD hS (lv_sub hl [0, 1, 2, 3, 4, 5] rfl)
                    have hL0 : (0 : Int32).toInt = 0 := by decide
                    have hP : va_P g.1 vwCl (List.flatten [bMo g o a th hi ac 0 ba en tA fl de iD iO tU fm fk fa fc ft ff fb fi_160]) H := hP
                    have hD : va_D A (List.flatten [bMo g o a th hi ac 0 ba en tA fl de iD iO tU fm fk fa fc ft ff fb fi_160]) := hD
                    exact LP147_166 _ 0 fi_160 (by decide) (zIn_0 hvfi_160 (by decide)) hrfi_160 H _ ls (Nat.lt_succ_self _)  hP hD hS (lv_sub hl [0, 1, 2, 3, 4, 5] rfl)
              have hL0 : (0 : Int32).toInt = 0 := by decide
              have hP : va_P g.1 vwCl (List.flatten [bMo g o a th hi ac 0 ba en tA fl de iD iO tU fm fk fa fc ft ff fb fi]) H := hP
              have hD : va_D A (List.flatten [bMo g o a th hi ac 0 ba en tA fl de iD iO tU fm fk fa fc ft ff fb fi]) := hD
              exact LP123_151 _ 0 0 fi (by decide) (by decide) (zHr_0 (by decide) (by decide)) (by first | omega | assumption | decide) (by first | omega | assumption | exact Int.natCast_nonneg _ | decide) H _ ls (Nat.lt_succ_self _)  hP hD hS (lv_sub hl [0, 1, 2, 3, 4] rfl)
            · skip
              have c213 : x_130.toInt = 0 := zeq cb9 rfl (by decide)
              have n214 : x_130.toInt ≤ 0 := Int.le_trans (Int.le_of_eq c213) (Int.le_refl _)
              refine lv_iconst (v := (-1)) hx hb dX12_told_116 (by decide) ?_
              have hLn1 : ((-1) : Int32).toInt = (-1) := by decide
              have hP : va_P g.1 vwCl (List.flatten [bMo g o a th hi ac 0 ba en tA fl de iD iO tU fm fk fa fc ft ff fb fi]) H := hP
              have hD : va_D A (List.flatten [bMo g o a th hi ac 0 ba en tA fl de iD iO tU fm fk fa fc ft ff fb fi]) := hD
              exact mret_i hx hb hr hlocks hS (Nat.le_of_ble_eq_true rfl) (Nat.le_of_ble_eq_true rfl) dX12_told_117 (fi, -1) rfl (show (((0 ≤ ((-1) : Int32).toInt ∧ ((-1) : Int32).toInt ≤ 256) ∧ zSaid ft tp.toInt (fm 3).toInt ∧ zHr ft tp.toInt fi ((2 ^ (fm 3).toInt.toNat : Nat) : Int) ((-1) : Int32).toInt) ∨ (-1) = (-1) ∧ ¬ zSaid ft tp.toInt (fm 3).toInt) from (Or.inr ⟨rfl, (zSg_en i134 (by omega))⟩)) hP hD
          · skip
            have c215 : x_131.toInt < tp.toInt := zlti (Int32.not_le.mp cb9) rfl rfl
            have n216 : x_131.toInt ≤ 399 := zL1 (b := 400) c215 htp.2 (by decide)
            refine lv_iload_n hx hb dX12_told_35 rfl (lv_at hl 2 rfl) ?_
            refine lv_if_eq (tgt := 112) hx hb dX12_told_36 (by decide) (fun cb9 => ?_) (fun cb9 => ?_)
            · skip
              have c217 : x_130.toInt = 0 := zeq cb9 rfl (by decide)
              have n218 : x_130.toInt ≤ 0 := Int.le_trans (Int.le_of_eq c217) (Int.le_refl _)
              refine lv_iload_n hx hb dX12_told_112 rfl (lv_at hl 2 rfl) ?_
              refine lv_if_ne (tgt := 118) hx hb dX12_told_113 (by decide) (fun cb9 => ?_) (fun cb9 => ?_)
              · skip
                exact absurd (show ¬ x_130.toInt = 0 from zne cb9 rfl (by decide)) (by omega)
              · skip
                have c220 : x_130.toInt = 0 := zeq cb9 rfl (by decide)
                refine lv_iconst (v := (-1)) hx hb dX12_told_116 (by decide) ?_
                have hLn1 : ((-1) : Int32).toInt = (-1) := by decide
                have hP : va_P g.1 vwCl (List.flatten [bMo g o a th hi ac 0 ba en tA fl de iD iO tU fm fk fa fc ft ff fb fi]) H := hP
                have hD : va_D A (List.flatten [bMo g o a th hi ac 0 ba en tA fl de iD iO tU fm fk fa fc ft ff fb fi]) := hD
                exact mret_i hx hb hr hlocks hS (Nat.le_of_ble_eq_true rfl) (Nat.le_of_ble_eq_true rfl) dX12_told_117 (fi, -1) rfl (show (((0 ≤ ((-1) : Int32).toInt ∧ ((-1) : Int32).toInt ≤ 256) ∧ zSaid ft tp.toInt (fm 3).toInt ∧ zHr ft tp.toInt fi ((2 ^ (fm 3).toInt.toNat : Nat) : Int) ((-1) : Int32).toInt) ∨ (-1) = (-1) ∧ ¬ zSaid ft tp.toInt (fm 3).toInt) from (Or.inr ⟨rfl, (zSg_en i134 (by omega))⟩)) hP hD
            · skip
              have c221 : ¬ x_130.toInt = 0 := zne cb9 rfl (by decide)
              have n222 : 1 ≤ x_130.toInt := zN1 c221 i132.1 (by decide)
              obtain ⟨w223, w224, w225⟩ := zSg_i i134 (by omega)
              have w226 := w225.1
              refine lv_aload_n hx hb dX12_told_39 rfl (lv_at hl 0 rfl) ?_
              refine va_get (D := g.1) (ci := 10) (v := .ref (a 4)) (C := RX12) (T := TX12) (N := 20) hx hb hts izRX12 hown hK hP 0 rfl rfl 7 (by decide) (hts _ k819) (fun _ h9 => h9) rfl dX12_told_40 ?_
              refine lv_iload_n hx hb dX12_told_43 rfl (lv_at hl 3 rfl) ?_
              refine va_iald hx hb hK hP 5 0 rfl rfl (zinK (a := 0) (b := 399) i133.1 n216 (by decide)) dX12_told_44 ?_
              refine lv_aload_n hx hb dX12_told_45 rfl (lv_at hl 0 rfl) ?_
              refine va_get (D := g.1) (ci := 10) (v := .ref (a 0)) (C := RX12) (T := TX12) (N := 20) hx hb hts izRX12 hown hK hP 0 rfl rfl 1 (by decide) (hts _ k815) (fun _ h9 => h9) rfl dX12_told_46 ?_
              refine lv_iconst (v := 3) hx hb dX12_told_49 (by decide) ?_
              refine va_iald hx hb hK hP 1 0 rfl rfl (zin rfl) dX12_told_50 ?_
              refine zgq (r := fm 3) rfl (rM3 rfm) (fun x_227 hx_227 => ?_)
              refine lv_icmp_ge (tgt := 104) hx hb dX12_told_51 (by decide) (fun cb9 => ?_) (fun cb9 => ?_)
              · skip
                have c228 : x_227.toInt ≤ (ft x_131.toNatClampNeg).toInt := zle cb9 rfl rfl
                have n229 : 0 ≤ (ft x_131.toNatClampNeg).toInt := Int.le_trans hx_227.1 c228
                refine lv_iconst (v := 0) hx hb dX12_told_104 (by decide) ?_
                refine lv_istore_n (lv' := [(2, .int 0), (0, .ref o), (1, .int tp), (3, .int x_131)]) hx hb dX12_told_105 rfl hl (by decide) rfl (fun ls hl => ?_)
                refine ziinc3 (n' := 3) (a' := 3) (b' := 402) (lv' := fun v9 => [(3, .int v9), (2, .int 0), (0, .ref o), (1, .int tp)]) hx hb dX12_told_106 hl (k := 3) rfl (by decide) (fun _ => rfl) (zaddK (i := x_131.toInt) (j := 3) rfl (by decide) i133.1 n216 (Int.le_refl _) (Int.le_refl _) (by decide)) (fun x_230 ls hx_230 hl => ?_)
                refine lv_goto (tgt := 30) hx hb dX12_told_109 (by decide) ?_
                have hl := lv_sub (l' := [(0, .ref o), (1, .int tp), (2, .int 0), (3, .int x_230)]) hl [2, 3, 1, 0] rfl
                have hL0 : (0 : Int32).toInt = 0 := by decide
                have hP : va_P g.1 vwCl (List.flatten [bMo g o a th hi ac 0 ba en tA fl de iD iO tU fm fk fa fc ft ff fb fi]) H := hP
                have hD : va_D A (List.flatten [bMo g o a th hi ac 0 ba en tA fl de iD iO tU fm fk fa fc ft ff fb fi]) := hD
                exact ih30_136 0 x_230 (by decide) ⟨(Int.le_trans (by decide) hx_230.2.1), hx_230.2.2⟩ (zSg_x1 (x := x_131) i134 (by omega) (by omega) (by decide) (by omega) (by omega)) H _ ls (by omega)  hP hD hS (lv_sub hl [0, 1, 2, 3] rfl)
              · skip
                have c231 : (ft x_131.toNatClampNeg).toInt < x_227.toInt := zlti (Int32.not_le.mp cb9) rfl rfl
                have n232 : (ft x_131.toNatClampNeg).toInt ≤ 7 := zL1 (b := 8) c231 hx_227.2.1 (by decide)
                refine lv_aload_n hx hb dX12_told_54 rfl (lv_at hl 0 rfl) ?_
                refine va_get (D := g.1) (ci := 10) (v := .ref (a 4)) (C := RX12) (T := TX12) (N := 20) hx hb hts izRX12 hown hK hP 0 rfl rfl 7 (by decide) (hts _ k819) (fun _ h9 => h9) rfl dX12_told_55 ?_
                refine lv_iload_n hx hb dX12_told_58 rfl (lv_at hl 3 rfl) ?_
                refine lv_iconst (v := 1) hx hb dX12_told_59 (by decide) ?_
                refine lv_iadd hx hb dX12_told_60 ?_
                refine zg3 (zaddK (i := x_131.toInt) (j := 1) (a' := 1) (b' := 400) rfl (by decide) i133.1 n216 (Int.le_refl _) (Int.le_refl _) (by decide)) (fun x_233 hx_233 => ?_)
                refine va_iald hx hb hK hP 5 0 rfl rfl (zinI (by omega) (by omega)) dX12_told_61 ?_
                refine lv_aload_n hx hb dX12_told_62 rfl (lv_at hl 0 rfl) ?_
                refine va_get (D := g.1) (ci := 10) (v := .ref (a 0)) (C := RX12) (T := TX12) (N := 20) hx hb hts izRX12 hown hK hP 0 rfl rfl 1 (by decide) (hts _ k815) (fun _ h9 => h9) rfl dX12_told_63 ?_
                refine lv_iconst (v := 3) hx hb dX12_told_66 (by decide) ?_
                refine va_iald hx hb hK hP 1 0 rfl rfl (zin rfl) dX12_told_67 ?_
                refine zgq (r := fm 3) rfl (rM3 rfm) (fun x_234 hx_234 => ?_)
                refine lv_icmp_ge (tgt := 104) hx hb dX12_told_68 (by decide) (fun cb9 => ?_) (fun cb9 => ?_)
                · skip
                  have c235 : x_234.toInt ≤ (ft x_233.toNatClampNeg).toInt := zle cb9 rfl rfl
                  have n236 : 0 ≤ (ft x_233.toNatClampNeg).toInt := Int.le_trans hx_234.1 c235
                  refine lv_iconst (v := 0) hx hb dX12_told_104 (by decide) ?_
                  refine lv_istore_n (lv' := [(2, .int 0), (0, .ref o), (1, .int tp), (3, .int x_131)]) hx hb dX12_told_105 rfl hl (by decide) rfl (fun ls hl => ?_)
                  refine ziinc3 (n' := 3) (a' := 3) (b' := 402) (lv' := fun v9 => [(3, .int v9), (2, .int 0), (0, .ref o), (1, .int tp)]) hx hb dX12_told_106 hl (k := 3) rfl (by decide) (fun _ => rfl) (zaddK (i := x_131.toInt) (j := 3) rfl (by decide) i133.1 n216 (Int.le_refl _) (Int.le_refl _) (by decide)) (fun x_237 ls hx_237 hl => ?_)
                  refine lv_goto (tgt := 30) hx hb dX12_told_109 (by decide) ?_
                  have hl := lv_sub (l' := [(0, .ref o), (1, .int tp), (2, .int 0), (3, .int x_237)]) hl [2, 3, 1, 0] rfl
                  have hL0 : (0 : Int32).toInt = 0 := by decide
                  have hP : va_P g.1 vwCl (List.flatten [bMo g o a th hi ac 0 ba en tA fl de iD iO tU fm fk fa fc ft ff fb fi]) H := hP
                  have hD : va_D A (List.flatten [bMo g o a th hi ac 0 ba en tA fl de iD iO tU fm fk fa fc ft ff fb fi]) := hD
                  exact ih30_136 0 x_237 (by decide) ⟨(Int.le_trans (by decide) hx_237.2.1), hx_237.2.2⟩ (zSg_x2 (x := x_233) i134 (by omega) (by omega) (by decide) (by omega) (by omega)) H _ ls (by omega)  hP hD hS (lv_sub hl [0, 1, 2, 3] rfl)
                · skip
                  have c238 : (ft x_233.toNatClampNeg).toInt < x_234.toInt := zlti (Int32.not_le.mp cb9) rfl rfl
                  have n239 : (ft x_233.toNatClampNeg).toInt ≤ 7 := zL1 (b := 8) c238 hx_234.2.1 (by decide)
                  refine lv_aload_n hx hb dX12_told_71 rfl (lv_at hl 0 rfl) ?_
                  refine va_get (D := g.1) (ci := 10) (v := .ref (a 4)) (C := RX12) (T := TX12) (N := 20) hx hb hts izRX12 hown hK hP 0 rfl rfl 7 (by decide) (hts _ k819) (fun _ h9 => h9) rfl dX12_told_72 ?_
                  refine lv_iload_n hx hb dX12_told_75 rfl (lv_at hl 3 rfl) ?_
                  refine va_iald hx hb hK hP 5 0 rfl rfl (zinK (a := 0) (b := 399) i133.1 n216 (by decide)) dX12_told_76 ?_
                  refine lv_aload_n hx hb dX12_told_77 rfl (lv_at hl 0 rfl) ?_
                  refine va_get (D := g.1) (ci := 10) (v := .ref (a 4)) (C := RX12) (T := TX12) (N := 20) hx hb hts izRX12 hown hK hP 0 rfl rfl 7 (by decide) (hts _ k819) (fun _ h9 => h9) rfl dX12_told_78 ?_
                  refine lv_iload_n hx hb dX12_told_81 rfl (lv_at hl 3 rfl) ?_
                  refine lv_iconst (v := 1) hx hb dX12_told_82 (by decide) ?_
                  refine lv_iadd hx hb dX12_told_83 ?_
                  refine zg3 (zaddK (i := x_131.toInt) (j := 1) (a' := 1) (b' := 400) rfl (by decide) i133.1 n216 (Int.le_refl _) (Int.le_refl _) (by decide)) (fun x_240 hx_240 => ?_)
                  refine va_iald hx hb hK hP 5 0 rfl rfl (zinI (by omega) (by omega)) dX12_told_84 ?_
                  refine lv_icmp_eq (tgt := 104) hx hb dX12_told_85 (by decide) (fun cb9 => ?_) (fun cb9 => ?_)
                  · skip
                    have c241 : (ft x_131.toNatClampNeg).toInt = (ft x_240.toNatClampNeg).toInt := zeq cb9 rfl rfl
                    have n242 : (ft x_240.toNatClampNeg).toInt ≤ 7 := Int.le_trans (Int.le_of_eq c241.symm) n232
                    refine lv_iconst (v := 0) hx hb dX12_told_104 (by decide) ?_
                    refine lv_istore_n (lv' := [(2, .int 0), (0, .ref o), (1, .int tp), (3, .int x_131)]) hx hb dX12_told_105 rfl hl (by decide) rfl (fun ls hl => ?_)
                    refine ziinc3 (n' := 3) (a' := 3) (b' := 402) (lv' := fun v9 => [(3, .int v9), (2, .int 0), (0, .ref o), (1, .int tp)]) hx hb dX12_told_106 hl (k := 3) rfl (by decide) (fun _ => rfl) (zaddK (i := x_131.toInt) (j := 3) rfl (by decide) i133.1 n216 (Int.le_refl _) (Int.le_refl _) (by decide)) (fun x_243 ls hx_243 hl => ?_)
                    refine lv_goto (tgt := 30) hx hb dX12_told_109 (by decide) ?_
                    have hl := lv_sub (l' := [(0, .ref o), (1, .int tp), (2, .int 0), (3, .int x_243)]) hl [2, 3, 1, 0] rfl
                    have hL0 : (0 : Int32).toInt = 0 := by decide
                    have hP : va_P g.1 vwCl (List.flatten [bMo g o a th hi ac 0 ba en tA fl de iD iO tU fm fk fa fc ft ff fb fi]) H := hP
                    have hD : va_D A (List.flatten [bMo g o a th hi ac 0 ba en tA fl de iD iO tU fm fk fa fc ft ff fb fi]) := hD
                    exact ih30_136 0 x_243 (by decide) ⟨(Int.le_trans (by decide) hx_243.2.1), hx_243.2.2⟩ (zSg_x3 (x := x_131) (y := x_240) i134 (by omega) (by omega) (by decide) (by omega) (by omega) (by omega)) H _ ls (by omega)  hP hD hS (lv_sub hl [0, 1, 2, 3] rfl)
                  · skip
                    have c244 : ¬ (ft x_131.toNatClampNeg).toInt = (ft x_240.toNatClampNeg).toInt := zne cb9 rfl rfl
                    refine lv_aload_n hx hb dX12_told_88 rfl (lv_at hl 0 rfl) ?_
                    refine va_get (D := g.1) (ci := 10) (v := .ref (a 4)) (C := RX12) (T := TX12) (N := 20) hx hb hts izRX12 hown hK hP 0 rfl rfl 7 (by decide) (hts _ k819) (fun _ h9 => h9) rfl dX12_told_89 ?_
                    refine lv_iload_n hx hb dX12_told_92 rfl (lv_at hl 3 rfl) ?_
                    refine lv_iconst (v := 2) hx hb dX12_told_93 (by decide) ?_
                    refine lv_iadd hx hb dX12_told_94 ?_
                    refine zg3 (zaddK (i := x_131.toInt) (j := 2) (a' := 2) (b' := 401) rfl (by decide) i133.1 n216 (Int.le_refl _) (Int.le_refl _) (by decide)) (fun x_245 hx_245 => ?_)
                    refine va_iald hx hb hK hP 5 0 rfl rfl (zinI (by omega) (by omega)) dX12_told_95 ?_
                    refine lv_iconst (v := 2) hx hb dX12_told_96 (by decide) ?_
                    refine lv_icmp_ge (tgt := 104) hx hb dX12_told_97 (by decide) (fun cb9 => ?_) (fun cb9 => ?_)
                    · skip
                      have c246 : 2 ≤ (ft x_245.toNatClampNeg).toInt := zle cb9 (by decide) rfl
                      have n247 : 2 ≤ (ft x_245.toNatClampNeg).toInt := Int.le_trans (Int.le_refl _) c246
                      refine lv_iconst (v := 0) hx hb dX12_told_104 (by decide) ?_
                      refine lv_istore_n (lv' := [(2, .int 0), (0, .ref o), (1, .int tp), (3, .int x_131)]) hx hb dX12_told_105 rfl hl (by decide) rfl (fun ls hl => ?_)
                      refine ziinc3 (n' := 3) (a' := 3) (b' := 402) (lv' := fun v9 => [(3, .int v9), (2, .int 0), (0, .ref o), (1, .int tp)]) hx hb dX12_told_106 hl (k := 3) rfl (by decide) (fun _ => rfl) (zaddK (i := x_131.toInt) (j := 3) rfl (by decide) i133.1 n216 (Int.le_refl _) (Int.le_refl _) (by decide)) (fun x_248 ls hx_248 hl => ?_)
                      refine lv_goto (tgt := 30) hx hb dX12_told_109 (by decide) ?_
                      have hl := lv_sub (l' := [(0, .ref o), (1, .int tp), (2, .int 0), (3, .int x_248)]) hl [2, 3, 1, 0] rfl
                      have hL0 : (0 : Int32).toInt = 0 := by decide
                      have hP : va_P g.1 vwCl (List.flatten [bMo g o a th hi ac 0 ba en tA fl de iD iO tU fm fk fa fc ft ff fb fi]) H := hP
                      have hD : va_D A (List.flatten [bMo g o a th hi ac 0 ba en tA fl de iD iO tU fm fk fa fc ft ff fb fi]) := hD
                      exact ih30_136 0 x_248 (by decide) ⟨(Int.le_trans (by decide) hx_248.2.1), hx_248.2.2⟩ (zSg_x4 (x := x_245) i134 (by omega) (by omega) (by decide) (by omega) (by omega)) H _ ls (by omega)  hP hD hS (lv_sub hl [0, 1, 2, 3] rfl)
                    · skip
                      have c249 : (ft x_245.toNatClampNeg).toInt < 2 := zlti (Int32.not_le.mp cb9) rfl (by decide)
                      have n250 : (ft x_245.toNatClampNeg).toInt ≤ 1 := zL1 (b := 2) c249 (Int.le_refl _) (by decide)
                      refine lv_iconst (v := 1) hx hb dX12_told_100 (by decide) ?_
                      refine lv_goto (tgt := 105) hx hb dX12_told_101 (by decide) ?_
                      refine lv_istore_n (lv' := [(2, .int 1), (0, .ref o), (1, .int tp), (3, .int x_131)]) hx hb dX12_told_105 rfl hl (by decide) rfl (fun ls hl => ?_)
                      refine ziinc3 (n' := 3) (a' := 3) (b' := 402) (lv' := fun v9 => [(3, .int v9), (2, .int 1), (0, .ref o), (1, .int tp)]) hx hb dX12_told_106 hl (k := 3) rfl (by decide) (fun _ => rfl) (zaddK (i := x_131.toInt) (j := 3) rfl (by decide) i133.1 n216 (Int.le_refl _) (Int.le_refl _) (by decide)) (fun x_251 ls hx_251 hl => ?_)
                      refine lv_goto (tgt := 30) hx hb dX12_told_109 (by decide) ?_
                      have hl := lv_sub (l' := [(0, .ref o), (1, .int tp), (2, .int 1), (3, .int x_251)]) hl [2, 3, 1, 0] rfl
                      have hL1 : (1 : Int32).toInt = 1 := by decide
                      have hP : va_P g.1 vwCl (List.flatten [bMo g o a th hi ac 0 ba en tA fl de iD iO tU fm fk fa fc ft ff fb fi]) H := hP
                      have hD : va_D A (List.flatten [bMo g o a th hi ac 0 ba en tA fl de iD iO tU fm fk fa fc ft ff fb fi]) := hD
                      exact ih30_136 1 x_251 (by decide) ⟨(Int.le_trans (by decide) hx_251.2.1), hx_251.2.2⟩ (zSg_s (x0 := x_131) (x1 := x_233) (y0 := x_131) (y1 := x_240) (x2 := x_245) i134 (by omega) (by omega) (by omega) (by omega) (by omega) (by omega) (by omega) (by omega) (by omega) (by omega) (by omega) (by decide)) H _ ls (by omega)  hP hD hS (lv_sub hl [0, 1, 2, 3] rfl)
      have hL0 : (0 : Int32).toInt = 0 := by decide
      have hP : va_P g.1 vwCl (List.flatten [bMo g o a th hi ac 0 ba en tA fl de iD iO tU fm fk fa fc ft ff fb fi]) H := hP
      have hD : va_D A (List.flatten [bMo g o a th hi ac 0 ba en tA fl de iD iO tU fm fk fa fc ft ff fb fi]) := hD
      exact LP30_135 _ 0 0 (by decide) (by decide) (zSg_0 (by decide) (by omega)) H _ ls (Nat.lt_succ_self _)  hP hD hS (lv_sub hl [0, 1, 2, 3] rfl)
    · skip
      have c252 : tp.toInt ≤ 36 := zle (Int32.not_lt.mp cb9) rfl (by decide)
      have n253 : tp.toInt ≤ 36 := Int.le_trans c252 (Int.le_refl _)
      refine lv_iconst (v := 1) hx hb dX12_told_22 (by decide) ?_
      refine lv_goto (tgt := 27) hx hb dX12_told_23 (by decide) ?_
      refine lv_istore_n (lv' := [(2, .int 1), (1, .int tp), (0, .ref o)]) hx hb dX12_told_27 rfl hl (by decide) rfl (fun ls hl => ?_)
      refine lv_iconst (v := 0) hx hb dX12_told_28 (by decide) ?_
      refine lv_istore_n (lv' := [(3, .int 0), (2, .int 1), (1, .int tp), (0, .ref o)]) hx hb dX12_told_29 rfl hl (by decide) rfl (fun ls hl => ?_)
      have hl := lv_sub (l' := [(0, .ref o), (1, .int tp), (2, .int 1), (3, .int 0)]) hl [3, 2, 1, 0] rfl
      have LP30_259 : ∀ (kf : Nat) (x_254 : Int32) (x_255 : Int32), (0 ≤ x_254.toInt ∧ x_254.toInt ≤ 1) → (0 ≤ x_255.toInt ∧ x_255.toInt ≤ 402) → (zSg ft tp.toInt (fm 3).toInt x_254.toInt x_255.toInt) → ∀ (H : Heap) (locs : List Loc) (ls : Array Slot), ((402 - x_255.toInt).toNat) < kf → va_P g.1 vwCl (List.flatten [bMo g o a th hi ac 0 ba en tA fl de iD iO tU fm fk fa fc ft ff fb fi]) H → va_D A (List.flatten [bMo g o a th hi ac 0 ba en tA fl de iD iO tU fm fk fa fc ft ff fb fi]) → va_S A s.heap H locs → lv_has ls 6 [(0, .ref o), (1, .int tp), (2, .int x_254), (3, .int x_255)] → W p l e ({ frames := 2, cells := 0, slots := 0, locals := 43 } : Room) s m args below meth c H locs (0) (0) (zF g (fun u : (Nat → Int32) × Int32 => (fun (fi2 : Nat → Int32) (q : Int32) => some (.int q)) (u.1) (u.2)) (fun u : (Nat → Int32) × Int32 => (fun (fi2 : Nat → Int32) (q : Int32) => (((0 ≤ q.toInt ∧ q.toInt ≤ 256) ∧ zSaid ft tp.toInt (fm 3).toInt ∧ zHr ft tp.toInt fi2 ((2 ^ (fm 3).toInt.toNat : Nat) : Int) q.toInt) ∨ q = (-1) ∧ ¬ zSaid ft tp.toInt (fm 3).toInt)) (u.1) (u.2)) (fun u : (Nat → Int32) × Int32 => (fun (fi2 : Nat → Int32) (q : Int32) => [bMo g o a th hi ac 0 ba en tA fl de iD iO tU fm fk fa fc ft ff fb fi2]) (u.1) (u.2)) ({ frames := 2, cells := 0, slots := 0, locals := 43 } : Room) below args s A) (F0 m 30 ls []) := by
        intro kf
        induction kf with
        | zero => intro x_254 x_255 i256 i257 i258 H locs ls hk; exact absurd hk (Nat.not_lt_zero _)
        | succ kf ih30_260 =>
          intro x_254 x_255 i256 i257 i258 H locs ls hk30_260 hP hD hS hl
          refine lv_iload_n hx hb dX12_told_30 rfl (lv_at hl 3 rfl) ?_
          refine lv_iload_n hx hb dX12_told_31 rfl (lv_at hl 1 rfl) ?_
          refine lv_icmp_ge (tgt := 112) hx hb dX12_told_32 (by decide) (fun cb9 => ?_) (fun cb9 => ?_)
          · skip
            have c261 : tp.toInt ≤ x_255.toInt := zle cb9 rfl rfl
            refine lv_iload_n hx hb dX12_told_112 rfl (lv_at hl 2 rfl) ?_
            refine lv_if_ne (tgt := 118) hx hb dX12_told_113 (by decide) (fun cb9 => ?_) (fun cb9 => ?_)
            · skip
              have c262 : ¬ x_254.toInt = 0 := zne cb9 rfl (by decide)
              have n263 : 1 ≤ x_254.toInt := zN1 c262 i256.1 (by decide)
              have w264 : zSaid ft tp.toInt (fm 3).toInt := zSg_ey i258 (by omega) (by omega)
              have w265 : tp.toInt % 3 = 0 ∧ tp.toInt ≤ 36 := ⟨w264.2.1, w264.1⟩
              refine lv_iconst (v := 0) hx hb dX12_told_118 (by decide) ?_
              refine lv_istore_n (lv' := [(3, .int 0), (0, .ref o), (1, .int tp), (2, .int x_254)]) hx hb dX12_told_119 rfl hl (by decide) rfl (fun ls hl => ?_)
              refine lv_iconst (v := 0) hx hb dX12_told_120 (by decide) ?_
              refine lv_istore (lv' := [(4, .int 0), (3, .int 0), (0, .ref o), (1, .int tp), (2, .int x_254)]) hx hb dX12_told_121 hl (by decide) rfl (fun ls hl => ?_)
              have hl := lv_sub (l' := [(0, .ref o), (1, .int tp), (2, .int x_254), (3, .int 0), (4, .int 0)]) hl [2, 3, 4, 1, 0] rfl
              have LP123_274 : ∀ (kf : Nat) (x_266 : Int32) (x_267 : Int32) (fi_268 : Nat → Int32), (0 ≤ x_266.toInt ∧ x_266.toInt ≤ 256) → (0 ≤ x_267.toInt ∧ x_267.toInt ≤ 256) → (zHr ft tp.toInt fi_268 x_267.toInt x_266.toInt) → (x_266.toInt ≤ x_267.toInt) → (x_267.toInt ≤ ((2 ^ (fm 3).toInt.toNat : Nat) : Int)) → ∀ (H : Heap) (locs : List Loc) (ls : Array Slot), ((257 - x_267.toInt).toNat) < kf → va_P g.1 vwCl (List.flatten [bMo g o a th hi ac 0 ba en tA fl de iD iO tU fm fk fa fc ft ff fb fi_268]) H → va_D A (List.flatten [bMo g o a th hi ac 0 ba en tA fl de iD iO tU fm fk fa fc ft ff fb fi_268]) → va_S A s.heap H locs → lv_has ls 6 [(0, .ref o), (1, .int tp), (2, .int x_254), (3, .int x_266), (4, .int x_267)] → W p l e ({ frames := 2, cells := 0, slots := 0, locals := 43 } : Room) s m args below meth c H locs (0) (0) (zF g (fun u : (Nat → Int32) × Int32 => (fun (fi2 : Nat → Int32) (q : Int32) => some (.int q)) (u.1) (u.2)) (fun u : (Nat → Int32) × Int32 => (fun (fi2 : Nat → Int32) (q : Int32) => (((0 ≤ q.toInt ∧ q.toInt ≤ 256) ∧ zSaid ft tp.toInt (fm 3).toInt ∧ zHr ft tp.toInt fi2 ((2 ^ (fm 3).toInt.toNat : Nat) : Int) q.toInt) ∨ q = (-1) ∧ ¬ zSaid ft tp.toInt (fm 3).toInt)) (u.1) (u.2)) (fun u : (Nat → Int32) × Int32 => (fun (fi2 : Nat → Int32) (q : Int32) => [bMo g o a th hi ac 0 ba en tA fl de iD iO tU fm fk fa fc ft ff fb fi2]) (u.1) (u.2)) ({ frames := 2, cells := 0, slots := 0, locals := 43 } : Room) below args s A) (F0 m 123 ls []) := by
                intro kf
                induction kf with
                | zero => intro x_266 x_267 fi_268 i269 i270 i271 i272 i273 H locs ls hk; exact absurd hk (Nat.not_lt_zero _)
                | succ kf ih123_275 =>
                  intro x_266 x_267 fi_268 i269 i270 i271 i272 i273 H locs ls hk123_275 hP hD hS hl
                  refine lv_iload hx hb dX12_told_123 (lv_at hl 4 rfl) ?_
                  refine lv_iconst (v := 1) hx hb dX12_told_125 (by decide) ?_
                  refine lv_aload_n hx hb dX12_told_126 rfl (lv_at hl 0 rfl) ?_
                  refine va_get (D := g.1) (ci := 10) (v := .ref (a 0)) (C := RX12) (T := TX12) (N := 20) hx hb hts izRX12 hown hK hP 0 rfl rfl 1 (by decide) (hts _ k815) (fun _ h9 => h9) rfl dX12_told_127 ?_
                  refine lv_iconst (v := 3) hx hb dX12_told_130 (by decide) ?_
                  refine va_iald hx hb hK hP 1 0 rfl rfl (zin rfl) dX12_told_131 ?_
                  refine zgq (r := fm 3) rfl (rM3 rfm) (fun x_276 hx_276 => ?_)
                  refine lv_ishl hx hb dX12_told_132 ?_
                  refine zgp2 (P := fun r9 : Int32 => r9.toInt = ((2 ^ x_276.toInt.toNat : Nat) : Int) ∧ 1 ≤ r9.toInt ∧ r9.toInt ≤ 256) (zshE ⟨hx_276.1, hx_276.2.1⟩) (fun x_277 hx_277 => ?_)
                  have w278 : x_277.toInt = ((2 ^ (fm 3).toInt.toNat : Nat) : Int) := hx_277.1.trans (zpw (by omega))
                  refine lv_icmp_ge (tgt := 247) hx hb dX12_told_133 (by decide) (fun cb9 => ?_) (fun cb9 => ?_)
                  · skip
                    have c279 : x_277.toInt ≤ x_267.toInt := zle cb9 rfl rfl
                    have n280 : 1 ≤ x_267.toInt := Int.le_trans hx_277.2.1 c279
                    refine lv_iload_n hx hb dX12_told_247 rfl (lv_at hl 3 rfl) ?_
                    have hP : va_P g.1 vwCl (List.flatten [bMo g o a th hi ac 0 ba en tA fl de iD iO tU fm fk fa fc ft ff fb fi_268]) H := hP
                    have hD : va_D A (List.flatten [bMo g o a th hi ac 0 ba en tA fl de iD iO tU fm fk fa fc ft ff fb fi_268]) := hD
                    exact mret_i hx hb hr hlocks hS (Nat.le_of_ble_eq_true rfl) (Nat.le_of_ble_eq_true rfl) dX12_told_248 (fi_268, x_266) rfl (show (((0 ≤ x_266.toInt ∧ x_266.toInt ≤ 256) ∧ zSaid ft tp.toInt (fm 3).toInt ∧ zHr ft tp.toInt fi_268 ((2 ^ (fm 3).toInt.toNat : Nat) : Int) x_266.toInt) ∨ x_266 = (-1) ∧ ¬ zSaid ft tp.toInt (fm 3).toInt) from (Or.inl ⟨(by omega), w264, zHr_e i271 (by omega)⟩)) hP hD
                  · skip
                    have c281 : x_267.toInt < x_277.toInt := zlti (Int32.not_le.mp cb9) rfl rfl
                    have n282 : x_267.toInt ≤ 255 := zL1 (b := 256) c281 hx_277.2.2 (by decide)
                    refine lv_aload_n hx hb dX12_told_136 rfl (lv_at hl 0 rfl) ?_
                    refine va_get (D := g.1) (ci := 10) (v := .ref (a 7)) (C := RX12) (T := TX12) (N := 20) hx hb hts izRX12 hown hK hP 0 rfl rfl 19 (by decide) (hts _ k823) (fun _ h9 => h9) rfl dX12_told_137 ?_
                    refine lv_iload hx hb dX12_told_140 (lv_at hl 4 rfl) ?_
                    refine lv_iconst (v := 1) hx hb dX12_told_142 (by decide) ?_
                    refine va_zast hx hb hK hP hD hS 8 1 rfl rfl (zinK (a := 0) (b := 255) i270.1 n282 (by decide)) dX12_told_143 (fun H locs hP hD hS => ?_)
                    obtain ⟨fi_283, ⟨hvfi_283, hrfi_283⟩, hP, hD⟩ : ∃ fi_283 : Nat → Int32, (fi_283 x_267.toNatClampNeg = 1 ∧ zHr ft tp.toInt fi_283 x_267.toInt x_266.toInt) ∧ va_P g.1 vwCl (List.flatten [bMo g o a th hi ac 0 ba en tA fl de iD iO tU fm fk fa fc ft ff fb fi_283]) H ∧ va_D A (List.flatten [bMo g o a th hi ac 0 ba en tA fl de iD iO tU fm fk fa fc ft ff fb fi_283]) := ⟨upd fi_268 x_267.toNatClampNeg (vp_nar .boolean 1), ⟨(by unfold upd; rw [if_pos rfl]; first | rfl | decide), zHr_k i271 rfl⟩, hP, hD⟩
                    refine lv_iconst (v := 0) hx hb dX12_told_144 (by decide) ?_
                    refine lv_istore (lv' := [(5, .int 0), (0, .ref o), (1, .int tp), (2, .int x_254), (3, .int x_266), (4, .int x_267)]) hx hb dX12_told_145 hl (by decide) rfl (fun ls hl => ?_)
                    have hl := lv_sub (l' := [(0, .ref o), (1, .int tp), (2, .int x_254), (3, .int x_266), (4, .int x_267), (5, .int 0)]) hl [1, 2, 3, 4, 5, 0] rfl
                    have LP147_289 : ∀ (kf : Nat) (x_284 : Int32) (fi_285 : Nat → Int32), (0 ≤ x_284.toInt ∧ x_284.toInt ≤ 39) → (zIn ft tp.toInt fi_285 x_267 x_284.toInt) → (zHr ft tp.toInt fi_285 x_267.toInt x_266.toInt) → ∀ (H : Heap) (locs : List Loc) (ls : Array Slot), ((39 - x_284.toInt).toNat) < kf → va_P g.1 vwCl (List.flatten [bMo g o a th hi ac 0 ba en tA fl de iD iO tU fm fk fa fc ft ff fb fi_285]) H → va_D A (List.flatten [bMo g o a th hi ac 0 ba en tA fl de iD iO tU fm fk fa fc ft ff fb fi_285]) → va_S A s.heap H locs → lv_has ls 6 [(0, .ref o), (1, .int tp), (2, .int x_254), (3, .int x_266), (4, .int x_267), (5, .int x_284)] → W p l e ({ frames := 2, cells := 0, slots := 0, locals := 43 } : Room) s m args below meth c H locs (0) (0) (zF g (fun u : (Nat → Int32) × Int32 => (fun (fi2 : Nat → Int32) (q : Int32) => some (.int q)) (u.1) (u.2)) (fun u : (Nat → Int32) × Int32 => (fun (fi2 : Nat → Int32) (q : Int32) => (((0 ≤ q.toInt ∧ q.toInt ≤ 256) ∧ zSaid ft tp.toInt (fm 3).toInt ∧ zHr ft tp.toInt fi2 ((2 ^ (fm 3).toInt.toNat : Nat) : Int) q.toInt) ∨ q = (-1) ∧ ¬ zSaid ft tp.toInt (fm 3).toInt)) (u.1) (u.2)) (fun u : (Nat → Int32) × Int32 => (fun (fi2 : Nat → Int32) (q : Int32) => [bMo g o a th hi ac 0 ba en tA fl de iD iO tU fm fk fa fc ft ff fb fi2]) (u.1) (u.2)) ({ frames := 2, cells := 0, slots := 0, locals := 43 } : Room) below args s A) (F0 m 147 ls []) := by
                      intro kf
                      induction kf with
                      | zero => intro x_284 fi_285 i286 i287 i288 H locs ls hk; exact absurd hk (Nat.not_lt_zero _)
                      | succ kf ih147_290 =>
                        intro x_284 fi_285 i286 i287 i288 H locs ls hk147_290 hP hD hS hl
                        refine lv_iload hx hb dX12_told_147 (lv_at hl 5 rfl) ?_
                        refine lv_iload_n hx hb dX12_told_149 rfl (lv_at hl 1 rfl) ?_
                        refine lv_icmp_ge (tgt := 223) hx hb dX12_told_150 (by decide) (fun cb9 => ?_) (fun cb9 => ?_)
                        · skip
                          have c291 : tp.toInt ≤ x_284.toInt := zle cb9 rfl rfl
                          refine lv_iload_n hx hb dX12_told_223 rfl (lv_at hl 3 rfl) ?_
                          refine lv_aload_n hx hb dX12_told_224 rfl (lv_at hl 0 rfl) ?_
                          refine va_get (D := g.1) (ci := 10) (v := .ref (a 7)) (C := RX12) (T := TX12) (N := 20) hx hb hts izRX12 hown hK hP 0 rfl rfl 19 (by decide) (hts _ k823) (fun _ h9 => h9) rfl dX12_told_225 ?_
                          refine lv_iload hx hb dX12_told_228 (lv_at hl 4 rfl) ?_
                          refine va_zald hx hb hK hP 8 1 rfl rfl (zinK (a := 0) (b := 255) i270.1 n282 (by decide)) dX12_told_230 ?_
                          refine lv_if_eq (tgt := 238) hx hb dX12_told_231 (by decide) (fun cb9 => ?_) (fun cb9 => ?_)
                          · skip
                            have c292 : (fi_285 x_267.toNatClampNeg).toInt = 0 := zeq cb9 rfl (by decide)
                            have n293 : 0 ≤ (fi_285 x_267.toNatClampNeg).toInt := Int.le_trans (Int.le_refl _) (Int.le_of_eq c292.symm)
                            have n294 : (fi_285 x_267.toNatClampNeg).toInt ≤ 0 := Int.le_trans (Int.le_of_eq c292) (Int.le_refl _)
                            refine lv_iconst (v := 0) hx hb dX12_told_238 (by decide) ?_
                            refine lv_iadd hx hb dX12_told_239 ?_
                            refine zg3 (zaddK (i := x_266.toInt) (j := 0) (a' := 0) (b' := 256) rfl (by decide) i269.1 i269.2 (Int.le_refl _) (Int.le_refl _) (by decide)) (fun x_295 hx_295 => ?_)
                            refine lv_istore_n (lv' := [(3, .int x_295), (0, .ref o), (1, .int tp), (2, .int x_254), (4, .int x_267), (5, .int x_284)]) hx hb dX12_told_240 rfl hl (by decide) rfl (fun ls hl => ?_)
                            refine ziinc3 (n' := 1) (a' := 1) (b' := 256) (lv' := fun v9 => [(4, .int v9), (3, .int x_295), (0, .ref o), (1, .int tp), (2, .int x_254), (5, .int x_284)]) hx hb dX12_told_241 hl (k := 4) rfl (by decide) (fun _ => rfl) (zaddK (i := x_267.toInt) (j := 1) rfl (by decide) i270.1 n282 (Int.le_refl _) (Int.le_refl _) (by decide)) (fun x_296 ls hx_296 hl => ?_)
                            refine lv_goto (tgt := 123) hx hb dX12_told_244 (by decide) ?_
                            have hl := lv_sub (l' := [(0, .ref o), (1, .int tp), (2, .int x_254), (3, .int x_295), (4, .int x_296), (5, .int x_284)]) hl [2, 3, 4, 1, 0, 5] rfl
                            have hP : va_P g.1 vwCl (List.flatten [bMo g o a th hi ac 0 ba en tA fl de iD iO tU fm fk fa fc ft ff fb fi_285]) H := hP
                            have hD : va_D A (List.flatten [bMo g o a th hi ac 0 ba en tA fl de iD iO tU fm fk fa fc ft ff fb fi_285]) := hD
                            exact ih123_275 x_295 x_296 fi_285 ⟨hx_295.2.1, hx_295.2.2⟩ ⟨(Int.le_trans (by decide) hx_296.2.1), hx_296.2.2⟩ (zHr_n i288 rfl i287 c292 (by omega) (by omega)) (by first | omega | assumption | decide) (by first | omega | assumption | decide) H _ ls (zmK hx_296.1 (by decide) n282 (by decide) hk123_275)  hP hD hS (lv_sub hl [0, 1, 2, 3, 4] rfl)
                          · skip
                            have c297 : ¬ (fi_285 x_267.toNatClampNeg).toInt = 0 := zne cb9 rfl (by decide)
                            refine lv_iconst (v := 1) hx hb dX12_told_234 (by decide) ?_
                            refine lv_goto (tgt := 239) hx hb dX12_told_235 (by decide) ?_
                            refine lv_iadd hx hb dX12_told_239 ?_
                            refine zg3 (zaddK (i := x_266.toInt) (j := 1) (a' := 1) (b' := 257) rfl (by decide) i269.1 i269.2 (Int.le_refl _) (Int.le_refl _) (by decide)) (fun x_298 hx_298 => ?_)
                            refine lv_istore_n (lv' := [(3, .int x_298), (0, .ref o), (1, .int tp), (2, .int x_254), (4, .int x_267), (5, .int x_284)]) hx hb dX12_told_240 rfl hl (by decide) rfl (fun ls hl => ?_)
                            refine ziinc3 (n' := 1) (a' := 1) (b' := 256) (lv' := fun v9 => [(4, .int v9), (3, .int x_298), (0, .ref o), (1, .int tp), (2, .int x_254), (5, .int x_284)]) hx hb dX12_told_241 hl (k := 4) rfl (by decide) (fun _ => rfl) (zaddK (i := x_267.toInt) (j := 1) rfl (by decide) i270.1 n282 (Int.le_refl _) (Int.le_refl _) (by decide)) (fun x_299 ls hx_299 hl => ?_)
                            refine lv_goto (tgt := 123) hx hb dX12_told_244 (by decide) ?_
                            have hl := lv_sub (l' := [(0, .ref o), (1, .int tp), (2, .int x_254), (3, .int x_298), (4, .int x_299), (5, .int x_284)]) hl [2, 3, 4, 1, 0, 5] rfl
                            have hP : va_P g.1 vwCl (List.flatten [bMo g o a th hi ac 0 ba en tA fl de iD iO tU fm fk fa fc ft ff fb fi_285]) H := hP
                            have hD : va_D A (List.flatten [bMo g o a th hi ac 0 ba en tA fl de iD iO tU fm fk fa fc ft ff fb fi_285]) := hD
                            exact ih123_275 x_298 x_299 fi_285 (by first | omega | assumption | decide) ⟨(Int.le_trans (by decide) hx_299.2.1), hx_299.2.2⟩ (zHr_y i288 rfl i287 (by omega) (by omega) c297 (by omega) (by omega)) (by first | omega | assumption | decide) (by first | omega | assumption | decide) H _ ls (zmK hx_299.1 (by decide) n282 (by decide) hk123_275)  hP hD hS (lv_sub hl [0, 1, 2, 3, 4] rfl)
                        · skip
                          have c300 : x_284.toInt < tp.toInt := zlti (Int32.not_le.mp cb9) rfl rfl
                          have n301 : x_284.toInt ≤ 35 := zL1 (b := 36) c300 n253 (by decide)
                          have n302 : 1 ≤ tp.toInt := zL2 (a := 0) c300 i286.1 (by decide)
                          refine lv_aload_n hx hb dX12_told_153 rfl (lv_at hl 0 rfl) ?_
                          refine va_get (D := g.1) (ci := 10) (v := .ref (a 7)) (C := RX12) (T := TX12) (N := 20) hx hb hts izRX12 hown hK hP 0 rfl rfl 19 (by decide) (hts _ k823) (fun _ h9 => h9) rfl dX12_told_154 ?_
                          refine lv_iload hx hb dX12_told_157 (lv_at hl 4 rfl) ?_
                          refine va_zald hx hb hK hP 8 1 rfl rfl (zinK (a := 0) (b := 255) i270.1 n282 (by decide)) dX12_told_159 ?_
                          refine lv_if_eq (tgt := 223) hx hb dX12_told_160 (by decide) (fun cb9 => ?_) (fun cb9 => ?_)
                          · skip
                            have c303 : (fi_285 x_267.toNatClampNeg).toInt = 0 := zeq cb9 rfl (by decide)
                            have n304 : 0 ≤ (fi_285 x_267.toNatClampNeg).toInt := Int.le_trans (Int.le_refl _) (Int.le_of_eq c303.symm)
                            have n305 : (fi_285 x_267.toNatClampNeg).toInt ≤ 0 := Int.le_trans (Int.le_of_eq c303) (Int.le_refl _)
                            refine lv_iload_n hx hb dX12_told_223 rfl (lv_at hl 3 rfl) ?_
                            refine lv_aload_n hx hb dX12_told_224 rfl (lv_at hl 0 rfl) ?_
                            refine va_get (D := g.1) (ci := 10) (v := .ref (a 7)) (C := RX12) (T := TX12) (N := 20) hx hb hts izRX12 hown hK hP 0 rfl rfl 19 (by decide) (hts _ k823) (fun _ h9 => h9) rfl dX12_told_225 ?_
                            refine lv_iload hx hb dX12_told_228 (lv_at hl 4 rfl) ?_
                            refine va_zald hx hb hK hP 8 1 rfl rfl (zinK (a := 0) (b := 255) i270.1 n282 (by decide)) dX12_told_230 ?_
                            refine lv_if_eq (tgt := 238) hx hb dX12_told_231 (by decide) (fun cb9 => ?_) (fun cb9 => ?_)
                            · skip
                              have c306 : (fi_285 x_267.toNatClampNeg).toInt = 0 := zeq cb9 rfl (by decide)
                              refine lv_iconst (v := 0) hx hb dX12_told_238 (by decide) ?_
                              refine lv_iadd hx hb dX12_told_239 ?_
                              refine zg3 (zaddK (i := x_266.toInt) (j := 0) (a' := 0) (b' := 256) rfl (by decide) i269.1 i269.2 (Int.le_refl _) (Int.le_refl _) (by decide)) (fun x_307 hx_307 => ?_)
                              refine lv_istore_n (lv' := [(3, .int x_307), (0, .ref o), (1, .int tp), (2, .int x_254), (4, .int x_267), (5, .int x_284)]) hx hb dX12_told_240 rfl hl (by decide) rfl (fun ls hl => ?_)
                              refine ziinc3 (n' := 1) (a' := 1) (b' := 256) (lv' := fun v9 => [(4, .int v9), (3, .int x_307), (0, .ref o), (1, .int tp), (2, .int x_254), (5, .int x_284)]) hx hb dX12_told_241 hl (k := 4) rfl (by decide) (fun _ => rfl) (zaddK (i := x_267.toInt) (j := 1) rfl (by decide) i270.1 n282 (Int.le_refl _) (Int.le_refl _) (by decide)) (fun x_308 ls hx_308 hl => ?_)
                              refine lv_goto (tgt := 123) hx hb dX12_told_244 (by decide) ?_
                              have hl := lv_sub (l' := [(0, .ref o), (1, .int tp), (2, .int x_254), (3, .int x_307), (4, .int x_308), (5, .int x_284)]) hl [2, 3, 4, 1, 0, 5] rfl
                              have hP : va_P g.1 vwCl (List.flatten [bMo g o a th hi ac 0 ba en tA fl de iD iO tU fm fk fa fc ft ff fb fi_285]) H := hP
                              have hD : va_D A (List.flatten [bMo g o a th hi ac 0 ba en tA fl de iD iO tU fm fk fa fc ft ff fb fi_285]) := hD
                              exact ih123_275 x_307 x_308 fi_285 ⟨hx_307.2.1, hx_307.2.2⟩ ⟨(Int.le_trans (by decide) hx_308.2.1), hx_308.2.2⟩ (zHr_n i288 rfl i287 c306 (by omega) (by omega)) (by first | omega | assumption | decide) (by first | omega | assumption | decide) H _ ls (zmK hx_308.1 (by decide) n282 (by decide) hk123_275)  hP hD hS (lv_sub hl [0, 1, 2, 3, 4] rfl)
                            · skip
                              exact absurd (show ¬ (fi_285 x_267.toNatClampNeg).toInt = 0 from zne cb9 rfl (by decide)) (by omega)
                          · skip
                            have c310 : ¬ (fi_285 x_267.toNatClampNeg).toInt = 0 := zne cb9 rfl (by decide)
                            refine lv_aload_n hx hb dX12_told_163 rfl (lv_at hl 0 rfl) ?_
                            refine va_get (D := g.1) (ci := 10) (v := .ref (a 7)) (C := RX12) (T := TX12) (N := 20) hx hb hts izRX12 hown hK hP 0 rfl rfl 19 (by decide) (hts _ k823) (fun _ h9 => h9) rfl dX12_told_164 ?_
                            refine lv_iload hx hb dX12_told_167 (lv_at hl 4 rfl) ?_
                            refine lv_iload hx hb dX12_told_169 (lv_at hl 4 rfl) ?_
                            refine lv_aload_n hx hb dX12_told_171 rfl (lv_at hl 0 rfl) ?_
                            refine va_get (D := g.1) (ci := 10) (v := .ref (a 4)) (C := RX12) (T := TX12) (N := 20) hx hb hts izRX12 hown hK hP 0 rfl rfl 7 (by decide) (hts _ k819) (fun _ h9 => h9) rfl dX12_told_172 ?_
                            refine lv_iload hx hb dX12_told_175 (lv_at hl 5 rfl) ?_
                            refine va_iald hx hb hK hP 5 0 rfl rfl (zinK (a := 0) (b := 35) i286.1 n301 (by decide)) dX12_told_177 ?_
                            refine lv_aload_n hx hb dX12_told_178 rfl (lv_at hl 0 rfl) ?_
                            refine va_get (D := g.1) (ci := 10) (v := .ref (a 4)) (C := RX12) (T := TX12) (N := 20) hx hb hts izRX12 hown hK hP 0 rfl rfl 7 (by decide) (hts _ k819) (fun _ h9 => h9) rfl dX12_told_179 ?_
                            refine lv_iload hx hb dX12_told_182 (lv_at hl 5 rfl) ?_
                            refine lv_iconst (v := 1) hx hb dX12_told_184 (by decide) ?_
                            refine lv_iadd hx hb dX12_told_185 ?_
                            refine zg3 (zaddK (i := x_284.toInt) (j := 1) (a' := 1) (b' := 36) rfl (by decide) i286.1 n301 (Int.le_refl _) (Int.le_refl _) (by decide)) (fun x_311 hx_311 => ?_)
                            refine va_iald hx hb hK hP 5 0 rfl rfl (zinK (a := 1) (b := 36) hx_311.2.1 hx_311.2.2 (by decide)) dX12_told_186 ?_
                            refine mcallS' (g := g) (As := [.int x_267, .int (ft x_284.toNatClampNeg), .int (ft x_311.toNatClampNeg)]) (rest := [.int x_267, .ref (a 7)]) St hK hT hA hP hD hS hl.1 [] [0] rfl rfl rfl (m_saysF l g x_267 (ft x_284.toNatClampNeg) (ft x_311.toNatClampNeg) ) (va_cwS 3 hts (zgL (zl3 k1101 k1102 k839) k1099) rfl rfl rfl (by decide +kernel) ⟨Nat.le_of_ble_eq_true rfl, Nat.le_of_ble_eq_true rfl⟩) rfl rfl (Nat.le_of_ble_eq_true rfl) dX12_told_187 ⟨(Nat.le_of_ble_eq_true rfl), (Nat.le_of_ble_eq_true rfl)⟩ (fun q_312 H locs hq313 hP hD hS => ?_)
                            replace hq313 : (q_312 = 1 ∧ zAns x_267 (ft x_284.toNatClampNeg) (ft x_311.toNatClampNeg) ∨ q_312 = 0 ∧ ¬ zAns x_267 (ft x_284.toNatClampNeg) (ft x_311.toNatClampNeg)) := hq313
                            have hP : va_P g.1 vwCl (List.flatten [bMo g o a th hi ac 0 ba en tA fl de iD iO tU fm fk fa fc ft ff fb fi_285]) H := hP
                            have hD : va_D A (List.flatten [bMo g o a th hi ac 0 ba en tA fl de iD iO tU fm fk fa fc ft ff fb fi_285]) := hD
                            refine W.widen (k := 0) (n := 0) (Nat.le_of_ble_eq_true rfl) (Nat.le_of_ble_eq_true rfl) ?_
                            refine W.eq (g2 := F0 m 190 ls [.int q_312, .int x_267, .ref (a 7)]) rfl ?_
                            rcases hq313 with ⟨rfl, hq313_k⟩ | ⟨rfl, hq313_k⟩
                            · skip
                              refine lv_aload_n hx hb dX12_told_190 rfl (lv_at hl 0 rfl) ?_
                              refine va_get (D := g.1) (ci := 10) (v := .ref (a 4)) (C := RX12) (T := TX12) (N := 20) hx hb hts izRX12 hown hK hP 0 rfl rfl 7 (by decide) (hts _ k819) (fun _ h9 => h9) rfl dX12_told_191 ?_
                              refine lv_iload hx hb dX12_told_194 (lv_at hl 5 rfl) ?_
                              refine lv_iconst (v := 2) hx hb dX12_told_196 (by decide) ?_
                              refine lv_iadd hx hb dX12_told_197 ?_
                              refine zg3 (zaddK (i := x_284.toInt) (j := 2) (a' := 2) (b' := 37) rfl (by decide) i286.1 n301 (Int.le_refl _) (Int.le_refl _) (by decide)) (fun x_314 hx_314 => ?_)
                              refine va_iald hx hb hK hP 5 0 rfl rfl (zinK (a := 2) (b := 37) hx_314.2.1 hx_314.2.2 (by decide)) dX12_told_198 ?_
                              refine lv_iconst (v := 1) hx hb dX12_told_199 (by decide) ?_
                              refine lv_icmp_ne (tgt := 207) hx hb dX12_told_200 (by decide) (fun cb9 => ?_) (fun cb9 => ?_)
                              · skip
                                have c315 : ¬ (ft x_314.toNatClampNeg).toInt = 1 := zne cb9 rfl (by decide)
                                refine lv_iconst (v := 0) hx hb dX12_told_207 (by decide) ?_
                                refine lv_icmp_ne (tgt := 215) hx hb dX12_told_208 (by decide) (fun _ => ?_) (fun c316 => absurd c316 (by decide))
                                refine lv_iconst (v := 0) hx hb dX12_told_215 (by decide) ?_
                                refine va_zast hx hb hK hP hD hS 8 1 rfl rfl (zinK (a := 0) (b := 255) i270.1 n282 (by decide)) dX12_told_216 (fun H locs hP hD hS => ?_)
                                obtain ⟨fi_317, ⟨hvfi_317, hrfi_317⟩, hP, hD⟩ : ∃ fi_317 : Nat → Int32, (fi_317 x_267.toNatClampNeg = 0 ∧ zHr ft tp.toInt fi_317 x_267.toInt x_266.toInt) ∧ va_P g.1 vwCl (List.flatten [bMo g o a th hi ac 0 ba en tA fl de iD iO tU fm fk fa fc ft ff fb fi_317]) H ∧ va_D A (List.flatten [bMo g o a th hi ac 0 ba en tA fl de iD iO tU fm fk fa fc ft ff fb fi_317]) := ⟨upd fi_285 x_267.toNatClampNeg (vp_nar .boolean 0), ⟨(by unfold upd; rw [if_pos rfl]; first | rfl | decide), zHr_k i288 rfl⟩, hP, hD⟩
                                refine ziinc3 (n' := 3) (a' := 3) (b' := 38) (lv' := fun v9 => [(5, .int v9), (0, .ref o), (1, .int tp), (2, .int x_254), (3, .int x_266), (4, .int x_267)]) hx hb dX12_told_217 hl (k := 5) rfl (by decide) (fun _ => rfl) (zaddK (i := x_284.toInt) (j := 3) rfl (by decide) i286.1 n301 (Int.le_refl _) (Int.le_refl _) (by decide)) (fun x_318 ls hx_318 hl => ?_)
                                refine lv_goto (tgt := 147) hx hb dX12_told_220 (by decide) ?_
                                have hl := lv_sub (l' := [(0, .ref o), (1, .int tp), (2, .int x_254), (3, .int x_266), (4, .int x_267), (5, .int x_318)]) hl [1, 2, 3, 4, 5, 0] rfl
                                have hP : va_P g.1 vwCl (List.flatten [bMo g o a th hi ac 0 ba en tA fl de iD iO tU fm fk fa fc ft ff fb fi_317]) H := hP
                                have hD : va_D A (List.flatten [bMo g o a th hi ac 0 ba en tA fl de iD iO tU fm fk fa fc ft ff fb fi_317]) := hD
                                exact ih147_290 x_318 fi_317 ⟨(Int.le_trans (by decide) hx_318.2.1), (Int.le_trans hx_318.2.2 (by decide))⟩ (zIn_n (x0 := x_284) (x1 := x_311) (x2 := x_314) i287 c310 (by omega) (by omega) rfl (by omega) (by omega) (zniff1 hq313_k c315) hvfi_317) hrfi_317 H _ ls (by omega)  hP hD hS (lv_sub hl [0, 1, 2, 3, 4, 5] rfl)
                              · skip
                                have c319 : (ft x_314.toNatClampNeg).toInt = 1 := zeq cb9 rfl (by decide)
                                have n320 : 1 ≤ (ft x_314.toNatClampNeg).toInt := Int.le_trans (Int.le_refl _) (Int.le_of_eq c319.symm)
                                have n321 : (ft x_314.toNatClampNeg).toInt ≤ 1 := Int.le_trans (Int.le_of_eq c319) (Int.le_refl _)
                                refine lv_iconst (v := 1) hx hb dX12_told_203 (by decide) ?_
                                refine lv_goto (tgt := 208) hx hb dX12_told_204 (by decide) ?_
                                refine lv_icmp_ne (tgt := 215) hx hb dX12_told_208 (by decide) (fun c322 => absurd (by decide) c322) (fun _ => ?_)
                                refine lv_iconst (v := 1) hx hb dX12_told_211 (by decide) ?_
                                refine lv_goto (tgt := 216) hx hb dX12_told_212 (by decide) ?_
                                refine va_zast hx hb hK hP hD hS 8 1 rfl rfl (zinK (a := 0) (b := 255) i270.1 n282 (by decide)) dX12_told_216 (fun H locs hP hD hS => ?_)
                                obtain ⟨fi_323, ⟨hvfi_323, hrfi_323⟩, hP, hD⟩ : ∃ fi_323 : Nat → Int32, (fi_323 x_267.toNatClampNeg = 1 ∧ zHr ft tp.toInt fi_323 x_267.toInt x_266.toInt) ∧ va_P g.1 vwCl (List.flatten [bMo g o a th hi ac 0 ba en tA fl de iD iO tU fm fk fa fc ft ff fb fi_323]) H ∧ va_D A (List.flatten [bMo g o a th hi ac 0 ba en tA fl de iD iO tU fm fk fa fc ft ff fb fi_323]) := ⟨upd fi_285 x_267.toNatClampNeg (vp_nar .boolean 1), ⟨(by unfold upd; rw [if_pos rfl]; first | rfl | decide), zHr_k i288 rfl⟩, hP, hD⟩
                                refine ziinc3 (n' := 3) (a' := 3) (b' := 38) (lv' := fun v9 => [(5, .int v9), (0, .ref o), (1, .int tp), (2, .int x_254), (3, .int x_266), (4, .int x_267)]) hx hb dX12_told_217 hl (k := 5) rfl (by decide) (fun _ => rfl) (zaddK (i := x_284.toInt) (j := 3) rfl (by decide) i286.1 n301 (Int.le_refl _) (Int.le_refl _) (by decide)) (fun x_324 ls hx_324 hl => ?_)
                                refine lv_goto (tgt := 147) hx hb dX12_told_220 (by decide) ?_
                                have hl := lv_sub (l' := [(0, .ref o), (1, .int tp), (2, .int x_254), (3, .int x_266), (4, .int x_267), (5, .int x_324)]) hl [1, 2, 3, 4, 5, 0] rfl
                                have hP : va_P g.1 vwCl (List.flatten [bMo g o a th hi ac 0 ba en tA fl de iD iO tU fm fk fa fc ft ff fb fi_323]) H := hP
                                have hD : va_D A (List.flatten [bMo g o a th hi ac 0 ba en tA fl de iD iO tU fm fk fa fc ft ff fb fi_323]) := hD
                                exact ih147_290 x_324 fi_323 ⟨(Int.le_trans (by decide) hx_324.2.1), (Int.le_trans hx_324.2.2 (by decide))⟩ (zIn_y (x0 := x_284) (x1 := x_311) (x2 := x_314) i287 c310 rfl (by omega) (by omega) (ziff1 hq313_k c319) hvfi_323 (by omega)) hrfi_323 H _ ls (by omega)  hP hD hS (lv_sub hl [0, 1, 2, 3, 4, 5] rfl)
                            · skip
                              refine lv_aload_n hx hb dX12_told_190 rfl (lv_at hl 0 rfl) ?_
                              refine va_get (D := g.1) (ci := 10) (v := .ref (a 4)) (C := RX12) (T := TX12) (N := 20) hx hb hts izRX12 hown hK hP 0 rfl rfl 7 (by decide) (hts _ k819) (fun _ h9 => h9) rfl dX12_told_191 ?_
                              refine lv_iload hx hb dX12_told_194 (lv_at hl 5 rfl) ?_
                              refine lv_iconst (v := 2) hx hb dX12_told_196 (by decide) ?_
                              refine lv_iadd hx hb dX12_told_197 ?_
                              refine zg3 (zaddK (i := x_284.toInt) (j := 2) (a' := 2) (b' := 37) rfl (by decide) i286.1 n301 (Int.le_refl _) (Int.le_refl _) (by decide)) (fun x_325 hx_325 => ?_)
                              refine va_iald hx hb hK hP 5 0 rfl rfl (zinK (a := 2) (b := 37) hx_325.2.1 hx_325.2.2 (by decide)) dX12_told_198 ?_
                              refine lv_iconst (v := 1) hx hb dX12_told_199 (by decide) ?_
                              refine lv_icmp_ne (tgt := 207) hx hb dX12_told_200 (by decide) (fun cb9 => ?_) (fun cb9 => ?_)
                              · skip
                                have c326 : ¬ (ft x_325.toNatClampNeg).toInt = 1 := zne cb9 rfl (by decide)
                                refine lv_iconst (v := 0) hx hb dX12_told_207 (by decide) ?_
                                refine lv_icmp_ne (tgt := 215) hx hb dX12_told_208 (by decide) (fun c327 => absurd (by decide) c327) (fun _ => ?_)
                                refine lv_iconst (v := 1) hx hb dX12_told_211 (by decide) ?_
                                refine lv_goto (tgt := 216) hx hb dX12_told_212 (by decide) ?_
                                refine va_zast hx hb hK hP hD hS 8 1 rfl rfl (zinK (a := 0) (b := 255) i270.1 n282 (by decide)) dX12_told_216 (fun H locs hP hD hS => ?_)
                                obtain ⟨fi_328, ⟨hvfi_328, hrfi_328⟩, hP, hD⟩ : ∃ fi_328 : Nat → Int32, (fi_328 x_267.toNatClampNeg = 1 ∧ zHr ft tp.toInt fi_328 x_267.toInt x_266.toInt) ∧ va_P g.1 vwCl (List.flatten [bMo g o a th hi ac 0 ba en tA fl de iD iO tU fm fk fa fc ft ff fb fi_328]) H ∧ va_D A (List.flatten [bMo g o a th hi ac 0 ba en tA fl de iD iO tU fm fk fa fc ft ff fb fi_328]) := ⟨upd fi_285 x_267.toNatClampNeg (vp_nar .boolean 1), ⟨(by unfold upd; rw [if_pos rfl]; first | rfl | decide), zHr_k i288 rfl⟩, hP, hD⟩
                                refine ziinc3 (n' := 3) (a' := 3) (b' := 38) (lv' := fun v9 => [(5, .int v9), (0, .ref o), (1, .int tp), (2, .int x_254), (3, .int x_266), (4, .int x_267)]) hx hb dX12_told_217 hl (k := 5) rfl (by decide) (fun _ => rfl) (zaddK (i := x_284.toInt) (j := 3) rfl (by decide) i286.1 n301 (Int.le_refl _) (Int.le_refl _) (by decide)) (fun x_329 ls hx_329 hl => ?_)
                                refine lv_goto (tgt := 147) hx hb dX12_told_220 (by decide) ?_
                                have hl := lv_sub (l' := [(0, .ref o), (1, .int tp), (2, .int x_254), (3, .int x_266), (4, .int x_267), (5, .int x_329)]) hl [1, 2, 3, 4, 5, 0] rfl
                                have hP : va_P g.1 vwCl (List.flatten [bMo g o a th hi ac 0 ba en tA fl de iD iO tU fm fk fa fc ft ff fb fi_328]) H := hP
                                have hD : va_D A (List.flatten [bMo g o a th hi ac 0 ba en tA fl de iD iO tU fm fk fa fc ft ff fb fi_328]) := hD
                                exact ih147_290 x_329 fi_328 ⟨(Int.le_trans (by decide) hx_329.2.1), (Int.le_trans hx_329.2.2 (by decide))⟩ (zIn_y (x0 := x_284) (x1 := x_311) (x2 := x_325) i287 c310 rfl (by omega) (by omega) (ziff0 hq313_k c326) hvfi_328 (by omega)) hrfi_328 H _ ls (by omega)  hP hD hS (lv_sub hl [0, 1, 2, 3, 4, 5] rfl)
                              · skip
                                have c330 : (ft x_325.toNatClampNeg).toInt = 1 := zeq cb9 rfl (by decide)
                                have n331 : 1 ≤ (ft x_325.toNatClampNeg).toInt := Int.le_trans (Int.le_refl _) (Int.le_of_eq c330.symm)
                                have n332 : (ft x_325.toNatClampNeg).toInt ≤ 1 := Int.le_trans (Int.le_of_eq c330) (Int.le_refl _)
                                refine lv_iconst (v := 1) hx hb dX12_told_203 (by decide) ?_
                                refine lv_goto (tgt := 208) hx hb dX12_told_204 (by decide) ?_
                                refine lv_icmp_ne (tgt := 215) hx hb dX12_told_208 (by decide) (fun _ => ?_) (fun c333 => absurd c333 (by decide))
                                refine lv_iconst (v := 0) hx hb dX12_told_215 (by decide) ?_
                                refine va_zast hx hb hK hP hD hS 8 1 rfl rfl (zinK (a := 0) (b := 255) i270.1 n282 (by decide)) dX12_told_216 (fun H locs hP hD hS => ?_)
                                obtain ⟨fi_334, ⟨hvfi_334, hrfi_334⟩, hP, hD⟩ : ∃ fi_334 : Nat → Int32, (fi_334 x_267.toNatClampNeg = 0 ∧ zHr ft tp.toInt fi_334 x_267.toInt x_266.toInt) ∧ va_P g.1 vwCl (List.flatten [bMo g o a th hi ac 0 ba en tA fl de iD iO tU fm fk fa fc ft ff fb fi_334]) H ∧ va_D A (List.flatten [bMo g o a th hi ac 0 ba en tA fl de iD iO tU fm fk fa fc ft ff fb fi_334]) := ⟨upd fi_285 x_267.toNatClampNeg (vp_nar .boolean 0), ⟨(by unfold upd; rw [if_pos rfl]; first | rfl | decide), zHr_k i288 rfl⟩, hP, hD⟩
                                refine ziinc3 (n' := 3) (a' := 3) (b' := 38) (lv' := fun v9 => [(5, .int v9), (0, .ref o), (1, .int tp), (2, .int x_254), (3, .int x_266), (4, .int x_267)]) hx hb dX12_told_217 hl (k := 5) rfl (by decide) (fun _ => rfl) (zaddK (i := x_284.toInt) (j := 3) rfl (by decide) i286.1 n301 (Int.le_refl _) (Int.le_refl _) (by decide)) (fun x_335 ls hx_335 hl => ?_)
                                refine lv_goto (tgt := 147) hx hb dX12_told_220 (by decide) ?_
                                have hl := lv_sub (l' := [(0, .ref o), (1, .int tp), (2, .int x_254), (3, .int x_266), (4, .int x_267), (5, .int x_335)]) hl [1, 2, 3, 4, 5, 0] rfl
                                have hP : va_P g.1 vwCl (List.flatten [bMo g o a th hi ac 0 ba en tA fl de iD iO tU fm fk fa fc ft ff fb fi_334]) H := hP
                                have hD : va_D A (List.flatten [bMo g o a th hi ac 0 ba en tA fl de iD iO tU fm fk fa fc ft ff fb fi_334]) := hD
                                exact ih147_290 x_335 fi_334 ⟨(Int.le_trans (by decide) hx_335.2.1), (Int.le_trans hx_335.2.2 (by decide))⟩ (zIn_n (x0 := x_284) (x1 := x_311) (x2 := x_325) i287 c310 (by omega) (by omega) rfl (by omega) (by omega) (zniff0 hq313_k c330) hvfi_334) hrfi_334 H _ ls (by omega)  hP hD hS (lv_sub hl [0, 1, 2, 3, 4, 5] rfl)
                    have hL0 : (0 : Int32).toInt = 0 := by decide
                    have hP : va_P g.1 vwCl (List.flatten [bMo g o a th hi ac 0 ba en tA fl de iD iO tU fm fk fa fc ft ff fb fi_283]) H := hP
                    have hD : va_D A (List.flatten [bMo g o a th hi ac 0 ba en tA fl de iD iO tU fm fk fa fc ft ff fb fi_283]) := hD
                    exact LP147_289 _ 0 fi_283 (by decide) (zIn_0 hvfi_283 (by decide)) hrfi_283 H _ ls (Nat.lt_succ_self _)  hP hD hS (lv_sub hl [0, 1, 2, 3, 4, 5] rfl)
              have hL0 : (0 : Int32).toInt = 0 := by decide
              have hP : va_P g.1 vwCl (List.flatten [bMo g o a th hi ac 0 ba en tA fl de iD iO tU fm fk fa fc ft ff fb fi]) H := hP
              have hD : va_D A (List.flatten [bMo g o a th hi ac 0 ba en tA fl de iD iO tU fm fk fa fc ft ff fb fi]) := hD
              exact LP123_274 _ 0 0 fi (by decide) (by decide) (zHr_0 (by decide) (by decide)) (by first | omega | assumption | decide) (by first | omega | assumption | exact Int.natCast_nonneg _ | decide) H _ ls (Nat.lt_succ_self _)  hP hD hS (lv_sub hl [0, 1, 2, 3, 4] rfl)
            · skip
              have c336 : x_254.toInt = 0 := zeq cb9 rfl (by decide)
              have n337 : x_254.toInt ≤ 0 := Int.le_trans (Int.le_of_eq c336) (Int.le_refl _)
              refine lv_iconst (v := (-1)) hx hb dX12_told_116 (by decide) ?_
              have hLn1 : ((-1) : Int32).toInt = (-1) := by decide
              have hP : va_P g.1 vwCl (List.flatten [bMo g o a th hi ac 0 ba en tA fl de iD iO tU fm fk fa fc ft ff fb fi]) H := hP
              have hD : va_D A (List.flatten [bMo g o a th hi ac 0 ba en tA fl de iD iO tU fm fk fa fc ft ff fb fi]) := hD
              exact mret_i hx hb hr hlocks hS (Nat.le_of_ble_eq_true rfl) (Nat.le_of_ble_eq_true rfl) dX12_told_117 (fi, -1) rfl (show (((0 ≤ ((-1) : Int32).toInt ∧ ((-1) : Int32).toInt ≤ 256) ∧ zSaid ft tp.toInt (fm 3).toInt ∧ zHr ft tp.toInt fi ((2 ^ (fm 3).toInt.toNat : Nat) : Int) ((-1) : Int32).toInt) ∨ (-1) = (-1) ∧ ¬ zSaid ft tp.toInt (fm 3).toInt) from (Or.inr ⟨rfl, (zSg_en i258 (by omega))⟩)) hP hD
          · skip
            have c338 : x_255.toInt < tp.toInt := zlti (Int32.not_le.mp cb9) rfl rfl
            have n339 : x_255.toInt ≤ 35 := zL1 (b := 36) c338 n253 (by decide)
            have n340 : 1 ≤ tp.toInt := zL2 (a := 0) c338 i257.1 (by decide)
            refine lv_iload_n hx hb dX12_told_35 rfl (lv_at hl 2 rfl) ?_
            refine lv_if_eq (tgt := 112) hx hb dX12_told_36 (by decide) (fun cb9 => ?_) (fun cb9 => ?_)
            · skip
              have c341 : x_254.toInt = 0 := zeq cb9 rfl (by decide)
              have n342 : x_254.toInt ≤ 0 := Int.le_trans (Int.le_of_eq c341) (Int.le_refl _)
              refine lv_iload_n hx hb dX12_told_112 rfl (lv_at hl 2 rfl) ?_
              refine lv_if_ne (tgt := 118) hx hb dX12_told_113 (by decide) (fun cb9 => ?_) (fun cb9 => ?_)
              · skip
                exact absurd (show ¬ x_254.toInt = 0 from zne cb9 rfl (by decide)) (by omega)
              · skip
                have c344 : x_254.toInt = 0 := zeq cb9 rfl (by decide)
                refine lv_iconst (v := (-1)) hx hb dX12_told_116 (by decide) ?_
                have hLn1 : ((-1) : Int32).toInt = (-1) := by decide
                have hP : va_P g.1 vwCl (List.flatten [bMo g o a th hi ac 0 ba en tA fl de iD iO tU fm fk fa fc ft ff fb fi]) H := hP
                have hD : va_D A (List.flatten [bMo g o a th hi ac 0 ba en tA fl de iD iO tU fm fk fa fc ft ff fb fi]) := hD
                exact mret_i hx hb hr hlocks hS (Nat.le_of_ble_eq_true rfl) (Nat.le_of_ble_eq_true rfl) dX12_told_117 (fi, -1) rfl (show (((0 ≤ ((-1) : Int32).toInt ∧ ((-1) : Int32).toInt ≤ 256) ∧ zSaid ft tp.toInt (fm 3).toInt ∧ zHr ft tp.toInt fi ((2 ^ (fm 3).toInt.toNat : Nat) : Int) ((-1) : Int32).toInt) ∨ (-1) = (-1) ∧ ¬ zSaid ft tp.toInt (fm 3).toInt) from (Or.inr ⟨rfl, (zSg_en i258 (by omega))⟩)) hP hD
            · skip
              have c345 : ¬ x_254.toInt = 0 := zne cb9 rfl (by decide)
              have n346 : 1 ≤ x_254.toInt := zN1 c345 i256.1 (by decide)
              obtain ⟨w347, w348, w349⟩ := zSg_i i258 (by omega)
              have w350 := w349.1
              refine lv_aload_n hx hb dX12_told_39 rfl (lv_at hl 0 rfl) ?_
              refine va_get (D := g.1) (ci := 10) (v := .ref (a 4)) (C := RX12) (T := TX12) (N := 20) hx hb hts izRX12 hown hK hP 0 rfl rfl 7 (by decide) (hts _ k819) (fun _ h9 => h9) rfl dX12_told_40 ?_
              refine lv_iload_n hx hb dX12_told_43 rfl (lv_at hl 3 rfl) ?_
              refine va_iald hx hb hK hP 5 0 rfl rfl (zinK (a := 0) (b := 35) i257.1 n339 (by decide)) dX12_told_44 ?_
              refine lv_aload_n hx hb dX12_told_45 rfl (lv_at hl 0 rfl) ?_
              refine va_get (D := g.1) (ci := 10) (v := .ref (a 0)) (C := RX12) (T := TX12) (N := 20) hx hb hts izRX12 hown hK hP 0 rfl rfl 1 (by decide) (hts _ k815) (fun _ h9 => h9) rfl dX12_told_46 ?_
              refine lv_iconst (v := 3) hx hb dX12_told_49 (by decide) ?_
              refine va_iald hx hb hK hP 1 0 rfl rfl (zin rfl) dX12_told_50 ?_
              refine zgq (r := fm 3) rfl (rM3 rfm) (fun x_351 hx_351 => ?_)
              refine lv_icmp_ge (tgt := 104) hx hb dX12_told_51 (by decide) (fun cb9 => ?_) (fun cb9 => ?_)
              · skip
                have c352 : x_351.toInt ≤ (ft x_255.toNatClampNeg).toInt := zle cb9 rfl rfl
                have n353 : 0 ≤ (ft x_255.toNatClampNeg).toInt := Int.le_trans hx_351.1 c352
                refine lv_iconst (v := 0) hx hb dX12_told_104 (by decide) ?_
                refine lv_istore_n (lv' := [(2, .int 0), (0, .ref o), (1, .int tp), (3, .int x_255)]) hx hb dX12_told_105 rfl hl (by decide) rfl (fun ls hl => ?_)
                refine ziinc3 (n' := 3) (a' := 3) (b' := 38) (lv' := fun v9 => [(3, .int v9), (2, .int 0), (0, .ref o), (1, .int tp)]) hx hb dX12_told_106 hl (k := 3) rfl (by decide) (fun _ => rfl) (zaddK (i := x_255.toInt) (j := 3) rfl (by decide) i257.1 n339 (Int.le_refl _) (Int.le_refl _) (by decide)) (fun x_354 ls hx_354 hl => ?_)
                refine lv_goto (tgt := 30) hx hb dX12_told_109 (by decide) ?_
                have hl := lv_sub (l' := [(0, .ref o), (1, .int tp), (2, .int 0), (3, .int x_354)]) hl [2, 3, 1, 0] rfl
                have hL0 : (0 : Int32).toInt = 0 := by decide
                have hP : va_P g.1 vwCl (List.flatten [bMo g o a th hi ac 0 ba en tA fl de iD iO tU fm fk fa fc ft ff fb fi]) H := hP
                have hD : va_D A (List.flatten [bMo g o a th hi ac 0 ba en tA fl de iD iO tU fm fk fa fc ft ff fb fi]) := hD
                exact ih30_260 0 x_354 (by decide) ⟨(Int.le_trans (by decide) hx_354.2.1), (Int.le_trans hx_354.2.2 (by decide))⟩ (zSg_x1 (x := x_255) i258 (by omega) (by omega) (by decide) (by omega) (by omega)) H _ ls (by omega)  hP hD hS (lv_sub hl [0, 1, 2, 3] rfl)
              · skip
                have c355 : (ft x_255.toNatClampNeg).toInt < x_351.toInt := zlti (Int32.not_le.mp cb9) rfl rfl
                have n356 : (ft x_255.toNatClampNeg).toInt ≤ 7 := zL1 (b := 8) c355 hx_351.2.1 (by decide)
                refine lv_aload_n hx hb dX12_told_54 rfl (lv_at hl 0 rfl) ?_
                refine va_get (D := g.1) (ci := 10) (v := .ref (a 4)) (C := RX12) (T := TX12) (N := 20) hx hb hts izRX12 hown hK hP 0 rfl rfl 7 (by decide) (hts _ k819) (fun _ h9 => h9) rfl dX12_told_55 ?_
                refine lv_iload_n hx hb dX12_told_58 rfl (lv_at hl 3 rfl) ?_
                refine lv_iconst (v := 1) hx hb dX12_told_59 (by decide) ?_
                refine lv_iadd hx hb dX12_told_60 ?_
                refine zg3 (zaddK (i := x_255.toInt) (j := 1) (a' := 1) (b' := 36) rfl (by decide) i257.1 n339 (Int.le_refl _) (Int.le_refl _) (by decide)) (fun x_357 hx_357 => ?_)
                refine va_iald hx hb hK hP 5 0 rfl rfl (zinK (a := 1) (b := 36) hx_357.2.1 hx_357.2.2 (by decide)) dX12_told_61 ?_
                refine lv_aload_n hx hb dX12_told_62 rfl (lv_at hl 0 rfl) ?_
                refine va_get (D := g.1) (ci := 10) (v := .ref (a 0)) (C := RX12) (T := TX12) (N := 20) hx hb hts izRX12 hown hK hP 0 rfl rfl 1 (by decide) (hts _ k815) (fun _ h9 => h9) rfl dX12_told_63 ?_
                refine lv_iconst (v := 3) hx hb dX12_told_66 (by decide) ?_
                refine va_iald hx hb hK hP 1 0 rfl rfl (zin rfl) dX12_told_67 ?_
                refine zgq (r := fm 3) rfl (rM3 rfm) (fun x_358 hx_358 => ?_)
                refine lv_icmp_ge (tgt := 104) hx hb dX12_told_68 (by decide) (fun cb9 => ?_) (fun cb9 => ?_)
                · skip
                  have c359 : x_358.toInt ≤ (ft x_357.toNatClampNeg).toInt := zle cb9 rfl rfl
                  have n360 : 0 ≤ (ft x_357.toNatClampNeg).toInt := Int.le_trans hx_358.1 c359
                  refine lv_iconst (v := 0) hx hb dX12_told_104 (by decide) ?_
                  refine lv_istore_n (lv' := [(2, .int 0), (0, .ref o), (1, .int tp), (3, .int x_255)]) hx hb dX12_told_105 rfl hl (by decide) rfl (fun ls hl => ?_)
                  refine ziinc3 (n' := 3) (a' := 3) (b' := 38) (lv' := fun v9 => [(3, .int v9), (2, .int 0), (0, .ref o), (1, .int tp)]) hx hb dX12_told_106 hl (k := 3) rfl (by decide) (fun _ => rfl) (zaddK (i := x_255.toInt) (j := 3) rfl (by decide) i257.1 n339 (Int.le_refl _) (Int.le_refl _) (by decide)) (fun x_361 ls hx_361 hl => ?_)
                  refine lv_goto (tgt := 30) hx hb dX12_told_109 (by decide) ?_
                  have hl := lv_sub (l' := [(0, .ref o), (1, .int tp), (2, .int 0), (3, .int x_361)]) hl [2, 3, 1, 0] rfl
                  have hL0 : (0 : Int32).toInt = 0 := by decide
                  have hP : va_P g.1 vwCl (List.flatten [bMo g o a th hi ac 0 ba en tA fl de iD iO tU fm fk fa fc ft ff fb fi]) H := hP
                  have hD : va_D A (List.flatten [bMo g o a th hi ac 0 ba en tA fl de iD iO tU fm fk fa fc ft ff fb fi]) := hD
                  exact ih30_260 0 x_361 (by decide) ⟨(Int.le_trans (by decide) hx_361.2.1), (Int.le_trans hx_361.2.2 (by decide))⟩ (zSg_x2 (x := x_357) i258 (by omega) (by omega) (by decide) (by omega) (by omega)) H _ ls (by omega)  hP hD hS (lv_sub hl [0, 1, 2, 3] rfl)
                · skip
                  have c362 : (ft x_357.toNatClampNeg).toInt < x_358.toInt := zlti (Int32.not_le.mp cb9) rfl rfl
                  have n363 : (ft x_357.toNatClampNeg).toInt ≤ 7 := zL1 (b := 8) c362 hx_358.2.1 (by decide)
                  refine lv_aload_n hx hb dX12_told_71 rfl (lv_at hl 0 rfl) ?_
                  refine va_get (D := g.1) (ci := 10) (v := .ref (a 4)) (C := RX12) (T := TX12) (N := 20) hx hb hts izRX12 hown hK hP 0 rfl rfl 7 (by decide) (hts _ k819) (fun _ h9 => h9) rfl dX12_told_72 ?_
                  refine lv_iload_n hx hb dX12_told_75 rfl (lv_at hl 3 rfl) ?_
                  refine va_iald hx hb hK hP 5 0 rfl rfl (zinK (a := 0) (b := 35) i257.1 n339 (by decide)) dX12_told_76 ?_
                  refine lv_aload_n hx hb dX12_told_77 rfl (lv_at hl 0 rfl) ?_
                  refine va_get (D := g.1) (ci := 10) (v := .ref (a 4)) (C := RX12) (T := TX12) (N := 20) hx hb hts izRX12 hown hK hP 0 rfl rfl 7 (by decide) (hts _ k819) (fun _ h9 => h9) rfl dX12_told_78 ?_
                  refine lv_iload_n hx hb dX12_told_81 rfl (lv_at hl 3 rfl) ?_
                  refine lv_iconst (v := 1) hx hb dX12_told_82 (by decide) ?_
                  refine lv_iadd hx hb dX12_told_83 ?_
                  refine zg3 (zaddK (i := x_255.toInt) (j := 1) (a' := 1) (b' := 36) rfl (by decide) i257.1 n339 (Int.le_refl _) (Int.le_refl _) (by decide)) (fun x_364 hx_364 => ?_)
                  refine va_iald hx hb hK hP 5 0 rfl rfl (zinK (a := 1) (b := 36) hx_364.2.1 hx_364.2.2 (by decide)) dX12_told_84 ?_
                  refine lv_icmp_eq (tgt := 104) hx hb dX12_told_85 (by decide) (fun cb9 => ?_) (fun cb9 => ?_)
                  · skip
                    have c365 : (ft x_255.toNatClampNeg).toInt = (ft x_364.toNatClampNeg).toInt := zeq cb9 rfl rfl
                    have n366 : (ft x_364.toNatClampNeg).toInt ≤ 7 := Int.le_trans (Int.le_of_eq c365.symm) n356
                    refine lv_iconst (v := 0) hx hb dX12_told_104 (by decide) ?_
                    refine lv_istore_n (lv' := [(2, .int 0), (0, .ref o), (1, .int tp), (3, .int x_255)]) hx hb dX12_told_105 rfl hl (by decide) rfl (fun ls hl => ?_)
                    refine ziinc3 (n' := 3) (a' := 3) (b' := 38) (lv' := fun v9 => [(3, .int v9), (2, .int 0), (0, .ref o), (1, .int tp)]) hx hb dX12_told_106 hl (k := 3) rfl (by decide) (fun _ => rfl) (zaddK (i := x_255.toInt) (j := 3) rfl (by decide) i257.1 n339 (Int.le_refl _) (Int.le_refl _) (by decide)) (fun x_367 ls hx_367 hl => ?_)
                    refine lv_goto (tgt := 30) hx hb dX12_told_109 (by decide) ?_
                    have hl := lv_sub (l' := [(0, .ref o), (1, .int tp), (2, .int 0), (3, .int x_367)]) hl [2, 3, 1, 0] rfl
                    have hL0 : (0 : Int32).toInt = 0 := by decide
                    have hP : va_P g.1 vwCl (List.flatten [bMo g o a th hi ac 0 ba en tA fl de iD iO tU fm fk fa fc ft ff fb fi]) H := hP
                    have hD : va_D A (List.flatten [bMo g o a th hi ac 0 ba en tA fl de iD iO tU fm fk fa fc ft ff fb fi]) := hD
                    exact ih30_260 0 x_367 (by decide) ⟨(Int.le_trans (by decide) hx_367.2.1), (Int.le_trans hx_367.2.2 (by decide))⟩ (zSg_x3 (x := x_255) (y := x_364) i258 (by omega) (by omega) (by decide) (by omega) (by omega) (by omega)) H _ ls (by omega)  hP hD hS (lv_sub hl [0, 1, 2, 3] rfl)
                  · skip
                    have c368 : ¬ (ft x_255.toNatClampNeg).toInt = (ft x_364.toNatClampNeg).toInt := zne cb9 rfl rfl
                    refine lv_aload_n hx hb dX12_told_88 rfl (lv_at hl 0 rfl) ?_
                    refine va_get (D := g.1) (ci := 10) (v := .ref (a 4)) (C := RX12) (T := TX12) (N := 20) hx hb hts izRX12 hown hK hP 0 rfl rfl 7 (by decide) (hts _ k819) (fun _ h9 => h9) rfl dX12_told_89 ?_
                    refine lv_iload_n hx hb dX12_told_92 rfl (lv_at hl 3 rfl) ?_
                    refine lv_iconst (v := 2) hx hb dX12_told_93 (by decide) ?_
                    refine lv_iadd hx hb dX12_told_94 ?_
                    refine zg3 (zaddK (i := x_255.toInt) (j := 2) (a' := 2) (b' := 37) rfl (by decide) i257.1 n339 (Int.le_refl _) (Int.le_refl _) (by decide)) (fun x_369 hx_369 => ?_)
                    refine va_iald hx hb hK hP 5 0 rfl rfl (zinK (a := 2) (b := 37) hx_369.2.1 hx_369.2.2 (by decide)) dX12_told_95 ?_
                    refine lv_iconst (v := 2) hx hb dX12_told_96 (by decide) ?_
                    refine lv_icmp_ge (tgt := 104) hx hb dX12_told_97 (by decide) (fun cb9 => ?_) (fun cb9 => ?_)
                    · skip
                      have c370 : 2 ≤ (ft x_369.toNatClampNeg).toInt := zle cb9 (by decide) rfl
                      have n371 : 2 ≤ (ft x_369.toNatClampNeg).toInt := Int.le_trans (Int.le_refl _) c370
                      refine lv_iconst (v := 0) hx hb dX12_told_104 (by decide) ?_
                      refine lv_istore_n (lv' := [(2, .int 0), (0, .ref o), (1, .int tp), (3, .int x_255)]) hx hb dX12_told_105 rfl hl (by decide) rfl (fun ls hl => ?_)
                      refine ziinc3 (n' := 3) (a' := 3) (b' := 38) (lv' := fun v9 => [(3, .int v9), (2, .int 0), (0, .ref o), (1, .int tp)]) hx hb dX12_told_106 hl (k := 3) rfl (by decide) (fun _ => rfl) (zaddK (i := x_255.toInt) (j := 3) rfl (by decide) i257.1 n339 (Int.le_refl _) (Int.le_refl _) (by decide)) (fun x_372 ls hx_372 hl => ?_)
                      refine lv_goto (tgt := 30) hx hb dX12_told_109 (by decide) ?_
                      have hl := lv_sub (l' := [(0, .ref o), (1, .int tp), (2, .int 0), (3, .int x_372)]) hl [2, 3, 1, 0] rfl
                      have hL0 : (0 : Int32).toInt = 0 := by decide
                      have hP : va_P g.1 vwCl (List.flatten [bMo g o a th hi ac 0 ba en tA fl de iD iO tU fm fk fa fc ft ff fb fi]) H := hP
                      have hD : va_D A (List.flatten [bMo g o a th hi ac 0 ba en tA fl de iD iO tU fm fk fa fc ft ff fb fi]) := hD
                      exact ih30_260 0 x_372 (by decide) ⟨(Int.le_trans (by decide) hx_372.2.1), (Int.le_trans hx_372.2.2 (by decide))⟩ (zSg_x4 (x := x_369) i258 (by omega) (by omega) (by decide) (by omega) (by omega)) H _ ls (by omega)  hP hD hS (lv_sub hl [0, 1, 2, 3] rfl)
                    · skip
                      have c373 : (ft x_369.toNatClampNeg).toInt < 2 := zlti (Int32.not_le.mp cb9) rfl (by decide)
                      have n374 : (ft x_369.toNatClampNeg).toInt ≤ 1 := zL1 (b := 2) c373 (Int.le_refl _) (by decide)
                      refine lv_iconst (v := 1) hx hb dX12_told_100 (by decide) ?_
                      refine lv_goto (tgt := 105) hx hb dX12_told_101 (by decide) ?_
                      refine lv_istore_n (lv' := [(2, .int 1), (0, .ref o), (1, .int tp), (3, .int x_255)]) hx hb dX12_told_105 rfl hl (by decide) rfl (fun ls hl => ?_)
                      refine ziinc3 (n' := 3) (a' := 3) (b' := 38) (lv' := fun v9 => [(3, .int v9), (2, .int 1), (0, .ref o), (1, .int tp)]) hx hb dX12_told_106 hl (k := 3) rfl (by decide) (fun _ => rfl) (zaddK (i := x_255.toInt) (j := 3) rfl (by decide) i257.1 n339 (Int.le_refl _) (Int.le_refl _) (by decide)) (fun x_375 ls hx_375 hl => ?_)
                      refine lv_goto (tgt := 30) hx hb dX12_told_109 (by decide) ?_
                      have hl := lv_sub (l' := [(0, .ref o), (1, .int tp), (2, .int 1), (3, .int x_375)]) hl [2, 3, 1, 0] rfl
                      have hL1 : (1 : Int32).toInt = 1 := by decide
                      have hP : va_P g.1 vwCl (List.flatten [bMo g o a th hi ac 0 ba en tA fl de iD iO tU fm fk fa fc ft ff fb fi]) H := hP
                      have hD : va_D A (List.flatten [bMo g o a th hi ac 0 ba en tA fl de iD iO tU fm fk fa fc ft ff fb fi]) := hD
                      exact ih30_260 1 x_375 (by decide) ⟨(Int.le_trans (by decide) hx_375.2.1), (Int.le_trans hx_375.2.2 (by decide))⟩ (zSg_s (x0 := x_255) (x1 := x_357) (y0 := x_255) (y1 := x_364) (x2 := x_369) i258 (by omega) (by omega) (by omega) (by omega) (by omega) (by omega) (by omega) (by omega) (by omega) (by omega) (by omega) (by decide)) H _ ls (by omega)  hP hD hS (lv_sub hl [0, 1, 2, 3] rfl)
      have hL1 : (1 : Int32).toInt = 1 := by decide
      have hL0 : (0 : Int32).toInt = 0 := by decide
      have hP : va_P g.1 vwCl (List.flatten [bMo g o a th hi ac 0 ba en tA fl de iD iO tU fm fk fa fc ft ff fb fi]) H := hP
      have hD : va_D A (List.flatten [bMo g o a th hi ac 0 ba en tA fl de iD iO tU fm fk fa fc ft ff fb fi]) := hD
      exact LP30_259 _ 1 0 (by decide) (by decide) (zSg_1 (by decide) (by omega) (by omega) (by decide)) H _ ls (Nat.lt_succ_self _)  hP hD hS (lv_sub hl [0, 1, 2, 3] rfl)
