theorem zrMi : rM (upd (upd (upd (upd (upd (fun _ => 0) 1 (-1)) 5 20) 6 6) 7 50) 10 1) := by unfold rM; decide
theorem zTg0 {o : Nat} {a : Nat → Nat} {tx ch jo tr dy sd : Int32} : zTg (o, a, 0, 0, tx, ch, jo, tr, dy, sd, fun _ _ => 0) := ⟨(show 0 ≤ (0 : Int32).toInt ∧ (0 : Int32).toInt ≤ 8 by decide), (show 0 ≤ (0 : Int32).toInt ∧ (0 : Int32).toInt ≤ 6 by decide), zZ0⟩
theorem zLg0 {o a : Nat} : zLg (o, a, 0, 0, fun _ => 0) := ⟨(show 0 ≤ (0 : Int32).toInt ∧ (0 : Int32).toInt ≤ 60 by decide), (show 0 ≤ (0 : Int32).toInt ∧ (0 : Int32).toInt ≤ 59 by decide)⟩
theorem zmk_e (As Bs Cs : List va_W) : List.flatten (As ++ (Bs ++ Cs)) = List.flatten (As ++ [Bs.flatten, Cs.flatten]) := by simp
theorem z12 {i : Nat} {p : Nat → Prop} (hi : i < 12) (h0 : p 0) (h1 : p 1) (h2 : p 2) (h3 : p 3) (h4 : p 4) (h5 : p 5) (h6 : p 6) (h7 : p 7) (h8 : p 8) (h9 : p 9) (h10 : p 10) (h11 : p 11) : p i := by
  rcases (show i = 0 ∨ i = 1 ∨ i = 2 ∨ i = 3 ∨ i = 4 ∨ i = 5 ∨ i = 6 ∨ i = 7 ∨ i = 8 ∨ i = 9 ∨ i = 10 ∨ i = 11 by omega) with rfl | rfl | rfl | rfl | rfl | rfl | rfl | rfl | rfl | rfl | rfl | rfl <;> assumption
set_option maxRecDepth 100000 in
set_option maxHeartbeats 4000000 in
/-- new Tape() -/
theorem c_Tape_init (l : Launch) (g : zG) (o : Nat)  : zM' g l yX6_init (Cond.code yX6_init cX6_init 1 none :: zB) ({ frames := 1, cells := 1, slots := 400, locals := 13 } : Room) [.ref o] [[(o, .inr (6, [.null, .int 0, .int 0, .int 0, .int 0, .int 0, .int 0]))]] (fun (ab : Nat) => none) (fun (ab : Nat) => True) (fun (ab : Nat) => [bTape g o ab 0 0 0 0 0 (-1) (fun _ => 0)]) := by
  refine zM'.of (cc := cX6_init) (maxL := 1) (rt := none) (by decide) rfl (Nat.le_of_ble_eq_true rfl) ?_
  intro p e s m args below meth c A ls St hr hlocks hin hK hT hA hP hD hS hl
  obtain ⟨hx, hb, hml, hown, hts⟩ := id St
  have hl : lv_has ls 1 [(0, .ref o)] := hl
  refine lv_aload_n hx hb dX6_init_0 rfl (lv_at hl 0 rfl) ?_
  refine W.objInit hx hb hown (hts (.methodLink RX6 3 objectInit) k421) (hts (.instanceMethod objectInit) k2) (hts (.code objectInit ⟨#[0xb1]⟩ 1 none) k3) rfl (by rw [hml]; exact hl.1) rfl dX6_init_1 (Nat.le_of_ble_eq_true rfl) (Nat.le_of_ble_eq_true rfl) ?_
  refine W.eq (g2 := F0 m 4 ls []) rfl ?_
  refine lv_aload_n hx hb dX6_init_4 rfl (lv_at hl 0 rfl) ?_
  refine lv_sipush (v := 400) hx hb dX6_init_5 (by decide) ?_
  refine znewa (g := g) (atype := .int) (a0 := (400, .inl (fun _ => 0))) (N' := 400) hx hb (hts _ k8) rfl 0 _ rfl (fun _ _ h => h) hK hP hD hS hA (fun _ => rfl) (by decide) (by decide) (Nat.le_of_ble_eq_true rfl) (Nat.le_of_ble_eq_true rfl) (Nat.le_of_ble_eq_true rfl) dX6_init_8 (fun q1 H hP hD hS => ?_)
  have hP : va_P g.1 vwCl (List.flatten [[(o, .inr (6, [.null, .int 0, .int 0, .int 0, .int 0, .int 0, .int 0]))], [(q1, .inl (g.2 0, 400, .inl (fun _ => 0)))]]) H := hP
  have hD : va_D A (List.flatten [[(o, .inr (6, [.null, .int 0, .int 0, .int 0, .int 0, .int 0, .int 0]))], [(q1, .inl (g.2 0, 400, .inl (fun _ => 0)))]]) := hD
  refine W.widen (k := 1) (n := 400) (Nat.le_of_ble_eq_true rfl) (Nat.le_of_ble_eq_true rfl) ?_
  refine va_putF (D := g.1) (ci := 6) (v := .ref q1) (ty := tyX6 0) (C := RX6) (T := TX6) (N := 7) hx hb hts izRX6 tyX6 tyX6_ok nmX6 hown hK hP hD hS 0 rfl rfl 0 (by decide) (hts _ k261) (fun _ h9 => h9) rfl hin rfl (by decide +kernel) rfl rfl (Nat.le_of_ble_eq_true rfl) dX6_init_10 (fun H locs hP hD hS => ?_)
  have hP : va_P g.1 vwCl (List.flatten [[(o, .inr (6, [.ref q1, .int 0, .int 0, .int 0, .int 0, .int 0, .int 0]))], [(q1, .inl (g.2 0, 400, .inl (fun _ => 0)))]]) H := hP
  have hD : va_D A (List.flatten [[(o, .inr (6, [.ref q1, .int 0, .int 0, .int 0, .int 0, .int 0, .int 0]))], [(q1, .inl (g.2 0, 400, .inl (fun _ => 0)))]]) := hD
  refine lv_aload_n hx hb dX6_init_13 rfl (lv_at hl 0 rfl) ?_
  refine lv_iconst (v := (-1)) hx hb dX6_init_14 (by decide) ?_
  refine va_put (D := g.1) (ci := 6) (v := .int (-1)) (ty := .int) (C := RX6) (T := TX6) (N := 7) hx hb hts izRX6 tyX6 tyX6_ok nmX6 hown hK hP hD hS 0 rfl rfl 6 (by decide) (hts _ k270) (fun _ h9 => h9) rfl (by decide +kernel) rfl rfl (Nat.le_of_ble_eq_true rfl) dX6_init_15 (fun H locs hP hD hS => ?_)
  have hP : va_P g.1 vwCl (List.flatten [[(o, .inr (6, [.ref q1, .int 0, .int 0, .int 0, .int 0, .int 0, .int (-1)]))], [(q1, .inl (g.2 0, 400, .inl (fun _ => 0)))]]) H := hP
  have hD : va_D A (List.flatten [[(o, .inr (6, [.ref q1, .int 0, .int 0, .int 0, .int 0, .int 0, .int (-1)]))], [(q1, .inl (g.2 0, 400, .inl (fun _ => 0)))]]) := hD
  have hP : va_P g.1 vwCl (List.flatten [[(o, .inr (6, [.ref q1, .int 0, .int 0, .int 0, .int 0, .int 0, .int (-1)]))], [(q1, .inl (g.2 0, 400, .inl (fun _ => 0)))]]) H := hP
  have hD : va_D A (List.flatten [[(o, .inr (6, [.ref q1, .int 0, .int 0, .int 0, .int 0, .int 0, .int (-1)]))], [(q1, .inl (g.2 0, 400, .inl (fun _ => 0)))]]) := hD
  have hP : va_P g.1 vwCl (List.flatten [bTape g o q1 0 0 0 0 0 (-1) (fun _ => 0)]) H := hP
  have hD : va_D A (List.flatten [bTape g o q1 0 0 0 0 0 (-1) (fun _ => 0)]) := hD
  exact mret_v hx hb hr hlocks hS (Nat.le_of_ble_eq_true rfl) (Nat.le_of_ble_eq_true rfl) dX6_init_18 (q1) rfl trivial hP hD
